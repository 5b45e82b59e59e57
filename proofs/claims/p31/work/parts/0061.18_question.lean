theorem dg_X5_answer_0_14 : bqL cX5_answer 0 [(14, [55, 4]), (16, [3]), (17, [54, 6]), (19, [21, 6]), (21, [43]), (22, [180, 0, 94]), (25, [162, 0, 53]), (78, [22, 4]), (80, [173]), (28, [21, 6]), (30, [45]), (31, [190]), (32, [162, 0, 46]), (35, [42]), (36, [43]), (37, [44]), (38, [21, 6]), (40, [45]), (41, [21, 6]), (43, [46]), (44, [182, 0, 99]), (47, [42]), (48, [22, 4]), (50, [42]), (51, [180, 0, 12]), (54, [3]), (55, [42]), (56, [180, 0, 12]), (59, [180, 0, 103]), (62, [182, 0, 106]), (65, [21, 6]), (67, [182, 0, 110]), (70, [55, 4]), (72, [132, 6, 1]), (75, [167, 255, 200]), (0, [42]), (1, [182, 0, 88]), (4, [153, 0, 9]), (13, [9]), (7, [20, 0, 92])] = true := by decide +kernel
theorem dX5_answer_14 : decode cX5_answer 14 = .ok (.lstore 4, 2) := q_lstore (bat_get dg_X5_answer_0_14 0 rfl rfl)
theorem dX5_answer_16 : decode cX5_answer 16 = .ok (.iconst 0, 1) := q_iconst0 (bat_get dg_X5_answer_0_14 1 rfl rfl)
theorem dX5_answer_17 : decode cX5_answer 17 = .ok (.istore 6, 2) := q_istore (bat_get dg_X5_answer_0_14 2 rfl rfl)
theorem dX5_answer_19 : decode cX5_answer 19 = .ok (.iload 6, 2) := q_iload (bat_get dg_X5_answer_0_14 3 rfl rfl)
theorem dX5_answer_21 : decode cX5_answer 21 = .ok (.aload_n 1, 1) := q_aload_n1 (bat_get dg_X5_answer_0_14 4 rfl rfl)
theorem dX5_answer_22 : decode cX5_answer 22 = .ok (.getfield 94, 3) := q_getfield (bat_get dg_X5_answer_0_14 5 rfl rfl) rfl
theorem dX5_answer_25 : decode cX5_answer 25 = .ok (.if_icmp .ge 53, 3) := q_if_icmp_ge (bat_get dg_X5_answer_0_14 6 rfl rfl) rfl
theorem dX5_answer_78 : decode cX5_answer 78 = .ok (.lload 4, 2) := q_lload (bat_get dg_X5_answer_0_14 7 rfl rfl)
theorem dX5_answer_80 : decode cX5_answer 80 = .ok (.lreturn, 1) := q_lreturn (bat_get dg_X5_answer_0_14 8 rfl rfl)
theorem dX5_answer_28 : decode cX5_answer 28 = .ok (.iload 6, 2) := q_iload (bat_get dg_X5_answer_0_14 9 rfl rfl)
theorem dX5_answer_30 : decode cX5_answer 30 = .ok (.aload_n 3, 1) := q_aload_n3 (bat_get dg_X5_answer_0_14 10 rfl rfl)
theorem dX5_answer_31 : decode cX5_answer 31 = .ok (.arraylength, 1) := q_arraylength (bat_get dg_X5_answer_0_14 11 rfl rfl)
theorem dX5_answer_32 : decode cX5_answer 32 = .ok (.if_icmp .ge 46, 3) := q_if_icmp_ge (bat_get dg_X5_answer_0_14 12 rfl rfl) rfl
theorem dX5_answer_35 : decode cX5_answer 35 = .ok (.aload_n 0, 1) := q_aload_n0 (bat_get dg_X5_answer_0_14 13 rfl rfl)
theorem dX5_answer_36 : decode cX5_answer 36 = .ok (.aload_n 1, 1) := q_aload_n1 (bat_get dg_X5_answer_0_14 14 rfl rfl)
theorem dX5_answer_37 : decode cX5_answer 37 = .ok (.aload_n 2, 1) := q_aload_n2 (bat_get dg_X5_answer_0_14 15 rfl rfl)
theorem dX5_answer_38 : decode cX5_answer 38 = .ok (.iload 6, 2) := q_iload (bat_get dg_X5_answer_0_14 16 rfl rfl)
theorem dX5_answer_40 : decode cX5_answer 40 = .ok (.aload_n 3, 1) := q_aload_n3 (bat_get dg_X5_answer_0_14 17 rfl rfl)
theorem dX5_answer_41 : decode cX5_answer 41 = .ok (.iload 6, 2) := q_iload (bat_get dg_X5_answer_0_14 18 rfl rfl)
theorem dX5_answer_43 : decode cX5_answer 43 = .ok (.iaload, 1) := q_iaload (bat_get dg_X5_answer_0_14 19 rfl rfl)
theorem dX5_answer_44 : decode cX5_answer 44 = .ok (.invokevirtual 99, 3) := q_invokevirtual (bat_get dg_X5_answer_0_14 20 rfl rfl) rfl
theorem dX5_answer_47 : decode cX5_answer 47 = .ok (.aload_n 0, 1) := q_aload_n0 (bat_get dg_X5_answer_0_14 21 rfl rfl)
theorem dX5_answer_48 : decode cX5_answer 48 = .ok (.lload 4, 2) := q_lload (bat_get dg_X5_answer_0_14 22 rfl rfl)
theorem dX5_answer_50 : decode cX5_answer 50 = .ok (.aload_n 0, 1) := q_aload_n0 (bat_get dg_X5_answer_0_14 23 rfl rfl)
theorem dX5_answer_51 : decode cX5_answer 51 = .ok (.getfield 12, 3) := q_getfield (bat_get dg_X5_answer_0_14 24 rfl rfl) rfl
theorem dX5_answer_54 : decode cX5_answer 54 = .ok (.iconst 0, 1) := q_iconst0 (bat_get dg_X5_answer_0_14 25 rfl rfl)
theorem dX5_answer_55 : decode cX5_answer 55 = .ok (.aload_n 0, 1) := q_aload_n0 (bat_get dg_X5_answer_0_14 26 rfl rfl)
theorem dX5_answer_56 : decode cX5_answer 56 = .ok (.getfield 12, 3) := q_getfield (bat_get dg_X5_answer_0_14 27 rfl rfl) rfl
theorem dX5_answer_59 : decode cX5_answer 59 = .ok (.getfield 103, 3) := q_getfield (bat_get dg_X5_answer_0_14 28 rfl rfl) rfl
theorem dX5_answer_62 : decode cX5_answer 62 = .ok (.invokevirtual 106, 3) := q_invokevirtual (bat_get dg_X5_answer_0_14 29 rfl rfl) rfl
theorem dX5_answer_65 : decode cX5_answer 65 = .ok (.iload 6, 2) := q_iload (bat_get dg_X5_answer_0_14 30 rfl rfl)
theorem dX5_answer_67 : decode cX5_answer 67 = .ok (.invokevirtual 110, 3) := q_invokevirtual (bat_get dg_X5_answer_0_14 31 rfl rfl) rfl
theorem dX5_answer_70 : decode cX5_answer 70 = .ok (.lstore 4, 2) := q_lstore (bat_get dg_X5_answer_0_14 32 rfl rfl)
theorem dX5_answer_72 : decode cX5_answer 72 = .ok (.iinc 6 1, 3) := q_iinc (bat_get dg_X5_answer_0_14 33 rfl rfl) rfl
theorem dX5_answer_75 : decode cX5_answer 75 = .ok (.goto (-56), 3) := q_goto (bat_get dg_X5_answer_0_14 34 rfl rfl) rfl
theorem dX5_answer_0 : decode cX5_answer 0 = .ok (.aload_n 0, 1) := q_aload_n0 (bat_get dg_X5_answer_0_14 35 rfl rfl)
theorem dX5_answer_1 : decode cX5_answer 1 = .ok (.invokevirtual 88, 3) := q_invokevirtual (bat_get dg_X5_answer_0_14 36 rfl rfl) rfl
theorem dX5_answer_4 : decode cX5_answer 4 = .ok (.ifCond .eq 9, 3) := q_ifCond_eq (bat_get dg_X5_answer_0_14 37 rfl rfl) rfl
theorem dX5_answer_13 : decode cX5_answer 13 = .ok (.lconst 0, 1) := q_lconst0 (bat_get dg_X5_answer_0_14 38 rfl rfl)
theorem dX5_answer_7 : decode cX5_answer 7 = .ok (.ldc2_w 92, 3) := q_ldc2_w (bat_get dg_X5_answer_0_14 39 rfl rfl) rfl
theorem dg_X5_answer_10_10 : bqL cX5_answer 10 [(0, [167, 0, 4])] = true := by decide +kernel
theorem dX5_answer_10 : decode cX5_answer 10 = .ok (.goto 4, 3) := q_goto (bat_get dg_X5_answer_10_10 0 rfl rfl) rfl
theorem w_2_2 : (Cond.fieldLink RX5 94 "SameKeeper$State" "days" "I") ∈ wsL_law := sk_mem (ck_2 _ (List.mem_of_getElem? (i := 2) rfl)) rfl
theorem w_5_105 : (Cond.methodLink RX5 99 yX5_nameDay) ∈ wsL_law := sk_mem (ck_5 _ (List.mem_of_getElem? (i := 105) rfl)) rfl
theorem w_5_107 : (Cond.instanceMethod yX5_nameDay) ∈ wsL_law := sk_mem (ck_5 _ (List.mem_of_getElem? (i := 107) rfl)) rfl
theorem w_0_38 : (Cond.selects RX5 yX5_nameDay yX5_nameDay) ∈ wsL_law := sk_mem (ck_0 _ (List.mem_of_getElem? (i := 38) rfl)) rfl
theorem w_1_135 : (Cond.fieldLink RX5 103 "SameKeeper$Code" "length" "I") ∈ wsL_law := sk_mem (ck_1 _ (List.mem_of_getElem? (i := 135) rfl)) rfl
theorem w_5_116 : (Cond.methodLink RX5 106 yX0_run) ∈ wsL_law := sk_mem (ck_5 _ (List.mem_of_getElem? (i := 116) rfl)) rfl
theorem w_5_117 : (Cond.methodLink RX5 110 yX5_joined) ∈ wsL_law := sk_mem (ck_5 _ (List.mem_of_getElem? (i := 117) rfl)) rfl
theorem w_5_119 : (Cond.instanceMethod yX5_joined) ∈ wsL_law := sk_mem (ck_5 _ (List.mem_of_getElem? (i := 119) rfl)) rfl
theorem w_0_39 : (Cond.selects RX5 yX5_joined yX5_joined) ∈ wsL_law := sk_mem (ck_0 _ (List.mem_of_getElem? (i := 39) rfl)) rfl
theorem w_5_100 : (Cond.methodLink RX5 88 yX5_isOfDays) ∈ wsL_law := sk_mem (ck_5 _ (List.mem_of_getElem? (i := 100) rfl)) rfl
theorem w_5_102 : (Cond.instanceMethod yX5_isOfDays) ∈ wsL_law := sk_mem (ck_5 _ (List.mem_of_getElem? (i := 102) rfl)) rfl
theorem w_0_37 : (Cond.selects RX5 yX5_isOfDays yX5_isOfDays) ∈ wsL_law := sk_mem (ck_0 _ (List.mem_of_getElem? (i := 37) rfl)) rfl
theorem w_5_99 : (Cond.code yX5_answer cX5_answer 7 (some .long)) ∈ wsL_law := sk_mem (ck_5 _ (List.mem_of_getElem? (i := 99) rfl)) rfl
def om_13_19fe : List Bool := true :: true :: false :: false :: true :: true :: true :: true :: true :: true :: true :: true :: false :: []
def om_13_f80 : List Bool := false :: true :: true :: true :: true :: true :: false :: false :: false :: false :: false :: false :: false :: []
def om_13_1000 : List Bool := true :: false :: false :: false :: false :: false :: false :: false :: false :: false :: false :: false :: false :: []
theorem hd_X5_nameDay_4 : skD yX5_nameDay 4 := by decide +kernel
theorem hd_X5_joined_3 : skD yX5_joined 3 := by decide +kernel
theorem hd_X5_isOfDays_0 : skD yX5_isOfDays 0 := by decide +kernel
set_option maxHeartbeats 4000000 in
set_option maxRecDepth 100000 in
theorem c_q_answer (l : Launch) (D : va_G) (cI cJ cC cZ cS : ClassId) (q : Nat → Nat) (vb : Int32) (cl : Nat) (mw : Nat) (f1 : Nat → Int32) (f2 : Nat → Int64) (f3 : Nat → Int64) (f4 : Nat → Int64) (dy : Nat) (mo : Nat) (wk : Int32) (mu : Int32) (ke : Int32) (fb : Nat → Int32) (fw : Nat → Int32) (gd : Nat) (gs : Nat) (e4 : Nat → Int64) (e5 : Nat → Int64) (ra : Nat → Int32) (hcl : cl ≤ 1600) (hmw : mw ≤ 1) (hdy : dy ≤ 9) (hmo : mo ≤ 9) : skM l yX5_answer cX5_answer 7 (some .long) 3 75 0 0 D (skT cI cJ cC cZ cS) [.ref (q 4), .ref (q 7), .ref (q 11), .ref (q 12)] [(q 4, .inr (5, [.ref (q 2), .ref (q 55), .ref (q 56), .int vb])), (q 56, .inr (0, [.ref (q 57), .ref (q 58), .ref (q 59), .ref (q 60), .int (nI cl), .int (nI mw)])), (q 57, .inl (cI, 1600, .inl f1)), (q 58, .inl (cJ, 64, .inr (.inl f2))), (q 59, .inl (cJ, 9, .inr (.inl f3))), (q 60, .inl (cJ, 10, .inr (.inl f4))), (q 7, .inr (7, [.ref (q 33), .ref (q 34), .int (nI dy), .int wk, .int (nI mo), .int mu, .int ke])), (q 33, .inl (cI, 9, .inl fb)), (q 34, .inl (cI, 9, .inl fw)), (q 11, .inr (1, [.ref (q 10), .ref (q 67), .ref (q 68), .ref (q 69), .ref (q 70), .ref (q 71), .ref (q 72), .int (nI gd), .int (nI gs)])), (q 70, .inl (cJ, 100, .inr (.inl e4))), (q 71, .inl (cJ, 100, .inr (.inl e5))), (q 12, .inl (cI, 9, .inl ra))] (skL D (skT cI cJ cC cZ cS) (fun (r : Int64) (u : va_W) => ∃ (g2 : Nat → Int64), ∃ (g3 : Nat → Int64), ∃ (g4 : Nat → Int64), u = [(q 4, .inr (5, [.ref (q 2), .ref (q 55), .ref (q 56), .int vb])), (q 56, .inr (0, [.ref (q 57), .ref (q 58), .ref (q 59), .ref (q 60), .int (nI cl), .int (nI mw)])), (q 57, .inl (cI, 1600, .inl f1)), (q 58, .inl (cJ, 64, .inr (.inl g2))), (q 59, .inl (cJ, 9, .inr (.inl g3))), (q 60, .inl (cJ, 10, .inr (.inl g4))), (q 7, .inr (7, [.ref (q 33), .ref (q 34), .int (nI dy), .int wk, .int (nI mo), .int mu, .int ke])), (q 33, .inl (cI, 9, .inl fb)), (q 34, .inl (cI, 9, .inl fw)), (q 11, .inr (1, [.ref (q 10), .ref (q 67), .ref (q 68), .ref (q 69), .ref (q 70), .ref (q 71), .ref (q 72), .int (nI gd), .int (nI gs)])), (q 70, .inl (cJ, 100, .inr (.inl e4))), (q 71, .inl (cJ, 100, .inr (.inl e5))), (q 12, .inl (cI, 9, .inl ra))])) := by
  refine skM_of pf_X5_answer (Nat.le_of_ble_eq_true rfl) ?_
  intro p e s m below meth c A ls E hP hD hl
  refine skE_el E (fun hx hb hr hml hlocks hin hown hts hK hA => ?_)
  have hown : s.vm.findClass RX5 = some m.cls := hown
  have hS : va_S A s.heap s.heap [] := va_S.rf
  have hl : lv_has ls 7 [(0, .ref (q 4)), (1, .ref (q 7)), (2, .ref (q 11)), (3, .ref (q 12))] := hl
  have jn_1 : ∀ (lq : Int64) (H : Heap) (locs : List Loc) (ls : Array Slot), va_P D vwCl [(q 4, .inr (5, [.ref (q 2), .ref (q 55), .ref (q 56), .int vb])), (q 56, .inr (0, [.ref (q 57), .ref (q 58), .ref (q 59), .ref (q 60), .int (nI cl), .int (nI mw)])), (q 57, .inl (cI, 1600, .inl f1)), (q 58, .inl (cJ, 64, .inr (.inl f2))), (q 59, .inl (cJ, 9, .inr (.inl f3))), (q 60, .inl (cJ, 10, .inr (.inl f4))), (q 7, .inr (7, [.ref (q 33), .ref (q 34), .int (nI dy), .int wk, .int (nI mo), .int mu, .int ke])), (q 33, .inl (cI, 9, .inl fb)), (q 34, .inl (cI, 9, .inl fw)), (q 11, .inr (1, [.ref (q 10), .ref (q 67), .ref (q 68), .ref (q 69), .ref (q 70), .ref (q 71), .ref (q 72), .int (nI gd), .int (nI gs)])), (q 70, .inl (cJ, 100, .inr (.inl e4))), (q 71, .inl (cJ, 100, .inr (.inl e5))), (q 12, .inl (cI, 9, .inl ra))] H → va_D A [(q 4, .inr (5, [.ref (q 2), .ref (q 55), .ref (q 56), .int vb])), (q 56, .inr (0, [.ref (q 57), .ref (q 58), .ref (q 59), .ref (q 60), .int (nI cl), .int (nI mw)])), (q 57, .inl (cI, 1600, .inl f1)), (q 58, .inl (cJ, 64, .inr (.inl f2))), (q 59, .inl (cJ, 9, .inr (.inl f3))), (q 60, .inl (cJ, 10, .inr (.inl f4))), (q 7, .inr (7, [.ref (q 33), .ref (q 34), .int (nI dy), .int wk, .int (nI mo), .int mu, .int ke])), (q 33, .inl (cI, 9, .inl fb)), (q 34, .inl (cI, 9, .inl fw)), (q 11, .inr (1, [.ref (q 10), .ref (q 67), .ref (q 68), .ref (q 69), .ref (q 70), .ref (q 71), .ref (q 72), .int (nI gd), .int (nI gs)])), (q 70, .inl (cJ, 100, .inr (.inl e4))), (q 71, .inl (cJ, 100, .inr (.inl e5))), (q 12, .inl (cI, 9, .inl ra))] → va_S A s.heap H locs → lv_has ls 7 [(0, .ref (q 4)), (1, .ref (q 7)), (2, .ref (q 11)), (3, .ref (q 12))] → W p l e { frames := 3, cells := 0, slots := 0, locals := 75 } s m ([.ref (q 4), .ref (q 7), .ref (q 11), .ref (q 12)] : List Value).toArray below meth c H locs 0 0 (MQ below (skL D (skT cI cJ cC cZ cS) (fun (r : Int64) (u : va_W) => ∃ (g2 : Nat → Int64), ∃ (g3 : Nat → Int64), ∃ (g4 : Nat → Int64), u = [(q 4, .inr (5, [.ref (q 2), .ref (q 55), .ref (q 56), .int vb])), (q 56, .inr (0, [.ref (q 57), .ref (q 58), .ref (q 59), .ref (q 60), .int (nI cl), .int (nI mw)])), (q 57, .inl (cI, 1600, .inl f1)), (q 58, .inl (cJ, 64, .inr (.inl g2))), (q 59, .inl (cJ, 9, .inr (.inl g3))), (q 60, .inl (cJ, 10, .inr (.inl g4))), (q 7, .inr (7, [.ref (q 33), .ref (q 34), .int (nI dy), .int wk, .int (nI mo), .int mu, .int ke])), (q 33, .inl (cI, 9, .inl fb)), (q 34, .inl (cI, 9, .inl fw)), (q 11, .inr (1, [.ref (q 10), .ref (q 67), .ref (q 68), .ref (q 69), .ref (q 70), .ref (q 71), .ref (q 72), .int (nI gd), .int (nI gs)])), (q 70, .inl (cJ, 100, .inr (.inl e4))), (q 71, .inl (cJ, 100, .inr (.inl e5))), (q 12, .inl (cI, 9, .inl ra))]) A) ([.ref (q 4), .ref (q 7), .ref (q 11), .ref (q 12)] : List Value).toArray s 0 0 A) (F0 m 14 ls [.long lq]) := by
    intro lq H locs ls  hP hD hS hl
    refine lv_lstore (lv' := [(4, .long lq), (0, .ref (q 4)), (1, .ref (q 7)), (2, .ref (q 11)), (3, .ref (q 12))]) hx hb dX5_answer_14 hl (by decide) rfl (fun ls hl => ?_)
    refine lv_iconst (v := 0) hx hb dX5_answer_16 (by decide) ?_
    refine lv_istore (lv' := [(6, .int 0), (4, .long lq), (0, .ref (q 4)), (1, .ref (q 7)), (2, .ref (q 11)), (3, .ref (q 12))]) hx hb dX5_answer_17 hl (by decide) rfl (fun ls hl => ?_)
    have lp_2 : ∀ (n_3 : Nat) (i : Nat) (an : Int64) (y2 : Nat → Int64) (y3 : Nat → Int64) (y4 : Nat → Int64) (H : Heap) (locs : List Loc) (ls : Array Slot), dy - i < n_3 → (i ≤ dy) → va_P D vwCl [(q 4, .inr (5, [.ref (q 2), .ref (q 55), .ref (q 56), .int vb])), (q 56, .inr (0, [.ref (q 57), .ref (q 58), .ref (q 59), .ref (q 60), .int (nI cl), .int (nI mw)])), (q 57, .inl (cI, 1600, .inl f1)), (q 58, .inl (cJ, 64, .inr (.inl y2))), (q 59, .inl (cJ, 9, .inr (.inl y3))), (q 60, .inl (cJ, 10, .inr (.inl y4))), (q 7, .inr (7, [.ref (q 33), .ref (q 34), .int (nI dy), .int wk, .int (nI mo), .int mu, .int ke])), (q 33, .inl (cI, 9, .inl fb)), (q 34, .inl (cI, 9, .inl fw)), (q 11, .inr (1, [.ref (q 10), .ref (q 67), .ref (q 68), .ref (q 69), .ref (q 70), .ref (q 71), .ref (q 72), .int (nI gd), .int (nI gs)])), (q 70, .inl (cJ, 100, .inr (.inl e4))), (q 71, .inl (cJ, 100, .inr (.inl e5))), (q 12, .inl (cI, 9, .inl ra))] H → va_D A [(q 4, .inr (5, [.ref (q 2), .ref (q 55), .ref (q 56), .int vb])), (q 56, .inr (0, [.ref (q 57), .ref (q 58), .ref (q 59), .ref (q 60), .int (nI cl), .int (nI mw)])), (q 57, .inl (cI, 1600, .inl f1)), (q 58, .inl (cJ, 64, .inr (.inl y2))), (q 59, .inl (cJ, 9, .inr (.inl y3))), (q 60, .inl (cJ, 10, .inr (.inl y4))), (q 7, .inr (7, [.ref (q 33), .ref (q 34), .int (nI dy), .int wk, .int (nI mo), .int mu, .int ke])), (q 33, .inl (cI, 9, .inl fb)), (q 34, .inl (cI, 9, .inl fw)), (q 11, .inr (1, [.ref (q 10), .ref (q 67), .ref (q 68), .ref (q 69), .ref (q 70), .ref (q 71), .ref (q 72), .int (nI gd), .int (nI gs)])), (q 70, .inl (cJ, 100, .inr (.inl e4))), (q 71, .inl (cJ, 100, .inr (.inl e5))), (q 12, .inl (cI, 9, .inl ra))] → va_S A s.heap H locs → lv_has ls 7 [(6, .int (nI i)), (4, .long an), (0, .ref (q 4)), (1, .ref (q 7)), (2, .ref (q 11)), (3, .ref (q 12))] → W p l e { frames := 3, cells := 0, slots := 0, locals := 75 } s m ([.ref (q 4), .ref (q 7), .ref (q 11), .ref (q 12)] : List Value).toArray below meth c H locs 0 0 (MQ below (skL D (skT cI cJ cC cZ cS) (fun (r : Int64) (u : va_W) => ∃ (g2 : Nat → Int64), ∃ (g3 : Nat → Int64), ∃ (g4 : Nat → Int64), u = [(q 4, .inr (5, [.ref (q 2), .ref (q 55), .ref (q 56), .int vb])), (q 56, .inr (0, [.ref (q 57), .ref (q 58), .ref (q 59), .ref (q 60), .int (nI cl), .int (nI mw)])), (q 57, .inl (cI, 1600, .inl f1)), (q 58, .inl (cJ, 64, .inr (.inl g2))), (q 59, .inl (cJ, 9, .inr (.inl g3))), (q 60, .inl (cJ, 10, .inr (.inl g4))), (q 7, .inr (7, [.ref (q 33), .ref (q 34), .int (nI dy), .int wk, .int (nI mo), .int mu, .int ke])), (q 33, .inl (cI, 9, .inl fb)), (q 34, .inl (cI, 9, .inl fw)), (q 11, .inr (1, [.ref (q 10), .ref (q 67), .ref (q 68), .ref (q 69), .ref (q 70), .ref (q 71), .ref (q 72), .int (nI gd), .int (nI gs)])), (q 70, .inl (cJ, 100, .inr (.inl e4))), (q 71, .inl (cJ, 100, .inr (.inl e5))), (q 12, .inl (cI, 9, .inl ra))]) A) ([.ref (q 4), .ref (q 7), .ref (q 11), .ref (q 12)] : List Value).toArray s 0 0 A) (F0 m 19 ls []) := by
      intro n_3
      induction n_3 with
      | zero => intro i an y2 y3 y4 H locs ls hm; exact absurd hm (Nat.not_lt_zero _)
      | succ n_3 ih_lp_2 =>
        intro i an y2 y3 y4 H locs ls hm hi hP hD hS hl
        refine lv_iload hx hb dX5_answer_19 (lv_at hl 0 rfl) ?_
        refine lv_aload_n hx hb dX5_answer_21 rfl (lv_at hl 3 rfl) ?_
        refine sk_get (v := .int (nI dy)) (C := RX7) (T := TX7) (N := 7) hx hb hts inlX7 hown hK hP 6 rfl rfl 2 (by decide) w_2_2 rfl dX5_answer_22 ?_
        refine lv_icmp_ge (tgt := 78) hx hb dX5_answer_25 (by decide) (fun c_4 => ?_) (fun c_4 => ?_)
        · have c_4 : dy ≤ i := (nle dy i (by omega) (by omega)).mp c_4
          refine lv_lload hx hb dX5_answer_78 (lv_at hl 1 rfl) ?_
          exact sk_lret hx hb hr hlocks hK hP hD hS (⟨y2, y3, y4, rfl⟩) (Nat.le_of_ble_eq_true rfl) (Nat.le_of_ble_eq_true rfl) dX5_answer_80
        · have c_4 : ¬ (dy ≤ i) := fun h => c_4 ((nle dy i (by omega) (by omega)).mpr h)
          refine lv_iload hx hb dX5_answer_28 (lv_at hl 0 rfl) ?_
          refine lv_aload_n hx hb dX5_answer_30 rfl (lv_at hl 5 rfl) ?_
          refine va_alen (v := 9) hx hb hK.1 hP 12 0 rfl rfl rfl dX5_answer_31 ?_
          refine lv_icmp_ge (tgt := 78) hx hb dX5_answer_32 (by decide) (fun c_5 => ?_) (fun c_5 => ?_)
          · have c_5 : 9 ≤ i := (nle 9 i (by omega) (by omega)).mp c_5
            refine lv_lload hx hb dX5_answer_78 (lv_at hl 1 rfl) ?_
            exact sk_lret hx hb hr hlocks hK hP hD hS (⟨y2, y3, y4, rfl⟩) (Nat.le_of_ble_eq_true rfl) (Nat.le_of_ble_eq_true rfl) dX5_answer_80
          · have c_5 : ¬ (9 ≤ i) := fun h => c_5 ((nle 9 i (by omega) (by omega)).mpr h)
            refine lv_aload_n hx hb dX5_answer_35 rfl (lv_at hl 2 rfl) ?_
            refine lv_aload_n hx hb dX5_answer_36 rfl (lv_at hl 3 rfl) ?_
            refine lv_aload_n hx hb dX5_answer_37 rfl (lv_at hl 4 rfl) ?_
            refine lv_iload hx hb dX5_answer_38 (lv_at hl 0 rfl) ?_
            refine lv_aload_n hx hb dX5_answer_40 rfl (lv_at hl 5 rfl) ?_
            refine lv_iload hx hb dX5_answer_41 (lv_at hl 0 rfl) ?_
            refine va_iald hx hb hK.1 hP 12 0 rfl rfl (vin i 9 (by omega) (by omega)) dX5_answer_43 ?_
            refine lv_topi (fun v_6 ev_6 => ?_)
            refine sk_Vv (q0 := 0) (n := 4) (rest := []) (wr := fmR om_13_19fe _) ⟨hx, hb, hml, hown, hts⟩ hl.1 (c_q_nameDay l D cI cJ cC cZ cS q vb cl mw y3 y4 dy mo wk mu ke fb fw gd gs e4 e5 i v_6 (by omega)) w_5_105 w_5_107 w_0_38 w_1_7 w_5_108 hd_X5_nameDay_4 ⟨⟨(Nat.le_of_ble_eq_true rfl), (Nat.le_of_ble_eq_true rfl)⟩, (Nat.le_of_ble_eq_true rfl), (Nat.le_of_ble_eq_true rfl)⟩ hK hP hD hS hA (fmT om_13_19fe 0) (fmF om_13_19fe 0) (fm_C1 rfl rfl) (fm_R rfl rfl) (fm_nT om_13_19fe 0) (fm_nF om_13_19fe 0) (fm_di om_13_19fe 0) rfl rfl rfl rfl (Nat.le_of_ble_eq_true rfl) dX5_answer_44 (fun u H locs hw hP hD hS => ?_)
            refine exE hw (fun g3_7 hw1 => exE hw1 (fun g4_8 eu_9 => ?_))
            clear hw hw1
            refine o_mgE (ws' := [(q 4, .inr (5, [.ref (q 2), .ref (q 55), .ref (q 56), .int vb])), (q 56, .inr (0, [.ref (q 57), .ref (q 58), .ref (q 59), .ref (q 60), .int (nI cl), .int (nI mw)])), (q 57, .inl (cI, 1600, .inl f1)), (q 58, .inl (cJ, 64, .inr (.inl y2))), (q 59, .inl (cJ, 9, .inr (.inl g3_7))), (q 60, .inl (cJ, 10, .inr (.inl g4_8))), (q 7, .inr (7, [.ref (q 33), .ref (q 34), .int (nI dy), .int wk, .int (nI mo), .int mu, .int ke])), (q 33, .inl (cI, 9, .inl fb)), (q 34, .inl (cI, 9, .inl fw)), (q 11, .inr (1, [.ref (q 10), .ref (q 67), .ref (q 68), .ref (q 69), .ref (q 70), .ref (q 71), .ref (q 72), .int (nI gd), .int (nI gs)])), (q 70, .inl (cJ, 100, .inr (.inl e4))), (q 71, .inl (cJ, 100, .inr (.inl e5))), (q 12, .inl (cI, 9, .inl ra))]) eu_9 hP hD rfl (fun hP hD => ?_)
            refine lv_aload_n hx hb dX5_answer_47 rfl (lv_at hl 2 rfl) ?_
            refine lv_lload hx hb dX5_answer_48 (lv_at hl 1 rfl) ?_
            refine lv_aload_n hx hb dX5_answer_50 rfl (lv_at hl 2 rfl) ?_
            refine sk_get (v := .ref (q 56)) (C := RX5) (T := TX5) (N := 4) hx hb hts inlX5 hown hK hP 0 rfl rfl 2 (by decide) w_1_156 rfl dX5_answer_51 ?_
            refine lv_iconst (v := 0) hx hb dX5_answer_54 (by decide) ?_
            refine lv_aload_n hx hb dX5_answer_55 rfl (lv_at hl 2 rfl) ?_
            refine sk_get (v := .ref (q 56)) (C := RX5) (T := TX5) (N := 4) hx hb hts inlX5 hown hK hP 0 rfl rfl 2 (by decide) w_1_156 rfl dX5_answer_56 ?_
            refine sk_get (v := .int (nI cl)) (C := RX0) (T := TX0) (N := 6) hx hb hts inlX0 hown hK hP 1 rfl rfl 4 (by decide) w_1_135 rfl dX5_answer_59 ?_
            refine sk_Vl (q0 := 0) (n := 2) (rest := [.long an, .ref (q 4)]) (wr := fmR om_13_f80 _) ⟨hx, hb, hml, hown, hts⟩ hl.1 (c_Code_run l D cI cJ cC cZ cS (q 56) (q 57) (q 58) (q 59) (q 60) cl mw f1 y2 g3_7 g4_8 0 (nI cl) (by omega) (by omega)) w_5_116 w_3_221 w_3_222 w_1_8 w_3_223 hd_X0_run_2 ⟨⟨(Nat.le_of_ble_eq_true rfl), (Nat.le_of_ble_eq_true rfl)⟩, (Nat.le_of_ble_eq_true rfl), (Nat.le_of_ble_eq_true rfl)⟩ hK hP hD hS hA (fmT om_13_f80 0) (fmF om_13_f80 0) (fm_C1 rfl rfl) (fm_R rfl rfl) (fm_nT om_13_f80 0) (fm_nF om_13_f80 0) (fm_di om_13_f80 0) rfl rfl rfl rfl (Nat.le_of_ble_eq_true rfl) dX5_answer_62 (fun r_11 u H locs hw hP hD hS => ?_)
            refine exE hw (fun g2_10 eu_12 => ?_)
            clear hw
            refine o_mgE (ws' := [(q 4, .inr (5, [.ref (q 2), .ref (q 55), .ref (q 56), .int vb])), (q 56, .inr (0, [.ref (q 57), .ref (q 58), .ref (q 59), .ref (q 60), .int (nI cl), .int (nI mw)])), (q 57, .inl (cI, 1600, .inl f1)), (q 58, .inl (cJ, 64, .inr (.inl g2_10))), (q 59, .inl (cJ, 9, .inr (.inl g3_7))), (q 60, .inl (cJ, 10, .inr (.inl g4_8))), (q 7, .inr (7, [.ref (q 33), .ref (q 34), .int (nI dy), .int wk, .int (nI mo), .int mu, .int ke])), (q 33, .inl (cI, 9, .inl fb)), (q 34, .inl (cI, 9, .inl fw)), (q 11, .inr (1, [.ref (q 10), .ref (q 67), .ref (q 68), .ref (q 69), .ref (q 70), .ref (q 71), .ref (q 72), .int (nI gd), .int (nI gs)])), (q 70, .inl (cJ, 100, .inr (.inl e4))), (q 71, .inl (cJ, 100, .inr (.inl e5))), (q 12, .inl (cI, 9, .inl ra))]) eu_12 hP hD rfl (fun hP hD => ?_)
            refine lv_iload hx hb dX5_answer_65 (lv_at hl 0 rfl) ?_
            refine sk_Vl (q0 := 0) (n := 3) (rest := []) (wr := fmR om_13_1000 _) ⟨hx, hb, hml, hown, hts⟩ hl.1 (c_q_joined l D cI cJ cC cZ cS q vb an r_11 (nI i)) w_5_117 w_5_119 w_0_39 w_1_7 w_5_120 hd_X5_joined_3 ⟨⟨(Nat.le_of_ble_eq_true rfl), (Nat.le_of_ble_eq_true rfl)⟩, (Nat.le_of_ble_eq_true rfl), (Nat.le_of_ble_eq_true rfl)⟩ hK hP hD hS hA (fmT om_13_1000 0) (fmF om_13_1000 0) (fm_C1 rfl rfl) (fm_R rfl rfl) (fm_nT om_13_1000 0) (fm_nF om_13_1000 0) (fm_di om_13_1000 0) rfl rfl rfl rfl (Nat.le_of_ble_eq_true rfl) dX5_answer_67 (fun r_13 u H locs hw hP hD hS => ?_)
            refine o_mgE (ws' := [(q 4, .inr (5, [.ref (q 2), .ref (q 55), .ref (q 56), .int vb])), (q 56, .inr (0, [.ref (q 57), .ref (q 58), .ref (q 59), .ref (q 60), .int (nI cl), .int (nI mw)])), (q 57, .inl (cI, 1600, .inl f1)), (q 58, .inl (cJ, 64, .inr (.inl g2_10))), (q 59, .inl (cJ, 9, .inr (.inl g3_7))), (q 60, .inl (cJ, 10, .inr (.inl g4_8))), (q 7, .inr (7, [.ref (q 33), .ref (q 34), .int (nI dy), .int wk, .int (nI mo), .int mu, .int ke])), (q 33, .inl (cI, 9, .inl fb)), (q 34, .inl (cI, 9, .inl fw)), (q 11, .inr (1, [.ref (q 10), .ref (q 67), .ref (q 68), .ref (q 69), .ref (q 70), .ref (q 71), .ref (q 72), .int (nI gd), .int (nI gs)])), (q 70, .inl (cJ, 100, .inr (.inl e4))), (q 71, .inl (cJ, 100, .inr (.inl e5))), (q 12, .inl (cI, 9, .inl ra))]) hw hP hD rfl (fun hP hD => ?_)
            refine lv_lstore (lv' := [(4, .long r_13), (6, .int (nI i)), (0, .ref (q 4)), (1, .ref (q 7)), (2, .ref (q 11)), (3, .ref (q 12))]) hx hb dX5_answer_70 hl (by decide) rfl (fun ls hl => ?_)
            refine lv_iinc (v := nI (i + 1)) (lv' := [(6, .int (nI (i + 1))), (4, .long r_13), (0, .ref (q 4)), (1, .ref (q 7)), (2, .ref (q 11)), (3, .ref (q 12))]) hx hb dX5_answer_72 hl (k := 1) rfl (ninc i 1 (by decide)) (by decide) rfl (fun ls hl => ?_)
            refine lv_goto (tgt := 19) hx hb dX5_answer_75 (by decide) ?_
            exact ih_lp_2 (i + 1) r_13 g2_10 g3_7 g4_8 _ _ _ (by omega) (by omega) hP hD hS (lv_sub hl [0, 1, 2, 3, 4, 5] rfl)
    exact lp_2 (dy - 0 + 1) 0 lq f2 f3 f4 _ _ _ (Nat.lt_succ_self _) (by omega) hP hD hS (lv_sub hl [0, 1, 2, 3, 4, 5] rfl)
  refine lv_aload_n hx hb dX5_answer_0 rfl (lv_at hl 0 rfl) ?_
  refine sk_Vi (q0 := 0) (n := 0) (rest := []) (wr := fmR om_13_1000 _) ⟨hx, hb, hml, hown, hts⟩ hl.1 (c_q_isOfDays l D cI cJ cC cZ cS q vb) w_5_100 w_5_102 w_0_37 w_1_7 w_5_103 hd_X5_isOfDays_0 ⟨⟨(Nat.le_of_ble_eq_true rfl), (Nat.le_of_ble_eq_true rfl)⟩, (Nat.le_of_ble_eq_true rfl), (Nat.le_of_ble_eq_true rfl)⟩ hK hP hD hS hA (fmT om_13_1000 0) (fmF om_13_1000 0) (fm_C1 rfl rfl) (fm_R rfl rfl) (fm_nT om_13_1000 0) (fm_nF om_13_1000 0) (fm_di om_13_1000 0) rfl rfl rfl rfl (Nat.le_of_ble_eq_true rfl) dX5_answer_1 (fun r_15 u H locs hw hP hD hS => ?_)
  refine exE hw (fun b_14 hw1 => anE hw1 (fun hb1_16 hw2 => anE hw2 (fun er_18 eu_17 => ?_)))
  clear hw hw1 hw2
  subst er_18
  refine o_mgE (ws' := [(q 4, .inr (5, [.ref (q 2), .ref (q 55), .ref (q 56), .int vb])), (q 56, .inr (0, [.ref (q 57), .ref (q 58), .ref (q 59), .ref (q 60), .int (nI cl), .int (nI mw)])), (q 57, .inl (cI, 1600, .inl f1)), (q 58, .inl (cJ, 64, .inr (.inl f2))), (q 59, .inl (cJ, 9, .inr (.inl f3))), (q 60, .inl (cJ, 10, .inr (.inl f4))), (q 7, .inr (7, [.ref (q 33), .ref (q 34), .int (nI dy), .int wk, .int (nI mo), .int mu, .int ke])), (q 33, .inl (cI, 9, .inl fb)), (q 34, .inl (cI, 9, .inl fw)), (q 11, .inr (1, [.ref (q 10), .ref (q 67), .ref (q 68), .ref (q 69), .ref (q 70), .ref (q 71), .ref (q 72), .int (nI gd), .int (nI gs)])), (q 70, .inl (cJ, 100, .inr (.inl e4))), (q 71, .inl (cJ, 100, .inr (.inl e5))), (q 12, .inl (cI, 9, .inl ra))]) eu_17 hP hD rfl (fun hP hD => ?_)
  refine lv_if_eq (tgt := 13) hx hb dX5_answer_4 (by decide) (fun c_19 => ?_) (fun c_19 => ?_)
  · have c_19 : b_14 = 0 := (neq b_14 0 (by omega) (by omega)).mp c_19
    refine lv_lconst (v := 0) hx hb dX5_answer_13 (by decide) ?_
    exact jn_1 0 _ _ _  hP hD hS (lv_sub hl [0, 1, 2, 3] rfl)
  · have c_19 : ¬ (b_14 = 0) := fun h => c_19 ((neq b_14 0 (by omega) (by omega)).mpr h)
    refine lv_ldc2 (v := (-1)) hx hb hown (hts _ w_5_104) dX5_answer_7 ?_
    refine lv_goto (tgt := 14) hx hb dX5_answer_10 (by decide) ?_
    exact jn_1 (-1) _ _ _  hP hD hS (lv_sub hl [0, 1, 2, 3] rfl)

