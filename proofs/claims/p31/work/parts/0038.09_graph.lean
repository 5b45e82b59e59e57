theorem dX1_bestPay_1 : decode cX1_bestPay 1 = .ok (.istore_n 1, 1) := q_istore_n1 (bat_get dg_X1_bestPay_0_0 1 rfl rfl)
theorem dX1_bestPay_2 : decode cX1_bestPay 2 = .ok (.iload_n 1, 1) := q_iload_n1 (bat_get dg_X1_bestPay_0_0 2 rfl rfl)
theorem dX1_bestPay_3 : decode cX1_bestPay 3 = .ok (.bipush 10, 2) := q_bipush (bat_get dg_X1_bestPay_0_0 3 rfl rfl) rfl
theorem dX1_bestPay_5 : decode cX1_bestPay 5 = .ok (.if_icmp .ge 24, 3) := q_if_icmp_ge (bat_get dg_X1_bestPay_0_0 4 rfl rfl) rfl
theorem dX1_bestPay_29 : decode cX1_bestPay 29 = .ok (.aload_n 0, 1) := q_aload_n0 (bat_get dg_X1_bestPay_0_0 5 rfl rfl)
theorem dX1_bestPay_30 : decode cX1_bestPay 30 = .ok (.getfield 31, 3) := q_getfield (bat_get dg_X1_bestPay_0_0 6 rfl rfl) rfl
theorem dX1_bestPay_33 : decode cX1_bestPay 33 = .ok (.iconst 1, 1) := q_iconst1 (bat_get dg_X1_bestPay_0_0 7 rfl rfl)
theorem dX1_bestPay_34 : decode cX1_bestPay 34 = .ok (.isub, 1) := q_isub (bat_get dg_X1_bestPay_0_0 8 rfl rfl)
theorem dX1_bestPay_35 : decode cX1_bestPay 35 = .ok (.istore_n 1, 1) := q_istore_n1 (bat_get dg_X1_bestPay_0_0 9 rfl rfl)
theorem dX1_bestPay_36 : decode cX1_bestPay 36 = .ok (.iload_n 1, 1) := q_iload_n1 (bat_get dg_X1_bestPay_0_0 10 rfl rfl)
theorem dX1_bestPay_37 : decode cX1_bestPay 37 = .ok (.ifCond .lt 88, 3) := q_ifCond_lt (bat_get dg_X1_bestPay_0_0 11 rfl rfl) rfl
theorem dX1_bestPay_125 : decode cX1_bestPay 125 = .ok (.aload_n 0, 1) := q_aload_n0 (bat_get dg_X1_bestPay_0_0 12 rfl rfl)
theorem dX1_bestPay_126 : decode cX1_bestPay 126 = .ok (.getfield 28, 3) := q_getfield (bat_get dg_X1_bestPay_0_0 13 rfl rfl) rfl
theorem dX1_bestPay_129 : decode cX1_bestPay 129 = .ok (.aload_n 0, 1) := q_aload_n0 (bat_get dg_X1_bestPay_0_0 14 rfl rfl)
theorem dX1_bestPay_130 : decode cX1_bestPay 130 = .ok (.getfield 35, 3) := q_getfield (bat_get dg_X1_bestPay_0_0 15 rfl rfl) rfl
theorem dX1_bestPay_133 : decode cX1_bestPay 133 = .ok (.laload, 1) := q_laload (bat_get dg_X1_bestPay_0_0 16 rfl rfl)
theorem dX1_bestPay_134 : decode cX1_bestPay 134 = .ok (.lreturn, 1) := q_lreturn (bat_get dg_X1_bestPay_0_0 17 rfl rfl)
theorem dX1_bestPay_40 : decode cX1_bestPay 40 = .ok (.iconst 0, 1) := q_iconst0 (bat_get dg_X1_bestPay_0_0 18 rfl rfl)
theorem dX1_bestPay_41 : decode cX1_bestPay 41 = .ok (.istore_n 2, 1) := q_istore_n2 (bat_get dg_X1_bestPay_0_0 19 rfl rfl)
theorem dX1_bestPay_42 : decode cX1_bestPay 42 = .ok (.iload_n 2, 1) := q_iload_n2 (bat_get dg_X1_bestPay_0_0 20 rfl rfl)
theorem dX1_bestPay_43 : decode cX1_bestPay 43 = .ok (.bipush 10, 2) := q_bipush (bat_get dg_X1_bestPay_0_0 21 rfl rfl) rfl
theorem dX1_bestPay_45 : decode cX1_bestPay 45 = .ok (.if_icmp .ge 74, 3) := q_if_icmp_ge (bat_get dg_X1_bestPay_0_0 22 rfl rfl) rfl
theorem dX1_bestPay_119 : decode cX1_bestPay 119 = .ok (.iinc 1 (-1), 3) := q_iinc (bat_get dg_X1_bestPay_0_0 23 rfl rfl) rfl
theorem dX1_bestPay_122 : decode cX1_bestPay 122 = .ok (.goto (-86), 3) := q_goto (bat_get dg_X1_bestPay_0_0 24 rfl rfl) rfl
theorem dX1_bestPay_48 : decode cX1_bestPay 48 = .ok (.aload_n 0, 1) := q_aload_n0 (bat_get dg_X1_bestPay_0_0 25 rfl rfl)
theorem dX1_bestPay_49 : decode cX1_bestPay 49 = .ok (.iload_n 1, 1) := q_iload_n1 (bat_get dg_X1_bestPay_0_0 26 rfl rfl)
theorem dX1_bestPay_50 : decode cX1_bestPay 50 = .ok (.iload_n 2, 1) := q_iload_n2 (bat_get dg_X1_bestPay_0_0 27 rfl rfl)
theorem dX1_bestPay_51 : decode cX1_bestPay 51 = .ok (.invokevirtual 66, 3) := q_invokevirtual (bat_get dg_X1_bestPay_0_0 28 rfl rfl) rfl
theorem dX1_bestPay_54 : decode cX1_bestPay 54 = .ok (.istore_n 3, 1) := q_istore_n3 (bat_get dg_X1_bestPay_0_0 29 rfl rfl)
theorem dX1_bestPay_55 : decode cX1_bestPay 55 = .ok (.ldc2_w 89, 3) := q_ldc2_w (bat_get dg_X1_bestPay_0_0 30 rfl rfl) rfl
theorem dX1_bestPay_58 : decode cX1_bestPay 58 = .ok (.lstore 4, 2) := q_lstore (bat_get dg_X1_bestPay_0_0 31 rfl rfl)
theorem dX1_bestPay_60 : decode cX1_bestPay 60 = .ok (.iconst 0, 1) := q_iconst0 (bat_get dg_X1_bestPay_0_0 32 rfl rfl)
theorem dX1_bestPay_61 : decode cX1_bestPay 61 = .ok (.istore 6, 2) := q_istore (bat_get dg_X1_bestPay_0_0 33 rfl rfl)
theorem dX1_bestPay_63 : decode cX1_bestPay 63 = .ok (.iload 6, 2) := q_iload (bat_get dg_X1_bestPay_0_0 34 rfl rfl)
theorem dX1_bestPay_65 : decode cX1_bestPay 65 = .ok (.bipush 10, 2) := q_bipush (bat_get dg_X1_bestPay_0_0 35 rfl rfl) rfl
theorem dX1_bestPay_67 : decode cX1_bestPay 67 = .ok (.if_icmp .ge 33, 3) := q_if_icmp_ge (bat_get dg_X1_bestPay_0_0 36 rfl rfl) rfl
theorem dX1_bestPay_100 : decode cX1_bestPay 100 = .ok (.aload_n 0, 1) := q_aload_n0 (bat_get dg_X1_bestPay_0_0 37 rfl rfl)
theorem dX1_bestPay_101 : decode cX1_bestPay 101 = .ok (.getfield 28, 3) := q_getfield (bat_get dg_X1_bestPay_0_0 38 rfl rfl) rfl
theorem dX1_bestPay_104 : decode cX1_bestPay 104 = .ok (.iload_n 1, 1) := q_iload_n1 (bat_get dg_X1_bestPay_0_0 39 rfl rfl)
theorem dg_X1_bestPay_8_105 : bqL cX1_bestPay 8 [(97, [16, 10]), (99, [104]), (100, [28]), (101, [96]), (102, [22, 4]), (104, [80]), (105, [132, 2, 1]), (108, [167, 255, 182]), (62, [29]), (63, [21, 6]), (65, [122]), (66, [4]), (67, [126]), (68, [4]), (69, [160, 0, 17]), (86, [132, 6, 1]), (89, [167, 255, 222]), (72, [22, 4]), (74, [42]), (75, [27]), (76, [21, 6]), (78, [182, 0, 91]), (81, [184, 0, 83]), (84, [55, 4]), (0, [42]), (1, [180, 0, 28]), (4, [42]), (5, [180, 0, 31]), (8, [16, 10]), (10, [104]), (11, [27]), (12, [96]), (13, [9]), (14, [80]), (15, [132, 1, 1]), (18, [167, 255, 232])] = true := by decide +kernel
theorem dX1_bestPay_105 : decode cX1_bestPay 105 = .ok (.bipush 10, 2) := q_bipush (bat_get dg_X1_bestPay_8_105 0 rfl rfl) rfl
theorem dX1_bestPay_107 : decode cX1_bestPay 107 = .ok (.imul, 1) := q_imul (bat_get dg_X1_bestPay_8_105 1 rfl rfl)
theorem dX1_bestPay_108 : decode cX1_bestPay 108 = .ok (.iload_n 2, 1) := q_iload_n2 (bat_get dg_X1_bestPay_8_105 2 rfl rfl)
theorem dX1_bestPay_109 : decode cX1_bestPay 109 = .ok (.iadd, 1) := q_iadd (bat_get dg_X1_bestPay_8_105 3 rfl rfl)
theorem dX1_bestPay_110 : decode cX1_bestPay 110 = .ok (.lload 4, 2) := q_lload (bat_get dg_X1_bestPay_8_105 4 rfl rfl)
theorem dX1_bestPay_112 : decode cX1_bestPay 112 = .ok (.lastore, 1) := q_lastore (bat_get dg_X1_bestPay_8_105 5 rfl rfl)
theorem dX1_bestPay_113 : decode cX1_bestPay 113 = .ok (.iinc 2 1, 3) := q_iinc (bat_get dg_X1_bestPay_8_105 6 rfl rfl) rfl
theorem dX1_bestPay_116 : decode cX1_bestPay 116 = .ok (.goto (-74), 3) := q_goto (bat_get dg_X1_bestPay_8_105 7 rfl rfl) rfl
theorem dX1_bestPay_70 : decode cX1_bestPay 70 = .ok (.iload_n 3, 1) := q_iload_n3 (bat_get dg_X1_bestPay_8_105 8 rfl rfl)
theorem dX1_bestPay_71 : decode cX1_bestPay 71 = .ok (.iload 6, 2) := q_iload (bat_get dg_X1_bestPay_8_105 9 rfl rfl)
theorem dX1_bestPay_73 : decode cX1_bestPay 73 = .ok (.ishr, 1) := q_ishr (bat_get dg_X1_bestPay_8_105 10 rfl rfl)
theorem dX1_bestPay_74 : decode cX1_bestPay 74 = .ok (.iconst 1, 1) := q_iconst1 (bat_get dg_X1_bestPay_8_105 11 rfl rfl)
theorem dX1_bestPay_75 : decode cX1_bestPay 75 = .ok (.iand, 1) := q_iand (bat_get dg_X1_bestPay_8_105 12 rfl rfl)
theorem dX1_bestPay_76 : decode cX1_bestPay 76 = .ok (.iconst 1, 1) := q_iconst1 (bat_get dg_X1_bestPay_8_105 13 rfl rfl)
theorem dX1_bestPay_77 : decode cX1_bestPay 77 = .ok (.if_icmp .ne 17, 3) := q_if_icmp_ne (bat_get dg_X1_bestPay_8_105 14 rfl rfl) rfl
theorem dX1_bestPay_94 : decode cX1_bestPay 94 = .ok (.iinc 6 1, 3) := q_iinc (bat_get dg_X1_bestPay_8_105 15 rfl rfl) rfl
theorem dX1_bestPay_97 : decode cX1_bestPay 97 = .ok (.goto (-34), 3) := q_goto (bat_get dg_X1_bestPay_8_105 16 rfl rfl) rfl
theorem dX1_bestPay_80 : decode cX1_bestPay 80 = .ok (.lload 4, 2) := q_lload (bat_get dg_X1_bestPay_8_105 17 rfl rfl)
theorem dX1_bestPay_82 : decode cX1_bestPay 82 = .ok (.aload_n 0, 1) := q_aload_n0 (bat_get dg_X1_bestPay_8_105 18 rfl rfl)
theorem dX1_bestPay_83 : decode cX1_bestPay 83 = .ok (.iload_n 1, 1) := q_iload_n1 (bat_get dg_X1_bestPay_8_105 19 rfl rfl)
theorem dX1_bestPay_84 : decode cX1_bestPay 84 = .ok (.iload 6, 2) := q_iload (bat_get dg_X1_bestPay_8_105 20 rfl rfl)
theorem dX1_bestPay_86 : decode cX1_bestPay 86 = .ok (.invokevirtual 91, 3) := q_invokevirtual (bat_get dg_X1_bestPay_8_105 21 rfl rfl) rfl
theorem dX1_bestPay_89 : decode cX1_bestPay 89 = .ok (.invokestatic 83, 3) := q_invokestatic (bat_get dg_X1_bestPay_8_105 22 rfl rfl) rfl
theorem dX1_bestPay_92 : decode cX1_bestPay 92 = .ok (.lstore 4, 2) := q_lstore (bat_get dg_X1_bestPay_8_105 23 rfl rfl)
theorem dX1_bestPay_8 : decode cX1_bestPay 8 = .ok (.aload_n 0, 1) := q_aload_n0 (bat_get dg_X1_bestPay_8_105 24 rfl rfl)
theorem dX1_bestPay_9 : decode cX1_bestPay 9 = .ok (.getfield 28, 3) := q_getfield (bat_get dg_X1_bestPay_8_105 25 rfl rfl) rfl
theorem dX1_bestPay_12 : decode cX1_bestPay 12 = .ok (.aload_n 0, 1) := q_aload_n0 (bat_get dg_X1_bestPay_8_105 26 rfl rfl)
theorem dX1_bestPay_13 : decode cX1_bestPay 13 = .ok (.getfield 31, 3) := q_getfield (bat_get dg_X1_bestPay_8_105 27 rfl rfl) rfl
theorem dX1_bestPay_16 : decode cX1_bestPay 16 = .ok (.bipush 10, 2) := q_bipush (bat_get dg_X1_bestPay_8_105 28 rfl rfl) rfl
theorem dX1_bestPay_18 : decode cX1_bestPay 18 = .ok (.imul, 1) := q_imul (bat_get dg_X1_bestPay_8_105 29 rfl rfl)
theorem dX1_bestPay_19 : decode cX1_bestPay 19 = .ok (.iload_n 1, 1) := q_iload_n1 (bat_get dg_X1_bestPay_8_105 30 rfl rfl)
theorem dX1_bestPay_20 : decode cX1_bestPay 20 = .ok (.iadd, 1) := q_iadd (bat_get dg_X1_bestPay_8_105 31 rfl rfl)
theorem dX1_bestPay_21 : decode cX1_bestPay 21 = .ok (.lconst 0, 1) := q_lconst0 (bat_get dg_X1_bestPay_8_105 32 rfl rfl)
theorem dX1_bestPay_22 : decode cX1_bestPay 22 = .ok (.lastore, 1) := q_lastore (bat_get dg_X1_bestPay_8_105 33 rfl rfl)
theorem dX1_bestPay_23 : decode cX1_bestPay 23 = .ok (.iinc 1 1, 3) := q_iinc (bat_get dg_X1_bestPay_8_105 34 rfl rfl) rfl
theorem dX1_bestPay_26 : decode cX1_bestPay 26 = .ok (.goto (-24), 3) := q_goto (bat_get dg_X1_bestPay_8_105 35 rfl rfl) rfl
theorem w_4_160 : (Cond.constantLong RX1 89 (-1000000000000000)) ∈ wsL_law := sk_mem (ck_4 _ (List.mem_of_getElem? (i := 160) rfl)) rfl
theorem w_4_161 : (Cond.methodLink RX1 91 yX1_gainBy) ∈ wsL_law := sk_mem (ck_4 _ (List.mem_of_getElem? (i := 161) rfl)) rfl
theorem w_4_163 : (Cond.instanceMethod yX1_gainBy) ∈ wsL_law := sk_mem (ck_4 _ (List.mem_of_getElem? (i := 163) rfl)) rfl
theorem w_0_26 : (Cond.selects RX1 yX1_gainBy yX1_gainBy) ∈ wsL_law := sk_mem (ck_0 _ (List.mem_of_getElem? (i := 26) rfl)) rfl
theorem w_4_159 : (Cond.code yX1_bestPay cX1_bestPay 7 (some .long)) ∈ wsL_law := sk_mem (ck_4 _ (List.mem_of_getElem? (i := 159) rfl)) rfl
def om_7_78 : List Bool := true :: true :: true :: true :: false :: false :: false :: []
def om_7_47 : List Bool := true :: false :: false :: false :: true :: true :: true :: []
theorem hd_X1_gainBy_2 : skD yX1_gainBy 2 := by decide +kernel
set_option maxHeartbeats 4000000 in
set_option maxRecDepth 100000 in
theorem c_bestPay (l : Launch) (D : va_G) (cI cJ cC cZ cS : ClassId) (q : Nat → Nat) (gd : Nat) (gs : Nat) (e1 : Nat → Int32) (e2 : Nat → Int32) (e3 : Nat → Int32) (e6 : Nat → Int64) (fg : Nat → Int64) (hgd : gd ≤ 9) (hgs : gs ≤ 9) : skM l yX1_bestPay cX1_bestPay 7 (some .long) 1 23 0 0 D (skT cI cJ cC cZ cS) [.ref (q 11)] [(q 11, .inr (1, [.ref (q 10), .ref (q 67), .ref (q 68), .ref (q 69), .ref (q 70), .ref (q 71), .ref (q 72), .int (nI gd), .int (nI gs)])), (q 67, .inl (cI, 90, .inl e1)), (q 68, .inl (cI, 9, .inl e2)), (q 69, .inl (cI, 10, .inl e3)), (q 72, .inl (cJ, 100, .inr (.inl e6))), (q 10, .inr (9, [.ref (q 61), .ref (q 62), .ref (q 63), .ref (q 64), .ref (q 65), .ref (q 66)])), (q 65, .inl (cJ, 90, .inr (.inl fg)))] (skL D (skT cI cJ cC cZ cS) (fun (r : Int64) (u : va_W) => ∃ (g6 : Nat → Int64), u = [(q 11, .inr (1, [.ref (q 10), .ref (q 67), .ref (q 68), .ref (q 69), .ref (q 70), .ref (q 71), .ref (q 72), .int (nI gd), .int (nI gs)])), (q 67, .inl (cI, 90, .inl e1)), (q 68, .inl (cI, 9, .inl e2)), (q 69, .inl (cI, 10, .inl e3)), (q 72, .inl (cJ, 100, .inr (.inl g6))), (q 10, .inr (9, [.ref (q 61), .ref (q 62), .ref (q 63), .ref (q 64), .ref (q 65), .ref (q 66)])), (q 65, .inl (cJ, 90, .inr (.inl fg)))])) := by
  refine skM_of pf_X1_bestPay (Nat.le_of_ble_eq_true rfl) ?_
  intro p e s m below meth c A ls E hP hD hl
  refine skE_el E (fun hx hb hr hml hlocks hin hown hts hK hA => ?_)
  have hown : s.vm.findClass RX1 = some m.cls := hown
  have hS : va_S A s.heap s.heap [] := va_S.rf
  have hl : lv_has ls 7 [(0, .ref (q 11))] := hl
  refine lv_iconst (v := 0) hx hb dX1_bestPay_0 (by decide) ?_
  refine lv_istore_n (lv' := [(1, .int 0), (0, .ref (q 11))]) hx hb dX1_bestPay_1 rfl hl (by decide) rfl (fun ls hl => ?_)
  have lp_1 : ∀ (n_2 : Nat) (i : Nat) (a6 : Nat → Int64) (H : Heap) (locs : List Loc) (ls : Array Slot), 10 - i < n_2 → (i ≤ 10) → va_P D vwCl [(q 11, .inr (1, [.ref (q 10), .ref (q 67), .ref (q 68), .ref (q 69), .ref (q 70), .ref (q 71), .ref (q 72), .int (nI gd), .int (nI gs)])), (q 67, .inl (cI, 90, .inl e1)), (q 68, .inl (cI, 9, .inl e2)), (q 69, .inl (cI, 10, .inl e3)), (q 72, .inl (cJ, 100, .inr (.inl a6))), (q 10, .inr (9, [.ref (q 61), .ref (q 62), .ref (q 63), .ref (q 64), .ref (q 65), .ref (q 66)])), (q 65, .inl (cJ, 90, .inr (.inl fg)))] H → va_D A [(q 11, .inr (1, [.ref (q 10), .ref (q 67), .ref (q 68), .ref (q 69), .ref (q 70), .ref (q 71), .ref (q 72), .int (nI gd), .int (nI gs)])), (q 67, .inl (cI, 90, .inl e1)), (q 68, .inl (cI, 9, .inl e2)), (q 69, .inl (cI, 10, .inl e3)), (q 72, .inl (cJ, 100, .inr (.inl a6))), (q 10, .inr (9, [.ref (q 61), .ref (q 62), .ref (q 63), .ref (q 64), .ref (q 65), .ref (q 66)])), (q 65, .inl (cJ, 90, .inr (.inl fg)))] → va_S A s.heap H locs → lv_has ls 7 [(1, .int (nI i)), (0, .ref (q 11))] → W p l e { frames := 1, cells := 0, slots := 0, locals := 23 } s m ([.ref (q 11)] : List Value).toArray below meth c H locs 0 0 (MQ below (skL D (skT cI cJ cC cZ cS) (fun (r : Int64) (u : va_W) => ∃ (g6 : Nat → Int64), u = [(q 11, .inr (1, [.ref (q 10), .ref (q 67), .ref (q 68), .ref (q 69), .ref (q 70), .ref (q 71), .ref (q 72), .int (nI gd), .int (nI gs)])), (q 67, .inl (cI, 90, .inl e1)), (q 68, .inl (cI, 9, .inl e2)), (q 69, .inl (cI, 10, .inl e3)), (q 72, .inl (cJ, 100, .inr (.inl g6))), (q 10, .inr (9, [.ref (q 61), .ref (q 62), .ref (q 63), .ref (q 64), .ref (q 65), .ref (q 66)])), (q 65, .inl (cJ, 90, .inr (.inl fg)))]) A) ([.ref (q 11)] : List Value).toArray s 0 0 A) (F0 m 2 ls []) := by
    intro n_2
    induction n_2 with
    | zero => intro i a6 H locs ls hm; exact absurd hm (Nat.not_lt_zero _)
    | succ n_2 ih_lp_1 =>
      intro i a6 H locs ls hm hi hP hD hS hl
      refine lv_iload_n hx hb dX1_bestPay_2 rfl (lv_at hl 0 rfl) ?_
      refine lv_bipush (v := 10) hx hb dX1_bestPay_3 (by decide) ?_
      refine lv_icmp_ge (tgt := 29) hx hb dX1_bestPay_5 (by decide) (fun c_3 => ?_) (fun c_3 => ?_)
      · have c_3 : 10 ≤ i := (nle 10 i (by omega) (by omega)).mp c_3
        refine lv_aload_n hx hb dX1_bestPay_29 rfl (lv_at hl 1 rfl) ?_
        refine sk_get (v := .int (nI gd)) (C := RX1) (T := TX1) (N := 9) hx hb hts inlX1 hown hK hP 0 rfl rfl 7 (by decide) w_2_102 rfl dX1_bestPay_30 ?_
        refine lv_iconst (v := 1) hx hb dX1_bestPay_33 (by decide) ?_
        refine lv_isub hx hb dX1_bestPay_34 ?_
        refine lv_istore_n (lv' := [(1, .int (nI gd - 1)), (0, .ref (q 11))]) hx hb dX1_bestPay_35 rfl hl (by decide) rfl (fun ls hl => ?_)
        have lp_4 : ∀ (n_5 : Nat) (dd : Nat) (b6 : Nat → Int64) (H : Heap) (locs : List Loc) (ls : Array Slot), dd < n_5 → (dd ≤ 9) → va_P D vwCl [(q 11, .inr (1, [.ref (q 10), .ref (q 67), .ref (q 68), .ref (q 69), .ref (q 70), .ref (q 71), .ref (q 72), .int (nI gd), .int (nI gs)])), (q 67, .inl (cI, 90, .inl e1)), (q 68, .inl (cI, 9, .inl e2)), (q 69, .inl (cI, 10, .inl e3)), (q 72, .inl (cJ, 100, .inr (.inl b6))), (q 10, .inr (9, [.ref (q 61), .ref (q 62), .ref (q 63), .ref (q 64), .ref (q 65), .ref (q 66)])), (q 65, .inl (cJ, 90, .inr (.inl fg)))] H → va_D A [(q 11, .inr (1, [.ref (q 10), .ref (q 67), .ref (q 68), .ref (q 69), .ref (q 70), .ref (q 71), .ref (q 72), .int (nI gd), .int (nI gs)])), (q 67, .inl (cI, 90, .inl e1)), (q 68, .inl (cI, 9, .inl e2)), (q 69, .inl (cI, 10, .inl e3)), (q 72, .inl (cJ, 100, .inr (.inl b6))), (q 10, .inr (9, [.ref (q 61), .ref (q 62), .ref (q 63), .ref (q 64), .ref (q 65), .ref (q 66)])), (q 65, .inl (cJ, 90, .inr (.inl fg)))] → va_S A s.heap H locs → lv_has ls 7 [(1, .int (nI dd - 1)), (0, .ref (q 11))] → W p l e { frames := 1, cells := 0, slots := 0, locals := 23 } s m ([.ref (q 11)] : List Value).toArray below meth c H locs 0 0 (MQ below (skL D (skT cI cJ cC cZ cS) (fun (r : Int64) (u : va_W) => ∃ (g6 : Nat → Int64), u = [(q 11, .inr (1, [.ref (q 10), .ref (q 67), .ref (q 68), .ref (q 69), .ref (q 70), .ref (q 71), .ref (q 72), .int (nI gd), .int (nI gs)])), (q 67, .inl (cI, 90, .inl e1)), (q 68, .inl (cI, 9, .inl e2)), (q 69, .inl (cI, 10, .inl e3)), (q 72, .inl (cJ, 100, .inr (.inl g6))), (q 10, .inr (9, [.ref (q 61), .ref (q 62), .ref (q 63), .ref (q 64), .ref (q 65), .ref (q 66)])), (q 65, .inl (cJ, 90, .inr (.inl fg)))]) A) ([.ref (q 11)] : List Value).toArray s 0 0 A) (F0 m 36 ls []) := by
          intro n_5
          induction n_5 with
          | zero => intro dd b6 H locs ls hm; exact absurd hm (Nat.not_lt_zero _)
          | succ n_5 ih_lp_4 =>
            intro dd b6 H locs ls hm hdd hP hD hS hl
            refine lv_iload_n hx hb dX1_bestPay_36 rfl (lv_at hl 0 rfl) ?_
            refine lv_if_lt (tgt := 125) hx hb dX1_bestPay_37 (by decide) (fun c_6 => ?_) (fun c_6 => ?_)
            · have c_6 : dd = 0 := npm0 dd (by omega) c_6
              refine lv_aload_n hx hb dX1_bestPay_125 rfl (lv_at hl 1 rfl) ?_
              refine sk_get (v := .ref (q 72)) (C := RX1) (T := TX1) (N := 9) hx hb hts inlX1 hown hK hP 0 rfl rfl 6 (by decide) w_2_101 rfl dX1_bestPay_126 ?_
              refine lv_aload_n hx hb dX1_bestPay_129 rfl (lv_at hl 1 rfl) ?_
              refine sk_get (v := .int (nI gs)) (C := RX1) (T := TX1) (N := 9) hx hb hts inlX1 hown hK hP 0 rfl rfl 8 (by decide) w_2_103 rfl dX1_bestPay_130 ?_
              refine va_lald hx hb hK.1 hP 4 1 rfl rfl (vin gs 100 (by omega) (by omega)) dX1_bestPay_133 ?_
              refine lv_topl (fun v_7 ev_7 => ?_)
              exact sk_lret hx hb hr hlocks hK hP hD hS (⟨b6, rfl⟩) (Nat.le_of_ble_eq_true rfl) (Nat.le_of_ble_eq_true rfl) dX1_bestPay_134
            · have c_6 : 1 ≤ dd := npm1 dd c_6
              rw [npred dd (by omega)] at hl
              refine lv_iconst (v := 0) hx hb dX1_bestPay_40 (by decide) ?_
              refine lv_istore_n (lv' := [(2, .int 0), (1, .int (nI (dd - 1))), (0, .ref (q 11))]) hx hb dX1_bestPay_41 rfl hl (by decide) rfl (fun ls hl => ?_)
              have lp_8 : ∀ (n_9 : Nat) (jj : Nat) (c6 : Nat → Int64) (H : Heap) (locs : List Loc) (ls : Array Slot), 10 - jj < n_9 → (jj ≤ 10) → va_P D vwCl [(q 11, .inr (1, [.ref (q 10), .ref (q 67), .ref (q 68), .ref (q 69), .ref (q 70), .ref (q 71), .ref (q 72), .int (nI gd), .int (nI gs)])), (q 67, .inl (cI, 90, .inl e1)), (q 68, .inl (cI, 9, .inl e2)), (q 69, .inl (cI, 10, .inl e3)), (q 72, .inl (cJ, 100, .inr (.inl c6))), (q 10, .inr (9, [.ref (q 61), .ref (q 62), .ref (q 63), .ref (q 64), .ref (q 65), .ref (q 66)])), (q 65, .inl (cJ, 90, .inr (.inl fg)))] H → va_D A [(q 11, .inr (1, [.ref (q 10), .ref (q 67), .ref (q 68), .ref (q 69), .ref (q 70), .ref (q 71), .ref (q 72), .int (nI gd), .int (nI gs)])), (q 67, .inl (cI, 90, .inl e1)), (q 68, .inl (cI, 9, .inl e2)), (q 69, .inl (cI, 10, .inl e3)), (q 72, .inl (cJ, 100, .inr (.inl c6))), (q 10, .inr (9, [.ref (q 61), .ref (q 62), .ref (q 63), .ref (q 64), .ref (q 65), .ref (q 66)])), (q 65, .inl (cJ, 90, .inr (.inl fg)))] → va_S A s.heap H locs → lv_has ls 7 [(2, .int (nI jj)), (1, .int (nI (dd - 1))), (0, .ref (q 11))] → W p l e { frames := 1, cells := 0, slots := 0, locals := 23 } s m ([.ref (q 11)] : List Value).toArray below meth c H locs 0 0 (MQ below (skL D (skT cI cJ cC cZ cS) (fun (r : Int64) (u : va_W) => ∃ (g6 : Nat → Int64), u = [(q 11, .inr (1, [.ref (q 10), .ref (q 67), .ref (q 68), .ref (q 69), .ref (q 70), .ref (q 71), .ref (q 72), .int (nI gd), .int (nI gs)])), (q 67, .inl (cI, 90, .inl e1)), (q 68, .inl (cI, 9, .inl e2)), (q 69, .inl (cI, 10, .inl e3)), (q 72, .inl (cJ, 100, .inr (.inl g6))), (q 10, .inr (9, [.ref (q 61), .ref (q 62), .ref (q 63), .ref (q 64), .ref (q 65), .ref (q 66)])), (q 65, .inl (cJ, 90, .inr (.inl fg)))]) A) ([.ref (q 11)] : List Value).toArray s 0 0 A) (F0 m 42 ls []) := by
                intro n_9
                induction n_9 with
                | zero => intro jj c6 H locs ls hm; exact absurd hm (Nat.not_lt_zero _)
                | succ n_9 ih_lp_8 =>
                  intro jj c6 H locs ls hm hjj hP hD hS hl
                  refine lv_iload_n hx hb dX1_bestPay_42 rfl (lv_at hl 0 rfl) ?_
                  refine lv_bipush (v := 10) hx hb dX1_bestPay_43 (by decide) ?_
                  refine lv_icmp_ge (tgt := 119) hx hb dX1_bestPay_45 (by decide) (fun c_10 => ?_) (fun c_10 => ?_)
                  · have c_10 : 10 ≤ jj := (nle 10 jj (by omega) (by omega)).mp c_10
                    refine lv_iinc (v := nI (dd - 1) - 1) (lv' := [(1, .int (nI (dd - 1) - 1)), (2, .int (nI jj)), (0, .ref (q 11))]) hx hb dX1_bestPay_119 hl (k := 1) rfl (ndn _) (by decide) rfl (fun ls hl => ?_)
                    refine lv_goto (tgt := 36) hx hb dX1_bestPay_122 (by decide) ?_
                    exact ih_lp_4 (dd - 1) c6 _ _ _ (by omega) (by omega) hP hD hS (lv_sub hl [0, 2] rfl)
                  · have c_10 : ¬ (10 ≤ jj) := fun h => c_10 ((nle 10 jj (by omega) (by omega)).mpr h)
                    refine lv_aload_n hx hb dX1_bestPay_48 rfl (lv_at hl 2 rfl) ?_
                    refine lv_iload_n hx hb dX1_bestPay_49 rfl (lv_at hl 1 rfl) ?_
                    refine lv_iload_n hx hb dX1_bestPay_50 rfl (lv_at hl 0 rfl) ?_
                    refine sk_Vi (q0 := 0) (n := 2) (rest := []) (wr := fmR om_7_78 _) ⟨hx, hb, hml, hown, hts⟩ hl.1 (c_next l D cI cJ cC cZ cS q gd gs e1 e2 e3 (dd - 1) jj (by omega) (by omega)) w_4_57 w_4_59 w_0_20 w_1_13 w_4_60 hd_X1_next_2 ⟨⟨(Nat.le_of_ble_eq_true rfl), (Nat.le_of_ble_eq_true rfl)⟩, (Nat.le_of_ble_eq_true rfl), (Nat.le_of_ble_eq_true rfl)⟩ hK hP hD hS hA (fmT om_7_78 0) (fmF om_7_78 0) (fm_C1 rfl rfl) (fm_R rfl rfl) (fm_nT om_7_78 0) (fm_nF om_7_78 0) (fm_di om_7_78 0) rfl rfl rfl rfl (Nat.le_of_ble_eq_true rfl) dX1_bestPay_51 (fun r_11 u H locs hw hP hD hS => ?_)
                    refine o_mgE (ws' := [(q 11, .inr (1, [.ref (q 10), .ref (q 67), .ref (q 68), .ref (q 69), .ref (q 70), .ref (q 71), .ref (q 72), .int (nI gd), .int (nI gs)])), (q 67, .inl (cI, 90, .inl e1)), (q 68, .inl (cI, 9, .inl e2)), (q 69, .inl (cI, 10, .inl e3)), (q 72, .inl (cJ, 100, .inr (.inl c6))), (q 10, .inr (9, [.ref (q 61), .ref (q 62), .ref (q 63), .ref (q 64), .ref (q 65), .ref (q 66)])), (q 65, .inl (cJ, 90, .inr (.inl fg)))]) hw hP hD rfl (fun hP hD => ?_)
                    refine lv_istore_n (lv' := [(3, .int r_11), (2, .int (nI jj)), (1, .int (nI (dd - 1))), (0, .ref (q 11))]) hx hb dX1_bestPay_54 rfl hl (by decide) rfl (fun ls hl => ?_)
                    refine lv_ldc2 (v := (-1000000000000000)) hx hb hown (hts _ w_4_160) dX1_bestPay_55 ?_
                    refine lv_lstore (lv' := [(4, .long (-1000000000000000)), (3, .int r_11), (2, .int (nI jj)), (1, .int (nI (dd - 1))), (0, .ref (q 11))]) hx hb dX1_bestPay_58 hl (by decide) rfl (fun ls hl => ?_)
                    refine lv_iconst (v := 0) hx hb dX1_bestPay_60 (by decide) ?_
                    refine lv_istore (lv' := [(6, .int 0), (4, .long (-1000000000000000)), (3, .int r_11), (2, .int (nI jj)), (1, .int (nI (dd - 1))), (0, .ref (q 11))]) hx hb dX1_bestPay_61 hl (by decide) rfl (fun ls hl => ?_)
                    have lp_12 : ∀ (n_13 : Nat) (kk : Nat) (sm : Int64) (H : Heap) (locs : List Loc) (ls : Array Slot), 10 - kk < n_13 → (kk ≤ 10) → va_P D vwCl [(q 11, .inr (1, [.ref (q 10), .ref (q 67), .ref (q 68), .ref (q 69), .ref (q 70), .ref (q 71), .ref (q 72), .int (nI gd), .int (nI gs)])), (q 67, .inl (cI, 90, .inl e1)), (q 68, .inl (cI, 9, .inl e2)), (q 69, .inl (cI, 10, .inl e3)), (q 72, .inl (cJ, 100, .inr (.inl c6))), (q 10, .inr (9, [.ref (q 61), .ref (q 62), .ref (q 63), .ref (q 64), .ref (q 65), .ref (q 66)])), (q 65, .inl (cJ, 90, .inr (.inl fg)))] H → va_D A [(q 11, .inr (1, [.ref (q 10), .ref (q 67), .ref (q 68), .ref (q 69), .ref (q 70), .ref (q 71), .ref (q 72), .int (nI gd), .int (nI gs)])), (q 67, .inl (cI, 90, .inl e1)), (q 68, .inl (cI, 9, .inl e2)), (q 69, .inl (cI, 10, .inl e3)), (q 72, .inl (cJ, 100, .inr (.inl c6))), (q 10, .inr (9, [.ref (q 61), .ref (q 62), .ref (q 63), .ref (q 64), .ref (q 65), .ref (q 66)])), (q 65, .inl (cJ, 90, .inr (.inl fg)))] → va_S A s.heap H locs → lv_has ls 7 [(6, .int (nI kk)), (4, .long sm), (3, .int r_11), (2, .int (nI jj)), (1, .int (nI (dd - 1))), (0, .ref (q 11))] → W p l e { frames := 1, cells := 0, slots := 0, locals := 23 } s m ([.ref (q 11)] : List Value).toArray below meth c H locs 0 0 (MQ below (skL D (skT cI cJ cC cZ cS) (fun (r : Int64) (u : va_W) => ∃ (g6 : Nat → Int64), u = [(q 11, .inr (1, [.ref (q 10), .ref (q 67), .ref (q 68), .ref (q 69), .ref (q 70), .ref (q 71), .ref (q 72), .int (nI gd), .int (nI gs)])), (q 67, .inl (cI, 90, .inl e1)), (q 68, .inl (cI, 9, .inl e2)), (q 69, .inl (cI, 10, .inl e3)), (q 72, .inl (cJ, 100, .inr (.inl g6))), (q 10, .inr (9, [.ref (q 61), .ref (q 62), .ref (q 63), .ref (q 64), .ref (q 65), .ref (q 66)])), (q 65, .inl (cJ, 90, .inr (.inl fg)))]) A) ([.ref (q 11)] : List Value).toArray s 0 0 A) (F0 m 63 ls []) := by
                      intro n_13
                      induction n_13 with
                      | zero => intro kk sm H locs ls hm; exact absurd hm (Nat.not_lt_zero _)
                      | succ n_13 ih_lp_12 =>
                        intro kk sm H locs ls hm hkk hP hD hS hl
                        refine lv_iload hx hb dX1_bestPay_63 (lv_at hl 0 rfl) ?_
                        refine lv_bipush (v := 10) hx hb dX1_bestPay_65 (by decide) ?_
                        refine lv_icmp_ge (tgt := 100) hx hb dX1_bestPay_67 (by decide) (fun c_14 => ?_) (fun c_14 => ?_)
                        · have c_14 : 10 ≤ kk := (nle 10 kk (by omega) (by omega)).mp c_14
                          refine lv_aload_n hx hb dX1_bestPay_100 rfl (lv_at hl 5 rfl) ?_
                          refine sk_get (v := .ref (q 72)) (C := RX1) (T := TX1) (N := 9) hx hb hts inlX1 hown hK hP 0 rfl rfl 6 (by decide) w_2_101 rfl dX1_bestPay_101 ?_
                          refine lv_iload_n hx hb dX1_bestPay_104 rfl (lv_at hl 4 rfl) ?_
                          refine lv_bipush (v := 10) hx hb dX1_bestPay_105 (by decide) ?_
                          refine lv_imul hx hb dX1_bestPay_107 ?_
                          refine sk_top (nI ((dd - 1) * 10)) (nmul (dd - 1) 10) ?_
                          refine lv_iload_n hx hb dX1_bestPay_108 rfl (lv_at hl 3 rfl) ?_
                          refine lv_iadd hx hb dX1_bestPay_109 ?_
                          refine sk_top (nI ((dd - 1) * 10 + jj)) (nI_add ((dd - 1) * 10) jj) ?_
                          refine lv_lload hx hb dX1_bestPay_110 (lv_at hl 1 rfl) ?_
                          refine sk_lastO (ws' := fun f_15 => [(q 11, .inr (1, [.ref (q 10), .ref (q 67), .ref (q 68), .ref (q 69), .ref (q 70), .ref (q 71), .ref (q 72), .int (nI gd), .int (nI gs)])), (q 67, .inl (cI, 90, .inl e1)), (q 68, .inl (cI, 9, .inl e2)), (q 69, .inl (cI, 10, .inl e3)), (q 72, .inl (cJ, 100, .inr (.inl f_15))), (q 10, .inr (9, [.ref (q 61), .ref (q 62), .ref (q 63), .ref (q 64), .ref (q 65), .ref (q 66)])), (q 65, .inl (cJ, 90, .inr (.inl fg)))]) hx hb hK hP hD hS 4 1 rfl rfl (vin ((dd - 1) * 10 + jj) 100 (by omega) (by omega)) (fun _ => rfl) dX1_bestPay_112 (fun f_15 H locs hP hD hS => ?_)
                          refine lv_iinc (v := nI (jj + 1)) (lv' := [(2, .int (nI (jj + 1))), (6, .int (nI kk)), (4, .long sm), (3, .int r_11), (1, .int (nI (dd - 1))), (0, .ref (q 11))]) hx hb dX1_bestPay_113 hl (k := 3) rfl (ninc jj 1 (by decide)) (by decide) rfl (fun ls hl => ?_)
                          refine lv_goto (tgt := 42) hx hb dX1_bestPay_116 (by decide) ?_
                          exact ih_lp_8 (jj + 1) f_15 _ _ _ (by omega) (by omega) hP hD hS (lv_sub hl [0, 4, 5] rfl)
                        · have c_14 : ¬ (10 ≤ kk) := fun h => c_14 ((nle 10 kk (by omega) (by omega)).mpr h)
                          refine lv_iload_n hx hb dX1_bestPay_70 rfl (lv_at hl 2 rfl) ?_
                          refine lv_iload hx hb dX1_bestPay_71 (lv_at hl 0 rfl) ?_
                          refine lv_ishr hx hb dX1_bestPay_73 ?_
                          refine lv_topi (fun v_16 ev_16 => ?_)
                          refine lv_iconst (v := 1) hx hb dX1_bestPay_74 (by decide) ?_
                          refine lv_iand hx hb dX1_bestPay_75 ?_
                          refine lv_topi (fun v_17 ev_17 => ?_)
                          refine lv_iconst (v := 1) hx hb dX1_bestPay_76 (by decide) ?_
                          refine lv_icmp_ne (tgt := 94) hx hb dX1_bestPay_77 (by decide) (fun c_18 => ?_) (fun c_18 => ?_)
                          · skip
                            refine lv_iinc (v := nI (kk + 1)) (lv' := [(6, .int (nI (kk + 1))), (4, .long sm), (3, .int r_11), (2, .int (nI jj)), (1, .int (nI (dd - 1))), (0, .ref (q 11))]) hx hb dX1_bestPay_94 hl (k := 0) rfl (ninc kk 1 (by decide)) (by decide) rfl (fun ls hl => ?_)
                            refine lv_goto (tgt := 63) hx hb dX1_bestPay_97 (by decide) ?_
                            exact ih_lp_12 (kk + 1) sm _ _ _ (by omega) (by omega) hP hD hS (lv_sub hl [0, 1, 2, 3, 4, 5] rfl)
                          · skip
                            refine lv_lload hx hb dX1_bestPay_80 (lv_at hl 1 rfl) ?_
                            refine lv_aload_n hx hb dX1_bestPay_82 rfl (lv_at hl 5 rfl) ?_
                            refine lv_iload_n hx hb dX1_bestPay_83 rfl (lv_at hl 4 rfl) ?_
                            refine lv_iload hx hb dX1_bestPay_84 (lv_at hl 0 rfl) ?_
                            refine sk_Vl (q0 := 0) (n := 2) (rest := [.long sm]) (wr := fmR om_7_47 _) ⟨hx, hb, hml, hown, hts⟩ hl.1 (c_gainBy l D cI cJ cC cZ cS q gd gs c6 fg (dd - 1) kk (by omega) (by omega)) w_4_161 w_4_163 w_0_26 w_1_13 w_4_164 hd_X1_gainBy_2 ⟨⟨(Nat.le_of_ble_eq_true rfl), (Nat.le_of_ble_eq_true rfl)⟩, (Nat.le_of_ble_eq_true rfl), (Nat.le_of_ble_eq_true rfl)⟩ hK hP hD hS hA (fmT om_7_47 0) (fmF om_7_47 0) (fm_C1 rfl rfl) (fm_R rfl rfl) (fm_nT om_7_47 0) (fm_nF om_7_47 0) (fm_di om_7_47 0) rfl rfl rfl rfl (Nat.le_of_ble_eq_true rfl) dX1_bestPay_86 (fun r_19 u H locs hw hP hD hS => ?_)
                            refine o_mgE (ws' := [(q 11, .inr (1, [.ref (q 10), .ref (q 67), .ref (q 68), .ref (q 69), .ref (q 70), .ref (q 71), .ref (q 72), .int (nI gd), .int (nI gs)])), (q 67, .inl (cI, 90, .inl e1)), (q 68, .inl (cI, 9, .inl e2)), (q 69, .inl (cI, 10, .inl e3)), (q 72, .inl (cJ, 100, .inr (.inl c6))), (q 10, .inr (9, [.ref (q 61), .ref (q 62), .ref (q 63), .ref (q 64), .ref (q 65), .ref (q 66)])), (q 65, .inl (cJ, 90, .inr (.inl fg)))]) hw hP hD rfl (fun hP hD => ?_)
                            refine va_mmax_long hx hb (by rw [hml]; exact hl.1.symm) hown (hts _ w_4_165) (hts _ w_4_0) (hts _ w_1_3) (hts _ w_4_1) (Nat.le_of_ble_eq_true rfl) (Nat.le_of_ble_eq_true rfl) (Nat.le_of_ble_eq_true rfl) (Nat.le_of_ble_eq_true rfl) dX1_bestPay_89 ?_
                            refine lv_topl (fun v_20 ev_20 => ?_)
                            refine lv_lstore (lv' := [(4, .long v_20), (6, .int (nI kk)), (3, .int r_11), (2, .int (nI jj)), (1, .int (nI (dd - 1))), (0, .ref (q 11))]) hx hb dX1_bestPay_92 hl (by decide) rfl (fun ls hl => ?_)
                            refine lv_iinc (v := nI (kk + 1)) (lv' := [(6, .int (nI (kk + 1))), (4, .long v_20), (3, .int r_11), (2, .int (nI jj)), (1, .int (nI (dd - 1))), (0, .ref (q 11))]) hx hb dX1_bestPay_94 hl (k := 1) rfl (ninc kk 1 (by decide)) (by decide) rfl (fun ls hl => ?_)
                            refine lv_goto (tgt := 63) hx hb dX1_bestPay_97 (by decide) ?_
                            exact ih_lp_12 (kk + 1) v_20 _ _ _ (by omega) (by omega) hP hD hS (lv_sub hl [0, 1, 2, 3, 4, 5] rfl)
                    exact lp_12 (10 - 0 + 1) 0 (-1000000000000000) _ _ _ (Nat.lt_succ_self _) (by omega) hP hD hS (lv_sub hl [0, 1, 2, 3, 4, 5] rfl)
              exact lp_8 (10 - 0 + 1) 0 b6 _ _ _ (Nat.lt_succ_self _) (by omega) hP hD hS (lv_sub hl [0, 1, 2] rfl)
        exact lp_4 (gd + 1) gd a6 _ _ _ (Nat.lt_succ_self _) (by omega) hP hD hS (lv_sub hl [0, 1] rfl)
      · have c_3 : ¬ (10 ≤ i) := fun h => c_3 ((nle 10 i (by omega) (by omega)).mpr h)
        refine lv_aload_n hx hb dX1_bestPay_8 rfl (lv_at hl 1 rfl) ?_
        refine sk_get (v := .ref (q 72)) (C := RX1) (T := TX1) (N := 9) hx hb hts inlX1 hown hK hP 0 rfl rfl 6 (by decide) w_2_101 rfl dX1_bestPay_9 ?_
        refine lv_aload_n hx hb dX1_bestPay_12 rfl (lv_at hl 1 rfl) ?_
        refine sk_get (v := .int (nI gd)) (C := RX1) (T := TX1) (N := 9) hx hb hts inlX1 hown hK hP 0 rfl rfl 7 (by decide) w_2_102 rfl dX1_bestPay_13 ?_
        refine lv_bipush (v := 10) hx hb dX1_bestPay_16 (by decide) ?_
        refine lv_imul hx hb dX1_bestPay_18 ?_
        refine sk_top (nI (gd * 10)) (nmul gd 10) ?_
        refine lv_iload_n hx hb dX1_bestPay_19 rfl (lv_at hl 0 rfl) ?_
        refine lv_iadd hx hb dX1_bestPay_20 ?_
        refine sk_top (nI (gd * 10 + i)) (nI_add (gd * 10) i) ?_
        refine lv_lconst (v := 0) hx hb dX1_bestPay_21 (by decide) ?_
        refine sk_lastO (ws' := fun f_21 => [(q 11, .inr (1, [.ref (q 10), .ref (q 67), .ref (q 68), .ref (q 69), .ref (q 70), .ref (q 71), .ref (q 72), .int (nI gd), .int (nI gs)])), (q 67, .inl (cI, 90, .inl e1)), (q 68, .inl (cI, 9, .inl e2)), (q 69, .inl (cI, 10, .inl e3)), (q 72, .inl (cJ, 100, .inr (.inl f_21))), (q 10, .inr (9, [.ref (q 61), .ref (q 62), .ref (q 63), .ref (q 64), .ref (q 65), .ref (q 66)])), (q 65, .inl (cJ, 90, .inr (.inl fg)))]) hx hb hK hP hD hS 4 1 rfl rfl (vin (gd * 10 + i) 100 (by omega) (by omega)) (fun _ => rfl) dX1_bestPay_22 (fun f_21 H locs hP hD hS => ?_)
        refine lv_iinc (v := nI (i + 1)) (lv' := [(1, .int (nI (i + 1))), (0, .ref (q 11))]) hx hb dX1_bestPay_23 hl (k := 0) rfl (ninc i 1 (by decide)) (by decide) rfl (fun ls hl => ?_)
        refine lv_goto (tgt := 2) hx hb dX1_bestPay_26 (by decide) ?_
        exact ih_lp_1 (i + 1) f_21 _ _ _ (by omega) (by omega) hP hD hS (lv_sub hl [0, 1] rfl)
  exact lp_1 (10 - 0 + 1) 0 e6 _ _ _ (Nat.lt_succ_self _) (by omega) hP hD hS (lv_sub hl [0, 1] rfl)
