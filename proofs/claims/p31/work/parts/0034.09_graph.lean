theorem dX1_countWays_49 : decode cX1_countWays 49 = .ok (.iload_n 1, 1) := q_iload_n1 (bat_get dg_X1_countWays_0_0 26 rfl rfl)
theorem dX1_countWays_50 : decode cX1_countWays 50 = .ok (.iload_n 2, 1) := q_iload_n2 (bat_get dg_X1_countWays_0_0 27 rfl rfl)
theorem dX1_countWays_51 : decode cX1_countWays 51 = .ok (.invokevirtual 66, 3) := q_invokevirtual (bat_get dg_X1_countWays_0_0 28 rfl rfl) rfl
theorem dX1_countWays_54 : decode cX1_countWays 54 = .ok (.istore_n 3, 1) := q_istore_n3 (bat_get dg_X1_countWays_0_0 29 rfl rfl)
theorem dX1_countWays_55 : decode cX1_countWays 55 = .ok (.lconst 0, 1) := q_lconst0 (bat_get dg_X1_countWays_0_0 30 rfl rfl)
theorem dX1_countWays_56 : decode cX1_countWays 56 = .ok (.lstore 4, 2) := q_lstore (bat_get dg_X1_countWays_0_0 31 rfl rfl)
theorem dX1_countWays_58 : decode cX1_countWays 58 = .ok (.iconst 0, 1) := q_iconst0 (bat_get dg_X1_countWays_0_0 32 rfl rfl)
theorem dX1_countWays_59 : decode cX1_countWays 59 = .ok (.istore 6, 2) := q_istore (bat_get dg_X1_countWays_0_0 33 rfl rfl)
theorem dX1_countWays_61 : decode cX1_countWays 61 = .ok (.iload 6, 2) := q_iload (bat_get dg_X1_countWays_0_0 34 rfl rfl)
theorem dX1_countWays_63 : decode cX1_countWays 63 = .ok (.bipush 10, 2) := q_bipush (bat_get dg_X1_countWays_0_0 35 rfl rfl) rfl
theorem dX1_countWays_65 : decode cX1_countWays 65 = .ok (.if_icmp .ge 42, 3) := q_if_icmp_ge (bat_get dg_X1_countWays_0_0 36 rfl rfl) rfl
theorem dX1_countWays_107 : decode cX1_countWays 107 = .ok (.aload_n 0, 1) := q_aload_n0 (bat_get dg_X1_countWays_0_0 37 rfl rfl)
theorem dX1_countWays_108 : decode cX1_countWays 108 = .ok (.getfield 21, 3) := q_getfield (bat_get dg_X1_countWays_0_0 38 rfl rfl) rfl
theorem dX1_countWays_111 : decode cX1_countWays 111 = .ok (.iload_n 1, 1) := q_iload_n1 (bat_get dg_X1_countWays_0_0 39 rfl rfl)
theorem dg_X1_countWays_8_112 : bqL cX1_countWays 8 [(104, [16, 10]), (106, [104]), (107, [28]), (108, [96]), (109, [22, 4]), (111, [80]), (112, [132, 2, 1]), (115, [167, 255, 175]), (60, [22, 4]), (62, [29]), (63, [21, 6]), (65, [122]), (66, [4]), (67, [126]), (68, [4]), (69, [160, 0, 20]), (89, [9]), (90, [97]), (91, [55, 4]), (93, [132, 6, 1]), (96, [167, 255, 213]), (72, [42]), (73, [180, 0, 21]), (76, [27]), (77, [4]), (78, [96]), (79, [16, 10]), (81, [104]), (82, [21, 6]), (84, [96]), (85, [47]), (86, [167, 0, 4]), (0, [42]), (1, [180, 0, 21]), (4, [42]), (5, [180, 0, 31]), (8, [16, 10]), (10, [104]), (11, [27]), (12, [96])] = true := by decide +kernel
theorem dX1_countWays_112 : decode cX1_countWays 112 = .ok (.bipush 10, 2) := q_bipush (bat_get dg_X1_countWays_8_112 0 rfl rfl) rfl
theorem dX1_countWays_114 : decode cX1_countWays 114 = .ok (.imul, 1) := q_imul (bat_get dg_X1_countWays_8_112 1 rfl rfl)
theorem dX1_countWays_115 : decode cX1_countWays 115 = .ok (.iload_n 2, 1) := q_iload_n2 (bat_get dg_X1_countWays_8_112 2 rfl rfl)
theorem dX1_countWays_116 : decode cX1_countWays 116 = .ok (.iadd, 1) := q_iadd (bat_get dg_X1_countWays_8_112 3 rfl rfl)
theorem dX1_countWays_117 : decode cX1_countWays 117 = .ok (.lload 4, 2) := q_lload (bat_get dg_X1_countWays_8_112 4 rfl rfl)
theorem dX1_countWays_119 : decode cX1_countWays 119 = .ok (.lastore, 1) := q_lastore (bat_get dg_X1_countWays_8_112 5 rfl rfl)
theorem dX1_countWays_120 : decode cX1_countWays 120 = .ok (.iinc 2 1, 3) := q_iinc (bat_get dg_X1_countWays_8_112 6 rfl rfl) rfl
theorem dX1_countWays_123 : decode cX1_countWays 123 = .ok (.goto (-81), 3) := q_goto (bat_get dg_X1_countWays_8_112 7 rfl rfl) rfl
theorem dX1_countWays_68 : decode cX1_countWays 68 = .ok (.lload 4, 2) := q_lload (bat_get dg_X1_countWays_8_112 8 rfl rfl)
theorem dX1_countWays_70 : decode cX1_countWays 70 = .ok (.iload_n 3, 1) := q_iload_n3 (bat_get dg_X1_countWays_8_112 9 rfl rfl)
theorem dX1_countWays_71 : decode cX1_countWays 71 = .ok (.iload 6, 2) := q_iload (bat_get dg_X1_countWays_8_112 10 rfl rfl)
theorem dX1_countWays_73 : decode cX1_countWays 73 = .ok (.ishr, 1) := q_ishr (bat_get dg_X1_countWays_8_112 11 rfl rfl)
theorem dX1_countWays_74 : decode cX1_countWays 74 = .ok (.iconst 1, 1) := q_iconst1 (bat_get dg_X1_countWays_8_112 12 rfl rfl)
theorem dX1_countWays_75 : decode cX1_countWays 75 = .ok (.iand, 1) := q_iand (bat_get dg_X1_countWays_8_112 13 rfl rfl)
theorem dX1_countWays_76 : decode cX1_countWays 76 = .ok (.iconst 1, 1) := q_iconst1 (bat_get dg_X1_countWays_8_112 14 rfl rfl)
theorem dX1_countWays_77 : decode cX1_countWays 77 = .ok (.if_icmp .ne 20, 3) := q_if_icmp_ne (bat_get dg_X1_countWays_8_112 15 rfl rfl) rfl
theorem dX1_countWays_97 : decode cX1_countWays 97 = .ok (.lconst 0, 1) := q_lconst0 (bat_get dg_X1_countWays_8_112 16 rfl rfl)
theorem dX1_countWays_98 : decode cX1_countWays 98 = .ok (.ladd, 1) := q_ladd (bat_get dg_X1_countWays_8_112 17 rfl rfl)
theorem dX1_countWays_99 : decode cX1_countWays 99 = .ok (.lstore 4, 2) := q_lstore (bat_get dg_X1_countWays_8_112 18 rfl rfl)
theorem dX1_countWays_101 : decode cX1_countWays 101 = .ok (.iinc 6 1, 3) := q_iinc (bat_get dg_X1_countWays_8_112 19 rfl rfl) rfl
theorem dX1_countWays_104 : decode cX1_countWays 104 = .ok (.goto (-43), 3) := q_goto (bat_get dg_X1_countWays_8_112 20 rfl rfl) rfl
theorem dX1_countWays_80 : decode cX1_countWays 80 = .ok (.aload_n 0, 1) := q_aload_n0 (bat_get dg_X1_countWays_8_112 21 rfl rfl)
theorem dX1_countWays_81 : decode cX1_countWays 81 = .ok (.getfield 21, 3) := q_getfield (bat_get dg_X1_countWays_8_112 22 rfl rfl) rfl
theorem dX1_countWays_84 : decode cX1_countWays 84 = .ok (.iload_n 1, 1) := q_iload_n1 (bat_get dg_X1_countWays_8_112 23 rfl rfl)
theorem dX1_countWays_85 : decode cX1_countWays 85 = .ok (.iconst 1, 1) := q_iconst1 (bat_get dg_X1_countWays_8_112 24 rfl rfl)
theorem dX1_countWays_86 : decode cX1_countWays 86 = .ok (.iadd, 1) := q_iadd (bat_get dg_X1_countWays_8_112 25 rfl rfl)
theorem dX1_countWays_87 : decode cX1_countWays 87 = .ok (.bipush 10, 2) := q_bipush (bat_get dg_X1_countWays_8_112 26 rfl rfl) rfl
theorem dX1_countWays_89 : decode cX1_countWays 89 = .ok (.imul, 1) := q_imul (bat_get dg_X1_countWays_8_112 27 rfl rfl)
theorem dX1_countWays_90 : decode cX1_countWays 90 = .ok (.iload 6, 2) := q_iload (bat_get dg_X1_countWays_8_112 28 rfl rfl)
theorem dX1_countWays_92 : decode cX1_countWays 92 = .ok (.iadd, 1) := q_iadd (bat_get dg_X1_countWays_8_112 29 rfl rfl)
theorem dX1_countWays_93 : decode cX1_countWays 93 = .ok (.laload, 1) := q_laload (bat_get dg_X1_countWays_8_112 30 rfl rfl)
theorem dX1_countWays_94 : decode cX1_countWays 94 = .ok (.goto 4, 3) := q_goto (bat_get dg_X1_countWays_8_112 31 rfl rfl) rfl
theorem dX1_countWays_8 : decode cX1_countWays 8 = .ok (.aload_n 0, 1) := q_aload_n0 (bat_get dg_X1_countWays_8_112 32 rfl rfl)
theorem dX1_countWays_9 : decode cX1_countWays 9 = .ok (.getfield 21, 3) := q_getfield (bat_get dg_X1_countWays_8_112 33 rfl rfl) rfl
theorem dX1_countWays_12 : decode cX1_countWays 12 = .ok (.aload_n 0, 1) := q_aload_n0 (bat_get dg_X1_countWays_8_112 34 rfl rfl)
theorem dX1_countWays_13 : decode cX1_countWays 13 = .ok (.getfield 31, 3) := q_getfield (bat_get dg_X1_countWays_8_112 35 rfl rfl) rfl
theorem dX1_countWays_16 : decode cX1_countWays 16 = .ok (.bipush 10, 2) := q_bipush (bat_get dg_X1_countWays_8_112 36 rfl rfl) rfl
theorem dX1_countWays_18 : decode cX1_countWays 18 = .ok (.imul, 1) := q_imul (bat_get dg_X1_countWays_8_112 37 rfl rfl)
theorem dX1_countWays_19 : decode cX1_countWays 19 = .ok (.iload_n 1, 1) := q_iload_n1 (bat_get dg_X1_countWays_8_112 38 rfl rfl)
theorem dX1_countWays_20 : decode cX1_countWays 20 = .ok (.iadd, 1) := q_iadd (bat_get dg_X1_countWays_8_112 39 rfl rfl)
theorem dg_X1_countWays_21_21 : bqL cX1_countWays 21 [(0, [10]), (1, [80]), (2, [132, 1, 1]), (5, [167, 255, 232])] = true := by decide +kernel
theorem dX1_countWays_21 : decode cX1_countWays 21 = .ok (.lconst 1, 1) := q_lconst1 (bat_get dg_X1_countWays_21_21 0 rfl rfl)
theorem dX1_countWays_22 : decode cX1_countWays 22 = .ok (.lastore, 1) := q_lastore (bat_get dg_X1_countWays_21_21 1 rfl rfl)
theorem dX1_countWays_23 : decode cX1_countWays 23 = .ok (.iinc 1 1, 3) := q_iinc (bat_get dg_X1_countWays_21_21 2 rfl rfl) rfl
theorem dX1_countWays_26 : decode cX1_countWays 26 = .ok (.goto (-24), 3) := q_goto (bat_get dg_X1_countWays_21_21 3 rfl rfl) rfl
theorem w_2_99 : (Cond.fieldLink RX1 21 "SameKeeper$Graph" "ways" "[J") ∈ wsL_law := sk_mem (ck_2 _ (List.mem_of_getElem? (i := 99) rfl)) rfl
theorem w_4_64 : (Cond.code yX1_countWays cX1_countWays 7 (some .long)) ∈ wsL_law := sk_mem (ck_4 _ (List.mem_of_getElem? (i := 64) rfl)) rfl
set_option maxHeartbeats 4000000 in
set_option maxRecDepth 100000 in
theorem c_countWays (l : Launch) (D : va_G) (cI cJ cC cZ cS : ClassId) (q : Nat → Nat) (gd : Nat) (gs : Nat) (e1 : Nat → Int32) (e2 : Nat → Int32) (e3 : Nat → Int32) (e4 : Nat → Int64) (hgd : gd ≤ 9) (hgs : gs ≤ 9) : skM l yX1_countWays cX1_countWays 7 (some .long) 1 22 0 0 D (skT cI cJ cC cZ cS) [.ref (q 11)] [(q 11, .inr (1, [.ref (q 10), .ref (q 67), .ref (q 68), .ref (q 69), .ref (q 70), .ref (q 71), .ref (q 72), .int (nI gd), .int (nI gs)])), (q 67, .inl (cI, 90, .inl e1)), (q 68, .inl (cI, 9, .inl e2)), (q 69, .inl (cI, 10, .inl e3)), (q 70, .inl (cJ, 100, .inr (.inl e4)))] (skL D (skT cI cJ cC cZ cS) (fun (r : Int64) (u : va_W) => ∃ (g4 : Nat → Int64), u = [(q 11, .inr (1, [.ref (q 10), .ref (q 67), .ref (q 68), .ref (q 69), .ref (q 70), .ref (q 71), .ref (q 72), .int (nI gd), .int (nI gs)])), (q 67, .inl (cI, 90, .inl e1)), (q 68, .inl (cI, 9, .inl e2)), (q 69, .inl (cI, 10, .inl e3)), (q 70, .inl (cJ, 100, .inr (.inl g4)))])) := by
  refine skM_of pf_X1_countWays (Nat.le_of_ble_eq_true rfl) ?_
  intro p e s m below meth c A ls E hP hD hl
  refine skE_el E (fun hx hb hr hml hlocks hin hown hts hK hA => ?_)
  have hown : s.vm.findClass RX1 = some m.cls := hown
  have hS : va_S A s.heap s.heap [] := va_S.rf
  have hl : lv_has ls 7 [(0, .ref (q 11))] := hl
  refine lv_iconst (v := 0) hx hb dX1_countWays_0 (by decide) ?_
  refine lv_istore_n (lv' := [(1, .int 0), (0, .ref (q 11))]) hx hb dX1_countWays_1 rfl hl (by decide) rfl (fun ls hl => ?_)
  have lp_1 : ∀ (n_2 : Nat) (i : Nat) (a4 : Nat → Int64) (H : Heap) (locs : List Loc) (ls : Array Slot), 10 - i < n_2 → (i ≤ 10) → va_P D vwCl [(q 11, .inr (1, [.ref (q 10), .ref (q 67), .ref (q 68), .ref (q 69), .ref (q 70), .ref (q 71), .ref (q 72), .int (nI gd), .int (nI gs)])), (q 67, .inl (cI, 90, .inl e1)), (q 68, .inl (cI, 9, .inl e2)), (q 69, .inl (cI, 10, .inl e3)), (q 70, .inl (cJ, 100, .inr (.inl a4)))] H → va_D A [(q 11, .inr (1, [.ref (q 10), .ref (q 67), .ref (q 68), .ref (q 69), .ref (q 70), .ref (q 71), .ref (q 72), .int (nI gd), .int (nI gs)])), (q 67, .inl (cI, 90, .inl e1)), (q 68, .inl (cI, 9, .inl e2)), (q 69, .inl (cI, 10, .inl e3)), (q 70, .inl (cJ, 100, .inr (.inl a4)))] → va_S A s.heap H locs → lv_has ls 7 [(1, .int (nI i)), (0, .ref (q 11))] → W p l e { frames := 1, cells := 0, slots := 0, locals := 22 } s m ([.ref (q 11)] : List Value).toArray below meth c H locs 0 0 (MQ below (skL D (skT cI cJ cC cZ cS) (fun (r : Int64) (u : va_W) => ∃ (g4 : Nat → Int64), u = [(q 11, .inr (1, [.ref (q 10), .ref (q 67), .ref (q 68), .ref (q 69), .ref (q 70), .ref (q 71), .ref (q 72), .int (nI gd), .int (nI gs)])), (q 67, .inl (cI, 90, .inl e1)), (q 68, .inl (cI, 9, .inl e2)), (q 69, .inl (cI, 10, .inl e3)), (q 70, .inl (cJ, 100, .inr (.inl g4)))]) A) ([.ref (q 11)] : List Value).toArray s 0 0 A) (F0 m 2 ls []) := by
    intro n_2
    induction n_2 with
    | zero => intro i a4 H locs ls hm; exact absurd hm (Nat.not_lt_zero _)
    | succ n_2 ih_lp_1 =>
      intro i a4 H locs ls hm hi hP hD hS hl
      refine lv_iload_n hx hb dX1_countWays_2 rfl (lv_at hl 0 rfl) ?_
      refine lv_bipush (v := 10) hx hb dX1_countWays_3 (by decide) ?_
      refine lv_icmp_ge (tgt := 29) hx hb dX1_countWays_5 (by decide) (fun c_3 => ?_) (fun c_3 => ?_)
      · have c_3 : 10 ≤ i := (nle 10 i (by omega) (by omega)).mp c_3
        refine lv_aload_n hx hb dX1_countWays_29 rfl (lv_at hl 1 rfl) ?_
        refine sk_get (v := .int (nI gd)) (C := RX1) (T := TX1) (N := 9) hx hb hts inlX1 hown hK hP 0 rfl rfl 7 (by decide) w_2_102 rfl dX1_countWays_30 ?_
        refine lv_iconst (v := 1) hx hb dX1_countWays_33 (by decide) ?_
        refine lv_isub hx hb dX1_countWays_34 ?_
        refine lv_istore_n (lv' := [(1, .int (nI gd - 1)), (0, .ref (q 11))]) hx hb dX1_countWays_35 rfl hl (by decide) rfl (fun ls hl => ?_)
        have lp_4 : ∀ (n_5 : Nat) (dd : Nat) (b4 : Nat → Int64) (H : Heap) (locs : List Loc) (ls : Array Slot), dd < n_5 → (dd ≤ 9) → va_P D vwCl [(q 11, .inr (1, [.ref (q 10), .ref (q 67), .ref (q 68), .ref (q 69), .ref (q 70), .ref (q 71), .ref (q 72), .int (nI gd), .int (nI gs)])), (q 67, .inl (cI, 90, .inl e1)), (q 68, .inl (cI, 9, .inl e2)), (q 69, .inl (cI, 10, .inl e3)), (q 70, .inl (cJ, 100, .inr (.inl b4)))] H → va_D A [(q 11, .inr (1, [.ref (q 10), .ref (q 67), .ref (q 68), .ref (q 69), .ref (q 70), .ref (q 71), .ref (q 72), .int (nI gd), .int (nI gs)])), (q 67, .inl (cI, 90, .inl e1)), (q 68, .inl (cI, 9, .inl e2)), (q 69, .inl (cI, 10, .inl e3)), (q 70, .inl (cJ, 100, .inr (.inl b4)))] → va_S A s.heap H locs → lv_has ls 7 [(1, .int (nI dd - 1)), (0, .ref (q 11))] → W p l e { frames := 1, cells := 0, slots := 0, locals := 22 } s m ([.ref (q 11)] : List Value).toArray below meth c H locs 0 0 (MQ below (skL D (skT cI cJ cC cZ cS) (fun (r : Int64) (u : va_W) => ∃ (g4 : Nat → Int64), u = [(q 11, .inr (1, [.ref (q 10), .ref (q 67), .ref (q 68), .ref (q 69), .ref (q 70), .ref (q 71), .ref (q 72), .int (nI gd), .int (nI gs)])), (q 67, .inl (cI, 90, .inl e1)), (q 68, .inl (cI, 9, .inl e2)), (q 69, .inl (cI, 10, .inl e3)), (q 70, .inl (cJ, 100, .inr (.inl g4)))]) A) ([.ref (q 11)] : List Value).toArray s 0 0 A) (F0 m 36 ls []) := by
          intro n_5
          induction n_5 with
          | zero => intro dd b4 H locs ls hm; exact absurd hm (Nat.not_lt_zero _)
          | succ n_5 ih_lp_4 =>
            intro dd b4 H locs ls hm hdd hP hD hS hl
            refine lv_iload_n hx hb dX1_countWays_36 rfl (lv_at hl 0 rfl) ?_
            refine lv_if_lt (tgt := 132) hx hb dX1_countWays_37 (by decide) (fun c_6 => ?_) (fun c_6 => ?_)
            · have c_6 : dd = 0 := npm0 dd (by omega) c_6
              refine lv_aload_n hx hb dX1_countWays_132 rfl (lv_at hl 1 rfl) ?_
              refine sk_get (v := .ref (q 70)) (C := RX1) (T := TX1) (N := 9) hx hb hts inlX1 hown hK hP 0 rfl rfl 4 (by decide) w_2_99 rfl dX1_countWays_133 ?_
              refine lv_aload_n hx hb dX1_countWays_136 rfl (lv_at hl 1 rfl) ?_
              refine sk_get (v := .int (nI gs)) (C := RX1) (T := TX1) (N := 9) hx hb hts inlX1 hown hK hP 0 rfl rfl 8 (by decide) w_2_103 rfl dX1_countWays_137 ?_
              refine va_lald hx hb hK.1 hP 4 1 rfl rfl (vin gs 100 (by omega) (by omega)) dX1_countWays_140 ?_
              refine lv_topl (fun v_7 ev_7 => ?_)
              exact sk_lret hx hb hr hlocks hK hP hD hS (⟨b4, rfl⟩) (Nat.le_of_ble_eq_true rfl) (Nat.le_of_ble_eq_true rfl) dX1_countWays_141
            · have c_6 : 1 ≤ dd := npm1 dd c_6
              rw [npred dd (by omega)] at hl
              refine lv_iconst (v := 0) hx hb dX1_countWays_40 (by decide) ?_
              refine lv_istore_n (lv' := [(2, .int 0), (1, .int (nI (dd - 1))), (0, .ref (q 11))]) hx hb dX1_countWays_41 rfl hl (by decide) rfl (fun ls hl => ?_)
              have lp_8 : ∀ (n_9 : Nat) (jj : Nat) (c4 : Nat → Int64) (H : Heap) (locs : List Loc) (ls : Array Slot), 10 - jj < n_9 → (jj ≤ 10) → va_P D vwCl [(q 11, .inr (1, [.ref (q 10), .ref (q 67), .ref (q 68), .ref (q 69), .ref (q 70), .ref (q 71), .ref (q 72), .int (nI gd), .int (nI gs)])), (q 67, .inl (cI, 90, .inl e1)), (q 68, .inl (cI, 9, .inl e2)), (q 69, .inl (cI, 10, .inl e3)), (q 70, .inl (cJ, 100, .inr (.inl c4)))] H → va_D A [(q 11, .inr (1, [.ref (q 10), .ref (q 67), .ref (q 68), .ref (q 69), .ref (q 70), .ref (q 71), .ref (q 72), .int (nI gd), .int (nI gs)])), (q 67, .inl (cI, 90, .inl e1)), (q 68, .inl (cI, 9, .inl e2)), (q 69, .inl (cI, 10, .inl e3)), (q 70, .inl (cJ, 100, .inr (.inl c4)))] → va_S A s.heap H locs → lv_has ls 7 [(2, .int (nI jj)), (1, .int (nI (dd - 1))), (0, .ref (q 11))] → W p l e { frames := 1, cells := 0, slots := 0, locals := 22 } s m ([.ref (q 11)] : List Value).toArray below meth c H locs 0 0 (MQ below (skL D (skT cI cJ cC cZ cS) (fun (r : Int64) (u : va_W) => ∃ (g4 : Nat → Int64), u = [(q 11, .inr (1, [.ref (q 10), .ref (q 67), .ref (q 68), .ref (q 69), .ref (q 70), .ref (q 71), .ref (q 72), .int (nI gd), .int (nI gs)])), (q 67, .inl (cI, 90, .inl e1)), (q 68, .inl (cI, 9, .inl e2)), (q 69, .inl (cI, 10, .inl e3)), (q 70, .inl (cJ, 100, .inr (.inl g4)))]) A) ([.ref (q 11)] : List Value).toArray s 0 0 A) (F0 m 42 ls []) := by
                intro n_9
                induction n_9 with
                | zero => intro jj c4 H locs ls hm; exact absurd hm (Nat.not_lt_zero _)
                | succ n_9 ih_lp_8 =>
                  intro jj c4 H locs ls hm hjj hP hD hS hl
                  refine lv_iload_n hx hb dX1_countWays_42 rfl (lv_at hl 0 rfl) ?_
                  refine lv_bipush (v := 10) hx hb dX1_countWays_43 (by decide) ?_
                  refine lv_icmp_ge (tgt := 126) hx hb dX1_countWays_45 (by decide) (fun c_10 => ?_) (fun c_10 => ?_)
                  · have c_10 : 10 ≤ jj := (nle 10 jj (by omega) (by omega)).mp c_10
                    refine lv_iinc (v := nI (dd - 1) - 1) (lv' := [(1, .int (nI (dd - 1) - 1)), (2, .int (nI jj)), (0, .ref (q 11))]) hx hb dX1_countWays_126 hl (k := 1) rfl (ndn _) (by decide) rfl (fun ls hl => ?_)
                    refine lv_goto (tgt := 36) hx hb dX1_countWays_129 (by decide) ?_
                    exact ih_lp_4 (dd - 1) c4 _ _ _ (by omega) (by omega) hP hD hS (lv_sub hl [0, 2] rfl)
                  · have c_10 : ¬ (10 ≤ jj) := fun h => c_10 ((nle 10 jj (by omega) (by omega)).mpr h)
                    refine lv_aload_n hx hb dX1_countWays_48 rfl (lv_at hl 2 rfl) ?_
                    refine lv_iload_n hx hb dX1_countWays_49 rfl (lv_at hl 1 rfl) ?_
                    refine lv_iload_n hx hb dX1_countWays_50 rfl (lv_at hl 0 rfl) ?_
                    refine sk_Vi (q0 := 0) (n := 2) (rest := []) (wr := fmR om_5_1e _) ⟨hx, hb, hml, hown, hts⟩ hl.1 (c_next l D cI cJ cC cZ cS q gd gs e1 e2 e3 (dd - 1) jj (by omega) (by omega)) w_4_57 w_4_59 w_0_20 w_1_13 w_4_60 hd_X1_next_2 ⟨⟨(Nat.le_of_ble_eq_true rfl), (Nat.le_of_ble_eq_true rfl)⟩, (Nat.le_of_ble_eq_true rfl), (Nat.le_of_ble_eq_true rfl)⟩ hK hP hD hS hA (fmT om_5_1e 0) (fmF om_5_1e 0) (fm_C1 rfl rfl) (fm_R rfl rfl) (fm_nT om_5_1e 0) (fm_nF om_5_1e 0) (fm_di om_5_1e 0) rfl rfl rfl rfl (Nat.le_of_ble_eq_true rfl) dX1_countWays_51 (fun r_11 u H locs hw hP hD hS => ?_)
                    refine o_mgE (ws' := [(q 11, .inr (1, [.ref (q 10), .ref (q 67), .ref (q 68), .ref (q 69), .ref (q 70), .ref (q 71), .ref (q 72), .int (nI gd), .int (nI gs)])), (q 67, .inl (cI, 90, .inl e1)), (q 68, .inl (cI, 9, .inl e2)), (q 69, .inl (cI, 10, .inl e3)), (q 70, .inl (cJ, 100, .inr (.inl c4)))]) hw hP hD rfl (fun hP hD => ?_)
                    refine lv_istore_n (lv' := [(3, .int r_11), (2, .int (nI jj)), (1, .int (nI (dd - 1))), (0, .ref (q 11))]) hx hb dX1_countWays_54 rfl hl (by decide) rfl (fun ls hl => ?_)
                    refine lv_lconst (v := 0) hx hb dX1_countWays_55 (by decide) ?_
                    refine lv_lstore (lv' := [(4, .long 0), (3, .int r_11), (2, .int (nI jj)), (1, .int (nI (dd - 1))), (0, .ref (q 11))]) hx hb dX1_countWays_56 hl (by decide) rfl (fun ls hl => ?_)
                    refine lv_iconst (v := 0) hx hb dX1_countWays_58 (by decide) ?_
                    refine lv_istore (lv' := [(6, .int 0), (4, .long 0), (3, .int r_11), (2, .int (nI jj)), (1, .int (nI (dd - 1))), (0, .ref (q 11))]) hx hb dX1_countWays_59 hl (by decide) rfl (fun ls hl => ?_)
                    have lp_12 : ∀ (n_13 : Nat) (kk : Nat) (sm : Int64) (H : Heap) (locs : List Loc) (ls : Array Slot), 10 - kk < n_13 → (kk ≤ 10) → va_P D vwCl [(q 11, .inr (1, [.ref (q 10), .ref (q 67), .ref (q 68), .ref (q 69), .ref (q 70), .ref (q 71), .ref (q 72), .int (nI gd), .int (nI gs)])), (q 67, .inl (cI, 90, .inl e1)), (q 68, .inl (cI, 9, .inl e2)), (q 69, .inl (cI, 10, .inl e3)), (q 70, .inl (cJ, 100, .inr (.inl c4)))] H → va_D A [(q 11, .inr (1, [.ref (q 10), .ref (q 67), .ref (q 68), .ref (q 69), .ref (q 70), .ref (q 71), .ref (q 72), .int (nI gd), .int (nI gs)])), (q 67, .inl (cI, 90, .inl e1)), (q 68, .inl (cI, 9, .inl e2)), (q 69, .inl (cI, 10, .inl e3)), (q 70, .inl (cJ, 100, .inr (.inl c4)))] → va_S A s.heap H locs → lv_has ls 7 [(6, .int (nI kk)), (4, .long sm), (3, .int r_11), (2, .int (nI jj)), (1, .int (nI (dd - 1))), (0, .ref (q 11))] → W p l e { frames := 1, cells := 0, slots := 0, locals := 22 } s m ([.ref (q 11)] : List Value).toArray below meth c H locs 0 0 (MQ below (skL D (skT cI cJ cC cZ cS) (fun (r : Int64) (u : va_W) => ∃ (g4 : Nat → Int64), u = [(q 11, .inr (1, [.ref (q 10), .ref (q 67), .ref (q 68), .ref (q 69), .ref (q 70), .ref (q 71), .ref (q 72), .int (nI gd), .int (nI gs)])), (q 67, .inl (cI, 90, .inl e1)), (q 68, .inl (cI, 9, .inl e2)), (q 69, .inl (cI, 10, .inl e3)), (q 70, .inl (cJ, 100, .inr (.inl g4)))]) A) ([.ref (q 11)] : List Value).toArray s 0 0 A) (F0 m 61 ls []) := by
                      intro n_13
                      induction n_13 with
                      | zero => intro kk sm H locs ls hm; exact absurd hm (Nat.not_lt_zero _)
                      | succ n_13 ih_lp_12 =>
                        intro kk sm H locs ls hm hkk hP hD hS hl
                        refine lv_iload hx hb dX1_countWays_61 (lv_at hl 0 rfl) ?_
                        refine lv_bipush (v := 10) hx hb dX1_countWays_63 (by decide) ?_
                        refine lv_icmp_ge (tgt := 107) hx hb dX1_countWays_65 (by decide) (fun c_14 => ?_) (fun c_14 => ?_)
                        · have c_14 : 10 ≤ kk := (nle 10 kk (by omega) (by omega)).mp c_14
                          refine lv_aload_n hx hb dX1_countWays_107 rfl (lv_at hl 5 rfl) ?_
                          refine sk_get (v := .ref (q 70)) (C := RX1) (T := TX1) (N := 9) hx hb hts inlX1 hown hK hP 0 rfl rfl 4 (by decide) w_2_99 rfl dX1_countWays_108 ?_
                          refine lv_iload_n hx hb dX1_countWays_111 rfl (lv_at hl 4 rfl) ?_
                          refine lv_bipush (v := 10) hx hb dX1_countWays_112 (by decide) ?_
                          refine lv_imul hx hb dX1_countWays_114 ?_
                          refine sk_top (nI ((dd - 1) * 10)) (nmul (dd - 1) 10) ?_
                          refine lv_iload_n hx hb dX1_countWays_115 rfl (lv_at hl 3 rfl) ?_
                          refine lv_iadd hx hb dX1_countWays_116 ?_
                          refine sk_top (nI ((dd - 1) * 10 + jj)) (nI_add ((dd - 1) * 10) jj) ?_
                          refine lv_lload hx hb dX1_countWays_117 (lv_at hl 1 rfl) ?_
                          refine sk_lastO (ws' := fun f_15 => [(q 11, .inr (1, [.ref (q 10), .ref (q 67), .ref (q 68), .ref (q 69), .ref (q 70), .ref (q 71), .ref (q 72), .int (nI gd), .int (nI gs)])), (q 67, .inl (cI, 90, .inl e1)), (q 68, .inl (cI, 9, .inl e2)), (q 69, .inl (cI, 10, .inl e3)), (q 70, .inl (cJ, 100, .inr (.inl f_15)))]) hx hb hK hP hD hS 4 1 rfl rfl (vin ((dd - 1) * 10 + jj) 100 (by omega) (by omega)) (fun _ => rfl) dX1_countWays_119 (fun f_15 H locs hP hD hS => ?_)
                          refine lv_iinc (v := nI (jj + 1)) (lv' := [(2, .int (nI (jj + 1))), (6, .int (nI kk)), (4, .long sm), (3, .int r_11), (1, .int (nI (dd - 1))), (0, .ref (q 11))]) hx hb dX1_countWays_120 hl (k := 3) rfl (ninc jj 1 (by decide)) (by decide) rfl (fun ls hl => ?_)
                          refine lv_goto (tgt := 42) hx hb dX1_countWays_123 (by decide) ?_
                          exact ih_lp_8 (jj + 1) f_15 _ _ _ (by omega) (by omega) hP hD hS (lv_sub hl [0, 4, 5] rfl)
                        · have c_14 : ¬ (10 ≤ kk) := fun h => c_14 ((nle 10 kk (by omega) (by omega)).mpr h)
                          refine lv_lload hx hb dX1_countWays_68 (lv_at hl 1 rfl) ?_
                          refine lv_iload_n hx hb dX1_countWays_70 rfl (lv_at hl 2 rfl) ?_
                          refine lv_iload hx hb dX1_countWays_71 (lv_at hl 0 rfl) ?_
                          refine lv_ishr hx hb dX1_countWays_73 ?_
                          refine lv_topi (fun v_16 ev_16 => ?_)
                          refine lv_iconst (v := 1) hx hb dX1_countWays_74 (by decide) ?_
                          refine lv_iand hx hb dX1_countWays_75 ?_
                          refine lv_topi (fun v_17 ev_17 => ?_)
                          refine lv_iconst (v := 1) hx hb dX1_countWays_76 (by decide) ?_
                          refine lv_icmp_ne (tgt := 97) hx hb dX1_countWays_77 (by decide) (fun c_18 => ?_) (fun c_18 => ?_)
                          · skip
                            refine lv_lconst (v := 0) hx hb dX1_countWays_97 (by decide) ?_
                            refine lv_ladd hx hb dX1_countWays_98 ?_
                            refine lv_topl (fun v_19 ev_19 => ?_)
                            refine lv_lstore (lv' := [(4, .long v_19), (6, .int (nI kk)), (3, .int r_11), (2, .int (nI jj)), (1, .int (nI (dd - 1))), (0, .ref (q 11))]) hx hb dX1_countWays_99 hl (by decide) rfl (fun ls hl => ?_)
                            refine lv_iinc (v := nI (kk + 1)) (lv' := [(6, .int (nI (kk + 1))), (4, .long v_19), (3, .int r_11), (2, .int (nI jj)), (1, .int (nI (dd - 1))), (0, .ref (q 11))]) hx hb dX1_countWays_101 hl (k := 1) rfl (ninc kk 1 (by decide)) (by decide) rfl (fun ls hl => ?_)
                            refine lv_goto (tgt := 61) hx hb dX1_countWays_104 (by decide) ?_
                            exact ih_lp_12 (kk + 1) v_19 _ _ _ (by omega) (by omega) hP hD hS (lv_sub hl [0, 1, 2, 3, 4, 5] rfl)
                          · skip
                            refine lv_aload_n hx hb dX1_countWays_80 rfl (lv_at hl 5 rfl) ?_
                            refine sk_get (v := .ref (q 70)) (C := RX1) (T := TX1) (N := 9) hx hb hts inlX1 hown hK hP 0 rfl rfl 4 (by decide) w_2_99 rfl dX1_countWays_81 ?_
                            refine lv_iload_n hx hb dX1_countWays_84 rfl (lv_at hl 4 rfl) ?_
                            refine lv_iconst (v := 1) hx hb dX1_countWays_85 (by decide) ?_
                            refine lv_iadd hx hb dX1_countWays_86 ?_
                            refine sk_top (nI (dd - 1 + 1)) (nI_add (dd - 1) 1) ?_
                            refine lv_bipush (v := 10) hx hb dX1_countWays_87 (by decide) ?_
                            refine lv_imul hx hb dX1_countWays_89 ?_
                            refine sk_top (nI ((dd - 1 + 1) * 10)) (nmul (dd - 1 + 1) 10) ?_
                            refine lv_iload hx hb dX1_countWays_90 (lv_at hl 0 rfl) ?_
                            refine lv_iadd hx hb dX1_countWays_92 ?_
                            refine sk_top (nI ((dd - 1 + 1) * 10 + kk)) (nI_add ((dd - 1 + 1) * 10) kk) ?_
                            refine va_lald hx hb hK.1 hP 4 1 rfl rfl (vin ((dd - 1 + 1) * 10 + kk) 100 (by omega) (by omega)) dX1_countWays_93 ?_
                            refine lv_topl (fun v_20 ev_20 => ?_)
                            refine lv_goto (tgt := 98) hx hb dX1_countWays_94 (by decide) ?_
                            refine lv_ladd hx hb dX1_countWays_98 ?_
                            refine lv_topl (fun v_21 ev_21 => ?_)
                            refine lv_lstore (lv' := [(4, .long v_21), (6, .int (nI kk)), (3, .int r_11), (2, .int (nI jj)), (1, .int (nI (dd - 1))), (0, .ref (q 11))]) hx hb dX1_countWays_99 hl (by decide) rfl (fun ls hl => ?_)
                            refine lv_iinc (v := nI (kk + 1)) (lv' := [(6, .int (nI (kk + 1))), (4, .long v_21), (3, .int r_11), (2, .int (nI jj)), (1, .int (nI (dd - 1))), (0, .ref (q 11))]) hx hb dX1_countWays_101 hl (k := 1) rfl (ninc kk 1 (by decide)) (by decide) rfl (fun ls hl => ?_)
                            refine lv_goto (tgt := 61) hx hb dX1_countWays_104 (by decide) ?_
                            exact ih_lp_12 (kk + 1) v_21 _ _ _ (by omega) (by omega) hP hD hS (lv_sub hl [0, 1, 2, 3, 4, 5] rfl)
                    exact lp_12 (10 - 0 + 1) 0 0 _ _ _ (Nat.lt_succ_self _) (by omega) hP hD hS (lv_sub hl [0, 1, 2, 3, 4, 5] rfl)
              exact lp_8 (10 - 0 + 1) 0 b4 _ _ _ (Nat.lt_succ_self _) (by omega) hP hD hS (lv_sub hl [0, 1, 2] rfl)
        exact lp_4 (gd + 1) gd a4 _ _ _ (Nat.lt_succ_self _) (by omega) hP hD hS (lv_sub hl [0, 1] rfl)
      · have c_3 : ¬ (10 ≤ i) := fun h => c_3 ((nle 10 i (by omega) (by omega)).mpr h)
        refine lv_aload_n hx hb dX1_countWays_8 rfl (lv_at hl 1 rfl) ?_
        refine sk_get (v := .ref (q 70)) (C := RX1) (T := TX1) (N := 9) hx hb hts inlX1 hown hK hP 0 rfl rfl 4 (by decide) w_2_99 rfl dX1_countWays_9 ?_
        refine lv_aload_n hx hb dX1_countWays_12 rfl (lv_at hl 1 rfl) ?_
        refine sk_get (v := .int (nI gd)) (C := RX1) (T := TX1) (N := 9) hx hb hts inlX1 hown hK hP 0 rfl rfl 7 (by decide) w_2_102 rfl dX1_countWays_13 ?_
        refine lv_bipush (v := 10) hx hb dX1_countWays_16 (by decide) ?_
        refine lv_imul hx hb dX1_countWays_18 ?_
        refine sk_top (nI (gd * 10)) (nmul gd 10) ?_
        refine lv_iload_n hx hb dX1_countWays_19 rfl (lv_at hl 0 rfl) ?_
        refine lv_iadd hx hb dX1_countWays_20 ?_
        refine sk_top (nI (gd * 10 + i)) (nI_add (gd * 10) i) ?_
        refine lv_lconst (v := 1) hx hb dX1_countWays_21 (by decide) ?_
        refine sk_lastO (ws' := fun f_22 => [(q 11, .inr (1, [.ref (q 10), .ref (q 67), .ref (q 68), .ref (q 69), .ref (q 70), .ref (q 71), .ref (q 72), .int (nI gd), .int (nI gs)])), (q 67, .inl (cI, 90, .inl e1)), (q 68, .inl (cI, 9, .inl e2)), (q 69, .inl (cI, 10, .inl e3)), (q 70, .inl (cJ, 100, .inr (.inl f_22)))]) hx hb hK hP hD hS 4 1 rfl rfl (vin (gd * 10 + i) 100 (by omega) (by omega)) (fun _ => rfl) dX1_countWays_22 (fun f_22 H locs hP hD hS => ?_)
        refine lv_iinc (v := nI (i + 1)) (lv' := [(1, .int (nI (i + 1))), (0, .ref (q 11))]) hx hb dX1_countWays_23 hl (k := 0) rfl (ninc i 1 (by decide)) (by decide) rfl (fun ls hl => ?_)
        refine lv_goto (tgt := 2) hx hb dX1_countWays_26 (by decide) ?_
        exact ih_lp_1 (i + 1) f_22 _ _ _ (by omega) (by omega) hP hD hS (lv_sub hl [0, 1] rfl)
  exact lp_1 (10 - 0 + 1) 0 e4 _ _ _ (Nat.lt_succ_self _) (by omega) hP hD hS (lv_sub hl [0, 1] rfl)
