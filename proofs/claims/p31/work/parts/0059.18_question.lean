theorem dg_X5_joined_112_112 : bqL cX5_joined 112 [(0, [97]), (1, [167, 0, 4]), (6, [31]), (7, [33]), (8, [97]), (9, [173]), (10, [21, 5]), (12, [154, 0, 7]), (19, [31]), (20, [33]), (21, [184, 0, 139]), (24, [173]), (15, [33]), (16, [167, 0, 8])] = true := by decide +kernel
theorem dX5_joined_112 : decode cX5_joined 112 = .ok (.ladd, 1) := q_ladd (bat_get dg_X5_joined_112_112 0 rfl rfl)
theorem dX5_joined_113 : decode cX5_joined 113 = .ok (.goto 4, 3) := q_goto (bat_get dg_X5_joined_112_112 1 rfl rfl) rfl
theorem dX5_joined_118 : decode cX5_joined 118 = .ok (.lload_n 1, 1) := q_lload_n1 (bat_get dg_X5_joined_112_112 2 rfl rfl)
theorem dX5_joined_119 : decode cX5_joined 119 = .ok (.lload_n 3, 1) := q_lload_n3 (bat_get dg_X5_joined_112_112 3 rfl rfl)
theorem dX5_joined_120 : decode cX5_joined 120 = .ok (.ladd, 1) := q_ladd (bat_get dg_X5_joined_112_112 4 rfl rfl)
theorem dX5_joined_121 : decode cX5_joined 121 = .ok (.lreturn, 1) := q_lreturn (bat_get dg_X5_joined_112_112 5 rfl rfl)
theorem dX5_joined_122 : decode cX5_joined 122 = .ok (.iload 5, 2) := q_iload (bat_get dg_X5_joined_112_112 6 rfl rfl)
theorem dX5_joined_124 : decode cX5_joined 124 = .ok (.ifCond .ne 7, 3) := q_ifCond_ne (bat_get dg_X5_joined_112_112 7 rfl rfl) rfl
theorem dX5_joined_131 : decode cX5_joined 131 = .ok (.lload_n 1, 1) := q_lload_n1 (bat_get dg_X5_joined_112_112 8 rfl rfl)
theorem dX5_joined_132 : decode cX5_joined 132 = .ok (.lload_n 3, 1) := q_lload_n3 (bat_get dg_X5_joined_112_112 9 rfl rfl)
theorem dX5_joined_133 : decode cX5_joined 133 = .ok (.invokestatic 139, 3) := q_invokestatic (bat_get dg_X5_joined_112_112 10 rfl rfl) rfl
theorem dX5_joined_136 : decode cX5_joined 136 = .ok (.lreturn, 1) := q_lreturn (bat_get dg_X5_joined_112_112 11 rfl rfl)
theorem dX5_joined_127 : decode cX5_joined 127 = .ok (.lload_n 3, 1) := q_lload_n3 (bat_get dg_X5_joined_112_112 12 rfl rfl)
theorem dX5_joined_128 : decode cX5_joined 128 = .ok (.goto 8, 3) := q_goto (bat_get dg_X5_joined_112_112 13 rfl rfl) rfl
theorem w_5_104 : (Cond.constantLong RX5 92 (-1)) ∈ wsL_law := sk_mem (ck_5 _ (List.mem_of_getElem? (i := 104) rfl)) rfl
theorem w_5_122 : (Cond.methodLink RX5 145 Lib.MathLoose.min_long.x) ∈ wsL_law := sk_mem (ck_5 _ (List.mem_of_getElem? (i := 122) rfl)) rfl
theorem w_5_121 : (Cond.methodLink RX5 139 Lib.MathLoose.max_long.x) ∈ wsL_law := sk_mem (ck_5 _ (List.mem_of_getElem? (i := 121) rfl)) rfl
theorem w_5_120 : (Cond.code yX5_joined cX5_joined 6 (some .long)) ∈ wsL_law := sk_mem (ck_5 _ (List.mem_of_getElem? (i := 120) rfl)) rfl
set_option maxHeartbeats 4000000 in
set_option maxRecDepth 100000 in
theorem c_q_joined (l : Launch) (D : va_G) (cI cJ cC cZ cS : ClassId) (q : Nat → Nat) (vb : Int32) (x : Int64) (y : Int64) (o : Int32)  : skM l yX5_joined cX5_joined 6 (some .long) 1 23 0 0 D (skT cI cJ cC cZ cS) [.ref (q 4), .long x, .long y, .int o] [(q 4, .inr (5, [.ref (q 2), .ref (q 55), .ref (q 56), .int vb]))] (skL D (skT cI cJ cC cZ cS) (fun (r : Int64) (u : va_W) => u = [(q 4, .inr (5, [.ref (q 2), .ref (q 55), .ref (q 56), .int vb]))])) := by
  refine skM_of pf_X5_joined (Nat.le_of_ble_eq_true rfl) ?_
  intro p e s m below meth c A ls E hP hD hl
  refine skE_el E (fun hx hb hr hml hlocks hin hown hts hK hA => ?_)
  have hown : s.vm.findClass RX5 = some m.cls := hown
  have hS : va_S A s.heap s.heap [] := va_S.rf
  have hl : lv_has ls 6 [(0, .ref (q 4)), (1, .long x), (3, .long y), (5, .int o)] := hl
  refine lv_aload_n hx hb dX5_joined_0 rfl (lv_at hl 0 rfl) ?_
  refine sk_get (v := .int vb) (C := RX5) (T := TX5) (N := 4) hx hb hts inlX5 hown hK hP 0 rfl rfl 3 (by decide) w_1_157 rfl dX5_joined_1 ?_
  by_cases g_1 : vb = 271
  · refine lv_tableIn (off := 64) (tgt := 68) hx hb dX5_joined_4 (by rw [g_1]; decide) (by rw [g_1]; decide) (by rw [g_1]; rfl) (by decide) ?_
    refine lv_lload_n hx hb dX5_joined_68 rfl (lv_at hl 1 rfl) ?_
    refine lv_ldc2 (v := (-1)) hx hb hown (hts _ w_5_104) dX5_joined_69 ?_
    refine W.lcmp hx hb dX5_joined_72 ?_
    refine lv_if_ne (tgt := 88) hx hb dX5_joined_73 (by decide) (fun c_2 => ?_) (fun c_2 => ?_)
    · skip
      refine lv_lload_n hx hb dX5_joined_88 rfl (lv_at hl 1 rfl) ?_
      exact sk_lret hx hb hr hlocks hK hP hD hS rfl (Nat.le_of_ble_eq_true rfl) (Nat.le_of_ble_eq_true rfl) dX5_joined_89
    · skip
      refine lv_lload_n hx hb dX5_joined_76 rfl (lv_at hl 2 rfl) ?_
      refine lv_lconst (v := 0) hx hb dX5_joined_77 (by decide) ?_
      refine W.lcmp hx hb dX5_joined_78 ?_
      refine lv_if_eq (tgt := 88) hx hb dX5_joined_79 (by decide) (fun c_3 => ?_) (fun c_3 => ?_)
      · skip
        refine lv_lload_n hx hb dX5_joined_88 rfl (lv_at hl 1 rfl) ?_
        exact sk_lret hx hb hr hlocks hK hP hD hS rfl (Nat.le_of_ble_eq_true rfl) (Nat.le_of_ble_eq_true rfl) dX5_joined_89
      · skip
        refine lv_iload hx hb dX5_joined_82 (lv_at hl 3 rfl) ?_
        refine lv_i2l hx hb dX5_joined_84 rfl ?_
        refine lv_goto (tgt := 89) hx hb dX5_joined_85 (by decide) ?_
        exact sk_lret hx hb hr hlocks hK hP hD hS rfl (Nat.le_of_ble_eq_true rfl) (Nat.le_of_ble_eq_true rfl) dX5_joined_89
  by_cases g_4 : vb = 272
  · refine lv_tableIn (off := 133) (tgt := 137) hx hb dX5_joined_4 (by rw [g_4]; decide) (by rw [g_4]; decide) (by rw [g_4]; rfl) (by decide) ?_
    refine lv_iload hx hb dX5_joined_137 (lv_at hl 3 rfl) ?_
    refine lv_if_ne (tgt := 146) hx hb dX5_joined_139 (by decide) (fun c_5 => ?_) (fun c_5 => ?_)
    · skip
      refine lv_lload_n hx hb dX5_joined_146 rfl (lv_at hl 1 rfl) ?_
      refine lv_lload_n hx hb dX5_joined_147 rfl (lv_at hl 2 rfl) ?_
      refine va_mmin_long hx hb (by rw [hml]; exact hl.1.symm) hown (hts _ w_5_122) (hts _ w_3_237) (hts _ w_1_3) (hts _ w_3_238) (Nat.le_of_ble_eq_true rfl) (Nat.le_of_ble_eq_true rfl) (Nat.le_of_ble_eq_true rfl) (Nat.le_of_ble_eq_true rfl) dX5_joined_148 ?_
      refine lv_topl (fun v_6 ev_6 => ?_)
      exact sk_lret hx hb hr hlocks hK hP hD hS rfl (Nat.le_of_ble_eq_true rfl) (Nat.le_of_ble_eq_true rfl) dX5_joined_151
    · skip
      refine lv_lload_n hx hb dX5_joined_142 rfl (lv_at hl 2 rfl) ?_
      refine lv_goto (tgt := 151) hx hb dX5_joined_143 (by decide) ?_
      exact sk_lret hx hb hr hlocks hK hP hD hS rfl (Nat.le_of_ble_eq_true rfl) (Nat.le_of_ble_eq_true rfl) dX5_joined_151
  by_cases g_7 : vb = 273
  · refine lv_tableIn (off := 133) (tgt := 137) hx hb dX5_joined_4 (by rw [g_7]; decide) (by rw [g_7]; decide) (by rw [g_7]; rfl) (by decide) ?_
    refine lv_iload hx hb dX5_joined_137 (lv_at hl 3 rfl) ?_
    refine lv_if_ne (tgt := 146) hx hb dX5_joined_139 (by decide) (fun c_8 => ?_) (fun c_8 => ?_)
    · skip
      refine lv_lload_n hx hb dX5_joined_146 rfl (lv_at hl 1 rfl) ?_
      refine lv_lload_n hx hb dX5_joined_147 rfl (lv_at hl 2 rfl) ?_
      refine va_mmin_long hx hb (by rw [hml]; exact hl.1.symm) hown (hts _ w_5_122) (hts _ w_3_237) (hts _ w_1_3) (hts _ w_3_238) (Nat.le_of_ble_eq_true rfl) (Nat.le_of_ble_eq_true rfl) (Nat.le_of_ble_eq_true rfl) (Nat.le_of_ble_eq_true rfl) dX5_joined_148 ?_
      refine lv_topl (fun v_9 ev_9 => ?_)
      exact sk_lret hx hb hr hlocks hK hP hD hS rfl (Nat.le_of_ble_eq_true rfl) (Nat.le_of_ble_eq_true rfl) dX5_joined_151
    · skip
      refine lv_lload_n hx hb dX5_joined_142 rfl (lv_at hl 2 rfl) ?_
      refine lv_goto (tgt := 151) hx hb dX5_joined_143 (by decide) ?_
      exact sk_lret hx hb hr hlocks hK hP hD hS rfl (Nat.le_of_ble_eq_true rfl) (Nat.le_of_ble_eq_true rfl) dX5_joined_151
  by_cases g_10 : vb = 274
  · refine lv_tableIn (off := 133) (tgt := 137) hx hb dX5_joined_4 (by rw [g_10]; decide) (by rw [g_10]; decide) (by rw [g_10]; rfl) (by decide) ?_
    refine lv_iload hx hb dX5_joined_137 (lv_at hl 3 rfl) ?_
    refine lv_if_ne (tgt := 146) hx hb dX5_joined_139 (by decide) (fun c_11 => ?_) (fun c_11 => ?_)
    · skip
      refine lv_lload_n hx hb dX5_joined_146 rfl (lv_at hl 1 rfl) ?_
      refine lv_lload_n hx hb dX5_joined_147 rfl (lv_at hl 2 rfl) ?_
      refine va_mmin_long hx hb (by rw [hml]; exact hl.1.symm) hown (hts _ w_5_122) (hts _ w_3_237) (hts _ w_1_3) (hts _ w_3_238) (Nat.le_of_ble_eq_true rfl) (Nat.le_of_ble_eq_true rfl) (Nat.le_of_ble_eq_true rfl) (Nat.le_of_ble_eq_true rfl) dX5_joined_148 ?_
      refine lv_topl (fun v_12 ev_12 => ?_)
      exact sk_lret hx hb hr hlocks hK hP hD hS rfl (Nat.le_of_ble_eq_true rfl) (Nat.le_of_ble_eq_true rfl) dX5_joined_151
    · skip
      refine lv_lload_n hx hb dX5_joined_142 rfl (lv_at hl 2 rfl) ?_
      refine lv_goto (tgt := 151) hx hb dX5_joined_143 (by decide) ?_
      exact sk_lret hx hb hr hlocks hK hP hD hS rfl (Nat.le_of_ble_eq_true rfl) (Nat.le_of_ble_eq_true rfl) dX5_joined_151
  by_cases g_13 : vb = 275
  · refine lv_tableIn (off := 133) (tgt := 137) hx hb dX5_joined_4 (by rw [g_13]; decide) (by rw [g_13]; decide) (by rw [g_13]; rfl) (by decide) ?_
    refine lv_iload hx hb dX5_joined_137 (lv_at hl 3 rfl) ?_
    refine lv_if_ne (tgt := 146) hx hb dX5_joined_139 (by decide) (fun c_14 => ?_) (fun c_14 => ?_)
    · skip
      refine lv_lload_n hx hb dX5_joined_146 rfl (lv_at hl 1 rfl) ?_
      refine lv_lload_n hx hb dX5_joined_147 rfl (lv_at hl 2 rfl) ?_
      refine va_mmin_long hx hb (by rw [hml]; exact hl.1.symm) hown (hts _ w_5_122) (hts _ w_3_237) (hts _ w_1_3) (hts _ w_3_238) (Nat.le_of_ble_eq_true rfl) (Nat.le_of_ble_eq_true rfl) (Nat.le_of_ble_eq_true rfl) (Nat.le_of_ble_eq_true rfl) dX5_joined_148 ?_
      refine lv_topl (fun v_15 ev_15 => ?_)
      exact sk_lret hx hb hr hlocks hK hP hD hS rfl (Nat.le_of_ble_eq_true rfl) (Nat.le_of_ble_eq_true rfl) dX5_joined_151
    · skip
      refine lv_lload_n hx hb dX5_joined_142 rfl (lv_at hl 2 rfl) ?_
      refine lv_goto (tgt := 151) hx hb dX5_joined_143 (by decide) ?_
      exact sk_lret hx hb hr hlocks hK hP hD hS rfl (Nat.le_of_ble_eq_true rfl) (Nat.le_of_ble_eq_true rfl) dX5_joined_151
  by_cases g_16 : vb = 276
  · refine lv_tableIn (off := 133) (tgt := 137) hx hb dX5_joined_4 (by rw [g_16]; decide) (by rw [g_16]; decide) (by rw [g_16]; rfl) (by decide) ?_
    refine lv_iload hx hb dX5_joined_137 (lv_at hl 3 rfl) ?_
    refine lv_if_ne (tgt := 146) hx hb dX5_joined_139 (by decide) (fun c_17 => ?_) (fun c_17 => ?_)
    · skip
      refine lv_lload_n hx hb dX5_joined_146 rfl (lv_at hl 1 rfl) ?_
      refine lv_lload_n hx hb dX5_joined_147 rfl (lv_at hl 2 rfl) ?_
      refine va_mmin_long hx hb (by rw [hml]; exact hl.1.symm) hown (hts _ w_5_122) (hts _ w_3_237) (hts _ w_1_3) (hts _ w_3_238) (Nat.le_of_ble_eq_true rfl) (Nat.le_of_ble_eq_true rfl) (Nat.le_of_ble_eq_true rfl) (Nat.le_of_ble_eq_true rfl) dX5_joined_148 ?_
      refine lv_topl (fun v_18 ev_18 => ?_)
      exact sk_lret hx hb hr hlocks hK hP hD hS rfl (Nat.le_of_ble_eq_true rfl) (Nat.le_of_ble_eq_true rfl) dX5_joined_151
    · skip
      refine lv_lload_n hx hb dX5_joined_142 rfl (lv_at hl 2 rfl) ?_
      refine lv_goto (tgt := 151) hx hb dX5_joined_143 (by decide) ?_
      exact sk_lret hx hb hr hlocks hK hP hD hS rfl (Nat.le_of_ble_eq_true rfl) (Nat.le_of_ble_eq_true rfl) dX5_joined_151
  by_cases g_19 : vb = 277
  · refine lv_tableIn (off := 133) (tgt := 137) hx hb dX5_joined_4 (by rw [g_19]; decide) (by rw [g_19]; decide) (by rw [g_19]; rfl) (by decide) ?_
    refine lv_iload hx hb dX5_joined_137 (lv_at hl 3 rfl) ?_
    refine lv_if_ne (tgt := 146) hx hb dX5_joined_139 (by decide) (fun c_20 => ?_) (fun c_20 => ?_)
    · skip
      refine lv_lload_n hx hb dX5_joined_146 rfl (lv_at hl 1 rfl) ?_
      refine lv_lload_n hx hb dX5_joined_147 rfl (lv_at hl 2 rfl) ?_
      refine va_mmin_long hx hb (by rw [hml]; exact hl.1.symm) hown (hts _ w_5_122) (hts _ w_3_237) (hts _ w_1_3) (hts _ w_3_238) (Nat.le_of_ble_eq_true rfl) (Nat.le_of_ble_eq_true rfl) (Nat.le_of_ble_eq_true rfl) (Nat.le_of_ble_eq_true rfl) dX5_joined_148 ?_
      refine lv_topl (fun v_21 ev_21 => ?_)
      exact sk_lret hx hb hr hlocks hK hP hD hS rfl (Nat.le_of_ble_eq_true rfl) (Nat.le_of_ble_eq_true rfl) dX5_joined_151
    · skip
      refine lv_lload_n hx hb dX5_joined_142 rfl (lv_at hl 2 rfl) ?_
      refine lv_goto (tgt := 151) hx hb dX5_joined_143 (by decide) ?_
      exact sk_lret hx hb hr hlocks hK hP hD hS rfl (Nat.le_of_ble_eq_true rfl) (Nat.le_of_ble_eq_true rfl) dX5_joined_151
  by_cases g_22 : vb = 278
  · refine lv_tableIn (off := 133) (tgt := 137) hx hb dX5_joined_4 (by rw [g_22]; decide) (by rw [g_22]; decide) (by rw [g_22]; rfl) (by decide) ?_
    refine lv_iload hx hb dX5_joined_137 (lv_at hl 3 rfl) ?_
    refine lv_if_ne (tgt := 146) hx hb dX5_joined_139 (by decide) (fun c_23 => ?_) (fun c_23 => ?_)
    · skip
      refine lv_lload_n hx hb dX5_joined_146 rfl (lv_at hl 1 rfl) ?_
      refine lv_lload_n hx hb dX5_joined_147 rfl (lv_at hl 2 rfl) ?_
      refine va_mmin_long hx hb (by rw [hml]; exact hl.1.symm) hown (hts _ w_5_122) (hts _ w_3_237) (hts _ w_1_3) (hts _ w_3_238) (Nat.le_of_ble_eq_true rfl) (Nat.le_of_ble_eq_true rfl) (Nat.le_of_ble_eq_true rfl) (Nat.le_of_ble_eq_true rfl) dX5_joined_148 ?_
      refine lv_topl (fun v_24 ev_24 => ?_)
      exact sk_lret hx hb hr hlocks hK hP hD hS rfl (Nat.le_of_ble_eq_true rfl) (Nat.le_of_ble_eq_true rfl) dX5_joined_151
    · skip
      refine lv_lload_n hx hb dX5_joined_142 rfl (lv_at hl 2 rfl) ?_
      refine lv_goto (tgt := 151) hx hb dX5_joined_143 (by decide) ?_
      exact sk_lret hx hb hr hlocks hK hP hD hS rfl (Nat.le_of_ble_eq_true rfl) (Nat.le_of_ble_eq_true rfl) dX5_joined_151
  by_cases g_25 : vb = 279
  · refine lv_tableIn (off := 86) (tgt := 90) hx hb dX5_joined_4 (by rw [g_25]; decide) (by rw [g_25]; decide) (by rw [g_25]; rfl) (by decide) ?_
    refine lv_lload_n hx hb dX5_joined_90 rfl (lv_at hl 2 rfl) ?_
    refine lv_lconst (v := 0) hx hb dX5_joined_91 (by decide) ?_
    refine W.lcmp hx hb dX5_joined_92 ?_
    refine lv_if_eq (tgt := 102) hx hb dX5_joined_93 (by decide) (fun c_26 => ?_) (fun c_26 => ?_)
    · skip
      refine lv_lload_n hx hb dX5_joined_102 rfl (lv_at hl 1 rfl) ?_
      exact sk_lret hx hb hr hlocks hK hP hD hS rfl (Nat.le_of_ble_eq_true rfl) (Nat.le_of_ble_eq_true rfl) dX5_joined_103
    · skip
      refine lv_iload hx hb dX5_joined_96 (lv_at hl 3 rfl) ?_
      refine lv_i2l hx hb dX5_joined_98 rfl ?_
      refine lv_goto (tgt := 103) hx hb dX5_joined_99 (by decide) ?_
      exact sk_lret hx hb hr hlocks hK hP hD hS rfl (Nat.le_of_ble_eq_true rfl) (Nat.le_of_ble_eq_true rfl) dX5_joined_103
  by_cases g_27 : vb = 280
  · refine lv_tableIn (off := 100) (tgt := 104) hx hb dX5_joined_4 (by rw [g_27]; decide) (by rw [g_27]; decide) (by rw [g_27]; rfl) (by decide) ?_
    refine lv_lload_n hx hb dX5_joined_104 rfl (lv_at hl 2 rfl) ?_
    refine lv_lconst (v := 0) hx hb dX5_joined_105 (by decide) ?_
    refine W.lcmp hx hb dX5_joined_106 ?_
    refine lv_if_eq (tgt := 116) hx hb dX5_joined_107 (by decide) (fun c_28 => ?_) (fun c_28 => ?_)
    · skip
      refine lv_lload_n hx hb dX5_joined_116 rfl (lv_at hl 1 rfl) ?_
      exact sk_lret hx hb hr hlocks hK hP hD hS rfl (Nat.le_of_ble_eq_true rfl) (Nat.le_of_ble_eq_true rfl) dX5_joined_117
    · skip
      refine lv_lload_n hx hb dX5_joined_110 rfl (lv_at hl 1 rfl) ?_
      refine lv_lconst (v := 1) hx hb dX5_joined_111 (by decide) ?_
      refine lv_ladd hx hb dX5_joined_112 ?_
      refine lv_topl (fun v_29 ev_29 => ?_)
      refine lv_goto (tgt := 117) hx hb dX5_joined_113 (by decide) ?_
      exact sk_lret hx hb hr hlocks hK hP hD hS rfl (Nat.le_of_ble_eq_true rfl) (Nat.le_of_ble_eq_true rfl) dX5_joined_117
  by_cases g_30 : vb = 281
  · refine lv_tableIn (off := 114) (tgt := 118) hx hb dX5_joined_4 (by rw [g_30]; decide) (by rw [g_30]; decide) (by rw [g_30]; rfl) (by decide) ?_
    refine lv_lload_n hx hb dX5_joined_118 rfl (lv_at hl 1 rfl) ?_
    refine lv_lload_n hx hb dX5_joined_119 rfl (lv_at hl 2 rfl) ?_
    refine lv_ladd hx hb dX5_joined_120 ?_
    refine lv_topl (fun v_31 ev_31 => ?_)
    exact sk_lret hx hb hr hlocks hK hP hD hS rfl (Nat.le_of_ble_eq_true rfl) (Nat.le_of_ble_eq_true rfl) dX5_joined_121
  by_cases g_32 : vb = 282
  · refine lv_tableIn (off := 118) (tgt := 122) hx hb dX5_joined_4 (by rw [g_32]; decide) (by rw [g_32]; decide) (by rw [g_32]; rfl) (by decide) ?_
    refine lv_iload hx hb dX5_joined_122 (lv_at hl 3 rfl) ?_
    refine lv_if_ne (tgt := 131) hx hb dX5_joined_124 (by decide) (fun c_33 => ?_) (fun c_33 => ?_)
    · skip
      refine lv_lload_n hx hb dX5_joined_131 rfl (lv_at hl 1 rfl) ?_
      refine lv_lload_n hx hb dX5_joined_132 rfl (lv_at hl 2 rfl) ?_
      refine va_mmax_long hx hb (by rw [hml]; exact hl.1.symm) hown (hts _ w_5_121) (hts _ w_4_0) (hts _ w_1_3) (hts _ w_4_1) (Nat.le_of_ble_eq_true rfl) (Nat.le_of_ble_eq_true rfl) (Nat.le_of_ble_eq_true rfl) (Nat.le_of_ble_eq_true rfl) dX5_joined_133 ?_
      refine lv_topl (fun v_34 ev_34 => ?_)
      exact sk_lret hx hb hr hlocks hK hP hD hS rfl (Nat.le_of_ble_eq_true rfl) (Nat.le_of_ble_eq_true rfl) dX5_joined_136
    · skip
      refine lv_lload_n hx hb dX5_joined_127 rfl (lv_at hl 2 rfl) ?_
      refine lv_goto (tgt := 136) hx hb dX5_joined_128 (by decide) ?_
      exact sk_lret hx hb hr hlocks hK hP hD hS rfl (Nat.le_of_ble_eq_true rfl) (Nat.le_of_ble_eq_true rfl) dX5_joined_136
  refine lv_tableOut (tgt := 137) hx hb dX5_joined_4 (sk_out2 271 282 (by intro k hk1 hk2; rcases (show k = 271 ∨ k = 272 ∨ k = 273 ∨ k = 274 ∨ k = 275 ∨ k = 276 ∨ k = 277 ∨ k = 278 ∨ k = 279 ∨ k = 280 ∨ k = 281 ∨ k = 282 by omega) with rfl | rfl | rfl | rfl | rfl | rfl | rfl | rfl | rfl | rfl | rfl | rfl <;> assumption)) (by decide) ?_
  refine lv_iload hx hb dX5_joined_137 (lv_at hl 3 rfl) ?_
  refine lv_if_ne (tgt := 146) hx hb dX5_joined_139 (by decide) (fun c_35 => ?_) (fun c_35 => ?_)
  · skip
    refine lv_lload_n hx hb dX5_joined_146 rfl (lv_at hl 1 rfl) ?_
    refine lv_lload_n hx hb dX5_joined_147 rfl (lv_at hl 2 rfl) ?_
    refine va_mmin_long hx hb (by rw [hml]; exact hl.1.symm) hown (hts _ w_5_122) (hts _ w_3_237) (hts _ w_1_3) (hts _ w_3_238) (Nat.le_of_ble_eq_true rfl) (Nat.le_of_ble_eq_true rfl) (Nat.le_of_ble_eq_true rfl) (Nat.le_of_ble_eq_true rfl) dX5_joined_148 ?_
    refine lv_topl (fun v_36 ev_36 => ?_)
    exact sk_lret hx hb hr hlocks hK hP hD hS rfl (Nat.le_of_ble_eq_true rfl) (Nat.le_of_ble_eq_true rfl) dX5_joined_151
  · skip
    refine lv_lload_n hx hb dX5_joined_142 rfl (lv_at hl 2 rfl) ?_
    refine lv_goto (tgt := 151) hx hb dX5_joined_143 (by decide) ?_
    exact sk_lret hx hb hr hlocks hK hP hD hS rfl (Nat.le_of_ble_eq_true rfl) (Nat.le_of_ble_eq_true rfl) dX5_joined_151
