set_option maxHeartbeats 4000000 in
set_option maxRecDepth 100000 in
theorem c_Tape_leftN (l : Launch) (D : va_G) (cI cJ cC cZ cS : ClassId) (h0 : Nat) (k1 : Nat) (tl : Nat) (tb : Nat → Nat) (k : Nat) (htl : tl ≤ 1600) (htb : ∀ j, tb j ≤ 255) (hk : k < 1600) : skM l yX10_left cX10_left 2 (some .int) 0 0 0 0 D (skT cI cJ cC cZ cS) [.ref h0, .int (nI k)] [(h0, .inr (10, [.ref k1, .int (nI tl)])), (k1, .inl (cI, 1600, .inl (fun j => nI (tb j))))] (skI D (skT cI cJ cC cZ cS) (fun (r : Int32) (u : va_W) => tb k ≤ 255 ∧ r = nI (tb k) ∧ u = [(h0, .inr (10, [.ref k1, .int (nI tl)])), (k1, .inl (cI, 1600, .inl (fun j => nI (tb j))))])) := by
  refine skM_of pf_X10_left (Nat.le_of_ble_eq_true rfl) ?_
  intro p e s m below meth c A ls E hP hD hl
  refine skE_el E (fun hx hb hr hml hlocks hin hown hts hK hA => ?_)
  have hown : s.vm.findClass RX10 = some m.cls := hown
  have hS : va_S A s.heap s.heap [] := va_S.rf
  have hl : lv_has ls 2 [(0, .ref h0), (1, .int (nI k))] := hl
  refine lv_iload_n hx hb dX10_left_0 rfl (lv_at hl 1 rfl) ?_
  refine lv_if_lt (tgt := 22) hx hb dX10_left_1 (by decide) (fun c => absurd c (nI_pos (by omega))) (fun c_1 => ?_)
  refine lv_iload_n hx hb dX10_left_4 rfl (lv_at hl 1 rfl) ?_
  refine lv_aload_n hx hb dX10_left_5 rfl (lv_at hl 0 rfl) ?_
  refine sk_get (v := .ref k1) (C := RX10) (T := TX10) (N := 2) hx hb hts inlX10 hown hK hP 0 rfl rfl 0 (by decide) w_1_39 rfl dX10_left_6 ?_
  refine va_alen (v := 1600) hx hb hK.1 hP 1 0 rfl rfl rfl dX10_left_9 ?_
  refine lv_icmp_ge (tgt := 22) hx hb dX10_left_10 (by decide) (fun c => absurd c (fun h9 => absurd ((nle 1600 k (by omega) (by omega)).mp h9) (by omega))) (fun c_2 => ?_)
  refine lv_aload_n hx hb dX10_left_13 rfl (lv_at hl 0 rfl) ?_
  refine sk_get (v := .ref k1) (C := RX10) (T := TX10) (N := 2) hx hb hts inlX10 hown hK hP 0 rfl rfl 0 (by decide) w_1_39 rfl dX10_left_14 ?_
  refine lv_iload_n hx hb dX10_left_17 rfl (lv_at hl 1 rfl) ?_
  refine va_iald hx hb hK.1 hP 1 0 rfl rfl (vin k 1600 (by omega) (by omega)) dX10_left_18 ?_
  refine sk_top (nI (tb k)) (nrd tb k (by omega)) ?_
  have hb_3 := htb k
  refine lv_goto (tgt := 23) hx hb dX10_left_19 (by decide) ?_
  exact sk_iret hx hb hr rfl hlocks hK hP hD hS (⟨htb k, rfl, rfl⟩) (Nat.le_of_ble_eq_true rfl) (Nat.le_of_ble_eq_true rfl) dX10_left_23
/-! what an image is -/
def imgK (tb : Nat → Nat) (e : Nat) : Prop := ∀ k, 2 ≤ k → k < e → tb k ≤ 9 ∧ (2 < k → k % 3 = 2 → tb k ≤ 1)
def imgO (tb : Nat → Nat) (n dy : Nat) : Prop := n = 3 * dy + 4 ∧ tb (3 * dy + 3) = chkN tb (3 * dy + 3) ∧ tb 0 * 256 + tb 1 ≤ 999 ∧ imgK tb (3 * dy + 3)
theorem imgK_0 {tb : Nat → Nat} (h : tb 2 < 10) : imgK tb 3 := fun k h1 h2 => by
  obtain rfl : k = 2 := by omega
  exact ⟨by omega, fun q => absurd q (by omega)⟩
theorem imgK_s {tb : Nat → Nat} {i : Nat} (h : imgK tb i) (h3 : i % 3 = 0) (h1 : tb i < 10) (h2 : tb (i + 1) < 10) (h4 : tb (i + 2) ≤ 1) : imgK tb (i + 3) := fun k q1 q2 => by
  by_cases e : k < i
  · exact h k q1 e
  · by_cases e0 : k = i
    · subst e0; exact ⟨by omega, fun _ q => absurd q (by omega)⟩
    · by_cases e1 : k = i + 1
      · subst e1; exact ⟨by omega, fun _ q => absurd q (by omega)⟩
      · obtain rfl : k = i + 2 := by omega
        exact ⟨by omega, fun _ _ => h4⟩
theorem dg_X11_tellsImage_0_0 : bqL cX11_tellsImage 0 [(0, [6]), (1, [42]), (2, [180, 0, 59]), (5, [180, 0, 144]), (8, [104]), (9, [6]), (10, [96]), (11, [60]), (12, [42]), (13, [180, 0, 12]), (16, [180, 0, 110]), (19, [27]), (20, [4]), (21, [96]), (22, [160, 0, 22]), (44, [3]), (45, [172]), (25, [42]), (26, [180, 0, 12]), (29, [27]), (30, [182, 1, 12]), (33, [42]), (34, [180, 0, 12]), (37, [27]), (38, [182, 1, 57]), (41, [159, 0, 5]), (46, [42]), (47, [180, 0, 12]), (50, [3]), (51, [182, 1, 12]), (54, [17, 1, 0]), (57, [104]), (58, [42]), (59, [180, 0, 12]), (62, [4]), (63, [182, 1, 12]), (66, [96]), (67, [17, 3, 231]), (70, [163, 0, 16]), (86, [3])] = true := by decide +kernel
theorem dX11_tellsImage_0 : decode cX11_tellsImage 0 = .ok (.iconst 3, 1) := q_iconst3 (bat_get dg_X11_tellsImage_0_0 0 rfl rfl)
theorem dX11_tellsImage_1 : decode cX11_tellsImage 1 = .ok (.aload_n 0, 1) := q_aload_n0 (bat_get dg_X11_tellsImage_0_0 1 rfl rfl)
theorem dX11_tellsImage_2 : decode cX11_tellsImage 2 = .ok (.getfield 59, 3) := q_getfield (bat_get dg_X11_tellsImage_0_0 2 rfl rfl) rfl
theorem dX11_tellsImage_5 : decode cX11_tellsImage 5 = .ok (.getfield 144, 3) := q_getfield (bat_get dg_X11_tellsImage_0_0 3 rfl rfl) rfl
theorem dX11_tellsImage_8 : decode cX11_tellsImage 8 = .ok (.imul, 1) := q_imul (bat_get dg_X11_tellsImage_0_0 4 rfl rfl)
theorem dX11_tellsImage_9 : decode cX11_tellsImage 9 = .ok (.iconst 3, 1) := q_iconst3 (bat_get dg_X11_tellsImage_0_0 5 rfl rfl)
theorem dX11_tellsImage_10 : decode cX11_tellsImage 10 = .ok (.iadd, 1) := q_iadd (bat_get dg_X11_tellsImage_0_0 6 rfl rfl)
theorem dX11_tellsImage_11 : decode cX11_tellsImage 11 = .ok (.istore_n 1, 1) := q_istore_n1 (bat_get dg_X11_tellsImage_0_0 7 rfl rfl)
theorem dX11_tellsImage_12 : decode cX11_tellsImage 12 = .ok (.aload_n 0, 1) := q_aload_n0 (bat_get dg_X11_tellsImage_0_0 8 rfl rfl)
theorem dX11_tellsImage_13 : decode cX11_tellsImage 13 = .ok (.getfield 12, 3) := q_getfield (bat_get dg_X11_tellsImage_0_0 9 rfl rfl) rfl
theorem dX11_tellsImage_16 : decode cX11_tellsImage 16 = .ok (.getfield 110, 3) := q_getfield (bat_get dg_X11_tellsImage_0_0 10 rfl rfl) rfl
theorem dX11_tellsImage_19 : decode cX11_tellsImage 19 = .ok (.iload_n 1, 1) := q_iload_n1 (bat_get dg_X11_tellsImage_0_0 11 rfl rfl)
theorem dX11_tellsImage_20 : decode cX11_tellsImage 20 = .ok (.iconst 1, 1) := q_iconst1 (bat_get dg_X11_tellsImage_0_0 12 rfl rfl)
theorem dX11_tellsImage_21 : decode cX11_tellsImage 21 = .ok (.iadd, 1) := q_iadd (bat_get dg_X11_tellsImage_0_0 13 rfl rfl)
theorem dX11_tellsImage_22 : decode cX11_tellsImage 22 = .ok (.if_icmp .ne 22, 3) := q_if_icmp_ne (bat_get dg_X11_tellsImage_0_0 14 rfl rfl) rfl
theorem dX11_tellsImage_44 : decode cX11_tellsImage 44 = .ok (.iconst 0, 1) := q_iconst0 (bat_get dg_X11_tellsImage_0_0 15 rfl rfl)
theorem dX11_tellsImage_45 : decode cX11_tellsImage 45 = .ok (.ireturn, 1) := q_ireturn (bat_get dg_X11_tellsImage_0_0 16 rfl rfl)
theorem dX11_tellsImage_25 : decode cX11_tellsImage 25 = .ok (.aload_n 0, 1) := q_aload_n0 (bat_get dg_X11_tellsImage_0_0 17 rfl rfl)
theorem dX11_tellsImage_26 : decode cX11_tellsImage 26 = .ok (.getfield 12, 3) := q_getfield (bat_get dg_X11_tellsImage_0_0 18 rfl rfl) rfl
theorem dX11_tellsImage_29 : decode cX11_tellsImage 29 = .ok (.iload_n 1, 1) := q_iload_n1 (bat_get dg_X11_tellsImage_0_0 19 rfl rfl)
theorem dX11_tellsImage_30 : decode cX11_tellsImage 30 = .ok (.invokevirtual 268, 3) := q_invokevirtual (bat_get dg_X11_tellsImage_0_0 20 rfl rfl) rfl
theorem dX11_tellsImage_33 : decode cX11_tellsImage 33 = .ok (.aload_n 0, 1) := q_aload_n0 (bat_get dg_X11_tellsImage_0_0 21 rfl rfl)
theorem dX11_tellsImage_34 : decode cX11_tellsImage 34 = .ok (.getfield 12, 3) := q_getfield (bat_get dg_X11_tellsImage_0_0 22 rfl rfl) rfl
theorem dX11_tellsImage_37 : decode cX11_tellsImage 37 = .ok (.iload_n 1, 1) := q_iload_n1 (bat_get dg_X11_tellsImage_0_0 23 rfl rfl)
theorem dX11_tellsImage_38 : decode cX11_tellsImage 38 = .ok (.invokevirtual 313, 3) := q_invokevirtual (bat_get dg_X11_tellsImage_0_0 24 rfl rfl) rfl
theorem dX11_tellsImage_41 : decode cX11_tellsImage 41 = .ok (.if_icmp .eq 5, 3) := q_if_icmp_eq (bat_get dg_X11_tellsImage_0_0 25 rfl rfl) rfl
theorem dX11_tellsImage_46 : decode cX11_tellsImage 46 = .ok (.aload_n 0, 1) := q_aload_n0 (bat_get dg_X11_tellsImage_0_0 26 rfl rfl)
theorem dX11_tellsImage_47 : decode cX11_tellsImage 47 = .ok (.getfield 12, 3) := q_getfield (bat_get dg_X11_tellsImage_0_0 27 rfl rfl) rfl
theorem dX11_tellsImage_50 : decode cX11_tellsImage 50 = .ok (.iconst 0, 1) := q_iconst0 (bat_get dg_X11_tellsImage_0_0 28 rfl rfl)
theorem dX11_tellsImage_51 : decode cX11_tellsImage 51 = .ok (.invokevirtual 268, 3) := q_invokevirtual (bat_get dg_X11_tellsImage_0_0 29 rfl rfl) rfl
theorem dX11_tellsImage_54 : decode cX11_tellsImage 54 = .ok (.sipush 256, 3) := q_sipush (bat_get dg_X11_tellsImage_0_0 30 rfl rfl) rfl
theorem dX11_tellsImage_57 : decode cX11_tellsImage 57 = .ok (.imul, 1) := q_imul (bat_get dg_X11_tellsImage_0_0 31 rfl rfl)
theorem dX11_tellsImage_58 : decode cX11_tellsImage 58 = .ok (.aload_n 0, 1) := q_aload_n0 (bat_get dg_X11_tellsImage_0_0 32 rfl rfl)
theorem dX11_tellsImage_59 : decode cX11_tellsImage 59 = .ok (.getfield 12, 3) := q_getfield (bat_get dg_X11_tellsImage_0_0 33 rfl rfl) rfl
theorem dX11_tellsImage_62 : decode cX11_tellsImage 62 = .ok (.iconst 1, 1) := q_iconst1 (bat_get dg_X11_tellsImage_0_0 34 rfl rfl)
theorem dX11_tellsImage_63 : decode cX11_tellsImage 63 = .ok (.invokevirtual 268, 3) := q_invokevirtual (bat_get dg_X11_tellsImage_0_0 35 rfl rfl) rfl
theorem dX11_tellsImage_66 : decode cX11_tellsImage 66 = .ok (.iadd, 1) := q_iadd (bat_get dg_X11_tellsImage_0_0 36 rfl rfl)
theorem dX11_tellsImage_67 : decode cX11_tellsImage 67 = .ok (.sipush 999, 3) := q_sipush (bat_get dg_X11_tellsImage_0_0 37 rfl rfl) rfl
theorem dX11_tellsImage_70 : decode cX11_tellsImage 70 = .ok (.if_icmp .gt 16, 3) := q_if_icmp_gt (bat_get dg_X11_tellsImage_0_0 38 rfl rfl) rfl
theorem dX11_tellsImage_86 : decode cX11_tellsImage 86 = .ok (.iconst 0, 1) := q_iconst0 (bat_get dg_X11_tellsImage_0_0 39 rfl rfl)
theorem dg_X11_tellsImage_73_87 : bqL cX11_tellsImage 73 [(14, [172]), (0, [42]), (1, [180, 0, 12]), (4, [5]), (5, [182, 1, 12]), (8, [16, 10]), (10, [161, 0, 5]), (15, [6]), (16, [61]), (17, [28]), (18, [27]), (19, [162, 0, 53]), (72, [4]), (73, [172]), (22, [42]), (23, [180, 0, 12]), (26, [28]), (27, [182, 1, 12]), (30, [16, 10]), (32, [162, 0, 32]), (64, [3]), (65, [172]), (35, [42]), (36, [180, 0, 12]), (39, [28]), (40, [4]), (41, [96]), (42, [182, 1, 12]), (45, [16, 10]), (47, [162, 0, 17]), (50, [42]), (51, [180, 0, 12]), (54, [28]), (55, [5]), (56, [96]), (57, [182, 1, 12]), (60, [4]), (61, [164, 0, 5]), (66, [132, 2, 3]), (69, [167, 255, 204])] = true := by decide +kernel
theorem dX11_tellsImage_87 : decode cX11_tellsImage 87 = .ok (.ireturn, 1) := q_ireturn (bat_get dg_X11_tellsImage_73_87 0 rfl rfl)
theorem dX11_tellsImage_73 : decode cX11_tellsImage 73 = .ok (.aload_n 0, 1) := q_aload_n0 (bat_get dg_X11_tellsImage_73_87 1 rfl rfl)
theorem dX11_tellsImage_74 : decode cX11_tellsImage 74 = .ok (.getfield 12, 3) := q_getfield (bat_get dg_X11_tellsImage_73_87 2 rfl rfl) rfl
theorem dX11_tellsImage_77 : decode cX11_tellsImage 77 = .ok (.iconst 2, 1) := q_iconst2 (bat_get dg_X11_tellsImage_73_87 3 rfl rfl)
theorem dX11_tellsImage_78 : decode cX11_tellsImage 78 = .ok (.invokevirtual 268, 3) := q_invokevirtual (bat_get dg_X11_tellsImage_73_87 4 rfl rfl) rfl
theorem dX11_tellsImage_81 : decode cX11_tellsImage 81 = .ok (.bipush 10, 2) := q_bipush (bat_get dg_X11_tellsImage_73_87 5 rfl rfl) rfl
theorem dX11_tellsImage_83 : decode cX11_tellsImage 83 = .ok (.if_icmp .lt 5, 3) := q_if_icmp_lt (bat_get dg_X11_tellsImage_73_87 6 rfl rfl) rfl
theorem dX11_tellsImage_88 : decode cX11_tellsImage 88 = .ok (.iconst 3, 1) := q_iconst3 (bat_get dg_X11_tellsImage_73_87 7 rfl rfl)
theorem dX11_tellsImage_89 : decode cX11_tellsImage 89 = .ok (.istore_n 2, 1) := q_istore_n2 (bat_get dg_X11_tellsImage_73_87 8 rfl rfl)
theorem dX11_tellsImage_90 : decode cX11_tellsImage 90 = .ok (.iload_n 2, 1) := q_iload_n2 (bat_get dg_X11_tellsImage_73_87 9 rfl rfl)
theorem dX11_tellsImage_91 : decode cX11_tellsImage 91 = .ok (.iload_n 1, 1) := q_iload_n1 (bat_get dg_X11_tellsImage_73_87 10 rfl rfl)
theorem dX11_tellsImage_92 : decode cX11_tellsImage 92 = .ok (.if_icmp .ge 53, 3) := q_if_icmp_ge (bat_get dg_X11_tellsImage_73_87 11 rfl rfl) rfl
theorem dX11_tellsImage_145 : decode cX11_tellsImage 145 = .ok (.iconst 1, 1) := q_iconst1 (bat_get dg_X11_tellsImage_73_87 12 rfl rfl)
theorem dX11_tellsImage_146 : decode cX11_tellsImage 146 = .ok (.ireturn, 1) := q_ireturn (bat_get dg_X11_tellsImage_73_87 13 rfl rfl)
theorem dX11_tellsImage_95 : decode cX11_tellsImage 95 = .ok (.aload_n 0, 1) := q_aload_n0 (bat_get dg_X11_tellsImage_73_87 14 rfl rfl)
theorem dX11_tellsImage_96 : decode cX11_tellsImage 96 = .ok (.getfield 12, 3) := q_getfield (bat_get dg_X11_tellsImage_73_87 15 rfl rfl) rfl
theorem dX11_tellsImage_99 : decode cX11_tellsImage 99 = .ok (.iload_n 2, 1) := q_iload_n2 (bat_get dg_X11_tellsImage_73_87 16 rfl rfl)
theorem dX11_tellsImage_100 : decode cX11_tellsImage 100 = .ok (.invokevirtual 268, 3) := q_invokevirtual (bat_get dg_X11_tellsImage_73_87 17 rfl rfl) rfl
theorem dX11_tellsImage_103 : decode cX11_tellsImage 103 = .ok (.bipush 10, 2) := q_bipush (bat_get dg_X11_tellsImage_73_87 18 rfl rfl) rfl
theorem dX11_tellsImage_105 : decode cX11_tellsImage 105 = .ok (.if_icmp .ge 32, 3) := q_if_icmp_ge (bat_get dg_X11_tellsImage_73_87 19 rfl rfl) rfl
theorem dX11_tellsImage_137 : decode cX11_tellsImage 137 = .ok (.iconst 0, 1) := q_iconst0 (bat_get dg_X11_tellsImage_73_87 20 rfl rfl)
theorem dX11_tellsImage_138 : decode cX11_tellsImage 138 = .ok (.ireturn, 1) := q_ireturn (bat_get dg_X11_tellsImage_73_87 21 rfl rfl)
theorem dX11_tellsImage_108 : decode cX11_tellsImage 108 = .ok (.aload_n 0, 1) := q_aload_n0 (bat_get dg_X11_tellsImage_73_87 22 rfl rfl)
theorem dX11_tellsImage_109 : decode cX11_tellsImage 109 = .ok (.getfield 12, 3) := q_getfield (bat_get dg_X11_tellsImage_73_87 23 rfl rfl) rfl
theorem dX11_tellsImage_112 : decode cX11_tellsImage 112 = .ok (.iload_n 2, 1) := q_iload_n2 (bat_get dg_X11_tellsImage_73_87 24 rfl rfl)
theorem dX11_tellsImage_113 : decode cX11_tellsImage 113 = .ok (.iconst 1, 1) := q_iconst1 (bat_get dg_X11_tellsImage_73_87 25 rfl rfl)
theorem dX11_tellsImage_114 : decode cX11_tellsImage 114 = .ok (.iadd, 1) := q_iadd (bat_get dg_X11_tellsImage_73_87 26 rfl rfl)
theorem dX11_tellsImage_115 : decode cX11_tellsImage 115 = .ok (.invokevirtual 268, 3) := q_invokevirtual (bat_get dg_X11_tellsImage_73_87 27 rfl rfl) rfl
theorem dX11_tellsImage_118 : decode cX11_tellsImage 118 = .ok (.bipush 10, 2) := q_bipush (bat_get dg_X11_tellsImage_73_87 28 rfl rfl) rfl
theorem dX11_tellsImage_120 : decode cX11_tellsImage 120 = .ok (.if_icmp .ge 17, 3) := q_if_icmp_ge (bat_get dg_X11_tellsImage_73_87 29 rfl rfl) rfl
theorem dX11_tellsImage_123 : decode cX11_tellsImage 123 = .ok (.aload_n 0, 1) := q_aload_n0 (bat_get dg_X11_tellsImage_73_87 30 rfl rfl)
theorem dX11_tellsImage_124 : decode cX11_tellsImage 124 = .ok (.getfield 12, 3) := q_getfield (bat_get dg_X11_tellsImage_73_87 31 rfl rfl) rfl
theorem dX11_tellsImage_127 : decode cX11_tellsImage 127 = .ok (.iload_n 2, 1) := q_iload_n2 (bat_get dg_X11_tellsImage_73_87 32 rfl rfl)
theorem dX11_tellsImage_128 : decode cX11_tellsImage 128 = .ok (.iconst 2, 1) := q_iconst2 (bat_get dg_X11_tellsImage_73_87 33 rfl rfl)
theorem dX11_tellsImage_129 : decode cX11_tellsImage 129 = .ok (.iadd, 1) := q_iadd (bat_get dg_X11_tellsImage_73_87 34 rfl rfl)
theorem dX11_tellsImage_130 : decode cX11_tellsImage 130 = .ok (.invokevirtual 268, 3) := q_invokevirtual (bat_get dg_X11_tellsImage_73_87 35 rfl rfl) rfl
theorem dX11_tellsImage_133 : decode cX11_tellsImage 133 = .ok (.iconst 1, 1) := q_iconst1 (bat_get dg_X11_tellsImage_73_87 36 rfl rfl)
theorem dX11_tellsImage_134 : decode cX11_tellsImage 134 = .ok (.if_icmp .le 5, 3) := q_if_icmp_le (bat_get dg_X11_tellsImage_73_87 37 rfl rfl) rfl
theorem dX11_tellsImage_139 : decode cX11_tellsImage 139 = .ok (.iinc 2 3, 3) := q_iinc (bat_get dg_X11_tellsImage_73_87 38 rfl rfl) rfl
theorem dX11_tellsImage_142 : decode cX11_tellsImage 142 = .ok (.goto (-52), 3) := q_goto (bat_get dg_X11_tellsImage_73_87 39 rfl rfl) rfl
theorem w_2_123 : (Cond.fieldLink RX11 12 "SameKeeper" "tape" "LSameKeeper$Tape;") ∈ wsL_law := sk_mem (ck_2 _ (List.mem_of_getElem? (i := 123) rfl)) rfl
theorem w_1_42 : (Cond.fieldLink RX11 110 "SameKeeper$Tape" "length" "I") ∈ wsL_law := sk_mem (ck_1 _ (List.mem_of_getElem? (i := 42) rfl)) rfl
theorem w_4_214 : (Cond.methodLink RX11 268 yX10_left) ∈ wsL_law := sk_mem (ck_4 _ (List.mem_of_getElem? (i := 214) rfl)) rfl
theorem w_5_128 : (Cond.methodLink RX11 313 yX10_checkOf) ∈ wsL_law := sk_mem (ck_5 _ (List.mem_of_getElem? (i := 128) rfl)) rfl
