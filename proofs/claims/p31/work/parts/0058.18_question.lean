theorem dX5_read_29 : decode cX5_read 29 = .ok (.tableswitch 102 271 283 #[67, 102, 102, 102, 102, 102, 102, 102, 67, 67, 81, 81, 81], 67) := by decide +kernel
theorem dg_X5_read_0_0 : bqL cX5_read 0 [(0, [42]), (1, [180, 0, 12]), (4, [182, 0, 37]), (7, [42]), (8, [180, 0, 24]), (11, [182, 0, 40]), (14, [42]), (15, [42]), (16, [180, 0, 24]), (19, [180, 0, 43]), (22, [181, 0, 20]), (138, [42]), (139, [180, 0, 24]), (142, [180, 0, 43]), (145, [2]), (146, [159, 0, 10]), (156, [177]), (149, [42]), (150, [180, 0, 24]), (153, [182, 0, 56]), (25, [42]), (26, [180, 0, 20]), (96, [42]), (97, [180, 0, 24]), (100, [182, 0, 46]), (103, [42]), (104, [182, 0, 49]), (107, [167, 0, 31]), (131, [42]), (132, [180, 0, 24]), (135, [182, 0, 56]), (110, [42]), (111, [180, 0, 24]), (114, [182, 0, 46]), (117, [42]), (118, [180, 0, 33]), (121, [42]), (122, [180, 0, 12]), (125, [182, 0, 52]), (128, [167, 0, 10])] = true := by decide +kernel
theorem dX5_read_0 : decode cX5_read 0 = .ok (.aload_n 0, 1) := q_aload_n0 (bat_get dg_X5_read_0_0 0 rfl rfl)
theorem dX5_read_1 : decode cX5_read 1 = .ok (.getfield 12, 3) := q_getfield (bat_get dg_X5_read_0_0 1 rfl rfl) rfl
theorem dX5_read_4 : decode cX5_read 4 = .ok (.invokevirtual 37, 3) := q_invokevirtual (bat_get dg_X5_read_0_0 2 rfl rfl) rfl
theorem dX5_read_7 : decode cX5_read 7 = .ok (.aload_n 0, 1) := q_aload_n0 (bat_get dg_X5_read_0_0 3 rfl rfl)
theorem dX5_read_8 : decode cX5_read 8 = .ok (.getfield 24, 3) := q_getfield (bat_get dg_X5_read_0_0 4 rfl rfl) rfl
theorem dX5_read_11 : decode cX5_read 11 = .ok (.invokevirtual 40, 3) := q_invokevirtual (bat_get dg_X5_read_0_0 5 rfl rfl) rfl
theorem dX5_read_14 : decode cX5_read 14 = .ok (.aload_n 0, 1) := q_aload_n0 (bat_get dg_X5_read_0_0 6 rfl rfl)
theorem dX5_read_15 : decode cX5_read 15 = .ok (.aload_n 0, 1) := q_aload_n0 (bat_get dg_X5_read_0_0 7 rfl rfl)
theorem dX5_read_16 : decode cX5_read 16 = .ok (.getfield 24, 3) := q_getfield (bat_get dg_X5_read_0_0 8 rfl rfl) rfl
theorem dX5_read_19 : decode cX5_read 19 = .ok (.getfield 43, 3) := q_getfield (bat_get dg_X5_read_0_0 9 rfl rfl) rfl
theorem dX5_read_22 : decode cX5_read 22 = .ok (.putfield 20, 3) := q_putfield (bat_get dg_X5_read_0_0 10 rfl rfl) rfl
theorem dX5_read_138 : decode cX5_read 138 = .ok (.aload_n 0, 1) := q_aload_n0 (bat_get dg_X5_read_0_0 11 rfl rfl)
theorem dX5_read_139 : decode cX5_read 139 = .ok (.getfield 24, 3) := q_getfield (bat_get dg_X5_read_0_0 12 rfl rfl) rfl
theorem dX5_read_142 : decode cX5_read 142 = .ok (.getfield 43, 3) := q_getfield (bat_get dg_X5_read_0_0 13 rfl rfl) rfl
theorem dX5_read_145 : decode cX5_read 145 = .ok (.iconst (-1), 1) := q_iconstm1 (bat_get dg_X5_read_0_0 14 rfl rfl)
theorem dX5_read_146 : decode cX5_read 146 = .ok (.if_icmp .eq 10, 3) := q_if_icmp_eq (bat_get dg_X5_read_0_0 15 rfl rfl) rfl
theorem dX5_read_156 : decode cX5_read 156 = .ok (.return_, 1) := q_return_ (bat_get dg_X5_read_0_0 16 rfl rfl)
theorem dX5_read_149 : decode cX5_read 149 = .ok (.aload_n 0, 1) := q_aload_n0 (bat_get dg_X5_read_0_0 17 rfl rfl)
theorem dX5_read_150 : decode cX5_read 150 = .ok (.getfield 24, 3) := q_getfield (bat_get dg_X5_read_0_0 18 rfl rfl) rfl
theorem dX5_read_153 : decode cX5_read 153 = .ok (.invokevirtual 56, 3) := q_invokevirtual (bat_get dg_X5_read_0_0 19 rfl rfl) rfl
theorem dX5_read_25 : decode cX5_read 25 = .ok (.aload_n 0, 1) := q_aload_n0 (bat_get dg_X5_read_0_0 20 rfl rfl)
theorem dX5_read_26 : decode cX5_read 26 = .ok (.getfield 20, 3) := q_getfield (bat_get dg_X5_read_0_0 21 rfl rfl) rfl
theorem dX5_read_96 : decode cX5_read 96 = .ok (.aload_n 0, 1) := q_aload_n0 (bat_get dg_X5_read_0_0 22 rfl rfl)
theorem dX5_read_97 : decode cX5_read 97 = .ok (.getfield 24, 3) := q_getfield (bat_get dg_X5_read_0_0 23 rfl rfl) rfl
theorem dX5_read_100 : decode cX5_read 100 = .ok (.invokevirtual 46, 3) := q_invokevirtual (bat_get dg_X5_read_0_0 24 rfl rfl) rfl
theorem dX5_read_103 : decode cX5_read 103 = .ok (.aload_n 0, 1) := q_aload_n0 (bat_get dg_X5_read_0_0 25 rfl rfl)
theorem dX5_read_104 : decode cX5_read 104 = .ok (.invokevirtual 49, 3) := q_invokevirtual (bat_get dg_X5_read_0_0 26 rfl rfl) rfl
theorem dX5_read_107 : decode cX5_read 107 = .ok (.goto 31, 3) := q_goto (bat_get dg_X5_read_0_0 27 rfl rfl) rfl
theorem dX5_read_131 : decode cX5_read 131 = .ok (.aload_n 0, 1) := q_aload_n0 (bat_get dg_X5_read_0_0 28 rfl rfl)
theorem dX5_read_132 : decode cX5_read 132 = .ok (.getfield 24, 3) := q_getfield (bat_get dg_X5_read_0_0 29 rfl rfl) rfl
theorem dX5_read_135 : decode cX5_read 135 = .ok (.invokevirtual 56, 3) := q_invokevirtual (bat_get dg_X5_read_0_0 30 rfl rfl) rfl
theorem dX5_read_110 : decode cX5_read 110 = .ok (.aload_n 0, 1) := q_aload_n0 (bat_get dg_X5_read_0_0 31 rfl rfl)
theorem dX5_read_111 : decode cX5_read 111 = .ok (.getfield 24, 3) := q_getfield (bat_get dg_X5_read_0_0 32 rfl rfl) rfl
theorem dX5_read_114 : decode cX5_read 114 = .ok (.invokevirtual 46, 3) := q_invokevirtual (bat_get dg_X5_read_0_0 33 rfl rfl) rfl
theorem dX5_read_117 : decode cX5_read 117 = .ok (.aload_n 0, 1) := q_aload_n0 (bat_get dg_X5_read_0_0 34 rfl rfl)
theorem dX5_read_118 : decode cX5_read 118 = .ok (.getfield 33, 3) := q_getfield (bat_get dg_X5_read_0_0 35 rfl rfl) rfl
theorem dX5_read_121 : decode cX5_read 121 = .ok (.aload_n 0, 1) := q_aload_n0 (bat_get dg_X5_read_0_0 36 rfl rfl)
theorem dX5_read_122 : decode cX5_read 122 = .ok (.getfield 12, 3) := q_getfield (bat_get dg_X5_read_0_0 37 rfl rfl) rfl
theorem dX5_read_125 : decode cX5_read 125 = .ok (.invokevirtual 52, 3) := q_invokevirtual (bat_get dg_X5_read_0_0 38 rfl rfl) rfl
theorem dX5_read_128 : decode cX5_read 128 = .ok (.goto 10, 3) := q_goto (bat_get dg_X5_read_0_0 39 rfl rfl) rfl
theorem w_5_67 : (Cond.methodLink RX5 37 yX0_clear) ∈ wsL_law := sk_mem (ck_5 _ (List.mem_of_getElem? (i := 67) rfl)) rfl
theorem w_5_68 : (Cond.methodLink RX5 40 yX6_begin) ∈ wsL_law := sk_mem (ck_5 _ (List.mem_of_getElem? (i := 68) rfl)) rfl
theorem w_1_157 : (Cond.fieldLink RX5 20 "SameKeeper$Question" "verb" "I") ∈ wsL_law := sk_mem (ck_1 _ (List.mem_of_getElem? (i := 157) rfl)) rfl
theorem w_5_66 : (Cond.code yX5_read cX5_read 1 none) ∈ wsL_law := sk_mem (ck_5 _ (List.mem_of_getElem? (i := 66) rfl)) rfl
def om_7_2 : List Bool := false :: false :: false :: false :: false :: true :: false :: []
theorem dg_X5_isOfDays_0_0 : bqL cX5_isOfDays 0 [(0, [42]), (1, [180, 0, 20]), (4, [17, 1, 15]), (7, [159, 0, 13]), (20, [4]), (21, [167, 0, 4]), (25, [172]), (10, [42]), (11, [180, 0, 20]), (14, [17, 1, 23]), (17, [160, 0, 7]), (24, [3])] = true := by decide +kernel
theorem dX5_isOfDays_0 : decode cX5_isOfDays 0 = .ok (.aload_n 0, 1) := q_aload_n0 (bat_get dg_X5_isOfDays_0_0 0 rfl rfl)
theorem dX5_isOfDays_1 : decode cX5_isOfDays 1 = .ok (.getfield 20, 3) := q_getfield (bat_get dg_X5_isOfDays_0_0 1 rfl rfl) rfl
theorem dX5_isOfDays_4 : decode cX5_isOfDays 4 = .ok (.sipush 271, 3) := q_sipush (bat_get dg_X5_isOfDays_0_0 2 rfl rfl) rfl
theorem dX5_isOfDays_7 : decode cX5_isOfDays 7 = .ok (.if_icmp .eq 13, 3) := q_if_icmp_eq (bat_get dg_X5_isOfDays_0_0 3 rfl rfl) rfl
theorem dX5_isOfDays_20 : decode cX5_isOfDays 20 = .ok (.iconst 1, 1) := q_iconst1 (bat_get dg_X5_isOfDays_0_0 4 rfl rfl)
theorem dX5_isOfDays_21 : decode cX5_isOfDays 21 = .ok (.goto 4, 3) := q_goto (bat_get dg_X5_isOfDays_0_0 5 rfl rfl) rfl
theorem dX5_isOfDays_25 : decode cX5_isOfDays 25 = .ok (.ireturn, 1) := q_ireturn (bat_get dg_X5_isOfDays_0_0 6 rfl rfl)
theorem dX5_isOfDays_10 : decode cX5_isOfDays 10 = .ok (.aload_n 0, 1) := q_aload_n0 (bat_get dg_X5_isOfDays_0_0 7 rfl rfl)
theorem dX5_isOfDays_11 : decode cX5_isOfDays 11 = .ok (.getfield 20, 3) := q_getfield (bat_get dg_X5_isOfDays_0_0 8 rfl rfl) rfl
theorem dX5_isOfDays_14 : decode cX5_isOfDays 14 = .ok (.sipush 279, 3) := q_sipush (bat_get dg_X5_isOfDays_0_0 9 rfl rfl) rfl
theorem dX5_isOfDays_17 : decode cX5_isOfDays 17 = .ok (.if_icmp .ne 7, 3) := q_if_icmp_ne (bat_get dg_X5_isOfDays_0_0 10 rfl rfl) rfl
theorem dX5_isOfDays_24 : decode cX5_isOfDays 24 = .ok (.iconst 0, 1) := q_iconst0 (bat_get dg_X5_isOfDays_0_0 11 rfl rfl)
theorem w_5_103 : (Cond.code yX5_isOfDays cX5_isOfDays 1 (some .boolean)) ∈ wsL_law := sk_mem (ck_5 _ (List.mem_of_getElem? (i := 103) rfl)) rfl
set_option maxHeartbeats 4000000 in
set_option maxRecDepth 100000 in
theorem c_q_isOfDays (l : Launch) (D : va_G) (cI cJ cC cZ cS : ClassId) (q : Nat → Nat) (vb : Int32)  : skM l yX5_isOfDays cX5_isOfDays 1 (some .boolean) 0 0 0 0 D (skT cI cJ cC cZ cS) [.ref (q 4)] [(q 4, .inr (5, [.ref (q 2), .ref (q 55), .ref (q 56), .int vb]))] (skI D (skT cI cJ cC cZ cS) (fun (r : Int32) (u : va_W) => ∃ (b : Nat), b ≤ 1 ∧ r = nI b ∧ u = [(q 4, .inr (5, [.ref (q 2), .ref (q 55), .ref (q 56), .int vb]))])) := by
  refine skM_of pf_X5_isOfDays (Nat.le_of_ble_eq_true rfl) ?_
  intro p e s m below meth c A ls E hP hD hl
  refine skE_el E (fun hx hb hr hml hlocks hin hown hts hK hA => ?_)
  have hown : s.vm.findClass RX5 = some m.cls := hown
  have hS : va_S A s.heap s.heap [] := va_S.rf
  have hl : lv_has ls 1 [(0, .ref (q 4))] := hl
  refine lv_aload_n hx hb dX5_isOfDays_0 rfl (lv_at hl 0 rfl) ?_
  refine sk_get (v := .int vb) (C := RX5) (T := TX5) (N := 4) hx hb hts inlX5 hown hK hP 0 rfl rfl 3 (by decide) w_1_157 rfl dX5_isOfDays_1 ?_
  refine lv_sipush (v := 271) hx hb dX5_isOfDays_4 (by decide) ?_
  refine lv_icmp_eq (tgt := 20) hx hb dX5_isOfDays_7 (by decide) (fun c_1 => ?_) (fun c_1 => ?_)
  · skip
    refine lv_iconst (v := 1) hx hb dX5_isOfDays_20 (by decide) ?_
    refine lv_goto (tgt := 25) hx hb dX5_isOfDays_21 (by decide) ?_
    exact sk_iret hx hb hr rfl hlocks hK hP hD hS (⟨1, by omega, rfl, rfl⟩) (Nat.le_of_ble_eq_true rfl) (Nat.le_of_ble_eq_true rfl) dX5_isOfDays_25
  · skip
    refine lv_aload_n hx hb dX5_isOfDays_10 rfl (lv_at hl 0 rfl) ?_
    refine sk_get (v := .int vb) (C := RX5) (T := TX5) (N := 4) hx hb hts inlX5 hown hK hP 0 rfl rfl 3 (by decide) w_1_157 rfl dX5_isOfDays_11 ?_
    refine lv_sipush (v := 279) hx hb dX5_isOfDays_14 (by decide) ?_
    refine lv_icmp_ne (tgt := 24) hx hb dX5_isOfDays_17 (by decide) (fun c_2 => ?_) (fun c_2 => ?_)
    · skip
      refine lv_iconst (v := 0) hx hb dX5_isOfDays_24 (by decide) ?_
      exact sk_iret hx hb hr rfl hlocks hK hP hD hS (⟨0, by omega, rfl, rfl⟩) (Nat.le_of_ble_eq_true rfl) (Nat.le_of_ble_eq_true rfl) dX5_isOfDays_25
    · skip
      refine lv_iconst (v := 1) hx hb dX5_isOfDays_20 (by decide) ?_
      refine lv_goto (tgt := 25) hx hb dX5_isOfDays_21 (by decide) ?_
      exact sk_iret hx hb hr rfl hlocks hK hP hD hS (⟨1, by omega, rfl, rfl⟩) (Nat.le_of_ble_eq_true rfl) (Nat.le_of_ble_eq_true rfl) dX5_isOfDays_25
theorem dX5_joined_4 : decode cX5_joined 4 = .ok (.tableswitch 133 271 282 #[64, 133, 133, 133, 133, 133, 133, 133, 86, 100, 114, 118], 64) := by decide +kernel
theorem dg_X5_joined_0_0 : bqL cX5_joined 0 [(0, [42]), (1, [180, 0, 20]), (68, [31]), (69, [20, 0, 92]), (72, [148]), (73, [154, 0, 15]), (88, [31]), (89, [173]), (76, [33]), (77, [9]), (78, [148]), (79, [153, 0, 9]), (82, [21, 5]), (84, [133]), (85, [167, 0, 4]), (137, [21, 5]), (139, [154, 0, 7]), (146, [31]), (147, [33]), (148, [184, 0, 145]), (151, [173]), (142, [33]), (143, [167, 0, 8]), (90, [33]), (91, [9]), (92, [148]), (93, [153, 0, 9]), (102, [31]), (103, [173]), (96, [21, 5]), (98, [133]), (99, [167, 0, 4]), (104, [33]), (105, [9]), (106, [148]), (107, [153, 0, 9]), (116, [31]), (117, [173]), (110, [31]), (111, [10])] = true := by decide +kernel
theorem dX5_joined_0 : decode cX5_joined 0 = .ok (.aload_n 0, 1) := q_aload_n0 (bat_get dg_X5_joined_0_0 0 rfl rfl)
theorem dX5_joined_1 : decode cX5_joined 1 = .ok (.getfield 20, 3) := q_getfield (bat_get dg_X5_joined_0_0 1 rfl rfl) rfl
theorem dX5_joined_68 : decode cX5_joined 68 = .ok (.lload_n 1, 1) := q_lload_n1 (bat_get dg_X5_joined_0_0 2 rfl rfl)
theorem dX5_joined_69 : decode cX5_joined 69 = .ok (.ldc2_w 92, 3) := q_ldc2_w (bat_get dg_X5_joined_0_0 3 rfl rfl) rfl
theorem dX5_joined_72 : decode cX5_joined 72 = .ok (.lcmp, 1) := q_lcmp (bat_get dg_X5_joined_0_0 4 rfl rfl)
theorem dX5_joined_73 : decode cX5_joined 73 = .ok (.ifCond .ne 15, 3) := q_ifCond_ne (bat_get dg_X5_joined_0_0 5 rfl rfl) rfl
theorem dX5_joined_88 : decode cX5_joined 88 = .ok (.lload_n 1, 1) := q_lload_n1 (bat_get dg_X5_joined_0_0 6 rfl rfl)
theorem dX5_joined_89 : decode cX5_joined 89 = .ok (.lreturn, 1) := q_lreturn (bat_get dg_X5_joined_0_0 7 rfl rfl)
theorem dX5_joined_76 : decode cX5_joined 76 = .ok (.lload_n 3, 1) := q_lload_n3 (bat_get dg_X5_joined_0_0 8 rfl rfl)
theorem dX5_joined_77 : decode cX5_joined 77 = .ok (.lconst 0, 1) := q_lconst0 (bat_get dg_X5_joined_0_0 9 rfl rfl)
theorem dX5_joined_78 : decode cX5_joined 78 = .ok (.lcmp, 1) := q_lcmp (bat_get dg_X5_joined_0_0 10 rfl rfl)
theorem dX5_joined_79 : decode cX5_joined 79 = .ok (.ifCond .eq 9, 3) := q_ifCond_eq (bat_get dg_X5_joined_0_0 11 rfl rfl) rfl
theorem dX5_joined_82 : decode cX5_joined 82 = .ok (.iload 5, 2) := q_iload (bat_get dg_X5_joined_0_0 12 rfl rfl)
theorem dX5_joined_84 : decode cX5_joined 84 = .ok (.i2l, 1) := q_i2l (bat_get dg_X5_joined_0_0 13 rfl rfl)
theorem dX5_joined_85 : decode cX5_joined 85 = .ok (.goto 4, 3) := q_goto (bat_get dg_X5_joined_0_0 14 rfl rfl) rfl
theorem dX5_joined_137 : decode cX5_joined 137 = .ok (.iload 5, 2) := q_iload (bat_get dg_X5_joined_0_0 15 rfl rfl)
theorem dX5_joined_139 : decode cX5_joined 139 = .ok (.ifCond .ne 7, 3) := q_ifCond_ne (bat_get dg_X5_joined_0_0 16 rfl rfl) rfl
theorem dX5_joined_146 : decode cX5_joined 146 = .ok (.lload_n 1, 1) := q_lload_n1 (bat_get dg_X5_joined_0_0 17 rfl rfl)
theorem dX5_joined_147 : decode cX5_joined 147 = .ok (.lload_n 3, 1) := q_lload_n3 (bat_get dg_X5_joined_0_0 18 rfl rfl)
theorem dX5_joined_148 : decode cX5_joined 148 = .ok (.invokestatic 145, 3) := q_invokestatic (bat_get dg_X5_joined_0_0 19 rfl rfl) rfl
theorem dX5_joined_151 : decode cX5_joined 151 = .ok (.lreturn, 1) := q_lreturn (bat_get dg_X5_joined_0_0 20 rfl rfl)
theorem dX5_joined_142 : decode cX5_joined 142 = .ok (.lload_n 3, 1) := q_lload_n3 (bat_get dg_X5_joined_0_0 21 rfl rfl)
theorem dX5_joined_143 : decode cX5_joined 143 = .ok (.goto 8, 3) := q_goto (bat_get dg_X5_joined_0_0 22 rfl rfl) rfl
theorem dX5_joined_90 : decode cX5_joined 90 = .ok (.lload_n 3, 1) := q_lload_n3 (bat_get dg_X5_joined_0_0 23 rfl rfl)
theorem dX5_joined_91 : decode cX5_joined 91 = .ok (.lconst 0, 1) := q_lconst0 (bat_get dg_X5_joined_0_0 24 rfl rfl)
theorem dX5_joined_92 : decode cX5_joined 92 = .ok (.lcmp, 1) := q_lcmp (bat_get dg_X5_joined_0_0 25 rfl rfl)
theorem dX5_joined_93 : decode cX5_joined 93 = .ok (.ifCond .eq 9, 3) := q_ifCond_eq (bat_get dg_X5_joined_0_0 26 rfl rfl) rfl
theorem dX5_joined_102 : decode cX5_joined 102 = .ok (.lload_n 1, 1) := q_lload_n1 (bat_get dg_X5_joined_0_0 27 rfl rfl)
theorem dX5_joined_103 : decode cX5_joined 103 = .ok (.lreturn, 1) := q_lreturn (bat_get dg_X5_joined_0_0 28 rfl rfl)
theorem dX5_joined_96 : decode cX5_joined 96 = .ok (.iload 5, 2) := q_iload (bat_get dg_X5_joined_0_0 29 rfl rfl)
theorem dX5_joined_98 : decode cX5_joined 98 = .ok (.i2l, 1) := q_i2l (bat_get dg_X5_joined_0_0 30 rfl rfl)
theorem dX5_joined_99 : decode cX5_joined 99 = .ok (.goto 4, 3) := q_goto (bat_get dg_X5_joined_0_0 31 rfl rfl) rfl
theorem dX5_joined_104 : decode cX5_joined 104 = .ok (.lload_n 3, 1) := q_lload_n3 (bat_get dg_X5_joined_0_0 32 rfl rfl)
theorem dX5_joined_105 : decode cX5_joined 105 = .ok (.lconst 0, 1) := q_lconst0 (bat_get dg_X5_joined_0_0 33 rfl rfl)
theorem dX5_joined_106 : decode cX5_joined 106 = .ok (.lcmp, 1) := q_lcmp (bat_get dg_X5_joined_0_0 34 rfl rfl)
theorem dX5_joined_107 : decode cX5_joined 107 = .ok (.ifCond .eq 9, 3) := q_ifCond_eq (bat_get dg_X5_joined_0_0 35 rfl rfl) rfl
theorem dX5_joined_116 : decode cX5_joined 116 = .ok (.lload_n 1, 1) := q_lload_n1 (bat_get dg_X5_joined_0_0 36 rfl rfl)
theorem dX5_joined_117 : decode cX5_joined 117 = .ok (.lreturn, 1) := q_lreturn (bat_get dg_X5_joined_0_0 37 rfl rfl)
theorem dX5_joined_110 : decode cX5_joined 110 = .ok (.lload_n 1, 1) := q_lload_n1 (bat_get dg_X5_joined_0_0 38 rfl rfl)
theorem dX5_joined_111 : decode cX5_joined 111 = .ok (.lconst 1, 1) := q_lconst1 (bat_get dg_X5_joined_0_0 39 rfl rfl)
