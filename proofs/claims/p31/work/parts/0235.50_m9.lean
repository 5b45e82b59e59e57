theorem dg_X12_laysPay_0_0 : bqL cX12_laysPay 0 [(0, [42]), (1, [182, 1, 144]), (4, [42]), (5, [182, 1, 59]), (8, [4]), (9, [100]), (10, [60]), (11, [27]), (12, [155, 0, 147]), (159, [177]), (15, [3]), (16, [61]), (17, [28]), (18, [16, 10]), (20, [162, 0, 133]), (153, [132, 1, 255]), (156, [167, 255, 111]), (23, [27]), (24, [42]), (25, [182, 1, 59]), (28, [4]), (29, [100]), (30, [160, 0, 7]), (37, [20, 1, 165]), (40, [66]), (41, [3]), (42, [54, 5]), (44, [21, 5]), (46, [16, 10]), (48, [162, 0, 66]), (114, [42]), (115, [180, 0, 92]), (118, [16, 10]), (120, [27]), (121, [104]), (122, [28]), (123, [96]), (124, [33]), (125, [20, 1, 165]), (128, [148])] = true := by decide +kernel
theorem dX12_laysPay_0 : decode cX12_laysPay 0 = .ok (.aload_n 0, 1) := q_aload_n0 (bat_get dg_X12_laysPay_0_0 0 rfl rfl)
theorem dX12_laysPay_1 : decode cX12_laysPay 1 = .ok (.invokevirtual 400, 3) := q_invokevirtual (bat_get dg_X12_laysPay_0_0 1 rfl rfl) rfl
theorem dX12_laysPay_4 : decode cX12_laysPay 4 = .ok (.aload_n 0, 1) := q_aload_n0 (bat_get dg_X12_laysPay_0_0 2 rfl rfl)
theorem dX12_laysPay_5 : decode cX12_laysPay 5 = .ok (.invokevirtual 315, 3) := q_invokevirtual (bat_get dg_X12_laysPay_0_0 3 rfl rfl) rfl
theorem dX12_laysPay_8 : decode cX12_laysPay 8 = .ok (.iconst 1, 1) := q_iconst1 (bat_get dg_X12_laysPay_0_0 4 rfl rfl)
theorem dX12_laysPay_9 : decode cX12_laysPay 9 = .ok (.isub, 1) := q_isub (bat_get dg_X12_laysPay_0_0 5 rfl rfl)
theorem dX12_laysPay_10 : decode cX12_laysPay 10 = .ok (.istore_n 1, 1) := q_istore_n1 (bat_get dg_X12_laysPay_0_0 6 rfl rfl)
theorem dX12_laysPay_11 : decode cX12_laysPay 11 = .ok (.iload_n 1, 1) := q_iload_n1 (bat_get dg_X12_laysPay_0_0 7 rfl rfl)
theorem dX12_laysPay_12 : decode cX12_laysPay 12 = .ok (.ifCond .lt 147, 3) := q_ifCond_lt (bat_get dg_X12_laysPay_0_0 8 rfl rfl) rfl
theorem dX12_laysPay_159 : decode cX12_laysPay 159 = .ok (.return_, 1) := q_return_ (bat_get dg_X12_laysPay_0_0 9 rfl rfl)
theorem dX12_laysPay_15 : decode cX12_laysPay 15 = .ok (.iconst 0, 1) := q_iconst0 (bat_get dg_X12_laysPay_0_0 10 rfl rfl)
theorem dX12_laysPay_16 : decode cX12_laysPay 16 = .ok (.istore_n 2, 1) := q_istore_n2 (bat_get dg_X12_laysPay_0_0 11 rfl rfl)
theorem dX12_laysPay_17 : decode cX12_laysPay 17 = .ok (.iload_n 2, 1) := q_iload_n2 (bat_get dg_X12_laysPay_0_0 12 rfl rfl)
theorem dX12_laysPay_18 : decode cX12_laysPay 18 = .ok (.bipush 10, 2) := q_bipush (bat_get dg_X12_laysPay_0_0 13 rfl rfl) rfl
theorem dX12_laysPay_20 : decode cX12_laysPay 20 = .ok (.if_icmp .ge 133, 3) := q_if_icmp_ge (bat_get dg_X12_laysPay_0_0 14 rfl rfl) rfl
theorem dX12_laysPay_153 : decode cX12_laysPay 153 = .ok (.iinc 1 (-1), 3) := q_iinc (bat_get dg_X12_laysPay_0_0 15 rfl rfl) rfl
theorem dX12_laysPay_156 : decode cX12_laysPay 156 = .ok (.goto (-145), 3) := q_goto (bat_get dg_X12_laysPay_0_0 16 rfl rfl) rfl
theorem dX12_laysPay_23 : decode cX12_laysPay 23 = .ok (.iload_n 1, 1) := q_iload_n1 (bat_get dg_X12_laysPay_0_0 17 rfl rfl)
theorem dX12_laysPay_24 : decode cX12_laysPay 24 = .ok (.aload_n 0, 1) := q_aload_n0 (bat_get dg_X12_laysPay_0_0 18 rfl rfl)
theorem dX12_laysPay_25 : decode cX12_laysPay 25 = .ok (.invokevirtual 315, 3) := q_invokevirtual (bat_get dg_X12_laysPay_0_0 19 rfl rfl) rfl
theorem dX12_laysPay_28 : decode cX12_laysPay 28 = .ok (.iconst 1, 1) := q_iconst1 (bat_get dg_X12_laysPay_0_0 20 rfl rfl)
theorem dX12_laysPay_29 : decode cX12_laysPay 29 = .ok (.isub, 1) := q_isub (bat_get dg_X12_laysPay_0_0 21 rfl rfl)
theorem dX12_laysPay_30 : decode cX12_laysPay 30 = .ok (.if_icmp .ne 7, 3) := q_if_icmp_ne (bat_get dg_X12_laysPay_0_0 22 rfl rfl) rfl
theorem dX12_laysPay_37 : decode cX12_laysPay 37 = .ok (.ldc2_w 421, 3) := q_ldc2_w (bat_get dg_X12_laysPay_0_0 23 rfl rfl) rfl
theorem dX12_laysPay_40 : decode cX12_laysPay 40 = .ok (.lstore_n 3, 1) := q_lstore_n3 (bat_get dg_X12_laysPay_0_0 24 rfl rfl)
theorem dX12_laysPay_41 : decode cX12_laysPay 41 = .ok (.iconst 0, 1) := q_iconst0 (bat_get dg_X12_laysPay_0_0 25 rfl rfl)
theorem dX12_laysPay_42 : decode cX12_laysPay 42 = .ok (.istore 5, 2) := q_istore (bat_get dg_X12_laysPay_0_0 26 rfl rfl)
theorem dX12_laysPay_44 : decode cX12_laysPay 44 = .ok (.iload 5, 2) := q_iload (bat_get dg_X12_laysPay_0_0 27 rfl rfl)
theorem dX12_laysPay_46 : decode cX12_laysPay 46 = .ok (.bipush 10, 2) := q_bipush (bat_get dg_X12_laysPay_0_0 28 rfl rfl) rfl
theorem dX12_laysPay_48 : decode cX12_laysPay 48 = .ok (.if_icmp .ge 66, 3) := q_if_icmp_ge (bat_get dg_X12_laysPay_0_0 29 rfl rfl) rfl
theorem dX12_laysPay_114 : decode cX12_laysPay 114 = .ok (.aload_n 0, 1) := q_aload_n0 (bat_get dg_X12_laysPay_0_0 30 rfl rfl)
theorem dX12_laysPay_115 : decode cX12_laysPay 115 = .ok (.getfield 92, 3) := q_getfield (bat_get dg_X12_laysPay_0_0 31 rfl rfl) rfl
theorem dX12_laysPay_118 : decode cX12_laysPay 118 = .ok (.bipush 10, 2) := q_bipush (bat_get dg_X12_laysPay_0_0 32 rfl rfl) rfl
theorem dX12_laysPay_120 : decode cX12_laysPay 120 = .ok (.iload_n 1, 1) := q_iload_n1 (bat_get dg_X12_laysPay_0_0 33 rfl rfl)
theorem dX12_laysPay_121 : decode cX12_laysPay 121 = .ok (.imul, 1) := q_imul (bat_get dg_X12_laysPay_0_0 34 rfl rfl)
theorem dX12_laysPay_122 : decode cX12_laysPay 122 = .ok (.iload_n 2, 1) := q_iload_n2 (bat_get dg_X12_laysPay_0_0 35 rfl rfl)
theorem dX12_laysPay_123 : decode cX12_laysPay 123 = .ok (.iadd, 1) := q_iadd (bat_get dg_X12_laysPay_0_0 36 rfl rfl)
theorem dX12_laysPay_124 : decode cX12_laysPay 124 = .ok (.lload_n 3, 1) := q_lload_n3 (bat_get dg_X12_laysPay_0_0 37 rfl rfl)
theorem dX12_laysPay_125 : decode cX12_laysPay 125 = .ok (.ldc2_w 421, 3) := q_ldc2_w (bat_get dg_X12_laysPay_0_0 38 rfl rfl) rfl
theorem dX12_laysPay_128 : decode cX12_laysPay 128 = .ok (.lcmp, 1) := q_lcmp (bat_get dg_X12_laysPay_0_0 39 rfl rfl)
theorem dg_X12_laysPay_51_129 : bqL cX12_laysPay 51 [(78, [154, 0, 9]), (87, [33]), (88, [42]), (89, [27]), (90, [28]), (91, [182, 1, 183]), (94, [97]), (95, [80]), (96, [132, 2, 1]), (99, [167, 255, 123]), (81, [20, 1, 165]), (84, [167, 0, 11]), (0, [27]), (1, [42]), (2, [182, 1, 59]), (5, [4]), (6, [100]), (7, [162, 0, 56]), (10, [42]), (11, [27]), (12, [4]), (13, [96]), (14, [28]), (15, [21, 5]), (17, [182, 1, 122]), (20, [153, 0, 37]), (57, [132, 5, 1]), (60, [167, 255, 189]), (23, [42]), (24, [180, 0, 92]), (27, [16, 10]), (29, [27]), (30, [4]), (31, [96]), (32, [104]), (33, [21, 5]), (35, [96]), (36, [47]), (37, [33]), (38, [148])] = true := by decide +kernel
theorem dX12_laysPay_129 : decode cX12_laysPay 129 = .ok (.ifCond .ne 9, 3) := q_ifCond_ne (bat_get dg_X12_laysPay_51_129 0 rfl rfl) rfl
theorem dX12_laysPay_138 : decode cX12_laysPay 138 = .ok (.lload_n 3, 1) := q_lload_n3 (bat_get dg_X12_laysPay_51_129 1 rfl rfl)
theorem dX12_laysPay_139 : decode cX12_laysPay 139 = .ok (.aload_n 0, 1) := q_aload_n0 (bat_get dg_X12_laysPay_51_129 2 rfl rfl)
theorem dX12_laysPay_140 : decode cX12_laysPay 140 = .ok (.iload_n 1, 1) := q_iload_n1 (bat_get dg_X12_laysPay_51_129 3 rfl rfl)
theorem dX12_laysPay_141 : decode cX12_laysPay 141 = .ok (.iload_n 2, 1) := q_iload_n2 (bat_get dg_X12_laysPay_51_129 4 rfl rfl)
theorem dX12_laysPay_142 : decode cX12_laysPay 142 = .ok (.invokevirtual 439, 3) := q_invokevirtual (bat_get dg_X12_laysPay_51_129 5 rfl rfl) rfl
theorem dX12_laysPay_145 : decode cX12_laysPay 145 = .ok (.ladd, 1) := q_ladd (bat_get dg_X12_laysPay_51_129 6 rfl rfl)
theorem dX12_laysPay_146 : decode cX12_laysPay 146 = .ok (.lastore, 1) := q_lastore (bat_get dg_X12_laysPay_51_129 7 rfl rfl)
theorem dX12_laysPay_147 : decode cX12_laysPay 147 = .ok (.iinc 2 1, 3) := q_iinc (bat_get dg_X12_laysPay_51_129 8 rfl rfl) rfl
theorem dX12_laysPay_150 : decode cX12_laysPay 150 = .ok (.goto (-133), 3) := q_goto (bat_get dg_X12_laysPay_51_129 9 rfl rfl) rfl
theorem dX12_laysPay_132 : decode cX12_laysPay 132 = .ok (.ldc2_w 421, 3) := q_ldc2_w (bat_get dg_X12_laysPay_51_129 10 rfl rfl) rfl
theorem dX12_laysPay_135 : decode cX12_laysPay 135 = .ok (.goto 11, 3) := q_goto (bat_get dg_X12_laysPay_51_129 11 rfl rfl) rfl
theorem dX12_laysPay_51 : decode cX12_laysPay 51 = .ok (.iload_n 1, 1) := q_iload_n1 (bat_get dg_X12_laysPay_51_129 12 rfl rfl)
theorem dX12_laysPay_52 : decode cX12_laysPay 52 = .ok (.aload_n 0, 1) := q_aload_n0 (bat_get dg_X12_laysPay_51_129 13 rfl rfl)
theorem dX12_laysPay_53 : decode cX12_laysPay 53 = .ok (.invokevirtual 315, 3) := q_invokevirtual (bat_get dg_X12_laysPay_51_129 14 rfl rfl) rfl
theorem dX12_laysPay_56 : decode cX12_laysPay 56 = .ok (.iconst 1, 1) := q_iconst1 (bat_get dg_X12_laysPay_51_129 15 rfl rfl)
theorem dX12_laysPay_57 : decode cX12_laysPay 57 = .ok (.isub, 1) := q_isub (bat_get dg_X12_laysPay_51_129 16 rfl rfl)
theorem dX12_laysPay_58 : decode cX12_laysPay 58 = .ok (.if_icmp .ge 56, 3) := q_if_icmp_ge (bat_get dg_X12_laysPay_51_129 17 rfl rfl) rfl
theorem dX12_laysPay_61 : decode cX12_laysPay 61 = .ok (.aload_n 0, 1) := q_aload_n0 (bat_get dg_X12_laysPay_51_129 18 rfl rfl)
theorem dX12_laysPay_62 : decode cX12_laysPay 62 = .ok (.iload_n 1, 1) := q_iload_n1 (bat_get dg_X12_laysPay_51_129 19 rfl rfl)
theorem dX12_laysPay_63 : decode cX12_laysPay 63 = .ok (.iconst 1, 1) := q_iconst1 (bat_get dg_X12_laysPay_51_129 20 rfl rfl)
theorem dX12_laysPay_64 : decode cX12_laysPay 64 = .ok (.iadd, 1) := q_iadd (bat_get dg_X12_laysPay_51_129 21 rfl rfl)
theorem dX12_laysPay_65 : decode cX12_laysPay 65 = .ok (.iload_n 2, 1) := q_iload_n2 (bat_get dg_X12_laysPay_51_129 22 rfl rfl)
theorem dX12_laysPay_66 : decode cX12_laysPay 66 = .ok (.iload 5, 2) := q_iload (bat_get dg_X12_laysPay_51_129 23 rfl rfl)
theorem dX12_laysPay_68 : decode cX12_laysPay 68 = .ok (.invokevirtual 378, 3) := q_invokevirtual (bat_get dg_X12_laysPay_51_129 24 rfl rfl) rfl
theorem dX12_laysPay_71 : decode cX12_laysPay 71 = .ok (.ifCond .eq 37, 3) := q_ifCond_eq (bat_get dg_X12_laysPay_51_129 25 rfl rfl) rfl
theorem dX12_laysPay_108 : decode cX12_laysPay 108 = .ok (.iinc 5 1, 3) := q_iinc (bat_get dg_X12_laysPay_51_129 26 rfl rfl) rfl
theorem dX12_laysPay_111 : decode cX12_laysPay 111 = .ok (.goto (-67), 3) := q_goto (bat_get dg_X12_laysPay_51_129 27 rfl rfl) rfl
theorem dX12_laysPay_74 : decode cX12_laysPay 74 = .ok (.aload_n 0, 1) := q_aload_n0 (bat_get dg_X12_laysPay_51_129 28 rfl rfl)
theorem dX12_laysPay_75 : decode cX12_laysPay 75 = .ok (.getfield 92, 3) := q_getfield (bat_get dg_X12_laysPay_51_129 29 rfl rfl) rfl
theorem dX12_laysPay_78 : decode cX12_laysPay 78 = .ok (.bipush 10, 2) := q_bipush (bat_get dg_X12_laysPay_51_129 30 rfl rfl) rfl
theorem dX12_laysPay_80 : decode cX12_laysPay 80 = .ok (.iload_n 1, 1) := q_iload_n1 (bat_get dg_X12_laysPay_51_129 31 rfl rfl)
theorem dX12_laysPay_81 : decode cX12_laysPay 81 = .ok (.iconst 1, 1) := q_iconst1 (bat_get dg_X12_laysPay_51_129 32 rfl rfl)
theorem dX12_laysPay_82 : decode cX12_laysPay 82 = .ok (.iadd, 1) := q_iadd (bat_get dg_X12_laysPay_51_129 33 rfl rfl)
theorem dX12_laysPay_83 : decode cX12_laysPay 83 = .ok (.imul, 1) := q_imul (bat_get dg_X12_laysPay_51_129 34 rfl rfl)
theorem dX12_laysPay_84 : decode cX12_laysPay 84 = .ok (.iload 5, 2) := q_iload (bat_get dg_X12_laysPay_51_129 35 rfl rfl)
theorem dX12_laysPay_86 : decode cX12_laysPay 86 = .ok (.iadd, 1) := q_iadd (bat_get dg_X12_laysPay_51_129 36 rfl rfl)
theorem dX12_laysPay_87 : decode cX12_laysPay 87 = .ok (.laload, 1) := q_laload (bat_get dg_X12_laysPay_51_129 37 rfl rfl)
theorem dX12_laysPay_88 : decode cX12_laysPay 88 = .ok (.lload_n 3, 1) := q_lload_n3 (bat_get dg_X12_laysPay_51_129 38 rfl rfl)
theorem dX12_laysPay_89 : decode cX12_laysPay 89 = .ok (.lcmp, 1) := q_lcmp (bat_get dg_X12_laysPay_51_129 39 rfl rfl)
theorem dg_X12_laysPay_33_90 : bqL cX12_laysPay 33 [(57, [158, 0, 18]), (60, [42]), (61, [180, 0, 92]), (64, [16, 10]), (66, [27]), (67, [4]), (68, [96]), (69, [104]), (70, [21, 5]), (72, [96]), (73, [47]), (74, [66]), (0, [9]), (1, [167, 0, 6])] = true := by decide +kernel
theorem dX12_laysPay_90 : decode cX12_laysPay 90 = .ok (.ifCond .le 18, 3) := q_ifCond_le (bat_get dg_X12_laysPay_33_90 0 rfl rfl) rfl
theorem dX12_laysPay_93 : decode cX12_laysPay 93 = .ok (.aload_n 0, 1) := q_aload_n0 (bat_get dg_X12_laysPay_33_90 1 rfl rfl)
theorem dX12_laysPay_94 : decode cX12_laysPay 94 = .ok (.getfield 92, 3) := q_getfield (bat_get dg_X12_laysPay_33_90 2 rfl rfl) rfl
theorem dX12_laysPay_97 : decode cX12_laysPay 97 = .ok (.bipush 10, 2) := q_bipush (bat_get dg_X12_laysPay_33_90 3 rfl rfl) rfl
theorem dX12_laysPay_99 : decode cX12_laysPay 99 = .ok (.iload_n 1, 1) := q_iload_n1 (bat_get dg_X12_laysPay_33_90 4 rfl rfl)
theorem dX12_laysPay_100 : decode cX12_laysPay 100 = .ok (.iconst 1, 1) := q_iconst1 (bat_get dg_X12_laysPay_33_90 5 rfl rfl)
theorem dX12_laysPay_101 : decode cX12_laysPay 101 = .ok (.iadd, 1) := q_iadd (bat_get dg_X12_laysPay_33_90 6 rfl rfl)
theorem dX12_laysPay_102 : decode cX12_laysPay 102 = .ok (.imul, 1) := q_imul (bat_get dg_X12_laysPay_33_90 7 rfl rfl)
theorem dX12_laysPay_103 : decode cX12_laysPay 103 = .ok (.iload 5, 2) := q_iload (bat_get dg_X12_laysPay_33_90 8 rfl rfl)
theorem dX12_laysPay_105 : decode cX12_laysPay 105 = .ok (.iadd, 1) := q_iadd (bat_get dg_X12_laysPay_33_90 9 rfl rfl)
theorem dX12_laysPay_106 : decode cX12_laysPay 106 = .ok (.laload, 1) := q_laload (bat_get dg_X12_laysPay_33_90 10 rfl rfl)
theorem dX12_laysPay_107 : decode cX12_laysPay 107 = .ok (.lstore_n 3, 1) := q_lstore_n3 (bat_get dg_X12_laysPay_33_90 11 rfl rfl)
theorem dX12_laysPay_33 : decode cX12_laysPay 33 = .ok (.lconst 0, 1) := q_lconst0 (bat_get dg_X12_laysPay_33_90 12 rfl rfl)
theorem dX12_laysPay_34 : decode cX12_laysPay 34 = .ok (.goto 6, 3) := q_goto (bat_get dg_X12_laysPay_33_90 13 rfl rfl) rfl
theorem w_5_203 : (Cond.fieldLink RX12 92 "SameKeeperModel" "pays" "[J") ∈ wsL_law := sk_mem (ck_5 _ (List.mem_of_getElem? (i := 203) rfl)) rfl
theorem w_8_45 : (Cond.methodLink RX12 439 yX12_wageOf) ∈ wsL_law := sk_mem (ck_8 _ (List.mem_of_getElem? (i := 45) rfl)) rfl
theorem w_8_47 : (Cond.instanceMethod yX12_wageOf) ∈ wsL_law := sk_mem (ck_8 _ (List.mem_of_getElem? (i := 47) rfl)) rfl
theorem w_0_97 : (Cond.selects RX12 yX12_wageOf yX12_wageOf) ∈ wsL_law := sk_mem (ck_0 _ (List.mem_of_getElem? (i := 97) rfl)) rfl
theorem w_8_44 : (Cond.code yX12_laysPay cX12_laysPay 6 none) ∈ wsL_law := sk_mem (ck_8 _ (List.mem_of_getElem? (i := 44) rfl)) rfl
def om_14_3ffe : List Bool := true :: true :: true :: true :: true :: true :: true :: true :: true :: true :: true :: true :: true :: false :: []
def om_14_2040 : List Bool := true :: false :: false :: false :: false :: false :: false :: true :: false :: false :: false :: false :: false :: false :: []
def om_14_3f80 : List Bool := true :: true :: true :: true :: true :: true :: true :: false :: false :: false :: false :: false :: false :: false :: []
def om_14_2218 : List Bool := true :: false :: false :: false :: true :: false :: false :: false :: false :: true :: true :: false :: false :: false :: []
theorem hd_X12_wageOf_2 : skD yX12_wageOf 2 := by decide +kernel
set_option maxHeartbeats 4000000 in
set_option maxRecDepth 100000 in
theorem c_m_laysPay (l : Launch) (D : va_G) (cI cJ cC cZ cS : ClassId) (mm : Nat) (g : Nat → Nat) (ta : Nat) (pa : Nat) (pe : Nat) (pd : Int32) (pb : Nat) (pp : Int32) (pf : Int32) (pg : Int32) (pn : Int32) (rt : Int32) (rn : Int32) (cd : Nat) (sn : Int32) (il : Nat) (tk : Int32) (am : Int32) (at_ : Int32) (aa : Int32) (wt : Int32) (wy : Int64) (rm : Nat) (ud : Nat) (nu : Nat) (sd : Int64) (qn : Nat) (qw : Nat) (qo : Int32) (qb : Nat) (qp : Nat) (qa : Int64) (qi : Nat) (oc : Nat) (u0 : Int32) (u1 : Int32) (u2 : Int32) (u3 : Int32) (u4 : Int32) (u5 : Int32) (v0 : Int32) (v1 : Int32) (v2 : Int32) (v3 : Int32) (v4 : Int32) (v5 : Int32) (cs : Nat → Nat) (nw : Nat → Int32) (pt : Nat → Nat) (ql : Nat → Int64) (l0 : Nat) (l1 : Nat) (dm : Nat) (l3 : Nat) (ws_ : Nat → Int32) (yw : Nat → Int32) (yo : Nat → Int32) (be : Nat → Int64) (bf : Nat → Int64) (py : Nat → Int64) (hdm : dm ≤ 9) (hdm1 : 1 ≤ dm) (hp0 : progOk cs u3 v3) (hp1 : progOk cs u4 v4) (hp2 : progOk cs u5 v5) (hcs : ∀ j, cs j ≤ 20000) (hnw : nowOk nw) (hpt : ∀ j, pt j ≤ 9) : skM l yX12_laysPay cX12_laysPay 6 none 6 142 0 0 D (skT cI cJ cC cZ cS) [.ref mm] [(mm, .inr (12, mo g (nI ta) (nI pa) (nI pe) pd (nI pb) pp pf pg pn rt rn (nI cd) sn (nI il) tk am at_ aa 0 0 (-1) wt wy 0 (nI rm) (nI ud) (nI nu) sd (nI qn) (nI qw) qo (nI qb) (nI qp) qa (nI qi) (nI oc))), (g 24, .inl (cI, 6, .inl (l6 u0 u1 u2 u3 u4 u5))), (g 25, .inl (cI, 6, .inl (l6 v0 v1 v2 v3 v4 v5))), (g 26, .inl (cI, 3200, .inl (fun j => nI (cs j)))), (g 31, .inl (cI, 120, .inl nw)), (g 46, .inl (cI, 9, .inl (fun j => nI (pt j)))), (g 86, .inl (cJ, 1700, .inr (.inl ql))), (g 20, .inl (cI, 4, .inl (l4 (nI l0) (nI l1) (nI dm) (nI l3)))), (g 38, .inl (cI, 90, .inl ws_)), (g 36, .inl (cZ, 900, .inl yw)), (g 37, .inl (cZ, 900, .inl yo)), (g 43, .inl (cJ, 90, .inr (.inl be))), (g 44, .inl (cJ, 90, .inr (.inl bf))), (g 48, .inl (cJ, 90, .inr (.inl py)))] (skV D (skT cI cJ cC cZ cS) (fun (u : va_W) => ∃ (tk2 : Int32), ∃ (qp2 : Nat), ∃ (am2 : Int32), ∃ (at_2 : Int32), ∃ (aa2 : Int32), ∃ (wy2 : Int64), ∃ (ql2 : Nat → Int64), ∃ (ws_2 : Nat → Int32), ∃ (yw2 : Nat → Int32), ∃ (yo2 : Nat → Int32), ∃ (be2 : Nat → Int64), ∃ (bf2 : Nat → Int64), ∃ (py2 : Nat → Int64), u = [(mm, .inr (12, mo g (nI ta) (nI pa) (nI pe) pd (nI pb) pp pf pg pn rt rn (nI cd) sn (nI il) tk2 am2 at_2 aa2 0 0 (-1) wt wy2 0 (nI rm) (nI ud) (nI nu) sd (nI qn) (nI qw) qo (nI qb) (nI qp2) qa (nI qi) (nI oc))), (g 24, .inl (cI, 6, .inl (l6 u0 u1 u2 u3 u4 u5))), (g 25, .inl (cI, 6, .inl (l6 v0 v1 v2 v3 v4 v5))), (g 26, .inl (cI, 3200, .inl (fun j => nI (cs j)))), (g 31, .inl (cI, 120, .inl nw)), (g 46, .inl (cI, 9, .inl (fun j => nI (pt j)))), (g 86, .inl (cJ, 1700, .inr (.inl ql2))), (g 20, .inl (cI, 4, .inl (l4 (nI l0) (nI l1) (nI dm) (nI l3)))), (g 38, .inl (cI, 90, .inl ws_2)), (g 36, .inl (cZ, 900, .inl yw2)), (g 37, .inl (cZ, 900, .inl yo2)), (g 43, .inl (cJ, 90, .inr (.inl be2))), (g 44, .inl (cJ, 90, .inr (.inl bf2))), (g 48, .inl (cJ, 90, .inr (.inl py2)))])) := by
  refine skM_of pf_X12_laysPay (Nat.le_of_ble_eq_true rfl) ?_
  intro p e s m below meth c A ls E hP hD hl
  refine skE_el E (fun hx hb hr hml hlocks hin hown hts hK hA => ?_)
  have hown : s.vm.findClass RX12 = some m.cls := hown
  have hS : va_S A s.heap s.heap [] := va_S.rf
  have hl : lv_has ls 6 [(0, .ref mm)] := hl
  refine lv_aload_n hx hb dX12_laysPay_0 rfl (lv_at hl 0 rfl) ?_
  refine sk_Vv (q0 := 0) (n := 0) (rest := []) (wr := fmR om_14_3ffe _) ⟨hx, hb, hml, hown, hts⟩ hl.1 (c_m_laysAll l D cI cJ cC cZ cS mm g ta pa pe pd pb pp pf pg pn rt rn cd sn il tk am at_ aa 0 wt wy 0 rm ud nu sd qn qw qo qb qp qa qi oc u0 u1 u2 u3 u4 u5 v0 v1 v2 v3 v4 v5 cs nw pt ql l0 l1 dm l3 ws_ yw yo be bf (by omega) (by omega) hp0 hp1 hp2 hcs hnw hpt) w_7_189 w_7_191 w_0_82 w_1_14 w_7_192 hd_X12_laysAll_0 ⟨⟨(Nat.le_of_ble_eq_true rfl), (Nat.le_of_ble_eq_true rfl)⟩, (Nat.le_of_ble_eq_true rfl), (Nat.le_of_ble_eq_true rfl)⟩ hK hP hD hS hA (fmT om_14_3ffe 0) (fmF om_14_3ffe 0) (fm_C1 rfl rfl) (fm_R rfl rfl) (fm_nT om_14_3ffe 0) (fm_nF om_14_3ffe 0) (fm_di om_14_3ffe 0) rfl rfl rfl rfl (Nat.le_of_ble_eq_true rfl) dX12_laysPay_1 (fun u H locs hw hP hD hS => ?_)
  refine exE hw (fun tk2_1 hw1 => exE hw1 (fun qp2_2 hw2 => exE hw2 (fun am2_3 hw3 => exE hw3 (fun at_2_4 hw4 => exE hw4 (fun aa2_5 hw5 => exE hw5 (fun wy2_6 hw6 => exE hw6 (fun ql2_7 hw7 => exE hw7 (fun ws_2_8 hw8 => exE hw8 (fun yw2_9 hw9 => exE hw9 (fun yo2_10 hw10 => exE hw10 (fun be2_11 hw11 => exE hw11 (fun bf2_12 hw12 => anE hw12 (fun hbe_13 hw13 => anE hw13 (fun hwy_14 eu_15 => ?_))))))))))))))
  clear hw hw1 hw2 hw3 hw4 hw5 hw6 hw7 hw8 hw9 hw10 hw11 hw12 hw13
  refine o_mgE (ws' := [(mm, .inr (12, mo g (nI ta) (nI pa) (nI pe) pd (nI pb) pp pf pg pn rt rn (nI cd) sn (nI il) tk2_1 am2_3 at_2_4 aa2_5 0 0 (-1) wt wy2_6 0 (nI rm) (nI ud) (nI nu) sd (nI qn) (nI qw) qo (nI qb) (nI qp2_2) qa (nI qi) (nI oc))), (g 24, .inl (cI, 6, .inl (l6 u0 u1 u2 u3 u4 u5))), (g 25, .inl (cI, 6, .inl (l6 v0 v1 v2 v3 v4 v5))), (g 26, .inl (cI, 3200, .inl (fun j => nI (cs j)))), (g 31, .inl (cI, 120, .inl nw)), (g 46, .inl (cI, 9, .inl (fun j => nI (pt j)))), (g 86, .inl (cJ, 1700, .inr (.inl ql2_7))), (g 20, .inl (cI, 4, .inl (l4 (nI l0) (nI l1) (nI dm) (nI l3)))), (g 38, .inl (cI, 90, .inl ws_2_8)), (g 36, .inl (cZ, 900, .inl yw2_9)), (g 37, .inl (cZ, 900, .inl yo2_10)), (g 43, .inl (cJ, 90, .inr (.inl be2_11))), (g 44, .inl (cJ, 90, .inr (.inl bf2_12))), (g 48, .inl (cJ, 90, .inr (.inl py)))]) eu_15 hP hD rfl (fun hP hD => ?_)
  refine lv_aload_n hx hb dX12_laysPay_4 rfl (lv_at hl 0 rfl) ?_
  refine sk_Vi (q0 := 0) (n := 0) (rest := []) (wr := fmR om_14_2040 _) ⟨hx, hb, hml, hown, hts⟩ hl.1 (c_m_dayMany l D cI cJ cC cZ cS mm g ta pa pe pd pb pp pf pg pn rt rn cd sn il tk2_1 am2_3 at_2_4 aa2_5 0 0 (-1) wt wy2_6 0 rm ud nu sd qn qw qo qb qp2_2 qa qi oc l0 l1 dm l3) w_7_98 w_7_100 w_0_69 w_1_14 w_7_101 hd_X12_dayMany_0 ⟨⟨(Nat.le_of_ble_eq_true rfl), (Nat.le_of_ble_eq_true rfl)⟩, (Nat.le_of_ble_eq_true rfl), (Nat.le_of_ble_eq_true rfl)⟩ hK hP hD hS hA (fmT om_14_2040 0) (fmF om_14_2040 0) (fm_C1 rfl rfl) (fm_R rfl rfl) (fm_nT om_14_2040 0) (fm_nF om_14_2040 0) (fm_di om_14_2040 0) rfl rfl rfl rfl (Nat.le_of_ble_eq_true rfl) dX12_laysPay_5 (fun r_16 u H locs hw hP hD hS => ?_)
  refine anE hw (fun er_18 eu_17 => ?_)
  clear hw
  subst er_18
  refine o_mgE (ws' := [(mm, .inr (12, mo g (nI ta) (nI pa) (nI pe) pd (nI pb) pp pf pg pn rt rn (nI cd) sn (nI il) tk2_1 am2_3 at_2_4 aa2_5 0 0 (-1) wt wy2_6 0 (nI rm) (nI ud) (nI nu) sd (nI qn) (nI qw) qo (nI qb) (nI qp2_2) qa (nI qi) (nI oc))), (g 24, .inl (cI, 6, .inl (l6 u0 u1 u2 u3 u4 u5))), (g 25, .inl (cI, 6, .inl (l6 v0 v1 v2 v3 v4 v5))), (g 26, .inl (cI, 3200, .inl (fun j => nI (cs j)))), (g 31, .inl (cI, 120, .inl nw)), (g 46, .inl (cI, 9, .inl (fun j => nI (pt j)))), (g 86, .inl (cJ, 1700, .inr (.inl ql2_7))), (g 20, .inl (cI, 4, .inl (l4 (nI l0) (nI l1) (nI dm) (nI l3)))), (g 38, .inl (cI, 90, .inl ws_2_8)), (g 36, .inl (cZ, 900, .inl yw2_9)), (g 37, .inl (cZ, 900, .inl yo2_10)), (g 43, .inl (cJ, 90, .inr (.inl be2_11))), (g 44, .inl (cJ, 90, .inr (.inl bf2_12))), (g 48, .inl (cJ, 90, .inr (.inl py)))]) eu_17 hP hD rfl (fun hP hD => ?_)
  refine lv_iconst (v := 1) hx hb dX12_laysPay_8 (by decide) ?_
  refine lv_isub hx hb dX12_laysPay_9 ?_
  refine lv_istore_n (lv' := [(1, .int (nI dm - 1)), (0, .ref mm)]) hx hb dX12_laysPay_10 rfl hl (by decide) rfl (fun ls hl => ?_)
  have lp_19 : ∀ (n_20 : Nat) (dd : Nat) (zama : Int32) (ztka : Int32) (zqpa : Nat) (zqa : Nat → Int64) (zpa : Nat → Int64) (H : Heap) (locs : List Loc) (ls : Array Slot), dd < n_20 → (dd ≤ dm) → va_P D vwCl [(mm, .inr (12, mo g (nI ta) (nI pa) (nI pe) pd (nI pb) pp pf pg pn rt rn (nI cd) sn (nI il) ztka zama at_2_4 aa2_5 0 0 (-1) wt wy2_6 0 (nI rm) (nI ud) (nI nu) sd (nI qn) (nI qw) qo (nI qb) (nI zqpa) qa (nI qi) (nI oc))), (g 24, .inl (cI, 6, .inl (l6 u0 u1 u2 u3 u4 u5))), (g 25, .inl (cI, 6, .inl (l6 v0 v1 v2 v3 v4 v5))), (g 26, .inl (cI, 3200, .inl (fun j => nI (cs j)))), (g 31, .inl (cI, 120, .inl nw)), (g 46, .inl (cI, 9, .inl (fun j => nI (pt j)))), (g 86, .inl (cJ, 1700, .inr (.inl zqa))), (g 20, .inl (cI, 4, .inl (l4 (nI l0) (nI l1) (nI dm) (nI l3)))), (g 38, .inl (cI, 90, .inl ws_2_8)), (g 36, .inl (cZ, 900, .inl yw2_9)), (g 37, .inl (cZ, 900, .inl yo2_10)), (g 43, .inl (cJ, 90, .inr (.inl be2_11))), (g 44, .inl (cJ, 90, .inr (.inl bf2_12))), (g 48, .inl (cJ, 90, .inr (.inl zpa)))] H → va_D A [(mm, .inr (12, mo g (nI ta) (nI pa) (nI pe) pd (nI pb) pp pf pg pn rt rn (nI cd) sn (nI il) ztka zama at_2_4 aa2_5 0 0 (-1) wt wy2_6 0 (nI rm) (nI ud) (nI nu) sd (nI qn) (nI qw) qo (nI qb) (nI zqpa) qa (nI qi) (nI oc))), (g 24, .inl (cI, 6, .inl (l6 u0 u1 u2 u3 u4 u5))), (g 25, .inl (cI, 6, .inl (l6 v0 v1 v2 v3 v4 v5))), (g 26, .inl (cI, 3200, .inl (fun j => nI (cs j)))), (g 31, .inl (cI, 120, .inl nw)), (g 46, .inl (cI, 9, .inl (fun j => nI (pt j)))), (g 86, .inl (cJ, 1700, .inr (.inl zqa))), (g 20, .inl (cI, 4, .inl (l4 (nI l0) (nI l1) (nI dm) (nI l3)))), (g 38, .inl (cI, 90, .inl ws_2_8)), (g 36, .inl (cZ, 900, .inl yw2_9)), (g 37, .inl (cZ, 900, .inl yo2_10)), (g 43, .inl (cJ, 90, .inr (.inl be2_11))), (g 44, .inl (cJ, 90, .inr (.inl bf2_12))), (g 48, .inl (cJ, 90, .inr (.inl zpa)))] → va_S A s.heap H locs → lv_has ls 6 [(1, .int (nI dd - 1)), (0, .ref mm)] → W p l e { frames := 6, cells := 0, slots := 0, locals := 142 } s m ([.ref mm] : List Value).toArray below meth c H locs 0 0 (MQ below (skV D (skT cI cJ cC cZ cS) (fun (u : va_W) => ∃ (tk2 : Int32), ∃ (qp2 : Nat), ∃ (am2 : Int32), ∃ (at_2 : Int32), ∃ (aa2 : Int32), ∃ (wy2 : Int64), ∃ (ql2 : Nat → Int64), ∃ (ws_2 : Nat → Int32), ∃ (yw2 : Nat → Int32), ∃ (yo2 : Nat → Int32), ∃ (be2 : Nat → Int64), ∃ (bf2 : Nat → Int64), ∃ (py2 : Nat → Int64), u = [(mm, .inr (12, mo g (nI ta) (nI pa) (nI pe) pd (nI pb) pp pf pg pn rt rn (nI cd) sn (nI il) tk2 am2 at_2 aa2 0 0 (-1) wt wy2 0 (nI rm) (nI ud) (nI nu) sd (nI qn) (nI qw) qo (nI qb) (nI qp2) qa (nI qi) (nI oc))), (g 24, .inl (cI, 6, .inl (l6 u0 u1 u2 u3 u4 u5))), (g 25, .inl (cI, 6, .inl (l6 v0 v1 v2 v3 v4 v5))), (g 26, .inl (cI, 3200, .inl (fun j => nI (cs j)))), (g 31, .inl (cI, 120, .inl nw)), (g 46, .inl (cI, 9, .inl (fun j => nI (pt j)))), (g 86, .inl (cJ, 1700, .inr (.inl ql2))), (g 20, .inl (cI, 4, .inl (l4 (nI l0) (nI l1) (nI dm) (nI l3)))), (g 38, .inl (cI, 90, .inl ws_2)), (g 36, .inl (cZ, 900, .inl yw2)), (g 37, .inl (cZ, 900, .inl yo2)), (g 43, .inl (cJ, 90, .inr (.inl be2))), (g 44, .inl (cJ, 90, .inr (.inl bf2))), (g 48, .inl (cJ, 90, .inr (.inl py2)))]) A) ([.ref mm] : List Value).toArray s 0 0 A) (F0 m 11 ls []) := by
    intro n_20
    induction n_20 with
    | zero => intro dd zama ztka zqpa zqa zpa H locs ls hm; exact absurd hm (Nat.not_lt_zero _)
    | succ n_20 ih_lp_19 =>
      intro dd zama ztka zqpa zqa zpa H locs ls hm hdd hP hD hS hl
      refine lv_iload_n hx hb dX12_laysPay_11 rfl (lv_at hl 0 rfl) ?_
      refine lv_if_lt (tgt := 159) hx hb dX12_laysPay_12 (by decide) (fun c_21 => ?_) (fun c_21 => ?_)
      · have c_21 : dd = 0 := npm0 dd (by omega) c_21
        exact sk_vret hx hb hr hlocks hK hP hD hS (⟨ztka, zqpa, zama, at_2_4, aa2_5, wy2_6, zqa, ws_2_8, yw2_9, yo2_10, be2_11, bf2_12, zpa, rfl⟩) (Nat.le_of_ble_eq_true rfl) (Nat.le_of_ble_eq_true rfl) dX12_laysPay_159
      · have c_21 : 1 ≤ dd := npm1 dd c_21
        rw [npred dd (by omega)] at hl
        refine lv_iconst (v := 0) hx hb dX12_laysPay_15 (by decide) ?_
        refine lv_istore_n (lv' := [(2, .int 0), (1, .int (nI (dd - 1))), (0, .ref mm)]) hx hb dX12_laysPay_16 rfl hl (by decide) rfl (fun ls hl => ?_)
        have lp_22 : ∀ (n_23 : Nat) (jm : Nat) (zamb : Int32) (ztkb : Int32) (zqpb : Nat) (zqb : Nat → Int64) (zpb : Nat → Int64) (H : Heap) (locs : List Loc) (ls : Array Slot), 10 - jm < n_23 → (jm ≤ 10) → va_P D vwCl [(mm, .inr (12, mo g (nI ta) (nI pa) (nI pe) pd (nI pb) pp pf pg pn rt rn (nI cd) sn (nI il) ztkb zamb at_2_4 aa2_5 0 0 (-1) wt wy2_6 0 (nI rm) (nI ud) (nI nu) sd (nI qn) (nI qw) qo (nI qb) (nI zqpb) qa (nI qi) (nI oc))), (g 24, .inl (cI, 6, .inl (l6 u0 u1 u2 u3 u4 u5))), (g 25, .inl (cI, 6, .inl (l6 v0 v1 v2 v3 v4 v5))), (g 26, .inl (cI, 3200, .inl (fun j => nI (cs j)))), (g 31, .inl (cI, 120, .inl nw)), (g 46, .inl (cI, 9, .inl (fun j => nI (pt j)))), (g 86, .inl (cJ, 1700, .inr (.inl zqb))), (g 20, .inl (cI, 4, .inl (l4 (nI l0) (nI l1) (nI dm) (nI l3)))), (g 38, .inl (cI, 90, .inl ws_2_8)), (g 36, .inl (cZ, 900, .inl yw2_9)), (g 37, .inl (cZ, 900, .inl yo2_10)), (g 43, .inl (cJ, 90, .inr (.inl be2_11))), (g 44, .inl (cJ, 90, .inr (.inl bf2_12))), (g 48, .inl (cJ, 90, .inr (.inl zpb)))] H → va_D A [(mm, .inr (12, mo g (nI ta) (nI pa) (nI pe) pd (nI pb) pp pf pg pn rt rn (nI cd) sn (nI il) ztkb zamb at_2_4 aa2_5 0 0 (-1) wt wy2_6 0 (nI rm) (nI ud) (nI nu) sd (nI qn) (nI qw) qo (nI qb) (nI zqpb) qa (nI qi) (nI oc))), (g 24, .inl (cI, 6, .inl (l6 u0 u1 u2 u3 u4 u5))), (g 25, .inl (cI, 6, .inl (l6 v0 v1 v2 v3 v4 v5))), (g 26, .inl (cI, 3200, .inl (fun j => nI (cs j)))), (g 31, .inl (cI, 120, .inl nw)), (g 46, .inl (cI, 9, .inl (fun j => nI (pt j)))), (g 86, .inl (cJ, 1700, .inr (.inl zqb))), (g 20, .inl (cI, 4, .inl (l4 (nI l0) (nI l1) (nI dm) (nI l3)))), (g 38, .inl (cI, 90, .inl ws_2_8)), (g 36, .inl (cZ, 900, .inl yw2_9)), (g 37, .inl (cZ, 900, .inl yo2_10)), (g 43, .inl (cJ, 90, .inr (.inl be2_11))), (g 44, .inl (cJ, 90, .inr (.inl bf2_12))), (g 48, .inl (cJ, 90, .inr (.inl zpb)))] → va_S A s.heap H locs → lv_has ls 6 [(2, .int (nI jm)), (1, .int (nI (dd - 1))), (0, .ref mm)] → W p l e { frames := 6, cells := 0, slots := 0, locals := 142 } s m ([.ref mm] : List Value).toArray below meth c H locs 0 0 (MQ below (skV D (skT cI cJ cC cZ cS) (fun (u : va_W) => ∃ (tk2 : Int32), ∃ (qp2 : Nat), ∃ (am2 : Int32), ∃ (at_2 : Int32), ∃ (aa2 : Int32), ∃ (wy2 : Int64), ∃ (ql2 : Nat → Int64), ∃ (ws_2 : Nat → Int32), ∃ (yw2 : Nat → Int32), ∃ (yo2 : Nat → Int32), ∃ (be2 : Nat → Int64), ∃ (bf2 : Nat → Int64), ∃ (py2 : Nat → Int64), u = [(mm, .inr (12, mo g (nI ta) (nI pa) (nI pe) pd (nI pb) pp pf pg pn rt rn (nI cd) sn (nI il) tk2 am2 at_2 aa2 0 0 (-1) wt wy2 0 (nI rm) (nI ud) (nI nu) sd (nI qn) (nI qw) qo (nI qb) (nI qp2) qa (nI qi) (nI oc))), (g 24, .inl (cI, 6, .inl (l6 u0 u1 u2 u3 u4 u5))), (g 25, .inl (cI, 6, .inl (l6 v0 v1 v2 v3 v4 v5))), (g 26, .inl (cI, 3200, .inl (fun j => nI (cs j)))), (g 31, .inl (cI, 120, .inl nw)), (g 46, .inl (cI, 9, .inl (fun j => nI (pt j)))), (g 86, .inl (cJ, 1700, .inr (.inl ql2))), (g 20, .inl (cI, 4, .inl (l4 (nI l0) (nI l1) (nI dm) (nI l3)))), (g 38, .inl (cI, 90, .inl ws_2)), (g 36, .inl (cZ, 900, .inl yw2)), (g 37, .inl (cZ, 900, .inl yo2)), (g 43, .inl (cJ, 90, .inr (.inl be2))), (g 44, .inl (cJ, 90, .inr (.inl bf2))), (g 48, .inl (cJ, 90, .inr (.inl py2)))]) A) ([.ref mm] : List Value).toArray s 0 0 A) (F0 m 17 ls []) := by
          intro n_23
          induction n_23 with
          | zero => intro jm zamb ztkb zqpb zqb zpb H locs ls hm; exact absurd hm (Nat.not_lt_zero _)
          | succ n_23 ih_lp_22 =>
            intro jm zamb ztkb zqpb zqb zpb H locs ls hm hjm hP hD hS hl
            refine lv_iload_n hx hb dX12_laysPay_17 rfl (lv_at hl 0 rfl) ?_
            refine lv_bipush (v := 10) hx hb dX12_laysPay_18 (by decide) ?_
            refine lv_icmp_ge (tgt := 153) hx hb dX12_laysPay_20 (by decide) (fun c_24 => ?_) (fun c_24 => ?_)
            · have c_24 : 10 ≤ jm := (nle 10 jm (by omega) (by omega)).mp c_24
              refine lv_iinc (v := nI (dd - 1) - 1) (lv' := [(1, .int (nI (dd - 1) - 1)), (2, .int (nI jm)), (0, .ref mm)]) hx hb dX12_laysPay_153 hl (k := 1) rfl (ndn _) (by decide) rfl (fun ls hl => ?_)
              refine lv_goto (tgt := 11) hx hb dX12_laysPay_156 (by decide) ?_
              exact ih_lp_19 (dd - 1) zamb ztkb zqpb zqb zpb _ _ _ (by omega) (by omega) hP hD hS (lv_sub hl [0, 2] rfl)
            · have c_24 : ¬ (10 ≤ jm) := fun h => c_24 ((nle 10 jm (by omega) (by omega)).mpr h)
              refine lv_iload_n hx hb dX12_laysPay_23 rfl (lv_at hl 1 rfl) ?_
              refine lv_aload_n hx hb dX12_laysPay_24 rfl (lv_at hl 2 rfl) ?_
              refine sk_Vi (q0 := 0) (n := 0) (rest := [.int (nI (dd - 1))]) (wr := fmR om_14_2040 _) ⟨hx, hb, hml, hown, hts⟩ hl.1 (c_m_dayMany l D cI cJ cC cZ cS mm g ta pa pe pd pb pp pf pg pn rt rn cd sn il ztkb zamb at_2_4 aa2_5 0 0 (-1) wt wy2_6 0 rm ud nu sd qn qw qo qb zqpb qa qi oc l0 l1 dm l3) w_7_98 w_7_100 w_0_69 w_1_14 w_7_101 hd_X12_dayMany_0 ⟨⟨(Nat.le_of_ble_eq_true rfl), (Nat.le_of_ble_eq_true rfl)⟩, (Nat.le_of_ble_eq_true rfl), (Nat.le_of_ble_eq_true rfl)⟩ hK hP hD hS hA (fmT om_14_2040 0) (fmF om_14_2040 0) (fm_C1 rfl rfl) (fm_R rfl rfl) (fm_nT om_14_2040 0) (fm_nF om_14_2040 0) (fm_di om_14_2040 0) rfl rfl rfl rfl (Nat.le_of_ble_eq_true rfl) dX12_laysPay_25 (fun r_25 u H locs hw hP hD hS => ?_)
              refine anE hw (fun er_27 eu_26 => ?_)
              clear hw
              subst er_27
              refine o_mgE (ws' := [(mm, .inr (12, mo g (nI ta) (nI pa) (nI pe) pd (nI pb) pp pf pg pn rt rn (nI cd) sn (nI il) ztkb zamb at_2_4 aa2_5 0 0 (-1) wt wy2_6 0 (nI rm) (nI ud) (nI nu) sd (nI qn) (nI qw) qo (nI qb) (nI zqpb) qa (nI qi) (nI oc))), (g 24, .inl (cI, 6, .inl (l6 u0 u1 u2 u3 u4 u5))), (g 25, .inl (cI, 6, .inl (l6 v0 v1 v2 v3 v4 v5))), (g 26, .inl (cI, 3200, .inl (fun j => nI (cs j)))), (g 31, .inl (cI, 120, .inl nw)), (g 46, .inl (cI, 9, .inl (fun j => nI (pt j)))), (g 86, .inl (cJ, 1700, .inr (.inl zqb))), (g 20, .inl (cI, 4, .inl (l4 (nI l0) (nI l1) (nI dm) (nI l3)))), (g 38, .inl (cI, 90, .inl ws_2_8)), (g 36, .inl (cZ, 900, .inl yw2_9)), (g 37, .inl (cZ, 900, .inl yo2_10)), (g 43, .inl (cJ, 90, .inr (.inl be2_11))), (g 44, .inl (cJ, 90, .inr (.inl bf2_12))), (g 48, .inl (cJ, 90, .inr (.inl zpb)))]) eu_26 hP hD rfl (fun hP hD => ?_)
              refine lv_iconst (v := 1) hx hb dX12_laysPay_28 (by decide) ?_
              refine lv_isub hx hb dX12_laysPay_29 ?_
              refine sk_top (nI (dm - 1)) (nsub dm 1 (by omega)) ?_
              refine lv_icmp_ne (tgt := 37) hx hb dX12_laysPay_30 (by decide) (fun c_28 => ?_) (fun c_28 => ?_)
              · have c_28 : ¬ (dd - 1 = dm - 1) := fun h => c_28 ((neq (dd - 1) (dm - 1) (by omega) (by omega)).mpr h)
                refine lv_ldc2 (v := (-1000000000000000)) hx hb hown (hts _ w_7_184) dX12_laysPay_37 ?_
                refine lv_lstore_n (lv' := [(3, .long (-1000000000000000)), (2, .int (nI jm)), (1, .int (nI (dd - 1))), (0, .ref mm)]) hx hb dX12_laysPay_40 rfl hl (by decide) rfl (fun ls hl => ?_)
                refine lv_iconst (v := 0) hx hb dX12_laysPay_41 (by decide) ?_
                refine lv_istore (lv' := [(5, .int 0), (3, .long (-1000000000000000)), (2, .int (nI jm)), (1, .int (nI (dd - 1))), (0, .ref mm)]) hx hb dX12_laysPay_42 hl (by decide) rfl (fun ls hl => ?_)
                have lp_29 : ∀ (n_30 : Nat) (kk : Nat) (mo_ : Int64) (H : Heap) (locs : List Loc) (ls : Array Slot), 10 - kk < n_30 → (kk ≤ 10) → va_P D vwCl [(mm, .inr (12, mo g (nI ta) (nI pa) (nI pe) pd (nI pb) pp pf pg pn rt rn (nI cd) sn (nI il) ztkb zamb at_2_4 aa2_5 0 0 (-1) wt wy2_6 0 (nI rm) (nI ud) (nI nu) sd (nI qn) (nI qw) qo (nI qb) (nI zqpb) qa (nI qi) (nI oc))), (g 24, .inl (cI, 6, .inl (l6 u0 u1 u2 u3 u4 u5))), (g 25, .inl (cI, 6, .inl (l6 v0 v1 v2 v3 v4 v5))), (g 26, .inl (cI, 3200, .inl (fun j => nI (cs j)))), (g 31, .inl (cI, 120, .inl nw)), (g 46, .inl (cI, 9, .inl (fun j => nI (pt j)))), (g 86, .inl (cJ, 1700, .inr (.inl zqb))), (g 20, .inl (cI, 4, .inl (l4 (nI l0) (nI l1) (nI dm) (nI l3)))), (g 38, .inl (cI, 90, .inl ws_2_8)), (g 36, .inl (cZ, 900, .inl yw2_9)), (g 37, .inl (cZ, 900, .inl yo2_10)), (g 43, .inl (cJ, 90, .inr (.inl be2_11))), (g 44, .inl (cJ, 90, .inr (.inl bf2_12))), (g 48, .inl (cJ, 90, .inr (.inl zpb)))] H → va_D A [(mm, .inr (12, mo g (nI ta) (nI pa) (nI pe) pd (nI pb) pp pf pg pn rt rn (nI cd) sn (nI il) ztkb zamb at_2_4 aa2_5 0 0 (-1) wt wy2_6 0 (nI rm) (nI ud) (nI nu) sd (nI qn) (nI qw) qo (nI qb) (nI zqpb) qa (nI qi) (nI oc))), (g 24, .inl (cI, 6, .inl (l6 u0 u1 u2 u3 u4 u5))), (g 25, .inl (cI, 6, .inl (l6 v0 v1 v2 v3 v4 v5))), (g 26, .inl (cI, 3200, .inl (fun j => nI (cs j)))), (g 31, .inl (cI, 120, .inl nw)), (g 46, .inl (cI, 9, .inl (fun j => nI (pt j)))), (g 86, .inl (cJ, 1700, .inr (.inl zqb))), (g 20, .inl (cI, 4, .inl (l4 (nI l0) (nI l1) (nI dm) (nI l3)))), (g 38, .inl (cI, 90, .inl ws_2_8)), (g 36, .inl (cZ, 900, .inl yw2_9)), (g 37, .inl (cZ, 900, .inl yo2_10)), (g 43, .inl (cJ, 90, .inr (.inl be2_11))), (g 44, .inl (cJ, 90, .inr (.inl bf2_12))), (g 48, .inl (cJ, 90, .inr (.inl zpb)))] → va_S A s.heap H locs → lv_has ls 6 [(5, .int (nI kk)), (3, .long mo_), (2, .int (nI jm)), (1, .int (nI (dd - 1))), (0, .ref mm)] → W p l e { frames := 6, cells := 0, slots := 0, locals := 142 } s m ([.ref mm] : List Value).toArray below meth c H locs 0 0 (MQ below (skV D (skT cI cJ cC cZ cS) (fun (u : va_W) => ∃ (tk2 : Int32), ∃ (qp2 : Nat), ∃ (am2 : Int32), ∃ (at_2 : Int32), ∃ (aa2 : Int32), ∃ (wy2 : Int64), ∃ (ql2 : Nat → Int64), ∃ (ws_2 : Nat → Int32), ∃ (yw2 : Nat → Int32), ∃ (yo2 : Nat → Int32), ∃ (be2 : Nat → Int64), ∃ (bf2 : Nat → Int64), ∃ (py2 : Nat → Int64), u = [(mm, .inr (12, mo g (nI ta) (nI pa) (nI pe) pd (nI pb) pp pf pg pn rt rn (nI cd) sn (nI il) tk2 am2 at_2 aa2 0 0 (-1) wt wy2 0 (nI rm) (nI ud) (nI nu) sd (nI qn) (nI qw) qo (nI qb) (nI qp2) qa (nI qi) (nI oc))), (g 24, .inl (cI, 6, .inl (l6 u0 u1 u2 u3 u4 u5))), (g 25, .inl (cI, 6, .inl (l6 v0 v1 v2 v3 v4 v5))), (g 26, .inl (cI, 3200, .inl (fun j => nI (cs j)))), (g 31, .inl (cI, 120, .inl nw)), (g 46, .inl (cI, 9, .inl (fun j => nI (pt j)))), (g 86, .inl (cJ, 1700, .inr (.inl ql2))), (g 20, .inl (cI, 4, .inl (l4 (nI l0) (nI l1) (nI dm) (nI l3)))), (g 38, .inl (cI, 90, .inl ws_2)), (g 36, .inl (cZ, 900, .inl yw2)), (g 37, .inl (cZ, 900, .inl yo2)), (g 43, .inl (cJ, 90, .inr (.inl be2))), (g 44, .inl (cJ, 90, .inr (.inl bf2))), (g 48, .inl (cJ, 90, .inr (.inl py2)))]) A) ([.ref mm] : List Value).toArray s 0 0 A) (F0 m 44 ls []) := by
                  intro n_30
                  induction n_30 with
                  | zero => intro kk mo_ H locs ls hm; exact absurd hm (Nat.not_lt_zero _)
                  | succ n_30 ih_lp_29 =>
                    intro kk mo_ H locs ls hm hkk hP hD hS hl
                    refine lv_iload hx hb dX12_laysPay_44 (lv_at hl 0 rfl) ?_
                    refine lv_bipush (v := 10) hx hb dX12_laysPay_46 (by decide) ?_
                    refine lv_icmp_ge (tgt := 114) hx hb dX12_laysPay_48 (by decide) (fun c_31 => ?_) (fun c_31 => ?_)
                    · have c_31 : 10 ≤ kk := (nle 10 kk (by omega) (by omega)).mp c_31
                      refine lv_aload_n hx hb dX12_laysPay_114 rfl (lv_at hl 4 rfl) ?_
                      refine sk_get (v := .ref (g 48)) (C := RX12) (T := TX12) (N := 92) hx hb hts inlX12 hown hK hP 0 rfl rfl 48 (by decide) w_5_203 rfl dX12_laysPay_115 ?_
                      refine lv_bipush (v := 10) hx hb dX12_laysPay_118 (by decide) ?_
                      refine lv_iload_n hx hb dX12_laysPay_120 rfl (lv_at hl 3 rfl) ?_
                      refine lv_imul hx hb dX12_laysPay_121 ?_
                      refine sk_top (nI (10 * (dd - 1))) (nmul 10 (dd - 1)) ?_
                      refine lv_iload_n hx hb dX12_laysPay_122 rfl (lv_at hl 2 rfl) ?_
                      refine lv_iadd hx hb dX12_laysPay_123 ?_
                      refine sk_top (nI (10 * (dd - 1) + jm)) (nI_add (10 * (dd - 1)) jm) ?_
                      refine lv_lload_n hx hb dX12_laysPay_124 rfl (lv_at hl 1 rfl) ?_
                      refine lv_ldc2 (v := (-1000000000000000)) hx hb hown (hts _ w_7_184) dX12_laysPay_125 ?_
                      refine W.lcmp hx hb dX12_laysPay_128 ?_
                      refine lv_if_ne (tgt := 138) hx hb dX12_laysPay_129 (by decide) (fun c_32 => ?_) (fun c_32 => ?_)
                      · skip
                        refine lv_lload_n hx hb dX12_laysPay_138 rfl (lv_at hl 1 rfl) ?_
                        refine lv_aload_n hx hb dX12_laysPay_139 rfl (lv_at hl 4 rfl) ?_
                        refine lv_iload_n hx hb dX12_laysPay_140 rfl (lv_at hl 3 rfl) ?_
                        refine lv_iload_n hx hb dX12_laysPay_141 rfl (lv_at hl 2 rfl) ?_
                        refine sk_Vl (q0 := 0) (n := 2) (rest := [.long mo_, .int (nI (10 * (dd - 1) + jm)), .ref (g 48)]) (wr := fmR om_14_3f80 _) ⟨hx, hb, hml, hown, hts⟩ hl.1 (c_m_wageOf l D cI cJ cC cZ cS mm g ta pa pe pd pb pp pf pg pn rt rn cd sn il ztkb zamb at_2_4 aa2_5 0 0 (-1) wt wy2_6 0 rm ud nu sd qn qw qo qb zqpb qa qi oc (dd - 1) (nI jm) u0 u1 u2 u3 u4 u5 v0 v1 v2 v3 v4 v5 cs nw pt zqb (by omega) hp2 hcs hnw hpt) w_8_45 w_8_47 w_0_97 w_1_14 w_8_48 hd_X12_wageOf_2 ⟨⟨(Nat.le_of_ble_eq_true rfl), (Nat.le_of_ble_eq_true rfl)⟩, (Nat.le_of_ble_eq_true rfl), (Nat.le_of_ble_eq_true rfl)⟩ hK hP hD hS hA (fmT om_14_3f80 0) (fmF om_14_3f80 0) (fm_C1 rfl rfl) (fm_R rfl rfl) (fm_nT om_14_3f80 0) (fm_nF om_14_3f80 0) (fm_di om_14_3f80 0) rfl rfl rfl rfl (Nat.le_of_ble_eq_true rfl) dX12_laysPay_142 (fun r_37 u H locs hw hP hD hS => ?_)
                        refine exE hw (fun tk2_33 hw1 => exE hw1 (fun qp2_34 hw2 => exE hw2 (fun am2_35 hw3 => exE hw3 (fun ql2_36 eu_38 => ?_))))
                        clear hw hw1 hw2 hw3
                        refine o_mgE (ws' := [(mm, .inr (12, mo g (nI ta) (nI pa) (nI pe) pd (nI pb) pp pf pg pn rt rn (nI cd) sn (nI il) tk2_33 am2_35 at_2_4 aa2_5 0 0 (-1) wt wy2_6 0 (nI rm) (nI ud) (nI nu) sd (nI qn) (nI qw) qo (nI qb) (nI qp2_34) qa (nI qi) (nI oc))), (g 24, .inl (cI, 6, .inl (l6 u0 u1 u2 u3 u4 u5))), (g 25, .inl (cI, 6, .inl (l6 v0 v1 v2 v3 v4 v5))), (g 26, .inl (cI, 3200, .inl (fun j => nI (cs j)))), (g 31, .inl (cI, 120, .inl nw)), (g 46, .inl (cI, 9, .inl (fun j => nI (pt j)))), (g 86, .inl (cJ, 1700, .inr (.inl ql2_36))), (g 20, .inl (cI, 4, .inl (l4 (nI l0) (nI l1) (nI dm) (nI l3)))), (g 38, .inl (cI, 90, .inl ws_2_8)), (g 36, .inl (cZ, 900, .inl yw2_9)), (g 37, .inl (cZ, 900, .inl yo2_10)), (g 43, .inl (cJ, 90, .inr (.inl be2_11))), (g 44, .inl (cJ, 90, .inr (.inl bf2_12))), (g 48, .inl (cJ, 90, .inr (.inl zpb)))]) eu_38 hP hD rfl (fun hP hD => ?_)
                        refine lv_ladd hx hb dX12_laysPay_145 ?_
                        refine lv_topl (fun v_39 ev_39 => ?_)
                        refine sk_lastO (ws' := fun f_40 => [(mm, .inr (12, mo g (nI ta) (nI pa) (nI pe) pd (nI pb) pp pf pg pn rt rn (nI cd) sn (nI il) tk2_33 am2_35 at_2_4 aa2_5 0 0 (-1) wt wy2_6 0 (nI rm) (nI ud) (nI nu) sd (nI qn) (nI qw) qo (nI qb) (nI qp2_34) qa (nI qi) (nI oc))), (g 24, .inl (cI, 6, .inl (l6 u0 u1 u2 u3 u4 u5))), (g 25, .inl (cI, 6, .inl (l6 v0 v1 v2 v3 v4 v5))), (g 26, .inl (cI, 3200, .inl (fun j => nI (cs j)))), (g 31, .inl (cI, 120, .inl nw)), (g 46, .inl (cI, 9, .inl (fun j => nI (pt j)))), (g 86, .inl (cJ, 1700, .inr (.inl ql2_36))), (g 20, .inl (cI, 4, .inl (l4 (nI l0) (nI l1) (nI dm) (nI l3)))), (g 38, .inl (cI, 90, .inl ws_2_8)), (g 36, .inl (cZ, 900, .inl yw2_9)), (g 37, .inl (cZ, 900, .inl yo2_10)), (g 43, .inl (cJ, 90, .inr (.inl be2_11))), (g 44, .inl (cJ, 90, .inr (.inl bf2_12))), (g 48, .inl (cJ, 90, .inr (.inl f_40)))]) hx hb hK hP hD hS 13 1 rfl rfl (vin (10 * (dd - 1) + jm) 90 (by omega) (by omega)) (fun _ => rfl) dX12_laysPay_146 (fun f_40 H locs hP hD hS => ?_)
                        refine lv_iinc (v := nI (jm + 1)) (lv' := [(2, .int (nI (jm + 1))), (5, .int (nI kk)), (3, .long mo_), (1, .int (nI (dd - 1))), (0, .ref mm)]) hx hb dX12_laysPay_147 hl (k := 2) rfl (ninc jm 1 (by decide)) (by decide) rfl (fun ls hl => ?_)
                        refine lv_goto (tgt := 17) hx hb dX12_laysPay_150 (by decide) ?_
                        exact ih_lp_22 (jm + 1) am2_35 tk2_33 qp2_34 ql2_36 f_40 _ _ _ (by omega) (by omega) hP hD hS (lv_sub hl [0, 3, 4] rfl)
                      · skip
                        refine lv_ldc2 (v := (-1000000000000000)) hx hb hown (hts _ w_7_184) dX12_laysPay_132 ?_
                        refine lv_goto (tgt := 146) hx hb dX12_laysPay_135 (by decide) ?_
                        refine sk_lastO (ws' := fun f_41 => [(mm, .inr (12, mo g (nI ta) (nI pa) (nI pe) pd (nI pb) pp pf pg pn rt rn (nI cd) sn (nI il) ztkb zamb at_2_4 aa2_5 0 0 (-1) wt wy2_6 0 (nI rm) (nI ud) (nI nu) sd (nI qn) (nI qw) qo (nI qb) (nI zqpb) qa (nI qi) (nI oc))), (g 24, .inl (cI, 6, .inl (l6 u0 u1 u2 u3 u4 u5))), (g 25, .inl (cI, 6, .inl (l6 v0 v1 v2 v3 v4 v5))), (g 26, .inl (cI, 3200, .inl (fun j => nI (cs j)))), (g 31, .inl (cI, 120, .inl nw)), (g 46, .inl (cI, 9, .inl (fun j => nI (pt j)))), (g 86, .inl (cJ, 1700, .inr (.inl zqb))), (g 20, .inl (cI, 4, .inl (l4 (nI l0) (nI l1) (nI dm) (nI l3)))), (g 38, .inl (cI, 90, .inl ws_2_8)), (g 36, .inl (cZ, 900, .inl yw2_9)), (g 37, .inl (cZ, 900, .inl yo2_10)), (g 43, .inl (cJ, 90, .inr (.inl be2_11))), (g 44, .inl (cJ, 90, .inr (.inl bf2_12))), (g 48, .inl (cJ, 90, .inr (.inl f_41)))]) hx hb hK hP hD hS 13 1 rfl rfl (vin (10 * (dd - 1) + jm) 90 (by omega) (by omega)) (fun _ => rfl) dX12_laysPay_146 (fun f_41 H locs hP hD hS => ?_)
                        refine lv_iinc (v := nI (jm + 1)) (lv' := [(2, .int (nI (jm + 1))), (5, .int (nI kk)), (3, .long mo_), (1, .int (nI (dd - 1))), (0, .ref mm)]) hx hb dX12_laysPay_147 hl (k := 2) rfl (ninc jm 1 (by decide)) (by decide) rfl (fun ls hl => ?_)
                        refine lv_goto (tgt := 17) hx hb dX12_laysPay_150 (by decide) ?_
                        exact ih_lp_22 (jm + 1) zamb ztkb zqpb zqb f_41 _ _ _ (by omega) (by omega) hP hD hS (lv_sub hl [0, 3, 4] rfl)
                    · have c_31 : ¬ (10 ≤ kk) := fun h => c_31 ((nle 10 kk (by omega) (by omega)).mpr h)
                      refine lv_iload_n hx hb dX12_laysPay_51 rfl (lv_at hl 3 rfl) ?_
                      refine lv_aload_n hx hb dX12_laysPay_52 rfl (lv_at hl 4 rfl) ?_
                      refine sk_Vi (q0 := 0) (n := 0) (rest := [.int (nI (dd - 1))]) (wr := fmR om_14_2040 _) ⟨hx, hb, hml, hown, hts⟩ hl.1 (c_m_dayMany l D cI cJ cC cZ cS mm g ta pa pe pd pb pp pf pg pn rt rn cd sn il ztkb zamb at_2_4 aa2_5 0 0 (-1) wt wy2_6 0 rm ud nu sd qn qw qo qb zqpb qa qi oc l0 l1 dm l3) w_7_98 w_7_100 w_0_69 w_1_14 w_7_101 hd_X12_dayMany_0 ⟨⟨(Nat.le_of_ble_eq_true rfl), (Nat.le_of_ble_eq_true rfl)⟩, (Nat.le_of_ble_eq_true rfl), (Nat.le_of_ble_eq_true rfl)⟩ hK hP hD hS hA (fmT om_14_2040 0) (fmF om_14_2040 0) (fm_C1 rfl rfl) (fm_R rfl rfl) (fm_nT om_14_2040 0) (fm_nF om_14_2040 0) (fm_di om_14_2040 0) rfl rfl rfl rfl (Nat.le_of_ble_eq_true rfl) dX12_laysPay_53 (fun r_42 u H locs hw hP hD hS => ?_)
                      refine anE hw (fun er_44 eu_43 => ?_)
                      clear hw
                      subst er_44
                      refine o_mgE (ws' := [(mm, .inr (12, mo g (nI ta) (nI pa) (nI pe) pd (nI pb) pp pf pg pn rt rn (nI cd) sn (nI il) ztkb zamb at_2_4 aa2_5 0 0 (-1) wt wy2_6 0 (nI rm) (nI ud) (nI nu) sd (nI qn) (nI qw) qo (nI qb) (nI zqpb) qa (nI qi) (nI oc))), (g 24, .inl (cI, 6, .inl (l6 u0 u1 u2 u3 u4 u5))), (g 25, .inl (cI, 6, .inl (l6 v0 v1 v2 v3 v4 v5))), (g 26, .inl (cI, 3200, .inl (fun j => nI (cs j)))), (g 31, .inl (cI, 120, .inl nw)), (g 46, .inl (cI, 9, .inl (fun j => nI (pt j)))), (g 86, .inl (cJ, 1700, .inr (.inl zqb))), (g 20, .inl (cI, 4, .inl (l4 (nI l0) (nI l1) (nI dm) (nI l3)))), (g 38, .inl (cI, 90, .inl ws_2_8)), (g 36, .inl (cZ, 900, .inl yw2_9)), (g 37, .inl (cZ, 900, .inl yo2_10)), (g 43, .inl (cJ, 90, .inr (.inl be2_11))), (g 44, .inl (cJ, 90, .inr (.inl bf2_12))), (g 48, .inl (cJ, 90, .inr (.inl zpb)))]) eu_43 hP hD rfl (fun hP hD => ?_)
                      refine lv_iconst (v := 1) hx hb dX12_laysPay_56 (by decide) ?_
                      refine lv_isub hx hb dX12_laysPay_57 ?_
                      refine sk_top (nI (dm - 1)) (nsub dm 1 (by omega)) ?_
                      refine lv_icmp_ge (tgt := 114) hx hb dX12_laysPay_58 (by decide) (fun c_45 => ?_) (fun c_45 => ?_)
                      · have c_45 : dm - 1 ≤ dd - 1 := (nle (dm - 1) (dd - 1) (by omega) (by omega)).mp c_45
                        refine lv_aload_n hx hb dX12_laysPay_114 rfl (lv_at hl 4 rfl) ?_
                        refine sk_get (v := .ref (g 48)) (C := RX12) (T := TX12) (N := 92) hx hb hts inlX12 hown hK hP 0 rfl rfl 48 (by decide) w_5_203 rfl dX12_laysPay_115 ?_
                        refine lv_bipush (v := 10) hx hb dX12_laysPay_118 (by decide) ?_
                        refine lv_iload_n hx hb dX12_laysPay_120 rfl (lv_at hl 3 rfl) ?_
                        refine lv_imul hx hb dX12_laysPay_121 ?_
                        refine sk_top (nI (10 * (dd - 1))) (nmul 10 (dd - 1)) ?_
                        refine lv_iload_n hx hb dX12_laysPay_122 rfl (lv_at hl 2 rfl) ?_
                        refine lv_iadd hx hb dX12_laysPay_123 ?_
                        refine sk_top (nI (10 * (dd - 1) + jm)) (nI_add (10 * (dd - 1)) jm) ?_
                        refine lv_lload_n hx hb dX12_laysPay_124 rfl (lv_at hl 1 rfl) ?_
                        refine lv_ldc2 (v := (-1000000000000000)) hx hb hown (hts _ w_7_184) dX12_laysPay_125 ?_
                        refine W.lcmp hx hb dX12_laysPay_128 ?_
                        refine lv_if_ne (tgt := 138) hx hb dX12_laysPay_129 (by decide) (fun c_46 => ?_) (fun c_46 => ?_)
                        · skip
                          refine lv_lload_n hx hb dX12_laysPay_138 rfl (lv_at hl 1 rfl) ?_
                          refine lv_aload_n hx hb dX12_laysPay_139 rfl (lv_at hl 4 rfl) ?_
                          refine lv_iload_n hx hb dX12_laysPay_140 rfl (lv_at hl 3 rfl) ?_
                          refine lv_iload_n hx hb dX12_laysPay_141 rfl (lv_at hl 2 rfl) ?_
                          refine sk_Vl (q0 := 0) (n := 2) (rest := [.long mo_, .int (nI (10 * (dd - 1) + jm)), .ref (g 48)]) (wr := fmR om_14_3f80 _) ⟨hx, hb, hml, hown, hts⟩ hl.1 (c_m_wageOf l D cI cJ cC cZ cS mm g ta pa pe pd pb pp pf pg pn rt rn cd sn il ztkb zamb at_2_4 aa2_5 0 0 (-1) wt wy2_6 0 rm ud nu sd qn qw qo qb zqpb qa qi oc (dd - 1) (nI jm) u0 u1 u2 u3 u4 u5 v0 v1 v2 v3 v4 v5 cs nw pt zqb (by omega) hp2 hcs hnw hpt) w_8_45 w_8_47 w_0_97 w_1_14 w_8_48 hd_X12_wageOf_2 ⟨⟨(Nat.le_of_ble_eq_true rfl), (Nat.le_of_ble_eq_true rfl)⟩, (Nat.le_of_ble_eq_true rfl), (Nat.le_of_ble_eq_true rfl)⟩ hK hP hD hS hA (fmT om_14_3f80 0) (fmF om_14_3f80 0) (fm_C1 rfl rfl) (fm_R rfl rfl) (fm_nT om_14_3f80 0) (fm_nF om_14_3f80 0) (fm_di om_14_3f80 0) rfl rfl rfl rfl (Nat.le_of_ble_eq_true rfl) dX12_laysPay_142 (fun r_51 u H locs hw hP hD hS => ?_)
                          refine exE hw (fun tk2_47 hw1 => exE hw1 (fun qp2_48 hw2 => exE hw2 (fun am2_49 hw3 => exE hw3 (fun ql2_50 eu_52 => ?_))))
                          clear hw hw1 hw2 hw3
                          refine o_mgE (ws' := [(mm, .inr (12, mo g (nI ta) (nI pa) (nI pe) pd (nI pb) pp pf pg pn rt rn (nI cd) sn (nI il) tk2_47 am2_49 at_2_4 aa2_5 0 0 (-1) wt wy2_6 0 (nI rm) (nI ud) (nI nu) sd (nI qn) (nI qw) qo (nI qb) (nI qp2_48) qa (nI qi) (nI oc))), (g 24, .inl (cI, 6, .inl (l6 u0 u1 u2 u3 u4 u5))), (g 25, .inl (cI, 6, .inl (l6 v0 v1 v2 v3 v4 v5))), (g 26, .inl (cI, 3200, .inl (fun j => nI (cs j)))), (g 31, .inl (cI, 120, .inl nw)), (g 46, .inl (cI, 9, .inl (fun j => nI (pt j)))), (g 86, .inl (cJ, 1700, .inr (.inl ql2_50))), (g 20, .inl (cI, 4, .inl (l4 (nI l0) (nI l1) (nI dm) (nI l3)))), (g 38, .inl (cI, 90, .inl ws_2_8)), (g 36, .inl (cZ, 900, .inl yw2_9)), (g 37, .inl (cZ, 900, .inl yo2_10)), (g 43, .inl (cJ, 90, .inr (.inl be2_11))), (g 44, .inl (cJ, 90, .inr (.inl bf2_12))), (g 48, .inl (cJ, 90, .inr (.inl zpb)))]) eu_52 hP hD rfl (fun hP hD => ?_)
                          refine lv_ladd hx hb dX12_laysPay_145 ?_
                          refine lv_topl (fun v_53 ev_53 => ?_)
                          refine sk_lastO (ws' := fun f_54 => [(mm, .inr (12, mo g (nI ta) (nI pa) (nI pe) pd (nI pb) pp pf pg pn rt rn (nI cd) sn (nI il) tk2_47 am2_49 at_2_4 aa2_5 0 0 (-1) wt wy2_6 0 (nI rm) (nI ud) (nI nu) sd (nI qn) (nI qw) qo (nI qb) (nI qp2_48) qa (nI qi) (nI oc))), (g 24, .inl (cI, 6, .inl (l6 u0 u1 u2 u3 u4 u5))), (g 25, .inl (cI, 6, .inl (l6 v0 v1 v2 v3 v4 v5))), (g 26, .inl (cI, 3200, .inl (fun j => nI (cs j)))), (g 31, .inl (cI, 120, .inl nw)), (g 46, .inl (cI, 9, .inl (fun j => nI (pt j)))), (g 86, .inl (cJ, 1700, .inr (.inl ql2_50))), (g 20, .inl (cI, 4, .inl (l4 (nI l0) (nI l1) (nI dm) (nI l3)))), (g 38, .inl (cI, 90, .inl ws_2_8)), (g 36, .inl (cZ, 900, .inl yw2_9)), (g 37, .inl (cZ, 900, .inl yo2_10)), (g 43, .inl (cJ, 90, .inr (.inl be2_11))), (g 44, .inl (cJ, 90, .inr (.inl bf2_12))), (g 48, .inl (cJ, 90, .inr (.inl f_54)))]) hx hb hK hP hD hS 13 1 rfl rfl (vin (10 * (dd - 1) + jm) 90 (by omega) (by omega)) (fun _ => rfl) dX12_laysPay_146 (fun f_54 H locs hP hD hS => ?_)
                          refine lv_iinc (v := nI (jm + 1)) (lv' := [(2, .int (nI (jm + 1))), (5, .int (nI kk)), (3, .long mo_), (1, .int (nI (dd - 1))), (0, .ref mm)]) hx hb dX12_laysPay_147 hl (k := 2) rfl (ninc jm 1 (by decide)) (by decide) rfl (fun ls hl => ?_)
                          refine lv_goto (tgt := 17) hx hb dX12_laysPay_150 (by decide) ?_
                          exact ih_lp_22 (jm + 1) am2_49 tk2_47 qp2_48 ql2_50 f_54 _ _ _ (by omega) (by omega) hP hD hS (lv_sub hl [0, 3, 4] rfl)
                        · skip
                          refine lv_ldc2 (v := (-1000000000000000)) hx hb hown (hts _ w_7_184) dX12_laysPay_132 ?_
                          refine lv_goto (tgt := 146) hx hb dX12_laysPay_135 (by decide) ?_
                          refine sk_lastO (ws' := fun f_55 => [(mm, .inr (12, mo g (nI ta) (nI pa) (nI pe) pd (nI pb) pp pf pg pn rt rn (nI cd) sn (nI il) ztkb zamb at_2_4 aa2_5 0 0 (-1) wt wy2_6 0 (nI rm) (nI ud) (nI nu) sd (nI qn) (nI qw) qo (nI qb) (nI zqpb) qa (nI qi) (nI oc))), (g 24, .inl (cI, 6, .inl (l6 u0 u1 u2 u3 u4 u5))), (g 25, .inl (cI, 6, .inl (l6 v0 v1 v2 v3 v4 v5))), (g 26, .inl (cI, 3200, .inl (fun j => nI (cs j)))), (g 31, .inl (cI, 120, .inl nw)), (g 46, .inl (cI, 9, .inl (fun j => nI (pt j)))), (g 86, .inl (cJ, 1700, .inr (.inl zqb))), (g 20, .inl (cI, 4, .inl (l4 (nI l0) (nI l1) (nI dm) (nI l3)))), (g 38, .inl (cI, 90, .inl ws_2_8)), (g 36, .inl (cZ, 900, .inl yw2_9)), (g 37, .inl (cZ, 900, .inl yo2_10)), (g 43, .inl (cJ, 90, .inr (.inl be2_11))), (g 44, .inl (cJ, 90, .inr (.inl bf2_12))), (g 48, .inl (cJ, 90, .inr (.inl f_55)))]) hx hb hK hP hD hS 13 1 rfl rfl (vin (10 * (dd - 1) + jm) 90 (by omega) (by omega)) (fun _ => rfl) dX12_laysPay_146 (fun f_55 H locs hP hD hS => ?_)
                          refine lv_iinc (v := nI (jm + 1)) (lv' := [(2, .int (nI (jm + 1))), (5, .int (nI kk)), (3, .long mo_), (1, .int (nI (dd - 1))), (0, .ref mm)]) hx hb dX12_laysPay_147 hl (k := 2) rfl (ninc jm 1 (by decide)) (by decide) rfl (fun ls hl => ?_)
                          refine lv_goto (tgt := 17) hx hb dX12_laysPay_150 (by decide) ?_
                          exact ih_lp_22 (jm + 1) zamb ztkb zqpb zqb f_55 _ _ _ (by omega) (by omega) hP hD hS (lv_sub hl [0, 3, 4] rfl)
                      · have c_45 : ¬ (dm - 1 ≤ dd - 1) := fun h => c_45 ((nle (dm - 1) (dd - 1) (by omega) (by omega)).mpr h)
                        refine lv_aload_n hx hb dX12_laysPay_61 rfl (lv_at hl 4 rfl) ?_
                        refine lv_iload_n hx hb dX12_laysPay_62 rfl (lv_at hl 3 rfl) ?_
                        refine lv_iconst (v := 1) hx hb dX12_laysPay_63 (by decide) ?_
                        refine lv_iadd hx hb dX12_laysPay_64 ?_
                        refine sk_top (nI (dd - 1 + 1)) (nI_add (dd - 1) 1) ?_
                        refine lv_iload_n hx hb dX12_laysPay_65 rfl (lv_at hl 2 rfl) ?_
                        refine lv_iload hx hb dX12_laysPay_66 (lv_at hl 0 rfl) ?_
                        refine sk_Vi (q0 := 0) (n := 3) (rest := []) (wr := fmR om_14_2218 _) ⟨hx, hb, hml, hown, hts⟩ hl.1 (c_m_canFollow0 l D cI cJ cC cZ cS mm g ta pa pe pd pb pp pf pg pn rt rn cd sn il ztkb zamb at_2_4 aa2_5 0 wt wy2_6 0 rm ud nu sd qn qw qo qb zqpb qa qi oc (dd - 1 + 1) jm kk nw yo2_10 yw2_9 (by omega) (by omega) (by omega) hnw) w_7_201 w_7_203 w_0_85 w_1_14 w_7_204 hd_X12_canFollow_3 ⟨⟨(Nat.le_of_ble_eq_true rfl), (Nat.le_of_ble_eq_true rfl)⟩, (Nat.le_of_ble_eq_true rfl), (Nat.le_of_ble_eq_true rfl)⟩ hK hP hD hS hA [0, 4, 10, 9] (fmF om_14_2218 0) rfl (fm_R rfl rfl) (by decide +kernel) (fm_nF om_14_2218 0) (by decide +kernel) rfl rfl rfl rfl (Nat.le_of_ble_eq_true rfl) dX12_laysPay_68 (fun r_57 u H locs hw hP hD hS => ?_)
                        refine exE hw (fun b_56 hw1 => anE hw1 (fun hb1_58 hw2 => anE hw2 (fun hb2_59 hw3 => anE hw3 (fun er_61 eu_60 => ?_))))
                        clear hw hw1 hw2 hw3
                        subst er_61
                        refine o_mgqE (ux := [(mm, .inr (12, mo g (nI ta) (nI pa) (nI pe) pd (nI pb) pp pf pg pn rt rn (nI cd) sn (nI il) ztkb zamb at_2_4 aa2_5 0 0 (-1) wt wy2_6 0 (nI rm) (nI ud) (nI nu) sd (nI qn) (nI qw) qo (nI qb) (nI zqpb) qa (nI qi) (nI oc))), (g 31, .inl (cI, 120, .inl nw)), (g 36, .inl (cZ, 900, .inl yw2_9)), (g 37, .inl (cZ, 900, .inl yo2_10))]) (ws' := [(mm, .inr (12, mo g (nI ta) (nI pa) (nI pe) pd (nI pb) pp pf pg pn rt rn (nI cd) sn (nI il) ztkb zamb at_2_4 aa2_5 0 0 (-1) wt wy2_6 0 (nI rm) (nI ud) (nI nu) sd (nI qn) (nI qw) qo (nI qb) (nI zqpb) qa (nI qi) (nI oc))), (g 24, .inl (cI, 6, .inl (l6 u0 u1 u2 u3 u4 u5))), (g 25, .inl (cI, 6, .inl (l6 v0 v1 v2 v3 v4 v5))), (g 26, .inl (cI, 3200, .inl (fun j => nI (cs j)))), (g 31, .inl (cI, 120, .inl nw)), (g 46, .inl (cI, 9, .inl (fun j => nI (pt j)))), (g 86, .inl (cJ, 1700, .inr (.inl zqb))), (g 20, .inl (cI, 4, .inl (l4 (nI l0) (nI l1) (nI dm) (nI l3)))), (g 38, .inl (cI, 90, .inl ws_2_8)), (g 36, .inl (cZ, 900, .inl yw2_9)), (g 37, .inl (cZ, 900, .inl yo2_10)), (g 43, .inl (cJ, 90, .inr (.inl be2_11))), (g 44, .inl (cJ, 90, .inr (.inl bf2_12))), (g 48, .inl (cJ, 90, .inr (.inl zpb)))]) eu_60 [0, 1, 3, 2] (by decide +kernel) rfl hP hD rfl (fun hP hD => ?_)
                        refine lv_if_eq (tgt := 108) hx hb dX12_laysPay_71 (by decide) (fun c_62 => ?_) (fun c_62 => ?_)
                        · have c_62 : b_56 = 0 := (neq b_56 0 (by omega) (by omega)).mp c_62
                          refine lv_iinc (v := nI (kk + 1)) (lv' := [(5, .int (nI (kk + 1))), (3, .long mo_), (2, .int (nI jm)), (1, .int (nI (dd - 1))), (0, .ref mm)]) hx hb dX12_laysPay_108 hl (k := 0) rfl (ninc kk 1 (by decide)) (by decide) rfl (fun ls hl => ?_)
                          refine lv_goto (tgt := 44) hx hb dX12_laysPay_111 (by decide) ?_
                          exact ih_lp_29 (kk + 1) mo_ _ _ _ (by omega) (by omega) hP hD hS (lv_sub hl [0, 1, 2, 3, 4] rfl)
                        · have c_62 : ¬ (b_56 = 0) := fun h => c_62 ((neq b_56 0 (by omega) (by omega)).mpr h)
                          refine lv_aload_n hx hb dX12_laysPay_74 rfl (lv_at hl 4 rfl) ?_
                          refine sk_get (v := .ref (g 48)) (C := RX12) (T := TX12) (N := 92) hx hb hts inlX12 hown hK hP 0 rfl rfl 48 (by decide) w_5_203 rfl dX12_laysPay_75 ?_
                          refine lv_bipush (v := 10) hx hb dX12_laysPay_78 (by decide) ?_
                          refine lv_iload_n hx hb dX12_laysPay_80 rfl (lv_at hl 3 rfl) ?_
                          refine lv_iconst (v := 1) hx hb dX12_laysPay_81 (by decide) ?_
                          refine lv_iadd hx hb dX12_laysPay_82 ?_
                          refine sk_top (nI (dd - 1 + 1)) (nI_add (dd - 1) 1) ?_
                          refine lv_imul hx hb dX12_laysPay_83 ?_
                          refine sk_top (nI (10 * (dd - 1 + 1))) (nmul 10 (dd - 1 + 1)) ?_
                          refine lv_iload hx hb dX12_laysPay_84 (lv_at hl 0 rfl) ?_
                          refine lv_iadd hx hb dX12_laysPay_86 ?_
                          refine sk_top (nI (10 * (dd - 1 + 1) + kk)) (nI_add (10 * (dd - 1 + 1)) kk) ?_
                          refine va_lald hx hb hK.1 hP 13 1 rfl rfl (vin (10 * (dd - 1 + 1) + kk) 90 (by omega) (by omega)) dX12_laysPay_87 ?_
                          refine lv_topl (fun v_63 ev_63 => ?_)
                          refine lv_lload_n hx hb dX12_laysPay_88 rfl (lv_at hl 1 rfl) ?_
                          refine W.lcmp hx hb dX12_laysPay_89 ?_
                          refine lv_if_le (tgt := 108) hx hb dX12_laysPay_90 (by decide) (fun c_64 => ?_) (fun c_64 => ?_)
                          · skip
                            refine lv_iinc (v := nI (kk + 1)) (lv' := [(5, .int (nI (kk + 1))), (3, .long mo_), (2, .int (nI jm)), (1, .int (nI (dd - 1))), (0, .ref mm)]) hx hb dX12_laysPay_108 hl (k := 0) rfl (ninc kk 1 (by decide)) (by decide) rfl (fun ls hl => ?_)
                            refine lv_goto (tgt := 44) hx hb dX12_laysPay_111 (by decide) ?_
                            exact ih_lp_29 (kk + 1) mo_ _ _ _ (by omega) (by omega) hP hD hS (lv_sub hl [0, 1, 2, 3, 4] rfl)
                          · skip
                            refine lv_aload_n hx hb dX12_laysPay_93 rfl (lv_at hl 4 rfl) ?_
                            refine sk_get (v := .ref (g 48)) (C := RX12) (T := TX12) (N := 92) hx hb hts inlX12 hown hK hP 0 rfl rfl 48 (by decide) w_5_203 rfl dX12_laysPay_94 ?_
                            refine lv_bipush (v := 10) hx hb dX12_laysPay_97 (by decide) ?_
                            refine lv_iload_n hx hb dX12_laysPay_99 rfl (lv_at hl 3 rfl) ?_
                            refine lv_iconst (v := 1) hx hb dX12_laysPay_100 (by decide) ?_
                            refine lv_iadd hx hb dX12_laysPay_101 ?_
                            refine sk_top (nI (dd - 1 + 1)) (nI_add (dd - 1) 1) ?_
                            refine lv_imul hx hb dX12_laysPay_102 ?_
                            refine sk_top (nI (10 * (dd - 1 + 1))) (nmul 10 (dd - 1 + 1)) ?_
                            refine lv_iload hx hb dX12_laysPay_103 (lv_at hl 0 rfl) ?_
                            refine lv_iadd hx hb dX12_laysPay_105 ?_
                            refine sk_top (nI (10 * (dd - 1 + 1) + kk)) (nI_add (10 * (dd - 1 + 1)) kk) ?_
                            refine va_lald hx hb hK.1 hP 13 1 rfl rfl (vin (10 * (dd - 1 + 1) + kk) 90 (by omega) (by omega)) dX12_laysPay_106 ?_
                            refine lv_topl (fun v_65 ev_65 => ?_)
                            refine lv_lstore_n (lv' := [(3, .long v_65), (5, .int (nI kk)), (2, .int (nI jm)), (1, .int (nI (dd - 1))), (0, .ref mm)]) hx hb dX12_laysPay_107 rfl hl (by decide) rfl (fun ls hl => ?_)
                            refine lv_iinc (v := nI (kk + 1)) (lv' := [(5, .int (nI (kk + 1))), (3, .long v_65), (2, .int (nI jm)), (1, .int (nI (dd - 1))), (0, .ref mm)]) hx hb dX12_laysPay_108 hl (k := 1) rfl (ninc kk 1 (by decide)) (by decide) rfl (fun ls hl => ?_)
                            refine lv_goto (tgt := 44) hx hb dX12_laysPay_111 (by decide) ?_
                            exact ih_lp_29 (kk + 1) v_65 _ _ _ (by omega) (by omega) hP hD hS (lv_sub hl [0, 1, 2, 3, 4] rfl)
                exact lp_29 (10 - 0 + 1) 0 (-1000000000000000) _ _ _ (Nat.lt_succ_self _) (by omega) hP hD hS (lv_sub hl [0, 1, 2, 3, 4] rfl)
              · have c_28 : dd - 1 = dm - 1 := (neq (dd - 1) (dm - 1) (by omega) (by omega)).mp c_28
                refine lv_lconst (v := 0) hx hb dX12_laysPay_33 (by decide) ?_
                refine lv_goto (tgt := 40) hx hb dX12_laysPay_34 (by decide) ?_
                refine lv_lstore_n (lv' := [(3, .long 0), (2, .int (nI jm)), (1, .int (nI (dd - 1))), (0, .ref mm)]) hx hb dX12_laysPay_40 rfl hl (by decide) rfl (fun ls hl => ?_)
                refine lv_iconst (v := 0) hx hb dX12_laysPay_41 (by decide) ?_
                refine lv_istore (lv' := [(5, .int 0), (3, .long 0), (2, .int (nI jm)), (1, .int (nI (dd - 1))), (0, .ref mm)]) hx hb dX12_laysPay_42 hl (by decide) rfl (fun ls hl => ?_)
                have lp_66 : ∀ (n_67 : Nat) (kk : Nat) (mo_ : Int64) (H : Heap) (locs : List Loc) (ls : Array Slot), 10 - kk < n_67 → (kk ≤ 10) → va_P D vwCl [(mm, .inr (12, mo g (nI ta) (nI pa) (nI pe) pd (nI pb) pp pf pg pn rt rn (nI cd) sn (nI il) ztkb zamb at_2_4 aa2_5 0 0 (-1) wt wy2_6 0 (nI rm) (nI ud) (nI nu) sd (nI qn) (nI qw) qo (nI qb) (nI zqpb) qa (nI qi) (nI oc))), (g 24, .inl (cI, 6, .inl (l6 u0 u1 u2 u3 u4 u5))), (g 25, .inl (cI, 6, .inl (l6 v0 v1 v2 v3 v4 v5))), (g 26, .inl (cI, 3200, .inl (fun j => nI (cs j)))), (g 31, .inl (cI, 120, .inl nw)), (g 46, .inl (cI, 9, .inl (fun j => nI (pt j)))), (g 86, .inl (cJ, 1700, .inr (.inl zqb))), (g 20, .inl (cI, 4, .inl (l4 (nI l0) (nI l1) (nI dm) (nI l3)))), (g 38, .inl (cI, 90, .inl ws_2_8)), (g 36, .inl (cZ, 900, .inl yw2_9)), (g 37, .inl (cZ, 900, .inl yo2_10)), (g 43, .inl (cJ, 90, .inr (.inl be2_11))), (g 44, .inl (cJ, 90, .inr (.inl bf2_12))), (g 48, .inl (cJ, 90, .inr (.inl zpb)))] H → va_D A [(mm, .inr (12, mo g (nI ta) (nI pa) (nI pe) pd (nI pb) pp pf pg pn rt rn (nI cd) sn (nI il) ztkb zamb at_2_4 aa2_5 0 0 (-1) wt wy2_6 0 (nI rm) (nI ud) (nI nu) sd (nI qn) (nI qw) qo (nI qb) (nI zqpb) qa (nI qi) (nI oc))), (g 24, .inl (cI, 6, .inl (l6 u0 u1 u2 u3 u4 u5))), (g 25, .inl (cI, 6, .inl (l6 v0 v1 v2 v3 v4 v5))), (g 26, .inl (cI, 3200, .inl (fun j => nI (cs j)))), (g 31, .inl (cI, 120, .inl nw)), (g 46, .inl (cI, 9, .inl (fun j => nI (pt j)))), (g 86, .inl (cJ, 1700, .inr (.inl zqb))), (g 20, .inl (cI, 4, .inl (l4 (nI l0) (nI l1) (nI dm) (nI l3)))), (g 38, .inl (cI, 90, .inl ws_2_8)), (g 36, .inl (cZ, 900, .inl yw2_9)), (g 37, .inl (cZ, 900, .inl yo2_10)), (g 43, .inl (cJ, 90, .inr (.inl be2_11))), (g 44, .inl (cJ, 90, .inr (.inl bf2_12))), (g 48, .inl (cJ, 90, .inr (.inl zpb)))] → va_S A s.heap H locs → lv_has ls 6 [(5, .int (nI kk)), (3, .long mo_), (2, .int (nI jm)), (1, .int (nI (dd - 1))), (0, .ref mm)] → W p l e { frames := 6, cells := 0, slots := 0, locals := 142 } s m ([.ref mm] : List Value).toArray below meth c H locs 0 0 (MQ below (skV D (skT cI cJ cC cZ cS) (fun (u : va_W) => ∃ (tk2 : Int32), ∃ (qp2 : Nat), ∃ (am2 : Int32), ∃ (at_2 : Int32), ∃ (aa2 : Int32), ∃ (wy2 : Int64), ∃ (ql2 : Nat → Int64), ∃ (ws_2 : Nat → Int32), ∃ (yw2 : Nat → Int32), ∃ (yo2 : Nat → Int32), ∃ (be2 : Nat → Int64), ∃ (bf2 : Nat → Int64), ∃ (py2 : Nat → Int64), u = [(mm, .inr (12, mo g (nI ta) (nI pa) (nI pe) pd (nI pb) pp pf pg pn rt rn (nI cd) sn (nI il) tk2 am2 at_2 aa2 0 0 (-1) wt wy2 0 (nI rm) (nI ud) (nI nu) sd (nI qn) (nI qw) qo (nI qb) (nI qp2) qa (nI qi) (nI oc))), (g 24, .inl (cI, 6, .inl (l6 u0 u1 u2 u3 u4 u5))), (g 25, .inl (cI, 6, .inl (l6 v0 v1 v2 v3 v4 v5))), (g 26, .inl (cI, 3200, .inl (fun j => nI (cs j)))), (g 31, .inl (cI, 120, .inl nw)), (g 46, .inl (cI, 9, .inl (fun j => nI (pt j)))), (g 86, .inl (cJ, 1700, .inr (.inl ql2))), (g 20, .inl (cI, 4, .inl (l4 (nI l0) (nI l1) (nI dm) (nI l3)))), (g 38, .inl (cI, 90, .inl ws_2)), (g 36, .inl (cZ, 900, .inl yw2)), (g 37, .inl (cZ, 900, .inl yo2)), (g 43, .inl (cJ, 90, .inr (.inl be2))), (g 44, .inl (cJ, 90, .inr (.inl bf2))), (g 48, .inl (cJ, 90, .inr (.inl py2)))]) A) ([.ref mm] : List Value).toArray s 0 0 A) (F0 m 44 ls []) := by
                  intro n_67
                  induction n_67 with
                  | zero => intro kk mo_ H locs ls hm; exact absurd hm (Nat.not_lt_zero _)
                  | succ n_67 ih_lp_66 =>
                    intro kk mo_ H locs ls hm hkk hP hD hS hl
                    refine lv_iload hx hb dX12_laysPay_44 (lv_at hl 0 rfl) ?_
                    refine lv_bipush (v := 10) hx hb dX12_laysPay_46 (by decide) ?_
                    refine lv_icmp_ge (tgt := 114) hx hb dX12_laysPay_48 (by decide) (fun c_68 => ?_) (fun c_68 => ?_)
                    · have c_68 : 10 ≤ kk := (nle 10 kk (by omega) (by omega)).mp c_68
                      refine lv_aload_n hx hb dX12_laysPay_114 rfl (lv_at hl 4 rfl) ?_
                      refine sk_get (v := .ref (g 48)) (C := RX12) (T := TX12) (N := 92) hx hb hts inlX12 hown hK hP 0 rfl rfl 48 (by decide) w_5_203 rfl dX12_laysPay_115 ?_
                      refine lv_bipush (v := 10) hx hb dX12_laysPay_118 (by decide) ?_
                      refine lv_iload_n hx hb dX12_laysPay_120 rfl (lv_at hl 3 rfl) ?_
                      refine lv_imul hx hb dX12_laysPay_121 ?_
                      refine sk_top (nI (10 * (dd - 1))) (nmul 10 (dd - 1)) ?_
                      refine lv_iload_n hx hb dX12_laysPay_122 rfl (lv_at hl 2 rfl) ?_
                      refine lv_iadd hx hb dX12_laysPay_123 ?_
                      refine sk_top (nI (10 * (dd - 1) + jm)) (nI_add (10 * (dd - 1)) jm) ?_
                      refine lv_lload_n hx hb dX12_laysPay_124 rfl (lv_at hl 1 rfl) ?_
                      refine lv_ldc2 (v := (-1000000000000000)) hx hb hown (hts _ w_7_184) dX12_laysPay_125 ?_
                      refine W.lcmp hx hb dX12_laysPay_128 ?_
                      refine lv_if_ne (tgt := 138) hx hb dX12_laysPay_129 (by decide) (fun c_69 => ?_) (fun c_69 => ?_)
                      · skip
                        refine lv_lload_n hx hb dX12_laysPay_138 rfl (lv_at hl 1 rfl) ?_
                        refine lv_aload_n hx hb dX12_laysPay_139 rfl (lv_at hl 4 rfl) ?_
                        refine lv_iload_n hx hb dX12_laysPay_140 rfl (lv_at hl 3 rfl) ?_
                        refine lv_iload_n hx hb dX12_laysPay_141 rfl (lv_at hl 2 rfl) ?_
                        refine sk_Vl (q0 := 0) (n := 2) (rest := [.long mo_, .int (nI (10 * (dd - 1) + jm)), .ref (g 48)]) (wr := fmR om_14_3f80 _) ⟨hx, hb, hml, hown, hts⟩ hl.1 (c_m_wageOf l D cI cJ cC cZ cS mm g ta pa pe pd pb pp pf pg pn rt rn cd sn il ztkb zamb at_2_4 aa2_5 0 0 (-1) wt wy2_6 0 rm ud nu sd qn qw qo qb zqpb qa qi oc (dd - 1) (nI jm) u0 u1 u2 u3 u4 u5 v0 v1 v2 v3 v4 v5 cs nw pt zqb (by omega) hp2 hcs hnw hpt) w_8_45 w_8_47 w_0_97 w_1_14 w_8_48 hd_X12_wageOf_2 ⟨⟨(Nat.le_of_ble_eq_true rfl), (Nat.le_of_ble_eq_true rfl)⟩, (Nat.le_of_ble_eq_true rfl), (Nat.le_of_ble_eq_true rfl)⟩ hK hP hD hS hA (fmT om_14_3f80 0) (fmF om_14_3f80 0) (fm_C1 rfl rfl) (fm_R rfl rfl) (fm_nT om_14_3f80 0) (fm_nF om_14_3f80 0) (fm_di om_14_3f80 0) rfl rfl rfl rfl (Nat.le_of_ble_eq_true rfl) dX12_laysPay_142 (fun r_74 u H locs hw hP hD hS => ?_)
                        refine exE hw (fun tk2_70 hw1 => exE hw1 (fun qp2_71 hw2 => exE hw2 (fun am2_72 hw3 => exE hw3 (fun ql2_73 eu_75 => ?_))))
                        clear hw hw1 hw2 hw3
                        refine o_mgE (ws' := [(mm, .inr (12, mo g (nI ta) (nI pa) (nI pe) pd (nI pb) pp pf pg pn rt rn (nI cd) sn (nI il) tk2_70 am2_72 at_2_4 aa2_5 0 0 (-1) wt wy2_6 0 (nI rm) (nI ud) (nI nu) sd (nI qn) (nI qw) qo (nI qb) (nI qp2_71) qa (nI qi) (nI oc))), (g 24, .inl (cI, 6, .inl (l6 u0 u1 u2 u3 u4 u5))), (g 25, .inl (cI, 6, .inl (l6 v0 v1 v2 v3 v4 v5))), (g 26, .inl (cI, 3200, .inl (fun j => nI (cs j)))), (g 31, .inl (cI, 120, .inl nw)), (g 46, .inl (cI, 9, .inl (fun j => nI (pt j)))), (g 86, .inl (cJ, 1700, .inr (.inl ql2_73))), (g 20, .inl (cI, 4, .inl (l4 (nI l0) (nI l1) (nI dm) (nI l3)))), (g 38, .inl (cI, 90, .inl ws_2_8)), (g 36, .inl (cZ, 900, .inl yw2_9)), (g 37, .inl (cZ, 900, .inl yo2_10)), (g 43, .inl (cJ, 90, .inr (.inl be2_11))), (g 44, .inl (cJ, 90, .inr (.inl bf2_12))), (g 48, .inl (cJ, 90, .inr (.inl zpb)))]) eu_75 hP hD rfl (fun hP hD => ?_)
                        refine lv_ladd hx hb dX12_laysPay_145 ?_
                        refine lv_topl (fun v_76 ev_76 => ?_)
                        refine sk_lastO (ws' := fun f_77 => [(mm, .inr (12, mo g (nI ta) (nI pa) (nI pe) pd (nI pb) pp pf pg pn rt rn (nI cd) sn (nI il) tk2_70 am2_72 at_2_4 aa2_5 0 0 (-1) wt wy2_6 0 (nI rm) (nI ud) (nI nu) sd (nI qn) (nI qw) qo (nI qb) (nI qp2_71) qa (nI qi) (nI oc))), (g 24, .inl (cI, 6, .inl (l6 u0 u1 u2 u3 u4 u5))), (g 25, .inl (cI, 6, .inl (l6 v0 v1 v2 v3 v4 v5))), (g 26, .inl (cI, 3200, .inl (fun j => nI (cs j)))), (g 31, .inl (cI, 120, .inl nw)), (g 46, .inl (cI, 9, .inl (fun j => nI (pt j)))), (g 86, .inl (cJ, 1700, .inr (.inl ql2_73))), (g 20, .inl (cI, 4, .inl (l4 (nI l0) (nI l1) (nI dm) (nI l3)))), (g 38, .inl (cI, 90, .inl ws_2_8)), (g 36, .inl (cZ, 900, .inl yw2_9)), (g 37, .inl (cZ, 900, .inl yo2_10)), (g 43, .inl (cJ, 90, .inr (.inl be2_11))), (g 44, .inl (cJ, 90, .inr (.inl bf2_12))), (g 48, .inl (cJ, 90, .inr (.inl f_77)))]) hx hb hK hP hD hS 13 1 rfl rfl (vin (10 * (dd - 1) + jm) 90 (by omega) (by omega)) (fun _ => rfl) dX12_laysPay_146 (fun f_77 H locs hP hD hS => ?_)
                        refine lv_iinc (v := nI (jm + 1)) (lv' := [(2, .int (nI (jm + 1))), (5, .int (nI kk)), (3, .long mo_), (1, .int (nI (dd - 1))), (0, .ref mm)]) hx hb dX12_laysPay_147 hl (k := 2) rfl (ninc jm 1 (by decide)) (by decide) rfl (fun ls hl => ?_)
                        refine lv_goto (tgt := 17) hx hb dX12_laysPay_150 (by decide) ?_
                        exact ih_lp_22 (jm + 1) am2_72 tk2_70 qp2_71 ql2_73 f_77 _ _ _ (by omega) (by omega) hP hD hS (lv_sub hl [0, 3, 4] rfl)
                      · skip
                        refine lv_ldc2 (v := (-1000000000000000)) hx hb hown (hts _ w_7_184) dX12_laysPay_132 ?_
                        refine lv_goto (tgt := 146) hx hb dX12_laysPay_135 (by decide) ?_
                        refine sk_lastO (ws' := fun f_78 => [(mm, .inr (12, mo g (nI ta) (nI pa) (nI pe) pd (nI pb) pp pf pg pn rt rn (nI cd) sn (nI il) ztkb zamb at_2_4 aa2_5 0 0 (-1) wt wy2_6 0 (nI rm) (nI ud) (nI nu) sd (nI qn) (nI qw) qo (nI qb) (nI zqpb) qa (nI qi) (nI oc))), (g 24, .inl (cI, 6, .inl (l6 u0 u1 u2 u3 u4 u5))), (g 25, .inl (cI, 6, .inl (l6 v0 v1 v2 v3 v4 v5))), (g 26, .inl (cI, 3200, .inl (fun j => nI (cs j)))), (g 31, .inl (cI, 120, .inl nw)), (g 46, .inl (cI, 9, .inl (fun j => nI (pt j)))), (g 86, .inl (cJ, 1700, .inr (.inl zqb))), (g 20, .inl (cI, 4, .inl (l4 (nI l0) (nI l1) (nI dm) (nI l3)))), (g 38, .inl (cI, 90, .inl ws_2_8)), (g 36, .inl (cZ, 900, .inl yw2_9)), (g 37, .inl (cZ, 900, .inl yo2_10)), (g 43, .inl (cJ, 90, .inr (.inl be2_11))), (g 44, .inl (cJ, 90, .inr (.inl bf2_12))), (g 48, .inl (cJ, 90, .inr (.inl f_78)))]) hx hb hK hP hD hS 13 1 rfl rfl (vin (10 * (dd - 1) + jm) 90 (by omega) (by omega)) (fun _ => rfl) dX12_laysPay_146 (fun f_78 H locs hP hD hS => ?_)
                        refine lv_iinc (v := nI (jm + 1)) (lv' := [(2, .int (nI (jm + 1))), (5, .int (nI kk)), (3, .long mo_), (1, .int (nI (dd - 1))), (0, .ref mm)]) hx hb dX12_laysPay_147 hl (k := 2) rfl (ninc jm 1 (by decide)) (by decide) rfl (fun ls hl => ?_)
                        refine lv_goto (tgt := 17) hx hb dX12_laysPay_150 (by decide) ?_
                        exact ih_lp_22 (jm + 1) zamb ztkb zqpb zqb f_78 _ _ _ (by omega) (by omega) hP hD hS (lv_sub hl [0, 3, 4] rfl)
                    · have c_68 : ¬ (10 ≤ kk) := fun h => c_68 ((nle 10 kk (by omega) (by omega)).mpr h)
                      refine lv_iload_n hx hb dX12_laysPay_51 rfl (lv_at hl 3 rfl) ?_
                      refine lv_aload_n hx hb dX12_laysPay_52 rfl (lv_at hl 4 rfl) ?_
                      refine sk_Vi (q0 := 0) (n := 0) (rest := [.int (nI (dd - 1))]) (wr := fmR om_14_2040 _) ⟨hx, hb, hml, hown, hts⟩ hl.1 (c_m_dayMany l D cI cJ cC cZ cS mm g ta pa pe pd pb pp pf pg pn rt rn cd sn il ztkb zamb at_2_4 aa2_5 0 0 (-1) wt wy2_6 0 rm ud nu sd qn qw qo qb zqpb qa qi oc l0 l1 dm l3) w_7_98 w_7_100 w_0_69 w_1_14 w_7_101 hd_X12_dayMany_0 ⟨⟨(Nat.le_of_ble_eq_true rfl), (Nat.le_of_ble_eq_true rfl)⟩, (Nat.le_of_ble_eq_true rfl), (Nat.le_of_ble_eq_true rfl)⟩ hK hP hD hS hA (fmT om_14_2040 0) (fmF om_14_2040 0) (fm_C1 rfl rfl) (fm_R rfl rfl) (fm_nT om_14_2040 0) (fm_nF om_14_2040 0) (fm_di om_14_2040 0) rfl rfl rfl rfl (Nat.le_of_ble_eq_true rfl) dX12_laysPay_53 (fun r_79 u H locs hw hP hD hS => ?_)
                      refine anE hw (fun er_81 eu_80 => ?_)
                      clear hw
                      subst er_81
                      refine o_mgE (ws' := [(mm, .inr (12, mo g (nI ta) (nI pa) (nI pe) pd (nI pb) pp pf pg pn rt rn (nI cd) sn (nI il) ztkb zamb at_2_4 aa2_5 0 0 (-1) wt wy2_6 0 (nI rm) (nI ud) (nI nu) sd (nI qn) (nI qw) qo (nI qb) (nI zqpb) qa (nI qi) (nI oc))), (g 24, .inl (cI, 6, .inl (l6 u0 u1 u2 u3 u4 u5))), (g 25, .inl (cI, 6, .inl (l6 v0 v1 v2 v3 v4 v5))), (g 26, .inl (cI, 3200, .inl (fun j => nI (cs j)))), (g 31, .inl (cI, 120, .inl nw)), (g 46, .inl (cI, 9, .inl (fun j => nI (pt j)))), (g 86, .inl (cJ, 1700, .inr (.inl zqb))), (g 20, .inl (cI, 4, .inl (l4 (nI l0) (nI l1) (nI dm) (nI l3)))), (g 38, .inl (cI, 90, .inl ws_2_8)), (g 36, .inl (cZ, 900, .inl yw2_9)), (g 37, .inl (cZ, 900, .inl yo2_10)), (g 43, .inl (cJ, 90, .inr (.inl be2_11))), (g 44, .inl (cJ, 90, .inr (.inl bf2_12))), (g 48, .inl (cJ, 90, .inr (.inl zpb)))]) eu_80 hP hD rfl (fun hP hD => ?_)
                      refine lv_iconst (v := 1) hx hb dX12_laysPay_56 (by decide) ?_
                      refine lv_isub hx hb dX12_laysPay_57 ?_
                      refine sk_top (nI (dm - 1)) (nsub dm 1 (by omega)) ?_
                      refine lv_icmp_ge (tgt := 114) hx hb dX12_laysPay_58 (by decide) (fun c_82 => ?_) (fun c_82 => ?_)
                      · have c_82 : dm - 1 ≤ dd - 1 := (nle (dm - 1) (dd - 1) (by omega) (by omega)).mp c_82
                        refine lv_aload_n hx hb dX12_laysPay_114 rfl (lv_at hl 4 rfl) ?_
                        refine sk_get (v := .ref (g 48)) (C := RX12) (T := TX12) (N := 92) hx hb hts inlX12 hown hK hP 0 rfl rfl 48 (by decide) w_5_203 rfl dX12_laysPay_115 ?_
                        refine lv_bipush (v := 10) hx hb dX12_laysPay_118 (by decide) ?_
                        refine lv_iload_n hx hb dX12_laysPay_120 rfl (lv_at hl 3 rfl) ?_
                        refine lv_imul hx hb dX12_laysPay_121 ?_
                        refine sk_top (nI (10 * (dd - 1))) (nmul 10 (dd - 1)) ?_
                        refine lv_iload_n hx hb dX12_laysPay_122 rfl (lv_at hl 2 rfl) ?_
                        refine lv_iadd hx hb dX12_laysPay_123 ?_
                        refine sk_top (nI (10 * (dd - 1) + jm)) (nI_add (10 * (dd - 1)) jm) ?_
                        refine lv_lload_n hx hb dX12_laysPay_124 rfl (lv_at hl 1 rfl) ?_
                        refine lv_ldc2 (v := (-1000000000000000)) hx hb hown (hts _ w_7_184) dX12_laysPay_125 ?_
                        refine W.lcmp hx hb dX12_laysPay_128 ?_
                        refine lv_if_ne (tgt := 138) hx hb dX12_laysPay_129 (by decide) (fun c_83 => ?_) (fun c_83 => ?_)
                        · skip
                          refine lv_lload_n hx hb dX12_laysPay_138 rfl (lv_at hl 1 rfl) ?_
                          refine lv_aload_n hx hb dX12_laysPay_139 rfl (lv_at hl 4 rfl) ?_
                          refine lv_iload_n hx hb dX12_laysPay_140 rfl (lv_at hl 3 rfl) ?_
                          refine lv_iload_n hx hb dX12_laysPay_141 rfl (lv_at hl 2 rfl) ?_
                          refine sk_Vl (q0 := 0) (n := 2) (rest := [.long mo_, .int (nI (10 * (dd - 1) + jm)), .ref (g 48)]) (wr := fmR om_14_3f80 _) ⟨hx, hb, hml, hown, hts⟩ hl.1 (c_m_wageOf l D cI cJ cC cZ cS mm g ta pa pe pd pb pp pf pg pn rt rn cd sn il ztkb zamb at_2_4 aa2_5 0 0 (-1) wt wy2_6 0 rm ud nu sd qn qw qo qb zqpb qa qi oc (dd - 1) (nI jm) u0 u1 u2 u3 u4 u5 v0 v1 v2 v3 v4 v5 cs nw pt zqb (by omega) hp2 hcs hnw hpt) w_8_45 w_8_47 w_0_97 w_1_14 w_8_48 hd_X12_wageOf_2 ⟨⟨(Nat.le_of_ble_eq_true rfl), (Nat.le_of_ble_eq_true rfl)⟩, (Nat.le_of_ble_eq_true rfl), (Nat.le_of_ble_eq_true rfl)⟩ hK hP hD hS hA (fmT om_14_3f80 0) (fmF om_14_3f80 0) (fm_C1 rfl rfl) (fm_R rfl rfl) (fm_nT om_14_3f80 0) (fm_nF om_14_3f80 0) (fm_di om_14_3f80 0) rfl rfl rfl rfl (Nat.le_of_ble_eq_true rfl) dX12_laysPay_142 (fun r_88 u H locs hw hP hD hS => ?_)
                          refine exE hw (fun tk2_84 hw1 => exE hw1 (fun qp2_85 hw2 => exE hw2 (fun am2_86 hw3 => exE hw3 (fun ql2_87 eu_89 => ?_))))
                          clear hw hw1 hw2 hw3
                          refine o_mgE (ws' := [(mm, .inr (12, mo g (nI ta) (nI pa) (nI pe) pd (nI pb) pp pf pg pn rt rn (nI cd) sn (nI il) tk2_84 am2_86 at_2_4 aa2_5 0 0 (-1) wt wy2_6 0 (nI rm) (nI ud) (nI nu) sd (nI qn) (nI qw) qo (nI qb) (nI qp2_85) qa (nI qi) (nI oc))), (g 24, .inl (cI, 6, .inl (l6 u0 u1 u2 u3 u4 u5))), (g 25, .inl (cI, 6, .inl (l6 v0 v1 v2 v3 v4 v5))), (g 26, .inl (cI, 3200, .inl (fun j => nI (cs j)))), (g 31, .inl (cI, 120, .inl nw)), (g 46, .inl (cI, 9, .inl (fun j => nI (pt j)))), (g 86, .inl (cJ, 1700, .inr (.inl ql2_87))), (g 20, .inl (cI, 4, .inl (l4 (nI l0) (nI l1) (nI dm) (nI l3)))), (g 38, .inl (cI, 90, .inl ws_2_8)), (g 36, .inl (cZ, 900, .inl yw2_9)), (g 37, .inl (cZ, 900, .inl yo2_10)), (g 43, .inl (cJ, 90, .inr (.inl be2_11))), (g 44, .inl (cJ, 90, .inr (.inl bf2_12))), (g 48, .inl (cJ, 90, .inr (.inl zpb)))]) eu_89 hP hD rfl (fun hP hD => ?_)
                          refine lv_ladd hx hb dX12_laysPay_145 ?_
                          refine lv_topl (fun v_90 ev_90 => ?_)
                          refine sk_lastO (ws' := fun f_91 => [(mm, .inr (12, mo g (nI ta) (nI pa) (nI pe) pd (nI pb) pp pf pg pn rt rn (nI cd) sn (nI il) tk2_84 am2_86 at_2_4 aa2_5 0 0 (-1) wt wy2_6 0 (nI rm) (nI ud) (nI nu) sd (nI qn) (nI qw) qo (nI qb) (nI qp2_85) qa (nI qi) (nI oc))), (g 24, .inl (cI, 6, .inl (l6 u0 u1 u2 u3 u4 u5))), (g 25, .inl (cI, 6, .inl (l6 v0 v1 v2 v3 v4 v5))), (g 26, .inl (cI, 3200, .inl (fun j => nI (cs j)))), (g 31, .inl (cI, 120, .inl nw)), (g 46, .inl (cI, 9, .inl (fun j => nI (pt j)))), (g 86, .inl (cJ, 1700, .inr (.inl ql2_87))), (g 20, .inl (cI, 4, .inl (l4 (nI l0) (nI l1) (nI dm) (nI l3)))), (g 38, .inl (cI, 90, .inl ws_2_8)), (g 36, .inl (cZ, 900, .inl yw2_9)), (g 37, .inl (cZ, 900, .inl yo2_10)), (g 43, .inl (cJ, 90, .inr (.inl be2_11))), (g 44, .inl (cJ, 90, .inr (.inl bf2_12))), (g 48, .inl (cJ, 90, .inr (.inl f_91)))]) hx hb hK hP hD hS 13 1 rfl rfl (vin (10 * (dd - 1) + jm) 90 (by omega) (by omega)) (fun _ => rfl) dX12_laysPay_146 (fun f_91 H locs hP hD hS => ?_)
                          refine lv_iinc (v := nI (jm + 1)) (lv' := [(2, .int (nI (jm + 1))), (5, .int (nI kk)), (3, .long mo_), (1, .int (nI (dd - 1))), (0, .ref mm)]) hx hb dX12_laysPay_147 hl (k := 2) rfl (ninc jm 1 (by decide)) (by decide) rfl (fun ls hl => ?_)
                          refine lv_goto (tgt := 17) hx hb dX12_laysPay_150 (by decide) ?_
                          exact ih_lp_22 (jm + 1) am2_86 tk2_84 qp2_85 ql2_87 f_91 _ _ _ (by omega) (by omega) hP hD hS (lv_sub hl [0, 3, 4] rfl)
                        · skip
                          refine lv_ldc2 (v := (-1000000000000000)) hx hb hown (hts _ w_7_184) dX12_laysPay_132 ?_
                          refine lv_goto (tgt := 146) hx hb dX12_laysPay_135 (by decide) ?_
                          refine sk_lastO (ws' := fun f_92 => [(mm, .inr (12, mo g (nI ta) (nI pa) (nI pe) pd (nI pb) pp pf pg pn rt rn (nI cd) sn (nI il) ztkb zamb at_2_4 aa2_5 0 0 (-1) wt wy2_6 0 (nI rm) (nI ud) (nI nu) sd (nI qn) (nI qw) qo (nI qb) (nI zqpb) qa (nI qi) (nI oc))), (g 24, .inl (cI, 6, .inl (l6 u0 u1 u2 u3 u4 u5))), (g 25, .inl (cI, 6, .inl (l6 v0 v1 v2 v3 v4 v5))), (g 26, .inl (cI, 3200, .inl (fun j => nI (cs j)))), (g 31, .inl (cI, 120, .inl nw)), (g 46, .inl (cI, 9, .inl (fun j => nI (pt j)))), (g 86, .inl (cJ, 1700, .inr (.inl zqb))), (g 20, .inl (cI, 4, .inl (l4 (nI l0) (nI l1) (nI dm) (nI l3)))), (g 38, .inl (cI, 90, .inl ws_2_8)), (g 36, .inl (cZ, 900, .inl yw2_9)), (g 37, .inl (cZ, 900, .inl yo2_10)), (g 43, .inl (cJ, 90, .inr (.inl be2_11))), (g 44, .inl (cJ, 90, .inr (.inl bf2_12))), (g 48, .inl (cJ, 90, .inr (.inl f_92)))]) hx hb hK hP hD hS 13 1 rfl rfl (vin (10 * (dd - 1) + jm) 90 (by omega) (by omega)) (fun _ => rfl) dX12_laysPay_146 (fun f_92 H locs hP hD hS => ?_)
                          refine lv_iinc (v := nI (jm + 1)) (lv' := [(2, .int (nI (jm + 1))), (5, .int (nI kk)), (3, .long mo_), (1, .int (nI (dd - 1))), (0, .ref mm)]) hx hb dX12_laysPay_147 hl (k := 2) rfl (ninc jm 1 (by decide)) (by decide) rfl (fun ls hl => ?_)
                          refine lv_goto (tgt := 17) hx hb dX12_laysPay_150 (by decide) ?_
                          exact ih_lp_22 (jm + 1) zamb ztkb zqpb zqb f_92 _ _ _ (by omega) (by omega) hP hD hS (lv_sub hl [0, 3, 4] rfl)
                      · have c_82 : ¬ (dm - 1 ≤ dd - 1) := fun h => c_82 ((nle (dm - 1) (dd - 1) (by omega) (by omega)).mpr h)
                        refine lv_aload_n hx hb dX12_laysPay_61 rfl (lv_at hl 4 rfl) ?_
                        refine lv_iload_n hx hb dX12_laysPay_62 rfl (lv_at hl 3 rfl) ?_
                        refine lv_iconst (v := 1) hx hb dX12_laysPay_63 (by decide) ?_
                        refine lv_iadd hx hb dX12_laysPay_64 ?_
                        refine sk_top (nI (dd - 1 + 1)) (nI_add (dd - 1) 1) ?_
                        refine lv_iload_n hx hb dX12_laysPay_65 rfl (lv_at hl 2 rfl) ?_
                        refine lv_iload hx hb dX12_laysPay_66 (lv_at hl 0 rfl) ?_
                        refine sk_Vi (q0 := 0) (n := 3) (rest := []) (wr := fmR om_14_2218 _) ⟨hx, hb, hml, hown, hts⟩ hl.1 (c_m_canFollow0 l D cI cJ cC cZ cS mm g ta pa pe pd pb pp pf pg pn rt rn cd sn il ztkb zamb at_2_4 aa2_5 0 wt wy2_6 0 rm ud nu sd qn qw qo qb zqpb qa qi oc (dd - 1 + 1) jm kk nw yo2_10 yw2_9 (by omega) (by omega) (by omega) hnw) w_7_201 w_7_203 w_0_85 w_1_14 w_7_204 hd_X12_canFollow_3 ⟨⟨(Nat.le_of_ble_eq_true rfl), (Nat.le_of_ble_eq_true rfl)⟩, (Nat.le_of_ble_eq_true rfl), (Nat.le_of_ble_eq_true rfl)⟩ hK hP hD hS hA [0, 4, 10, 9] (fmF om_14_2218 0) rfl (fm_R rfl rfl) (by decide +kernel) (fm_nF om_14_2218 0) (by decide +kernel) rfl rfl rfl rfl (Nat.le_of_ble_eq_true rfl) dX12_laysPay_68 (fun r_94 u H locs hw hP hD hS => ?_)
                        refine exE hw (fun b_93 hw1 => anE hw1 (fun hb1_95 hw2 => anE hw2 (fun hb2_96 hw3 => anE hw3 (fun er_98 eu_97 => ?_))))
                        clear hw hw1 hw2 hw3
                        subst er_98
                        refine o_mgqE (ux := [(mm, .inr (12, mo g (nI ta) (nI pa) (nI pe) pd (nI pb) pp pf pg pn rt rn (nI cd) sn (nI il) ztkb zamb at_2_4 aa2_5 0 0 (-1) wt wy2_6 0 (nI rm) (nI ud) (nI nu) sd (nI qn) (nI qw) qo (nI qb) (nI zqpb) qa (nI qi) (nI oc))), (g 31, .inl (cI, 120, .inl nw)), (g 36, .inl (cZ, 900, .inl yw2_9)), (g 37, .inl (cZ, 900, .inl yo2_10))]) (ws' := [(mm, .inr (12, mo g (nI ta) (nI pa) (nI pe) pd (nI pb) pp pf pg pn rt rn (nI cd) sn (nI il) ztkb zamb at_2_4 aa2_5 0 0 (-1) wt wy2_6 0 (nI rm) (nI ud) (nI nu) sd (nI qn) (nI qw) qo (nI qb) (nI zqpb) qa (nI qi) (nI oc))), (g 24, .inl (cI, 6, .inl (l6 u0 u1 u2 u3 u4 u5))), (g 25, .inl (cI, 6, .inl (l6 v0 v1 v2 v3 v4 v5))), (g 26, .inl (cI, 3200, .inl (fun j => nI (cs j)))), (g 31, .inl (cI, 120, .inl nw)), (g 46, .inl (cI, 9, .inl (fun j => nI (pt j)))), (g 86, .inl (cJ, 1700, .inr (.inl zqb))), (g 20, .inl (cI, 4, .inl (l4 (nI l0) (nI l1) (nI dm) (nI l3)))), (g 38, .inl (cI, 90, .inl ws_2_8)), (g 36, .inl (cZ, 900, .inl yw2_9)), (g 37, .inl (cZ, 900, .inl yo2_10)), (g 43, .inl (cJ, 90, .inr (.inl be2_11))), (g 44, .inl (cJ, 90, .inr (.inl bf2_12))), (g 48, .inl (cJ, 90, .inr (.inl zpb)))]) eu_97 [0, 1, 3, 2] (by decide +kernel) rfl hP hD rfl (fun hP hD => ?_)
                        refine lv_if_eq (tgt := 108) hx hb dX12_laysPay_71 (by decide) (fun c_99 => ?_) (fun c_99 => ?_)
                        · have c_99 : b_93 = 0 := (neq b_93 0 (by omega) (by omega)).mp c_99
                          refine lv_iinc (v := nI (kk + 1)) (lv' := [(5, .int (nI (kk + 1))), (3, .long mo_), (2, .int (nI jm)), (1, .int (nI (dd - 1))), (0, .ref mm)]) hx hb dX12_laysPay_108 hl (k := 0) rfl (ninc kk 1 (by decide)) (by decide) rfl (fun ls hl => ?_)
                          refine lv_goto (tgt := 44) hx hb dX12_laysPay_111 (by decide) ?_
                          exact ih_lp_66 (kk + 1) mo_ _ _ _ (by omega) (by omega) hP hD hS (lv_sub hl [0, 1, 2, 3, 4] rfl)
                        · have c_99 : ¬ (b_93 = 0) := fun h => c_99 ((neq b_93 0 (by omega) (by omega)).mpr h)
                          refine lv_aload_n hx hb dX12_laysPay_74 rfl (lv_at hl 4 rfl) ?_
                          refine sk_get (v := .ref (g 48)) (C := RX12) (T := TX12) (N := 92) hx hb hts inlX12 hown hK hP 0 rfl rfl 48 (by decide) w_5_203 rfl dX12_laysPay_75 ?_
                          refine lv_bipush (v := 10) hx hb dX12_laysPay_78 (by decide) ?_
                          refine lv_iload_n hx hb dX12_laysPay_80 rfl (lv_at hl 3 rfl) ?_
                          refine lv_iconst (v := 1) hx hb dX12_laysPay_81 (by decide) ?_
                          refine lv_iadd hx hb dX12_laysPay_82 ?_
                          refine sk_top (nI (dd - 1 + 1)) (nI_add (dd - 1) 1) ?_
                          refine lv_imul hx hb dX12_laysPay_83 ?_
                          refine sk_top (nI (10 * (dd - 1 + 1))) (nmul 10 (dd - 1 + 1)) ?_
                          refine lv_iload hx hb dX12_laysPay_84 (lv_at hl 0 rfl) ?_
                          refine lv_iadd hx hb dX12_laysPay_86 ?_
                          refine sk_top (nI (10 * (dd - 1 + 1) + kk)) (nI_add (10 * (dd - 1 + 1)) kk) ?_
                          refine va_lald hx hb hK.1 hP 13 1 rfl rfl (vin (10 * (dd - 1 + 1) + kk) 90 (by omega) (by omega)) dX12_laysPay_87 ?_
                          refine lv_topl (fun v_100 ev_100 => ?_)
                          refine lv_lload_n hx hb dX12_laysPay_88 rfl (lv_at hl 1 rfl) ?_
                          refine W.lcmp hx hb dX12_laysPay_89 ?_
                          refine lv_if_le (tgt := 108) hx hb dX12_laysPay_90 (by decide) (fun c_101 => ?_) (fun c_101 => ?_)
                          · skip
                            refine lv_iinc (v := nI (kk + 1)) (lv' := [(5, .int (nI (kk + 1))), (3, .long mo_), (2, .int (nI jm)), (1, .int (nI (dd - 1))), (0, .ref mm)]) hx hb dX12_laysPay_108 hl (k := 0) rfl (ninc kk 1 (by decide)) (by decide) rfl (fun ls hl => ?_)
                            refine lv_goto (tgt := 44) hx hb dX12_laysPay_111 (by decide) ?_
                            exact ih_lp_66 (kk + 1) mo_ _ _ _ (by omega) (by omega) hP hD hS (lv_sub hl [0, 1, 2, 3, 4] rfl)
                          · skip
                            refine lv_aload_n hx hb dX12_laysPay_93 rfl (lv_at hl 4 rfl) ?_
                            refine sk_get (v := .ref (g 48)) (C := RX12) (T := TX12) (N := 92) hx hb hts inlX12 hown hK hP 0 rfl rfl 48 (by decide) w_5_203 rfl dX12_laysPay_94 ?_
                            refine lv_bipush (v := 10) hx hb dX12_laysPay_97 (by decide) ?_
                            refine lv_iload_n hx hb dX12_laysPay_99 rfl (lv_at hl 3 rfl) ?_
                            refine lv_iconst (v := 1) hx hb dX12_laysPay_100 (by decide) ?_
                            refine lv_iadd hx hb dX12_laysPay_101 ?_
                            refine sk_top (nI (dd - 1 + 1)) (nI_add (dd - 1) 1) ?_
                            refine lv_imul hx hb dX12_laysPay_102 ?_
                            refine sk_top (nI (10 * (dd - 1 + 1))) (nmul 10 (dd - 1 + 1)) ?_
                            refine lv_iload hx hb dX12_laysPay_103 (lv_at hl 0 rfl) ?_
                            refine lv_iadd hx hb dX12_laysPay_105 ?_
                            refine sk_top (nI (10 * (dd - 1 + 1) + kk)) (nI_add (10 * (dd - 1 + 1)) kk) ?_
                            refine va_lald hx hb hK.1 hP 13 1 rfl rfl (vin (10 * (dd - 1 + 1) + kk) 90 (by omega) (by omega)) dX12_laysPay_106 ?_
                            refine lv_topl (fun v_102 ev_102 => ?_)
                            refine lv_lstore_n (lv' := [(3, .long v_102), (5, .int (nI kk)), (2, .int (nI jm)), (1, .int (nI (dd - 1))), (0, .ref mm)]) hx hb dX12_laysPay_107 rfl hl (by decide) rfl (fun ls hl => ?_)
                            refine lv_iinc (v := nI (kk + 1)) (lv' := [(5, .int (nI (kk + 1))), (3, .long v_102), (2, .int (nI jm)), (1, .int (nI (dd - 1))), (0, .ref mm)]) hx hb dX12_laysPay_108 hl (k := 1) rfl (ninc kk 1 (by decide)) (by decide) rfl (fun ls hl => ?_)
                            refine lv_goto (tgt := 44) hx hb dX12_laysPay_111 (by decide) ?_
                            exact ih_lp_66 (kk + 1) v_102 _ _ _ (by omega) (by omega) hP hD hS (lv_sub hl [0, 1, 2, 3, 4] rfl)
                exact lp_66 (10 - 0 + 1) 0 0 _ _ _ (Nat.lt_succ_self _) (by omega) hP hD hS (lv_sub hl [0, 1, 2, 3, 4] rfl)
        exact lp_22 (10 - 0 + 1) 0 zama ztka zqpa zqa zpa _ _ _ (Nat.lt_succ_self _) (by omega) hP hD hS (lv_sub hl [0, 1, 2] rfl)
  exact lp_19 (dm + 1) dm am2_3 tk2_1 qp2_2 ql2_7 py _ _ _ (Nat.lt_succ_self _) (by omega) hP hD hS (lv_sub hl [0, 1] rfl)
