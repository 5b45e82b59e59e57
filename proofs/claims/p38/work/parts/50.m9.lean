theorem dg_X12_laysPay_0_0 : bqL cX12_laysPay 0 [(0, [42]), (1, [182, 1, 144]), (4, [42]), (5, [182, 1, 59]), (8, [4]), (9, [100]), (10, [60]), (11, [27]), (12, [155, 0, 147]), (159, [177]), (15, [3]), (16, [61]), (17, [28]), (18, [16, 10]), (20, [162, 0, 133]), (153, [132, 1, 255]), (156, [167, 255, 111]), (23, [27]), (24, [42]), (25, [182, 1, 59]), (28, [4]), (29, [100]), (30, [160, 0, 7]), (37, [20, 1, 165]), (40, [66]), (41, [3]), (42, [54, 5]), (44, [21, 5]), (46, [16, 10]), (48, [162, 0, 66]), (114, [42]), (115, [180, 0, 92]), (118, [16, 10]), (120, [27]), (121, [104]), (122, [28]), (123, [96]), (124, [33]), (125, [20, 1, 165]), (128, [148])] = true := by decide +kernel
theorem dX12_laysPay_0 : decode cX12_laysPay 0 = .ok (.aload_n 0, 1) := q_aload_n0 (bat_get dg_X12_laysPay_0_0 0 rfl rfl)
theorem dX12_laysPay_1 : decode cX12_laysPay 1 = .ok (.invokevirtual 400, 3) := q_invokevirtual (bat_get dg_X12_laysPay_0_0 1 rfl rfl) rfl
theorem dX12_laysPay_4 : decode cX12_laysPay 4 = .ok (.aload_n 0, 1) := q_aload_n0 (bat_get dg_X12_laysPay_0_0 2 rfl rfl)
theorem dX12_laysPay_5 : decode cX12_laysPay 5 = .ok (.invokevirtual 315, 3) := q_invokevirtual (bat_get dg_X12_laysPay_0_0 3 rfl rfl) rfl
theorem dX12_laysPay_8 : decode cX12_laysPay 8 = .ok (.iconst 1, 1) := q_iconst1 (bat_get dg_X12_laysPay_0_0 4 rfl rfl)
theorem dX12_laysPay_9 : decode cX12_laysPay 9 = .ok (.isub, 1) := q_isub (bat_get dg_X12_laysPay_0_0 5 rfl rfl)
theorem dX12_laysPay_10 : decode cX12_laysPay 10 = .ok (.istore_n 1, 1) := q_istore_n1 (bat_get dg_X12_laysPay_0_0 6 rfl rfl)
theorem dX12_laysPay_11 : decode cX12_laysPay 11 = .ok (.iload_n 1, 1) := q_iload_n1 (bat_get dg_X12_laysPay_0_0 7 rfl rfl)
theorem dX12_laysPay_12 : decode cX12_laysPay 12 = .ok (.ifCond .lt 147, 3) := q_ifCond_lt (bat_get dg_X12_laysPay_0_0 8 rfl rfl) rfl
theorem dX12_laysPay_159 : decode cX12_laysPay 159 = .ok (.return_, 1) := q_return_ (bat_get dg_X12_laysPay_0_0 9 rfl rfl)
theorem dX12_laysPay_15 : decode cX12_laysPay 15 = .ok (.iconst 0, 1) := q_iconst0 (bat_get dg_X12_laysPay_0_0 10 rfl rfl)
theorem dX12_laysPay_16 : decode cX12_laysPay 16 = .ok (.istore_n 2, 1) := q_istore_n2 (bat_get dg_X12_laysPay_0_0 11 rfl rfl)
theorem dX12_laysPay_17 : decode cX12_laysPay 17 = .ok (.iload_n 2, 1) := q_iload_n2 (bat_get dg_X12_laysPay_0_0 12 rfl rfl)
theorem dX12_laysPay_18 : decode cX12_laysPay 18 = .ok (.bipush 10, 2) := q_bipush (bat_get dg_X12_laysPay_0_0 13 rfl rfl) rfl
theorem dX12_laysPay_20 : decode cX12_laysPay 20 = .ok (.if_icmp .ge 133, 3) := q_if_icmp_ge (bat_get dg_X12_laysPay_0_0 14 rfl rfl) rfl
theorem dX12_laysPay_153 : decode cX12_laysPay 153 = .ok (.iinc 1 (-1), 3) := q_iinc (bat_get dg_X12_laysPay_0_0 15 rfl rfl) rfl
theorem dX12_laysPay_156 : decode cX12_laysPay 156 = .ok (.goto (-145), 3) := q_goto (bat_get dg_X12_laysPay_0_0 16 rfl rfl) rfl
theorem dX12_laysPay_23 : decode cX12_laysPay 23 = .ok (.iload_n 1, 1) := q_iload_n1 (bat_get dg_X12_laysPay_0_0 17 rfl rfl)
theorem dX12_laysPay_24 : decode cX12_laysPay 24 = .ok (.aload_n 0, 1) := q_aload_n0 (bat_get dg_X12_laysPay_0_0 18 rfl rfl)
theorem dX12_laysPay_25 : decode cX12_laysPay 25 = .ok (.invokevirtual 315, 3) := q_invokevirtual (bat_get dg_X12_laysPay_0_0 19 rfl rfl) rfl
theorem dX12_laysPay_28 : decode cX12_laysPay 28 = .ok (.iconst 1, 1) := q_iconst1 (bat_get dg_X12_laysPay_0_0 20 rfl rfl)
theorem dX12_laysPay_29 : decode cX12_laysPay 29 = .ok (.isub, 1) := q_isub (bat_get dg_X12_laysPay_0_0 21 rfl rfl)
theorem dX12_laysPay_30 : decode cX12_laysPay 30 = .ok (.if_icmp .ne 7, 3) := q_if_icmp_ne (bat_get dg_X12_laysPay_0_0 22 rfl rfl) rfl
theorem dX12_laysPay_37 : decode cX12_laysPay 37 = .ok (.ldc2_w 421, 3) := q_ldc2_w (bat_get dg_X12_laysPay_0_0 23 rfl rfl) rfl
theorem dX12_laysPay_40 : decode cX12_laysPay 40 = .ok (.lstore_n 3, 1) := q_lstore_n3 (bat_get dg_X12_laysPay_0_0 24 rfl rfl)
theorem dX12_laysPay_41 : decode cX12_laysPay 41 = .ok (.iconst 0, 1) := q_iconst0 (bat_get dg_X12_laysPay_0_0 25 rfl rfl)
theorem dX12_laysPay_42 : decode cX12_laysPay 42 = .ok (.istore 5, 2) := q_istore (bat_get dg_X12_laysPay_0_0 26 rfl rfl)
theorem dX12_laysPay_44 : decode cX12_laysPay 44 = .ok (.iload 5, 2) := q_iload (bat_get dg_X12_laysPay_0_0 27 rfl rfl)
theorem dX12_laysPay_46 : decode cX12_laysPay 46 = .ok (.bipush 10, 2) := q_bipush (bat_get dg_X12_laysPay_0_0 28 rfl rfl) rfl
theorem dX12_laysPay_48 : decode cX12_laysPay 48 = .ok (.if_icmp .ge 66, 3) := q_if_icmp_ge (bat_get dg_X12_laysPay_0_0 29 rfl rfl) rfl
theorem dX12_laysPay_114 : decode cX12_laysPay 114 = .ok (.aload_n 0, 1) := q_aload_n0 (bat_get dg_X12_laysPay_0_0 30 rfl rfl)
theorem dX12_laysPay_115 : decode cX12_laysPay 115 = .ok (.getfield 92, 3) := q_getfield (bat_get dg_X12_laysPay_0_0 31 rfl rfl) rfl
theorem dX12_laysPay_118 : decode cX12_laysPay 118 = .ok (.bipush 10, 2) := q_bipush (bat_get dg_X12_laysPay_0_0 32 rfl rfl) rfl
theorem dX12_laysPay_120 : decode cX12_laysPay 120 = .ok (.iload_n 1, 1) := q_iload_n1 (bat_get dg_X12_laysPay_0_0 33 rfl rfl)
theorem dX12_laysPay_121 : decode cX12_laysPay 121 = .ok (.imul, 1) := q_imul (bat_get dg_X12_laysPay_0_0 34 rfl rfl)
theorem dX12_laysPay_122 : decode cX12_laysPay 122 = .ok (.iload_n 2, 1) := q_iload_n2 (bat_get dg_X12_laysPay_0_0 35 rfl rfl)
theorem dX12_laysPay_123 : decode cX12_laysPay 123 = .ok (.iadd, 1) := q_iadd (bat_get dg_X12_laysPay_0_0 36 rfl rfl)
theorem dX12_laysPay_124 : decode cX12_laysPay 124 = .ok (.lload_n 3, 1) := q_lload_n3 (bat_get dg_X12_laysPay_0_0 37 rfl rfl)
theorem dX12_laysPay_125 : decode cX12_laysPay 125 = .ok (.ldc2_w 421, 3) := q_ldc2_w (bat_get dg_X12_laysPay_0_0 38 rfl rfl) rfl
theorem dX12_laysPay_128 : decode cX12_laysPay 128 = .ok (.lcmp, 1) := q_lcmp (bat_get dg_X12_laysPay_0_0 39 rfl rfl)
theorem dg_X12_laysPay_51_129 : bqL cX12_laysPay 51 [(78, [154, 0, 9]), (87, [33]), (88, [42]), (89, [27]), (90, [28]), (91, [182, 1, 183]), (94, [97]), (95, [80]), (96, [132, 2, 1]), (99, [167, 255, 123]), (81, [20, 1, 165]), (84, [167, 0, 11]), (0, [27]), (1, [42]), (2, [182, 1, 59]), (5, [4]), (6, [100]), (7, [162, 0, 56]), (10, [42]), (11, [27]), (12, [4]), (13, [96]), (14, [28]), (15, [21, 5]), (17, [182, 1, 122]), (20, [153, 0, 37]), (57, [132, 5, 1]), (60, [167, 255, 189]), (23, [42]), (24, [180, 0, 92]), (27, [16, 10]), (29, [27]), (30, [4]), (31, [96]), (32, [104]), (33, [21, 5]), (35, [96]), (36, [47]), (37, [33]), (38, [148])] = true := by decide +kernel
theorem dX12_laysPay_129 : decode cX12_laysPay 129 = .ok (.ifCond .ne 9, 3) := q_ifCond_ne (bat_get dg_X12_laysPay_51_129 0 rfl rfl) rfl
theorem dX12_laysPay_138 : decode cX12_laysPay 138 = .ok (.lload_n 3, 1) := q_lload_n3 (bat_get dg_X12_laysPay_51_129 1 rfl rfl)
theorem dX12_laysPay_139 : decode cX12_laysPay 139 = .ok (.aload_n 0, 1) := q_aload_n0 (bat_get dg_X12_laysPay_51_129 2 rfl rfl)
theorem dX12_laysPay_140 : decode cX12_laysPay 140 = .ok (.iload_n 1, 1) := q_iload_n1 (bat_get dg_X12_laysPay_51_129 3 rfl rfl)
theorem dX12_laysPay_141 : decode cX12_laysPay 141 = .ok (.iload_n 2, 1) := q_iload_n2 (bat_get dg_X12_laysPay_51_129 4 rfl rfl)
theorem dX12_laysPay_142 : decode cX12_laysPay 142 = .ok (.invokevirtual 439, 3) := q_invokevirtual (bat_get dg_X12_laysPay_51_129 5 rfl rfl) rfl
theorem dX12_laysPay_145 : decode cX12_laysPay 145 = .ok (.ladd, 1) := q_ladd (bat_get dg_X12_laysPay_51_129 6 rfl rfl)
theorem dX12_laysPay_146 : decode cX12_laysPay 146 = .ok (.lastore, 1) := q_lastore (bat_get dg_X12_laysPay_51_129 7 rfl rfl)
theorem dX12_laysPay_147 : decode cX12_laysPay 147 = .ok (.iinc 2 1, 3) := q_iinc (bat_get dg_X12_laysPay_51_129 8 rfl rfl) rfl
theorem dX12_laysPay_150 : decode cX12_laysPay 150 = .ok (.goto (-133), 3) := q_goto (bat_get dg_X12_laysPay_51_129 9 rfl rfl) rfl
theorem dX12_laysPay_132 : decode cX12_laysPay 132 = .ok (.ldc2_w 421, 3) := q_ldc2_w (bat_get dg_X12_laysPay_51_129 10 rfl rfl) rfl
theorem dX12_laysPay_135 : decode cX12_laysPay 135 = .ok (.goto 11, 3) := q_goto (bat_get dg_X12_laysPay_51_129 11 rfl rfl) rfl
theorem dX12_laysPay_51 : decode cX12_laysPay 51 = .ok (.iload_n 1, 1) := q_iload_n1 (bat_get dg_X12_laysPay_51_129 12 rfl rfl)
theorem dX12_laysPay_52 : decode cX12_laysPay 52 = .ok (.aload_n 0, 1) := q_aload_n0 (bat_get dg_X12_laysPay_51_129 13 rfl rfl)
theorem dX12_laysPay_53 : decode cX12_laysPay 53 = .ok (.invokevirtual 315, 3) := q_invokevirtual (bat_get dg_X12_laysPay_51_129 14 rfl rfl) rfl
theorem dX12_laysPay_56 : decode cX12_laysPay 56 = .ok (.iconst 1, 1) := q_iconst1 (bat_get dg_X12_laysPay_51_129 15 rfl rfl)
theorem dX12_laysPay_57 : decode cX12_laysPay 57 = .ok (.isub, 1) := q_isub (bat_get dg_X12_laysPay_51_129 16 rfl rfl)
theorem dX12_laysPay_58 : decode cX12_laysPay 58 = .ok (.if_icmp .ge 56, 3) := q_if_icmp_ge (bat_get dg_X12_laysPay_51_129 17 rfl rfl) rfl
theorem dX12_laysPay_61 : decode cX12_laysPay 61 = .ok (.aload_n 0, 1) := q_aload_n0 (bat_get dg_X12_laysPay_51_129 18 rfl rfl)
theorem dX12_laysPay_62 : decode cX12_laysPay 62 = .ok (.iload_n 1, 1) := q_iload_n1 (bat_get dg_X12_laysPay_51_129 19 rfl rfl)
theorem dX12_laysPay_63 : decode cX12_laysPay 63 = .ok (.iconst 1, 1) := q_iconst1 (bat_get dg_X12_laysPay_51_129 20 rfl rfl)
theorem dX12_laysPay_64 : decode cX12_laysPay 64 = .ok (.iadd, 1) := q_iadd (bat_get dg_X12_laysPay_51_129 21 rfl rfl)
theorem dX12_laysPay_65 : decode cX12_laysPay 65 = .ok (.iload_n 2, 1) := q_iload_n2 (bat_get dg_X12_laysPay_51_129 22 rfl rfl)
theorem dX12_laysPay_66 : decode cX12_laysPay 66 = .ok (.iload 5, 2) := q_iload (bat_get dg_X12_laysPay_51_129 23 rfl rfl)
theorem dX12_laysPay_68 : decode cX12_laysPay 68 = .ok (.invokevirtual 378, 3) := q_invokevirtual (bat_get dg_X12_laysPay_51_129 24 rfl rfl) rfl
theorem dX12_laysPay_71 : decode cX12_laysPay 71 = .ok (.ifCond .eq 37, 3) := q_ifCond_eq (bat_get dg_X12_laysPay_51_129 25 rfl rfl) rfl
theorem dX12_laysPay_108 : decode cX12_laysPay 108 = .ok (.iinc 5 1, 3) := q_iinc (bat_get dg_X12_laysPay_51_129 26 rfl rfl) rfl
theorem dX12_laysPay_111 : decode cX12_laysPay 111 = .ok (.goto (-67), 3) := q_goto (bat_get dg_X12_laysPay_51_129 27 rfl rfl) rfl
theorem dX12_laysPay_74 : decode cX12_laysPay 74 = .ok (.aload_n 0, 1) := q_aload_n0 (bat_get dg_X12_laysPay_51_129 28 rfl rfl)
theorem dX12_laysPay_75 : decode cX12_laysPay 75 = .ok (.getfield 92, 3) := q_getfield (bat_get dg_X12_laysPay_51_129 29 rfl rfl) rfl
theorem dX12_laysPay_78 : decode cX12_laysPay 78 = .ok (.bipush 10, 2) := q_bipush (bat_get dg_X12_laysPay_51_129 30 rfl rfl) rfl
theorem dX12_laysPay_80 : decode cX12_laysPay 80 = .ok (.iload_n 1, 1) := q_iload_n1 (bat_get dg_X12_laysPay_51_129 31 rfl rfl)
theorem dX12_laysPay_81 : decode cX12_laysPay 81 = .ok (.iconst 1, 1) := q_iconst1 (bat_get dg_X12_laysPay_51_129 32 rfl rfl)
theorem dX12_laysPay_82 : decode cX12_laysPay 82 = .ok (.iadd, 1) := q_iadd (bat_get dg_X12_laysPay_51_129 33 rfl rfl)
theorem dX12_laysPay_83 : decode cX12_laysPay 83 = .ok (.imul, 1) := q_imul (bat_get dg_X12_laysPay_51_129 34 rfl rfl)
theorem dX12_laysPay_84 : decode cX12_laysPay 84 = .ok (.iload 5, 2) := q_iload (bat_get dg_X12_laysPay_51_129 35 rfl rfl)
theorem dX12_laysPay_86 : decode cX12_laysPay 86 = .ok (.iadd, 1) := q_iadd (bat_get dg_X12_laysPay_51_129 36 rfl rfl)
theorem dX12_laysPay_87 : decode cX12_laysPay 87 = .ok (.laload, 1) := q_laload (bat_get dg_X12_laysPay_51_129 37 rfl rfl)
theorem dX12_laysPay_88 : decode cX12_laysPay 88 = .ok (.lload_n 3, 1) := q_lload_n3 (bat_get dg_X12_laysPay_51_129 38 rfl rfl)
theorem dX12_laysPay_89 : decode cX12_laysPay 89 = .ok (.lcmp, 1) := q_lcmp (bat_get dg_X12_laysPay_51_129 39 rfl rfl)
theorem dg_X12_laysPay_33_90 : bqL cX12_laysPay 33 [(57, [158, 0, 18]), (60, [42]), (61, [180, 0, 92]), (64, [16, 10]), (66, [27]), (67, [4]), (68, [96]), (69, [104]), (70, [21, 5]), (72, [96]), (73, [47]), (74, [66]), (0, [9]), (1, [167, 0, 6])] = true := by decide +kernel
theorem dX12_laysPay_90 : decode cX12_laysPay 90 = .ok (.ifCond .le 18, 3) := q_ifCond_le (bat_get dg_X12_laysPay_33_90 0 rfl rfl) rfl
theorem dX12_laysPay_93 : decode cX12_laysPay 93 = .ok (.aload_n 0, 1) := q_aload_n0 (bat_get dg_X12_laysPay_33_90 1 rfl rfl)
theorem dX12_laysPay_94 : decode cX12_laysPay 94 = .ok (.getfield 92, 3) := q_getfield (bat_get dg_X12_laysPay_33_90 2 rfl rfl) rfl
theorem dX12_laysPay_97 : decode cX12_laysPay 97 = .ok (.bipush 10, 2) := q_bipush (bat_get dg_X12_laysPay_33_90 3 rfl rfl) rfl
theorem dX12_laysPay_99 : decode cX12_laysPay 99 = .ok (.iload_n 1, 1) := q_iload_n1 (bat_get dg_X12_laysPay_33_90 4 rfl rfl)
theorem dX12_laysPay_100 : decode cX12_laysPay 100 = .ok (.iconst 1, 1) := q_iconst1 (bat_get dg_X12_laysPay_33_90 5 rfl rfl)
theorem dX12_laysPay_101 : decode cX12_laysPay 101 = .ok (.iadd, 1) := q_iadd (bat_get dg_X12_laysPay_33_90 6 rfl rfl)
theorem dX12_laysPay_102 : decode cX12_laysPay 102 = .ok (.imul, 1) := q_imul (bat_get dg_X12_laysPay_33_90 7 rfl rfl)
theorem dX12_laysPay_103 : decode cX12_laysPay 103 = .ok (.iload 5, 2) := q_iload (bat_get dg_X12_laysPay_33_90 8 rfl rfl)
theorem dX12_laysPay_105 : decode cX12_laysPay 105 = .ok (.iadd, 1) := q_iadd (bat_get dg_X12_laysPay_33_90 9 rfl rfl)
theorem dX12_laysPay_106 : decode cX12_laysPay 106 = .ok (.laload, 1) := q_laload (bat_get dg_X12_laysPay_33_90 10 rfl rfl)
theorem dX12_laysPay_107 : decode cX12_laysPay 107 = .ok (.lstore_n 3, 1) := q_lstore_n3 (bat_get dg_X12_laysPay_33_90 11 rfl rfl)
theorem dX12_laysPay_33 : decode cX12_laysPay 33 = .ok (.lconst 0, 1) := q_lconst0 (bat_get dg_X12_laysPay_33_90 12 rfl rfl)
theorem dX12_laysPay_34 : decode cX12_laysPay 34 = .ok (.goto 6, 3) := q_goto (bat_get dg_X12_laysPay_33_90 13 rfl rfl) rfl
theorem w_5_203 : (Cond.fieldLink RX12 92 "SameKeeperModel" "pays" "[J") ∈ wsL_law := sk_mem (ck_5 _ (List.mem_of_getElem? (i := 203) rfl)) rfl
theorem w_8_45 : (Cond.methodLink RX12 439 yX12_wageOf) ∈ wsL_law := sk_mem (ck_8 _ (List.mem_of_getElem? (i := 45) rfl)) rfl
theorem w_8_47 : (Cond.instanceMethod yX12_wageOf) ∈ wsL_law := sk_mem (ck_8 _ (List.mem_of_getElem? (i := 47) rfl)) rfl
theorem w_0_97 : (Cond.selects RX12 yX12_wageOf yX12_wageOf) ∈ wsL_law := sk_mem (ck_0 _ (List.mem_of_getElem? (i := 97) rfl)) rfl
theorem w_8_44 : (Cond.code yX12_laysPay cX12_laysPay 6 none) ∈ wsL_law := sk_mem (ck_8 _ (List.mem_of_getElem? (i := 44) rfl)) rfl
def om_14_3ffe : List Bool := true :: true :: true :: true :: true :: true :: true :: true :: true :: true :: true :: true :: true :: false :: []
def om_14_2040 : List Bool := true :: false :: false :: false :: false :: false :: false :: true :: false :: false :: false :: false :: false :: false :: []
def om_14_3f80 : List Bool := true :: true :: true :: true :: true :: true :: true :: false :: false :: false :: false :: false :: false :: false :: []
def om_14_2218 : List Bool := true :: false :: false :: false :: true :: false :: false :: false :: false :: true :: true :: false :: false :: false :: []
theorem hd_X12_wageOf_2 : skD yX12_wageOf 2 := by decide +kernel
set_option maxHeartbeats 4000000 in
set_option maxRecDepth 100000 in
theorem c_m_laysPay (l : Launch) (D : va_G) (cI cJ cC cZ cS : ClassId) (mm : Nat) (g : Nat → Nat) (ta : Nat) (pa : Nat) (pe : Nat) (pd : Int32) (pb : Nat) (pp : Int32) (pf : Int32) (pg : Int32) (pn : Int32) (rt : Int32) (rn : Int32) (cd : Nat) (sn : Int32) (il : Nat) (tk : Int32) (am : Int32) (at_ : Int32) (aa : Int32) (wt : Int32) (wy : Int64) (rm : Nat) (ud : Nat) (nu : Nat) (sd : Int64) (qn : Nat) (qw : Nat) (qo : Int32) (qb : Nat) (qp : Nat) (qa : Int64) (qi : Nat) (oc : Nat) (u0 : Int32) (u1 : Int32) (u2 : Int32) (u3 : Int32) (u4 : Int32) (u5 : Int32) (v0 : Int32) (v1 : Int32) (v2 : Int32) (v3 : Int32) (v4 : Int32) (v5 : Int32) (cs : Nat → Nat) (nw : Nat → Int32) (pt : Nat → Nat) (ql : Nat → Int64) (l0 : Nat) (l1 : Nat) (dm : Nat) (l3 : Nat) (ws_ : Nat → Int32) (yw : Nat → Int32) (yo : Nat → Int32) (be : Nat → Int64) (bf : Nat → Int64) (py : Nat → Int64) (hdm : dm ≤ 9) (hdm1 : 1 ≤ dm) (hp0 : progOk cs u3 v3) (hp1 : progOk cs u4 v4) (hp2 : progOk cs u5 v5) (hcs : ∀ j, cs j ≤ 20000) (hnw : nowOk nw) (hpt : ∀ j, pt j ≤ 9) : skM l yX12_laysPay cX12_laysPay 6 none 6 142 0 0 D (skT cI cJ cC cZ cS) [.ref mm] [ro_ mm 12 (mo g (nI ta) (nI pa) (nI pe) pd (nI pb) pp pf pg pn rt rn (nI cd) sn (nI il) tk am at_ aa 0 0 (-1) wt wy 0 (nI rm) (nI ud) (nI nu) sd (nI qn) (nI qw) qo (nI qb) (nI qp) qa (nI qi) (nI oc)), ra_I (g 24) cI 6 (l6 u0 u1 u2 u3 u4 u5), ra_I (g 25) cI 6 (l6 v0 v1 v2 v3 v4 v5), ra_N (g 26) cI 3200 cs, ra_I (g 31) cI 120 nw, ra_N (g 46) cI 9 pt, ra_J (g 86) cJ 1700 ql, ra_I (g 20) cI 4 (l4 (nI l0) (nI l1) (nI dm) (nI l3)), ra_I (g 38) cI 90 ws_, ra_I (g 36) cZ 900 yw, ra_I (g 37) cZ 900 yo, ra_J (g 43) cJ 90 be, ra_J (g 44) cJ 90 bf, ra_J (g 48) cJ 90 py] (skV D (skT cI cJ cC cZ cS) (fun (u : va_W) => ∃ (tk2 : Int32), ∃ (qp2 : Nat), ∃ (am2 : Int32), ∃ (at_2 : Int32), ∃ (aa2 : Int32), ∃ (wy2 : Int64), ∃ (ql2 : Nat → Int64), ∃ (ws_2 : Nat → Int32), ∃ (yw2 : Nat → Int32), ∃ (yo2 : Nat → Int32), ∃ (be2 : Nat → Int64), ∃ (bf2 : Nat → Int64), ∃ (py2 : Nat → Int64), u = [ro_ mm 12 (mo g (nI ta) (nI pa) (nI pe) pd (nI pb) pp pf pg pn rt rn (nI cd) sn (nI il) tk2 am2 at_2 aa2 0 0 (-1) wt wy2 0 (nI rm) (nI ud) (nI nu) sd (nI qn) (nI qw) qo (nI qb) (nI qp2) qa (nI qi) (nI oc)), ra_I (g 24) cI 6 (l6 u0 u1 u2 u3 u4 u5), ra_I (g 25) cI 6 (l6 v0 v1 v2 v3 v4 v5), ra_N (g 26) cI 3200 cs, ra_I (g 31) cI 120 nw, ra_N (g 46) cI 9 pt, ra_J (g 86) cJ 1700 ql2, ra_I (g 20) cI 4 (l4 (nI l0) (nI l1) (nI dm) (nI l3)), ra_I (g 38) cI 90 ws_2, ra_I (g 36) cZ 900 yw2, ra_I (g 37) cZ 900 yo2, ra_J (g 43) cJ 90 be2, ra_J (g 44) cJ 90 bf2, ra_J (g 48) cJ 90 py2])) := by
  refine skM_of pf_X12_laysPay (Nat.le_of_ble_eq_true rfl) ?_
  intro p e s m below meth c A ls E hP hD hl
  refine skE_el E (fun hx hb hr hml hlocks hin hown hts hK hA => ?_)
  have hown : s.vm.findClass RX12 = some m.cls := hown
  have hS : va_S A s.heap s.heap [] := va_S.rf
  have hl : lv_has ls 6 [(0, .ref mm)] := hl
  refine lv_aload_n hx hb dX12_laysPay_0 rfl (lv_at hl 0 rfl) ?_
  refine sk_Vv (q0 := 0) (n := 0) (rest := []) (wr := fmR om_14_3ffe _) ⟨hx, hb, hml, hown, hts⟩ hl.1 (c_m_laysAll l D cI cJ cC cZ cS mm g ta pa pe pd pb pp pf pg pn rt rn cd sn il tk am at_ aa 0 wt wy 0 rm ud nu sd qn qw qo qb qp qa qi oc u0 u1 u2 u3 u4 u5 v0 v1 v2 v3 v4 v5 cs nw pt ql l0 l1 dm l3 ws_ yw yo be bf hdm hdm1 hp0 hp1 hp2 hcs hnw hpt) w_7_189 w_7_191 w_0_82 w_1_14 w_7_192 hd_X12_laysAll_0 ⟨⟨(Nat.le_of_ble_eq_true rfl), (Nat.le_of_ble_eq_true rfl)⟩, (Nat.le_of_ble_eq_true rfl), (Nat.le_of_ble_eq_true rfl)⟩ hK hP hD hS hA (fmT om_14_3ffe 0) (fmF om_14_3ffe 0) (fm_C1 rfl rfl) (fm_R rfl rfl) (fm_nT om_14_3ffe 0) (fm_nF om_14_3ffe 0) (fm_di om_14_3ffe 0) rfl rfl rfl rfl (Nat.le_of_ble_eq_true rfl) dX12_laysPay_1 (fun u H locs hw hP hD hS => ?_)
  refine exE hw (fun tk2_1 hw1 => exE hw1 (fun qp2_2 hw2 => exE hw2 (fun am2_3 hw3 => exE hw3 (fun at_2_4 hw4 => exE hw4 (fun aa2_5 hw5 => exE hw5 (fun wy2_6 hw6 => exE hw6 (fun ql2_7 hw7 => exE hw7 (fun ws_2_8 hw8 => exE hw8 (fun yw2_9 hw9 => exE hw9 (fun yo2_10 hw10 => exE hw10 (fun be2_11 hw11 => exE hw11 (fun bf2_12 hw12 => anE hw12 (fun hbe_13 hw13 => anE hw13 (fun hwy_14 eu_15 => ?_))))))))))))))
  clear hw hw1 hw2 hw3 hw4 hw5 hw6 hw7 hw8 hw9 hw10 hw11 hw12 hw13
  refine o_mgE (ws' := [ro_ mm 12 (mo g (nI ta) (nI pa) (nI pe) pd (nI pb) pp pf pg pn rt rn (nI cd) sn (nI il) tk2_1 am2_3 at_2_4 aa2_5 0 0 (-1) wt wy2_6 0 (nI rm) (nI ud) (nI nu) sd (nI qn) (nI qw) qo (nI qb) (nI qp2_2) qa (nI qi) (nI oc)), ra_I (g 24) cI 6 (l6 u0 u1 u2 u3 u4 u5), ra_I (g 25) cI 6 (l6 v0 v1 v2 v3 v4 v5), ra_N (g 26) cI 3200 cs, ra_I (g 31) cI 120 nw, ra_N (g 46) cI 9 pt, ra_J (g 86) cJ 1700 ql2_7, ra_I (g 20) cI 4 (l4 (nI l0) (nI l1) (nI dm) (nI l3)), ra_I (g 38) cI 90 ws_2_8, ra_I (g 36) cZ 900 yw2_9, ra_I (g 37) cZ 900 yo2_10, ra_J (g 43) cJ 90 be2_11, ra_J (g 44) cJ 90 bf2_12, ra_J (g 48) cJ 90 py]) eu_15 hP hD rfl (fun hP hD => ?_)
  refine lv_aload_n hx hb dX12_laysPay_4 rfl (lv_at hl 0 rfl) ?_
  refine sk_Vi (q0 := 0) (n := 0) (rest := []) (wr := fmR om_14_2040 _) ⟨hx, hb, hml, hown, hts⟩ hl.1 (c_m_dayMany l D cI cJ cC cZ cS mm g ta pa pe pd pb pp pf pg pn rt rn cd sn il tk2_1 am2_3 at_2_4 aa2_5 0 0 (-1) wt wy2_6 0 rm ud nu sd qn qw qo qb qp2_2 qa qi oc l0 l1 dm l3) w_7_98 w_7_100 w_0_69 w_1_14 w_7_101 hd_X12_dayMany_0 ⟨⟨(Nat.le_of_ble_eq_true rfl), (Nat.le_of_ble_eq_true rfl)⟩, (Nat.le_of_ble_eq_true rfl), (Nat.le_of_ble_eq_true rfl)⟩ hK hP hD hS hA (fmT om_14_2040 0) (fmF om_14_2040 0) (fm_C1 rfl rfl) (fm_R rfl rfl) (fm_nT om_14_2040 0) (fm_nF om_14_2040 0) (fm_di om_14_2040 0) rfl rfl rfl rfl (Nat.le_of_ble_eq_true rfl) dX12_laysPay_5 (fun r_16 u H locs hw hP hD hS => ?_)
  refine anE hw (fun er_18 eu_17 => ?_)
  clear hw
  subst er_18
  refine o_mgE (ws' := [ro_ mm 12 (mo g (nI ta) (nI pa) (nI pe) pd (nI pb) pp pf pg pn rt rn (nI cd) sn (nI il) tk2_1 am2_3 at_2_4 aa2_5 0 0 (-1) wt wy2_6 0 (nI rm) (nI ud) (nI nu) sd (nI qn) (nI qw) qo (nI qb) (nI qp2_2) qa (nI qi) (nI oc)), ra_I (g 24) cI 6 (l6 u0 u1 u2 u3 u4 u5), ra_I (g 25) cI 6 (l6 v0 v1 v2 v3 v4 v5), ra_N (g 26) cI 3200 cs, ra_I (g 31) cI 120 nw, ra_N (g 46) cI 9 pt, ra_J (g 86) cJ 1700 ql2_7, ra_I (g 20) cI 4 (l4 (nI l0) (nI l1) (nI dm) (nI l3)), ra_I (g 38) cI 90 ws_2_8, ra_I (g 36) cZ 900 yw2_9, ra_I (g 37) cZ 900 yo2_10, ra_J (g 43) cJ 90 be2_11, ra_J (g 44) cJ 90 bf2_12, ra_J (g 48) cJ 90 py]) eu_17 hP hD rfl (fun hP hD => ?_)
  refine lv_iconst (v := 1) hx hb dX12_laysPay_8 ic_1 ?_
  refine lv_isub hx hb dX12_laysPay_9 ?_
  refine lv_istore_n (lv' := [(1, .int (nI dm - 1)), (0, .ref mm)]) hx hb dX12_laysPay_10 rfl hl (by decide) rfl (fun ls hl => ?_)
  have lp_19 : ∀ (n_20 : Nat) (dd : Nat) (zama : Int32) (ztka : Int32) (zqpa : Nat) (zqa : Nat → Int64) (zpa : Nat → Int64) (H : Heap) (locs : List Loc) (ls : Array Slot), dd < n_20 → (dd ≤ dm) → va_P D vwCl [ro_ mm 12 (mo g (nI ta) (nI pa) (nI pe) pd (nI pb) pp pf pg pn rt rn (nI cd) sn (nI il) ztka zama at_2_4 aa2_5 0 0 (-1) wt wy2_6 0 (nI rm) (nI ud) (nI nu) sd (nI qn) (nI qw) qo (nI qb) (nI zqpa) qa (nI qi) (nI oc)), ra_I (g 24) cI 6 (l6 u0 u1 u2 u3 u4 u5), ra_I (g 25) cI 6 (l6 v0 v1 v2 v3 v4 v5), ra_N (g 26) cI 3200 cs, ra_I (g 31) cI 120 nw, ra_N (g 46) cI 9 pt, ra_J (g 86) cJ 1700 zqa, ra_I (g 20) cI 4 (l4 (nI l0) (nI l1) (nI dm) (nI l3)), ra_I (g 38) cI 90 ws_2_8, ra_I (g 36) cZ 900 yw2_9, ra_I (g 37) cZ 900 yo2_10, ra_J (g 43) cJ 90 be2_11, ra_J (g 44) cJ 90 bf2_12, ra_J (g 48) cJ 90 zpa] H → va_D A [ro_ mm 12 (mo g (nI ta) (nI pa) (nI pe) pd (nI pb) pp pf pg pn rt rn (nI cd) sn (nI il) ztka zama at_2_4 aa2_5 0 0 (-1) wt wy2_6 0 (nI rm) (nI ud) (nI nu) sd (nI qn) (nI qw) qo (nI qb) (nI zqpa) qa (nI qi) (nI oc)), ra_I (g 24) cI 6 (l6 u0 u1 u2 u3 u4 u5), ra_I (g 25) cI 6 (l6 v0 v1 v2 v3 v4 v5), ra_N (g 26) cI 3200 cs, ra_I (g 31) cI 120 nw, ra_N (g 46) cI 9 pt, ra_J (g 86) cJ 1700 zqa, ra_I (g 20) cI 4 (l4 (nI l0) (nI l1) (nI dm) (nI l3)), ra_I (g 38) cI 90 ws_2_8, ra_I (g 36) cZ 900 yw2_9, ra_I (g 37) cZ 900 yo2_10, ra_J (g 43) cJ 90 be2_11, ra_J (g 44) cJ 90 bf2_12, ra_J (g 48) cJ 90 zpa] → va_S A s.heap H locs → lv_has ls 6 [(1, .int (nI dd - 1)), (0, .ref mm)] → W p l e { frames := 6, cells := 0, slots := 0, locals := 142 } s m ([.ref mm] : List Value).toArray below meth c H locs 0 0 (MQ below (skV D (skT cI cJ cC cZ cS) (fun (u : va_W) => ∃ (tk2 : Int32), ∃ (qp2 : Nat), ∃ (am2 : Int32), ∃ (at_2 : Int32), ∃ (aa2 : Int32), ∃ (wy2 : Int64), ∃ (ql2 : Nat → Int64), ∃ (ws_2 : Nat → Int32), ∃ (yw2 : Nat → Int32), ∃ (yo2 : Nat → Int32), ∃ (be2 : Nat → Int64), ∃ (bf2 : Nat → Int64), ∃ (py2 : Nat → Int64), u = [ro_ mm 12 (mo g (nI ta) (nI pa) (nI pe) pd (nI pb) pp pf pg pn rt rn (nI cd) sn (nI il) tk2 am2 at_2 aa2 0 0 (-1) wt wy2 0 (nI rm) (nI ud) (nI nu) sd (nI qn) (nI qw) qo (nI qb) (nI qp2) qa (nI qi) (nI oc)), ra_I (g 24) cI 6 (l6 u0 u1 u2 u3 u4 u5), ra_I (g 25) cI 6 (l6 v0 v1 v2 v3 v4 v5), ra_N (g 26) cI 3200 cs, ra_I (g 31) cI 120 nw, ra_N (g 46) cI 9 pt, ra_J (g 86) cJ 1700 ql2, ra_I (g 20) cI 4 (l4 (nI l0) (nI l1) (nI dm) (nI l3)), ra_I (g 38) cI 90 ws_2, ra_I (g 36) cZ 900 yw2, ra_I (g 37) cZ 900 yo2, ra_J (g 43) cJ 90 be2, ra_J (g 44) cJ 90 bf2, ra_J (g 48) cJ 90 py2]) A) ([.ref mm] : List Value).toArray s 0 0 A) (F0 m 11 ls []) := by
    intro n_20
    induction n_20 with
    | zero => intro dd zama ztka zqpa zqa zpa H locs ls hm; exact absurd hm (Nat.not_lt_zero _)
    | succ n_20 ih_lp_19 =>
      intro dd zama ztka zqpa zqa zpa H locs ls hm hdd hP hD hS hl
      refine lv_iload_n hx hb dX12_laysPay_11 rfl (lv_at hl 0 rfl) ?_
      refine lv_if_lt (tgt := 159) hx hb dX12_laysPay_12 (by decide) (fun c_21 => ?_) (fun c_21 => ?_)
      · have c_21 : dd = 0 := npm0 dd (by omega) c_21
        exact sk_vret hx hb hr hlocks hK hP hD hS (⟨ztka, zqpa, zama, at_2_4, aa2_5, wy2_6, zqa, ws_2_8, yw2_9, yo2_10, be2_11, bf2_12, zpa, rfl⟩) (Nat.le_of_ble_eq_true rfl) (Nat.le_of_ble_eq_true rfl) dX12_laysPay_159
      · have c_21 : 1 ≤ dd := npm1 dd c_21
        rw [npred dd (by omega)] at hl
        refine lv_iconst (v := 0) hx hb dX12_laysPay_15 ic_0 ?_
        refine lv_istore_n (lv' := [(2, .int 0), (1, .int (nI (dd - 1))), (0, .ref mm)]) hx hb dX12_laysPay_16 rfl hl (by decide) rfl (fun ls hl => ?_)
        have lp_22 : ∀ (n_23 : Nat) (jm : Nat) (zamb : Int32) (ztkb : Int32) (zqpb : Nat) (zqb : Nat → Int64) (zpb : Nat → Int64) (H : Heap) (locs : List Loc) (ls : Array Slot), 10 - jm < n_23 → (jm ≤ 10) → va_P D vwCl [ro_ mm 12 (mo g (nI ta) (nI pa) (nI pe) pd (nI pb) pp pf pg pn rt rn (nI cd) sn (nI il) ztkb zamb at_2_4 aa2_5 0 0 (-1) wt wy2_6 0 (nI rm) (nI ud) (nI nu) sd (nI qn) (nI qw) qo (nI qb) (nI zqpb) qa (nI qi) (nI oc)), ra_I (g 24) cI 6 (l6 u0 u1 u2 u3 u4 u5), ra_I (g 25) cI 6 (l6 v0 v1 v2 v3 v4 v5), ra_N (g 26) cI 3200 cs, ra_I (g 31) cI 120 nw, ra_N (g 46) cI 9 pt, ra_J (g 86) cJ 1700 zqb, ra_I (g 20) cI 4 (l4 (nI l0) (nI l1) (nI dm) (nI l3)), ra_I (g 38) cI 90 ws_2_8, ra_I (g 36) cZ 900 yw2_9, ra_I (g 37) cZ 900 yo2_10, ra_J (g 43) cJ 90 be2_11, ra_J (g 44) cJ 90 bf2_12, ra_J (g 48) cJ 90 zpb] H → va_D A [ro_ mm 12 (mo g (nI ta) (nI pa) (nI pe) pd (nI pb) pp pf pg pn rt rn (nI cd) sn (nI il) ztkb zamb at_2_4 aa2_5 0 0 (-1) wt wy2_6 0 (nI rm) (nI ud) (nI nu) sd (nI qn) (nI qw) qo (nI qb) (nI zqpb) qa (nI qi) (nI oc)), ra_I (g 24) cI 6 (l6 u0 u1 u2 u3 u4 u5), ra_I (g 25) cI 6 (l6 v0 v1 v2 v3 v4 v5), ra_N (g 26) cI 3200 cs, ra_I (g 31) cI 120 nw, ra_N (g 46) cI 9 pt, ra_J (g 86) cJ 1700 zqb, ra_I (g 20) cI 4 (l4 (nI l0) (nI l1) (nI dm) (nI l3)), ra_I (g 38) cI 90 ws_2_8, ra_I (g 36) cZ 900 yw2_9, ra_I (g 37) cZ 900 yo2_10, ra_J (g 43) cJ 90 be2_11, ra_J (g 44) cJ 90 bf2_12, ra_J (g 48) cJ 90 zpb] → va_S A s.heap H locs → lv_has ls 6 [(2, .int (nI jm)), (1, .int (nI (dd - 1))), (0, .ref mm)] → W p l e { frames := 6, cells := 0, slots := 0, locals := 142 } s m ([.ref mm] : List Value).toArray below meth c H locs 0 0 (MQ below (skV D (skT cI cJ cC cZ cS) (fun (u : va_W) => ∃ (tk2 : Int32), ∃ (qp2 : Nat), ∃ (am2 : Int32), ∃ (at_2 : Int32), ∃ (aa2 : Int32), ∃ (wy2 : Int64), ∃ (ql2 : Nat → Int64), ∃ (ws_2 : Nat → Int32), ∃ (yw2 : Nat → Int32), ∃ (yo2 : Nat → Int32), ∃ (be2 : Nat → Int64), ∃ (bf2 : Nat → Int64), ∃ (py2 : Nat → Int64), u = [ro_ mm 12 (mo g (nI ta) (nI pa) (nI pe) pd (nI pb) pp pf pg pn rt rn (nI cd) sn (nI il) tk2 am2 at_2 aa2 0 0 (-1) wt wy2 0 (nI rm) (nI ud) (nI nu) sd (nI qn) (nI qw) qo (nI qb) (nI qp2) qa (nI qi) (nI oc)), ra_I (g 24) cI 6 (l6 u0 u1 u2 u3 u4 u5), ra_I (g 25) cI 6 (l6 v0 v1 v2 v3 v4 v5), ra_N (g 26) cI 3200 cs, ra_I (g 31) cI 120 nw, ra_N (g 46) cI 9 pt, ra_J (g 86) cJ 1700 ql2, ra_I (g 20) cI 4 (l4 (nI l0) (nI l1) (nI dm) (nI l3)), ra_I (g 38) cI 90 ws_2, ra_I (g 36) cZ 900 yw2, ra_I (g 37) cZ 900 yo2, ra_J (g 43) cJ 90 be2, ra_J (g 44) cJ 90 bf2, ra_J (g 48) cJ 90 py2]) A) ([.ref mm] : List Value).toArray s 0 0 A) (F0 m 17 ls []) := by
          intro n_23
          induction n_23 with
          | zero => intro jm zamb ztkb zqpb zqb zpb H locs ls hm; exact absurd hm (Nat.not_lt_zero _)
          | succ n_23 ih_lp_22 =>
            intro jm zamb ztkb zqpb zqb zpb H locs ls hm hjm hP hD hS hl
            refine lv_iload_n hx hb dX12_laysPay_17 rfl (lv_at hl 0 rfl) ?_
            refine lv_bipush (v := 10) hx hb dX12_laysPay_18 (by decide) ?_
            refine lv_icmp_ge (tgt := 153) hx hb dX12_laysPay_20 (by decide) (fun c_24 => ?_) (fun c_24 => ?_)
            · have c_24 : 10 ≤ jm := (nle 10 jm (Nat.le_of_ble_eq_true rfl) (by omega)).mp c_24
              refine lv_iinc (v := nI (dd - 1) - 1) (lv' := [(1, .int (nI (dd - 1) - 1)), (2, .int (nI jm)), (0, .ref mm)]) hx hb dX12_laysPay_153 hl (k := 1) rfl (ndn _) (by decide) rfl (fun ls hl => ?_)
              refine lv_goto (tgt := 11) hx hb dX12_laysPay_156 (by decide) ?_
              exact ih_lp_19 (dd - 1) zamb ztkb zqpb zqb zpb _ _ _ (by omega) (by omega) hP hD hS (lv_sub hl [0, 2] rfl)
            · have c_24 : ¬ (10 ≤ jm) := fun h => c_24 ((nle 10 jm (Nat.le_of_ble_eq_true rfl) (by omega)).mpr h)
              refine lv_iload_n hx hb dX12_laysPay_23 rfl (lv_at hl 1 rfl) ?_
              refine lv_aload_n hx hb dX12_laysPay_24 rfl (lv_at hl 2 rfl) ?_
              refine sk_Vi (q0 := 0) (n := 0) (rest := [.int (nI (dd - 1))]) (wr := fmR om_14_2040 _) ⟨hx, hb, hml, hown, hts⟩ hl.1 (c_m_dayMany l D cI cJ cC cZ cS mm g ta pa pe pd pb pp pf pg pn rt rn cd sn il ztkb zamb at_2_4 aa2_5 0 0 (-1) wt wy2_6 0 rm ud nu sd qn qw qo qb zqpb qa qi oc l0 l1 dm l3) w_7_98 w_7_100 w_0_69 w_1_14 w_7_101 hd_X12_dayMany_0 ⟨⟨(Nat.le_of_ble_eq_true rfl), (Nat.le_of_ble_eq_true rfl)⟩, (Nat.le_of_ble_eq_true rfl), (Nat.le_of_ble_eq_true rfl)⟩ hK hP hD hS hA (fmT om_14_2040 0) (fmF om_14_2040 0) (fm_C1 rfl rfl) (fm_R rfl rfl) (fm_nT om_14_2040 0) (fm_nF om_14_2040 0) (fm_di om_14_2040 0) rfl rfl rfl rfl (Nat.le_of_ble_eq_true rfl) dX12_laysPay_25 (fun r_25 u H locs hw hP hD hS => ?_)
              refine anE hw (fun er_27 eu_26 => ?_)
              clear hw
              subst er_27
              refine o_mgE (ws' := [ro_ mm 12 (mo g (nI ta) (nI pa) (nI pe) pd (nI pb) pp pf pg pn rt rn (nI cd) sn (nI il) ztkb zamb at_2_4 aa2_5 0 0 (-1) wt wy2_6 0 (nI rm) (nI ud) (nI nu) sd (nI qn) (nI qw) qo (nI qb) (nI zqpb) qa (nI qi) (nI oc)), ra_I (g 24) cI 6 (l6 u0 u1 u2 u3 u4 u5), ra_I (g 25) cI 6 (l6 v0 v1 v2 v3 v4 v5), ra_N (g 26) cI 3200 cs, ra_I (g 31) cI 120 nw, ra_N (g 46) cI 9 pt, ra_J (g 86) cJ 1700 zqb, ra_I (g 20) cI 4 (l4 (nI l0) (nI l1) (nI dm) (nI l3)), ra_I (g 38) cI 90 ws_2_8, ra_I (g 36) cZ 900 yw2_9, ra_I (g 37) cZ 900 yo2_10, ra_J (g 43) cJ 90 be2_11, ra_J (g 44) cJ 90 bf2_12, ra_J (g 48) cJ 90 zpb]) eu_26 hP hD rfl (fun hP hD => ?_)
              refine lv_iconst (v := 1) hx hb dX12_laysPay_28 ic_1 ?_
              refine lv_isub hx hb dX12_laysPay_29 ?_
              refine sk_top (nI (dm - 1)) (nsub dm 1 (by omega)) ?_
              refine lv_icmp_ne (tgt := 37) hx hb dX12_laysPay_30 (by decide) (fun c_28 => ?_) (fun c_28 => ?_)
              · have c_28 : ¬ (dd - 1 = dm - 1) := fun h => c_28 ((neq (dd - 1) (dm - 1) (by omega) (by omega)).mpr h)
                refine lv_ldc2 (v := (-1000000000000000)) hx hb hown (hts _ w_7_184) dX12_laysPay_37 ?_
                refine lv_lstore_n (lv' := [(3, .long (-1000000000000000)), (2, .int (nI jm)), (1, .int (nI (dd - 1))), (0, .ref mm)]) hx hb dX12_laysPay_40 rfl hl (by decide) rfl (fun ls hl => ?_)
                refine lv_iconst (v := 0) hx hb dX12_laysPay_41 ic_0 ?_
                refine lv_istore (lv' := [(5, .int 0), (3, .long (-1000000000000000)), (2, .int (nI jm)), (1, .int (nI (dd - 1))), (0, .ref mm)]) hx hb dX12_laysPay_42 hl (by decide) rfl (fun ls hl => ?_)
                have lp_29 : ∀ (n_30 : Nat) (kk : Nat) (mo_ : Int64) (H : Heap) (locs : List Loc) (ls : Array Slot), 10 - kk < n_30 → (kk ≤ 10) → va_P D vwCl [ro_ mm 12 (mo g (nI ta) (nI pa) (nI pe) pd (nI pb) pp pf pg pn rt rn (nI cd) sn (nI il) ztkb zamb at_2_4 aa2_5 0 0 (-1) wt wy2_6 0 (nI rm) (nI ud) (nI nu) sd (nI qn) (nI qw) qo (nI qb) (nI zqpb) qa (nI qi) (nI oc)), ra_I (g 24) cI 6 (l6 u0 u1 u2 u3 u4 u5), ra_I (g 25) cI 6 (l6 v0 v1 v2 v3 v4 v5), ra_N (g 26) cI 3200 cs, ra_I (g 31) cI 120 nw, ra_N (g 46) cI 9 pt, ra_J (g 86) cJ 1700 zqb, ra_I (g 20) cI 4 (l4 (nI l0) (nI l1) (nI dm) (nI l3)), ra_I (g 38) cI 90 ws_2_8, ra_I (g 36) cZ 900 yw2_9, ra_I (g 37) cZ 900 yo2_10, ra_J (g 43) cJ 90 be2_11, ra_J (g 44) cJ 90 bf2_12, ra_J (g 48) cJ 90 zpb] H → va_D A [ro_ mm 12 (mo g (nI ta) (nI pa) (nI pe) pd (nI pb) pp pf pg pn rt rn (nI cd) sn (nI il) ztkb zamb at_2_4 aa2_5 0 0 (-1) wt wy2_6 0 (nI rm) (nI ud) (nI nu) sd (nI qn) (nI qw) qo (nI qb) (nI zqpb) qa (nI qi) (nI oc)), ra_I (g 24) cI 6 (l6 u0 u1 u2 u3 u4 u5), ra_I (g 25) cI 6 (l6 v0 v1 v2 v3 v4 v5), ra_N (g 26) cI 3200 cs, ra_I (g 31) cI 120 nw, ra_N (g 46) cI 9 pt, ra_J (g 86) cJ 1700 zqb, ra_I (g 20) cI 4 (l4 (nI l0) (nI l1) (nI dm) (nI l3)), ra_I (g 38) cI 90 ws_2_8, ra_I (g 36) cZ 900 yw2_9, ra_I (g 37) cZ 900 yo2_10, ra_J (g 43) cJ 90 be2_11, ra_J (g 44) cJ 90 bf2_12, ra_J (g 48) cJ 90 zpb] → va_S A s.heap H locs → lv_has ls 6 [(5, .int (nI kk)), (3, .long mo_), (2, .int (nI jm)), (1, .int (nI (dd - 1))), (0, .ref mm)] → W p l e { frames := 6, cells := 0, slots := 0, locals := 142 } s m ([.ref mm] : List Value).toArray below meth c H locs 0 0 (MQ below (skV D (skT cI cJ cC cZ cS) (fun (u : va_W) => ∃ (tk2 : Int32), ∃ (qp2 : Nat), ∃ (am2 : Int32), ∃ (at_2 : Int32), ∃ (aa2 : Int32), ∃ (wy2 : Int64), ∃ (ql2 : Nat → Int64), ∃ (ws_2 : Nat → Int32), ∃ (yw2 : Nat → Int32), ∃ (yo2 : Nat → Int32), ∃ (be2 : Nat → Int64), ∃ (bf2 : Nat → Int64), ∃ (py2 : Nat → Int64), u = [ro_ mm 12 (mo g (nI ta) (nI pa) (nI pe) pd (nI pb) pp pf pg pn rt rn (nI cd) sn (nI il) tk2 am2 at_2 aa2 0 0 (-1) wt wy2 0 (nI rm) (nI ud) (nI nu) sd (nI qn) (nI qw) qo (nI qb) (nI qp2) qa (nI qi) (nI oc)), ra_I (g 24) cI 6 (l6 u0 u1 u2 u3 u4 u5), ra_I (g 25) cI 6 (l6 v0 v1 v2 v3 v4 v5), ra_N (g 26) cI 3200 cs, ra_I (g 31) cI 120 nw, ra_N (g 46) cI 9 pt, ra_J (g 86) cJ 1700 ql2, ra_I (g 20) cI 4 (l4 (nI l0) (nI l1) (nI dm) (nI l3)), ra_I (g 38) cI 90 ws_2, ra_I (g 36) cZ 900 yw2, ra_I (g 37) cZ 900 yo2, ra_J (g 43) cJ 90 be2, ra_J (g 44) cJ 90 bf2, ra_J (g 48) cJ 90 py2]) A) ([.ref mm] : List Value).toArray s 0 0 A) (F0 m 44 ls []) := by
                  intro n_30
                  induction n_30 with
                  | zero => intro kk mo_ H locs ls hm; exact absurd hm (Nat.not_lt_zero _)
                  | succ n_30 ih_lp_29 =>
                    intro kk mo_ H locs ls hm hkk hP hD hS hl
                    refine lv_iload hx hb dX12_laysPay_44 (lv_at hl 0 rfl) ?_
                    refine lv_bipush (v := 10) hx hb dX12_laysPay_46 (by decide) ?_
                    refine lv_icmp_ge (tgt := 114) hx hb dX12_laysPay_48 (by decide) (fun c_31 => ?_) (fun c_31 => ?_)
                    · have c_31 : 10 ≤ kk := (nle 10 kk (Nat.le_of_ble_eq_true rfl) (by omega)).mp c_31
                      refine lv_aload_n hx hb dX12_laysPay_114 rfl (lv_at hl 4 rfl) ?_
                      refine sk_get (v := .ref (g 48)) (C := RX12) (T := TX12) (N := 92) hx hb hts inlX12 hown hK hP 0 rfl rfl 48 (Nat.le_of_ble_eq_true rfl) w_5_203 rfl dX12_laysPay_115 ?_
                      refine lv_bipush (v := 10) hx hb dX12_laysPay_118 (by decide) ?_
                      refine lv_iload_n hx hb dX12_laysPay_120 rfl (lv_at hl 3 rfl) ?_
                      refine lv_imul hx hb dX12_laysPay_121 ?_
                      refine sk_top (nI (10 * (dd - 1))) (nmul 10 (dd - 1)) ?_
                      refine lv_iload_n hx hb dX12_laysPay_122 rfl (lv_at hl 2 rfl) ?_
                      refine lv_iadd hx hb dX12_laysPay_123 ?_
                      refine sk_top (nI (10 * (dd - 1) + jm)) (nI_add (10 * (dd - 1)) jm) ?_
                      refine lv_lload_n hx hb dX12_laysPay_124 rfl (lv_at hl 1 rfl) ?_
                      refine lv_ldc2 (v := (-1000000000000000)) hx hb hown (hts _ w_7_184) dX12_laysPay_125 ?_
                      refine W.lcmp hx hb dX12_laysPay_128 ?_
                      refine lv_if_ne (tgt := 138) hx hb dX12_laysPay_129 (by decide) (fun c_32 => ?_) (fun c_32 => ?_)
                      · skip
                        refine lv_lload_n hx hb dX12_laysPay_138 rfl (lv_at hl 1 rfl) ?_
                        refine lv_aload_n hx hb dX12_laysPay_139 rfl (lv_at hl 4 rfl) ?_
                        refine lv_iload_n hx hb dX12_laysPay_140 rfl (lv_at hl 3 rfl) ?_
                        refine lv_iload_n hx hb dX12_laysPay_141 rfl (lv_at hl 2 rfl) ?_
                        refine sk_Vl (q0 := 0) (n := 2) (rest := [.long mo_, .int (nI (10 * (dd - 1) + jm)), .ref (g 48)]) (wr := fmR om_14_3f80 _) ⟨hx, hb, hml, hown, hts⟩ hl.1 (c_m_wageOf l D cI cJ cC cZ cS mm g ta pa pe pd pb pp pf pg pn rt rn cd sn il ztkb zamb at_2_4 aa2_5 0 0 (-1) wt wy2_6 0 rm ud nu sd qn qw qo qb zqpb qa qi oc (dd - 1) (nI jm) u0 u1 u2 u3 u4 u5 v0 v1 v2 v3 v4 v5 cs nw pt zqb (by omega) hp2 hcs hnw hpt) w_8_45 w_8_47 w_0_97 w_1_14 w_8_48 hd_X12_wageOf_2 ⟨⟨(Nat.le_of_ble_eq_true rfl), (Nat.le_of_ble_eq_true rfl)⟩, (Nat.le_of_ble_eq_true rfl), (Nat.le_of_ble_eq_true rfl)⟩ hK hP hD hS hA (fmT om_14_3f80 0) (fmF om_14_3f80 0) (fm_C1 rfl rfl) (fm_R rfl rfl) (fm_nT om_14_3f80 0) (fm_nF om_14_3f80 0) (fm_di om_14_3f80 0) rfl rfl rfl rfl (Nat.le_of_ble_eq_true rfl) dX12_laysPay_142 (fun r_37 u H locs hw hP hD hS => ?_)
                        refine exE hw (fun tk2_33 hw1 => exE hw1 (fun qp2_34 hw2 => exE hw2 (fun am2_35 hw3 => exE hw3 (fun ql2_36 eu_38 => ?_))))
                        clear hw hw1 hw2 hw3
                        refine o_mgE (ws' := [ro_ mm 12 (mo g (nI ta) (nI pa) (nI pe) pd (nI pb) pp pf pg pn rt rn (nI cd) sn (nI il) tk2_33 am2_35 at_2_4 aa2_5 0 0 (-1) wt wy2_6 0 (nI rm) (nI ud) (nI nu) sd (nI qn) (nI qw) qo (nI qb) (nI qp2_34) qa (nI qi) (nI oc)), ra_I (g 24) cI 6 (l6 u0 u1 u2 u3 u4 u5), ra_I (g 25) cI 6 (l6 v0 v1 v2 v3 v4 v5), ra_N (g 26) cI 3200 cs, ra_I (g 31) cI 120 nw, ra_N (g 46) cI 9 pt, ra_J (g 86) cJ 1700 ql2_36, ra_I (g 20) cI 4 (l4 (nI l0) (nI l1) (nI dm) (nI l3)), ra_I (g 38) cI 90 ws_2_8, ra_I (g 36) cZ 900 yw2_9, ra_I (g 37) cZ 900 yo2_10, ra_J (g 43) cJ 90 be2_11, ra_J (g 44) cJ 90 bf2_12, ra_J (g 48) cJ 90 zpb]) eu_38 hP hD rfl (fun hP hD => ?_)
                        refine lv_ladd hx hb dX12_laysPay_145 ?_
                        refine lv_topl (fun v_39 ev_39 => ?_)
                        refine sk_lastO (ws' := fun f_40 => [ro_ mm 12 (mo g (nI ta) (nI pa) (nI pe) pd (nI pb) pp pf pg pn rt rn (nI cd) sn (nI il) tk2_33 am2_35 at_2_4 aa2_5 0 0 (-1) wt wy2_6 0 (nI rm) (nI ud) (nI nu) sd (nI qn) (nI qw) qo (nI qb) (nI qp2_34) qa (nI qi) (nI oc)), ra_I (g 24) cI 6 (l6 u0 u1 u2 u3 u4 u5), ra_I (g 25) cI 6 (l6 v0 v1 v2 v3 v4 v5), ra_N (g 26) cI 3200 cs, ra_I (g 31) cI 120 nw, ra_N (g 46) cI 9 pt, ra_J (g 86) cJ 1700 ql2_36, ra_I (g 20) cI 4 (l4 (nI l0) (nI l1) (nI dm) (nI l3)), ra_I (g 38) cI 90 ws_2_8, ra_I (g 36) cZ 900 yw2_9, ra_I (g 37) cZ 900 yo2_10, ra_J (g 43) cJ 90 be2_11, ra_J (g 44) cJ 90 bf2_12, ra_J (g 48) cJ 90 f_40]) hx hb hK hP hD hS 13 1 rfl rfl (vin (10 * (dd - 1) + jm) 90 (by omega) (Nat.le_of_ble_eq_true rfl)) (fun _ => rfl) dX12_laysPay_146 (fun f_40 H locs hP hD hS => ?_)
                        refine lv_iinc (v := nI (jm + 1)) (lv' := [(2, .int (nI (jm + 1))), (5, .int (nI kk)), (3, .long mo_), (1, .int (nI (dd - 1))), (0, .ref mm)]) hx hb dX12_laysPay_147 hl (k := 2) rfl (ninc jm 1 (by decide)) (by decide) rfl (fun ls hl => ?_)
                        refine lv_goto (tgt := 17) hx hb dX12_laysPay_150 (by decide) ?_
                        exact ih_lp_22 (jm + 1) am2_35 tk2_33 qp2_34 ql2_36 f_40 _ _ _ (by omega) (by omega) hP hD hS (lv_sub hl [0, 3, 4] rfl)
                      · skip
                        refine lv_ldc2 (v := (-1000000000000000)) hx hb hown (hts _ w_7_184) dX12_laysPay_132 ?_
                        refine lv_goto (tgt := 146) hx hb dX12_laysPay_135 (by decide) ?_
                        refine sk_lastO (ws' := fun f_41 => [ro_ mm 12 (mo g (nI ta) (nI pa) (nI pe) pd (nI pb) pp pf pg pn rt rn (nI cd) sn (nI il) ztkb zamb at_2_4 aa2_5 0 0 (-1) wt wy2_6 0 (nI rm) (nI ud) (nI nu) sd (nI qn) (nI qw) qo (nI qb) (nI zqpb) qa (nI qi) (nI oc)), ra_I (g 24) cI 6 (l6 u0 u1 u2 u3 u4 u5), ra_I (g 25) cI 6 (l6 v0 v1 v2 v3 v4 v5), ra_N (g 26) cI 3200 cs, ra_I (g 31) cI 120 nw, ra_N (g 46) cI 9 pt, ra_J (g 86) cJ 1700 zqb, ra_I (g 20) cI 4 (l4 (nI l0) (nI l1) (nI dm) (nI l3)), ra_I (g 38) cI 90 ws_2_8, ra_I (g 36) cZ 900 yw2_9, ra_I (g 37) cZ 900 yo2_10, ra_J (g 43) cJ 90 be2_11, ra_J (g 44) cJ 90 bf2_12, ra_J (g 48) cJ 90 f_41]) hx hb hK hP hD hS 13 1 rfl rfl (vin (10 * (dd - 1) + jm) 90 (by omega) (Nat.le_of_ble_eq_true rfl)) (fun _ => rfl) dX12_laysPay_146 (fun f_41 H locs hP hD hS => ?_)
                        refine lv_iinc (v := nI (jm + 1)) (lv' := [(2, .int (nI (jm + 1))), (5, .int (nI kk)), (3, .long mo_), (1, .int (nI (dd - 1))), (0, .ref mm)]) hx hb dX12_laysPay_147 hl (k := 2) rfl (ninc jm 1 (by decide)) (by decide) rfl (fun ls hl => ?_)
                        refine lv_goto (tgt := 17) hx hb dX12_laysPay_150 (by decide) ?_
                        exact ih_lp_22 (jm + 1) zamb ztkb zqpb zqb f_41 _ _ _ (by omega) (by omega) hP hD hS (lv_sub hl [0, 3, 4] rfl)
                    · have c_31 : ¬ (10 ≤ kk) := fun h => c_31 ((nle 10 kk (Nat.le_of_ble_eq_true rfl) (by omega)).mpr h)
                      refine lv_iload_n hx hb dX12_laysPay_51 rfl (lv_at hl 3 rfl) ?_
                      refine lv_aload_n hx hb dX12_laysPay_52 rfl (lv_at hl 4 rfl) ?_
                      refine sk_Vi (q0 := 0) (n := 0) (rest := [.int (nI (dd - 1))]) (wr := fmR om_14_2040 _) ⟨hx, hb, hml, hown, hts⟩ hl.1 (c_m_dayMany l D cI cJ cC cZ cS mm g ta pa pe pd pb pp pf pg pn rt rn cd sn il ztkb zamb at_2_4 aa2_5 0 0 (-1) wt wy2_6 0 rm ud nu sd qn qw qo qb zqpb qa qi oc l0 l1 dm l3) w_7_98 w_7_100 w_0_69 w_1_14 w_7_101 hd_X12_dayMany_0 ⟨⟨(Nat.le_of_ble_eq_true rfl), (Nat.le_of_ble_eq_true rfl)⟩, (Nat.le_of_ble_eq_true rfl), (Nat.le_of_ble_eq_true rfl)⟩ hK hP hD hS hA (fmT om_14_2040 0) (fmF om_14_2040 0) (fm_C1 rfl rfl) (fm_R rfl rfl) (fm_nT om_14_2040 0) (fm_nF om_14_2040 0) (fm_di om_14_2040 0) rfl rfl rfl rfl (Nat.le_of_ble_eq_true rfl) dX12_laysPay_53 (fun r_42 u H locs hw hP hD hS => ?_)
                      refine anE hw (fun er_44 eu_43 => ?_)
                      clear hw
                      subst er_44
                      refine o_mgE (ws' := [ro_ mm 12 (mo g (nI ta) (nI pa) (nI pe) pd (nI pb) pp pf pg pn rt rn (nI cd) sn (nI il) ztkb zamb at_2_4 aa2_5 0 0 (-1) wt wy2_6 0 (nI rm) (nI ud) (nI nu) sd (nI qn) (nI qw) qo (nI qb) (nI zqpb) qa (nI qi) (nI oc)), ra_I (g 24) cI 6 (l6 u0 u1 u2 u3 u4 u5), ra_I (g 25) cI 6 (l6 v0 v1 v2 v3 v4 v5), ra_N (g 26) cI 3200 cs, ra_I (g 31) cI 120 nw, ra_N (g 46) cI 9 pt, ra_J (g 86) cJ 1700 zqb, ra_I (g 20) cI 4 (l4 (nI l0) (nI l1) (nI dm) (nI l3)), ra_I (g 38) cI 90 ws_2_8, ra_I (g 36) cZ 900 yw2_9, ra_I (g 37) cZ 900 yo2_10, ra_J (g 43) cJ 90 be2_11, ra_J (g 44) cJ 90 bf2_12, ra_J (g 48) cJ 90 zpb]) eu_43 hP hD rfl (fun hP hD => ?_)
                      refine lv_iconst (v := 1) hx hb dX12_laysPay_56 ic_1 ?_
                      refine lv_isub hx hb dX12_laysPay_57 ?_
                      refine sk_top (nI (dm - 1)) (nsub dm 1 (by omega)) ?_
                      refine lv_icmp_ge (tgt := 114) hx hb dX12_laysPay_58 (by decide) (fun c_45 => ?_) (fun c_45 => ?_)
                      · have c_45 : dm - 1 ≤ dd - 1 := (nle (dm - 1) (dd - 1) (by omega) (by omega)).mp c_45
                        refine lv_aload_n hx hb dX12_laysPay_114 rfl (lv_at hl 4 rfl) ?_
                        refine sk_get (v := .ref (g 48)) (C := RX12) (T := TX12) (N := 92) hx hb hts inlX12 hown hK hP 0 rfl rfl 48 (Nat.le_of_ble_eq_true rfl) w_5_203 rfl dX12_laysPay_115 ?_
                        refine lv_bipush (v := 10) hx hb dX12_laysPay_118 (by decide) ?_
                        refine lv_iload_n hx hb dX12_laysPay_120 rfl (lv_at hl 3 rfl) ?_
                        refine lv_imul hx hb dX12_laysPay_121 ?_
                        refine sk_top (nI (10 * (dd - 1))) (nmul 10 (dd - 1)) ?_
                        refine lv_iload_n hx hb dX12_laysPay_122 rfl (lv_at hl 2 rfl) ?_
                        refine lv_iadd hx hb dX12_laysPay_123 ?_
                        refine sk_top (nI (10 * (dd - 1) + jm)) (nI_add (10 * (dd - 1)) jm) ?_
                        refine lv_lload_n hx hb dX12_laysPay_124 rfl (lv_at hl 1 rfl) ?_
                        refine lv_ldc2 (v := (-1000000000000000)) hx hb hown (hts _ w_7_184) dX12_laysPay_125 ?_
                        refine W.lcmp hx hb dX12_laysPay_128 ?_
                        refine lv_if_ne (tgt := 138) hx hb dX12_laysPay_129 (by decide) (fun c_46 => ?_) (fun c_46 => ?_)
                        · skip
                          refine lv_lload_n hx hb dX12_laysPay_138 rfl (lv_at hl 1 rfl) ?_
                          refine lv_aload_n hx hb dX12_laysPay_139 rfl (lv_at hl 4 rfl) ?_
                          refine lv_iload_n hx hb dX12_laysPay_140 rfl (lv_at hl 3 rfl) ?_
                          refine lv_iload_n hx hb dX12_laysPay_141 rfl (lv_at hl 2 rfl) ?_
                          refine sk_Vl (q0 := 0) (n := 2) (rest := [.long mo_, .int (nI (10 * (dd - 1) + jm)), .ref (g 48)]) (wr := fmR om_14_3f80 _) ⟨hx, hb, hml, hown, hts⟩ hl.1 (c_m_wageOf l D cI cJ cC cZ cS mm g ta pa pe pd pb pp pf pg pn rt rn cd sn il ztkb zamb at_2_4 aa2_5 0 0 (-1) wt wy2_6 0 rm ud nu sd qn qw qo qb zqpb qa qi oc (dd - 1) (nI jm) u0 u1 u2 u3 u4 u5 v0 v1 v2 v3 v4 v5 cs nw pt zqb (by omega) hp2 hcs hnw hpt) w_8_45 w_8_47 w_0_97 w_1_14 w_8_48 hd_X12_wageOf_2 ⟨⟨(Nat.le_of_ble_eq_true rfl), (Nat.le_of_ble_eq_true rfl)⟩, (Nat.le_of_ble_eq_true rfl), (Nat.le_of_ble_eq_true rfl)⟩ hK hP hD hS hA (fmT om_14_3f80 0) (fmF om_14_3f80 0) (fm_C1 rfl rfl) (fm_R rfl rfl) (fm_nT om_14_3f80 0) (fm_nF om_14_3f80 0) (fm_di om_14_3f80 0) rfl rfl rfl rfl (Nat.le_of_ble_eq_true rfl) dX12_laysPay_142 (fun r_51 u H locs hw hP hD hS => ?_)
                          refine exE hw (fun tk2_47 hw1 => exE hw1 (fun qp2_48 hw2 => exE hw2 (fun am2_49 hw3 => exE hw3 (fun ql2_50 eu_52 => ?_))))
                          clear hw hw1 hw2 hw3
                          refine o_mgE (ws' := [ro_ mm 12 (mo g (nI ta) (nI pa) (nI pe) pd (nI pb) pp pf pg pn rt rn (nI cd) sn (nI il) tk2_47 am2_49 at_2_4 aa2_5 0 0 (-1) wt wy2_6 0 (nI rm) (nI ud) (nI nu) sd (nI qn) (nI qw) qo (nI qb) (nI qp2_48) qa (nI qi) (nI oc)), ra_I (g 24) cI 6 (l6 u0 u1 u2 u3 u4 u5), ra_I (g 25) cI 6 (l6 v0 v1 v2 v3 v4 v5), ra_N (g 26) cI 3200 cs, ra_I (g 31) cI 120 nw, ra_N (g 46) cI 9 pt, ra_J (g 86) cJ 1700 ql2_50, ra_I (g 20) cI 4 (l4 (nI l0) (nI l1) (nI dm) (nI l3)), ra_I (g 38) cI 90 ws_2_8, ra_I (g 36) cZ 900 yw2_9, ra_I (g 37) cZ 900 yo2_10, ra_J (g 43) cJ 90 be2_11, ra_J (g 44) cJ 90 bf2_12, ra_J (g 48) cJ 90 zpb]) eu_52 hP hD rfl (fun hP hD => ?_)
                          refine lv_ladd hx hb dX12_laysPay_145 ?_
                          refine lv_topl (fun v_53 ev_53 => ?_)
                          refine sk_lastO (ws' := fun f_54 => [ro_ mm 12 (mo g (nI ta) (nI pa) (nI pe) pd (nI pb) pp pf pg pn rt rn (nI cd) sn (nI il) tk2_47 am2_49 at_2_4 aa2_5 0 0 (-1) wt wy2_6 0 (nI rm) (nI ud) (nI nu) sd (nI qn) (nI qw) qo (nI qb) (nI qp2_48) qa (nI qi) (nI oc)), ra_I (g 24) cI 6 (l6 u0 u1 u2 u3 u4 u5), ra_I (g 25) cI 6 (l6 v0 v1 v2 v3 v4 v5), ra_N (g 26) cI 3200 cs, ra_I (g 31) cI 120 nw, ra_N (g 46) cI 9 pt, ra_J (g 86) cJ 1700 ql2_50, ra_I (g 20) cI 4 (l4 (nI l0) (nI l1) (nI dm) (nI l3)), ra_I (g 38) cI 90 ws_2_8, ra_I (g 36) cZ 900 yw2_9, ra_I (g 37) cZ 900 yo2_10, ra_J (g 43) cJ 90 be2_11, ra_J (g 44) cJ 90 bf2_12, ra_J (g 48) cJ 90 f_54]) hx hb hK hP hD hS 13 1 rfl rfl (vin (10 * (dd - 1) + jm) 90 (by omega) (Nat.le_of_ble_eq_true rfl)) (fun _ => rfl) dX12_laysPay_146 (fun f_54 H locs hP hD hS => ?_)
                          refine lv_iinc (v := nI (jm + 1)) (lv' := [(2, .int (nI (jm + 1))), (5, .int (nI kk)), (3, .long mo_), (1, .int (nI (dd - 1))), (0, .ref mm)]) hx hb dX12_laysPay_147 hl (k := 2) rfl (ninc jm 1 (by decide)) (by decide) rfl (fun ls hl => ?_)
                          refine lv_goto (tgt := 17) hx hb dX12_laysPay_150 (by decide) ?_
                          exact ih_lp_22 (jm + 1) am2_49 tk2_47 qp2_48 ql2_50 f_54 _ _ _ (by omega) (by omega) hP hD hS (lv_sub hl [0, 3, 4] rfl)
                        · skip
                          refine lv_ldc2 (v := (-1000000000000000)) hx hb hown (hts _ w_7_184) dX12_laysPay_132 ?_
                          refine lv_goto (tgt := 146) hx hb dX12_laysPay_135 (by decide) ?_
                          refine sk_lastO (ws' := fun f_55 => [ro_ mm 12 (mo g (nI ta) (nI pa) (nI pe) pd (nI pb) pp pf pg pn rt rn (nI cd) sn (nI il) ztkb zamb at_2_4 aa2_5 0 0 (-1) wt wy2_6 0 (nI rm) (nI ud) (nI nu) sd (nI qn) (nI qw) qo (nI qb) (nI zqpb) qa (nI qi) (nI oc)), ra_I (g 24) cI 6 (l6 u0 u1 u2 u3 u4 u5), ra_I (g 25) cI 6 (l6 v0 v1 v2 v3 v4 v5), ra_N (g 26) cI 3200 cs, ra_I (g 31) cI 120 nw, ra_N (g 46) cI 9 pt, ra_J (g 86) cJ 1700 zqb, ra_I (g 20) cI 4 (l4 (nI l0) (nI l1) (nI dm) (nI l3)), ra_I (g 38) cI 90 ws_2_8, ra_I (g 36) cZ 900 yw2_9, ra_I (g 37) cZ 900 yo2_10, ra_J (g 43) cJ 90 be2_11, ra_J (g 44) cJ 90 bf2_12, ra_J (g 48) cJ 90 f_55]) hx hb hK hP hD hS 13 1 rfl rfl (vin (10 * (dd - 1) + jm) 90 (by omega) (Nat.le_of_ble_eq_true rfl)) (fun _ => rfl) dX12_laysPay_146 (fun f_55 H locs hP hD hS => ?_)
                          refine lv_iinc (v := nI (jm + 1)) (lv' := [(2, .int (nI (jm + 1))), (5, .int (nI kk)), (3, .long mo_), (1, .int (nI (dd - 1))), (0, .ref mm)]) hx hb dX12_laysPay_147 hl (k := 2) rfl (ninc jm 1 (by decide)) (by decide) rfl (fun ls hl => ?_)
                          refine lv_goto (tgt := 17) hx hb dX12_laysPay_150 (by decide) ?_
                          exact ih_lp_22 (jm + 1) zamb ztkb zqpb zqb f_55 _ _ _ (by omega) (by omega) hP hD hS (lv_sub hl [0, 3, 4] rfl)
                      · have c_45 : ¬ (dm - 1 ≤ dd - 1) := fun h => c_45 ((nle (dm - 1) (dd - 1) (by omega) (by omega)).mpr h)
                        refine lv_aload_n hx hb dX12_laysPay_61 rfl (lv_at hl 4 rfl) ?_
                        refine lv_iload_n hx hb dX12_laysPay_62 rfl (lv_at hl 3 rfl) ?_
                        refine lv_iconst (v := 1) hx hb dX12_laysPay_63 ic_1 ?_
                        refine lv_iadd hx hb dX12_laysPay_64 ?_
                        refine sk_top (nI (dd - 1 + 1)) (nI_add (dd - 1) 1) ?_
                        refine lv_iload_n hx hb dX12_laysPay_65 rfl (lv_at hl 2 rfl) ?_
                        refine lv_iload hx hb dX12_laysPay_66 (lv_at hl 0 rfl) ?_
                        refine sk_Vi (q0 := 0) (n := 3) (rest := []) (wr := fmR om_14_2218 _) ⟨hx, hb, hml, hown, hts⟩ hl.1 (c_m_canFollow0 l D cI cJ cC cZ cS mm g ta pa pe pd pb pp pf pg pn rt rn cd sn il ztkb zamb at_2_4 aa2_5 0 wt wy2_6 0 rm ud nu sd qn qw qo qb zqpb qa qi oc (dd - 1 + 1) jm kk nw yo2_10 yw2_9 (by omega) (by omega) (by omega) hnw) w_7_201 w_7_203 w_0_85 w_1_14 w_7_204 hd_X12_canFollow_3 ⟨⟨(Nat.le_of_ble_eq_true rfl), (Nat.le_of_ble_eq_true rfl)⟩, (Nat.le_of_ble_eq_true rfl), (Nat.le_of_ble_eq_true rfl)⟩ hK hP hD hS hA [0, 4, 10, 9] (fmF om_14_2218 0) rfl (fm_R rfl rfl) (by decide +kernel) (fm_nF om_14_2218 0) (by decide +kernel) rfl rfl rfl rfl (Nat.le_of_ble_eq_true rfl) dX12_laysPay_68 (fun r_57 u H locs hw hP hD hS => ?_)
                        refine exE hw (fun b_56 hw1 => anE hw1 (fun hb1_58 hw2 => anE hw2 (fun hb2_59 hw3 => anE hw3 (fun er_61 eu_60 => ?_))))
                        clear hw hw1 hw2 hw3
                        subst er_61
                        refine o_mgqE (ux := [ro_ mm 12 (mo g (nI ta) (nI pa) (nI pe) pd (nI pb) pp pf pg pn rt rn (nI cd) sn (nI il) ztkb zamb at_2_4 aa2_5 0 0 (-1) wt wy2_6 0 (nI rm) (nI ud) (nI nu) sd (nI qn) (nI qw) qo (nI qb) (nI zqpb) qa (nI qi) (nI oc)), ra_I (g 31) cI 120 nw, ra_I (g 36) cZ 900 yw2_9, ra_I (g 37) cZ 900 yo2_10]) (ws' := [ro_ mm 12 (mo g (nI ta) (nI pa) (nI pe) pd (nI pb) pp pf pg pn rt rn (nI cd) sn (nI il) ztkb zamb at_2_4 aa2_5 0 0 (-1) wt wy2_6 0 (nI rm) (nI ud) (nI nu) sd (nI qn) (nI qw) qo (nI qb) (nI zqpb) qa (nI qi) (nI oc)), ra_I (g 24) cI 6 (l6 u0 u1 u2 u3 u4 u5), ra_I (g 25) cI 6 (l6 v0 v1 v2 v3 v4 v5), ra_N (g 26) cI 3200 cs, ra_I (g 31) cI 120 nw, ra_N (g 46) cI 9 pt, ra_J (g 86) cJ 1700 zqb, ra_I (g 20) cI 4 (l4 (nI l0) (nI l1) (nI dm) (nI l3)), ra_I (g 38) cI 90 ws_2_8, ra_I (g 36) cZ 900 yw2_9, ra_I (g 37) cZ 900 yo2_10, ra_J (g 43) cJ 90 be2_11, ra_J (g 44) cJ 90 bf2_12, ra_J (g 48) cJ 90 zpb]) eu_60 [0, 1, 3, 2] (by decide +kernel) rfl hP hD rfl (fun hP hD => ?_)
                        refine lv_if_eq (tgt := 108) hx hb dX12_laysPay_71 (by decide) (fun c_62 => ?_) (fun c_62 => ?_)
                        · have c_62 : b_56 = 0 := (neq b_56 0 (by omega) (Nat.le_of_ble_eq_true rfl)).mp c_62
                          refine lv_iinc (v := nI (kk + 1)) (lv' := [(5, .int (nI (kk + 1))), (3, .long mo_), (2, .int (nI jm)), (1, .int (nI (dd - 1))), (0, .ref mm)]) hx hb dX12_laysPay_108 hl (k := 0) rfl (ninc kk 1 (by decide)) (by decide) rfl (fun ls hl => ?_)
                          refine lv_goto (tgt := 44) hx hb dX12_laysPay_111 (by decide) ?_
                          exact ih_lp_29 (kk + 1) mo_ _ _ _ (by omega) (by omega) hP hD hS (lv_sub hl [0, 1, 2, 3, 4] rfl)
                        · have c_62 : ¬ (b_56 = 0) := fun h => c_62 ((neq b_56 0 (by omega) (Nat.le_of_ble_eq_true rfl)).mpr h)
                          refine lv_aload_n hx hb dX12_laysPay_74 rfl (lv_at hl 4 rfl) ?_
                          refine sk_get (v := .ref (g 48)) (C := RX12) (T := TX12) (N := 92) hx hb hts inlX12 hown hK hP 0 rfl rfl 48 (Nat.le_of_ble_eq_true rfl) w_5_203 rfl dX12_laysPay_75 ?_
                          refine lv_bipush (v := 10) hx hb dX12_laysPay_78 (by decide) ?_
                          refine lv_iload_n hx hb dX12_laysPay_80 rfl (lv_at hl 3 rfl) ?_
                          refine lv_iconst (v := 1) hx hb dX12_laysPay_81 ic_1 ?_
                          refine lv_iadd hx hb dX12_laysPay_82 ?_
                          refine sk_top (nI (dd - 1 + 1)) (nI_add (dd - 1) 1) ?_
                          refine lv_imul hx hb dX12_laysPay_83 ?_
                          refine sk_top (nI (10 * (dd - 1 + 1))) (nmul 10 (dd - 1 + 1)) ?_
                          refine lv_iload hx hb dX12_laysPay_84 (lv_at hl 0 rfl) ?_
                          refine lv_iadd hx hb dX12_laysPay_86 ?_
                          refine sk_top (nI (10 * (dd - 1 + 1) + kk)) (nI_add (10 * (dd - 1 + 1)) kk) ?_
                          refine va_lald hx hb hK.1 hP 13 1 rfl rfl (vin (10 * (dd - 1 + 1) + kk) 90 (by omega) (Nat.le_of_ble_eq_true rfl)) dX12_laysPay_87 ?_
                          refine lv_topl (fun v_63 ev_63 => ?_)
                          refine lv_lload_n hx hb dX12_laysPay_88 rfl (lv_at hl 1 rfl) ?_
                          refine W.lcmp hx hb dX12_laysPay_89 ?_
                          refine lv_if_le (tgt := 108) hx hb dX12_laysPay_90 (by decide) (fun c_64 => ?_) (fun c_64 => ?_)
                          · skip
                            refine lv_iinc (v := nI (kk + 1)) (lv' := [(5, .int (nI (kk + 1))), (3, .long mo_), (2, .int (nI jm)), (1, .int (nI (dd - 1))), (0, .ref mm)]) hx hb dX12_laysPay_108 hl (k := 0) rfl (ninc kk 1 (by decide)) (by decide) rfl (fun ls hl => ?_)
                            refine lv_goto (tgt := 44) hx hb dX12_laysPay_111 (by decide) ?_
                            exact ih_lp_29 (kk + 1) mo_ _ _ _ (by omega) (by omega) hP hD hS (lv_sub hl [0, 1, 2, 3, 4] rfl)
                          · skip
                            refine lv_aload_n hx hb dX12_laysPay_93 rfl (lv_at hl 4 rfl) ?_
                            refine sk_get (v := .ref (g 48)) (C := RX12) (T := TX12) (N := 92) hx hb hts inlX12 hown hK hP 0 rfl rfl 48 (Nat.le_of_ble_eq_true rfl) w_5_203 rfl dX12_laysPay_94 ?_
                            refine lv_bipush (v := 10) hx hb dX12_laysPay_97 (by decide) ?_
                            refine lv_iload_n hx hb dX12_laysPay_99 rfl (lv_at hl 3 rfl) ?_
                            refine lv_iconst (v := 1) hx hb dX12_laysPay_100 ic_1 ?_
                            refine lv_iadd hx hb dX12_laysPay_101 ?_
                            refine sk_top (nI (dd - 1 + 1)) (nI_add (dd - 1) 1) ?_
                            refine lv_imul hx hb dX12_laysPay_102 ?_
                            refine sk_top (nI (10 * (dd - 1 + 1))) (nmul 10 (dd - 1 + 1)) ?_
                            refine lv_iload hx hb dX12_laysPay_103 (lv_at hl 0 rfl) ?_
                            refine lv_iadd hx hb dX12_laysPay_105 ?_
                            refine sk_top (nI (10 * (dd - 1 + 1) + kk)) (nI_add (10 * (dd - 1 + 1)) kk) ?_
                            refine va_lald hx hb hK.1 hP 13 1 rfl rfl (vin (10 * (dd - 1 + 1) + kk) 90 (by omega) (Nat.le_of_ble_eq_true rfl)) dX12_laysPay_106 ?_
                            refine lv_topl (fun v_65 ev_65 => ?_)
                            refine lv_lstore_n (lv' := [(3, .long v_65), (5, .int (nI kk)), (2, .int (nI jm)), (1, .int (nI (dd - 1))), (0, .ref mm)]) hx hb dX12_laysPay_107 rfl hl (by decide) rfl (fun ls hl => ?_)
                            refine lv_iinc (v := nI (kk + 1)) (lv' := [(5, .int (nI (kk + 1))), (3, .long v_65), (2, .int (nI jm)), (1, .int (nI (dd - 1))), (0, .ref mm)]) hx hb dX12_laysPay_108 hl (k := 1) rfl (ninc kk 1 (by decide)) (by decide) rfl (fun ls hl => ?_)
                            refine lv_goto (tgt := 44) hx hb dX12_laysPay_111 (by decide) ?_
                            exact ih_lp_29 (kk + 1) v_65 _ _ _ (by omega) (by omega) hP hD hS (lv_sub hl [0, 1, 2, 3, 4] rfl)
                exact lp_29 (10 - 0 + 1) 0 (-1000000000000000) _ _ _ (Nat.lt_succ_self _) (by omega) hP hD hS (lv_sub hl [0, 1, 2, 3, 4] rfl)
              · have c_28 : dd - 1 = dm - 1 := (neq (dd - 1) (dm - 1) (by omega) (by omega)).mp c_28
                refine lv_lconst (v := 0) hx hb dX12_laysPay_33 (by decide) ?_
                refine lv_goto (tgt := 40) hx hb dX12_laysPay_34 (by decide) ?_
                refine lv_lstore_n (lv' := [(3, .long 0), (2, .int (nI jm)), (1, .int (nI (dd - 1))), (0, .ref mm)]) hx hb dX12_laysPay_40 rfl hl (by decide) rfl (fun ls hl => ?_)
                refine lv_iconst (v := 0) hx hb dX12_laysPay_41 ic_0 ?_
                refine lv_istore (lv' := [(5, .int 0), (3, .long 0), (2, .int (nI jm)), (1, .int (nI (dd - 1))), (0, .ref mm)]) hx hb dX12_laysPay_42 hl (by decide) rfl (fun ls hl => ?_)
                have lp_66 : ∀ (n_67 : Nat) (kk : Nat) (mo_ : Int64) (H : Heap) (locs : List Loc) (ls : Array Slot), 10 - kk < n_67 → (kk ≤ 10) → va_P D vwCl [ro_ mm 12 (mo g (nI ta) (nI pa) (nI pe) pd (nI pb) pp pf pg pn rt rn (nI cd) sn (nI il) ztkb zamb at_2_4 aa2_5 0 0 (-1) wt wy2_6 0 (nI rm) (nI ud) (nI nu) sd (nI qn) (nI qw) qo (nI qb) (nI zqpb) qa (nI qi) (nI oc)), ra_I (g 24) cI 6 (l6 u0 u1 u2 u3 u4 u5), ra_I (g 25) cI 6 (l6 v0 v1 v2 v3 v4 v5), ra_N (g 26) cI 3200 cs, ra_I (g 31) cI 120 nw, ra_N (g 46) cI 9 pt, ra_J (g 86) cJ 1700 zqb, ra_I (g 20) cI 4 (l4 (nI l0) (nI l1) (nI dm) (nI l3)), ra_I (g 38) cI 90 ws_2_8, ra_I (g 36) cZ 900 yw2_9, ra_I (g 37) cZ 900 yo2_10, ra_J (g 43) cJ 90 be2_11, ra_J (g 44) cJ 90 bf2_12, ra_J (g 48) cJ 90 zpb] H → va_D A [ro_ mm 12 (mo g (nI ta) (nI pa) (nI pe) pd (nI pb) pp pf pg pn rt rn (nI cd) sn (nI il) ztkb zamb at_2_4 aa2_5 0 0 (-1) wt wy2_6 0 (nI rm) (nI ud) (nI nu) sd (nI qn) (nI qw) qo (nI qb) (nI zqpb) qa (nI qi) (nI oc)), ra_I (g 24) cI 6 (l6 u0 u1 u2 u3 u4 u5), ra_I (g 25) cI 6 (l6 v0 v1 v2 v3 v4 v5), ra_N (g 26) cI 3200 cs, ra_I (g 31) cI 120 nw, ra_N (g 46) cI 9 pt, ra_J (g 86) cJ 1700 zqb, ra_I (g 20) cI 4 (l4 (nI l0) (nI l1) (nI dm) (nI l3)), ra_I (g 38) cI 90 ws_2_8, ra_I (g 36) cZ 900 yw2_9, ra_I (g 37) cZ 900 yo2_10, ra_J (g 43) cJ 90 be2_11, ra_J (g 44) cJ 90 bf2_12, ra_J (g 48) cJ 90 zpb] → va_S A s.heap H locs → lv_has ls 6 [(5, .int (nI kk)), (3, .long mo_), (2, .int (nI jm)), (1, .int (nI (dd - 1))), (0, .ref mm)] → W p l e { frames := 6, cells := 0, slots := 0, locals := 142 } s m ([.ref mm] : List Value).toArray below meth c H locs 0 0 (MQ below (skV D (skT cI cJ cC cZ cS) (fun (u : va_W) => ∃ (tk2 : Int32), ∃ (qp2 : Nat), ∃ (am2 : Int32), ∃ (at_2 : Int32), ∃ (aa2 : Int32), ∃ (wy2 : Int64), ∃ (ql2 : Nat → Int64), ∃ (ws_2 : Nat → Int32), ∃ (yw2 : Nat → Int32), ∃ (yo2 : Nat → Int32), ∃ (be2 : Nat → Int64), ∃ (bf2 : Nat → Int64), ∃ (py2 : Nat → Int64), u = [ro_ mm 12 (mo g (nI ta) (nI pa) (nI pe) pd (nI pb) pp pf pg pn rt rn (nI cd) sn (nI il) tk2 am2 at_2 aa2 0 0 (-1) wt wy2 0 (nI rm) (nI ud) (nI nu) sd (nI qn) (nI qw) qo (nI qb) (nI qp2) qa (nI qi) (nI oc)), ra_I (g 24) cI 6 (l6 u0 u1 u2 u3 u4 u5), ra_I (g 25) cI 6 (l6 v0 v1 v2 v3 v4 v5), ra_N (g 26) cI 3200 cs, ra_I (g 31) cI 120 nw, ra_N (g 46) cI 9 pt, ra_J (g 86) cJ 1700 ql2, ra_I (g 20) cI 4 (l4 (nI l0) (nI l1) (nI dm) (nI l3)), ra_I (g 38) cI 90 ws_2, ra_I (g 36) cZ 900 yw2, ra_I (g 37) cZ 900 yo2, ra_J (g 43) cJ 90 be2, ra_J (g 44) cJ 90 bf2, ra_J (g 48) cJ 90 py2]) A) ([.ref mm] : List Value).toArray s 0 0 A) (F0 m 44 ls []) := by
                  intro n_67
                  induction n_67 with
                  | zero => intro kk mo_ H locs ls hm; exact absurd hm (Nat.not_lt_zero _)
                  | succ n_67 ih_lp_66 =>
                    intro kk mo_ H locs ls hm hkk hP hD hS hl
                    refine lv_iload hx hb dX12_laysPay_44 (lv_at hl 0 rfl) ?_
                    refine lv_bipush (v := 10) hx hb dX12_laysPay_46 (by decide) ?_
                    refine lv_icmp_ge (tgt := 114) hx hb dX12_laysPay_48 (by decide) (fun c_68 => ?_) (fun c_68 => ?_)
                    · have c_68 : 10 ≤ kk := (nle 10 kk (Nat.le_of_ble_eq_true rfl) (by omega)).mp c_68
                      refine lv_aload_n hx hb dX12_laysPay_114 rfl (lv_at hl 4 rfl) ?_
                      refine sk_get (v := .ref (g 48)) (C := RX12) (T := TX12) (N := 92) hx hb hts inlX12 hown hK hP 0 rfl rfl 48 (Nat.le_of_ble_eq_true rfl) w_5_203 rfl dX12_laysPay_115 ?_
                      refine lv_bipush (v := 10) hx hb dX12_laysPay_118 (by decide) ?_
                      refine lv_iload_n hx hb dX12_laysPay_120 rfl (lv_at hl 3 rfl) ?_
                      refine lv_imul hx hb dX12_laysPay_121 ?_
                      refine sk_top (nI (10 * (dd - 1))) (nmul 10 (dd - 1)) ?_
                      refine lv_iload_n hx hb dX12_laysPay_122 rfl (lv_at hl 2 rfl) ?_
                      refine lv_iadd hx hb dX12_laysPay_123 ?_
                      refine sk_top (nI (10 * (dd - 1) + jm)) (nI_add (10 * (dd - 1)) jm) ?_
                      refine lv_lload_n hx hb dX12_laysPay_124 rfl (lv_at hl 1 rfl) ?_
                      refine lv_ldc2 (v := (-1000000000000000)) hx hb hown (hts _ w_7_184) dX12_laysPay_125 ?_
                      refine W.lcmp hx hb dX12_laysPay_128 ?_
                      refine lv_if_ne (tgt := 138) hx hb dX12_laysPay_129 (by decide) (fun c_69 => ?_) (fun c_69 => ?_)
                      · skip
                        refine lv_lload_n hx hb dX12_laysPay_138 rfl (lv_at hl 1 rfl) ?_
                        refine lv_aload_n hx hb dX12_laysPay_139 rfl (lv_at hl 4 rfl) ?_
                        refine lv_iload_n hx hb dX12_laysPay_140 rfl (lv_at hl 3 rfl) ?_
                        refine lv_iload_n hx hb dX12_laysPay_141 rfl (lv_at hl 2 rfl) ?_
                        refine sk_Vl (q0 := 0) (n := 2) (rest := [.long mo_, .int (nI (10 * (dd - 1) + jm)), .ref (g 48)]) (wr := fmR om_14_3f80 _) ⟨hx, hb, hml, hown, hts⟩ hl.1 (c_m_wageOf l D cI cJ cC cZ cS mm g ta pa pe pd pb pp pf pg pn rt rn cd sn il ztkb zamb at_2_4 aa2_5 0 0 (-1) wt wy2_6 0 rm ud nu sd qn qw qo qb zqpb qa qi oc (dd - 1) (nI jm) u0 u1 u2 u3 u4 u5 v0 v1 v2 v3 v4 v5 cs nw pt zqb (by omega) hp2 hcs hnw hpt) w_8_45 w_8_47 w_0_97 w_1_14 w_8_48 hd_X12_wageOf_2 ⟨⟨(Nat.le_of_ble_eq_true rfl), (Nat.le_of_ble_eq_true rfl)⟩, (Nat.le_of_ble_eq_true rfl), (Nat.le_of_ble_eq_true rfl)⟩ hK hP hD hS hA (fmT om_14_3f80 0) (fmF om_14_3f80 0) (fm_C1 rfl rfl) (fm_R rfl rfl) (fm_nT om_14_3f80 0) (fm_nF om_14_3f80 0) (fm_di om_14_3f80 0) rfl rfl rfl rfl (Nat.le_of_ble_eq_true rfl) dX12_laysPay_142 (fun r_74 u H locs hw hP hD hS => ?_)
                        refine exE hw (fun tk2_70 hw1 => exE hw1 (fun qp2_71 hw2 => exE hw2 (fun am2_72 hw3 => exE hw3 (fun ql2_73 eu_75 => ?_))))
                        clear hw hw1 hw2 hw3
                        refine o_mgE (ws' := [ro_ mm 12 (mo g (nI ta) (nI pa) (nI pe) pd (nI pb) pp pf pg pn rt rn (nI cd) sn (nI il) tk2_70 am2_72 at_2_4 aa2_5 0 0 (-1) wt wy2_6 0 (nI rm) (nI ud) (nI nu) sd (nI qn) (nI qw) qo (nI qb) (nI qp2_71) qa (nI qi) (nI oc)), ra_I (g 24) cI 6 (l6 u0 u1 u2 u3 u4 u5), ra_I (g 25) cI 6 (l6 v0 v1 v2 v3 v4 v5), ra_N (g 26) cI 3200 cs, ra_I (g 31) cI 120 nw, ra_N (g 46) cI 9 pt, ra_J (g 86) cJ 1700 ql2_73, ra_I (g 20) cI 4 (l4 (nI l0) (nI l1) (nI dm) (nI l3)), ra_I (g 38) cI 90 ws_2_8, ra_I (g 36) cZ 900 yw2_9, ra_I (g 37) cZ 900 yo2_10, ra_J (g 43) cJ 90 be2_11, ra_J (g 44) cJ 90 bf2_12, ra_J (g 48) cJ 90 zpb]) eu_75 hP hD rfl (fun hP hD => ?_)
                        refine lv_ladd hx hb dX12_laysPay_145 ?_
                        refine lv_topl (fun v_76 ev_76 => ?_)
                        refine sk_lastO (ws' := fun f_77 => [ro_ mm 12 (mo g (nI ta) (nI pa) (nI pe) pd (nI pb) pp pf pg pn rt rn (nI cd) sn (nI il) tk2_70 am2_72 at_2_4 aa2_5 0 0 (-1) wt wy2_6 0 (nI rm) (nI ud) (nI nu) sd (nI qn) (nI qw) qo (nI qb) (nI qp2_71) qa (nI qi) (nI oc)), ra_I (g 24) cI 6 (l6 u0 u1 u2 u3 u4 u5), ra_I (g 25) cI 6 (l6 v0 v1 v2 v3 v4 v5), ra_N (g 26) cI 3200 cs, ra_I (g 31) cI 120 nw, ra_N (g 46) cI 9 pt, ra_J (g 86) cJ 1700 ql2_73, ra_I (g 20) cI 4 (l4 (nI l0) (nI l1) (nI dm) (nI l3)), ra_I (g 38) cI 90 ws_2_8, ra_I (g 36) cZ 900 yw2_9, ra_I (g 37) cZ 900 yo2_10, ra_J (g 43) cJ 90 be2_11, ra_J (g 44) cJ 90 bf2_12, ra_J (g 48) cJ 90 f_77]) hx hb hK hP hD hS 13 1 rfl rfl (vin (10 * (dd - 1) + jm) 90 (by omega) (Nat.le_of_ble_eq_true rfl)) (fun _ => rfl) dX12_laysPay_146 (fun f_77 H locs hP hD hS => ?_)
                        refine lv_iinc (v := nI (jm + 1)) (lv' := [(2, .int (nI (jm + 1))), (5, .int (nI kk)), (3, .long mo_), (1, .int (nI (dd - 1))), (0, .ref mm)]) hx hb dX12_laysPay_147 hl (k := 2) rfl (ninc jm 1 (by decide)) (by decide) rfl (fun ls hl => ?_)
                        refine lv_goto (tgt := 17) hx hb dX12_laysPay_150 (by decide) ?_
                        exact ih_lp_22 (jm + 1) am2_72 tk2_70 qp2_71 ql2_73 f_77 _ _ _ (by omega) (by omega) hP hD hS (lv_sub hl [0, 3, 4] rfl)
                      · skip
                        refine lv_ldc2 (v := (-1000000000000000)) hx hb hown (hts _ w_7_184) dX12_laysPay_132 ?_
                        refine lv_goto (tgt := 146) hx hb dX12_laysPay_135 (by decide) ?_
                        refine sk_lastO (ws' := fun f_78 => [ro_ mm 12 (mo g (nI ta) (nI pa) (nI pe) pd (nI pb) pp pf pg pn rt rn (nI cd) sn (nI il) ztkb zamb at_2_4 aa2_5 0 0 (-1) wt wy2_6 0 (nI rm) (nI ud) (nI nu) sd (nI qn) (nI qw) qo (nI qb) (nI zqpb) qa (nI qi) (nI oc)), ra_I (g 24) cI 6 (l6 u0 u1 u2 u3 u4 u5), ra_I (g 25) cI 6 (l6 v0 v1 v2 v3 v4 v5), ra_N (g 26) cI 3200 cs, ra_I (g 31) cI 120 nw, ra_N (g 46) cI 9 pt, ra_J (g 86) cJ 1700 zqb, ra_I (g 20) cI 4 (l4 (nI l0) (nI l1) (nI dm) (nI l3)), ra_I (g 38) cI 90 ws_2_8, ra_I (g 36) cZ 900 yw2_9, ra_I (g 37) cZ 900 yo2_10, ra_J (g 43) cJ 90 be2_11, ra_J (g 44) cJ 90 bf2_12, ra_J (g 48) cJ 90 f_78]) hx hb hK hP hD hS 13 1 rfl rfl (vin (10 * (dd - 1) + jm) 90 (by omega) (Nat.le_of_ble_eq_true rfl)) (fun _ => rfl) dX12_laysPay_146 (fun f_78 H locs hP hD hS => ?_)
                        refine lv_iinc (v := nI (jm + 1)) (lv' := [(2, .int (nI (jm + 1))), (5, .int (nI kk)), (3, .long mo_), (1, .int (nI (dd - 1))), (0, .ref mm)]) hx hb dX12_laysPay_147 hl (k := 2) rfl (ninc jm 1 (by decide)) (by decide) rfl (fun ls hl => ?_)
                        refine lv_goto (tgt := 17) hx hb dX12_laysPay_150 (by decide) ?_
                        exact ih_lp_22 (jm + 1) zamb ztkb zqpb zqb f_78 _ _ _ (by omega) (by omega) hP hD hS (lv_sub hl [0, 3, 4] rfl)
                    · have c_68 : ¬ (10 ≤ kk) := fun h => c_68 ((nle 10 kk (Nat.le_of_ble_eq_true rfl) (by omega)).mpr h)
                      refine lv_iload_n hx hb dX12_laysPay_51 rfl (lv_at hl 3 rfl) ?_
                      refine lv_aload_n hx hb dX12_laysPay_52 rfl (lv_at hl 4 rfl) ?_
                      refine sk_Vi (q0 := 0) (n := 0) (rest := [.int (nI (dd - 1))]) (wr := fmR om_14_2040 _) ⟨hx, hb, hml, hown, hts⟩ hl.1 (c_m_dayMany l D cI cJ cC cZ cS mm g ta pa pe pd pb pp pf pg pn rt rn cd sn il ztkb zamb at_2_4 aa2_5 0 0 (-1) wt wy2_6 0 rm ud nu sd qn qw qo qb zqpb qa qi oc l0 l1 dm l3) w_7_98 w_7_100 w_0_69 w_1_14 w_7_101 hd_X12_dayMany_0 ⟨⟨(Nat.le_of_ble_eq_true rfl), (Nat.le_of_ble_eq_true rfl)⟩, (Nat.le_of_ble_eq_true rfl), (Nat.le_of_ble_eq_true rfl)⟩ hK hP hD hS hA (fmT om_14_2040 0) (fmF om_14_2040 0) (fm_C1 rfl rfl) (fm_R rfl rfl) (fm_nT om_14_2040 0) (fm_nF om_14_2040 0) (fm_di om_14_2040 0) rfl rfl rfl rfl (Nat.le_of_ble_eq_true rfl) dX12_laysPay_53 (fun r_79 u H locs hw hP hD hS => ?_)
                      refine anE hw (fun er_81 eu_80 => ?_)
                      clear hw
                      subst er_81
                      refine o_mgE (ws' := [ro_ mm 12 (mo g (nI ta) (nI pa) (nI pe) pd (nI pb) pp pf pg pn rt rn (nI cd) sn (nI il) ztkb zamb at_2_4 aa2_5 0 0 (-1) wt wy2_6 0 (nI rm) (nI ud) (nI nu) sd (nI qn) (nI qw) qo (nI qb) (nI zqpb) qa (nI qi) (nI oc)), ra_I (g 24) cI 6 (l6 u0 u1 u2 u3 u4 u5), ra_I (g 25) cI 6 (l6 v0 v1 v2 v3 v4 v5), ra_N (g 26) cI 3200 cs, ra_I (g 31) cI 120 nw, ra_N (g 46) cI 9 pt, ra_J (g 86) cJ 1700 zqb, ra_I (g 20) cI 4 (l4 (nI l0) (nI l1) (nI dm) (nI l3)), ra_I (g 38) cI 90 ws_2_8, ra_I (g 36) cZ 900 yw2_9, ra_I (g 37) cZ 900 yo2_10, ra_J (g 43) cJ 90 be2_11, ra_J (g 44) cJ 90 bf2_12, ra_J (g 48) cJ 90 zpb]) eu_80 hP hD rfl (fun hP hD => ?_)
                      refine lv_iconst (v := 1) hx hb dX12_laysPay_56 ic_1 ?_
                      refine lv_isub hx hb dX12_laysPay_57 ?_
                      refine sk_top (nI (dm - 1)) (nsub dm 1 (by omega)) ?_
                      refine lv_icmp_ge (tgt := 114) hx hb dX12_laysPay_58 (by decide) (fun c_82 => ?_) (fun c_82 => ?_)
                      · have c_82 : dm - 1 ≤ dd - 1 := (nle (dm - 1) (dd - 1) (by omega) (by omega)).mp c_82
                        refine lv_aload_n hx hb dX12_laysPay_114 rfl (lv_at hl 4 rfl) ?_
                        refine sk_get (v := .ref (g 48)) (C := RX12) (T := TX12) (N := 92) hx hb hts inlX12 hown hK hP 0 rfl rfl 48 (Nat.le_of_ble_eq_true rfl) w_5_203 rfl dX12_laysPay_115 ?_
                        refine lv_bipush (v := 10) hx hb dX12_laysPay_118 (by decide) ?_
                        refine lv_iload_n hx hb dX12_laysPay_120 rfl (lv_at hl 3 rfl) ?_
                        refine lv_imul hx hb dX12_laysPay_121 ?_
                        refine sk_top (nI (10 * (dd - 1))) (nmul 10 (dd - 1)) ?_
                        refine lv_iload_n hx hb dX12_laysPay_122 rfl (lv_at hl 2 rfl) ?_
                        refine lv_iadd hx hb dX12_laysPay_123 ?_
                        refine sk_top (nI (10 * (dd - 1) + jm)) (nI_add (10 * (dd - 1)) jm) ?_
                        refine lv_lload_n hx hb dX12_laysPay_124 rfl (lv_at hl 1 rfl) ?_
                        refine lv_ldc2 (v := (-1000000000000000)) hx hb hown (hts _ w_7_184) dX12_laysPay_125 ?_
                        refine W.lcmp hx hb dX12_laysPay_128 ?_
                        refine lv_if_ne (tgt := 138) hx hb dX12_laysPay_129 (by decide) (fun c_83 => ?_) (fun c_83 => ?_)
                        · skip
                          refine lv_lload_n hx hb dX12_laysPay_138 rfl (lv_at hl 1 rfl) ?_
                          refine lv_aload_n hx hb dX12_laysPay_139 rfl (lv_at hl 4 rfl) ?_
                          refine lv_iload_n hx hb dX12_laysPay_140 rfl (lv_at hl 3 rfl) ?_
                          refine lv_iload_n hx hb dX12_laysPay_141 rfl (lv_at hl 2 rfl) ?_
                          refine sk_Vl (q0 := 0) (n := 2) (rest := [.long mo_, .int (nI (10 * (dd - 1) + jm)), .ref (g 48)]) (wr := fmR om_14_3f80 _) ⟨hx, hb, hml, hown, hts⟩ hl.1 (c_m_wageOf l D cI cJ cC cZ cS mm g ta pa pe pd pb pp pf pg pn rt rn cd sn il ztkb zamb at_2_4 aa2_5 0 0 (-1) wt wy2_6 0 rm ud nu sd qn qw qo qb zqpb qa qi oc (dd - 1) (nI jm) u0 u1 u2 u3 u4 u5 v0 v1 v2 v3 v4 v5 cs nw pt zqb (by omega) hp2 hcs hnw hpt) w_8_45 w_8_47 w_0_97 w_1_14 w_8_48 hd_X12_wageOf_2 ⟨⟨(Nat.le_of_ble_eq_true rfl), (Nat.le_of_ble_eq_true rfl)⟩, (Nat.le_of_ble_eq_true rfl), (Nat.le_of_ble_eq_true rfl)⟩ hK hP hD hS hA (fmT om_14_3f80 0) (fmF om_14_3f80 0) (fm_C1 rfl rfl) (fm_R rfl rfl) (fm_nT om_14_3f80 0) (fm_nF om_14_3f80 0) (fm_di om_14_3f80 0) rfl rfl rfl rfl (Nat.le_of_ble_eq_true rfl) dX12_laysPay_142 (fun r_88 u H locs hw hP hD hS => ?_)
                          refine exE hw (fun tk2_84 hw1 => exE hw1 (fun qp2_85 hw2 => exE hw2 (fun am2_86 hw3 => exE hw3 (fun ql2_87 eu_89 => ?_))))
                          clear hw hw1 hw2 hw3
                          refine o_mgE (ws' := [ro_ mm 12 (mo g (nI ta) (nI pa) (nI pe) pd (nI pb) pp pf pg pn rt rn (nI cd) sn (nI il) tk2_84 am2_86 at_2_4 aa2_5 0 0 (-1) wt wy2_6 0 (nI rm) (nI ud) (nI nu) sd (nI qn) (nI qw) qo (nI qb) (nI qp2_85) qa (nI qi) (nI oc)), ra_I (g 24) cI 6 (l6 u0 u1 u2 u3 u4 u5), ra_I (g 25) cI 6 (l6 v0 v1 v2 v3 v4 v5), ra_N (g 26) cI 3200 cs, ra_I (g 31) cI 120 nw, ra_N (g 46) cI 9 pt, ra_J (g 86) cJ 1700 ql2_87, ra_I (g 20) cI 4 (l4 (nI l0) (nI l1) (nI dm) (nI l3)), ra_I (g 38) cI 90 ws_2_8, ra_I (g 36) cZ 900 yw2_9, ra_I (g 37) cZ 900 yo2_10, ra_J (g 43) cJ 90 be2_11, ra_J (g 44) cJ 90 bf2_12, ra_J (g 48) cJ 90 zpb]) eu_89 hP hD rfl (fun hP hD => ?_)
                          refine lv_ladd hx hb dX12_laysPay_145 ?_
                          refine lv_topl (fun v_90 ev_90 => ?_)
                          refine sk_lastO (ws' := fun f_91 => [ro_ mm 12 (mo g (nI ta) (nI pa) (nI pe) pd (nI pb) pp pf pg pn rt rn (nI cd) sn (nI il) tk2_84 am2_86 at_2_4 aa2_5 0 0 (-1) wt wy2_6 0 (nI rm) (nI ud) (nI nu) sd (nI qn) (nI qw) qo (nI qb) (nI qp2_85) qa (nI qi) (nI oc)), ra_I (g 24) cI 6 (l6 u0 u1 u2 u3 u4 u5), ra_I (g 25) cI 6 (l6 v0 v1 v2 v3 v4 v5), ra_N (g 26) cI 3200 cs, ra_I (g 31) cI 120 nw, ra_N (g 46) cI 9 pt, ra_J (g 86) cJ 1700 ql2_87, ra_I (g 20) cI 4 (l4 (nI l0) (nI l1) (nI dm) (nI l3)), ra_I (g 38) cI 90 ws_2_8, ra_I (g 36) cZ 900 yw2_9, ra_I (g 37) cZ 900 yo2_10, ra_J (g 43) cJ 90 be2_11, ra_J (g 44) cJ 90 bf2_12, ra_J (g 48) cJ 90 f_91]) hx hb hK hP hD hS 13 1 rfl rfl (vin (10 * (dd - 1) + jm) 90 (by omega) (Nat.le_of_ble_eq_true rfl)) (fun _ => rfl) dX12_laysPay_146 (fun f_91 H locs hP hD hS => ?_)
                          refine lv_iinc (v := nI (jm + 1)) (lv' := [(2, .int (nI (jm + 1))), (5, .int (nI kk)), (3, .long mo_), (1, .int (nI (dd - 1))), (0, .ref mm)]) hx hb dX12_laysPay_147 hl (k := 2) rfl (ninc jm 1 (by decide)) (by decide) rfl (fun ls hl => ?_)
                          refine lv_goto (tgt := 17) hx hb dX12_laysPay_150 (by decide) ?_
                          exact ih_lp_22 (jm + 1) am2_86 tk2_84 qp2_85 ql2_87 f_91 _ _ _ (by omega) (by omega) hP hD hS (lv_sub hl [0, 3, 4] rfl)
                        · skip
                          refine lv_ldc2 (v := (-1000000000000000)) hx hb hown (hts _ w_7_184) dX12_laysPay_132 ?_
                          refine lv_goto (tgt := 146) hx hb dX12_laysPay_135 (by decide) ?_
                          refine sk_lastO (ws' := fun f_92 => [ro_ mm 12 (mo g (nI ta) (nI pa) (nI pe) pd (nI pb) pp pf pg pn rt rn (nI cd) sn (nI il) ztkb zamb at_2_4 aa2_5 0 0 (-1) wt wy2_6 0 (nI rm) (nI ud) (nI nu) sd (nI qn) (nI qw) qo (nI qb) (nI zqpb) qa (nI qi) (nI oc)), ra_I (g 24) cI 6 (l6 u0 u1 u2 u3 u4 u5), ra_I (g 25) cI 6 (l6 v0 v1 v2 v3 v4 v5), ra_N (g 26) cI 3200 cs, ra_I (g 31) cI 120 nw, ra_N (g 46) cI 9 pt, ra_J (g 86) cJ 1700 zqb, ra_I (g 20) cI 4 (l4 (nI l0) (nI l1) (nI dm) (nI l3)), ra_I (g 38) cI 90 ws_2_8, ra_I (g 36) cZ 900 yw2_9, ra_I (g 37) cZ 900 yo2_10, ra_J (g 43) cJ 90 be2_11, ra_J (g 44) cJ 90 bf2_12, ra_J (g 48) cJ 90 f_92]) hx hb hK hP hD hS 13 1 rfl rfl (vin (10 * (dd - 1) + jm) 90 (by omega) (Nat.le_of_ble_eq_true rfl)) (fun _ => rfl) dX12_laysPay_146 (fun f_92 H locs hP hD hS => ?_)
                          refine lv_iinc (v := nI (jm + 1)) (lv' := [(2, .int (nI (jm + 1))), (5, .int (nI kk)), (3, .long mo_), (1, .int (nI (dd - 1))), (0, .ref mm)]) hx hb dX12_laysPay_147 hl (k := 2) rfl (ninc jm 1 (by decide)) (by decide) rfl (fun ls hl => ?_)
                          refine lv_goto (tgt := 17) hx hb dX12_laysPay_150 (by decide) ?_
                          exact ih_lp_22 (jm + 1) zamb ztkb zqpb zqb f_92 _ _ _ (by omega) (by omega) hP hD hS (lv_sub hl [0, 3, 4] rfl)
                      · have c_82 : ¬ (dm - 1 ≤ dd - 1) := fun h => c_82 ((nle (dm - 1) (dd - 1) (by omega) (by omega)).mpr h)
                        refine lv_aload_n hx hb dX12_laysPay_61 rfl (lv_at hl 4 rfl) ?_
                        refine lv_iload_n hx hb dX12_laysPay_62 rfl (lv_at hl 3 rfl) ?_
                        refine lv_iconst (v := 1) hx hb dX12_laysPay_63 ic_1 ?_
                        refine lv_iadd hx hb dX12_laysPay_64 ?_
                        refine sk_top (nI (dd - 1 + 1)) (nI_add (dd - 1) 1) ?_
                        refine lv_iload_n hx hb dX12_laysPay_65 rfl (lv_at hl 2 rfl) ?_
                        refine lv_iload hx hb dX12_laysPay_66 (lv_at hl 0 rfl) ?_
                        refine sk_Vi (q0 := 0) (n := 3) (rest := []) (wr := fmR om_14_2218 _) ⟨hx, hb, hml, hown, hts⟩ hl.1 (c_m_canFollow0 l D cI cJ cC cZ cS mm g ta pa pe pd pb pp pf pg pn rt rn cd sn il ztkb zamb at_2_4 aa2_5 0 wt wy2_6 0 rm ud nu sd qn qw qo qb zqpb qa qi oc (dd - 1 + 1) jm kk nw yo2_10 yw2_9 (by omega) (by omega) (by omega) hnw) w_7_201 w_7_203 w_0_85 w_1_14 w_7_204 hd_X12_canFollow_3 ⟨⟨(Nat.le_of_ble_eq_true rfl), (Nat.le_of_ble_eq_true rfl)⟩, (Nat.le_of_ble_eq_true rfl), (Nat.le_of_ble_eq_true rfl)⟩ hK hP hD hS hA [0, 4, 10, 9] (fmF om_14_2218 0) rfl (fm_R rfl rfl) (by decide +kernel) (fm_nF om_14_2218 0) (by decide +kernel) rfl rfl rfl rfl (Nat.le_of_ble_eq_true rfl) dX12_laysPay_68 (fun r_94 u H locs hw hP hD hS => ?_)
                        refine exE hw (fun b_93 hw1 => anE hw1 (fun hb1_95 hw2 => anE hw2 (fun hb2_96 hw3 => anE hw3 (fun er_98 eu_97 => ?_))))
                        clear hw hw1 hw2 hw3
                        subst er_98
                        refine o_mgqE (ux := [ro_ mm 12 (mo g (nI ta) (nI pa) (nI pe) pd (nI pb) pp pf pg pn rt rn (nI cd) sn (nI il) ztkb zamb at_2_4 aa2_5 0 0 (-1) wt wy2_6 0 (nI rm) (nI ud) (nI nu) sd (nI qn) (nI qw) qo (nI qb) (nI zqpb) qa (nI qi) (nI oc)), ra_I (g 31) cI 120 nw, ra_I (g 36) cZ 900 yw2_9, ra_I (g 37) cZ 900 yo2_10]) (ws' := [ro_ mm 12 (mo g (nI ta) (nI pa) (nI pe) pd (nI pb) pp pf pg pn rt rn (nI cd) sn (nI il) ztkb zamb at_2_4 aa2_5 0 0 (-1) wt wy2_6 0 (nI rm) (nI ud) (nI nu) sd (nI qn) (nI qw) qo (nI qb) (nI zqpb) qa (nI qi) (nI oc)), ra_I (g 24) cI 6 (l6 u0 u1 u2 u3 u4 u5), ra_I (g 25) cI 6 (l6 v0 v1 v2 v3 v4 v5), ra_N (g 26) cI 3200 cs, ra_I (g 31) cI 120 nw, ra_N (g 46) cI 9 pt, ra_J (g 86) cJ 1700 zqb, ra_I (g 20) cI 4 (l4 (nI l0) (nI l1) (nI dm) (nI l3)), ra_I (g 38) cI 90 ws_2_8, ra_I (g 36) cZ 900 yw2_9, ra_I (g 37) cZ 900 yo2_10, ra_J (g 43) cJ 90 be2_11, ra_J (g 44) cJ 90 bf2_12, ra_J (g 48) cJ 90 zpb]) eu_97 [0, 1, 3, 2] (by decide +kernel) rfl hP hD rfl (fun hP hD => ?_)
                        refine lv_if_eq (tgt := 108) hx hb dX12_laysPay_71 (by decide) (fun c_99 => ?_) (fun c_99 => ?_)
                        · have c_99 : b_93 = 0 := (neq b_93 0 (by omega) (Nat.le_of_ble_eq_true rfl)).mp c_99
                          refine lv_iinc (v := nI (kk + 1)) (lv' := [(5, .int (nI (kk + 1))), (3, .long mo_), (2, .int (nI jm)), (1, .int (nI (dd - 1))), (0, .ref mm)]) hx hb dX12_laysPay_108 hl (k := 0) rfl (ninc kk 1 (by decide)) (by decide) rfl (fun ls hl => ?_)
                          refine lv_goto (tgt := 44) hx hb dX12_laysPay_111 (by decide) ?_
                          exact ih_lp_66 (kk + 1) mo_ _ _ _ (by omega) (by omega) hP hD hS (lv_sub hl [0, 1, 2, 3, 4] rfl)
                        · have c_99 : ¬ (b_93 = 0) := fun h => c_99 ((neq b_93 0 (by omega) (Nat.le_of_ble_eq_true rfl)).mpr h)
                          refine lv_aload_n hx hb dX12_laysPay_74 rfl (lv_at hl 4 rfl) ?_
                          refine sk_get (v := .ref (g 48)) (C := RX12) (T := TX12) (N := 92) hx hb hts inlX12 hown hK hP 0 rfl rfl 48 (Nat.le_of_ble_eq_true rfl) w_5_203 rfl dX12_laysPay_75 ?_
                          refine lv_bipush (v := 10) hx hb dX12_laysPay_78 (by decide) ?_
                          refine lv_iload_n hx hb dX12_laysPay_80 rfl (lv_at hl 3 rfl) ?_
                          refine lv_iconst (v := 1) hx hb dX12_laysPay_81 ic_1 ?_
                          refine lv_iadd hx hb dX12_laysPay_82 ?_
                          refine sk_top (nI (dd - 1 + 1)) (nI_add (dd - 1) 1) ?_
                          refine lv_imul hx hb dX12_laysPay_83 ?_
                          refine sk_top (nI (10 * (dd - 1 + 1))) (nmul 10 (dd - 1 + 1)) ?_
                          refine lv_iload hx hb dX12_laysPay_84 (lv_at hl 0 rfl) ?_
                          refine lv_iadd hx hb dX12_laysPay_86 ?_
                          refine sk_top (nI (10 * (dd - 1 + 1) + kk)) (nI_add (10 * (dd - 1 + 1)) kk) ?_
                          refine va_lald hx hb hK.1 hP 13 1 rfl rfl (vin (10 * (dd - 1 + 1) + kk) 90 (by omega) (Nat.le_of_ble_eq_true rfl)) dX12_laysPay_87 ?_
                          refine lv_topl (fun v_100 ev_100 => ?_)
                          refine lv_lload_n hx hb dX12_laysPay_88 rfl (lv_at hl 1 rfl) ?_
                          refine W.lcmp hx hb dX12_laysPay_89 ?_
                          refine lv_if_le (tgt := 108) hx hb dX12_laysPay_90 (by decide) (fun c_101 => ?_) (fun c_101 => ?_)
                          · skip
                            refine lv_iinc (v := nI (kk + 1)) (lv' := [(5, .int (nI (kk + 1))), (3, .long mo_), (2, .int (nI jm)), (1, .int (nI (dd - 1))), (0, .ref mm)]) hx hb dX12_laysPay_108 hl (k := 0) rfl (ninc kk 1 (by decide)) (by decide) rfl (fun ls hl => ?_)
                            refine lv_goto (tgt := 44) hx hb dX12_laysPay_111 (by decide) ?_
                            exact ih_lp_66 (kk + 1) mo_ _ _ _ (by omega) (by omega) hP hD hS (lv_sub hl [0, 1, 2, 3, 4] rfl)
                          · skip
                            refine lv_aload_n hx hb dX12_laysPay_93 rfl (lv_at hl 4 rfl) ?_
                            refine sk_get (v := .ref (g 48)) (C := RX12) (T := TX12) (N := 92) hx hb hts inlX12 hown hK hP 0 rfl rfl 48 (Nat.le_of_ble_eq_true rfl) w_5_203 rfl dX12_laysPay_94 ?_
                            refine lv_bipush (v := 10) hx hb dX12_laysPay_97 (by decide) ?_
                            refine lv_iload_n hx hb dX12_laysPay_99 rfl (lv_at hl 3 rfl) ?_
                            refine lv_iconst (v := 1) hx hb dX12_laysPay_100 ic_1 ?_
                            refine lv_iadd hx hb dX12_laysPay_101 ?_
                            refine sk_top (nI (dd - 1 + 1)) (nI_add (dd - 1) 1) ?_
                            refine lv_imul hx hb dX12_laysPay_102 ?_
                            refine sk_top (nI (10 * (dd - 1 + 1))) (nmul 10 (dd - 1 + 1)) ?_
                            refine lv_iload hx hb dX12_laysPay_103 (lv_at hl 0 rfl) ?_
                            refine lv_iadd hx hb dX12_laysPay_105 ?_
                            refine sk_top (nI (10 * (dd - 1 + 1) + kk)) (nI_add (10 * (dd - 1 + 1)) kk) ?_
                            refine va_lald hx hb hK.1 hP 13 1 rfl rfl (vin (10 * (dd - 1 + 1) + kk) 90 (by omega) (Nat.le_of_ble_eq_true rfl)) dX12_laysPay_106 ?_
                            refine lv_topl (fun v_102 ev_102 => ?_)
                            refine lv_lstore_n (lv' := [(3, .long v_102), (5, .int (nI kk)), (2, .int (nI jm)), (1, .int (nI (dd - 1))), (0, .ref mm)]) hx hb dX12_laysPay_107 rfl hl (by decide) rfl (fun ls hl => ?_)
                            refine lv_iinc (v := nI (kk + 1)) (lv' := [(5, .int (nI (kk + 1))), (3, .long v_102), (2, .int (nI jm)), (1, .int (nI (dd - 1))), (0, .ref mm)]) hx hb dX12_laysPay_108 hl (k := 1) rfl (ninc kk 1 (by decide)) (by decide) rfl (fun ls hl => ?_)
                            refine lv_goto (tgt := 44) hx hb dX12_laysPay_111 (by decide) ?_
                            exact ih_lp_66 (kk + 1) v_102 _ _ _ (by omega) (by omega) hP hD hS (lv_sub hl [0, 1, 2, 3, 4] rfl)
                exact lp_66 (10 - 0 + 1) 0 0 _ _ _ (Nat.lt_succ_self _) (by omega) hP hD hS (lv_sub hl [0, 1, 2, 3, 4] rfl)
        exact lp_22 (10 - 0 + 1) 0 zama ztka zqpa zqa zpa _ _ _ (Nat.lt_succ_self _) (by omega) hP hD hS (lv_sub hl [0, 1, 2] rfl)
  exact lp_19 (dm + 1) dm am2_3 tk2_1 qp2_2 ql2_7 py _ _ _ (Nat.lt_succ_self _) (by omega) hP hD hS (lv_sub hl [0, 1] rfl)
def mdOk (x : Int32) : Prop := (∃ k : Nat, k ≤ 9 ∧ x = nI k) ∨ x = -1
def mdAt (x : Int32) (d : Nat) : Prop := (∃ k : Nat, k ≤ 9 ∧ x = nI k) ∨ (1 ≤ d ∧ x = -1)
theorem mdOk_k {x : Int32} (h : mdOk x) (hc : ¬ x = -1) : ∃ k : Nat, k ≤ 9 ∧ x = nI k := Or.resolve_right h hc
theorem mdOk_n {k : Nat} (h : k ≤ 9) : mdOk (nI k) := Or.inl ⟨k, h, rfl⟩
theorem mdAt_n {k d : Nat} (h : k ≤ 9) : mdAt (nI k) d := Or.inl ⟨k, h, rfl⟩
theorem mdOk_at {x : Int32} {d : Nat} (h : mdOk x) (hd : 1 ≤ d) : mdAt x d := Or.elim h Or.inl (fun q => Or.inr ⟨hd, q⟩)
theorem idxI {d : Nat} {a : Int32} (hd : d < 9) (h : mdAt a d) : ∃ k : Nat, k ≤ 890 ∧ nI (100 * d) + 10 * a = nI k := by
  rcases h with ⟨k, hk, rfl⟩ | ⟨h1, rfl⟩
  · exact ⟨100 * d + 10 * k, by omega, by rw [show (10 : Int32) = nI 10 from rfl, nmul, nI_add]⟩
  · have h2 := nP10 d 0 (by omega)
    rw [show nI 0 - 1 = -1 by decide] at h2
    exact ⟨_, by omega, h2⟩
theorem add_k {a k : Nat} {x : Int32} (h : x = nI k) : nI a + x = nI (a + k) := by rw [h, nI_add]
set_option maxHeartbeats 4000000 in
set_option maxRecDepth 100000 in
theorem c_m_canFollowI (l : Launch) (D : va_G) (cI cJ cC cZ cS : ClassId) (mm : Nat) (g : Nat → Nat) (ta : Nat) (pa : Nat) (pe : Nat) (pd : Int32) (pb : Nat) (pp : Int32) (pf : Int32) (pg : Int32) (pn : Int32) (rt : Int32) (rn : Int32) (cd : Nat) (sn : Int32) (il : Nat) (tk : Int32) (am : Int32) (at_ : Int32) (aa : Int32) (wt : Int32) (wy : Int64) (rm : Nat) (ud : Nat) (nu : Nat) (sd : Int64) (qn : Nat) (qw : Nat) (qo : Int32) (qb : Nat) (qp : Nat) (qa : Int64) (qi : Nat) (oc : Nat) (d : Nat) (aa_ : Int32) (o : Nat) (nw : Nat → Int32) (yo : Nat → Int32) (yw : Nat → Int32) (hd : d < 9) (ho : o < 10) (hav : mdAt aa_ d) (hnw : nowOk nw) : skM l yX12_canFollow cX12_canFollow 5 (some .boolean) 2 42 0 0 D (skT cI cJ cC cZ cS) [.ref mm, .int (nI d), .int aa_, .int (nI o)] [ro_ mm 12 (mo g (nI ta) (nI pa) (nI pe) pd (nI pb) pp pf pg pn rt rn (nI cd) sn (nI il) tk am at_ aa 0 0 (-1) wt wy 0 (nI rm) (nI ud) (nI nu) sd (nI qn) (nI qw) qo (nI qb) (nI qp) qa (nI qi) (nI oc)), ra_I (g 31) cI 120 nw, ra_I (g 37) cZ 900 yo, ra_I (g 36) cZ 900 yw] (skI D (skT cI cJ cC cZ cS) (fun (r : Int32) (u : va_W) => ∃ (b : Nat), b ≤ 1 ∧ r = nI b ∧ u = [ro_ mm 12 (mo g (nI ta) (nI pa) (nI pe) pd (nI pb) pp pf pg pn rt rn (nI cd) sn (nI il) tk am at_ aa 0 0 (-1) wt wy 0 (nI rm) (nI ud) (nI nu) sd (nI qn) (nI qw) qo (nI qb) (nI qp) qa (nI qi) (nI oc)), ra_I (g 31) cI 120 nw, ra_I (g 37) cZ 900 yo, ra_I (g 36) cZ 900 yw])) := by
  refine skM_of pf_X12_canFollow (Nat.le_of_ble_eq_true rfl) ?_
  intro p e s m below meth c A ls E hP hD hl
  refine skE_el E (fun hx hb hr hml hlocks hin hown hts hK hA => ?_)
  have hown : s.vm.findClass RX12 = some m.cls := hown
  have hS : va_S A s.heap s.heap [] := va_S.rf
  have hl : lv_has ls 5 [(0, .ref mm), (1, .int (nI d)), (2, .int aa_), (3, .int (nI o))] := hl
  refine lv_bipush (v := 100) hx hb dX12_canFollow_0 (by decide) ?_
  refine lv_iload_n hx hb dX12_canFollow_2 rfl (lv_at hl 1 rfl) ?_
  refine lv_imul hx hb dX12_canFollow_3 ?_
  refine sk_top (nI (100 * d)) (nmul 100 d) ?_
  refine lv_bipush (v := 10) hx hb dX12_canFollow_4 (by decide) ?_
  refine lv_iload_n hx hb dX12_canFollow_6 rfl (lv_at hl 2 rfl) ?_
  refine lv_imul hx hb dX12_canFollow_7 ?_
  refine lv_iadd hx hb dX12_canFollow_8 ?_
  obtain ⟨kx, hkx, ekx⟩ := idxI hd hav
  refine sk_top (nI kx) ekx ?_
  refine lv_iload_n hx hb dX12_canFollow_9 rfl (lv_at hl 3 rfl) ?_
  refine lv_iadd hx hb dX12_canFollow_10 ?_
  refine sk_top (nI (kx + o)) (nI_add kx o) ?_
  refine lv_istore (lv' := [(4, .int (nI (kx + o))), (0, .ref mm), (1, .int (nI d)), (2, .int aa_), (3, .int (nI o))]) hx hb dX12_canFollow_11 hl (by decide) rfl (fun ls hl => ?_)
  refine lv_aload_n hx hb dX12_canFollow_13 rfl (lv_at hl 1 rfl) ?_
  refine lv_iload_n hx hb dX12_canFollow_14 rfl (lv_at hl 2 rfl) ?_
  refine sk_Vi (q0 := 0) (n := 1) (rest := []) (wr := fmR om_4_c _) ⟨hx, hb, hml, hown, hts⟩ hl.1 (c_m_isMuteNow l D cI cJ cC cZ cS mm g ta pa pe pd pb pp pf pg pn rt rn cd sn il tk am at_ aa 0 0 (-1) wt wy 0 rm ud nu sd qn qw qo qb qp qa qi oc d nw hd hnw) w_7_205 w_7_207 w_0_86 w_1_14 w_7_208 hd_X12_isMuteNow_1 ⟨⟨(Nat.le_of_ble_eq_true rfl), (Nat.le_of_ble_eq_true rfl)⟩, (Nat.le_of_ble_eq_true rfl), (Nat.le_of_ble_eq_true rfl)⟩ hK hP hD hS hA (fmT om_4_c 0) (fmF om_4_c 0) (fm_C1 rfl rfl) (fm_R rfl rfl) (fm_nT om_4_c 0) (fm_nF om_4_c 0) (fm_di om_4_c 0) rfl rfl rfl rfl (Nat.le_of_ble_eq_true rfl) dX12_canFollow_15 (fun r_2 u H locs hw hP hD hS => ?_)
  refine exE hw (fun b_1 hw1 => anE hw1 (fun hb1_3 hw2 => anE hw2 (fun hb2_4 hw3 => anE hw3 (fun er_6 eu_5 => ?_))))
  clear hw hw1 hw2 hw3
  subst er_6
  refine o_mgE (ws' := [ro_ mm 12 (mo g (nI ta) (nI pa) (nI pe) pd (nI pb) pp pf pg pn rt rn (nI cd) sn (nI il) tk am at_ aa 0 0 (-1) wt wy 0 (nI rm) (nI ud) (nI nu) sd (nI qn) (nI qw) qo (nI qb) (nI qp) qa (nI qi) (nI oc)), ra_I (g 31) cI 120 nw, ra_I (g 37) cZ 900 yo, ra_I (g 36) cZ 900 yw]) eu_5 hP hD rfl (fun hP hD => ?_)
  refine lv_if_eq (tgt := 34) hx hb dX12_canFollow_18 (by decide) (fun c_7 => ?_) (fun c_7 => ?_)
  · have c_7 : b_1 = 0 := (neq b_1 0 (by omega) (Nat.le_of_ble_eq_true rfl)).mp c_7
    refine lv_aload_n hx hb dX12_canFollow_34 rfl (lv_at hl 1 rfl) ?_
    refine sk_get (v := .ref (g 36)) (C := RX12) (T := TX12) (N := 92) hx hb hts inlX12 hown hK hP 0 rfl rfl 36 (Nat.le_of_ble_eq_true rfl) w_5_191 rfl dX12_canFollow_35 ?_
    refine lv_iload hx hb dX12_canFollow_38 (lv_at hl 0 rfl) ?_
    refine va_zald hx hb hK.1 hP 3 3 rfl rfl (vin (kx + o) 900 (by omega) (Nat.le_of_ble_eq_true rfl)) dX12_canFollow_40 ?_
    refine lv_topi (fun v_8 ev_8 => ?_)
    refine lv_if_eq (tgt := 57) hx hb dX12_canFollow_41 (by decide) (fun c_9 => ?_) (fun c_9 => ?_)
    · skip
      refine lv_iconst (v := 0) hx hb dX12_canFollow_57 ic_0 ?_
      exact sk_iret hx hb hr rfl hlocks hK hP hD hS (⟨0, by omega, rfl, rfl⟩) (Nat.le_of_ble_eq_true rfl) (Nat.le_of_ble_eq_true rfl) dX12_canFollow_58
    · skip
      refine lv_aload_n hx hb dX12_canFollow_44 rfl (lv_at hl 1 rfl) ?_
      refine lv_iload_n hx hb dX12_canFollow_45 rfl (lv_at hl 2 rfl) ?_
      refine lv_iload_n hx hb dX12_canFollow_46 rfl (lv_at hl 4 rfl) ?_
      refine sk_Vi (q0 := 0) (n := 2) (rest := []) (wr := fmR om_4_8 _) ⟨hx, hb, hml, hown, hts⟩ hl.1 (c_m_isLeft0 l D cI cJ cC cZ cS mm g ta pa pe pd pb pp pf pg pn rt rn cd sn il tk am at_ aa 0 wt wy 0 rm ud nu sd qn qw qo qb qp qa qi oc d o hd ho) w_7_209 w_7_211 w_0_87 w_1_14 w_7_212 hd_X12_isLeft_2 ⟨⟨(Nat.le_of_ble_eq_true rfl), (Nat.le_of_ble_eq_true rfl)⟩, (Nat.le_of_ble_eq_true rfl), (Nat.le_of_ble_eq_true rfl)⟩ hK hP hD hS hA (fmT om_4_8 0) (fmF om_4_8 0) (fm_C1 rfl rfl) (fm_R rfl rfl) (fm_nT om_4_8 0) (fm_nF om_4_8 0) (fm_di om_4_8 0) rfl rfl rfl rfl (Nat.le_of_ble_eq_true rfl) dX12_canFollow_47 (fun r_10 u H locs hw hP hD hS => ?_)
      refine anE hw (fun er_12 eu_11 => ?_)
      clear hw
      subst er_12
      refine o_mgE (ws' := [ro_ mm 12 (mo g (nI ta) (nI pa) (nI pe) pd (nI pb) pp pf pg pn rt rn (nI cd) sn (nI il) tk am at_ aa 0 0 (-1) wt wy 0 (nI rm) (nI ud) (nI nu) sd (nI qn) (nI qw) qo (nI qb) (nI qp) qa (nI qi) (nI oc)), ra_I (g 31) cI 120 nw, ra_I (g 37) cZ 900 yo, ra_I (g 36) cZ 900 yw]) eu_11 hP hD rfl (fun hP hD => ?_)
      refine lv_if_eq (tgt := 57) hx hb dX12_canFollow_50 (by decide) (fun c => absurd c (by decide)) (fun c_13 => ?_)
      refine lv_iconst (v := 1) hx hb dX12_canFollow_53 ic_1 ?_
      refine lv_goto (tgt := 58) hx hb dX12_canFollow_54 (by decide) ?_
      exact sk_iret hx hb hr rfl hlocks hK hP hD hS (⟨1, by omega, rfl, rfl⟩) (Nat.le_of_ble_eq_true rfl) (Nat.le_of_ble_eq_true rfl) dX12_canFollow_58
  · have c_7 : ¬ (b_1 = 0) := fun h => c_7 ((neq b_1 0 (by omega) (Nat.le_of_ble_eq_true rfl)).mpr h)
    refine lv_aload_n hx hb dX12_canFollow_21 rfl (lv_at hl 1 rfl) ?_
    refine sk_get (v := .ref (g 37)) (C := RX12) (T := TX12) (N := 92) hx hb hts inlX12 hown hK hP 0 rfl rfl 37 (Nat.le_of_ble_eq_true rfl) w_5_192 rfl dX12_canFollow_22 ?_
    refine lv_iload hx hb dX12_canFollow_25 (lv_at hl 0 rfl) ?_
    refine va_zald hx hb hK.1 hP 2 3 rfl rfl (vin (kx + o) 900 (by omega) (Nat.le_of_ble_eq_true rfl)) dX12_canFollow_27 ?_
    refine lv_topi (fun v_14 ev_14 => ?_)
    refine lv_if_eq (tgt := 57) hx hb dX12_canFollow_28 (by decide) (fun c_15 => ?_) (fun c_15 => ?_)
    · skip
      refine lv_iconst (v := 0) hx hb dX12_canFollow_57 ic_0 ?_
      exact sk_iret hx hb hr rfl hlocks hK hP hD hS (⟨0, by omega, rfl, rfl⟩) (Nat.le_of_ble_eq_true rfl) (Nat.le_of_ble_eq_true rfl) dX12_canFollow_58
    · skip
      refine lv_goto (tgt := 44) hx hb dX12_canFollow_31 (by decide) ?_
      refine lv_aload_n hx hb dX12_canFollow_44 rfl (lv_at hl 1 rfl) ?_
      refine lv_iload_n hx hb dX12_canFollow_45 rfl (lv_at hl 2 rfl) ?_
      refine lv_iload_n hx hb dX12_canFollow_46 rfl (lv_at hl 4 rfl) ?_
      refine sk_Vi (q0 := 0) (n := 2) (rest := []) (wr := fmR om_4_8 _) ⟨hx, hb, hml, hown, hts⟩ hl.1 (c_m_isLeft0 l D cI cJ cC cZ cS mm g ta pa pe pd pb pp pf pg pn rt rn cd sn il tk am at_ aa 0 wt wy 0 rm ud nu sd qn qw qo qb qp qa qi oc d o hd ho) w_7_209 w_7_211 w_0_87 w_1_14 w_7_212 hd_X12_isLeft_2 ⟨⟨(Nat.le_of_ble_eq_true rfl), (Nat.le_of_ble_eq_true rfl)⟩, (Nat.le_of_ble_eq_true rfl), (Nat.le_of_ble_eq_true rfl)⟩ hK hP hD hS hA (fmT om_4_8 0) (fmF om_4_8 0) (fm_C1 rfl rfl) (fm_R rfl rfl) (fm_nT om_4_8 0) (fm_nF om_4_8 0) (fm_di om_4_8 0) rfl rfl rfl rfl (Nat.le_of_ble_eq_true rfl) dX12_canFollow_47 (fun r_16 u H locs hw hP hD hS => ?_)
      refine anE hw (fun er_18 eu_17 => ?_)
      clear hw
      subst er_18
      refine o_mgE (ws' := [ro_ mm 12 (mo g (nI ta) (nI pa) (nI pe) pd (nI pb) pp pf pg pn rt rn (nI cd) sn (nI il) tk am at_ aa 0 0 (-1) wt wy 0 (nI rm) (nI ud) (nI nu) sd (nI qn) (nI qw) qo (nI qb) (nI qp) qa (nI qi) (nI oc)), ra_I (g 31) cI 120 nw, ra_I (g 37) cZ 900 yo, ra_I (g 36) cZ 900 yw]) eu_17 hP hD rfl (fun hP hD => ?_)
      refine lv_if_eq (tgt := 57) hx hb dX12_canFollow_50 (by decide) (fun c => absurd c (by decide)) (fun c_19 => ?_)
      refine lv_iconst (v := 1) hx hb dX12_canFollow_53 ic_1 ?_
      refine lv_goto (tgt := 58) hx hb dX12_canFollow_54 (by decide) ?_
      exact sk_iret hx hb hr rfl hlocks hK hP hD hS (⟨1, by omega, rfl, rfl⟩) (Nat.le_of_ble_eq_true rfl) (Nat.le_of_ble_eq_true rfl) dX12_canFollow_58
theorem dg_X12_bestBehind_0_0 : bqL cX12_bestBehind 0 [(0, [2]), (1, [62]), (2, [3]), (3, [54, 4]), (5, [21, 4]), (7, [16, 10]), (9, [162, 0, 77]), (86, [29]), (87, [172]), (12, [42]), (13, [27]), (14, [28]), (15, [21, 4]), (17, [182, 1, 122]), (20, [153, 0, 60]), (80, [132, 4, 1]), (83, [167, 255, 178]), (23, [42]), (24, [180, 0, 92]), (27, [16, 10]), (29, [27]), (30, [104]), (31, [21, 4]), (33, [96]), (34, [47]), (35, [20, 1, 165]), (38, [148]), (39, [154, 0, 6]), (45, [29]), (46, [2]), (47, [159, 0, 30]), (77, [21, 4]), (79, [62]), (50, [42]), (51, [180, 0, 92]), (54, [16, 10]), (56, [27]), (57, [104]), (58, [21, 4]), (60, [96])] = true := by decide +kernel
theorem dX12_bestBehind_0 : decode cX12_bestBehind 0 = .ok (.iconst (-1), 1) := q_iconstm1 (bat_get dg_X12_bestBehind_0_0 0 rfl rfl)
theorem dX12_bestBehind_1 : decode cX12_bestBehind 1 = .ok (.istore_n 3, 1) := q_istore_n3 (bat_get dg_X12_bestBehind_0_0 1 rfl rfl)
theorem dX12_bestBehind_2 : decode cX12_bestBehind 2 = .ok (.iconst 0, 1) := q_iconst0 (bat_get dg_X12_bestBehind_0_0 2 rfl rfl)
theorem dX12_bestBehind_3 : decode cX12_bestBehind 3 = .ok (.istore 4, 2) := q_istore (bat_get dg_X12_bestBehind_0_0 3 rfl rfl)
theorem dX12_bestBehind_5 : decode cX12_bestBehind 5 = .ok (.iload 4, 2) := q_iload (bat_get dg_X12_bestBehind_0_0 4 rfl rfl)
theorem dX12_bestBehind_7 : decode cX12_bestBehind 7 = .ok (.bipush 10, 2) := q_bipush (bat_get dg_X12_bestBehind_0_0 5 rfl rfl) rfl
theorem dX12_bestBehind_9 : decode cX12_bestBehind 9 = .ok (.if_icmp .ge 77, 3) := q_if_icmp_ge (bat_get dg_X12_bestBehind_0_0 6 rfl rfl) rfl
theorem dX12_bestBehind_86 : decode cX12_bestBehind 86 = .ok (.iload_n 3, 1) := q_iload_n3 (bat_get dg_X12_bestBehind_0_0 7 rfl rfl)
theorem dX12_bestBehind_87 : decode cX12_bestBehind 87 = .ok (.ireturn, 1) := q_ireturn (bat_get dg_X12_bestBehind_0_0 8 rfl rfl)
theorem dX12_bestBehind_12 : decode cX12_bestBehind 12 = .ok (.aload_n 0, 1) := q_aload_n0 (bat_get dg_X12_bestBehind_0_0 9 rfl rfl)
theorem dX12_bestBehind_13 : decode cX12_bestBehind 13 = .ok (.iload_n 1, 1) := q_iload_n1 (bat_get dg_X12_bestBehind_0_0 10 rfl rfl)
theorem dX12_bestBehind_14 : decode cX12_bestBehind 14 = .ok (.iload_n 2, 1) := q_iload_n2 (bat_get dg_X12_bestBehind_0_0 11 rfl rfl)
theorem dX12_bestBehind_15 : decode cX12_bestBehind 15 = .ok (.iload 4, 2) := q_iload (bat_get dg_X12_bestBehind_0_0 12 rfl rfl)
theorem dX12_bestBehind_17 : decode cX12_bestBehind 17 = .ok (.invokevirtual 378, 3) := q_invokevirtual (bat_get dg_X12_bestBehind_0_0 13 rfl rfl) rfl
theorem dX12_bestBehind_20 : decode cX12_bestBehind 20 = .ok (.ifCond .eq 60, 3) := q_ifCond_eq (bat_get dg_X12_bestBehind_0_0 14 rfl rfl) rfl
theorem dX12_bestBehind_80 : decode cX12_bestBehind 80 = .ok (.iinc 4 1, 3) := q_iinc (bat_get dg_X12_bestBehind_0_0 15 rfl rfl) rfl
theorem dX12_bestBehind_83 : decode cX12_bestBehind 83 = .ok (.goto (-78), 3) := q_goto (bat_get dg_X12_bestBehind_0_0 16 rfl rfl) rfl
theorem dX12_bestBehind_23 : decode cX12_bestBehind 23 = .ok (.aload_n 0, 1) := q_aload_n0 (bat_get dg_X12_bestBehind_0_0 17 rfl rfl)
theorem dX12_bestBehind_24 : decode cX12_bestBehind 24 = .ok (.getfield 92, 3) := q_getfield (bat_get dg_X12_bestBehind_0_0 18 rfl rfl) rfl
theorem dX12_bestBehind_27 : decode cX12_bestBehind 27 = .ok (.bipush 10, 2) := q_bipush (bat_get dg_X12_bestBehind_0_0 19 rfl rfl) rfl
theorem dX12_bestBehind_29 : decode cX12_bestBehind 29 = .ok (.iload_n 1, 1) := q_iload_n1 (bat_get dg_X12_bestBehind_0_0 20 rfl rfl)
theorem dX12_bestBehind_30 : decode cX12_bestBehind 30 = .ok (.imul, 1) := q_imul (bat_get dg_X12_bestBehind_0_0 21 rfl rfl)
theorem dX12_bestBehind_31 : decode cX12_bestBehind 31 = .ok (.iload 4, 2) := q_iload (bat_get dg_X12_bestBehind_0_0 22 rfl rfl)
theorem dX12_bestBehind_33 : decode cX12_bestBehind 33 = .ok (.iadd, 1) := q_iadd (bat_get dg_X12_bestBehind_0_0 23 rfl rfl)
theorem dX12_bestBehind_34 : decode cX12_bestBehind 34 = .ok (.laload, 1) := q_laload (bat_get dg_X12_bestBehind_0_0 24 rfl rfl)
theorem dX12_bestBehind_35 : decode cX12_bestBehind 35 = .ok (.ldc2_w 421, 3) := q_ldc2_w (bat_get dg_X12_bestBehind_0_0 25 rfl rfl) rfl
theorem dX12_bestBehind_38 : decode cX12_bestBehind 38 = .ok (.lcmp, 1) := q_lcmp (bat_get dg_X12_bestBehind_0_0 26 rfl rfl)
theorem dX12_bestBehind_39 : decode cX12_bestBehind 39 = .ok (.ifCond .ne 6, 3) := q_ifCond_ne (bat_get dg_X12_bestBehind_0_0 27 rfl rfl) rfl
theorem dX12_bestBehind_45 : decode cX12_bestBehind 45 = .ok (.iload_n 3, 1) := q_iload_n3 (bat_get dg_X12_bestBehind_0_0 28 rfl rfl)
theorem dX12_bestBehind_46 : decode cX12_bestBehind 46 = .ok (.iconst (-1), 1) := q_iconstm1 (bat_get dg_X12_bestBehind_0_0 29 rfl rfl)
theorem dX12_bestBehind_47 : decode cX12_bestBehind 47 = .ok (.if_icmp .eq 30, 3) := q_if_icmp_eq (bat_get dg_X12_bestBehind_0_0 30 rfl rfl) rfl
theorem dX12_bestBehind_77 : decode cX12_bestBehind 77 = .ok (.iload 4, 2) := q_iload (bat_get dg_X12_bestBehind_0_0 31 rfl rfl)
theorem dX12_bestBehind_79 : decode cX12_bestBehind 79 = .ok (.istore_n 3, 1) := q_istore_n3 (bat_get dg_X12_bestBehind_0_0 32 rfl rfl)
theorem dX12_bestBehind_50 : decode cX12_bestBehind 50 = .ok (.aload_n 0, 1) := q_aload_n0 (bat_get dg_X12_bestBehind_0_0 33 rfl rfl)
theorem dX12_bestBehind_51 : decode cX12_bestBehind 51 = .ok (.getfield 92, 3) := q_getfield (bat_get dg_X12_bestBehind_0_0 34 rfl rfl) rfl
theorem dX12_bestBehind_54 : decode cX12_bestBehind 54 = .ok (.bipush 10, 2) := q_bipush (bat_get dg_X12_bestBehind_0_0 35 rfl rfl) rfl
theorem dX12_bestBehind_56 : decode cX12_bestBehind 56 = .ok (.iload_n 1, 1) := q_iload_n1 (bat_get dg_X12_bestBehind_0_0 36 rfl rfl)
theorem dX12_bestBehind_57 : decode cX12_bestBehind 57 = .ok (.imul, 1) := q_imul (bat_get dg_X12_bestBehind_0_0 37 rfl rfl)
theorem dX12_bestBehind_58 : decode cX12_bestBehind 58 = .ok (.iload 4, 2) := q_iload (bat_get dg_X12_bestBehind_0_0 38 rfl rfl)
theorem dX12_bestBehind_60 : decode cX12_bestBehind 60 = .ok (.iadd, 1) := q_iadd (bat_get dg_X12_bestBehind_0_0 39 rfl rfl)
theorem dg_X12_bestBehind_42_61 : bqL cX12_bestBehind 42 [(19, [47]), (20, [42]), (21, [180, 0, 92]), (24, [16, 10]), (26, [27]), (27, [104]), (28, [29]), (29, [96]), (30, [47]), (31, [148]), (32, [158, 0, 6]), (0, [167, 0, 38])] = true := by decide +kernel
theorem dX12_bestBehind_61 : decode cX12_bestBehind 61 = .ok (.laload, 1) := q_laload (bat_get dg_X12_bestBehind_42_61 0 rfl rfl)
theorem dX12_bestBehind_62 : decode cX12_bestBehind 62 = .ok (.aload_n 0, 1) := q_aload_n0 (bat_get dg_X12_bestBehind_42_61 1 rfl rfl)
theorem dX12_bestBehind_63 : decode cX12_bestBehind 63 = .ok (.getfield 92, 3) := q_getfield (bat_get dg_X12_bestBehind_42_61 2 rfl rfl) rfl
theorem dX12_bestBehind_66 : decode cX12_bestBehind 66 = .ok (.bipush 10, 2) := q_bipush (bat_get dg_X12_bestBehind_42_61 3 rfl rfl) rfl
theorem dX12_bestBehind_68 : decode cX12_bestBehind 68 = .ok (.iload_n 1, 1) := q_iload_n1 (bat_get dg_X12_bestBehind_42_61 4 rfl rfl)
theorem dX12_bestBehind_69 : decode cX12_bestBehind 69 = .ok (.imul, 1) := q_imul (bat_get dg_X12_bestBehind_42_61 5 rfl rfl)
theorem dX12_bestBehind_70 : decode cX12_bestBehind 70 = .ok (.iload_n 3, 1) := q_iload_n3 (bat_get dg_X12_bestBehind_42_61 6 rfl rfl)
theorem dX12_bestBehind_71 : decode cX12_bestBehind 71 = .ok (.iadd, 1) := q_iadd (bat_get dg_X12_bestBehind_42_61 7 rfl rfl)
theorem dX12_bestBehind_72 : decode cX12_bestBehind 72 = .ok (.laload, 1) := q_laload (bat_get dg_X12_bestBehind_42_61 8 rfl rfl)
theorem dX12_bestBehind_73 : decode cX12_bestBehind 73 = .ok (.lcmp, 1) := q_lcmp (bat_get dg_X12_bestBehind_42_61 9 rfl rfl)
theorem dX12_bestBehind_74 : decode cX12_bestBehind 74 = .ok (.ifCond .le 6, 3) := q_ifCond_le (bat_get dg_X12_bestBehind_42_61 10 rfl rfl) rfl
theorem dX12_bestBehind_42 : decode cX12_bestBehind 42 = .ok (.goto 38, 3) := q_goto (bat_get dg_X12_bestBehind_42_61 11 rfl rfl) rfl
theorem w_8_52 : (Cond.code yX12_bestBehind cX12_bestBehind 5 (some .int)) ∈ wsL_law := sk_mem (ck_8 _ (List.mem_of_getElem? (i := 52) rfl)) rfl
set_option maxHeartbeats 4000000 in
set_option maxRecDepth 100000 in
theorem c_m_bestBehind (l : Launch) (D : va_G) (cI cJ cC cZ cS : ClassId) (mm : Nat) (g : Nat → Nat) (ta : Nat) (pa : Nat) (pe : Nat) (pd : Int32) (pb : Nat) (pp : Int32) (pf : Int32) (pg : Int32) (pn : Int32) (rt : Int32) (rn : Int32) (cd : Nat) (sn : Int32) (il : Nat) (tk : Int32) (am : Int32) (at_ : Int32) (aa : Int32) (wt : Int32) (wy : Int64) (rm : Nat) (ud : Nat) (nu : Nat) (sd : Int64) (qn : Nat) (qw : Nat) (qo : Int32) (qb : Nat) (qp : Nat) (qa : Int64) (qi : Nat) (oc : Nat) (d : Nat) (aa_ : Int32) (nw : Nat → Int32) (yo : Nat → Int32) (yw : Nat → Int32) (py : Nat → Int64) (hd : d < 9) (hav : mdAt aa_ d) (hnw : nowOk nw) : skM l yX12_bestBehind cX12_bestBehind 5 (some .int) 3 66 0 0 D (skT cI cJ cC cZ cS) [.ref mm, .int (nI d), .int aa_] [ro_ mm 12 (mo g (nI ta) (nI pa) (nI pe) pd (nI pb) pp pf pg pn rt rn (nI cd) sn (nI il) tk am at_ aa 0 0 (-1) wt wy 0 (nI rm) (nI ud) (nI nu) sd (nI qn) (nI qw) qo (nI qb) (nI qp) qa (nI qi) (nI oc)), ra_I (g 31) cI 120 nw, ra_I (g 37) cZ 900 yo, ra_I (g 36) cZ 900 yw, ra_J (g 48) cJ 90 py] (skI D (skT cI cJ cC cZ cS) (fun (r : Int32) (u : va_W) => mdOk r ∧ u = [ro_ mm 12 (mo g (nI ta) (nI pa) (nI pe) pd (nI pb) pp pf pg pn rt rn (nI cd) sn (nI il) tk am at_ aa 0 0 (-1) wt wy 0 (nI rm) (nI ud) (nI nu) sd (nI qn) (nI qw) qo (nI qb) (nI qp) qa (nI qi) (nI oc)), ra_I (g 31) cI 120 nw, ra_I (g 37) cZ 900 yo, ra_I (g 36) cZ 900 yw, ra_J (g 48) cJ 90 py])) := by
  refine skM_of pf_X12_bestBehind (Nat.le_of_ble_eq_true rfl) ?_
  intro p e s m below meth c A ls E hP hD hl
  refine skE_el E (fun hx hb hr hml hlocks hin hown hts hK hA => ?_)
  have hown : s.vm.findClass RX12 = some m.cls := hown
  have hS : va_S A s.heap s.heap [] := va_S.rf
  have hl : lv_has ls 5 [(0, .ref mm), (1, .int (nI d)), (2, .int aa_)] := hl
  refine lv_iconst (v := (-1)) hx hb dX12_bestBehind_0 (by decide) ?_
  refine lv_istore_n (lv' := [(3, .int (-1)), (0, .ref mm), (1, .int (nI d)), (2, .int aa_)]) hx hb dX12_bestBehind_1 rfl hl (by decide) rfl (fun ls hl => ?_)
  refine lv_iconst (v := 0) hx hb dX12_bestBehind_2 ic_0 ?_
  refine lv_istore (lv' := [(4, .int 0), (3, .int (-1)), (0, .ref mm), (1, .int (nI d)), (2, .int aa_)]) hx hb dX12_bestBehind_3 hl (by decide) rfl (fun ls hl => ?_)
  have lp_1 : ∀ (n_2 : Nat) (i : Nat) (bs_ : Int32) (H : Heap) (locs : List Loc) (ls : Array Slot), 10 - i < n_2 → (i ≤ 10) → (mdOk bs_) → va_P D vwCl [ro_ mm 12 (mo g (nI ta) (nI pa) (nI pe) pd (nI pb) pp pf pg pn rt rn (nI cd) sn (nI il) tk am at_ aa 0 0 (-1) wt wy 0 (nI rm) (nI ud) (nI nu) sd (nI qn) (nI qw) qo (nI qb) (nI qp) qa (nI qi) (nI oc)), ra_I (g 31) cI 120 nw, ra_I (g 37) cZ 900 yo, ra_I (g 36) cZ 900 yw, ra_J (g 48) cJ 90 py] H → va_D A [ro_ mm 12 (mo g (nI ta) (nI pa) (nI pe) pd (nI pb) pp pf pg pn rt rn (nI cd) sn (nI il) tk am at_ aa 0 0 (-1) wt wy 0 (nI rm) (nI ud) (nI nu) sd (nI qn) (nI qw) qo (nI qb) (nI qp) qa (nI qi) (nI oc)), ra_I (g 31) cI 120 nw, ra_I (g 37) cZ 900 yo, ra_I (g 36) cZ 900 yw, ra_J (g 48) cJ 90 py] → va_S A s.heap H locs → lv_has ls 5 [(4, .int (nI i)), (3, .int bs_), (0, .ref mm), (1, .int (nI d)), (2, .int aa_)] → W p l e { frames := 3, cells := 0, slots := 0, locals := 66 } s m ([.ref mm, .int (nI d), .int aa_] : List Value).toArray below meth c H locs 0 0 (MQ below (skI D (skT cI cJ cC cZ cS) (fun (r : Int32) (u : va_W) => mdOk r ∧ u = [ro_ mm 12 (mo g (nI ta) (nI pa) (nI pe) pd (nI pb) pp pf pg pn rt rn (nI cd) sn (nI il) tk am at_ aa 0 0 (-1) wt wy 0 (nI rm) (nI ud) (nI nu) sd (nI qn) (nI qw) qo (nI qb) (nI qp) qa (nI qi) (nI oc)), ra_I (g 31) cI 120 nw, ra_I (g 37) cZ 900 yo, ra_I (g 36) cZ 900 yw, ra_J (g 48) cJ 90 py]) A) ([.ref mm, .int (nI d), .int aa_] : List Value).toArray s 0 0 A) (F0 m 5 ls []) := by
    intro n_2
    induction n_2 with
    | zero => intro i bs_ H locs ls hm; exact absurd hm (Nat.not_lt_zero _)
    | succ n_2 ih_lp_1 =>
      intro i bs_ H locs ls hm hi hbs hP hD hS hl
      refine lv_iload hx hb dX12_bestBehind_5 (lv_at hl 0 rfl) ?_
      refine lv_bipush (v := 10) hx hb dX12_bestBehind_7 (by decide) ?_
      refine lv_icmp_ge (tgt := 86) hx hb dX12_bestBehind_9 (by decide) (fun c_3 => ?_) (fun c_3 => ?_)
      · have c_3 : 10 ≤ i := (nle 10 i (Nat.le_of_ble_eq_true rfl) (by omega)).mp c_3
        refine lv_iload_n hx hb dX12_bestBehind_86 rfl (lv_at hl 1 rfl) ?_
        exact sk_iret hx hb hr rfl hlocks hK hP hD hS (⟨hbs, rfl⟩) (Nat.le_of_ble_eq_true rfl) (Nat.le_of_ble_eq_true rfl) dX12_bestBehind_87
      · have c_3 : ¬ (10 ≤ i) := fun h => c_3 ((nle 10 i (Nat.le_of_ble_eq_true rfl) (by omega)).mpr h)
        refine lv_aload_n hx hb dX12_bestBehind_12 rfl (lv_at hl 2 rfl) ?_
        refine lv_iload_n hx hb dX12_bestBehind_13 rfl (lv_at hl 3 rfl) ?_
        refine lv_iload_n hx hb dX12_bestBehind_14 rfl (lv_at hl 4 rfl) ?_
        refine lv_iload hx hb dX12_bestBehind_15 (lv_at hl 0 rfl) ?_
        refine sk_Vi (q0 := 0) (n := 3) (rest := []) (wr := fmR om_5_1e _) ⟨hx, hb, hml, hown, hts⟩ hl.1 (c_m_canFollowI l D cI cJ cC cZ cS mm g ta pa pe pd pb pp pf pg pn rt rn cd sn il tk am at_ aa wt wy rm ud nu sd qn qw qo qb qp qa qi oc d aa_ i nw yo yw hd (by omega) hav hnw) w_7_201 w_7_203 w_0_85 w_1_14 w_7_204 hd_X12_canFollow_3 ⟨⟨(Nat.le_of_ble_eq_true rfl), (Nat.le_of_ble_eq_true rfl)⟩, (Nat.le_of_ble_eq_true rfl), (Nat.le_of_ble_eq_true rfl)⟩ hK hP hD hS hA (fmT om_5_1e 0) (fmF om_5_1e 0) (fm_C1 rfl rfl) (fm_R rfl rfl) (fm_nT om_5_1e 0) (fm_nF om_5_1e 0) (fm_di om_5_1e 0) rfl rfl rfl rfl (Nat.le_of_ble_eq_true rfl) dX12_bestBehind_17 (fun r_5 u H locs hw hP hD hS => ?_)
        refine exE hw (fun b_4 hw1 => anE hw1 (fun hb1_6 hw2 => anE hw2 (fun er_8 eu_7 => ?_)))
        clear hw hw1 hw2
        subst er_8
        refine o_mgE (ws' := [ro_ mm 12 (mo g (nI ta) (nI pa) (nI pe) pd (nI pb) pp pf pg pn rt rn (nI cd) sn (nI il) tk am at_ aa 0 0 (-1) wt wy 0 (nI rm) (nI ud) (nI nu) sd (nI qn) (nI qw) qo (nI qb) (nI qp) qa (nI qi) (nI oc)), ra_I (g 31) cI 120 nw, ra_I (g 37) cZ 900 yo, ra_I (g 36) cZ 900 yw, ra_J (g 48) cJ 90 py]) eu_7 hP hD rfl (fun hP hD => ?_)
        refine lv_if_eq (tgt := 80) hx hb dX12_bestBehind_20 (by decide) (fun c_9 => ?_) (fun c_9 => ?_)
        · have c_9 : b_4 = 0 := (neq b_4 0 (by omega) (Nat.le_of_ble_eq_true rfl)).mp c_9
          refine lv_iinc (v := nI (i + 1)) (lv' := [(4, .int (nI (i + 1))), (3, .int bs_), (0, .ref mm), (1, .int (nI d)), (2, .int aa_)]) hx hb dX12_bestBehind_80 hl (k := 0) rfl (ninc i 1 (by decide)) (by decide) rfl (fun ls hl => ?_)
          refine lv_goto (tgt := 5) hx hb dX12_bestBehind_83 (by decide) ?_
          exact ih_lp_1 (i + 1) bs_ _ _ _ (by omega) (by omega) hbs hP hD hS (lv_sub hl [0, 1, 2, 3, 4] rfl)
        · have c_9 : ¬ (b_4 = 0) := fun h => c_9 ((neq b_4 0 (by omega) (Nat.le_of_ble_eq_true rfl)).mpr h)
          refine lv_aload_n hx hb dX12_bestBehind_23 rfl (lv_at hl 2 rfl) ?_
          refine sk_get (v := .ref (g 48)) (C := RX12) (T := TX12) (N := 92) hx hb hts inlX12 hown hK hP 0 rfl rfl 48 (Nat.le_of_ble_eq_true rfl) w_5_203 rfl dX12_bestBehind_24 ?_
          refine lv_bipush (v := 10) hx hb dX12_bestBehind_27 (by decide) ?_
          refine lv_iload_n hx hb dX12_bestBehind_29 rfl (lv_at hl 3 rfl) ?_
          refine lv_imul hx hb dX12_bestBehind_30 ?_
          refine sk_top (nI (10 * d)) (nmul 10 d) ?_
          refine lv_iload hx hb dX12_bestBehind_31 (lv_at hl 0 rfl) ?_
          refine lv_iadd hx hb dX12_bestBehind_33 ?_
          refine sk_top (nI (10 * d + i)) (nI_add (10 * d) i) ?_
          refine va_lald hx hb hK.1 hP 4 1 rfl rfl (vin (10 * d + i) 90 (by omega) (Nat.le_of_ble_eq_true rfl)) dX12_bestBehind_34 ?_
          refine lv_topl (fun v_10 ev_10 => ?_)
          refine lv_ldc2 (v := (-1000000000000000)) hx hb hown (hts _ w_7_184) dX12_bestBehind_35 ?_
          refine W.lcmp hx hb dX12_bestBehind_38 ?_
          refine lv_if_ne (tgt := 45) hx hb dX12_bestBehind_39 (by decide) (fun c_11 => ?_) (fun c_11 => ?_)
          · skip
            refine lv_iload_n hx hb dX12_bestBehind_45 rfl (lv_at hl 1 rfl) ?_
            refine lv_iconst (v := (-1)) hx hb dX12_bestBehind_46 (by decide) ?_
            refine lv_icmp_eq (tgt := 77) hx hb dX12_bestBehind_47 (by decide) (fun c_12 => ?_) (fun c_12 => ?_)
            · skip
              refine lv_iload hx hb dX12_bestBehind_77 (lv_at hl 0 rfl) ?_
              refine lv_istore_n (lv' := [(3, .int (nI i)), (4, .int (nI i)), (0, .ref mm), (1, .int (nI d)), (2, .int aa_)]) hx hb dX12_bestBehind_79 rfl hl (by decide) rfl (fun ls hl => ?_)
              refine lv_iinc (v := nI (i + 1)) (lv' := [(4, .int (nI (i + 1))), (3, .int (nI i)), (0, .ref mm), (1, .int (nI d)), (2, .int aa_)]) hx hb dX12_bestBehind_80 hl (k := 1) rfl (ninc i 1 (by decide)) (by decide) rfl (fun ls hl => ?_)
              refine lv_goto (tgt := 5) hx hb dX12_bestBehind_83 (by decide) ?_
              exact ih_lp_1 (i + 1) (nI i) _ _ _ (by omega) (by omega) (mdOk_n (k := i) (by omega)) hP hD hS (lv_sub hl [0, 1, 2, 3, 4] rfl)
            · skip
              refine lv_aload_n hx hb dX12_bestBehind_50 rfl (lv_at hl 2 rfl) ?_
              refine sk_get (v := .ref (g 48)) (C := RX12) (T := TX12) (N := 92) hx hb hts inlX12 hown hK hP 0 rfl rfl 48 (Nat.le_of_ble_eq_true rfl) w_5_203 rfl dX12_bestBehind_51 ?_
              refine lv_bipush (v := 10) hx hb dX12_bestBehind_54 (by decide) ?_
              refine lv_iload_n hx hb dX12_bestBehind_56 rfl (lv_at hl 3 rfl) ?_
              refine lv_imul hx hb dX12_bestBehind_57 ?_
              refine sk_top (nI (10 * d)) (nmul 10 d) ?_
              refine lv_iload hx hb dX12_bestBehind_58 (lv_at hl 0 rfl) ?_
              refine lv_iadd hx hb dX12_bestBehind_60 ?_
              refine sk_top (nI (10 * d + i)) (nI_add (10 * d) i) ?_
              refine va_lald hx hb hK.1 hP 4 1 rfl rfl (vin (10 * d + i) 90 (by omega) (Nat.le_of_ble_eq_true rfl)) dX12_bestBehind_61 ?_
              refine lv_topl (fun v_13 ev_13 => ?_)
              refine lv_aload_n hx hb dX12_bestBehind_62 rfl (lv_at hl 2 rfl) ?_
              refine sk_get (v := .ref (g 48)) (C := RX12) (T := TX12) (N := 92) hx hb hts inlX12 hown hK hP 0 rfl rfl 48 (Nat.le_of_ble_eq_true rfl) w_5_203 rfl dX12_bestBehind_63 ?_
              refine lv_bipush (v := 10) hx hb dX12_bestBehind_66 (by decide) ?_
              refine lv_iload_n hx hb dX12_bestBehind_68 rfl (lv_at hl 3 rfl) ?_
              refine lv_imul hx hb dX12_bestBehind_69 ?_
              refine sk_top (nI (10 * d)) (nmul 10 d) ?_
              refine lv_iload_n hx hb dX12_bestBehind_70 rfl (lv_at hl 1 rfl) ?_
              refine lv_iadd hx hb dX12_bestBehind_71 ?_
              obtain ⟨kb, hkb, ekb⟩ := mdOk_k hbs c_12
              refine sk_top (nI (10 * d + kb)) (add_k ekb) ?_
              refine va_lald hx hb hK.1 hP 4 1 rfl rfl (vin (10 * d + kb) 90 (by omega) (Nat.le_of_ble_eq_true rfl)) dX12_bestBehind_72 ?_
              refine lv_topl (fun v_14 ev_14 => ?_)
              refine W.lcmp hx hb dX12_bestBehind_73 ?_
              refine lv_if_le (tgt := 80) hx hb dX12_bestBehind_74 (by decide) (fun c_15 => ?_) (fun c_15 => ?_)
              · skip
                refine lv_iinc (v := nI (i + 1)) (lv' := [(4, .int (nI (i + 1))), (3, .int bs_), (0, .ref mm), (1, .int (nI d)), (2, .int aa_)]) hx hb dX12_bestBehind_80 hl (k := 0) rfl (ninc i 1 (by decide)) (by decide) rfl (fun ls hl => ?_)
                refine lv_goto (tgt := 5) hx hb dX12_bestBehind_83 (by decide) ?_
                exact ih_lp_1 (i + 1) bs_ _ _ _ (by omega) (by omega) hbs hP hD hS (lv_sub hl [0, 1, 2, 3, 4] rfl)
              · skip
                refine lv_iload hx hb dX12_bestBehind_77 (lv_at hl 0 rfl) ?_
                refine lv_istore_n (lv' := [(3, .int (nI i)), (4, .int (nI i)), (0, .ref mm), (1, .int (nI d)), (2, .int aa_)]) hx hb dX12_bestBehind_79 rfl hl (by decide) rfl (fun ls hl => ?_)
                refine lv_iinc (v := nI (i + 1)) (lv' := [(4, .int (nI (i + 1))), (3, .int (nI i)), (0, .ref mm), (1, .int (nI d)), (2, .int aa_)]) hx hb dX12_bestBehind_80 hl (k := 1) rfl (ninc i 1 (by decide)) (by decide) rfl (fun ls hl => ?_)
                refine lv_goto (tgt := 5) hx hb dX12_bestBehind_83 (by decide) ?_
                exact ih_lp_1 (i + 1) (nI i) _ _ _ (by omega) (by omega) (mdOk_n (k := i) (by omega)) hP hD hS (lv_sub hl [0, 1, 2, 3, 4] rfl)
          · skip
            refine lv_goto (tgt := 80) hx hb dX12_bestBehind_42 (by decide) ?_
            refine lv_iinc (v := nI (i + 1)) (lv' := [(4, .int (nI (i + 1))), (3, .int bs_), (0, .ref mm), (1, .int (nI d)), (2, .int aa_)]) hx hb dX12_bestBehind_80 hl (k := 0) rfl (ninc i 1 (by decide)) (by decide) rfl (fun ls hl => ?_)
            refine lv_goto (tgt := 5) hx hb dX12_bestBehind_83 (by decide) ?_
            exact ih_lp_1 (i + 1) bs_ _ _ _ (by omega) (by omega) hbs hP hD hS (lv_sub hl [0, 1, 2, 3, 4] rfl)
  exact lp_1 (10 - 0 + 1) 0 (-1) _ _ _ (Nat.lt_succ_self _) (by omega) (Or.inr rfl) hP hD hS (lv_sub hl [0, 1, 2, 3, 4] rfl)
theorem dg_X12_pay_0_0 : bqL cX12_pay 0 [(0, [42]), (1, [180, 1, 46]), (4, [154, 0, 7]), (11, [42]), (12, [182, 1, 186]), (15, [42]), (16, [3]), (17, [42]), (18, [180, 0, 63]), (21, [4]), (22, [46]), (23, [182, 1, 189]), (26, [60]), (27, [27]), (28, [2]), (29, [160, 0, 9]), (38, [42]), (39, [180, 0, 92]), (42, [27]), (43, [47]), (44, [173]), (32, [20, 1, 165]), (35, [167, 0, 9]), (7, [20, 1, 165]), (10, [173])] = true := by decide +kernel
theorem dX12_pay_0 : decode cX12_pay 0 = .ok (.aload_n 0, 1) := q_aload_n0 (bat_get dg_X12_pay_0_0 0 rfl rfl)
theorem dX12_pay_1 : decode cX12_pay 1 = .ok (.getfield 302, 3) := q_getfield (bat_get dg_X12_pay_0_0 1 rfl rfl) rfl
theorem dX12_pay_4 : decode cX12_pay 4 = .ok (.ifCond .ne 7, 3) := q_ifCond_ne (bat_get dg_X12_pay_0_0 2 rfl rfl) rfl
theorem dX12_pay_11 : decode cX12_pay 11 = .ok (.aload_n 0, 1) := q_aload_n0 (bat_get dg_X12_pay_0_0 3 rfl rfl)
theorem dX12_pay_12 : decode cX12_pay 12 = .ok (.invokevirtual 442, 3) := q_invokevirtual (bat_get dg_X12_pay_0_0 4 rfl rfl) rfl
theorem dX12_pay_15 : decode cX12_pay 15 = .ok (.aload_n 0, 1) := q_aload_n0 (bat_get dg_X12_pay_0_0 5 rfl rfl)
theorem dX12_pay_16 : decode cX12_pay 16 = .ok (.iconst 0, 1) := q_iconst0 (bat_get dg_X12_pay_0_0 6 rfl rfl)
theorem dX12_pay_17 : decode cX12_pay 17 = .ok (.aload_n 0, 1) := q_aload_n0 (bat_get dg_X12_pay_0_0 7 rfl rfl)
theorem dX12_pay_18 : decode cX12_pay 18 = .ok (.getfield 63, 3) := q_getfield (bat_get dg_X12_pay_0_0 8 rfl rfl) rfl
theorem dX12_pay_21 : decode cX12_pay 21 = .ok (.iconst 1, 1) := q_iconst1 (bat_get dg_X12_pay_0_0 9 rfl rfl)
theorem dX12_pay_22 : decode cX12_pay 22 = .ok (.iaload, 1) := q_iaload (bat_get dg_X12_pay_0_0 10 rfl rfl)
theorem dX12_pay_23 : decode cX12_pay 23 = .ok (.invokevirtual 445, 3) := q_invokevirtual (bat_get dg_X12_pay_0_0 11 rfl rfl) rfl
theorem dX12_pay_26 : decode cX12_pay 26 = .ok (.istore_n 1, 1) := q_istore_n1 (bat_get dg_X12_pay_0_0 12 rfl rfl)
theorem dX12_pay_27 : decode cX12_pay 27 = .ok (.iload_n 1, 1) := q_iload_n1 (bat_get dg_X12_pay_0_0 13 rfl rfl)
theorem dX12_pay_28 : decode cX12_pay 28 = .ok (.iconst (-1), 1) := q_iconstm1 (bat_get dg_X12_pay_0_0 14 rfl rfl)
theorem dX12_pay_29 : decode cX12_pay 29 = .ok (.if_icmp .ne 9, 3) := q_if_icmp_ne (bat_get dg_X12_pay_0_0 15 rfl rfl) rfl
theorem dX12_pay_38 : decode cX12_pay 38 = .ok (.aload_n 0, 1) := q_aload_n0 (bat_get dg_X12_pay_0_0 16 rfl rfl)
theorem dX12_pay_39 : decode cX12_pay 39 = .ok (.getfield 92, 3) := q_getfield (bat_get dg_X12_pay_0_0 17 rfl rfl) rfl
theorem dX12_pay_42 : decode cX12_pay 42 = .ok (.iload_n 1, 1) := q_iload_n1 (bat_get dg_X12_pay_0_0 18 rfl rfl)
theorem dX12_pay_43 : decode cX12_pay 43 = .ok (.laload, 1) := q_laload (bat_get dg_X12_pay_0_0 19 rfl rfl)
theorem dX12_pay_44 : decode cX12_pay 44 = .ok (.lreturn, 1) := q_lreturn (bat_get dg_X12_pay_0_0 20 rfl rfl)
theorem dX12_pay_32 : decode cX12_pay 32 = .ok (.ldc2_w 421, 3) := q_ldc2_w (bat_get dg_X12_pay_0_0 21 rfl rfl) rfl
theorem dX12_pay_35 : decode cX12_pay 35 = .ok (.goto 9, 3) := q_goto (bat_get dg_X12_pay_0_0 22 rfl rfl) rfl
theorem dX12_pay_7 : decode cX12_pay 7 = .ok (.ldc2_w 421, 3) := q_ldc2_w (bat_get dg_X12_pay_0_0 23 rfl rfl) rfl
theorem dX12_pay_10 : decode cX12_pay 10 = .ok (.lreturn, 1) := q_lreturn (bat_get dg_X12_pay_0_0 24 rfl rfl)
theorem w_8_41 : (Cond.methodLink RX12 442 yX12_laysPay) ∈ wsL_law := sk_mem (ck_8 _ (List.mem_of_getElem? (i := 41) rfl)) rfl
theorem w_8_43 : (Cond.instanceMethod yX12_laysPay) ∈ wsL_law := sk_mem (ck_8 _ (List.mem_of_getElem? (i := 43) rfl)) rfl
theorem w_0_96 : (Cond.selects RX12 yX12_laysPay yX12_laysPay) ∈ wsL_law := sk_mem (ck_0 _ (List.mem_of_getElem? (i := 96) rfl)) rfl
theorem w_8_49 : (Cond.methodLink RX12 445 yX12_bestBehind) ∈ wsL_law := sk_mem (ck_8 _ (List.mem_of_getElem? (i := 49) rfl)) rfl
theorem w_8_51 : (Cond.instanceMethod yX12_bestBehind) ∈ wsL_law := sk_mem (ck_8 _ (List.mem_of_getElem? (i := 51) rfl)) rfl
theorem w_0_98 : (Cond.selects RX12 yX12_bestBehind yX12_bestBehind) ∈ wsL_law := sk_mem (ck_0 _ (List.mem_of_getElem? (i := 98) rfl)) rfl
theorem w_8_40 : (Cond.code yX12_pay cX12_pay 2 (some .long)) ∈ wsL_law := sk_mem (ck_8 _ (List.mem_of_getElem? (i := 40) rfl)) rfl
def om_14_3fff : List Bool := true :: true :: true :: true :: true :: true :: true :: true :: true :: true :: true :: true :: true :: true :: []
def om_14_2219 : List Bool := true :: false :: false :: false :: true :: false :: false :: false :: false :: true :: true :: false :: false :: true :: []
theorem hd_X12_laysPay_0 : skD yX12_laysPay 0 := by decide +kernel
theorem hd_X12_bestBehind_2 : skD yX12_bestBehind 2 := by decide +kernel
set_option maxHeartbeats 4000000 in
set_option maxRecDepth 100000 in
theorem c_m_pay (l : Launch) (D : va_G) (cI cJ cC cZ cS : ClassId) (mm : Nat) (g : Nat → Nat) (ta : Nat) (pa : Nat) (pe : Nat) (pd : Int32) (pb : Nat) (pp : Int32) (pf : Int32) (pg : Int32) (pn : Int32) (rt : Int32) (rn : Int32) (cd : Nat) (sn : Int32) (il : Nat) (tk : Int32) (am : Int32) (at_ : Int32) (aa : Int32) (wt : Int32) (wy : Int64) (rm : Nat) (ud : Nat) (nu : Nat) (sd : Int64) (qn : Nat) (qw : Nat) (qo : Int32) (qb : Nat) (qp : Nat) (qa : Int64) (qi : Nat) (oc : Nat) (u0 : Int32) (u1 : Int32) (u2 : Int32) (u3 : Int32) (u4 : Int32) (u5 : Int32) (v0 : Int32) (v1 : Int32) (v2 : Int32) (v3 : Int32) (v4 : Int32) (v5 : Int32) (cs : Nat → Nat) (nw : Nat → Int32) (pt : Nat → Nat) (ql : Nat → Int64) (l0 : Nat) (l1 : Nat) (dm : Nat) (l3 : Nat) (ws_ : Nat → Int32) (yw : Nat → Int32) (yo : Nat → Int32) (be : Nat → Int64) (bf : Nat → Int64) (py : Nat → Int64) (hil : il ≤ 1) (hild : il = 1 → 1 ≤ dm) (hdm : dm ≤ 9) (hp0 : progOk cs u3 v3) (hp1 : progOk cs u4 v4) (hp2 : progOk cs u5 v5) (hcs : ∀ j, cs j ≤ 20000) (hnw : nowOk nw) (hpt : ∀ j, pt j ≤ 9) : skM l yX12_pay cX12_pay 2 (some .long) 7 167 0 0 D (skT cI cJ cC cZ cS) [.ref mm] [ro_ mm 12 (mo g (nI ta) (nI pa) (nI pe) pd (nI pb) pp pf pg pn rt rn (nI cd) sn (nI il) tk am at_ aa 0 0 (-1) wt wy 0 (nI rm) (nI ud) (nI nu) sd (nI qn) (nI qw) qo (nI qb) (nI qp) qa (nI qi) (nI oc)), ra_I (g 24) cI 6 (l6 u0 u1 u2 u3 u4 u5), ra_I (g 25) cI 6 (l6 v0 v1 v2 v3 v4 v5), ra_N (g 26) cI 3200 cs, ra_I (g 31) cI 120 nw, ra_N (g 46) cI 9 pt, ra_J (g 86) cJ 1700 ql, ra_I (g 20) cI 4 (l4 (nI l0) (nI l1) (nI dm) (nI l3)), ra_I (g 38) cI 90 ws_, ra_I (g 36) cZ 900 yw, ra_I (g 37) cZ 900 yo, ra_J (g 43) cJ 90 be, ra_J (g 44) cJ 90 bf, ra_J (g 48) cJ 90 py] (skL D (skT cI cJ cC cZ cS) (fun (r : Int64) (u : va_W) => ∃ (tk2 : Int32), ∃ (qp2 : Nat), ∃ (am2 : Int32), ∃ (at_2 : Int32), ∃ (aa2 : Int32), ∃ (wy2 : Int64), ∃ (ql2 : Nat → Int64), ∃ (ws_2 : Nat → Int32), ∃ (yw2 : Nat → Int32), ∃ (yo2 : Nat → Int32), ∃ (be2 : Nat → Int64), ∃ (bf2 : Nat → Int64), ∃ (py2 : Nat → Int64), u = [ro_ mm 12 (mo g (nI ta) (nI pa) (nI pe) pd (nI pb) pp pf pg pn rt rn (nI cd) sn (nI il) tk2 am2 at_2 aa2 0 0 (-1) wt wy2 0 (nI rm) (nI ud) (nI nu) sd (nI qn) (nI qw) qo (nI qb) (nI qp2) qa (nI qi) (nI oc)), ra_I (g 24) cI 6 (l6 u0 u1 u2 u3 u4 u5), ra_I (g 25) cI 6 (l6 v0 v1 v2 v3 v4 v5), ra_N (g 26) cI 3200 cs, ra_I (g 31) cI 120 nw, ra_N (g 46) cI 9 pt, ra_J (g 86) cJ 1700 ql2, ra_I (g 20) cI 4 (l4 (nI l0) (nI l1) (nI dm) (nI l3)), ra_I (g 38) cI 90 ws_2, ra_I (g 36) cZ 900 yw2, ra_I (g 37) cZ 900 yo2, ra_J (g 43) cJ 90 be2, ra_J (g 44) cJ 90 bf2, ra_J (g 48) cJ 90 py2])) := by
  refine skM_of pf_X12_pay (Nat.le_of_ble_eq_true rfl) ?_
  intro p e s m below meth c A ls E hP hD hl
  refine skE_el E (fun hx hb hr hml hlocks hin hown hts hK hA => ?_)
  have hown : s.vm.findClass RX12 = some m.cls := hown
  have hS : va_S A s.heap s.heap [] := va_S.rf
  have hl : lv_has ls 2 [(0, .ref mm)] := hl
  refine lv_aload_n hx hb dX12_pay_0 rfl (lv_at hl 0 rfl) ?_
  refine sk_get (v := .int (nI il)) (C := RX12) (T := TX12) (N := 92) hx hb hts inlX12 hown hK hP 0 rfl rfl 29 (Nat.le_of_ble_eq_true rfl) w_5_184 rfl dX12_pay_1 ?_
  refine lv_if_ne (tgt := 11) hx hb dX12_pay_4 (by decide) (fun c_1 => ?_) (fun c_1 => ?_)
  · have c_1 : ¬ (il = 0) := fun h => c_1 ((neq il 0 (by omega) (Nat.le_of_ble_eq_true rfl)).mpr h)
    refine lv_aload_n hx hb dX12_pay_11 rfl (lv_at hl 0 rfl) ?_
    refine sk_Vv (q0 := 0) (n := 0) (rest := []) (wr := fmR om_14_3fff _) ⟨hx, hb, hml, hown, hts⟩ hl.1 (c_m_laysPay l D cI cJ cC cZ cS mm g ta pa pe pd pb pp pf pg pn rt rn cd sn il tk am at_ aa wt wy rm ud nu sd qn qw qo qb qp qa qi oc u0 u1 u2 u3 u4 u5 v0 v1 v2 v3 v4 v5 cs nw pt ql l0 l1 dm l3 ws_ yw yo be bf py hdm (by omega) hp0 hp1 hp2 hcs hnw hpt) w_8_41 w_8_43 w_0_96 w_1_14 w_8_44 hd_X12_laysPay_0 ⟨⟨(Nat.le_of_ble_eq_true rfl), (Nat.le_of_ble_eq_true rfl)⟩, (Nat.le_of_ble_eq_true rfl), (Nat.le_of_ble_eq_true rfl)⟩ hK hP hD hS hA (fmT om_14_3fff 0) (fmF om_14_3fff 0) (fm_C1 rfl rfl) (fm_R rfl rfl) (fm_nT om_14_3fff 0) (fm_nF om_14_3fff 0) (fm_di om_14_3fff 0) rfl rfl rfl rfl (Nat.le_of_ble_eq_true rfl) dX12_pay_12 (fun u H locs hw hP hD hS => ?_)
    refine exE hw (fun tk2_2 hw1 => exE hw1 (fun qp2_3 hw2 => exE hw2 (fun am2_4 hw3 => exE hw3 (fun at_2_5 hw4 => exE hw4 (fun aa2_6 hw5 => exE hw5 (fun wy2_7 hw6 => exE hw6 (fun ql2_8 hw7 => exE hw7 (fun ws_2_9 hw8 => exE hw8 (fun yw2_10 hw9 => exE hw9 (fun yo2_11 hw10 => exE hw10 (fun be2_12 hw11 => exE hw11 (fun bf2_13 hw12 => exE hw12 (fun py2_14 eu_15 => ?_)))))))))))))
    clear hw hw1 hw2 hw3 hw4 hw5 hw6 hw7 hw8 hw9 hw10 hw11 hw12
    refine o_mgE (ws' := [ro_ mm 12 (mo g (nI ta) (nI pa) (nI pe) pd (nI pb) pp pf pg pn rt rn (nI cd) sn (nI il) tk2_2 am2_4 at_2_5 aa2_6 0 0 (-1) wt wy2_7 0 (nI rm) (nI ud) (nI nu) sd (nI qn) (nI qw) qo (nI qb) (nI qp2_3) qa (nI qi) (nI oc)), ra_I (g 24) cI 6 (l6 u0 u1 u2 u3 u4 u5), ra_I (g 25) cI 6 (l6 v0 v1 v2 v3 v4 v5), ra_N (g 26) cI 3200 cs, ra_I (g 31) cI 120 nw, ra_N (g 46) cI 9 pt, ra_J (g 86) cJ 1700 ql2_8, ra_I (g 20) cI 4 (l4 (nI l0) (nI l1) (nI dm) (nI l3)), ra_I (g 38) cI 90 ws_2_9, ra_I (g 36) cZ 900 yw2_10, ra_I (g 37) cZ 900 yo2_11, ra_J (g 43) cJ 90 be2_12, ra_J (g 44) cJ 90 bf2_13, ra_J (g 48) cJ 90 py2_14]) eu_15 hP hD rfl (fun hP hD => ?_)
    refine lv_aload_n hx hb dX12_pay_15 rfl (lv_at hl 0 rfl) ?_
    refine lv_iconst (v := 0) hx hb dX12_pay_16 ic_0 ?_
    refine lv_aload_n hx hb dX12_pay_17 rfl (lv_at hl 0 rfl) ?_
    refine sk_get (v := .ref (g 31)) (C := RX12) (T := TX12) (N := 92) hx hb hts inlX12 hown hK hP 0 rfl rfl 31 (Nat.le_of_ble_eq_true rfl) w_5_186 rfl dX12_pay_18 ?_
    refine lv_iconst (v := 1) hx hb dX12_pay_21 ic_1 ?_
    refine va_iald hx hb hK.1 hP 4 0 rfl rfl (by unfold vp_in; decide) dX12_pay_22 ?_
    obtain ⟨k_16, hk_16, ek_16⟩ := nowOk_1 hnw
    refine sk_top (nI k_16) ek_16 ?_
    refine sk_Vi (q0 := 0) (n := 2) (rest := []) (wr := fmR om_14_2219 _) ⟨hx, hb, hml, hown, hts⟩ hl.1 (c_m_bestBehind l D cI cJ cC cZ cS mm g ta pa pe pd pb pp pf pg pn rt rn cd sn il tk2_2 am2_4 at_2_5 aa2_6 wt wy2_7 rm ud nu sd qn qw qo qb qp2_3 qa qi oc 0 (nI k_16) nw yo2_11 yw2_10 py2_14 (by omega) (mdAt_n (k := k_16) (by omega)) hnw) w_8_49 w_8_51 w_0_98 w_1_14 w_8_52 hd_X12_bestBehind_2 ⟨⟨(Nat.le_of_ble_eq_true rfl), (Nat.le_of_ble_eq_true rfl)⟩, (Nat.le_of_ble_eq_true rfl), (Nat.le_of_ble_eq_true rfl)⟩ hK hP hD hS hA [0, 4, 10, 9, 13] (fmF om_14_2219 0) rfl (fm_R rfl rfl) (by decide +kernel) (fm_nF om_14_2219 0) (by decide +kernel) rfl rfl rfl rfl (Nat.le_of_ble_eq_true rfl) dX12_pay_23 (fun r_17 u H locs hw hP hD hS => ?_)
    refine anE hw (fun hr1_18 eu_19 => ?_)
    clear hw
    refine o_mgqE (ux := [ro_ mm 12 (mo g (nI ta) (nI pa) (nI pe) pd (nI pb) pp pf pg pn rt rn (nI cd) sn (nI il) tk2_2 am2_4 at_2_5 aa2_6 0 0 (-1) wt wy2_7 0 (nI rm) (nI ud) (nI nu) sd (nI qn) (nI qw) qo (nI qb) (nI qp2_3) qa (nI qi) (nI oc)), ra_I (g 31) cI 120 nw, ra_I (g 36) cZ 900 yw2_10, ra_I (g 37) cZ 900 yo2_11, ra_J (g 48) cJ 90 py2_14]) (ws' := [ro_ mm 12 (mo g (nI ta) (nI pa) (nI pe) pd (nI pb) pp pf pg pn rt rn (nI cd) sn (nI il) tk2_2 am2_4 at_2_5 aa2_6 0 0 (-1) wt wy2_7 0 (nI rm) (nI ud) (nI nu) sd (nI qn) (nI qw) qo (nI qb) (nI qp2_3) qa (nI qi) (nI oc)), ra_I (g 24) cI 6 (l6 u0 u1 u2 u3 u4 u5), ra_I (g 25) cI 6 (l6 v0 v1 v2 v3 v4 v5), ra_N (g 26) cI 3200 cs, ra_I (g 31) cI 120 nw, ra_N (g 46) cI 9 pt, ra_J (g 86) cJ 1700 ql2_8, ra_I (g 20) cI 4 (l4 (nI l0) (nI l1) (nI dm) (nI l3)), ra_I (g 38) cI 90 ws_2_9, ra_I (g 36) cZ 900 yw2_10, ra_I (g 37) cZ 900 yo2_11, ra_J (g 43) cJ 90 be2_12, ra_J (g 44) cJ 90 bf2_13, ra_J (g 48) cJ 90 py2_14]) eu_19 [0, 1, 3, 2, 4] (by decide +kernel) rfl hP hD rfl (fun hP hD => ?_)
    refine lv_istore_n (lv' := [(1, .int r_17), (0, .ref mm)]) hx hb dX12_pay_26 rfl hl (by decide) rfl (fun ls hl => ?_)
    refine lv_iload_n hx hb dX12_pay_27 rfl (lv_at hl 0 rfl) ?_
    refine lv_iconst (v := (-1)) hx hb dX12_pay_28 (by decide) ?_
    refine lv_icmp_ne (tgt := 38) hx hb dX12_pay_29 (by decide) (fun c_20 => ?_) (fun c_20 => ?_)
    · skip
      refine lv_aload_n hx hb dX12_pay_38 rfl (lv_at hl 1 rfl) ?_
      refine sk_get (v := .ref (g 48)) (C := RX12) (T := TX12) (N := 92) hx hb hts inlX12 hown hK hP 0 rfl rfl 48 (Nat.le_of_ble_eq_true rfl) w_5_203 rfl dX12_pay_39 ?_
      refine lv_iload_n hx hb dX12_pay_42 rfl (lv_at hl 0 rfl) ?_
      refine va_lald hx hb hK.1 hP 13 1 rfl rfl (by obtain ⟨k, hk, ek⟩ := mdOk_k hr1_18 c_20; rw [ek]; exact vin k 90 (by omega) (Nat.le_of_ble_eq_true rfl)) dX12_pay_43 ?_
      refine lv_topl (fun v_21 ev_21 => ?_)
      exact sk_lret hx hb hr hlocks hK hP hD hS (⟨tk2_2, qp2_3, am2_4, at_2_5, aa2_6, wy2_7, ql2_8, ws_2_9, yw2_10, yo2_11, be2_12, bf2_13, py2_14, rfl⟩) (Nat.le_of_ble_eq_true rfl) (Nat.le_of_ble_eq_true rfl) dX12_pay_44
    · skip
      refine lv_ldc2 (v := (-1000000000000000)) hx hb hown (hts _ w_7_184) dX12_pay_32 ?_
      refine lv_goto (tgt := 44) hx hb dX12_pay_35 (by decide) ?_
      exact sk_lret hx hb hr hlocks hK hP hD hS (⟨tk2_2, qp2_3, am2_4, at_2_5, aa2_6, wy2_7, ql2_8, ws_2_9, yw2_10, yo2_11, be2_12, bf2_13, py2_14, rfl⟩) (Nat.le_of_ble_eq_true rfl) (Nat.le_of_ble_eq_true rfl) dX12_pay_44
  · have c_1 : il = 0 := (neq il 0 (by omega) (Nat.le_of_ble_eq_true rfl)).mp c_1
    refine lv_ldc2 (v := (-1000000000000000)) hx hb hown (hts _ w_7_184) dX12_pay_7 ?_
    exact sk_lret hx hb hr hlocks hK hP hD hS (⟨tk, qp, am, at_, aa, wy, ql, ws_, yw, yo, be, bf, py, rfl⟩) (Nat.le_of_ble_eq_true rfl) (Nat.le_of_ble_eq_true rfl) dX12_pay_10
theorem dg_X12_paid_0_0 : bqL cX12_paid 0 [(0, [42]), (1, [27]), (2, [182, 1, 157]), (5, [154, 0, 5]), (10, [42]), (11, [182, 1, 186]), (14, [42]), (15, [180, 1, 126]), (18, [9]), (19, [148]), (20, [154, 0, 5]), (25, [42]), (26, [180, 0, 63]), (29, [4]), (30, [46]), (31, [61]), (32, [3]), (33, [62]), (34, [29]), (35, [27]), (36, [163, 0, 16]), (52, [28]), (53, [172]), (39, [42]), (40, [29]), (41, [28]), (42, [182, 1, 189]), (45, [61]), (46, [132, 3, 1]), (49, [167, 255, 241]), (23, [2]), (24, [172]), (8, [2]), (9, [172])] = true := by decide +kernel
theorem dX12_paid_0 : decode cX12_paid 0 = .ok (.aload_n 0, 1) := q_aload_n0 (bat_get dg_X12_paid_0_0 0 rfl rfl)
theorem dX12_paid_1 : decode cX12_paid 1 = .ok (.iload_n 1, 1) := q_iload_n1 (bat_get dg_X12_paid_0_0 1 rfl rfl)
theorem dX12_paid_2 : decode cX12_paid 2 = .ok (.invokevirtual 413, 3) := q_invokevirtual (bat_get dg_X12_paid_0_0 2 rfl rfl) rfl
theorem dX12_paid_5 : decode cX12_paid 5 = .ok (.ifCond .ne 5, 3) := q_ifCond_ne (bat_get dg_X12_paid_0_0 3 rfl rfl) rfl
theorem dX12_paid_10 : decode cX12_paid 10 = .ok (.aload_n 0, 1) := q_aload_n0 (bat_get dg_X12_paid_0_0 4 rfl rfl)
theorem dX12_paid_11 : decode cX12_paid 11 = .ok (.invokevirtual 442, 3) := q_invokevirtual (bat_get dg_X12_paid_0_0 5 rfl rfl) rfl
theorem dX12_paid_14 : decode cX12_paid 14 = .ok (.aload_n 0, 1) := q_aload_n0 (bat_get dg_X12_paid_0_0 6 rfl rfl)
theorem dX12_paid_15 : decode cX12_paid 15 = .ok (.getfield 382, 3) := q_getfield (bat_get dg_X12_paid_0_0 7 rfl rfl) rfl
theorem dX12_paid_18 : decode cX12_paid 18 = .ok (.lconst 0, 1) := q_lconst0 (bat_get dg_X12_paid_0_0 8 rfl rfl)
theorem dX12_paid_19 : decode cX12_paid 19 = .ok (.lcmp, 1) := q_lcmp (bat_get dg_X12_paid_0_0 9 rfl rfl)
theorem dX12_paid_20 : decode cX12_paid 20 = .ok (.ifCond .ne 5, 3) := q_ifCond_ne (bat_get dg_X12_paid_0_0 10 rfl rfl) rfl
theorem dX12_paid_25 : decode cX12_paid 25 = .ok (.aload_n 0, 1) := q_aload_n0 (bat_get dg_X12_paid_0_0 11 rfl rfl)
theorem dX12_paid_26 : decode cX12_paid 26 = .ok (.getfield 63, 3) := q_getfield (bat_get dg_X12_paid_0_0 12 rfl rfl) rfl
theorem dX12_paid_29 : decode cX12_paid 29 = .ok (.iconst 1, 1) := q_iconst1 (bat_get dg_X12_paid_0_0 13 rfl rfl)
theorem dX12_paid_30 : decode cX12_paid 30 = .ok (.iaload, 1) := q_iaload (bat_get dg_X12_paid_0_0 14 rfl rfl)
theorem dX12_paid_31 : decode cX12_paid 31 = .ok (.istore_n 2, 1) := q_istore_n2 (bat_get dg_X12_paid_0_0 15 rfl rfl)
theorem dX12_paid_32 : decode cX12_paid 32 = .ok (.iconst 0, 1) := q_iconst0 (bat_get dg_X12_paid_0_0 16 rfl rfl)
theorem dX12_paid_33 : decode cX12_paid 33 = .ok (.istore_n 3, 1) := q_istore_n3 (bat_get dg_X12_paid_0_0 17 rfl rfl)
theorem dX12_paid_34 : decode cX12_paid 34 = .ok (.iload_n 3, 1) := q_iload_n3 (bat_get dg_X12_paid_0_0 18 rfl rfl)
theorem dX12_paid_35 : decode cX12_paid 35 = .ok (.iload_n 1, 1) := q_iload_n1 (bat_get dg_X12_paid_0_0 19 rfl rfl)
theorem dX12_paid_36 : decode cX12_paid 36 = .ok (.if_icmp .gt 16, 3) := q_if_icmp_gt (bat_get dg_X12_paid_0_0 20 rfl rfl) rfl
theorem dX12_paid_52 : decode cX12_paid 52 = .ok (.iload_n 2, 1) := q_iload_n2 (bat_get dg_X12_paid_0_0 21 rfl rfl)
theorem dX12_paid_53 : decode cX12_paid 53 = .ok (.ireturn, 1) := q_ireturn (bat_get dg_X12_paid_0_0 22 rfl rfl)
theorem dX12_paid_39 : decode cX12_paid 39 = .ok (.aload_n 0, 1) := q_aload_n0 (bat_get dg_X12_paid_0_0 23 rfl rfl)
theorem dX12_paid_40 : decode cX12_paid 40 = .ok (.iload_n 3, 1) := q_iload_n3 (bat_get dg_X12_paid_0_0 24 rfl rfl)
theorem dX12_paid_41 : decode cX12_paid 41 = .ok (.iload_n 2, 1) := q_iload_n2 (bat_get dg_X12_paid_0_0 25 rfl rfl)
theorem dX12_paid_42 : decode cX12_paid 42 = .ok (.invokevirtual 445, 3) := q_invokevirtual (bat_get dg_X12_paid_0_0 26 rfl rfl) rfl
theorem dX12_paid_45 : decode cX12_paid 45 = .ok (.istore_n 2, 1) := q_istore_n2 (bat_get dg_X12_paid_0_0 27 rfl rfl)
theorem dX12_paid_46 : decode cX12_paid 46 = .ok (.iinc 3 1, 3) := q_iinc (bat_get dg_X12_paid_0_0 28 rfl rfl) rfl
theorem dX12_paid_49 : decode cX12_paid 49 = .ok (.goto (-15), 3) := q_goto (bat_get dg_X12_paid_0_0 29 rfl rfl) rfl
theorem dX12_paid_23 : decode cX12_paid 23 = .ok (.iconst (-1), 1) := q_iconstm1 (bat_get dg_X12_paid_0_0 30 rfl rfl)
theorem dX12_paid_24 : decode cX12_paid 24 = .ok (.ireturn, 1) := q_ireturn (bat_get dg_X12_paid_0_0 31 rfl rfl)
theorem dX12_paid_8 : decode cX12_paid 8 = .ok (.iconst (-1), 1) := q_iconstm1 (bat_get dg_X12_paid_0_0 32 rfl rfl)
theorem dX12_paid_9 : decode cX12_paid 9 = .ok (.ireturn, 1) := q_ireturn (bat_get dg_X12_paid_0_0 33 rfl rfl)
theorem w_8_56 : (Cond.code yX12_paid cX12_paid 4 (some .int)) ∈ wsL_law := sk_mem (ck_8 _ (List.mem_of_getElem? (i := 56) rfl)) rfl
set_option maxHeartbeats 4000000 in
set_option maxRecDepth 100000 in
theorem c_m_paid (l : Launch) (D : va_G) (cI cJ cC cZ cS : ClassId) (mm : Nat) (g : Nat → Nat) (ta : Nat) (pa : Nat) (pe : Nat) (pd : Int32) (pb : Nat) (pp : Int32) (pf : Int32) (pg : Int32) (pn : Int32) (rt : Int32) (rn : Int32) (cd : Nat) (sn : Int32) (il : Nat) (tk : Int32) (am : Int32) (at_ : Int32) (aa : Int32) (wt : Int32) (wy : Int64) (rm : Nat) (ud : Nat) (nu : Nat) (sd : Int64) (qn : Nat) (qw : Nat) (qo : Int32) (qb : Nat) (qp : Nat) (qa : Int64) (qi : Nat) (oc : Nat) (d : Int32) (u0 : Int32) (u1 : Int32) (u2 : Int32) (u3 : Int32) (u4 : Int32) (u5 : Int32) (v0 : Int32) (v1 : Int32) (v2 : Int32) (v3 : Int32) (v4 : Int32) (v5 : Int32) (cs : Nat → Nat) (nw : Nat → Int32) (pt : Nat → Nat) (ql : Nat → Int64) (l0 : Nat) (l1 : Nat) (dm : Nat) (l3 : Nat) (ws_ : Nat → Int32) (yw : Nat → Int32) (yo : Nat → Int32) (be : Nat → Int64) (bf : Nat → Int64) (py : Nat → Int64) (hil : il ≤ 1) (hild : il = 1 → 1 ≤ dm) (hdm : dm ≤ 9) (hp0 : progOk cs u3 v3) (hp1 : progOk cs u4 v4) (hp2 : progOk cs u5 v5) (hcs : ∀ j, cs j ≤ 20000) (hnw : nowOk nw) (hpt : ∀ j, pt j ≤ 9) : skM l yX12_paid cX12_paid 4 (some .int) 7 167 0 0 D (skT cI cJ cC cZ cS) [.ref mm, .int d] [ro_ mm 12 (mo g (nI ta) (nI pa) (nI pe) pd (nI pb) pp pf pg pn rt rn (nI cd) sn (nI il) tk am at_ aa 0 0 (-1) wt wy 0 (nI rm) (nI ud) (nI nu) sd (nI qn) (nI qw) qo (nI qb) (nI qp) qa (nI qi) (nI oc)), ra_I (g 24) cI 6 (l6 u0 u1 u2 u3 u4 u5), ra_I (g 25) cI 6 (l6 v0 v1 v2 v3 v4 v5), ra_N (g 26) cI 3200 cs, ra_I (g 31) cI 120 nw, ra_N (g 46) cI 9 pt, ra_J (g 86) cJ 1700 ql, ra_I (g 20) cI 4 (l4 (nI l0) (nI l1) (nI dm) (nI l3)), ra_I (g 38) cI 90 ws_, ra_I (g 36) cZ 900 yw, ra_I (g 37) cZ 900 yo, ra_J (g 43) cJ 90 be, ra_J (g 44) cJ 90 bf, ra_J (g 48) cJ 90 py] (skI D (skT cI cJ cC cZ cS) (fun (r : Int32) (u : va_W) => ∃ (tk2 : Int32), ∃ (qp2 : Nat), ∃ (am2 : Int32), ∃ (at_2 : Int32), ∃ (aa2 : Int32), ∃ (wy2 : Int64), ∃ (ql2 : Nat → Int64), ∃ (ws_2 : Nat → Int32), ∃ (yw2 : Nat → Int32), ∃ (yo2 : Nat → Int32), ∃ (be2 : Nat → Int64), ∃ (bf2 : Nat → Int64), ∃ (py2 : Nat → Int64), u = [ro_ mm 12 (mo g (nI ta) (nI pa) (nI pe) pd (nI pb) pp pf pg pn rt rn (nI cd) sn (nI il) tk2 am2 at_2 aa2 0 0 (-1) wt wy2 0 (nI rm) (nI ud) (nI nu) sd (nI qn) (nI qw) qo (nI qb) (nI qp2) qa (nI qi) (nI oc)), ra_I (g 24) cI 6 (l6 u0 u1 u2 u3 u4 u5), ra_I (g 25) cI 6 (l6 v0 v1 v2 v3 v4 v5), ra_N (g 26) cI 3200 cs, ra_I (g 31) cI 120 nw, ra_N (g 46) cI 9 pt, ra_J (g 86) cJ 1700 ql2, ra_I (g 20) cI 4 (l4 (nI l0) (nI l1) (nI dm) (nI l3)), ra_I (g 38) cI 90 ws_2, ra_I (g 36) cZ 900 yw2, ra_I (g 37) cZ 900 yo2, ra_J (g 43) cJ 90 be2, ra_J (g 44) cJ 90 bf2, ra_J (g 48) cJ 90 py2])) := by
  refine skM_of pf_X12_paid (Nat.le_of_ble_eq_true rfl) ?_
  intro p e s m below meth c A ls E hP hD hl
  refine skE_el E (fun hx hb hr hml hlocks hin hown hts hK hA => ?_)
  have hown : s.vm.findClass RX12 = some m.cls := hown
  have hS : va_S A s.heap s.heap [] := va_S.rf
  have hl : lv_has ls 4 [(0, .ref mm), (1, .int d)] := hl
  refine lv_aload_n hx hb dX12_paid_0 rfl (lv_at hl 0 rfl) ?_
  refine lv_iload_n hx hb dX12_paid_1 rfl (lv_at hl 1 rfl) ?_
  refine sk_Vi (q0 := 0) (n := 1) (rest := []) (wr := fmR om_14_2040 _) ⟨hx, hb, hml, hown, hts⟩ hl.1 (c_m_isDay l D cI cJ cC cZ cS mm g ta pa pe pd pb pp pf pg pn rt rn cd sn il tk am at_ aa 0 0 (-1) wt wy 0 rm ud nu sd qn qw qo qb qp qa qi oc d l0 l1 dm l3 hdm) w_7_117 w_7_119 w_0_72 w_1_14 w_7_120 hd_X12_isDay_1 ⟨⟨(Nat.le_of_ble_eq_true rfl), (Nat.le_of_ble_eq_true rfl)⟩, (Nat.le_of_ble_eq_true rfl), (Nat.le_of_ble_eq_true rfl)⟩ hK hP hD hS hA (fmT om_14_2040 0) (fmF om_14_2040 0) (fm_C1 rfl rfl) (fm_R rfl rfl) (fm_nT om_14_2040 0) (fm_nF om_14_2040 0) (fm_di om_14_2040 0) rfl rfl rfl rfl (Nat.le_of_ble_eq_true rfl) dX12_paid_2 (fun r_2 u H locs hw hP hD hS => ?_)
  refine exE hw (fun b_1 hw1 => anE hw1 (fun hb1_3 hw2 => anE hw2 (fun er_5 eu_4 => ?_)))
  clear hw hw1 hw2
  subst er_5
  refine o_mgE (ws' := [ro_ mm 12 (mo g (nI ta) (nI pa) (nI pe) pd (nI pb) pp pf pg pn rt rn (nI cd) sn (nI il) tk am at_ aa 0 0 (-1) wt wy 0 (nI rm) (nI ud) (nI nu) sd (nI qn) (nI qw) qo (nI qb) (nI qp) qa (nI qi) (nI oc)), ra_I (g 24) cI 6 (l6 u0 u1 u2 u3 u4 u5), ra_I (g 25) cI 6 (l6 v0 v1 v2 v3 v4 v5), ra_N (g 26) cI 3200 cs, ra_I (g 31) cI 120 nw, ra_N (g 46) cI 9 pt, ra_J (g 86) cJ 1700 ql, ra_I (g 20) cI 4 (l4 (nI l0) (nI l1) (nI dm) (nI l3)), ra_I (g 38) cI 90 ws_, ra_I (g 36) cZ 900 yw, ra_I (g 37) cZ 900 yo, ra_J (g 43) cJ 90 be, ra_J (g 44) cJ 90 bf, ra_J (g 48) cJ 90 py]) eu_4 hP hD rfl (fun hP hD => ?_)
  refine lv_if_ne (tgt := 10) hx hb dX12_paid_5 (by decide) (fun c_6 => ?_) (fun c_6 => ?_)
  · have c_6 : ¬ (b_1 = 0) := fun h => c_6 ((neq b_1 0 (by omega) (Nat.le_of_ble_eq_true rfl)).mpr h)
    obtain ⟨kd_7, hkd_7, rfl⟩ := (hb1_3.resolve_left (by omega)).2
    refine lv_aload_n hx hb dX12_paid_10 rfl (lv_at hl 0 rfl) ?_
    refine sk_Vv (q0 := 0) (n := 0) (rest := []) (wr := fmR om_14_3fff _) ⟨hx, hb, hml, hown, hts⟩ hl.1 (c_m_laysPay l D cI cJ cC cZ cS mm g ta pa pe pd pb pp pf pg pn rt rn cd sn il tk am at_ aa wt wy rm ud nu sd qn qw qo qb qp qa qi oc u0 u1 u2 u3 u4 u5 v0 v1 v2 v3 v4 v5 cs nw pt ql l0 l1 dm l3 ws_ yw yo be bf py hdm (by omega) hp0 hp1 hp2 hcs hnw hpt) w_8_41 w_8_43 w_0_96 w_1_14 w_8_44 hd_X12_laysPay_0 ⟨⟨(Nat.le_of_ble_eq_true rfl), (Nat.le_of_ble_eq_true rfl)⟩, (Nat.le_of_ble_eq_true rfl), (Nat.le_of_ble_eq_true rfl)⟩ hK hP hD hS hA (fmT om_14_3fff 0) (fmF om_14_3fff 0) (fm_C1 rfl rfl) (fm_R rfl rfl) (fm_nT om_14_3fff 0) (fm_nF om_14_3fff 0) (fm_di om_14_3fff 0) rfl rfl rfl rfl (Nat.le_of_ble_eq_true rfl) dX12_paid_11 (fun u H locs hw hP hD hS => ?_)
    refine exE hw (fun tk2_8 hw1 => exE hw1 (fun qp2_9 hw2 => exE hw2 (fun am2_10 hw3 => exE hw3 (fun at_2_11 hw4 => exE hw4 (fun aa2_12 hw5 => exE hw5 (fun wy2_13 hw6 => exE hw6 (fun ql2_14 hw7 => exE hw7 (fun ws_2_15 hw8 => exE hw8 (fun yw2_16 hw9 => exE hw9 (fun yo2_17 hw10 => exE hw10 (fun be2_18 hw11 => exE hw11 (fun bf2_19 hw12 => exE hw12 (fun py2_20 eu_21 => ?_)))))))))))))
    clear hw hw1 hw2 hw3 hw4 hw5 hw6 hw7 hw8 hw9 hw10 hw11 hw12
    refine o_mgE (ws' := [ro_ mm 12 (mo g (nI ta) (nI pa) (nI pe) pd (nI pb) pp pf pg pn rt rn (nI cd) sn (nI il) tk2_8 am2_10 at_2_11 aa2_12 0 0 (-1) wt wy2_13 0 (nI rm) (nI ud) (nI nu) sd (nI qn) (nI qw) qo (nI qb) (nI qp2_9) qa (nI qi) (nI oc)), ra_I (g 24) cI 6 (l6 u0 u1 u2 u3 u4 u5), ra_I (g 25) cI 6 (l6 v0 v1 v2 v3 v4 v5), ra_N (g 26) cI 3200 cs, ra_I (g 31) cI 120 nw, ra_N (g 46) cI 9 pt, ra_J (g 86) cJ 1700 ql2_14, ra_I (g 20) cI 4 (l4 (nI l0) (nI l1) (nI dm) (nI l3)), ra_I (g 38) cI 90 ws_2_15, ra_I (g 36) cZ 900 yw2_16, ra_I (g 37) cZ 900 yo2_17, ra_J (g 43) cJ 90 be2_18, ra_J (g 44) cJ 90 bf2_19, ra_J (g 48) cJ 90 py2_20]) eu_21 hP hD rfl (fun hP hD => ?_)
    refine lv_aload_n hx hb dX12_paid_14 rfl (lv_at hl 0 rfl) ?_
    refine sk_get (v := .long wy2_13) (C := RX12) (T := TX12) (N := 92) hx hb hts inlX12 hown hK hP 0 rfl rfl 45 (Nat.le_of_ble_eq_true rfl) w_5_200 rfl dX12_paid_15 ?_
    refine lv_lconst (v := 0) hx hb dX12_paid_18 (by decide) ?_
    refine W.lcmp hx hb dX12_paid_19 ?_
    refine lv_if_ne (tgt := 25) hx hb dX12_paid_20 (by decide) (fun c_22 => ?_) (fun c_22 => ?_)
    · skip
      refine lv_aload_n hx hb dX12_paid_25 rfl (lv_at hl 0 rfl) ?_
      refine sk_get (v := .ref (g 31)) (C := RX12) (T := TX12) (N := 92) hx hb hts inlX12 hown hK hP 0 rfl rfl 31 (Nat.le_of_ble_eq_true rfl) w_5_186 rfl dX12_paid_26 ?_
      refine lv_iconst (v := 1) hx hb dX12_paid_29 ic_1 ?_
      refine va_iald hx hb hK.1 hP 4 0 rfl rfl (by unfold vp_in; decide) dX12_paid_30 ?_
      obtain ⟨k_23, hk_23, ek_23⟩ := nowOk_1 hnw
      refine sk_top (nI k_23) ek_23 ?_
      refine lv_istore_n (lv' := [(2, .int (nI k_23)), (0, .ref mm), (1, .int (nI kd_7))]) hx hb dX12_paid_31 rfl hl (by decide) rfl (fun ls hl => ?_)
      refine lv_iconst (v := 0) hx hb dX12_paid_32 ic_0 ?_
      refine lv_istore_n (lv' := [(3, .int 0), (2, .int (nI k_23)), (0, .ref mm), (1, .int (nI kd_7))]) hx hb dX12_paid_33 rfl hl (by decide) rfl (fun ls hl => ?_)
      have lp_24 : ∀ (n_25 : Nat) (i : Nat) (av : Int32) (H : Heap) (locs : List Loc) (ls : Array Slot), 10 - i < n_25 → (i ≤ 9) → (mdAt av i) → va_P D vwCl [ro_ mm 12 (mo g (nI ta) (nI pa) (nI pe) pd (nI pb) pp pf pg pn rt rn (nI cd) sn (nI il) tk2_8 am2_10 at_2_11 aa2_12 0 0 (-1) wt wy2_13 0 (nI rm) (nI ud) (nI nu) sd (nI qn) (nI qw) qo (nI qb) (nI qp2_9) qa (nI qi) (nI oc)), ra_I (g 24) cI 6 (l6 u0 u1 u2 u3 u4 u5), ra_I (g 25) cI 6 (l6 v0 v1 v2 v3 v4 v5), ra_N (g 26) cI 3200 cs, ra_I (g 31) cI 120 nw, ra_N (g 46) cI 9 pt, ra_J (g 86) cJ 1700 ql2_14, ra_I (g 20) cI 4 (l4 (nI l0) (nI l1) (nI dm) (nI l3)), ra_I (g 38) cI 90 ws_2_15, ra_I (g 36) cZ 900 yw2_16, ra_I (g 37) cZ 900 yo2_17, ra_J (g 43) cJ 90 be2_18, ra_J (g 44) cJ 90 bf2_19, ra_J (g 48) cJ 90 py2_20] H → va_D A [ro_ mm 12 (mo g (nI ta) (nI pa) (nI pe) pd (nI pb) pp pf pg pn rt rn (nI cd) sn (nI il) tk2_8 am2_10 at_2_11 aa2_12 0 0 (-1) wt wy2_13 0 (nI rm) (nI ud) (nI nu) sd (nI qn) (nI qw) qo (nI qb) (nI qp2_9) qa (nI qi) (nI oc)), ra_I (g 24) cI 6 (l6 u0 u1 u2 u3 u4 u5), ra_I (g 25) cI 6 (l6 v0 v1 v2 v3 v4 v5), ra_N (g 26) cI 3200 cs, ra_I (g 31) cI 120 nw, ra_N (g 46) cI 9 pt, ra_J (g 86) cJ 1700 ql2_14, ra_I (g 20) cI 4 (l4 (nI l0) (nI l1) (nI dm) (nI l3)), ra_I (g 38) cI 90 ws_2_15, ra_I (g 36) cZ 900 yw2_16, ra_I (g 37) cZ 900 yo2_17, ra_J (g 43) cJ 90 be2_18, ra_J (g 44) cJ 90 bf2_19, ra_J (g 48) cJ 90 py2_20] → va_S A s.heap H locs → lv_has ls 4 [(3, .int (nI i)), (2, .int av), (0, .ref mm), (1, .int (nI kd_7))] → W p l e { frames := 7, cells := 0, slots := 0, locals := 167 } s m ([.ref mm, .int (nI kd_7)] : List Value).toArray below meth c H locs 0 0 (MQ below (skI D (skT cI cJ cC cZ cS) (fun (r : Int32) (u : va_W) => ∃ (tk2 : Int32), ∃ (qp2 : Nat), ∃ (am2 : Int32), ∃ (at_2 : Int32), ∃ (aa2 : Int32), ∃ (wy2 : Int64), ∃ (ql2 : Nat → Int64), ∃ (ws_2 : Nat → Int32), ∃ (yw2 : Nat → Int32), ∃ (yo2 : Nat → Int32), ∃ (be2 : Nat → Int64), ∃ (bf2 : Nat → Int64), ∃ (py2 : Nat → Int64), u = [ro_ mm 12 (mo g (nI ta) (nI pa) (nI pe) pd (nI pb) pp pf pg pn rt rn (nI cd) sn (nI il) tk2 am2 at_2 aa2 0 0 (-1) wt wy2 0 (nI rm) (nI ud) (nI nu) sd (nI qn) (nI qw) qo (nI qb) (nI qp2) qa (nI qi) (nI oc)), ra_I (g 24) cI 6 (l6 u0 u1 u2 u3 u4 u5), ra_I (g 25) cI 6 (l6 v0 v1 v2 v3 v4 v5), ra_N (g 26) cI 3200 cs, ra_I (g 31) cI 120 nw, ra_N (g 46) cI 9 pt, ra_J (g 86) cJ 1700 ql2, ra_I (g 20) cI 4 (l4 (nI l0) (nI l1) (nI dm) (nI l3)), ra_I (g 38) cI 90 ws_2, ra_I (g 36) cZ 900 yw2, ra_I (g 37) cZ 900 yo2, ra_J (g 43) cJ 90 be2, ra_J (g 44) cJ 90 bf2, ra_J (g 48) cJ 90 py2]) A) ([.ref mm, .int (nI kd_7)] : List Value).toArray s 0 0 A) (F0 m 34 ls []) := by
        intro n_25
        induction n_25 with
        | zero => intro i av H locs ls hm; exact absurd hm (Nat.not_lt_zero _)
        | succ n_25 ih_lp_24 =>
          intro i av H locs ls hm hi hav hP hD hS hl
          refine lv_iload_n hx hb dX12_paid_34 rfl (lv_at hl 0 rfl) ?_
          refine lv_iload_n hx hb dX12_paid_35 rfl (lv_at hl 3 rfl) ?_
          refine lv_icmp_gt (tgt := 52) hx hb dX12_paid_36 (by decide) (fun c_26 => ?_) (fun c_26 => ?_)
          · have c_26 : kd_7 < i := (nlt kd_7 i (by omega) (by omega)).mp c_26
            refine lv_iload_n hx hb dX12_paid_52 rfl (lv_at hl 1 rfl) ?_
            exact sk_iret hx hb hr rfl hlocks hK hP hD hS (⟨tk2_8, qp2_9, am2_10, at_2_11, aa2_12, wy2_13, ql2_14, ws_2_15, yw2_16, yo2_17, be2_18, bf2_19, py2_20, rfl⟩) (Nat.le_of_ble_eq_true rfl) (Nat.le_of_ble_eq_true rfl) dX12_paid_53
          · have c_26 : ¬ (kd_7 < i) := fun h => c_26 ((nlt kd_7 i (by omega) (by omega)).mpr h)
            refine lv_aload_n hx hb dX12_paid_39 rfl (lv_at hl 2 rfl) ?_
            refine lv_iload_n hx hb dX12_paid_40 rfl (lv_at hl 0 rfl) ?_
            refine lv_iload_n hx hb dX12_paid_41 rfl (lv_at hl 1 rfl) ?_
            refine sk_Vi (q0 := 0) (n := 2) (rest := []) (wr := fmR om_14_2219 _) ⟨hx, hb, hml, hown, hts⟩ hl.1 (c_m_bestBehind l D cI cJ cC cZ cS mm g ta pa pe pd pb pp pf pg pn rt rn cd sn il tk2_8 am2_10 at_2_11 aa2_12 wt wy2_13 rm ud nu sd qn qw qo qb qp2_9 qa qi oc i av nw yo2_17 yw2_16 py2_20 (by omega) hav hnw) w_8_49 w_8_51 w_0_98 w_1_14 w_8_52 hd_X12_bestBehind_2 ⟨⟨(Nat.le_of_ble_eq_true rfl), (Nat.le_of_ble_eq_true rfl)⟩, (Nat.le_of_ble_eq_true rfl), (Nat.le_of_ble_eq_true rfl)⟩ hK hP hD hS hA [0, 4, 10, 9, 13] (fmF om_14_2219 0) rfl (fm_R rfl rfl) (by decide +kernel) (fm_nF om_14_2219 0) (by decide +kernel) rfl rfl rfl rfl (Nat.le_of_ble_eq_true rfl) dX12_paid_42 (fun r_27 u H locs hw hP hD hS => ?_)
            refine anE hw (fun hr1_28 eu_29 => ?_)
            clear hw
            refine o_mgqE (ux := [ro_ mm 12 (mo g (nI ta) (nI pa) (nI pe) pd (nI pb) pp pf pg pn rt rn (nI cd) sn (nI il) tk2_8 am2_10 at_2_11 aa2_12 0 0 (-1) wt wy2_13 0 (nI rm) (nI ud) (nI nu) sd (nI qn) (nI qw) qo (nI qb) (nI qp2_9) qa (nI qi) (nI oc)), ra_I (g 31) cI 120 nw, ra_I (g 36) cZ 900 yw2_16, ra_I (g 37) cZ 900 yo2_17, ra_J (g 48) cJ 90 py2_20]) (ws' := [ro_ mm 12 (mo g (nI ta) (nI pa) (nI pe) pd (nI pb) pp pf pg pn rt rn (nI cd) sn (nI il) tk2_8 am2_10 at_2_11 aa2_12 0 0 (-1) wt wy2_13 0 (nI rm) (nI ud) (nI nu) sd (nI qn) (nI qw) qo (nI qb) (nI qp2_9) qa (nI qi) (nI oc)), ra_I (g 24) cI 6 (l6 u0 u1 u2 u3 u4 u5), ra_I (g 25) cI 6 (l6 v0 v1 v2 v3 v4 v5), ra_N (g 26) cI 3200 cs, ra_I (g 31) cI 120 nw, ra_N (g 46) cI 9 pt, ra_J (g 86) cJ 1700 ql2_14, ra_I (g 20) cI 4 (l4 (nI l0) (nI l1) (nI dm) (nI l3)), ra_I (g 38) cI 90 ws_2_15, ra_I (g 36) cZ 900 yw2_16, ra_I (g 37) cZ 900 yo2_17, ra_J (g 43) cJ 90 be2_18, ra_J (g 44) cJ 90 bf2_19, ra_J (g 48) cJ 90 py2_20]) eu_29 [0, 1, 3, 2, 4] (by decide +kernel) rfl hP hD rfl (fun hP hD => ?_)
            refine lv_istore_n (lv' := [(2, .int r_27), (3, .int (nI i)), (0, .ref mm), (1, .int (nI kd_7))]) hx hb dX12_paid_45 rfl hl (by decide) rfl (fun ls hl => ?_)
            refine lv_iinc (v := nI (i + 1)) (lv' := [(3, .int (nI (i + 1))), (2, .int r_27), (0, .ref mm), (1, .int (nI kd_7))]) hx hb dX12_paid_46 hl (k := 1) rfl (ninc i 1 (by decide)) (by decide) rfl (fun ls hl => ?_)
            refine lv_goto (tgt := 34) hx hb dX12_paid_49 (by decide) ?_
            exact ih_lp_24 (i + 1) r_27 _ _ _ (by omega) (by omega) (mdOk_at hr1_28 (by omega)) hP hD hS (lv_sub hl [0, 1, 2, 3] rfl)
      exact lp_24 (10 - 0 + 1) 0 (nI k_23) _ _ _ (Nat.lt_succ_self _) (by omega) (mdAt_n (k := k_23) (by omega)) hP hD hS (lv_sub hl [0, 1, 2, 3] rfl)
    · skip
      refine lv_iconst (v := (-1)) hx hb dX12_paid_23 (by decide) ?_
      exact sk_iret hx hb hr rfl hlocks hK hP hD hS (⟨tk2_8, qp2_9, am2_10, at_2_11, aa2_12, wy2_13, ql2_14, ws_2_15, yw2_16, yo2_17, be2_18, bf2_19, py2_20, rfl⟩) (Nat.le_of_ble_eq_true rfl) (Nat.le_of_ble_eq_true rfl) dX12_paid_24
  · have c_6 : b_1 = 0 := (neq b_1 0 (by omega) (Nat.le_of_ble_eq_true rfl)).mp c_6
    refine lv_iconst (v := (-1)) hx hb dX12_paid_8 (by decide) ?_
    exact sk_iret hx hb hr rfl hlocks hK hP hD hS (⟨tk, qp, am, at_, aa, wy, ql, ws_, yw, yo, be, bf, py, rfl⟩) (Nat.le_of_ble_eq_true rfl) (Nat.le_of_ble_eq_true rfl) dX12_paid_9
section SkRowsZP
variable {p : Program} {l : Launch} {e : Env} {R : Room} {s : State} {m : MethodId} {args : Array Value} {below : List Frame} {meth : Method} {c : Code} {H : Heap} {locs : List Loc} {cells slots : Nat} {Q : State → Prop}
variable {cc : ByteArray} {pc : Nat} {ls : Array Slot} {rest : List Value} {D : va_G} {tys : List (ClassId × FieldType)} {ws : va_W} {A : Nat → Prop} {H0 : Heap} {a : Nat}
theorem sk_zastP {Pr : (Nat → Int32) → Prop} (hexec : p.tables.exec = Jvm.exec) (hb : c.code = cc) (hK : skK D tys s) (hP : va_P D vwCl ws H) (hD : va_D A ws) (hS : va_S A H0 H locs) (q0 t0 : Nat) {cA : ClassId} {n : Nat} {f : Nat → Int32} {ws' : (Nat → Int32) → va_W} (ha : ws[q0]? = some (a, .inl (cA, n, .inl f))) (ht : tys[t0]? = some (cA, .boolean)) {i x : Int32} (hin : vp_in i n) (hw' : ∀ f', ws.set q0 (a, .inl (cA, n, .inl f')) = ws' f') (hup : Pr (upd f i.toNatClampNeg (vp_nar .boolean x))) (hdg : decode cc pc = .ok (.bastore, 1))
    (kk : ∀ (f' : Nat → Int32) (H1 : Heap) (locs1 : List Loc), Pr f' → va_P D vwCl (ws' f') H1 → va_D A (ws' f') → va_S A H0 H1 locs1 → W p l e R s m args below meth c H1 locs1 cells slots Q (F0 m (pc + 1) ls rest)) : W p l e R s m args below meth c H locs cells slots Q (F0 m pc ls (.int x :: .int i :: .ref a :: rest)) :=
  va_zast hexec hb hK.1 hP hD hS q0 t0 ha ht hin hdg (fun H1 locs1 h1 h2 h3 => kk _ H1 locs1 hup ((hw' _) ▸ h1) ((hw' _) ▸ h2) h3)
end SkRowsZP
theorem dg_X12_laysRest_0_0 : bqL cX12_laysRest 0 [(0, [42]), (1, [3]), (2, [182, 1, 129]), (5, [3]), (6, [60]), (7, [27]), (8, [4]), (9, [42]), (10, [182, 1, 59]), (13, [120]), (14, [162, 0, 85]), (99, [177]), (17, [42]), (18, [180, 0, 98]), (21, [27]), (22, [42]), (23, [27]), (24, [182, 1, 167]), (27, [84]), (28, [42]), (29, [180, 0, 98]), (32, [27]), (33, [51]), (34, [154, 0, 6]), (40, [42]), (41, [27]), (42, [181, 1, 106]), (45, [42]), (46, [9]), (47, [182, 1, 138]), (50, [42]), (51, [3]), (52, [181, 1, 106]), (55, [3]), (56, [61]), (57, [28]), (58, [42]), (59, [182, 1, 59]), (62, [162, 0, 31]), (93, [132, 1, 1])] = true := by decide +kernel
theorem dX12_laysRest_0 : decode cX12_laysRest 0 = .ok (.aload_n 0, 1) := q_aload_n0 (bat_get dg_X12_laysRest_0_0 0 rfl rfl)
theorem dX12_laysRest_1 : decode cX12_laysRest 1 = .ok (.iconst 0, 1) := q_iconst0 (bat_get dg_X12_laysRest_0_0 1 rfl rfl)
theorem dX12_laysRest_2 : decode cX12_laysRest 2 = .ok (.invokevirtual 385, 3) := q_invokevirtual (bat_get dg_X12_laysRest_0_0 2 rfl rfl) rfl
theorem dX12_laysRest_5 : decode cX12_laysRest 5 = .ok (.iconst 0, 1) := q_iconst0 (bat_get dg_X12_laysRest_0_0 3 rfl rfl)
theorem dX12_laysRest_6 : decode cX12_laysRest 6 = .ok (.istore_n 1, 1) := q_istore_n1 (bat_get dg_X12_laysRest_0_0 4 rfl rfl)
theorem dX12_laysRest_7 : decode cX12_laysRest 7 = .ok (.iload_n 1, 1) := q_iload_n1 (bat_get dg_X12_laysRest_0_0 5 rfl rfl)
theorem dX12_laysRest_8 : decode cX12_laysRest 8 = .ok (.iconst 1, 1) := q_iconst1 (bat_get dg_X12_laysRest_0_0 6 rfl rfl)
theorem dX12_laysRest_9 : decode cX12_laysRest 9 = .ok (.aload_n 0, 1) := q_aload_n0 (bat_get dg_X12_laysRest_0_0 7 rfl rfl)
theorem dX12_laysRest_10 : decode cX12_laysRest 10 = .ok (.invokevirtual 315, 3) := q_invokevirtual (bat_get dg_X12_laysRest_0_0 8 rfl rfl) rfl
theorem dX12_laysRest_13 : decode cX12_laysRest 13 = .ok (.ishl, 1) := q_ishl (bat_get dg_X12_laysRest_0_0 9 rfl rfl)
theorem dX12_laysRest_14 : decode cX12_laysRest 14 = .ok (.if_icmp .ge 85, 3) := q_if_icmp_ge (bat_get dg_X12_laysRest_0_0 10 rfl rfl) rfl
theorem dX12_laysRest_99 : decode cX12_laysRest 99 = .ok (.return_, 1) := q_return_ (bat_get dg_X12_laysRest_0_0 11 rfl rfl)
theorem dX12_laysRest_17 : decode cX12_laysRest 17 = .ok (.aload_n 0, 1) := q_aload_n0 (bat_get dg_X12_laysRest_0_0 12 rfl rfl)
theorem dX12_laysRest_18 : decode cX12_laysRest 18 = .ok (.getfield 98, 3) := q_getfield (bat_get dg_X12_laysRest_0_0 13 rfl rfl) rfl
theorem dX12_laysRest_21 : decode cX12_laysRest 21 = .ok (.iload_n 1, 1) := q_iload_n1 (bat_get dg_X12_laysRest_0_0 14 rfl rfl)
theorem dX12_laysRest_22 : decode cX12_laysRest 22 = .ok (.aload_n 0, 1) := q_aload_n0 (bat_get dg_X12_laysRest_0_0 15 rfl rfl)
theorem dX12_laysRest_23 : decode cX12_laysRest 23 = .ok (.iload_n 1, 1) := q_iload_n1 (bat_get dg_X12_laysRest_0_0 16 rfl rfl)
theorem dX12_laysRest_24 : decode cX12_laysRest 24 = .ok (.invokevirtual 423, 3) := q_invokevirtual (bat_get dg_X12_laysRest_0_0 17 rfl rfl) rfl
theorem dX12_laysRest_27 : decode cX12_laysRest 27 = .ok (.bastore, 1) := q_bastore (bat_get dg_X12_laysRest_0_0 18 rfl rfl)
theorem dX12_laysRest_28 : decode cX12_laysRest 28 = .ok (.aload_n 0, 1) := q_aload_n0 (bat_get dg_X12_laysRest_0_0 19 rfl rfl)
theorem dX12_laysRest_29 : decode cX12_laysRest 29 = .ok (.getfield 98, 3) := q_getfield (bat_get dg_X12_laysRest_0_0 20 rfl rfl) rfl
theorem dX12_laysRest_32 : decode cX12_laysRest 32 = .ok (.iload_n 1, 1) := q_iload_n1 (bat_get dg_X12_laysRest_0_0 21 rfl rfl)
theorem dX12_laysRest_33 : decode cX12_laysRest 33 = .ok (.baload, 1) := q_baload (bat_get dg_X12_laysRest_0_0 22 rfl rfl)
theorem dX12_laysRest_34 : decode cX12_laysRest 34 = .ok (.ifCond .ne 6, 3) := q_ifCond_ne (bat_get dg_X12_laysRest_0_0 23 rfl rfl) rfl
theorem dX12_laysRest_40 : decode cX12_laysRest 40 = .ok (.aload_n 0, 1) := q_aload_n0 (bat_get dg_X12_laysRest_0_0 24 rfl rfl)
theorem dX12_laysRest_41 : decode cX12_laysRest 41 = .ok (.iload_n 1, 1) := q_iload_n1 (bat_get dg_X12_laysRest_0_0 25 rfl rfl)
theorem dX12_laysRest_42 : decode cX12_laysRest 42 = .ok (.putfield 362, 3) := q_putfield (bat_get dg_X12_laysRest_0_0 26 rfl rfl) rfl
theorem dX12_laysRest_45 : decode cX12_laysRest 45 = .ok (.aload_n 0, 1) := q_aload_n0 (bat_get dg_X12_laysRest_0_0 27 rfl rfl)
theorem dX12_laysRest_46 : decode cX12_laysRest 46 = .ok (.lconst 0, 1) := q_lconst0 (bat_get dg_X12_laysRest_0_0 28 rfl rfl)
theorem dX12_laysRest_47 : decode cX12_laysRest 47 = .ok (.invokevirtual 394, 3) := q_invokevirtual (bat_get dg_X12_laysRest_0_0 29 rfl rfl) rfl
theorem dX12_laysRest_50 : decode cX12_laysRest 50 = .ok (.aload_n 0, 1) := q_aload_n0 (bat_get dg_X12_laysRest_0_0 30 rfl rfl)
theorem dX12_laysRest_51 : decode cX12_laysRest 51 = .ok (.iconst 0, 1) := q_iconst0 (bat_get dg_X12_laysRest_0_0 31 rfl rfl)
theorem dX12_laysRest_52 : decode cX12_laysRest 52 = .ok (.putfield 362, 3) := q_putfield (bat_get dg_X12_laysRest_0_0 32 rfl rfl) rfl
theorem dX12_laysRest_55 : decode cX12_laysRest 55 = .ok (.iconst 0, 1) := q_iconst0 (bat_get dg_X12_laysRest_0_0 33 rfl rfl)
theorem dX12_laysRest_56 : decode cX12_laysRest 56 = .ok (.istore_n 2, 1) := q_istore_n2 (bat_get dg_X12_laysRest_0_0 34 rfl rfl)
theorem dX12_laysRest_57 : decode cX12_laysRest 57 = .ok (.iload_n 2, 1) := q_iload_n2 (bat_get dg_X12_laysRest_0_0 35 rfl rfl)
theorem dX12_laysRest_58 : decode cX12_laysRest 58 = .ok (.aload_n 0, 1) := q_aload_n0 (bat_get dg_X12_laysRest_0_0 36 rfl rfl)
theorem dX12_laysRest_59 : decode cX12_laysRest 59 = .ok (.invokevirtual 315, 3) := q_invokevirtual (bat_get dg_X12_laysRest_0_0 37 rfl rfl) rfl
theorem dX12_laysRest_62 : decode cX12_laysRest 62 = .ok (.if_icmp .ge 31, 3) := q_if_icmp_ge (bat_get dg_X12_laysRest_0_0 38 rfl rfl) rfl
theorem dX12_laysRest_93 : decode cX12_laysRest 93 = .ok (.iinc 1 1, 3) := q_iinc (bat_get dg_X12_laysRest_0_0 39 rfl rfl) rfl
theorem dg_X12_laysRest_37_96 : bqL cX12_laysRest 37 [(59, [167, 255, 167]), (28, [42]), (29, [180, 0, 95]), (32, [16, 9]), (34, [27]), (35, [104]), (36, [28]), (37, [96]), (38, [42]), (39, [28]), (40, [42]), (41, [180, 0, 89]), (44, [28]), (45, [46]), (46, [182, 1, 183]), (49, [80]), (50, [132, 2, 1]), (53, [167, 255, 223]), (0, [167, 0, 56])] = true := by decide +kernel
theorem dX12_laysRest_96 : decode cX12_laysRest 96 = .ok (.goto (-89), 3) := q_goto (bat_get dg_X12_laysRest_37_96 0 rfl rfl) rfl
theorem dX12_laysRest_65 : decode cX12_laysRest 65 = .ok (.aload_n 0, 1) := q_aload_n0 (bat_get dg_X12_laysRest_37_96 1 rfl rfl)
theorem dX12_laysRest_66 : decode cX12_laysRest 66 = .ok (.getfield 95, 3) := q_getfield (bat_get dg_X12_laysRest_37_96 2 rfl rfl) rfl
theorem dX12_laysRest_69 : decode cX12_laysRest 69 = .ok (.bipush 9, 2) := q_bipush (bat_get dg_X12_laysRest_37_96 3 rfl rfl) rfl
theorem dX12_laysRest_71 : decode cX12_laysRest 71 = .ok (.iload_n 1, 1) := q_iload_n1 (bat_get dg_X12_laysRest_37_96 4 rfl rfl)
theorem dX12_laysRest_72 : decode cX12_laysRest 72 = .ok (.imul, 1) := q_imul (bat_get dg_X12_laysRest_37_96 5 rfl rfl)
theorem dX12_laysRest_73 : decode cX12_laysRest 73 = .ok (.iload_n 2, 1) := q_iload_n2 (bat_get dg_X12_laysRest_37_96 6 rfl rfl)
theorem dX12_laysRest_74 : decode cX12_laysRest 74 = .ok (.iadd, 1) := q_iadd (bat_get dg_X12_laysRest_37_96 7 rfl rfl)
theorem dX12_laysRest_75 : decode cX12_laysRest 75 = .ok (.aload_n 0, 1) := q_aload_n0 (bat_get dg_X12_laysRest_37_96 8 rfl rfl)
theorem dX12_laysRest_76 : decode cX12_laysRest 76 = .ok (.iload_n 2, 1) := q_iload_n2 (bat_get dg_X12_laysRest_37_96 9 rfl rfl)
theorem dX12_laysRest_77 : decode cX12_laysRest 77 = .ok (.aload_n 0, 1) := q_aload_n0 (bat_get dg_X12_laysRest_37_96 10 rfl rfl)
theorem dX12_laysRest_78 : decode cX12_laysRest 78 = .ok (.getfield 89, 3) := q_getfield (bat_get dg_X12_laysRest_37_96 11 rfl rfl) rfl
theorem dX12_laysRest_81 : decode cX12_laysRest 81 = .ok (.iload_n 2, 1) := q_iload_n2 (bat_get dg_X12_laysRest_37_96 12 rfl rfl)
theorem dX12_laysRest_82 : decode cX12_laysRest 82 = .ok (.iaload, 1) := q_iaload (bat_get dg_X12_laysRest_37_96 13 rfl rfl)
theorem dX12_laysRest_83 : decode cX12_laysRest 83 = .ok (.invokevirtual 439, 3) := q_invokevirtual (bat_get dg_X12_laysRest_37_96 14 rfl rfl) rfl
theorem dX12_laysRest_86 : decode cX12_laysRest 86 = .ok (.lastore, 1) := q_lastore (bat_get dg_X12_laysRest_37_96 15 rfl rfl)
theorem dX12_laysRest_87 : decode cX12_laysRest 87 = .ok (.iinc 2 1, 3) := q_iinc (bat_get dg_X12_laysRest_37_96 16 rfl rfl) rfl
theorem dX12_laysRest_90 : decode cX12_laysRest 90 = .ok (.goto (-33), 3) := q_goto (bat_get dg_X12_laysRest_37_96 17 rfl rfl) rfl
theorem dX12_laysRest_37 : decode cX12_laysRest 37 = .ok (.goto 56, 3) := q_goto (bat_get dg_X12_laysRest_37_96 18 rfl rfl) rfl
theorem w_5_205 : (Cond.fieldLink RX12 98 "SameKeeperModel" "agrees0" "[Z") ∈ wsL_law := sk_mem (ck_5 _ (List.mem_of_getElem? (i := 205) rfl)) rfl
theorem w_7_217 : (Cond.methodLink RX12 394 yX12_walksTo) ∈ wsL_law := sk_mem (ck_7 _ (List.mem_of_getElem? (i := 217) rfl)) rfl
theorem w_7_219 : (Cond.instanceMethod yX12_walksTo) ∈ wsL_law := sk_mem (ck_7 _ (List.mem_of_getElem? (i := 219) rfl)) rfl
theorem w_0_88 : (Cond.selects RX12 yX12_walksTo yX12_walksTo) ∈ wsL_law := sk_mem (ck_0 _ (List.mem_of_getElem? (i := 88) rfl)) rfl
theorem w_5_204 : (Cond.fieldLink RX12 95 "SameKeeperModel" "wages" "[J") ∈ wsL_law := sk_mem (ck_5 _ (List.mem_of_getElem? (i := 204) rfl)) rfl
theorem w_8_64 : (Cond.code yX12_laysRest cX12_laysRest 3 none) ∈ wsL_law := sk_mem (ck_8 _ (List.mem_of_getElem? (i := 64) rfl)) rfl
def om_15_7ff0 : List Bool := true :: true :: true :: true :: true :: true :: true :: true :: true :: true :: true :: false :: false :: false :: false :: []
def om_15_4080 : List Bool := true :: false :: false :: false :: false :: false :: false :: true :: false :: false :: false :: false :: false :: false :: false :: []
def om_15_44bc : List Bool := true :: false :: false :: false :: true :: false :: false :: true :: false :: true :: true :: true :: true :: false :: false :: []
def om_15_46b8 : List Bool := true :: false :: false :: false :: true :: true :: false :: true :: false :: true :: true :: true :: false :: false :: false :: []
def om_15_7f00 : List Bool := true :: true :: true :: true :: true :: true :: true :: false :: false :: false :: false :: false :: false :: false :: false :: []
theorem hd_X12_walksTo_1 : skD yX12_walksTo 1 := by decide +kernel
set_option maxHeartbeats 4000000 in
set_option maxRecDepth 100000 in
theorem c_m_laysRest (l : Launch) (D : va_G) (cI cJ cC cZ cS : ClassId) (mm : Nat) (g : Nat → Nat) (ta : Nat) (pa : Nat) (pe : Nat) (pd : Int32) (pb : Nat) (pp : Int32) (pf : Int32) (pg : Int32) (pn : Int32) (rt : Int32) (rn : Int32) (cd : Nat) (sn : Int32) (il : Nat) (tk : Int32) (am : Int32) (at_ : Int32) (aa : Int32) (wt : Int32) (wy : Int64) (rm : Nat) (ud : Nat) (nu : Nat) (sd : Int64) (qn : Nat) (qw : Nat) (qo : Int32) (qb : Nat) (qp : Nat) (qa : Int64) (qi : Nat) (oc : Nat) (u0 : Int32) (u1 : Int32) (u2 : Int32) (u3 : Int32) (u4 : Int32) (u5 : Int32) (v0 : Int32) (v1 : Int32) (v2 : Int32) (v3 : Int32) (v4 : Int32) (v5 : Int32) (cs : Nat → Nat) (nw : Nat → Int32) (pt : Nat → Nat) (ql : Nat → Int64) (l0 : Nat) (l1 : Nat) (dm : Nat) (l3 : Nat) (ws_ : Nat → Int32) (yw : Nat → Int32) (yo : Nat → Int32) (be : Nat → Int64) (bf : Nat → Int64) (ag : Nat → Int32) (wg : Nat → Int64) (hdm : dm ≤ 9) (hdm1 : 1 ≤ dm) (hp0 : progOk cs u3 v3) (hp1 : progOk cs u4 v4) (hp2 : progOk cs u5 v5) (hcs : ∀ j, cs j ≤ 20000) (hnw : nowOk nw) (hpt : ∀ j, pt j ≤ 9) : skM l yX12_laysRest cX12_laysRest 3 none 5 122 0 0 D (skT cI cJ cC cZ cS) [.ref mm] [ro_ mm 12 (mo g (nI ta) (nI pa) (nI pe) pd (nI pb) pp pf pg pn rt rn (nI cd) sn (nI il) tk am at_ aa 0 0 (-1) wt wy 0 (nI rm) (nI ud) (nI nu) sd (nI qn) (nI qw) qo (nI qb) (nI qp) qa (nI qi) (nI oc)), ra_I (g 24) cI 6 (l6 u0 u1 u2 u3 u4 u5), ra_I (g 25) cI 6 (l6 v0 v1 v2 v3 v4 v5), ra_N (g 26) cI 3200 cs, ra_I (g 31) cI 120 nw, ra_N (g 46) cI 9 pt, ra_J (g 86) cJ 1700 ql, ra_I (g 20) cI 4 (l4 (nI l0) (nI l1) (nI dm) (nI l3)), ra_I (g 38) cI 90 ws_, ra_I (g 36) cZ 900 yw, ra_I (g 37) cZ 900 yo, ra_J (g 43) cJ 90 be, ra_J (g 44) cJ 90 bf, ra_I (g 50) cZ 512 ag, ra_J (g 49) cJ 4608 wg] (skV D (skT cI cJ cC cZ cS) (fun (u : va_W) => ∃ (tk2 : Int32), ∃ (qp2 : Nat), ∃ (am2 : Int32), ∃ (at_2 : Int32), ∃ (aa2 : Int32), ∃ (wy2 : Int64), ∃ (pt2 : Nat → Nat), ∃ (ql2 : Nat → Int64), ∃ (ws_2 : Nat → Int32), ∃ (yw2 : Nat → Int32), ∃ (yo2 : Nat → Int32), ∃ (be2 : Nat → Int64), ∃ (bf2 : Nat → Int64), ∃ (ag2 : Nat → Int32), ∃ (wg2 : Nat → Int64), (∀ j, pt2 j ≤ 9) ∧ u = [ro_ mm 12 (mo g (nI ta) (nI pa) (nI pe) pd (nI pb) pp pf pg pn rt rn (nI cd) sn (nI il) tk2 am2 at_2 aa2 0 0 (-1) wt wy2 0 (nI rm) (nI ud) (nI nu) sd (nI qn) (nI qw) qo (nI qb) (nI qp2) qa (nI qi) (nI oc)), ra_I (g 24) cI 6 (l6 u0 u1 u2 u3 u4 u5), ra_I (g 25) cI 6 (l6 v0 v1 v2 v3 v4 v5), ra_N (g 26) cI 3200 cs, ra_I (g 31) cI 120 nw, ra_N (g 46) cI 9 pt2, ra_J (g 86) cJ 1700 ql2, ra_I (g 20) cI 4 (l4 (nI l0) (nI l1) (nI dm) (nI l3)), ra_I (g 38) cI 90 ws_2, ra_I (g 36) cZ 900 yw2, ra_I (g 37) cZ 900 yo2, ra_J (g 43) cJ 90 be2, ra_J (g 44) cJ 90 bf2, ra_I (g 50) cZ 512 ag2, ra_J (g 49) cJ 4608 wg2])) := by
  refine skM_of pf_X12_laysRest (Nat.le_of_ble_eq_true rfl) ?_
  intro p e s m below meth c A ls E hP hD hl
  refine skE_el E (fun hx hb hr hml hlocks hin hown hts hK hA => ?_)
  have hown : s.vm.findClass RX12 = some m.cls := hown
  have hS : va_S A s.heap s.heap [] := va_S.rf
  have hl : lv_has ls 3 [(0, .ref mm)] := hl
  refine lv_aload_n hx hb dX12_laysRest_0 rfl (lv_at hl 0 rfl) ?_
  refine lv_iconst (v := 0) hx hb dX12_laysRest_1 ic_0 ?_
  refine sk_Vv (q0 := 0) (n := 1) (rest := []) (wr := fmR om_15_7ff0 _) ⟨hx, hb, hml, hown, hts⟩ hl.1 (c_m_laysDays l D cI cJ cC cZ cS mm g ta pa pe pd pb pp pf pg pn rt rn cd sn il tk am at_ aa 0 0 (-1) wt wy 0 rm ud nu sd qn qw qo qb qp qa qi oc 0 u0 u1 u2 u3 u4 u5 v0 v1 v2 v3 v4 v5 cs nw pt ql l0 l1 dm l3 ws_ yw yo hdm hp0 hp1 hp2 hcs hnw hpt) w_7_193 w_7_195 w_0_83 w_1_14 w_7_196 hd_X12_laysDays_1 ⟨⟨(Nat.le_of_ble_eq_true rfl), (Nat.le_of_ble_eq_true rfl)⟩, (Nat.le_of_ble_eq_true rfl), (Nat.le_of_ble_eq_true rfl)⟩ hK hP hD hS hA (fmT om_15_7ff0 0) (fmF om_15_7ff0 0) (fm_C1 rfl rfl) (fm_R rfl rfl) (fm_nT om_15_7ff0 0) (fm_nF om_15_7ff0 0) (fm_di om_15_7ff0 0) rfl rfl rfl rfl (Nat.le_of_ble_eq_true rfl) dX12_laysRest_2 (fun u H locs hw hP hD hS => ?_)
  refine exE hw (fun tk2_1 hw1 => exE hw1 (fun qp2_2 hw2 => exE hw2 (fun am2_3 hw3 => exE hw3 (fun at_2_4 hw4 => exE hw4 (fun aa2_5 hw5 => exE hw5 (fun ql2_6 hw6 => exE hw6 (fun ws_2_7 hw7 => exE hw7 (fun yw2_8 hw8 => exE hw8 (fun yo2_9 eu_10 => ?_)))))))))
  clear hw hw1 hw2 hw3 hw4 hw5 hw6 hw7 hw8
  refine o_mgE (ws' := [ro_ mm 12 (mo g (nI ta) (nI pa) (nI pe) pd (nI pb) pp pf pg pn rt rn (nI cd) sn (nI il) tk2_1 am2_3 at_2_4 aa2_5 0 0 (-1) wt wy 0 (nI rm) (nI ud) (nI nu) sd (nI qn) (nI qw) qo (nI qb) (nI qp2_2) qa (nI qi) (nI oc)), ra_I (g 24) cI 6 (l6 u0 u1 u2 u3 u4 u5), ra_I (g 25) cI 6 (l6 v0 v1 v2 v3 v4 v5), ra_N (g 26) cI 3200 cs, ra_I (g 31) cI 120 nw, ra_N (g 46) cI 9 pt, ra_J (g 86) cJ 1700 ql2_6, ra_I (g 20) cI 4 (l4 (nI l0) (nI l1) (nI dm) (nI l3)), ra_I (g 38) cI 90 ws_2_7, ra_I (g 36) cZ 900 yw2_8, ra_I (g 37) cZ 900 yo2_9, ra_J (g 43) cJ 90 be, ra_J (g 44) cJ 90 bf, ra_I (g 50) cZ 512 ag, ra_J (g 49) cJ 4608 wg]) eu_10 hP hD rfl (fun hP hD => ?_)
  refine lv_iconst (v := 0) hx hb dX12_laysRest_5 ic_0 ?_
  refine lv_istore_n (lv' := [(1, .int 0), (0, .ref mm)]) hx hb dX12_laysRest_6 rfl hl (by decide) rfl (fun ls hl => ?_)
  have lp_11 : ∀ (n_12 : Nat) (i : Nat) (zama : Int32) (ztka : Int32) (zqpa : Nat) (zwya : Int64) (y46a : Nat → Nat) (y86a : Nat → Int64) (y43a : Nat → Int64) (y44a : Nat → Int64) (y50a : Nat → Int32) (y49a : Nat → Int64) (H : Heap) (locs : List Loc) (ls : Array Slot), 512 - i < n_12 → (∀ j, y46a j ≤ 9) → (i ≤ 512) → va_P D vwCl [ro_ mm 12 (mo g (nI ta) (nI pa) (nI pe) pd (nI pb) pp pf pg pn rt rn (nI cd) sn (nI il) ztka zama at_2_4 aa2_5 0 0 (-1) wt zwya 0 (nI rm) (nI ud) (nI nu) sd (nI qn) (nI qw) qo (nI qb) (nI zqpa) qa (nI qi) (nI oc)), ra_I (g 24) cI 6 (l6 u0 u1 u2 u3 u4 u5), ra_I (g 25) cI 6 (l6 v0 v1 v2 v3 v4 v5), ra_N (g 26) cI 3200 cs, ra_I (g 31) cI 120 nw, ra_N (g 46) cI 9 y46a, ra_J (g 86) cJ 1700 y86a, ra_I (g 20) cI 4 (l4 (nI l0) (nI l1) (nI dm) (nI l3)), ra_I (g 38) cI 90 ws_2_7, ra_I (g 36) cZ 900 yw2_8, ra_I (g 37) cZ 900 yo2_9, ra_J (g 43) cJ 90 y43a, ra_J (g 44) cJ 90 y44a, ra_I (g 50) cZ 512 y50a, ra_J (g 49) cJ 4608 y49a] H → va_D A [ro_ mm 12 (mo g (nI ta) (nI pa) (nI pe) pd (nI pb) pp pf pg pn rt rn (nI cd) sn (nI il) ztka zama at_2_4 aa2_5 0 0 (-1) wt zwya 0 (nI rm) (nI ud) (nI nu) sd (nI qn) (nI qw) qo (nI qb) (nI zqpa) qa (nI qi) (nI oc)), ra_I (g 24) cI 6 (l6 u0 u1 u2 u3 u4 u5), ra_I (g 25) cI 6 (l6 v0 v1 v2 v3 v4 v5), ra_N (g 26) cI 3200 cs, ra_I (g 31) cI 120 nw, ra_N (g 46) cI 9 y46a, ra_J (g 86) cJ 1700 y86a, ra_I (g 20) cI 4 (l4 (nI l0) (nI l1) (nI dm) (nI l3)), ra_I (g 38) cI 90 ws_2_7, ra_I (g 36) cZ 900 yw2_8, ra_I (g 37) cZ 900 yo2_9, ra_J (g 43) cJ 90 y43a, ra_J (g 44) cJ 90 y44a, ra_I (g 50) cZ 512 y50a, ra_J (g 49) cJ 4608 y49a] → va_S A s.heap H locs → lv_has ls 3 [(1, .int (nI i)), (0, .ref mm)] → W p l e { frames := 5, cells := 0, slots := 0, locals := 122 } s m ([.ref mm] : List Value).toArray below meth c H locs 0 0 (MQ below (skV D (skT cI cJ cC cZ cS) (fun (u : va_W) => ∃ (tk2 : Int32), ∃ (qp2 : Nat), ∃ (am2 : Int32), ∃ (at_2 : Int32), ∃ (aa2 : Int32), ∃ (wy2 : Int64), ∃ (pt2 : Nat → Nat), ∃ (ql2 : Nat → Int64), ∃ (ws_2 : Nat → Int32), ∃ (yw2 : Nat → Int32), ∃ (yo2 : Nat → Int32), ∃ (be2 : Nat → Int64), ∃ (bf2 : Nat → Int64), ∃ (ag2 : Nat → Int32), ∃ (wg2 : Nat → Int64), (∀ j, pt2 j ≤ 9) ∧ u = [ro_ mm 12 (mo g (nI ta) (nI pa) (nI pe) pd (nI pb) pp pf pg pn rt rn (nI cd) sn (nI il) tk2 am2 at_2 aa2 0 0 (-1) wt wy2 0 (nI rm) (nI ud) (nI nu) sd (nI qn) (nI qw) qo (nI qb) (nI qp2) qa (nI qi) (nI oc)), ra_I (g 24) cI 6 (l6 u0 u1 u2 u3 u4 u5), ra_I (g 25) cI 6 (l6 v0 v1 v2 v3 v4 v5), ra_N (g 26) cI 3200 cs, ra_I (g 31) cI 120 nw, ra_N (g 46) cI 9 pt2, ra_J (g 86) cJ 1700 ql2, ra_I (g 20) cI 4 (l4 (nI l0) (nI l1) (nI dm) (nI l3)), ra_I (g 38) cI 90 ws_2, ra_I (g 36) cZ 900 yw2, ra_I (g 37) cZ 900 yo2, ra_J (g 43) cJ 90 be2, ra_J (g 44) cJ 90 bf2, ra_I (g 50) cZ 512 ag2, ra_J (g 49) cJ 4608 wg2]) A) ([.ref mm] : List Value).toArray s 0 0 A) (F0 m 7 ls []) := by
    intro n_12
    induction n_12 with
    | zero => intro i zama ztka zqpa zwya y46a y86a y43a y44a y50a y49a H locs ls hm; exact absurd hm (Nat.not_lt_zero _)
    | succ n_12 ih_lp_11 =>
      intro i zama ztka zqpa zwya y46a y86a y43a y44a y50a y49a H locs ls hm hy46a hi hP hD hS hl
      refine lv_iload_n hx hb dX12_laysRest_7 rfl (lv_at hl 0 rfl) ?_
      refine lv_iconst (v := 1) hx hb dX12_laysRest_8 ic_1 ?_
      refine lv_aload_n hx hb dX12_laysRest_9 rfl (lv_at hl 1 rfl) ?_
      refine sk_Vi (q0 := 0) (n := 0) (rest := [.int 1, .int (nI i)]) (wr := fmR om_15_4080 _) ⟨hx, hb, hml, hown, hts⟩ hl.1 (c_m_dayMany l D cI cJ cC cZ cS mm g ta pa pe pd pb pp pf pg pn rt rn cd sn il ztka zama at_2_4 aa2_5 0 0 (-1) wt zwya 0 rm ud nu sd qn qw qo qb zqpa qa qi oc l0 l1 dm l3) w_7_98 w_7_100 w_0_69 w_1_14 w_7_101 hd_X12_dayMany_0 ⟨⟨(Nat.le_of_ble_eq_true rfl), (Nat.le_of_ble_eq_true rfl)⟩, (Nat.le_of_ble_eq_true rfl), (Nat.le_of_ble_eq_true rfl)⟩ hK hP hD hS hA (fmT om_15_4080 0) (fmF om_15_4080 0) (fm_C1 rfl rfl) (fm_R rfl rfl) (fm_nT om_15_4080 0) (fm_nF om_15_4080 0) (fm_di om_15_4080 0) rfl rfl rfl rfl (Nat.le_of_ble_eq_true rfl) dX12_laysRest_10 (fun r_13 u H locs hw hP hD hS => ?_)
      refine anE hw (fun er_15 eu_14 => ?_)
      clear hw
      subst er_15
      refine o_mgE (ws' := [ro_ mm 12 (mo g (nI ta) (nI pa) (nI pe) pd (nI pb) pp pf pg pn rt rn (nI cd) sn (nI il) ztka zama at_2_4 aa2_5 0 0 (-1) wt zwya 0 (nI rm) (nI ud) (nI nu) sd (nI qn) (nI qw) qo (nI qb) (nI zqpa) qa (nI qi) (nI oc)), ra_I (g 24) cI 6 (l6 u0 u1 u2 u3 u4 u5), ra_I (g 25) cI 6 (l6 v0 v1 v2 v3 v4 v5), ra_N (g 26) cI 3200 cs, ra_I (g 31) cI 120 nw, ra_N (g 46) cI 9 y46a, ra_J (g 86) cJ 1700 y86a, ra_I (g 20) cI 4 (l4 (nI l0) (nI l1) (nI dm) (nI l3)), ra_I (g 38) cI 90 ws_2_7, ra_I (g 36) cZ 900 yw2_8, ra_I (g 37) cZ 900 yo2_9, ra_J (g 43) cJ 90 y43a, ra_J (g 44) cJ 90 y44a, ra_I (g 50) cZ 512 y50a, ra_J (g 49) cJ 4608 y49a]) eu_14 hP hD rfl (fun hP hD => ?_)
      refine lv_ishl hx hb dX12_laysRest_13 ?_
      obtain ⟨k_16, hk_16, ek_16⟩ := nshl1 dm (by omega)
      refine sk_top (nI k_16) ek_16 ?_
      refine lv_icmp_ge (tgt := 99) hx hb dX12_laysRest_14 (by decide) (fun c_17 => ?_) (fun c_17 => ?_)
      · have c_17 : k_16 ≤ i := (nle k_16 i (by omega) (by omega)).mp c_17
        exact sk_vret hx hb hr hlocks hK hP hD hS (⟨ztka, zqpa, zama, at_2_4, aa2_5, zwya, y46a, y86a, ws_2_7, yw2_8, yo2_9, y43a, y44a, y50a, y49a, hy46a, rfl⟩) (Nat.le_of_ble_eq_true rfl) (Nat.le_of_ble_eq_true rfl) dX12_laysRest_99
      · have c_17 : ¬ (k_16 ≤ i) := fun h => c_17 ((nle k_16 i (by omega) (by omega)).mpr h)
        refine lv_aload_n hx hb dX12_laysRest_17 rfl (lv_at hl 1 rfl) ?_
        refine sk_get (v := .ref (g 50)) (C := RX12) (T := TX12) (N := 92) hx hb hts inlX12 hown hK hP 0 rfl rfl 50 (Nat.le_of_ble_eq_true rfl) w_5_205 rfl dX12_laysRest_18 ?_
        refine lv_iload_n hx hb dX12_laysRest_21 rfl (lv_at hl 0 rfl) ?_
        refine lv_aload_n hx hb dX12_laysRest_22 rfl (lv_at hl 1 rfl) ?_
        refine lv_iload_n hx hb dX12_laysRest_23 rfl (lv_at hl 0 rfl) ?_
        refine sk_Vi (q0 := 0) (n := 1) (rest := [.int (nI i), .ref (g 50)]) (wr := fmR om_15_44bc _) ⟨hx, hb, hml, hown, hts⟩ hl.1 (c_m_doesAgree l D cI cJ cC cZ cS mm g ta pa pe pd pb pp pf pg pn rt rn cd sn il ztka zama at_2_4 aa2_5 0 wt zwya 0 rm ud nu sd qn qw qo qb zqpa qa qi oc (nI i) l0 l1 dm l3 nw yo2_9 yw2_8 y43a y44a hdm hdm1 hnw) w_7_229 w_7_231 w_0_89 w_1_14 w_7_232 hd_X12_doesAgree_1 ⟨⟨(Nat.le_of_ble_eq_true rfl), (Nat.le_of_ble_eq_true rfl)⟩, (Nat.le_of_ble_eq_true rfl), (Nat.le_of_ble_eq_true rfl)⟩ hK hP hD hS hA [0, 7, 4, 10, 9, 11, 12] (fmF om_15_44bc 0) rfl (fm_R rfl rfl) (by decide +kernel) (fm_nF om_15_44bc 0) (by decide +kernel) rfl rfl rfl rfl (Nat.le_of_ble_eq_true rfl) dX12_laysRest_24 (fun r_22 u H locs hw hP hD hS => ?_)
        refine exE hw (fun b_18 hw1 => exE hw1 (fun wy2_19 hw2 => exE hw2 (fun be2_20 hw3 => exE hw3 (fun bf2_21 hw4 => anE hw4 (fun hbe_23 hw5 => anE hw5 (fun hwy_24 hw6 => anE hw6 (fun hb1_25 hw7 => anE hw7 (fun er_27 eu_26 => ?_))))))))
        clear hw hw1 hw2 hw3 hw4 hw5 hw6 hw7
        subst er_27
        refine o_mgqE (ux := [ro_ mm 12 (mo g (nI ta) (nI pa) (nI pe) pd (nI pb) pp pf pg pn rt rn (nI cd) sn (nI il) ztka zama at_2_4 aa2_5 0 0 (-1) wt wy2_19 0 (nI rm) (nI ud) (nI nu) sd (nI qn) (nI qw) qo (nI qb) (nI zqpa) qa (nI qi) (nI oc)), ra_I (g 31) cI 120 nw, ra_I (g 20) cI 4 (l4 (nI l0) (nI l1) (nI dm) (nI l3)), ra_I (g 36) cZ 900 yw2_8, ra_I (g 37) cZ 900 yo2_9, ra_J (g 43) cJ 90 be2_20, ra_J (g 44) cJ 90 bf2_21]) (ws' := [ro_ mm 12 (mo g (nI ta) (nI pa) (nI pe) pd (nI pb) pp pf pg pn rt rn (nI cd) sn (nI il) ztka zama at_2_4 aa2_5 0 0 (-1) wt wy2_19 0 (nI rm) (nI ud) (nI nu) sd (nI qn) (nI qw) qo (nI qb) (nI zqpa) qa (nI qi) (nI oc)), ra_I (g 24) cI 6 (l6 u0 u1 u2 u3 u4 u5), ra_I (g 25) cI 6 (l6 v0 v1 v2 v3 v4 v5), ra_N (g 26) cI 3200 cs, ra_I (g 31) cI 120 nw, ra_N (g 46) cI 9 y46a, ra_J (g 86) cJ 1700 y86a, ra_I (g 20) cI 4 (l4 (nI l0) (nI l1) (nI dm) (nI l3)), ra_I (g 38) cI 90 ws_2_7, ra_I (g 36) cZ 900 yw2_8, ra_I (g 37) cZ 900 yo2_9, ra_J (g 43) cJ 90 be2_20, ra_J (g 44) cJ 90 bf2_21, ra_I (g 50) cZ 512 y50a, ra_J (g 49) cJ 4608 y49a]) eu_26 [0, 2, 1, 4, 3, 5, 6] (by decide +kernel) rfl hP hD rfl (fun hP hD => ?_)
        refine sk_zastP (Pr := fun f => f (nI i).toNatClampNeg = nI b_18) (ws' := fun f_28 => [ro_ mm 12 (mo g (nI ta) (nI pa) (nI pe) pd (nI pb) pp pf pg pn rt rn (nI cd) sn (nI il) ztka zama at_2_4 aa2_5 0 0 (-1) wt wy2_19 0 (nI rm) (nI ud) (nI nu) sd (nI qn) (nI qw) qo (nI qb) (nI zqpa) qa (nI qi) (nI oc)), ra_I (g 24) cI 6 (l6 u0 u1 u2 u3 u4 u5), ra_I (g 25) cI 6 (l6 v0 v1 v2 v3 v4 v5), ra_N (g 26) cI 3200 cs, ra_I (g 31) cI 120 nw, ra_N (g 46) cI 9 y46a, ra_J (g 86) cJ 1700 y86a, ra_I (g 20) cI 4 (l4 (nI l0) (nI l1) (nI dm) (nI l3)), ra_I (g 38) cI 90 ws_2_7, ra_I (g 36) cZ 900 yw2_8, ra_I (g 37) cZ 900 yo2_9, ra_J (g 43) cJ 90 be2_20, ra_J (g 44) cJ 90 bf2_21, ra_I (g 50) cZ 512 f_28, ra_J (g 49) cJ 4608 y49a]) hx hb hK hP hD hS 13 3 rfl rfl (vin i 512 (by omega) (Nat.le_of_ble_eq_true rfl)) (fun _ => rfl) (by show upd _ _ _ _ = _; rw [upd_at, nar_b _ (by omega)]) dX12_laysRest_27 (fun f_28 H locs hag hP hD hS => ?_)
        refine lv_aload_n hx hb dX12_laysRest_28 rfl (lv_at hl 1 rfl) ?_
        refine sk_get (v := .ref (g 50)) (C := RX12) (T := TX12) (N := 92) hx hb hts inlX12 hown hK hP 0 rfl rfl 50 (Nat.le_of_ble_eq_true rfl) w_5_205 rfl dX12_laysRest_29 ?_
        refine lv_iload_n hx hb dX12_laysRest_32 rfl (lv_at hl 0 rfl) ?_
        refine va_zald hx hb hK.1 hP 13 3 rfl rfl (vin i 512 (by omega) (Nat.le_of_ble_eq_true rfl)) dX12_laysRest_33 ?_
        refine sk_top (nI b_18) hag ?_
        refine lv_if_ne (tgt := 40) hx hb dX12_laysRest_34 (by decide) (fun c_29 => ?_) (fun c_29 => ?_)
        · have c_29 : ¬ (b_18 = 0) := fun h => c_29 ((neq b_18 0 (by omega) (Nat.le_of_ble_eq_true rfl)).mpr h)
          refine lv_aload_n hx hb dX12_laysRest_40 rfl (lv_at hl 1 rfl) ?_
          refine lv_iload_n hx hb dX12_laysRest_41 rfl (lv_at hl 0 rfl) ?_
          refine sk_put (ws' := [ro_ mm 12 (mo g (nI ta) (nI pa) (nI pe) pd (nI pb) pp pf pg pn rt rn (nI cd) sn (nI il) ztka zama at_2_4 aa2_5 (nI i) 0 (-1) wt wy2_19 0 (nI rm) (nI ud) (nI nu) sd (nI qn) (nI qw) qo (nI qb) (nI zqpa) qa (nI qi) (nI oc)), ra_I (g 24) cI 6 (l6 u0 u1 u2 u3 u4 u5), ra_I (g 25) cI 6 (l6 v0 v1 v2 v3 v4 v5), ra_N (g 26) cI 3200 cs, ra_I (g 31) cI 120 nw, ra_N (g 46) cI 9 y46a, ra_J (g 86) cJ 1700 y86a, ra_I (g 20) cI 4 (l4 (nI l0) (nI l1) (nI dm) (nI l3)), ra_I (g 38) cI 90 ws_2_7, ra_I (g 36) cZ 900 yw2_8, ra_I (g 37) cZ 900 yo2_9, ra_J (g 43) cJ 90 be2_20, ra_J (g 44) cJ 90 bf2_21, ra_I (g 50) cZ 512 f_28, ra_J (g 49) cJ 4608 y49a]) (C := RX12) (T := TX12) (N := 92) (v := .int (nI i)) hx hb hts inlX12 tyX12 tyX12_ok nmX12 hown hK hP hD hS 0 rfl rfl 39 (Nat.le_of_ble_eq_true rfl) w_5_194 rfl rfl rfl (Nat.le_of_ble_eq_true rfl) rfl dX12_laysRest_42 (fun H locs hP hD hS => ?_)
          refine lv_aload_n hx hb dX12_laysRest_45 rfl (lv_at hl 1 rfl) ?_
          refine lv_lconst (v := 0) hx hb dX12_laysRest_46 (by decide) ?_
          refine sk_Vv (q0 := 0) (n := 1) (rest := []) (wr := fmR om_15_46b8 _) ⟨hx, hb, hml, hown, hts⟩ hl.1 (c_m_walksTo l D cI cJ cC cZ cS mm g ta pa pe pd pb pp pf pg pn rt rn cd sn il ztka zama at_2_4 aa2_5 (nI i) wt wy2_19 0 rm ud nu sd qn qw qo qb zqpa qa qi oc 0 l0 l1 dm l3 nw yo2_9 yw2_8 be2_20 y46a hdm hdm1 hbe_23 (wk_z (hb1_25.resolve_left (by omega)).2) hnw hy46a) w_7_217 w_7_219 w_0_88 w_1_14 w_7_220 hd_X12_walksTo_1 ⟨⟨(Nat.le_of_ble_eq_true rfl), (Nat.le_of_ble_eq_true rfl)⟩, (Nat.le_of_ble_eq_true rfl), (Nat.le_of_ble_eq_true rfl)⟩ hK hP hD hS hA [0, 7, 4, 10, 9, 11, 5] (fmF om_15_46b8 0) rfl (fm_R rfl rfl) (by decide +kernel) (fm_nF om_15_46b8 0) (by decide +kernel) rfl rfl rfl rfl (Nat.le_of_ble_eq_true rfl) dX12_laysRest_47 (fun u H locs hw hP hD hS => ?_)
          refine exE hw (fun pt2_30 hw1 => anE hw1 (fun hpt2_31 eu_32 => ?_))
          clear hw hw1
          refine o_mgqE (ux := [ro_ mm 12 (mo g (nI ta) (nI pa) (nI pe) pd (nI pb) pp pf pg pn rt rn (nI cd) sn (nI il) ztka zama at_2_4 aa2_5 (nI i) 0 (-1) wt wy2_19 0 (nI rm) (nI ud) (nI nu) sd (nI qn) (nI qw) qo (nI qb) (nI zqpa) qa (nI qi) (nI oc)), ra_I (g 31) cI 120 nw, ra_N (g 46) cI 9 pt2_30, ra_I (g 20) cI 4 (l4 (nI l0) (nI l1) (nI dm) (nI l3)), ra_I (g 36) cZ 900 yw2_8, ra_I (g 37) cZ 900 yo2_9, ra_J (g 43) cJ 90 be2_20]) (ws' := [ro_ mm 12 (mo g (nI ta) (nI pa) (nI pe) pd (nI pb) pp pf pg pn rt rn (nI cd) sn (nI il) ztka zama at_2_4 aa2_5 (nI i) 0 (-1) wt wy2_19 0 (nI rm) (nI ud) (nI nu) sd (nI qn) (nI qw) qo (nI qb) (nI zqpa) qa (nI qi) (nI oc)), ra_I (g 24) cI 6 (l6 u0 u1 u2 u3 u4 u5), ra_I (g 25) cI 6 (l6 v0 v1 v2 v3 v4 v5), ra_N (g 26) cI 3200 cs, ra_I (g 31) cI 120 nw, ra_N (g 46) cI 9 pt2_30, ra_J (g 86) cJ 1700 y86a, ra_I (g 20) cI 4 (l4 (nI l0) (nI l1) (nI dm) (nI l3)), ra_I (g 38) cI 90 ws_2_7, ra_I (g 36) cZ 900 yw2_8, ra_I (g 37) cZ 900 yo2_9, ra_J (g 43) cJ 90 be2_20, ra_J (g 44) cJ 90 bf2_21, ra_I (g 50) cZ 512 f_28, ra_J (g 49) cJ 4608 y49a]) eu_32 [0, 2, 6, 1, 4, 3, 5] (by decide +kernel) rfl hP hD rfl (fun hP hD => ?_)
          refine lv_aload_n hx hb dX12_laysRest_50 rfl (lv_at hl 1 rfl) ?_
          refine lv_iconst (v := 0) hx hb dX12_laysRest_51 ic_0 ?_
          refine sk_put (ws' := [ro_ mm 12 (mo g (nI ta) (nI pa) (nI pe) pd (nI pb) pp pf pg pn rt rn (nI cd) sn (nI il) ztka zama at_2_4 aa2_5 0 0 (-1) wt wy2_19 0 (nI rm) (nI ud) (nI nu) sd (nI qn) (nI qw) qo (nI qb) (nI zqpa) qa (nI qi) (nI oc)), ra_I (g 24) cI 6 (l6 u0 u1 u2 u3 u4 u5), ra_I (g 25) cI 6 (l6 v0 v1 v2 v3 v4 v5), ra_N (g 26) cI 3200 cs, ra_I (g 31) cI 120 nw, ra_N (g 46) cI 9 pt2_30, ra_J (g 86) cJ 1700 y86a, ra_I (g 20) cI 4 (l4 (nI l0) (nI l1) (nI dm) (nI l3)), ra_I (g 38) cI 90 ws_2_7, ra_I (g 36) cZ 900 yw2_8, ra_I (g 37) cZ 900 yo2_9, ra_J (g 43) cJ 90 be2_20, ra_J (g 44) cJ 90 bf2_21, ra_I (g 50) cZ 512 f_28, ra_J (g 49) cJ 4608 y49a]) (C := RX12) (T := TX12) (N := 92) (v := .int 0) hx hb hts inlX12 tyX12 tyX12_ok nmX12 hown hK hP hD hS 0 rfl rfl 39 (Nat.le_of_ble_eq_true rfl) w_5_194 rfl rfl rfl (Nat.le_of_ble_eq_true rfl) rfl dX12_laysRest_52 (fun H locs hP hD hS => ?_)
          refine lv_iconst (v := 0) hx hb dX12_laysRest_55 ic_0 ?_
          refine lv_istore_n (lv' := [(2, .int 0), (1, .int (nI i)), (0, .ref mm)]) hx hb dX12_laysRest_56 rfl hl (by decide) rfl (fun ls hl => ?_)
          have lp_33 : ∀ (n_34 : Nat) (jd : Nat) (zamb : Int32) (ztkb : Int32) (zqpb : Nat) (y86b : Nat → Int64) (y49b : Nat → Int64) (H : Heap) (locs : List Loc) (ls : Array Slot), dm - jd < n_34 → (jd ≤ dm) → va_P D vwCl [ro_ mm 12 (mo g (nI ta) (nI pa) (nI pe) pd (nI pb) pp pf pg pn rt rn (nI cd) sn (nI il) ztkb zamb at_2_4 aa2_5 0 0 (-1) wt wy2_19 0 (nI rm) (nI ud) (nI nu) sd (nI qn) (nI qw) qo (nI qb) (nI zqpb) qa (nI qi) (nI oc)), ra_I (g 24) cI 6 (l6 u0 u1 u2 u3 u4 u5), ra_I (g 25) cI 6 (l6 v0 v1 v2 v3 v4 v5), ra_N (g 26) cI 3200 cs, ra_I (g 31) cI 120 nw, ra_N (g 46) cI 9 pt2_30, ra_J (g 86) cJ 1700 y86b, ra_I (g 20) cI 4 (l4 (nI l0) (nI l1) (nI dm) (nI l3)), ra_I (g 38) cI 90 ws_2_7, ra_I (g 36) cZ 900 yw2_8, ra_I (g 37) cZ 900 yo2_9, ra_J (g 43) cJ 90 be2_20, ra_J (g 44) cJ 90 bf2_21, ra_I (g 50) cZ 512 f_28, ra_J (g 49) cJ 4608 y49b] H → va_D A [ro_ mm 12 (mo g (nI ta) (nI pa) (nI pe) pd (nI pb) pp pf pg pn rt rn (nI cd) sn (nI il) ztkb zamb at_2_4 aa2_5 0 0 (-1) wt wy2_19 0 (nI rm) (nI ud) (nI nu) sd (nI qn) (nI qw) qo (nI qb) (nI zqpb) qa (nI qi) (nI oc)), ra_I (g 24) cI 6 (l6 u0 u1 u2 u3 u4 u5), ra_I (g 25) cI 6 (l6 v0 v1 v2 v3 v4 v5), ra_N (g 26) cI 3200 cs, ra_I (g 31) cI 120 nw, ra_N (g 46) cI 9 pt2_30, ra_J (g 86) cJ 1700 y86b, ra_I (g 20) cI 4 (l4 (nI l0) (nI l1) (nI dm) (nI l3)), ra_I (g 38) cI 90 ws_2_7, ra_I (g 36) cZ 900 yw2_8, ra_I (g 37) cZ 900 yo2_9, ra_J (g 43) cJ 90 be2_20, ra_J (g 44) cJ 90 bf2_21, ra_I (g 50) cZ 512 f_28, ra_J (g 49) cJ 4608 y49b] → va_S A s.heap H locs → lv_has ls 3 [(2, .int (nI jd)), (1, .int (nI i)), (0, .ref mm)] → W p l e { frames := 5, cells := 0, slots := 0, locals := 122 } s m ([.ref mm] : List Value).toArray below meth c H locs 0 0 (MQ below (skV D (skT cI cJ cC cZ cS) (fun (u : va_W) => ∃ (tk2 : Int32), ∃ (qp2 : Nat), ∃ (am2 : Int32), ∃ (at_2 : Int32), ∃ (aa2 : Int32), ∃ (wy2 : Int64), ∃ (pt2 : Nat → Nat), ∃ (ql2 : Nat → Int64), ∃ (ws_2 : Nat → Int32), ∃ (yw2 : Nat → Int32), ∃ (yo2 : Nat → Int32), ∃ (be2 : Nat → Int64), ∃ (bf2 : Nat → Int64), ∃ (ag2 : Nat → Int32), ∃ (wg2 : Nat → Int64), (∀ j, pt2 j ≤ 9) ∧ u = [ro_ mm 12 (mo g (nI ta) (nI pa) (nI pe) pd (nI pb) pp pf pg pn rt rn (nI cd) sn (nI il) tk2 am2 at_2 aa2 0 0 (-1) wt wy2 0 (nI rm) (nI ud) (nI nu) sd (nI qn) (nI qw) qo (nI qb) (nI qp2) qa (nI qi) (nI oc)), ra_I (g 24) cI 6 (l6 u0 u1 u2 u3 u4 u5), ra_I (g 25) cI 6 (l6 v0 v1 v2 v3 v4 v5), ra_N (g 26) cI 3200 cs, ra_I (g 31) cI 120 nw, ra_N (g 46) cI 9 pt2, ra_J (g 86) cJ 1700 ql2, ra_I (g 20) cI 4 (l4 (nI l0) (nI l1) (nI dm) (nI l3)), ra_I (g 38) cI 90 ws_2, ra_I (g 36) cZ 900 yw2, ra_I (g 37) cZ 900 yo2, ra_J (g 43) cJ 90 be2, ra_J (g 44) cJ 90 bf2, ra_I (g 50) cZ 512 ag2, ra_J (g 49) cJ 4608 wg2]) A) ([.ref mm] : List Value).toArray s 0 0 A) (F0 m 57 ls []) := by
            intro n_34
            induction n_34 with
            | zero => intro jd zamb ztkb zqpb y86b y49b H locs ls hm; exact absurd hm (Nat.not_lt_zero _)
            | succ n_34 ih_lp_33 =>
              intro jd zamb ztkb zqpb y86b y49b H locs ls hm hjd hP hD hS hl
              refine lv_iload_n hx hb dX12_laysRest_57 rfl (lv_at hl 0 rfl) ?_
              refine lv_aload_n hx hb dX12_laysRest_58 rfl (lv_at hl 2 rfl) ?_
              refine sk_Vi (q0 := 0) (n := 0) (rest := [.int (nI jd)]) (wr := fmR om_15_4080 _) ⟨hx, hb, hml, hown, hts⟩ hl.1 (c_m_dayMany l D cI cJ cC cZ cS mm g ta pa pe pd pb pp pf pg pn rt rn cd sn il ztkb zamb at_2_4 aa2_5 0 0 (-1) wt wy2_19 0 rm ud nu sd qn qw qo qb zqpb qa qi oc l0 l1 dm l3) w_7_98 w_7_100 w_0_69 w_1_14 w_7_101 hd_X12_dayMany_0 ⟨⟨(Nat.le_of_ble_eq_true rfl), (Nat.le_of_ble_eq_true rfl)⟩, (Nat.le_of_ble_eq_true rfl), (Nat.le_of_ble_eq_true rfl)⟩ hK hP hD hS hA (fmT om_15_4080 0) (fmF om_15_4080 0) (fm_C1 rfl rfl) (fm_R rfl rfl) (fm_nT om_15_4080 0) (fm_nF om_15_4080 0) (fm_di om_15_4080 0) rfl rfl rfl rfl (Nat.le_of_ble_eq_true rfl) dX12_laysRest_59 (fun r_35 u H locs hw hP hD hS => ?_)
              refine anE hw (fun er_37 eu_36 => ?_)
              clear hw
              subst er_37
              refine o_mgE (ws' := [ro_ mm 12 (mo g (nI ta) (nI pa) (nI pe) pd (nI pb) pp pf pg pn rt rn (nI cd) sn (nI il) ztkb zamb at_2_4 aa2_5 0 0 (-1) wt wy2_19 0 (nI rm) (nI ud) (nI nu) sd (nI qn) (nI qw) qo (nI qb) (nI zqpb) qa (nI qi) (nI oc)), ra_I (g 24) cI 6 (l6 u0 u1 u2 u3 u4 u5), ra_I (g 25) cI 6 (l6 v0 v1 v2 v3 v4 v5), ra_N (g 26) cI 3200 cs, ra_I (g 31) cI 120 nw, ra_N (g 46) cI 9 pt2_30, ra_J (g 86) cJ 1700 y86b, ra_I (g 20) cI 4 (l4 (nI l0) (nI l1) (nI dm) (nI l3)), ra_I (g 38) cI 90 ws_2_7, ra_I (g 36) cZ 900 yw2_8, ra_I (g 37) cZ 900 yo2_9, ra_J (g 43) cJ 90 be2_20, ra_J (g 44) cJ 90 bf2_21, ra_I (g 50) cZ 512 f_28, ra_J (g 49) cJ 4608 y49b]) eu_36 hP hD rfl (fun hP hD => ?_)
              refine lv_icmp_ge (tgt := 93) hx hb dX12_laysRest_62 (by decide) (fun c_38 => ?_) (fun c_38 => ?_)
              · have c_38 : dm ≤ jd := (nle dm jd (by omega) (by omega)).mp c_38
                refine lv_iinc (v := nI (i + 1)) (lv' := [(1, .int (nI (i + 1))), (2, .int (nI jd)), (0, .ref mm)]) hx hb dX12_laysRest_93 hl (k := 1) rfl (ninc i 1 (by decide)) (by decide) rfl (fun ls hl => ?_)
                refine lv_goto (tgt := 7) hx hb dX12_laysRest_96 (by decide) ?_
                exact ih_lp_11 (i + 1) zamb ztkb zqpb wy2_19 pt2_30 y86b be2_20 bf2_21 f_28 y49b _ _ _ (by omega) hpt2_31 (by omega) hP hD hS (lv_sub hl [0, 2] rfl)
              · have c_38 : ¬ (dm ≤ jd) := fun h => c_38 ((nle dm jd (by omega) (by omega)).mpr h)
                refine lv_aload_n hx hb dX12_laysRest_65 rfl (lv_at hl 2 rfl) ?_
                refine sk_get (v := .ref (g 49)) (C := RX12) (T := TX12) (N := 92) hx hb hts inlX12 hown hK hP 0 rfl rfl 49 (Nat.le_of_ble_eq_true rfl) w_5_204 rfl dX12_laysRest_66 ?_
                refine lv_bipush (v := 9) hx hb dX12_laysRest_69 (by decide) ?_
                refine lv_iload_n hx hb dX12_laysRest_71 rfl (lv_at hl 1 rfl) ?_
                refine lv_imul hx hb dX12_laysRest_72 ?_
                refine sk_top (nI (9 * i)) (nmul 9 i) ?_
                refine lv_iload_n hx hb dX12_laysRest_73 rfl (lv_at hl 0 rfl) ?_
                refine lv_iadd hx hb dX12_laysRest_74 ?_
                refine sk_top (nI (9 * i + jd)) (nI_add (9 * i) jd) ?_
                refine lv_aload_n hx hb dX12_laysRest_75 rfl (lv_at hl 2 rfl) ?_
                refine lv_iload_n hx hb dX12_laysRest_76 rfl (lv_at hl 0 rfl) ?_
                refine lv_aload_n hx hb dX12_laysRest_77 rfl (lv_at hl 2 rfl) ?_
                refine sk_get (v := .ref (g 46)) (C := RX12) (T := TX12) (N := 92) hx hb hts inlX12 hown hK hP 0 rfl rfl 46 (Nat.le_of_ble_eq_true rfl) w_5_201 rfl dX12_laysRest_78 ?_
                refine lv_iload_n hx hb dX12_laysRest_81 rfl (lv_at hl 0 rfl) ?_
                refine va_iald hx hb hK.1 hP 5 0 rfl rfl (vin jd 9 (by omega) (Nat.le_of_ble_eq_true rfl)) dX12_laysRest_82 ?_
                refine sk_top (nI (pt2_30 jd)) (nrd pt2_30 jd (by omega)) ?_
                have hb_39 := hpt2_31 jd
                refine sk_Vl (q0 := 0) (n := 2) (rest := [.int (nI (9 * i + jd)), .ref (g 49)]) (wr := fmR om_15_7f00 _) ⟨hx, hb, hml, hown, hts⟩ hl.1 (c_m_wageOf l D cI cJ cC cZ cS mm g ta pa pe pd pb pp pf pg pn rt rn cd sn il ztkb zamb at_2_4 aa2_5 0 0 (-1) wt wy2_19 0 rm ud nu sd qn qw qo qb zqpb qa qi oc jd (nI (pt2_30 jd)) u0 u1 u2 u3 u4 u5 v0 v1 v2 v3 v4 v5 cs nw pt2_30 y86b (by omega) hp2 hcs hnw hpt2_31) w_8_45 w_8_47 w_0_97 w_1_14 w_8_48 hd_X12_wageOf_2 ⟨⟨(Nat.le_of_ble_eq_true rfl), (Nat.le_of_ble_eq_true rfl)⟩, (Nat.le_of_ble_eq_true rfl), (Nat.le_of_ble_eq_true rfl)⟩ hK hP hD hS hA (fmT om_15_7f00 0) (fmF om_15_7f00 0) (fm_C1 rfl rfl) (fm_R rfl rfl) (fm_nT om_15_7f00 0) (fm_nF om_15_7f00 0) (fm_di om_15_7f00 0) rfl rfl rfl rfl (Nat.le_of_ble_eq_true rfl) dX12_laysRest_83 (fun r_44 u H locs hw hP hD hS => ?_)
                refine exE hw (fun tk2_40 hw1 => exE hw1 (fun qp2_41 hw2 => exE hw2 (fun am2_42 hw3 => exE hw3 (fun ql2_43 eu_45 => ?_))))
                clear hw hw1 hw2 hw3
                refine o_mgE (ws' := [ro_ mm 12 (mo g (nI ta) (nI pa) (nI pe) pd (nI pb) pp pf pg pn rt rn (nI cd) sn (nI il) tk2_40 am2_42 at_2_4 aa2_5 0 0 (-1) wt wy2_19 0 (nI rm) (nI ud) (nI nu) sd (nI qn) (nI qw) qo (nI qb) (nI qp2_41) qa (nI qi) (nI oc)), ra_I (g 24) cI 6 (l6 u0 u1 u2 u3 u4 u5), ra_I (g 25) cI 6 (l6 v0 v1 v2 v3 v4 v5), ra_N (g 26) cI 3200 cs, ra_I (g 31) cI 120 nw, ra_N (g 46) cI 9 pt2_30, ra_J (g 86) cJ 1700 ql2_43, ra_I (g 20) cI 4 (l4 (nI l0) (nI l1) (nI dm) (nI l3)), ra_I (g 38) cI 90 ws_2_7, ra_I (g 36) cZ 900 yw2_8, ra_I (g 37) cZ 900 yo2_9, ra_J (g 43) cJ 90 be2_20, ra_J (g 44) cJ 90 bf2_21, ra_I (g 50) cZ 512 f_28, ra_J (g 49) cJ 4608 y49b]) eu_45 hP hD rfl (fun hP hD => ?_)
                refine sk_lastO (ws' := fun f_46 => [ro_ mm 12 (mo g (nI ta) (nI pa) (nI pe) pd (nI pb) pp pf pg pn rt rn (nI cd) sn (nI il) tk2_40 am2_42 at_2_4 aa2_5 0 0 (-1) wt wy2_19 0 (nI rm) (nI ud) (nI nu) sd (nI qn) (nI qw) qo (nI qb) (nI qp2_41) qa (nI qi) (nI oc)), ra_I (g 24) cI 6 (l6 u0 u1 u2 u3 u4 u5), ra_I (g 25) cI 6 (l6 v0 v1 v2 v3 v4 v5), ra_N (g 26) cI 3200 cs, ra_I (g 31) cI 120 nw, ra_N (g 46) cI 9 pt2_30, ra_J (g 86) cJ 1700 ql2_43, ra_I (g 20) cI 4 (l4 (nI l0) (nI l1) (nI dm) (nI l3)), ra_I (g 38) cI 90 ws_2_7, ra_I (g 36) cZ 900 yw2_8, ra_I (g 37) cZ 900 yo2_9, ra_J (g 43) cJ 90 be2_20, ra_J (g 44) cJ 90 bf2_21, ra_I (g 50) cZ 512 f_28, ra_J (g 49) cJ 4608 f_46]) hx hb hK hP hD hS 14 1 rfl rfl (vin (9 * i + jd) 4608 (by omega) (Nat.le_of_ble_eq_true rfl)) (fun _ => rfl) dX12_laysRest_86 (fun f_46 H locs hP hD hS => ?_)
                refine lv_iinc (v := nI (jd + 1)) (lv' := [(2, .int (nI (jd + 1))), (1, .int (nI i)), (0, .ref mm)]) hx hb dX12_laysRest_87 hl (k := 0) rfl (ninc jd 1 (by decide)) (by decide) rfl (fun ls hl => ?_)
                refine lv_goto (tgt := 57) hx hb dX12_laysRest_90 (by decide) ?_
                exact ih_lp_33 (jd + 1) am2_42 tk2_40 qp2_41 ql2_43 f_46 _ _ _ (by omega) (by omega) hP hD hS (lv_sub hl [0, 1, 2] rfl)
          exact lp_33 (dm - 0 + 1) 0 zama ztka zqpa y86a y49a _ _ _ (Nat.lt_succ_self _) (by omega) hP hD hS (lv_sub hl [0, 1, 2] rfl)
        · have c_29 : b_18 = 0 := (neq b_18 0 (by omega) (Nat.le_of_ble_eq_true rfl)).mp c_29
          refine lv_goto (tgt := 93) hx hb dX12_laysRest_37 (by decide) ?_
          refine lv_iinc (v := nI (i + 1)) (lv' := [(1, .int (nI (i + 1))), (0, .ref mm)]) hx hb dX12_laysRest_93 hl (k := 0) rfl (ninc i 1 (by decide)) (by decide) rfl (fun ls hl => ?_)
          refine lv_goto (tgt := 7) hx hb dX12_laysRest_96 (by decide) ?_
          exact ih_lp_11 (i + 1) zama ztka zqpa wy2_19 y46a y86a be2_20 bf2_21 f_28 y49a _ _ _ (by omega) hy46a (by omega) hP hD hS (lv_sub hl [0, 1] rfl)
  exact lp_11 (512 - 0 + 1) 0 am2_3 tk2_1 qp2_2 wy pt ql2_6 be bf ag wg _ _ _ (Nat.lt_succ_self _) hpt (by omega) hP hD hS (lv_sub hl [0, 1] rfl)
theorem dg_X12_isRest_0_0 : bqL cX12_isRest 0 [(0, [42]), (1, [180, 0, 98]), (4, [27]), (5, [51]), (6, [154, 0, 5]), (11, [3]), (12, [61]), (13, [28]), (14, [42]), (15, [182, 1, 59]), (18, [162, 0, 60]), (78, [4]), (79, [172]), (21, [27]), (22, [4]), (23, [28]), (24, [120]), (25, [130]), (26, [62]), (27, [42]), (28, [28]), (29, [182, 1, 103]), (32, [154, 0, 40]), (72, [132, 2, 1]), (75, [167, 255, 194]), (35, [42]), (36, [180, 0, 98]), (39, [29]), (40, [51]), (41, [153, 0, 31]), (44, [42]), (45, [180, 0, 95]), (48, [16, 9]), (50, [29]), (51, [104]), (52, [28]), (53, [96]), (54, [47]), (55, [42]), (56, [180, 0, 95])] = true := by decide +kernel
theorem dX12_isRest_0 : decode cX12_isRest 0 = .ok (.aload_n 0, 1) := q_aload_n0 (bat_get dg_X12_isRest_0_0 0 rfl rfl)
theorem dX12_isRest_1 : decode cX12_isRest 1 = .ok (.getfield 98, 3) := q_getfield (bat_get dg_X12_isRest_0_0 1 rfl rfl) rfl
theorem dX12_isRest_4 : decode cX12_isRest 4 = .ok (.iload_n 1, 1) := q_iload_n1 (bat_get dg_X12_isRest_0_0 2 rfl rfl)
theorem dX12_isRest_5 : decode cX12_isRest 5 = .ok (.baload, 1) := q_baload (bat_get dg_X12_isRest_0_0 3 rfl rfl)
theorem dX12_isRest_6 : decode cX12_isRest 6 = .ok (.ifCond .ne 5, 3) := q_ifCond_ne (bat_get dg_X12_isRest_0_0 4 rfl rfl) rfl
theorem dX12_isRest_11 : decode cX12_isRest 11 = .ok (.iconst 0, 1) := q_iconst0 (bat_get dg_X12_isRest_0_0 5 rfl rfl)
theorem dX12_isRest_12 : decode cX12_isRest 12 = .ok (.istore_n 2, 1) := q_istore_n2 (bat_get dg_X12_isRest_0_0 6 rfl rfl)
theorem dX12_isRest_13 : decode cX12_isRest 13 = .ok (.iload_n 2, 1) := q_iload_n2 (bat_get dg_X12_isRest_0_0 7 rfl rfl)
theorem dX12_isRest_14 : decode cX12_isRest 14 = .ok (.aload_n 0, 1) := q_aload_n0 (bat_get dg_X12_isRest_0_0 8 rfl rfl)
theorem dX12_isRest_15 : decode cX12_isRest 15 = .ok (.invokevirtual 315, 3) := q_invokevirtual (bat_get dg_X12_isRest_0_0 9 rfl rfl) rfl
theorem dX12_isRest_18 : decode cX12_isRest 18 = .ok (.if_icmp .ge 60, 3) := q_if_icmp_ge (bat_get dg_X12_isRest_0_0 10 rfl rfl) rfl
theorem dX12_isRest_78 : decode cX12_isRest 78 = .ok (.iconst 1, 1) := q_iconst1 (bat_get dg_X12_isRest_0_0 11 rfl rfl)
theorem dX12_isRest_79 : decode cX12_isRest 79 = .ok (.ireturn, 1) := q_ireturn (bat_get dg_X12_isRest_0_0 12 rfl rfl)
theorem dX12_isRest_21 : decode cX12_isRest 21 = .ok (.iload_n 1, 1) := q_iload_n1 (bat_get dg_X12_isRest_0_0 13 rfl rfl)
theorem dX12_isRest_22 : decode cX12_isRest 22 = .ok (.iconst 1, 1) := q_iconst1 (bat_get dg_X12_isRest_0_0 14 rfl rfl)
theorem dX12_isRest_23 : decode cX12_isRest 23 = .ok (.iload_n 2, 1) := q_iload_n2 (bat_get dg_X12_isRest_0_0 15 rfl rfl)
theorem dX12_isRest_24 : decode cX12_isRest 24 = .ok (.ishl, 1) := q_ishl (bat_get dg_X12_isRest_0_0 16 rfl rfl)
theorem dX12_isRest_25 : decode cX12_isRest 25 = .ok (.ixor, 1) := q_ixor (bat_get dg_X12_isRest_0_0 17 rfl rfl)
theorem dX12_isRest_26 : decode cX12_isRest 26 = .ok (.istore_n 3, 1) := q_istore_n3 (bat_get dg_X12_isRest_0_0 18 rfl rfl)
theorem dX12_isRest_27 : decode cX12_isRest 27 = .ok (.aload_n 0, 1) := q_aload_n0 (bat_get dg_X12_isRest_0_0 19 rfl rfl)
theorem dX12_isRest_28 : decode cX12_isRest 28 = .ok (.iload_n 2, 1) := q_iload_n2 (bat_get dg_X12_isRest_0_0 20 rfl rfl)
theorem dX12_isRest_29 : decode cX12_isRest 29 = .ok (.invokevirtual 359, 3) := q_invokevirtual (bat_get dg_X12_isRest_0_0 21 rfl rfl) rfl
theorem dX12_isRest_32 : decode cX12_isRest 32 = .ok (.ifCond .ne 40, 3) := q_ifCond_ne (bat_get dg_X12_isRest_0_0 22 rfl rfl) rfl
theorem dX12_isRest_72 : decode cX12_isRest 72 = .ok (.iinc 2 1, 3) := q_iinc (bat_get dg_X12_isRest_0_0 23 rfl rfl) rfl
theorem dX12_isRest_75 : decode cX12_isRest 75 = .ok (.goto (-62), 3) := q_goto (bat_get dg_X12_isRest_0_0 24 rfl rfl) rfl
theorem dX12_isRest_35 : decode cX12_isRest 35 = .ok (.aload_n 0, 1) := q_aload_n0 (bat_get dg_X12_isRest_0_0 25 rfl rfl)
theorem dX12_isRest_36 : decode cX12_isRest 36 = .ok (.getfield 98, 3) := q_getfield (bat_get dg_X12_isRest_0_0 26 rfl rfl) rfl
theorem dX12_isRest_39 : decode cX12_isRest 39 = .ok (.iload_n 3, 1) := q_iload_n3 (bat_get dg_X12_isRest_0_0 27 rfl rfl)
theorem dX12_isRest_40 : decode cX12_isRest 40 = .ok (.baload, 1) := q_baload (bat_get dg_X12_isRest_0_0 28 rfl rfl)
theorem dX12_isRest_41 : decode cX12_isRest 41 = .ok (.ifCond .eq 31, 3) := q_ifCond_eq (bat_get dg_X12_isRest_0_0 29 rfl rfl) rfl
theorem dX12_isRest_44 : decode cX12_isRest 44 = .ok (.aload_n 0, 1) := q_aload_n0 (bat_get dg_X12_isRest_0_0 30 rfl rfl)
theorem dX12_isRest_45 : decode cX12_isRest 45 = .ok (.getfield 95, 3) := q_getfield (bat_get dg_X12_isRest_0_0 31 rfl rfl) rfl
theorem dX12_isRest_48 : decode cX12_isRest 48 = .ok (.bipush 9, 2) := q_bipush (bat_get dg_X12_isRest_0_0 32 rfl rfl) rfl
theorem dX12_isRest_50 : decode cX12_isRest 50 = .ok (.iload_n 3, 1) := q_iload_n3 (bat_get dg_X12_isRest_0_0 33 rfl rfl)
theorem dX12_isRest_51 : decode cX12_isRest 51 = .ok (.imul, 1) := q_imul (bat_get dg_X12_isRest_0_0 34 rfl rfl)
theorem dX12_isRest_52 : decode cX12_isRest 52 = .ok (.iload_n 2, 1) := q_iload_n2 (bat_get dg_X12_isRest_0_0 35 rfl rfl)
theorem dX12_isRest_53 : decode cX12_isRest 53 = .ok (.iadd, 1) := q_iadd (bat_get dg_X12_isRest_0_0 36 rfl rfl)
theorem dX12_isRest_54 : decode cX12_isRest 54 = .ok (.laload, 1) := q_laload (bat_get dg_X12_isRest_0_0 37 rfl rfl)
theorem dX12_isRest_55 : decode cX12_isRest 55 = .ok (.aload_n 0, 1) := q_aload_n0 (bat_get dg_X12_isRest_0_0 38 rfl rfl)
theorem dX12_isRest_56 : decode cX12_isRest 56 = .ok (.getfield 95, 3) := q_getfield (bat_get dg_X12_isRest_0_0 39 rfl rfl) rfl
theorem dg_X12_isRest_9_59 : bqL cX12_isRest 9 [(50, [16, 9]), (52, [27]), (53, [104]), (54, [28]), (55, [96]), (56, [47]), (57, [148]), (58, [158, 0, 5]), (61, [3]), (62, [172]), (0, [3]), (1, [172])] = true := by decide +kernel
theorem dX12_isRest_59 : decode cX12_isRest 59 = .ok (.bipush 9, 2) := q_bipush (bat_get dg_X12_isRest_9_59 0 rfl rfl) rfl
theorem dX12_isRest_61 : decode cX12_isRest 61 = .ok (.iload_n 1, 1) := q_iload_n1 (bat_get dg_X12_isRest_9_59 1 rfl rfl)
theorem dX12_isRest_62 : decode cX12_isRest 62 = .ok (.imul, 1) := q_imul (bat_get dg_X12_isRest_9_59 2 rfl rfl)
theorem dX12_isRest_63 : decode cX12_isRest 63 = .ok (.iload_n 2, 1) := q_iload_n2 (bat_get dg_X12_isRest_9_59 3 rfl rfl)
theorem dX12_isRest_64 : decode cX12_isRest 64 = .ok (.iadd, 1) := q_iadd (bat_get dg_X12_isRest_9_59 4 rfl rfl)
theorem dX12_isRest_65 : decode cX12_isRest 65 = .ok (.laload, 1) := q_laload (bat_get dg_X12_isRest_9_59 5 rfl rfl)
theorem dX12_isRest_66 : decode cX12_isRest 66 = .ok (.lcmp, 1) := q_lcmp (bat_get dg_X12_isRest_9_59 6 rfl rfl)
theorem dX12_isRest_67 : decode cX12_isRest 67 = .ok (.ifCond .le 5, 3) := q_ifCond_le (bat_get dg_X12_isRest_9_59 7 rfl rfl) rfl
theorem dX12_isRest_70 : decode cX12_isRest 70 = .ok (.iconst 0, 1) := q_iconst0 (bat_get dg_X12_isRest_9_59 8 rfl rfl)
theorem dX12_isRest_71 : decode cX12_isRest 71 = .ok (.ireturn, 1) := q_ireturn (bat_get dg_X12_isRest_9_59 9 rfl rfl)
theorem dX12_isRest_9 : decode cX12_isRest 9 = .ok (.iconst 0, 1) := q_iconst0 (bat_get dg_X12_isRest_9_59 10 rfl rfl)
theorem dX12_isRest_10 : decode cX12_isRest 10 = .ok (.ireturn, 1) := q_ireturn (bat_get dg_X12_isRest_9_59 11 rfl rfl)
theorem w_8_68 : (Cond.code yX12_isRest cX12_isRest 4 (some .boolean)) ∈ wsL_law := sk_mem (ck_8 _ (List.mem_of_getElem? (i := 68) rfl)) rfl
def om_5_14 : List Bool := true :: false :: true :: false :: false :: []
set_option maxHeartbeats 4000000 in
set_option maxRecDepth 100000 in
theorem c_m_isRest (l : Launch) (D : va_G) (cI cJ cC cZ cS : ClassId) (mm : Nat) (g : Nat → Nat) (ta : Nat) (pa : Nat) (pe : Nat) (pd : Int32) (pb : Nat) (pp : Int32) (pf : Int32) (pg : Int32) (pn : Int32) (rt : Int32) (rn : Int32) (cd : Nat) (sn : Int32) (il : Nat) (tk : Int32) (am : Int32) (at_ : Int32) (aa : Int32) (wt : Int32) (wy : Int64) (rm : Nat) (ud : Nat) (nu : Nat) (sd : Int64) (qn : Nat) (qw : Nat) (qo : Int32) (qb : Nat) (qp : Nat) (qa : Int64) (qi : Nat) (oc : Nat) (o : Nat) (l0 : Nat) (l1 : Nat) (dm : Nat) (l3 : Nat) (nw : Nat → Int32) (ag : Nat → Int32) (wg : Nat → Int64) (hdm : dm ≤ 9) (ho : o < 512) (hnw : nowOk nw) : skM l yX12_isRest cX12_isRest 4 (some .boolean) 1 21 0 0 D (skT cI cJ cC cZ cS) [.ref mm, .int (nI o)] [ro_ mm 12 (mo g (nI ta) (nI pa) (nI pe) pd (nI pb) pp pf pg pn rt rn (nI cd) sn (nI il) tk am at_ aa 0 0 (-1) wt wy 0 (nI rm) (nI ud) (nI nu) sd (nI qn) (nI qw) qo (nI qb) (nI qp) qa (nI qi) (nI oc)), ra_I (g 20) cI 4 (l4 (nI l0) (nI l1) (nI dm) (nI l3)), ra_I (g 31) cI 120 nw, ra_I (g 50) cZ 512 ag, ra_J (g 49) cJ 4608 wg] (skI D (skT cI cJ cC cZ cS) (fun (r : Int32) (u : va_W) => ∃ (b : Nat), b ≤ 1 ∧ r = nI b ∧ u = [ro_ mm 12 (mo g (nI ta) (nI pa) (nI pe) pd (nI pb) pp pf pg pn rt rn (nI cd) sn (nI il) tk am at_ aa 0 0 (-1) wt wy 0 (nI rm) (nI ud) (nI nu) sd (nI qn) (nI qw) qo (nI qb) (nI qp) qa (nI qi) (nI oc)), ra_I (g 20) cI 4 (l4 (nI l0) (nI l1) (nI dm) (nI l3)), ra_I (g 31) cI 120 nw, ra_I (g 50) cZ 512 ag, ra_J (g 49) cJ 4608 wg])) := by
  refine skM_of pf_X12_isRest (Nat.le_of_ble_eq_true rfl) ?_
  intro p e s m below meth c A ls E hP hD hl
  refine skE_el E (fun hx hb hr hml hlocks hin hown hts hK hA => ?_)
  have hown : s.vm.findClass RX12 = some m.cls := hown
  have hS : va_S A s.heap s.heap [] := va_S.rf
  have hl : lv_has ls 4 [(0, .ref mm), (1, .int (nI o))] := hl
  refine lv_aload_n hx hb dX12_isRest_0 rfl (lv_at hl 0 rfl) ?_
  refine sk_get (v := .ref (g 50)) (C := RX12) (T := TX12) (N := 92) hx hb hts inlX12 hown hK hP 0 rfl rfl 50 (Nat.le_of_ble_eq_true rfl) w_5_205 rfl dX12_isRest_1 ?_
  refine lv_iload_n hx hb dX12_isRest_4 rfl (lv_at hl 1 rfl) ?_
  refine va_zald hx hb hK.1 hP 3 3 rfl rfl (vin o 512 (by omega) (Nat.le_of_ble_eq_true rfl)) dX12_isRest_5 ?_
  refine lv_topi (fun v_1 ev_1 => ?_)
  refine lv_if_ne (tgt := 11) hx hb dX12_isRest_6 (by decide) (fun c_2 => ?_) (fun c_2 => ?_)
  · skip
    refine lv_iconst (v := 0) hx hb dX12_isRest_11 ic_0 ?_
    refine lv_istore_n (lv' := [(2, .int 0), (0, .ref mm), (1, .int (nI o))]) hx hb dX12_isRest_12 rfl hl (by decide) rfl (fun ls hl => ?_)
    have lp_3 : ∀ (n_4 : Nat) (i : Nat) (H : Heap) (locs : List Loc) (ls : Array Slot), dm - i < n_4 → (i ≤ dm) → va_P D vwCl [ro_ mm 12 (mo g (nI ta) (nI pa) (nI pe) pd (nI pb) pp pf pg pn rt rn (nI cd) sn (nI il) tk am at_ aa 0 0 (-1) wt wy 0 (nI rm) (nI ud) (nI nu) sd (nI qn) (nI qw) qo (nI qb) (nI qp) qa (nI qi) (nI oc)), ra_I (g 20) cI 4 (l4 (nI l0) (nI l1) (nI dm) (nI l3)), ra_I (g 31) cI 120 nw, ra_I (g 50) cZ 512 ag, ra_J (g 49) cJ 4608 wg] H → va_D A [ro_ mm 12 (mo g (nI ta) (nI pa) (nI pe) pd (nI pb) pp pf pg pn rt rn (nI cd) sn (nI il) tk am at_ aa 0 0 (-1) wt wy 0 (nI rm) (nI ud) (nI nu) sd (nI qn) (nI qw) qo (nI qb) (nI qp) qa (nI qi) (nI oc)), ra_I (g 20) cI 4 (l4 (nI l0) (nI l1) (nI dm) (nI l3)), ra_I (g 31) cI 120 nw, ra_I (g 50) cZ 512 ag, ra_J (g 49) cJ 4608 wg] → va_S A s.heap H locs → lv_has ls 4 [(2, .int (nI i)), (0, .ref mm), (1, .int (nI o))] → W p l e { frames := 1, cells := 0, slots := 0, locals := 21 } s m ([.ref mm, .int (nI o)] : List Value).toArray below meth c H locs 0 0 (MQ below (skI D (skT cI cJ cC cZ cS) (fun (r : Int32) (u : va_W) => ∃ (b : Nat), b ≤ 1 ∧ r = nI b ∧ u = [ro_ mm 12 (mo g (nI ta) (nI pa) (nI pe) pd (nI pb) pp pf pg pn rt rn (nI cd) sn (nI il) tk am at_ aa 0 0 (-1) wt wy 0 (nI rm) (nI ud) (nI nu) sd (nI qn) (nI qw) qo (nI qb) (nI qp) qa (nI qi) (nI oc)), ra_I (g 20) cI 4 (l4 (nI l0) (nI l1) (nI dm) (nI l3)), ra_I (g 31) cI 120 nw, ra_I (g 50) cZ 512 ag, ra_J (g 49) cJ 4608 wg]) A) ([.ref mm, .int (nI o)] : List Value).toArray s 0 0 A) (F0 m 13 ls []) := by
      intro n_4
      induction n_4 with
      | zero => intro i H locs ls hm; exact absurd hm (Nat.not_lt_zero _)
      | succ n_4 ih_lp_3 =>
        intro i H locs ls hm hi hP hD hS hl
        refine lv_iload_n hx hb dX12_isRest_13 rfl (lv_at hl 0 rfl) ?_
        refine lv_aload_n hx hb dX12_isRest_14 rfl (lv_at hl 1 rfl) ?_
        refine sk_Vi (q0 := 0) (n := 0) (rest := [.int (nI i)]) (wr := fmR om_5_18 _) ⟨hx, hb, hml, hown, hts⟩ hl.1 (c_m_dayMany l D cI cJ cC cZ cS mm g ta pa pe pd pb pp pf pg pn rt rn cd sn il tk am at_ aa 0 0 (-1) wt wy 0 rm ud nu sd qn qw qo qb qp qa qi oc l0 l1 dm l3) w_7_98 w_7_100 w_0_69 w_1_14 w_7_101 hd_X12_dayMany_0 ⟨⟨(Nat.le_of_ble_eq_true rfl), (Nat.le_of_ble_eq_true rfl)⟩, (Nat.le_of_ble_eq_true rfl), (Nat.le_of_ble_eq_true rfl)⟩ hK hP hD hS hA (fmT om_5_18 0) (fmF om_5_18 0) (fm_C1 rfl rfl) (fm_R rfl rfl) (fm_nT om_5_18 0) (fm_nF om_5_18 0) (fm_di om_5_18 0) rfl rfl rfl rfl (Nat.le_of_ble_eq_true rfl) dX12_isRest_15 (fun r_5 u H locs hw hP hD hS => ?_)
        refine anE hw (fun er_7 eu_6 => ?_)
        clear hw
        subst er_7
        refine o_mgE (ws' := [ro_ mm 12 (mo g (nI ta) (nI pa) (nI pe) pd (nI pb) pp pf pg pn rt rn (nI cd) sn (nI il) tk am at_ aa 0 0 (-1) wt wy 0 (nI rm) (nI ud) (nI nu) sd (nI qn) (nI qw) qo (nI qb) (nI qp) qa (nI qi) (nI oc)), ra_I (g 20) cI 4 (l4 (nI l0) (nI l1) (nI dm) (nI l3)), ra_I (g 31) cI 120 nw, ra_I (g 50) cZ 512 ag, ra_J (g 49) cJ 4608 wg]) eu_6 hP hD rfl (fun hP hD => ?_)
        refine lv_icmp_ge (tgt := 78) hx hb dX12_isRest_18 (by decide) (fun c_8 => ?_) (fun c_8 => ?_)
        · have c_8 : dm ≤ i := (nle dm i (by omega) (by omega)).mp c_8
          refine lv_iconst (v := 1) hx hb dX12_isRest_78 ic_1 ?_
          exact sk_iret hx hb hr rfl hlocks hK hP hD hS (⟨1, by omega, rfl, rfl⟩) (Nat.le_of_ble_eq_true rfl) (Nat.le_of_ble_eq_true rfl) dX12_isRest_79
        · have c_8 : ¬ (dm ≤ i) := fun h => c_8 ((nle dm i (by omega) (by omega)).mpr h)
          refine lv_iload_n hx hb dX12_isRest_21 rfl (lv_at hl 2 rfl) ?_
          refine lv_iconst (v := 1) hx hb dX12_isRest_22 ic_1 ?_
          refine lv_iload_n hx hb dX12_isRest_23 rfl (lv_at hl 0 rfl) ?_
          refine lv_ishl hx hb dX12_isRest_24 ?_
          obtain ⟨k_9, hk_9, ek_9⟩ := nshl1' i (by omega)
          refine sk_top (nI k_9) ek_9 ?_
          refine lv_ixor hx hb dX12_isRest_25 ?_
          obtain ⟨k_10, hk_10, ek_10⟩ := nxor512 o k_9 (by omega) (by omega)
          refine sk_top (nI k_10) ek_10 ?_
          refine lv_istore_n (lv' := [(3, .int (nI k_10)), (2, .int (nI i)), (0, .ref mm), (1, .int (nI o))]) hx hb dX12_isRest_26 rfl hl (by decide) rfl (fun ls hl => ?_)
          refine lv_aload_n hx hb dX12_isRest_27 rfl (lv_at hl 2 rfl) ?_
          refine lv_iload_n hx hb dX12_isRest_28 rfl (lv_at hl 1 rfl) ?_
          refine sk_Vi (q0 := 0) (n := 1) (rest := []) (wr := fmR om_5_14 _) ⟨hx, hb, hml, hown, hts⟩ hl.1 (c_m_isMute l D cI cJ cC cZ cS mm g ta pa pe pd pb pp pf pg pn rt rn cd sn il tk am at_ aa 0 0 (-1) wt wy 0 rm ud nu sd qn qw qo qb qp qa qi oc i nw (by omega) hnw) w_7_106 w_7_108 w_0_71 w_1_14 w_7_109 hd_X12_isMute_1 ⟨⟨(Nat.le_of_ble_eq_true rfl), (Nat.le_of_ble_eq_true rfl)⟩, (Nat.le_of_ble_eq_true rfl), (Nat.le_of_ble_eq_true rfl)⟩ hK hP hD hS hA (fmT om_5_14 0) (fmF om_5_14 0) (fm_C1 rfl rfl) (fm_R rfl rfl) (fm_nT om_5_14 0) (fm_nF om_5_14 0) (fm_di om_5_14 0) rfl rfl rfl rfl (Nat.le_of_ble_eq_true rfl) dX12_isRest_29 (fun r_12 u H locs hw hP hD hS => ?_)
          refine exE hw (fun b_11 hw1 => anE hw1 (fun hb1_13 hw2 => anE hw2 (fun hb2_14 hw3 => anE hw3 (fun er_16 eu_15 => ?_))))
          clear hw hw1 hw2 hw3
          subst er_16
          refine o_mgE (ws' := [ro_ mm 12 (mo g (nI ta) (nI pa) (nI pe) pd (nI pb) pp pf pg pn rt rn (nI cd) sn (nI il) tk am at_ aa 0 0 (-1) wt wy 0 (nI rm) (nI ud) (nI nu) sd (nI qn) (nI qw) qo (nI qb) (nI qp) qa (nI qi) (nI oc)), ra_I (g 20) cI 4 (l4 (nI l0) (nI l1) (nI dm) (nI l3)), ra_I (g 31) cI 120 nw, ra_I (g 50) cZ 512 ag, ra_J (g 49) cJ 4608 wg]) eu_15 hP hD rfl (fun hP hD => ?_)
          refine lv_if_ne (tgt := 72) hx hb dX12_isRest_32 (by decide) (fun c_17 => ?_) (fun c_17 => ?_)
          · have c_17 : ¬ (b_11 = 0) := fun h => c_17 ((neq b_11 0 (by omega) (Nat.le_of_ble_eq_true rfl)).mpr h)
            refine lv_iinc (v := nI (i + 1)) (lv' := [(2, .int (nI (i + 1))), (3, .int (nI k_10)), (0, .ref mm), (1, .int (nI o))]) hx hb dX12_isRest_72 hl (k := 1) rfl (ninc i 1 (by decide)) (by decide) rfl (fun ls hl => ?_)
            refine lv_goto (tgt := 13) hx hb dX12_isRest_75 (by decide) ?_
            exact ih_lp_3 (i + 1) _ _ _ (by omega) (by omega) hP hD hS (lv_sub hl [0, 2, 3] rfl)
          · have c_17 : b_11 = 0 := (neq b_11 0 (by omega) (Nat.le_of_ble_eq_true rfl)).mp c_17
            refine lv_aload_n hx hb dX12_isRest_35 rfl (lv_at hl 2 rfl) ?_
            refine sk_get (v := .ref (g 50)) (C := RX12) (T := TX12) (N := 92) hx hb hts inlX12 hown hK hP 0 rfl rfl 50 (Nat.le_of_ble_eq_true rfl) w_5_205 rfl dX12_isRest_36 ?_
            refine lv_iload_n hx hb dX12_isRest_39 rfl (lv_at hl 0 rfl) ?_
            refine va_zald hx hb hK.1 hP 3 3 rfl rfl (vin k_10 512 (by omega) (Nat.le_of_ble_eq_true rfl)) dX12_isRest_40 ?_
            refine lv_topi (fun v_18 ev_18 => ?_)
            refine lv_if_eq (tgt := 72) hx hb dX12_isRest_41 (by decide) (fun c_19 => ?_) (fun c_19 => ?_)
            · skip
              refine lv_iinc (v := nI (i + 1)) (lv' := [(2, .int (nI (i + 1))), (3, .int (nI k_10)), (0, .ref mm), (1, .int (nI o))]) hx hb dX12_isRest_72 hl (k := 1) rfl (ninc i 1 (by decide)) (by decide) rfl (fun ls hl => ?_)
              refine lv_goto (tgt := 13) hx hb dX12_isRest_75 (by decide) ?_
              exact ih_lp_3 (i + 1) _ _ _ (by omega) (by omega) hP hD hS (lv_sub hl [0, 2, 3] rfl)
            · skip
              refine lv_aload_n hx hb dX12_isRest_44 rfl (lv_at hl 2 rfl) ?_
              refine sk_get (v := .ref (g 49)) (C := RX12) (T := TX12) (N := 92) hx hb hts inlX12 hown hK hP 0 rfl rfl 49 (Nat.le_of_ble_eq_true rfl) w_5_204 rfl dX12_isRest_45 ?_
              refine lv_bipush (v := 9) hx hb dX12_isRest_48 (by decide) ?_
              refine lv_iload_n hx hb dX12_isRest_50 rfl (lv_at hl 0 rfl) ?_
              refine lv_imul hx hb dX12_isRest_51 ?_
              refine sk_top (nI (9 * k_10)) (nmul 9 k_10) ?_
              refine lv_iload_n hx hb dX12_isRest_52 rfl (lv_at hl 1 rfl) ?_
              refine lv_iadd hx hb dX12_isRest_53 ?_
              refine sk_top (nI (9 * k_10 + i)) (nI_add (9 * k_10) i) ?_
              refine va_lald hx hb hK.1 hP 4 1 rfl rfl (vin (9 * k_10 + i) 4608 (by omega) (Nat.le_of_ble_eq_true rfl)) dX12_isRest_54 ?_
              refine lv_topl (fun v_20 ev_20 => ?_)
              refine lv_aload_n hx hb dX12_isRest_55 rfl (lv_at hl 2 rfl) ?_
              refine sk_get (v := .ref (g 49)) (C := RX12) (T := TX12) (N := 92) hx hb hts inlX12 hown hK hP 0 rfl rfl 49 (Nat.le_of_ble_eq_true rfl) w_5_204 rfl dX12_isRest_56 ?_
              refine lv_bipush (v := 9) hx hb dX12_isRest_59 (by decide) ?_
              refine lv_iload_n hx hb dX12_isRest_61 rfl (lv_at hl 3 rfl) ?_
              refine lv_imul hx hb dX12_isRest_62 ?_
              refine sk_top (nI (9 * o)) (nmul 9 o) ?_
              refine lv_iload_n hx hb dX12_isRest_63 rfl (lv_at hl 1 rfl) ?_
              refine lv_iadd hx hb dX12_isRest_64 ?_
              refine sk_top (nI (9 * o + i)) (nI_add (9 * o) i) ?_
              refine va_lald hx hb hK.1 hP 4 1 rfl rfl (vin (9 * o + i) 4608 (by omega) (Nat.le_of_ble_eq_true rfl)) dX12_isRest_65 ?_
              refine lv_topl (fun v_21 ev_21 => ?_)
              refine W.lcmp hx hb dX12_isRest_66 ?_
              refine lv_if_le (tgt := 72) hx hb dX12_isRest_67 (by decide) (fun c_22 => ?_) (fun c_22 => ?_)
              · skip
                refine lv_iinc (v := nI (i + 1)) (lv' := [(2, .int (nI (i + 1))), (3, .int (nI k_10)), (0, .ref mm), (1, .int (nI o))]) hx hb dX12_isRest_72 hl (k := 1) rfl (ninc i 1 (by decide)) (by decide) rfl (fun ls hl => ?_)
                refine lv_goto (tgt := 13) hx hb dX12_isRest_75 (by decide) ?_
                exact ih_lp_3 (i + 1) _ _ _ (by omega) (by omega) hP hD hS (lv_sub hl [0, 2, 3] rfl)
              · skip
                refine lv_iconst (v := 0) hx hb dX12_isRest_70 ic_0 ?_
                exact sk_iret hx hb hr rfl hlocks hK hP hD hS (⟨0, by omega, rfl, rfl⟩) (Nat.le_of_ble_eq_true rfl) (Nat.le_of_ble_eq_true rfl) dX12_isRest_71
    exact lp_3 (dm - 0 + 1) 0 _ _ _ (Nat.lt_succ_self _) (by omega) hP hD hS (lv_sub hl [0, 1, 2] rfl)
  · skip
    refine lv_iconst (v := 0) hx hb dX12_isRest_9 ic_0 ?_
    exact sk_iret hx hb hr rfl hlocks hK hP hD hS (⟨0, by omega, rfl, rfl⟩) (Nat.le_of_ble_eq_true rfl) (Nat.le_of_ble_eq_true rfl) dX12_isRest_10
theorem dg_X12_rest_0_0 : bqL cX12_rest 0 [(0, [42]), (1, [180, 1, 46]), (4, [154, 0, 5]), (9, [42]), (10, [182, 1, 192]), (13, [2]), (14, [60]), (15, [3]), (16, [61]), (17, [28]), (18, [4]), (19, [42]), (20, [182, 1, 59]), (23, [120]), (24, [162, 0, 35]), (59, [27]), (60, [172]), (27, [27]), (28, [2]), (29, [159, 0, 14]), (43, [42]), (44, [28]), (45, [182, 1, 195]), (48, [153, 0, 5]), (53, [132, 2, 1]), (56, [167, 255, 217]), (51, [28]), (52, [60]), (32, [28]), (33, [184, 1, 153]), (36, [27]), (37, [184, 1, 153]), (40, [162, 0, 13]), (7, [2]), (8, [172])] = true := by decide +kernel
theorem dX12_rest_0 : decode cX12_rest 0 = .ok (.aload_n 0, 1) := q_aload_n0 (bat_get dg_X12_rest_0_0 0 rfl rfl)
theorem dX12_rest_1 : decode cX12_rest 1 = .ok (.getfield 302, 3) := q_getfield (bat_get dg_X12_rest_0_0 1 rfl rfl) rfl
theorem dX12_rest_4 : decode cX12_rest 4 = .ok (.ifCond .ne 5, 3) := q_ifCond_ne (bat_get dg_X12_rest_0_0 2 rfl rfl) rfl
theorem dX12_rest_9 : decode cX12_rest 9 = .ok (.aload_n 0, 1) := q_aload_n0 (bat_get dg_X12_rest_0_0 3 rfl rfl)
theorem dX12_rest_10 : decode cX12_rest 10 = .ok (.invokevirtual 448, 3) := q_invokevirtual (bat_get dg_X12_rest_0_0 4 rfl rfl) rfl
theorem dX12_rest_13 : decode cX12_rest 13 = .ok (.iconst (-1), 1) := q_iconstm1 (bat_get dg_X12_rest_0_0 5 rfl rfl)
theorem dX12_rest_14 : decode cX12_rest 14 = .ok (.istore_n 1, 1) := q_istore_n1 (bat_get dg_X12_rest_0_0 6 rfl rfl)
theorem dX12_rest_15 : decode cX12_rest 15 = .ok (.iconst 0, 1) := q_iconst0 (bat_get dg_X12_rest_0_0 7 rfl rfl)
theorem dX12_rest_16 : decode cX12_rest 16 = .ok (.istore_n 2, 1) := q_istore_n2 (bat_get dg_X12_rest_0_0 8 rfl rfl)
theorem dX12_rest_17 : decode cX12_rest 17 = .ok (.iload_n 2, 1) := q_iload_n2 (bat_get dg_X12_rest_0_0 9 rfl rfl)
theorem dX12_rest_18 : decode cX12_rest 18 = .ok (.iconst 1, 1) := q_iconst1 (bat_get dg_X12_rest_0_0 10 rfl rfl)
theorem dX12_rest_19 : decode cX12_rest 19 = .ok (.aload_n 0, 1) := q_aload_n0 (bat_get dg_X12_rest_0_0 11 rfl rfl)
theorem dX12_rest_20 : decode cX12_rest 20 = .ok (.invokevirtual 315, 3) := q_invokevirtual (bat_get dg_X12_rest_0_0 12 rfl rfl) rfl
theorem dX12_rest_23 : decode cX12_rest 23 = .ok (.ishl, 1) := q_ishl (bat_get dg_X12_rest_0_0 13 rfl rfl)
theorem dX12_rest_24 : decode cX12_rest 24 = .ok (.if_icmp .ge 35, 3) := q_if_icmp_ge (bat_get dg_X12_rest_0_0 14 rfl rfl) rfl
theorem dX12_rest_59 : decode cX12_rest 59 = .ok (.iload_n 1, 1) := q_iload_n1 (bat_get dg_X12_rest_0_0 15 rfl rfl)
theorem dX12_rest_60 : decode cX12_rest 60 = .ok (.ireturn, 1) := q_ireturn (bat_get dg_X12_rest_0_0 16 rfl rfl)
theorem dX12_rest_27 : decode cX12_rest 27 = .ok (.iload_n 1, 1) := q_iload_n1 (bat_get dg_X12_rest_0_0 17 rfl rfl)
theorem dX12_rest_28 : decode cX12_rest 28 = .ok (.iconst (-1), 1) := q_iconstm1 (bat_get dg_X12_rest_0_0 18 rfl rfl)
theorem dX12_rest_29 : decode cX12_rest 29 = .ok (.if_icmp .eq 14, 3) := q_if_icmp_eq (bat_get dg_X12_rest_0_0 19 rfl rfl) rfl
theorem dX12_rest_43 : decode cX12_rest 43 = .ok (.aload_n 0, 1) := q_aload_n0 (bat_get dg_X12_rest_0_0 20 rfl rfl)
theorem dX12_rest_44 : decode cX12_rest 44 = .ok (.iload_n 2, 1) := q_iload_n2 (bat_get dg_X12_rest_0_0 21 rfl rfl)
theorem dX12_rest_45 : decode cX12_rest 45 = .ok (.invokevirtual 451, 3) := q_invokevirtual (bat_get dg_X12_rest_0_0 22 rfl rfl) rfl
theorem dX12_rest_48 : decode cX12_rest 48 = .ok (.ifCond .eq 5, 3) := q_ifCond_eq (bat_get dg_X12_rest_0_0 23 rfl rfl) rfl
theorem dX12_rest_53 : decode cX12_rest 53 = .ok (.iinc 2 1, 3) := q_iinc (bat_get dg_X12_rest_0_0 24 rfl rfl) rfl
theorem dX12_rest_56 : decode cX12_rest 56 = .ok (.goto (-39), 3) := q_goto (bat_get dg_X12_rest_0_0 25 rfl rfl) rfl
theorem dX12_rest_51 : decode cX12_rest 51 = .ok (.iload_n 2, 1) := q_iload_n2 (bat_get dg_X12_rest_0_0 26 rfl rfl)
theorem dX12_rest_52 : decode cX12_rest 52 = .ok (.istore_n 1, 1) := q_istore_n1 (bat_get dg_X12_rest_0_0 27 rfl rfl)
theorem dX12_rest_32 : decode cX12_rest 32 = .ok (.iload_n 2, 1) := q_iload_n2 (bat_get dg_X12_rest_0_0 28 rfl rfl)
theorem dX12_rest_33 : decode cX12_rest 33 = .ok (.invokestatic 409, 3) := q_invokestatic (bat_get dg_X12_rest_0_0 29 rfl rfl) rfl
theorem dX12_rest_36 : decode cX12_rest 36 = .ok (.iload_n 1, 1) := q_iload_n1 (bat_get dg_X12_rest_0_0 30 rfl rfl)
theorem dX12_rest_37 : decode cX12_rest 37 = .ok (.invokestatic 409, 3) := q_invokestatic (bat_get dg_X12_rest_0_0 31 rfl rfl) rfl
theorem dX12_rest_40 : decode cX12_rest 40 = .ok (.if_icmp .ge 13, 3) := q_if_icmp_ge (bat_get dg_X12_rest_0_0 32 rfl rfl) rfl
theorem dX12_rest_7 : decode cX12_rest 7 = .ok (.iconst (-1), 1) := q_iconstm1 (bat_get dg_X12_rest_0_0 33 rfl rfl)
theorem dX12_rest_8 : decode cX12_rest 8 = .ok (.ireturn, 1) := q_ireturn (bat_get dg_X12_rest_0_0 34 rfl rfl)
theorem w_8_61 : (Cond.methodLink RX12 448 yX12_laysRest) ∈ wsL_law := sk_mem (ck_8 _ (List.mem_of_getElem? (i := 61) rfl)) rfl
theorem w_8_63 : (Cond.instanceMethod yX12_laysRest) ∈ wsL_law := sk_mem (ck_8 _ (List.mem_of_getElem? (i := 63) rfl)) rfl
theorem w_0_99 : (Cond.selects RX12 yX12_laysRest yX12_laysRest) ∈ wsL_law := sk_mem (ck_0 _ (List.mem_of_getElem? (i := 99) rfl)) rfl
theorem w_8_65 : (Cond.methodLink RX12 451 yX12_isRest) ∈ wsL_law := sk_mem (ck_8 _ (List.mem_of_getElem? (i := 65) rfl)) rfl
theorem w_8_67 : (Cond.instanceMethod yX12_isRest) ∈ wsL_law := sk_mem (ck_8 _ (List.mem_of_getElem? (i := 67) rfl)) rfl
theorem w_0_100 : (Cond.selects RX12 yX12_isRest yX12_isRest) ∈ wsL_law := sk_mem (ck_0 _ (List.mem_of_getElem? (i := 100) rfl)) rfl
theorem w_8_60 : (Cond.code yX12_rest cX12_rest 3 (some .int)) ∈ wsL_law := sk_mem (ck_8 _ (List.mem_of_getElem? (i := 60) rfl)) rfl
def om_15_7fff : List Bool := true :: true :: true :: true :: true :: true :: true :: true :: true :: true :: true :: true :: true :: true :: true :: []
def om_15_4483 : List Bool := true :: false :: false :: false :: true :: false :: false :: true :: false :: false :: false :: false :: false :: true :: true :: []
theorem hd_X12_laysRest_0 : skD yX12_laysRest 0 := by decide +kernel
theorem hd_X12_isRest_1 : skD yX12_isRest 1 := by decide +kernel
set_option maxHeartbeats 4000000 in
set_option maxRecDepth 100000 in
theorem c_m_rest (l : Launch) (D : va_G) (cI cJ cC cZ cS : ClassId) (mm : Nat) (g : Nat → Nat) (ta : Nat) (pa : Nat) (pe : Nat) (pd : Int32) (pb : Nat) (pp : Int32) (pf : Int32) (pg : Int32) (pn : Int32) (rt : Int32) (rn : Int32) (cd : Nat) (sn : Int32) (il : Nat) (tk : Int32) (am : Int32) (at_ : Int32) (aa : Int32) (wt : Int32) (wy : Int64) (rm : Nat) (ud : Nat) (nu : Nat) (sd : Int64) (qn : Nat) (qw : Nat) (qo : Int32) (qb : Nat) (qp : Nat) (qa : Int64) (qi : Nat) (oc : Nat) (u0 : Int32) (u1 : Int32) (u2 : Int32) (u3 : Int32) (u4 : Int32) (u5 : Int32) (v0 : Int32) (v1 : Int32) (v2 : Int32) (v3 : Int32) (v4 : Int32) (v5 : Int32) (cs : Nat → Nat) (nw : Nat → Int32) (pt : Nat → Nat) (ql : Nat → Int64) (l0 : Nat) (l1 : Nat) (dm : Nat) (l3 : Nat) (ws_ : Nat → Int32) (yw : Nat → Int32) (yo : Nat → Int32) (be : Nat → Int64) (bf : Nat → Int64) (ag : Nat → Int32) (wg : Nat → Int64) (hil : il ≤ 1) (hild : il = 1 → 1 ≤ dm) (hdm : dm ≤ 9) (hp0 : progOk cs u3 v3) (hp1 : progOk cs u4 v4) (hp2 : progOk cs u5 v5) (hcs : ∀ j, cs j ≤ 20000) (hnw : nowOk nw) (hpt : ∀ j, pt j ≤ 9) : skM l yX12_rest cX12_rest 3 (some .int) 6 144 0 0 D (skT cI cJ cC cZ cS) [.ref mm] [ro_ mm 12 (mo g (nI ta) (nI pa) (nI pe) pd (nI pb) pp pf pg pn rt rn (nI cd) sn (nI il) tk am at_ aa 0 0 (-1) wt wy 0 (nI rm) (nI ud) (nI nu) sd (nI qn) (nI qw) qo (nI qb) (nI qp) qa (nI qi) (nI oc)), ra_I (g 24) cI 6 (l6 u0 u1 u2 u3 u4 u5), ra_I (g 25) cI 6 (l6 v0 v1 v2 v3 v4 v5), ra_N (g 26) cI 3200 cs, ra_I (g 31) cI 120 nw, ra_N (g 46) cI 9 pt, ra_J (g 86) cJ 1700 ql, ra_I (g 20) cI 4 (l4 (nI l0) (nI l1) (nI dm) (nI l3)), ra_I (g 38) cI 90 ws_, ra_I (g 36) cZ 900 yw, ra_I (g 37) cZ 900 yo, ra_J (g 43) cJ 90 be, ra_J (g 44) cJ 90 bf, ra_I (g 50) cZ 512 ag, ra_J (g 49) cJ 4608 wg] (skI D (skT cI cJ cC cZ cS) (fun (r : Int32) (u : va_W) => ∃ (tk2 : Int32), ∃ (qp2 : Nat), ∃ (am2 : Int32), ∃ (at_2 : Int32), ∃ (aa2 : Int32), ∃ (wy2 : Int64), ∃ (pt2 : Nat → Nat), ∃ (ql2 : Nat → Int64), ∃ (ws_2 : Nat → Int32), ∃ (yw2 : Nat → Int32), ∃ (yo2 : Nat → Int32), ∃ (be2 : Nat → Int64), ∃ (bf2 : Nat → Int64), ∃ (ag2 : Nat → Int32), ∃ (wg2 : Nat → Int64), (∀ j, pt2 j ≤ 9) ∧ u = [ro_ mm 12 (mo g (nI ta) (nI pa) (nI pe) pd (nI pb) pp pf pg pn rt rn (nI cd) sn (nI il) tk2 am2 at_2 aa2 0 0 (-1) wt wy2 0 (nI rm) (nI ud) (nI nu) sd (nI qn) (nI qw) qo (nI qb) (nI qp2) qa (nI qi) (nI oc)), ra_I (g 24) cI 6 (l6 u0 u1 u2 u3 u4 u5), ra_I (g 25) cI 6 (l6 v0 v1 v2 v3 v4 v5), ra_N (g 26) cI 3200 cs, ra_I (g 31) cI 120 nw, ra_N (g 46) cI 9 pt2, ra_J (g 86) cJ 1700 ql2, ra_I (g 20) cI 4 (l4 (nI l0) (nI l1) (nI dm) (nI l3)), ra_I (g 38) cI 90 ws_2, ra_I (g 36) cZ 900 yw2, ra_I (g 37) cZ 900 yo2, ra_J (g 43) cJ 90 be2, ra_J (g 44) cJ 90 bf2, ra_I (g 50) cZ 512 ag2, ra_J (g 49) cJ 4608 wg2])) := by
  refine skM_of pf_X12_rest (Nat.le_of_ble_eq_true rfl) ?_
  intro p e s m below meth c A ls E hP hD hl
  refine skE_el E (fun hx hb hr hml hlocks hin hown hts hK hA => ?_)
  have hown : s.vm.findClass RX12 = some m.cls := hown
  have hS : va_S A s.heap s.heap [] := va_S.rf
  have hl : lv_has ls 3 [(0, .ref mm)] := hl
  refine lv_aload_n hx hb dX12_rest_0 rfl (lv_at hl 0 rfl) ?_
  refine sk_get (v := .int (nI il)) (C := RX12) (T := TX12) (N := 92) hx hb hts inlX12 hown hK hP 0 rfl rfl 29 (Nat.le_of_ble_eq_true rfl) w_5_184 rfl dX12_rest_1 ?_
  refine lv_if_ne (tgt := 9) hx hb dX12_rest_4 (by decide) (fun c_1 => ?_) (fun c_1 => ?_)
  · have c_1 : ¬ (il = 0) := fun h => c_1 ((neq il 0 (by omega) (Nat.le_of_ble_eq_true rfl)).mpr h)
    refine lv_aload_n hx hb dX12_rest_9 rfl (lv_at hl 0 rfl) ?_
    refine sk_Vv (q0 := 0) (n := 0) (rest := []) (wr := fmR om_15_7fff _) ⟨hx, hb, hml, hown, hts⟩ hl.1 (c_m_laysRest l D cI cJ cC cZ cS mm g ta pa pe pd pb pp pf pg pn rt rn cd sn il tk am at_ aa wt wy rm ud nu sd qn qw qo qb qp qa qi oc u0 u1 u2 u3 u4 u5 v0 v1 v2 v3 v4 v5 cs nw pt ql l0 l1 dm l3 ws_ yw yo be bf ag wg hdm (by omega) hp0 hp1 hp2 hcs hnw hpt) w_8_61 w_8_63 w_0_99 w_1_14 w_8_64 hd_X12_laysRest_0 ⟨⟨(Nat.le_of_ble_eq_true rfl), (Nat.le_of_ble_eq_true rfl)⟩, (Nat.le_of_ble_eq_true rfl), (Nat.le_of_ble_eq_true rfl)⟩ hK hP hD hS hA (fmT om_15_7fff 0) (fmF om_15_7fff 0) (fm_C1 rfl rfl) (fm_R rfl rfl) (fm_nT om_15_7fff 0) (fm_nF om_15_7fff 0) (fm_di om_15_7fff 0) rfl rfl rfl rfl (Nat.le_of_ble_eq_true rfl) dX12_rest_10 (fun u H locs hw hP hD hS => ?_)
    refine exE hw (fun tk2_2 hw1 => exE hw1 (fun qp2_3 hw2 => exE hw2 (fun am2_4 hw3 => exE hw3 (fun at_2_5 hw4 => exE hw4 (fun aa2_6 hw5 => exE hw5 (fun wy2_7 hw6 => exE hw6 (fun pt2_8 hw7 => exE hw7 (fun ql2_9 hw8 => exE hw8 (fun ws_2_10 hw9 => exE hw9 (fun yw2_11 hw10 => exE hw10 (fun yo2_12 hw11 => exE hw11 (fun be2_13 hw12 => exE hw12 (fun bf2_14 hw13 => exE hw13 (fun ag2_15 hw14 => exE hw14 (fun wg2_16 hw15 => anE hw15 (fun hpt2_17 eu_18 => ?_))))))))))))))))
    clear hw hw1 hw2 hw3 hw4 hw5 hw6 hw7 hw8 hw9 hw10 hw11 hw12 hw13 hw14 hw15
    refine o_mgE (ws' := [ro_ mm 12 (mo g (nI ta) (nI pa) (nI pe) pd (nI pb) pp pf pg pn rt rn (nI cd) sn (nI il) tk2_2 am2_4 at_2_5 aa2_6 0 0 (-1) wt wy2_7 0 (nI rm) (nI ud) (nI nu) sd (nI qn) (nI qw) qo (nI qb) (nI qp2_3) qa (nI qi) (nI oc)), ra_I (g 24) cI 6 (l6 u0 u1 u2 u3 u4 u5), ra_I (g 25) cI 6 (l6 v0 v1 v2 v3 v4 v5), ra_N (g 26) cI 3200 cs, ra_I (g 31) cI 120 nw, ra_N (g 46) cI 9 pt2_8, ra_J (g 86) cJ 1700 ql2_9, ra_I (g 20) cI 4 (l4 (nI l0) (nI l1) (nI dm) (nI l3)), ra_I (g 38) cI 90 ws_2_10, ra_I (g 36) cZ 900 yw2_11, ra_I (g 37) cZ 900 yo2_12, ra_J (g 43) cJ 90 be2_13, ra_J (g 44) cJ 90 bf2_14, ra_I (g 50) cZ 512 ag2_15, ra_J (g 49) cJ 4608 wg2_16]) eu_18 hP hD rfl (fun hP hD => ?_)
    refine lv_iconst (v := (-1)) hx hb dX12_rest_13 (by decide) ?_
    refine lv_istore_n (lv' := [(1, .int (-1)), (0, .ref mm)]) hx hb dX12_rest_14 rfl hl (by decide) rfl (fun ls hl => ?_)
    refine lv_iconst (v := 0) hx hb dX12_rest_15 ic_0 ?_
    refine lv_istore_n (lv' := [(2, .int 0), (1, .int (-1)), (0, .ref mm)]) hx hb dX12_rest_16 rfl hl (by decide) rfl (fun ls hl => ?_)
    have lp_19 : ∀ (n_20 : Nat) (i : Nat) (be_ : Int32) (H : Heap) (locs : List Loc) (ls : Array Slot), 512 - i < n_20 → (i ≤ 512) → va_P D vwCl [ro_ mm 12 (mo g (nI ta) (nI pa) (nI pe) pd (nI pb) pp pf pg pn rt rn (nI cd) sn (nI il) tk2_2 am2_4 at_2_5 aa2_6 0 0 (-1) wt wy2_7 0 (nI rm) (nI ud) (nI nu) sd (nI qn) (nI qw) qo (nI qb) (nI qp2_3) qa (nI qi) (nI oc)), ra_I (g 24) cI 6 (l6 u0 u1 u2 u3 u4 u5), ra_I (g 25) cI 6 (l6 v0 v1 v2 v3 v4 v5), ra_N (g 26) cI 3200 cs, ra_I (g 31) cI 120 nw, ra_N (g 46) cI 9 pt2_8, ra_J (g 86) cJ 1700 ql2_9, ra_I (g 20) cI 4 (l4 (nI l0) (nI l1) (nI dm) (nI l3)), ra_I (g 38) cI 90 ws_2_10, ra_I (g 36) cZ 900 yw2_11, ra_I (g 37) cZ 900 yo2_12, ra_J (g 43) cJ 90 be2_13, ra_J (g 44) cJ 90 bf2_14, ra_I (g 50) cZ 512 ag2_15, ra_J (g 49) cJ 4608 wg2_16] H → va_D A [ro_ mm 12 (mo g (nI ta) (nI pa) (nI pe) pd (nI pb) pp pf pg pn rt rn (nI cd) sn (nI il) tk2_2 am2_4 at_2_5 aa2_6 0 0 (-1) wt wy2_7 0 (nI rm) (nI ud) (nI nu) sd (nI qn) (nI qw) qo (nI qb) (nI qp2_3) qa (nI qi) (nI oc)), ra_I (g 24) cI 6 (l6 u0 u1 u2 u3 u4 u5), ra_I (g 25) cI 6 (l6 v0 v1 v2 v3 v4 v5), ra_N (g 26) cI 3200 cs, ra_I (g 31) cI 120 nw, ra_N (g 46) cI 9 pt2_8, ra_J (g 86) cJ 1700 ql2_9, ra_I (g 20) cI 4 (l4 (nI l0) (nI l1) (nI dm) (nI l3)), ra_I (g 38) cI 90 ws_2_10, ra_I (g 36) cZ 900 yw2_11, ra_I (g 37) cZ 900 yo2_12, ra_J (g 43) cJ 90 be2_13, ra_J (g 44) cJ 90 bf2_14, ra_I (g 50) cZ 512 ag2_15, ra_J (g 49) cJ 4608 wg2_16] → va_S A s.heap H locs → lv_has ls 3 [(2, .int (nI i)), (1, .int be_), (0, .ref mm)] → W p l e { frames := 6, cells := 0, slots := 0, locals := 144 } s m ([.ref mm] : List Value).toArray below meth c H locs 0 0 (MQ below (skI D (skT cI cJ cC cZ cS) (fun (r : Int32) (u : va_W) => ∃ (tk2 : Int32), ∃ (qp2 : Nat), ∃ (am2 : Int32), ∃ (at_2 : Int32), ∃ (aa2 : Int32), ∃ (wy2 : Int64), ∃ (pt2 : Nat → Nat), ∃ (ql2 : Nat → Int64), ∃ (ws_2 : Nat → Int32), ∃ (yw2 : Nat → Int32), ∃ (yo2 : Nat → Int32), ∃ (be2 : Nat → Int64), ∃ (bf2 : Nat → Int64), ∃ (ag2 : Nat → Int32), ∃ (wg2 : Nat → Int64), (∀ j, pt2 j ≤ 9) ∧ u = [ro_ mm 12 (mo g (nI ta) (nI pa) (nI pe) pd (nI pb) pp pf pg pn rt rn (nI cd) sn (nI il) tk2 am2 at_2 aa2 0 0 (-1) wt wy2 0 (nI rm) (nI ud) (nI nu) sd (nI qn) (nI qw) qo (nI qb) (nI qp2) qa (nI qi) (nI oc)), ra_I (g 24) cI 6 (l6 u0 u1 u2 u3 u4 u5), ra_I (g 25) cI 6 (l6 v0 v1 v2 v3 v4 v5), ra_N (g 26) cI 3200 cs, ra_I (g 31) cI 120 nw, ra_N (g 46) cI 9 pt2, ra_J (g 86) cJ 1700 ql2, ra_I (g 20) cI 4 (l4 (nI l0) (nI l1) (nI dm) (nI l3)), ra_I (g 38) cI 90 ws_2, ra_I (g 36) cZ 900 yw2, ra_I (g 37) cZ 900 yo2, ra_J (g 43) cJ 90 be2, ra_J (g 44) cJ 90 bf2, ra_I (g 50) cZ 512 ag2, ra_J (g 49) cJ 4608 wg2]) A) ([.ref mm] : List Value).toArray s 0 0 A) (F0 m 17 ls []) := by
      intro n_20
      induction n_20 with
      | zero => intro i be_ H locs ls hm; exact absurd hm (Nat.not_lt_zero _)
      | succ n_20 ih_lp_19 =>
        intro i be_ H locs ls hm hi hP hD hS hl
        refine lv_iload_n hx hb dX12_rest_17 rfl (lv_at hl 0 rfl) ?_
        refine lv_iconst (v := 1) hx hb dX12_rest_18 ic_1 ?_
        refine lv_aload_n hx hb dX12_rest_19 rfl (lv_at hl 2 rfl) ?_
        refine sk_Vi (q0 := 0) (n := 0) (rest := [.int 1, .int (nI i)]) (wr := fmR om_15_4080 _) ⟨hx, hb, hml, hown, hts⟩ hl.1 (c_m_dayMany l D cI cJ cC cZ cS mm g ta pa pe pd pb pp pf pg pn rt rn cd sn il tk2_2 am2_4 at_2_5 aa2_6 0 0 (-1) wt wy2_7 0 rm ud nu sd qn qw qo qb qp2_3 qa qi oc l0 l1 dm l3) w_7_98 w_7_100 w_0_69 w_1_14 w_7_101 hd_X12_dayMany_0 ⟨⟨(Nat.le_of_ble_eq_true rfl), (Nat.le_of_ble_eq_true rfl)⟩, (Nat.le_of_ble_eq_true rfl), (Nat.le_of_ble_eq_true rfl)⟩ hK hP hD hS hA (fmT om_15_4080 0) (fmF om_15_4080 0) (fm_C1 rfl rfl) (fm_R rfl rfl) (fm_nT om_15_4080 0) (fm_nF om_15_4080 0) (fm_di om_15_4080 0) rfl rfl rfl rfl (Nat.le_of_ble_eq_true rfl) dX12_rest_20 (fun r_21 u H locs hw hP hD hS => ?_)
        refine anE hw (fun er_23 eu_22 => ?_)
        clear hw
        subst er_23
        refine o_mgE (ws' := [ro_ mm 12 (mo g (nI ta) (nI pa) (nI pe) pd (nI pb) pp pf pg pn rt rn (nI cd) sn (nI il) tk2_2 am2_4 at_2_5 aa2_6 0 0 (-1) wt wy2_7 0 (nI rm) (nI ud) (nI nu) sd (nI qn) (nI qw) qo (nI qb) (nI qp2_3) qa (nI qi) (nI oc)), ra_I (g 24) cI 6 (l6 u0 u1 u2 u3 u4 u5), ra_I (g 25) cI 6 (l6 v0 v1 v2 v3 v4 v5), ra_N (g 26) cI 3200 cs, ra_I (g 31) cI 120 nw, ra_N (g 46) cI 9 pt2_8, ra_J (g 86) cJ 1700 ql2_9, ra_I (g 20) cI 4 (l4 (nI l0) (nI l1) (nI dm) (nI l3)), ra_I (g 38) cI 90 ws_2_10, ra_I (g 36) cZ 900 yw2_11, ra_I (g 37) cZ 900 yo2_12, ra_J (g 43) cJ 90 be2_13, ra_J (g 44) cJ 90 bf2_14, ra_I (g 50) cZ 512 ag2_15, ra_J (g 49) cJ 4608 wg2_16]) eu_22 hP hD rfl (fun hP hD => ?_)
        refine lv_ishl hx hb dX12_rest_23 ?_
        obtain ⟨k_24, hk_24, ek_24⟩ := nshl1 dm (by omega)
        refine sk_top (nI k_24) ek_24 ?_
        refine lv_icmp_ge (tgt := 59) hx hb dX12_rest_24 (by decide) (fun c_25 => ?_) (fun c_25 => ?_)
        · have c_25 : k_24 ≤ i := (nle k_24 i (by omega) (by omega)).mp c_25
          refine lv_iload_n hx hb dX12_rest_59 rfl (lv_at hl 1 rfl) ?_
          exact sk_iret hx hb hr rfl hlocks hK hP hD hS (⟨tk2_2, qp2_3, am2_4, at_2_5, aa2_6, wy2_7, pt2_8, ql2_9, ws_2_10, yw2_11, yo2_12, be2_13, bf2_14, ag2_15, wg2_16, hpt2_17, rfl⟩) (Nat.le_of_ble_eq_true rfl) (Nat.le_of_ble_eq_true rfl) dX12_rest_60
        · have c_25 : ¬ (k_24 ≤ i) := fun h => c_25 ((nle k_24 i (by omega) (by omega)).mpr h)
          refine lv_iload_n hx hb dX12_rest_27 rfl (lv_at hl 1 rfl) ?_
          refine lv_iconst (v := (-1)) hx hb dX12_rest_28 (by decide) ?_
          refine lv_icmp_eq (tgt := 43) hx hb dX12_rest_29 (by decide) (fun c_26 => ?_) (fun c_26 => ?_)
          · skip
            refine lv_aload_n hx hb dX12_rest_43 rfl (lv_at hl 2 rfl) ?_
            refine lv_iload_n hx hb dX12_rest_44 rfl (lv_at hl 0 rfl) ?_
            refine sk_Vi (q0 := 0) (n := 1) (rest := []) (wr := fmR om_15_4483 _) ⟨hx, hb, hml, hown, hts⟩ hl.1 (c_m_isRest l D cI cJ cC cZ cS mm g ta pa pe pd pb pp pf pg pn rt rn cd sn il tk2_2 am2_4 at_2_5 aa2_6 wt wy2_7 rm ud nu sd qn qw qo qb qp2_3 qa qi oc i l0 l1 dm l3 nw ag2_15 wg2_16 hdm (by omega) hnw) w_8_65 w_8_67 w_0_100 w_1_14 w_8_68 hd_X12_isRest_1 ⟨⟨(Nat.le_of_ble_eq_true rfl), (Nat.le_of_ble_eq_true rfl)⟩, (Nat.le_of_ble_eq_true rfl), (Nat.le_of_ble_eq_true rfl)⟩ hK hP hD hS hA [0, 7, 4, 13, 14] (fmF om_15_4483 0) rfl (fm_R rfl rfl) (by decide +kernel) (fm_nF om_15_4483 0) (by decide +kernel) rfl rfl rfl rfl (Nat.le_of_ble_eq_true rfl) dX12_rest_45 (fun r_28 u H locs hw hP hD hS => ?_)
            refine exE hw (fun b_27 hw1 => anE hw1 (fun hb1_29 hw2 => anE hw2 (fun er_31 eu_30 => ?_)))
            clear hw hw1 hw2
            subst er_31
            refine o_mgqE (ux := [ro_ mm 12 (mo g (nI ta) (nI pa) (nI pe) pd (nI pb) pp pf pg pn rt rn (nI cd) sn (nI il) tk2_2 am2_4 at_2_5 aa2_6 0 0 (-1) wt wy2_7 0 (nI rm) (nI ud) (nI nu) sd (nI qn) (nI qw) qo (nI qb) (nI qp2_3) qa (nI qi) (nI oc)), ra_I (g 31) cI 120 nw, ra_I (g 20) cI 4 (l4 (nI l0) (nI l1) (nI dm) (nI l3)), ra_I (g 50) cZ 512 ag2_15, ra_J (g 49) cJ 4608 wg2_16]) (ws' := [ro_ mm 12 (mo g (nI ta) (nI pa) (nI pe) pd (nI pb) pp pf pg pn rt rn (nI cd) sn (nI il) tk2_2 am2_4 at_2_5 aa2_6 0 0 (-1) wt wy2_7 0 (nI rm) (nI ud) (nI nu) sd (nI qn) (nI qw) qo (nI qb) (nI qp2_3) qa (nI qi) (nI oc)), ra_I (g 24) cI 6 (l6 u0 u1 u2 u3 u4 u5), ra_I (g 25) cI 6 (l6 v0 v1 v2 v3 v4 v5), ra_N (g 26) cI 3200 cs, ra_I (g 31) cI 120 nw, ra_N (g 46) cI 9 pt2_8, ra_J (g 86) cJ 1700 ql2_9, ra_I (g 20) cI 4 (l4 (nI l0) (nI l1) (nI dm) (nI l3)), ra_I (g 38) cI 90 ws_2_10, ra_I (g 36) cZ 900 yw2_11, ra_I (g 37) cZ 900 yo2_12, ra_J (g 43) cJ 90 be2_13, ra_J (g 44) cJ 90 bf2_14, ra_I (g 50) cZ 512 ag2_15, ra_J (g 49) cJ 4608 wg2_16]) eu_30 [0, 2, 1, 3, 4] (by decide +kernel) rfl hP hD rfl (fun hP hD => ?_)
            refine lv_if_eq (tgt := 53) hx hb dX12_rest_48 (by decide) (fun c_32 => ?_) (fun c_32 => ?_)
            · have c_32 : b_27 = 0 := (neq b_27 0 (by omega) (Nat.le_of_ble_eq_true rfl)).mp c_32
              refine lv_iinc (v := nI (i + 1)) (lv' := [(2, .int (nI (i + 1))), (1, .int be_), (0, .ref mm)]) hx hb dX12_rest_53 hl (k := 0) rfl (ninc i 1 (by decide)) (by decide) rfl (fun ls hl => ?_)
              refine lv_goto (tgt := 17) hx hb dX12_rest_56 (by decide) ?_
              exact ih_lp_19 (i + 1) be_ _ _ _ (by omega) (by omega) hP hD hS (lv_sub hl [0, 1, 2] rfl)
            · have c_32 : ¬ (b_27 = 0) := fun h => c_32 ((neq b_27 0 (by omega) (Nat.le_of_ble_eq_true rfl)).mpr h)
              refine lv_iload_n hx hb dX12_rest_51 rfl (lv_at hl 0 rfl) ?_
              refine lv_istore_n (lv' := [(1, .int (nI i)), (2, .int (nI i)), (0, .ref mm)]) hx hb dX12_rest_52 rfl hl (by decide) rfl (fun ls hl => ?_)
              refine lv_iinc (v := nI (i + 1)) (lv' := [(2, .int (nI (i + 1))), (1, .int (nI i)), (0, .ref mm)]) hx hb dX12_rest_53 hl (k := 1) rfl (ninc i 1 (by decide)) (by decide) rfl (fun ls hl => ?_)
              refine lv_goto (tgt := 17) hx hb dX12_rest_56 (by decide) ?_
              exact ih_lp_19 (i + 1) (nI i) _ _ _ (by omega) (by omega) hP hD hS (lv_sub hl [0, 1, 2] rfl)
          · skip
            refine lv_iload_n hx hb dX12_rest_32 rfl (lv_at hl 0 rfl) ?_
            refine sk_Si (n := 1) (rest := []) (wr := [ro_ mm 12 (mo g (nI ta) (nI pa) (nI pe) pd (nI pb) pp pf pg pn rt rn (nI cd) sn (nI il) tk2_2 am2_4 at_2_5 aa2_6 0 0 (-1) wt wy2_7 0 (nI rm) (nI ud) (nI nu) sd (nI qn) (nI qw) qo (nI qb) (nI qp2_3) qa (nI qi) (nI oc)), ra_I (g 24) cI 6 (l6 u0 u1 u2 u3 u4 u5), ra_I (g 25) cI 6 (l6 v0 v1 v2 v3 v4 v5), ra_N (g 26) cI 3200 cs, ra_I (g 31) cI 120 nw, ra_N (g 46) cI 9 pt2_8, ra_J (g 86) cJ 1700 ql2_9, ra_I (g 20) cI 4 (l4 (nI l0) (nI l1) (nI dm) (nI l3)), ra_I (g 38) cI 90 ws_2_10, ra_I (g 36) cZ 900 yw2_11, ra_I (g 37) cZ 900 yo2_12, ra_J (g 43) cJ 90 be2_13, ra_J (g 44) cJ 90 bf2_14, ra_I (g 50) cZ 512 ag2_15, ra_J (g 49) cJ 4608 wg2_16]) ⟨hx, hb, hml, hown, hts⟩ hl.1 (c_m_bits l D cI cJ cC cZ cS (nI i)) w_7_110 w_7_111 w_1_14 w_7_112 hd_X12_bits_1 ⟨⟨(Nat.le_of_ble_eq_true rfl), (Nat.le_of_ble_eq_true rfl)⟩, (Nat.le_of_ble_eq_true rfl), (Nat.le_of_ble_eq_true rfl)⟩ hK hP hD hS hA [] [0, 1, 2, 3, 4, 5, 6, 7, 8, 9, 10, 11, 12, 13, 14] rfl rfl (by decide +kernel) (by decide +kernel) (by decide +kernel) rfl rfl (Nat.le_of_ble_eq_true rfl) dX12_rest_33 (fun r_33 u H locs hw hP hD hS => ?_)
            obtain rfl := hw
            refine o_re (ws' := [ro_ mm 12 (mo g (nI ta) (nI pa) (nI pe) pd (nI pb) pp pf pg pn rt rn (nI cd) sn (nI il) tk2_2 am2_4 at_2_5 aa2_6 0 0 (-1) wt wy2_7 0 (nI rm) (nI ud) (nI nu) sd (nI qn) (nI qw) qo (nI qb) (nI qp2_3) qa (nI qi) (nI oc)), ra_I (g 24) cI 6 (l6 u0 u1 u2 u3 u4 u5), ra_I (g 25) cI 6 (l6 v0 v1 v2 v3 v4 v5), ra_N (g 26) cI 3200 cs, ra_I (g 31) cI 120 nw, ra_N (g 46) cI 9 pt2_8, ra_J (g 86) cJ 1700 ql2_9, ra_I (g 20) cI 4 (l4 (nI l0) (nI l1) (nI dm) (nI l3)), ra_I (g 38) cI 90 ws_2_10, ra_I (g 36) cZ 900 yw2_11, ra_I (g 37) cZ 900 yo2_12, ra_J (g 43) cJ 90 be2_13, ra_J (g 44) cJ 90 bf2_14, ra_I (g 50) cZ 512 ag2_15, ra_J (g 49) cJ 4608 wg2_16]) hP hD rfl (fun hP hD => ?_)
            refine lv_iload_n hx hb dX12_rest_36 rfl (lv_at hl 1 rfl) ?_
            refine sk_Si (n := 1) (rest := [.int r_33]) (wr := [ro_ mm 12 (mo g (nI ta) (nI pa) (nI pe) pd (nI pb) pp pf pg pn rt rn (nI cd) sn (nI il) tk2_2 am2_4 at_2_5 aa2_6 0 0 (-1) wt wy2_7 0 (nI rm) (nI ud) (nI nu) sd (nI qn) (nI qw) qo (nI qb) (nI qp2_3) qa (nI qi) (nI oc)), ra_I (g 24) cI 6 (l6 u0 u1 u2 u3 u4 u5), ra_I (g 25) cI 6 (l6 v0 v1 v2 v3 v4 v5), ra_N (g 26) cI 3200 cs, ra_I (g 31) cI 120 nw, ra_N (g 46) cI 9 pt2_8, ra_J (g 86) cJ 1700 ql2_9, ra_I (g 20) cI 4 (l4 (nI l0) (nI l1) (nI dm) (nI l3)), ra_I (g 38) cI 90 ws_2_10, ra_I (g 36) cZ 900 yw2_11, ra_I (g 37) cZ 900 yo2_12, ra_J (g 43) cJ 90 be2_13, ra_J (g 44) cJ 90 bf2_14, ra_I (g 50) cZ 512 ag2_15, ra_J (g 49) cJ 4608 wg2_16]) ⟨hx, hb, hml, hown, hts⟩ hl.1 (c_m_bits l D cI cJ cC cZ cS be_) w_7_110 w_7_111 w_1_14 w_7_112 hd_X12_bits_1 ⟨⟨(Nat.le_of_ble_eq_true rfl), (Nat.le_of_ble_eq_true rfl)⟩, (Nat.le_of_ble_eq_true rfl), (Nat.le_of_ble_eq_true rfl)⟩ hK hP hD hS hA [] [0, 1, 2, 3, 4, 5, 6, 7, 8, 9, 10, 11, 12, 13, 14] rfl rfl (by decide +kernel) (by decide +kernel) (by decide +kernel) rfl rfl (Nat.le_of_ble_eq_true rfl) dX12_rest_37 (fun r_34 u H locs hw hP hD hS => ?_)
            obtain rfl := hw
            refine o_re (ws' := [ro_ mm 12 (mo g (nI ta) (nI pa) (nI pe) pd (nI pb) pp pf pg pn rt rn (nI cd) sn (nI il) tk2_2 am2_4 at_2_5 aa2_6 0 0 (-1) wt wy2_7 0 (nI rm) (nI ud) (nI nu) sd (nI qn) (nI qw) qo (nI qb) (nI qp2_3) qa (nI qi) (nI oc)), ra_I (g 24) cI 6 (l6 u0 u1 u2 u3 u4 u5), ra_I (g 25) cI 6 (l6 v0 v1 v2 v3 v4 v5), ra_N (g 26) cI 3200 cs, ra_I (g 31) cI 120 nw, ra_N (g 46) cI 9 pt2_8, ra_J (g 86) cJ 1700 ql2_9, ra_I (g 20) cI 4 (l4 (nI l0) (nI l1) (nI dm) (nI l3)), ra_I (g 38) cI 90 ws_2_10, ra_I (g 36) cZ 900 yw2_11, ra_I (g 37) cZ 900 yo2_12, ra_J (g 43) cJ 90 be2_13, ra_J (g 44) cJ 90 bf2_14, ra_I (g 50) cZ 512 ag2_15, ra_J (g 49) cJ 4608 wg2_16]) hP hD rfl (fun hP hD => ?_)
            refine lv_icmp_ge (tgt := 53) hx hb dX12_rest_40 (by decide) (fun c_35 => ?_) (fun c_35 => ?_)
            · skip
              refine lv_iinc (v := nI (i + 1)) (lv' := [(2, .int (nI (i + 1))), (1, .int be_), (0, .ref mm)]) hx hb dX12_rest_53 hl (k := 0) rfl (ninc i 1 (by decide)) (by decide) rfl (fun ls hl => ?_)
              refine lv_goto (tgt := 17) hx hb dX12_rest_56 (by decide) ?_
              exact ih_lp_19 (i + 1) be_ _ _ _ (by omega) (by omega) hP hD hS (lv_sub hl [0, 1, 2] rfl)
            · skip
              refine lv_aload_n hx hb dX12_rest_43 rfl (lv_at hl 2 rfl) ?_
              refine lv_iload_n hx hb dX12_rest_44 rfl (lv_at hl 0 rfl) ?_
              refine sk_Vi (q0 := 0) (n := 1) (rest := []) (wr := fmR om_15_4483 _) ⟨hx, hb, hml, hown, hts⟩ hl.1 (c_m_isRest l D cI cJ cC cZ cS mm g ta pa pe pd pb pp pf pg pn rt rn cd sn il tk2_2 am2_4 at_2_5 aa2_6 wt wy2_7 rm ud nu sd qn qw qo qb qp2_3 qa qi oc i l0 l1 dm l3 nw ag2_15 wg2_16 hdm (by omega) hnw) w_8_65 w_8_67 w_0_100 w_1_14 w_8_68 hd_X12_isRest_1 ⟨⟨(Nat.le_of_ble_eq_true rfl), (Nat.le_of_ble_eq_true rfl)⟩, (Nat.le_of_ble_eq_true rfl), (Nat.le_of_ble_eq_true rfl)⟩ hK hP hD hS hA [0, 7, 4, 13, 14] (fmF om_15_4483 0) rfl (fm_R rfl rfl) (by decide +kernel) (fm_nF om_15_4483 0) (by decide +kernel) rfl rfl rfl rfl (Nat.le_of_ble_eq_true rfl) dX12_rest_45 (fun r_37 u H locs hw hP hD hS => ?_)
              refine exE hw (fun b_36 hw1 => anE hw1 (fun hb1_38 hw2 => anE hw2 (fun er_40 eu_39 => ?_)))
              clear hw hw1 hw2
              subst er_40
              refine o_mgqE (ux := [ro_ mm 12 (mo g (nI ta) (nI pa) (nI pe) pd (nI pb) pp pf pg pn rt rn (nI cd) sn (nI il) tk2_2 am2_4 at_2_5 aa2_6 0 0 (-1) wt wy2_7 0 (nI rm) (nI ud) (nI nu) sd (nI qn) (nI qw) qo (nI qb) (nI qp2_3) qa (nI qi) (nI oc)), ra_I (g 31) cI 120 nw, ra_I (g 20) cI 4 (l4 (nI l0) (nI l1) (nI dm) (nI l3)), ra_I (g 50) cZ 512 ag2_15, ra_J (g 49) cJ 4608 wg2_16]) (ws' := [ro_ mm 12 (mo g (nI ta) (nI pa) (nI pe) pd (nI pb) pp pf pg pn rt rn (nI cd) sn (nI il) tk2_2 am2_4 at_2_5 aa2_6 0 0 (-1) wt wy2_7 0 (nI rm) (nI ud) (nI nu) sd (nI qn) (nI qw) qo (nI qb) (nI qp2_3) qa (nI qi) (nI oc)), ra_I (g 24) cI 6 (l6 u0 u1 u2 u3 u4 u5), ra_I (g 25) cI 6 (l6 v0 v1 v2 v3 v4 v5), ra_N (g 26) cI 3200 cs, ra_I (g 31) cI 120 nw, ra_N (g 46) cI 9 pt2_8, ra_J (g 86) cJ 1700 ql2_9, ra_I (g 20) cI 4 (l4 (nI l0) (nI l1) (nI dm) (nI l3)), ra_I (g 38) cI 90 ws_2_10, ra_I (g 36) cZ 900 yw2_11, ra_I (g 37) cZ 900 yo2_12, ra_J (g 43) cJ 90 be2_13, ra_J (g 44) cJ 90 bf2_14, ra_I (g 50) cZ 512 ag2_15, ra_J (g 49) cJ 4608 wg2_16]) eu_39 [0, 2, 1, 3, 4] (by decide +kernel) rfl hP hD rfl (fun hP hD => ?_)
              refine lv_if_eq (tgt := 53) hx hb dX12_rest_48 (by decide) (fun c_41 => ?_) (fun c_41 => ?_)
              · have c_41 : b_36 = 0 := (neq b_36 0 (by omega) (Nat.le_of_ble_eq_true rfl)).mp c_41
                refine lv_iinc (v := nI (i + 1)) (lv' := [(2, .int (nI (i + 1))), (1, .int be_), (0, .ref mm)]) hx hb dX12_rest_53 hl (k := 0) rfl (ninc i 1 (by decide)) (by decide) rfl (fun ls hl => ?_)
                refine lv_goto (tgt := 17) hx hb dX12_rest_56 (by decide) ?_
                exact ih_lp_19 (i + 1) be_ _ _ _ (by omega) (by omega) hP hD hS (lv_sub hl [0, 1, 2] rfl)
              · have c_41 : ¬ (b_36 = 0) := fun h => c_41 ((neq b_36 0 (by omega) (Nat.le_of_ble_eq_true rfl)).mpr h)
                refine lv_iload_n hx hb dX12_rest_51 rfl (lv_at hl 0 rfl) ?_
                refine lv_istore_n (lv' := [(1, .int (nI i)), (2, .int (nI i)), (0, .ref mm)]) hx hb dX12_rest_52 rfl hl (by decide) rfl (fun ls hl => ?_)
                refine lv_iinc (v := nI (i + 1)) (lv' := [(2, .int (nI (i + 1))), (1, .int (nI i)), (0, .ref mm)]) hx hb dX12_rest_53 hl (k := 1) rfl (ninc i 1 (by decide)) (by decide) rfl (fun ls hl => ?_)
                refine lv_goto (tgt := 17) hx hb dX12_rest_56 (by decide) ?_
                exact ih_lp_19 (i + 1) (nI i) _ _ _ (by omega) (by omega) hP hD hS (lv_sub hl [0, 1, 2] rfl)
    exact lp_19 (512 - 0 + 1) 0 (-1) _ _ _ (Nat.lt_succ_self _) (by omega) hP hD hS (lv_sub hl [0, 1, 2] rfl)
  · have c_1 : il = 0 := (neq il 0 (by omega) (Nat.le_of_ble_eq_true rfl)).mp c_1
    refine lv_iconst (v := (-1)) hx hb dX12_rest_7 (by decide) ?_
    exact sk_iret hx hb hr rfl hlocks hK hP hD hS (⟨tk, qp, am, at_, aa, wy, pt, ql, ws_, yw, yo, be, bf, ag, wg, hpt, rfl⟩) (Nat.le_of_ble_eq_true rfl) (Nat.le_of_ble_eq_true rfl) dX12_rest_8
theorem dg_X12_unlike_0_0 : bqL cX12_unlike 0 [(0, [42]), (1, [180, 1, 46]), (4, [153, 0, 11]), (15, [2]), (16, [172]), (7, [27]), (8, [155, 0, 7]), (11, [28]), (12, [156, 0, 5]), (17, [42]), (18, [182, 1, 144]), (21, [27]), (22, [133]), (23, [42]), (24, [180, 1, 126]), (27, [148]), (28, [156, 0, 13]), (41, [2]), (42, [172]), (31, [28]), (32, [133]), (33, [42]), (34, [180, 1, 126]), (37, [148]), (38, [155, 0, 5]), (43, [42]), (44, [27]), (45, [133]), (46, [182, 1, 138]), (49, [3]), (50, [62]), (51, [29]), (52, [42]), (53, [182, 1, 59]), (56, [162, 0, 21]), (77, [42]), (78, [28]), (79, [133]), (80, [182, 1, 138]), (83, [3])] = true := by decide +kernel
theorem dX12_unlike_0 : decode cX12_unlike 0 = .ok (.aload_n 0, 1) := q_aload_n0 (bat_get dg_X12_unlike_0_0 0 rfl rfl)
theorem dX12_unlike_1 : decode cX12_unlike 1 = .ok (.getfield 302, 3) := q_getfield (bat_get dg_X12_unlike_0_0 1 rfl rfl) rfl
theorem dX12_unlike_4 : decode cX12_unlike 4 = .ok (.ifCond .eq 11, 3) := q_ifCond_eq (bat_get dg_X12_unlike_0_0 2 rfl rfl) rfl
theorem dX12_unlike_15 : decode cX12_unlike 15 = .ok (.iconst (-1), 1) := q_iconstm1 (bat_get dg_X12_unlike_0_0 3 rfl rfl)
theorem dX12_unlike_16 : decode cX12_unlike 16 = .ok (.ireturn, 1) := q_ireturn (bat_get dg_X12_unlike_0_0 4 rfl rfl)
theorem dX12_unlike_7 : decode cX12_unlike 7 = .ok (.iload_n 1, 1) := q_iload_n1 (bat_get dg_X12_unlike_0_0 5 rfl rfl)
theorem dX12_unlike_8 : decode cX12_unlike 8 = .ok (.ifCond .lt 7, 3) := q_ifCond_lt (bat_get dg_X12_unlike_0_0 6 rfl rfl) rfl
theorem dX12_unlike_11 : decode cX12_unlike 11 = .ok (.iload_n 2, 1) := q_iload_n2 (bat_get dg_X12_unlike_0_0 7 rfl rfl)
theorem dX12_unlike_12 : decode cX12_unlike 12 = .ok (.ifCond .ge 5, 3) := q_ifCond_ge (bat_get dg_X12_unlike_0_0 8 rfl rfl) rfl
theorem dX12_unlike_17 : decode cX12_unlike 17 = .ok (.aload_n 0, 1) := q_aload_n0 (bat_get dg_X12_unlike_0_0 9 rfl rfl)
theorem dX12_unlike_18 : decode cX12_unlike 18 = .ok (.invokevirtual 400, 3) := q_invokevirtual (bat_get dg_X12_unlike_0_0 10 rfl rfl) rfl
theorem dX12_unlike_21 : decode cX12_unlike 21 = .ok (.iload_n 1, 1) := q_iload_n1 (bat_get dg_X12_unlike_0_0 11 rfl rfl)
theorem dX12_unlike_22 : decode cX12_unlike 22 = .ok (.i2l, 1) := q_i2l (bat_get dg_X12_unlike_0_0 12 rfl rfl)
theorem dX12_unlike_23 : decode cX12_unlike 23 = .ok (.aload_n 0, 1) := q_aload_n0 (bat_get dg_X12_unlike_0_0 13 rfl rfl)
theorem dX12_unlike_24 : decode cX12_unlike 24 = .ok (.getfield 382, 3) := q_getfield (bat_get dg_X12_unlike_0_0 14 rfl rfl) rfl
theorem dX12_unlike_27 : decode cX12_unlike 27 = .ok (.lcmp, 1) := q_lcmp (bat_get dg_X12_unlike_0_0 15 rfl rfl)
theorem dX12_unlike_28 : decode cX12_unlike 28 = .ok (.ifCond .ge 13, 3) := q_ifCond_ge (bat_get dg_X12_unlike_0_0 16 rfl rfl) rfl
theorem dX12_unlike_41 : decode cX12_unlike 41 = .ok (.iconst (-1), 1) := q_iconstm1 (bat_get dg_X12_unlike_0_0 17 rfl rfl)
theorem dX12_unlike_42 : decode cX12_unlike 42 = .ok (.ireturn, 1) := q_ireturn (bat_get dg_X12_unlike_0_0 18 rfl rfl)
theorem dX12_unlike_31 : decode cX12_unlike 31 = .ok (.iload_n 2, 1) := q_iload_n2 (bat_get dg_X12_unlike_0_0 19 rfl rfl)
theorem dX12_unlike_32 : decode cX12_unlike 32 = .ok (.i2l, 1) := q_i2l (bat_get dg_X12_unlike_0_0 20 rfl rfl)
theorem dX12_unlike_33 : decode cX12_unlike 33 = .ok (.aload_n 0, 1) := q_aload_n0 (bat_get dg_X12_unlike_0_0 21 rfl rfl)
theorem dX12_unlike_34 : decode cX12_unlike 34 = .ok (.getfield 382, 3) := q_getfield (bat_get dg_X12_unlike_0_0 22 rfl rfl) rfl
theorem dX12_unlike_37 : decode cX12_unlike 37 = .ok (.lcmp, 1) := q_lcmp (bat_get dg_X12_unlike_0_0 23 rfl rfl)
theorem dX12_unlike_38 : decode cX12_unlike 38 = .ok (.ifCond .lt 5, 3) := q_ifCond_lt (bat_get dg_X12_unlike_0_0 24 rfl rfl) rfl
theorem dX12_unlike_43 : decode cX12_unlike 43 = .ok (.aload_n 0, 1) := q_aload_n0 (bat_get dg_X12_unlike_0_0 25 rfl rfl)
theorem dX12_unlike_44 : decode cX12_unlike 44 = .ok (.iload_n 1, 1) := q_iload_n1 (bat_get dg_X12_unlike_0_0 26 rfl rfl)
theorem dX12_unlike_45 : decode cX12_unlike 45 = .ok (.i2l, 1) := q_i2l (bat_get dg_X12_unlike_0_0 27 rfl rfl)
theorem dX12_unlike_46 : decode cX12_unlike 46 = .ok (.invokevirtual 394, 3) := q_invokevirtual (bat_get dg_X12_unlike_0_0 28 rfl rfl) rfl
theorem dX12_unlike_49 : decode cX12_unlike 49 = .ok (.iconst 0, 1) := q_iconst0 (bat_get dg_X12_unlike_0_0 29 rfl rfl)
theorem dX12_unlike_50 : decode cX12_unlike 50 = .ok (.istore_n 3, 1) := q_istore_n3 (bat_get dg_X12_unlike_0_0 30 rfl rfl)
theorem dX12_unlike_51 : decode cX12_unlike 51 = .ok (.iload_n 3, 1) := q_iload_n3 (bat_get dg_X12_unlike_0_0 31 rfl rfl)
theorem dX12_unlike_52 : decode cX12_unlike 52 = .ok (.aload_n 0, 1) := q_aload_n0 (bat_get dg_X12_unlike_0_0 32 rfl rfl)
theorem dX12_unlike_53 : decode cX12_unlike 53 = .ok (.invokevirtual 315, 3) := q_invokevirtual (bat_get dg_X12_unlike_0_0 33 rfl rfl) rfl
theorem dX12_unlike_56 : decode cX12_unlike 56 = .ok (.if_icmp .ge 21, 3) := q_if_icmp_ge (bat_get dg_X12_unlike_0_0 34 rfl rfl) rfl
theorem dX12_unlike_77 : decode cX12_unlike 77 = .ok (.aload_n 0, 1) := q_aload_n0 (bat_get dg_X12_unlike_0_0 35 rfl rfl)
theorem dX12_unlike_78 : decode cX12_unlike 78 = .ok (.iload_n 2, 1) := q_iload_n2 (bat_get dg_X12_unlike_0_0 36 rfl rfl)
theorem dX12_unlike_79 : decode cX12_unlike 79 = .ok (.i2l, 1) := q_i2l (bat_get dg_X12_unlike_0_0 37 rfl rfl)
theorem dX12_unlike_80 : decode cX12_unlike 80 = .ok (.invokevirtual 394, 3) := q_invokevirtual (bat_get dg_X12_unlike_0_0 38 rfl rfl) rfl
theorem dX12_unlike_83 : decode cX12_unlike 83 = .ok (.iconst 0, 1) := q_iconst0 (bat_get dg_X12_unlike_0_0 39 rfl rfl)
theorem dg_X12_unlike_59_84 : bqL cX12_unlike 59 [(25, [62]), (26, [3]), (27, [54, 4]), (29, [21, 4]), (31, [42]), (32, [182, 1, 59]), (35, [162, 0, 29]), (64, [29]), (65, [172]), (38, [42]), (39, [180, 0, 101]), (42, [21, 4]), (44, [46]), (45, [42]), (46, [180, 0, 89]), (49, [21, 4]), (51, [46]), (52, [159, 0, 6]), (58, [132, 4, 1]), (61, [167, 255, 224]), (55, [132, 3, 1]), (0, [42]), (1, [180, 0, 101]), (4, [29]), (5, [42]), (6, [180, 0, 89]), (9, [29]), (10, [46]), (11, [79]), (12, [132, 3, 1]), (15, [167, 255, 233])] = true := by decide +kernel
theorem dX12_unlike_84 : decode cX12_unlike 84 = .ok (.istore_n 3, 1) := q_istore_n3 (bat_get dg_X12_unlike_59_84 0 rfl rfl)
theorem dX12_unlike_85 : decode cX12_unlike 85 = .ok (.iconst 0, 1) := q_iconst0 (bat_get dg_X12_unlike_59_84 1 rfl rfl)
theorem dX12_unlike_86 : decode cX12_unlike 86 = .ok (.istore 4, 2) := q_istore (bat_get dg_X12_unlike_59_84 2 rfl rfl)
theorem dX12_unlike_88 : decode cX12_unlike 88 = .ok (.iload 4, 2) := q_iload (bat_get dg_X12_unlike_59_84 3 rfl rfl)
theorem dX12_unlike_90 : decode cX12_unlike 90 = .ok (.aload_n 0, 1) := q_aload_n0 (bat_get dg_X12_unlike_59_84 4 rfl rfl)
theorem dX12_unlike_91 : decode cX12_unlike 91 = .ok (.invokevirtual 315, 3) := q_invokevirtual (bat_get dg_X12_unlike_59_84 5 rfl rfl) rfl
theorem dX12_unlike_94 : decode cX12_unlike 94 = .ok (.if_icmp .ge 29, 3) := q_if_icmp_ge (bat_get dg_X12_unlike_59_84 6 rfl rfl) rfl
theorem dX12_unlike_123 : decode cX12_unlike 123 = .ok (.iload_n 3, 1) := q_iload_n3 (bat_get dg_X12_unlike_59_84 7 rfl rfl)
theorem dX12_unlike_124 : decode cX12_unlike 124 = .ok (.ireturn, 1) := q_ireturn (bat_get dg_X12_unlike_59_84 8 rfl rfl)
theorem dX12_unlike_97 : decode cX12_unlike 97 = .ok (.aload_n 0, 1) := q_aload_n0 (bat_get dg_X12_unlike_59_84 9 rfl rfl)
theorem dX12_unlike_98 : decode cX12_unlike 98 = .ok (.getfield 101, 3) := q_getfield (bat_get dg_X12_unlike_59_84 10 rfl rfl) rfl
theorem dX12_unlike_101 : decode cX12_unlike 101 = .ok (.iload 4, 2) := q_iload (bat_get dg_X12_unlike_59_84 11 rfl rfl)
theorem dX12_unlike_103 : decode cX12_unlike 103 = .ok (.iaload, 1) := q_iaload (bat_get dg_X12_unlike_59_84 12 rfl rfl)
theorem dX12_unlike_104 : decode cX12_unlike 104 = .ok (.aload_n 0, 1) := q_aload_n0 (bat_get dg_X12_unlike_59_84 13 rfl rfl)
theorem dX12_unlike_105 : decode cX12_unlike 105 = .ok (.getfield 89, 3) := q_getfield (bat_get dg_X12_unlike_59_84 14 rfl rfl) rfl
theorem dX12_unlike_108 : decode cX12_unlike 108 = .ok (.iload 4, 2) := q_iload (bat_get dg_X12_unlike_59_84 15 rfl rfl)
theorem dX12_unlike_110 : decode cX12_unlike 110 = .ok (.iaload, 1) := q_iaload (bat_get dg_X12_unlike_59_84 16 rfl rfl)
theorem dX12_unlike_111 : decode cX12_unlike 111 = .ok (.if_icmp .eq 6, 3) := q_if_icmp_eq (bat_get dg_X12_unlike_59_84 17 rfl rfl) rfl
theorem dX12_unlike_117 : decode cX12_unlike 117 = .ok (.iinc 4 1, 3) := q_iinc (bat_get dg_X12_unlike_59_84 18 rfl rfl) rfl
theorem dX12_unlike_120 : decode cX12_unlike 120 = .ok (.goto (-32), 3) := q_goto (bat_get dg_X12_unlike_59_84 19 rfl rfl) rfl
theorem dX12_unlike_114 : decode cX12_unlike 114 = .ok (.iinc 3 1, 3) := q_iinc (bat_get dg_X12_unlike_59_84 20 rfl rfl) rfl
theorem dX12_unlike_59 : decode cX12_unlike 59 = .ok (.aload_n 0, 1) := q_aload_n0 (bat_get dg_X12_unlike_59_84 21 rfl rfl)
theorem dX12_unlike_60 : decode cX12_unlike 60 = .ok (.getfield 101, 3) := q_getfield (bat_get dg_X12_unlike_59_84 22 rfl rfl) rfl
theorem dX12_unlike_63 : decode cX12_unlike 63 = .ok (.iload_n 3, 1) := q_iload_n3 (bat_get dg_X12_unlike_59_84 23 rfl rfl)
theorem dX12_unlike_64 : decode cX12_unlike 64 = .ok (.aload_n 0, 1) := q_aload_n0 (bat_get dg_X12_unlike_59_84 24 rfl rfl)
theorem dX12_unlike_65 : decode cX12_unlike 65 = .ok (.getfield 89, 3) := q_getfield (bat_get dg_X12_unlike_59_84 25 rfl rfl) rfl
theorem dX12_unlike_68 : decode cX12_unlike 68 = .ok (.iload_n 3, 1) := q_iload_n3 (bat_get dg_X12_unlike_59_84 26 rfl rfl)
theorem dX12_unlike_69 : decode cX12_unlike 69 = .ok (.iaload, 1) := q_iaload (bat_get dg_X12_unlike_59_84 27 rfl rfl)
theorem dX12_unlike_70 : decode cX12_unlike 70 = .ok (.iastore, 1) := q_iastore (bat_get dg_X12_unlike_59_84 28 rfl rfl)
theorem dX12_unlike_71 : decode cX12_unlike 71 = .ok (.iinc 3 1, 3) := q_iinc (bat_get dg_X12_unlike_59_84 29 rfl rfl) rfl
theorem dX12_unlike_74 : decode cX12_unlike 74 = .ok (.goto (-23), 3) := q_goto (bat_get dg_X12_unlike_59_84 30 rfl rfl) rfl
theorem w_5_206 : (Cond.fieldLink RX12 101 "SameKeeperModel" "other0" "[I") ∈ wsL_law := sk_mem (ck_5 _ (List.mem_of_getElem? (i := 206) rfl)) rfl
theorem w_8_72 : (Cond.code yX12_unlike cX12_unlike 5 (some .int)) ∈ wsL_law := sk_mem (ck_8 _ (List.mem_of_getElem? (i := 72) rfl)) rfl
def om_14_235c : List Bool := true :: false :: false :: false :: true :: true :: false :: true :: false :: true :: true :: true :: false :: false :: []
set_option maxHeartbeats 4000000 in
set_option maxRecDepth 100000 in
theorem c_m_unlike (l : Launch) (D : va_G) (cI cJ cC cZ cS : ClassId) (mm : Nat) (g : Nat → Nat) (ta : Nat) (pa : Nat) (pe : Nat) (pd : Int32) (pb : Nat) (pp : Int32) (pf : Int32) (pg : Int32) (pn : Int32) (rt : Int32) (rn : Int32) (cd : Nat) (sn : Int32) (il : Nat) (tk : Int32) (am : Int32) (at_ : Int32) (aa : Int32) (wt : Int32) (wy : Int64) (rm : Nat) (ud : Nat) (nu : Nat) (sd : Int64) (qn : Nat) (qw : Nat) (qo : Int32) (qb : Nat) (qp : Nat) (qa : Int64) (qi : Nat) (oc : Nat) (o : Int32) (w : Int32) (u0 : Int32) (u1 : Int32) (u2 : Int32) (u3 : Int32) (u4 : Int32) (u5 : Int32) (v0 : Int32) (v1 : Int32) (v2 : Int32) (v3 : Int32) (v4 : Int32) (v5 : Int32) (cs : Nat → Nat) (nw : Nat → Int32) (pt : Nat → Nat) (ql : Nat → Int64) (l0 : Nat) (l1 : Nat) (dm : Nat) (l3 : Nat) (ws_ : Nat → Int32) (yw : Nat → Int32) (yo : Nat → Int32) (be : Nat → Int64) (bf : Nat → Int64) (ot : Nat → Int32) (hil : il ≤ 1) (hild : il = 1 → 1 ≤ dm) (hdm : dm ≤ 9) (hp0 : progOk cs u3 v3) (hp1 : progOk cs u4 v4) (hp2 : progOk cs u5 v5) (hcs : ∀ j, cs j ≤ 20000) (hnw : nowOk nw) (hpt : ∀ j, pt j ≤ 9) : skM l yX12_unlike cX12_unlike 5 (some .int) 6 142 0 0 D (skT cI cJ cC cZ cS) [.ref mm, .int o, .int w] [ro_ mm 12 (mo g (nI ta) (nI pa) (nI pe) pd (nI pb) pp pf pg pn rt rn (nI cd) sn (nI il) tk am at_ aa 0 0 (-1) wt wy 0 (nI rm) (nI ud) (nI nu) sd (nI qn) (nI qw) qo (nI qb) (nI qp) qa (nI qi) (nI oc)), ra_I (g 24) cI 6 (l6 u0 u1 u2 u3 u4 u5), ra_I (g 25) cI 6 (l6 v0 v1 v2 v3 v4 v5), ra_N (g 26) cI 3200 cs, ra_I (g 31) cI 120 nw, ra_N (g 46) cI 9 pt, ra_J (g 86) cJ 1700 ql, ra_I (g 20) cI 4 (l4 (nI l0) (nI l1) (nI dm) (nI l3)), ra_I (g 38) cI 90 ws_, ra_I (g 36) cZ 900 yw, ra_I (g 37) cZ 900 yo, ra_J (g 43) cJ 90 be, ra_J (g 44) cJ 90 bf, ra_I (g 51) cI 9 ot] (skI D (skT cI cJ cC cZ cS) (fun (r : Int32) (u : va_W) => ∃ (tk2 : Int32), ∃ (qp2 : Nat), ∃ (am2 : Int32), ∃ (at_2 : Int32), ∃ (aa2 : Int32), ∃ (wy2 : Int64), ∃ (pt2 : Nat → Nat), ∃ (ql2 : Nat → Int64), ∃ (ws_2 : Nat → Int32), ∃ (yw2 : Nat → Int32), ∃ (yo2 : Nat → Int32), ∃ (be2 : Nat → Int64), ∃ (bf2 : Nat → Int64), ∃ (ot2 : Nat → Int32), (∀ j, pt2 j ≤ 9) ∧ u = [ro_ mm 12 (mo g (nI ta) (nI pa) (nI pe) pd (nI pb) pp pf pg pn rt rn (nI cd) sn (nI il) tk2 am2 at_2 aa2 0 0 (-1) wt wy2 0 (nI rm) (nI ud) (nI nu) sd (nI qn) (nI qw) qo (nI qb) (nI qp2) qa (nI qi) (nI oc)), ra_I (g 24) cI 6 (l6 u0 u1 u2 u3 u4 u5), ra_I (g 25) cI 6 (l6 v0 v1 v2 v3 v4 v5), ra_N (g 26) cI 3200 cs, ra_I (g 31) cI 120 nw, ra_N (g 46) cI 9 pt2, ra_J (g 86) cJ 1700 ql2, ra_I (g 20) cI 4 (l4 (nI l0) (nI l1) (nI dm) (nI l3)), ra_I (g 38) cI 90 ws_2, ra_I (g 36) cZ 900 yw2, ra_I (g 37) cZ 900 yo2, ra_J (g 43) cJ 90 be2, ra_J (g 44) cJ 90 bf2, ra_I (g 51) cI 9 ot2])) := by
  refine skM_of pf_X12_unlike (Nat.le_of_ble_eq_true rfl) ?_
  intro p e s m below meth c A ls E hP hD hl
  refine skE_el E (fun hx hb hr hml hlocks hin hown hts hK hA => ?_)
  have hown : s.vm.findClass RX12 = some m.cls := hown
  have hS : va_S A s.heap s.heap [] := va_S.rf
  have hl : lv_has ls 5 [(0, .ref mm), (1, .int o), (2, .int w)] := hl
  refine lv_aload_n hx hb dX12_unlike_0 rfl (lv_at hl 0 rfl) ?_
  refine sk_get (v := .int (nI il)) (C := RX12) (T := TX12) (N := 92) hx hb hts inlX12 hown hK hP 0 rfl rfl 29 (Nat.le_of_ble_eq_true rfl) w_5_184 rfl dX12_unlike_1 ?_
  refine lv_if_eq (tgt := 15) hx hb dX12_unlike_4 (by decide) (fun c_1 => ?_) (fun c_1 => ?_)
  · have c_1 : il = 0 := (neq il 0 (by omega) (Nat.le_of_ble_eq_true rfl)).mp c_1
    refine lv_iconst (v := (-1)) hx hb dX12_unlike_15 (by decide) ?_
    exact sk_iret hx hb hr rfl hlocks hK hP hD hS (⟨tk, qp, am, at_, aa, wy, pt, ql, ws_, yw, yo, be, bf, ot, hpt, rfl⟩) (Nat.le_of_ble_eq_true rfl) (Nat.le_of_ble_eq_true rfl) dX12_unlike_16
  · have c_1 : ¬ (il = 0) := fun h => c_1 ((neq il 0 (by omega) (Nat.le_of_ble_eq_true rfl)).mpr h)
    refine lv_iload_n hx hb dX12_unlike_7 rfl (lv_at hl 1 rfl) ?_
    refine lv_if_lt (tgt := 15) hx hb dX12_unlike_8 (by decide) (fun c_2 => ?_) (fun c_2 => ?_)
    · skip
      refine lv_iconst (v := (-1)) hx hb dX12_unlike_15 (by decide) ?_
      exact sk_iret hx hb hr rfl hlocks hK hP hD hS (⟨tk, qp, am, at_, aa, wy, pt, ql, ws_, yw, yo, be, bf, ot, hpt, rfl⟩) (Nat.le_of_ble_eq_true rfl) (Nat.le_of_ble_eq_true rfl) dX12_unlike_16
    · obtain ⟨k_3, hk_3, rfl⟩ := nof o c_2
      refine lv_iload_n hx hb dX12_unlike_11 rfl (lv_at hl 2 rfl) ?_
      refine lv_if_ge (tgt := 17) hx hb dX12_unlike_12 (by decide) (fun c_4 => ?_) (fun c_4 => ?_)
      · obtain ⟨k_5, hk_5, rfl⟩ := nof' w c_4
        refine lv_aload_n hx hb dX12_unlike_17 rfl (lv_at hl 0 rfl) ?_
        refine sk_Vv (q0 := 0) (n := 0) (rest := []) (wr := fmR om_14_3ffe _) ⟨hx, hb, hml, hown, hts⟩ hl.1 (c_m_laysAll l D cI cJ cC cZ cS mm g ta pa pe pd pb pp pf pg pn rt rn cd sn il tk am at_ aa 0 wt wy 0 rm ud nu sd qn qw qo qb qp qa qi oc u0 u1 u2 u3 u4 u5 v0 v1 v2 v3 v4 v5 cs nw pt ql l0 l1 dm l3 ws_ yw yo be bf hdm (by omega) hp0 hp1 hp2 hcs hnw hpt) w_7_189 w_7_191 w_0_82 w_1_14 w_7_192 hd_X12_laysAll_0 ⟨⟨(Nat.le_of_ble_eq_true rfl), (Nat.le_of_ble_eq_true rfl)⟩, (Nat.le_of_ble_eq_true rfl), (Nat.le_of_ble_eq_true rfl)⟩ hK hP hD hS hA (fmT om_14_3ffe 0) (fmF om_14_3ffe 0) (fm_C1 rfl rfl) (fm_R rfl rfl) (fm_nT om_14_3ffe 0) (fm_nF om_14_3ffe 0) (fm_di om_14_3ffe 0) rfl rfl rfl rfl (Nat.le_of_ble_eq_true rfl) dX12_unlike_18 (fun u H locs hw hP hD hS => ?_)
        refine exE hw (fun tk2_6 hw1 => exE hw1 (fun qp2_7 hw2 => exE hw2 (fun am2_8 hw3 => exE hw3 (fun at_2_9 hw4 => exE hw4 (fun aa2_10 hw5 => exE hw5 (fun wy2_11 hw6 => exE hw6 (fun ql2_12 hw7 => exE hw7 (fun ws_2_13 hw8 => exE hw8 (fun yw2_14 hw9 => exE hw9 (fun yo2_15 hw10 => exE hw10 (fun be2_16 hw11 => exE hw11 (fun bf2_17 hw12 => anE hw12 (fun hbe_18 hw13 => anE hw13 (fun hwy_19 eu_20 => ?_))))))))))))))
        clear hw hw1 hw2 hw3 hw4 hw5 hw6 hw7 hw8 hw9 hw10 hw11 hw12 hw13
        refine o_mgE (ws' := [ro_ mm 12 (mo g (nI ta) (nI pa) (nI pe) pd (nI pb) pp pf pg pn rt rn (nI cd) sn (nI il) tk2_6 am2_8 at_2_9 aa2_10 0 0 (-1) wt wy2_11 0 (nI rm) (nI ud) (nI nu) sd (nI qn) (nI qw) qo (nI qb) (nI qp2_7) qa (nI qi) (nI oc)), ra_I (g 24) cI 6 (l6 u0 u1 u2 u3 u4 u5), ra_I (g 25) cI 6 (l6 v0 v1 v2 v3 v4 v5), ra_N (g 26) cI 3200 cs, ra_I (g 31) cI 120 nw, ra_N (g 46) cI 9 pt, ra_J (g 86) cJ 1700 ql2_12, ra_I (g 20) cI 4 (l4 (nI l0) (nI l1) (nI dm) (nI l3)), ra_I (g 38) cI 90 ws_2_13, ra_I (g 36) cZ 900 yw2_14, ra_I (g 37) cZ 900 yo2_15, ra_J (g 43) cJ 90 be2_16, ra_J (g 44) cJ 90 bf2_17, ra_I (g 51) cI 9 ot]) eu_20 hP hD rfl (fun hP hD => ?_)
        refine lv_iload_n hx hb dX12_unlike_21 rfl (lv_at hl 1 rfl) ?_
        refine lv_i2l hx hb dX12_unlike_22 rfl ?_
        refine lv_aload_n hx hb dX12_unlike_23 rfl (lv_at hl 0 rfl) ?_
        refine sk_get (v := .long wy2_11) (C := RX12) (T := TX12) (N := 92) hx hb hts inlX12 hown hK hP 0 rfl rfl 45 (Nat.le_of_ble_eq_true rfl) w_5_200 rfl dX12_unlike_24 ?_
        refine W.lcmp hx hb dX12_unlike_27 ?_
        refine lv_if_ge (tgt := 41) hx hb dX12_unlike_28 (by decide) (fun c_21 => ?_) (fun c_21 => ?_)
        · skip
          refine lv_iconst (v := (-1)) hx hb dX12_unlike_41 (by decide) ?_
          exact sk_iret hx hb hr rfl hlocks hK hP hD hS (⟨tk2_6, qp2_7, am2_8, at_2_9, aa2_10, wy2_11, pt, ql2_12, ws_2_13, yw2_14, yo2_15, be2_16, bf2_17, ot, hpt, rfl⟩) (Nat.le_of_ble_eq_true rfl) (Nat.le_of_ble_eq_true rfl) dX12_unlike_42
        · skip
          refine lv_iload_n hx hb dX12_unlike_31 rfl (lv_at hl 2 rfl) ?_
          refine lv_i2l hx hb dX12_unlike_32 rfl ?_
          refine lv_aload_n hx hb dX12_unlike_33 rfl (lv_at hl 0 rfl) ?_
          refine sk_get (v := .long wy2_11) (C := RX12) (T := TX12) (N := 92) hx hb hts inlX12 hown hK hP 0 rfl rfl 45 (Nat.le_of_ble_eq_true rfl) w_5_200 rfl dX12_unlike_34 ?_
          refine W.lcmp hx hb dX12_unlike_37 ?_
          refine lv_if_lt (tgt := 43) hx hb dX12_unlike_38 (by decide) (fun c_22 => ?_) (fun c_22 => ?_)
          · skip
            refine lv_aload_n hx hb dX12_unlike_43 rfl (lv_at hl 0 rfl) ?_
            refine lv_iload_n hx hb dX12_unlike_44 rfl (lv_at hl 1 rfl) ?_
            refine lv_i2l hx hb dX12_unlike_45 rfl ?_
            refine sk_Vv (q0 := 0) (n := 1) (rest := []) (wr := fmR om_14_235c _) ⟨hx, hb, hml, hown, hts⟩ hl.1 (c_m_walksTo l D cI cJ cC cZ cS mm g ta pa pe pd pb pp pf pg pn rt rn cd sn il tk2_6 am2_8 at_2_9 aa2_10 0 wt wy2_11 0 rm ud nu sd qn qw qo qb qp2_7 qa qi oc (Int32.toInt64 (nI k_3)) l0 l1 dm l3 nw yo2_15 yw2_14 be2_16 pt hdm (by omega) hbe_18 (wk_st (by omega) (ways_lt' hwy_19 (wys_le _ _ _ (by omega)) (by omega) c_21)) hnw hpt) w_7_217 w_7_219 w_0_88 w_1_14 w_7_220 hd_X12_walksTo_1 ⟨⟨(Nat.le_of_ble_eq_true rfl), (Nat.le_of_ble_eq_true rfl)⟩, (Nat.le_of_ble_eq_true rfl), (Nat.le_of_ble_eq_true rfl)⟩ hK hP hD hS hA [0, 7, 4, 10, 9, 11, 5] (fmF om_14_235c 0) rfl (fm_R rfl rfl) (by decide +kernel) (fm_nF om_14_235c 0) (by decide +kernel) rfl rfl rfl rfl (Nat.le_of_ble_eq_true rfl) dX12_unlike_46 (fun u H locs hw hP hD hS => ?_)
            refine exE hw (fun pt2_23 hw1 => anE hw1 (fun hpt2_24 eu_25 => ?_))
            clear hw hw1
            refine o_mgqE (ux := [ro_ mm 12 (mo g (nI ta) (nI pa) (nI pe) pd (nI pb) pp pf pg pn rt rn (nI cd) sn (nI il) tk2_6 am2_8 at_2_9 aa2_10 0 0 (-1) wt wy2_11 0 (nI rm) (nI ud) (nI nu) sd (nI qn) (nI qw) qo (nI qb) (nI qp2_7) qa (nI qi) (nI oc)), ra_I (g 31) cI 120 nw, ra_N (g 46) cI 9 pt2_23, ra_I (g 20) cI 4 (l4 (nI l0) (nI l1) (nI dm) (nI l3)), ra_I (g 36) cZ 900 yw2_14, ra_I (g 37) cZ 900 yo2_15, ra_J (g 43) cJ 90 be2_16]) (ws' := [ro_ mm 12 (mo g (nI ta) (nI pa) (nI pe) pd (nI pb) pp pf pg pn rt rn (nI cd) sn (nI il) tk2_6 am2_8 at_2_9 aa2_10 0 0 (-1) wt wy2_11 0 (nI rm) (nI ud) (nI nu) sd (nI qn) (nI qw) qo (nI qb) (nI qp2_7) qa (nI qi) (nI oc)), ra_I (g 24) cI 6 (l6 u0 u1 u2 u3 u4 u5), ra_I (g 25) cI 6 (l6 v0 v1 v2 v3 v4 v5), ra_N (g 26) cI 3200 cs, ra_I (g 31) cI 120 nw, ra_N (g 46) cI 9 pt2_23, ra_J (g 86) cJ 1700 ql2_12, ra_I (g 20) cI 4 (l4 (nI l0) (nI l1) (nI dm) (nI l3)), ra_I (g 38) cI 90 ws_2_13, ra_I (g 36) cZ 900 yw2_14, ra_I (g 37) cZ 900 yo2_15, ra_J (g 43) cJ 90 be2_16, ra_J (g 44) cJ 90 bf2_17, ra_I (g 51) cI 9 ot]) eu_25 [0, 2, 6, 1, 4, 3, 5] (by decide +kernel) rfl hP hD rfl (fun hP hD => ?_)
            refine lv_iconst (v := 0) hx hb dX12_unlike_49 ic_0 ?_
            refine lv_istore_n (lv' := [(3, .int 0), (0, .ref mm), (1, .int (nI k_3)), (2, .int (nI k_5))]) hx hb dX12_unlike_50 rfl hl (by decide) rfl (fun ls hl => ?_)
            have lp_26 : ∀ (n_27 : Nat) (i : Nat) (zo : Nat → Int32) (H : Heap) (locs : List Loc) (ls : Array Slot), dm - i < n_27 → (i ≤ dm) → va_P D vwCl [ro_ mm 12 (mo g (nI ta) (nI pa) (nI pe) pd (nI pb) pp pf pg pn rt rn (nI cd) sn (nI il) tk2_6 am2_8 at_2_9 aa2_10 0 0 (-1) wt wy2_11 0 (nI rm) (nI ud) (nI nu) sd (nI qn) (nI qw) qo (nI qb) (nI qp2_7) qa (nI qi) (nI oc)), ra_I (g 24) cI 6 (l6 u0 u1 u2 u3 u4 u5), ra_I (g 25) cI 6 (l6 v0 v1 v2 v3 v4 v5), ra_N (g 26) cI 3200 cs, ra_I (g 31) cI 120 nw, ra_N (g 46) cI 9 pt2_23, ra_J (g 86) cJ 1700 ql2_12, ra_I (g 20) cI 4 (l4 (nI l0) (nI l1) (nI dm) (nI l3)), ra_I (g 38) cI 90 ws_2_13, ra_I (g 36) cZ 900 yw2_14, ra_I (g 37) cZ 900 yo2_15, ra_J (g 43) cJ 90 be2_16, ra_J (g 44) cJ 90 bf2_17, ra_I (g 51) cI 9 zo] H → va_D A [ro_ mm 12 (mo g (nI ta) (nI pa) (nI pe) pd (nI pb) pp pf pg pn rt rn (nI cd) sn (nI il) tk2_6 am2_8 at_2_9 aa2_10 0 0 (-1) wt wy2_11 0 (nI rm) (nI ud) (nI nu) sd (nI qn) (nI qw) qo (nI qb) (nI qp2_7) qa (nI qi) (nI oc)), ra_I (g 24) cI 6 (l6 u0 u1 u2 u3 u4 u5), ra_I (g 25) cI 6 (l6 v0 v1 v2 v3 v4 v5), ra_N (g 26) cI 3200 cs, ra_I (g 31) cI 120 nw, ra_N (g 46) cI 9 pt2_23, ra_J (g 86) cJ 1700 ql2_12, ra_I (g 20) cI 4 (l4 (nI l0) (nI l1) (nI dm) (nI l3)), ra_I (g 38) cI 90 ws_2_13, ra_I (g 36) cZ 900 yw2_14, ra_I (g 37) cZ 900 yo2_15, ra_J (g 43) cJ 90 be2_16, ra_J (g 44) cJ 90 bf2_17, ra_I (g 51) cI 9 zo] → va_S A s.heap H locs → lv_has ls 5 [(3, .int (nI i)), (0, .ref mm), (1, .int (nI k_3)), (2, .int (nI k_5))] → W p l e { frames := 6, cells := 0, slots := 0, locals := 142 } s m ([.ref mm, .int (nI k_3), .int (nI k_5)] : List Value).toArray below meth c H locs 0 0 (MQ below (skI D (skT cI cJ cC cZ cS) (fun (r : Int32) (u : va_W) => ∃ (tk2 : Int32), ∃ (qp2 : Nat), ∃ (am2 : Int32), ∃ (at_2 : Int32), ∃ (aa2 : Int32), ∃ (wy2 : Int64), ∃ (pt2 : Nat → Nat), ∃ (ql2 : Nat → Int64), ∃ (ws_2 : Nat → Int32), ∃ (yw2 : Nat → Int32), ∃ (yo2 : Nat → Int32), ∃ (be2 : Nat → Int64), ∃ (bf2 : Nat → Int64), ∃ (ot2 : Nat → Int32), (∀ j, pt2 j ≤ 9) ∧ u = [ro_ mm 12 (mo g (nI ta) (nI pa) (nI pe) pd (nI pb) pp pf pg pn rt rn (nI cd) sn (nI il) tk2 am2 at_2 aa2 0 0 (-1) wt wy2 0 (nI rm) (nI ud) (nI nu) sd (nI qn) (nI qw) qo (nI qb) (nI qp2) qa (nI qi) (nI oc)), ra_I (g 24) cI 6 (l6 u0 u1 u2 u3 u4 u5), ra_I (g 25) cI 6 (l6 v0 v1 v2 v3 v4 v5), ra_N (g 26) cI 3200 cs, ra_I (g 31) cI 120 nw, ra_N (g 46) cI 9 pt2, ra_J (g 86) cJ 1700 ql2, ra_I (g 20) cI 4 (l4 (nI l0) (nI l1) (nI dm) (nI l3)), ra_I (g 38) cI 90 ws_2, ra_I (g 36) cZ 900 yw2, ra_I (g 37) cZ 900 yo2, ra_J (g 43) cJ 90 be2, ra_J (g 44) cJ 90 bf2, ra_I (g 51) cI 9 ot2]) A) ([.ref mm, .int (nI k_3), .int (nI k_5)] : List Value).toArray s 0 0 A) (F0 m 51 ls []) := by
              intro n_27
              induction n_27 with
              | zero => intro i zo H locs ls hm; exact absurd hm (Nat.not_lt_zero _)
              | succ n_27 ih_lp_26 =>
                intro i zo H locs ls hm hi hP hD hS hl
                refine lv_iload_n hx hb dX12_unlike_51 rfl (lv_at hl 0 rfl) ?_
                refine lv_aload_n hx hb dX12_unlike_52 rfl (lv_at hl 1 rfl) ?_
                refine sk_Vi (q0 := 0) (n := 0) (rest := [.int (nI i)]) (wr := fmR om_14_2040 _) ⟨hx, hb, hml, hown, hts⟩ hl.1 (c_m_dayMany l D cI cJ cC cZ cS mm g ta pa pe pd pb pp pf pg pn rt rn cd sn il tk2_6 am2_8 at_2_9 aa2_10 0 0 (-1) wt wy2_11 0 rm ud nu sd qn qw qo qb qp2_7 qa qi oc l0 l1 dm l3) w_7_98 w_7_100 w_0_69 w_1_14 w_7_101 hd_X12_dayMany_0 ⟨⟨(Nat.le_of_ble_eq_true rfl), (Nat.le_of_ble_eq_true rfl)⟩, (Nat.le_of_ble_eq_true rfl), (Nat.le_of_ble_eq_true rfl)⟩ hK hP hD hS hA (fmT om_14_2040 0) (fmF om_14_2040 0) (fm_C1 rfl rfl) (fm_R rfl rfl) (fm_nT om_14_2040 0) (fm_nF om_14_2040 0) (fm_di om_14_2040 0) rfl rfl rfl rfl (Nat.le_of_ble_eq_true rfl) dX12_unlike_53 (fun r_28 u H locs hw hP hD hS => ?_)
                refine anE hw (fun er_30 eu_29 => ?_)
                clear hw
                subst er_30
                refine o_mgE (ws' := [ro_ mm 12 (mo g (nI ta) (nI pa) (nI pe) pd (nI pb) pp pf pg pn rt rn (nI cd) sn (nI il) tk2_6 am2_8 at_2_9 aa2_10 0 0 (-1) wt wy2_11 0 (nI rm) (nI ud) (nI nu) sd (nI qn) (nI qw) qo (nI qb) (nI qp2_7) qa (nI qi) (nI oc)), ra_I (g 24) cI 6 (l6 u0 u1 u2 u3 u4 u5), ra_I (g 25) cI 6 (l6 v0 v1 v2 v3 v4 v5), ra_N (g 26) cI 3200 cs, ra_I (g 31) cI 120 nw, ra_N (g 46) cI 9 pt2_23, ra_J (g 86) cJ 1700 ql2_12, ra_I (g 20) cI 4 (l4 (nI l0) (nI l1) (nI dm) (nI l3)), ra_I (g 38) cI 90 ws_2_13, ra_I (g 36) cZ 900 yw2_14, ra_I (g 37) cZ 900 yo2_15, ra_J (g 43) cJ 90 be2_16, ra_J (g 44) cJ 90 bf2_17, ra_I (g 51) cI 9 zo]) eu_29 hP hD rfl (fun hP hD => ?_)
                refine lv_icmp_ge (tgt := 77) hx hb dX12_unlike_56 (by decide) (fun c_31 => ?_) (fun c_31 => ?_)
                · have c_31 : dm ≤ i := (nle dm i (by omega) (by omega)).mp c_31
                  refine lv_aload_n hx hb dX12_unlike_77 rfl (lv_at hl 1 rfl) ?_
                  refine lv_iload_n hx hb dX12_unlike_78 rfl (lv_at hl 3 rfl) ?_
                  refine lv_i2l hx hb dX12_unlike_79 rfl ?_
                  refine sk_Vv (q0 := 0) (n := 1) (rest := []) (wr := fmR om_14_235c _) ⟨hx, hb, hml, hown, hts⟩ hl.1 (c_m_walksTo l D cI cJ cC cZ cS mm g ta pa pe pd pb pp pf pg pn rt rn cd sn il tk2_6 am2_8 at_2_9 aa2_10 0 wt wy2_11 0 rm ud nu sd qn qw qo qb qp2_7 qa qi oc (Int32.toInt64 (nI k_5)) l0 l1 dm l3 nw yo2_15 yw2_14 be2_16 pt2_23 hdm (by omega) hbe_18 (wk_st (by omega) (ways_lt hwy_19 (wys_le _ _ _ (by omega)) (by omega) c_22)) hnw hpt2_24) w_7_217 w_7_219 w_0_88 w_1_14 w_7_220 hd_X12_walksTo_1 ⟨⟨(Nat.le_of_ble_eq_true rfl), (Nat.le_of_ble_eq_true rfl)⟩, (Nat.le_of_ble_eq_true rfl), (Nat.le_of_ble_eq_true rfl)⟩ hK hP hD hS hA [0, 7, 4, 10, 9, 11, 5] (fmF om_14_235c 0) rfl (fm_R rfl rfl) (by decide +kernel) (fm_nF om_14_235c 0) (by decide +kernel) rfl rfl rfl rfl (Nat.le_of_ble_eq_true rfl) dX12_unlike_80 (fun u H locs hw hP hD hS => ?_)
                  refine exE hw (fun pt2_32 hw1 => anE hw1 (fun hpt2_33 eu_34 => ?_))
                  clear hw hw1
                  refine o_mgqE (ux := [ro_ mm 12 (mo g (nI ta) (nI pa) (nI pe) pd (nI pb) pp pf pg pn rt rn (nI cd) sn (nI il) tk2_6 am2_8 at_2_9 aa2_10 0 0 (-1) wt wy2_11 0 (nI rm) (nI ud) (nI nu) sd (nI qn) (nI qw) qo (nI qb) (nI qp2_7) qa (nI qi) (nI oc)), ra_I (g 31) cI 120 nw, ra_N (g 46) cI 9 pt2_32, ra_I (g 20) cI 4 (l4 (nI l0) (nI l1) (nI dm) (nI l3)), ra_I (g 36) cZ 900 yw2_14, ra_I (g 37) cZ 900 yo2_15, ra_J (g 43) cJ 90 be2_16]) (ws' := [ro_ mm 12 (mo g (nI ta) (nI pa) (nI pe) pd (nI pb) pp pf pg pn rt rn (nI cd) sn (nI il) tk2_6 am2_8 at_2_9 aa2_10 0 0 (-1) wt wy2_11 0 (nI rm) (nI ud) (nI nu) sd (nI qn) (nI qw) qo (nI qb) (nI qp2_7) qa (nI qi) (nI oc)), ra_I (g 24) cI 6 (l6 u0 u1 u2 u3 u4 u5), ra_I (g 25) cI 6 (l6 v0 v1 v2 v3 v4 v5), ra_N (g 26) cI 3200 cs, ra_I (g 31) cI 120 nw, ra_N (g 46) cI 9 pt2_32, ra_J (g 86) cJ 1700 ql2_12, ra_I (g 20) cI 4 (l4 (nI l0) (nI l1) (nI dm) (nI l3)), ra_I (g 38) cI 90 ws_2_13, ra_I (g 36) cZ 900 yw2_14, ra_I (g 37) cZ 900 yo2_15, ra_J (g 43) cJ 90 be2_16, ra_J (g 44) cJ 90 bf2_17, ra_I (g 51) cI 9 zo]) eu_34 [0, 2, 6, 1, 4, 3, 5] (by decide +kernel) rfl hP hD rfl (fun hP hD => ?_)
                  refine lv_iconst (v := 0) hx hb dX12_unlike_83 ic_0 ?_
                  refine lv_istore_n (lv' := [(3, .int 0), (0, .ref mm), (1, .int (nI k_3)), (2, .int (nI k_5))]) hx hb dX12_unlike_84 rfl hl (by decide) rfl (fun ls hl => ?_)
                  refine lv_iconst (v := 0) hx hb dX12_unlike_85 ic_0 ?_
                  refine lv_istore (lv' := [(4, .int 0), (3, .int 0), (0, .ref mm), (1, .int (nI k_3)), (2, .int (nI k_5))]) hx hb dX12_unlike_86 hl (by decide) rfl (fun ls hl => ?_)
                  have lp_35 : ∀ (n_36 : Nat) (i : Nat) (un : Int32) (H : Heap) (locs : List Loc) (ls : Array Slot), dm - i < n_36 → (i ≤ dm) → va_P D vwCl [ro_ mm 12 (mo g (nI ta) (nI pa) (nI pe) pd (nI pb) pp pf pg pn rt rn (nI cd) sn (nI il) tk2_6 am2_8 at_2_9 aa2_10 0 0 (-1) wt wy2_11 0 (nI rm) (nI ud) (nI nu) sd (nI qn) (nI qw) qo (nI qb) (nI qp2_7) qa (nI qi) (nI oc)), ra_I (g 24) cI 6 (l6 u0 u1 u2 u3 u4 u5), ra_I (g 25) cI 6 (l6 v0 v1 v2 v3 v4 v5), ra_N (g 26) cI 3200 cs, ra_I (g 31) cI 120 nw, ra_N (g 46) cI 9 pt2_32, ra_J (g 86) cJ 1700 ql2_12, ra_I (g 20) cI 4 (l4 (nI l0) (nI l1) (nI dm) (nI l3)), ra_I (g 38) cI 90 ws_2_13, ra_I (g 36) cZ 900 yw2_14, ra_I (g 37) cZ 900 yo2_15, ra_J (g 43) cJ 90 be2_16, ra_J (g 44) cJ 90 bf2_17, ra_I (g 51) cI 9 zo] H → va_D A [ro_ mm 12 (mo g (nI ta) (nI pa) (nI pe) pd (nI pb) pp pf pg pn rt rn (nI cd) sn (nI il) tk2_6 am2_8 at_2_9 aa2_10 0 0 (-1) wt wy2_11 0 (nI rm) (nI ud) (nI nu) sd (nI qn) (nI qw) qo (nI qb) (nI qp2_7) qa (nI qi) (nI oc)), ra_I (g 24) cI 6 (l6 u0 u1 u2 u3 u4 u5), ra_I (g 25) cI 6 (l6 v0 v1 v2 v3 v4 v5), ra_N (g 26) cI 3200 cs, ra_I (g 31) cI 120 nw, ra_N (g 46) cI 9 pt2_32, ra_J (g 86) cJ 1700 ql2_12, ra_I (g 20) cI 4 (l4 (nI l0) (nI l1) (nI dm) (nI l3)), ra_I (g 38) cI 90 ws_2_13, ra_I (g 36) cZ 900 yw2_14, ra_I (g 37) cZ 900 yo2_15, ra_J (g 43) cJ 90 be2_16, ra_J (g 44) cJ 90 bf2_17, ra_I (g 51) cI 9 zo] → va_S A s.heap H locs → lv_has ls 5 [(4, .int (nI i)), (3, .int un), (0, .ref mm), (1, .int (nI k_3)), (2, .int (nI k_5))] → W p l e { frames := 6, cells := 0, slots := 0, locals := 142 } s m ([.ref mm, .int (nI k_3), .int (nI k_5)] : List Value).toArray below meth c H locs 0 0 (MQ below (skI D (skT cI cJ cC cZ cS) (fun (r : Int32) (u : va_W) => ∃ (tk2 : Int32), ∃ (qp2 : Nat), ∃ (am2 : Int32), ∃ (at_2 : Int32), ∃ (aa2 : Int32), ∃ (wy2 : Int64), ∃ (pt2 : Nat → Nat), ∃ (ql2 : Nat → Int64), ∃ (ws_2 : Nat → Int32), ∃ (yw2 : Nat → Int32), ∃ (yo2 : Nat → Int32), ∃ (be2 : Nat → Int64), ∃ (bf2 : Nat → Int64), ∃ (ot2 : Nat → Int32), (∀ j, pt2 j ≤ 9) ∧ u = [ro_ mm 12 (mo g (nI ta) (nI pa) (nI pe) pd (nI pb) pp pf pg pn rt rn (nI cd) sn (nI il) tk2 am2 at_2 aa2 0 0 (-1) wt wy2 0 (nI rm) (nI ud) (nI nu) sd (nI qn) (nI qw) qo (nI qb) (nI qp2) qa (nI qi) (nI oc)), ra_I (g 24) cI 6 (l6 u0 u1 u2 u3 u4 u5), ra_I (g 25) cI 6 (l6 v0 v1 v2 v3 v4 v5), ra_N (g 26) cI 3200 cs, ra_I (g 31) cI 120 nw, ra_N (g 46) cI 9 pt2, ra_J (g 86) cJ 1700 ql2, ra_I (g 20) cI 4 (l4 (nI l0) (nI l1) (nI dm) (nI l3)), ra_I (g 38) cI 90 ws_2, ra_I (g 36) cZ 900 yw2, ra_I (g 37) cZ 900 yo2, ra_J (g 43) cJ 90 be2, ra_J (g 44) cJ 90 bf2, ra_I (g 51) cI 9 ot2]) A) ([.ref mm, .int (nI k_3), .int (nI k_5)] : List Value).toArray s 0 0 A) (F0 m 88 ls []) := by
                    intro n_36
                    induction n_36 with
                    | zero => intro i un H locs ls hm; exact absurd hm (Nat.not_lt_zero _)
                    | succ n_36 ih_lp_35 =>
                      intro i un H locs ls hm hi hP hD hS hl
                      refine lv_iload hx hb dX12_unlike_88 (lv_at hl 0 rfl) ?_
                      refine lv_aload_n hx hb dX12_unlike_90 rfl (lv_at hl 2 rfl) ?_
                      refine sk_Vi (q0 := 0) (n := 0) (rest := [.int (nI i)]) (wr := fmR om_14_2040 _) ⟨hx, hb, hml, hown, hts⟩ hl.1 (c_m_dayMany l D cI cJ cC cZ cS mm g ta pa pe pd pb pp pf pg pn rt rn cd sn il tk2_6 am2_8 at_2_9 aa2_10 0 0 (-1) wt wy2_11 0 rm ud nu sd qn qw qo qb qp2_7 qa qi oc l0 l1 dm l3) w_7_98 w_7_100 w_0_69 w_1_14 w_7_101 hd_X12_dayMany_0 ⟨⟨(Nat.le_of_ble_eq_true rfl), (Nat.le_of_ble_eq_true rfl)⟩, (Nat.le_of_ble_eq_true rfl), (Nat.le_of_ble_eq_true rfl)⟩ hK hP hD hS hA (fmT om_14_2040 0) (fmF om_14_2040 0) (fm_C1 rfl rfl) (fm_R rfl rfl) (fm_nT om_14_2040 0) (fm_nF om_14_2040 0) (fm_di om_14_2040 0) rfl rfl rfl rfl (Nat.le_of_ble_eq_true rfl) dX12_unlike_91 (fun r_37 u H locs hw hP hD hS => ?_)
                      refine anE hw (fun er_39 eu_38 => ?_)
                      clear hw
                      subst er_39
                      refine o_mgE (ws' := [ro_ mm 12 (mo g (nI ta) (nI pa) (nI pe) pd (nI pb) pp pf pg pn rt rn (nI cd) sn (nI il) tk2_6 am2_8 at_2_9 aa2_10 0 0 (-1) wt wy2_11 0 (nI rm) (nI ud) (nI nu) sd (nI qn) (nI qw) qo (nI qb) (nI qp2_7) qa (nI qi) (nI oc)), ra_I (g 24) cI 6 (l6 u0 u1 u2 u3 u4 u5), ra_I (g 25) cI 6 (l6 v0 v1 v2 v3 v4 v5), ra_N (g 26) cI 3200 cs, ra_I (g 31) cI 120 nw, ra_N (g 46) cI 9 pt2_32, ra_J (g 86) cJ 1700 ql2_12, ra_I (g 20) cI 4 (l4 (nI l0) (nI l1) (nI dm) (nI l3)), ra_I (g 38) cI 90 ws_2_13, ra_I (g 36) cZ 900 yw2_14, ra_I (g 37) cZ 900 yo2_15, ra_J (g 43) cJ 90 be2_16, ra_J (g 44) cJ 90 bf2_17, ra_I (g 51) cI 9 zo]) eu_38 hP hD rfl (fun hP hD => ?_)
                      refine lv_icmp_ge (tgt := 123) hx hb dX12_unlike_94 (by decide) (fun c_40 => ?_) (fun c_40 => ?_)
                      · have c_40 : dm ≤ i := (nle dm i (by omega) (by omega)).mp c_40
                        refine lv_iload_n hx hb dX12_unlike_123 rfl (lv_at hl 1 rfl) ?_
                        exact sk_iret hx hb hr rfl hlocks hK hP hD hS (⟨tk2_6, qp2_7, am2_8, at_2_9, aa2_10, wy2_11, pt2_32, ql2_12, ws_2_13, yw2_14, yo2_15, be2_16, bf2_17, zo, hpt2_33, rfl⟩) (Nat.le_of_ble_eq_true rfl) (Nat.le_of_ble_eq_true rfl) dX12_unlike_124
                      · have c_40 : ¬ (dm ≤ i) := fun h => c_40 ((nle dm i (by omega) (by omega)).mpr h)
                        refine lv_aload_n hx hb dX12_unlike_97 rfl (lv_at hl 2 rfl) ?_
                        refine sk_get (v := .ref (g 51)) (C := RX12) (T := TX12) (N := 92) hx hb hts inlX12 hown hK hP 0 rfl rfl 51 (Nat.le_of_ble_eq_true rfl) w_5_206 rfl dX12_unlike_98 ?_
                        refine lv_iload hx hb dX12_unlike_101 (lv_at hl 0 rfl) ?_
                        refine va_iald hx hb hK.1 hP 13 0 rfl rfl (vin i 9 (by omega) (Nat.le_of_ble_eq_true rfl)) dX12_unlike_103 ?_
                        refine lv_topi (fun v_41 ev_41 => ?_)
                        refine lv_aload_n hx hb dX12_unlike_104 rfl (lv_at hl 2 rfl) ?_
                        refine sk_get (v := .ref (g 46)) (C := RX12) (T := TX12) (N := 92) hx hb hts inlX12 hown hK hP 0 rfl rfl 46 (Nat.le_of_ble_eq_true rfl) w_5_201 rfl dX12_unlike_105 ?_
                        refine lv_iload hx hb dX12_unlike_108 (lv_at hl 0 rfl) ?_
                        refine va_iald hx hb hK.1 hP 5 0 rfl rfl (vin i 9 (by omega) (Nat.le_of_ble_eq_true rfl)) dX12_unlike_110 ?_
                        refine sk_top (nI (pt2_32 i)) (nrd pt2_32 i (by omega)) ?_
                        have hb_42 := hpt2_33 i
                        refine lv_icmp_eq (tgt := 117) hx hb dX12_unlike_111 (by decide) (fun c_43 => ?_) (fun c_43 => ?_)
                        · skip
                          refine lv_iinc (v := nI (i + 1)) (lv' := [(4, .int (nI (i + 1))), (3, .int un), (0, .ref mm), (1, .int (nI k_3)), (2, .int (nI k_5))]) hx hb dX12_unlike_117 hl (k := 0) rfl (ninc i 1 (by decide)) (by decide) rfl (fun ls hl => ?_)
                          refine lv_goto (tgt := 88) hx hb dX12_unlike_120 (by decide) ?_
                          exact ih_lp_35 (i + 1) un _ _ _ (by omega) (by omega) hP hD hS (lv_sub hl [0, 1, 2, 3, 4] rfl)
                        · skip
                          refine lv_iinc (v := un + 1) (lv' := [(3, .int (un + 1)), (4, .int (nI i)), (0, .ref mm), (1, .int (nI k_3)), (2, .int (nI k_5))]) hx hb dX12_unlike_114 hl (k := 1) rfl rfl (by decide) rfl (fun ls hl => ?_)
                          refine lv_iinc (v := nI (i + 1)) (lv' := [(4, .int (nI (i + 1))), (3, .int (un + 1)), (0, .ref mm), (1, .int (nI k_3)), (2, .int (nI k_5))]) hx hb dX12_unlike_117 hl (k := 1) rfl (ninc i 1 (by decide)) (by decide) rfl (fun ls hl => ?_)
                          refine lv_goto (tgt := 88) hx hb dX12_unlike_120 (by decide) ?_
                          exact ih_lp_35 (i + 1) (un + 1) _ _ _ (by omega) (by omega) hP hD hS (lv_sub hl [0, 1, 2, 3, 4] rfl)
                  exact lp_35 (dm - 0 + 1) 0 0 _ _ _ (Nat.lt_succ_self _) (by omega) hP hD hS (lv_sub hl [0, 1, 2, 3, 4] rfl)
                · have c_31 : ¬ (dm ≤ i) := fun h => c_31 ((nle dm i (by omega) (by omega)).mpr h)
                  refine lv_aload_n hx hb dX12_unlike_59 rfl (lv_at hl 1 rfl) ?_
                  refine sk_get (v := .ref (g 51)) (C := RX12) (T := TX12) (N := 92) hx hb hts inlX12 hown hK hP 0 rfl rfl 51 (Nat.le_of_ble_eq_true rfl) w_5_206 rfl dX12_unlike_60 ?_
                  refine lv_iload_n hx hb dX12_unlike_63 rfl (lv_at hl 0 rfl) ?_
                  refine lv_aload_n hx hb dX12_unlike_64 rfl (lv_at hl 1 rfl) ?_
                  refine sk_get (v := .ref (g 46)) (C := RX12) (T := TX12) (N := 92) hx hb hts inlX12 hown hK hP 0 rfl rfl 46 (Nat.le_of_ble_eq_true rfl) w_5_201 rfl dX12_unlike_65 ?_
                  refine lv_iload_n hx hb dX12_unlike_68 rfl (lv_at hl 0 rfl) ?_
                  refine va_iald hx hb hK.1 hP 5 0 rfl rfl (vin i 9 (by omega) (Nat.le_of_ble_eq_true rfl)) dX12_unlike_69 ?_
                  refine sk_top (nI (pt2_23 i)) (nrd pt2_23 i (by omega)) ?_
                  have hb_44 := hpt2_24 i
                  refine sk_iastO (ws' := fun f_45 => [ro_ mm 12 (mo g (nI ta) (nI pa) (nI pe) pd (nI pb) pp pf pg pn rt rn (nI cd) sn (nI il) tk2_6 am2_8 at_2_9 aa2_10 0 0 (-1) wt wy2_11 0 (nI rm) (nI ud) (nI nu) sd (nI qn) (nI qw) qo (nI qb) (nI qp2_7) qa (nI qi) (nI oc)), ra_I (g 24) cI 6 (l6 u0 u1 u2 u3 u4 u5), ra_I (g 25) cI 6 (l6 v0 v1 v2 v3 v4 v5), ra_N (g 26) cI 3200 cs, ra_I (g 31) cI 120 nw, ra_N (g 46) cI 9 pt2_23, ra_J (g 86) cJ 1700 ql2_12, ra_I (g 20) cI 4 (l4 (nI l0) (nI l1) (nI dm) (nI l3)), ra_I (g 38) cI 90 ws_2_13, ra_I (g 36) cZ 900 yw2_14, ra_I (g 37) cZ 900 yo2_15, ra_J (g 43) cJ 90 be2_16, ra_J (g 44) cJ 90 bf2_17, ra_I (g 51) cI 9 f_45]) hx hb hK hP hD hS 13 0 rfl rfl (vin i 9 (by omega) (Nat.le_of_ble_eq_true rfl)) (fun _ => rfl) dX12_unlike_70 (fun f_45 H locs hP hD hS => ?_)
                  refine lv_iinc (v := nI (i + 1)) (lv' := [(3, .int (nI (i + 1))), (0, .ref mm), (1, .int (nI k_3)), (2, .int (nI k_5))]) hx hb dX12_unlike_71 hl (k := 0) rfl (ninc i 1 (by decide)) (by decide) rfl (fun ls hl => ?_)
                  refine lv_goto (tgt := 51) hx hb dX12_unlike_74 (by decide) ?_
                  exact ih_lp_26 (i + 1) f_45 _ _ _ (by omega) (by omega) hP hD hS (lv_sub hl [0, 1, 2, 3] rfl)
            exact lp_26 (dm - 0 + 1) 0 ot _ _ _ (Nat.lt_succ_self _) (by omega) hP hD hS (lv_sub hl [0, 1, 2, 3] rfl)
          · skip
            refine lv_iconst (v := (-1)) hx hb dX12_unlike_41 (by decide) ?_
            exact sk_iret hx hb hr rfl hlocks hK hP hD hS (⟨tk2_6, qp2_7, am2_8, at_2_9, aa2_10, wy2_11, pt, ql2_12, ws_2_13, yw2_14, yo2_15, be2_16, bf2_17, ot, hpt, rfl⟩) (Nat.le_of_ble_eq_true rfl) (Nat.le_of_ble_eq_true rfl) dX12_unlike_42
      · skip
        refine lv_iconst (v := (-1)) hx hb dX12_unlike_15 (by decide) ?_
        exact sk_iret hx hb hr rfl hlocks hK hP hD hS (⟨tk, qp, am, at_, aa, wy, pt, ql, ws_, yw, yo, be, bf, ot, hpt, rfl⟩) (Nat.le_of_ble_eq_true rfl) (Nat.le_of_ble_eq_true rfl) dX12_unlike_16
