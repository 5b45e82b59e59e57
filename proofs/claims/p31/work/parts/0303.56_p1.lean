theorem dX12_number_46 : decode cX12_number 46 = .ok (.iconst 0, 1) := q_iconst0 (bat_get dg_X12_number_0_0 22 rfl rfl)
theorem dX12_number_47 : decode cX12_number 47 = .ok (.istore 4, 2) := q_istore (bat_get dg_X12_number_0_0 23 rfl rfl)
theorem dX12_number_49 : decode cX12_number 49 = .ok (.aload_n 0, 1) := q_aload_n0 (bat_get dg_X12_number_0_0 24 rfl rfl)
theorem dX12_number_50 : decode cX12_number 50 = .ok (.getfield 201, 3) := q_getfield (bat_get dg_X12_number_0_0 25 rfl rfl) rfl
theorem dX12_number_53 : decode cX12_number 53 = .ok (.aload_n 0, 1) := q_aload_n0 (bat_get dg_X12_number_0_0 26 rfl rfl)
theorem dX12_number_54 : decode cX12_number 54 = .ok (.getfield 204, 3) := q_getfield (bat_get dg_X12_number_0_0 27 rfl rfl) rfl
theorem dX12_number_57 : decode cX12_number 57 = .ok (.if_icmp .ge 72, 3) := q_if_icmp_ge (bat_get dg_X12_number_0_0 28 rfl rfl) rfl
theorem dX12_number_129 : decode cX12_number 129 = .ok (.aload_n 0, 1) := q_aload_n0 (bat_get dg_X12_number_0_0 29 rfl rfl)
theorem dX12_number_130 : decode cX12_number 130 = .ok (.aload_n 0, 1) := q_aload_n0 (bat_get dg_X12_number_0_0 30 rfl rfl)
theorem dX12_number_131 : decode cX12_number 131 = .ok (.getfield 201, 3) := q_getfield (bat_get dg_X12_number_0_0 31 rfl rfl) rfl
theorem dX12_number_134 : decode cX12_number 134 = .ok (.putfield 215, 3) := q_putfield (bat_get dg_X12_number_0_0 32 rfl rfl) rfl
theorem dX12_number_137 : decode cX12_number 137 = .ok (.aload_n 0, 1) := q_aload_n0 (bat_get dg_X12_number_0_0 33 rfl rfl)
theorem dX12_number_138 : decode cX12_number 138 = .ok (.iload_n 3, 1) := q_iload_n3 (bat_get dg_X12_number_0_0 34 rfl rfl)
theorem dX12_number_139 : decode cX12_number 139 = .ok (.putfield 235, 3) := q_putfield (bat_get dg_X12_number_0_0 35 rfl rfl) rfl
theorem dX12_number_142 : decode cX12_number 142 = .ok (.iload 4, 2) := q_iload (bat_get dg_X12_number_0_0 36 rfl rfl)
theorem dX12_number_144 : decode cX12_number 144 = .ok (.i2l, 1) := q_i2l (bat_get dg_X12_number_0_0 37 rfl rfl)
theorem dX12_number_145 : decode cX12_number 145 = .ok (.iload_n 1, 1) := q_iload_n1 (bat_get dg_X12_number_0_0 38 rfl rfl)
theorem dX12_number_146 : decode cX12_number 146 = .ok (.i2l, 1) := q_i2l (bat_get dg_X12_number_0_0 39 rfl rfl)
theorem dg_X12_number_60_147 : bqL cX12_number 60 [(87, [28]), (88, [133]), (89, [184, 0, 238]), (92, [154, 0, 9]), (101, [21, 4]), (103, [172]), (95, [42]), (96, [5]), (97, [29]), (98, [182, 0, 225]), (0, [42]), (1, [180, 0, 7]), (4, [42]), (5, [180, 0, 201]), (8, [46]), (9, [184, 0, 232]), (12, [153, 0, 57]), (15, [42]), (16, [180, 0, 201]), (19, [29]), (20, [100]), (21, [7]), (22, [160, 0, 14]), (36, [16, 10]), (38, [21, 4]), (40, [104]), (41, [42]), (42, [180, 0, 7]), (45, [42]), (46, [180, 0, 201]), (49, [46]), (50, [96]), (51, [16, 48]), (53, [100]), (54, [54, 4]), (56, [42]), (57, [89]), (58, [180, 0, 201]), (61, [4]), (62, [96])] = true := by decide +kernel
theorem dX12_number_147 : decode cX12_number 147 = .ok (.iload_n 2, 1) := q_iload_n2 (bat_get dg_X12_number_60_147 0 rfl rfl)
theorem dX12_number_148 : decode cX12_number 148 = .ok (.i2l, 1) := q_i2l (bat_get dg_X12_number_60_147 1 rfl rfl)
theorem dX12_number_149 : decode cX12_number 149 = .ok (.invokestatic 238, 3) := q_invokestatic (bat_get dg_X12_number_60_147 2 rfl rfl) rfl
theorem dX12_number_152 : decode cX12_number 152 = .ok (.ifCond .ne 9, 3) := q_ifCond_ne (bat_get dg_X12_number_60_147 3 rfl rfl) rfl
theorem dX12_number_161 : decode cX12_number 161 = .ok (.iload 4, 2) := q_iload (bat_get dg_X12_number_60_147 4 rfl rfl)
theorem dX12_number_163 : decode cX12_number 163 = .ok (.ireturn, 1) := q_ireturn (bat_get dg_X12_number_60_147 5 rfl rfl)
theorem dX12_number_155 : decode cX12_number 155 = .ok (.aload_n 0, 1) := q_aload_n0 (bat_get dg_X12_number_60_147 6 rfl rfl)
theorem dX12_number_156 : decode cX12_number 156 = .ok (.iconst 2, 1) := q_iconst2 (bat_get dg_X12_number_60_147 7 rfl rfl)
theorem dX12_number_157 : decode cX12_number 157 = .ok (.iload_n 3, 1) := q_iload_n3 (bat_get dg_X12_number_60_147 8 rfl rfl)
theorem dX12_number_158 : decode cX12_number 158 = .ok (.invokevirtual 225, 3) := q_invokevirtual (bat_get dg_X12_number_60_147 9 rfl rfl) rfl
theorem dX12_number_60 : decode cX12_number 60 = .ok (.aload_n 0, 1) := q_aload_n0 (bat_get dg_X12_number_60_147 10 rfl rfl)
theorem dX12_number_61 : decode cX12_number 61 = .ok (.getfield 7, 3) := q_getfield (bat_get dg_X12_number_60_147 11 rfl rfl) rfl
theorem dX12_number_64 : decode cX12_number 64 = .ok (.aload_n 0, 1) := q_aload_n0 (bat_get dg_X12_number_60_147 12 rfl rfl)
theorem dX12_number_65 : decode cX12_number 65 = .ok (.getfield 201, 3) := q_getfield (bat_get dg_X12_number_60_147 13 rfl rfl) rfl
theorem dX12_number_68 : decode cX12_number 68 = .ok (.iaload, 1) := q_iaload (bat_get dg_X12_number_60_147 14 rfl rfl)
theorem dX12_number_69 : decode cX12_number 69 = .ok (.invokestatic 232, 3) := q_invokestatic (bat_get dg_X12_number_60_147 15 rfl rfl) rfl
theorem dX12_number_72 : decode cX12_number 72 = .ok (.ifCond .eq 57, 3) := q_ifCond_eq (bat_get dg_X12_number_60_147 16 rfl rfl) rfl
theorem dX12_number_75 : decode cX12_number 75 = .ok (.aload_n 0, 1) := q_aload_n0 (bat_get dg_X12_number_60_147 17 rfl rfl)
theorem dX12_number_76 : decode cX12_number 76 = .ok (.getfield 201, 3) := q_getfield (bat_get dg_X12_number_60_147 18 rfl rfl) rfl
theorem dX12_number_79 : decode cX12_number 79 = .ok (.iload_n 3, 1) := q_iload_n3 (bat_get dg_X12_number_60_147 19 rfl rfl)
theorem dX12_number_80 : decode cX12_number 80 = .ok (.isub, 1) := q_isub (bat_get dg_X12_number_60_147 20 rfl rfl)
theorem dX12_number_81 : decode cX12_number 81 = .ok (.iconst 4, 1) := q_iconst4 (bat_get dg_X12_number_60_147 21 rfl rfl)
theorem dX12_number_82 : decode cX12_number 82 = .ok (.if_icmp .ne 14, 3) := q_if_icmp_ne (bat_get dg_X12_number_60_147 22 rfl rfl) rfl
theorem dX12_number_96 : decode cX12_number 96 = .ok (.bipush 10, 2) := q_bipush (bat_get dg_X12_number_60_147 23 rfl rfl) rfl
theorem dX12_number_98 : decode cX12_number 98 = .ok (.iload 4, 2) := q_iload (bat_get dg_X12_number_60_147 24 rfl rfl)
theorem dX12_number_100 : decode cX12_number 100 = .ok (.imul, 1) := q_imul (bat_get dg_X12_number_60_147 25 rfl rfl)
theorem dX12_number_101 : decode cX12_number 101 = .ok (.aload_n 0, 1) := q_aload_n0 (bat_get dg_X12_number_60_147 26 rfl rfl)
theorem dX12_number_102 : decode cX12_number 102 = .ok (.getfield 7, 3) := q_getfield (bat_get dg_X12_number_60_147 27 rfl rfl) rfl
theorem dX12_number_105 : decode cX12_number 105 = .ok (.aload_n 0, 1) := q_aload_n0 (bat_get dg_X12_number_60_147 28 rfl rfl)
theorem dX12_number_106 : decode cX12_number 106 = .ok (.getfield 201, 3) := q_getfield (bat_get dg_X12_number_60_147 29 rfl rfl) rfl
theorem dX12_number_109 : decode cX12_number 109 = .ok (.iaload, 1) := q_iaload (bat_get dg_X12_number_60_147 30 rfl rfl)
theorem dX12_number_110 : decode cX12_number 110 = .ok (.iadd, 1) := q_iadd (bat_get dg_X12_number_60_147 31 rfl rfl)
theorem dX12_number_111 : decode cX12_number 111 = .ok (.bipush 48, 2) := q_bipush (bat_get dg_X12_number_60_147 32 rfl rfl) rfl
theorem dX12_number_113 : decode cX12_number 113 = .ok (.isub, 1) := q_isub (bat_get dg_X12_number_60_147 33 rfl rfl)
theorem dX12_number_114 : decode cX12_number 114 = .ok (.istore 4, 2) := q_istore (bat_get dg_X12_number_60_147 34 rfl rfl)
theorem dX12_number_116 : decode cX12_number 116 = .ok (.aload_n 0, 1) := q_aload_n0 (bat_get dg_X12_number_60_147 35 rfl rfl)
theorem dX12_number_117 : decode cX12_number 117 = .ok (.dup, 1) := q_dup (bat_get dg_X12_number_60_147 36 rfl rfl)
theorem dX12_number_118 : decode cX12_number 118 = .ok (.getfield 201, 3) := q_getfield (bat_get dg_X12_number_60_147 37 rfl rfl) rfl
theorem dX12_number_121 : decode cX12_number 121 = .ok (.iconst 1, 1) := q_iconst1 (bat_get dg_X12_number_60_147 38 rfl rfl)
theorem dX12_number_122 : decode cX12_number 122 = .ok (.iadd, 1) := q_iadd (bat_get dg_X12_number_60_147 39 rfl rfl)
theorem dg_X12_number_7_123 : bqL cX12_number 7 [(116, [181, 0, 201]), (119, [167, 255, 179]), (78, [42]), (79, [4]), (80, [42]), (81, [180, 0, 201]), (84, [182, 0, 225]), (87, [3]), (88, [172]), (0, [3]), (1, [172])] = true := by decide +kernel
theorem dX12_number_123 : decode cX12_number 123 = .ok (.putfield 201, 3) := q_putfield (bat_get dg_X12_number_7_123 0 rfl rfl) rfl
theorem dX12_number_126 : decode cX12_number 126 = .ok (.goto (-77), 3) := q_goto (bat_get dg_X12_number_7_123 1 rfl rfl) rfl
theorem dX12_number_85 : decode cX12_number 85 = .ok (.aload_n 0, 1) := q_aload_n0 (bat_get dg_X12_number_7_123 2 rfl rfl)
theorem dX12_number_86 : decode cX12_number 86 = .ok (.iconst 1, 1) := q_iconst1 (bat_get dg_X12_number_7_123 3 rfl rfl)
theorem dX12_number_87 : decode cX12_number 87 = .ok (.aload_n 0, 1) := q_aload_n0 (bat_get dg_X12_number_7_123 4 rfl rfl)
theorem dX12_number_88 : decode cX12_number 88 = .ok (.getfield 201, 3) := q_getfield (bat_get dg_X12_number_7_123 5 rfl rfl) rfl
theorem dX12_number_91 : decode cX12_number 91 = .ok (.invokevirtual 225, 3) := q_invokevirtual (bat_get dg_X12_number_7_123 6 rfl rfl) rfl
theorem dX12_number_94 : decode cX12_number 94 = .ok (.iconst 0, 1) := q_iconst0 (bat_get dg_X12_number_7_123 7 rfl rfl)
theorem dX12_number_95 : decode cX12_number 95 = .ok (.ireturn, 1) := q_ireturn (bat_get dg_X12_number_7_123 8 rfl rfl)
theorem dX12_number_7 : decode cX12_number 7 = .ok (.iconst 0, 1) := q_iconst0 (bat_get dg_X12_number_7_123 9 rfl rfl)
theorem dX12_number_8 : decode cX12_number 8 = .ok (.ireturn, 1) := q_ireturn (bat_get dg_X12_number_7_123 10 rfl rfl)
theorem w_6_237 : (Cond.methodLink RX12 232 yX12_isDigit) ∈ wsL_law := sk_mem (ck_6 _ (List.mem_of_getElem? (i := 237) rfl)) rfl
theorem w_6_238 : (Cond.static yX12_isDigit) ∈ wsL_law := sk_mem (ck_6 _ (List.mem_of_getElem? (i := 238) rfl)) rfl
theorem w_5_165 : (Cond.fieldLink RX12 235 "SameKeeperModel" "numberPlace" "I") ∈ wsL_law := sk_mem (ck_5 _ (List.mem_of_getElem? (i := 165) rfl)) rfl
theorem w_6_236 : (Cond.code yX12_number cX12_number 5 (some .int)) ∈ wsL_law := sk_mem (ck_6 _ (List.mem_of_getElem? (i := 236) rfl)) rfl
theorem hd_X12_isDigit_1 : skD yX12_isDigit 1 := by decide +kernel

