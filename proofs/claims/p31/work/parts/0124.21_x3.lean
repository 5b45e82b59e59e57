theorem dg_X11_isAtRest_0_0 : bqL cX11_isAtRest 0 [(0, [42]), (1, [180, 0, 85]), (4, [42]), (5, [180, 0, 89]), (8, [182, 1, 29]), (11, [3]), (12, [61]), (13, [28]), (14, [42]), (15, [180, 0, 59]), (18, [180, 0, 144]), (21, [162, 0, 108]), (129, [4]), (130, [172]), (24, [42]), (25, [180, 0, 59]), (28, [28]), (29, [182, 0, 179]), (32, [153, 0, 6]), (38, [42]), (39, [180, 0, 85]), (42, [42]), (43, [180, 0, 59]), (46, [27]), (47, [4]), (48, [28]), (49, [120]), (50, [130]), (51, [3]), (52, [182, 0, 230]), (55, [42]), (56, [180, 0, 85]), (59, [182, 0, 234]), (62, [154, 0, 6]), (68, [42]), (69, [180, 0, 85]), (72, [42]), (73, [180, 0, 93]), (76, [182, 1, 29]), (79, [42])] = true := by decide +kernel
theorem dX11_isAtRest_0 : decode cX11_isAtRest 0 = .ok (.aload_n 0, 1) := q_aload_n0 (bat_get dg_X11_isAtRest_0_0 0 rfl rfl)
theorem dX11_isAtRest_1 : decode cX11_isAtRest 1 = .ok (.getfield 85, 3) := q_getfield (bat_get dg_X11_isAtRest_0_0 1 rfl rfl) rfl
theorem dX11_isAtRest_4 : decode cX11_isAtRest 4 = .ok (.aload_n 0, 1) := q_aload_n0 (bat_get dg_X11_isAtRest_0_0 2 rfl rfl)
theorem dX11_isAtRest_5 : decode cX11_isAtRest 5 = .ok (.getfield 89, 3) := q_getfield (bat_get dg_X11_isAtRest_0_0 3 rfl rfl) rfl
theorem dX11_isAtRest_8 : decode cX11_isAtRest 8 = .ok (.invokevirtual 285, 3) := q_invokevirtual (bat_get dg_X11_isAtRest_0_0 4 rfl rfl) rfl
theorem dX11_isAtRest_11 : decode cX11_isAtRest 11 = .ok (.iconst 0, 1) := q_iconst0 (bat_get dg_X11_isAtRest_0_0 5 rfl rfl)
theorem dX11_isAtRest_12 : decode cX11_isAtRest 12 = .ok (.istore_n 2, 1) := q_istore_n2 (bat_get dg_X11_isAtRest_0_0 6 rfl rfl)
theorem dX11_isAtRest_13 : decode cX11_isAtRest 13 = .ok (.iload_n 2, 1) := q_iload_n2 (bat_get dg_X11_isAtRest_0_0 7 rfl rfl)
theorem dX11_isAtRest_14 : decode cX11_isAtRest 14 = .ok (.aload_n 0, 1) := q_aload_n0 (bat_get dg_X11_isAtRest_0_0 8 rfl rfl)
theorem dX11_isAtRest_15 : decode cX11_isAtRest 15 = .ok (.getfield 59, 3) := q_getfield (bat_get dg_X11_isAtRest_0_0 9 rfl rfl) rfl
theorem dX11_isAtRest_18 : decode cX11_isAtRest 18 = .ok (.getfield 144, 3) := q_getfield (bat_get dg_X11_isAtRest_0_0 10 rfl rfl) rfl
theorem dX11_isAtRest_21 : decode cX11_isAtRest 21 = .ok (.if_icmp .ge 108, 3) := q_if_icmp_ge (bat_get dg_X11_isAtRest_0_0 11 rfl rfl) rfl
theorem dX11_isAtRest_129 : decode cX11_isAtRest 129 = .ok (.iconst 1, 1) := q_iconst1 (bat_get dg_X11_isAtRest_0_0 12 rfl rfl)
theorem dX11_isAtRest_130 : decode cX11_isAtRest 130 = .ok (.ireturn, 1) := q_ireturn (bat_get dg_X11_isAtRest_0_0 13 rfl rfl)
theorem dX11_isAtRest_24 : decode cX11_isAtRest 24 = .ok (.aload_n 0, 1) := q_aload_n0 (bat_get dg_X11_isAtRest_0_0 14 rfl rfl)
theorem dX11_isAtRest_25 : decode cX11_isAtRest 25 = .ok (.getfield 59, 3) := q_getfield (bat_get dg_X11_isAtRest_0_0 15 rfl rfl) rfl
theorem dX11_isAtRest_28 : decode cX11_isAtRest 28 = .ok (.iload_n 2, 1) := q_iload_n2 (bat_get dg_X11_isAtRest_0_0 16 rfl rfl)
theorem dX11_isAtRest_29 : decode cX11_isAtRest 29 = .ok (.invokevirtual 179, 3) := q_invokevirtual (bat_get dg_X11_isAtRest_0_0 17 rfl rfl) rfl
theorem dX11_isAtRest_32 : decode cX11_isAtRest 32 = .ok (.ifCond .eq 6, 3) := q_ifCond_eq (bat_get dg_X11_isAtRest_0_0 18 rfl rfl) rfl
theorem dX11_isAtRest_38 : decode cX11_isAtRest 38 = .ok (.aload_n 0, 1) := q_aload_n0 (bat_get dg_X11_isAtRest_0_0 19 rfl rfl)
theorem dX11_isAtRest_39 : decode cX11_isAtRest 39 = .ok (.getfield 85, 3) := q_getfield (bat_get dg_X11_isAtRest_0_0 20 rfl rfl) rfl
theorem dX11_isAtRest_42 : decode cX11_isAtRest 42 = .ok (.aload_n 0, 1) := q_aload_n0 (bat_get dg_X11_isAtRest_0_0 21 rfl rfl)
theorem dX11_isAtRest_43 : decode cX11_isAtRest 43 = .ok (.getfield 59, 3) := q_getfield (bat_get dg_X11_isAtRest_0_0 22 rfl rfl) rfl
theorem dX11_isAtRest_46 : decode cX11_isAtRest 46 = .ok (.iload_n 1, 1) := q_iload_n1 (bat_get dg_X11_isAtRest_0_0 23 rfl rfl)
theorem dX11_isAtRest_47 : decode cX11_isAtRest 47 = .ok (.iconst 1, 1) := q_iconst1 (bat_get dg_X11_isAtRest_0_0 24 rfl rfl)
theorem dX11_isAtRest_48 : decode cX11_isAtRest 48 = .ok (.iload_n 2, 1) := q_iload_n2 (bat_get dg_X11_isAtRest_0_0 25 rfl rfl)
theorem dX11_isAtRest_49 : decode cX11_isAtRest 49 = .ok (.ishl, 1) := q_ishl (bat_get dg_X11_isAtRest_0_0 26 rfl rfl)
theorem dX11_isAtRest_50 : decode cX11_isAtRest 50 = .ok (.ixor, 1) := q_ixor (bat_get dg_X11_isAtRest_0_0 27 rfl rfl)
theorem dX11_isAtRest_51 : decode cX11_isAtRest 51 = .ok (.iconst 0, 1) := q_iconst0 (bat_get dg_X11_isAtRest_0_0 28 rfl rfl)
theorem dX11_isAtRest_52 : decode cX11_isAtRest 52 = .ok (.invokevirtual 230, 3) := q_invokevirtual (bat_get dg_X11_isAtRest_0_0 29 rfl rfl) rfl
theorem dX11_isAtRest_55 : decode cX11_isAtRest 55 = .ok (.aload_n 0, 1) := q_aload_n0 (bat_get dg_X11_isAtRest_0_0 30 rfl rfl)
theorem dX11_isAtRest_56 : decode cX11_isAtRest 56 = .ok (.getfield 85, 3) := q_getfield (bat_get dg_X11_isAtRest_0_0 31 rfl rfl) rfl
theorem dX11_isAtRest_59 : decode cX11_isAtRest 59 = .ok (.invokevirtual 234, 3) := q_invokevirtual (bat_get dg_X11_isAtRest_0_0 32 rfl rfl) rfl
theorem dX11_isAtRest_62 : decode cX11_isAtRest 62 = .ok (.ifCond .ne 6, 3) := q_ifCond_ne (bat_get dg_X11_isAtRest_0_0 33 rfl rfl) rfl
theorem dX11_isAtRest_68 : decode cX11_isAtRest 68 = .ok (.aload_n 0, 1) := q_aload_n0 (bat_get dg_X11_isAtRest_0_0 34 rfl rfl)
theorem dX11_isAtRest_69 : decode cX11_isAtRest 69 = .ok (.getfield 85, 3) := q_getfield (bat_get dg_X11_isAtRest_0_0 35 rfl rfl) rfl
theorem dX11_isAtRest_72 : decode cX11_isAtRest 72 = .ok (.aload_n 0, 1) := q_aload_n0 (bat_get dg_X11_isAtRest_0_0 36 rfl rfl)
theorem dX11_isAtRest_73 : decode cX11_isAtRest 73 = .ok (.getfield 93, 3) := q_getfield (bat_get dg_X11_isAtRest_0_0 37 rfl rfl) rfl
theorem dX11_isAtRest_76 : decode cX11_isAtRest 76 = .ok (.invokevirtual 285, 3) := q_invokevirtual (bat_get dg_X11_isAtRest_0_0 38 rfl rfl) rfl
theorem dX11_isAtRest_79 : decode cX11_isAtRest 79 = .ok (.aload_n 0, 1) := q_aload_n0 (bat_get dg_X11_isAtRest_0_0 39 rfl rfl)
theorem dg_X11_isAtRest_35_80 : bqL cX11_isAtRest 35 [(45, [180, 0, 76]), (48, [180, 1, 81]), (51, [28]), (52, [16, 10]), (54, [104]), (55, [42]), (56, [180, 0, 93]), (59, [28]), (60, [46]), (61, [96]), (62, [47]), (63, [42]), (64, [180, 0, 76]), (67, [180, 1, 81]), (70, [28]), (71, [16, 10]), (73, [104]), (74, [42]), (75, [180, 0, 89]), (78, [28]), (79, [46]), (80, [96]), (81, [47]), (82, [148]), (83, [158, 0, 5]), (88, [132, 2, 1]), (91, [167, 255, 143]), (86, [3]), (87, [172]), (30, [167, 0, 58]), (0, [167, 0, 88])] = true := by decide +kernel
theorem dX11_isAtRest_80 : decode cX11_isAtRest 80 = .ok (.getfield 76, 3) := q_getfield (bat_get dg_X11_isAtRest_35_80 0 rfl rfl) rfl
theorem dX11_isAtRest_83 : decode cX11_isAtRest 83 = .ok (.getfield 337, 3) := q_getfield (bat_get dg_X11_isAtRest_35_80 1 rfl rfl) rfl
theorem dX11_isAtRest_86 : decode cX11_isAtRest 86 = .ok (.iload_n 2, 1) := q_iload_n2 (bat_get dg_X11_isAtRest_35_80 2 rfl rfl)
theorem dX11_isAtRest_87 : decode cX11_isAtRest 87 = .ok (.bipush 10, 2) := q_bipush (bat_get dg_X11_isAtRest_35_80 3 rfl rfl) rfl
theorem dX11_isAtRest_89 : decode cX11_isAtRest 89 = .ok (.imul, 1) := q_imul (bat_get dg_X11_isAtRest_35_80 4 rfl rfl)
theorem dX11_isAtRest_90 : decode cX11_isAtRest 90 = .ok (.aload_n 0, 1) := q_aload_n0 (bat_get dg_X11_isAtRest_35_80 5 rfl rfl)
theorem dX11_isAtRest_91 : decode cX11_isAtRest 91 = .ok (.getfield 93, 3) := q_getfield (bat_get dg_X11_isAtRest_35_80 6 rfl rfl) rfl
theorem dX11_isAtRest_94 : decode cX11_isAtRest 94 = .ok (.iload_n 2, 1) := q_iload_n2 (bat_get dg_X11_isAtRest_35_80 7 rfl rfl)
theorem dX11_isAtRest_95 : decode cX11_isAtRest 95 = .ok (.iaload, 1) := q_iaload (bat_get dg_X11_isAtRest_35_80 8 rfl rfl)
theorem dX11_isAtRest_96 : decode cX11_isAtRest 96 = .ok (.iadd, 1) := q_iadd (bat_get dg_X11_isAtRest_35_80 9 rfl rfl)
theorem dX11_isAtRest_97 : decode cX11_isAtRest 97 = .ok (.laload, 1) := q_laload (bat_get dg_X11_isAtRest_35_80 10 rfl rfl)
theorem dX11_isAtRest_98 : decode cX11_isAtRest 98 = .ok (.aload_n 0, 1) := q_aload_n0 (bat_get dg_X11_isAtRest_35_80 11 rfl rfl)
theorem dX11_isAtRest_99 : decode cX11_isAtRest 99 = .ok (.getfield 76, 3) := q_getfield (bat_get dg_X11_isAtRest_35_80 12 rfl rfl) rfl
theorem dX11_isAtRest_102 : decode cX11_isAtRest 102 = .ok (.getfield 337, 3) := q_getfield (bat_get dg_X11_isAtRest_35_80 13 rfl rfl) rfl
theorem dX11_isAtRest_105 : decode cX11_isAtRest 105 = .ok (.iload_n 2, 1) := q_iload_n2 (bat_get dg_X11_isAtRest_35_80 14 rfl rfl)
theorem dX11_isAtRest_106 : decode cX11_isAtRest 106 = .ok (.bipush 10, 2) := q_bipush (bat_get dg_X11_isAtRest_35_80 15 rfl rfl) rfl
theorem dX11_isAtRest_108 : decode cX11_isAtRest 108 = .ok (.imul, 1) := q_imul (bat_get dg_X11_isAtRest_35_80 16 rfl rfl)
theorem dX11_isAtRest_109 : decode cX11_isAtRest 109 = .ok (.aload_n 0, 1) := q_aload_n0 (bat_get dg_X11_isAtRest_35_80 17 rfl rfl)
theorem dX11_isAtRest_110 : decode cX11_isAtRest 110 = .ok (.getfield 89, 3) := q_getfield (bat_get dg_X11_isAtRest_35_80 18 rfl rfl) rfl
theorem dX11_isAtRest_113 : decode cX11_isAtRest 113 = .ok (.iload_n 2, 1) := q_iload_n2 (bat_get dg_X11_isAtRest_35_80 19 rfl rfl)
theorem dX11_isAtRest_114 : decode cX11_isAtRest 114 = .ok (.iaload, 1) := q_iaload (bat_get dg_X11_isAtRest_35_80 20 rfl rfl)
theorem dX11_isAtRest_115 : decode cX11_isAtRest 115 = .ok (.iadd, 1) := q_iadd (bat_get dg_X11_isAtRest_35_80 21 rfl rfl)
theorem dX11_isAtRest_116 : decode cX11_isAtRest 116 = .ok (.laload, 1) := q_laload (bat_get dg_X11_isAtRest_35_80 22 rfl rfl)
theorem dX11_isAtRest_117 : decode cX11_isAtRest 117 = .ok (.lcmp, 1) := q_lcmp (bat_get dg_X11_isAtRest_35_80 23 rfl rfl)
theorem dX11_isAtRest_118 : decode cX11_isAtRest 118 = .ok (.ifCond .le 5, 3) := q_ifCond_le (bat_get dg_X11_isAtRest_35_80 24 rfl rfl) rfl
theorem dX11_isAtRest_123 : decode cX11_isAtRest 123 = .ok (.iinc 2 1, 3) := q_iinc (bat_get dg_X11_isAtRest_35_80 25 rfl rfl) rfl
theorem dX11_isAtRest_126 : decode cX11_isAtRest 126 = .ok (.goto (-113), 3) := q_goto (bat_get dg_X11_isAtRest_35_80 26 rfl rfl) rfl
theorem dX11_isAtRest_121 : decode cX11_isAtRest 121 = .ok (.iconst 0, 1) := q_iconst0 (bat_get dg_X11_isAtRest_35_80 27 rfl rfl)
theorem dX11_isAtRest_122 : decode cX11_isAtRest 122 = .ok (.ireturn, 1) := q_ireturn (bat_get dg_X11_isAtRest_35_80 28 rfl rfl)
theorem dX11_isAtRest_65 : decode cX11_isAtRest 65 = .ok (.goto 58, 3) := q_goto (bat_get dg_X11_isAtRest_35_80 29 rfl rfl) rfl
theorem dX11_isAtRest_35 : decode cX11_isAtRest 35 = .ok (.goto 88, 3) := q_goto (bat_get dg_X11_isAtRest_35_80 30 rfl rfl) rfl
theorem w_2_134 : (Cond.fieldLink RX11 85 "SameKeeper" "graph" "LSameKeeper$Graph;") ∈ wsL_law := sk_mem (ck_2 _ (List.mem_of_getElem? (i := 134) rfl)) rfl
theorem w_2_135 : (Cond.fieldLink RX11 89 "SameKeeper" "row" "[I") ∈ wsL_law := sk_mem (ck_2 _ (List.mem_of_getElem? (i := 135) rfl)) rfl
theorem w_4_112 : (Cond.methodLink RX11 285 yX1_takeFirst) ∈ wsL_law := sk_mem (ck_4 _ (List.mem_of_getElem? (i := 112) rfl)) rfl
theorem w_4_113 : (Cond.instanceMethod yX1_takeFirst) ∈ wsL_law := sk_mem (ck_4 _ (List.mem_of_getElem? (i := 113) rfl)) rfl
theorem w_4_114 : (Cond.selects RX1 yX1_takeFirst yX1_takeFirst) ∈ wsL_law := sk_mem (ck_4 _ (List.mem_of_getElem? (i := 114) rfl)) rfl
theorem w_4_47 : (Cond.methodLink RX11 230 yX1_lay) ∈ wsL_law := sk_mem (ck_4 _ (List.mem_of_getElem? (i := 47) rfl)) rfl
theorem w_4_48 : (Cond.instanceMethod yX1_lay) ∈ wsL_law := sk_mem (ck_4 _ (List.mem_of_getElem? (i := 48) rfl)) rfl
theorem w_4_49 : (Cond.selects RX1 yX1_lay yX1_lay) ∈ wsL_law := sk_mem (ck_4 _ (List.mem_of_getElem? (i := 49) rfl)) rfl
theorem w_4_53 : (Cond.methodLink RX11 234 yX1_settle) ∈ wsL_law := sk_mem (ck_4 _ (List.mem_of_getElem? (i := 53) rfl)) rfl
theorem w_4_54 : (Cond.instanceMethod yX1_settle) ∈ wsL_law := sk_mem (ck_4 _ (List.mem_of_getElem? (i := 54) rfl)) rfl
theorem w_4_55 : (Cond.selects RX1 yX1_settle yX1_settle) ∈ wsL_law := sk_mem (ck_4 _ (List.mem_of_getElem? (i := 55) rfl)) rfl
theorem w_2_136 : (Cond.fieldLink RX11 93 "SameKeeper" "otherRow" "[I") ∈ wsL_law := sk_mem (ck_2 _ (List.mem_of_getElem? (i := 136) rfl)) rfl
theorem w_2_133 : (Cond.fieldLink RX11 76 "SameKeeper" "table" "LSameKeeper$Table;") ∈ wsL_law := sk_mem (ck_2 _ (List.mem_of_getElem? (i := 133) rfl)) rfl
theorem w_2_74 : (Cond.fieldLink RX11 337 "SameKeeper$Table" "wages" "[J") ∈ wsL_law := sk_mem (ck_2 _ (List.mem_of_getElem? (i := 74) rfl)) rfl
theorem w_4_111 : (Cond.code yX11_isAtRest cX11_isAtRest 3 (some .boolean)) ∈ wsL_law := sk_mem (ck_4 _ (List.mem_of_getElem? (i := 111) rfl)) rfl
def om_17_3e : List Bool := false :: false :: false :: false :: false :: false :: false :: false :: false :: false :: false :: true :: true :: true :: true :: true :: false :: []
def om_17_100 : List Bool := false :: false :: false :: false :: false :: false :: false :: false :: true :: false :: false :: false :: false :: false :: false :: false :: false :: []
def om_17_f938 : List Bool := false :: true :: true :: true :: true :: true :: false :: false :: true :: false :: false :: true :: true :: true :: false :: false :: false :: []
def om_17_3c : List Bool := false :: false :: false :: false :: false :: false :: false :: false :: false :: false :: false :: true :: true :: true :: true :: false :: false :: []
def om_17_3d : List Bool := false :: false :: false :: false :: false :: false :: false :: false :: false :: false :: false :: true :: true :: true :: true :: false :: true :: []
theorem hd_X1_takeFirst_1 : skD yX1_takeFirst 1 := by decide +kernel
theorem hd_X1_lay_3 : skD yX1_lay 3 := by decide +kernel
theorem hd_X1_settle_0 : skD yX1_settle 0 := by decide +kernel
set_option maxHeartbeats 4000000 in
set_option maxRecDepth 100000 in
theorem c_x_isAtRest (l : Launch) (D : va_G) (cI cJ cC cZ cS : ClassId) (x0 : Nat) (q : Nat → Nat) (hc : Int32) (dr : Int64) (sa : Nat → Nat) (ft : Nat → Int32) (fa : Nat → Int32) (fo : Nat → Int32) (fg : Nat → Int64) (fk : Nat → Int32) (dy : Nat) (mo : Nat) (wk : Int32) (mu : Int32) (ke : Int32) (fb : Nat → Int32) (fw : Nat → Int32) (gs : Nat) (e1 : Nat → Int32) (e2 : Nat → Int32) (e3 : Nat → Int32) (ra : Nat → Int32) (rc : Nat → Int32) (o : Int32) (hsa : ∀ j, sa j ≤ 9) (hdy : dy ≤ 9) (hmo : mo ≤ 9) (hgs : gs ≤ 9) : skM l yX11_isAtRest cX11_isAtRest 3 (some .boolean) 2 53 0 0 D (skT cI cJ cC cZ cS) [.ref x0, .int o] [(x0, .inr (11, [.ref (q 0), .ref (q 1), .ref (q 2), .ref (q 3), .ref (q 4), .ref (q 5), .ref (q 6), .ref (q 7), .ref (q 8), .ref (q 9), .ref (q 10), .ref (q 11), .ref (q 12), .ref (q 13), .ref (q 14), .int hc, .ref (q 16), .long dr])), (q 10, .inr (9, [.ref (q 61), .ref (q 62), .ref (q 63), .ref (q 64), .ref (q 65), .ref (q 66)])), (q 61, .inl (cI, 90, .inl (fun j => nI (sa j)))), (q 62, .inl (cI, 900, .inl ft)), (q 63, .inl (cI, 90, .inl fa)), (q 64, .inl (cI, 90, .inl fo)), (q 65, .inl (cJ, 90, .inr (.inl fg))), (q 66, .inl (cI, 9, .inl fk)), (q 7, .inr (7, [.ref (q 33), .ref (q 34), .int (nI dy), .int wk, .int (nI mo), .int mu, .int ke])), (q 33, .inl (cI, 9, .inl fb)), (q 34, .inl (cI, 9, .inl fw)), (q 11, .inr (1, [.ref (q 10), .ref (q 67), .ref (q 68), .ref (q 69), .ref (q 70), .ref (q 71), .ref (q 72), .int (nI dy), .int (nI gs)])), (q 67, .inl (cI, 90, .inl e1)), (q 68, .inl (cI, 9, .inl e2)), (q 69, .inl (cI, 10, .inl e3)), (q 12, .inl (cI, 9, .inl ra)), (q 13, .inl (cI, 9, .inl rc))] (skI D (skT cI cJ cC cZ cS) (fun (r : Int32) (u : va_W) => ∃ (gd2 : Nat), ∃ (gs2 : Nat), ∃ (b : Nat), ∃ (g1 : Nat → Int32), ∃ (g2 : Nat → Int32), ∃ (g3 : Nat → Int32), ∃ (ra2 : Nat → Int32), ∃ (rc2 : Nat → Int32), gd2 ≤ 9 ∧ gs2 ≤ 9 ∧ b ≤ 1 ∧ r = nI b ∧ u = [(x0, .inr (11, [.ref (q 0), .ref (q 1), .ref (q 2), .ref (q 3), .ref (q 4), .ref (q 5), .ref (q 6), .ref (q 7), .ref (q 8), .ref (q 9), .ref (q 10), .ref (q 11), .ref (q 12), .ref (q 13), .ref (q 14), .int hc, .ref (q 16), .long dr])), (q 10, .inr (9, [.ref (q 61), .ref (q 62), .ref (q 63), .ref (q 64), .ref (q 65), .ref (q 66)])), (q 61, .inl (cI, 90, .inl (fun j => nI (sa j)))), (q 62, .inl (cI, 900, .inl ft)), (q 63, .inl (cI, 90, .inl fa)), (q 64, .inl (cI, 90, .inl fo)), (q 65, .inl (cJ, 90, .inr (.inl fg))), (q 66, .inl (cI, 9, .inl fk)), (q 7, .inr (7, [.ref (q 33), .ref (q 34), .int (nI dy), .int wk, .int (nI mo), .int mu, .int ke])), (q 33, .inl (cI, 9, .inl fb)), (q 34, .inl (cI, 9, .inl fw)), (q 11, .inr (1, [.ref (q 10), .ref (q 67), .ref (q 68), .ref (q 69), .ref (q 70), .ref (q 71), .ref (q 72), .int (nI gd2), .int (nI gs2)])), (q 67, .inl (cI, 90, .inl g1)), (q 68, .inl (cI, 9, .inl g2)), (q 69, .inl (cI, 10, .inl g3)), (q 12, .inl (cI, 9, .inl ra2)), (q 13, .inl (cI, 9, .inl rc2))])) := by
  refine skM_of pf_X11_isAtRest (Nat.le_of_ble_eq_true rfl) ?_
  intro p e s m below meth c A ls E hP hD hl
  refine skE_el E (fun hx hb hr hml hlocks hin hown hts hK hA => ?_)
  have hown : s.vm.findClass RX11 = some m.cls := hown
  have hS : va_S A s.heap s.heap [] := va_S.rf
  have hl : lv_has ls 3 [(0, .ref x0), (1, .int o)] := hl
  refine lv_aload_n hx hb dX11_isAtRest_0 rfl (lv_at hl 0 rfl) ?_
  refine sk_get (v := .ref (q 11)) (C := RX11) (T := TX11) (N := 18) hx hb hts inlX11 hown hK hP 0 rfl rfl 11 (by decide) w_2_134 rfl dX11_isAtRest_1 ?_
  refine lv_aload_n hx hb dX11_isAtRest_4 rfl (lv_at hl 0 rfl) ?_
  refine sk_get (v := .ref (q 12)) (C := RX11) (T := TX11) (N := 18) hx hb hts inlX11 hown hK hP 0 rfl rfl 12 (by decide) w_2_135 rfl dX11_isAtRest_5 ?_
  refine sk_Vv (q0 := 0) (n := 1) (rest := []) (wr := fmR om_17_3e _) ⟨hx, hb, hml, hown, hts⟩ hl.1 (c_takeFirst l D cI cJ cC cZ cS q dy gs e1 e2 e3 (q 12) ra (by omega) (by omega)) w_4_112 w_4_113 w_4_114 w_1_13 w_4_115 hd_X1_takeFirst_1 ⟨⟨(Nat.le_of_ble_eq_true rfl), (Nat.le_of_ble_eq_true rfl)⟩, (Nat.le_of_ble_eq_true rfl), (Nat.le_of_ble_eq_true rfl)⟩ hK hP hD hS hA (fmT om_17_3e 0) (fmF om_17_3e 0) (fm_C1 rfl rfl) (fm_R rfl rfl) (fm_nT om_17_3e 0) (fm_nF om_17_3e 0) (fm_di om_17_3e 0) rfl rfl rfl rfl (Nat.le_of_ble_eq_true rfl) dX11_isAtRest_8 (fun u H locs hw hP hD hS => ?_)
  refine exE hw (fun ra2_1 hw1 => anE hw1 (fun hra2_2 eu_3 => ?_))
  clear hw hw1
  refine o_mgE (ws' := [(x0, .inr (11, [.ref (q 0), .ref (q 1), .ref (q 2), .ref (q 3), .ref (q 4), .ref (q 5), .ref (q 6), .ref (q 7), .ref (q 8), .ref (q 9), .ref (q 10), .ref (q 11), .ref (q 12), .ref (q 13), .ref (q 14), .int hc, .ref (q 16), .long dr])), (q 10, .inr (9, [.ref (q 61), .ref (q 62), .ref (q 63), .ref (q 64), .ref (q 65), .ref (q 66)])), (q 61, .inl (cI, 90, .inl (fun j => nI (sa j)))), (q 62, .inl (cI, 900, .inl ft)), (q 63, .inl (cI, 90, .inl fa)), (q 64, .inl (cI, 90, .inl fo)), (q 65, .inl (cJ, 90, .inr (.inl fg))), (q 66, .inl (cI, 9, .inl fk)), (q 7, .inr (7, [.ref (q 33), .ref (q 34), .int (nI dy), .int wk, .int (nI mo), .int mu, .int ke])), (q 33, .inl (cI, 9, .inl fb)), (q 34, .inl (cI, 9, .inl fw)), (q 11, .inr (1, [.ref (q 10), .ref (q 67), .ref (q 68), .ref (q 69), .ref (q 70), .ref (q 71), .ref (q 72), .int (nI dy), .int (nI gs)])), (q 67, .inl (cI, 90, .inl e1)), (q 68, .inl (cI, 9, .inl e2)), (q 69, .inl (cI, 10, .inl e3)), (q 12, .inl (cI, 9, .inl ra2_1)), (q 13, .inl (cI, 9, .inl rc))]) eu_3 hP hD rfl (fun hP hD => ?_)
  have h12 := hra2_2
  refine lv_iconst (v := 0) hx hb dX11_isAtRest_11 (by decide) ?_
  refine lv_istore_n (lv' := [(2, .int 0), (0, .ref x0), (1, .int o)]) hx hb dX11_isAtRest_12 rfl hl (by decide) rfl (fun ls hl => ?_)
  have lp_4 : ∀ (n_5 : Nat) (i : Nat) (zd : Nat) (zs : Nat) (b1 : Nat → Int32) (b2 : Nat → Int32) (b3 : Nat → Int32) (bc : Nat → Int32) (H : Heap) (locs : List Loc) (ls : Array Slot), dy - i < n_5 → (i ≤ dy) → (zd ≤ 9) → (zs ≤ 9) → va_P D vwCl [(x0, .inr (11, [.ref (q 0), .ref (q 1), .ref (q 2), .ref (q 3), .ref (q 4), .ref (q 5), .ref (q 6), .ref (q 7), .ref (q 8), .ref (q 9), .ref (q 10), .ref (q 11), .ref (q 12), .ref (q 13), .ref (q 14), .int hc, .ref (q 16), .long dr])), (q 10, .inr (9, [.ref (q 61), .ref (q 62), .ref (q 63), .ref (q 64), .ref (q 65), .ref (q 66)])), (q 61, .inl (cI, 90, .inl (fun j => nI (sa j)))), (q 62, .inl (cI, 900, .inl ft)), (q 63, .inl (cI, 90, .inl fa)), (q 64, .inl (cI, 90, .inl fo)), (q 65, .inl (cJ, 90, .inr (.inl fg))), (q 66, .inl (cI, 9, .inl fk)), (q 7, .inr (7, [.ref (q 33), .ref (q 34), .int (nI dy), .int wk, .int (nI mo), .int mu, .int ke])), (q 33, .inl (cI, 9, .inl fb)), (q 34, .inl (cI, 9, .inl fw)), (q 11, .inr (1, [.ref (q 10), .ref (q 67), .ref (q 68), .ref (q 69), .ref (q 70), .ref (q 71), .ref (q 72), .int (nI zd), .int (nI zs)])), (q 67, .inl (cI, 90, .inl b1)), (q 68, .inl (cI, 9, .inl b2)), (q 69, .inl (cI, 10, .inl b3)), (q 12, .inl (cI, 9, .inl ra2_1)), (q 13, .inl (cI, 9, .inl bc))] H → va_D A [(x0, .inr (11, [.ref (q 0), .ref (q 1), .ref (q 2), .ref (q 3), .ref (q 4), .ref (q 5), .ref (q 6), .ref (q 7), .ref (q 8), .ref (q 9), .ref (q 10), .ref (q 11), .ref (q 12), .ref (q 13), .ref (q 14), .int hc, .ref (q 16), .long dr])), (q 10, .inr (9, [.ref (q 61), .ref (q 62), .ref (q 63), .ref (q 64), .ref (q 65), .ref (q 66)])), (q 61, .inl (cI, 90, .inl (fun j => nI (sa j)))), (q 62, .inl (cI, 900, .inl ft)), (q 63, .inl (cI, 90, .inl fa)), (q 64, .inl (cI, 90, .inl fo)), (q 65, .inl (cJ, 90, .inr (.inl fg))), (q 66, .inl (cI, 9, .inl fk)), (q 7, .inr (7, [.ref (q 33), .ref (q 34), .int (nI dy), .int wk, .int (nI mo), .int mu, .int ke])), (q 33, .inl (cI, 9, .inl fb)), (q 34, .inl (cI, 9, .inl fw)), (q 11, .inr (1, [.ref (q 10), .ref (q 67), .ref (q 68), .ref (q 69), .ref (q 70), .ref (q 71), .ref (q 72), .int (nI zd), .int (nI zs)])), (q 67, .inl (cI, 90, .inl b1)), (q 68, .inl (cI, 9, .inl b2)), (q 69, .inl (cI, 10, .inl b3)), (q 12, .inl (cI, 9, .inl ra2_1)), (q 13, .inl (cI, 9, .inl bc))] → va_S A s.heap H locs → lv_has ls 3 [(2, .int (nI i)), (0, .ref x0), (1, .int o)] → W p l e { frames := 2, cells := 0, slots := 0, locals := 53 } s m ([.ref x0, .int o] : List Value).toArray below meth c H locs 0 0 (MQ below (skI D (skT cI cJ cC cZ cS) (fun (r : Int32) (u : va_W) => ∃ (gd2 : Nat), ∃ (gs2 : Nat), ∃ (b : Nat), ∃ (g1 : Nat → Int32), ∃ (g2 : Nat → Int32), ∃ (g3 : Nat → Int32), ∃ (ra2 : Nat → Int32), ∃ (rc2 : Nat → Int32), gd2 ≤ 9 ∧ gs2 ≤ 9 ∧ b ≤ 1 ∧ r = nI b ∧ u = [(x0, .inr (11, [.ref (q 0), .ref (q 1), .ref (q 2), .ref (q 3), .ref (q 4), .ref (q 5), .ref (q 6), .ref (q 7), .ref (q 8), .ref (q 9), .ref (q 10), .ref (q 11), .ref (q 12), .ref (q 13), .ref (q 14), .int hc, .ref (q 16), .long dr])), (q 10, .inr (9, [.ref (q 61), .ref (q 62), .ref (q 63), .ref (q 64), .ref (q 65), .ref (q 66)])), (q 61, .inl (cI, 90, .inl (fun j => nI (sa j)))), (q 62, .inl (cI, 900, .inl ft)), (q 63, .inl (cI, 90, .inl fa)), (q 64, .inl (cI, 90, .inl fo)), (q 65, .inl (cJ, 90, .inr (.inl fg))), (q 66, .inl (cI, 9, .inl fk)), (q 7, .inr (7, [.ref (q 33), .ref (q 34), .int (nI dy), .int wk, .int (nI mo), .int mu, .int ke])), (q 33, .inl (cI, 9, .inl fb)), (q 34, .inl (cI, 9, .inl fw)), (q 11, .inr (1, [.ref (q 10), .ref (q 67), .ref (q 68), .ref (q 69), .ref (q 70), .ref (q 71), .ref (q 72), .int (nI gd2), .int (nI gs2)])), (q 67, .inl (cI, 90, .inl g1)), (q 68, .inl (cI, 9, .inl g2)), (q 69, .inl (cI, 10, .inl g3)), (q 12, .inl (cI, 9, .inl ra2)), (q 13, .inl (cI, 9, .inl rc2))]) A) ([.ref x0, .int o] : List Value).toArray s 0 0 A) (F0 m 13 ls []) := by
    intro n_5
    induction n_5 with
    | zero => intro i zd zs b1 b2 b3 bc H locs ls hm; exact absurd hm (Nat.not_lt_zero _)
    | succ n_5 ih_lp_4 =>
      intro i zd zs b1 b2 b3 bc H locs ls hm hi hzd hzs hP hD hS hl
      refine lv_iload_n hx hb dX11_isAtRest_13 rfl (lv_at hl 0 rfl) ?_
      refine lv_aload_n hx hb dX11_isAtRest_14 rfl (lv_at hl 1 rfl) ?_
      refine sk_get (v := .ref (q 7)) (C := RX11) (T := TX11) (N := 18) hx hb hts inlX11 hown hK hP 0 rfl rfl 7 (by decide) w_2_130 rfl dX11_isAtRest_15 ?_
      refine sk_get (v := .int (nI dy)) (C := RX7) (T := TX7) (N := 7) hx hb hts inlX7 hown hK hP 8 rfl rfl 2 (by decide) w_2_1 rfl dX11_isAtRest_18 ?_
      refine lv_icmp_ge (tgt := 129) hx hb dX11_isAtRest_21 (by decide) (fun c_6 => ?_) (fun c_6 => ?_)
      · have c_6 : dy ≤ i := (nle dy i (by omega) (by omega)).mp c_6
        refine lv_iconst (v := 1) hx hb dX11_isAtRest_129 (by decide) ?_
        exact sk_iret hx hb hr rfl hlocks hK hP hD hS (⟨zd, zs, 1, b1, b2, b3, ra2_1, bc, by omega, by omega, by omega, rfl, rfl⟩) (Nat.le_of_ble_eq_true rfl) (Nat.le_of_ble_eq_true rfl) dX11_isAtRest_130
      · have c_6 : ¬ (dy ≤ i) := fun h => c_6 ((nle dy i (by omega) (by omega)).mpr h)
        refine lv_aload_n hx hb dX11_isAtRest_24 rfl (lv_at hl 1 rfl) ?_
        refine sk_get (v := .ref (q 7)) (C := RX11) (T := TX11) (N := 18) hx hb hts inlX11 hown hK hP 0 rfl rfl 7 (by decide) w_2_130 rfl dX11_isAtRest_25 ?_
        refine lv_iload_n hx hb dX11_isAtRest_28 rfl (lv_at hl 0 rfl) ?_
        refine sk_Vi (q0 := 0) (n := 1) (rest := []) (wr := fmR om_17_100 _) ⟨hx, hb, hml, hown, hts⟩ hl.1 (c_State_isMute l D cI cJ cC cZ cS (q 7) (q 33) (q 34) dy mo wk mu ke (nI i)) w_3_194 w_3_195 w_3_196 w_1_10 w_3_197 hd_X7_isMute_1 ⟨⟨(Nat.le_of_ble_eq_true rfl), (Nat.le_of_ble_eq_true rfl)⟩, (Nat.le_of_ble_eq_true rfl), (Nat.le_of_ble_eq_true rfl)⟩ hK hP hD hS hA (fmT om_17_100 0) (fmF om_17_100 0) (fm_C1 rfl rfl) (fm_R rfl rfl) (fm_nT om_17_100 0) (fm_nF om_17_100 0) (fm_di om_17_100 0) rfl rfl rfl rfl (Nat.le_of_ble_eq_true rfl) dX11_isAtRest_29 (fun r_8 u H locs hw hP hD hS => ?_)
        refine exE hw (fun b_7 hw1 => anE hw1 (fun hb1_9 hw2 => anE hw2 (fun er_11 eu_10 => ?_)))
        clear hw hw1 hw2
        subst er_11
        refine o_mgE (ws' := [(x0, .inr (11, [.ref (q 0), .ref (q 1), .ref (q 2), .ref (q 3), .ref (q 4), .ref (q 5), .ref (q 6), .ref (q 7), .ref (q 8), .ref (q 9), .ref (q 10), .ref (q 11), .ref (q 12), .ref (q 13), .ref (q 14), .int hc, .ref (q 16), .long dr])), (q 10, .inr (9, [.ref (q 61), .ref (q 62), .ref (q 63), .ref (q 64), .ref (q 65), .ref (q 66)])), (q 61, .inl (cI, 90, .inl (fun j => nI (sa j)))), (q 62, .inl (cI, 900, .inl ft)), (q 63, .inl (cI, 90, .inl fa)), (q 64, .inl (cI, 90, .inl fo)), (q 65, .inl (cJ, 90, .inr (.inl fg))), (q 66, .inl (cI, 9, .inl fk)), (q 7, .inr (7, [.ref (q 33), .ref (q 34), .int (nI dy), .int wk, .int (nI mo), .int mu, .int ke])), (q 33, .inl (cI, 9, .inl fb)), (q 34, .inl (cI, 9, .inl fw)), (q 11, .inr (1, [.ref (q 10), .ref (q 67), .ref (q 68), .ref (q 69), .ref (q 70), .ref (q 71), .ref (q 72), .int (nI zd), .int (nI zs)])), (q 67, .inl (cI, 90, .inl b1)), (q 68, .inl (cI, 9, .inl b2)), (q 69, .inl (cI, 10, .inl b3)), (q 12, .inl (cI, 9, .inl ra2_1)), (q 13, .inl (cI, 9, .inl bc))]) eu_10 hP hD rfl (fun hP hD => ?_)
        refine lv_if_eq (tgt := 38) hx hb dX11_isAtRest_32 (by decide) (fun c_12 => ?_) (fun c_12 => ?_)
        · have c_12 : b_7 = 0 := (neq b_7 0 (by omega) (by omega)).mp c_12
          refine lv_aload_n hx hb dX11_isAtRest_38 rfl (lv_at hl 1 rfl) ?_
          refine sk_get (v := .ref (q 11)) (C := RX11) (T := TX11) (N := 18) hx hb hts inlX11 hown hK hP 0 rfl rfl 11 (by decide) w_2_134 rfl dX11_isAtRest_39 ?_
          refine lv_aload_n hx hb dX11_isAtRest_42 rfl (lv_at hl 1 rfl) ?_
          refine sk_get (v := .ref (q 7)) (C := RX11) (T := TX11) (N := 18) hx hb hts inlX11 hown hK hP 0 rfl rfl 7 (by decide) w_2_130 rfl dX11_isAtRest_43 ?_
          refine lv_iload_n hx hb dX11_isAtRest_46 rfl (lv_at hl 2 rfl) ?_
          refine lv_iconst (v := 1) hx hb dX11_isAtRest_47 (by decide) ?_
          refine lv_iload_n hx hb dX11_isAtRest_48 rfl (lv_at hl 0 rfl) ?_
          refine lv_ishl hx hb dX11_isAtRest_49 ?_
          refine lv_topi (fun v_13 ev_13 => ?_)
          refine lv_ixor hx hb dX11_isAtRest_50 ?_
          refine lv_topi (fun v_14 ev_14 => ?_)
          refine lv_iconst (v := 0) hx hb dX11_isAtRest_51 (by decide) ?_
          refine sk_Vv (q0 := 0) (n := 3) (rest := []) (wr := fmR om_17_f938 _) ⟨hx, hb, hml, hown, hts⟩ hl.1 (c_lay l D cI cJ cC cZ cS q zd zs b1 b2 sa ft fa fo (q 7) (q 33) (q 34) dy mo wk mu ke fb fw 0 v_14 hsa (by omega) (by omega) (by omega)) w_4_47 w_4_48 w_4_49 w_1_13 w_4_50 hd_X1_lay_3 ⟨⟨(Nat.le_of_ble_eq_true rfl), (Nat.le_of_ble_eq_true rfl)⟩, (Nat.le_of_ble_eq_true rfl), (Nat.le_of_ble_eq_true rfl)⟩ hK hP hD hS hA [11, 12, 13, 1, 2, 3, 4, 5, 8] (fmF om_17_f938 0) rfl (fm_R rfl rfl) (by decide +kernel) (fm_nF om_17_f938 0) (by decide +kernel) rfl rfl rfl rfl (Nat.le_of_ble_eq_true rfl) dX11_isAtRest_52 (fun u H locs hw hP hD hS => ?_)
          refine exE hw (fun g1_15 hw1 => exE hw1 (fun g2_16 eu_17 => ?_))
          clear hw hw1
          refine o_mgqE (ux := [(q 10, .inr (9, [.ref (q 61), .ref (q 62), .ref (q 63), .ref (q 64), .ref (q 65), .ref (q 66)])), (q 61, .inl (cI, 90, .inl (fun j => nI (sa j)))), (q 62, .inl (cI, 900, .inl ft)), (q 63, .inl (cI, 90, .inl fa)), (q 64, .inl (cI, 90, .inl fo)), (q 7, .inr (7, [.ref (q 33), .ref (q 34), .int (nI dy), .int wk, .int (nI mo), .int mu, .int ke])), (q 11, .inr (1, [.ref (q 10), .ref (q 67), .ref (q 68), .ref (q 69), .ref (q 70), .ref (q 71), .ref (q 72), .int (nI dy), .int (nI mo)])), (q 67, .inl (cI, 90, .inl g1_15)), (q 68, .inl (cI, 9, .inl g2_16))]) (ws' := [(x0, .inr (11, [.ref (q 0), .ref (q 1), .ref (q 2), .ref (q 3), .ref (q 4), .ref (q 5), .ref (q 6), .ref (q 7), .ref (q 8), .ref (q 9), .ref (q 10), .ref (q 11), .ref (q 12), .ref (q 13), .ref (q 14), .int hc, .ref (q 16), .long dr])), (q 10, .inr (9, [.ref (q 61), .ref (q 62), .ref (q 63), .ref (q 64), .ref (q 65), .ref (q 66)])), (q 61, .inl (cI, 90, .inl (fun j => nI (sa j)))), (q 62, .inl (cI, 900, .inl ft)), (q 63, .inl (cI, 90, .inl fa)), (q 64, .inl (cI, 90, .inl fo)), (q 65, .inl (cJ, 90, .inr (.inl fg))), (q 66, .inl (cI, 9, .inl fk)), (q 7, .inr (7, [.ref (q 33), .ref (q 34), .int (nI dy), .int wk, .int (nI mo), .int mu, .int ke])), (q 33, .inl (cI, 9, .inl fb)), (q 34, .inl (cI, 9, .inl fw)), (q 11, .inr (1, [.ref (q 10), .ref (q 67), .ref (q 68), .ref (q 69), .ref (q 70), .ref (q 71), .ref (q 72), .int (nI dy), .int (nI mo)])), (q 67, .inl (cI, 90, .inl g1_15)), (q 68, .inl (cI, 9, .inl g2_16)), (q 69, .inl (cI, 10, .inl b3)), (q 12, .inl (cI, 9, .inl ra2_1)), (q 13, .inl (cI, 9, .inl bc))]) eu_17 [3, 4, 5, 6, 7, 8, 0, 1, 2] (by decide +kernel) rfl hP hD rfl (fun hP hD => ?_)
          refine lv_aload_n hx hb dX11_isAtRest_55 rfl (lv_at hl 1 rfl) ?_
          refine sk_get (v := .ref (q 11)) (C := RX11) (T := TX11) (N := 18) hx hb hts inlX11 hown hK hP 0 rfl rfl 11 (by decide) w_2_134 rfl dX11_isAtRest_56 ?_
          refine sk_Vi (q0 := 0) (n := 0) (rest := []) (wr := fmR om_17_3c _) ⟨hx, hb, hml, hown, hts⟩ hl.1 (c_settle l D cI cJ cC cZ cS q dy mo g1_15 g2_16 b3 (by omega) (by omega)) w_4_53 w_4_54 w_4_55 w_1_13 w_4_56 hd_X1_settle_0 ⟨⟨(Nat.le_of_ble_eq_true rfl), (Nat.le_of_ble_eq_true rfl)⟩, (Nat.le_of_ble_eq_true rfl), (Nat.le_of_ble_eq_true rfl)⟩ hK hP hD hS hA (fmT om_17_3c 0) (fmF om_17_3c 0) (fm_C1 rfl rfl) (fm_R rfl rfl) (fm_nT om_17_3c 0) (fm_nF om_17_3c 0) (fm_di om_17_3c 0) rfl rfl rfl rfl (Nat.le_of_ble_eq_true rfl) dX11_isAtRest_59 (fun r_20 u H locs hw hP hD hS => ?_)
          refine exE hw (fun b_18 hw1 => exE hw1 (fun g3_19 hw2 => anE hw2 (fun hb1_21 hw3 => anE hw3 (fun er_23 eu_22 => ?_))))
          clear hw hw1 hw2 hw3
          subst er_23
          refine o_mgE (ws' := [(x0, .inr (11, [.ref (q 0), .ref (q 1), .ref (q 2), .ref (q 3), .ref (q 4), .ref (q 5), .ref (q 6), .ref (q 7), .ref (q 8), .ref (q 9), .ref (q 10), .ref (q 11), .ref (q 12), .ref (q 13), .ref (q 14), .int hc, .ref (q 16), .long dr])), (q 10, .inr (9, [.ref (q 61), .ref (q 62), .ref (q 63), .ref (q 64), .ref (q 65), .ref (q 66)])), (q 61, .inl (cI, 90, .inl (fun j => nI (sa j)))), (q 62, .inl (cI, 900, .inl ft)), (q 63, .inl (cI, 90, .inl fa)), (q 64, .inl (cI, 90, .inl fo)), (q 65, .inl (cJ, 90, .inr (.inl fg))), (q 66, .inl (cI, 9, .inl fk)), (q 7, .inr (7, [.ref (q 33), .ref (q 34), .int (nI dy), .int wk, .int (nI mo), .int mu, .int ke])), (q 33, .inl (cI, 9, .inl fb)), (q 34, .inl (cI, 9, .inl fw)), (q 11, .inr (1, [.ref (q 10), .ref (q 67), .ref (q 68), .ref (q 69), .ref (q 70), .ref (q 71), .ref (q 72), .int (nI dy), .int (nI mo)])), (q 67, .inl (cI, 90, .inl g1_15)), (q 68, .inl (cI, 9, .inl g2_16)), (q 69, .inl (cI, 10, .inl g3_19)), (q 12, .inl (cI, 9, .inl ra2_1)), (q 13, .inl (cI, 9, .inl bc))]) eu_22 hP hD rfl (fun hP hD => ?_)
          refine lv_if_ne (tgt := 68) hx hb dX11_isAtRest_62 (by decide) (fun c_24 => ?_) (fun c_24 => ?_)
          · have c_24 : ¬ (b_18 = 0) := fun h => c_24 ((neq b_18 0 (by omega) (by omega)).mpr h)
            refine lv_aload_n hx hb dX11_isAtRest_68 rfl (lv_at hl 1 rfl) ?_
            refine sk_get (v := .ref (q 11)) (C := RX11) (T := TX11) (N := 18) hx hb hts inlX11 hown hK hP 0 rfl rfl 11 (by decide) w_2_134 rfl dX11_isAtRest_69 ?_
            refine lv_aload_n hx hb dX11_isAtRest_72 rfl (lv_at hl 1 rfl) ?_
            refine sk_get (v := .ref (q 13)) (C := RX11) (T := TX11) (N := 18) hx hb hts inlX11 hown hK hP 0 rfl rfl 13 (by decide) w_2_136 rfl dX11_isAtRest_73 ?_
            refine sk_Vv (q0 := 0) (n := 1) (rest := []) (wr := fmR om_17_3d _) ⟨hx, hb, hml, hown, hts⟩ hl.1 (c_takeFirst l D cI cJ cC cZ cS q dy mo g1_15 g2_16 g3_19 (q 13) bc (by omega) (by omega)) w_4_112 w_4_113 w_4_114 w_1_13 w_4_115 hd_X1_takeFirst_1 ⟨⟨(Nat.le_of_ble_eq_true rfl), (Nat.le_of_ble_eq_true rfl)⟩, (Nat.le_of_ble_eq_true rfl), (Nat.le_of_ble_eq_true rfl)⟩ hK hP hD hS hA (fmT om_17_3d 0) (fmF om_17_3d 0) (fm_C1 rfl rfl) (fm_R rfl rfl) (fm_nT om_17_3d 0) (fm_nF om_17_3d 0) (fm_di om_17_3d 0) rfl rfl rfl rfl (Nat.le_of_ble_eq_true rfl) dX11_isAtRest_76 (fun u H locs hw hP hD hS => ?_)
            refine exE hw (fun ra2_25 hw1 => anE hw1 (fun hra2_26 eu_27 => ?_))
            clear hw hw1
            refine o_mgE (ws' := [(x0, .inr (11, [.ref (q 0), .ref (q 1), .ref (q 2), .ref (q 3), .ref (q 4), .ref (q 5), .ref (q 6), .ref (q 7), .ref (q 8), .ref (q 9), .ref (q 10), .ref (q 11), .ref (q 12), .ref (q 13), .ref (q 14), .int hc, .ref (q 16), .long dr])), (q 10, .inr (9, [.ref (q 61), .ref (q 62), .ref (q 63), .ref (q 64), .ref (q 65), .ref (q 66)])), (q 61, .inl (cI, 90, .inl (fun j => nI (sa j)))), (q 62, .inl (cI, 900, .inl ft)), (q 63, .inl (cI, 90, .inl fa)), (q 64, .inl (cI, 90, .inl fo)), (q 65, .inl (cJ, 90, .inr (.inl fg))), (q 66, .inl (cI, 9, .inl fk)), (q 7, .inr (7, [.ref (q 33), .ref (q 34), .int (nI dy), .int wk, .int (nI mo), .int mu, .int ke])), (q 33, .inl (cI, 9, .inl fb)), (q 34, .inl (cI, 9, .inl fw)), (q 11, .inr (1, [.ref (q 10), .ref (q 67), .ref (q 68), .ref (q 69), .ref (q 70), .ref (q 71), .ref (q 72), .int (nI dy), .int (nI mo)])), (q 67, .inl (cI, 90, .inl g1_15)), (q 68, .inl (cI, 9, .inl g2_16)), (q 69, .inl (cI, 10, .inl g3_19)), (q 12, .inl (cI, 9, .inl ra2_1)), (q 13, .inl (cI, 9, .inl ra2_25))]) eu_27 hP hD rfl (fun hP hD => ?_)
            refine lv_aload_n hx hb dX11_isAtRest_79 rfl (lv_at hl 1 rfl) ?_
            refine sk_get (v := .ref (q 10)) (C := RX11) (T := TX11) (N := 18) hx hb hts inlX11 hown hK hP 0 rfl rfl 10 (by decide) w_2_133 rfl dX11_isAtRest_80 ?_
            refine sk_get (v := .ref (q 65)) (C := RX9) (T := TX9) (N := 6) hx hb hts inlX9 hown hK hP 1 rfl rfl 4 (by decide) w_2_74 rfl dX11_isAtRest_83 ?_
            refine lv_iload_n hx hb dX11_isAtRest_86 rfl (lv_at hl 0 rfl) ?_
            refine lv_bipush (v := 10) hx hb dX11_isAtRest_87 (by decide) ?_
            refine lv_imul hx hb dX11_isAtRest_89 ?_
            refine sk_top (nI (i * 10)) (nmul i 10) ?_
            refine lv_aload_n hx hb dX11_isAtRest_90 rfl (lv_at hl 1 rfl) ?_
            refine sk_get (v := .ref (q 13)) (C := RX11) (T := TX11) (N := 18) hx hb hts inlX11 hown hK hP 0 rfl rfl 13 (by decide) w_2_136 rfl dX11_isAtRest_91 ?_
            refine lv_iload_n hx hb dX11_isAtRest_94 rfl (lv_at hl 0 rfl) ?_
            refine va_iald hx hb hK.1 hP 16 0 rfl rfl (vin i 9 (by omega) (by omega)) dX11_isAtRest_95 ?_
            obtain ⟨k_28, hk_28, ek_28⟩ := rowOk_at (i := i) hra2_26 (by omega) (by omega)
            refine sk_top (nI k_28) ek_28 ?_
            refine lv_iadd hx hb dX11_isAtRest_96 ?_
            refine sk_top (nI (i * 10 + k_28)) (nI_add (i * 10) k_28) ?_
            refine va_lald hx hb hK.1 hP 6 1 rfl rfl (vin (i * 10 + k_28) 90 (by omega) (by omega)) dX11_isAtRest_97 ?_
            refine lv_topl (fun v_29 ev_29 => ?_)
            refine lv_aload_n hx hb dX11_isAtRest_98 rfl (lv_at hl 1 rfl) ?_
            refine sk_get (v := .ref (q 10)) (C := RX11) (T := TX11) (N := 18) hx hb hts inlX11 hown hK hP 0 rfl rfl 10 (by decide) w_2_133 rfl dX11_isAtRest_99 ?_
            refine sk_get (v := .ref (q 65)) (C := RX9) (T := TX9) (N := 6) hx hb hts inlX9 hown hK hP 1 rfl rfl 4 (by decide) w_2_74 rfl dX11_isAtRest_102 ?_
            refine lv_iload_n hx hb dX11_isAtRest_105 rfl (lv_at hl 0 rfl) ?_
            refine lv_bipush (v := 10) hx hb dX11_isAtRest_106 (by decide) ?_
            refine lv_imul hx hb dX11_isAtRest_108 ?_
            refine sk_top (nI (i * 10)) (nmul i 10) ?_
            refine lv_aload_n hx hb dX11_isAtRest_109 rfl (lv_at hl 1 rfl) ?_
            refine sk_get (v := .ref (q 12)) (C := RX11) (T := TX11) (N := 18) hx hb hts inlX11 hown hK hP 0 rfl rfl 12 (by decide) w_2_135 rfl dX11_isAtRest_110 ?_
            refine lv_iload_n hx hb dX11_isAtRest_113 rfl (lv_at hl 0 rfl) ?_
            refine va_iald hx hb hK.1 hP 15 0 rfl rfl (vin i 9 (by omega) (by omega)) dX11_isAtRest_114 ?_
            obtain ⟨k_30, hk_30, ek_30⟩ := rowOk_at (i := i) h12 (by omega) (by omega)
            refine sk_top (nI k_30) ek_30 ?_
            refine lv_iadd hx hb dX11_isAtRest_115 ?_
            refine sk_top (nI (i * 10 + k_30)) (nI_add (i * 10) k_30) ?_
            refine va_lald hx hb hK.1 hP 6 1 rfl rfl (vin (i * 10 + k_30) 90 (by omega) (by omega)) dX11_isAtRest_116 ?_
            refine lv_topl (fun v_31 ev_31 => ?_)
            refine W.lcmp hx hb dX11_isAtRest_117 ?_
            refine lv_if_le (tgt := 123) hx hb dX11_isAtRest_118 (by decide) (fun c_32 => ?_) (fun c_32 => ?_)
            · skip
              refine lv_iinc (v := nI (i + 1)) (lv' := [(2, .int (nI (i + 1))), (0, .ref x0), (1, .int o)]) hx hb dX11_isAtRest_123 hl (k := 0) rfl (ninc i 1 (by decide)) (by decide) rfl (fun ls hl => ?_)
              refine lv_goto (tgt := 13) hx hb dX11_isAtRest_126 (by decide) ?_
              exact ih_lp_4 (i + 1) dy mo g1_15 g2_16 g3_19 ra2_25 _ _ _ (by omega) (by omega) (by omega) (by omega) hP hD hS (lv_sub hl [0, 1, 2] rfl)
            · skip
              refine lv_iconst (v := 0) hx hb dX11_isAtRest_121 (by decide) ?_
              exact sk_iret hx hb hr rfl hlocks hK hP hD hS (⟨dy, mo, 0, g1_15, g2_16, g3_19, ra2_1, ra2_25, by omega, by omega, by omega, rfl, rfl⟩) (Nat.le_of_ble_eq_true rfl) (Nat.le_of_ble_eq_true rfl) dX11_isAtRest_122
          · have c_24 : b_18 = 0 := (neq b_18 0 (by omega) (by omega)).mp c_24
            refine lv_goto (tgt := 123) hx hb dX11_isAtRest_65 (by decide) ?_
            refine lv_iinc (v := nI (i + 1)) (lv' := [(2, .int (nI (i + 1))), (0, .ref x0), (1, .int o)]) hx hb dX11_isAtRest_123 hl (k := 0) rfl (ninc i 1 (by decide)) (by decide) rfl (fun ls hl => ?_)
            refine lv_goto (tgt := 13) hx hb dX11_isAtRest_126 (by decide) ?_
            exact ih_lp_4 (i + 1) dy mo g1_15 g2_16 g3_19 bc _ _ _ (by omega) (by omega) (by omega) (by omega) hP hD hS (lv_sub hl [0, 1, 2] rfl)
        · have c_12 : ¬ (b_7 = 0) := fun h => c_12 ((neq b_7 0 (by omega) (by omega)).mpr h)
          refine lv_goto (tgt := 123) hx hb dX11_isAtRest_35 (by decide) ?_
          refine lv_iinc (v := nI (i + 1)) (lv' := [(2, .int (nI (i + 1))), (0, .ref x0), (1, .int o)]) hx hb dX11_isAtRest_123 hl (k := 0) rfl (ninc i 1 (by decide)) (by decide) rfl (fun ls hl => ?_)
          refine lv_goto (tgt := 13) hx hb dX11_isAtRest_126 (by decide) ?_
          exact ih_lp_4 (i + 1) zd zs b1 b2 b3 bc _ _ _ (by omega) (by omega) (by omega) (by omega) hP hD hS (lv_sub hl [0, 1, 2] rfl)
  exact lp_4 (dy - 0 + 1) 0 dy gs e1 e2 e3 rc _ _ _ (Nat.lt_succ_self _) (by omega) (by omega) (by omega) hP hD hS (lv_sub hl [0, 1, 2] rfl)
