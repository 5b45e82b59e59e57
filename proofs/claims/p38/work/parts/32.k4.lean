theorem kz_0 {n : Nat} (h : lg_cmp (Int64.ofNat n) 0 = 0) (hn : n < 9223372036854775808) : n = 0 := by
  have h1 := (lg_cmp_eq _ _).mp h
  have h2 := kofn_int hn
  rw [h1] at h2
  have e0 : (0 : Int64).toInt = 0 := rfl
  omega
theorem kz_1 {n : Nat} (h : ¬ lg_cmp (Int64.ofNat n) 0 = 0) : 0 < n := Nat.pos_of_ne_zero (fun q => h (by rw [q]; rfl))
theorem dg_X11_passByChance_0_0 : bqL cX11_passByChance 0 [(0, [3]), (1, [60]), (2, [27]), (3, [42]), (4, [180, 0, 59]), (7, [180, 0, 144]), (10, [162, 0, 73]), (83, [42]), (84, [42]), (85, [180, 0, 59]), (88, [182, 0, 208]), (91, [87]), (92, [42]), (93, [180, 0, 85]), (96, [182, 0, 212]), (99, [64]), (100, [31]), (101, [9]), (102, [148]), (103, [154, 0, 5]), (108, [42]), (109, [180, 0, 85]), (112, [42]), (113, [31]), (114, [182, 1, 91]), (117, [42]), (118, [180, 0, 89]), (121, [182, 1, 70]), (124, [42]), (125, [31]), (126, [182, 1, 32]), (129, [4]), (130, [172]), (106, [3]), (107, [172]), (13, [42]), (14, [20, 1, 89]), (17, [182, 1, 91]), (20, [42]), (21, [180, 0, 49])] = true := by decide +kernel
theorem dX11_passByChance_0 : decode cX11_passByChance 0 = .ok (.iconst 0, 1) := q_iconst0 (bat_get dg_X11_passByChance_0_0 0 rfl rfl)
theorem dX11_passByChance_1 : decode cX11_passByChance 1 = .ok (.istore_n 1, 1) := q_istore_n1 (bat_get dg_X11_passByChance_0_0 1 rfl rfl)
theorem dX11_passByChance_2 : decode cX11_passByChance 2 = .ok (.iload_n 1, 1) := q_iload_n1 (bat_get dg_X11_passByChance_0_0 2 rfl rfl)
theorem dX11_passByChance_3 : decode cX11_passByChance 3 = .ok (.aload_n 0, 1) := q_aload_n0 (bat_get dg_X11_passByChance_0_0 3 rfl rfl)
theorem dX11_passByChance_4 : decode cX11_passByChance 4 = .ok (.getfield 59, 3) := q_getfield (bat_get dg_X11_passByChance_0_0 4 rfl rfl) rfl
theorem dX11_passByChance_7 : decode cX11_passByChance 7 = .ok (.getfield 144, 3) := q_getfield (bat_get dg_X11_passByChance_0_0 5 rfl rfl) rfl
theorem dX11_passByChance_10 : decode cX11_passByChance 10 = .ok (.if_icmp .ge 73, 3) := q_if_icmp_ge (bat_get dg_X11_passByChance_0_0 6 rfl rfl) rfl
theorem dX11_passByChance_83 : decode cX11_passByChance 83 = .ok (.aload_n 0, 1) := q_aload_n0 (bat_get dg_X11_passByChance_0_0 7 rfl rfl)
theorem dX11_passByChance_84 : decode cX11_passByChance 84 = .ok (.aload_n 0, 1) := q_aload_n0 (bat_get dg_X11_passByChance_0_0 8 rfl rfl)
theorem dX11_passByChance_85 : decode cX11_passByChance 85 = .ok (.getfield 59, 3) := q_getfield (bat_get dg_X11_passByChance_0_0 9 rfl rfl) rfl
theorem dX11_passByChance_88 : decode cX11_passByChance 88 = .ok (.invokevirtual 208, 3) := q_invokevirtual (bat_get dg_X11_passByChance_0_0 10 rfl rfl) rfl
theorem dX11_passByChance_91 : decode cX11_passByChance 91 = .ok (.pop, 1) := q_pop (bat_get dg_X11_passByChance_0_0 11 rfl rfl)
theorem dX11_passByChance_92 : decode cX11_passByChance 92 = .ok (.aload_n 0, 1) := q_aload_n0 (bat_get dg_X11_passByChance_0_0 12 rfl rfl)
theorem dX11_passByChance_93 : decode cX11_passByChance 93 = .ok (.getfield 85, 3) := q_getfield (bat_get dg_X11_passByChance_0_0 13 rfl rfl) rfl
theorem dX11_passByChance_96 : decode cX11_passByChance 96 = .ok (.invokevirtual 212, 3) := q_invokevirtual (bat_get dg_X11_passByChance_0_0 14 rfl rfl) rfl
theorem dX11_passByChance_99 : decode cX11_passByChance 99 = .ok (.lstore_n 1, 1) := q_lstore_n1 (bat_get dg_X11_passByChance_0_0 15 rfl rfl)
theorem dX11_passByChance_100 : decode cX11_passByChance 100 = .ok (.lload_n 1, 1) := q_lload_n1 (bat_get dg_X11_passByChance_0_0 16 rfl rfl)
theorem dX11_passByChance_101 : decode cX11_passByChance 101 = .ok (.lconst 0, 1) := q_lconst0 (bat_get dg_X11_passByChance_0_0 17 rfl rfl)
theorem dX11_passByChance_102 : decode cX11_passByChance 102 = .ok (.lcmp, 1) := q_lcmp (bat_get dg_X11_passByChance_0_0 18 rfl rfl)
theorem dX11_passByChance_103 : decode cX11_passByChance 103 = .ok (.ifCond .ne 5, 3) := q_ifCond_ne (bat_get dg_X11_passByChance_0_0 19 rfl rfl) rfl
theorem dX11_passByChance_108 : decode cX11_passByChance 108 = .ok (.aload_n 0, 1) := q_aload_n0 (bat_get dg_X11_passByChance_0_0 20 rfl rfl)
theorem dX11_passByChance_109 : decode cX11_passByChance 109 = .ok (.getfield 85, 3) := q_getfield (bat_get dg_X11_passByChance_0_0 21 rfl rfl) rfl
theorem dX11_passByChance_112 : decode cX11_passByChance 112 = .ok (.aload_n 0, 1) := q_aload_n0 (bat_get dg_X11_passByChance_0_0 22 rfl rfl)
theorem dX11_passByChance_113 : decode cX11_passByChance 113 = .ok (.lload_n 1, 1) := q_lload_n1 (bat_get dg_X11_passByChance_0_0 23 rfl rfl)
theorem dX11_passByChance_114 : decode cX11_passByChance 114 = .ok (.invokevirtual 347, 3) := q_invokevirtual (bat_get dg_X11_passByChance_0_0 24 rfl rfl) rfl
theorem dX11_passByChance_117 : decode cX11_passByChance 117 = .ok (.aload_n 0, 1) := q_aload_n0 (bat_get dg_X11_passByChance_0_0 25 rfl rfl)
theorem dX11_passByChance_118 : decode cX11_passByChance 118 = .ok (.getfield 89, 3) := q_getfield (bat_get dg_X11_passByChance_0_0 26 rfl rfl) rfl
theorem dX11_passByChance_121 : decode cX11_passByChance 121 = .ok (.invokevirtual 326, 3) := q_invokevirtual (bat_get dg_X11_passByChance_0_0 27 rfl rfl) rfl
theorem dX11_passByChance_124 : decode cX11_passByChance 124 = .ok (.aload_n 0, 1) := q_aload_n0 (bat_get dg_X11_passByChance_0_0 28 rfl rfl)
theorem dX11_passByChance_125 : decode cX11_passByChance 125 = .ok (.lload_n 1, 1) := q_lload_n1 (bat_get dg_X11_passByChance_0_0 29 rfl rfl)
theorem dX11_passByChance_126 : decode cX11_passByChance 126 = .ok (.invokevirtual 288, 3) := q_invokevirtual (bat_get dg_X11_passByChance_0_0 30 rfl rfl) rfl
theorem dX11_passByChance_129 : decode cX11_passByChance 129 = .ok (.iconst 1, 1) := q_iconst1 (bat_get dg_X11_passByChance_0_0 31 rfl rfl)
theorem dX11_passByChance_130 : decode cX11_passByChance 130 = .ok (.ireturn, 1) := q_ireturn (bat_get dg_X11_passByChance_0_0 32 rfl rfl)
theorem dX11_passByChance_106 : decode cX11_passByChance 106 = .ok (.iconst 0, 1) := q_iconst0 (bat_get dg_X11_passByChance_0_0 33 rfl rfl)
theorem dX11_passByChance_107 : decode cX11_passByChance 107 = .ok (.ireturn, 1) := q_ireturn (bat_get dg_X11_passByChance_0_0 34 rfl rfl)
theorem dX11_passByChance_13 : decode cX11_passByChance 13 = .ok (.aload_n 0, 1) := q_aload_n0 (bat_get dg_X11_passByChance_0_0 35 rfl rfl)
theorem dX11_passByChance_14 : decode cX11_passByChance 14 = .ok (.ldc2_w 345, 3) := q_ldc2_w (bat_get dg_X11_passByChance_0_0 36 rfl rfl) rfl
theorem dX11_passByChance_17 : decode cX11_passByChance 17 = .ok (.invokevirtual 347, 3) := q_invokevirtual (bat_get dg_X11_passByChance_0_0 37 rfl rfl) rfl
theorem dX11_passByChance_20 : decode cX11_passByChance 20 = .ok (.aload_n 0, 1) := q_aload_n0 (bat_get dg_X11_passByChance_0_0 38 rfl rfl)
theorem dX11_passByChance_21 : decode cX11_passByChance 21 = .ok (.getfield 49, 3) := q_getfield (bat_get dg_X11_passByChance_0_0 39 rfl rfl) rfl
theorem dg_X11_passByChance_24_24 : bqL cX11_passByChance 24 [(0, [180, 1, 95]), (3, [133]), (4, [148]), (5, [156, 0, 31]), (36, [42]), (37, [180, 0, 59]), (40, [180, 0, 173]), (43, [27]), (44, [42]), (45, [20, 1, 103]), (48, [182, 1, 91]), (51, [136]), (52, [79]), (53, [132, 1, 1]), (56, [167, 255, 178]), (8, [42]), (9, [180, 0, 59]), (12, [180, 0, 176]), (15, [27]), (16, [42]), (17, [180, 0, 59]), (20, [180, 0, 176]), (23, [27]), (24, [46]), (25, [4]), (26, [96]), (27, [16, 9]), (29, [184, 1, 98]), (32, [79]), (33, [167, 0, 20])] = true := by decide +kernel
theorem dX11_passByChance_24 : decode cX11_passByChance 24 = .ok (.getfield 351, 3) := q_getfield (bat_get dg_X11_passByChance_24_24 0 rfl rfl) rfl
theorem dX11_passByChance_27 : decode cX11_passByChance 27 = .ok (.i2l, 1) := q_i2l (bat_get dg_X11_passByChance_24_24 1 rfl rfl)
theorem dX11_passByChance_28 : decode cX11_passByChance 28 = .ok (.lcmp, 1) := q_lcmp (bat_get dg_X11_passByChance_24_24 2 rfl rfl)
theorem dX11_passByChance_29 : decode cX11_passByChance 29 = .ok (.ifCond .ge 31, 3) := q_ifCond_ge (bat_get dg_X11_passByChance_24_24 3 rfl rfl) rfl
theorem dX11_passByChance_60 : decode cX11_passByChance 60 = .ok (.aload_n 0, 1) := q_aload_n0 (bat_get dg_X11_passByChance_24_24 4 rfl rfl)
theorem dX11_passByChance_61 : decode cX11_passByChance 61 = .ok (.getfield 59, 3) := q_getfield (bat_get dg_X11_passByChance_24_24 5 rfl rfl) rfl
theorem dX11_passByChance_64 : decode cX11_passByChance 64 = .ok (.getfield 173, 3) := q_getfield (bat_get dg_X11_passByChance_24_24 6 rfl rfl) rfl
theorem dX11_passByChance_67 : decode cX11_passByChance 67 = .ok (.iload_n 1, 1) := q_iload_n1 (bat_get dg_X11_passByChance_24_24 7 rfl rfl)
theorem dX11_passByChance_68 : decode cX11_passByChance 68 = .ok (.aload_n 0, 1) := q_aload_n0 (bat_get dg_X11_passByChance_24_24 8 rfl rfl)
theorem dX11_passByChance_69 : decode cX11_passByChance 69 = .ok (.ldc2_w 359, 3) := q_ldc2_w (bat_get dg_X11_passByChance_24_24 9 rfl rfl) rfl
theorem dX11_passByChance_72 : decode cX11_passByChance 72 = .ok (.invokevirtual 347, 3) := q_invokevirtual (bat_get dg_X11_passByChance_24_24 10 rfl rfl) rfl
theorem dX11_passByChance_75 : decode cX11_passByChance 75 = .ok (.l2i, 1) := q_l2i (bat_get dg_X11_passByChance_24_24 11 rfl rfl)
theorem dX11_passByChance_76 : decode cX11_passByChance 76 = .ok (.iastore, 1) := q_iastore (bat_get dg_X11_passByChance_24_24 12 rfl rfl)
theorem dX11_passByChance_77 : decode cX11_passByChance 77 = .ok (.iinc 1 1, 3) := q_iinc (bat_get dg_X11_passByChance_24_24 13 rfl rfl) rfl
theorem dX11_passByChance_80 : decode cX11_passByChance 80 = .ok (.goto (-78), 3) := q_goto (bat_get dg_X11_passByChance_24_24 14 rfl rfl) rfl
theorem dX11_passByChance_32 : decode cX11_passByChance 32 = .ok (.aload_n 0, 1) := q_aload_n0 (bat_get dg_X11_passByChance_24_24 15 rfl rfl)
theorem dX11_passByChance_33 : decode cX11_passByChance 33 = .ok (.getfield 59, 3) := q_getfield (bat_get dg_X11_passByChance_24_24 16 rfl rfl) rfl
theorem dX11_passByChance_36 : decode cX11_passByChance 36 = .ok (.getfield 176, 3) := q_getfield (bat_get dg_X11_passByChance_24_24 17 rfl rfl) rfl
theorem dX11_passByChance_39 : decode cX11_passByChance 39 = .ok (.iload_n 1, 1) := q_iload_n1 (bat_get dg_X11_passByChance_24_24 18 rfl rfl)
theorem dX11_passByChance_40 : decode cX11_passByChance 40 = .ok (.aload_n 0, 1) := q_aload_n0 (bat_get dg_X11_passByChance_24_24 19 rfl rfl)
theorem dX11_passByChance_41 : decode cX11_passByChance 41 = .ok (.getfield 59, 3) := q_getfield (bat_get dg_X11_passByChance_24_24 20 rfl rfl) rfl
theorem dX11_passByChance_44 : decode cX11_passByChance 44 = .ok (.getfield 176, 3) := q_getfield (bat_get dg_X11_passByChance_24_24 21 rfl rfl) rfl
theorem dX11_passByChance_47 : decode cX11_passByChance 47 = .ok (.iload_n 1, 1) := q_iload_n1 (bat_get dg_X11_passByChance_24_24 22 rfl rfl)
theorem dX11_passByChance_48 : decode cX11_passByChance 48 = .ok (.iaload, 1) := q_iaload (bat_get dg_X11_passByChance_24_24 23 rfl rfl)
theorem dX11_passByChance_49 : decode cX11_passByChance 49 = .ok (.iconst 1, 1) := q_iconst1 (bat_get dg_X11_passByChance_24_24 24 rfl rfl)
theorem dX11_passByChance_50 : decode cX11_passByChance 50 = .ok (.iadd, 1) := q_iadd (bat_get dg_X11_passByChance_24_24 25 rfl rfl)
theorem dX11_passByChance_51 : decode cX11_passByChance 51 = .ok (.bipush 9, 2) := q_bipush (bat_get dg_X11_passByChance_24_24 26 rfl rfl) rfl
theorem dX11_passByChance_53 : decode cX11_passByChance 53 = .ok (.invokestatic 354, 3) := q_invokestatic (bat_get dg_X11_passByChance_24_24 27 rfl rfl) rfl
theorem dX11_passByChance_56 : decode cX11_passByChance 56 = .ok (.iastore, 1) := q_iastore (bat_get dg_X11_passByChance_24_24 28 rfl rfl)
theorem dX11_passByChance_57 : decode cX11_passByChance 57 = .ok (.goto 20, 3) := q_goto (bat_get dg_X11_passByChance_24_24 29 rfl rfl) rfl
theorem w_4_43 : (Cond.methodLink RX11 208 yX11_lookAt) ∈ wsL_law := sk_mem (ck_4 _ (List.mem_of_getElem? (i := 43) rfl)) rfl
theorem w_4_45 : (Cond.instanceMethod yX11_lookAt) ∈ wsL_law := sk_mem (ck_4 _ (List.mem_of_getElem? (i := 45) rfl)) rfl
theorem w_0_19 : (Cond.selects RX11 yX11_lookAt yX11_lookAt) ∈ wsL_law := sk_mem (ck_0 _ (List.mem_of_getElem? (i := 19) rfl)) rfl
theorem w_4_61 : (Cond.methodLink RX11 212 yX1_countWays) ∈ wsL_law := sk_mem (ck_4 _ (List.mem_of_getElem? (i := 61) rfl)) rfl
theorem w_4_62 : (Cond.instanceMethod yX1_countWays) ∈ wsL_law := sk_mem (ck_4 _ (List.mem_of_getElem? (i := 62) rfl)) rfl
theorem w_4_63 : (Cond.selects RX1 yX1_countWays yX1_countWays) ∈ wsL_law := sk_mem (ck_4 _ (List.mem_of_getElem? (i := 63) rfl)) rfl
theorem w_5_37 : (Cond.methodLink RX11 347 yX11_draw) ∈ wsL_law := sk_mem (ck_5 _ (List.mem_of_getElem? (i := 37) rfl)) rfl
theorem w_5_39 : (Cond.instanceMethod yX11_draw) ∈ wsL_law := sk_mem (ck_5 _ (List.mem_of_getElem? (i := 39) rfl)) rfl
theorem w_0_33 : (Cond.selects RX11 yX11_draw yX11_draw) ∈ wsL_law := sk_mem (ck_0 _ (List.mem_of_getElem? (i := 33) rfl)) rfl
theorem w_4_73 : (Cond.methodLink RX11 326 yX1_takeNumbered) ∈ wsL_law := sk_mem (ck_4 _ (List.mem_of_getElem? (i := 73) rfl)) rfl
theorem w_4_74 : (Cond.instanceMethod yX1_takeNumbered) ∈ wsL_law := sk_mem (ck_4 _ (List.mem_of_getElem? (i := 74) rfl)) rfl
theorem w_4_75 : (Cond.selects RX1 yX1_takeNumbered yX1_takeNumbered) ∈ wsL_law := sk_mem (ck_4 _ (List.mem_of_getElem? (i := 75) rfl)) rfl
theorem w_5_20 : (Cond.methodLink RX11 288 yX11_pass) ∈ wsL_law := sk_mem (ck_5 _ (List.mem_of_getElem? (i := 20) rfl)) rfl
theorem w_5_22 : (Cond.instanceMethod yX11_pass) ∈ wsL_law := sk_mem (ck_5 _ (List.mem_of_getElem? (i := 22) rfl)) rfl
theorem w_0_31 : (Cond.selects RX11 yX11_pass yX11_pass) ∈ wsL_law := sk_mem (ck_0 _ (List.mem_of_getElem? (i := 31) rfl)) rfl
theorem w_5_36 : (Cond.constantLong RX11 345 (100)) ∈ wsL_law := sk_mem (ck_5 _ (List.mem_of_getElem? (i := 36) rfl)) rfl
theorem w_1_199 : (Cond.fieldLink RX11 351 "SameKeeper$Lock" "rain" "I") ∈ wsL_law := sk_mem (ck_1 _ (List.mem_of_getElem? (i := 199) rfl)) rfl
theorem w_1_232 : (Cond.fieldLink RX11 173 "SameKeeper$State" "barge" "[I") ∈ wsL_law := sk_mem (ck_1 _ (List.mem_of_getElem? (i := 232) rfl)) rfl
theorem w_5_46 : (Cond.constantLong RX11 359 (10)) ∈ wsL_law := sk_mem (ck_5 _ (List.mem_of_getElem? (i := 46) rfl)) rfl
theorem w_1_236 : (Cond.fieldLink RX11 176 "SameKeeper$State" "wet" "[I") ∈ wsL_law := sk_mem (ck_1 _ (List.mem_of_getElem? (i := 236) rfl)) rfl
theorem w_5_45 : (Cond.methodLink RX11 354 Lib.Math.min.name) ∈ wsL_law := sk_mem (ck_5 _ (List.mem_of_getElem? (i := 45) rfl)) rfl
theorem w_3_184 : (Cond.static Lib.Math.min.name) ∈ wsL_law := sk_mem (ck_3 _ (List.mem_of_getElem? (i := 184) rfl)) rfl
theorem w_3_185 : (Cond.code Lib.Math.min.name Lib.Math.min.code 2 (some .int)) ∈ wsL_law := sk_mem (ck_3 _ (List.mem_of_getElem? (i := 185) rfl)) rfl
theorem w_5_35 : (Cond.code yX11_passByChance cX11_passByChance 3 (some .boolean)) ∈ wsL_law := sk_mem (ck_5 _ (List.mem_of_getElem? (i := 35) rfl)) rfl
def om_29_1fffffc0 : List Bool := true :: true :: true :: true :: true :: true :: true :: true :: true :: true :: true :: true :: true :: true :: true :: true :: true :: true :: true :: true :: true :: true :: true :: false :: false :: false :: false :: false :: false :: []
def om_29_1e20 : List Bool := false :: false :: false :: false :: false :: false :: false :: false :: false :: false :: false :: false :: false :: false :: false :: false :: true :: true :: true :: true :: false :: false :: false :: true :: false :: false :: false :: false :: false :: []
def om_29_10000000 : List Bool := true :: false :: false :: false :: false :: false :: false :: false :: false :: false :: false :: false :: false :: false :: false :: false :: false :: false :: false :: false :: false :: false :: false :: false :: false :: false :: false :: false :: false :: []
def om_29_1e30 : List Bool := false :: false :: false :: false :: false :: false :: false :: false :: false :: false :: false :: false :: false :: false :: false :: false :: true :: true :: true :: true :: false :: false :: false :: true :: true :: false :: false :: false :: false :: []
def om_29_1000011f : List Bool := true :: false :: false :: false :: false :: false :: false :: false :: false :: false :: false :: false :: false :: false :: false :: false :: false :: false :: false :: false :: true :: false :: false :: false :: true :: true :: true :: true :: true :: []
theorem hd_X11_lookAt_1 : skD yX11_lookAt 1 := by decide +kernel
theorem hd_X1_countWays_0 : skD yX1_countWays 0 := by decide +kernel
theorem hd_X11_draw_1 : skD yX11_draw 1 := by decide +kernel
theorem hd_X1_takeNumbered_2 : skD yX1_takeNumbered 2 := by decide +kernel
theorem hd_X11_pass_1 : skD yX11_pass 1 := by decide +kernel
set_option maxHeartbeats 4000000 in
set_option maxRecDepth 100000 in
theorem c_kx_passByChance (l : Launch) (D : va_G) (cI cJ cC cZ cS : ClassId) (x0 : Nat) (q : Nat → Nat) (hc : Int32) (sa : Nat → Nat) (ft : Nat → Int32) (fa : Nat → Int32) (fo : Nat → Int32) (fg : Nat → Int64) (fk : Nat → Int32) (dh : Nat) (mh : Nat) (uh : Int32) (nh : Nat) (ch : Nat) (wh : Nat) (y1 : Nat → Int32) (y2 : Nat → Int64) (y3 : Nat → Int64) (y4 : Nat → Int64) (yf : Nat → Int32) (yt : Nat → Int32) (gd : Nat) (gs : Nat) (e1 : Nat → Int32) (e2 : Nat → Int32) (e3 : Nat → Int32) (dy : Nat) (wn : Nat) (mo : Nat) (ke : Nat) (mu : Int32) (fb : Nat → Int32) (fw : Nat → Int32) (e4 : Nat → Int64) (ra : Nat → Int32) (ac : Nat) (p1 : Nat → Int32) (p2 : Nat → Int64) (p3 : Nat → Int32) (Ba : Nat → Nat) (We : Nat → Nat) (L : LkS) (U : Nat → Bool) (rn : Nat) (sd : Nat) (hsa : ∀ j, sa j ≤ 9) (hch : ch ≤ 1600) (hwh : wh ≤ 1) (hdy : dy ≤ 9) (hmo : mo ≤ 9) (hLk : kcLk L) (hcd : cdK (lK (lkF L)) ch wh y1) (hsg : ∀ v, v < 3 → sgO (lG (lkF L) v) (yf v) (yt v)) (hfb : ∀ j, j < 9 → fb j = nI (Ba j)) (hfw : ∀ j, j < 9 → fw j = nI (We j)) (hB9 : ∀ j, Ba j ≤ 9) (hW9 : ∀ j, We j ≤ 9) (hwn : wn ≤ 999) (hU : muO U mu) (hti : kcTI L sa ft fa fo fg fk) (hrn : rn ≤ 100) (hsd : sd < 2147483648) (hke : ke < 1000) (hdy1 : 1 ≤ dy) : skM l yX11_passByChance cX11_passByChance 3 (some .boolean) 6 149 0 0 D (skT cI cJ cC cZ cS) [.ref x0] [ro_rrrrrrrrrrrrrrrirl x0 11 (q 0) (q 1) (q 2) (q 3) (q 4) (q 5) (q 6) (q 7) (q 8) (q 9) (q 10) (q 11) (q 12) (q 13) (q 14) hc (q 16) (Int64.ofNat sd), ro_rrrrrr (q 10) 9 (q 61) (q 62) (q 63) (q 64) (q 65) (q 66), ra_N (q 61) cI 90 sa, ra_I (q 62) cI 900 ft, ra_I (q 63) cI 90 fa, ra_I (q 64) cI 90 fo, ra_J (q 65) cJ 90 fg, ra_I (q 66) cI 9 fk, ro_rrrrrnninn (q 5) 2 (q 44) (q 45) (q 46) (q 47) (q 48) dh mh uh rn nh, ro_rrrrnn (q 44) 0 (q 49) (q 50) (q 51) (q 52) ch wh, ra_I (q 49) cI 1600 y1, ra_J (q 50) cJ 64 y2, ra_J (q 51) cJ 9 y3, ra_J (q 52) cJ 10 y4, ra_I (q 47) cI 3 yf, ra_I (q 48) cI 3 yt, ro_rrrrrrrnn (q 11) 1 (q 10) (q 67) (q 68) (q 69) (q 70) (q 71) (q 72) gd gs, ra_I (q 67) cI 90 e1, ra_I (q 68) cI 9 e2, ra_I (q 69) cI 10 e3, ro_rrnnnin (q 7) 7 (q 33) (q 34) dy wn mo mu ke, ra_I (q 33) cI 9 fb, ra_I (q 34) cI 9 fw, ra_J (q 70) cJ 100 e4, ra_I (q 12) cI 9 ra, ro_rnrrr (q 9) 4 (q 35) ac (q 36) (q 37) (q 38), ra_I (q 36) cI 1000 p1, ra_J (q 37) cJ 1000 p2, ra_I (q 38) cI 1000 p3] (skI D (skT cI cJ cC cZ cS) (fun (r : Int32) (u : va_W) => ∃ (sa2 : Nat → Nat), ∃ (ft2 : Nat → Int32), ∃ (fa2 : Nat → Int32), ∃ (fo2 : Nat → Int32), ∃ (fg2 : Nat → Int64), ∃ (fk2 : Nat → Int32), ∃ (z2 : Nat → Int64), ∃ (z3 : Nat → Int64), ∃ (g1 : Nat → Int32), ∃ (g2 : Nat → Int32), ∃ (g3 : Nat → Int32), ∃ (sd2 : Nat), ∃ (wn2 : Nat), ∃ (mo2 : Nat), ∃ (ke2 : Nat), ∃ (fb2 : Nat → Int32), ∃ (fw2 : Nat → Int32), ∃ (g4 : Nat → Int64), ∃ (ra2 : Nat → Int32), ∃ (p1_ : Nat → Int32), ∃ (p2_ : Nat → Int64), ∃ (p3_ : Nat → Int32), ∃ (b : Nat), (∀ j, sa2 j ≤ 9) ∧ kcTI L sa2 ft2 fa2 fo2 fg2 fk2 ∧ kdO (sd2, (kda rn (sd, Ba, We) dy).2) fb2 fw2 ∧ ((b = 0 ∧ kcC (kcFo L wn (kda rn (sd, Ba, We) dy).2.1 (kda rn (sd, Ba, We) dy).2.2 U 0) dy 0 mo = 0 ∧ sd2 = (kda rn (sd, Ba, We) dy).1 ∧ wn2 = wn ∧ mo2 = mo ∧ ke2 = ke ∧ p1_ = p1 ∧ p2_ = p2 ∧ p3_ = p3) ∨ (b = 1 ∧ 0 < kcC (kcFo L wn (kda rn (sd, Ba, We) dy).2.1 (kda rn (sd, Ba, We) dy).2.2 U 0) dy 0 mo ∧ sd2 = kdr (kda rn (sd, Ba, We) dy).1 ∧ wn2 = wn + 1 ∧ mo2 = kcM (kcFo L wn (kda rn (sd, Ba, We) dy).2.1 (kda rn (sd, Ba, We) dy).2.2 U 0) dy mo (kdv (kda rn (sd, Ba, We) dy).1 (kcC (kcFo L wn (kda rn (sd, Ba, We) dy).2.1 (kda rn (sd, Ba, We) dy).2.2 U 0) dy 0 mo)) (dy - 1) ∧ mo2 ≤ 9 ∧ ke2 = ke + 1 ∧ p1_ = upd p1 ke (nI wn) ∧ p2_ = vp_updL p2 ke (Int64.ofNat (kcC (kcFo L wn (kda rn (sd, Ba, We) dy).2.1 (kda rn (sd, Ba, We) dy).2.2 U 0) dy 0 mo)) ∧ p3_ = upd p3 ke (nI mo2))) ∧ r = nI b ∧ u = [ro_rrrrrrrrrrrrrrrirl x0 11 (q 0) (q 1) (q 2) (q 3) (q 4) (q 5) (q 6) (q 7) (q 8) (q 9) (q 10) (q 11) (q 12) (q 13) (q 14) hc (q 16) (Int64.ofNat sd2), ro_rrrrrr (q 10) 9 (q 61) (q 62) (q 63) (q 64) (q 65) (q 66), ra_N (q 61) cI 90 sa2, ra_I (q 62) cI 900 ft2, ra_I (q 63) cI 90 fa2, ra_I (q 64) cI 90 fo2, ra_J (q 65) cJ 90 fg2, ra_I (q 66) cI 9 fk2, ro_rrrrrnninn (q 5) 2 (q 44) (q 45) (q 46) (q 47) (q 48) dh mh uh rn nh, ro_rrrrnn (q 44) 0 (q 49) (q 50) (q 51) (q 52) ch wh, ra_I (q 49) cI 1600 y1, ra_J (q 50) cJ 64 z2, ra_J (q 51) cJ 9 z3, ra_J (q 52) cJ 10 y4, ra_I (q 47) cI 3 yf, ra_I (q 48) cI 3 yt, ro_rrrrrrrnn (q 11) 1 (q 10) (q 67) (q 68) (q 69) (q 70) (q 71) (q 72) dy mo, ra_I (q 67) cI 90 g1, ra_I (q 68) cI 9 g2, ra_I (q 69) cI 10 g3, ro_rrnnnin (q 7) 7 (q 33) (q 34) dy wn2 mo2 mu ke2, ra_I (q 33) cI 9 fb2, ra_I (q 34) cI 9 fw2, ra_J (q 70) cJ 100 g4, ra_I (q 12) cI 9 ra2, ro_rnrrr (q 9) 4 (q 35) ac (q 36) (q 37) (q 38), ra_I (q 36) cI 1000 p1_, ra_J (q 37) cJ 1000 p2_, ra_I (q 38) cI 1000 p3_])) := by
  refine skM_of pf_X11_passByChance (Nat.le_of_ble_eq_true rfl) ?_
  intro p e s m below meth c A ls E hP hD hl
  refine skE_el E (fun hx hb hr hml hlocks hin hown hts hK hA => ?_)
  have hown : s.vm.findClass RX11 = some m.cls := hown
  have hS : va_S A s.heap s.heap [] := va_S.rf
  have hl : lv_has ls 3 [(0, .ref x0)] := hl
  refine lv_iconst (v := 0) hx hb dX11_passByChance_0 ic_0 ?_
  refine lv_istore_n (lv' := [(1, .int 0), (0, .ref x0)]) hx hb dX11_passByChance_1 rfl hl (by decide) rfl (fun ls hl => ?_)
  have lp_1 : ∀ (n_2 : Nat) (i : Nat) (zr : Int64) (zb1 : Nat → Int32) (zw1 : Nat → Int32) (SS : KDs) (H : Heap) (locs : List Loc) (ls : Array Slot), dy - i < n_2 → (i ≤ dy) → (SS = kda rn (sd, Ba, We) i) → (zr = Int64.ofNat SS.1) → (kdO SS zb1 zw1) → va_P D vwCl [ro_rrrrrrrrrrrrrrrirl x0 11 (q 0) (q 1) (q 2) (q 3) (q 4) (q 5) (q 6) (q 7) (q 8) (q 9) (q 10) (q 11) (q 12) (q 13) (q 14) hc (q 16) zr, ro_rrrrrr (q 10) 9 (q 61) (q 62) (q 63) (q 64) (q 65) (q 66), ra_N (q 61) cI 90 sa, ra_I (q 62) cI 900 ft, ra_I (q 63) cI 90 fa, ra_I (q 64) cI 90 fo, ra_J (q 65) cJ 90 fg, ra_I (q 66) cI 9 fk, ro_rrrrrnninn (q 5) 2 (q 44) (q 45) (q 46) (q 47) (q 48) dh mh uh rn nh, ro_rrrrnn (q 44) 0 (q 49) (q 50) (q 51) (q 52) ch wh, ra_I (q 49) cI 1600 y1, ra_J (q 50) cJ 64 y2, ra_J (q 51) cJ 9 y3, ra_J (q 52) cJ 10 y4, ra_I (q 47) cI 3 yf, ra_I (q 48) cI 3 yt, ro_rrrrrrrnn (q 11) 1 (q 10) (q 67) (q 68) (q 69) (q 70) (q 71) (q 72) gd gs, ra_I (q 67) cI 90 e1, ra_I (q 68) cI 9 e2, ra_I (q 69) cI 10 e3, ro_rrnnnin (q 7) 7 (q 33) (q 34) dy wn mo mu ke, ra_I (q 33) cI 9 zb1, ra_I (q 34) cI 9 zw1, ra_J (q 70) cJ 100 e4, ra_I (q 12) cI 9 ra, ro_rnrrr (q 9) 4 (q 35) ac (q 36) (q 37) (q 38), ra_I (q 36) cI 1000 p1, ra_J (q 37) cJ 1000 p2, ra_I (q 38) cI 1000 p3] H → va_D A [ro_rrrrrrrrrrrrrrrirl x0 11 (q 0) (q 1) (q 2) (q 3) (q 4) (q 5) (q 6) (q 7) (q 8) (q 9) (q 10) (q 11) (q 12) (q 13) (q 14) hc (q 16) zr, ro_rrrrrr (q 10) 9 (q 61) (q 62) (q 63) (q 64) (q 65) (q 66), ra_N (q 61) cI 90 sa, ra_I (q 62) cI 900 ft, ra_I (q 63) cI 90 fa, ra_I (q 64) cI 90 fo, ra_J (q 65) cJ 90 fg, ra_I (q 66) cI 9 fk, ro_rrrrrnninn (q 5) 2 (q 44) (q 45) (q 46) (q 47) (q 48) dh mh uh rn nh, ro_rrrrnn (q 44) 0 (q 49) (q 50) (q 51) (q 52) ch wh, ra_I (q 49) cI 1600 y1, ra_J (q 50) cJ 64 y2, ra_J (q 51) cJ 9 y3, ra_J (q 52) cJ 10 y4, ra_I (q 47) cI 3 yf, ra_I (q 48) cI 3 yt, ro_rrrrrrrnn (q 11) 1 (q 10) (q 67) (q 68) (q 69) (q 70) (q 71) (q 72) gd gs, ra_I (q 67) cI 90 e1, ra_I (q 68) cI 9 e2, ra_I (q 69) cI 10 e3, ro_rrnnnin (q 7) 7 (q 33) (q 34) dy wn mo mu ke, ra_I (q 33) cI 9 zb1, ra_I (q 34) cI 9 zw1, ra_J (q 70) cJ 100 e4, ra_I (q 12) cI 9 ra, ro_rnrrr (q 9) 4 (q 35) ac (q 36) (q 37) (q 38), ra_I (q 36) cI 1000 p1, ra_J (q 37) cJ 1000 p2, ra_I (q 38) cI 1000 p3] → va_S A s.heap H locs → lv_has ls 3 [(1, .int (nI i)), (0, .ref x0)] → W p l e { frames := 6, cells := 0, slots := 0, locals := 149 } s m ([.ref x0] : List Value).toArray below meth c H locs 0 0 (MQ below (skI D (skT cI cJ cC cZ cS) (fun (r : Int32) (u : va_W) => ∃ (sa2 : Nat → Nat), ∃ (ft2 : Nat → Int32), ∃ (fa2 : Nat → Int32), ∃ (fo2 : Nat → Int32), ∃ (fg2 : Nat → Int64), ∃ (fk2 : Nat → Int32), ∃ (z2 : Nat → Int64), ∃ (z3 : Nat → Int64), ∃ (g1 : Nat → Int32), ∃ (g2 : Nat → Int32), ∃ (g3 : Nat → Int32), ∃ (sd2 : Nat), ∃ (wn2 : Nat), ∃ (mo2 : Nat), ∃ (ke2 : Nat), ∃ (fb2 : Nat → Int32), ∃ (fw2 : Nat → Int32), ∃ (g4 : Nat → Int64), ∃ (ra2 : Nat → Int32), ∃ (p1_ : Nat → Int32), ∃ (p2_ : Nat → Int64), ∃ (p3_ : Nat → Int32), ∃ (b : Nat), (∀ j, sa2 j ≤ 9) ∧ kcTI L sa2 ft2 fa2 fo2 fg2 fk2 ∧ kdO (sd2, (kda rn (sd, Ba, We) dy).2) fb2 fw2 ∧ ((b = 0 ∧ kcC (kcFo L wn (kda rn (sd, Ba, We) dy).2.1 (kda rn (sd, Ba, We) dy).2.2 U 0) dy 0 mo = 0 ∧ sd2 = (kda rn (sd, Ba, We) dy).1 ∧ wn2 = wn ∧ mo2 = mo ∧ ke2 = ke ∧ p1_ = p1 ∧ p2_ = p2 ∧ p3_ = p3) ∨ (b = 1 ∧ 0 < kcC (kcFo L wn (kda rn (sd, Ba, We) dy).2.1 (kda rn (sd, Ba, We) dy).2.2 U 0) dy 0 mo ∧ sd2 = kdr (kda rn (sd, Ba, We) dy).1 ∧ wn2 = wn + 1 ∧ mo2 = kcM (kcFo L wn (kda rn (sd, Ba, We) dy).2.1 (kda rn (sd, Ba, We) dy).2.2 U 0) dy mo (kdv (kda rn (sd, Ba, We) dy).1 (kcC (kcFo L wn (kda rn (sd, Ba, We) dy).2.1 (kda rn (sd, Ba, We) dy).2.2 U 0) dy 0 mo)) (dy - 1) ∧ mo2 ≤ 9 ∧ ke2 = ke + 1 ∧ p1_ = upd p1 ke (nI wn) ∧ p2_ = vp_updL p2 ke (Int64.ofNat (kcC (kcFo L wn (kda rn (sd, Ba, We) dy).2.1 (kda rn (sd, Ba, We) dy).2.2 U 0) dy 0 mo)) ∧ p3_ = upd p3 ke (nI mo2))) ∧ r = nI b ∧ u = [ro_rrrrrrrrrrrrrrrirl x0 11 (q 0) (q 1) (q 2) (q 3) (q 4) (q 5) (q 6) (q 7) (q 8) (q 9) (q 10) (q 11) (q 12) (q 13) (q 14) hc (q 16) (Int64.ofNat sd2), ro_rrrrrr (q 10) 9 (q 61) (q 62) (q 63) (q 64) (q 65) (q 66), ra_N (q 61) cI 90 sa2, ra_I (q 62) cI 900 ft2, ra_I (q 63) cI 90 fa2, ra_I (q 64) cI 90 fo2, ra_J (q 65) cJ 90 fg2, ra_I (q 66) cI 9 fk2, ro_rrrrrnninn (q 5) 2 (q 44) (q 45) (q 46) (q 47) (q 48) dh mh uh rn nh, ro_rrrrnn (q 44) 0 (q 49) (q 50) (q 51) (q 52) ch wh, ra_I (q 49) cI 1600 y1, ra_J (q 50) cJ 64 z2, ra_J (q 51) cJ 9 z3, ra_J (q 52) cJ 10 y4, ra_I (q 47) cI 3 yf, ra_I (q 48) cI 3 yt, ro_rrrrrrrnn (q 11) 1 (q 10) (q 67) (q 68) (q 69) (q 70) (q 71) (q 72) dy mo, ra_I (q 67) cI 90 g1, ra_I (q 68) cI 9 g2, ra_I (q 69) cI 10 g3, ro_rrnnnin (q 7) 7 (q 33) (q 34) dy wn2 mo2 mu ke2, ra_I (q 33) cI 9 fb2, ra_I (q 34) cI 9 fw2, ra_J (q 70) cJ 100 g4, ra_I (q 12) cI 9 ra2, ro_rnrrr (q 9) 4 (q 35) ac (q 36) (q 37) (q 38), ra_I (q 36) cI 1000 p1_, ra_J (q 37) cJ 1000 p2_, ra_I (q 38) cI 1000 p3_]) A) ([.ref x0] : List Value).toArray s 0 0 A) (F0 m 2 ls []) := by
    intro n_2
    induction n_2 with
    | zero => intro i zr zb1 zw1 SS H locs ls hm; exact absurd hm (Nat.not_lt_zero _)
    | succ n_2 ih_lp_1 =>
      intro i zr zb1 zw1 SS H locs ls hm hi hSS hzr hkd hP hD hS hl
      refine lv_iload_n hx hb dX11_passByChance_2 rfl (lv_at hl 0 rfl) ?_
      refine lv_aload_n hx hb dX11_passByChance_3 rfl (lv_at hl 1 rfl) ?_
      refine sk_get (v := .ref (q 7)) (C := RX11) (T := TX11) (N := 18) hx hb hts inlX11 hown hK hP 0 rfl rfl 7 (Nat.le_of_ble_eq_true rfl) w_2_130 rfl dX11_passByChance_4 ?_
      refine sk_get (v := .int (nI dy)) (C := RX7) (T := TX7) (N := 7) hx hb hts inlX7 hown hK hP 20 rfl rfl 2 (Nat.le_of_ble_eq_true rfl) w_2_1 rfl dX11_passByChance_7 ?_
      refine lv_icmp_ge (tgt := 83) hx hb dX11_passByChance_10 (by decide) (fun c_3 => ?_) (fun c_3 => ?_)
      · have c_3 : dy ≤ i := (nle dy i (by omega) (by omega)).mp c_3
        subst hzr
        obtain rfl : dy = i := by omega
        subst hSS
        refine lv_aload_n hx hb dX11_passByChance_83 rfl (lv_at hl 1 rfl) ?_
        refine lv_aload_n hx hb dX11_passByChance_84 rfl (lv_at hl 1 rfl) ?_
        refine sk_get (v := .ref (q 7)) (C := RX11) (T := TX11) (N := 18) hx hb hts inlX11 hown hK hP 0 rfl rfl 7 (Nat.le_of_ble_eq_true rfl) w_2_130 rfl dX11_passByChance_85 ?_
        refine sk_Vi (q0 := 0) (n := 1) (rest := []) (wr := fmR om_29_1fffffc0 _) ⟨hx, hb, hml, hown, hts⟩ hl.1 (c_kx_lookAt l D cI cJ cC cZ cS x0 q hc (Int64.ofNat (kda rn (sd, Ba, We) dy).1) sa ft fa fo fg fk dh mh uh (nI rn) nh ch wh y1 y2 y3 y4 yf yt gd gs e1 e2 e3 (q 7) (q 33) (q 34) dy wn mo ke mu zb1 zw1 ((kda rn (sd, Ba, We) dy).2.1) ((kda rn (sd, Ba, We) dy).2.2) L U hsa hch hwh hdy hmo hLk hcd hsg hkd.1 hkd.2.1 hkd.2.2.1 hkd.2.2.2.1 hwn hU hti) w_4_43 w_4_45 w_0_19 w_1_1 w_4_46 hd_X11_lookAt_1 ⟨⟨(Nat.le_of_ble_eq_true rfl), (Nat.le_of_ble_eq_true rfl)⟩, (Nat.le_of_ble_eq_true rfl), (Nat.le_of_ble_eq_true rfl)⟩ hK hP hD hS hA (fmT om_29_1fffffc0 0) (fmF om_29_1fffffc0 0) (fm_C1 rfl rfl) (fm_R rfl rfl) (fm_nT om_29_1fffffc0 0) (fm_nF om_29_1fffffc0 0) (fm_di om_29_1fffffc0 0) rfl rfl rfl rfl (Nat.le_of_ble_eq_true rfl) dX11_passByChance_88 (fun r_16 u H locs hw hP hD hS => ?_)
        refine exE hw (fun sa2_4 hw1 => exE hw1 (fun ft2_5 hw2 => exE hw2 (fun fa2_6 hw3 => exE hw3 (fun fo2_7 hw4 => exE hw4 (fun fg2_8 hw5 => exE hw5 (fun fk2_9 hw6 => exE hw6 (fun z2_10 hw7 => exE hw7 (fun z3_11 hw8 => exE hw8 (fun g1_12 hw9 => exE hw9 (fun g2_13 hw10 => exE hw10 (fun g3_14 hw11 => exE hw11 (fun b_15 hw12 => anE hw12 (fun hsa2_17 hw13 => anE hw13 (fun hti2_18 hw14 => anE hw14 (fun hld2_19 hw15 => anE hw15 (fun hlv2_20 hw16 => anE hw16 (fun hb1_21 hw17 => anE hw17 (fun er_23 eu_22 => ?_))))))))))))))))))
        clear hw hw1 hw2 hw3 hw4 hw5 hw6 hw7 hw8 hw9 hw10 hw11 hw12 hw13 hw14 hw15 hw16 hw17
        subst er_23
        refine o_mgE (ws' := [ro_rrrrrrrrrrrrrrrirl x0 11 (q 0) (q 1) (q 2) (q 3) (q 4) (q 5) (q 6) (q 7) (q 8) (q 9) (q 10) (q 11) (q 12) (q 13) (q 14) hc (q 16) (Int64.ofNat (kda rn (sd, Ba, We) dy).1), ro_rrrrrr (q 10) 9 (q 61) (q 62) (q 63) (q 64) (q 65) (q 66), ra_N (q 61) cI 90 sa2_4, ra_I (q 62) cI 900 ft2_5, ra_I (q 63) cI 90 fa2_6, ra_I (q 64) cI 90 fo2_7, ra_J (q 65) cJ 90 fg2_8, ra_I (q 66) cI 9 fk2_9, ro_rrrrrnninn (q 5) 2 (q 44) (q 45) (q 46) (q 47) (q 48) dh mh uh rn nh, ro_rrrrnn (q 44) 0 (q 49) (q 50) (q 51) (q 52) ch wh, ra_I (q 49) cI 1600 y1, ra_J (q 50) cJ 64 z2_10, ra_J (q 51) cJ 9 z3_11, ra_J (q 52) cJ 10 y4, ra_I (q 47) cI 3 yf, ra_I (q 48) cI 3 yt, ro_rrrrrrrnn (q 11) 1 (q 10) (q 67) (q 68) (q 69) (q 70) (q 71) (q 72) dy mo, ra_I (q 67) cI 90 g1_12, ra_I (q 68) cI 9 g2_13, ra_I (q 69) cI 10 g3_14, ro_rrnnnin (q 7) 7 (q 33) (q 34) dy wn mo mu ke, ra_I (q 33) cI 9 zb1, ra_I (q 34) cI 9 zw1, ra_J (q 70) cJ 100 e4, ra_I (q 12) cI 9 ra, ro_rnrrr (q 9) 4 (q 35) ac (q 36) (q 37) (q 38), ra_I (q 36) cI 1000 p1, ra_J (q 37) cJ 1000 p2, ra_I (q 38) cI 1000 p3]) eu_22 hP hD rfl (fun hP hD => ?_)
        refine lv_pop hx hb dX11_passByChance_91 rfl ?_
        refine lv_aload_n hx hb dX11_passByChance_92 rfl (lv_at hl 1 rfl) ?_
        refine sk_get (v := .ref (q 11)) (C := RX11) (T := TX11) (N := 18) hx hb hts inlX11 hown hK hP 0 rfl rfl 11 (Nat.le_of_ble_eq_true rfl) w_2_134 rfl dX11_passByChance_93 ?_
        refine sk_Vl (q0 := 0) (n := 0) (rest := []) (wr := fmR om_29_1e20 _) ⟨hx, hb, hml, hown, hts⟩ hl.1 (c_kcountWays l D cI cJ cC cZ cS q dy mo g1_12 g2_13 g3_14 e4 (kcFo L wn (kda rn (sd, Ba, We) dy).2.1 (kda rn (sd, Ba, We) dy).2.2 U 0) hdy hmo hld2_19 hlv2_20) w_4_61 w_4_62 w_4_63 w_1_13 w_4_64 hd_X1_countWays_0 ⟨⟨(Nat.le_of_ble_eq_true rfl), (Nat.le_of_ble_eq_true rfl)⟩, (Nat.le_of_ble_eq_true rfl), (Nat.le_of_ble_eq_true rfl)⟩ hK hP hD hS hA (fmT om_29_1e20 0) (fmF om_29_1e20 0) (fm_C1 rfl rfl) (fm_R rfl rfl) (fm_nT om_29_1e20 0) (fm_nF om_29_1e20 0) (fm_di om_29_1e20 0) rfl rfl rfl rfl (Nat.le_of_ble_eq_true rfl) dX11_passByChance_96 (fun r_25 u H locs hw hP hD hS => ?_)
        refine exE hw (fun g4_24 hw1 => anE hw1 (fun hwy_26 hw2 => anE hw2 (fun er_28 eu_27 => ?_)))
        clear hw hw1 hw2
        subst er_28
        refine o_mgE (ws' := [ro_rrrrrrrrrrrrrrrirl x0 11 (q 0) (q 1) (q 2) (q 3) (q 4) (q 5) (q 6) (q 7) (q 8) (q 9) (q 10) (q 11) (q 12) (q 13) (q 14) hc (q 16) (Int64.ofNat (kda rn (sd, Ba, We) dy).1), ro_rrrrrr (q 10) 9 (q 61) (q 62) (q 63) (q 64) (q 65) (q 66), ra_N (q 61) cI 90 sa2_4, ra_I (q 62) cI 900 ft2_5, ra_I (q 63) cI 90 fa2_6, ra_I (q 64) cI 90 fo2_7, ra_J (q 65) cJ 90 fg2_8, ra_I (q 66) cI 9 fk2_9, ro_rrrrrnninn (q 5) 2 (q 44) (q 45) (q 46) (q 47) (q 48) dh mh uh rn nh, ro_rrrrnn (q 44) 0 (q 49) (q 50) (q 51) (q 52) ch wh, ra_I (q 49) cI 1600 y1, ra_J (q 50) cJ 64 z2_10, ra_J (q 51) cJ 9 z3_11, ra_J (q 52) cJ 10 y4, ra_I (q 47) cI 3 yf, ra_I (q 48) cI 3 yt, ro_rrrrrrrnn (q 11) 1 (q 10) (q 67) (q 68) (q 69) (q 70) (q 71) (q 72) dy mo, ra_I (q 67) cI 90 g1_12, ra_I (q 68) cI 9 g2_13, ra_I (q 69) cI 10 g3_14, ro_rrnnnin (q 7) 7 (q 33) (q 34) dy wn mo mu ke, ra_I (q 33) cI 9 zb1, ra_I (q 34) cI 9 zw1, ra_J (q 70) cJ 100 g4_24, ra_I (q 12) cI 9 ra, ro_rnrrr (q 9) 4 (q 35) ac (q 36) (q 37) (q 38), ra_I (q 36) cI 1000 p1, ra_J (q 37) cJ 1000 p2, ra_I (q 38) cI 1000 p3]) eu_27 hP hD rfl (fun hP hD => ?_)
        have hc9 := kcC_9 (kcFo L wn (kda rn (sd, Ba, We) dy).2.1 (kda rn (sd, Ba, We) dy).2.2 U 0) (show dy ≤ 9 by omega) 0 mo
        refine lv_lstore_n (lv' := [(1, .long (Int64.ofNat (kcC (kcFo L wn (kda rn (sd, Ba, We) dy).2.1 (kda rn (sd, Ba, We) dy).2.2 U 0) dy 0 mo))), (0, .ref x0)]) hx hb dX11_passByChance_99 rfl hl (by decide) rfl (fun ls hl => ?_)
        refine lv_lload_n hx hb dX11_passByChance_100 rfl (lv_at hl 0 rfl) ?_
        refine lv_lconst (v := 0) hx hb dX11_passByChance_101 (by decide) ?_
        refine W.lcmp hx hb dX11_passByChance_102 ?_
        refine lv_if_ne (tgt := 108) hx hb dX11_passByChance_103 (by decide) (fun c_29 => ?_) (fun c_29 => ?_)
        · have hz1 := kz_1 c_29
          refine lv_aload_n hx hb dX11_passByChance_108 rfl (lv_at hl 1 rfl) ?_
          refine sk_get (v := .ref (q 11)) (C := RX11) (T := TX11) (N := 18) hx hb hts inlX11 hown hK hP 0 rfl rfl 11 (Nat.le_of_ble_eq_true rfl) w_2_134 rfl dX11_passByChance_109 ?_
          refine lv_aload_n hx hb dX11_passByChance_112 rfl (lv_at hl 1 rfl) ?_
          refine lv_lload_n hx hb dX11_passByChance_113 rfl (lv_at hl 0 rfl) ?_
          refine sk_Vl (q0 := 0) (n := 1) (rest := [.ref (q 11)]) (wr := fmR om_29_10000000 _) ⟨hx, hb, hml, hown, hts⟩ hl.1 (c_kx_draw l D cI cJ cC cZ cS x0 q hc ((kda rn (sd, Ba, We) dy).1) (kcC (kcFo L wn (kda rn (sd, Ba, We) dy).2.1 (kda rn (sd, Ba, We) dy).2.2 U 0) dy 0 mo) (by omega) (by omega)) w_5_37 w_5_39 w_0_33 w_1_1 w_5_40 hd_X11_draw_1 ⟨⟨(Nat.le_of_ble_eq_true rfl), (Nat.le_of_ble_eq_true rfl)⟩, (Nat.le_of_ble_eq_true rfl), (Nat.le_of_ble_eq_true rfl)⟩ hK hP hD hS hA (fmT om_29_10000000 0) (fmF om_29_10000000 0) (fm_C1 rfl rfl) (fm_R rfl rfl) (fm_nT om_29_10000000 0) (fm_nF om_29_10000000 0) (fm_di om_29_10000000 0) rfl rfl rfl rfl (Nat.le_of_ble_eq_true rfl) dX11_passByChance_114 (fun r_30 u H locs hw hP hD hS => ?_)
          refine anE hw (fun er_32 eu_31 => ?_)
          clear hw
          subst er_32
          refine o_mgE (ws' := [ro_rrrrrrrrrrrrrrrirl x0 11 (q 0) (q 1) (q 2) (q 3) (q 4) (q 5) (q 6) (q 7) (q 8) (q 9) (q 10) (q 11) (q 12) (q 13) (q 14) hc (q 16) (Int64.ofNat (kdr ((kda rn (sd, Ba, We) dy).1))), ro_rrrrrr (q 10) 9 (q 61) (q 62) (q 63) (q 64) (q 65) (q 66), ra_N (q 61) cI 90 sa2_4, ra_I (q 62) cI 900 ft2_5, ra_I (q 63) cI 90 fa2_6, ra_I (q 64) cI 90 fo2_7, ra_J (q 65) cJ 90 fg2_8, ra_I (q 66) cI 9 fk2_9, ro_rrrrrnninn (q 5) 2 (q 44) (q 45) (q 46) (q 47) (q 48) dh mh uh rn nh, ro_rrrrnn (q 44) 0 (q 49) (q 50) (q 51) (q 52) ch wh, ra_I (q 49) cI 1600 y1, ra_J (q 50) cJ 64 z2_10, ra_J (q 51) cJ 9 z3_11, ra_J (q 52) cJ 10 y4, ra_I (q 47) cI 3 yf, ra_I (q 48) cI 3 yt, ro_rrrrrrrnn (q 11) 1 (q 10) (q 67) (q 68) (q 69) (q 70) (q 71) (q 72) dy mo, ra_I (q 67) cI 90 g1_12, ra_I (q 68) cI 9 g2_13, ra_I (q 69) cI 10 g3_14, ro_rrnnnin (q 7) 7 (q 33) (q 34) dy wn mo mu ke, ra_I (q 33) cI 9 zb1, ra_I (q 34) cI 9 zw1, ra_J (q 70) cJ 100 g4_24, ra_I (q 12) cI 9 ra, ro_rnrrr (q 9) 4 (q 35) ac (q 36) (q 37) (q 38), ra_I (q 36) cI 1000 p1, ra_J (q 37) cJ 1000 p2, ra_I (q 38) cI 1000 p3]) eu_31 hP hD rfl (fun hP hD => ?_)
          refine lv_aload_n hx hb dX11_passByChance_117 rfl (lv_at hl 1 rfl) ?_
          refine sk_get (v := .ref (q 12)) (C := RX11) (T := TX11) (N := 18) hx hb hts inlX11 hown hK hP 0 rfl rfl 12 (Nat.le_of_ble_eq_true rfl) w_2_135 rfl dX11_passByChance_118 ?_
          refine sk_Vv (q0 := 0) (n := 2) (rest := []) (wr := fmR om_29_1e30 _) ⟨hx, hb, hml, hown, hts⟩ hl.1 (c_ktakeNumbered l D cI cJ cC cZ cS q dy mo g1_12 g2_13 g3_14 g4_24 (q 12) ra (kcFo L wn (kda rn (sd, Ba, We) dy).2.1 (kda rn (sd, Ba, We) dy).2.2 U 0) (kdv (kda rn (sd, Ba, We) dy).1 (kcC (kcFo L wn (kda rn (sd, Ba, We) dy).2.1 (kda rn (sd, Ba, We) dy).2.2 U 0) dy 0 mo)) hdy hmo hld2_19 hlv2_20 hwy_26 (kdv_lt (by omega))) w_4_73 w_4_74 w_4_75 w_1_13 w_4_76 hd_X1_takeNumbered_2 ⟨⟨(Nat.le_of_ble_eq_true rfl), (Nat.le_of_ble_eq_true rfl)⟩, (Nat.le_of_ble_eq_true rfl), (Nat.le_of_ble_eq_true rfl)⟩ hK hP hD hS hA (fmT om_29_1e30 0) (fmF om_29_1e30 0) (fm_C1 rfl rfl) (fm_R rfl rfl) (fm_nT om_29_1e30 0) (fm_nF om_29_1e30 0) (fm_di om_29_1e30 0) rfl rfl rfl rfl (Nat.le_of_ble_eq_true rfl) dX11_passByChance_121 (fun u H locs hw hP hD hS => ?_)
          refine exE hw (fun ra2_33 hw1 => anE hw1 (fun hra2_34 eu_35 => ?_))
          clear hw hw1
          refine o_mgE (ws' := [ro_rrrrrrrrrrrrrrrirl x0 11 (q 0) (q 1) (q 2) (q 3) (q 4) (q 5) (q 6) (q 7) (q 8) (q 9) (q 10) (q 11) (q 12) (q 13) (q 14) hc (q 16) (Int64.ofNat (kdr ((kda rn (sd, Ba, We) dy).1))), ro_rrrrrr (q 10) 9 (q 61) (q 62) (q 63) (q 64) (q 65) (q 66), ra_N (q 61) cI 90 sa2_4, ra_I (q 62) cI 900 ft2_5, ra_I (q 63) cI 90 fa2_6, ra_I (q 64) cI 90 fo2_7, ra_J (q 65) cJ 90 fg2_8, ra_I (q 66) cI 9 fk2_9, ro_rrrrrnninn (q 5) 2 (q 44) (q 45) (q 46) (q 47) (q 48) dh mh uh rn nh, ro_rrrrnn (q 44) 0 (q 49) (q 50) (q 51) (q 52) ch wh, ra_I (q 49) cI 1600 y1, ra_J (q 50) cJ 64 z2_10, ra_J (q 51) cJ 9 z3_11, ra_J (q 52) cJ 10 y4, ra_I (q 47) cI 3 yf, ra_I (q 48) cI 3 yt, ro_rrrrrrrnn (q 11) 1 (q 10) (q 67) (q 68) (q 69) (q 70) (q 71) (q 72) dy mo, ra_I (q 67) cI 90 g1_12, ra_I (q 68) cI 9 g2_13, ra_I (q 69) cI 10 g3_14, ro_rrnnnin (q 7) 7 (q 33) (q 34) dy wn mo mu ke, ra_I (q 33) cI 9 zb1, ra_I (q 34) cI 9 zw1, ra_J (q 70) cJ 100 g4_24, ra_I (q 12) cI 9 ra2_33, ro_rnrrr (q 9) 4 (q 35) ac (q 36) (q 37) (q 38), ra_I (q 36) cI 1000 p1, ra_J (q 37) cJ 1000 p2, ra_I (q 38) cI 1000 p3]) eu_35 hP hD rfl (fun hP hD => ?_)
          have hl9 : kcM (kcFo L wn (kda rn (sd, Ba, We) dy).2.1 (kda rn (sd, Ba, We) dy).2.2 U 0) dy mo (kdv (kda rn (sd, Ba, We) dy).1 (kcC (kcFo L wn (kda rn (sd, Ba, We) dy).2.1 (kda rn (sd, Ba, We) dy).2.2 U 0) dy 0 mo)) (dy - 1) < 10 := (kcA_ok (E := (kcFo L wn (kda rn (sd, Ba, We) dy).2.1 (kda rn (sd, Ba, We) dy).2.2 U 0)) (show mo < 10 by omega) (kdv_lt (x := (kda rn (sd, Ba, We) dy).1) (m := (kcC (kcFo L wn (kda rn (sd, Ba, We) dy).2.1 (kda rn (sd, Ba, We) dy).2.2 U 0) dy 0 mo)) (by omega)) (dy - 1 + 1) (by omega)).1
          refine lv_aload_n hx hb dX11_passByChance_124 rfl (lv_at hl 1 rfl) ?_
          refine lv_lload_n hx hb dX11_passByChance_125 rfl (lv_at hl 0 rfl) ?_
          refine sk_Vv (q0 := 0) (n := 1) (rest := []) (wr := fmR om_29_1000011f _) ⟨hx, hb, hml, hown, hts⟩ hl.1 (c_kx_pass l D cI cJ cC cZ cS x0 q hc (Int64.ofNat (kdr ((kda rn (sd, Ba, We) dy).1))) dy wn mo ke mu fb fw ac (kcM (kcFo L wn (kda rn (sd, Ba, We) dy).2.1 (kda rn (sd, Ba, We) dy).2.2 U 0) dy mo (kdv (kda rn (sd, Ba, We) dy).1 (kcC (kcFo L wn (kda rn (sd, Ba, We) dy).2.1 (kda rn (sd, Ba, We) dy).2.2 U 0) dy 0 mo)) (dy - 1)) p1 p2 p3 ra2_33 (Int64.ofNat (kcC (kcFo L wn (kda rn (sd, Ba, We) dy).2.1 (kda rn (sd, Ba, We) dy).2.2 U 0) dy 0 mo)) hdy hdy1 (hra2_34 (dy - 1) (by omega)) (Nat.le_of_lt_succ hl9) hke hwn) w_5_20 w_5_22 w_0_31 w_1_1 w_5_23 hd_X11_pass_1 ⟨⟨(Nat.le_of_ble_eq_true rfl), (Nat.le_of_ble_eq_true rfl)⟩, (Nat.le_of_ble_eq_true rfl), (Nat.le_of_ble_eq_true rfl)⟩ hK hP hD hS hA [0, 20, 25, 26, 27, 28, 24] (fmF om_29_1000011f 0) rfl (fm_R rfl rfl) (by decide +kernel) (fm_nF om_29_1000011f 0) (by decide +kernel) rfl rfl rfl rfl (Nat.le_of_ble_eq_true rfl) dX11_passByChance_126 (fun u H locs hw hP hD hS => ?_)
          refine exE hw (fun p1__36 hw1 => exE hw1 (fun p2__37 hw2 => exE hw2 (fun p3__38 hw3 => anE hw3 (fun hp1_39 hw4 => anE hw4 (fun hp2_40 hw5 => anE hw5 (fun hp3_41 eu_42 => ?_))))))
          clear hw hw1 hw2 hw3 hw4 hw5
          refine o_mgqE (ux := [ro_rrrrrrrrrrrrrrrirl x0 11 (q 0) (q 1) (q 2) (q 3) (q 4) (q 5) (q 6) (q 7) (q 8) (q 9) (q 10) (q 11) (q 12) (q 13) (q 14) hc (q 16) (Int64.ofNat (kdr ((kda rn (sd, Ba, We) dy).1))), ro_rrnnnin (q 7) 7 (q 33) (q 34) dy (wn + 1) (kcM (kcFo L wn (kda rn (sd, Ba, We) dy).2.1 (kda rn (sd, Ba, We) dy).2.2 U 0) dy mo (kdv (kda rn (sd, Ba, We) dy).1 (kcC (kcFo L wn (kda rn (sd, Ba, We) dy).2.1 (kda rn (sd, Ba, We) dy).2.2 U 0) dy 0 mo)) (dy - 1)) mu (ke + 1), ra_I (q 12) cI 9 ra2_33, ro_rnrrr (q 9) 4 (q 35) ac (q 36) (q 37) (q 38), ra_I (q 36) cI 1000 p1__36, ra_J (q 37) cJ 1000 p2__37, ra_I (q 38) cI 1000 p3__38]) (ws' := [ro_rrrrrrrrrrrrrrrirl x0 11 (q 0) (q 1) (q 2) (q 3) (q 4) (q 5) (q 6) (q 7) (q 8) (q 9) (q 10) (q 11) (q 12) (q 13) (q 14) hc (q 16) (Int64.ofNat (kdr ((kda rn (sd, Ba, We) dy).1))), ro_rrrrrr (q 10) 9 (q 61) (q 62) (q 63) (q 64) (q 65) (q 66), ra_N (q 61) cI 90 sa2_4, ra_I (q 62) cI 900 ft2_5, ra_I (q 63) cI 90 fa2_6, ra_I (q 64) cI 90 fo2_7, ra_J (q 65) cJ 90 fg2_8, ra_I (q 66) cI 9 fk2_9, ro_rrrrrnninn (q 5) 2 (q 44) (q 45) (q 46) (q 47) (q 48) dh mh uh rn nh, ro_rrrrnn (q 44) 0 (q 49) (q 50) (q 51) (q 52) ch wh, ra_I (q 49) cI 1600 y1, ra_J (q 50) cJ 64 z2_10, ra_J (q 51) cJ 9 z3_11, ra_J (q 52) cJ 10 y4, ra_I (q 47) cI 3 yf, ra_I (q 48) cI 3 yt, ro_rrrrrrrnn (q 11) 1 (q 10) (q 67) (q 68) (q 69) (q 70) (q 71) (q 72) dy mo, ra_I (q 67) cI 90 g1_12, ra_I (q 68) cI 9 g2_13, ra_I (q 69) cI 10 g3_14, ro_rrnnnin (q 7) 7 (q 33) (q 34) dy (wn + 1) (kcM (kcFo L wn (kda rn (sd, Ba, We) dy).2.1 (kda rn (sd, Ba, We) dy).2.2 U 0) dy mo (kdv (kda rn (sd, Ba, We) dy).1 (kcC (kcFo L wn (kda rn (sd, Ba, We) dy).2.1 (kda rn (sd, Ba, We) dy).2.2 U 0) dy 0 mo)) (dy - 1)) mu (ke + 1), ra_I (q 33) cI 9 zb1, ra_I (q 34) cI 9 zw1, ra_J (q 70) cJ 100 g4_24, ra_I (q 12) cI 9 ra2_33, ro_rnrrr (q 9) 4 (q 35) ac (q 36) (q 37) (q 38), ra_I (q 36) cI 1000 p1__36, ra_J (q 37) cJ 1000 p2__37, ra_I (q 38) cI 1000 p3__38]) eu_42 [0, 1, 6, 2, 3, 4, 5] (by decide +kernel) rfl hP hD rfl (fun hP hD => ?_)
          refine lv_iconst (v := 1) hx hb dX11_passByChance_129 ic_1 ?_
          exact sk_iret hx hb hr rfl hlocks hK hP hD hS (⟨sa2_4, ft2_5, fa2_6, fo2_7, fg2_8, fk2_9, z2_10, z3_11, g1_12, g2_13, g3_14, (kdr ((kda rn (sd, Ba, We) dy).1)), wn + 1, kcM (kcFo L wn (kda rn (sd, Ba, We) dy).2.1 (kda rn (sd, Ba, We) dy).2.2 U 0) dy mo (kdv (kda rn (sd, Ba, We) dy).1 (kcC (kcFo L wn (kda rn (sd, Ba, We) dy).2.1 (kda rn (sd, Ba, We) dy).2.2 U 0) dy 0 mo)) (dy - 1), ke + 1, zb1, zw1, g4_24, ra2_33, p1__36, p2__37, p3__38, 1, hsa2_17, hti2_18, ⟨hkd.1, hkd.2.1, hkd.2.2.1, hkd.2.2.2.1, kdr_lt _⟩, Or.inr ⟨rfl, hz1, rfl, rfl, rfl, (Nat.le_of_lt_succ hl9), rfl, hp1_39, hp2_40, hp3_41⟩, rfl, rfl⟩) (Nat.le_of_ble_eq_true rfl) (Nat.le_of_ble_eq_true rfl) dX11_passByChance_130
        · have hz0 := kz_0 c_29 (by omega)
          refine lv_iconst (v := 0) hx hb dX11_passByChance_106 ic_0 ?_
          exact sk_iret hx hb hr rfl hlocks hK hP hD hS (⟨sa2_4, ft2_5, fa2_6, fo2_7, fg2_8, fk2_9, z2_10, z3_11, g1_12, g2_13, g3_14, ((kda rn (sd, Ba, We) dy).1), wn, mo, ke, zb1, zw1, g4_24, ra, p1, p2, p3, 0, hsa2_17, hti2_18, ⟨hkd.1, hkd.2.1, hkd.2.2.1, hkd.2.2.2.1, hkd.2.2.2.2⟩, Or.inl ⟨rfl, hz0, rfl, rfl, rfl, rfl, rfl, rfl, rfl⟩, rfl, rfl⟩) (Nat.le_of_ble_eq_true rfl) (Nat.le_of_ble_eq_true rfl) dX11_passByChance_107
      · have c_3 : ¬ (dy ≤ i) := fun h => c_3 ((nle dy i (by omega) (by omega)).mpr h)
        subst hzr
        have hsd1 := hkd.2.2.2.2
        refine lv_aload_n hx hb dX11_passByChance_13 rfl (lv_at hl 1 rfl) ?_
        refine lv_ldc2 (v := 100) hx hb hown (hts _ w_5_36) dX11_passByChance_14 ?_
        refine sk_topl (Int64.ofNat 100) rfl ?_
        refine sk_Vl (q0 := 0) (n := 1) (rest := []) (wr := fmR om_29_10000000 _) ⟨hx, hb, hml, hown, hts⟩ hl.1 (c_kx_draw l D cI cJ cC cZ cS x0 q hc SS.1 100 (by omega) (by omega)) w_5_37 w_5_39 w_0_33 w_1_1 w_5_40 hd_X11_draw_1 ⟨⟨(Nat.le_of_ble_eq_true rfl), (Nat.le_of_ble_eq_true rfl)⟩, (Nat.le_of_ble_eq_true rfl), (Nat.le_of_ble_eq_true rfl)⟩ hK hP hD hS hA (fmT om_29_10000000 0) (fmF om_29_10000000 0) (fm_C1 rfl rfl) (fm_R rfl rfl) (fm_nT om_29_10000000 0) (fm_nF om_29_10000000 0) (fm_di om_29_10000000 0) rfl rfl rfl rfl (Nat.le_of_ble_eq_true rfl) dX11_passByChance_17 (fun r_43 u H locs hw hP hD hS => ?_)
        refine anE hw (fun er_45 eu_44 => ?_)
        clear hw
        subst er_45
        refine o_mgE (ws' := [ro_rrrrrrrrrrrrrrrirl x0 11 (q 0) (q 1) (q 2) (q 3) (q 4) (q 5) (q 6) (q 7) (q 8) (q 9) (q 10) (q 11) (q 12) (q 13) (q 14) hc (q 16) (Int64.ofNat (kdr SS.1)), ro_rrrrrr (q 10) 9 (q 61) (q 62) (q 63) (q 64) (q 65) (q 66), ra_N (q 61) cI 90 sa, ra_I (q 62) cI 900 ft, ra_I (q 63) cI 90 fa, ra_I (q 64) cI 90 fo, ra_J (q 65) cJ 90 fg, ra_I (q 66) cI 9 fk, ro_rrrrrnninn (q 5) 2 (q 44) (q 45) (q 46) (q 47) (q 48) dh mh uh rn nh, ro_rrrrnn (q 44) 0 (q 49) (q 50) (q 51) (q 52) ch wh, ra_I (q 49) cI 1600 y1, ra_J (q 50) cJ 64 y2, ra_J (q 51) cJ 9 y3, ra_J (q 52) cJ 10 y4, ra_I (q 47) cI 3 yf, ra_I (q 48) cI 3 yt, ro_rrrrrrrnn (q 11) 1 (q 10) (q 67) (q 68) (q 69) (q 70) (q 71) (q 72) gd gs, ra_I (q 67) cI 90 e1, ra_I (q 68) cI 9 e2, ra_I (q 69) cI 10 e3, ro_rrnnnin (q 7) 7 (q 33) (q 34) dy wn mo mu ke, ra_I (q 33) cI 9 zb1, ra_I (q 34) cI 9 zw1, ra_J (q 70) cJ 100 e4, ra_I (q 12) cI 9 ra, ro_rnrrr (q 9) 4 (q 35) ac (q 36) (q 37) (q 38), ra_I (q 36) cI 1000 p1, ra_J (q 37) cJ 1000 p2, ra_I (q 38) cI 1000 p3]) eu_44 hP hD rfl (fun hP hD => ?_)
        have hv_46 := kdv_lt (x := SS.1) (m := 100) (by decide)
        refine lv_aload_n hx hb dX11_passByChance_20 rfl (lv_at hl 1 rfl) ?_
        refine sk_get (v := .ref (q 5)) (C := RX11) (T := TX11) (N := 18) hx hb hts inlX11 hown hK hP 0 rfl rfl 5 (Nat.le_of_ble_eq_true rfl) w_2_128 rfl dX11_passByChance_21 ?_
        refine sk_get (v := .int (nI rn)) (C := RX2) (T := TX2) (N := 10) hx hb hts inlX2 hown hK hP 8 rfl rfl 8 (Nat.le_of_ble_eq_true rfl) w_1_199 rfl dX11_passByChance_24 ?_
        refine lv_i2l hx hb dX11_passByChance_27 rfl ?_
        refine W.lcmp hx hb dX11_passByChance_28 ?_
        refine lv_if_ge (tgt := 60) hx hb dX11_passByChance_29 (by decide) (fun c_47 => ?_) (fun c_47 => ?_)
        · have hr_48 : ¬ kdv SS.1 100 < rn := Nat.not_lt.mpr ((kcmp_ge (by omega) (by omega)).mp (by rw [← kx_i2l (show rn < 2147483648 by omega)]; exact c_47))
          refine lv_aload_n hx hb dX11_passByChance_60 rfl (lv_at hl 1 rfl) ?_
          refine sk_get (v := .ref (q 7)) (C := RX11) (T := TX11) (N := 18) hx hb hts inlX11 hown hK hP 0 rfl rfl 7 (Nat.le_of_ble_eq_true rfl) w_2_130 rfl dX11_passByChance_61 ?_
          refine sk_get (v := .ref (q 33)) (C := RX7) (T := TX7) (N := 7) hx hb hts inlX7 hown hK hP 20 rfl rfl 0 (Nat.le_of_ble_eq_true rfl) w_1_232 rfl dX11_passByChance_64 ?_
          refine lv_iload_n hx hb dX11_passByChance_67 rfl (lv_at hl 0 rfl) ?_
          refine lv_aload_n hx hb dX11_passByChance_68 rfl (lv_at hl 1 rfl) ?_
          refine lv_ldc2 (v := 10) hx hb hown (hts _ w_5_46) dX11_passByChance_69 ?_
          refine sk_topl (Int64.ofNat 10) rfl ?_
          refine sk_Vl (q0 := 0) (n := 1) (rest := [.int (nI i), .ref (q 33)]) (wr := fmR om_29_10000000 _) ⟨hx, hb, hml, hown, hts⟩ hl.1 (c_kx_draw l D cI cJ cC cZ cS x0 q hc (kdr SS.1) 10 (by omega) (by omega)) w_5_37 w_5_39 w_0_33 w_1_1 w_5_40 hd_X11_draw_1 ⟨⟨(Nat.le_of_ble_eq_true rfl), (Nat.le_of_ble_eq_true rfl)⟩, (Nat.le_of_ble_eq_true rfl), (Nat.le_of_ble_eq_true rfl)⟩ hK hP hD hS hA (fmT om_29_10000000 0) (fmF om_29_10000000 0) (fm_C1 rfl rfl) (fm_R rfl rfl) (fm_nT om_29_10000000 0) (fm_nF om_29_10000000 0) (fm_di om_29_10000000 0) rfl rfl rfl rfl (Nat.le_of_ble_eq_true rfl) dX11_passByChance_72 (fun r_49 u H locs hw hP hD hS => ?_)
          refine anE hw (fun er_51 eu_50 => ?_)
          clear hw
          subst er_51
          refine o_mgE (ws' := [ro_rrrrrrrrrrrrrrrirl x0 11 (q 0) (q 1) (q 2) (q 3) (q 4) (q 5) (q 6) (q 7) (q 8) (q 9) (q 10) (q 11) (q 12) (q 13) (q 14) hc (q 16) (Int64.ofNat (kdr (kdr SS.1))), ro_rrrrrr (q 10) 9 (q 61) (q 62) (q 63) (q 64) (q 65) (q 66), ra_N (q 61) cI 90 sa, ra_I (q 62) cI 900 ft, ra_I (q 63) cI 90 fa, ra_I (q 64) cI 90 fo, ra_J (q 65) cJ 90 fg, ra_I (q 66) cI 9 fk, ro_rrrrrnninn (q 5) 2 (q 44) (q 45) (q 46) (q 47) (q 48) dh mh uh rn nh, ro_rrrrnn (q 44) 0 (q 49) (q 50) (q 51) (q 52) ch wh, ra_I (q 49) cI 1600 y1, ra_J (q 50) cJ 64 y2, ra_J (q 51) cJ 9 y3, ra_J (q 52) cJ 10 y4, ra_I (q 47) cI 3 yf, ra_I (q 48) cI 3 yt, ro_rrrrrrrnn (q 11) 1 (q 10) (q 67) (q 68) (q 69) (q 70) (q 71) (q 72) gd gs, ra_I (q 67) cI 90 e1, ra_I (q 68) cI 9 e2, ra_I (q 69) cI 10 e3, ro_rrnnnin (q 7) 7 (q 33) (q 34) dy wn mo mu ke, ra_I (q 33) cI 9 zb1, ra_I (q 34) cI 9 zw1, ra_J (q 70) cJ 100 e4, ra_I (q 12) cI 9 ra, ro_rnrrr (q 9) 4 (q 35) ac (q 36) (q 37) (q 38), ra_I (q 36) cI 1000 p1, ra_J (q 37) cJ 1000 p2, ra_I (q 38) cI 1000 p3]) eu_50 hP hD rfl (fun hP hD => ?_)
          have hv_52 := kdv_lt (x := kdr SS.1) (m := 10) (by decide)
          refine lv_l2i hx hb dX11_passByChance_75 rfl ?_
          refine sk_top (nI (kdv (kdr SS.1) 10)) (kl2i (by omega)) ?_
          refine sk_iastE (k := i) (ws' := fun f_53 => [ro_rrrrrrrrrrrrrrrirl x0 11 (q 0) (q 1) (q 2) (q 3) (q 4) (q 5) (q 6) (q 7) (q 8) (q 9) (q 10) (q 11) (q 12) (q 13) (q 14) hc (q 16) (Int64.ofNat (kdr (kdr SS.1))), ro_rrrrrr (q 10) 9 (q 61) (q 62) (q 63) (q 64) (q 65) (q 66), ra_N (q 61) cI 90 sa, ra_I (q 62) cI 900 ft, ra_I (q 63) cI 90 fa, ra_I (q 64) cI 90 fo, ra_J (q 65) cJ 90 fg, ra_I (q 66) cI 9 fk, ro_rrrrrnninn (q 5) 2 (q 44) (q 45) (q 46) (q 47) (q 48) dh mh uh rn nh, ro_rrrrnn (q 44) 0 (q 49) (q 50) (q 51) (q 52) ch wh, ra_I (q 49) cI 1600 y1, ra_J (q 50) cJ 64 y2, ra_J (q 51) cJ 9 y3, ra_J (q 52) cJ 10 y4, ra_I (q 47) cI 3 yf, ra_I (q 48) cI 3 yt, ro_rrrrrrrnn (q 11) 1 (q 10) (q 67) (q 68) (q 69) (q 70) (q 71) (q 72) gd gs, ra_I (q 67) cI 90 e1, ra_I (q 68) cI 9 e2, ra_I (q 69) cI 10 e3, ro_rrnnnin (q 7) 7 (q 33) (q 34) dy wn mo mu ke, ra_I (q 33) cI 9 f_53, ra_I (q 34) cI 9 zw1, ra_J (q 70) cJ 100 e4, ra_I (q 12) cI 9 ra, ro_rnrrr (q 9) 4 (q 35) ac (q 36) (q 37) (q 38), ra_I (q 36) cI 1000 p1, ra_J (q 37) cJ 1000 p2, ra_I (q 38) cI 1000 p3]) hx hb hK hP hD hS 21 0 rfl rfl (by omega) (by omega) (fun _ => rfl) dX11_passByChance_76 (fun f_53 H locs ef_54 hP hD hS => ?_)
          refine lv_iinc (v := nI (i + 1)) (lv' := [(1, .int (nI (i + 1))), (0, .ref x0)]) hx hb dX11_passByChance_77 hl (k := 0) rfl (ninc i 1 (by decide)) (by decide) rfl (fun ls hl => ?_)
          refine lv_goto (tgt := 2) hx hb dX11_passByChance_80 (by decide) ?_
          exact ih_lp_1 (i + 1) (Int64.ofNat (kdr (kdr SS.1))) f_53 zw1 (kda rn (sd, Ba, We) (i + 1)) _ _ _ (by omega) (by omega) rfl (by rw [kda_s, ← hSS, kds_2 hr_48]) (by rw [kda_s, ← hSS]; exact kd_barge hkd hr_48 ef_54) hP hD hS (lv_sub hl [0, 1] rfl)
        · have hr_55 : kdv SS.1 100 < rn := Nat.lt_of_not_le (fun hq => c_47 (by rw [kx_i2l (show rn < 2147483648 by omega)]; exact (kcmp_ge (by omega) (by omega)).mpr hq))
          refine lv_aload_n hx hb dX11_passByChance_32 rfl (lv_at hl 1 rfl) ?_
          refine sk_get (v := .ref (q 7)) (C := RX11) (T := TX11) (N := 18) hx hb hts inlX11 hown hK hP 0 rfl rfl 7 (Nat.le_of_ble_eq_true rfl) w_2_130 rfl dX11_passByChance_33 ?_
          refine sk_get (v := .ref (q 34)) (C := RX7) (T := TX7) (N := 7) hx hb hts inlX7 hown hK hP 20 rfl rfl 1 (Nat.le_of_ble_eq_true rfl) w_1_236 rfl dX11_passByChance_36 ?_
          refine lv_iload_n hx hb dX11_passByChance_39 rfl (lv_at hl 0 rfl) ?_
          refine lv_aload_n hx hb dX11_passByChance_40 rfl (lv_at hl 1 rfl) ?_
          refine sk_get (v := .ref (q 7)) (C := RX11) (T := TX11) (N := 18) hx hb hts inlX11 hown hK hP 0 rfl rfl 7 (Nat.le_of_ble_eq_true rfl) w_2_130 rfl dX11_passByChance_41 ?_
          refine sk_get (v := .ref (q 34)) (C := RX7) (T := TX7) (N := 7) hx hb hts inlX7 hown hK hP 20 rfl rfl 1 (Nat.le_of_ble_eq_true rfl) w_1_236 rfl dX11_passByChance_44 ?_
          refine lv_iload_n hx hb dX11_passByChance_47 rfl (lv_at hl 0 rfl) ?_
          refine va_iald hx hb hK.1 hP 22 0 rfl rfl (vin i 9 (by omega) (Nat.le_of_ble_eq_true rfl)) dX11_passByChance_48 ?_
          have hw9_ := hkd.2.2.2.1 i
          refine sk_top (nI (SS.2.2 i)) (by rw [nI_clamp (by omega)]; exact hkd.2.1 i (by omega)) ?_
          refine lv_iconst (v := 1) hx hb dX11_passByChance_49 ic_1 ?_
          refine lv_iadd hx hb dX11_passByChance_50 ?_
          refine sk_top (nI (SS.2.2 i + 1)) (nI_add (SS.2.2 i) 1) ?_
          refine lv_bipush (v := 9) hx hb dX11_passByChance_51 (by decide) ?_
          refine va_mmin hx hb (by rw [hml]; exact hl.1.symm) hown (hts _ w_5_45) (hts _ w_3_184) (hts _ w_1_3) (hts _ w_3_185) (Nat.le_of_ble_eq_true rfl) (Nat.le_of_ble_eq_true rfl) (Nat.le_of_ble_eq_true rfl) (Nat.le_of_ble_eq_true rfl) dX11_passByChance_53 ?_
          refine sk_top (nI (min (SS.2.2 i + 1) 9)) (kmin9 (by omega)) ?_
          refine sk_iastE (k := i) (ws' := fun f_56 => [ro_rrrrrrrrrrrrrrrirl x0 11 (q 0) (q 1) (q 2) (q 3) (q 4) (q 5) (q 6) (q 7) (q 8) (q 9) (q 10) (q 11) (q 12) (q 13) (q 14) hc (q 16) (Int64.ofNat (kdr SS.1)), ro_rrrrrr (q 10) 9 (q 61) (q 62) (q 63) (q 64) (q 65) (q 66), ra_N (q 61) cI 90 sa, ra_I (q 62) cI 900 ft, ra_I (q 63) cI 90 fa, ra_I (q 64) cI 90 fo, ra_J (q 65) cJ 90 fg, ra_I (q 66) cI 9 fk, ro_rrrrrnninn (q 5) 2 (q 44) (q 45) (q 46) (q 47) (q 48) dh mh uh rn nh, ro_rrrrnn (q 44) 0 (q 49) (q 50) (q 51) (q 52) ch wh, ra_I (q 49) cI 1600 y1, ra_J (q 50) cJ 64 y2, ra_J (q 51) cJ 9 y3, ra_J (q 52) cJ 10 y4, ra_I (q 47) cI 3 yf, ra_I (q 48) cI 3 yt, ro_rrrrrrrnn (q 11) 1 (q 10) (q 67) (q 68) (q 69) (q 70) (q 71) (q 72) gd gs, ra_I (q 67) cI 90 e1, ra_I (q 68) cI 9 e2, ra_I (q 69) cI 10 e3, ro_rrnnnin (q 7) 7 (q 33) (q 34) dy wn mo mu ke, ra_I (q 33) cI 9 zb1, ra_I (q 34) cI 9 f_56, ra_J (q 70) cJ 100 e4, ra_I (q 12) cI 9 ra, ro_rnrrr (q 9) 4 (q 35) ac (q 36) (q 37) (q 38), ra_I (q 36) cI 1000 p1, ra_J (q 37) cJ 1000 p2, ra_I (q 38) cI 1000 p3]) hx hb hK hP hD hS 22 0 rfl rfl (by omega) (by omega) (fun _ => rfl) dX11_passByChance_56 (fun f_56 H locs ef_57 hP hD hS => ?_)
          refine lv_goto (tgt := 77) hx hb dX11_passByChance_57 (by decide) ?_
          refine lv_iinc (v := nI (i + 1)) (lv' := [(1, .int (nI (i + 1))), (0, .ref x0)]) hx hb dX11_passByChance_77 hl (k := 0) rfl (ninc i 1 (by decide)) (by decide) rfl (fun ls hl => ?_)
          refine lv_goto (tgt := 2) hx hb dX11_passByChance_80 (by decide) ?_
          exact ih_lp_1 (i + 1) (Int64.ofNat (kdr SS.1)) zb1 f_56 (kda rn (sd, Ba, We) (i + 1)) _ _ _ (by omega) (by omega) rfl (by rw [kda_s, ← hSS, kds_1 hr_55]) (by rw [kda_s, ← hSS]; exact kd_wet hkd hr_55 ef_57) hP hD hS (lv_sub hl [0, 1] rfl)
  exact lp_1 (dy - 0 + 1) 0 (Int64.ofNat sd) fb fw (sd, Ba, We) _ _ _ (Nat.lt_succ_self _) (by omega) rfl rfl ⟨hfb, hfw, hB9, hW9, hsd⟩ hP hD hS (lv_sub hl [0, 1] rfl)
set_option maxHeartbeats 4000000 in
set_option maxRecDepth 100000 in
theorem c_kx_isDay (l : Launch) (D : va_G) (cI cJ cC cZ cS : ClassId) (x0 : Nat) (q : Nat → Nat) (hc : Int32) (dr : Int64) (dy : Nat) (wn : Nat) (mo : Nat) (ke : Nat) (mu : Int32) (fb : Nat → Int32) (fw : Nat → Int32) (d : Int32) (hdy : dy ≤ 9) : skM l yX11_isDay cX11_isDay 2 (some .boolean) 0 0 0 0 D (skT cI cJ cC cZ cS) [.ref x0, .int d] [ro_rrrrrrrrrrrrrrrirl x0 11 (q 0) (q 1) (q 2) (q 3) (q 4) (q 5) (q 6) (q 7) (q 8) (q 9) (q 10) (q 11) (q 12) (q 13) (q 14) hc (q 16) dr, ro_rrnnnin (q 7) 7 (q 33) (q 34) dy wn mo mu ke] (skI D (skT cI cJ cC cZ cS) (fun (r : Int32) (u : va_W) => ∃ (b : Nat), ((b = 0 ∧ ¬ kIn d dy) ∨ (b = 1 ∧ kIn d dy)) ∧ r = nI b ∧ u = [ro_rrrrrrrrrrrrrrrirl x0 11 (q 0) (q 1) (q 2) (q 3) (q 4) (q 5) (q 6) (q 7) (q 8) (q 9) (q 10) (q 11) (q 12) (q 13) (q 14) hc (q 16) dr, ro_rrnnnin (q 7) 7 (q 33) (q 34) dy wn mo mu ke])) := by
  refine skM_of pf_X11_isDay (Nat.le_of_ble_eq_true rfl) ?_
  intro p e s m below meth c A ls E hP hD hl
  refine skE_el E (fun hx hb hr hml hlocks hin hown hts hK hA => ?_)
  have hown : s.vm.findClass RX11 = some m.cls := hown
  have hS : va_S A s.heap s.heap [] := va_S.rf
  have hl : lv_has ls 2 [(0, .ref x0), (1, .int d)] := hl
  refine lv_iload_n hx hb dX11_isDay_0 rfl (lv_at hl 1 rfl) ?_
  refine lv_if_lt (tgt := 19) hx hb dX11_isDay_1 (by decide) (fun c_1 => ?_) (fun c_1 => ?_)
  · skip
    refine lv_iconst (v := 0) hx hb dX11_isDay_19 ic_0 ?_
    exact sk_iret hx hb hr rfl hlocks hK hP hD hS (⟨0, Or.inl ⟨rfl, kIn_neg c_1 (by omega)⟩, rfl, rfl⟩) (Nat.le_of_ble_eq_true rfl) (Nat.le_of_ble_eq_true rfl) dX11_isDay_20
  · obtain ⟨k_2, hk_2, rfl⟩ := nof d c_1
    refine lv_iload_n hx hb dX11_isDay_4 rfl (lv_at hl 1 rfl) ?_
    refine lv_aload_n hx hb dX11_isDay_5 rfl (lv_at hl 0 rfl) ?_
    refine sk_get (v := .ref (q 7)) (C := RX11) (T := TX11) (N := 18) hx hb hts inlX11 hown hK hP 0 rfl rfl 7 (Nat.le_of_ble_eq_true rfl) w_2_130 rfl dX11_isDay_6 ?_
    refine sk_get (v := .int (nI dy)) (C := RX7) (T := TX7) (N := 7) hx hb hts inlX7 hown hK hP 1 rfl rfl 2 (Nat.le_of_ble_eq_true rfl) w_2_1 rfl dX11_isDay_9 ?_
    refine lv_icmp_ge (tgt := 19) hx hb dX11_isDay_12 (by decide) (fun c_3 => ?_) (fun c_3 => ?_)
    · have c_3 : dy ≤ k_2 := (nle dy k_2 (by omega) (by omega)).mp c_3
      refine lv_iconst (v := 0) hx hb dX11_isDay_19 ic_0 ?_
      exact sk_iret hx hb hr rfl hlocks hK hP hD hS (⟨0, Or.inl ⟨rfl, kIn_ge (by omega) (by omega)⟩, rfl, rfl⟩) (Nat.le_of_ble_eq_true rfl) (Nat.le_of_ble_eq_true rfl) dX11_isDay_20
    · have c_3 : ¬ (dy ≤ k_2) := fun h => c_3 ((nle dy k_2 (by omega) (by omega)).mpr h)
      refine lv_iconst (v := 1) hx hb dX11_isDay_15 ic_1 ?_
      refine lv_goto (tgt := 20) hx hb dX11_isDay_16 (by decide) ?_
      exact sk_iret hx hb hr rfl hlocks hK hP hD hS (⟨1, Or.inr ⟨rfl, k_2, by omega, rfl⟩, rfl, rfl⟩) (Nat.le_of_ble_eq_true rfl) (Nat.le_of_ble_eq_true rfl) dX11_isDay_20
set_option maxHeartbeats 4000000 in
set_option maxRecDepth 100000 in
theorem c_kx_isDigit (l : Launch) (D : va_G) (cI cJ cC cZ cS : ClassId) (d : Int32)  : skM l yX11_isDigit cX11_isDigit 1 (some .boolean) 0 0 0 0 D (skT cI cJ cC cZ cS) [.int d] [] (skI D (skT cI cJ cC cZ cS) (fun (r : Int32) (u : va_W) => ∃ (b : Nat), ((b = 0 ∧ ¬ kIn d 10) ∨ (b = 1 ∧ kIn d 10)) ∧ r = nI b ∧ u = [])) := by
  refine skM_of pf_X11_isDigit (Nat.le_of_ble_eq_true rfl) ?_
  intro p e s m below meth c A ls E hP hD hl
  refine skE_el E (fun hx hb hr hml hlocks hin hown hts hK hA => ?_)
  have hown : s.vm.findClass RX11 = some m.cls := hown
  have hS : va_S A s.heap s.heap [] := va_S.rf
  have hl : lv_has ls 1 [(0, .int d)] := hl
  refine lv_iload_n hx hb dX11_isDigit_0 rfl (lv_at hl 0 rfl) ?_
  refine lv_if_lt (tgt := 14) hx hb dX11_isDigit_1 (by decide) (fun c_1 => ?_) (fun c_1 => ?_)
  · skip
    refine lv_iconst (v := 0) hx hb dX11_isDigit_14 ic_0 ?_
    exact sk_iret hx hb hr rfl hlocks hK hP hD hS (⟨0, Or.inl ⟨rfl, kIn_neg c_1 (by omega)⟩, rfl, rfl⟩) (Nat.le_of_ble_eq_true rfl) (Nat.le_of_ble_eq_true rfl) dX11_isDigit_15
  · obtain ⟨k_2, hk_2, rfl⟩ := nof d c_1
    refine lv_iload_n hx hb dX11_isDigit_4 rfl (lv_at hl 0 rfl) ?_
    refine lv_bipush (v := 10) hx hb dX11_isDigit_5 (by decide) ?_
    refine lv_icmp_ge (tgt := 14) hx hb dX11_isDigit_7 (by decide) (fun c_3 => ?_) (fun c_3 => ?_)
    · have c_3 : 10 ≤ k_2 := (nle 10 k_2 (Nat.le_of_ble_eq_true rfl) (by omega)).mp c_3
      refine lv_iconst (v := 0) hx hb dX11_isDigit_14 ic_0 ?_
      exact sk_iret hx hb hr rfl hlocks hK hP hD hS (⟨0, Or.inl ⟨rfl, kIn_ge (by omega) (by omega)⟩, rfl, rfl⟩) (Nat.le_of_ble_eq_true rfl) (Nat.le_of_ble_eq_true rfl) dX11_isDigit_15
    · have c_3 : ¬ (10 ≤ k_2) := fun h => c_3 ((nle 10 k_2 (Nat.le_of_ble_eq_true rfl) (by omega)).mpr h)
      refine lv_iconst (v := 1) hx hb dX11_isDigit_10 ic_1 ?_
      refine lv_goto (tgt := 15) hx hb dX11_isDigit_11 (by decide) ?_
      exact sk_iret hx hb hr rfl hlocks hK hP hD hS (⟨1, Or.inr ⟨rfl, k_2, by omega, rfl⟩, rfl, rfl⟩) (Nat.le_of_ble_eq_true rfl) (Nat.le_of_ble_eq_true rfl) dX11_isDigit_15
theorem dg_X11_isLocked_0_0 : bqL cX11_isLocked 0 [(0, [42]), (1, [180, 0, 59]), (4, [180, 0, 144]), (7, [158, 0, 7]), (14, [3]), (15, [172]), (10, [4]), (11, [167, 0, 4])] = true := by decide +kernel
theorem dX11_isLocked_0 : decode cX11_isLocked 0 = .ok (.aload_n 0, 1) := q_aload_n0 (bat_get dg_X11_isLocked_0_0 0 rfl rfl)
theorem dX11_isLocked_1 : decode cX11_isLocked 1 = .ok (.getfield 59, 3) := q_getfield (bat_get dg_X11_isLocked_0_0 1 rfl rfl) rfl
theorem dX11_isLocked_4 : decode cX11_isLocked 4 = .ok (.getfield 144, 3) := q_getfield (bat_get dg_X11_isLocked_0_0 2 rfl rfl) rfl
theorem dX11_isLocked_7 : decode cX11_isLocked 7 = .ok (.ifCond .le 7, 3) := q_ifCond_le (bat_get dg_X11_isLocked_0_0 3 rfl rfl) rfl
theorem dX11_isLocked_14 : decode cX11_isLocked 14 = .ok (.iconst 0, 1) := q_iconst0 (bat_get dg_X11_isLocked_0_0 4 rfl rfl)
theorem dX11_isLocked_15 : decode cX11_isLocked 15 = .ok (.ireturn, 1) := q_ireturn (bat_get dg_X11_isLocked_0_0 5 rfl rfl)
theorem dX11_isLocked_10 : decode cX11_isLocked 10 = .ok (.iconst 1, 1) := q_iconst1 (bat_get dg_X11_isLocked_0_0 6 rfl rfl)
theorem dX11_isLocked_11 : decode cX11_isLocked 11 = .ok (.goto 4, 3) := q_goto (bat_get dg_X11_isLocked_0_0 7 rfl rfl) rfl
theorem w_4_42 : (Cond.code yX11_isLocked cX11_isLocked 1 (some .boolean)) ∈ wsL_law := sk_mem (ck_4 _ (List.mem_of_getElem? (i := 42) rfl)) rfl
set_option maxHeartbeats 4000000 in
set_option maxRecDepth 100000 in
theorem c_kx_isLocked (l : Launch) (D : va_G) (cI cJ cC cZ cS : ClassId) (x0 : Nat) (q : Nat → Nat) (hc : Int32) (dr : Int64) (dy : Nat) (wn : Nat) (mo : Nat) (ke : Nat) (mu : Int32) (fb : Nat → Int32) (fw : Nat → Int32) (hdy : dy ≤ 9) : skM l yX11_isLocked cX11_isLocked 1 (some .boolean) 0 0 0 0 D (skT cI cJ cC cZ cS) [.ref x0] [ro_rrrrrrrrrrrrrrrirl x0 11 (q 0) (q 1) (q 2) (q 3) (q 4) (q 5) (q 6) (q 7) (q 8) (q 9) (q 10) (q 11) (q 12) (q 13) (q 14) hc (q 16) dr, ro_rrnnnin (q 7) 7 (q 33) (q 34) dy wn mo mu ke] (skI D (skT cI cJ cC cZ cS) (fun (r : Int32) (u : va_W) => ∃ (b : Nat), ((b = 0 ∧ dy = 0) ∨ (b = 1 ∧ 1 ≤ dy)) ∧ r = nI b ∧ u = [ro_rrrrrrrrrrrrrrrirl x0 11 (q 0) (q 1) (q 2) (q 3) (q 4) (q 5) (q 6) (q 7) (q 8) (q 9) (q 10) (q 11) (q 12) (q 13) (q 14) hc (q 16) dr, ro_rrnnnin (q 7) 7 (q 33) (q 34) dy wn mo mu ke])) := by
  refine skM_of pf_X11_isLocked (Nat.le_of_ble_eq_true rfl) ?_
  intro p e s m below meth c A ls E hP hD hl
  refine skE_el E (fun hx hb hr hml hlocks hin hown hts hK hA => ?_)
  have hown : s.vm.findClass RX11 = some m.cls := hown
  have hS : va_S A s.heap s.heap [] := va_S.rf
  have hl : lv_has ls 1 [(0, .ref x0)] := hl
  refine lv_aload_n hx hb dX11_isLocked_0 rfl (lv_at hl 0 rfl) ?_
  refine sk_get (v := .ref (q 7)) (C := RX11) (T := TX11) (N := 18) hx hb hts inlX11 hown hK hP 0 rfl rfl 7 (Nat.le_of_ble_eq_true rfl) w_2_130 rfl dX11_isLocked_1 ?_
  refine sk_get (v := .int (nI dy)) (C := RX7) (T := TX7) (N := 7) hx hb hts inlX7 hown hK hP 1 rfl rfl 2 (Nat.le_of_ble_eq_true rfl) w_2_1 rfl dX11_isLocked_4 ?_
  refine lv_if_le (tgt := 14) hx hb dX11_isLocked_7 (by decide) (fun c_1 => ?_) (fun c_1 => ?_)
  · have c_1 : dy ≤ 0 := (nle dy 0 (by omega) (Nat.le_of_ble_eq_true rfl)).mp c_1
    refine lv_iconst (v := 0) hx hb dX11_isLocked_14 ic_0 ?_
    exact sk_iret hx hb hr rfl hlocks hK hP hD hS (⟨0, by omega, rfl, rfl⟩) (Nat.le_of_ble_eq_true rfl) (Nat.le_of_ble_eq_true rfl) dX11_isLocked_15
  · have c_1 : ¬ (dy ≤ 0) := fun h => c_1 ((nle dy 0 (by omega) (Nat.le_of_ble_eq_true rfl)).mpr h)
    refine lv_iconst (v := 1) hx hb dX11_isLocked_10 ic_1 ?_
    refine lv_goto (tgt := 15) hx hb dX11_isLocked_11 (by decide) ?_
    exact sk_iret hx hb hr rfl hlocks hK hP hD hS (⟨1, by omega, rfl, rfl⟩) (Nat.le_of_ble_eq_true rfl) (Nat.le_of_ble_eq_true rfl) dX11_isLocked_15
theorem dg_X11_refuse_0_0 : bqL cX11_refuse 0 [(0, [42]), (1, [180, 0, 103]), (4, [27]), (5, [92]), (6, [46]), (7, [4]), (8, [96]), (9, [79]), (10, [2]), (11, [172])] = true := by decide +kernel
theorem dX11_refuse_0 : decode cX11_refuse 0 = .ok (.aload_n 0, 1) := q_aload_n0 (bat_get dg_X11_refuse_0_0 0 rfl rfl)
theorem dX11_refuse_1 : decode cX11_refuse 1 = .ok (.getfield 103, 3) := q_getfield (bat_get dg_X11_refuse_0_0 1 rfl rfl) rfl
theorem dX11_refuse_4 : decode cX11_refuse 4 = .ok (.iload_n 1, 1) := q_iload_n1 (bat_get dg_X11_refuse_0_0 2 rfl rfl)
theorem dX11_refuse_5 : decode cX11_refuse 5 = .ok (.dup2, 1) := q_dup2 (bat_get dg_X11_refuse_0_0 3 rfl rfl)
theorem dX11_refuse_6 : decode cX11_refuse 6 = .ok (.iaload, 1) := q_iaload (bat_get dg_X11_refuse_0_0 4 rfl rfl)
theorem dX11_refuse_7 : decode cX11_refuse 7 = .ok (.iconst 1, 1) := q_iconst1 (bat_get dg_X11_refuse_0_0 5 rfl rfl)
theorem dX11_refuse_8 : decode cX11_refuse 8 = .ok (.iadd, 1) := q_iadd (bat_get dg_X11_refuse_0_0 6 rfl rfl)
theorem dX11_refuse_9 : decode cX11_refuse 9 = .ok (.iastore, 1) := q_iastore (bat_get dg_X11_refuse_0_0 7 rfl rfl)
theorem dX11_refuse_10 : decode cX11_refuse 10 = .ok (.iconst (-1), 1) := q_iconstm1 (bat_get dg_X11_refuse_0_0 8 rfl rfl)
theorem dX11_refuse_11 : decode cX11_refuse 11 = .ok (.ireturn, 1) := q_ireturn (bat_get dg_X11_refuse_0_0 9 rfl rfl)
theorem w_2_139 : (Cond.fieldLink RX11 103 "SameKeeper" "refused" "[I") ∈ wsL_law := sk_mem (ck_2 _ (List.mem_of_getElem? (i := 139) rfl)) rfl
theorem w_2_185 : (Cond.code yX11_refuse cX11_refuse 2 (some .int)) ∈ wsL_law := sk_mem (ck_2 _ (List.mem_of_getElem? (i := 185) rfl)) rfl
set_option maxHeartbeats 4000000 in
set_option maxRecDepth 100000 in
theorem c_kx_refuse (l : Launch) (D : va_G) (cI cJ cC cZ cS : ClassId) (x0 : Nat) (q : Nat → Nat) (hc : Int32) (dr : Int64) (w : Nat) (rf : Nat → Int32) (hw : w < 6) : skM l yX11_refuse cX11_refuse 2 (some .int) 0 0 0 0 D (skT cI cJ cC cZ cS) [.ref x0, .int (nI w)] [ro_rrrrrrrrrrrrrrrirl x0 11 (q 0) (q 1) (q 2) (q 3) (q 4) (q 5) (q 6) (q 7) (q 8) (q 9) (q 10) (q 11) (q 12) (q 13) (q 14) hc (q 16) dr, ra_I (q 16) cI 6 rf] (skI D (skT cI cJ cC cZ cS) (fun (r : Int32) (u : va_W) => ∃ (rf2 : Nat → Int32), rf2 = upd rf w (rf w + 1) ∧ r = (-1) ∧ u = [ro_rrrrrrrrrrrrrrrirl x0 11 (q 0) (q 1) (q 2) (q 3) (q 4) (q 5) (q 6) (q 7) (q 8) (q 9) (q 10) (q 11) (q 12) (q 13) (q 14) hc (q 16) dr, ra_I (q 16) cI 6 rf2])) := by
  refine skM_of pf_X11_refuse (Nat.le_of_ble_eq_true rfl) ?_
  intro p e s m below meth c A ls E hP hD hl
  refine skE_el E (fun hx hb hr hml hlocks hin hown hts hK hA => ?_)
  have hown : s.vm.findClass RX11 = some m.cls := hown
  have hS : va_S A s.heap s.heap [] := va_S.rf
  have hl : lv_has ls 2 [(0, .ref x0), (1, .int (nI w))] := hl
  refine lv_aload_n hx hb dX11_refuse_0 rfl (lv_at hl 0 rfl) ?_
  refine sk_get (v := .ref (q 16)) (C := RX11) (T := TX11) (N := 18) hx hb hts inlX11 hown hK hP 0 rfl rfl 16 (Nat.le_of_ble_eq_true rfl) w_2_139 rfl dX11_refuse_1 ?_
  refine lv_iload_n hx hb dX11_refuse_4 rfl (lv_at hl 1 rfl) ?_
  refine lv_dup2_11 hx hb dX11_refuse_5 rfl rfl ?_
  refine va_iald hx hb hK.1 hP 1 0 rfl rfl (vin w 6 (by omega) (Nat.le_of_ble_eq_true rfl)) dX11_refuse_6 ?_
  refine sk_top (rf w) (by rw [nI_clamp (by omega)]) ?_
  refine lv_iconst (v := 1) hx hb dX11_refuse_7 ic_1 ?_
  refine lv_iadd hx hb dX11_refuse_8 ?_
  refine sk_iastE (k := w) (ws' := fun f_1 => [ro_rrrrrrrrrrrrrrrirl x0 11 (q 0) (q 1) (q 2) (q 3) (q 4) (q 5) (q 6) (q 7) (q 8) (q 9) (q 10) (q 11) (q 12) (q 13) (q 14) hc (q 16) dr, ra_I (q 16) cI 6 f_1]) hx hb hK hP hD hS 1 0 rfl rfl (by omega) (by omega) (fun _ => rfl) dX11_refuse_9 (fun f_1 H locs ef_2 hP hD hS => ?_)
  refine lv_iconst (v := (-1)) hx hb dX11_refuse_10 (by decide) ?_
  exact sk_iret hx hb hr rfl hlocks hK hP hD hS (⟨f_1, ef_2, rfl, rfl⟩) (Nat.le_of_ble_eq_true rfl) (Nat.le_of_ble_eq_true rfl) dX11_refuse_11
theorem dg_X11_refuseIt_0_0 : bqL cX11_refuseIt 0 [(0, [42]), (1, [180, 0, 103]), (4, [27]), (5, [92]), (6, [46]), (7, [4]), (8, [96]), (9, [79]), (10, [3]), (11, [172])] = true := by decide +kernel
theorem dX11_refuseIt_0 : decode cX11_refuseIt 0 = .ok (.aload_n 0, 1) := q_aload_n0 (bat_get dg_X11_refuseIt_0_0 0 rfl rfl)
theorem dX11_refuseIt_1 : decode cX11_refuseIt 1 = .ok (.getfield 103, 3) := q_getfield (bat_get dg_X11_refuseIt_0_0 1 rfl rfl) rfl
theorem dX11_refuseIt_4 : decode cX11_refuseIt 4 = .ok (.iload_n 1, 1) := q_iload_n1 (bat_get dg_X11_refuseIt_0_0 2 rfl rfl)
theorem dX11_refuseIt_5 : decode cX11_refuseIt 5 = .ok (.dup2, 1) := q_dup2 (bat_get dg_X11_refuseIt_0_0 3 rfl rfl)
theorem dX11_refuseIt_6 : decode cX11_refuseIt 6 = .ok (.iaload, 1) := q_iaload (bat_get dg_X11_refuseIt_0_0 4 rfl rfl)
theorem dX11_refuseIt_7 : decode cX11_refuseIt 7 = .ok (.iconst 1, 1) := q_iconst1 (bat_get dg_X11_refuseIt_0_0 5 rfl rfl)
theorem dX11_refuseIt_8 : decode cX11_refuseIt 8 = .ok (.iadd, 1) := q_iadd (bat_get dg_X11_refuseIt_0_0 6 rfl rfl)
theorem dX11_refuseIt_9 : decode cX11_refuseIt 9 = .ok (.iastore, 1) := q_iastore (bat_get dg_X11_refuseIt_0_0 7 rfl rfl)
theorem dX11_refuseIt_10 : decode cX11_refuseIt 10 = .ok (.iconst 0, 1) := q_iconst0 (bat_get dg_X11_refuseIt_0_0 8 rfl rfl)
theorem dX11_refuseIt_11 : decode cX11_refuseIt 11 = .ok (.ireturn, 1) := q_ireturn (bat_get dg_X11_refuseIt_0_0 9 rfl rfl)
theorem w_2_201 : (Cond.code yX11_refuseIt cX11_refuseIt 2 (some .boolean)) ∈ wsL_law := sk_mem (ck_2 _ (List.mem_of_getElem? (i := 201) rfl)) rfl
set_option maxHeartbeats 4000000 in
set_option maxRecDepth 100000 in
theorem c_kx_refuseIt (l : Launch) (D : va_G) (cI cJ cC cZ cS : ClassId) (x0 : Nat) (q : Nat → Nat) (hc : Int32) (dr : Int64) (w : Nat) (rf : Nat → Int32) (hw : w < 6) : skM l yX11_refuseIt cX11_refuseIt 2 (some .boolean) 0 0 0 0 D (skT cI cJ cC cZ cS) [.ref x0, .int (nI w)] [ro_rrrrrrrrrrrrrrrirl x0 11 (q 0) (q 1) (q 2) (q 3) (q 4) (q 5) (q 6) (q 7) (q 8) (q 9) (q 10) (q 11) (q 12) (q 13) (q 14) hc (q 16) dr, ra_I (q 16) cI 6 rf] (skI D (skT cI cJ cC cZ cS) (fun (r : Int32) (u : va_W) => ∃ (rf2 : Nat → Int32), rf2 = upd rf w (rf w + 1) ∧ r = 0 ∧ u = [ro_rrrrrrrrrrrrrrrirl x0 11 (q 0) (q 1) (q 2) (q 3) (q 4) (q 5) (q 6) (q 7) (q 8) (q 9) (q 10) (q 11) (q 12) (q 13) (q 14) hc (q 16) dr, ra_I (q 16) cI 6 rf2])) := by
  refine skM_of pf_X11_refuseIt (Nat.le_of_ble_eq_true rfl) ?_
  intro p e s m below meth c A ls E hP hD hl
  refine skE_el E (fun hx hb hr hml hlocks hin hown hts hK hA => ?_)
  have hown : s.vm.findClass RX11 = some m.cls := hown
  have hS : va_S A s.heap s.heap [] := va_S.rf
  have hl : lv_has ls 2 [(0, .ref x0), (1, .int (nI w))] := hl
  refine lv_aload_n hx hb dX11_refuseIt_0 rfl (lv_at hl 0 rfl) ?_
  refine sk_get (v := .ref (q 16)) (C := RX11) (T := TX11) (N := 18) hx hb hts inlX11 hown hK hP 0 rfl rfl 16 (Nat.le_of_ble_eq_true rfl) w_2_139 rfl dX11_refuseIt_1 ?_
  refine lv_iload_n hx hb dX11_refuseIt_4 rfl (lv_at hl 1 rfl) ?_
  refine lv_dup2_11 hx hb dX11_refuseIt_5 rfl rfl ?_
  refine va_iald hx hb hK.1 hP 1 0 rfl rfl (vin w 6 (by omega) (Nat.le_of_ble_eq_true rfl)) dX11_refuseIt_6 ?_
  refine sk_top (rf w) (by rw [nI_clamp (by omega)]) ?_
  refine lv_iconst (v := 1) hx hb dX11_refuseIt_7 ic_1 ?_
  refine lv_iadd hx hb dX11_refuseIt_8 ?_
  refine sk_iastE (k := w) (ws' := fun f_1 => [ro_rrrrrrrrrrrrrrrirl x0 11 (q 0) (q 1) (q 2) (q 3) (q 4) (q 5) (q 6) (q 7) (q 8) (q 9) (q 10) (q 11) (q 12) (q 13) (q 14) hc (q 16) dr, ra_I (q 16) cI 6 f_1]) hx hb hK hP hD hS 1 0 rfl rfl (by omega) (by omega) (fun _ => rfl) dX11_refuseIt_9 (fun f_1 H locs ef_2 hP hD hS => ?_)
  refine lv_iconst (v := 0) hx hb dX11_refuseIt_10 ic_0 ?_
  exact sk_iret hx hb hr rfl hlocks hK hP hD hS (⟨f_1, ef_2, rfl, rfl⟩) (Nat.le_of_ble_eq_true rfl) (Nat.le_of_ble_eq_true rfl) dX11_refuseIt_11
theorem dg_X11_status_0_0 : bqL cX11_status 0 [(0, [27]), (1, [155, 0, 18]), (19, [2]), (20, [172]), (4, [27]), (5, [16, 6]), (7, [162, 0, 12]), (10, [42]), (11, [180, 0, 103]), (14, [27]), (15, [46]), (16, [167, 0, 4])] = true := by decide +kernel
theorem dX11_status_0 : decode cX11_status 0 = .ok (.iload_n 1, 1) := q_iload_n1 (bat_get dg_X11_status_0_0 0 rfl rfl)
theorem dX11_status_1 : decode cX11_status 1 = .ok (.ifCond .lt 18, 3) := q_ifCond_lt (bat_get dg_X11_status_0_0 1 rfl rfl) rfl
theorem dX11_status_19 : decode cX11_status 19 = .ok (.iconst (-1), 1) := q_iconstm1 (bat_get dg_X11_status_0_0 2 rfl rfl)
theorem dX11_status_20 : decode cX11_status 20 = .ok (.ireturn, 1) := q_ireturn (bat_get dg_X11_status_0_0 3 rfl rfl)
theorem dX11_status_4 : decode cX11_status 4 = .ok (.iload_n 1, 1) := q_iload_n1 (bat_get dg_X11_status_0_0 4 rfl rfl)
theorem dX11_status_5 : decode cX11_status 5 = .ok (.bipush 6, 2) := q_bipush (bat_get dg_X11_status_0_0 5 rfl rfl) rfl
theorem dX11_status_7 : decode cX11_status 7 = .ok (.if_icmp .ge 12, 3) := q_if_icmp_ge (bat_get dg_X11_status_0_0 6 rfl rfl) rfl
theorem dX11_status_10 : decode cX11_status 10 = .ok (.aload_n 0, 1) := q_aload_n0 (bat_get dg_X11_status_0_0 7 rfl rfl)
theorem dX11_status_11 : decode cX11_status 11 = .ok (.getfield 103, 3) := q_getfield (bat_get dg_X11_status_0_0 8 rfl rfl) rfl
theorem dX11_status_14 : decode cX11_status 14 = .ok (.iload_n 1, 1) := q_iload_n1 (bat_get dg_X11_status_0_0 9 rfl rfl)
theorem dX11_status_15 : decode cX11_status 15 = .ok (.iaload, 1) := q_iaload (bat_get dg_X11_status_0_0 10 rfl rfl)
theorem dX11_status_16 : decode cX11_status 16 = .ok (.goto 4, 3) := q_goto (bat_get dg_X11_status_0_0 11 rfl rfl) rfl
theorem w_5_148 : (Cond.code yX11_status cX11_status 2 (some .int)) ∈ wsL_law := sk_mem (ck_5 _ (List.mem_of_getElem? (i := 148) rfl)) rfl
set_option maxHeartbeats 4000000 in
set_option maxRecDepth 100000 in
theorem c_ky_status (l : Launch) (D : va_G) (cI cJ cC cZ cS : ClassId) (x0 : Nat) (q : Nat → Nat) (hc : Int32) (dr : Int64) (rf : Nat → Int32) (w : Int32)  : skM l yX11_status cX11_status 2 (some .int) 0 0 0 0 D (skT cI cJ cC cZ cS) [.ref x0, .int w] [ro_rrrrrrrrrrrrrrrirl x0 11 (q 0) (q 1) (q 2) (q 3) (q 4) (q 5) (q 6) (q 7) (q 8) (q 9) (q 10) (q 11) (q 12) (q 13) (q 14) hc (q 16) dr, ra_I (q 16) cI 6 rf] (skI D (skT cI cJ cC cZ cS) (fun (r : Int32) (u : va_W) => statR rf w r ∧ u = [ro_rrrrrrrrrrrrrrrirl x0 11 (q 0) (q 1) (q 2) (q 3) (q 4) (q 5) (q 6) (q 7) (q 8) (q 9) (q 10) (q 11) (q 12) (q 13) (q 14) hc (q 16) dr, ra_I (q 16) cI 6 rf])) := by
  refine skM_of pf_X11_status (Nat.le_of_ble_eq_true rfl) ?_
  intro p e s m below meth c A ls E hP hD hl
  refine skE_el E (fun hx hb hr hml hlocks hin hown hts hK hA => ?_)
  have hown : s.vm.findClass RX11 = some m.cls := hown
  have hS : va_S A s.heap s.heap [] := va_S.rf
  have hl : lv_has ls 2 [(0, .ref x0), (1, .int w)] := hl
  refine lv_iload_n hx hb dX11_status_0 rfl (lv_at hl 1 rfl) ?_
  refine lv_if_lt (tgt := 19) hx hb dX11_status_1 (by decide) (fun c_1 => ?_) (fun c_1 => ?_)
  · skip
    refine lv_iconst (v := (-1)) hx hb dX11_status_19 (by decide) ?_
    exact sk_iret hx hb hr rfl hlocks hK hP hD hS (⟨Or.inl ⟨kIn_neg c_1 (by decide), rfl⟩, rfl⟩) (Nat.le_of_ble_eq_true rfl) (Nat.le_of_ble_eq_true rfl) dX11_status_20
  · obtain ⟨k_2, hk_2, rfl⟩ := nof w c_1
    refine lv_iload_n hx hb dX11_status_4 rfl (lv_at hl 1 rfl) ?_
    refine lv_bipush (v := 6) hx hb dX11_status_5 (by decide) ?_
    refine lv_icmp_ge (tgt := 19) hx hb dX11_status_7 (by decide) (fun c_3 => ?_) (fun c_3 => ?_)
    · have c_3 : 6 ≤ k_2 := (nle 6 k_2 (Nat.le_of_ble_eq_true rfl) (by omega)).mp c_3
      refine lv_iconst (v := (-1)) hx hb dX11_status_19 (by decide) ?_
      exact sk_iret hx hb hr rfl hlocks hK hP hD hS (⟨Or.inl ⟨kIn_ge (by omega) (by omega), rfl⟩, rfl⟩) (Nat.le_of_ble_eq_true rfl) (Nat.le_of_ble_eq_true rfl) dX11_status_20
    · have c_3 : ¬ (6 ≤ k_2) := fun h => c_3 ((nle 6 k_2 (Nat.le_of_ble_eq_true rfl) (by omega)).mpr h)
      refine lv_aload_n hx hb dX11_status_10 rfl (lv_at hl 0 rfl) ?_
      refine sk_get (v := .ref (q 16)) (C := RX11) (T := TX11) (N := 18) hx hb hts inlX11 hown hK hP 0 rfl rfl 16 (Nat.le_of_ble_eq_true rfl) w_2_139 rfl dX11_status_11 ?_
      refine lv_iload_n hx hb dX11_status_14 rfl (lv_at hl 1 rfl) ?_
      refine va_iald hx hb hK.1 hP 1 0 rfl rfl (vin k_2 6 (by omega) (Nat.le_of_ble_eq_true rfl)) dX11_status_15 ?_
      refine sk_top (rf k_2) (by rw [nI_clamp (by omega)]) ?_
      refine lv_goto (tgt := 20) hx hb dX11_status_16 (by decide) ?_
      exact sk_iret hx hb hr rfl hlocks hK hP hD hS (⟨Or.inr ⟨k_2, by omega, rfl, rfl⟩, rfl⟩) (Nat.le_of_ble_eq_true rfl) (Nat.le_of_ble_eq_true rfl) dX11_status_20
theorem km_1 {b : Nat} {P : Prop} (h : (b = 1 ∧ P) ∨ (b = 0 ∧ ¬ P)) (e : ¬ b = 0) : P := h.elim (fun q => q.2) (fun q => absurd q.1 e)
theorem km_0 {b : Nat} {P : Prop} (h : (b = 1 ∧ P) ∨ (b = 0 ∧ ¬ P)) (e : b = 0) : ¬ P := h.elim (fun q => absurd (q.1.symm.trans e) (by decide)) (fun q => q.2)
theorem dX11_day_11 : decode cX11_day 11 = .ok (.tableswitch 62 0 2 #[25, 35, 45], 25) := by decide +kernel
theorem dg_X11_day_0_0 : bqL cX11_day 0 [(0, [42]), (1, [27]), (2, [182, 0, 170]), (5, [154, 0, 5]), (10, [28]), (36, [42]), (37, [180, 0, 59]), (40, [180, 0, 173]), (43, [27]), (44, [46]), (45, [172]), (46, [42]), (47, [180, 0, 59]), (50, [180, 0, 176]), (53, [27]), (54, [46]), (55, [172]), (56, [42]), (57, [180, 0, 59]), (60, [27]), (61, [182, 0, 179]), (64, [153, 0, 7]), (71, [3]), (72, [172]), (67, [4]), (68, [167, 0, 4]), (73, [2]), (74, [172]), (8, [2]), (9, [172])] = true := by decide +kernel
theorem dX11_day_0 : decode cX11_day 0 = .ok (.aload_n 0, 1) := q_aload_n0 (bat_get dg_X11_day_0_0 0 rfl rfl)
theorem dX11_day_1 : decode cX11_day 1 = .ok (.iload_n 1, 1) := q_iload_n1 (bat_get dg_X11_day_0_0 1 rfl rfl)
theorem dX11_day_2 : decode cX11_day 2 = .ok (.invokevirtual 170, 3) := q_invokevirtual (bat_get dg_X11_day_0_0 2 rfl rfl) rfl
theorem dX11_day_5 : decode cX11_day 5 = .ok (.ifCond .ne 5, 3) := q_ifCond_ne (bat_get dg_X11_day_0_0 3 rfl rfl) rfl
theorem dX11_day_10 : decode cX11_day 10 = .ok (.iload_n 2, 1) := q_iload_n2 (bat_get dg_X11_day_0_0 4 rfl rfl)
theorem dX11_day_36 : decode cX11_day 36 = .ok (.aload_n 0, 1) := q_aload_n0 (bat_get dg_X11_day_0_0 5 rfl rfl)
theorem dX11_day_37 : decode cX11_day 37 = .ok (.getfield 59, 3) := q_getfield (bat_get dg_X11_day_0_0 6 rfl rfl) rfl
theorem dX11_day_40 : decode cX11_day 40 = .ok (.getfield 173, 3) := q_getfield (bat_get dg_X11_day_0_0 7 rfl rfl) rfl
theorem dX11_day_43 : decode cX11_day 43 = .ok (.iload_n 1, 1) := q_iload_n1 (bat_get dg_X11_day_0_0 8 rfl rfl)
theorem dX11_day_44 : decode cX11_day 44 = .ok (.iaload, 1) := q_iaload (bat_get dg_X11_day_0_0 9 rfl rfl)
theorem dX11_day_45 : decode cX11_day 45 = .ok (.ireturn, 1) := q_ireturn (bat_get dg_X11_day_0_0 10 rfl rfl)
theorem dX11_day_46 : decode cX11_day 46 = .ok (.aload_n 0, 1) := q_aload_n0 (bat_get dg_X11_day_0_0 11 rfl rfl)
theorem dX11_day_47 : decode cX11_day 47 = .ok (.getfield 59, 3) := q_getfield (bat_get dg_X11_day_0_0 12 rfl rfl) rfl
theorem dX11_day_50 : decode cX11_day 50 = .ok (.getfield 176, 3) := q_getfield (bat_get dg_X11_day_0_0 13 rfl rfl) rfl
theorem dX11_day_53 : decode cX11_day 53 = .ok (.iload_n 1, 1) := q_iload_n1 (bat_get dg_X11_day_0_0 14 rfl rfl)
theorem dX11_day_54 : decode cX11_day 54 = .ok (.iaload, 1) := q_iaload (bat_get dg_X11_day_0_0 15 rfl rfl)
theorem dX11_day_55 : decode cX11_day 55 = .ok (.ireturn, 1) := q_ireturn (bat_get dg_X11_day_0_0 16 rfl rfl)
theorem dX11_day_56 : decode cX11_day 56 = .ok (.aload_n 0, 1) := q_aload_n0 (bat_get dg_X11_day_0_0 17 rfl rfl)
theorem dX11_day_57 : decode cX11_day 57 = .ok (.getfield 59, 3) := q_getfield (bat_get dg_X11_day_0_0 18 rfl rfl) rfl
theorem dX11_day_60 : decode cX11_day 60 = .ok (.iload_n 1, 1) := q_iload_n1 (bat_get dg_X11_day_0_0 19 rfl rfl)
theorem dX11_day_61 : decode cX11_day 61 = .ok (.invokevirtual 179, 3) := q_invokevirtual (bat_get dg_X11_day_0_0 20 rfl rfl) rfl
theorem dX11_day_64 : decode cX11_day 64 = .ok (.ifCond .eq 7, 3) := q_ifCond_eq (bat_get dg_X11_day_0_0 21 rfl rfl) rfl
theorem dX11_day_71 : decode cX11_day 71 = .ok (.iconst 0, 1) := q_iconst0 (bat_get dg_X11_day_0_0 22 rfl rfl)
theorem dX11_day_72 : decode cX11_day 72 = .ok (.ireturn, 1) := q_ireturn (bat_get dg_X11_day_0_0 23 rfl rfl)
theorem dX11_day_67 : decode cX11_day 67 = .ok (.iconst 1, 1) := q_iconst1 (bat_get dg_X11_day_0_0 24 rfl rfl)
theorem dX11_day_68 : decode cX11_day 68 = .ok (.goto 4, 3) := q_goto (bat_get dg_X11_day_0_0 25 rfl rfl) rfl
theorem dX11_day_73 : decode cX11_day 73 = .ok (.iconst (-1), 1) := q_iconstm1 (bat_get dg_X11_day_0_0 26 rfl rfl)
theorem dX11_day_74 : decode cX11_day 74 = .ok (.ireturn, 1) := q_ireturn (bat_get dg_X11_day_0_0 27 rfl rfl)
theorem dX11_day_8 : decode cX11_day 8 = .ok (.iconst (-1), 1) := q_iconstm1 (bat_get dg_X11_day_0_0 28 rfl rfl)
theorem dX11_day_9 : decode cX11_day 9 = .ok (.ireturn, 1) := q_ireturn (bat_get dg_X11_day_0_0 29 rfl rfl)
theorem w_3_189 : (Cond.code yX11_day cX11_day 3 (some .int)) ∈ wsL_law := sk_mem (ck_3 _ (List.mem_of_getElem? (i := 189) rfl)) rfl
def om_4_c : List Bool := true :: true :: false :: false :: []
def om_4_4 : List Bool := false :: true :: false :: false :: []
set_option maxHeartbeats 4000000 in
set_option maxRecDepth 100000 in
theorem c_ky_day (l : Launch) (D : va_G) (cI cJ cC cZ cS : ClassId) (x0 : Nat) (q : Nat → Nat) (hc : Int32) (dr : Int64) (dy : Nat) (wn : Nat) (mo : Nat) (ke : Nat) (mu : Int32) (fb : Nat → Int32) (fw : Nat → Int32) (Ba : Nat → Nat) (We : Nat → Nat) (U : Nat → Bool) (d : Int32) (w : Int32) (hdy : dy ≤ 9) (hmo : mo ≤ 9) (hfb : ∀ j, j < 9 → fb j = nI (Ba j)) (hfw : ∀ j, j < 9 → fw j = nI (We j)) (hB9 : ∀ j, Ba j ≤ 9) (hW9 : ∀ j, We j ≤ 9) (hU : muO U mu) : skM l yX11_day cX11_day 3 (some .int) 1 21 0 0 D (skT cI cJ cC cZ cS) [.ref x0, .int d, .int w] [ro_rrrrrrrrrrrrrrrirl x0 11 (q 0) (q 1) (q 2) (q 3) (q 4) (q 5) (q 6) (q 7) (q 8) (q 9) (q 10) (q 11) (q 12) (q 13) (q 14) hc (q 16) dr, ro_rrnnnin (q 7) 7 (q 33) (q 34) dy wn mo mu ke, ra_I (q 33) cI 9 fb, ra_I (q 34) cI 9 fw] (skI D (skT cI cJ cC cZ cS) (fun (r : Int32) (u : va_W) => dayR dy Ba We U d w r ∧ u = [ro_rrrrrrrrrrrrrrrirl x0 11 (q 0) (q 1) (q 2) (q 3) (q 4) (q 5) (q 6) (q 7) (q 8) (q 9) (q 10) (q 11) (q 12) (q 13) (q 14) hc (q 16) dr, ro_rrnnnin (q 7) 7 (q 33) (q 34) dy wn mo mu ke, ra_I (q 33) cI 9 fb, ra_I (q 34) cI 9 fw])) := by
  refine skM_of pf_X11_day (Nat.le_of_ble_eq_true rfl) ?_
  intro p e s m below meth c A ls E hP hD hl
  refine skE_el E (fun hx hb hr hml hlocks hin hown hts hK hA => ?_)
  have hown : s.vm.findClass RX11 = some m.cls := hown
  have hS : va_S A s.heap s.heap [] := va_S.rf
  have hl : lv_has ls 3 [(0, .ref x0), (1, .int d), (2, .int w)] := hl
  refine lv_aload_n hx hb dX11_day_0 rfl (lv_at hl 0 rfl) ?_
  refine lv_iload_n hx hb dX11_day_1 rfl (lv_at hl 1 rfl) ?_
  refine sk_Vi (q0 := 0) (n := 1) (rest := []) (wr := fmR om_4_c _) ⟨hx, hb, hml, hown, hts⟩ hl.1 (c_kx_isDay l D cI cJ cC cZ cS x0 q hc dr dy wn mo ke mu fb fw d hdy) w_3_190 w_3_192 w_0_14 w_1_1 w_3_193 hd_X11_isDay_1 ⟨⟨(Nat.le_of_ble_eq_true rfl), (Nat.le_of_ble_eq_true rfl)⟩, (Nat.le_of_ble_eq_true rfl), (Nat.le_of_ble_eq_true rfl)⟩ hK hP hD hS hA (fmT om_4_c 0) (fmF om_4_c 0) (fm_C1 rfl rfl) (fm_R rfl rfl) (fm_nT om_4_c 0) (fm_nF om_4_c 0) (fm_di om_4_c 0) rfl rfl rfl rfl (Nat.le_of_ble_eq_true rfl) dX11_day_2 (fun r_2 u H locs hw hP hD hS => ?_)
  refine exE hw (fun b_1 hw1 => anE hw1 (fun hb1_3 hw2 => anE hw2 (fun er_5 eu_4 => ?_)))
  clear hw hw1 hw2
  subst er_5
  refine o_mgE (ws' := [ro_rrrrrrrrrrrrrrrirl x0 11 (q 0) (q 1) (q 2) (q 3) (q 4) (q 5) (q 6) (q 7) (q 8) (q 9) (q 10) (q 11) (q 12) (q 13) (q 14) hc (q 16) dr, ro_rrnnnin (q 7) 7 (q 33) (q 34) dy wn mo mu ke, ra_I (q 33) cI 9 fb, ra_I (q 34) cI 9 fw]) eu_4 hP hD rfl (fun hP hD => ?_)
  refine lv_if_ne (tgt := 10) hx hb dX11_day_5 (by decide) (fun c_6 => ?_) (fun c_6 => ?_)
  · have c_6 : ¬ (b_1 = 0) := fun h => c_6 ((neq b_1 0 (by omega) (Nat.le_of_ble_eq_true rfl)).mpr h)
    obtain ⟨kd_7, hkd_7, rfl⟩ := rr_1 hb1_3 (by omega)
    refine lv_iload_n hx hb dX11_day_10 rfl (lv_at hl 2 rfl) ?_
    by_cases g_8 : w = 0
    · refine lv_tableIn (off := 25) (tgt := 36) hx hb dX11_day_11 (by rw [g_8]; decide) (by rw [g_8]; decide) (by rw [g_8]; rfl) (by decide) ?_
      refine lv_aload_n hx hb dX11_day_36 rfl (lv_at hl 0 rfl) ?_
      refine sk_get (v := .ref (q 7)) (C := RX11) (T := TX11) (N := 18) hx hb hts inlX11 hown hK hP 0 rfl rfl 7 (Nat.le_of_ble_eq_true rfl) w_2_130 rfl dX11_day_37 ?_
      refine sk_get (v := .ref (q 33)) (C := RX7) (T := TX7) (N := 7) hx hb hts inlX7 hown hK hP 1 rfl rfl 0 (Nat.le_of_ble_eq_true rfl) w_1_232 rfl dX11_day_40 ?_
      refine lv_iload_n hx hb dX11_day_43 rfl (lv_at hl 1 rfl) ?_
      refine va_iald hx hb hK.1 hP 2 0 rfl rfl (vin kd_7 9 (by omega) (Nat.le_of_ble_eq_true rfl)) dX11_day_44 ?_
      refine sk_top (nI (Ba kd_7)) (by rw [nI_clamp (by omega)]; exact hfb _ (by omega)) ?_
      exact sk_iret hx hb hr rfl hlocks hK hP hD hS (⟨Or.inr ⟨kd_7, by omega, rfl, (by unfold dayV; rw [if_pos g_8])⟩, rfl⟩) (Nat.le_of_ble_eq_true rfl) (Nat.le_of_ble_eq_true rfl) dX11_day_45
    by_cases g_9 : w = 1
    · refine lv_tableIn (off := 35) (tgt := 46) hx hb dX11_day_11 (by rw [g_9]; decide) (by rw [g_9]; decide) (by rw [g_9]; rfl) (by decide) ?_
      refine lv_aload_n hx hb dX11_day_46 rfl (lv_at hl 0 rfl) ?_
      refine sk_get (v := .ref (q 7)) (C := RX11) (T := TX11) (N := 18) hx hb hts inlX11 hown hK hP 0 rfl rfl 7 (Nat.le_of_ble_eq_true rfl) w_2_130 rfl dX11_day_47 ?_
      refine sk_get (v := .ref (q 34)) (C := RX7) (T := TX7) (N := 7) hx hb hts inlX7 hown hK hP 1 rfl rfl 1 (Nat.le_of_ble_eq_true rfl) w_1_236 rfl dX11_day_50 ?_
      refine lv_iload_n hx hb dX11_day_53 rfl (lv_at hl 1 rfl) ?_
      refine va_iald hx hb hK.1 hP 3 0 rfl rfl (vin kd_7 9 (by omega) (Nat.le_of_ble_eq_true rfl)) dX11_day_54 ?_
      refine sk_top (nI (We kd_7)) (by rw [nI_clamp (by omega)]; exact hfw _ (by omega)) ?_
      exact sk_iret hx hb hr rfl hlocks hK hP hD hS (⟨Or.inr ⟨kd_7, by omega, rfl, (by unfold dayV; rw [g_9, if_neg (by decide), if_pos rfl])⟩, rfl⟩) (Nat.le_of_ble_eq_true rfl) (Nat.le_of_ble_eq_true rfl) dX11_day_55
    by_cases g_10 : w = 2
    · refine lv_tableIn (off := 45) (tgt := 56) hx hb dX11_day_11 (by rw [g_10]; decide) (by rw [g_10]; decide) (by rw [g_10]; rfl) (by decide) ?_
      refine lv_aload_n hx hb dX11_day_56 rfl (lv_at hl 0 rfl) ?_
      refine sk_get (v := .ref (q 7)) (C := RX11) (T := TX11) (N := 18) hx hb hts inlX11 hown hK hP 0 rfl rfl 7 (Nat.le_of_ble_eq_true rfl) w_2_130 rfl dX11_day_57 ?_
      refine lv_iload_n hx hb dX11_day_60 rfl (lv_at hl 1 rfl) ?_
      refine sk_Vi (q0 := 0) (n := 1) (rest := []) (wr := fmR om_4_4 _) ⟨hx, hb, hml, hown, hts⟩ hl.1 (c_kState_isMute l D cI cJ cC cZ cS (q 7) (q 33) (q 34) dy mo (nI wn) mu (nI ke) kd_7 U (by omega) hU) w_3_194 w_3_195 w_3_196 w_1_10 w_3_197 hd_X7_isMute_1 ⟨⟨(Nat.le_of_ble_eq_true rfl), (Nat.le_of_ble_eq_true rfl)⟩, (Nat.le_of_ble_eq_true rfl), (Nat.le_of_ble_eq_true rfl)⟩ hK hP hD hS hA (fmT om_4_4 0) (fmF om_4_4 0) (fm_C1 rfl rfl) (fm_R rfl rfl) (fm_nT om_4_4 0) (fm_nF om_4_4 0) (fm_di om_4_4 0) rfl rfl rfl rfl (Nat.le_of_ble_eq_true rfl) dX11_day_61 (fun r_12 u H locs hw hP hD hS => ?_)
      refine exE hw (fun b_11 hw1 => anE hw1 (fun hb1_13 hw2 => anE hw2 (fun er_15 eu_14 => ?_)))
      clear hw hw1 hw2
      subst er_15
      refine o_mgE (ws' := [ro_rrrrrrrrrrrrrrrirl x0 11 (q 0) (q 1) (q 2) (q 3) (q 4) (q 5) (q 6) (q 7) (q 8) (q 9) (q 10) (q 11) (q 12) (q 13) (q 14) hc (q 16) dr, ro_rrnnnin (q 7) 7 (q 33) (q 34) dy wn mo mu ke, ra_I (q 33) cI 9 fb, ra_I (q 34) cI 9 fw]) eu_14 hP hD rfl (fun hP hD => ?_)
      refine lv_if_eq (tgt := 71) hx hb dX11_day_64 (by decide) (fun c_16 => ?_) (fun c_16 => ?_)
      · have c_16 : b_11 = 0 := (neq b_11 0 (by omega) (Nat.le_of_ble_eq_true rfl)).mp c_16
        refine lv_iconst (v := 0) hx hb dX11_day_71 ic_0 ?_
        exact sk_iret hx hb hr rfl hlocks hK hP hD hS (⟨Or.inr ⟨kd_7, by omega, rfl, (by unfold dayV; rw [g_10, if_neg (by decide), if_neg (by decide), if_pos rfl, if_neg (km_0 hb1_13 (by omega))])⟩, rfl⟩) (Nat.le_of_ble_eq_true rfl) (Nat.le_of_ble_eq_true rfl) dX11_day_72
      · have c_16 : ¬ (b_11 = 0) := fun h => c_16 ((neq b_11 0 (by omega) (Nat.le_of_ble_eq_true rfl)).mpr h)
        refine lv_iconst (v := 1) hx hb dX11_day_67 ic_1 ?_
        refine lv_goto (tgt := 72) hx hb dX11_day_68 (by decide) ?_
        exact sk_iret hx hb hr rfl hlocks hK hP hD hS (⟨Or.inr ⟨kd_7, by omega, rfl, (by unfold dayV; rw [g_10, if_neg (by decide), if_neg (by decide), if_pos rfl, if_pos (km_1 hb1_13 (by omega))])⟩, rfl⟩) (Nat.le_of_ble_eq_true rfl) (Nat.le_of_ble_eq_true rfl) dX11_day_72
    refine lv_tableOut (tgt := 73) hx hb dX11_day_11 (sk_out (n := 2) (by intro k hk; rcases (show k = 0 ∨ k = 1 ∨ k = 2 by omega) with rfl | rfl | rfl <;> assumption)) (by decide) ?_
    refine lv_iconst (v := (-1)) hx hb dX11_day_73 (by decide) ?_
    exact sk_iret hx hb hr rfl hlocks hK hP hD hS (⟨Or.inr ⟨kd_7, by omega, rfl, (by unfold dayV; rw [if_neg (by assumption), if_neg (by assumption), if_neg (by assumption)])⟩, rfl⟩) (Nat.le_of_ble_eq_true rfl) (Nat.le_of_ble_eq_true rfl) dX11_day_74
  · have c_6 : b_1 = 0 := (neq b_1 0 (by omega) (Nat.le_of_ble_eq_true rfl)).mp c_6
    refine lv_iconst (v := (-1)) hx hb dX11_day_8 (by decide) ?_
    exact sk_iret hx hb hr rfl hlocks hK hP hD hS (⟨Or.inl ⟨(rr_0 hb1_3 (by omega)), rfl⟩, rfl⟩) (Nat.le_of_ble_eq_true rfl) (Nat.le_of_ble_eq_true rfl) dX11_day_9
/-! how many bits -/
def kpop (m : Nat) : Nat := kcS (fun d => if m.testBit d = true then 1 else 0) 9
theorem kpop_U {m : Nat} {U : Nat → Bool} (h : ∀ d, d < 9 → m.testBit d = U d) : kpop m = kSum U 9 := kcS_cg 9 (fun d hd => by rw [h d hd])
def kush (x y : Int32) : Int32 := (x.toUInt32 >>> (y.toUInt32 &&& Int32.toUInt32 31)).toInt32
def kb2 (m : Nat) : Int32 := nI m - (nI (m / 2) &&& 1431655765)
def kb6 (x : Int32) : Int32 := (x &&& 858993459) + (kush x 2 &&& 858993459)
def kb9 (x : Int32) : Int32 := (x + kush x 4) &&& 252645135
def kbb (x y : Int32) : Int32 := x + kush x y
theorem kpop_d : ∀ m, m < 512 → kbb (kbb (kb9 (kb6 (kb2 m))) 8) 16 &&& 63 = nI (kpop m) := by decide +kernel
theorem kpop_e {m : Nat} {v1 v2 v3 v4 v5 v6 v7 v8 v9 va vb vc vd ve : Int32} (hm : m < 512) (e1 : v1 = nI (m / 2) &&& 1431655765) (e2 : v2 = nI m - v1) (e3 : v3 = v2 &&& 858993459) (e4 : v4 = kush v2 2) (e5 : v5 = v4 &&& 858993459) (e6 : v6 = v3 + v5) (e7 : v7 = kush v6 4) (e8 : v8 = v6 + v7) (e9 : v9 = v8 &&& 252645135) (ea : va = kush v9 8) (eb : vb = v9 + va) (ec : vc = kush vb 16) (ed : vd = vb + vc) (ee : ve = vd &&& 63) : ve = nI (kpop m) := by
  have h2 : v2 = kb2 m := by rw [e2, e1]; rfl
  have h6 : v6 = kb6 v2 := by rw [e6, e5, e4, e3]; rfl
  have h9 : v9 = kb9 v6 := by rw [e9, e8, e7]; rfl
  have hb : vb = kbb v9 8 := by rw [eb, ea]; rfl
  have hd : vd = kbb vb 16 := by rw [ed, ec]; rfl
  rw [ee, hd, hb, h9, h6, h2]
  exact kpop_d m hm
/-! told -/
theorem tld_0 {L : LkS} {dy wn : Nat} {Ba We : Nat → Nat} {U : Nat → Bool} {d o : Int32} (h : ¬ kIn d dy) : toldR L dy wn Ba We U d o (-1) := Or.inl ⟨fun k j a b _ _ => absurd ⟨k, a, b⟩ h, rfl⟩
theorem tld_1 {L : LkS} {dy wn : Nat} {Ba We : Nat → Nat} {U : Nat → Bool} {d o : Int32} (h : ¬ kIn o 10) : toldR L dy wn Ba We U d o (-1) := Or.inl ⟨fun k j _ _ a b => absurd ⟨j, a, b⟩ h, rfl⟩
theorem tld_2 {L : LkS} {dy wn k : Nat} {Ba We : Nat → Nat} {U : Nat → Bool} {o : Int32} (h9 : dy ≤ 9) (hk : k < dy) (h : U k = true) : toldR L dy wn Ba We U (nI k) o (-1) := Or.inl ⟨fun k2 j a b _ _ => by
  have e := (neq k k2 (by omega) (by omega)).mp b
  rw [← e]; exact h, rfl⟩
theorem tld_3 {L : LkS} {dy wn k j : Nat} {Ba We : Nat → Nat} {U : Nat → Bool} {r : Int32} (hk : k < dy) (hj : j < 10) (h : ¬ U k = true) (hr : r = nI (kcSaid L wn (Ba k) (We k) k j)) : toldR L dy wn Ba We U (nI k) (nI j) r := Or.inr ⟨k, j, hk, rfl, hj, rfl, h, hr⟩
/-! kept -/
theorem kept_no {lg : KLg} {ke : Nat} {k w : Int32} (h : ¬ kIn k (min ke 30)) : keptR lg ke k w (-1000000000000000) := kR_0 (fun x q => h ⟨x.1, q.1, q.2.1⟩) rfl
theorem kept_no2 {lg : KLg} {ke : Nat} {k w : Int32} (h0 : ¬ w = 0) (h1 : ¬ w = 1) (h2 : ¬ w = 2) : keptR lg ke k w (-1000000000000000) := kR_0 (fun x q => by
  obtain ⟨-, -, q1, q2⟩ := q
  rcases (show x.2 = 0 ∨ x.2 = 1 ∨ x.2 = 2 by omega) with e | e | e
  · exact h0 (by rw [q2, e]; rfl)
  · exact h1 (by rw [q2, e]; rfl)
  · exact h2 (by rw [q2, e]; rfl)) rfl
theorem kept_0 {lg : KLg} {ke k a : Nat} {x : Int32} (hk : k < min ke 30) (hx : x = nI (lg a).1) (ha : a = ke - min ke 30 + k) (hl : (lg a).1 < 2147483648) : keptR lg ke (nI k) 0 (Int32.toInt64 x) := by
  refine kR_1 (k, 0) ⟨hk, rfl, (show 0 < 3 by decide), rfl⟩ ?_
  rw [hx, kx_i2l hl, ha]
  rfl
theorem kept_1 {lg : KLg} {ke k a : Nat} {x : Int64} (hk : k < min ke 30) (hx : x = Int64.ofNat (lg a).2.1) (ha : a = ke - min ke 30 + k) : keptR lg ke (nI k) 1 x := by
  refine kR_1 (k, 1) ⟨hk, rfl, (show 1 < 3 by decide), rfl⟩ ?_
  rw [hx, ha]
  rfl
theorem kept_2 {lg : KLg} {ke k a : Nat} {x : Int32} (hk : k < min ke 30) (hx : x = nI (lg a).2.2) (ha : a = ke - min ke 30 + k) (hl : (lg a).2.2 < 2147483648) : keptR lg ke (nI k) 2 (Int32.toInt64 x) := by
  refine kR_1 (k, 2) ⟨hk, rfl, (show 2 < 3 by decide), rfl⟩ ?_
  rw [hx, kx_i2l hl, ha]
  rfl
/-! the week of a number -/
theorem mood_0 {E : Nat → Nat → Nat → Bool} {dy mo : Nat} {k d : Int32} (h : ¬ kIn d dy) : moodR E dy mo k d (-1) := Or.inl ⟨fun j x a b _ => absurd ⟨j, a, b⟩ h, rfl⟩
theorem mood_1 {E : Nat → Nat → Nat → Bool} {dy mo : Nat} {k d : Int32} (h : ∀ x, x < kcC E dy 0 mo → ¬ k = nI x) : moodR E dy mo k d (-1) := Or.inl ⟨fun j x _ _ a => h x a, rfl⟩
theorem mood_2 {E : Nat → Nat → Nat → Bool} {dy mo x j : Nat} {r : Int32} (hj : j < dy) (hx : x < kcC E dy 0 mo) (hr : r = nI (kcM E dy mo x j)) : moodR E dy mo (nI x) (nI j) r := Or.inr ⟨j, x, hj, rfl, hx, rfl, hr⟩
/-! saved states -/
def puO (ac : Nat) (su : Nat → KN) (swk : Nat → Int32) (smo : Nat → Nat) (smu ske : Nat → Int32) (sfb sfw : Nat → Nat → Int32) : Prop := ∀ j, j < ac → swk j = nI (nWk (su j)) ∧ smo j = nMo (su j) ∧ muO (nMu (su j)) (smu j) ∧ ske j = nI (nKe (su j)) ∧ (∀ i, i < 9 → sfb j i = nI (nBa (su j) i)) ∧ ∀ i, i < 9 → sfw j i = nI (nWe (su j) i)
theorem psh_c {ac j : Nat} (h20 : ac ≤ 20) (hj : j < min (ac + 1) 20) : (∀ {α : Type} (f : Nat → α) (x : α), psh ac f x j = x) ∨ ∃ i, i < ac ∧ ∀ {α : Type} (f : Nat → α) (x : α), psh ac f x j = f i := by
  by_cases q : ac < 20
  · by_cases e : j = ac
    · refine Or.inl (fun f x => ?_)
      unfold psh updG
      rw [if_pos q, if_pos e]
    · refine Or.inr ⟨j, by omega, fun f x => ?_⟩
      unfold psh updG
      rw [if_pos q, if_neg e]
  · by_cases e : j = 19
    · refine Or.inl (fun f x => ?_)
      unfold psh updG
      rw [if_neg q, if_pos e]
    · refine Or.inr ⟨j + 1, by omega, fun f x => ?_⟩
      unfold psh updG rotG
      rw [if_neg q, if_neg e, if_pos (by omega)]
theorem puO_push {ac wn mo ke : Nat} {su : Nat → KN} {Ba We : Nat → Nat} {U : Nat → Bool} {mu : Int32} {fb fw g1 g2 : Nat → Int32} {swk : Nat → Int32} {smo : Nat → Nat} {smu ske : Nat → Int32} {sfb sfw : Nat → Nat → Int32} {swk2 : Nat → Int32} {smo2 : Nat → Nat} {smu2 ske2 : Nat → Int32} {sfb2 sfw2 : Nat → Nat → Int32} (h : puO ac su swk smo smu ske sfb sfw) (h20 : ac ≤ 20) (e1 : swk2 = psh ac swk (nI wn)) (e2 : smo2 = psh ac smo mo) (e3 : smu2 = psh ac smu mu) (e4 : ske2 = psh ac ske (nI ke)) (e5 : sfb2 = psh ac sfb g1) (e6 : sfw2 = psh ac sfw g2) (hg1 : ∀ j, j < 9 → g1 j = fb j) (hg2 : ∀ j, j < 9 → g2 j = fw j) (hfb : ∀ j, j < 9 → fb j = nI (Ba j)) (hfw : ∀ j, j < 9 → fw j = nI (We j)) (hU : muO U mu) : puO (min (ac + 1) 20) (psh ac su (wn, mo, Ba, We, U, ke)) swk2 smo2 smu2 ske2 sfb2 sfw2 := fun j hj => by
  subst e1 e2 e3 e4 e5 e6
  rcases psh_c h20 hj with q | ⟨i, hi, q⟩
  · rw [q, q, q, q, q, q, q]
    exact ⟨rfl, rfl, hU, rfl, fun i hi => by rw [hg1 i hi, hfb i hi], fun i hi => by rw [hg2 i hi, hfw i hi]⟩
  · rw [q, q, q, q, q, q, q]
    exact h i hi
theorem fb_up {Ba : Nat → Nat} {f g : Nat → Int32} {k v : Nat} (h : ∀ j, j < 9 → f j = nI (Ba j)) (e : g = upd f k (nI v)) : ∀ j, j < 9 → g j = nI (updG Ba k v j) := fun j hj => by
  unfold updG
  by_cases q : j = k
  · rw [if_pos q, q, kui_s e]
  · rw [if_neg q, kui_n e q]; exact h j hj
theorem kkO_le {lg : KLg} {n m : Nat} {p1 p3 : Nat → Int32} {p2 : Nat → Int64} (h : kkO lg n p1 p2 p3) (hm : m ≤ n) : kkO lg m p1 p2 p3 := fun k hk => h k (by omega)
/-! set, mute: refused, done -/
section KActs
variable {dy : Nat} {n : KN} {ac : Nat} {su : Nat → KN} {rf rf2 : Nat → Int32} {d w o : Int32}
theorem set_n {P : Nat × Nat → Prop} (h : ∀ x : Nat × Nat, ¬ P x) {Q : Nat × Nat → Prop} (e : rf2 = upd rf 2 (rf 2 + 1)) : kR P ((0 : Int32) = 0 ∧ actN n ac su rf 2 n ac su rf2) Q := kR_0 h ⟨rfl, rfl, rfl, rfl, e⟩
theorem set_0 (h : ¬ kIn d dy) (e : rf2 = upd rf 2 (rf 2 + 1)) : setR dy n ac su rf d w o 0 n ac su rf2 := set_n (fun x q => h ⟨x.1, q.1, q.2.1⟩) e
theorem set_1 (h : w < 0) (e : rf2 = upd rf 2 (rf 2 + 1)) : setR dy n ac su rf d w o 0 n ac su rf2 := set_n (fun x q => by
  rcases q.2.2.2.2 with ⟨a, -⟩ | ⟨a, -⟩
  · rw [a] at h; exact absurd h (by decide)
  · rw [a] at h; exact absurd h (by decide)) e
theorem set_2 {k : Nat} (h : 1 < k) (hk : k < 2147483648) (e : rf2 = upd rf 2 (rf 2 + 1)) : setR dy n ac su rf d (nI k) o 0 n ac su rf2 := set_n (fun x q => by
  rcases q.2.2.2.2 with ⟨a, -⟩ | ⟨a, -⟩
  · have := (neq k 0 hk (by decide)).mp a; omega
  · have := (neq k 1 hk (by decide)).mp a; omega) e
theorem set_3 (h : ¬ kIn o 10) (e : rf2 = upd rf 2 (rf 2 + 1)) : setR dy n ac su rf d w o 0 n ac su rf2 := set_n (fun x q => h ⟨x.2, q.2.2.1, q.2.2.2.1⟩) e
theorem set_4 {k v j z : Nat} (h9 : dy ≤ 9) (hk : k < dy) (hv : v < 10) (hj : j ≤ 1) (hz : z = if j = 0 then nBa n k else nWe n k) (he : z = v) (e : rf2 = upd rf 2 (rf 2 + 1)) : setR dy n ac su rf (nI k) (nI j) (nI v) 0 n ac su rf2 := set_n (fun x q => by
  obtain ⟨q1, q2, q3, q4, q5⟩ := q
  have e1 := (neq k x.1 (by omega) (by omega)).mp q2
  have e2 := (neq v x.2 (by omega) (by omega)).mp q4
  rcases q5 with ⟨a, b⟩ | ⟨a, b⟩
  · have e3 := (neq j 0 (by omega) (by decide)).mp a
    rw [if_pos e3] at hz
    exact b (by rw [← e1, ← e2, ← he, hz])
  · have e3 := (neq j 1 (by omega) (by decide)).mp a
    rw [if_neg (by omega)] at hz
    exact b (by rw [← e1, ← e2, ← he, hz])) e
theorem set_y0 {k v z : Nat} (hk : k < dy) (hv : v < 10) (hz : z = if (0 : Nat) = 0 then nBa n k else nWe n k) (he : ¬ z = v) : setR dy n ac su rf (nI k) (nI 0) (nI v) 1 (nWk n, nMo n, updG (nBa n) k v, nWe n, nMu n, nKe n) (min (ac + 1) 20) (psh ac su n) rf := by
  rw [if_pos rfl] at hz
  exact kR_1 (k, v) ⟨hk, rfl, hv, rfl, Or.inl ⟨rfl, fun q => he (hz.trans q)⟩⟩ ⟨rfl, by rw [if_pos (show nI 0 = 0 from rfl), if_pos (show nI 0 = 0 from rfl)], rfl, rfl, rfl⟩
theorem set_y1 {k v z : Nat} (hk : k < dy) (hv : v < 10) (hz : z = if (1 : Nat) = 0 then nBa n k else nWe n k) (he : ¬ z = v) : setR dy n ac su rf (nI k) (nI 1) (nI v) 1 (nWk n, nMo n, nBa n, updG (nWe n) k v, nMu n, nKe n) (min (ac + 1) 20) (psh ac su n) rf := by
  rw [if_neg (by decide)] at hz
  exact kR_1 (k, v) ⟨hk, rfl, hv, rfl, Or.inr ⟨rfl, fun q => he (hz.trans q)⟩⟩ ⟨rfl, by rw [if_neg (show ¬ nI 1 = 0 by decide), if_neg (show ¬ nI 1 = 0 by decide)], rfl, rfl, rfl⟩
theorem mut_0 (h : ¬ kIn d dy) (e : rf2 = upd rf 2 (rf 2 + 1)) : muteR dy n ac su rf d w 0 n ac su rf2 := kR_0 (fun x q => h ⟨x, q.1, q.2.1⟩) ⟨rfl, rfl, rfl, rfl, e⟩
theorem mut_1 (h : w < 0) (e : rf2 = upd rf 2 (rf 2 + 1)) : muteR dy n ac su rf d w 0 n ac su rf2 := kR_0 (fun x q => by
  rcases q.2.2 with ⟨a, -⟩ | ⟨a, -⟩
  · rw [a] at h; exact absurd h (by decide)
  · rw [a] at h; exact absurd h (by decide)) ⟨rfl, rfl, rfl, rfl, e⟩
theorem mut_2 {k : Nat} (h : 1 < k) (hk : k < 2147483648) (e : rf2 = upd rf 2 (rf 2 + 1)) : muteR dy n ac su rf d (nI k) 0 n ac su rf2 := kR_0 (fun x q => by
  rcases q.2.2 with ⟨a, -⟩ | ⟨a, -⟩
  · have := (neq k 1 hk (by decide)).mp a; omega
  · have := (neq k 0 hk (by decide)).mp a; omega) ⟨rfl, rfl, rfl, rfl, e⟩
theorem mut_3 {k j b c : Nat} (h9 : dy ≤ 9) (hk : k < dy) (hj : j ≤ 1) (hb : (b = 1 ∧ nMu n k = true) ∨ (b = 0 ∧ ¬ nMu n k = true)) (hc : (c = 1 ∧ j = 1) ∨ (c = 0 ∧ ¬ j = 1)) (he : b = c) (e : rf2 = upd rf 2 (rf 2 + 1)) : muteR dy n ac su rf (nI k) (nI j) 0 n ac su rf2 := kR_0 (fun x q => by
  obtain ⟨q1, q2, q3⟩ := q
  have e1 := (neq k x (by omega) (by omega)).mp q2
  subst e1
  rcases q3 with ⟨a, p⟩ | ⟨a, p⟩
  · have e3 := (neq j 1 (by omega) (by decide)).mp a
    rcases hb with ⟨h1, h2⟩ | ⟨h1, h2⟩
    · exact p h2
    · omega
  · have e3 := (neq j 0 (by omega) (by decide)).mp a
    rcases hb with ⟨h1, h2⟩ | ⟨h1, h2⟩
    · omega
    · exact h2 p) ⟨rfl, rfl, rfl, rfl, e⟩
theorem mut_y {k j b c : Nat} (hk : k < dy) (hj : j ≤ 1) (hb : (b = 1 ∧ nMu n k = true) ∨ (b = 0 ∧ ¬ nMu n k = true)) (hc : (c = 1 ∧ j = 1) ∨ (c = 0 ∧ ¬ j = 1)) (he : ¬ b = c) : muteR dy n ac su rf (nI k) (nI j) 1 (nWk n, nMo n, nBa n, nWe n, updG (nMu n) k (!nMu n k), nKe n) (min (ac + 1) 20) (psh ac su n) rf := by
  refine kR_1 k ⟨hk, rfl, ?_⟩ ⟨rfl, rfl, rfl, rfl, rfl⟩
  rcases hb with ⟨h1, h2⟩ | ⟨h1, h2⟩
  · have : j = 0 := by omega
    subst this
    exact Or.inr ⟨rfl, h2⟩
  · have : j = 1 := by omega
    subst this
    exact Or.inl ⟨rfl, h2⟩
end KActs
theorem mu_xor {m d : Nat} (hm : m < 512) (hd : d < 9) : nI m ^^^ ((1 : Int32) <<< (nI d &&& 31)) = nI (m ^^^ 2 ^ d) ∧ m ^^^ 2 ^ d < 512 := by
  exact bt_x1 (n := 9) (by decide) hm hd
theorem muO_xor {mu : Nat → Bool} {ju : Int32} {d : Nat} (h : muO mu ju) (hd : d < 9) : muO (updG mu d (!mu d)) (ju ^^^ ((1 : Int32) <<< (nI d &&& 31))) := by
  obtain ⟨m, hm, rfl, hb⟩ := h
  have h1 := mu_xor hm hd
  refine ⟨m ^^^ 2 ^ d, h1.2, h1.1, fun j hj => ?_⟩
  rw [Nat.testBit_xor, Nat.testBit_two_pow, hb j hj]
  unfold updG
  by_cases e : j = d
  · subst e; rw [if_pos rfl]; simp
  · rw [if_neg e]
    have : decide (d = j) = false := by rw [decide_eq_false_iff_not]; exact fun q => e q.symm
    rw [this, Bool.xor_false]
/-! weeks that go: refused, done -/
theorem go_n {L : LkS} {dy : Nat} {n : KN} {lg : KLg} {ac : Nat} {su : Nat → KN} {rf rf2 : Nat → Int32} (h : ¬ (1 ≤ dy ∧ nWk n < 999 ∧ 0 < kNum L dy n)) (e : rf2 = upd rf 3 (rf 3 + 1)) : goR L dy n lg ac su rf (-1) n lg ac su rf2 := kB_0 h ⟨rfl, rfl, rfl, rfl, rfl, e⟩
theorem go_y {L : LkS} {dy : Nat} {n : KN} {lg : KLg} {ac : Nat} {su : Nat → KN} {rf : Nat → Int32} (h : 1 ≤ dy ∧ nWk n < 999 ∧ 0 < kNum L dy n) : goR L dy n lg ac su rf (nI (kLast L dy n 0)) (kPass L dy n 0) (kKeep L dy n lg 0) (min (ac + 1) 20) (psh ac su n) rf := kB_1 h ⟨rfl, rfl, rfl, rfl, rfl, rfl⟩
theorem ch_n {L : LkS} {dy : Nat} {n : KN} {lg : KLg} {ac : Nat} {su : Nat → KN} {sd : Nat} {rf rf2 : Nat → Int32} {c : Int32} (h : ∀ x, ¬ (1 ≤ dy ∧ 1 ≤ x ∧ x ≤ 30 ∧ c = nI x ∧ nWk n + x ≤ 999)) (e : rf2 = upd rf 3 (rf 3 + 1)) : chanceR L dy n lg ac su sd rf c (-1) n lg ac su sd rf2 := kR_0 h ⟨⟨rfl, rfl⟩, rfl, rfl, rfl, rfl, e⟩
theorem ch_y {L : LkS} {dy x w : Nat} {n n2 : KN} {lg lg2 : KLg} {ac : Nat} {su : Nat → KN} {sd sd2 : Nat} {rf : Nat → Int32} (h : 1 ≤ dy ∧ 1 ≤ x ∧ x ≤ 30 ∧ nWk n + x ≤ 999) (hk : kch L dy x (n, lg, sd) = ((n2, lg2, sd2), w)) : chanceR L dy n lg ac su sd rf (nI x) (nI w) n2 lg2 (min (ac + 1) 20) (psh ac su n) sd2 rf := kR_1 x ⟨h.1, h.2.1, h.2.2.1, rfl, h.2.2.2⟩ ⟨⟨by rw [hk], by rw [hk]⟩, by rw [hk], by rw [hk], rfl, rfl, rfl⟩
theorem kcl_i {k n : Nat} (hk : k < 2147483648) (hn : n < 9223372036854775808) : lg_cmp (Int32.toInt64 (nI k)) (Int64.ofNat n) < 0 ↔ k < n := by
  rw [kx_i2l hk, lg_cmp_lt, klt (by omega) hn]
/-! what is heard -/
def hrC (dy : Nat) (U : Nat → Bool) (tb : Nat → Nat) (i : Nat) : Prop := ∀ j, 2 * j < i → tb (2 * j) < dy ∧ ¬ U (tb (2 * j)) = true ∧ tb (2 * j + 1) < 10
theorem hrC_0 (dy : Nat) (U : Nat → Bool) (tb : Nat → Nat) : hrC dy U tb 0 := fun j hj => absurd hj (Nat.not_lt_zero _)
theorem hrC_s {dy : Nat} {U : Nat → Bool} {tb : Nat → Nat} {i : Nat} (h : hrC dy U tb i) (h2 : i % 2 = 0) (h1 : tb i < dy ∧ ¬ U (tb i) = true ∧ tb (i + 1) < 10) : hrC dy U tb (i + 2) := fun j hj => by
  by_cases q : 2 * j = i
  · rw [q]; exact h1
  · exact h j (by omega)
theorem hrC_n {dy : Nat} {U : Nat → Bool} {tb : Nat → Nat} {i t : Nat} (h2 : i % 2 = 0) (hi : i < t) (h : ¬ (tb i < dy ∧ ¬ U (tb i) = true ∧ tb (i + 1) < 10)) : ¬ hrC dy U tb t := fun q => h (by
  have := q (i / 2) (by omega)
  rw [show 2 * (i / 2) = i by omega] at this
  exact this)
theorem hrC_e {dy : Nat} {U : Nat → Bool} {tb : Nat → Nat} {i t : Nat} (h : hrC dy U tb i) (hi : t ≤ i) : hrC dy U tb t := fun j hj => h j (by omega)
theorem hr_s {tb : Nat → Nat} {i : Nat} {f g : Nat → Int32} (h : ∀ j, j < i → f j = nI (hrR tb j)) (e : g = upd f i (nI (tb (2 * i) * 10 + tb (2 * i + 1)))) : ∀ j, j < i + 1 → g j = nI (hrR tb j) := fun j hj => by
  by_cases q : j = i
  · subst q; rw [kui_s e]; rfl
  · rw [kui_n e q]; exact h j (by omega)
/-! the log, behind a week -/
theorem kkO_keep {L : LkS} {dy x : Nat} {n : KN} {lg : KLg} {p1 p3 r1 r3 : Nat → Int32} {p2 r2 : Nat → Int64} (h : kkO lg (nKe n) p1 p2 p3) (e1 : r1 = upd p1 (nKe n) (nI (nWk n))) (e2 : r2 = vp_updL p2 (nKe n) (Int64.ofNat (kNum L dy n))) (e3 : r3 = upd p3 (nKe n) (nI (kLast L dy n x))) : kkO (kKeep L dy n lg x) (nKe n + 1) r1 r2 r3 := kk_s h e1 e2 e3
set_option maxHeartbeats 4000000 in
set_option maxRecDepth 100000 in
theorem c_kbitCountX (l : Launch) (D : va_G) (cI cJ cC cZ cS : ClassId) (mz : Nat) (hm : mz < 512) : skM l yJ6_bitCount_0f7a4 cJ6_bitCount_0f7a4 1 (some .int) 0 0 0 0 D (skT cI cJ cC cZ cS) [.int (nI mz)] [] (skI D (skT cI cJ cC cZ cS) (fun (r : Int32) (u : va_W) => r = nI (kpop mz) ∧ u = [])) := by
  refine skM_of pf_J6_bitCount_0f7a4 (Nat.le_of_ble_eq_true rfl) ?_
  intro p e s m below meth c A ls E hP hD hl
  refine skE_el E (fun hx hb hr hml hlocks hin hown hts hK hA => ?_)
  have hown : s.vm.findClass RJ6 = some m.cls := hown
  have hS : va_S A s.heap s.heap [] := va_S.rf
  have hl : lv_has ls 1 [(0, .int (nI mz))] := hl
  refine lv_iload_n hx hb dJ6_bitCount_0f7a4_0 rfl (lv_at hl 0 rfl) ?_
  refine lv_iload_n hx hb dJ6_bitCount_0f7a4_1 rfl (lv_at hl 0 rfl) ?_
  refine lv_iconst (v := 1) hx hb dJ6_bitCount_0f7a4_2 ic_1 ?_
  refine lv_iushr (v := nI (mz / 2)) hx hb dJ6_bitCount_0f7a4_3 (nushr mz 1 (by omega) (by decide) 2 rfl) ?_
  refine lv_ldcw (v := 1431655765) hx hb hown (hts _ w_3_176) dJ6_bitCount_0f7a4_4 ?_
  refine lv_iand hx hb dJ6_bitCount_0f7a4_7 ?_
  refine lv_topi (fun v_1 ev_1 => ?_)
  refine lv_isub hx hb dJ6_bitCount_0f7a4_8 ?_
  refine lv_topi (fun v_2 ev_2 => ?_)
  refine lv_istore_n (lv' := [(0, .int v_2)]) hx hb dJ6_bitCount_0f7a4_9 rfl hl (by decide) rfl (fun ls hl => ?_)
  refine lv_iload_n hx hb dJ6_bitCount_0f7a4_10 rfl (lv_at hl 0 rfl) ?_
  refine lv_ldcw (v := 858993459) hx hb hown (hts _ w_3_177) dJ6_bitCount_0f7a4_11 ?_
  refine lv_iand hx hb dJ6_bitCount_0f7a4_14 ?_
  refine lv_topi (fun v_3 ev_3 => ?_)
  refine lv_iload_n hx hb dJ6_bitCount_0f7a4_15 rfl (lv_at hl 0 rfl) ?_
  refine lv_iconst (v := 2) hx hb dJ6_bitCount_0f7a4_16 ic_2 ?_
  refine lv_iushr hx hb dJ6_bitCount_0f7a4_17 rfl ?_
  refine lv_topi (fun v_4 ev_4 => ?_)
  refine lv_ldcw (v := 858993459) hx hb hown (hts _ w_3_177) dJ6_bitCount_0f7a4_18 ?_
  refine lv_iand hx hb dJ6_bitCount_0f7a4_21 ?_
  refine lv_topi (fun v_5 ev_5 => ?_)
  refine lv_iadd hx hb dJ6_bitCount_0f7a4_22 ?_
  refine lv_topi (fun v_6 ev_6 => ?_)
  refine lv_istore_n (lv' := [(0, .int v_6)]) hx hb dJ6_bitCount_0f7a4_23 rfl hl (by decide) rfl (fun ls hl => ?_)
  refine lv_iload_n hx hb dJ6_bitCount_0f7a4_24 rfl (lv_at hl 0 rfl) ?_
  refine lv_iload_n hx hb dJ6_bitCount_0f7a4_25 rfl (lv_at hl 0 rfl) ?_
  refine lv_iconst (v := 4) hx hb dJ6_bitCount_0f7a4_26 ic_4 ?_
  refine lv_iushr hx hb dJ6_bitCount_0f7a4_27 rfl ?_
  refine lv_topi (fun v_7 ev_7 => ?_)
  refine lv_iadd hx hb dJ6_bitCount_0f7a4_28 ?_
  refine lv_topi (fun v_8 ev_8 => ?_)
  refine lv_ldcw (v := 252645135) hx hb hown (hts _ w_3_178) dJ6_bitCount_0f7a4_29 ?_
  refine lv_iand hx hb dJ6_bitCount_0f7a4_32 ?_
  refine lv_topi (fun v_9 ev_9 => ?_)
  refine lv_istore_n (lv' := [(0, .int v_9)]) hx hb dJ6_bitCount_0f7a4_33 rfl hl (by decide) rfl (fun ls hl => ?_)
  refine lv_iload_n hx hb dJ6_bitCount_0f7a4_34 rfl (lv_at hl 0 rfl) ?_
  refine lv_iload_n hx hb dJ6_bitCount_0f7a4_35 rfl (lv_at hl 0 rfl) ?_
  refine lv_bipush (v := 8) hx hb dJ6_bitCount_0f7a4_36 (by decide) ?_
  refine lv_iushr hx hb dJ6_bitCount_0f7a4_38 rfl ?_
  refine lv_topi (fun v_10 ev_10 => ?_)
  refine lv_iadd hx hb dJ6_bitCount_0f7a4_39 ?_
  refine lv_topi (fun v_11 ev_11 => ?_)
  refine lv_istore_n (lv' := [(0, .int v_11)]) hx hb dJ6_bitCount_0f7a4_40 rfl hl (by decide) rfl (fun ls hl => ?_)
  refine lv_iload_n hx hb dJ6_bitCount_0f7a4_41 rfl (lv_at hl 0 rfl) ?_
  refine lv_iload_n hx hb dJ6_bitCount_0f7a4_42 rfl (lv_at hl 0 rfl) ?_
  refine lv_bipush (v := 16) hx hb dJ6_bitCount_0f7a4_43 (by decide) ?_
  refine lv_iushr hx hb dJ6_bitCount_0f7a4_45 rfl ?_
  refine lv_topi (fun v_12 ev_12 => ?_)
  refine lv_iadd hx hb dJ6_bitCount_0f7a4_46 ?_
  refine lv_topi (fun v_13 ev_13 => ?_)
  refine lv_istore_n (lv' := [(0, .int v_13)]) hx hb dJ6_bitCount_0f7a4_47 rfl hl (by decide) rfl (fun ls hl => ?_)
  refine lv_iload_n hx hb dJ6_bitCount_0f7a4_48 rfl (lv_at hl 0 rfl) ?_
  refine lv_bipush (v := 63) hx hb dJ6_bitCount_0f7a4_49 (by decide) ?_
  refine lv_iand hx hb dJ6_bitCount_0f7a4_51 ?_
  refine lv_topi (fun v_14 ev_14 => ?_)
  exact sk_iret hx hb hr rfl hlocks hK hP hD hS (⟨kpop_e hm ev_1 ev_2 ev_3 ev_4 ev_5 ev_6 ev_7 ev_8 ev_9 ev_10 ev_11 ev_12 ev_13 ev_14, rfl⟩) (Nat.le_of_ble_eq_true rfl) (Nat.le_of_ble_eq_true rfl) dJ6_bitCount_0f7a4_52
theorem dg_X4_toldOf_0_0 : bqL cX4_toldOf 0 [(0, [27]), (1, [16, 30]), (3, [184, 0, 43]), (6, [172])] = true := by decide +kernel
theorem dX4_toldOf_0 : decode cX4_toldOf 0 = .ok (.iload_n 1, 1) := q_iload_n1 (bat_get dg_X4_toldOf_0_0 0 rfl rfl)
theorem dX4_toldOf_1 : decode cX4_toldOf 1 = .ok (.bipush 30, 2) := q_bipush (bat_get dg_X4_toldOf_0_0 1 rfl rfl) rfl
theorem dX4_toldOf_3 : decode cX4_toldOf 3 = .ok (.invokestatic 43, 3) := q_invokestatic (bat_get dg_X4_toldOf_0_0 2 rfl rfl) rfl
theorem dX4_toldOf_6 : decode cX4_toldOf 6 = .ok (.ireturn, 1) := q_ireturn (bat_get dg_X4_toldOf_0_0 3 rfl rfl)
theorem w_3_183 : (Cond.methodLink RX4 43 Lib.Math.min.name) ∈ wsL_law := sk_mem (ck_3 _ (List.mem_of_getElem? (i := 183) rfl)) rfl
theorem w_3_182 : (Cond.code yX4_toldOf cX4_toldOf 2 (some .int)) ∈ wsL_law := sk_mem (ck_3 _ (List.mem_of_getElem? (i := 182) rfl)) rfl
set_option maxHeartbeats 4000000 in
set_option maxRecDepth 100000 in
theorem c_kpast_toldOf (l : Launch) (D : va_G) (cI cJ cC cZ cS : ClassId) (q : Nat → Nat) (ac : Nat) (ke : Nat) (hke : ke < 1000) : skM l yX4_toldOf cX4_toldOf 2 (some .int) 1 21 0 0 D (skT cI cJ cC cZ cS) [.ref (q 9), .int (nI ke)] [ro_rnrrr (q 9) 4 (q 35) ac (q 36) (q 37) (q 38)] (skI D (skT cI cJ cC cZ cS) (fun (r : Int32) (u : va_W) => r = nI (min ke 30) ∧ u = [ro_rnrrr (q 9) 4 (q 35) ac (q 36) (q 37) (q 38)])) := by
  refine skM_of pf_X4_toldOf (Nat.le_of_ble_eq_true rfl) ?_
  intro p e s m below meth c A ls E hP hD hl
  refine skE_el E (fun hx hb hr hml hlocks hin hown hts hK hA => ?_)
  have hown : s.vm.findClass RX4 = some m.cls := hown
  have hS : va_S A s.heap s.heap [] := va_S.rf
  have hl : lv_has ls 2 [(0, .ref (q 9)), (1, .int (nI ke))] := hl
  refine lv_iload_n hx hb dX4_toldOf_0 rfl (lv_at hl 1 rfl) ?_
  refine lv_bipush (v := 30) hx hb dX4_toldOf_1 (by decide) ?_
  refine va_mmin hx hb (by rw [hml]; exact hl.1.symm) hown (hts _ w_3_183) (hts _ w_3_184) (hts _ w_1_3) (hts _ w_3_185) (Nat.le_of_ble_eq_true rfl) (Nat.le_of_ble_eq_true rfl) (Nat.le_of_ble_eq_true rfl) (Nat.le_of_ble_eq_true rfl) dX4_toldOf_3 ?_
  refine sk_top (nI (min ke 30)) (kmin30 (by omega)) ?_
  exact sk_iret hx hb hr rfl hlocks hK hP hD hS (⟨rfl, rfl⟩) (Nat.le_of_ble_eq_true rfl) (Nat.le_of_ble_eq_true rfl) dX4_toldOf_6
theorem dX11_has_1 : decode cX11_has 1 = .ok (.tableswitch 106 0 6 #[43, 51, 59, 67, 78, 93, 98], 43) := by decide +kernel
theorem dg_X11_has_0_0 : bqL cX11_has 0 [(0, [27]), (44, [42]), (45, [180, 0, 59]), (48, [180, 0, 144]), (51, [172]), (52, [42]), (53, [180, 0, 59]), (56, [180, 0, 147]), (59, [172]), (60, [42]), (61, [180, 0, 59]), (64, [180, 0, 150]), (67, [172]), (68, [42]), (69, [180, 0, 59]), (72, [180, 0, 153]), (75, [184, 0, 156]), (78, [172]), (79, [42]), (80, [180, 0, 69]), (83, [42]), (84, [180, 0, 59]), (87, [180, 0, 161]), (90, [182, 0, 164]), (93, [172]), (94, [42]), (95, [180, 0, 99]), (98, [172]), (99, [42]), (100, [180, 0, 69]), (103, [180, 0, 167]), (106, [172]), (107, [2]), (108, [172])] = true := by decide +kernel
theorem dX11_has_0 : decode cX11_has 0 = .ok (.iload_n 1, 1) := q_iload_n1 (bat_get dg_X11_has_0_0 0 rfl rfl)
theorem dX11_has_44 : decode cX11_has 44 = .ok (.aload_n 0, 1) := q_aload_n0 (bat_get dg_X11_has_0_0 1 rfl rfl)
theorem dX11_has_45 : decode cX11_has 45 = .ok (.getfield 59, 3) := q_getfield (bat_get dg_X11_has_0_0 2 rfl rfl) rfl
theorem dX11_has_48 : decode cX11_has 48 = .ok (.getfield 144, 3) := q_getfield (bat_get dg_X11_has_0_0 3 rfl rfl) rfl
theorem dX11_has_51 : decode cX11_has 51 = .ok (.ireturn, 1) := q_ireturn (bat_get dg_X11_has_0_0 4 rfl rfl)
theorem dX11_has_52 : decode cX11_has 52 = .ok (.aload_n 0, 1) := q_aload_n0 (bat_get dg_X11_has_0_0 5 rfl rfl)
theorem dX11_has_53 : decode cX11_has 53 = .ok (.getfield 59, 3) := q_getfield (bat_get dg_X11_has_0_0 6 rfl rfl) rfl
theorem dX11_has_56 : decode cX11_has 56 = .ok (.getfield 147, 3) := q_getfield (bat_get dg_X11_has_0_0 7 rfl rfl) rfl
theorem dX11_has_59 : decode cX11_has 59 = .ok (.ireturn, 1) := q_ireturn (bat_get dg_X11_has_0_0 8 rfl rfl)
theorem dX11_has_60 : decode cX11_has 60 = .ok (.aload_n 0, 1) := q_aload_n0 (bat_get dg_X11_has_0_0 9 rfl rfl)
theorem dX11_has_61 : decode cX11_has 61 = .ok (.getfield 59, 3) := q_getfield (bat_get dg_X11_has_0_0 10 rfl rfl) rfl
theorem dX11_has_64 : decode cX11_has 64 = .ok (.getfield 150, 3) := q_getfield (bat_get dg_X11_has_0_0 11 rfl rfl) rfl
theorem dX11_has_67 : decode cX11_has 67 = .ok (.ireturn, 1) := q_ireturn (bat_get dg_X11_has_0_0 12 rfl rfl)
theorem dX11_has_68 : decode cX11_has 68 = .ok (.aload_n 0, 1) := q_aload_n0 (bat_get dg_X11_has_0_0 13 rfl rfl)
theorem dX11_has_69 : decode cX11_has 69 = .ok (.getfield 59, 3) := q_getfield (bat_get dg_X11_has_0_0 14 rfl rfl) rfl
theorem dX11_has_72 : decode cX11_has 72 = .ok (.getfield 153, 3) := q_getfield (bat_get dg_X11_has_0_0 15 rfl rfl) rfl
theorem dX11_has_75 : decode cX11_has 75 = .ok (.invokestatic 156, 3) := q_invokestatic (bat_get dg_X11_has_0_0 16 rfl rfl) rfl
theorem dX11_has_78 : decode cX11_has 78 = .ok (.ireturn, 1) := q_ireturn (bat_get dg_X11_has_0_0 17 rfl rfl)
theorem dX11_has_79 : decode cX11_has 79 = .ok (.aload_n 0, 1) := q_aload_n0 (bat_get dg_X11_has_0_0 18 rfl rfl)
theorem dX11_has_80 : decode cX11_has 80 = .ok (.getfield 69, 3) := q_getfield (bat_get dg_X11_has_0_0 19 rfl rfl) rfl
theorem dX11_has_83 : decode cX11_has 83 = .ok (.aload_n 0, 1) := q_aload_n0 (bat_get dg_X11_has_0_0 20 rfl rfl)
theorem dX11_has_84 : decode cX11_has 84 = .ok (.getfield 59, 3) := q_getfield (bat_get dg_X11_has_0_0 21 rfl rfl) rfl
theorem dX11_has_87 : decode cX11_has 87 = .ok (.getfield 161, 3) := q_getfield (bat_get dg_X11_has_0_0 22 rfl rfl) rfl
theorem dX11_has_90 : decode cX11_has 90 = .ok (.invokevirtual 164, 3) := q_invokevirtual (bat_get dg_X11_has_0_0 23 rfl rfl) rfl
theorem dX11_has_93 : decode cX11_has 93 = .ok (.ireturn, 1) := q_ireturn (bat_get dg_X11_has_0_0 24 rfl rfl)
theorem dX11_has_94 : decode cX11_has 94 = .ok (.aload_n 0, 1) := q_aload_n0 (bat_get dg_X11_has_0_0 25 rfl rfl)
theorem dX11_has_95 : decode cX11_has 95 = .ok (.getfield 99, 3) := q_getfield (bat_get dg_X11_has_0_0 26 rfl rfl) rfl
theorem dX11_has_98 : decode cX11_has 98 = .ok (.ireturn, 1) := q_ireturn (bat_get dg_X11_has_0_0 27 rfl rfl)
theorem dX11_has_99 : decode cX11_has 99 = .ok (.aload_n 0, 1) := q_aload_n0 (bat_get dg_X11_has_0_0 28 rfl rfl)
theorem dX11_has_100 : decode cX11_has 100 = .ok (.getfield 69, 3) := q_getfield (bat_get dg_X11_has_0_0 29 rfl rfl) rfl
theorem dX11_has_103 : decode cX11_has 103 = .ok (.getfield 167, 3) := q_getfield (bat_get dg_X11_has_0_0 30 rfl rfl) rfl
theorem dX11_has_106 : decode cX11_has 106 = .ok (.ireturn, 1) := q_ireturn (bat_get dg_X11_has_0_0 31 rfl rfl)
theorem dX11_has_107 : decode cX11_has 107 = .ok (.iconst (-1), 1) := q_iconstm1 (bat_get dg_X11_has_0_0 32 rfl rfl)
theorem dX11_has_108 : decode cX11_has 108 = .ok (.ireturn, 1) := q_ireturn (bat_get dg_X11_has_0_0 33 rfl rfl)
theorem w_3_173 : (Cond.methodLink RX11 156 yJ6_bitCount_0f7a4) ∈ wsL_law := sk_mem (ck_3 _ (List.mem_of_getElem? (i := 173) rfl)) rfl
theorem w_3_174 : (Cond.static yJ6_bitCount_0f7a4) ∈ wsL_law := sk_mem (ck_3 _ (List.mem_of_getElem? (i := 174) rfl)) rfl
theorem w_2_15 : (Cond.fieldLink RX11 161 "SameKeeper$State" "kept" "I") ∈ wsL_law := sk_mem (ck_2 _ (List.mem_of_getElem? (i := 15) rfl)) rfl
theorem w_3_179 : (Cond.methodLink RX11 164 yX4_toldOf) ∈ wsL_law := sk_mem (ck_3 _ (List.mem_of_getElem? (i := 179) rfl)) rfl
theorem w_3_180 : (Cond.instanceMethod yX4_toldOf) ∈ wsL_law := sk_mem (ck_3 _ (List.mem_of_getElem? (i := 180) rfl)) rfl
theorem w_3_181 : (Cond.selects RX4 yX4_toldOf yX4_toldOf) ∈ wsL_law := sk_mem (ck_3 _ (List.mem_of_getElem? (i := 181) rfl)) rfl
theorem w_2_138 : (Cond.fieldLink RX11 99 "SameKeeper" "heardCount" "I") ∈ wsL_law := sk_mem (ck_2 _ (List.mem_of_getElem? (i := 138) rfl)) rfl
theorem w_2_42 : (Cond.fieldLink RX11 167 "SameKeeper$Past" "acts" "I") ∈ wsL_law := sk_mem (ck_2 _ (List.mem_of_getElem? (i := 42) rfl)) rfl
theorem w_3_172 : (Cond.code yX11_has cX11_has 2 (some .int)) ∈ wsL_law := sk_mem (ck_3 _ (List.mem_of_getElem? (i := 172) rfl)) rfl
def om_3_1 : List Bool := false :: false :: true :: []
theorem hd_J6_bitCount_0f7a4_1 : skD yJ6_bitCount_0f7a4 1 := by decide +kernel
theorem hd_X4_toldOf_1 : skD yX4_toldOf 1 := by decide +kernel
set_option maxHeartbeats 4000000 in
set_option maxRecDepth 100000 in
theorem c_ky_has (l : Launch) (D : va_G) (cI cJ cC cZ cS : ClassId) (x0 : Nat) (q : Nat → Nat) (dr : Int64) (hn : Nat) (dy : Nat) (wn : Nat) (mo : Nat) (ke : Nat) (mu : Int32) (fb : Nat → Int32) (fw : Nat → Int32) (ac : Nat) (U : Nat → Bool) (w : Int32) (hU : muO U mu) (hke : ke < 1000) : skM l yX11_has cX11_has 2 (some .int) 2 42 0 0 D (skT cI cJ cC cZ cS) [.ref x0, .int w] [ro_rrrrrrrrrrrrrrrirl x0 11 (q 0) (q 1) (q 2) (q 3) (q 4) (q 5) (q 6) (q 7) (q 8) (q 9) (q 10) (q 11) (q 12) (q 13) (q 14) (nI hn) (q 16) dr, ro_rrnnnin (q 7) 7 (q 33) (q 34) dy wn mo mu ke, ro_rnrrr (q 9) 4 (q 35) ac (q 36) (q 37) (q 38)] (skI D (skT cI cJ cC cZ cS) (fun (r : Int32) (u : va_W) => r = hasV dy wn mo U ke hn ac w ∧ u = [ro_rrrrrrrrrrrrrrrirl x0 11 (q 0) (q 1) (q 2) (q 3) (q 4) (q 5) (q 6) (q 7) (q 8) (q 9) (q 10) (q 11) (q 12) (q 13) (q 14) (nI hn) (q 16) dr, ro_rrnnnin (q 7) 7 (q 33) (q 34) dy wn mo mu ke, ro_rnrrr (q 9) 4 (q 35) ac (q 36) (q 37) (q 38)])) := by
  refine skM_of pf_X11_has (Nat.le_of_ble_eq_true rfl) ?_
  intro p e s m below meth c A ls E hP hD hl
  refine skE_el E (fun hx hb hr hml hlocks hin hown hts hK hA => ?_)
  have hown : s.vm.findClass RX11 = some m.cls := hown
  have hS : va_S A s.heap s.heap [] := va_S.rf
  have hl : lv_has ls 2 [(0, .ref x0), (1, .int w)] := hl
  refine lv_iload_n hx hb dX11_has_0 rfl (lv_at hl 1 rfl) ?_
  by_cases g_1 : w = 0
  · refine lv_tableIn (off := 43) (tgt := 44) hx hb dX11_has_1 (by rw [g_1]; decide) (by rw [g_1]; decide) (by rw [g_1]; rfl) (by decide) ?_
    refine lv_aload_n hx hb dX11_has_44 rfl (lv_at hl 0 rfl) ?_
    refine sk_get (v := .ref (q 7)) (C := RX11) (T := TX11) (N := 18) hx hb hts inlX11 hown hK hP 0 rfl rfl 7 (Nat.le_of_ble_eq_true rfl) w_2_130 rfl dX11_has_45 ?_
    refine sk_get (v := .int (nI dy)) (C := RX7) (T := TX7) (N := 7) hx hb hts inlX7 hown hK hP 1 rfl rfl 2 (Nat.le_of_ble_eq_true rfl) w_2_1 rfl dX11_has_48 ?_
    exact sk_iret hx hb hr rfl hlocks hK hP hD hS (⟨(by unfold hasV; rw [g_1, if_pos rfl]), rfl⟩) (Nat.le_of_ble_eq_true rfl) (Nat.le_of_ble_eq_true rfl) dX11_has_51
  by_cases g_2 : w = 1
  · refine lv_tableIn (off := 51) (tgt := 52) hx hb dX11_has_1 (by rw [g_2]; decide) (by rw [g_2]; decide) (by rw [g_2]; rfl) (by decide) ?_
    refine lv_aload_n hx hb dX11_has_52 rfl (lv_at hl 0 rfl) ?_
    refine sk_get (v := .ref (q 7)) (C := RX11) (T := TX11) (N := 18) hx hb hts inlX11 hown hK hP 0 rfl rfl 7 (Nat.le_of_ble_eq_true rfl) w_2_130 rfl dX11_has_53 ?_
    refine sk_get (v := .int (nI wn)) (C := RX7) (T := TX7) (N := 7) hx hb hts inlX7 hown hK hP 1 rfl rfl 3 (Nat.le_of_ble_eq_true rfl) w_2_6 rfl dX11_has_56 ?_
    exact sk_iret hx hb hr rfl hlocks hK hP hD hS (⟨(by unfold hasV; rw [g_2, if_neg (by decide), if_pos rfl]), rfl⟩) (Nat.le_of_ble_eq_true rfl) (Nat.le_of_ble_eq_true rfl) dX11_has_59
  by_cases g_3 : w = 2
  · refine lv_tableIn (off := 59) (tgt := 60) hx hb dX11_has_1 (by rw [g_3]; decide) (by rw [g_3]; decide) (by rw [g_3]; rfl) (by decide) ?_
    refine lv_aload_n hx hb dX11_has_60 rfl (lv_at hl 0 rfl) ?_
    refine sk_get (v := .ref (q 7)) (C := RX11) (T := TX11) (N := 18) hx hb hts inlX11 hown hK hP 0 rfl rfl 7 (Nat.le_of_ble_eq_true rfl) w_2_130 rfl dX11_has_61 ?_
    refine sk_get (v := .int (nI mo)) (C := RX7) (T := TX7) (N := 7) hx hb hts inlX7 hown hK hP 1 rfl rfl 4 (Nat.le_of_ble_eq_true rfl) w_2_10 rfl dX11_has_64 ?_
    exact sk_iret hx hb hr rfl hlocks hK hP hD hS (⟨(by unfold hasV; rw [g_3, if_neg (by decide), if_neg (by decide), if_pos rfl]), rfl⟩) (Nat.le_of_ble_eq_true rfl) (Nat.le_of_ble_eq_true rfl) dX11_has_67
  by_cases g_4 : w = 3
  · refine lv_tableIn (off := 67) (tgt := 68) hx hb dX11_has_1 (by rw [g_4]; decide) (by rw [g_4]; decide) (by rw [g_4]; rfl) (by decide) ?_
    obtain ⟨mz, hmz, rfl, hmb⟩ := hU
    refine lv_aload_n hx hb dX11_has_68 rfl (lv_at hl 0 rfl) ?_
    refine sk_get (v := .ref (q 7)) (C := RX11) (T := TX11) (N := 18) hx hb hts inlX11 hown hK hP 0 rfl rfl 7 (Nat.le_of_ble_eq_true rfl) w_2_130 rfl dX11_has_69 ?_
    refine sk_get (v := .int (nI mz)) (C := RX7) (T := TX7) (N := 7) hx hb hts inlX7 hown hK hP 1 rfl rfl 5 (Nat.le_of_ble_eq_true rfl) w_2_12 rfl dX11_has_72 ?_
    refine sk_Si (n := 1) (rest := []) (wr := [ro_rrrrrrrrrrrrrrrnrl x0 11 (q 0) (q 1) (q 2) (q 3) (q 4) (q 5) (q 6) (q 7) (q 8) (q 9) (q 10) (q 11) (q 12) (q 13) (q 14) hn (q 16) dr, ro_rrnnnnn (q 7) 7 (q 33) (q 34) dy wn mo mz ke, ro_rnrrr (q 9) 4 (q 35) ac (q 36) (q 37) (q 38)]) ⟨hx, hb, hml, hown, hts⟩ hl.1 (c_kbitCountX l D cI cJ cC cZ cS mz (by omega)) w_3_173 w_3_174 w_1_21 w_3_175 hd_J6_bitCount_0f7a4_1 ⟨⟨(Nat.le_of_ble_eq_true rfl), (Nat.le_of_ble_eq_true rfl)⟩, (Nat.le_of_ble_eq_true rfl), (Nat.le_of_ble_eq_true rfl)⟩ hK hP hD hS hA [] [0, 1, 2] rfl rfl (by decide +kernel) (by decide +kernel) (by decide +kernel) rfl rfl (Nat.le_of_ble_eq_true rfl) dX11_has_75 (fun r_5 u H locs hw hP hD hS => ?_)
    obtain ⟨hr_6, rfl⟩ := hw
    refine o_re (ws' := [ro_rrrrrrrrrrrrrrrnrl x0 11 (q 0) (q 1) (q 2) (q 3) (q 4) (q 5) (q 6) (q 7) (q 8) (q 9) (q 10) (q 11) (q 12) (q 13) (q 14) hn (q 16) dr, ro_rrnnnnn (q 7) 7 (q 33) (q 34) dy wn mo mz ke, ro_rnrrr (q 9) 4 (q 35) ac (q 36) (q 37) (q 38)]) hP hD rfl (fun hP hD => ?_)
    subst hr_6
    exact sk_iret hx hb hr rfl hlocks hK hP hD hS (⟨(by unfold hasV; rw [g_4, if_neg (by decide), if_neg (by decide), if_neg (by decide), if_pos rfl, kpop_U hmb]), rfl⟩) (Nat.le_of_ble_eq_true rfl) (Nat.le_of_ble_eq_true rfl) dX11_has_78
  by_cases g_7 : w = 4
  · refine lv_tableIn (off := 78) (tgt := 79) hx hb dX11_has_1 (by rw [g_7]; decide) (by rw [g_7]; decide) (by rw [g_7]; rfl) (by decide) ?_
    refine lv_aload_n hx hb dX11_has_79 rfl (lv_at hl 0 rfl) ?_
    refine sk_get (v := .ref (q 9)) (C := RX11) (T := TX11) (N := 18) hx hb hts inlX11 hown hK hP 0 rfl rfl 9 (Nat.le_of_ble_eq_true rfl) w_2_132 rfl dX11_has_80 ?_
    refine lv_aload_n hx hb dX11_has_83 rfl (lv_at hl 0 rfl) ?_
    refine sk_get (v := .ref (q 7)) (C := RX11) (T := TX11) (N := 18) hx hb hts inlX11 hown hK hP 0 rfl rfl 7 (Nat.le_of_ble_eq_true rfl) w_2_130 rfl dX11_has_84 ?_
    refine sk_get (v := .int (nI ke)) (C := RX7) (T := TX7) (N := 7) hx hb hts inlX7 hown hK hP 1 rfl rfl 6 (Nat.le_of_ble_eq_true rfl) w_2_15 rfl dX11_has_87 ?_
    refine sk_Vi (q0 := 0) (n := 1) (rest := []) (wr := fmR om_3_1 _) ⟨hx, hb, hml, hown, hts⟩ hl.1 (c_kpast_toldOf l D cI cJ cC cZ cS q ac ke hke) w_3_179 w_3_180 w_3_181 w_1_11 w_3_182 hd_X4_toldOf_1 ⟨⟨(Nat.le_of_ble_eq_true rfl), (Nat.le_of_ble_eq_true rfl)⟩, (Nat.le_of_ble_eq_true rfl), (Nat.le_of_ble_eq_true rfl)⟩ hK hP hD hS hA (fmT om_3_1 0) (fmF om_3_1 0) (fm_C1 rfl rfl) (fm_R rfl rfl) (fm_nT om_3_1 0) (fm_nF om_3_1 0) (fm_di om_3_1 0) rfl rfl rfl rfl (Nat.le_of_ble_eq_true rfl) dX11_has_90 (fun r_8 u H locs hw hP hD hS => ?_)
    refine anE hw (fun er_10 eu_9 => ?_)
    clear hw
    subst er_10
    refine o_mgE (ws' := [ro_rrrrrrrrrrrrrrrirl x0 11 (q 0) (q 1) (q 2) (q 3) (q 4) (q 5) (q 6) (q 7) (q 8) (q 9) (q 10) (q 11) (q 12) (q 13) (q 14) (nI hn) (q 16) dr, ro_rrnnnin (q 7) 7 (q 33) (q 34) dy wn mo mu ke, ro_rnrrr (q 9) 4 (q 35) ac (q 36) (q 37) (q 38)]) eu_9 hP hD rfl (fun hP hD => ?_)
    exact sk_iret hx hb hr rfl hlocks hK hP hD hS (⟨(by unfold hasV; rw [g_7, if_neg (by decide), if_neg (by decide), if_neg (by decide), if_neg (by decide), if_pos rfl]), rfl⟩) (Nat.le_of_ble_eq_true rfl) (Nat.le_of_ble_eq_true rfl) dX11_has_93
  by_cases g_11 : w = 5
  · refine lv_tableIn (off := 93) (tgt := 94) hx hb dX11_has_1 (by rw [g_11]; decide) (by rw [g_11]; decide) (by rw [g_11]; rfl) (by decide) ?_
    refine lv_aload_n hx hb dX11_has_94 rfl (lv_at hl 0 rfl) ?_
    refine sk_get (v := .int (nI hn)) (C := RX11) (T := TX11) (N := 18) hx hb hts inlX11 hown hK hP 0 rfl rfl 15 (Nat.le_of_ble_eq_true rfl) w_2_138 rfl dX11_has_95 ?_
    exact sk_iret hx hb hr rfl hlocks hK hP hD hS (⟨(by unfold hasV; rw [g_11, if_neg (by decide), if_neg (by decide), if_neg (by decide), if_neg (by decide), if_neg (by decide), if_pos rfl]), rfl⟩) (Nat.le_of_ble_eq_true rfl) (Nat.le_of_ble_eq_true rfl) dX11_has_98
  by_cases g_12 : w = 6
  · refine lv_tableIn (off := 98) (tgt := 99) hx hb dX11_has_1 (by rw [g_12]; decide) (by rw [g_12]; decide) (by rw [g_12]; rfl) (by decide) ?_
    refine lv_aload_n hx hb dX11_has_99 rfl (lv_at hl 0 rfl) ?_
    refine sk_get (v := .ref (q 9)) (C := RX11) (T := TX11) (N := 18) hx hb hts inlX11 hown hK hP 0 rfl rfl 9 (Nat.le_of_ble_eq_true rfl) w_2_132 rfl dX11_has_100 ?_
    refine sk_get (v := .int (nI ac)) (C := RX4) (T := TX4) (N := 5) hx hb hts inlX4 hown hK hP 2 rfl rfl 1 (Nat.le_of_ble_eq_true rfl) w_2_42 rfl dX11_has_103 ?_
    exact sk_iret hx hb hr rfl hlocks hK hP hD hS (⟨(by unfold hasV; rw [g_12, if_neg (by decide), if_neg (by decide), if_neg (by decide), if_neg (by decide), if_neg (by decide), if_neg (by decide), if_pos rfl]), rfl⟩) (Nat.le_of_ble_eq_true rfl) (Nat.le_of_ble_eq_true rfl) dX11_has_106
  refine lv_tableOut (tgt := 107) hx hb dX11_has_1 (sk_out (n := 6) (by intro k hk; rcases (show k = 0 ∨ k = 1 ∨ k = 2 ∨ k = 3 ∨ k = 4 ∨ k = 5 ∨ k = 6 by omega) with rfl | rfl | rfl | rfl | rfl | rfl | rfl <;> assumption)) (by decide) ?_
  refine lv_iconst (v := (-1)) hx hb dX11_has_107 (by decide) ?_
  exact sk_iret hx hb hr rfl hlocks hK hP hD hS (⟨(by unfold hasV; rw [if_neg (by assumption), if_neg (by assumption), if_neg (by assumption), if_neg (by assumption), if_neg (by assumption), if_neg (by assumption), if_neg (by assumption)]), rfl⟩) (Nat.le_of_ble_eq_true rfl) (Nat.le_of_ble_eq_true rfl) dX11_has_108
theorem dX4_ofKept_18 : decode cX4_ofKept 18 = .ok (.tableswitch 49 0 2 #[26, 34, 41], 26) := by decide +kernel
theorem dg_X4_ofKept_0_0 : bqL cX4_ofKept 0 [(0, [27]), (1, [155, 0, 12]), (4, [27]), (5, [42]), (6, [180, 0, 21]), (9, [190]), (10, [161, 0, 7]), (17, [28]), (44, [42]), (45, [180, 0, 21]), (48, [27]), (49, [46]), (50, [133]), (51, [173]), (52, [42]), (53, [180, 0, 25]), (56, [27]), (57, [47]), (58, [173]), (59, [42]), (60, [180, 0, 29]), (63, [27]), (64, [46]), (65, [133]), (66, [173]), (67, [20, 0, 49]), (70, [173])] = true := by decide +kernel
theorem dX4_ofKept_0 : decode cX4_ofKept 0 = .ok (.iload_n 1, 1) := q_iload_n1 (bat_get dg_X4_ofKept_0_0 0 rfl rfl)
theorem dX4_ofKept_1 : decode cX4_ofKept 1 = .ok (.ifCond .lt 12, 3) := q_ifCond_lt (bat_get dg_X4_ofKept_0_0 1 rfl rfl) rfl
theorem dX4_ofKept_4 : decode cX4_ofKept 4 = .ok (.iload_n 1, 1) := q_iload_n1 (bat_get dg_X4_ofKept_0_0 2 rfl rfl)
theorem dX4_ofKept_5 : decode cX4_ofKept 5 = .ok (.aload_n 0, 1) := q_aload_n0 (bat_get dg_X4_ofKept_0_0 3 rfl rfl)
theorem dX4_ofKept_6 : decode cX4_ofKept 6 = .ok (.getfield 21, 3) := q_getfield (bat_get dg_X4_ofKept_0_0 4 rfl rfl) rfl
theorem dX4_ofKept_9 : decode cX4_ofKept 9 = .ok (.arraylength, 1) := q_arraylength (bat_get dg_X4_ofKept_0_0 5 rfl rfl)
theorem dX4_ofKept_10 : decode cX4_ofKept 10 = .ok (.if_icmp .lt 7, 3) := q_if_icmp_lt (bat_get dg_X4_ofKept_0_0 6 rfl rfl) rfl
theorem dX4_ofKept_17 : decode cX4_ofKept 17 = .ok (.iload_n 2, 1) := q_iload_n2 (bat_get dg_X4_ofKept_0_0 7 rfl rfl)
theorem dX4_ofKept_44 : decode cX4_ofKept 44 = .ok (.aload_n 0, 1) := q_aload_n0 (bat_get dg_X4_ofKept_0_0 8 rfl rfl)
theorem dX4_ofKept_45 : decode cX4_ofKept 45 = .ok (.getfield 21, 3) := q_getfield (bat_get dg_X4_ofKept_0_0 9 rfl rfl) rfl
theorem dX4_ofKept_48 : decode cX4_ofKept 48 = .ok (.iload_n 1, 1) := q_iload_n1 (bat_get dg_X4_ofKept_0_0 10 rfl rfl)
theorem dX4_ofKept_49 : decode cX4_ofKept 49 = .ok (.iaload, 1) := q_iaload (bat_get dg_X4_ofKept_0_0 11 rfl rfl)
theorem dX4_ofKept_50 : decode cX4_ofKept 50 = .ok (.i2l, 1) := q_i2l (bat_get dg_X4_ofKept_0_0 12 rfl rfl)
theorem dX4_ofKept_51 : decode cX4_ofKept 51 = .ok (.lreturn, 1) := q_lreturn (bat_get dg_X4_ofKept_0_0 13 rfl rfl)
theorem dX4_ofKept_52 : decode cX4_ofKept 52 = .ok (.aload_n 0, 1) := q_aload_n0 (bat_get dg_X4_ofKept_0_0 14 rfl rfl)
theorem dX4_ofKept_53 : decode cX4_ofKept 53 = .ok (.getfield 25, 3) := q_getfield (bat_get dg_X4_ofKept_0_0 15 rfl rfl) rfl
theorem dX4_ofKept_56 : decode cX4_ofKept 56 = .ok (.iload_n 1, 1) := q_iload_n1 (bat_get dg_X4_ofKept_0_0 16 rfl rfl)
theorem dX4_ofKept_57 : decode cX4_ofKept 57 = .ok (.laload, 1) := q_laload (bat_get dg_X4_ofKept_0_0 17 rfl rfl)
theorem dX4_ofKept_58 : decode cX4_ofKept 58 = .ok (.lreturn, 1) := q_lreturn (bat_get dg_X4_ofKept_0_0 18 rfl rfl)
theorem dX4_ofKept_59 : decode cX4_ofKept 59 = .ok (.aload_n 0, 1) := q_aload_n0 (bat_get dg_X4_ofKept_0_0 19 rfl rfl)
theorem dX4_ofKept_60 : decode cX4_ofKept 60 = .ok (.getfield 29, 3) := q_getfield (bat_get dg_X4_ofKept_0_0 20 rfl rfl) rfl
theorem dX4_ofKept_63 : decode cX4_ofKept 63 = .ok (.iload_n 1, 1) := q_iload_n1 (bat_get dg_X4_ofKept_0_0 21 rfl rfl)
theorem dX4_ofKept_64 : decode cX4_ofKept 64 = .ok (.iaload, 1) := q_iaload (bat_get dg_X4_ofKept_0_0 22 rfl rfl)
theorem dX4_ofKept_65 : decode cX4_ofKept 65 = .ok (.i2l, 1) := q_i2l (bat_get dg_X4_ofKept_0_0 23 rfl rfl)
theorem dX4_ofKept_66 : decode cX4_ofKept 66 = .ok (.lreturn, 1) := q_lreturn (bat_get dg_X4_ofKept_0_0 24 rfl rfl)
theorem dX4_ofKept_67 : decode cX4_ofKept 67 = .ok (.ldc2_w 49, 3) := q_ldc2_w (bat_get dg_X4_ofKept_0_0 25 rfl rfl) rfl
theorem dX4_ofKept_70 : decode cX4_ofKept 70 = .ok (.lreturn, 1) := q_lreturn (bat_get dg_X4_ofKept_0_0 26 rfl rfl)
theorem w_4_34 : (Cond.constantLong RX4 49 (-1000000000000000)) ∈ wsL_law := sk_mem (ck_4 _ (List.mem_of_getElem? (i := 34) rfl)) rfl
theorem w_4_33 : (Cond.code yX4_ofKept cX4_ofKept 3 (some .long)) ∈ wsL_law := sk_mem (ck_4 _ (List.mem_of_getElem? (i := 33) rfl)) rfl
set_option maxHeartbeats 4000000 in
set_option maxRecDepth 100000 in
theorem c_kpast_ofKept (l : Launch) (D : va_G) (cI cJ cC cZ cS : ClassId) (q : Nat → Nat) (ac : Nat) (ke : Nat) (p1 : Nat → Int32) (p2 : Nat → Int64) (p3 : Nat → Int32) (k : Nat) (lg : KLg) (w : Int32) (kk : Nat) (hk : k < ke) (hke : ke < 1000) (hkk : kkO lg ke p1 p2 p3) (hlg : lgOk lg) (hkk2 : kk < min ke 30) (hkk3 : k = ke - min ke 30 + kk) : skM l yX4_ofKept cX4_ofKept 3 (some .long) 0 0 0 0 D (skT cI cJ cC cZ cS) [.ref (q 9), .int (nI k), .int w] [ro_rnrrr (q 9) 4 (q 35) ac (q 36) (q 37) (q 38), ra_I (q 36) cI 1000 p1, ra_J (q 37) cJ 1000 p2, ra_I (q 38) cI 1000 p3] (skL D (skT cI cJ cC cZ cS) (fun (r : Int64) (u : va_W) => keptR lg ke (nI kk) w r ∧ u = [ro_rnrrr (q 9) 4 (q 35) ac (q 36) (q 37) (q 38), ra_I (q 36) cI 1000 p1, ra_J (q 37) cJ 1000 p2, ra_I (q 38) cI 1000 p3])) := by
  refine skM_of pf_X4_ofKept (Nat.le_of_ble_eq_true rfl) ?_
  intro p e s m below meth c A ls E hP hD hl
  refine skE_el E (fun hx hb hr hml hlocks hin hown hts hK hA => ?_)
  have hown : s.vm.findClass RX4 = some m.cls := hown
  have hS : va_S A s.heap s.heap [] := va_S.rf
  have hl : lv_has ls 3 [(0, .ref (q 9)), (1, .int (nI k)), (2, .int w)] := hl
  refine lv_iload_n hx hb dX4_ofKept_0 rfl (lv_at hl 1 rfl) ?_
  refine lv_if_lt (tgt := 13) hx hb dX4_ofKept_1 (by decide) (fun c => absurd c (nI_pos (by omega))) (fun c_1 => ?_)
  refine lv_iload_n hx hb dX4_ofKept_4 rfl (lv_at hl 1 rfl) ?_
  refine lv_aload_n hx hb dX4_ofKept_5 rfl (lv_at hl 0 rfl) ?_
  refine sk_get (v := .ref (q 36)) (C := RX4) (T := TX4) (N := 5) hx hb hts inlX4 hown hK hP 0 rfl rfl 2 (Nat.le_of_ble_eq_true rfl) w_2_43 rfl dX4_ofKept_6 ?_
  refine va_alen (v := 1000) hx hb hK.1 hP 1 0 rfl rfl rfl dX4_ofKept_9 ?_
  refine lv_icmp_lt (tgt := 17) hx hb dX4_ofKept_10 (by decide) (fun c_2 => ?_) (fun c => absurd ((nlt k 1000 (by omega) (Nat.le_of_ble_eq_true rfl)).mpr (by omega)) c)
  refine lv_iload_n hx hb dX4_ofKept_17 rfl (lv_at hl 2 rfl) ?_
  by_cases g_3 : w = 0
  · refine lv_tableIn (off := 26) (tgt := 44) hx hb dX4_ofKept_18 (by rw [g_3]; decide) (by rw [g_3]; decide) (by rw [g_3]; rfl) (by decide) ?_
    refine lv_aload_n hx hb dX4_ofKept_44 rfl (lv_at hl 0 rfl) ?_
    refine sk_get (v := .ref (q 36)) (C := RX4) (T := TX4) (N := 5) hx hb hts inlX4 hown hK hP 0 rfl rfl 2 (Nat.le_of_ble_eq_true rfl) w_2_43 rfl dX4_ofKept_45 ?_
    refine lv_iload_n hx hb dX4_ofKept_48 rfl (lv_at hl 1 rfl) ?_
    refine va_iald hx hb hK.1 hP 1 0 rfl rfl (vin k 1000 (by omega) (Nat.le_of_ble_eq_true rfl)) dX4_ofKept_49 ?_
    refine sk_top (p1 k) (by rw [nI_clamp (by omega)]) ?_
    refine lv_i2l hx hb dX4_ofKept_50 rfl ?_
    exact sk_lret hx hb hr hlocks hK hP hD hS (⟨(by rw [g_3]; exact kept_0 hkk2 (hkk k hk).1 hkk3 (by have := (hlg k).1; omega)), rfl⟩) (Nat.le_of_ble_eq_true rfl) (Nat.le_of_ble_eq_true rfl) dX4_ofKept_51
  by_cases g_4 : w = 1
  · refine lv_tableIn (off := 34) (tgt := 52) hx hb dX4_ofKept_18 (by rw [g_4]; decide) (by rw [g_4]; decide) (by rw [g_4]; rfl) (by decide) ?_
    refine lv_aload_n hx hb dX4_ofKept_52 rfl (lv_at hl 0 rfl) ?_
    refine sk_get (v := .ref (q 37)) (C := RX4) (T := TX4) (N := 5) hx hb hts inlX4 hown hK hP 0 rfl rfl 3 (Nat.le_of_ble_eq_true rfl) w_2_44 rfl dX4_ofKept_53 ?_
    refine lv_iload_n hx hb dX4_ofKept_56 rfl (lv_at hl 1 rfl) ?_
    refine va_lald hx hb hK.1 hP 2 1 rfl rfl (vin k 1000 (by omega) (Nat.le_of_ble_eq_true rfl)) dX4_ofKept_57 ?_
    refine sk_topl (p2 k) (by rw [nI_clamp (by omega)]) ?_
    exact sk_lret hx hb hr hlocks hK hP hD hS (⟨(by rw [g_4]; exact kept_1 hkk2 (hkk k hk).2.1 hkk3), rfl⟩) (Nat.le_of_ble_eq_true rfl) (Nat.le_of_ble_eq_true rfl) dX4_ofKept_58
  by_cases g_5 : w = 2
  · refine lv_tableIn (off := 41) (tgt := 59) hx hb dX4_ofKept_18 (by rw [g_5]; decide) (by rw [g_5]; decide) (by rw [g_5]; rfl) (by decide) ?_
    refine lv_aload_n hx hb dX4_ofKept_59 rfl (lv_at hl 0 rfl) ?_
    refine sk_get (v := .ref (q 38)) (C := RX4) (T := TX4) (N := 5) hx hb hts inlX4 hown hK hP 0 rfl rfl 4 (Nat.le_of_ble_eq_true rfl) w_2_45 rfl dX4_ofKept_60 ?_
    refine lv_iload_n hx hb dX4_ofKept_63 rfl (lv_at hl 1 rfl) ?_
    refine va_iald hx hb hK.1 hP 3 0 rfl rfl (vin k 1000 (by omega) (Nat.le_of_ble_eq_true rfl)) dX4_ofKept_64 ?_
    refine sk_top (p3 k) (by rw [nI_clamp (by omega)]) ?_
    refine lv_i2l hx hb dX4_ofKept_65 rfl ?_
    exact sk_lret hx hb hr hlocks hK hP hD hS (⟨(by rw [g_5]; exact kept_2 hkk2 (hkk k hk).2.2 hkk3 (by have := (hlg k).2.2; omega)), rfl⟩) (Nat.le_of_ble_eq_true rfl) (Nat.le_of_ble_eq_true rfl) dX4_ofKept_66
  refine lv_tableOut (tgt := 67) hx hb dX4_ofKept_18 (sk_out (n := 2) (by intro k hk; rcases (show k = 0 ∨ k = 1 ∨ k = 2 by omega) with rfl | rfl | rfl <;> assumption)) (by decide) ?_
  refine lv_ldc2 (v := (-1000000000000000)) hx hb hown (hts _ w_4_34) dX4_ofKept_67 ?_
  exact sk_lret hx hb hr hlocks hK hP hD hS (⟨(kept_no2 (by assumption) (by assumption) (by assumption)), rfl⟩) (Nat.le_of_ble_eq_true rfl) (Nat.le_of_ble_eq_true rfl) dX4_ofKept_70
theorem dg_X11_kept_0_0 : bqL cX11_kept 0 [(0, [42]), (1, [180, 0, 69]), (4, [42]), (5, [180, 0, 59]), (8, [180, 0, 161]), (11, [182, 0, 164]), (14, [62]), (15, [27]), (16, [155, 0, 8]), (24, [20, 0, 198]), (27, [173]), (19, [27]), (20, [29]), (21, [161, 0, 7]), (28, [42]), (29, [180, 0, 69]), (32, [42]), (33, [180, 0, 59]), (36, [180, 0, 161]), (39, [29]), (40, [100]), (41, [27]), (42, [96]), (43, [28]), (44, [182, 0, 200]), (47, [173])] = true := by decide +kernel
theorem dX11_kept_0 : decode cX11_kept 0 = .ok (.aload_n 0, 1) := q_aload_n0 (bat_get dg_X11_kept_0_0 0 rfl rfl)
theorem dX11_kept_1 : decode cX11_kept 1 = .ok (.getfield 69, 3) := q_getfield (bat_get dg_X11_kept_0_0 1 rfl rfl) rfl
theorem dX11_kept_4 : decode cX11_kept 4 = .ok (.aload_n 0, 1) := q_aload_n0 (bat_get dg_X11_kept_0_0 2 rfl rfl)
theorem dX11_kept_5 : decode cX11_kept 5 = .ok (.getfield 59, 3) := q_getfield (bat_get dg_X11_kept_0_0 3 rfl rfl) rfl
theorem dX11_kept_8 : decode cX11_kept 8 = .ok (.getfield 161, 3) := q_getfield (bat_get dg_X11_kept_0_0 4 rfl rfl) rfl
theorem dX11_kept_11 : decode cX11_kept 11 = .ok (.invokevirtual 164, 3) := q_invokevirtual (bat_get dg_X11_kept_0_0 5 rfl rfl) rfl
theorem dX11_kept_14 : decode cX11_kept 14 = .ok (.istore_n 3, 1) := q_istore_n3 (bat_get dg_X11_kept_0_0 6 rfl rfl)
theorem dX11_kept_15 : decode cX11_kept 15 = .ok (.iload_n 1, 1) := q_iload_n1 (bat_get dg_X11_kept_0_0 7 rfl rfl)
theorem dX11_kept_16 : decode cX11_kept 16 = .ok (.ifCond .lt 8, 3) := q_ifCond_lt (bat_get dg_X11_kept_0_0 8 rfl rfl) rfl
theorem dX11_kept_24 : decode cX11_kept 24 = .ok (.ldc2_w 198, 3) := q_ldc2_w (bat_get dg_X11_kept_0_0 9 rfl rfl) rfl
theorem dX11_kept_27 : decode cX11_kept 27 = .ok (.lreturn, 1) := q_lreturn (bat_get dg_X11_kept_0_0 10 rfl rfl)
theorem dX11_kept_19 : decode cX11_kept 19 = .ok (.iload_n 1, 1) := q_iload_n1 (bat_get dg_X11_kept_0_0 11 rfl rfl)
theorem dX11_kept_20 : decode cX11_kept 20 = .ok (.iload_n 3, 1) := q_iload_n3 (bat_get dg_X11_kept_0_0 12 rfl rfl)
theorem dX11_kept_21 : decode cX11_kept 21 = .ok (.if_icmp .lt 7, 3) := q_if_icmp_lt (bat_get dg_X11_kept_0_0 13 rfl rfl) rfl
theorem dX11_kept_28 : decode cX11_kept 28 = .ok (.aload_n 0, 1) := q_aload_n0 (bat_get dg_X11_kept_0_0 14 rfl rfl)
theorem dX11_kept_29 : decode cX11_kept 29 = .ok (.getfield 69, 3) := q_getfield (bat_get dg_X11_kept_0_0 15 rfl rfl) rfl
theorem dX11_kept_32 : decode cX11_kept 32 = .ok (.aload_n 0, 1) := q_aload_n0 (bat_get dg_X11_kept_0_0 16 rfl rfl)
theorem dX11_kept_33 : decode cX11_kept 33 = .ok (.getfield 59, 3) := q_getfield (bat_get dg_X11_kept_0_0 17 rfl rfl) rfl
theorem dX11_kept_36 : decode cX11_kept 36 = .ok (.getfield 161, 3) := q_getfield (bat_get dg_X11_kept_0_0 18 rfl rfl) rfl
theorem dX11_kept_39 : decode cX11_kept 39 = .ok (.iload_n 3, 1) := q_iload_n3 (bat_get dg_X11_kept_0_0 19 rfl rfl)
theorem dX11_kept_40 : decode cX11_kept 40 = .ok (.isub, 1) := q_isub (bat_get dg_X11_kept_0_0 20 rfl rfl)
theorem dX11_kept_41 : decode cX11_kept 41 = .ok (.iload_n 1, 1) := q_iload_n1 (bat_get dg_X11_kept_0_0 21 rfl rfl)
theorem dX11_kept_42 : decode cX11_kept 42 = .ok (.iadd, 1) := q_iadd (bat_get dg_X11_kept_0_0 22 rfl rfl)
theorem dX11_kept_43 : decode cX11_kept 43 = .ok (.iload_n 2, 1) := q_iload_n2 (bat_get dg_X11_kept_0_0 23 rfl rfl)
theorem dX11_kept_44 : decode cX11_kept 44 = .ok (.invokevirtual 200, 3) := q_invokevirtual (bat_get dg_X11_kept_0_0 24 rfl rfl) rfl
theorem dX11_kept_47 : decode cX11_kept 47 = .ok (.lreturn, 1) := q_lreturn (bat_get dg_X11_kept_0_0 25 rfl rfl)
theorem w_4_29 : (Cond.constantLong RX11 198 (-1000000000000000)) ∈ wsL_law := sk_mem (ck_4 _ (List.mem_of_getElem? (i := 29) rfl)) rfl
theorem w_4_30 : (Cond.methodLink RX11 200 yX4_ofKept) ∈ wsL_law := sk_mem (ck_4 _ (List.mem_of_getElem? (i := 30) rfl)) rfl
theorem w_4_31 : (Cond.instanceMethod yX4_ofKept) ∈ wsL_law := sk_mem (ck_4 _ (List.mem_of_getElem? (i := 31) rfl)) rfl
theorem w_4_32 : (Cond.selects RX4 yX4_ofKept yX4_ofKept) ∈ wsL_law := sk_mem (ck_4 _ (List.mem_of_getElem? (i := 32) rfl)) rfl
theorem w_4_28 : (Cond.code yX11_kept cX11_kept 4 (some .long)) ∈ wsL_law := sk_mem (ck_4 _ (List.mem_of_getElem? (i := 28) rfl)) rfl
def om_6_f : List Bool := false :: false :: true :: true :: true :: true :: []
theorem hd_X4_ofKept_2 : skD yX4_ofKept 2 := by decide +kernel
set_option maxHeartbeats 4000000 in
set_option maxRecDepth 100000 in
theorem c_ky_kept (l : Launch) (D : va_G) (cI cJ cC cZ cS : ClassId) (x0 : Nat) (q : Nat → Nat) (hc : Int32) (dr : Int64) (dy : Nat) (wn : Nat) (mo : Nat) (ke : Nat) (mu : Int32) (fb : Nat → Int32) (fw : Nat → Int32) (ac : Nat) (p1 : Nat → Int32) (p2 : Nat → Int64) (p3 : Nat → Int32) (lg : KLg) (k : Int32) (w : Int32) (hkk : kkO lg ke p1 p2 p3) (hlg : lgOk lg) (hke : ke < 1000) : skM l yX11_kept cX11_kept 4 (some .long) 2 42 0 0 D (skT cI cJ cC cZ cS) [.ref x0, .int k, .int w] [ro_rrrrrrrrrrrrrrrirl x0 11 (q 0) (q 1) (q 2) (q 3) (q 4) (q 5) (q 6) (q 7) (q 8) (q 9) (q 10) (q 11) (q 12) (q 13) (q 14) hc (q 16) dr, ro_rrnnnin (q 7) 7 (q 33) (q 34) dy wn mo mu ke, ro_rnrrr (q 9) 4 (q 35) ac (q 36) (q 37) (q 38), ra_I (q 36) cI 1000 p1, ra_J (q 37) cJ 1000 p2, ra_I (q 38) cI 1000 p3] (skL D (skT cI cJ cC cZ cS) (fun (r : Int64) (u : va_W) => keptR lg ke k w r ∧ u = [ro_rrrrrrrrrrrrrrrirl x0 11 (q 0) (q 1) (q 2) (q 3) (q 4) (q 5) (q 6) (q 7) (q 8) (q 9) (q 10) (q 11) (q 12) (q 13) (q 14) hc (q 16) dr, ro_rrnnnin (q 7) 7 (q 33) (q 34) dy wn mo mu ke, ro_rnrrr (q 9) 4 (q 35) ac (q 36) (q 37) (q 38), ra_I (q 36) cI 1000 p1, ra_J (q 37) cJ 1000 p2, ra_I (q 38) cI 1000 p3])) := by
  refine skM_of pf_X11_kept (Nat.le_of_ble_eq_true rfl) ?_
  intro p e s m below meth c A ls E hP hD hl
  refine skE_el E (fun hx hb hr hml hlocks hin hown hts hK hA => ?_)
  have hown : s.vm.findClass RX11 = some m.cls := hown
  have hS : va_S A s.heap s.heap [] := va_S.rf
  have hl : lv_has ls 4 [(0, .ref x0), (1, .int k), (2, .int w)] := hl
  refine lv_aload_n hx hb dX11_kept_0 rfl (lv_at hl 0 rfl) ?_
  refine sk_get (v := .ref (q 9)) (C := RX11) (T := TX11) (N := 18) hx hb hts inlX11 hown hK hP 0 rfl rfl 9 (Nat.le_of_ble_eq_true rfl) w_2_132 rfl dX11_kept_1 ?_
  refine lv_aload_n hx hb dX11_kept_4 rfl (lv_at hl 0 rfl) ?_
  refine sk_get (v := .ref (q 7)) (C := RX11) (T := TX11) (N := 18) hx hb hts inlX11 hown hK hP 0 rfl rfl 7 (Nat.le_of_ble_eq_true rfl) w_2_130 rfl dX11_kept_5 ?_
  refine sk_get (v := .int (nI ke)) (C := RX7) (T := TX7) (N := 7) hx hb hts inlX7 hown hK hP 1 rfl rfl 6 (Nat.le_of_ble_eq_true rfl) w_2_15 rfl dX11_kept_8 ?_
  refine sk_Vi (q0 := 0) (n := 1) (rest := []) (wr := fmR om_6_8 _) ⟨hx, hb, hml, hown, hts⟩ hl.1 (c_kpast_toldOf l D cI cJ cC cZ cS q ac ke hke) w_3_179 w_3_180 w_3_181 w_1_11 w_3_182 hd_X4_toldOf_1 ⟨⟨(Nat.le_of_ble_eq_true rfl), (Nat.le_of_ble_eq_true rfl)⟩, (Nat.le_of_ble_eq_true rfl), (Nat.le_of_ble_eq_true rfl)⟩ hK hP hD hS hA (fmT om_6_8 0) (fmF om_6_8 0) (fm_C1 rfl rfl) (fm_R rfl rfl) (fm_nT om_6_8 0) (fm_nF om_6_8 0) (fm_di om_6_8 0) rfl rfl rfl rfl (Nat.le_of_ble_eq_true rfl) dX11_kept_11 (fun r_1 u H locs hw hP hD hS => ?_)
  refine anE hw (fun er_3 eu_2 => ?_)
  clear hw
  subst er_3
  refine o_mgE (ws' := [ro_rrrrrrrrrrrrrrrirl x0 11 (q 0) (q 1) (q 2) (q 3) (q 4) (q 5) (q 6) (q 7) (q 8) (q 9) (q 10) (q 11) (q 12) (q 13) (q 14) hc (q 16) dr, ro_rrnnnin (q 7) 7 (q 33) (q 34) dy wn mo mu ke, ro_rnrrr (q 9) 4 (q 35) ac (q 36) (q 37) (q 38), ra_I (q 36) cI 1000 p1, ra_J (q 37) cJ 1000 p2, ra_I (q 38) cI 1000 p3]) eu_2 hP hD rfl (fun hP hD => ?_)
  refine lv_istore_n (lv' := [(3, .int (nI (min ke 30))), (0, .ref x0), (1, .int k), (2, .int w)]) hx hb dX11_kept_14 rfl hl (by decide) rfl (fun ls hl => ?_)
  refine lv_iload_n hx hb dX11_kept_15 rfl (lv_at hl 2 rfl) ?_
  refine lv_if_lt (tgt := 24) hx hb dX11_kept_16 (by decide) (fun c_4 => ?_) (fun c_4 => ?_)
  · skip
    refine lv_ldc2 (v := (-1000000000000000)) hx hb hown (hts _ w_4_29) dX11_kept_24 ?_
    exact sk_lret hx hb hr hlocks hK hP hD hS (⟨kept_no (kIn_neg c_4 (by omega)), rfl⟩) (Nat.le_of_ble_eq_true rfl) (Nat.le_of_ble_eq_true rfl) dX11_kept_27
  · obtain ⟨k_5, hk_5, rfl⟩ := nof k c_4
    refine lv_iload_n hx hb dX11_kept_19 rfl (lv_at hl 2 rfl) ?_
    refine lv_iload_n hx hb dX11_kept_20 rfl (lv_at hl 0 rfl) ?_
    refine lv_icmp_lt (tgt := 28) hx hb dX11_kept_21 (by decide) (fun c_6 => ?_) (fun c_6 => ?_)
    · have c_6 : k_5 < min ke 30 := (nlt k_5 (min ke 30) (by omega) (by omega)).mp c_6
      refine lv_aload_n hx hb dX11_kept_28 rfl (lv_at hl 1 rfl) ?_
      refine sk_get (v := .ref (q 9)) (C := RX11) (T := TX11) (N := 18) hx hb hts inlX11 hown hK hP 0 rfl rfl 9 (Nat.le_of_ble_eq_true rfl) w_2_132 rfl dX11_kept_29 ?_
      refine lv_aload_n hx hb dX11_kept_32 rfl (lv_at hl 1 rfl) ?_
      refine sk_get (v := .ref (q 7)) (C := RX11) (T := TX11) (N := 18) hx hb hts inlX11 hown hK hP 0 rfl rfl 7 (Nat.le_of_ble_eq_true rfl) w_2_130 rfl dX11_kept_33 ?_
      refine sk_get (v := .int (nI ke)) (C := RX7) (T := TX7) (N := 7) hx hb hts inlX7 hown hK hP 1 rfl rfl 6 (Nat.le_of_ble_eq_true rfl) w_2_15 rfl dX11_kept_36 ?_
      refine lv_iload_n hx hb dX11_kept_39 rfl (lv_at hl 0 rfl) ?_
      refine lv_isub hx hb dX11_kept_40 ?_
      refine sk_top (nI (ke - (min ke 30))) (nsub ke (min ke 30) (by omega)) ?_
      refine lv_iload_n hx hb dX11_kept_41 rfl (lv_at hl 2 rfl) ?_
      refine lv_iadd hx hb dX11_kept_42 ?_
      refine sk_top (nI (ke - (min ke 30) + k_5)) (nI_add (ke - (min ke 30)) k_5) ?_
      refine lv_iload_n hx hb dX11_kept_43 rfl (lv_at hl 3 rfl) ?_
      refine sk_Vl (q0 := 0) (n := 2) (rest := []) (wr := fmR om_6_f _) ⟨hx, hb, hml, hown, hts⟩ hl.1 (c_kpast_ofKept l D cI cJ cC cZ cS q ac ke p1 p2 p3 (ke - (min ke 30) + k_5) lg w k_5 (by omega) hke hkk hlg (by omega) rfl) w_4_30 w_4_31 w_4_32 w_1_11 w_4_33 hd_X4_ofKept_2 ⟨⟨(Nat.le_of_ble_eq_true rfl), (Nat.le_of_ble_eq_true rfl)⟩, (Nat.le_of_ble_eq_true rfl), (Nat.le_of_ble_eq_true rfl)⟩ hK hP hD hS hA (fmT om_6_f 0) (fmF om_6_f 0) (fm_C1 rfl rfl) (fm_R rfl rfl) (fm_nT om_6_f 0) (fm_nF om_6_f 0) (fm_di om_6_f 0) rfl rfl rfl rfl (Nat.le_of_ble_eq_true rfl) dX11_kept_44 (fun r_7 u H locs hw hP hD hS => ?_)
      refine anE hw (fun hkp_8 eu_9 => ?_)
      clear hw
      refine o_mgE (ws' := [ro_rrrrrrrrrrrrrrrirl x0 11 (q 0) (q 1) (q 2) (q 3) (q 4) (q 5) (q 6) (q 7) (q 8) (q 9) (q 10) (q 11) (q 12) (q 13) (q 14) hc (q 16) dr, ro_rrnnnin (q 7) 7 (q 33) (q 34) dy wn mo mu ke, ro_rnrrr (q 9) 4 (q 35) ac (q 36) (q 37) (q 38), ra_I (q 36) cI 1000 p1, ra_J (q 37) cJ 1000 p2, ra_I (q 38) cI 1000 p3]) eu_9 hP hD rfl (fun hP hD => ?_)
      exact sk_lret hx hb hr hlocks hK hP hD hS (⟨hkp_8, rfl⟩) (Nat.le_of_ble_eq_true rfl) (Nat.le_of_ble_eq_true rfl) dX11_kept_47
    · have c_6 : ¬ (k_5 < min ke 30) := fun h => c_6 ((nlt k_5 (min ke 30) (by omega) (by omega)).mpr h)
      refine lv_ldc2 (v := (-1000000000000000)) hx hb hown (hts _ w_4_29) dX11_kept_24 ?_
      exact sk_lret hx hb hr hlocks hK hP hD hS (⟨kept_no (kIn_ge (by omega) (by omega)), rfl⟩) (Nat.le_of_ble_eq_true rfl) (Nat.le_of_ble_eq_true rfl) dX11_kept_27
theorem dg_X11_told_0_0 : bqL cX11_told 0 [(0, [42]), (1, [27]), (2, [182, 0, 170]), (5, [153, 0, 21]), (26, [2]), (27, [172]), (8, [28]), (9, [184, 0, 182]), (12, [153, 0, 14]), (15, [42]), (16, [180, 0, 59]), (19, [27]), (20, [182, 0, 179]), (23, [153, 0, 5]), (28, [42]), (29, [180, 0, 76]), (32, [42]), (33, [180, 0, 49]), (36, [42]), (37, [180, 0, 59]), (40, [182, 0, 185]), (43, [42]), (44, [180, 0, 76]), (47, [180, 0, 189]), (50, [27]), (51, [16, 10]), (53, [104]), (54, [28]), (55, [96]), (56, [46]), (57, [172])] = true := by decide +kernel
theorem dX11_told_0 : decode cX11_told 0 = .ok (.aload_n 0, 1) := q_aload_n0 (bat_get dg_X11_told_0_0 0 rfl rfl)
theorem dX11_told_1 : decode cX11_told 1 = .ok (.iload_n 1, 1) := q_iload_n1 (bat_get dg_X11_told_0_0 1 rfl rfl)
theorem dX11_told_2 : decode cX11_told 2 = .ok (.invokevirtual 170, 3) := q_invokevirtual (bat_get dg_X11_told_0_0 2 rfl rfl) rfl
theorem dX11_told_5 : decode cX11_told 5 = .ok (.ifCond .eq 21, 3) := q_ifCond_eq (bat_get dg_X11_told_0_0 3 rfl rfl) rfl
theorem dX11_told_26 : decode cX11_told 26 = .ok (.iconst (-1), 1) := q_iconstm1 (bat_get dg_X11_told_0_0 4 rfl rfl)
theorem dX11_told_27 : decode cX11_told 27 = .ok (.ireturn, 1) := q_ireturn (bat_get dg_X11_told_0_0 5 rfl rfl)
theorem dX11_told_8 : decode cX11_told 8 = .ok (.iload_n 2, 1) := q_iload_n2 (bat_get dg_X11_told_0_0 6 rfl rfl)
theorem dX11_told_9 : decode cX11_told 9 = .ok (.invokestatic 182, 3) := q_invokestatic (bat_get dg_X11_told_0_0 7 rfl rfl) rfl
theorem dX11_told_12 : decode cX11_told 12 = .ok (.ifCond .eq 14, 3) := q_ifCond_eq (bat_get dg_X11_told_0_0 8 rfl rfl) rfl
theorem dX11_told_15 : decode cX11_told 15 = .ok (.aload_n 0, 1) := q_aload_n0 (bat_get dg_X11_told_0_0 9 rfl rfl)
theorem dX11_told_16 : decode cX11_told 16 = .ok (.getfield 59, 3) := q_getfield (bat_get dg_X11_told_0_0 10 rfl rfl) rfl
theorem dX11_told_19 : decode cX11_told 19 = .ok (.iload_n 1, 1) := q_iload_n1 (bat_get dg_X11_told_0_0 11 rfl rfl)
theorem dX11_told_20 : decode cX11_told 20 = .ok (.invokevirtual 179, 3) := q_invokevirtual (bat_get dg_X11_told_0_0 12 rfl rfl) rfl
theorem dX11_told_23 : decode cX11_told 23 = .ok (.ifCond .eq 5, 3) := q_ifCond_eq (bat_get dg_X11_told_0_0 13 rfl rfl) rfl
theorem dX11_told_28 : decode cX11_told 28 = .ok (.aload_n 0, 1) := q_aload_n0 (bat_get dg_X11_told_0_0 14 rfl rfl)
theorem dX11_told_29 : decode cX11_told 29 = .ok (.getfield 76, 3) := q_getfield (bat_get dg_X11_told_0_0 15 rfl rfl) rfl
theorem dX11_told_32 : decode cX11_told 32 = .ok (.aload_n 0, 1) := q_aload_n0 (bat_get dg_X11_told_0_0 16 rfl rfl)
theorem dX11_told_33 : decode cX11_told 33 = .ok (.getfield 49, 3) := q_getfield (bat_get dg_X11_told_0_0 17 rfl rfl) rfl
theorem dX11_told_36 : decode cX11_told 36 = .ok (.aload_n 0, 1) := q_aload_n0 (bat_get dg_X11_told_0_0 18 rfl rfl)
theorem dX11_told_37 : decode cX11_told 37 = .ok (.getfield 59, 3) := q_getfield (bat_get dg_X11_told_0_0 19 rfl rfl) rfl
theorem dX11_told_40 : decode cX11_told 40 = .ok (.invokevirtual 185, 3) := q_invokevirtual (bat_get dg_X11_told_0_0 20 rfl rfl) rfl
theorem dX11_told_43 : decode cX11_told 43 = .ok (.aload_n 0, 1) := q_aload_n0 (bat_get dg_X11_told_0_0 21 rfl rfl)
theorem dX11_told_44 : decode cX11_told 44 = .ok (.getfield 76, 3) := q_getfield (bat_get dg_X11_told_0_0 22 rfl rfl) rfl
theorem dX11_told_47 : decode cX11_told 47 = .ok (.getfield 189, 3) := q_getfield (bat_get dg_X11_told_0_0 23 rfl rfl) rfl
theorem dX11_told_50 : decode cX11_told 50 = .ok (.iload_n 1, 1) := q_iload_n1 (bat_get dg_X11_told_0_0 24 rfl rfl)
theorem dX11_told_51 : decode cX11_told 51 = .ok (.bipush 10, 2) := q_bipush (bat_get dg_X11_told_0_0 25 rfl rfl) rfl
theorem dX11_told_53 : decode cX11_told 53 = .ok (.imul, 1) := q_imul (bat_get dg_X11_told_0_0 26 rfl rfl)
theorem dX11_told_54 : decode cX11_told 54 = .ok (.iload_n 2, 1) := q_iload_n2 (bat_get dg_X11_told_0_0 27 rfl rfl)
theorem dX11_told_55 : decode cX11_told 55 = .ok (.iadd, 1) := q_iadd (bat_get dg_X11_told_0_0 28 rfl rfl)
theorem dX11_told_56 : decode cX11_told 56 = .ok (.iaload, 1) := q_iaload (bat_get dg_X11_told_0_0 29 rfl rfl)
theorem dX11_told_57 : decode cX11_told 57 = .ok (.ireturn, 1) := q_ireturn (bat_get dg_X11_told_0_0 30 rfl rfl)
theorem w_2_64 : (Cond.fieldLink RX11 189 "SameKeeper$Table" "said" "[I") ∈ wsL_law := sk_mem (ck_2 _ (List.mem_of_getElem? (i := 64) rfl)) rfl
theorem w_3_201 : (Cond.code yX11_told cX11_told 3 (some .int)) ∈ wsL_law := sk_mem (ck_3 _ (List.mem_of_getElem? (i := 201) rfl)) rfl
def om_23_400004 : List Bool := true :: false :: false :: false :: false :: false :: false :: false :: false :: false :: false :: false :: false :: false :: false :: false :: false :: false :: false :: false :: true :: false :: false :: []
def om_23_4 : List Bool := false :: false :: false :: false :: false :: false :: false :: false :: false :: false :: false :: false :: false :: false :: false :: false :: false :: false :: false :: false :: true :: false :: false :: []
set_option maxHeartbeats 4000000 in
set_option maxRecDepth 100000 in
theorem c_ky_told (l : Launch) (D : va_G) (cI cJ cC cZ cS : ClassId) (x0 : Nat) (q : Nat → Nat) (hc : Int32) (dr : Int64) (sa : Nat → Nat) (ft : Nat → Int32) (fa : Nat → Int32) (fo : Nat → Int32) (fg : Nat → Int64) (fk : Nat → Int32) (dh : Nat) (mh : Nat) (uh : Int32) (rh : Int32) (nh : Nat) (ch : Nat) (wh : Nat) (y1 : Nat → Int32) (y2 : Nat → Int64) (y3 : Nat → Int64) (y4 : Nat → Int64) (yf : Nat → Int32) (yt : Nat → Int32) (gd : Nat) (gs : Nat) (e1 : Nat → Int32) (e2 : Nat → Int32) (e3 : Nat → Int32) (dy : Nat) (wn : Nat) (mo : Nat) (ke : Nat) (mu : Int32) (fb : Nat → Int32) (fw : Nat → Int32) (Ba : Nat → Nat) (We : Nat → Nat) (L : LkS) (U : Nat → Bool) (d : Int32) (o : Int32) (hsa : ∀ j, sa j ≤ 9) (hch : ch ≤ 1600) (hwh : wh ≤ 1) (hdy : dy ≤ 9) (hmo : mo ≤ 9) (hgd : gd ≤ 9) (hgs : gs ≤ 9) (hLk : kcLk L) (hlq : 1 ≤ dy → cdK (lK (lkF L)) ch wh y1 ∧ ∀ v, v < 3 → sgO (lG (lkF L) v) (yf v) (yt v)) (htq : 1 ≤ dy → kcTI L sa ft fa fo fg fk) (hfb : ∀ j, j < 9 → fb j = nI (Ba j)) (hfw : ∀ j, j < 9 → fw j = nI (We j)) (hB9 : ∀ j, Ba j ≤ 9) (hW9 : ∀ j, We j ≤ 9) (hwn : wn ≤ 999) (hU : muO U mu) : skM l yX11_told cX11_told 3 (some .int) 5 128 0 0 D (skT cI cJ cC cZ cS) [.ref x0, .int d, .int o] [ro_rrrrrrrrrrrrrrrirl x0 11 (q 0) (q 1) (q 2) (q 3) (q 4) (q 5) (q 6) (q 7) (q 8) (q 9) (q 10) (q 11) (q 12) (q 13) (q 14) hc (q 16) dr, ro_rrrrrr (q 10) 9 (q 61) (q 62) (q 63) (q 64) (q 65) (q 66), ra_N (q 61) cI 90 sa, ra_I (q 62) cI 900 ft, ra_I (q 63) cI 90 fa, ra_I (q 64) cI 90 fo, ra_J (q 65) cJ 90 fg, ra_I (q 66) cI 9 fk, ro_rrrrrnniin (q 5) 2 (q 44) (q 45) (q 46) (q 47) (q 48) dh mh uh rh nh, ro_rrrrnn (q 44) 0 (q 49) (q 50) (q 51) (q 52) ch wh, ra_I (q 49) cI 1600 y1, ra_J (q 50) cJ 64 y2, ra_J (q 51) cJ 9 y3, ra_J (q 52) cJ 10 y4, ra_I (q 47) cI 3 yf, ra_I (q 48) cI 3 yt, ro_rrrrrrrnn (q 11) 1 (q 10) (q 67) (q 68) (q 69) (q 70) (q 71) (q 72) gd gs, ra_I (q 67) cI 90 e1, ra_I (q 68) cI 9 e2, ra_I (q 69) cI 10 e3, ro_rrnnnin (q 7) 7 (q 33) (q 34) dy wn mo mu ke, ra_I (q 33) cI 9 fb, ra_I (q 34) cI 9 fw] (skI D (skT cI cJ cC cZ cS) (fun (r : Int32) (u : va_W) => ∃ (sa2 : Nat → Nat), ∃ (ft2 : Nat → Int32), ∃ (fa2 : Nat → Int32), ∃ (fo2 : Nat → Int32), ∃ (fg2 : Nat → Int64), ∃ (fk2 : Nat → Int32), ∃ (z2 : Nat → Int64), ∃ (z3 : Nat → Int64), ∃ (g1 : Nat → Int32), ∃ (g2 : Nat → Int32), ∃ (g3 : Nat → Int32), ∃ (gd2 : Nat), ∃ (gs2 : Nat), (∀ j, sa2 j ≤ 9) ∧ (1 ≤ dy → kcTI L sa2 ft2 fa2 fo2 fg2 fk2) ∧ gd2 ≤ 9 ∧ gs2 ≤ 9 ∧ toldR L dy wn Ba We U d o r ∧ u = [ro_rrrrrrrrrrrrrrrirl x0 11 (q 0) (q 1) (q 2) (q 3) (q 4) (q 5) (q 6) (q 7) (q 8) (q 9) (q 10) (q 11) (q 12) (q 13) (q 14) hc (q 16) dr, ro_rrrrrr (q 10) 9 (q 61) (q 62) (q 63) (q 64) (q 65) (q 66), ra_N (q 61) cI 90 sa2, ra_I (q 62) cI 900 ft2, ra_I (q 63) cI 90 fa2, ra_I (q 64) cI 90 fo2, ra_J (q 65) cJ 90 fg2, ra_I (q 66) cI 9 fk2, ro_rrrrrnniin (q 5) 2 (q 44) (q 45) (q 46) (q 47) (q 48) dh mh uh rh nh, ro_rrrrnn (q 44) 0 (q 49) (q 50) (q 51) (q 52) ch wh, ra_I (q 49) cI 1600 y1, ra_J (q 50) cJ 64 z2, ra_J (q 51) cJ 9 z3, ra_J (q 52) cJ 10 y4, ra_I (q 47) cI 3 yf, ra_I (q 48) cI 3 yt, ro_rrrrrrrnn (q 11) 1 (q 10) (q 67) (q 68) (q 69) (q 70) (q 71) (q 72) gd2 gs2, ra_I (q 67) cI 90 g1, ra_I (q 68) cI 9 g2, ra_I (q 69) cI 10 g3, ro_rrnnnin (q 7) 7 (q 33) (q 34) dy wn mo mu ke, ra_I (q 33) cI 9 fb, ra_I (q 34) cI 9 fw])) := by
  refine skM_of pf_X11_told (Nat.le_of_ble_eq_true rfl) ?_
  intro p e s m below meth c A ls E hP hD hl
  refine skE_el E (fun hx hb hr hml hlocks hin hown hts hK hA => ?_)
  have hown : s.vm.findClass RX11 = some m.cls := hown
  have hS : va_S A s.heap s.heap [] := va_S.rf
  have hl : lv_has ls 3 [(0, .ref x0), (1, .int d), (2, .int o)] := hl
  refine lv_aload_n hx hb dX11_told_0 rfl (lv_at hl 0 rfl) ?_
  refine lv_iload_n hx hb dX11_told_1 rfl (lv_at hl 1 rfl) ?_
  refine sk_Vi (q0 := 0) (n := 1) (rest := []) (wr := fmR om_23_400004 _) ⟨hx, hb, hml, hown, hts⟩ hl.1 (c_kx_isDay l D cI cJ cC cZ cS x0 q hc dr dy wn mo ke mu fb fw d hdy) w_3_190 w_3_192 w_0_14 w_1_1 w_3_193 hd_X11_isDay_1 ⟨⟨(Nat.le_of_ble_eq_true rfl), (Nat.le_of_ble_eq_true rfl)⟩, (Nat.le_of_ble_eq_true rfl), (Nat.le_of_ble_eq_true rfl)⟩ hK hP hD hS hA (fmT om_23_400004 0) (fmF om_23_400004 0) (fm_C1 rfl rfl) (fm_R rfl rfl) (fm_nT om_23_400004 0) (fm_nF om_23_400004 0) (fm_di om_23_400004 0) rfl rfl rfl rfl (Nat.le_of_ble_eq_true rfl) dX11_told_2 (fun r_2 u H locs hw hP hD hS => ?_)
  refine exE hw (fun b_1 hw1 => anE hw1 (fun hb1_3 hw2 => anE hw2 (fun er_5 eu_4 => ?_)))
  clear hw hw1 hw2
  subst er_5
  refine o_mgE (ws' := [ro_rrrrrrrrrrrrrrrirl x0 11 (q 0) (q 1) (q 2) (q 3) (q 4) (q 5) (q 6) (q 7) (q 8) (q 9) (q 10) (q 11) (q 12) (q 13) (q 14) hc (q 16) dr, ro_rrrrrr (q 10) 9 (q 61) (q 62) (q 63) (q 64) (q 65) (q 66), ra_N (q 61) cI 90 sa, ra_I (q 62) cI 900 ft, ra_I (q 63) cI 90 fa, ra_I (q 64) cI 90 fo, ra_J (q 65) cJ 90 fg, ra_I (q 66) cI 9 fk, ro_rrrrrnniin (q 5) 2 (q 44) (q 45) (q 46) (q 47) (q 48) dh mh uh rh nh, ro_rrrrnn (q 44) 0 (q 49) (q 50) (q 51) (q 52) ch wh, ra_I (q 49) cI 1600 y1, ra_J (q 50) cJ 64 y2, ra_J (q 51) cJ 9 y3, ra_J (q 52) cJ 10 y4, ra_I (q 47) cI 3 yf, ra_I (q 48) cI 3 yt, ro_rrrrrrrnn (q 11) 1 (q 10) (q 67) (q 68) (q 69) (q 70) (q 71) (q 72) gd gs, ra_I (q 67) cI 90 e1, ra_I (q 68) cI 9 e2, ra_I (q 69) cI 10 e3, ro_rrnnnin (q 7) 7 (q 33) (q 34) dy wn mo mu ke, ra_I (q 33) cI 9 fb, ra_I (q 34) cI 9 fw]) eu_4 hP hD rfl (fun hP hD => ?_)
  refine lv_if_eq (tgt := 26) hx hb dX11_told_5 (by decide) (fun c_6 => ?_) (fun c_6 => ?_)
  · have c_6 : b_1 = 0 := (neq b_1 0 (by omega) (Nat.le_of_ble_eq_true rfl)).mp c_6
    refine lv_iconst (v := (-1)) hx hb dX11_told_26 (by decide) ?_
    exact sk_iret hx hb hr rfl hlocks hK hP hD hS (⟨sa, ft, fa, fo, fg, fk, y2, y3, e1, e2, e3, gd, gs, hsa, htq, hgd, hgs, tld_0 (rr_0 hb1_3 (by omega)), rfl⟩) (Nat.le_of_ble_eq_true rfl) (Nat.le_of_ble_eq_true rfl) dX11_told_27
  · have c_6 : ¬ (b_1 = 0) := fun h => c_6 ((neq b_1 0 (by omega) (Nat.le_of_ble_eq_true rfl)).mpr h)
    obtain ⟨kd_7, hkd_7, rfl⟩ := rr_1 hb1_3 (by omega)
    refine lv_iload_n hx hb dX11_told_8 rfl (lv_at hl 2 rfl) ?_
    refine sk_Si (n := 1) (rest := []) (wr := [ro_rrrrrrrrrrrrrrrirl x0 11 (q 0) (q 1) (q 2) (q 3) (q 4) (q 5) (q 6) (q 7) (q 8) (q 9) (q 10) (q 11) (q 12) (q 13) (q 14) hc (q 16) dr, ro_rrrrrr (q 10) 9 (q 61) (q 62) (q 63) (q 64) (q 65) (q 66), ra_N (q 61) cI 90 sa, ra_I (q 62) cI 900 ft, ra_I (q 63) cI 90 fa, ra_I (q 64) cI 90 fo, ra_J (q 65) cJ 90 fg, ra_I (q 66) cI 9 fk, ro_rrrrrnniin (q 5) 2 (q 44) (q 45) (q 46) (q 47) (q 48) dh mh uh rh nh, ro_rrrrnn (q 44) 0 (q 49) (q 50) (q 51) (q 52) ch wh, ra_I (q 49) cI 1600 y1, ra_J (q 50) cJ 64 y2, ra_J (q 51) cJ 9 y3, ra_J (q 52) cJ 10 y4, ra_I (q 47) cI 3 yf, ra_I (q 48) cI 3 yt, ro_rrrrrrrnn (q 11) 1 (q 10) (q 67) (q 68) (q 69) (q 70) (q 71) (q 72) gd gs, ra_I (q 67) cI 90 e1, ra_I (q 68) cI 9 e2, ra_I (q 69) cI 10 e3, ro_rrnnnin (q 7) 7 (q 33) (q 34) dy wn mo mu ke, ra_I (q 33) cI 9 fb, ra_I (q 34) cI 9 fw]) ⟨hx, hb, hml, hown, hts⟩ hl.1 (c_kx_isDigit l D cI cJ cC cZ cS o) w_3_202 w_3_203 w_1_1 w_3_204 hd_X11_isDigit_1 ⟨⟨(Nat.le_of_ble_eq_true rfl), (Nat.le_of_ble_eq_true rfl)⟩, (Nat.le_of_ble_eq_true rfl), (Nat.le_of_ble_eq_true rfl)⟩ hK hP hD hS hA [] [0, 1, 2, 3, 4, 5, 6, 7, 8, 9, 10, 11, 12, 13, 14, 15, 16, 17, 18, 19, 20, 21, 22] rfl rfl (by decide +kernel) (by decide +kernel) (by decide +kernel) rfl rfl (Nat.le_of_ble_eq_true rfl) dX11_told_9 (fun r_9 u H locs hw hP hD hS => ?_)
    obtain ⟨b_8, hb1_10, rfl, rfl⟩ := hw
    refine o_re (ws' := [ro_rrrrrrrrrrrrrrrirl x0 11 (q 0) (q 1) (q 2) (q 3) (q 4) (q 5) (q 6) (q 7) (q 8) (q 9) (q 10) (q 11) (q 12) (q 13) (q 14) hc (q 16) dr, ro_rrrrrr (q 10) 9 (q 61) (q 62) (q 63) (q 64) (q 65) (q 66), ra_N (q 61) cI 90 sa, ra_I (q 62) cI 900 ft, ra_I (q 63) cI 90 fa, ra_I (q 64) cI 90 fo, ra_J (q 65) cJ 90 fg, ra_I (q 66) cI 9 fk, ro_rrrrrnniin (q 5) 2 (q 44) (q 45) (q 46) (q 47) (q 48) dh mh uh rh nh, ro_rrrrnn (q 44) 0 (q 49) (q 50) (q 51) (q 52) ch wh, ra_I (q 49) cI 1600 y1, ra_J (q 50) cJ 64 y2, ra_J (q 51) cJ 9 y3, ra_J (q 52) cJ 10 y4, ra_I (q 47) cI 3 yf, ra_I (q 48) cI 3 yt, ro_rrrrrrrnn (q 11) 1 (q 10) (q 67) (q 68) (q 69) (q 70) (q 71) (q 72) gd gs, ra_I (q 67) cI 90 e1, ra_I (q 68) cI 9 e2, ra_I (q 69) cI 10 e3, ro_rrnnnin (q 7) 7 (q 33) (q 34) dy wn mo mu ke, ra_I (q 33) cI 9 fb, ra_I (q 34) cI 9 fw]) hP hD rfl (fun hP hD => ?_)
    refine lv_if_eq (tgt := 26) hx hb dX11_told_12 (by decide) (fun c_11 => ?_) (fun c_11 => ?_)
    · have c_11 : b_8 = 0 := (neq b_8 0 (by omega) (Nat.le_of_ble_eq_true rfl)).mp c_11
      refine lv_iconst (v := (-1)) hx hb dX11_told_26 (by decide) ?_
      exact sk_iret hx hb hr rfl hlocks hK hP hD hS (⟨sa, ft, fa, fo, fg, fk, y2, y3, e1, e2, e3, gd, gs, hsa, htq, hgd, hgs, tld_1 (rr_0 hb1_10 (by omega)), rfl⟩) (Nat.le_of_ble_eq_true rfl) (Nat.le_of_ble_eq_true rfl) dX11_told_27
    · have c_11 : ¬ (b_8 = 0) := fun h => c_11 ((neq b_8 0 (by omega) (Nat.le_of_ble_eq_true rfl)).mpr h)
      obtain ⟨kd_12, hkd_12, rfl⟩ := rr_1 hb1_10 (by omega)
      refine lv_aload_n hx hb dX11_told_15 rfl (lv_at hl 0 rfl) ?_
      refine sk_get (v := .ref (q 7)) (C := RX11) (T := TX11) (N := 18) hx hb hts inlX11 hown hK hP 0 rfl rfl 7 (Nat.le_of_ble_eq_true rfl) w_2_130 rfl dX11_told_16 ?_
      refine lv_iload_n hx hb dX11_told_19 rfl (lv_at hl 1 rfl) ?_
      refine sk_Vi (q0 := 0) (n := 1) (rest := []) (wr := fmR om_23_4 _) ⟨hx, hb, hml, hown, hts⟩ hl.1 (c_kState_isMute l D cI cJ cC cZ cS (q 7) (q 33) (q 34) dy mo (nI wn) mu (nI ke) kd_7 U (by omega) hU) w_3_194 w_3_195 w_3_196 w_1_10 w_3_197 hd_X7_isMute_1 ⟨⟨(Nat.le_of_ble_eq_true rfl), (Nat.le_of_ble_eq_true rfl)⟩, (Nat.le_of_ble_eq_true rfl), (Nat.le_of_ble_eq_true rfl)⟩ hK hP hD hS hA (fmT om_23_4 0) (fmF om_23_4 0) (fm_C1 rfl rfl) (fm_R rfl rfl) (fm_nT om_23_4 0) (fm_nF om_23_4 0) (fm_di om_23_4 0) rfl rfl rfl rfl (Nat.le_of_ble_eq_true rfl) dX11_told_20 (fun r_14 u H locs hw hP hD hS => ?_)
      refine exE hw (fun b_13 hw1 => anE hw1 (fun hb1_15 hw2 => anE hw2 (fun er_17 eu_16 => ?_)))
      clear hw hw1 hw2
      subst er_17
      refine o_mgE (ws' := [ro_rrrrrrrrrrrrrrrirl x0 11 (q 0) (q 1) (q 2) (q 3) (q 4) (q 5) (q 6) (q 7) (q 8) (q 9) (q 10) (q 11) (q 12) (q 13) (q 14) hc (q 16) dr, ro_rrrrrr (q 10) 9 (q 61) (q 62) (q 63) (q 64) (q 65) (q 66), ra_N (q 61) cI 90 sa, ra_I (q 62) cI 900 ft, ra_I (q 63) cI 90 fa, ra_I (q 64) cI 90 fo, ra_J (q 65) cJ 90 fg, ra_I (q 66) cI 9 fk, ro_rrrrrnniin (q 5) 2 (q 44) (q 45) (q 46) (q 47) (q 48) dh mh uh rh nh, ro_rrrrnn (q 44) 0 (q 49) (q 50) (q 51) (q 52) ch wh, ra_I (q 49) cI 1600 y1, ra_J (q 50) cJ 64 y2, ra_J (q 51) cJ 9 y3, ra_J (q 52) cJ 10 y4, ra_I (q 47) cI 3 yf, ra_I (q 48) cI 3 yt, ro_rrrrrrrnn (q 11) 1 (q 10) (q 67) (q 68) (q 69) (q 70) (q 71) (q 72) gd gs, ra_I (q 67) cI 90 e1, ra_I (q 68) cI 9 e2, ra_I (q 69) cI 10 e3, ro_rrnnnin (q 7) 7 (q 33) (q 34) dy wn mo mu ke, ra_I (q 33) cI 9 fb, ra_I (q 34) cI 9 fw]) eu_16 hP hD rfl (fun hP hD => ?_)
      refine lv_if_eq (tgt := 28) hx hb dX11_told_23 (by decide) (fun c_18 => ?_) (fun c_18 => ?_)
      · have c_18 : b_13 = 0 := (neq b_13 0 (by omega) (Nat.le_of_ble_eq_true rfl)).mp c_18
        refine lv_aload_n hx hb dX11_told_28 rfl (lv_at hl 0 rfl) ?_
        refine sk_get (v := .ref (q 10)) (C := RX11) (T := TX11) (N := 18) hx hb hts inlX11 hown hK hP 0 rfl rfl 10 (Nat.le_of_ble_eq_true rfl) w_2_133 rfl dX11_told_29 ?_
        refine lv_aload_n hx hb dX11_told_32 rfl (lv_at hl 0 rfl) ?_
        refine sk_get (v := .ref (q 5)) (C := RX11) (T := TX11) (N := 18) hx hb hts inlX11 hown hK hP 0 rfl rfl 5 (Nat.le_of_ble_eq_true rfl) w_2_128 rfl dX11_told_33 ?_
        refine lv_aload_n hx hb dX11_told_36 rfl (lv_at hl 0 rfl) ?_
        refine sk_get (v := .ref (q 7)) (C := RX11) (T := TX11) (N := 18) hx hb hts inlX11 hown hK hP 0 rfl rfl 7 (Nat.le_of_ble_eq_true rfl) w_2_130 rfl dX11_told_37 ?_
        refine sk_Vv (q0 := 0) (n := 2) (rest := []) (wr := fmR om_23_3fff87 _) ⟨hx, hb, hml, hown, hts⟩ hl.1 (c_kfit l D cI cJ cC cZ cS q dh mh uh rh nh ch wh y1 y2 y3 y4 yf yt sa ft fa fo fg fk (q 7) (q 33) (q 34) dy wn mo ke mu fb fw Ba We L hsa hch hwh hdy hmo hLk (hlq (by omega)).1 (hlq (by omega)).2 hfb hfw hB9 hW9 hwn (htq (by omega))) w_3_205 w_3_206 w_3_207 w_1_12 w_3_208 hd_X9_fit_2 ⟨⟨(Nat.le_of_ble_eq_true rfl), (Nat.le_of_ble_eq_true rfl)⟩, (Nat.le_of_ble_eq_true rfl), (Nat.le_of_ble_eq_true rfl)⟩ hK hP hD hS hA (fmT om_23_3fff87 0) (fmF om_23_3fff87 0) (fm_C1 rfl rfl) (fm_R rfl rfl) (fm_nT om_23_3fff87 0) (fm_nF om_23_3fff87 0) (fm_di om_23_3fff87 0) rfl rfl rfl rfl (Nat.le_of_ble_eq_true rfl) dX11_told_40 (fun u H locs hw hP hD hS => ?_)
        refine exE hw (fun sa2_19 hw1 => exE hw1 (fun ft2_20 hw2 => exE hw2 (fun fa2_21 hw3 => exE hw3 (fun fo2_22 hw4 => exE hw4 (fun fg2_23 hw5 => exE hw5 (fun fk2_24 hw6 => exE hw6 (fun z2_25 hw7 => exE hw7 (fun z3_26 hw8 => anE hw8 (fun hsa2_27 hw9 => anE hw9 (fun hti2_28 hw10 => anE hw10 (fun hrows_29 eu_30 => ?_)))))))))))
        clear hw hw1 hw2 hw3 hw4 hw5 hw6 hw7 hw8 hw9 hw10
        refine o_mgE (ws' := [ro_rrrrrrrrrrrrrrrirl x0 11 (q 0) (q 1) (q 2) (q 3) (q 4) (q 5) (q 6) (q 7) (q 8) (q 9) (q 10) (q 11) (q 12) (q 13) (q 14) hc (q 16) dr, ro_rrrrrr (q 10) 9 (q 61) (q 62) (q 63) (q 64) (q 65) (q 66), ra_N (q 61) cI 90 sa2_19, ra_I (q 62) cI 900 ft2_20, ra_I (q 63) cI 90 fa2_21, ra_I (q 64) cI 90 fo2_22, ra_J (q 65) cJ 90 fg2_23, ra_I (q 66) cI 9 fk2_24, ro_rrrrrnniin (q 5) 2 (q 44) (q 45) (q 46) (q 47) (q 48) dh mh uh rh nh, ro_rrrrnn (q 44) 0 (q 49) (q 50) (q 51) (q 52) ch wh, ra_I (q 49) cI 1600 y1, ra_J (q 50) cJ 64 z2_25, ra_J (q 51) cJ 9 z3_26, ra_J (q 52) cJ 10 y4, ra_I (q 47) cI 3 yf, ra_I (q 48) cI 3 yt, ro_rrrrrrrnn (q 11) 1 (q 10) (q 67) (q 68) (q 69) (q 70) (q 71) (q 72) gd gs, ra_I (q 67) cI 90 e1, ra_I (q 68) cI 9 e2, ra_I (q 69) cI 10 e3, ro_rrnnnin (q 7) 7 (q 33) (q 34) dy wn mo mu ke, ra_I (q 33) cI 9 fb, ra_I (q 34) cI 9 fw]) eu_30 hP hD rfl (fun hP hD => ?_)
        refine lv_aload_n hx hb dX11_told_43 rfl (lv_at hl 0 rfl) ?_
        refine sk_get (v := .ref (q 10)) (C := RX11) (T := TX11) (N := 18) hx hb hts inlX11 hown hK hP 0 rfl rfl 10 (Nat.le_of_ble_eq_true rfl) w_2_133 rfl dX11_told_44 ?_
        refine sk_get (v := .ref (q 61)) (C := RX9) (T := TX9) (N := 6) hx hb hts inlX9 hown hK hP 1 rfl rfl 0 (Nat.le_of_ble_eq_true rfl) w_2_64 rfl dX11_told_47 ?_
        refine lv_iload_n hx hb dX11_told_50 rfl (lv_at hl 1 rfl) ?_
        refine lv_bipush (v := 10) hx hb dX11_told_51 (by decide) ?_
        refine lv_imul hx hb dX11_told_53 ?_
        refine sk_top (nI (kd_7 * 10)) (nmul kd_7 10) ?_
        refine lv_iload_n hx hb dX11_told_54 rfl (lv_at hl 2 rfl) ?_
        refine lv_iadd hx hb dX11_told_55 ?_
        refine sk_top (nI (kd_7 * 10 + kd_12)) (nI_add (kd_7 * 10) kd_12) ?_
        refine va_iald hx hb hK.1 hP 2 0 rfl rfl (vin (kd_7 * 10 + kd_12) 90 (by omega) (Nat.le_of_ble_eq_true rfl)) dX11_told_56 ?_
        refine sk_top (nI (sa2_19 (kd_7 * 10 + kd_12))) (nrd sa2_19 (kd_7 * 10 + kd_12) (by omega)) ?_
        have hb_31 := hsa2_27 (kd_7 * 10 + kd_12)
        exact sk_iret hx hb hr rfl hlocks hK hP hD hS (⟨sa2_19, ft2_20, fa2_21, fo2_22, fg2_23, fk2_24, z2_25, z3_26, e1, e2, e3, gd, gs, hsa2_27, (fun _ => hti2_28), hgd, hgs, tld_3 hkd_7 hkd_12 (km_0 hb1_15 (by omega)) (congrArg nI ((hrows_29 kd_7 hkd_7).1 kd_12 hkd_12).1), rfl⟩) (Nat.le_of_ble_eq_true rfl) (Nat.le_of_ble_eq_true rfl) dX11_told_57
      · have c_18 : ¬ (b_13 = 0) := fun h => c_18 ((neq b_13 0 (by omega) (Nat.le_of_ble_eq_true rfl)).mpr h)
        refine lv_iconst (v := (-1)) hx hb dX11_told_26 (by decide) ?_
        exact sk_iret hx hb hr rfl hlocks hK hP hD hS (⟨sa, ft, fa, fo, fg, fk, y2, y3, e1, e2, e3, gd, gs, hsa, htq, hgd, hgs, tld_2 hdy hkd_7 (km_1 hb1_15 (by omega)), rfl⟩) (Nat.le_of_ble_eq_true rfl) (Nat.le_of_ble_eq_true rfl) dX11_told_27
theorem dg_X11_does_0_0 : bqL cX11_does 0 [(0, [42]), (1, [27]), (2, [182, 0, 170]), (5, [153, 0, 10]), (15, [2]), (16, [172]), (8, [28]), (9, [184, 0, 182]), (12, [154, 0, 5]), (17, [42]), (18, [180, 0, 76]), (21, [42]), (22, [180, 0, 49]), (25, [42]), (26, [180, 0, 59]), (29, [182, 0, 185]), (32, [27]), (33, [16, 10]), (35, [104]), (36, [28]), (37, [96]), (38, [54, 4]), (40, [42]), (41, [180, 0, 59]), (44, [27]), (45, [182, 0, 179]), (48, [153, 0, 14]), (62, [29]), (63, [184, 0, 182]), (66, [153, 0, 21]), (87, [2]), (88, [172]), (69, [42]), (70, [180, 0, 76]), (73, [180, 0, 195]), (76, [21, 4]), (78, [16, 10]), (80, [104]), (81, [29]), (82, [96])] = true := by decide +kernel
theorem dX11_does_0 : decode cX11_does 0 = .ok (.aload_n 0, 1) := q_aload_n0 (bat_get dg_X11_does_0_0 0 rfl rfl)
theorem dX11_does_1 : decode cX11_does 1 = .ok (.iload_n 1, 1) := q_iload_n1 (bat_get dg_X11_does_0_0 1 rfl rfl)
theorem dX11_does_2 : decode cX11_does 2 = .ok (.invokevirtual 170, 3) := q_invokevirtual (bat_get dg_X11_does_0_0 2 rfl rfl) rfl
theorem dX11_does_5 : decode cX11_does 5 = .ok (.ifCond .eq 10, 3) := q_ifCond_eq (bat_get dg_X11_does_0_0 3 rfl rfl) rfl
theorem dX11_does_15 : decode cX11_does 15 = .ok (.iconst (-1), 1) := q_iconstm1 (bat_get dg_X11_does_0_0 4 rfl rfl)
theorem dX11_does_16 : decode cX11_does 16 = .ok (.ireturn, 1) := q_ireturn (bat_get dg_X11_does_0_0 5 rfl rfl)
theorem dX11_does_8 : decode cX11_does 8 = .ok (.iload_n 2, 1) := q_iload_n2 (bat_get dg_X11_does_0_0 6 rfl rfl)
theorem dX11_does_9 : decode cX11_does 9 = .ok (.invokestatic 182, 3) := q_invokestatic (bat_get dg_X11_does_0_0 7 rfl rfl) rfl
theorem dX11_does_12 : decode cX11_does 12 = .ok (.ifCond .ne 5, 3) := q_ifCond_ne (bat_get dg_X11_does_0_0 8 rfl rfl) rfl
theorem dX11_does_17 : decode cX11_does 17 = .ok (.aload_n 0, 1) := q_aload_n0 (bat_get dg_X11_does_0_0 9 rfl rfl)
theorem dX11_does_18 : decode cX11_does 18 = .ok (.getfield 76, 3) := q_getfield (bat_get dg_X11_does_0_0 10 rfl rfl) rfl
theorem dX11_does_21 : decode cX11_does 21 = .ok (.aload_n 0, 1) := q_aload_n0 (bat_get dg_X11_does_0_0 11 rfl rfl)
theorem dX11_does_22 : decode cX11_does 22 = .ok (.getfield 49, 3) := q_getfield (bat_get dg_X11_does_0_0 12 rfl rfl) rfl
theorem dX11_does_25 : decode cX11_does 25 = .ok (.aload_n 0, 1) := q_aload_n0 (bat_get dg_X11_does_0_0 13 rfl rfl)
theorem dX11_does_26 : decode cX11_does 26 = .ok (.getfield 59, 3) := q_getfield (bat_get dg_X11_does_0_0 14 rfl rfl) rfl
theorem dX11_does_29 : decode cX11_does 29 = .ok (.invokevirtual 185, 3) := q_invokevirtual (bat_get dg_X11_does_0_0 15 rfl rfl) rfl
theorem dX11_does_32 : decode cX11_does 32 = .ok (.iload_n 1, 1) := q_iload_n1 (bat_get dg_X11_does_0_0 16 rfl rfl)
theorem dX11_does_33 : decode cX11_does 33 = .ok (.bipush 10, 2) := q_bipush (bat_get dg_X11_does_0_0 17 rfl rfl) rfl
theorem dX11_does_35 : decode cX11_does 35 = .ok (.imul, 1) := q_imul (bat_get dg_X11_does_0_0 18 rfl rfl)
theorem dX11_does_36 : decode cX11_does 36 = .ok (.iload_n 2, 1) := q_iload_n2 (bat_get dg_X11_does_0_0 19 rfl rfl)
theorem dX11_does_37 : decode cX11_does 37 = .ok (.iadd, 1) := q_iadd (bat_get dg_X11_does_0_0 20 rfl rfl)
theorem dX11_does_38 : decode cX11_does 38 = .ok (.istore 4, 2) := q_istore (bat_get dg_X11_does_0_0 21 rfl rfl)
theorem dX11_does_40 : decode cX11_does 40 = .ok (.aload_n 0, 1) := q_aload_n0 (bat_get dg_X11_does_0_0 22 rfl rfl)
theorem dX11_does_41 : decode cX11_does 41 = .ok (.getfield 59, 3) := q_getfield (bat_get dg_X11_does_0_0 23 rfl rfl) rfl
theorem dX11_does_44 : decode cX11_does 44 = .ok (.iload_n 1, 1) := q_iload_n1 (bat_get dg_X11_does_0_0 24 rfl rfl)
theorem dX11_does_45 : decode cX11_does 45 = .ok (.invokevirtual 179, 3) := q_invokevirtual (bat_get dg_X11_does_0_0 25 rfl rfl) rfl
theorem dX11_does_48 : decode cX11_does 48 = .ok (.ifCond .eq 14, 3) := q_ifCond_eq (bat_get dg_X11_does_0_0 26 rfl rfl) rfl
theorem dX11_does_62 : decode cX11_does 62 = .ok (.iload_n 3, 1) := q_iload_n3 (bat_get dg_X11_does_0_0 27 rfl rfl)
theorem dX11_does_63 : decode cX11_does 63 = .ok (.invokestatic 182, 3) := q_invokestatic (bat_get dg_X11_does_0_0 28 rfl rfl) rfl
theorem dX11_does_66 : decode cX11_does 66 = .ok (.ifCond .eq 21, 3) := q_ifCond_eq (bat_get dg_X11_does_0_0 29 rfl rfl) rfl
theorem dX11_does_87 : decode cX11_does 87 = .ok (.iconst (-1), 1) := q_iconstm1 (bat_get dg_X11_does_0_0 30 rfl rfl)
theorem dX11_does_88 : decode cX11_does 88 = .ok (.ireturn, 1) := q_ireturn (bat_get dg_X11_does_0_0 31 rfl rfl)
theorem dX11_does_69 : decode cX11_does 69 = .ok (.aload_n 0, 1) := q_aload_n0 (bat_get dg_X11_does_0_0 32 rfl rfl)
theorem dX11_does_70 : decode cX11_does 70 = .ok (.getfield 76, 3) := q_getfield (bat_get dg_X11_does_0_0 33 rfl rfl) rfl
theorem dX11_does_73 : decode cX11_does 73 = .ok (.getfield 195, 3) := q_getfield (bat_get dg_X11_does_0_0 34 rfl rfl) rfl
theorem dX11_does_76 : decode cX11_does 76 = .ok (.iload 4, 2) := q_iload (bat_get dg_X11_does_0_0 35 rfl rfl)
theorem dX11_does_78 : decode cX11_does 78 = .ok (.bipush 10, 2) := q_bipush (bat_get dg_X11_does_0_0 36 rfl rfl) rfl
theorem dX11_does_80 : decode cX11_does 80 = .ok (.imul, 1) := q_imul (bat_get dg_X11_does_0_0 37 rfl rfl)
theorem dX11_does_81 : decode cX11_does 81 = .ok (.iload_n 3, 1) := q_iload_n3 (bat_get dg_X11_does_0_0 38 rfl rfl)
theorem dX11_does_82 : decode cX11_does 82 = .ok (.iadd, 1) := q_iadd (bat_get dg_X11_does_0_0 39 rfl rfl)
theorem dg_X11_does_51_83 : bqL cX11_does 51 [(32, [46]), (33, [167, 0, 4]), (0, [42]), (1, [180, 0, 76]), (4, [180, 0, 192]), (7, [21, 4]), (9, [46]), (10, [172])] = true := by decide +kernel
theorem dX11_does_83 : decode cX11_does 83 = .ok (.iaload, 1) := q_iaload (bat_get dg_X11_does_51_83 0 rfl rfl)
theorem dX11_does_84 : decode cX11_does 84 = .ok (.goto 4, 3) := q_goto (bat_get dg_X11_does_51_83 1 rfl rfl) rfl
theorem dX11_does_51 : decode cX11_does 51 = .ok (.aload_n 0, 1) := q_aload_n0 (bat_get dg_X11_does_51_83 2 rfl rfl)
theorem dX11_does_52 : decode cX11_does 52 = .ok (.getfield 76, 3) := q_getfield (bat_get dg_X11_does_51_83 3 rfl rfl) rfl
theorem dX11_does_55 : decode cX11_does 55 = .ok (.getfield 192, 3) := q_getfield (bat_get dg_X11_does_51_83 4 rfl rfl) rfl
theorem dX11_does_58 : decode cX11_does 58 = .ok (.iload 4, 2) := q_iload (bat_get dg_X11_does_51_83 5 rfl rfl)
theorem dX11_does_60 : decode cX11_does 60 = .ok (.iaload, 1) := q_iaload (bat_get dg_X11_does_51_83 6 rfl rfl)
theorem dX11_does_61 : decode cX11_does 61 = .ok (.ireturn, 1) := q_ireturn (bat_get dg_X11_does_51_83 7 rfl rfl)
theorem w_2_66 : (Cond.fieldLink RX11 195 "SameKeeper$Table" "turned" "[I") ∈ wsL_law := sk_mem (ck_2 _ (List.mem_of_getElem? (i := 66) rfl)) rfl
theorem w_2_69 : (Cond.fieldLink RX11 192 "SameKeeper$Table" "alone" "[I") ∈ wsL_law := sk_mem (ck_2 _ (List.mem_of_getElem? (i := 69) rfl)) rfl
theorem w_4_24 : (Cond.code yX11_does cX11_does 5 (some .int)) ∈ wsL_law := sk_mem (ck_4 _ (List.mem_of_getElem? (i := 24) rfl)) rfl
set_option maxHeartbeats 4000000 in
set_option maxRecDepth 100000 in
theorem c_ky_does (l : Launch) (D : va_G) (cI cJ cC cZ cS : ClassId) (x0 : Nat) (q : Nat → Nat) (hc : Int32) (dr : Int64) (sa : Nat → Nat) (ft : Nat → Int32) (fa : Nat → Int32) (fo : Nat → Int32) (fg : Nat → Int64) (fk : Nat → Int32) (dh : Nat) (mh : Nat) (uh : Int32) (rh : Int32) (nh : Nat) (ch : Nat) (wh : Nat) (y1 : Nat → Int32) (y2 : Nat → Int64) (y3 : Nat → Int64) (y4 : Nat → Int64) (yf : Nat → Int32) (yt : Nat → Int32) (gd : Nat) (gs : Nat) (e1 : Nat → Int32) (e2 : Nat → Int32) (e3 : Nat → Int32) (dy : Nat) (wn : Nat) (mo : Nat) (ke : Nat) (mu : Int32) (fb : Nat → Int32) (fw : Nat → Int32) (Ba : Nat → Nat) (We : Nat → Nat) (L : LkS) (U : Nat → Bool) (d : Int32) (o : Int32) (w : Int32) (hsa : ∀ j, sa j ≤ 9) (hch : ch ≤ 1600) (hwh : wh ≤ 1) (hdy : dy ≤ 9) (hmo : mo ≤ 9) (hgd : gd ≤ 9) (hgs : gs ≤ 9) (hLk : kcLk L) (hlq : 1 ≤ dy → cdK (lK (lkF L)) ch wh y1 ∧ ∀ v, v < 3 → sgO (lG (lkF L) v) (yf v) (yt v)) (htq : 1 ≤ dy → kcTI L sa ft fa fo fg fk) (hfb : ∀ j, j < 9 → fb j = nI (Ba j)) (hfw : ∀ j, j < 9 → fw j = nI (We j)) (hB9 : ∀ j, Ba j ≤ 9) (hW9 : ∀ j, We j ≤ 9) (hwn : wn ≤ 999) (hU : muO U mu) : skM l yX11_does cX11_does 5 (some .int) 5 128 0 0 D (skT cI cJ cC cZ cS) [.ref x0, .int d, .int o, .int w] [ro_rrrrrrrrrrrrrrrirl x0 11 (q 0) (q 1) (q 2) (q 3) (q 4) (q 5) (q 6) (q 7) (q 8) (q 9) (q 10) (q 11) (q 12) (q 13) (q 14) hc (q 16) dr, ro_rrrrrr (q 10) 9 (q 61) (q 62) (q 63) (q 64) (q 65) (q 66), ra_N (q 61) cI 90 sa, ra_I (q 62) cI 900 ft, ra_I (q 63) cI 90 fa, ra_I (q 64) cI 90 fo, ra_J (q 65) cJ 90 fg, ra_I (q 66) cI 9 fk, ro_rrrrrnniin (q 5) 2 (q 44) (q 45) (q 46) (q 47) (q 48) dh mh uh rh nh, ro_rrrrnn (q 44) 0 (q 49) (q 50) (q 51) (q 52) ch wh, ra_I (q 49) cI 1600 y1, ra_J (q 50) cJ 64 y2, ra_J (q 51) cJ 9 y3, ra_J (q 52) cJ 10 y4, ra_I (q 47) cI 3 yf, ra_I (q 48) cI 3 yt, ro_rrrrrrrnn (q 11) 1 (q 10) (q 67) (q 68) (q 69) (q 70) (q 71) (q 72) gd gs, ra_I (q 67) cI 90 e1, ra_I (q 68) cI 9 e2, ra_I (q 69) cI 10 e3, ro_rrnnnin (q 7) 7 (q 33) (q 34) dy wn mo mu ke, ra_I (q 33) cI 9 fb, ra_I (q 34) cI 9 fw] (skI D (skT cI cJ cC cZ cS) (fun (r : Int32) (u : va_W) => ∃ (sa2 : Nat → Nat), ∃ (ft2 : Nat → Int32), ∃ (fa2 : Nat → Int32), ∃ (fo2 : Nat → Int32), ∃ (fg2 : Nat → Int64), ∃ (fk2 : Nat → Int32), ∃ (z2 : Nat → Int64), ∃ (z3 : Nat → Int64), ∃ (g1 : Nat → Int32), ∃ (g2 : Nat → Int32), ∃ (g3 : Nat → Int32), ∃ (gd2 : Nat), ∃ (gs2 : Nat), (∀ j, sa2 j ≤ 9) ∧ (1 ≤ dy → kcTI L sa2 ft2 fa2 fo2 fg2 fk2) ∧ gd2 ≤ 9 ∧ gs2 ≤ 9 ∧ u = [ro_rrrrrrrrrrrrrrrirl x0 11 (q 0) (q 1) (q 2) (q 3) (q 4) (q 5) (q 6) (q 7) (q 8) (q 9) (q 10) (q 11) (q 12) (q 13) (q 14) hc (q 16) dr, ro_rrrrrr (q 10) 9 (q 61) (q 62) (q 63) (q 64) (q 65) (q 66), ra_N (q 61) cI 90 sa2, ra_I (q 62) cI 900 ft2, ra_I (q 63) cI 90 fa2, ra_I (q 64) cI 90 fo2, ra_J (q 65) cJ 90 fg2, ra_I (q 66) cI 9 fk2, ro_rrrrrnniin (q 5) 2 (q 44) (q 45) (q 46) (q 47) (q 48) dh mh uh rh nh, ro_rrrrnn (q 44) 0 (q 49) (q 50) (q 51) (q 52) ch wh, ra_I (q 49) cI 1600 y1, ra_J (q 50) cJ 64 z2, ra_J (q 51) cJ 9 z3, ra_J (q 52) cJ 10 y4, ra_I (q 47) cI 3 yf, ra_I (q 48) cI 3 yt, ro_rrrrrrrnn (q 11) 1 (q 10) (q 67) (q 68) (q 69) (q 70) (q 71) (q 72) gd2 gs2, ra_I (q 67) cI 90 g1, ra_I (q 68) cI 9 g2, ra_I (q 69) cI 10 g3, ro_rrnnnin (q 7) 7 (q 33) (q 34) dy wn mo mu ke, ra_I (q 33) cI 9 fb, ra_I (q 34) cI 9 fw])) := by
  refine skM_of pf_X11_does (Nat.le_of_ble_eq_true rfl) ?_
  intro p e s m below meth c A ls E hP hD hl
  refine skE_el E (fun hx hb hr hml hlocks hin hown hts hK hA => ?_)
  have hown : s.vm.findClass RX11 = some m.cls := hown
  have hS : va_S A s.heap s.heap [] := va_S.rf
  have hl : lv_has ls 5 [(0, .ref x0), (1, .int d), (2, .int o), (3, .int w)] := hl
  refine lv_aload_n hx hb dX11_does_0 rfl (lv_at hl 0 rfl) ?_
  refine lv_iload_n hx hb dX11_does_1 rfl (lv_at hl 1 rfl) ?_
  refine sk_Vi (q0 := 0) (n := 1) (rest := []) (wr := fmR om_23_400004 _) ⟨hx, hb, hml, hown, hts⟩ hl.1 (c_kx_isDay l D cI cJ cC cZ cS x0 q hc dr dy wn mo ke mu fb fw d hdy) w_3_190 w_3_192 w_0_14 w_1_1 w_3_193 hd_X11_isDay_1 ⟨⟨(Nat.le_of_ble_eq_true rfl), (Nat.le_of_ble_eq_true rfl)⟩, (Nat.le_of_ble_eq_true rfl), (Nat.le_of_ble_eq_true rfl)⟩ hK hP hD hS hA (fmT om_23_400004 0) (fmF om_23_400004 0) (fm_C1 rfl rfl) (fm_R rfl rfl) (fm_nT om_23_400004 0) (fm_nF om_23_400004 0) (fm_di om_23_400004 0) rfl rfl rfl rfl (Nat.le_of_ble_eq_true rfl) dX11_does_2 (fun r_2 u H locs hw hP hD hS => ?_)
  refine exE hw (fun b_1 hw1 => anE hw1 (fun hb1_3 hw2 => anE hw2 (fun er_5 eu_4 => ?_)))
  clear hw hw1 hw2
  subst er_5
  refine o_mgE (ws' := [ro_rrrrrrrrrrrrrrrirl x0 11 (q 0) (q 1) (q 2) (q 3) (q 4) (q 5) (q 6) (q 7) (q 8) (q 9) (q 10) (q 11) (q 12) (q 13) (q 14) hc (q 16) dr, ro_rrrrrr (q 10) 9 (q 61) (q 62) (q 63) (q 64) (q 65) (q 66), ra_N (q 61) cI 90 sa, ra_I (q 62) cI 900 ft, ra_I (q 63) cI 90 fa, ra_I (q 64) cI 90 fo, ra_J (q 65) cJ 90 fg, ra_I (q 66) cI 9 fk, ro_rrrrrnniin (q 5) 2 (q 44) (q 45) (q 46) (q 47) (q 48) dh mh uh rh nh, ro_rrrrnn (q 44) 0 (q 49) (q 50) (q 51) (q 52) ch wh, ra_I (q 49) cI 1600 y1, ra_J (q 50) cJ 64 y2, ra_J (q 51) cJ 9 y3, ra_J (q 52) cJ 10 y4, ra_I (q 47) cI 3 yf, ra_I (q 48) cI 3 yt, ro_rrrrrrrnn (q 11) 1 (q 10) (q 67) (q 68) (q 69) (q 70) (q 71) (q 72) gd gs, ra_I (q 67) cI 90 e1, ra_I (q 68) cI 9 e2, ra_I (q 69) cI 10 e3, ro_rrnnnin (q 7) 7 (q 33) (q 34) dy wn mo mu ke, ra_I (q 33) cI 9 fb, ra_I (q 34) cI 9 fw]) eu_4 hP hD rfl (fun hP hD => ?_)
  refine lv_if_eq (tgt := 15) hx hb dX11_does_5 (by decide) (fun c_6 => ?_) (fun c_6 => ?_)
  · have c_6 : b_1 = 0 := (neq b_1 0 (by omega) (Nat.le_of_ble_eq_true rfl)).mp c_6
    refine lv_iconst (v := (-1)) hx hb dX11_does_15 (by decide) ?_
    exact sk_iret hx hb hr rfl hlocks hK hP hD hS (⟨sa, ft, fa, fo, fg, fk, y2, y3, e1, e2, e3, gd, gs, hsa, htq, hgd, hgs, rfl⟩) (Nat.le_of_ble_eq_true rfl) (Nat.le_of_ble_eq_true rfl) dX11_does_16
  · have c_6 : ¬ (b_1 = 0) := fun h => c_6 ((neq b_1 0 (by omega) (Nat.le_of_ble_eq_true rfl)).mpr h)
    obtain ⟨kd_7, hkd_7, rfl⟩ := rr_1 hb1_3 (by omega)
    refine lv_iload_n hx hb dX11_does_8 rfl (lv_at hl 2 rfl) ?_
    refine sk_Si (n := 1) (rest := []) (wr := [ro_rrrrrrrrrrrrrrrirl x0 11 (q 0) (q 1) (q 2) (q 3) (q 4) (q 5) (q 6) (q 7) (q 8) (q 9) (q 10) (q 11) (q 12) (q 13) (q 14) hc (q 16) dr, ro_rrrrrr (q 10) 9 (q 61) (q 62) (q 63) (q 64) (q 65) (q 66), ra_N (q 61) cI 90 sa, ra_I (q 62) cI 900 ft, ra_I (q 63) cI 90 fa, ra_I (q 64) cI 90 fo, ra_J (q 65) cJ 90 fg, ra_I (q 66) cI 9 fk, ro_rrrrrnniin (q 5) 2 (q 44) (q 45) (q 46) (q 47) (q 48) dh mh uh rh nh, ro_rrrrnn (q 44) 0 (q 49) (q 50) (q 51) (q 52) ch wh, ra_I (q 49) cI 1600 y1, ra_J (q 50) cJ 64 y2, ra_J (q 51) cJ 9 y3, ra_J (q 52) cJ 10 y4, ra_I (q 47) cI 3 yf, ra_I (q 48) cI 3 yt, ro_rrrrrrrnn (q 11) 1 (q 10) (q 67) (q 68) (q 69) (q 70) (q 71) (q 72) gd gs, ra_I (q 67) cI 90 e1, ra_I (q 68) cI 9 e2, ra_I (q 69) cI 10 e3, ro_rrnnnin (q 7) 7 (q 33) (q 34) dy wn mo mu ke, ra_I (q 33) cI 9 fb, ra_I (q 34) cI 9 fw]) ⟨hx, hb, hml, hown, hts⟩ hl.1 (c_kx_isDigit l D cI cJ cC cZ cS o) w_3_202 w_3_203 w_1_1 w_3_204 hd_X11_isDigit_1 ⟨⟨(Nat.le_of_ble_eq_true rfl), (Nat.le_of_ble_eq_true rfl)⟩, (Nat.le_of_ble_eq_true rfl), (Nat.le_of_ble_eq_true rfl)⟩ hK hP hD hS hA [] [0, 1, 2, 3, 4, 5, 6, 7, 8, 9, 10, 11, 12, 13, 14, 15, 16, 17, 18, 19, 20, 21, 22] rfl rfl (by decide +kernel) (by decide +kernel) (by decide +kernel) rfl rfl (Nat.le_of_ble_eq_true rfl) dX11_does_9 (fun r_9 u H locs hw hP hD hS => ?_)
    obtain ⟨b_8, hb1_10, rfl, rfl⟩ := hw
    refine o_re (ws' := [ro_rrrrrrrrrrrrrrrirl x0 11 (q 0) (q 1) (q 2) (q 3) (q 4) (q 5) (q 6) (q 7) (q 8) (q 9) (q 10) (q 11) (q 12) (q 13) (q 14) hc (q 16) dr, ro_rrrrrr (q 10) 9 (q 61) (q 62) (q 63) (q 64) (q 65) (q 66), ra_N (q 61) cI 90 sa, ra_I (q 62) cI 900 ft, ra_I (q 63) cI 90 fa, ra_I (q 64) cI 90 fo, ra_J (q 65) cJ 90 fg, ra_I (q 66) cI 9 fk, ro_rrrrrnniin (q 5) 2 (q 44) (q 45) (q 46) (q 47) (q 48) dh mh uh rh nh, ro_rrrrnn (q 44) 0 (q 49) (q 50) (q 51) (q 52) ch wh, ra_I (q 49) cI 1600 y1, ra_J (q 50) cJ 64 y2, ra_J (q 51) cJ 9 y3, ra_J (q 52) cJ 10 y4, ra_I (q 47) cI 3 yf, ra_I (q 48) cI 3 yt, ro_rrrrrrrnn (q 11) 1 (q 10) (q 67) (q 68) (q 69) (q 70) (q 71) (q 72) gd gs, ra_I (q 67) cI 90 e1, ra_I (q 68) cI 9 e2, ra_I (q 69) cI 10 e3, ro_rrnnnin (q 7) 7 (q 33) (q 34) dy wn mo mu ke, ra_I (q 33) cI 9 fb, ra_I (q 34) cI 9 fw]) hP hD rfl (fun hP hD => ?_)
    refine lv_if_ne (tgt := 17) hx hb dX11_does_12 (by decide) (fun c_11 => ?_) (fun c_11 => ?_)
    · have c_11 : ¬ (b_8 = 0) := fun h => c_11 ((neq b_8 0 (by omega) (Nat.le_of_ble_eq_true rfl)).mpr h)
      obtain ⟨kd_12, hkd_12, rfl⟩ := rr_1 hb1_10 (by omega)
      refine lv_aload_n hx hb dX11_does_17 rfl (lv_at hl 0 rfl) ?_
      refine sk_get (v := .ref (q 10)) (C := RX11) (T := TX11) (N := 18) hx hb hts inlX11 hown hK hP 0 rfl rfl 10 (Nat.le_of_ble_eq_true rfl) w_2_133 rfl dX11_does_18 ?_
      refine lv_aload_n hx hb dX11_does_21 rfl (lv_at hl 0 rfl) ?_
      refine sk_get (v := .ref (q 5)) (C := RX11) (T := TX11) (N := 18) hx hb hts inlX11 hown hK hP 0 rfl rfl 5 (Nat.le_of_ble_eq_true rfl) w_2_128 rfl dX11_does_22 ?_
      refine lv_aload_n hx hb dX11_does_25 rfl (lv_at hl 0 rfl) ?_
      refine sk_get (v := .ref (q 7)) (C := RX11) (T := TX11) (N := 18) hx hb hts inlX11 hown hK hP 0 rfl rfl 7 (Nat.le_of_ble_eq_true rfl) w_2_130 rfl dX11_does_26 ?_
      refine sk_Vv (q0 := 0) (n := 2) (rest := []) (wr := fmR om_23_3fff87 _) ⟨hx, hb, hml, hown, hts⟩ hl.1 (c_kfit l D cI cJ cC cZ cS q dh mh uh rh nh ch wh y1 y2 y3 y4 yf yt sa ft fa fo fg fk (q 7) (q 33) (q 34) dy wn mo ke mu fb fw Ba We L hsa hch hwh hdy hmo hLk (hlq (by omega)).1 (hlq (by omega)).2 hfb hfw hB9 hW9 hwn (htq (by omega))) w_3_205 w_3_206 w_3_207 w_1_12 w_3_208 hd_X9_fit_2 ⟨⟨(Nat.le_of_ble_eq_true rfl), (Nat.le_of_ble_eq_true rfl)⟩, (Nat.le_of_ble_eq_true rfl), (Nat.le_of_ble_eq_true rfl)⟩ hK hP hD hS hA (fmT om_23_3fff87 0) (fmF om_23_3fff87 0) (fm_C1 rfl rfl) (fm_R rfl rfl) (fm_nT om_23_3fff87 0) (fm_nF om_23_3fff87 0) (fm_di om_23_3fff87 0) rfl rfl rfl rfl (Nat.le_of_ble_eq_true rfl) dX11_does_29 (fun u H locs hw hP hD hS => ?_)
      refine exE hw (fun sa2_13 hw1 => exE hw1 (fun ft2_14 hw2 => exE hw2 (fun fa2_15 hw3 => exE hw3 (fun fo2_16 hw4 => exE hw4 (fun fg2_17 hw5 => exE hw5 (fun fk2_18 hw6 => exE hw6 (fun z2_19 hw7 => exE hw7 (fun z3_20 hw8 => anE hw8 (fun hsa2_21 hw9 => anE hw9 (fun hti2_22 hw10 => anE hw10 (fun hrows_23 eu_24 => ?_)))))))))))
      clear hw hw1 hw2 hw3 hw4 hw5 hw6 hw7 hw8 hw9 hw10
      refine o_mgE (ws' := [ro_rrrrrrrrrrrrrrrirl x0 11 (q 0) (q 1) (q 2) (q 3) (q 4) (q 5) (q 6) (q 7) (q 8) (q 9) (q 10) (q 11) (q 12) (q 13) (q 14) hc (q 16) dr, ro_rrrrrr (q 10) 9 (q 61) (q 62) (q 63) (q 64) (q 65) (q 66), ra_N (q 61) cI 90 sa2_13, ra_I (q 62) cI 900 ft2_14, ra_I (q 63) cI 90 fa2_15, ra_I (q 64) cI 90 fo2_16, ra_J (q 65) cJ 90 fg2_17, ra_I (q 66) cI 9 fk2_18, ro_rrrrrnniin (q 5) 2 (q 44) (q 45) (q 46) (q 47) (q 48) dh mh uh rh nh, ro_rrrrnn (q 44) 0 (q 49) (q 50) (q 51) (q 52) ch wh, ra_I (q 49) cI 1600 y1, ra_J (q 50) cJ 64 z2_19, ra_J (q 51) cJ 9 z3_20, ra_J (q 52) cJ 10 y4, ra_I (q 47) cI 3 yf, ra_I (q 48) cI 3 yt, ro_rrrrrrrnn (q 11) 1 (q 10) (q 67) (q 68) (q 69) (q 70) (q 71) (q 72) gd gs, ra_I (q 67) cI 90 e1, ra_I (q 68) cI 9 e2, ra_I (q 69) cI 10 e3, ro_rrnnnin (q 7) 7 (q 33) (q 34) dy wn mo mu ke, ra_I (q 33) cI 9 fb, ra_I (q 34) cI 9 fw]) eu_24 hP hD rfl (fun hP hD => ?_)
      refine lv_iload_n hx hb dX11_does_32 rfl (lv_at hl 1 rfl) ?_
      refine lv_bipush (v := 10) hx hb dX11_does_33 (by decide) ?_
      refine lv_imul hx hb dX11_does_35 ?_
      refine sk_top (nI (kd_7 * 10)) (nmul kd_7 10) ?_
      refine lv_iload_n hx hb dX11_does_36 rfl (lv_at hl 2 rfl) ?_
      refine lv_iadd hx hb dX11_does_37 ?_
      refine sk_top (nI (kd_7 * 10 + kd_12)) (nI_add (kd_7 * 10) kd_12) ?_
      refine lv_istore (lv' := [(4, .int (nI (kd_7 * 10 + kd_12))), (0, .ref x0), (1, .int (nI kd_7)), (2, .int (nI kd_12)), (3, .int w)]) hx hb dX11_does_38 hl (by decide) rfl (fun ls hl => ?_)
      refine lv_aload_n hx hb dX11_does_40 rfl (lv_at hl 1 rfl) ?_
      refine sk_get (v := .ref (q 7)) (C := RX11) (T := TX11) (N := 18) hx hb hts inlX11 hown hK hP 0 rfl rfl 7 (Nat.le_of_ble_eq_true rfl) w_2_130 rfl dX11_does_41 ?_
      refine lv_iload_n hx hb dX11_does_44 rfl (lv_at hl 2 rfl) ?_
      refine sk_Vi (q0 := 0) (n := 1) (rest := []) (wr := fmR om_23_4 _) ⟨hx, hb, hml, hown, hts⟩ hl.1 (c_kState_isMute l D cI cJ cC cZ cS (q 7) (q 33) (q 34) dy mo (nI wn) mu (nI ke) kd_7 U (by omega) hU) w_3_194 w_3_195 w_3_196 w_1_10 w_3_197 hd_X7_isMute_1 ⟨⟨(Nat.le_of_ble_eq_true rfl), (Nat.le_of_ble_eq_true rfl)⟩, (Nat.le_of_ble_eq_true rfl), (Nat.le_of_ble_eq_true rfl)⟩ hK hP hD hS hA (fmT om_23_4 0) (fmF om_23_4 0) (fm_C1 rfl rfl) (fm_R rfl rfl) (fm_nT om_23_4 0) (fm_nF om_23_4 0) (fm_di om_23_4 0) rfl rfl rfl rfl (Nat.le_of_ble_eq_true rfl) dX11_does_45 (fun r_26 u H locs hw hP hD hS => ?_)
      refine exE hw (fun b_25 hw1 => anE hw1 (fun hb1_27 hw2 => anE hw2 (fun er_29 eu_28 => ?_)))
      clear hw hw1 hw2
      subst er_29
      refine o_mgE (ws' := [ro_rrrrrrrrrrrrrrrirl x0 11 (q 0) (q 1) (q 2) (q 3) (q 4) (q 5) (q 6) (q 7) (q 8) (q 9) (q 10) (q 11) (q 12) (q 13) (q 14) hc (q 16) dr, ro_rrrrrr (q 10) 9 (q 61) (q 62) (q 63) (q 64) (q 65) (q 66), ra_N (q 61) cI 90 sa2_13, ra_I (q 62) cI 900 ft2_14, ra_I (q 63) cI 90 fa2_15, ra_I (q 64) cI 90 fo2_16, ra_J (q 65) cJ 90 fg2_17, ra_I (q 66) cI 9 fk2_18, ro_rrrrrnniin (q 5) 2 (q 44) (q 45) (q 46) (q 47) (q 48) dh mh uh rh nh, ro_rrrrnn (q 44) 0 (q 49) (q 50) (q 51) (q 52) ch wh, ra_I (q 49) cI 1600 y1, ra_J (q 50) cJ 64 z2_19, ra_J (q 51) cJ 9 z3_20, ra_J (q 52) cJ 10 y4, ra_I (q 47) cI 3 yf, ra_I (q 48) cI 3 yt, ro_rrrrrrrnn (q 11) 1 (q 10) (q 67) (q 68) (q 69) (q 70) (q 71) (q 72) gd gs, ra_I (q 67) cI 90 e1, ra_I (q 68) cI 9 e2, ra_I (q 69) cI 10 e3, ro_rrnnnin (q 7) 7 (q 33) (q 34) dy wn mo mu ke, ra_I (q 33) cI 9 fb, ra_I (q 34) cI 9 fw]) eu_28 hP hD rfl (fun hP hD => ?_)
      refine lv_if_eq (tgt := 62) hx hb dX11_does_48 (by decide) (fun c_30 => ?_) (fun c_30 => ?_)
      · have c_30 : b_25 = 0 := (neq b_25 0 (by omega) (Nat.le_of_ble_eq_true rfl)).mp c_30
        refine lv_iload_n hx hb dX11_does_62 rfl (lv_at hl 4 rfl) ?_
        refine sk_Si (n := 1) (rest := []) (wr := [ro_rrrrrrrrrrrrrrrirl x0 11 (q 0) (q 1) (q 2) (q 3) (q 4) (q 5) (q 6) (q 7) (q 8) (q 9) (q 10) (q 11) (q 12) (q 13) (q 14) hc (q 16) dr, ro_rrrrrr (q 10) 9 (q 61) (q 62) (q 63) (q 64) (q 65) (q 66), ra_N (q 61) cI 90 sa2_13, ra_I (q 62) cI 900 ft2_14, ra_I (q 63) cI 90 fa2_15, ra_I (q 64) cI 90 fo2_16, ra_J (q 65) cJ 90 fg2_17, ra_I (q 66) cI 9 fk2_18, ro_rrrrrnniin (q 5) 2 (q 44) (q 45) (q 46) (q 47) (q 48) dh mh uh rh nh, ro_rrrrnn (q 44) 0 (q 49) (q 50) (q 51) (q 52) ch wh, ra_I (q 49) cI 1600 y1, ra_J (q 50) cJ 64 z2_19, ra_J (q 51) cJ 9 z3_20, ra_J (q 52) cJ 10 y4, ra_I (q 47) cI 3 yf, ra_I (q 48) cI 3 yt, ro_rrrrrrrnn (q 11) 1 (q 10) (q 67) (q 68) (q 69) (q 70) (q 71) (q 72) gd gs, ra_I (q 67) cI 90 e1, ra_I (q 68) cI 9 e2, ra_I (q 69) cI 10 e3, ro_rrnnnin (q 7) 7 (q 33) (q 34) dy wn mo mu ke, ra_I (q 33) cI 9 fb, ra_I (q 34) cI 9 fw]) ⟨hx, hb, hml, hown, hts⟩ hl.1 (c_kx_isDigit l D cI cJ cC cZ cS w) w_3_202 w_3_203 w_1_1 w_3_204 hd_X11_isDigit_1 ⟨⟨(Nat.le_of_ble_eq_true rfl), (Nat.le_of_ble_eq_true rfl)⟩, (Nat.le_of_ble_eq_true rfl), (Nat.le_of_ble_eq_true rfl)⟩ hK hP hD hS hA [] [0, 1, 2, 3, 4, 5, 6, 7, 8, 9, 10, 11, 12, 13, 14, 15, 16, 17, 18, 19, 20, 21, 22] rfl rfl (by decide +kernel) (by decide +kernel) (by decide +kernel) rfl rfl (Nat.le_of_ble_eq_true rfl) dX11_does_63 (fun r_32 u H locs hw hP hD hS => ?_)
        obtain ⟨b_31, hb1_33, rfl, rfl⟩ := hw
        refine o_re (ws' := [ro_rrrrrrrrrrrrrrrirl x0 11 (q 0) (q 1) (q 2) (q 3) (q 4) (q 5) (q 6) (q 7) (q 8) (q 9) (q 10) (q 11) (q 12) (q 13) (q 14) hc (q 16) dr, ro_rrrrrr (q 10) 9 (q 61) (q 62) (q 63) (q 64) (q 65) (q 66), ra_N (q 61) cI 90 sa2_13, ra_I (q 62) cI 900 ft2_14, ra_I (q 63) cI 90 fa2_15, ra_I (q 64) cI 90 fo2_16, ra_J (q 65) cJ 90 fg2_17, ra_I (q 66) cI 9 fk2_18, ro_rrrrrnniin (q 5) 2 (q 44) (q 45) (q 46) (q 47) (q 48) dh mh uh rh nh, ro_rrrrnn (q 44) 0 (q 49) (q 50) (q 51) (q 52) ch wh, ra_I (q 49) cI 1600 y1, ra_J (q 50) cJ 64 z2_19, ra_J (q 51) cJ 9 z3_20, ra_J (q 52) cJ 10 y4, ra_I (q 47) cI 3 yf, ra_I (q 48) cI 3 yt, ro_rrrrrrrnn (q 11) 1 (q 10) (q 67) (q 68) (q 69) (q 70) (q 71) (q 72) gd gs, ra_I (q 67) cI 90 e1, ra_I (q 68) cI 9 e2, ra_I (q 69) cI 10 e3, ro_rrnnnin (q 7) 7 (q 33) (q 34) dy wn mo mu ke, ra_I (q 33) cI 9 fb, ra_I (q 34) cI 9 fw]) hP hD rfl (fun hP hD => ?_)
        refine lv_if_eq (tgt := 87) hx hb dX11_does_66 (by decide) (fun c_34 => ?_) (fun c_34 => ?_)
        · have c_34 : b_31 = 0 := (neq b_31 0 (by omega) (Nat.le_of_ble_eq_true rfl)).mp c_34
          refine lv_iconst (v := (-1)) hx hb dX11_does_87 (by decide) ?_
          exact sk_iret hx hb hr rfl hlocks hK hP hD hS (⟨sa2_13, ft2_14, fa2_15, fo2_16, fg2_17, fk2_18, z2_19, z3_20, e1, e2, e3, gd, gs, hsa2_21, (fun _ => hti2_22), hgd, hgs, rfl⟩) (Nat.le_of_ble_eq_true rfl) (Nat.le_of_ble_eq_true rfl) dX11_does_88
        · have c_34 : ¬ (b_31 = 0) := fun h => c_34 ((neq b_31 0 (by omega) (Nat.le_of_ble_eq_true rfl)).mpr h)
          obtain ⟨kd_35, hkd_35, rfl⟩ := rr_1 hb1_33 (by omega)
          refine lv_aload_n hx hb dX11_does_69 rfl (lv_at hl 1 rfl) ?_
          refine sk_get (v := .ref (q 10)) (C := RX11) (T := TX11) (N := 18) hx hb hts inlX11 hown hK hP 0 rfl rfl 10 (Nat.le_of_ble_eq_true rfl) w_2_133 rfl dX11_does_70 ?_
          refine sk_get (v := .ref (q 62)) (C := RX9) (T := TX9) (N := 6) hx hb hts inlX9 hown hK hP 1 rfl rfl 1 (Nat.le_of_ble_eq_true rfl) w_2_66 rfl dX11_does_73 ?_
          refine lv_iload hx hb dX11_does_76 (lv_at hl 0 rfl) ?_
          refine lv_bipush (v := 10) hx hb dX11_does_78 (by decide) ?_
          refine lv_imul hx hb dX11_does_80 ?_
          refine sk_top (nI ((kd_7 * 10 + kd_12) * 10)) (nmul (kd_7 * 10 + kd_12) 10) ?_
          refine lv_iload_n hx hb dX11_does_81 rfl (lv_at hl 4 rfl) ?_
          refine lv_iadd hx hb dX11_does_82 ?_
          refine sk_top (nI ((kd_7 * 10 + kd_12) * 10 + kd_35)) (nI_add ((kd_7 * 10 + kd_12) * 10) kd_35) ?_
          refine va_iald hx hb hK.1 hP 3 0 rfl rfl (vin ((kd_7 * 10 + kd_12) * 10 + kd_35) 900 (by omega) (Nat.le_of_ble_eq_true rfl)) dX11_does_83 ?_
          refine lv_topi (fun v_36 ev_36 => ?_)
          refine lv_goto (tgt := 88) hx hb dX11_does_84 (by decide) ?_
          exact sk_iret hx hb hr rfl hlocks hK hP hD hS (⟨sa2_13, ft2_14, fa2_15, fo2_16, fg2_17, fk2_18, z2_19, z3_20, e1, e2, e3, gd, gs, hsa2_21, (fun _ => hti2_22), hgd, hgs, rfl⟩) (Nat.le_of_ble_eq_true rfl) (Nat.le_of_ble_eq_true rfl) dX11_does_88
      · have c_30 : ¬ (b_25 = 0) := fun h => c_30 ((neq b_25 0 (by omega) (Nat.le_of_ble_eq_true rfl)).mpr h)
        refine lv_aload_n hx hb dX11_does_51 rfl (lv_at hl 1 rfl) ?_
        refine sk_get (v := .ref (q 10)) (C := RX11) (T := TX11) (N := 18) hx hb hts inlX11 hown hK hP 0 rfl rfl 10 (Nat.le_of_ble_eq_true rfl) w_2_133 rfl dX11_does_52 ?_
        refine sk_get (v := .ref (q 63)) (C := RX9) (T := TX9) (N := 6) hx hb hts inlX9 hown hK hP 1 rfl rfl 2 (Nat.le_of_ble_eq_true rfl) w_2_69 rfl dX11_does_55 ?_
        refine lv_iload hx hb dX11_does_58 (lv_at hl 0 rfl) ?_
        refine va_iald hx hb hK.1 hP 4 0 rfl rfl (vin (kd_7 * 10 + kd_12) 90 (by omega) (Nat.le_of_ble_eq_true rfl)) dX11_does_60 ?_
        refine lv_topi (fun v_37 ev_37 => ?_)
        exact sk_iret hx hb hr rfl hlocks hK hP hD hS (⟨sa2_13, ft2_14, fa2_15, fo2_16, fg2_17, fk2_18, z2_19, z3_20, e1, e2, e3, gd, gs, hsa2_21, (fun _ => hti2_22), hgd, hgs, rfl⟩) (Nat.le_of_ble_eq_true rfl) (Nat.le_of_ble_eq_true rfl) dX11_does_61
    · have c_11 : b_8 = 0 := (neq b_8 0 (by omega) (Nat.le_of_ble_eq_true rfl)).mp c_11
      refine lv_iconst (v := (-1)) hx hb dX11_does_15 (by decide) ?_
      exact sk_iret hx hb hr rfl hlocks hK hP hD hS (⟨sa, ft, fa, fo, fg, fk, y2, y3, e1, e2, e3, gd, gs, hsa, htq, hgd, hgs, rfl⟩) (Nat.le_of_ble_eq_true rfl) (Nat.le_of_ble_eq_true rfl) dX11_does_16
theorem dg_X11_weeks_0_0 : bqL cX11_weeks 0 [(0, [42]), (1, [182, 0, 204]), (4, [154, 0, 7]), (11, [42]), (12, [42]), (13, [180, 0, 59]), (16, [182, 0, 208]), (19, [87]), (20, [42]), (21, [180, 0, 85]), (24, [182, 0, 212]), (27, [173]), (7, [20, 0, 198]), (10, [173])] = true := by decide +kernel
theorem dX11_weeks_0 : decode cX11_weeks 0 = .ok (.aload_n 0, 1) := q_aload_n0 (bat_get dg_X11_weeks_0_0 0 rfl rfl)
theorem dX11_weeks_1 : decode cX11_weeks 1 = .ok (.invokevirtual 204, 3) := q_invokevirtual (bat_get dg_X11_weeks_0_0 1 rfl rfl) rfl
theorem dX11_weeks_4 : decode cX11_weeks 4 = .ok (.ifCond .ne 7, 3) := q_ifCond_ne (bat_get dg_X11_weeks_0_0 2 rfl rfl) rfl
theorem dX11_weeks_11 : decode cX11_weeks 11 = .ok (.aload_n 0, 1) := q_aload_n0 (bat_get dg_X11_weeks_0_0 3 rfl rfl)
theorem dX11_weeks_12 : decode cX11_weeks 12 = .ok (.aload_n 0, 1) := q_aload_n0 (bat_get dg_X11_weeks_0_0 4 rfl rfl)
theorem dX11_weeks_13 : decode cX11_weeks 13 = .ok (.getfield 59, 3) := q_getfield (bat_get dg_X11_weeks_0_0 5 rfl rfl) rfl
theorem dX11_weeks_16 : decode cX11_weeks 16 = .ok (.invokevirtual 208, 3) := q_invokevirtual (bat_get dg_X11_weeks_0_0 6 rfl rfl) rfl
theorem dX11_weeks_19 : decode cX11_weeks 19 = .ok (.pop, 1) := q_pop (bat_get dg_X11_weeks_0_0 7 rfl rfl)
theorem dX11_weeks_20 : decode cX11_weeks 20 = .ok (.aload_n 0, 1) := q_aload_n0 (bat_get dg_X11_weeks_0_0 8 rfl rfl)
theorem dX11_weeks_21 : decode cX11_weeks 21 = .ok (.getfield 85, 3) := q_getfield (bat_get dg_X11_weeks_0_0 9 rfl rfl) rfl
theorem dX11_weeks_24 : decode cX11_weeks 24 = .ok (.invokevirtual 212, 3) := q_invokevirtual (bat_get dg_X11_weeks_0_0 10 rfl rfl) rfl
theorem dX11_weeks_27 : decode cX11_weeks 27 = .ok (.lreturn, 1) := q_lreturn (bat_get dg_X11_weeks_0_0 11 rfl rfl)
theorem dX11_weeks_7 : decode cX11_weeks 7 = .ok (.ldc2_w 198, 3) := q_ldc2_w (bat_get dg_X11_weeks_0_0 12 rfl rfl) rfl
theorem dX11_weeks_10 : decode cX11_weeks 10 = .ok (.lreturn, 1) := q_lreturn (bat_get dg_X11_weeks_0_0 13 rfl rfl)
theorem w_4_39 : (Cond.methodLink RX11 204 yX11_isLocked) ∈ wsL_law := sk_mem (ck_4 _ (List.mem_of_getElem? (i := 39) rfl)) rfl
theorem w_4_41 : (Cond.instanceMethod yX11_isLocked) ∈ wsL_law := sk_mem (ck_4 _ (List.mem_of_getElem? (i := 41) rfl)) rfl
theorem w_0_18 : (Cond.selects RX11 yX11_isLocked yX11_isLocked) ∈ wsL_law := sk_mem (ck_0 _ (List.mem_of_getElem? (i := 18) rfl)) rfl
theorem w_4_38 : (Cond.code yX11_weeks cX11_weeks 1 (some .long)) ∈ wsL_law := sk_mem (ck_4 _ (List.mem_of_getElem? (i := 38) rfl)) rfl
def om_24_800008 : List Bool := true :: false :: false :: false :: false :: false :: false :: false :: false :: false :: false :: false :: false :: false :: false :: false :: false :: false :: false :: false :: true :: false :: false :: false :: []
def om_24_fffffe : List Bool := true :: true :: true :: true :: true :: true :: true :: true :: true :: true :: true :: true :: true :: true :: true :: true :: true :: true :: true :: true :: true :: true :: true :: false :: []
def om_24_f1 : List Bool := false :: false :: false :: false :: false :: false :: false :: false :: false :: false :: false :: false :: false :: false :: false :: false :: true :: true :: true :: true :: false :: false :: false :: true :: []
theorem hd_X11_isLocked_0 : skD yX11_isLocked 0 := by decide +kernel
set_option maxHeartbeats 4000000 in
set_option maxRecDepth 100000 in
theorem c_ky_weeks (l : Launch) (D : va_G) (cI cJ cC cZ cS : ClassId) (x0 : Nat) (q : Nat → Nat) (hc : Int32) (dr : Int64) (sa : Nat → Nat) (ft : Nat → Int32) (fa : Nat → Int32) (fo : Nat → Int32) (fg : Nat → Int64) (fk : Nat → Int32) (dh : Nat) (mh : Nat) (uh : Int32) (rh : Int32) (nh : Nat) (ch : Nat) (wh : Nat) (y1 : Nat → Int32) (y2 : Nat → Int64) (y3 : Nat → Int64) (y4 : Nat → Int64) (yf : Nat → Int32) (yt : Nat → Int32) (gd : Nat) (gs : Nat) (e1 : Nat → Int32) (e2 : Nat → Int32) (e3 : Nat → Int32) (dy : Nat) (wn : Nat) (mo : Nat) (ke : Nat) (mu : Int32) (fb : Nat → Int32) (fw : Nat → Int32) (Ba : Nat → Nat) (We : Nat → Nat) (L : LkS) (U : Nat → Bool) (e4 : Nat → Int64) (hsa : ∀ j, sa j ≤ 9) (hch : ch ≤ 1600) (hwh : wh ≤ 1) (hdy : dy ≤ 9) (hmo : mo ≤ 9) (hgd : gd ≤ 9) (hgs : gs ≤ 9) (hLk : kcLk L) (hlq : 1 ≤ dy → cdK (lK (lkF L)) ch wh y1 ∧ ∀ v, v < 3 → sgO (lG (lkF L) v) (yf v) (yt v)) (htq : 1 ≤ dy → kcTI L sa ft fa fo fg fk) (hfb : ∀ j, j < 9 → fb j = nI (Ba j)) (hfw : ∀ j, j < 9 → fw j = nI (We j)) (hB9 : ∀ j, Ba j ≤ 9) (hW9 : ∀ j, We j ≤ 9) (hwn : wn ≤ 999) (hU : muO U mu) : skM l yX11_weeks cX11_weeks 1 (some .long) 6 149 0 0 D (skT cI cJ cC cZ cS) [.ref x0] [ro_rrrrrrrrrrrrrrrirl x0 11 (q 0) (q 1) (q 2) (q 3) (q 4) (q 5) (q 6) (q 7) (q 8) (q 9) (q 10) (q 11) (q 12) (q 13) (q 14) hc (q 16) dr, ro_rrrrrr (q 10) 9 (q 61) (q 62) (q 63) (q 64) (q 65) (q 66), ra_N (q 61) cI 90 sa, ra_I (q 62) cI 900 ft, ra_I (q 63) cI 90 fa, ra_I (q 64) cI 90 fo, ra_J (q 65) cJ 90 fg, ra_I (q 66) cI 9 fk, ro_rrrrrnniin (q 5) 2 (q 44) (q 45) (q 46) (q 47) (q 48) dh mh uh rh nh, ro_rrrrnn (q 44) 0 (q 49) (q 50) (q 51) (q 52) ch wh, ra_I (q 49) cI 1600 y1, ra_J (q 50) cJ 64 y2, ra_J (q 51) cJ 9 y3, ra_J (q 52) cJ 10 y4, ra_I (q 47) cI 3 yf, ra_I (q 48) cI 3 yt, ro_rrrrrrrnn (q 11) 1 (q 10) (q 67) (q 68) (q 69) (q 70) (q 71) (q 72) gd gs, ra_I (q 67) cI 90 e1, ra_I (q 68) cI 9 e2, ra_I (q 69) cI 10 e3, ro_rrnnnin (q 7) 7 (q 33) (q 34) dy wn mo mu ke, ra_I (q 33) cI 9 fb, ra_I (q 34) cI 9 fw, ra_J (q 70) cJ 100 e4] (skL D (skT cI cJ cC cZ cS) (fun (r : Int64) (u : va_W) => ∃ (sa2 : Nat → Nat), ∃ (ft2 : Nat → Int32), ∃ (fa2 : Nat → Int32), ∃ (fo2 : Nat → Int32), ∃ (fg2 : Nat → Int64), ∃ (fk2 : Nat → Int32), ∃ (z2 : Nat → Int64), ∃ (z3 : Nat → Int64), ∃ (g1 : Nat → Int32), ∃ (g2 : Nat → Int32), ∃ (g3 : Nat → Int32), ∃ (gd2 : Nat), ∃ (gs2 : Nat), ∃ (g4 : Nat → Int64), (∀ j, sa2 j ≤ 9) ∧ (1 ≤ dy → kcTI L sa2 ft2 fa2 fo2 fg2 fk2) ∧ gd2 ≤ 9 ∧ gs2 ≤ 9 ∧ weeksR dy (kcC (kcFo L wn Ba We U 0) dy 0 mo) r ∧ u = [ro_rrrrrrrrrrrrrrrirl x0 11 (q 0) (q 1) (q 2) (q 3) (q 4) (q 5) (q 6) (q 7) (q 8) (q 9) (q 10) (q 11) (q 12) (q 13) (q 14) hc (q 16) dr, ro_rrrrrr (q 10) 9 (q 61) (q 62) (q 63) (q 64) (q 65) (q 66), ra_N (q 61) cI 90 sa2, ra_I (q 62) cI 900 ft2, ra_I (q 63) cI 90 fa2, ra_I (q 64) cI 90 fo2, ra_J (q 65) cJ 90 fg2, ra_I (q 66) cI 9 fk2, ro_rrrrrnniin (q 5) 2 (q 44) (q 45) (q 46) (q 47) (q 48) dh mh uh rh nh, ro_rrrrnn (q 44) 0 (q 49) (q 50) (q 51) (q 52) ch wh, ra_I (q 49) cI 1600 y1, ra_J (q 50) cJ 64 z2, ra_J (q 51) cJ 9 z3, ra_J (q 52) cJ 10 y4, ra_I (q 47) cI 3 yf, ra_I (q 48) cI 3 yt, ro_rrrrrrrnn (q 11) 1 (q 10) (q 67) (q 68) (q 69) (q 70) (q 71) (q 72) gd2 gs2, ra_I (q 67) cI 90 g1, ra_I (q 68) cI 9 g2, ra_I (q 69) cI 10 g3, ro_rrnnnin (q 7) 7 (q 33) (q 34) dy wn mo mu ke, ra_I (q 33) cI 9 fb, ra_I (q 34) cI 9 fw, ra_J (q 70) cJ 100 g4])) := by
  refine skM_of pf_X11_weeks (Nat.le_of_ble_eq_true rfl) ?_
  intro p e s m below meth c A ls E hP hD hl
  refine skE_el E (fun hx hb hr hml hlocks hin hown hts hK hA => ?_)
  have hown : s.vm.findClass RX11 = some m.cls := hown
  have hS : va_S A s.heap s.heap [] := va_S.rf
  have hl : lv_has ls 1 [(0, .ref x0)] := hl
  refine lv_aload_n hx hb dX11_weeks_0 rfl (lv_at hl 0 rfl) ?_
  refine sk_Vi (q0 := 0) (n := 0) (rest := []) (wr := fmR om_24_800008 _) ⟨hx, hb, hml, hown, hts⟩ hl.1 (c_kx_isLocked l D cI cJ cC cZ cS x0 q hc dr dy wn mo ke mu fb fw hdy) w_4_39 w_4_41 w_0_18 w_1_1 w_4_42 hd_X11_isLocked_0 ⟨⟨(Nat.le_of_ble_eq_true rfl), (Nat.le_of_ble_eq_true rfl)⟩, (Nat.le_of_ble_eq_true rfl), (Nat.le_of_ble_eq_true rfl)⟩ hK hP hD hS hA (fmT om_24_800008 0) (fmF om_24_800008 0) (fm_C1 rfl rfl) (fm_R rfl rfl) (fm_nT om_24_800008 0) (fm_nF om_24_800008 0) (fm_di om_24_800008 0) rfl rfl rfl rfl (Nat.le_of_ble_eq_true rfl) dX11_weeks_1 (fun r_2 u H locs hw hP hD hS => ?_)
  refine exE hw (fun b_1 hw1 => anE hw1 (fun hb1_3 hw2 => anE hw2 (fun er_5 eu_4 => ?_)))
  clear hw hw1 hw2
  subst er_5
  refine o_mgE (ws' := [ro_rrrrrrrrrrrrrrrirl x0 11 (q 0) (q 1) (q 2) (q 3) (q 4) (q 5) (q 6) (q 7) (q 8) (q 9) (q 10) (q 11) (q 12) (q 13) (q 14) hc (q 16) dr, ro_rrrrrr (q 10) 9 (q 61) (q 62) (q 63) (q 64) (q 65) (q 66), ra_N (q 61) cI 90 sa, ra_I (q 62) cI 900 ft, ra_I (q 63) cI 90 fa, ra_I (q 64) cI 90 fo, ra_J (q 65) cJ 90 fg, ra_I (q 66) cI 9 fk, ro_rrrrrnniin (q 5) 2 (q 44) (q 45) (q 46) (q 47) (q 48) dh mh uh rh nh, ro_rrrrnn (q 44) 0 (q 49) (q 50) (q 51) (q 52) ch wh, ra_I (q 49) cI 1600 y1, ra_J (q 50) cJ 64 y2, ra_J (q 51) cJ 9 y3, ra_J (q 52) cJ 10 y4, ra_I (q 47) cI 3 yf, ra_I (q 48) cI 3 yt, ro_rrrrrrrnn (q 11) 1 (q 10) (q 67) (q 68) (q 69) (q 70) (q 71) (q 72) gd gs, ra_I (q 67) cI 90 e1, ra_I (q 68) cI 9 e2, ra_I (q 69) cI 10 e3, ro_rrnnnin (q 7) 7 (q 33) (q 34) dy wn mo mu ke, ra_I (q 33) cI 9 fb, ra_I (q 34) cI 9 fw, ra_J (q 70) cJ 100 e4]) eu_4 hP hD rfl (fun hP hD => ?_)
  refine lv_if_ne (tgt := 11) hx hb dX11_weeks_4 (by decide) (fun c_6 => ?_) (fun c_6 => ?_)
  · have c_6 : ¬ (b_1 = 0) := fun h => c_6 ((neq b_1 0 (by omega) (Nat.le_of_ble_eq_true rfl)).mpr h)
    refine lv_aload_n hx hb dX11_weeks_11 rfl (lv_at hl 0 rfl) ?_
    refine lv_aload_n hx hb dX11_weeks_12 rfl (lv_at hl 0 rfl) ?_
    refine sk_get (v := .ref (q 7)) (C := RX11) (T := TX11) (N := 18) hx hb hts inlX11 hown hK hP 0 rfl rfl 7 (Nat.le_of_ble_eq_true rfl) w_2_130 rfl dX11_weeks_13 ?_
    refine sk_Vi (q0 := 0) (n := 1) (rest := []) (wr := fmR om_24_fffffe _) ⟨hx, hb, hml, hown, hts⟩ hl.1 (c_kx_lookAt l D cI cJ cC cZ cS x0 q hc dr sa ft fa fo fg fk dh mh uh rh nh ch wh y1 y2 y3 y4 yf yt gd gs e1 e2 e3 (q 7) (q 33) (q 34) dy wn mo ke mu fb fw Ba We L U hsa hch hwh hdy hmo hLk (hlq (by omega)).1 (hlq (by omega)).2 hfb hfw hB9 hW9 hwn hU (htq (by omega))) w_4_43 w_4_45 w_0_19 w_1_1 w_4_46 hd_X11_lookAt_1 ⟨⟨(Nat.le_of_ble_eq_true rfl), (Nat.le_of_ble_eq_true rfl)⟩, (Nat.le_of_ble_eq_true rfl), (Nat.le_of_ble_eq_true rfl)⟩ hK hP hD hS hA (fmT om_24_fffffe 0) (fmF om_24_fffffe 0) (fm_C1 rfl rfl) (fm_R rfl rfl) (fm_nT om_24_fffffe 0) (fm_nF om_24_fffffe 0) (fm_di om_24_fffffe 0) rfl rfl rfl rfl (Nat.le_of_ble_eq_true rfl) dX11_weeks_16 (fun r_19 u H locs hw hP hD hS => ?_)
    refine exE hw (fun sa2_7 hw1 => exE hw1 (fun ft2_8 hw2 => exE hw2 (fun fa2_9 hw3 => exE hw3 (fun fo2_10 hw4 => exE hw4 (fun fg2_11 hw5 => exE hw5 (fun fk2_12 hw6 => exE hw6 (fun z2_13 hw7 => exE hw7 (fun z3_14 hw8 => exE hw8 (fun g1_15 hw9 => exE hw9 (fun g2_16 hw10 => exE hw10 (fun g3_17 hw11 => exE hw11 (fun b_18 hw12 => anE hw12 (fun hsa2_20 hw13 => anE hw13 (fun hti2_21 hw14 => anE hw14 (fun hld2_22 hw15 => anE hw15 (fun hlv2_23 hw16 => anE hw16 (fun hb1_24 hw17 => anE hw17 (fun er_26 eu_25 => ?_))))))))))))))))))
    clear hw hw1 hw2 hw3 hw4 hw5 hw6 hw7 hw8 hw9 hw10 hw11 hw12 hw13 hw14 hw15 hw16 hw17
    subst er_26
    refine o_mgE (ws' := [ro_rrrrrrrrrrrrrrrirl x0 11 (q 0) (q 1) (q 2) (q 3) (q 4) (q 5) (q 6) (q 7) (q 8) (q 9) (q 10) (q 11) (q 12) (q 13) (q 14) hc (q 16) dr, ro_rrrrrr (q 10) 9 (q 61) (q 62) (q 63) (q 64) (q 65) (q 66), ra_N (q 61) cI 90 sa2_7, ra_I (q 62) cI 900 ft2_8, ra_I (q 63) cI 90 fa2_9, ra_I (q 64) cI 90 fo2_10, ra_J (q 65) cJ 90 fg2_11, ra_I (q 66) cI 9 fk2_12, ro_rrrrrnniin (q 5) 2 (q 44) (q 45) (q 46) (q 47) (q 48) dh mh uh rh nh, ro_rrrrnn (q 44) 0 (q 49) (q 50) (q 51) (q 52) ch wh, ra_I (q 49) cI 1600 y1, ra_J (q 50) cJ 64 z2_13, ra_J (q 51) cJ 9 z3_14, ra_J (q 52) cJ 10 y4, ra_I (q 47) cI 3 yf, ra_I (q 48) cI 3 yt, ro_rrrrrrrnn (q 11) 1 (q 10) (q 67) (q 68) (q 69) (q 70) (q 71) (q 72) dy mo, ra_I (q 67) cI 90 g1_15, ra_I (q 68) cI 9 g2_16, ra_I (q 69) cI 10 g3_17, ro_rrnnnin (q 7) 7 (q 33) (q 34) dy wn mo mu ke, ra_I (q 33) cI 9 fb, ra_I (q 34) cI 9 fw, ra_J (q 70) cJ 100 e4]) eu_25 hP hD rfl (fun hP hD => ?_)
    refine lv_pop hx hb dX11_weeks_19 rfl ?_
    refine lv_aload_n hx hb dX11_weeks_20 rfl (lv_at hl 0 rfl) ?_
    refine sk_get (v := .ref (q 11)) (C := RX11) (T := TX11) (N := 18) hx hb hts inlX11 hown hK hP 0 rfl rfl 11 (Nat.le_of_ble_eq_true rfl) w_2_134 rfl dX11_weeks_21 ?_
    refine sk_Vl (q0 := 0) (n := 0) (rest := []) (wr := fmR om_24_f1 _) ⟨hx, hb, hml, hown, hts⟩ hl.1 (c_kcountWays l D cI cJ cC cZ cS q dy mo g1_15 g2_16 g3_17 e4 (kcFo L wn Ba We U 0) hdy hmo hld2_22 hlv2_23) w_4_61 w_4_62 w_4_63 w_1_13 w_4_64 hd_X1_countWays_0 ⟨⟨(Nat.le_of_ble_eq_true rfl), (Nat.le_of_ble_eq_true rfl)⟩, (Nat.le_of_ble_eq_true rfl), (Nat.le_of_ble_eq_true rfl)⟩ hK hP hD hS hA (fmT om_24_f1 0) (fmF om_24_f1 0) (fm_C1 rfl rfl) (fm_R rfl rfl) (fm_nT om_24_f1 0) (fm_nF om_24_f1 0) (fm_di om_24_f1 0) rfl rfl rfl rfl (Nat.le_of_ble_eq_true rfl) dX11_weeks_24 (fun r_28 u H locs hw hP hD hS => ?_)
    refine exE hw (fun g4_27 hw1 => anE hw1 (fun hwy_29 hw2 => anE hw2 (fun er_31 eu_30 => ?_)))
    clear hw hw1 hw2
    subst er_31
    refine o_mgE (ws' := [ro_rrrrrrrrrrrrrrrirl x0 11 (q 0) (q 1) (q 2) (q 3) (q 4) (q 5) (q 6) (q 7) (q 8) (q 9) (q 10) (q 11) (q 12) (q 13) (q 14) hc (q 16) dr, ro_rrrrrr (q 10) 9 (q 61) (q 62) (q 63) (q 64) (q 65) (q 66), ra_N (q 61) cI 90 sa2_7, ra_I (q 62) cI 900 ft2_8, ra_I (q 63) cI 90 fa2_9, ra_I (q 64) cI 90 fo2_10, ra_J (q 65) cJ 90 fg2_11, ra_I (q 66) cI 9 fk2_12, ro_rrrrrnniin (q 5) 2 (q 44) (q 45) (q 46) (q 47) (q 48) dh mh uh rh nh, ro_rrrrnn (q 44) 0 (q 49) (q 50) (q 51) (q 52) ch wh, ra_I (q 49) cI 1600 y1, ra_J (q 50) cJ 64 z2_13, ra_J (q 51) cJ 9 z3_14, ra_J (q 52) cJ 10 y4, ra_I (q 47) cI 3 yf, ra_I (q 48) cI 3 yt, ro_rrrrrrrnn (q 11) 1 (q 10) (q 67) (q 68) (q 69) (q 70) (q 71) (q 72) dy mo, ra_I (q 67) cI 90 g1_15, ra_I (q 68) cI 9 g2_16, ra_I (q 69) cI 10 g3_17, ro_rrnnnin (q 7) 7 (q 33) (q 34) dy wn mo mu ke, ra_I (q 33) cI 9 fb, ra_I (q 34) cI 9 fw, ra_J (q 70) cJ 100 g4_27]) eu_30 hP hD rfl (fun hP hD => ?_)
    exact sk_lret hx hb hr hlocks hK hP hD hS (⟨sa2_7, ft2_8, fa2_9, fo2_10, fg2_11, fk2_12, z2_13, z3_14, g1_15, g2_16, g3_17, dy, mo, g4_27, hsa2_20, (fun _ => hti2_21), hdy, hmo, (Or.inr ⟨by omega, rfl⟩), rfl⟩) (Nat.le_of_ble_eq_true rfl) (Nat.le_of_ble_eq_true rfl) dX11_weeks_27
  · have c_6 : b_1 = 0 := (neq b_1 0 (by omega) (Nat.le_of_ble_eq_true rfl)).mp c_6
    refine lv_ldc2 (v := (-1000000000000000)) hx hb hown (hts _ w_4_29) dX11_weeks_7 ?_
    exact sk_lret hx hb hr hlocks hK hP hD hS (⟨sa, ft, fa, fo, fg, fk, y2, y3, e1, e2, e3, gd, gs, e4, hsa, htq, hgd, hgs, (Or.inl ⟨by omega, rfl⟩), rfl⟩) (Nat.le_of_ble_eq_true rfl) (Nat.le_of_ble_eq_true rfl) dX11_weeks_10
theorem dg_X11_takeWeek_0_0 : bqL cX11_takeWeek 0 [(0, [42]), (1, [42]), (2, [180, 0, 59]), (5, [182, 0, 208]), (8, [87]), (9, [27]), (10, [155, 0, 16]), (26, [3]), (27, [172]), (13, [27]), (14, [133]), (15, [42]), (16, [180, 0, 85]), (19, [182, 0, 212]), (22, [148]), (23, [155, 0, 5]), (28, [42]), (29, [180, 0, 85]), (32, [27]), (33, [133]), (34, [44]), (35, [182, 1, 70]), (38, [4]), (39, [172])] = true := by decide +kernel
theorem dX11_takeWeek_0 : decode cX11_takeWeek 0 = .ok (.aload_n 0, 1) := q_aload_n0 (bat_get dg_X11_takeWeek_0_0 0 rfl rfl)
theorem dX11_takeWeek_1 : decode cX11_takeWeek 1 = .ok (.aload_n 0, 1) := q_aload_n0 (bat_get dg_X11_takeWeek_0_0 1 rfl rfl)
theorem dX11_takeWeek_2 : decode cX11_takeWeek 2 = .ok (.getfield 59, 3) := q_getfield (bat_get dg_X11_takeWeek_0_0 2 rfl rfl) rfl
theorem dX11_takeWeek_5 : decode cX11_takeWeek 5 = .ok (.invokevirtual 208, 3) := q_invokevirtual (bat_get dg_X11_takeWeek_0_0 3 rfl rfl) rfl
theorem dX11_takeWeek_8 : decode cX11_takeWeek 8 = .ok (.pop, 1) := q_pop (bat_get dg_X11_takeWeek_0_0 4 rfl rfl)
theorem dX11_takeWeek_9 : decode cX11_takeWeek 9 = .ok (.iload_n 1, 1) := q_iload_n1 (bat_get dg_X11_takeWeek_0_0 5 rfl rfl)
theorem dX11_takeWeek_10 : decode cX11_takeWeek 10 = .ok (.ifCond .lt 16, 3) := q_ifCond_lt (bat_get dg_X11_takeWeek_0_0 6 rfl rfl) rfl
theorem dX11_takeWeek_26 : decode cX11_takeWeek 26 = .ok (.iconst 0, 1) := q_iconst0 (bat_get dg_X11_takeWeek_0_0 7 rfl rfl)
theorem dX11_takeWeek_27 : decode cX11_takeWeek 27 = .ok (.ireturn, 1) := q_ireturn (bat_get dg_X11_takeWeek_0_0 8 rfl rfl)
theorem dX11_takeWeek_13 : decode cX11_takeWeek 13 = .ok (.iload_n 1, 1) := q_iload_n1 (bat_get dg_X11_takeWeek_0_0 9 rfl rfl)
theorem dX11_takeWeek_14 : decode cX11_takeWeek 14 = .ok (.i2l, 1) := q_i2l (bat_get dg_X11_takeWeek_0_0 10 rfl rfl)
theorem dX11_takeWeek_15 : decode cX11_takeWeek 15 = .ok (.aload_n 0, 1) := q_aload_n0 (bat_get dg_X11_takeWeek_0_0 11 rfl rfl)
theorem dX11_takeWeek_16 : decode cX11_takeWeek 16 = .ok (.getfield 85, 3) := q_getfield (bat_get dg_X11_takeWeek_0_0 12 rfl rfl) rfl
theorem dX11_takeWeek_19 : decode cX11_takeWeek 19 = .ok (.invokevirtual 212, 3) := q_invokevirtual (bat_get dg_X11_takeWeek_0_0 13 rfl rfl) rfl
theorem dX11_takeWeek_22 : decode cX11_takeWeek 22 = .ok (.lcmp, 1) := q_lcmp (bat_get dg_X11_takeWeek_0_0 14 rfl rfl)
theorem dX11_takeWeek_23 : decode cX11_takeWeek 23 = .ok (.ifCond .lt 5, 3) := q_ifCond_lt (bat_get dg_X11_takeWeek_0_0 15 rfl rfl) rfl
theorem dX11_takeWeek_28 : decode cX11_takeWeek 28 = .ok (.aload_n 0, 1) := q_aload_n0 (bat_get dg_X11_takeWeek_0_0 16 rfl rfl)
theorem dX11_takeWeek_29 : decode cX11_takeWeek 29 = .ok (.getfield 85, 3) := q_getfield (bat_get dg_X11_takeWeek_0_0 17 rfl rfl) rfl
theorem dX11_takeWeek_32 : decode cX11_takeWeek 32 = .ok (.iload_n 1, 1) := q_iload_n1 (bat_get dg_X11_takeWeek_0_0 18 rfl rfl)
theorem dX11_takeWeek_33 : decode cX11_takeWeek 33 = .ok (.i2l, 1) := q_i2l (bat_get dg_X11_takeWeek_0_0 19 rfl rfl)
theorem dX11_takeWeek_34 : decode cX11_takeWeek 34 = .ok (.aload_n 2, 1) := q_aload_n2 (bat_get dg_X11_takeWeek_0_0 20 rfl rfl)
theorem dX11_takeWeek_35 : decode cX11_takeWeek 35 = .ok (.invokevirtual 326, 3) := q_invokevirtual (bat_get dg_X11_takeWeek_0_0 21 rfl rfl) rfl
theorem dX11_takeWeek_38 : decode cX11_takeWeek 38 = .ok (.iconst 1, 1) := q_iconst1 (bat_get dg_X11_takeWeek_0_0 22 rfl rfl)
theorem dX11_takeWeek_39 : decode cX11_takeWeek 39 = .ok (.ireturn, 1) := q_ireturn (bat_get dg_X11_takeWeek_0_0 23 rfl rfl)
theorem w_4_72 : (Cond.code yX11_takeWeek cX11_takeWeek 3 (some .boolean)) ∈ wsL_law := sk_mem (ck_4 _ (List.mem_of_getElem? (i := 72) rfl)) rfl
def om_25_1fffffc : List Bool := true :: true :: true :: true :: true :: true :: true :: true :: true :: true :: true :: true :: true :: true :: true :: true :: true :: true :: true :: true :: true :: true :: true :: false :: false :: []
def om_25_1e2 : List Bool := false :: false :: false :: false :: false :: false :: false :: false :: false :: false :: false :: false :: false :: false :: false :: false :: true :: true :: true :: true :: false :: false :: false :: true :: false :: []
def om_25_1e3 : List Bool := false :: false :: false :: false :: false :: false :: false :: false :: false :: false :: false :: false :: false :: false :: false :: false :: true :: true :: true :: true :: false :: false :: false :: true :: true :: []
set_option maxHeartbeats 4000000 in
set_option maxRecDepth 100000 in
theorem c_kx_takeWeek (l : Launch) (D : va_G) (cI cJ cC cZ cS : ClassId) (x0 : Nat) (q : Nat → Nat) (hc : Int32) (dr : Int64) (sa : Nat → Nat) (ft : Nat → Int32) (fa : Nat → Int32) (fo : Nat → Int32) (fg : Nat → Int64) (fk : Nat → Int32) (dh : Nat) (mh : Nat) (uh : Int32) (rh : Int32) (nh : Nat) (ch : Nat) (wh : Nat) (y1 : Nat → Int32) (y2 : Nat → Int64) (y3 : Nat → Int64) (y4 : Nat → Int64) (yf : Nat → Int32) (yt : Nat → Int32) (gd : Nat) (gs : Nat) (e1 : Nat → Int32) (e2 : Nat → Int32) (e3 : Nat → Int32) (dy : Nat) (wn : Nat) (mo : Nat) (ke : Nat) (mu : Int32) (fb : Nat → Int32) (fw : Nat → Int32) (Ba : Nat → Nat) (We : Nat → Nat) (L : LkS) (U : Nat → Bool) (e4 : Nat → Int64) (rw : Nat) (ra : Nat → Int32) (k : Int32) (hsa : ∀ j, sa j ≤ 9) (hch : ch ≤ 1600) (hwh : wh ≤ 1) (hdy : dy ≤ 9) (hmo : mo ≤ 9) (hLk : kcLk L) (hcd : cdK (lK (lkF L)) ch wh y1) (hsg : ∀ v, v < 3 → sgO (lG (lkF L) v) (yf v) (yt v)) (hfb : ∀ j, j < 9 → fb j = nI (Ba j)) (hfw : ∀ j, j < 9 → fw j = nI (We j)) (hB9 : ∀ j, Ba j ≤ 9) (hW9 : ∀ j, We j ≤ 9) (hwn : wn ≤ 999) (hU : muO U mu) (hti : kcTI L sa ft fa fo fg fk) : skM l yX11_takeWeek cX11_takeWeek 3 (some .boolean) 6 149 0 0 D (skT cI cJ cC cZ cS) [.ref x0, .int k, .ref rw] [ro_rrrrrrrrrrrrrrrirl x0 11 (q 0) (q 1) (q 2) (q 3) (q 4) (q 5) (q 6) (q 7) (q 8) (q 9) (q 10) (q 11) (q 12) (q 13) (q 14) hc (q 16) dr, ro_rrrrrr (q 10) 9 (q 61) (q 62) (q 63) (q 64) (q 65) (q 66), ra_N (q 61) cI 90 sa, ra_I (q 62) cI 900 ft, ra_I (q 63) cI 90 fa, ra_I (q 64) cI 90 fo, ra_J (q 65) cJ 90 fg, ra_I (q 66) cI 9 fk, ro_rrrrrnniin (q 5) 2 (q 44) (q 45) (q 46) (q 47) (q 48) dh mh uh rh nh, ro_rrrrnn (q 44) 0 (q 49) (q 50) (q 51) (q 52) ch wh, ra_I (q 49) cI 1600 y1, ra_J (q 50) cJ 64 y2, ra_J (q 51) cJ 9 y3, ra_J (q 52) cJ 10 y4, ra_I (q 47) cI 3 yf, ra_I (q 48) cI 3 yt, ro_rrrrrrrnn (q 11) 1 (q 10) (q 67) (q 68) (q 69) (q 70) (q 71) (q 72) gd gs, ra_I (q 67) cI 90 e1, ra_I (q 68) cI 9 e2, ra_I (q 69) cI 10 e3, ro_rrnnnin (q 7) 7 (q 33) (q 34) dy wn mo mu ke, ra_I (q 33) cI 9 fb, ra_I (q 34) cI 9 fw, ra_J (q 70) cJ 100 e4, ra_I rw cI 9 ra] (skI D (skT cI cJ cC cZ cS) (fun (r : Int32) (u : va_W) => ∃ (sa2 : Nat → Nat), ∃ (ft2 : Nat → Int32), ∃ (fa2 : Nat → Int32), ∃ (fo2 : Nat → Int32), ∃ (fg2 : Nat → Int64), ∃ (fk2 : Nat → Int32), ∃ (z2 : Nat → Int64), ∃ (z3 : Nat → Int64), ∃ (g1 : Nat → Int32), ∃ (g2 : Nat → Int32), ∃ (g3 : Nat → Int32), ∃ (g4 : Nat → Int64), ∃ (ra2 : Nat → Int32), ∃ (b : Nat), (∀ j, sa2 j ≤ 9) ∧ kcTI L sa2 ft2 fa2 fo2 fg2 fk2 ∧ ((b = 0 ∧ ∀ x, x < kcC (kcFo L wn Ba We U 0) dy 0 mo → ¬ k = nI x) ∨ (b = 1 ∧ ∃ x, x < kcC (kcFo L wn Ba We U 0) dy 0 mo ∧ k = nI x ∧ kcRw (kcFo L wn Ba We U 0) dy mo x dy ra2)) ∧ r = nI b ∧ u = [ro_rrrrrrrrrrrrrrrirl x0 11 (q 0) (q 1) (q 2) (q 3) (q 4) (q 5) (q 6) (q 7) (q 8) (q 9) (q 10) (q 11) (q 12) (q 13) (q 14) hc (q 16) dr, ro_rrrrrr (q 10) 9 (q 61) (q 62) (q 63) (q 64) (q 65) (q 66), ra_N (q 61) cI 90 sa2, ra_I (q 62) cI 900 ft2, ra_I (q 63) cI 90 fa2, ra_I (q 64) cI 90 fo2, ra_J (q 65) cJ 90 fg2, ra_I (q 66) cI 9 fk2, ro_rrrrrnniin (q 5) 2 (q 44) (q 45) (q 46) (q 47) (q 48) dh mh uh rh nh, ro_rrrrnn (q 44) 0 (q 49) (q 50) (q 51) (q 52) ch wh, ra_I (q 49) cI 1600 y1, ra_J (q 50) cJ 64 z2, ra_J (q 51) cJ 9 z3, ra_J (q 52) cJ 10 y4, ra_I (q 47) cI 3 yf, ra_I (q 48) cI 3 yt, ro_rrrrrrrnn (q 11) 1 (q 10) (q 67) (q 68) (q 69) (q 70) (q 71) (q 72) dy mo, ra_I (q 67) cI 90 g1, ra_I (q 68) cI 9 g2, ra_I (q 69) cI 10 g3, ro_rrnnnin (q 7) 7 (q 33) (q 34) dy wn mo mu ke, ra_I (q 33) cI 9 fb, ra_I (q 34) cI 9 fw, ra_J (q 70) cJ 100 g4, ra_I rw cI 9 ra2])) := by
  refine skM_of pf_X11_takeWeek (Nat.le_of_ble_eq_true rfl) ?_
  intro p e s m below meth c A ls E hP hD hl
  refine skE_el E (fun hx hb hr hml hlocks hin hown hts hK hA => ?_)
  have hown : s.vm.findClass RX11 = some m.cls := hown
  have hS : va_S A s.heap s.heap [] := va_S.rf
  have hl : lv_has ls 3 [(0, .ref x0), (1, .int k), (2, .ref rw)] := hl
  refine lv_aload_n hx hb dX11_takeWeek_0 rfl (lv_at hl 0 rfl) ?_
  refine lv_aload_n hx hb dX11_takeWeek_1 rfl (lv_at hl 0 rfl) ?_
  refine sk_get (v := .ref (q 7)) (C := RX11) (T := TX11) (N := 18) hx hb hts inlX11 hown hK hP 0 rfl rfl 7 (Nat.le_of_ble_eq_true rfl) w_2_130 rfl dX11_takeWeek_2 ?_
  refine sk_Vi (q0 := 0) (n := 1) (rest := []) (wr := fmR om_25_1fffffc _) ⟨hx, hb, hml, hown, hts⟩ hl.1 (c_kx_lookAt l D cI cJ cC cZ cS x0 q hc dr sa ft fa fo fg fk dh mh uh rh nh ch wh y1 y2 y3 y4 yf yt gd gs e1 e2 e3 (q 7) (q 33) (q 34) dy wn mo ke mu fb fw Ba We L U hsa hch hwh hdy hmo hLk hcd hsg hfb hfw hB9 hW9 hwn hU hti) w_4_43 w_4_45 w_0_19 w_1_1 w_4_46 hd_X11_lookAt_1 ⟨⟨(Nat.le_of_ble_eq_true rfl), (Nat.le_of_ble_eq_true rfl)⟩, (Nat.le_of_ble_eq_true rfl), (Nat.le_of_ble_eq_true rfl)⟩ hK hP hD hS hA (fmT om_25_1fffffc 0) (fmF om_25_1fffffc 0) (fm_C1 rfl rfl) (fm_R rfl rfl) (fm_nT om_25_1fffffc 0) (fm_nF om_25_1fffffc 0) (fm_di om_25_1fffffc 0) rfl rfl rfl rfl (Nat.le_of_ble_eq_true rfl) dX11_takeWeek_5 (fun r_13 u H locs hw hP hD hS => ?_)
  refine exE hw (fun sa2_1 hw1 => exE hw1 (fun ft2_2 hw2 => exE hw2 (fun fa2_3 hw3 => exE hw3 (fun fo2_4 hw4 => exE hw4 (fun fg2_5 hw5 => exE hw5 (fun fk2_6 hw6 => exE hw6 (fun z2_7 hw7 => exE hw7 (fun z3_8 hw8 => exE hw8 (fun g1_9 hw9 => exE hw9 (fun g2_10 hw10 => exE hw10 (fun g3_11 hw11 => exE hw11 (fun b_12 hw12 => anE hw12 (fun hsa2_14 hw13 => anE hw13 (fun hti2_15 hw14 => anE hw14 (fun hld2_16 hw15 => anE hw15 (fun hlv2_17 hw16 => anE hw16 (fun hb1_18 hw17 => anE hw17 (fun er_20 eu_19 => ?_))))))))))))))))))
  clear hw hw1 hw2 hw3 hw4 hw5 hw6 hw7 hw8 hw9 hw10 hw11 hw12 hw13 hw14 hw15 hw16 hw17
  subst er_20
  refine o_mgE (ws' := [ro_rrrrrrrrrrrrrrrirl x0 11 (q 0) (q 1) (q 2) (q 3) (q 4) (q 5) (q 6) (q 7) (q 8) (q 9) (q 10) (q 11) (q 12) (q 13) (q 14) hc (q 16) dr, ro_rrrrrr (q 10) 9 (q 61) (q 62) (q 63) (q 64) (q 65) (q 66), ra_N (q 61) cI 90 sa2_1, ra_I (q 62) cI 900 ft2_2, ra_I (q 63) cI 90 fa2_3, ra_I (q 64) cI 90 fo2_4, ra_J (q 65) cJ 90 fg2_5, ra_I (q 66) cI 9 fk2_6, ro_rrrrrnniin (q 5) 2 (q 44) (q 45) (q 46) (q 47) (q 48) dh mh uh rh nh, ro_rrrrnn (q 44) 0 (q 49) (q 50) (q 51) (q 52) ch wh, ra_I (q 49) cI 1600 y1, ra_J (q 50) cJ 64 z2_7, ra_J (q 51) cJ 9 z3_8, ra_J (q 52) cJ 10 y4, ra_I (q 47) cI 3 yf, ra_I (q 48) cI 3 yt, ro_rrrrrrrnn (q 11) 1 (q 10) (q 67) (q 68) (q 69) (q 70) (q 71) (q 72) dy mo, ra_I (q 67) cI 90 g1_9, ra_I (q 68) cI 9 g2_10, ra_I (q 69) cI 10 g3_11, ro_rrnnnin (q 7) 7 (q 33) (q 34) dy wn mo mu ke, ra_I (q 33) cI 9 fb, ra_I (q 34) cI 9 fw, ra_J (q 70) cJ 100 e4, ra_I rw cI 9 ra]) eu_19 hP hD rfl (fun hP hD => ?_)
  refine lv_pop hx hb dX11_takeWeek_8 rfl ?_
  have hc9 := kcC_9 (kcFo L wn Ba We U 0) (show dy ≤ 9 by omega) 0 mo
  refine lv_iload_n hx hb dX11_takeWeek_9 rfl (lv_at hl 1 rfl) ?_
  refine lv_if_lt (tgt := 26) hx hb dX11_takeWeek_10 (by decide) (fun c_21 => ?_) (fun c_21 => ?_)
  · skip
    refine lv_iconst (v := 0) hx hb dX11_takeWeek_26 ic_0 ?_
    exact sk_iret hx hb hr rfl hlocks hK hP hD hS (⟨sa2_1, ft2_2, fa2_3, fo2_4, fg2_5, fk2_6, z2_7, z3_8, g1_9, g2_10, g3_11, e4, ra, 0, hsa2_14, hti2_15, Or.inl ⟨rfl, fun x hx hq => kIn_neg (n := 2147483647) c_21 (by omega) ⟨x, by omega, hq⟩⟩, rfl, rfl⟩) (Nat.le_of_ble_eq_true rfl) (Nat.le_of_ble_eq_true rfl) dX11_takeWeek_27
  · obtain ⟨k_22, hk_22, rfl⟩ := nof k c_21
    refine lv_iload_n hx hb dX11_takeWeek_13 rfl (lv_at hl 1 rfl) ?_
    refine lv_i2l hx hb dX11_takeWeek_14 rfl ?_
    refine lv_aload_n hx hb dX11_takeWeek_15 rfl (lv_at hl 0 rfl) ?_
    refine sk_get (v := .ref (q 11)) (C := RX11) (T := TX11) (N := 18) hx hb hts inlX11 hown hK hP 0 rfl rfl 11 (Nat.le_of_ble_eq_true rfl) w_2_134 rfl dX11_takeWeek_16 ?_
    refine sk_Vl (q0 := 0) (n := 0) (rest := [.long (Int32.toInt64 (nI k_22))]) (wr := fmR om_25_1e2 _) ⟨hx, hb, hml, hown, hts⟩ hl.1 (c_kcountWays l D cI cJ cC cZ cS q dy mo g1_9 g2_10 g3_11 e4 (kcFo L wn Ba We U 0) hdy hmo hld2_16 hlv2_17) w_4_61 w_4_62 w_4_63 w_1_13 w_4_64 hd_X1_countWays_0 ⟨⟨(Nat.le_of_ble_eq_true rfl), (Nat.le_of_ble_eq_true rfl)⟩, (Nat.le_of_ble_eq_true rfl), (Nat.le_of_ble_eq_true rfl)⟩ hK hP hD hS hA (fmT om_25_1e2 0) (fmF om_25_1e2 0) (fm_C1 rfl rfl) (fm_R rfl rfl) (fm_nT om_25_1e2 0) (fm_nF om_25_1e2 0) (fm_di om_25_1e2 0) rfl rfl rfl rfl (Nat.le_of_ble_eq_true rfl) dX11_takeWeek_19 (fun r_24 u H locs hw hP hD hS => ?_)
    refine exE hw (fun g4_23 hw1 => anE hw1 (fun hwy_25 hw2 => anE hw2 (fun er_27 eu_26 => ?_)))
    clear hw hw1 hw2
    subst er_27
    refine o_mgE (ws' := [ro_rrrrrrrrrrrrrrrirl x0 11 (q 0) (q 1) (q 2) (q 3) (q 4) (q 5) (q 6) (q 7) (q 8) (q 9) (q 10) (q 11) (q 12) (q 13) (q 14) hc (q 16) dr, ro_rrrrrr (q 10) 9 (q 61) (q 62) (q 63) (q 64) (q 65) (q 66), ra_N (q 61) cI 90 sa2_1, ra_I (q 62) cI 900 ft2_2, ra_I (q 63) cI 90 fa2_3, ra_I (q 64) cI 90 fo2_4, ra_J (q 65) cJ 90 fg2_5, ra_I (q 66) cI 9 fk2_6, ro_rrrrrnniin (q 5) 2 (q 44) (q 45) (q 46) (q 47) (q 48) dh mh uh rh nh, ro_rrrrnn (q 44) 0 (q 49) (q 50) (q 51) (q 52) ch wh, ra_I (q 49) cI 1600 y1, ra_J (q 50) cJ 64 z2_7, ra_J (q 51) cJ 9 z3_8, ra_J (q 52) cJ 10 y4, ra_I (q 47) cI 3 yf, ra_I (q 48) cI 3 yt, ro_rrrrrrrnn (q 11) 1 (q 10) (q 67) (q 68) (q 69) (q 70) (q 71) (q 72) dy mo, ra_I (q 67) cI 90 g1_9, ra_I (q 68) cI 9 g2_10, ra_I (q 69) cI 10 g3_11, ro_rrnnnin (q 7) 7 (q 33) (q 34) dy wn mo mu ke, ra_I (q 33) cI 9 fb, ra_I (q 34) cI 9 fw, ra_J (q 70) cJ 100 g4_23, ra_I rw cI 9 ra]) eu_26 hP hD rfl (fun hP hD => ?_)
    refine W.lcmp hx hb dX11_takeWeek_22 ?_
    refine lv_if_lt (tgt := 28) hx hb dX11_takeWeek_23 (by decide) (fun c_28 => ?_) (fun c_28 => ?_)
    · skip
      refine lv_aload_n hx hb dX11_takeWeek_28 rfl (lv_at hl 0 rfl) ?_
      refine sk_get (v := .ref (q 11)) (C := RX11) (T := TX11) (N := 18) hx hb hts inlX11 hown hK hP 0 rfl rfl 11 (Nat.le_of_ble_eq_true rfl) w_2_134 rfl dX11_takeWeek_29 ?_
      refine lv_iload_n hx hb dX11_takeWeek_32 rfl (lv_at hl 1 rfl) ?_
      refine lv_i2l hx hb dX11_takeWeek_33 rfl ?_
      have hnx : k_22 < kcC (kcFo L wn Ba We U 0) dy 0 mo := (kcl_i (by omega) (by omega)).mp c_28
      refine sk_topl (Int64.ofNat k_22) (kx_i2l (by omega)) ?_
      refine lv_aload_n hx hb dX11_takeWeek_34 rfl (lv_at hl 2 rfl) ?_
      refine sk_Vv (q0 := 0) (n := 2) (rest := []) (wr := fmR om_25_1e3 _) ⟨hx, hb, hml, hown, hts⟩ hl.1 (c_ktakeNumbered l D cI cJ cC cZ cS q dy mo g1_9 g2_10 g3_11 g4_23 rw ra (kcFo L wn Ba We U 0) k_22 hdy hmo hld2_16 hlv2_17 hwy_25 hnx) w_4_73 w_4_74 w_4_75 w_1_13 w_4_76 hd_X1_takeNumbered_2 ⟨⟨(Nat.le_of_ble_eq_true rfl), (Nat.le_of_ble_eq_true rfl)⟩, (Nat.le_of_ble_eq_true rfl), (Nat.le_of_ble_eq_true rfl)⟩ hK hP hD hS hA (fmT om_25_1e3 0) (fmF om_25_1e3 0) (fm_C1 rfl rfl) (fm_R rfl rfl) (fm_nT om_25_1e3 0) (fm_nF om_25_1e3 0) (fm_di om_25_1e3 0) rfl rfl rfl rfl (Nat.le_of_ble_eq_true rfl) dX11_takeWeek_35 (fun u H locs hw hP hD hS => ?_)
      refine exE hw (fun ra2_29 hw1 => anE hw1 (fun hra2_30 eu_31 => ?_))
      clear hw hw1
      refine o_mgE (ws' := [ro_rrrrrrrrrrrrrrrirl x0 11 (q 0) (q 1) (q 2) (q 3) (q 4) (q 5) (q 6) (q 7) (q 8) (q 9) (q 10) (q 11) (q 12) (q 13) (q 14) hc (q 16) dr, ro_rrrrrr (q 10) 9 (q 61) (q 62) (q 63) (q 64) (q 65) (q 66), ra_N (q 61) cI 90 sa2_1, ra_I (q 62) cI 900 ft2_2, ra_I (q 63) cI 90 fa2_3, ra_I (q 64) cI 90 fo2_4, ra_J (q 65) cJ 90 fg2_5, ra_I (q 66) cI 9 fk2_6, ro_rrrrrnniin (q 5) 2 (q 44) (q 45) (q 46) (q 47) (q 48) dh mh uh rh nh, ro_rrrrnn (q 44) 0 (q 49) (q 50) (q 51) (q 52) ch wh, ra_I (q 49) cI 1600 y1, ra_J (q 50) cJ 64 z2_7, ra_J (q 51) cJ 9 z3_8, ra_J (q 52) cJ 10 y4, ra_I (q 47) cI 3 yf, ra_I (q 48) cI 3 yt, ro_rrrrrrrnn (q 11) 1 (q 10) (q 67) (q 68) (q 69) (q 70) (q 71) (q 72) dy mo, ra_I (q 67) cI 90 g1_9, ra_I (q 68) cI 9 g2_10, ra_I (q 69) cI 10 g3_11, ro_rrnnnin (q 7) 7 (q 33) (q 34) dy wn mo mu ke, ra_I (q 33) cI 9 fb, ra_I (q 34) cI 9 fw, ra_J (q 70) cJ 100 g4_23, ra_I rw cI 9 ra2_29]) eu_31 hP hD rfl (fun hP hD => ?_)
      refine lv_iconst (v := 1) hx hb dX11_takeWeek_38 ic_1 ?_
      exact sk_iret hx hb hr rfl hlocks hK hP hD hS (⟨sa2_1, ft2_2, fa2_3, fo2_4, fg2_5, fk2_6, z2_7, z3_8, g1_9, g2_10, g3_11, g4_23, ra2_29, 1, hsa2_14, hti2_15, Or.inr ⟨rfl, k_22, hnx, rfl, hra2_30⟩, rfl, rfl⟩) (Nat.le_of_ble_eq_true rfl) (Nat.le_of_ble_eq_true rfl) dX11_takeWeek_39
    · skip
      refine lv_iconst (v := 0) hx hb dX11_takeWeek_26 ic_0 ?_
      exact sk_iret hx hb hr rfl hlocks hK hP hD hS (⟨sa2_1, ft2_2, fa2_3, fo2_4, fg2_5, fk2_6, z2_7, z3_8, g1_9, g2_10, g3_11, g4_23, ra, 0, hsa2_14, hti2_15, Or.inl ⟨rfl, fun x hx hq => c_28 ((kcl_i (by omega) (by omega)).mpr (by have := (neq k_22 x (by omega) (by omega)).mp hq; omega))⟩, rfl, rfl⟩) (Nat.le_of_ble_eq_true rfl) (Nat.le_of_ble_eq_true rfl) dX11_takeWeek_27
theorem dg_X11_mood_0_0 : bqL cX11_mood 0 [(0, [42]), (1, [28]), (2, [182, 0, 170]), (5, [153, 0, 15]), (20, [2]), (21, [172]), (8, [42]), (9, [27]), (10, [42]), (11, [180, 0, 89]), (14, [182, 0, 216]), (17, [154, 0, 5]), (22, [42]), (23, [180, 0, 89]), (26, [28]), (27, [46]), (28, [172])] = true := by decide +kernel
theorem dX11_mood_0 : decode cX11_mood 0 = .ok (.aload_n 0, 1) := q_aload_n0 (bat_get dg_X11_mood_0_0 0 rfl rfl)
theorem dX11_mood_1 : decode cX11_mood 1 = .ok (.iload_n 2, 1) := q_iload_n2 (bat_get dg_X11_mood_0_0 1 rfl rfl)
theorem dX11_mood_2 : decode cX11_mood 2 = .ok (.invokevirtual 170, 3) := q_invokevirtual (bat_get dg_X11_mood_0_0 2 rfl rfl) rfl
theorem dX11_mood_5 : decode cX11_mood 5 = .ok (.ifCond .eq 15, 3) := q_ifCond_eq (bat_get dg_X11_mood_0_0 3 rfl rfl) rfl
theorem dX11_mood_20 : decode cX11_mood 20 = .ok (.iconst (-1), 1) := q_iconstm1 (bat_get dg_X11_mood_0_0 4 rfl rfl)
theorem dX11_mood_21 : decode cX11_mood 21 = .ok (.ireturn, 1) := q_ireturn (bat_get dg_X11_mood_0_0 5 rfl rfl)
theorem dX11_mood_8 : decode cX11_mood 8 = .ok (.aload_n 0, 1) := q_aload_n0 (bat_get dg_X11_mood_0_0 6 rfl rfl)
theorem dX11_mood_9 : decode cX11_mood 9 = .ok (.iload_n 1, 1) := q_iload_n1 (bat_get dg_X11_mood_0_0 7 rfl rfl)
theorem dX11_mood_10 : decode cX11_mood 10 = .ok (.aload_n 0, 1) := q_aload_n0 (bat_get dg_X11_mood_0_0 8 rfl rfl)
theorem dX11_mood_11 : decode cX11_mood 11 = .ok (.getfield 89, 3) := q_getfield (bat_get dg_X11_mood_0_0 9 rfl rfl) rfl
theorem dX11_mood_14 : decode cX11_mood 14 = .ok (.invokevirtual 216, 3) := q_invokevirtual (bat_get dg_X11_mood_0_0 10 rfl rfl) rfl
theorem dX11_mood_17 : decode cX11_mood 17 = .ok (.ifCond .ne 5, 3) := q_ifCond_ne (bat_get dg_X11_mood_0_0 11 rfl rfl) rfl
theorem dX11_mood_22 : decode cX11_mood 22 = .ok (.aload_n 0, 1) := q_aload_n0 (bat_get dg_X11_mood_0_0 12 rfl rfl)
theorem dX11_mood_23 : decode cX11_mood 23 = .ok (.getfield 89, 3) := q_getfield (bat_get dg_X11_mood_0_0 13 rfl rfl) rfl
theorem dX11_mood_26 : decode cX11_mood 26 = .ok (.iload_n 2, 1) := q_iload_n2 (bat_get dg_X11_mood_0_0 14 rfl rfl)
theorem dX11_mood_27 : decode cX11_mood 27 = .ok (.iaload, 1) := q_iaload (bat_get dg_X11_mood_0_0 15 rfl rfl)
theorem dX11_mood_28 : decode cX11_mood 28 = .ok (.ireturn, 1) := q_ireturn (bat_get dg_X11_mood_0_0 16 rfl rfl)
theorem w_4_69 : (Cond.methodLink RX11 216 yX11_takeWeek) ∈ wsL_law := sk_mem (ck_4 _ (List.mem_of_getElem? (i := 69) rfl)) rfl
theorem w_4_71 : (Cond.instanceMethod yX11_takeWeek) ∈ wsL_law := sk_mem (ck_4 _ (List.mem_of_getElem? (i := 71) rfl)) rfl
theorem w_0_21 : (Cond.selects RX11 yX11_takeWeek yX11_takeWeek) ∈ wsL_law := sk_mem (ck_0 _ (List.mem_of_getElem? (i := 21) rfl)) rfl
theorem w_4_68 : (Cond.code yX11_mood cX11_mood 3 (some .int)) ∈ wsL_law := sk_mem (ck_4 _ (List.mem_of_getElem? (i := 68) rfl)) rfl
def om_25_1000010 : List Bool := true :: false :: false :: false :: false :: false :: false :: false :: false :: false :: false :: false :: false :: false :: false :: false :: false :: false :: false :: false :: true :: false :: false :: false :: false :: []
def om_25_1ffffff : List Bool := true :: true :: true :: true :: true :: true :: true :: true :: true :: true :: true :: true :: true :: true :: true :: true :: true :: true :: true :: true :: true :: true :: true :: true :: true :: []
theorem hd_X11_takeWeek_2 : skD yX11_takeWeek 2 := by decide +kernel
set_option maxHeartbeats 4000000 in
set_option maxRecDepth 100000 in
theorem c_ky_mood (l : Launch) (D : va_G) (cI cJ cC cZ cS : ClassId) (x0 : Nat) (q : Nat → Nat) (hc : Int32) (dr : Int64) (sa : Nat → Nat) (ft : Nat → Int32) (fa : Nat → Int32) (fo : Nat → Int32) (fg : Nat → Int64) (fk : Nat → Int32) (dh : Nat) (mh : Nat) (uh : Int32) (rh : Int32) (nh : Nat) (ch : Nat) (wh : Nat) (y1 : Nat → Int32) (y2 : Nat → Int64) (y3 : Nat → Int64) (y4 : Nat → Int64) (yf : Nat → Int32) (yt : Nat → Int32) (gd : Nat) (gs : Nat) (e1 : Nat → Int32) (e2 : Nat → Int32) (e3 : Nat → Int32) (dy : Nat) (wn : Nat) (mo : Nat) (ke : Nat) (mu : Int32) (fb : Nat → Int32) (fw : Nat → Int32) (Ba : Nat → Nat) (We : Nat → Nat) (L : LkS) (U : Nat → Bool) (e4 : Nat → Int64) (ra : Nat → Int32) (k : Int32) (d : Int32) (hsa : ∀ j, sa j ≤ 9) (hch : ch ≤ 1600) (hwh : wh ≤ 1) (hdy : dy ≤ 9) (hmo : mo ≤ 9) (hgd : gd ≤ 9) (hgs : gs ≤ 9) (hLk : kcLk L) (hlq : 1 ≤ dy → cdK (lK (lkF L)) ch wh y1 ∧ ∀ v, v < 3 → sgO (lG (lkF L) v) (yf v) (yt v)) (htq : 1 ≤ dy → kcTI L sa ft fa fo fg fk) (hfb : ∀ j, j < 9 → fb j = nI (Ba j)) (hfw : ∀ j, j < 9 → fw j = nI (We j)) (hB9 : ∀ j, Ba j ≤ 9) (hW9 : ∀ j, We j ≤ 9) (hwn : wn ≤ 999) (hU : muO U mu) : skM l yX11_mood cX11_mood 3 (some .int) 7 171 0 0 D (skT cI cJ cC cZ cS) [.ref x0, .int k, .int d] [ro_rrrrrrrrrrrrrrrirl x0 11 (q 0) (q 1) (q 2) (q 3) (q 4) (q 5) (q 6) (q 7) (q 8) (q 9) (q 10) (q 11) (q 12) (q 13) (q 14) hc (q 16) dr, ro_rrrrrr (q 10) 9 (q 61) (q 62) (q 63) (q 64) (q 65) (q 66), ra_N (q 61) cI 90 sa, ra_I (q 62) cI 900 ft, ra_I (q 63) cI 90 fa, ra_I (q 64) cI 90 fo, ra_J (q 65) cJ 90 fg, ra_I (q 66) cI 9 fk, ro_rrrrrnniin (q 5) 2 (q 44) (q 45) (q 46) (q 47) (q 48) dh mh uh rh nh, ro_rrrrnn (q 44) 0 (q 49) (q 50) (q 51) (q 52) ch wh, ra_I (q 49) cI 1600 y1, ra_J (q 50) cJ 64 y2, ra_J (q 51) cJ 9 y3, ra_J (q 52) cJ 10 y4, ra_I (q 47) cI 3 yf, ra_I (q 48) cI 3 yt, ro_rrrrrrrnn (q 11) 1 (q 10) (q 67) (q 68) (q 69) (q 70) (q 71) (q 72) gd gs, ra_I (q 67) cI 90 e1, ra_I (q 68) cI 9 e2, ra_I (q 69) cI 10 e3, ro_rrnnnin (q 7) 7 (q 33) (q 34) dy wn mo mu ke, ra_I (q 33) cI 9 fb, ra_I (q 34) cI 9 fw, ra_J (q 70) cJ 100 e4, ra_I (q 12) cI 9 ra] (skI D (skT cI cJ cC cZ cS) (fun (r : Int32) (u : va_W) => ∃ (sa2 : Nat → Nat), ∃ (ft2 : Nat → Int32), ∃ (fa2 : Nat → Int32), ∃ (fo2 : Nat → Int32), ∃ (fg2 : Nat → Int64), ∃ (fk2 : Nat → Int32), ∃ (z2 : Nat → Int64), ∃ (z3 : Nat → Int64), ∃ (g1 : Nat → Int32), ∃ (g2 : Nat → Int32), ∃ (g3 : Nat → Int32), ∃ (gd2 : Nat), ∃ (gs2 : Nat), ∃ (g4 : Nat → Int64), ∃ (ra2 : Nat → Int32), (∀ j, sa2 j ≤ 9) ∧ (1 ≤ dy → kcTI L sa2 ft2 fa2 fo2 fg2 fk2) ∧ gd2 ≤ 9 ∧ gs2 ≤ 9 ∧ moodR (kcFo L wn Ba We U 0) dy mo k d r ∧ u = [ro_rrrrrrrrrrrrrrrirl x0 11 (q 0) (q 1) (q 2) (q 3) (q 4) (q 5) (q 6) (q 7) (q 8) (q 9) (q 10) (q 11) (q 12) (q 13) (q 14) hc (q 16) dr, ro_rrrrrr (q 10) 9 (q 61) (q 62) (q 63) (q 64) (q 65) (q 66), ra_N (q 61) cI 90 sa2, ra_I (q 62) cI 900 ft2, ra_I (q 63) cI 90 fa2, ra_I (q 64) cI 90 fo2, ra_J (q 65) cJ 90 fg2, ra_I (q 66) cI 9 fk2, ro_rrrrrnniin (q 5) 2 (q 44) (q 45) (q 46) (q 47) (q 48) dh mh uh rh nh, ro_rrrrnn (q 44) 0 (q 49) (q 50) (q 51) (q 52) ch wh, ra_I (q 49) cI 1600 y1, ra_J (q 50) cJ 64 z2, ra_J (q 51) cJ 9 z3, ra_J (q 52) cJ 10 y4, ra_I (q 47) cI 3 yf, ra_I (q 48) cI 3 yt, ro_rrrrrrrnn (q 11) 1 (q 10) (q 67) (q 68) (q 69) (q 70) (q 71) (q 72) gd2 gs2, ra_I (q 67) cI 90 g1, ra_I (q 68) cI 9 g2, ra_I (q 69) cI 10 g3, ro_rrnnnin (q 7) 7 (q 33) (q 34) dy wn mo mu ke, ra_I (q 33) cI 9 fb, ra_I (q 34) cI 9 fw, ra_J (q 70) cJ 100 g4, ra_I (q 12) cI 9 ra2])) := by
  refine skM_of pf_X11_mood (Nat.le_of_ble_eq_true rfl) ?_
  intro p e s m below meth c A ls E hP hD hl
  refine skE_el E (fun hx hb hr hml hlocks hin hown hts hK hA => ?_)
  have hown : s.vm.findClass RX11 = some m.cls := hown
  have hS : va_S A s.heap s.heap [] := va_S.rf
  have hl : lv_has ls 3 [(0, .ref x0), (1, .int k), (2, .int d)] := hl
  refine lv_aload_n hx hb dX11_mood_0 rfl (lv_at hl 0 rfl) ?_
  refine lv_iload_n hx hb dX11_mood_1 rfl (lv_at hl 2 rfl) ?_
  refine sk_Vi (q0 := 0) (n := 1) (rest := []) (wr := fmR om_25_1000010 _) ⟨hx, hb, hml, hown, hts⟩ hl.1 (c_kx_isDay l D cI cJ cC cZ cS x0 q hc dr dy wn mo ke mu fb fw d hdy) w_3_190 w_3_192 w_0_14 w_1_1 w_3_193 hd_X11_isDay_1 ⟨⟨(Nat.le_of_ble_eq_true rfl), (Nat.le_of_ble_eq_true rfl)⟩, (Nat.le_of_ble_eq_true rfl), (Nat.le_of_ble_eq_true rfl)⟩ hK hP hD hS hA (fmT om_25_1000010 0) (fmF om_25_1000010 0) (fm_C1 rfl rfl) (fm_R rfl rfl) (fm_nT om_25_1000010 0) (fm_nF om_25_1000010 0) (fm_di om_25_1000010 0) rfl rfl rfl rfl (Nat.le_of_ble_eq_true rfl) dX11_mood_2 (fun r_2 u H locs hw hP hD hS => ?_)
  refine exE hw (fun b_1 hw1 => anE hw1 (fun hb1_3 hw2 => anE hw2 (fun er_5 eu_4 => ?_)))
  clear hw hw1 hw2
  subst er_5
  refine o_mgE (ws' := [ro_rrrrrrrrrrrrrrrirl x0 11 (q 0) (q 1) (q 2) (q 3) (q 4) (q 5) (q 6) (q 7) (q 8) (q 9) (q 10) (q 11) (q 12) (q 13) (q 14) hc (q 16) dr, ro_rrrrrr (q 10) 9 (q 61) (q 62) (q 63) (q 64) (q 65) (q 66), ra_N (q 61) cI 90 sa, ra_I (q 62) cI 900 ft, ra_I (q 63) cI 90 fa, ra_I (q 64) cI 90 fo, ra_J (q 65) cJ 90 fg, ra_I (q 66) cI 9 fk, ro_rrrrrnniin (q 5) 2 (q 44) (q 45) (q 46) (q 47) (q 48) dh mh uh rh nh, ro_rrrrnn (q 44) 0 (q 49) (q 50) (q 51) (q 52) ch wh, ra_I (q 49) cI 1600 y1, ra_J (q 50) cJ 64 y2, ra_J (q 51) cJ 9 y3, ra_J (q 52) cJ 10 y4, ra_I (q 47) cI 3 yf, ra_I (q 48) cI 3 yt, ro_rrrrrrrnn (q 11) 1 (q 10) (q 67) (q 68) (q 69) (q 70) (q 71) (q 72) gd gs, ra_I (q 67) cI 90 e1, ra_I (q 68) cI 9 e2, ra_I (q 69) cI 10 e3, ro_rrnnnin (q 7) 7 (q 33) (q 34) dy wn mo mu ke, ra_I (q 33) cI 9 fb, ra_I (q 34) cI 9 fw, ra_J (q 70) cJ 100 e4, ra_I (q 12) cI 9 ra]) eu_4 hP hD rfl (fun hP hD => ?_)
  refine lv_if_eq (tgt := 20) hx hb dX11_mood_5 (by decide) (fun c_6 => ?_) (fun c_6 => ?_)
  · have c_6 : b_1 = 0 := (neq b_1 0 (by omega) (Nat.le_of_ble_eq_true rfl)).mp c_6
    refine lv_iconst (v := (-1)) hx hb dX11_mood_20 (by decide) ?_
    exact sk_iret hx hb hr rfl hlocks hK hP hD hS (⟨sa, ft, fa, fo, fg, fk, y2, y3, e1, e2, e3, gd, gs, e4, ra, hsa, htq, hgd, hgs, mood_0 (rr_0 hb1_3 (by omega)), rfl⟩) (Nat.le_of_ble_eq_true rfl) (Nat.le_of_ble_eq_true rfl) dX11_mood_21
  · have c_6 : ¬ (b_1 = 0) := fun h => c_6 ((neq b_1 0 (by omega) (Nat.le_of_ble_eq_true rfl)).mpr h)
    obtain ⟨kd_7, hkd_7, rfl⟩ := rr_1 hb1_3 (by omega)
    refine lv_aload_n hx hb dX11_mood_8 rfl (lv_at hl 0 rfl) ?_
    refine lv_iload_n hx hb dX11_mood_9 rfl (lv_at hl 1 rfl) ?_
    refine lv_aload_n hx hb dX11_mood_10 rfl (lv_at hl 0 rfl) ?_
    refine sk_get (v := .ref (q 12)) (C := RX11) (T := TX11) (N := 18) hx hb hts inlX11 hown hK hP 0 rfl rfl 12 (Nat.le_of_ble_eq_true rfl) w_2_135 rfl dX11_mood_11 ?_
    refine sk_Vi (q0 := 0) (n := 2) (rest := []) (wr := fmR om_25_1ffffff _) ⟨hx, hb, hml, hown, hts⟩ hl.1 (c_kx_takeWeek l D cI cJ cC cZ cS x0 q hc dr sa ft fa fo fg fk dh mh uh rh nh ch wh y1 y2 y3 y4 yf yt gd gs e1 e2 e3 dy wn mo ke mu fb fw Ba We L U e4 (q 12) ra k hsa hch hwh hdy hmo hLk (hlq (by omega)).1 (hlq (by omega)).2 hfb hfw hB9 hW9 hwn hU (htq (by omega))) w_4_69 w_4_71 w_0_21 w_1_1 w_4_72 hd_X11_takeWeek_2 ⟨⟨(Nat.le_of_ble_eq_true rfl), (Nat.le_of_ble_eq_true rfl)⟩, (Nat.le_of_ble_eq_true rfl), (Nat.le_of_ble_eq_true rfl)⟩ hK hP hD hS hA (fmT om_25_1ffffff 0) (fmF om_25_1ffffff 0) (fm_C1 rfl rfl) (fm_R rfl rfl) (fm_nT om_25_1ffffff 0) (fm_nF om_25_1ffffff 0) (fm_di om_25_1ffffff 0) rfl rfl rfl rfl (Nat.le_of_ble_eq_true rfl) dX11_mood_14 (fun r_22 u H locs hw hP hD hS => ?_)
    refine exE hw (fun sa2_8 hw1 => exE hw1 (fun ft2_9 hw2 => exE hw2 (fun fa2_10 hw3 => exE hw3 (fun fo2_11 hw4 => exE hw4 (fun fg2_12 hw5 => exE hw5 (fun fk2_13 hw6 => exE hw6 (fun z2_14 hw7 => exE hw7 (fun z3_15 hw8 => exE hw8 (fun g1_16 hw9 => exE hw9 (fun g2_17 hw10 => exE hw10 (fun g3_18 hw11 => exE hw11 (fun g4_19 hw12 => exE hw12 (fun ra2_20 hw13 => exE hw13 (fun b_21 hw14 => anE hw14 (fun hsa2_23 hw15 => anE hw15 (fun hti2_24 hw16 => anE hw16 (fun htw_25 hw17 => anE hw17 (fun er_27 eu_26 => ?_))))))))))))))))))
    clear hw hw1 hw2 hw3 hw4 hw5 hw6 hw7 hw8 hw9 hw10 hw11 hw12 hw13 hw14 hw15 hw16 hw17
    subst er_27
    refine o_mgE (ws' := [ro_rrrrrrrrrrrrrrrirl x0 11 (q 0) (q 1) (q 2) (q 3) (q 4) (q 5) (q 6) (q 7) (q 8) (q 9) (q 10) (q 11) (q 12) (q 13) (q 14) hc (q 16) dr, ro_rrrrrr (q 10) 9 (q 61) (q 62) (q 63) (q 64) (q 65) (q 66), ra_N (q 61) cI 90 sa2_8, ra_I (q 62) cI 900 ft2_9, ra_I (q 63) cI 90 fa2_10, ra_I (q 64) cI 90 fo2_11, ra_J (q 65) cJ 90 fg2_12, ra_I (q 66) cI 9 fk2_13, ro_rrrrrnniin (q 5) 2 (q 44) (q 45) (q 46) (q 47) (q 48) dh mh uh rh nh, ro_rrrrnn (q 44) 0 (q 49) (q 50) (q 51) (q 52) ch wh, ra_I (q 49) cI 1600 y1, ra_J (q 50) cJ 64 z2_14, ra_J (q 51) cJ 9 z3_15, ra_J (q 52) cJ 10 y4, ra_I (q 47) cI 3 yf, ra_I (q 48) cI 3 yt, ro_rrrrrrrnn (q 11) 1 (q 10) (q 67) (q 68) (q 69) (q 70) (q 71) (q 72) dy mo, ra_I (q 67) cI 90 g1_16, ra_I (q 68) cI 9 g2_17, ra_I (q 69) cI 10 g3_18, ro_rrnnnin (q 7) 7 (q 33) (q 34) dy wn mo mu ke, ra_I (q 33) cI 9 fb, ra_I (q 34) cI 9 fw, ra_J (q 70) cJ 100 g4_19, ra_I (q 12) cI 9 ra2_20]) eu_26 hP hD rfl (fun hP hD => ?_)
    refine lv_if_ne (tgt := 22) hx hb dX11_mood_17 (by decide) (fun c_28 => ?_) (fun c_28 => ?_)
    · have c_28 : ¬ (b_21 = 0) := fun h => c_28 ((neq b_21 0 (by omega) (Nat.le_of_ble_eq_true rfl)).mpr h)
      obtain ⟨kx_29, hkx_29, rfl, rkx_29⟩ := rr_1 htw_25 (by omega)
      refine lv_aload_n hx hb dX11_mood_22 rfl (lv_at hl 0 rfl) ?_
      refine sk_get (v := .ref (q 12)) (C := RX11) (T := TX11) (N := 18) hx hb hts inlX11 hown hK hP 0 rfl rfl 12 (Nat.le_of_ble_eq_true rfl) w_2_135 rfl dX11_mood_23 ?_
      refine lv_iload_n hx hb dX11_mood_26 rfl (lv_at hl 2 rfl) ?_
      refine va_iald hx hb hK.1 hP 24 0 rfl rfl (vin kd_7 9 (by omega) (Nat.le_of_ble_eq_true rfl)) dX11_mood_27 ?_
      refine sk_top (nI (kcM (kcFo L wn Ba We U 0) dy mo kx_29 kd_7)) (by rw [nI_clamp (by omega)]; exact rkx_29 kd_7 (by omega)) ?_
      exact sk_iret hx hb hr rfl hlocks hK hP hD hS (⟨sa2_8, ft2_9, fa2_10, fo2_11, fg2_12, fk2_13, z2_14, z3_15, g1_16, g2_17, g3_18, dy, mo, g4_19, ra2_20, hsa2_23, (fun _ => hti2_24), hdy, hmo, mood_2 hkd_7 hkx_29 rfl, rfl⟩) (Nat.le_of_ble_eq_true rfl) (Nat.le_of_ble_eq_true rfl) dX11_mood_28
    · have c_28 : b_21 = 0 := (neq b_21 0 (by omega) (Nat.le_of_ble_eq_true rfl)).mp c_28
      refine lv_iconst (v := (-1)) hx hb dX11_mood_20 (by decide) ?_
      exact sk_iret hx hb hr rfl hlocks hK hP hD hS (⟨sa2_8, ft2_9, fa2_10, fo2_11, fg2_12, fk2_13, z2_14, z3_15, g1_16, g2_17, g3_18, dy, mo, g4_19, ra2_20, hsa2_23, (fun _ => hti2_24), hdy, hmo, mood_1 (rr_0 htw_25 (by omega)), rfl⟩) (Nat.le_of_ble_eq_true rfl) (Nat.le_of_ble_eq_true rfl) dX11_mood_21
theorem dg_X11_many_0_0 : bqL cX11_many 0 [(0, [42]), (1, [27]), (2, [182, 0, 170]), (5, [153, 0, 10]), (15, [20, 0, 198]), (18, [173]), (8, [28]), (9, [184, 0, 182]), (12, [154, 0, 7]), (19, [42]), (20, [42]), (21, [180, 0, 59]), (24, [182, 0, 208]), (27, [87]), (28, [42]), (29, [180, 0, 85]), (32, [182, 0, 212]), (35, [88]), (36, [42]), (37, [180, 0, 85]), (40, [182, 0, 220]), (43, [42]), (44, [180, 0, 85]), (47, [27]), (48, [28]), (49, [182, 0, 223]), (52, [173])] = true := by decide +kernel
theorem dX11_many_0 : decode cX11_many 0 = .ok (.aload_n 0, 1) := q_aload_n0 (bat_get dg_X11_many_0_0 0 rfl rfl)
theorem dX11_many_1 : decode cX11_many 1 = .ok (.iload_n 1, 1) := q_iload_n1 (bat_get dg_X11_many_0_0 1 rfl rfl)
theorem dX11_many_2 : decode cX11_many 2 = .ok (.invokevirtual 170, 3) := q_invokevirtual (bat_get dg_X11_many_0_0 2 rfl rfl) rfl
theorem dX11_many_5 : decode cX11_many 5 = .ok (.ifCond .eq 10, 3) := q_ifCond_eq (bat_get dg_X11_many_0_0 3 rfl rfl) rfl
theorem dX11_many_15 : decode cX11_many 15 = .ok (.ldc2_w 198, 3) := q_ldc2_w (bat_get dg_X11_many_0_0 4 rfl rfl) rfl
theorem dX11_many_18 : decode cX11_many 18 = .ok (.lreturn, 1) := q_lreturn (bat_get dg_X11_many_0_0 5 rfl rfl)
theorem dX11_many_8 : decode cX11_many 8 = .ok (.iload_n 2, 1) := q_iload_n2 (bat_get dg_X11_many_0_0 6 rfl rfl)
theorem dX11_many_9 : decode cX11_many 9 = .ok (.invokestatic 182, 3) := q_invokestatic (bat_get dg_X11_many_0_0 7 rfl rfl) rfl
theorem dX11_many_12 : decode cX11_many 12 = .ok (.ifCond .ne 7, 3) := q_ifCond_ne (bat_get dg_X11_many_0_0 8 rfl rfl) rfl
theorem dX11_many_19 : decode cX11_many 19 = .ok (.aload_n 0, 1) := q_aload_n0 (bat_get dg_X11_many_0_0 9 rfl rfl)
theorem dX11_many_20 : decode cX11_many 20 = .ok (.aload_n 0, 1) := q_aload_n0 (bat_get dg_X11_many_0_0 10 rfl rfl)
theorem dX11_many_21 : decode cX11_many 21 = .ok (.getfield 59, 3) := q_getfield (bat_get dg_X11_many_0_0 11 rfl rfl) rfl
theorem dX11_many_24 : decode cX11_many 24 = .ok (.invokevirtual 208, 3) := q_invokevirtual (bat_get dg_X11_many_0_0 12 rfl rfl) rfl
theorem dX11_many_27 : decode cX11_many 27 = .ok (.pop, 1) := q_pop (bat_get dg_X11_many_0_0 13 rfl rfl)
theorem dX11_many_28 : decode cX11_many 28 = .ok (.aload_n 0, 1) := q_aload_n0 (bat_get dg_X11_many_0_0 14 rfl rfl)
theorem dX11_many_29 : decode cX11_many 29 = .ok (.getfield 85, 3) := q_getfield (bat_get dg_X11_many_0_0 15 rfl rfl) rfl
theorem dX11_many_32 : decode cX11_many 32 = .ok (.invokevirtual 212, 3) := q_invokevirtual (bat_get dg_X11_many_0_0 16 rfl rfl) rfl
theorem dX11_many_35 : decode cX11_many 35 = .ok (.pop2, 1) := q_pop2 (bat_get dg_X11_many_0_0 17 rfl rfl)
theorem dX11_many_36 : decode cX11_many 36 = .ok (.aload_n 0, 1) := q_aload_n0 (bat_get dg_X11_many_0_0 18 rfl rfl)
theorem dX11_many_37 : decode cX11_many 37 = .ok (.getfield 85, 3) := q_getfield (bat_get dg_X11_many_0_0 19 rfl rfl) rfl
theorem dX11_many_40 : decode cX11_many 40 = .ok (.invokevirtual 220, 3) := q_invokevirtual (bat_get dg_X11_many_0_0 20 rfl rfl) rfl
theorem dX11_many_43 : decode cX11_many 43 = .ok (.aload_n 0, 1) := q_aload_n0 (bat_get dg_X11_many_0_0 21 rfl rfl)
theorem dX11_many_44 : decode cX11_many 44 = .ok (.getfield 85, 3) := q_getfield (bat_get dg_X11_many_0_0 22 rfl rfl) rfl
theorem dX11_many_47 : decode cX11_many 47 = .ok (.iload_n 1, 1) := q_iload_n1 (bat_get dg_X11_many_0_0 23 rfl rfl)
theorem dX11_many_48 : decode cX11_many 48 = .ok (.iload_n 2, 1) := q_iload_n2 (bat_get dg_X11_many_0_0 24 rfl rfl)
theorem dX11_many_49 : decode cX11_many 49 = .ok (.invokevirtual 223, 3) := q_invokevirtual (bat_get dg_X11_many_0_0 25 rfl rfl) rfl
theorem dX11_many_52 : decode cX11_many 52 = .ok (.lreturn, 1) := q_lreturn (bat_get dg_X11_many_0_0 26 rfl rfl)
theorem w_4_81 : (Cond.methodLink RX11 220 yX1_countComings) ∈ wsL_law := sk_mem (ck_4 _ (List.mem_of_getElem? (i := 81) rfl)) rfl
theorem w_4_82 : (Cond.instanceMethod yX1_countComings) ∈ wsL_law := sk_mem (ck_4 _ (List.mem_of_getElem? (i := 82) rfl)) rfl
theorem w_4_83 : (Cond.selects RX1 yX1_countComings yX1_countComings) ∈ wsL_law := sk_mem (ck_4 _ (List.mem_of_getElem? (i := 83) rfl)) rfl
theorem w_4_88 : (Cond.methodLink RX11 223 yX1_timesOf) ∈ wsL_law := sk_mem (ck_4 _ (List.mem_of_getElem? (i := 88) rfl)) rfl
theorem w_4_80 : (Cond.code yX11_many cX11_many 3 (some .long)) ∈ wsL_law := sk_mem (ck_4 _ (List.mem_of_getElem? (i := 80) rfl)) rfl
def om_25_1e1 : List Bool := false :: false :: false :: false :: false :: false :: false :: false :: false :: false :: false :: false :: false :: false :: false :: false :: true :: true :: true :: true :: false :: false :: false :: false :: true :: []
def om_25_103 : List Bool := false :: false :: false :: false :: false :: false :: false :: false :: false :: false :: false :: false :: false :: false :: false :: false :: true :: false :: false :: false :: false :: false :: false :: true :: true :: []
theorem hd_X1_countComings_0 : skD yX1_countComings 0 := by decide +kernel
set_option maxHeartbeats 4000000 in
set_option maxRecDepth 100000 in
theorem c_ky_many (l : Launch) (D : va_G) (cI cJ cC cZ cS : ClassId) (x0 : Nat) (q : Nat → Nat) (hc : Int32) (dr : Int64) (sa : Nat → Nat) (ft : Nat → Int32) (fa : Nat → Int32) (fo : Nat → Int32) (fg : Nat → Int64) (fk : Nat → Int32) (dh : Nat) (mh : Nat) (uh : Int32) (rh : Int32) (nh : Nat) (ch : Nat) (wh : Nat) (y1 : Nat → Int32) (y2 : Nat → Int64) (y3 : Nat → Int64) (y4 : Nat → Int64) (yf : Nat → Int32) (yt : Nat → Int32) (gd : Nat) (gs : Nat) (e1 : Nat → Int32) (e2 : Nat → Int32) (e3 : Nat → Int32) (dy : Nat) (wn : Nat) (mo : Nat) (ke : Nat) (mu : Int32) (fb : Nat → Int32) (fw : Nat → Int32) (Ba : Nat → Nat) (We : Nat → Nat) (L : LkS) (U : Nat → Bool) (e4 : Nat → Int64) (e5 : Nat → Int64) (d : Int32) (o : Int32) (hsa : ∀ j, sa j ≤ 9) (hch : ch ≤ 1600) (hwh : wh ≤ 1) (hdy : dy ≤ 9) (hmo : mo ≤ 9) (hgd : gd ≤ 9) (hgs : gs ≤ 9) (hLk : kcLk L) (hlq : 1 ≤ dy → cdK (lK (lkF L)) ch wh y1 ∧ ∀ v, v < 3 → sgO (lG (lkF L) v) (yf v) (yt v)) (htq : 1 ≤ dy → kcTI L sa ft fa fo fg fk) (hfb : ∀ j, j < 9 → fb j = nI (Ba j)) (hfw : ∀ j, j < 9 → fw j = nI (We j)) (hB9 : ∀ j, Ba j ≤ 9) (hW9 : ∀ j, We j ≤ 9) (hwn : wn ≤ 999) (hU : muO U mu) : skM l yX11_many cX11_many 3 (some .long) 6 149 0 0 D (skT cI cJ cC cZ cS) [.ref x0, .int d, .int o] [ro_rrrrrrrrrrrrrrrirl x0 11 (q 0) (q 1) (q 2) (q 3) (q 4) (q 5) (q 6) (q 7) (q 8) (q 9) (q 10) (q 11) (q 12) (q 13) (q 14) hc (q 16) dr, ro_rrrrrr (q 10) 9 (q 61) (q 62) (q 63) (q 64) (q 65) (q 66), ra_N (q 61) cI 90 sa, ra_I (q 62) cI 900 ft, ra_I (q 63) cI 90 fa, ra_I (q 64) cI 90 fo, ra_J (q 65) cJ 90 fg, ra_I (q 66) cI 9 fk, ro_rrrrrnniin (q 5) 2 (q 44) (q 45) (q 46) (q 47) (q 48) dh mh uh rh nh, ro_rrrrnn (q 44) 0 (q 49) (q 50) (q 51) (q 52) ch wh, ra_I (q 49) cI 1600 y1, ra_J (q 50) cJ 64 y2, ra_J (q 51) cJ 9 y3, ra_J (q 52) cJ 10 y4, ra_I (q 47) cI 3 yf, ra_I (q 48) cI 3 yt, ro_rrrrrrrnn (q 11) 1 (q 10) (q 67) (q 68) (q 69) (q 70) (q 71) (q 72) gd gs, ra_I (q 67) cI 90 e1, ra_I (q 68) cI 9 e2, ra_I (q 69) cI 10 e3, ro_rrnnnin (q 7) 7 (q 33) (q 34) dy wn mo mu ke, ra_I (q 33) cI 9 fb, ra_I (q 34) cI 9 fw, ra_J (q 70) cJ 100 e4, ra_J (q 71) cJ 100 e5] (skL D (skT cI cJ cC cZ cS) (fun (r : Int64) (u : va_W) => ∃ (sa2 : Nat → Nat), ∃ (ft2 : Nat → Int32), ∃ (fa2 : Nat → Int32), ∃ (fo2 : Nat → Int32), ∃ (fg2 : Nat → Int64), ∃ (fk2 : Nat → Int32), ∃ (z2 : Nat → Int64), ∃ (z3 : Nat → Int64), ∃ (g1 : Nat → Int32), ∃ (g2 : Nat → Int32), ∃ (g3 : Nat → Int32), ∃ (gd2 : Nat), ∃ (gs2 : Nat), ∃ (g4 : Nat → Int64), ∃ (g5 : Nat → Int64), (∀ j, sa2 j ≤ 9) ∧ (1 ≤ dy → kcTI L sa2 ft2 fa2 fo2 fg2 fk2) ∧ gd2 ≤ 9 ∧ gs2 ≤ 9 ∧ u = [ro_rrrrrrrrrrrrrrrirl x0 11 (q 0) (q 1) (q 2) (q 3) (q 4) (q 5) (q 6) (q 7) (q 8) (q 9) (q 10) (q 11) (q 12) (q 13) (q 14) hc (q 16) dr, ro_rrrrrr (q 10) 9 (q 61) (q 62) (q 63) (q 64) (q 65) (q 66), ra_N (q 61) cI 90 sa2, ra_I (q 62) cI 900 ft2, ra_I (q 63) cI 90 fa2, ra_I (q 64) cI 90 fo2, ra_J (q 65) cJ 90 fg2, ra_I (q 66) cI 9 fk2, ro_rrrrrnniin (q 5) 2 (q 44) (q 45) (q 46) (q 47) (q 48) dh mh uh rh nh, ro_rrrrnn (q 44) 0 (q 49) (q 50) (q 51) (q 52) ch wh, ra_I (q 49) cI 1600 y1, ra_J (q 50) cJ 64 z2, ra_J (q 51) cJ 9 z3, ra_J (q 52) cJ 10 y4, ra_I (q 47) cI 3 yf, ra_I (q 48) cI 3 yt, ro_rrrrrrrnn (q 11) 1 (q 10) (q 67) (q 68) (q 69) (q 70) (q 71) (q 72) gd2 gs2, ra_I (q 67) cI 90 g1, ra_I (q 68) cI 9 g2, ra_I (q 69) cI 10 g3, ro_rrnnnin (q 7) 7 (q 33) (q 34) dy wn mo mu ke, ra_I (q 33) cI 9 fb, ra_I (q 34) cI 9 fw, ra_J (q 70) cJ 100 g4, ra_J (q 71) cJ 100 g5])) := by
  refine skM_of pf_X11_many (Nat.le_of_ble_eq_true rfl) ?_
  intro p e s m below meth c A ls E hP hD hl
  refine skE_el E (fun hx hb hr hml hlocks hin hown hts hK hA => ?_)
  have hown : s.vm.findClass RX11 = some m.cls := hown
  have hS : va_S A s.heap s.heap [] := va_S.rf
  have hl : lv_has ls 3 [(0, .ref x0), (1, .int d), (2, .int o)] := hl
  refine lv_aload_n hx hb dX11_many_0 rfl (lv_at hl 0 rfl) ?_
  refine lv_iload_n hx hb dX11_many_1 rfl (lv_at hl 1 rfl) ?_
  refine sk_Vi (q0 := 0) (n := 1) (rest := []) (wr := fmR om_25_1000010 _) ⟨hx, hb, hml, hown, hts⟩ hl.1 (c_kx_isDay l D cI cJ cC cZ cS x0 q hc dr dy wn mo ke mu fb fw d hdy) w_3_190 w_3_192 w_0_14 w_1_1 w_3_193 hd_X11_isDay_1 ⟨⟨(Nat.le_of_ble_eq_true rfl), (Nat.le_of_ble_eq_true rfl)⟩, (Nat.le_of_ble_eq_true rfl), (Nat.le_of_ble_eq_true rfl)⟩ hK hP hD hS hA (fmT om_25_1000010 0) (fmF om_25_1000010 0) (fm_C1 rfl rfl) (fm_R rfl rfl) (fm_nT om_25_1000010 0) (fm_nF om_25_1000010 0) (fm_di om_25_1000010 0) rfl rfl rfl rfl (Nat.le_of_ble_eq_true rfl) dX11_many_2 (fun r_2 u H locs hw hP hD hS => ?_)
  refine exE hw (fun b_1 hw1 => anE hw1 (fun hb1_3 hw2 => anE hw2 (fun er_5 eu_4 => ?_)))
  clear hw hw1 hw2
  subst er_5
  refine o_mgE (ws' := [ro_rrrrrrrrrrrrrrrirl x0 11 (q 0) (q 1) (q 2) (q 3) (q 4) (q 5) (q 6) (q 7) (q 8) (q 9) (q 10) (q 11) (q 12) (q 13) (q 14) hc (q 16) dr, ro_rrrrrr (q 10) 9 (q 61) (q 62) (q 63) (q 64) (q 65) (q 66), ra_N (q 61) cI 90 sa, ra_I (q 62) cI 900 ft, ra_I (q 63) cI 90 fa, ra_I (q 64) cI 90 fo, ra_J (q 65) cJ 90 fg, ra_I (q 66) cI 9 fk, ro_rrrrrnniin (q 5) 2 (q 44) (q 45) (q 46) (q 47) (q 48) dh mh uh rh nh, ro_rrrrnn (q 44) 0 (q 49) (q 50) (q 51) (q 52) ch wh, ra_I (q 49) cI 1600 y1, ra_J (q 50) cJ 64 y2, ra_J (q 51) cJ 9 y3, ra_J (q 52) cJ 10 y4, ra_I (q 47) cI 3 yf, ra_I (q 48) cI 3 yt, ro_rrrrrrrnn (q 11) 1 (q 10) (q 67) (q 68) (q 69) (q 70) (q 71) (q 72) gd gs, ra_I (q 67) cI 90 e1, ra_I (q 68) cI 9 e2, ra_I (q 69) cI 10 e3, ro_rrnnnin (q 7) 7 (q 33) (q 34) dy wn mo mu ke, ra_I (q 33) cI 9 fb, ra_I (q 34) cI 9 fw, ra_J (q 70) cJ 100 e4, ra_J (q 71) cJ 100 e5]) eu_4 hP hD rfl (fun hP hD => ?_)
  refine lv_if_eq (tgt := 15) hx hb dX11_many_5 (by decide) (fun c_6 => ?_) (fun c_6 => ?_)
  · have c_6 : b_1 = 0 := (neq b_1 0 (by omega) (Nat.le_of_ble_eq_true rfl)).mp c_6
    refine lv_ldc2 (v := (-1000000000000000)) hx hb hown (hts _ w_4_29) dX11_many_15 ?_
    exact sk_lret hx hb hr hlocks hK hP hD hS (⟨sa, ft, fa, fo, fg, fk, y2, y3, e1, e2, e3, gd, gs, e4, e5, hsa, htq, hgd, hgs, rfl⟩) (Nat.le_of_ble_eq_true rfl) (Nat.le_of_ble_eq_true rfl) dX11_many_18
  · have c_6 : ¬ (b_1 = 0) := fun h => c_6 ((neq b_1 0 (by omega) (Nat.le_of_ble_eq_true rfl)).mpr h)
    obtain ⟨kd_7, hkd_7, rfl⟩ := rr_1 hb1_3 (by omega)
    refine lv_iload_n hx hb dX11_many_8 rfl (lv_at hl 2 rfl) ?_
    refine sk_Si (n := 1) (rest := []) (wr := [ro_rrrrrrrrrrrrrrrirl x0 11 (q 0) (q 1) (q 2) (q 3) (q 4) (q 5) (q 6) (q 7) (q 8) (q 9) (q 10) (q 11) (q 12) (q 13) (q 14) hc (q 16) dr, ro_rrrrrr (q 10) 9 (q 61) (q 62) (q 63) (q 64) (q 65) (q 66), ra_N (q 61) cI 90 sa, ra_I (q 62) cI 900 ft, ra_I (q 63) cI 90 fa, ra_I (q 64) cI 90 fo, ra_J (q 65) cJ 90 fg, ra_I (q 66) cI 9 fk, ro_rrrrrnniin (q 5) 2 (q 44) (q 45) (q 46) (q 47) (q 48) dh mh uh rh nh, ro_rrrrnn (q 44) 0 (q 49) (q 50) (q 51) (q 52) ch wh, ra_I (q 49) cI 1600 y1, ra_J (q 50) cJ 64 y2, ra_J (q 51) cJ 9 y3, ra_J (q 52) cJ 10 y4, ra_I (q 47) cI 3 yf, ra_I (q 48) cI 3 yt, ro_rrrrrrrnn (q 11) 1 (q 10) (q 67) (q 68) (q 69) (q 70) (q 71) (q 72) gd gs, ra_I (q 67) cI 90 e1, ra_I (q 68) cI 9 e2, ra_I (q 69) cI 10 e3, ro_rrnnnin (q 7) 7 (q 33) (q 34) dy wn mo mu ke, ra_I (q 33) cI 9 fb, ra_I (q 34) cI 9 fw, ra_J (q 70) cJ 100 e4, ra_J (q 71) cJ 100 e5]) ⟨hx, hb, hml, hown, hts⟩ hl.1 (c_kx_isDigit l D cI cJ cC cZ cS o) w_3_202 w_3_203 w_1_1 w_3_204 hd_X11_isDigit_1 ⟨⟨(Nat.le_of_ble_eq_true rfl), (Nat.le_of_ble_eq_true rfl)⟩, (Nat.le_of_ble_eq_true rfl), (Nat.le_of_ble_eq_true rfl)⟩ hK hP hD hS hA [] [0, 1, 2, 3, 4, 5, 6, 7, 8, 9, 10, 11, 12, 13, 14, 15, 16, 17, 18, 19, 20, 21, 22, 23, 24] rfl rfl (by decide +kernel) (by decide +kernel) (by decide +kernel) rfl rfl (Nat.le_of_ble_eq_true rfl) dX11_many_9 (fun r_9 u H locs hw hP hD hS => ?_)
    obtain ⟨b_8, hb1_10, rfl, rfl⟩ := hw
    refine o_re (ws' := [ro_rrrrrrrrrrrrrrrirl x0 11 (q 0) (q 1) (q 2) (q 3) (q 4) (q 5) (q 6) (q 7) (q 8) (q 9) (q 10) (q 11) (q 12) (q 13) (q 14) hc (q 16) dr, ro_rrrrrr (q 10) 9 (q 61) (q 62) (q 63) (q 64) (q 65) (q 66), ra_N (q 61) cI 90 sa, ra_I (q 62) cI 900 ft, ra_I (q 63) cI 90 fa, ra_I (q 64) cI 90 fo, ra_J (q 65) cJ 90 fg, ra_I (q 66) cI 9 fk, ro_rrrrrnniin (q 5) 2 (q 44) (q 45) (q 46) (q 47) (q 48) dh mh uh rh nh, ro_rrrrnn (q 44) 0 (q 49) (q 50) (q 51) (q 52) ch wh, ra_I (q 49) cI 1600 y1, ra_J (q 50) cJ 64 y2, ra_J (q 51) cJ 9 y3, ra_J (q 52) cJ 10 y4, ra_I (q 47) cI 3 yf, ra_I (q 48) cI 3 yt, ro_rrrrrrrnn (q 11) 1 (q 10) (q 67) (q 68) (q 69) (q 70) (q 71) (q 72) gd gs, ra_I (q 67) cI 90 e1, ra_I (q 68) cI 9 e2, ra_I (q 69) cI 10 e3, ro_rrnnnin (q 7) 7 (q 33) (q 34) dy wn mo mu ke, ra_I (q 33) cI 9 fb, ra_I (q 34) cI 9 fw, ra_J (q 70) cJ 100 e4, ra_J (q 71) cJ 100 e5]) hP hD rfl (fun hP hD => ?_)
    refine lv_if_ne (tgt := 19) hx hb dX11_many_12 (by decide) (fun c_11 => ?_) (fun c_11 => ?_)
    · have c_11 : ¬ (b_8 = 0) := fun h => c_11 ((neq b_8 0 (by omega) (Nat.le_of_ble_eq_true rfl)).mpr h)
      obtain ⟨kd_12, hkd_12, rfl⟩ := rr_1 hb1_10 (by omega)
      refine lv_aload_n hx hb dX11_many_19 rfl (lv_at hl 0 rfl) ?_
      refine lv_aload_n hx hb dX11_many_20 rfl (lv_at hl 0 rfl) ?_
      refine sk_get (v := .ref (q 7)) (C := RX11) (T := TX11) (N := 18) hx hb hts inlX11 hown hK hP 0 rfl rfl 7 (Nat.le_of_ble_eq_true rfl) w_2_130 rfl dX11_many_21 ?_
      refine sk_Vi (q0 := 0) (n := 1) (rest := []) (wr := fmR om_25_1fffffc _) ⟨hx, hb, hml, hown, hts⟩ hl.1 (c_kx_lookAt l D cI cJ cC cZ cS x0 q hc dr sa ft fa fo fg fk dh mh uh rh nh ch wh y1 y2 y3 y4 yf yt gd gs e1 e2 e3 (q 7) (q 33) (q 34) dy wn mo ke mu fb fw Ba We L U hsa hch hwh hdy hmo hLk (hlq (by omega)).1 (hlq (by omega)).2 hfb hfw hB9 hW9 hwn hU (htq (by omega))) w_4_43 w_4_45 w_0_19 w_1_1 w_4_46 hd_X11_lookAt_1 ⟨⟨(Nat.le_of_ble_eq_true rfl), (Nat.le_of_ble_eq_true rfl)⟩, (Nat.le_of_ble_eq_true rfl), (Nat.le_of_ble_eq_true rfl)⟩ hK hP hD hS hA (fmT om_25_1fffffc 0) (fmF om_25_1fffffc 0) (fm_C1 rfl rfl) (fm_R rfl rfl) (fm_nT om_25_1fffffc 0) (fm_nF om_25_1fffffc 0) (fm_di om_25_1fffffc 0) rfl rfl rfl rfl (Nat.le_of_ble_eq_true rfl) dX11_many_24 (fun r_25 u H locs hw hP hD hS => ?_)
      refine exE hw (fun sa2_13 hw1 => exE hw1 (fun ft2_14 hw2 => exE hw2 (fun fa2_15 hw3 => exE hw3 (fun fo2_16 hw4 => exE hw4 (fun fg2_17 hw5 => exE hw5 (fun fk2_18 hw6 => exE hw6 (fun z2_19 hw7 => exE hw7 (fun z3_20 hw8 => exE hw8 (fun g1_21 hw9 => exE hw9 (fun g2_22 hw10 => exE hw10 (fun g3_23 hw11 => exE hw11 (fun b_24 hw12 => anE hw12 (fun hsa2_26 hw13 => anE hw13 (fun hti2_27 hw14 => anE hw14 (fun hld2_28 hw15 => anE hw15 (fun hlv2_29 hw16 => anE hw16 (fun hb1_30 hw17 => anE hw17 (fun er_32 eu_31 => ?_))))))))))))))))))
      clear hw hw1 hw2 hw3 hw4 hw5 hw6 hw7 hw8 hw9 hw10 hw11 hw12 hw13 hw14 hw15 hw16 hw17
      subst er_32
      refine o_mgE (ws' := [ro_rrrrrrrrrrrrrrrirl x0 11 (q 0) (q 1) (q 2) (q 3) (q 4) (q 5) (q 6) (q 7) (q 8) (q 9) (q 10) (q 11) (q 12) (q 13) (q 14) hc (q 16) dr, ro_rrrrrr (q 10) 9 (q 61) (q 62) (q 63) (q 64) (q 65) (q 66), ra_N (q 61) cI 90 sa2_13, ra_I (q 62) cI 900 ft2_14, ra_I (q 63) cI 90 fa2_15, ra_I (q 64) cI 90 fo2_16, ra_J (q 65) cJ 90 fg2_17, ra_I (q 66) cI 9 fk2_18, ro_rrrrrnniin (q 5) 2 (q 44) (q 45) (q 46) (q 47) (q 48) dh mh uh rh nh, ro_rrrrnn (q 44) 0 (q 49) (q 50) (q 51) (q 52) ch wh, ra_I (q 49) cI 1600 y1, ra_J (q 50) cJ 64 z2_19, ra_J (q 51) cJ 9 z3_20, ra_J (q 52) cJ 10 y4, ra_I (q 47) cI 3 yf, ra_I (q 48) cI 3 yt, ro_rrrrrrrnn (q 11) 1 (q 10) (q 67) (q 68) (q 69) (q 70) (q 71) (q 72) dy mo, ra_I (q 67) cI 90 g1_21, ra_I (q 68) cI 9 g2_22, ra_I (q 69) cI 10 g3_23, ro_rrnnnin (q 7) 7 (q 33) (q 34) dy wn mo mu ke, ra_I (q 33) cI 9 fb, ra_I (q 34) cI 9 fw, ra_J (q 70) cJ 100 e4, ra_J (q 71) cJ 100 e5]) eu_31 hP hD rfl (fun hP hD => ?_)
      refine lv_pop hx hb dX11_many_27 rfl ?_
      refine lv_aload_n hx hb dX11_many_28 rfl (lv_at hl 0 rfl) ?_
      refine sk_get (v := .ref (q 11)) (C := RX11) (T := TX11) (N := 18) hx hb hts inlX11 hown hK hP 0 rfl rfl 11 (Nat.le_of_ble_eq_true rfl) w_2_134 rfl dX11_many_29 ?_
      refine sk_Vl (q0 := 0) (n := 0) (rest := []) (wr := fmR om_25_1e2 _) ⟨hx, hb, hml, hown, hts⟩ hl.1 (c_countWays l D cI cJ cC cZ cS q dy mo g1_21 g2_22 g3_23 e4 hdy hmo) w_4_61 w_4_62 w_4_63 w_1_13 w_4_64 hd_X1_countWays_0 ⟨⟨(Nat.le_of_ble_eq_true rfl), (Nat.le_of_ble_eq_true rfl)⟩, (Nat.le_of_ble_eq_true rfl), (Nat.le_of_ble_eq_true rfl)⟩ hK hP hD hS hA (fmT om_25_1e2 0) (fmF om_25_1e2 0) (fm_C1 rfl rfl) (fm_R rfl rfl) (fm_nT om_25_1e2 0) (fm_nF om_25_1e2 0) (fm_di om_25_1e2 0) rfl rfl rfl rfl (Nat.le_of_ble_eq_true rfl) dX11_many_32 (fun r_34 u H locs hw hP hD hS => ?_)
      refine exE hw (fun g4_33 eu_35 => ?_)
      clear hw
      refine o_mgE (ws' := [ro_rrrrrrrrrrrrrrrirl x0 11 (q 0) (q 1) (q 2) (q 3) (q 4) (q 5) (q 6) (q 7) (q 8) (q 9) (q 10) (q 11) (q 12) (q 13) (q 14) hc (q 16) dr, ro_rrrrrr (q 10) 9 (q 61) (q 62) (q 63) (q 64) (q 65) (q 66), ra_N (q 61) cI 90 sa2_13, ra_I (q 62) cI 900 ft2_14, ra_I (q 63) cI 90 fa2_15, ra_I (q 64) cI 90 fo2_16, ra_J (q 65) cJ 90 fg2_17, ra_I (q 66) cI 9 fk2_18, ro_rrrrrnniin (q 5) 2 (q 44) (q 45) (q 46) (q 47) (q 48) dh mh uh rh nh, ro_rrrrnn (q 44) 0 (q 49) (q 50) (q 51) (q 52) ch wh, ra_I (q 49) cI 1600 y1, ra_J (q 50) cJ 64 z2_19, ra_J (q 51) cJ 9 z3_20, ra_J (q 52) cJ 10 y4, ra_I (q 47) cI 3 yf, ra_I (q 48) cI 3 yt, ro_rrrrrrrnn (q 11) 1 (q 10) (q 67) (q 68) (q 69) (q 70) (q 71) (q 72) dy mo, ra_I (q 67) cI 90 g1_21, ra_I (q 68) cI 9 g2_22, ra_I (q 69) cI 10 g3_23, ro_rrnnnin (q 7) 7 (q 33) (q 34) dy wn mo mu ke, ra_I (q 33) cI 9 fb, ra_I (q 34) cI 9 fw, ra_J (q 70) cJ 100 g4_33, ra_J (q 71) cJ 100 e5]) eu_35 hP hD rfl (fun hP hD => ?_)
      refine lv_pop2_2 hx hb dX11_many_35 rfl ?_
      refine lv_aload_n hx hb dX11_many_36 rfl (lv_at hl 0 rfl) ?_
      refine sk_get (v := .ref (q 11)) (C := RX11) (T := TX11) (N := 18) hx hb hts inlX11 hown hK hP 0 rfl rfl 11 (Nat.le_of_ble_eq_true rfl) w_2_134 rfl dX11_many_37 ?_
      refine sk_Vv (q0 := 0) (n := 0) (rest := []) (wr := fmR om_25_1e1 _) ⟨hx, hb, hml, hown, hts⟩ hl.1 (c_countComings l D cI cJ cC cZ cS q dy mo g1_21 g2_22 g3_23 e5 hdy hmo) w_4_81 w_4_82 w_4_83 w_1_13 w_4_84 hd_X1_countComings_0 ⟨⟨(Nat.le_of_ble_eq_true rfl), (Nat.le_of_ble_eq_true rfl)⟩, (Nat.le_of_ble_eq_true rfl), (Nat.le_of_ble_eq_true rfl)⟩ hK hP hD hS hA (fmT om_25_1e1 0) (fmF om_25_1e1 0) (fm_C1 rfl rfl) (fm_R rfl rfl) (fm_nT om_25_1e1 0) (fm_nF om_25_1e1 0) (fm_di om_25_1e1 0) rfl rfl rfl rfl (Nat.le_of_ble_eq_true rfl) dX11_many_40 (fun u H locs hw hP hD hS => ?_)
      refine exE hw (fun g5_36 eu_37 => ?_)
      clear hw
      refine o_mgE (ws' := [ro_rrrrrrrrrrrrrrrirl x0 11 (q 0) (q 1) (q 2) (q 3) (q 4) (q 5) (q 6) (q 7) (q 8) (q 9) (q 10) (q 11) (q 12) (q 13) (q 14) hc (q 16) dr, ro_rrrrrr (q 10) 9 (q 61) (q 62) (q 63) (q 64) (q 65) (q 66), ra_N (q 61) cI 90 sa2_13, ra_I (q 62) cI 900 ft2_14, ra_I (q 63) cI 90 fa2_15, ra_I (q 64) cI 90 fo2_16, ra_J (q 65) cJ 90 fg2_17, ra_I (q 66) cI 9 fk2_18, ro_rrrrrnniin (q 5) 2 (q 44) (q 45) (q 46) (q 47) (q 48) dh mh uh rh nh, ro_rrrrnn (q 44) 0 (q 49) (q 50) (q 51) (q 52) ch wh, ra_I (q 49) cI 1600 y1, ra_J (q 50) cJ 64 z2_19, ra_J (q 51) cJ 9 z3_20, ra_J (q 52) cJ 10 y4, ra_I (q 47) cI 3 yf, ra_I (q 48) cI 3 yt, ro_rrrrrrrnn (q 11) 1 (q 10) (q 67) (q 68) (q 69) (q 70) (q 71) (q 72) dy mo, ra_I (q 67) cI 90 g1_21, ra_I (q 68) cI 9 g2_22, ra_I (q 69) cI 10 g3_23, ro_rrnnnin (q 7) 7 (q 33) (q 34) dy wn mo mu ke, ra_I (q 33) cI 9 fb, ra_I (q 34) cI 9 fw, ra_J (q 70) cJ 100 g4_33, ra_J (q 71) cJ 100 g5_36]) eu_37 hP hD rfl (fun hP hD => ?_)
      refine lv_aload_n hx hb dX11_many_43 rfl (lv_at hl 0 rfl) ?_
      refine sk_get (v := .ref (q 11)) (C := RX11) (T := TX11) (N := 18) hx hb hts inlX11 hown hK hP 0 rfl rfl 11 (Nat.le_of_ble_eq_true rfl) w_2_134 rfl dX11_many_44 ?_
      refine lv_iload_n hx hb dX11_many_47 rfl (lv_at hl 1 rfl) ?_
      refine lv_iload_n hx hb dX11_many_48 rfl (lv_at hl 2 rfl) ?_
      refine sk_Vl (q0 := 0) (n := 2) (rest := []) (wr := fmR om_25_103 _) ⟨hx, hb, hml, hown, hts⟩ hl.1 (c_timesOf l D cI cJ cC cZ cS q dy mo g4_33 g5_36 kd_7 kd_12 (by omega) (by omega)) w_4_88 w_4_89 w_4_90 w_1_13 w_4_91 hd_X1_timesOf_2 ⟨⟨(Nat.le_of_ble_eq_true rfl), (Nat.le_of_ble_eq_true rfl)⟩, (Nat.le_of_ble_eq_true rfl), (Nat.le_of_ble_eq_true rfl)⟩ hK hP hD hS hA (fmT om_25_103 0) (fmF om_25_103 0) (fm_C1 rfl rfl) (fm_R rfl rfl) (fm_nT om_25_103 0) (fm_nF om_25_103 0) (fm_di om_25_103 0) rfl rfl rfl rfl (Nat.le_of_ble_eq_true rfl) dX11_many_49 (fun r_38 u H locs hw hP hD hS => ?_)
      refine o_mgE (ws' := [ro_rrrrrrrrrrrrrrrirl x0 11 (q 0) (q 1) (q 2) (q 3) (q 4) (q 5) (q 6) (q 7) (q 8) (q 9) (q 10) (q 11) (q 12) (q 13) (q 14) hc (q 16) dr, ro_rrrrrr (q 10) 9 (q 61) (q 62) (q 63) (q 64) (q 65) (q 66), ra_N (q 61) cI 90 sa2_13, ra_I (q 62) cI 900 ft2_14, ra_I (q 63) cI 90 fa2_15, ra_I (q 64) cI 90 fo2_16, ra_J (q 65) cJ 90 fg2_17, ra_I (q 66) cI 9 fk2_18, ro_rrrrrnniin (q 5) 2 (q 44) (q 45) (q 46) (q 47) (q 48) dh mh uh rh nh, ro_rrrrnn (q 44) 0 (q 49) (q 50) (q 51) (q 52) ch wh, ra_I (q 49) cI 1600 y1, ra_J (q 50) cJ 64 z2_19, ra_J (q 51) cJ 9 z3_20, ra_J (q 52) cJ 10 y4, ra_I (q 47) cI 3 yf, ra_I (q 48) cI 3 yt, ro_rrrrrrrnn (q 11) 1 (q 10) (q 67) (q 68) (q 69) (q 70) (q 71) (q 72) dy mo, ra_I (q 67) cI 90 g1_21, ra_I (q 68) cI 9 g2_22, ra_I (q 69) cI 10 g3_23, ro_rrnnnin (q 7) 7 (q 33) (q 34) dy wn mo mu ke, ra_I (q 33) cI 9 fb, ra_I (q 34) cI 9 fw, ra_J (q 70) cJ 100 g4_33, ra_J (q 71) cJ 100 g5_36]) hw hP hD rfl (fun hP hD => ?_)
      exact sk_lret hx hb hr hlocks hK hP hD hS (⟨sa2_13, ft2_14, fa2_15, fo2_16, fg2_17, fk2_18, z2_19, z3_20, g1_21, g2_22, g3_23, dy, mo, g4_33, g5_36, hsa2_26, (fun _ => hti2_27), hdy, hmo, rfl⟩) (Nat.le_of_ble_eq_true rfl) (Nat.le_of_ble_eq_true rfl) dX11_many_52
    · have c_11 : b_8 = 0 := (neq b_8 0 (by omega) (Nat.le_of_ble_eq_true rfl)).mp c_11
      refine lv_ldc2 (v := (-1000000000000000)) hx hb hown (hts _ w_4_29) dX11_many_15 ?_
      exact sk_lret hx hb hr hlocks hK hP hD hS (⟨sa, ft, fa, fo, fg, fk, y2, y3, e1, e2, e3, gd, gs, e4, e5, hsa, htq, hgd, hgs, rfl⟩) (Nat.le_of_ble_eq_true rfl) (Nat.le_of_ble_eq_true rfl) dX11_many_18
theorem dg_X11_fewest_0_0 : bqL cX11_fewest 0 [(0, [42]), (1, [182, 0, 204]), (4, [154, 0, 5]), (9, [42]), (10, [180, 0, 76]), (13, [42]), (14, [180, 0, 49]), (17, [42]), (18, [180, 0, 59]), (21, [182, 0, 185]), (24, [3]), (25, [54, 4]), (27, [21, 4]), (29, [42]), (30, [180, 0, 59]), (33, [180, 0, 144]), (36, [163, 0, 90]), (126, [2]), (127, [172]), (39, [3]), (40, [54, 5]), (42, [21, 5]), (44, [4]), (45, [42]), (46, [180, 0, 59]), (49, [180, 0, 144]), (52, [120]), (53, [162, 0, 67]), (120, [132, 4, 1]), (123, [167, 255, 160]), (84, [54, 6]), (86, [21, 6]), (88, [153, 0, 26]), (114, [132, 5, 1]), (117, [167, 255, 181]), (91, [42]), (92, [27]), (93, [42]), (94, [180, 0, 59]), (97, [180, 0, 153])] = true := by decide +kernel
theorem dX11_fewest_0 : decode cX11_fewest 0 = .ok (.aload_n 0, 1) := q_aload_n0 (bat_get dg_X11_fewest_0_0 0 rfl rfl)
theorem dX11_fewest_1 : decode cX11_fewest 1 = .ok (.invokevirtual 204, 3) := q_invokevirtual (bat_get dg_X11_fewest_0_0 1 rfl rfl) rfl
theorem dX11_fewest_4 : decode cX11_fewest 4 = .ok (.ifCond .ne 5, 3) := q_ifCond_ne (bat_get dg_X11_fewest_0_0 2 rfl rfl) rfl
theorem dX11_fewest_9 : decode cX11_fewest 9 = .ok (.aload_n 0, 1) := q_aload_n0 (bat_get dg_X11_fewest_0_0 3 rfl rfl)
theorem dX11_fewest_10 : decode cX11_fewest 10 = .ok (.getfield 76, 3) := q_getfield (bat_get dg_X11_fewest_0_0 4 rfl rfl) rfl
theorem dX11_fewest_13 : decode cX11_fewest 13 = .ok (.aload_n 0, 1) := q_aload_n0 (bat_get dg_X11_fewest_0_0 5 rfl rfl)
theorem dX11_fewest_14 : decode cX11_fewest 14 = .ok (.getfield 49, 3) := q_getfield (bat_get dg_X11_fewest_0_0 6 rfl rfl) rfl
theorem dX11_fewest_17 : decode cX11_fewest 17 = .ok (.aload_n 0, 1) := q_aload_n0 (bat_get dg_X11_fewest_0_0 7 rfl rfl)
theorem dX11_fewest_18 : decode cX11_fewest 18 = .ok (.getfield 59, 3) := q_getfield (bat_get dg_X11_fewest_0_0 8 rfl rfl) rfl
theorem dX11_fewest_21 : decode cX11_fewest 21 = .ok (.invokevirtual 185, 3) := q_invokevirtual (bat_get dg_X11_fewest_0_0 9 rfl rfl) rfl
theorem dX11_fewest_24 : decode cX11_fewest 24 = .ok (.iconst 0, 1) := q_iconst0 (bat_get dg_X11_fewest_0_0 10 rfl rfl)
theorem dX11_fewest_25 : decode cX11_fewest 25 = .ok (.istore 4, 2) := q_istore (bat_get dg_X11_fewest_0_0 11 rfl rfl)
theorem dX11_fewest_27 : decode cX11_fewest 27 = .ok (.iload 4, 2) := q_iload (bat_get dg_X11_fewest_0_0 12 rfl rfl)
theorem dX11_fewest_29 : decode cX11_fewest 29 = .ok (.aload_n 0, 1) := q_aload_n0 (bat_get dg_X11_fewest_0_0 13 rfl rfl)
theorem dX11_fewest_30 : decode cX11_fewest 30 = .ok (.getfield 59, 3) := q_getfield (bat_get dg_X11_fewest_0_0 14 rfl rfl) rfl
theorem dX11_fewest_33 : decode cX11_fewest 33 = .ok (.getfield 144, 3) := q_getfield (bat_get dg_X11_fewest_0_0 15 rfl rfl) rfl
theorem dX11_fewest_36 : decode cX11_fewest 36 = .ok (.if_icmp .gt 90, 3) := q_if_icmp_gt (bat_get dg_X11_fewest_0_0 16 rfl rfl) rfl
theorem dX11_fewest_126 : decode cX11_fewest 126 = .ok (.iconst (-1), 1) := q_iconstm1 (bat_get dg_X11_fewest_0_0 17 rfl rfl)
theorem dX11_fewest_127 : decode cX11_fewest 127 = .ok (.ireturn, 1) := q_ireturn (bat_get dg_X11_fewest_0_0 18 rfl rfl)
theorem dX11_fewest_39 : decode cX11_fewest 39 = .ok (.iconst 0, 1) := q_iconst0 (bat_get dg_X11_fewest_0_0 19 rfl rfl)
theorem dX11_fewest_40 : decode cX11_fewest 40 = .ok (.istore 5, 2) := q_istore (bat_get dg_X11_fewest_0_0 20 rfl rfl)
theorem dX11_fewest_42 : decode cX11_fewest 42 = .ok (.iload 5, 2) := q_iload (bat_get dg_X11_fewest_0_0 21 rfl rfl)
theorem dX11_fewest_44 : decode cX11_fewest 44 = .ok (.iconst 1, 1) := q_iconst1 (bat_get dg_X11_fewest_0_0 22 rfl rfl)
theorem dX11_fewest_45 : decode cX11_fewest 45 = .ok (.aload_n 0, 1) := q_aload_n0 (bat_get dg_X11_fewest_0_0 23 rfl rfl)
theorem dX11_fewest_46 : decode cX11_fewest 46 = .ok (.getfield 59, 3) := q_getfield (bat_get dg_X11_fewest_0_0 24 rfl rfl) rfl
theorem dX11_fewest_49 : decode cX11_fewest 49 = .ok (.getfield 144, 3) := q_getfield (bat_get dg_X11_fewest_0_0 25 rfl rfl) rfl
theorem dX11_fewest_52 : decode cX11_fewest 52 = .ok (.ishl, 1) := q_ishl (bat_get dg_X11_fewest_0_0 26 rfl rfl)
theorem dX11_fewest_53 : decode cX11_fewest 53 = .ok (.if_icmp .ge 67, 3) := q_if_icmp_ge (bat_get dg_X11_fewest_0_0 27 rfl rfl) rfl
theorem dX11_fewest_120 : decode cX11_fewest 120 = .ok (.iinc 4 1, 3) := q_iinc (bat_get dg_X11_fewest_0_0 28 rfl rfl) rfl
theorem dX11_fewest_123 : decode cX11_fewest 123 = .ok (.goto (-96), 3) := q_goto (bat_get dg_X11_fewest_0_0 29 rfl rfl) rfl
theorem dX11_fewest_84 : decode cX11_fewest 84 = .ok (.istore 6, 2) := q_istore (bat_get dg_X11_fewest_0_0 30 rfl rfl)
theorem dX11_fewest_86 : decode cX11_fewest 86 = .ok (.iload 6, 2) := q_iload (bat_get dg_X11_fewest_0_0 31 rfl rfl)
theorem dX11_fewest_88 : decode cX11_fewest 88 = .ok (.ifCond .eq 26, 3) := q_ifCond_eq (bat_get dg_X11_fewest_0_0 32 rfl rfl) rfl
theorem dX11_fewest_114 : decode cX11_fewest 114 = .ok (.iinc 5 1, 3) := q_iinc (bat_get dg_X11_fewest_0_0 33 rfl rfl) rfl
theorem dX11_fewest_117 : decode cX11_fewest 117 = .ok (.goto (-75), 3) := q_goto (bat_get dg_X11_fewest_0_0 34 rfl rfl) rfl
theorem dX11_fewest_91 : decode cX11_fewest 91 = .ok (.aload_n 0, 1) := q_aload_n0 (bat_get dg_X11_fewest_0_0 35 rfl rfl)
theorem dX11_fewest_92 : decode cX11_fewest 92 = .ok (.iload_n 1, 1) := q_iload_n1 (bat_get dg_X11_fewest_0_0 36 rfl rfl)
theorem dX11_fewest_93 : decode cX11_fewest 93 = .ok (.aload_n 0, 1) := q_aload_n0 (bat_get dg_X11_fewest_0_0 37 rfl rfl)
theorem dX11_fewest_94 : decode cX11_fewest 94 = .ok (.getfield 59, 3) := q_getfield (bat_get dg_X11_fewest_0_0 38 rfl rfl) rfl
theorem dX11_fewest_97 : decode cX11_fewest 97 = .ok (.getfield 153, 3) := q_getfield (bat_get dg_X11_fewest_0_0 39 rfl rfl) rfl
theorem dg_X11_fewest_7_100 : bqL cX11_fewest 7 [(93, [21, 5]), (95, [128]), (96, [28]), (97, [29]), (98, [182, 1, 74]), (101, [153, 0, 6]), (104, [21, 5]), (106, [172]), (49, [21, 5]), (51, [184, 0, 156]), (54, [21, 4]), (56, [160, 0, 20]), (76, [3]), (59, [21, 5]), (61, [42]), (62, [180, 0, 59]), (65, [180, 0, 153]), (68, [126]), (69, [154, 0, 7]), (72, [4]), (73, [167, 0, 4]), (0, [2]), (1, [172])] = true := by decide +kernel
theorem dX11_fewest_100 : decode cX11_fewest 100 = .ok (.iload 5, 2) := q_iload (bat_get dg_X11_fewest_7_100 0 rfl rfl)
theorem dX11_fewest_102 : decode cX11_fewest 102 = .ok (.ior, 1) := q_ior (bat_get dg_X11_fewest_7_100 1 rfl rfl)
theorem dX11_fewest_103 : decode cX11_fewest 103 = .ok (.iload_n 2, 1) := q_iload_n2 (bat_get dg_X11_fewest_7_100 2 rfl rfl)
theorem dX11_fewest_104 : decode cX11_fewest 104 = .ok (.iload_n 3, 1) := q_iload_n3 (bat_get dg_X11_fewest_7_100 3 rfl rfl)
theorem dX11_fewest_105 : decode cX11_fewest 105 = .ok (.invokevirtual 330, 3) := q_invokevirtual (bat_get dg_X11_fewest_7_100 4 rfl rfl) rfl
theorem dX11_fewest_108 : decode cX11_fewest 108 = .ok (.ifCond .eq 6, 3) := q_ifCond_eq (bat_get dg_X11_fewest_7_100 5 rfl rfl) rfl
theorem dX11_fewest_111 : decode cX11_fewest 111 = .ok (.iload 5, 2) := q_iload (bat_get dg_X11_fewest_7_100 6 rfl rfl)
theorem dX11_fewest_113 : decode cX11_fewest 113 = .ok (.ireturn, 1) := q_ireturn (bat_get dg_X11_fewest_7_100 7 rfl rfl)
theorem dX11_fewest_56 : decode cX11_fewest 56 = .ok (.iload 5, 2) := q_iload (bat_get dg_X11_fewest_7_100 8 rfl rfl)
theorem dX11_fewest_58 : decode cX11_fewest 58 = .ok (.invokestatic 156, 3) := q_invokestatic (bat_get dg_X11_fewest_7_100 9 rfl rfl) rfl
theorem dX11_fewest_61 : decode cX11_fewest 61 = .ok (.iload 4, 2) := q_iload (bat_get dg_X11_fewest_7_100 10 rfl rfl)
theorem dX11_fewest_63 : decode cX11_fewest 63 = .ok (.if_icmp .ne 20, 3) := q_if_icmp_ne (bat_get dg_X11_fewest_7_100 11 rfl rfl) rfl
theorem dX11_fewest_83 : decode cX11_fewest 83 = .ok (.iconst 0, 1) := q_iconst0 (bat_get dg_X11_fewest_7_100 12 rfl rfl)
theorem dX11_fewest_66 : decode cX11_fewest 66 = .ok (.iload 5, 2) := q_iload (bat_get dg_X11_fewest_7_100 13 rfl rfl)
theorem dX11_fewest_68 : decode cX11_fewest 68 = .ok (.aload_n 0, 1) := q_aload_n0 (bat_get dg_X11_fewest_7_100 14 rfl rfl)
theorem dX11_fewest_69 : decode cX11_fewest 69 = .ok (.getfield 59, 3) := q_getfield (bat_get dg_X11_fewest_7_100 15 rfl rfl) rfl
theorem dX11_fewest_72 : decode cX11_fewest 72 = .ok (.getfield 153, 3) := q_getfield (bat_get dg_X11_fewest_7_100 16 rfl rfl) rfl
theorem dX11_fewest_75 : decode cX11_fewest 75 = .ok (.iand, 1) := q_iand (bat_get dg_X11_fewest_7_100 17 rfl rfl)
theorem dX11_fewest_76 : decode cX11_fewest 76 = .ok (.ifCond .ne 7, 3) := q_ifCond_ne (bat_get dg_X11_fewest_7_100 18 rfl rfl) rfl
theorem dX11_fewest_79 : decode cX11_fewest 79 = .ok (.iconst 1, 1) := q_iconst1 (bat_get dg_X11_fewest_7_100 19 rfl rfl)
theorem dX11_fewest_80 : decode cX11_fewest 80 = .ok (.goto 4, 3) := q_goto (bat_get dg_X11_fewest_7_100 20 rfl rfl) rfl
theorem dX11_fewest_7 : decode cX11_fewest 7 = .ok (.iconst (-1), 1) := q_iconstm1 (bat_get dg_X11_fewest_7_100 21 rfl rfl)
theorem dX11_fewest_8 : decode cX11_fewest 8 = .ok (.ireturn, 1) := q_ireturn (bat_get dg_X11_fewest_7_100 22 rfl rfl)
theorem w_4_100 : (Cond.methodLink RX11 330 yX11_serves) ∈ wsL_law := sk_mem (ck_4 _ (List.mem_of_getElem? (i := 100) rfl)) rfl
theorem w_4_102 : (Cond.instanceMethod yX11_serves) ∈ wsL_law := sk_mem (ck_4 _ (List.mem_of_getElem? (i := 102) rfl)) rfl
theorem w_0_23 : (Cond.selects RX11 yX11_serves yX11_serves) ∈ wsL_law := sk_mem (ck_0 _ (List.mem_of_getElem? (i := 23) rfl)) rfl
theorem w_4_99 : (Cond.code yX11_fewest cX11_fewest 7 (some .int)) ∈ wsL_law := sk_mem (ck_4 _ (List.mem_of_getElem? (i := 99) rfl)) rfl
def om_25_fffe1c : List Bool := false :: true :: true :: true :: true :: true :: true :: true :: true :: true :: true :: true :: true :: true :: true :: true :: false :: false :: false :: false :: true :: true :: true :: false :: false :: []
def om_25_1fe01ff : List Bool := true :: true :: true :: true :: true :: true :: true :: true :: false :: false :: false :: false :: false :: false :: false :: false :: true :: true :: true :: true :: true :: true :: true :: true :: true :: []
theorem hd_X11_serves_4 : skD yX11_serves 4 := by decide +kernel
set_option maxHeartbeats 4000000 in
set_option maxRecDepth 100000 in
theorem c_kx_fewest (l : Launch) (D : va_G) (cI cJ cC cZ cS : ClassId) (x0 : Nat) (q : Nat → Nat) (hc : Int32) (dr : Int64) (sa : Nat → Nat) (ft : Nat → Int32) (fa : Nat → Int32) (fo : Nat → Int32) (fg : Nat → Int64) (fk : Nat → Int32) (dh : Nat) (mh : Nat) (uh : Int32) (rh : Int32) (nh : Nat) (ch : Nat) (wh : Nat) (y1 : Nat → Int32) (y2 : Nat → Int64) (y3 : Nat → Int64) (y4 : Nat → Int64) (yf : Nat → Int32) (yt : Nat → Int32) (gd : Nat) (gs : Nat) (e1 : Nat → Int32) (e2 : Nat → Int32) (e3 : Nat → Int32) (dy : Nat) (wn : Nat) (mo : Nat) (ke : Nat) (mu : Int32) (fb : Nat → Int32) (fw : Nat → Int32) (Ba : Nat → Nat) (We : Nat → Nat) (L : LkS) (U : Nat → Bool) (ra : Nat → Int32) (rc : Nat → Int32) (d : Nat) (a1 : Int32) (w : Int32) (hsa : ∀ j, sa j ≤ 9) (hch : ch ≤ 1600) (hwh : wh ≤ 1) (hdy : dy ≤ 9) (hmo : mo ≤ 9) (hgd : gd ≤ 9) (hgs : gs ≤ 9) (hLk : kcLk L) (hlq : 1 ≤ dy → cdK (lK (lkF L)) ch wh y1 ∧ ∀ v, v < 3 → sgO (lG (lkF L) v) (yf v) (yt v)) (htq : 1 ≤ dy → kcTI L sa ft fa fo fg fk) (hfb : ∀ j, j < 9 → fb j = nI (Ba j)) (hfw : ∀ j, j < 9 → fw j = nI (We j)) (hB9 : ∀ j, Ba j ≤ 9) (hW9 : ∀ j, We j ≤ 9) (hwn : wn ≤ 999) (hU : muO U mu) (hd : d < 9) : skM l yX11_fewest cX11_fewest 7 (some .int) 5 128 0 0 D (skT cI cJ cC cZ cS) [.ref x0, .int a1, .int (nI d), .int w] [ro_rrrrrrrrrrrrrrrirl x0 11 (q 0) (q 1) (q 2) (q 3) (q 4) (q 5) (q 6) (q 7) (q 8) (q 9) (q 10) (q 11) (q 12) (q 13) (q 14) hc (q 16) dr, ro_rrrrrr (q 10) 9 (q 61) (q 62) (q 63) (q 64) (q 65) (q 66), ra_N (q 61) cI 90 sa, ra_I (q 62) cI 900 ft, ra_I (q 63) cI 90 fa, ra_I (q 64) cI 90 fo, ra_J (q 65) cJ 90 fg, ra_I (q 66) cI 9 fk, ro_rrrrrnniin (q 5) 2 (q 44) (q 45) (q 46) (q 47) (q 48) dh mh uh rh nh, ro_rrrrnn (q 44) 0 (q 49) (q 50) (q 51) (q 52) ch wh, ra_I (q 49) cI 1600 y1, ra_J (q 50) cJ 64 y2, ra_J (q 51) cJ 9 y3, ra_J (q 52) cJ 10 y4, ra_I (q 47) cI 3 yf, ra_I (q 48) cI 3 yt, ro_rrrrrrrnn (q 11) 1 (q 10) (q 67) (q 68) (q 69) (q 70) (q 71) (q 72) gd gs, ra_I (q 67) cI 90 e1, ra_I (q 68) cI 9 e2, ra_I (q 69) cI 10 e3, ro_rrnnnin (q 7) 7 (q 33) (q 34) dy wn mo mu ke, ra_I (q 33) cI 9 fb, ra_I (q 34) cI 9 fw, ra_I (q 12) cI 9 ra, ra_I (q 13) cI 9 rc] (skI D (skT cI cJ cC cZ cS) (fun (r : Int32) (u : va_W) => ∃ (sa2 : Nat → Nat), ∃ (ft2 : Nat → Int32), ∃ (fa2 : Nat → Int32), ∃ (fo2 : Nat → Int32), ∃ (fg2 : Nat → Int64), ∃ (fk2 : Nat → Int32), ∃ (z2 : Nat → Int64), ∃ (z3 : Nat → Int64), ∃ (g1 : Nat → Int32), ∃ (g2 : Nat → Int32), ∃ (g3 : Nat → Int32), ∃ (gd2 : Nat), ∃ (gs2 : Nat), ∃ (ra2 : Nat → Int32), ∃ (rc2 : Nat → Int32), (∀ j, sa2 j ≤ 9) ∧ (1 ≤ dy → kcTI L sa2 ft2 fa2 fo2 fg2 fk2) ∧ gd2 ≤ 9 ∧ gs2 ≤ 9 ∧ u = [ro_rrrrrrrrrrrrrrrirl x0 11 (q 0) (q 1) (q 2) (q 3) (q 4) (q 5) (q 6) (q 7) (q 8) (q 9) (q 10) (q 11) (q 12) (q 13) (q 14) hc (q 16) dr, ro_rrrrrr (q 10) 9 (q 61) (q 62) (q 63) (q 64) (q 65) (q 66), ra_N (q 61) cI 90 sa2, ra_I (q 62) cI 900 ft2, ra_I (q 63) cI 90 fa2, ra_I (q 64) cI 90 fo2, ra_J (q 65) cJ 90 fg2, ra_I (q 66) cI 9 fk2, ro_rrrrrnniin (q 5) 2 (q 44) (q 45) (q 46) (q 47) (q 48) dh mh uh rh nh, ro_rrrrnn (q 44) 0 (q 49) (q 50) (q 51) (q 52) ch wh, ra_I (q 49) cI 1600 y1, ra_J (q 50) cJ 64 z2, ra_J (q 51) cJ 9 z3, ra_J (q 52) cJ 10 y4, ra_I (q 47) cI 3 yf, ra_I (q 48) cI 3 yt, ro_rrrrrrrnn (q 11) 1 (q 10) (q 67) (q 68) (q 69) (q 70) (q 71) (q 72) gd2 gs2, ra_I (q 67) cI 90 g1, ra_I (q 68) cI 9 g2, ra_I (q 69) cI 10 g3, ro_rrnnnin (q 7) 7 (q 33) (q 34) dy wn mo mu ke, ra_I (q 33) cI 9 fb, ra_I (q 34) cI 9 fw, ra_I (q 12) cI 9 ra2, ra_I (q 13) cI 9 rc2])) := by
  refine skM_of pf_X11_fewest (Nat.le_of_ble_eq_true rfl) ?_
  intro p e s m below meth c A ls E hP hD hl
  refine skE_el E (fun hx hb hr hml hlocks hin hown hts hK hA => ?_)
  have hown : s.vm.findClass RX11 = some m.cls := hown
  have hS : va_S A s.heap s.heap [] := va_S.rf
  have hl : lv_has ls 7 [(0, .ref x0), (1, .int a1), (2, .int (nI d)), (3, .int w)] := hl
  refine lv_aload_n hx hb dX11_fewest_0 rfl (lv_at hl 0 rfl) ?_
  refine sk_Vi (q0 := 0) (n := 0) (rest := []) (wr := fmR om_25_1000010 _) ⟨hx, hb, hml, hown, hts⟩ hl.1 (c_kx_isLocked l D cI cJ cC cZ cS x0 q hc dr dy wn mo ke mu fb fw hdy) w_4_39 w_4_41 w_0_18 w_1_1 w_4_42 hd_X11_isLocked_0 ⟨⟨(Nat.le_of_ble_eq_true rfl), (Nat.le_of_ble_eq_true rfl)⟩, (Nat.le_of_ble_eq_true rfl), (Nat.le_of_ble_eq_true rfl)⟩ hK hP hD hS hA (fmT om_25_1000010 0) (fmF om_25_1000010 0) (fm_C1 rfl rfl) (fm_R rfl rfl) (fm_nT om_25_1000010 0) (fm_nF om_25_1000010 0) (fm_di om_25_1000010 0) rfl rfl rfl rfl (Nat.le_of_ble_eq_true rfl) dX11_fewest_1 (fun r_2 u H locs hw hP hD hS => ?_)
  refine exE hw (fun b_1 hw1 => anE hw1 (fun hb1_3 hw2 => anE hw2 (fun er_5 eu_4 => ?_)))
  clear hw hw1 hw2
  subst er_5
  refine o_mgE (ws' := [ro_rrrrrrrrrrrrrrrirl x0 11 (q 0) (q 1) (q 2) (q 3) (q 4) (q 5) (q 6) (q 7) (q 8) (q 9) (q 10) (q 11) (q 12) (q 13) (q 14) hc (q 16) dr, ro_rrrrrr (q 10) 9 (q 61) (q 62) (q 63) (q 64) (q 65) (q 66), ra_N (q 61) cI 90 sa, ra_I (q 62) cI 900 ft, ra_I (q 63) cI 90 fa, ra_I (q 64) cI 90 fo, ra_J (q 65) cJ 90 fg, ra_I (q 66) cI 9 fk, ro_rrrrrnniin (q 5) 2 (q 44) (q 45) (q 46) (q 47) (q 48) dh mh uh rh nh, ro_rrrrnn (q 44) 0 (q 49) (q 50) (q 51) (q 52) ch wh, ra_I (q 49) cI 1600 y1, ra_J (q 50) cJ 64 y2, ra_J (q 51) cJ 9 y3, ra_J (q 52) cJ 10 y4, ra_I (q 47) cI 3 yf, ra_I (q 48) cI 3 yt, ro_rrrrrrrnn (q 11) 1 (q 10) (q 67) (q 68) (q 69) (q 70) (q 71) (q 72) gd gs, ra_I (q 67) cI 90 e1, ra_I (q 68) cI 9 e2, ra_I (q 69) cI 10 e3, ro_rrnnnin (q 7) 7 (q 33) (q 34) dy wn mo mu ke, ra_I (q 33) cI 9 fb, ra_I (q 34) cI 9 fw, ra_I (q 12) cI 9 ra, ra_I (q 13) cI 9 rc]) eu_4 hP hD rfl (fun hP hD => ?_)
  refine lv_if_ne (tgt := 9) hx hb dX11_fewest_4 (by decide) (fun c_6 => ?_) (fun c_6 => ?_)
  · have c_6 : ¬ (b_1 = 0) := fun h => c_6 ((neq b_1 0 (by omega) (Nat.le_of_ble_eq_true rfl)).mpr h)
    refine lv_aload_n hx hb dX11_fewest_9 rfl (lv_at hl 0 rfl) ?_
    refine sk_get (v := .ref (q 10)) (C := RX11) (T := TX11) (N := 18) hx hb hts inlX11 hown hK hP 0 rfl rfl 10 (Nat.le_of_ble_eq_true rfl) w_2_133 rfl dX11_fewest_10 ?_
    refine lv_aload_n hx hb dX11_fewest_13 rfl (lv_at hl 0 rfl) ?_
    refine sk_get (v := .ref (q 5)) (C := RX11) (T := TX11) (N := 18) hx hb hts inlX11 hown hK hP 0 rfl rfl 5 (Nat.le_of_ble_eq_true rfl) w_2_128 rfl dX11_fewest_14 ?_
    refine lv_aload_n hx hb dX11_fewest_17 rfl (lv_at hl 0 rfl) ?_
    refine sk_get (v := .ref (q 7)) (C := RX11) (T := TX11) (N := 18) hx hb hts inlX11 hown hK hP 0 rfl rfl 7 (Nat.le_of_ble_eq_true rfl) w_2_130 rfl dX11_fewest_18 ?_
    refine sk_Vv (q0 := 0) (n := 2) (rest := []) (wr := fmR om_25_fffe1c _) ⟨hx, hb, hml, hown, hts⟩ hl.1 (c_kfit l D cI cJ cC cZ cS q dh mh uh rh nh ch wh y1 y2 y3 y4 yf yt sa ft fa fo fg fk (q 7) (q 33) (q 34) dy wn mo ke mu fb fw Ba We L hsa hch hwh hdy hmo hLk (hlq (by omega)).1 (hlq (by omega)).2 hfb hfw hB9 hW9 hwn (htq (by omega))) w_3_205 w_3_206 w_3_207 w_1_12 w_3_208 hd_X9_fit_2 ⟨⟨(Nat.le_of_ble_eq_true rfl), (Nat.le_of_ble_eq_true rfl)⟩, (Nat.le_of_ble_eq_true rfl), (Nat.le_of_ble_eq_true rfl)⟩ hK hP hD hS hA (fmT om_25_fffe1c 0) (fmF om_25_fffe1c 0) (fm_C1 rfl rfl) (fm_R rfl rfl) (fm_nT om_25_fffe1c 0) (fm_nF om_25_fffe1c 0) (fm_di om_25_fffe1c 0) rfl rfl rfl rfl (Nat.le_of_ble_eq_true rfl) dX11_fewest_21 (fun u H locs hw hP hD hS => ?_)
    refine exE hw (fun sa2_7 hw1 => exE hw1 (fun ft2_8 hw2 => exE hw2 (fun fa2_9 hw3 => exE hw3 (fun fo2_10 hw4 => exE hw4 (fun fg2_11 hw5 => exE hw5 (fun fk2_12 hw6 => exE hw6 (fun z2_13 hw7 => exE hw7 (fun z3_14 hw8 => anE hw8 (fun hsa2_15 hw9 => anE hw9 (fun hti2_16 hw10 => anE hw10 (fun hrows_17 eu_18 => ?_)))))))))))
    clear hw hw1 hw2 hw3 hw4 hw5 hw6 hw7 hw8 hw9 hw10
    refine o_mgE (ws' := [ro_rrrrrrrrrrrrrrrirl x0 11 (q 0) (q 1) (q 2) (q 3) (q 4) (q 5) (q 6) (q 7) (q 8) (q 9) (q 10) (q 11) (q 12) (q 13) (q 14) hc (q 16) dr, ro_rrrrrr (q 10) 9 (q 61) (q 62) (q 63) (q 64) (q 65) (q 66), ra_N (q 61) cI 90 sa2_7, ra_I (q 62) cI 900 ft2_8, ra_I (q 63) cI 90 fa2_9, ra_I (q 64) cI 90 fo2_10, ra_J (q 65) cJ 90 fg2_11, ra_I (q 66) cI 9 fk2_12, ro_rrrrrnniin (q 5) 2 (q 44) (q 45) (q 46) (q 47) (q 48) dh mh uh rh nh, ro_rrrrnn (q 44) 0 (q 49) (q 50) (q 51) (q 52) ch wh, ra_I (q 49) cI 1600 y1, ra_J (q 50) cJ 64 z2_13, ra_J (q 51) cJ 9 z3_14, ra_J (q 52) cJ 10 y4, ra_I (q 47) cI 3 yf, ra_I (q 48) cI 3 yt, ro_rrrrrrrnn (q 11) 1 (q 10) (q 67) (q 68) (q 69) (q 70) (q 71) (q 72) gd gs, ra_I (q 67) cI 90 e1, ra_I (q 68) cI 9 e2, ra_I (q 69) cI 10 e3, ro_rrnnnin (q 7) 7 (q 33) (q 34) dy wn mo mu ke, ra_I (q 33) cI 9 fb, ra_I (q 34) cI 9 fw, ra_I (q 12) cI 9 ra, ra_I (q 13) cI 9 rc]) eu_18 hP hD rfl (fun hP hD => ?_)
    refine lv_iconst (v := 0) hx hb dX11_fewest_24 ic_0 ?_
    refine lv_istore (lv' := [(4, .int 0), (0, .ref x0), (1, .int a1), (2, .int (nI d)), (3, .int w)]) hx hb dX11_fewest_25 hl (by decide) rfl (fun ls hl => ?_)
    have lp_19 : ∀ (n_20 : Nat) (i : Nat) (zd : Nat) (zs : Nat) (b1 : Nat → Int32) (b2 : Nat → Int32) (b3 : Nat → Int32) (ba : Nat → Int32) (bc : Nat → Int32) (H : Heap) (locs : List Loc) (ls : Array Slot), 10 - i < n_20 → (i ≤ 10) → (zd ≤ 9) → (zs ≤ 9) → va_P D vwCl [ro_rrrrrrrrrrrrrrrirl x0 11 (q 0) (q 1) (q 2) (q 3) (q 4) (q 5) (q 6) (q 7) (q 8) (q 9) (q 10) (q 11) (q 12) (q 13) (q 14) hc (q 16) dr, ro_rrrrrr (q 10) 9 (q 61) (q 62) (q 63) (q 64) (q 65) (q 66), ra_N (q 61) cI 90 sa2_7, ra_I (q 62) cI 900 ft2_8, ra_I (q 63) cI 90 fa2_9, ra_I (q 64) cI 90 fo2_10, ra_J (q 65) cJ 90 fg2_11, ra_I (q 66) cI 9 fk2_12, ro_rrrrrnniin (q 5) 2 (q 44) (q 45) (q 46) (q 47) (q 48) dh mh uh rh nh, ro_rrrrnn (q 44) 0 (q 49) (q 50) (q 51) (q 52) ch wh, ra_I (q 49) cI 1600 y1, ra_J (q 50) cJ 64 z2_13, ra_J (q 51) cJ 9 z3_14, ra_J (q 52) cJ 10 y4, ra_I (q 47) cI 3 yf, ra_I (q 48) cI 3 yt, ro_rrrrrrrnn (q 11) 1 (q 10) (q 67) (q 68) (q 69) (q 70) (q 71) (q 72) zd zs, ra_I (q 67) cI 90 b1, ra_I (q 68) cI 9 b2, ra_I (q 69) cI 10 b3, ro_rrnnnin (q 7) 7 (q 33) (q 34) dy wn mo mu ke, ra_I (q 33) cI 9 fb, ra_I (q 34) cI 9 fw, ra_I (q 12) cI 9 ba, ra_I (q 13) cI 9 bc] H → va_D A [ro_rrrrrrrrrrrrrrrirl x0 11 (q 0) (q 1) (q 2) (q 3) (q 4) (q 5) (q 6) (q 7) (q 8) (q 9) (q 10) (q 11) (q 12) (q 13) (q 14) hc (q 16) dr, ro_rrrrrr (q 10) 9 (q 61) (q 62) (q 63) (q 64) (q 65) (q 66), ra_N (q 61) cI 90 sa2_7, ra_I (q 62) cI 900 ft2_8, ra_I (q 63) cI 90 fa2_9, ra_I (q 64) cI 90 fo2_10, ra_J (q 65) cJ 90 fg2_11, ra_I (q 66) cI 9 fk2_12, ro_rrrrrnniin (q 5) 2 (q 44) (q 45) (q 46) (q 47) (q 48) dh mh uh rh nh, ro_rrrrnn (q 44) 0 (q 49) (q 50) (q 51) (q 52) ch wh, ra_I (q 49) cI 1600 y1, ra_J (q 50) cJ 64 z2_13, ra_J (q 51) cJ 9 z3_14, ra_J (q 52) cJ 10 y4, ra_I (q 47) cI 3 yf, ra_I (q 48) cI 3 yt, ro_rrrrrrrnn (q 11) 1 (q 10) (q 67) (q 68) (q 69) (q 70) (q 71) (q 72) zd zs, ra_I (q 67) cI 90 b1, ra_I (q 68) cI 9 b2, ra_I (q 69) cI 10 b3, ro_rrnnnin (q 7) 7 (q 33) (q 34) dy wn mo mu ke, ra_I (q 33) cI 9 fb, ra_I (q 34) cI 9 fw, ra_I (q 12) cI 9 ba, ra_I (q 13) cI 9 bc] → va_S A s.heap H locs → lv_has ls 7 [(4, .int (nI i)), (0, .ref x0), (1, .int a1), (2, .int (nI d)), (3, .int w)] → W p l e { frames := 5, cells := 0, slots := 0, locals := 128 } s m ([.ref x0, .int a1, .int (nI d), .int w] : List Value).toArray below meth c H locs 0 0 (MQ below (skI D (skT cI cJ cC cZ cS) (fun (r : Int32) (u : va_W) => ∃ (sa2 : Nat → Nat), ∃ (ft2 : Nat → Int32), ∃ (fa2 : Nat → Int32), ∃ (fo2 : Nat → Int32), ∃ (fg2 : Nat → Int64), ∃ (fk2 : Nat → Int32), ∃ (z2 : Nat → Int64), ∃ (z3 : Nat → Int64), ∃ (g1 : Nat → Int32), ∃ (g2 : Nat → Int32), ∃ (g3 : Nat → Int32), ∃ (gd2 : Nat), ∃ (gs2 : Nat), ∃ (ra2 : Nat → Int32), ∃ (rc2 : Nat → Int32), (∀ j, sa2 j ≤ 9) ∧ (1 ≤ dy → kcTI L sa2 ft2 fa2 fo2 fg2 fk2) ∧ gd2 ≤ 9 ∧ gs2 ≤ 9 ∧ u = [ro_rrrrrrrrrrrrrrrirl x0 11 (q 0) (q 1) (q 2) (q 3) (q 4) (q 5) (q 6) (q 7) (q 8) (q 9) (q 10) (q 11) (q 12) (q 13) (q 14) hc (q 16) dr, ro_rrrrrr (q 10) 9 (q 61) (q 62) (q 63) (q 64) (q 65) (q 66), ra_N (q 61) cI 90 sa2, ra_I (q 62) cI 900 ft2, ra_I (q 63) cI 90 fa2, ra_I (q 64) cI 90 fo2, ra_J (q 65) cJ 90 fg2, ra_I (q 66) cI 9 fk2, ro_rrrrrnniin (q 5) 2 (q 44) (q 45) (q 46) (q 47) (q 48) dh mh uh rh nh, ro_rrrrnn (q 44) 0 (q 49) (q 50) (q 51) (q 52) ch wh, ra_I (q 49) cI 1600 y1, ra_J (q 50) cJ 64 z2, ra_J (q 51) cJ 9 z3, ra_J (q 52) cJ 10 y4, ra_I (q 47) cI 3 yf, ra_I (q 48) cI 3 yt, ro_rrrrrrrnn (q 11) 1 (q 10) (q 67) (q 68) (q 69) (q 70) (q 71) (q 72) gd2 gs2, ra_I (q 67) cI 90 g1, ra_I (q 68) cI 9 g2, ra_I (q 69) cI 10 g3, ro_rrnnnin (q 7) 7 (q 33) (q 34) dy wn mo mu ke, ra_I (q 33) cI 9 fb, ra_I (q 34) cI 9 fw, ra_I (q 12) cI 9 ra2, ra_I (q 13) cI 9 rc2]) A) ([.ref x0, .int a1, .int (nI d), .int w] : List Value).toArray s 0 0 A) (F0 m 27 ls []) := by
      intro n_20
      induction n_20 with
      | zero => intro i zd zs b1 b2 b3 ba bc H locs ls hm; exact absurd hm (Nat.not_lt_zero _)
      | succ n_20 ih_lp_19 =>
        intro i zd zs b1 b2 b3 ba bc H locs ls hm hi hzd hzs hP hD hS hl
        refine lv_iload hx hb dX11_fewest_27 (lv_at hl 0 rfl) ?_
        refine lv_aload_n hx hb dX11_fewest_29 rfl (lv_at hl 1 rfl) ?_
        refine sk_get (v := .ref (q 7)) (C := RX11) (T := TX11) (N := 18) hx hb hts inlX11 hown hK hP 0 rfl rfl 7 (Nat.le_of_ble_eq_true rfl) w_2_130 rfl dX11_fewest_30 ?_
        refine sk_get (v := .int (nI dy)) (C := RX7) (T := TX7) (N := 7) hx hb hts inlX7 hown hK hP 20 rfl rfl 2 (Nat.le_of_ble_eq_true rfl) w_2_1 rfl dX11_fewest_33 ?_
        refine lv_icmp_gt (tgt := 126) hx hb dX11_fewest_36 (by decide) (fun c_21 => ?_) (fun c_21 => ?_)
        · have c_21 : dy < i := (nlt dy i (by omega) (by omega)).mp c_21
          refine lv_iconst (v := (-1)) hx hb dX11_fewest_126 (by decide) ?_
          exact sk_iret hx hb hr rfl hlocks hK hP hD hS (⟨sa2_7, ft2_8, fa2_9, fo2_10, fg2_11, fk2_12, z2_13, z3_14, b1, b2, b3, zd, zs, ba, bc, hsa2_15, (fun _ => hti2_16), hzd, hzs, rfl⟩) (Nat.le_of_ble_eq_true rfl) (Nat.le_of_ble_eq_true rfl) dX11_fewest_127
        · have c_21 : ¬ (dy < i) := fun h => c_21 ((nlt dy i (by omega) (by omega)).mpr h)
          refine lv_iconst (v := 0) hx hb dX11_fewest_39 ic_0 ?_
          refine lv_istore (lv' := [(5, .int 0), (4, .int (nI i)), (0, .ref x0), (1, .int a1), (2, .int (nI d)), (3, .int w)]) hx hb dX11_fewest_40 hl (by decide) rfl (fun ls hl => ?_)
          have lp_22 : ∀ (n_23 : Nat) (jj : Nat) (wd : Nat) (ws_ : Nat) (c1 : Nat → Int32) (c2_ : Nat → Int32) (c3 : Nat → Int32) (ca : Nat → Int32) (cc_ : Nat → Int32) (H : Heap) (locs : List Loc) (ls : Array Slot), 512 - jj < n_23 → (jj ≤ 512) → (wd ≤ 9) → (ws_ ≤ 9) → va_P D vwCl [ro_rrrrrrrrrrrrrrrirl x0 11 (q 0) (q 1) (q 2) (q 3) (q 4) (q 5) (q 6) (q 7) (q 8) (q 9) (q 10) (q 11) (q 12) (q 13) (q 14) hc (q 16) dr, ro_rrrrrr (q 10) 9 (q 61) (q 62) (q 63) (q 64) (q 65) (q 66), ra_N (q 61) cI 90 sa2_7, ra_I (q 62) cI 900 ft2_8, ra_I (q 63) cI 90 fa2_9, ra_I (q 64) cI 90 fo2_10, ra_J (q 65) cJ 90 fg2_11, ra_I (q 66) cI 9 fk2_12, ro_rrrrrnniin (q 5) 2 (q 44) (q 45) (q 46) (q 47) (q 48) dh mh uh rh nh, ro_rrrrnn (q 44) 0 (q 49) (q 50) (q 51) (q 52) ch wh, ra_I (q 49) cI 1600 y1, ra_J (q 50) cJ 64 z2_13, ra_J (q 51) cJ 9 z3_14, ra_J (q 52) cJ 10 y4, ra_I (q 47) cI 3 yf, ra_I (q 48) cI 3 yt, ro_rrrrrrrnn (q 11) 1 (q 10) (q 67) (q 68) (q 69) (q 70) (q 71) (q 72) wd ws_, ra_I (q 67) cI 90 c1, ra_I (q 68) cI 9 c2_, ra_I (q 69) cI 10 c3, ro_rrnnnin (q 7) 7 (q 33) (q 34) dy wn mo mu ke, ra_I (q 33) cI 9 fb, ra_I (q 34) cI 9 fw, ra_I (q 12) cI 9 ca, ra_I (q 13) cI 9 cc_] H → va_D A [ro_rrrrrrrrrrrrrrrirl x0 11 (q 0) (q 1) (q 2) (q 3) (q 4) (q 5) (q 6) (q 7) (q 8) (q 9) (q 10) (q 11) (q 12) (q 13) (q 14) hc (q 16) dr, ro_rrrrrr (q 10) 9 (q 61) (q 62) (q 63) (q 64) (q 65) (q 66), ra_N (q 61) cI 90 sa2_7, ra_I (q 62) cI 900 ft2_8, ra_I (q 63) cI 90 fa2_9, ra_I (q 64) cI 90 fo2_10, ra_J (q 65) cJ 90 fg2_11, ra_I (q 66) cI 9 fk2_12, ro_rrrrrnniin (q 5) 2 (q 44) (q 45) (q 46) (q 47) (q 48) dh mh uh rh nh, ro_rrrrnn (q 44) 0 (q 49) (q 50) (q 51) (q 52) ch wh, ra_I (q 49) cI 1600 y1, ra_J (q 50) cJ 64 z2_13, ra_J (q 51) cJ 9 z3_14, ra_J (q 52) cJ 10 y4, ra_I (q 47) cI 3 yf, ra_I (q 48) cI 3 yt, ro_rrrrrrrnn (q 11) 1 (q 10) (q 67) (q 68) (q 69) (q 70) (q 71) (q 72) wd ws_, ra_I (q 67) cI 90 c1, ra_I (q 68) cI 9 c2_, ra_I (q 69) cI 10 c3, ro_rrnnnin (q 7) 7 (q 33) (q 34) dy wn mo mu ke, ra_I (q 33) cI 9 fb, ra_I (q 34) cI 9 fw, ra_I (q 12) cI 9 ca, ra_I (q 13) cI 9 cc_] → va_S A s.heap H locs → lv_has ls 7 [(5, .int (nI jj)), (4, .int (nI i)), (0, .ref x0), (1, .int a1), (2, .int (nI d)), (3, .int w)] → W p l e { frames := 5, cells := 0, slots := 0, locals := 128 } s m ([.ref x0, .int a1, .int (nI d), .int w] : List Value).toArray below meth c H locs 0 0 (MQ below (skI D (skT cI cJ cC cZ cS) (fun (r : Int32) (u : va_W) => ∃ (sa2 : Nat → Nat), ∃ (ft2 : Nat → Int32), ∃ (fa2 : Nat → Int32), ∃ (fo2 : Nat → Int32), ∃ (fg2 : Nat → Int64), ∃ (fk2 : Nat → Int32), ∃ (z2 : Nat → Int64), ∃ (z3 : Nat → Int64), ∃ (g1 : Nat → Int32), ∃ (g2 : Nat → Int32), ∃ (g3 : Nat → Int32), ∃ (gd2 : Nat), ∃ (gs2 : Nat), ∃ (ra2 : Nat → Int32), ∃ (rc2 : Nat → Int32), (∀ j, sa2 j ≤ 9) ∧ (1 ≤ dy → kcTI L sa2 ft2 fa2 fo2 fg2 fk2) ∧ gd2 ≤ 9 ∧ gs2 ≤ 9 ∧ u = [ro_rrrrrrrrrrrrrrrirl x0 11 (q 0) (q 1) (q 2) (q 3) (q 4) (q 5) (q 6) (q 7) (q 8) (q 9) (q 10) (q 11) (q 12) (q 13) (q 14) hc (q 16) dr, ro_rrrrrr (q 10) 9 (q 61) (q 62) (q 63) (q 64) (q 65) (q 66), ra_N (q 61) cI 90 sa2, ra_I (q 62) cI 900 ft2, ra_I (q 63) cI 90 fa2, ra_I (q 64) cI 90 fo2, ra_J (q 65) cJ 90 fg2, ra_I (q 66) cI 9 fk2, ro_rrrrrnniin (q 5) 2 (q 44) (q 45) (q 46) (q 47) (q 48) dh mh uh rh nh, ro_rrrrnn (q 44) 0 (q 49) (q 50) (q 51) (q 52) ch wh, ra_I (q 49) cI 1600 y1, ra_J (q 50) cJ 64 z2, ra_J (q 51) cJ 9 z3, ra_J (q 52) cJ 10 y4, ra_I (q 47) cI 3 yf, ra_I (q 48) cI 3 yt, ro_rrrrrrrnn (q 11) 1 (q 10) (q 67) (q 68) (q 69) (q 70) (q 71) (q 72) gd2 gs2, ra_I (q 67) cI 90 g1, ra_I (q 68) cI 9 g2, ra_I (q 69) cI 10 g3, ro_rrnnnin (q 7) 7 (q 33) (q 34) dy wn mo mu ke, ra_I (q 33) cI 9 fb, ra_I (q 34) cI 9 fw, ra_I (q 12) cI 9 ra2, ra_I (q 13) cI 9 rc2]) A) ([.ref x0, .int a1, .int (nI d), .int w] : List Value).toArray s 0 0 A) (F0 m 42 ls []) := by
            intro n_23
            induction n_23 with
            | zero => intro jj wd ws_ c1 c2_ c3 ca cc_ H locs ls hm; exact absurd hm (Nat.not_lt_zero _)
            | succ n_23 ih_lp_22 =>
              intro jj wd ws_ c1 c2_ c3 ca cc_ H locs ls hm hjj hwd hws hP hD hS hl
              refine lv_iload hx hb dX11_fewest_42 (lv_at hl 0 rfl) ?_
              refine lv_iconst (v := 1) hx hb dX11_fewest_44 ic_1 ?_
              refine lv_aload_n hx hb dX11_fewest_45 rfl (lv_at hl 2 rfl) ?_
              refine sk_get (v := .ref (q 7)) (C := RX11) (T := TX11) (N := 18) hx hb hts inlX11 hown hK hP 0 rfl rfl 7 (Nat.le_of_ble_eq_true rfl) w_2_130 rfl dX11_fewest_46 ?_
              refine sk_get (v := .int (nI dy)) (C := RX7) (T := TX7) (N := 7) hx hb hts inlX7 hown hK hP 20 rfl rfl 2 (Nat.le_of_ble_eq_true rfl) w_2_1 rfl dX11_fewest_49 ?_
              refine lv_ishl hx hb dX11_fewest_52 ?_
              obtain ⟨k_24, hk_24, ek_24⟩ := nshl1 dy (by omega)
              refine sk_top (nI k_24) ek_24 ?_
              refine lv_icmp_ge (tgt := 120) hx hb dX11_fewest_53 (by decide) (fun c_25 => ?_) (fun c_25 => ?_)
              · have c_25 : k_24 ≤ jj := (nle k_24 jj (by omega) (by omega)).mp c_25
                refine lv_iinc (v := nI (i + 1)) (lv' := [(4, .int (nI (i + 1))), (5, .int (nI jj)), (0, .ref x0), (1, .int a1), (2, .int (nI d)), (3, .int w)]) hx hb dX11_fewest_120 hl (k := 1) rfl (ninc i 1 (by decide)) (by decide) rfl (fun ls hl => ?_)
                refine lv_goto (tgt := 27) hx hb dX11_fewest_123 (by decide) ?_
                exact ih_lp_19 (i + 1) wd ws_ c1 c2_ c3 ca cc_ _ _ _ (by omega) (by omega) hwd hws hP hD hS (lv_sub hl [0, 2, 3, 4, 5] rfl)
              · have c_25 : ¬ (k_24 ≤ jj) := fun h => c_25 ((nle k_24 jj (by omega) (by omega)).mpr h)
                have jn_26 : ∀ (bq : Int32) (H : Heap) (locs : List Loc) (ls : Array Slot), va_P D vwCl [ro_rrrrrrrrrrrrrrrirl x0 11 (q 0) (q 1) (q 2) (q 3) (q 4) (q 5) (q 6) (q 7) (q 8) (q 9) (q 10) (q 11) (q 12) (q 13) (q 14) hc (q 16) dr, ro_rrrrrr (q 10) 9 (q 61) (q 62) (q 63) (q 64) (q 65) (q 66), ra_N (q 61) cI 90 sa2_7, ra_I (q 62) cI 900 ft2_8, ra_I (q 63) cI 90 fa2_9, ra_I (q 64) cI 90 fo2_10, ra_J (q 65) cJ 90 fg2_11, ra_I (q 66) cI 9 fk2_12, ro_rrrrrnniin (q 5) 2 (q 44) (q 45) (q 46) (q 47) (q 48) dh mh uh rh nh, ro_rrrrnn (q 44) 0 (q 49) (q 50) (q 51) (q 52) ch wh, ra_I (q 49) cI 1600 y1, ra_J (q 50) cJ 64 z2_13, ra_J (q 51) cJ 9 z3_14, ra_J (q 52) cJ 10 y4, ra_I (q 47) cI 3 yf, ra_I (q 48) cI 3 yt, ro_rrrrrrrnn (q 11) 1 (q 10) (q 67) (q 68) (q 69) (q 70) (q 71) (q 72) wd ws_, ra_I (q 67) cI 90 c1, ra_I (q 68) cI 9 c2_, ra_I (q 69) cI 10 c3, ro_rrnnnin (q 7) 7 (q 33) (q 34) dy wn mo mu ke, ra_I (q 33) cI 9 fb, ra_I (q 34) cI 9 fw, ra_I (q 12) cI 9 ca, ra_I (q 13) cI 9 cc_] H → va_D A [ro_rrrrrrrrrrrrrrrirl x0 11 (q 0) (q 1) (q 2) (q 3) (q 4) (q 5) (q 6) (q 7) (q 8) (q 9) (q 10) (q 11) (q 12) (q 13) (q 14) hc (q 16) dr, ro_rrrrrr (q 10) 9 (q 61) (q 62) (q 63) (q 64) (q 65) (q 66), ra_N (q 61) cI 90 sa2_7, ra_I (q 62) cI 900 ft2_8, ra_I (q 63) cI 90 fa2_9, ra_I (q 64) cI 90 fo2_10, ra_J (q 65) cJ 90 fg2_11, ra_I (q 66) cI 9 fk2_12, ro_rrrrrnniin (q 5) 2 (q 44) (q 45) (q 46) (q 47) (q 48) dh mh uh rh nh, ro_rrrrnn (q 44) 0 (q 49) (q 50) (q 51) (q 52) ch wh, ra_I (q 49) cI 1600 y1, ra_J (q 50) cJ 64 z2_13, ra_J (q 51) cJ 9 z3_14, ra_J (q 52) cJ 10 y4, ra_I (q 47) cI 3 yf, ra_I (q 48) cI 3 yt, ro_rrrrrrrnn (q 11) 1 (q 10) (q 67) (q 68) (q 69) (q 70) (q 71) (q 72) wd ws_, ra_I (q 67) cI 90 c1, ra_I (q 68) cI 9 c2_, ra_I (q 69) cI 10 c3, ro_rrnnnin (q 7) 7 (q 33) (q 34) dy wn mo mu ke, ra_I (q 33) cI 9 fb, ra_I (q 34) cI 9 fw, ra_I (q 12) cI 9 ca, ra_I (q 13) cI 9 cc_] → va_S A s.heap H locs → lv_has ls 7 [(5, .int (nI jj)), (4, .int (nI i)), (0, .ref x0), (1, .int a1), (2, .int (nI d)), (3, .int w)] → W p l e { frames := 5, cells := 0, slots := 0, locals := 128 } s m ([.ref x0, .int a1, .int (nI d), .int w] : List Value).toArray below meth c H locs 0 0 (MQ below (skI D (skT cI cJ cC cZ cS) (fun (r : Int32) (u : va_W) => ∃ (sa2 : Nat → Nat), ∃ (ft2 : Nat → Int32), ∃ (fa2 : Nat → Int32), ∃ (fo2 : Nat → Int32), ∃ (fg2 : Nat → Int64), ∃ (fk2 : Nat → Int32), ∃ (z2 : Nat → Int64), ∃ (z3 : Nat → Int64), ∃ (g1 : Nat → Int32), ∃ (g2 : Nat → Int32), ∃ (g3 : Nat → Int32), ∃ (gd2 : Nat), ∃ (gs2 : Nat), ∃ (ra2 : Nat → Int32), ∃ (rc2 : Nat → Int32), (∀ j, sa2 j ≤ 9) ∧ (1 ≤ dy → kcTI L sa2 ft2 fa2 fo2 fg2 fk2) ∧ gd2 ≤ 9 ∧ gs2 ≤ 9 ∧ u = [ro_rrrrrrrrrrrrrrrirl x0 11 (q 0) (q 1) (q 2) (q 3) (q 4) (q 5) (q 6) (q 7) (q 8) (q 9) (q 10) (q 11) (q 12) (q 13) (q 14) hc (q 16) dr, ro_rrrrrr (q 10) 9 (q 61) (q 62) (q 63) (q 64) (q 65) (q 66), ra_N (q 61) cI 90 sa2, ra_I (q 62) cI 900 ft2, ra_I (q 63) cI 90 fa2, ra_I (q 64) cI 90 fo2, ra_J (q 65) cJ 90 fg2, ra_I (q 66) cI 9 fk2, ro_rrrrrnniin (q 5) 2 (q 44) (q 45) (q 46) (q 47) (q 48) dh mh uh rh nh, ro_rrrrnn (q 44) 0 (q 49) (q 50) (q 51) (q 52) ch wh, ra_I (q 49) cI 1600 y1, ra_J (q 50) cJ 64 z2, ra_J (q 51) cJ 9 z3, ra_J (q 52) cJ 10 y4, ra_I (q 47) cI 3 yf, ra_I (q 48) cI 3 yt, ro_rrrrrrrnn (q 11) 1 (q 10) (q 67) (q 68) (q 69) (q 70) (q 71) (q 72) gd2 gs2, ra_I (q 67) cI 90 g1, ra_I (q 68) cI 9 g2, ra_I (q 69) cI 10 g3, ro_rrnnnin (q 7) 7 (q 33) (q 34) dy wn mo mu ke, ra_I (q 33) cI 9 fb, ra_I (q 34) cI 9 fw, ra_I (q 12) cI 9 ra2, ra_I (q 13) cI 9 rc2]) A) ([.ref x0, .int a1, .int (nI d), .int w] : List Value).toArray s 0 0 A) (F0 m 84 ls [.int bq]) := by
                  intro bq H locs ls  hP hD hS hl
                  refine lv_istore (lv' := [(6, .int bq), (5, .int (nI jj)), (4, .int (nI i)), (0, .ref x0), (1, .int a1), (2, .int (nI d)), (3, .int w)]) hx hb dX11_fewest_84 hl (by decide) rfl (fun ls hl => ?_)
                  refine lv_iload hx hb dX11_fewest_86 (lv_at hl 0 rfl) ?_
                  refine lv_if_eq (tgt := 114) hx hb dX11_fewest_88 (by decide) (fun c_27 => ?_) (fun c_27 => ?_)
                  · skip
                    refine lv_iinc (v := nI (jj + 1)) (lv' := [(5, .int (nI (jj + 1))), (6, .int bq), (4, .int (nI i)), (0, .ref x0), (1, .int a1), (2, .int (nI d)), (3, .int w)]) hx hb dX11_fewest_114 hl (k := 1) rfl (ninc jj 1 (by decide)) (by decide) rfl (fun ls hl => ?_)
                    refine lv_goto (tgt := 42) hx hb dX11_fewest_117 (by decide) ?_
                    exact ih_lp_22 (jj + 1) wd ws_ c1 c2_ c3 ca cc_ _ _ _ (by omega) (by omega) hwd hws hP hD hS (lv_sub hl [0, 2, 3, 4, 5, 6] rfl)
                  · skip
                    refine lv_aload_n hx hb dX11_fewest_91 rfl (lv_at hl 3 rfl) ?_
                    refine lv_iload_n hx hb dX11_fewest_92 rfl (lv_at hl 4 rfl) ?_
                    refine lv_aload_n hx hb dX11_fewest_93 rfl (lv_at hl 3 rfl) ?_
                    refine sk_get (v := .ref (q 7)) (C := RX11) (T := TX11) (N := 18) hx hb hts inlX11 hown hK hP 0 rfl rfl 7 (Nat.le_of_ble_eq_true rfl) w_2_130 rfl dX11_fewest_94 ?_
                    refine sk_get (v := .int mu) (C := RX7) (T := TX7) (N := 7) hx hb hts inlX7 hown hK hP 20 rfl rfl 5 (Nat.le_of_ble_eq_true rfl) w_2_12 rfl dX11_fewest_97 ?_
                    refine lv_iload hx hb dX11_fewest_100 (lv_at hl 1 rfl) ?_
                    refine lv_ior hx hb dX11_fewest_102 ?_
                    refine lv_topi (fun v_28 ev_28 => ?_)
                    refine lv_iload_n hx hb dX11_fewest_103 rfl (lv_at hl 5 rfl) ?_
                    refine lv_iload_n hx hb dX11_fewest_104 rfl (lv_at hl 6 rfl) ?_
                    refine sk_Vi (q0 := 0) (n := 4) (rest := []) (wr := fmR om_25_1fe01ff _) ⟨hx, hb, hml, hown, hts⟩ hl.1 (c_x_serves l D cI cJ cC cZ cS x0 q hc dr sa2_7 ft2_8 fa2_9 fo2_10 fg2_11 fk2_12 dy mo (nI wn) mu (nI ke) fb fw wd ws_ c1 c2_ c3 ca cc_ d a1 v_28 w hsa2_15 hdy hmo hwd hws hd) w_4_100 w_4_102 w_0_23 w_1_1 w_4_103 hd_X11_serves_4 ⟨⟨(Nat.le_of_ble_eq_true rfl), (Nat.le_of_ble_eq_true rfl)⟩, (Nat.le_of_ble_eq_true rfl), (Nat.le_of_ble_eq_true rfl)⟩ hK hP hD hS hA [0, 1, 2, 3, 4, 5, 6, 7, 20, 21, 22, 16, 17, 18, 19, 23, 24] (fmF om_25_1fe01ff 0) rfl (fm_R rfl rfl) (by decide +kernel) (fm_nF om_25_1fe01ff 0) (by decide +kernel) rfl rfl rfl rfl (Nat.le_of_ble_eq_true rfl) dX11_fewest_105 (fun r_37 u H locs hw hP hD hS => ?_)
                    refine exE hw (fun gd2_29 hw1 => exE hw1 (fun gs2_30 hw2 => exE hw2 (fun b_31 hw3 => exE hw3 (fun g1_32 hw4 => exE hw4 (fun g2_33 hw5 => exE hw5 (fun g3_34 hw6 => exE hw6 (fun ra2_35 hw7 => exE hw7 (fun rc2_36 hw8 => anE hw8 (fun hgd2_38 hw9 => anE hw9 (fun hgs2_39 hw10 => anE hw10 (fun hb1_40 hw11 => anE hw11 (fun er_42 eu_41 => ?_))))))))))))
                    clear hw hw1 hw2 hw3 hw4 hw5 hw6 hw7 hw8 hw9 hw10 hw11
                    subst er_42
                    refine o_mgqE (ux := [ro_rrrrrrrrrrrrrrrirl x0 11 (q 0) (q 1) (q 2) (q 3) (q 4) (q 5) (q 6) (q 7) (q 8) (q 9) (q 10) (q 11) (q 12) (q 13) (q 14) hc (q 16) dr, ro_rrrrrr (q 10) 9 (q 61) (q 62) (q 63) (q 64) (q 65) (q 66), ra_N (q 61) cI 90 sa2_7, ra_I (q 62) cI 900 ft2_8, ra_I (q 63) cI 90 fa2_9, ra_I (q 64) cI 90 fo2_10, ra_J (q 65) cJ 90 fg2_11, ra_I (q 66) cI 9 fk2_12, ro_rrrrrrrnn (q 11) 1 (q 10) (q 67) (q 68) (q 69) (q 70) (q 71) (q 72) gd2_29 gs2_30, ra_I (q 67) cI 90 g1_32, ra_I (q 68) cI 9 g2_33, ra_I (q 69) cI 10 g3_34, ro_rrnnnin (q 7) 7 (q 33) (q 34) dy wn mo mu ke, ra_I (q 33) cI 9 fb, ra_I (q 34) cI 9 fw, ra_I (q 12) cI 9 ra2_35, ra_I (q 13) cI 9 rc2_36]) (ws' := [ro_rrrrrrrrrrrrrrrirl x0 11 (q 0) (q 1) (q 2) (q 3) (q 4) (q 5) (q 6) (q 7) (q 8) (q 9) (q 10) (q 11) (q 12) (q 13) (q 14) hc (q 16) dr, ro_rrrrrr (q 10) 9 (q 61) (q 62) (q 63) (q 64) (q 65) (q 66), ra_N (q 61) cI 90 sa2_7, ra_I (q 62) cI 900 ft2_8, ra_I (q 63) cI 90 fa2_9, ra_I (q 64) cI 90 fo2_10, ra_J (q 65) cJ 90 fg2_11, ra_I (q 66) cI 9 fk2_12, ro_rrrrrnniin (q 5) 2 (q 44) (q 45) (q 46) (q 47) (q 48) dh mh uh rh nh, ro_rrrrnn (q 44) 0 (q 49) (q 50) (q 51) (q 52) ch wh, ra_I (q 49) cI 1600 y1, ra_J (q 50) cJ 64 z2_13, ra_J (q 51) cJ 9 z3_14, ra_J (q 52) cJ 10 y4, ra_I (q 47) cI 3 yf, ra_I (q 48) cI 3 yt, ro_rrrrrrrnn (q 11) 1 (q 10) (q 67) (q 68) (q 69) (q 70) (q 71) (q 72) gd2_29 gs2_30, ra_I (q 67) cI 90 g1_32, ra_I (q 68) cI 9 g2_33, ra_I (q 69) cI 10 g3_34, ro_rrnnnin (q 7) 7 (q 33) (q 34) dy wn mo mu ke, ra_I (q 33) cI 9 fb, ra_I (q 34) cI 9 fw, ra_I (q 12) cI 9 ra2_35, ra_I (q 13) cI 9 rc2_36]) eu_41 [0, 1, 2, 3, 4, 5, 6, 7, 11, 12, 13, 14, 8, 9, 10, 15, 16] (by decide +kernel) rfl hP hD rfl (fun hP hD => ?_)
                    refine lv_if_eq (tgt := 114) hx hb dX11_fewest_108 (by decide) (fun c_43 => ?_) (fun c_43 => ?_)
                    · have c_43 : b_31 = 0 := (neq b_31 0 (by omega) (Nat.le_of_ble_eq_true rfl)).mp c_43
                      refine lv_iinc (v := nI (jj + 1)) (lv' := [(5, .int (nI (jj + 1))), (6, .int bq), (4, .int (nI i)), (0, .ref x0), (1, .int a1), (2, .int (nI d)), (3, .int w)]) hx hb dX11_fewest_114 hl (k := 1) rfl (ninc jj 1 (by decide)) (by decide) rfl (fun ls hl => ?_)
                      refine lv_goto (tgt := 42) hx hb dX11_fewest_117 (by decide) ?_
                      exact ih_lp_22 (jj + 1) gd2_29 gs2_30 g1_32 g2_33 g3_34 ra2_35 rc2_36 _ _ _ (by omega) (by omega) hgd2_38 hgs2_39 hP hD hS (lv_sub hl [0, 2, 3, 4, 5, 6] rfl)
                    · have c_43 : ¬ (b_31 = 0) := fun h => c_43 ((neq b_31 0 (by omega) (Nat.le_of_ble_eq_true rfl)).mpr h)
                      refine lv_iload hx hb dX11_fewest_111 (lv_at hl 1 rfl) ?_
                      exact sk_iret hx hb hr rfl hlocks hK hP hD hS (⟨sa2_7, ft2_8, fa2_9, fo2_10, fg2_11, fk2_12, z2_13, z3_14, g1_32, g2_33, g3_34, gd2_29, gs2_30, ra2_35, rc2_36, hsa2_15, (fun _ => hti2_16), hgd2_38, hgs2_39, rfl⟩) (Nat.le_of_ble_eq_true rfl) (Nat.le_of_ble_eq_true rfl) dX11_fewest_113
                refine lv_iload hx hb dX11_fewest_56 (lv_at hl 0 rfl) ?_
                refine sk_Si (n := 1) (rest := []) (wr := [ro_rrrrrrrrrrrrrrrirl x0 11 (q 0) (q 1) (q 2) (q 3) (q 4) (q 5) (q 6) (q 7) (q 8) (q 9) (q 10) (q 11) (q 12) (q 13) (q 14) hc (q 16) dr, ro_rrrrrr (q 10) 9 (q 61) (q 62) (q 63) (q 64) (q 65) (q 66), ra_N (q 61) cI 90 sa2_7, ra_I (q 62) cI 900 ft2_8, ra_I (q 63) cI 90 fa2_9, ra_I (q 64) cI 90 fo2_10, ra_J (q 65) cJ 90 fg2_11, ra_I (q 66) cI 9 fk2_12, ro_rrrrrnniin (q 5) 2 (q 44) (q 45) (q 46) (q 47) (q 48) dh mh uh rh nh, ro_rrrrnn (q 44) 0 (q 49) (q 50) (q 51) (q 52) ch wh, ra_I (q 49) cI 1600 y1, ra_J (q 50) cJ 64 z2_13, ra_J (q 51) cJ 9 z3_14, ra_J (q 52) cJ 10 y4, ra_I (q 47) cI 3 yf, ra_I (q 48) cI 3 yt, ro_rrrrrrrnn (q 11) 1 (q 10) (q 67) (q 68) (q 69) (q 70) (q 71) (q 72) wd ws_, ra_I (q 67) cI 90 c1, ra_I (q 68) cI 9 c2_, ra_I (q 69) cI 10 c3, ro_rrnnnin (q 7) 7 (q 33) (q 34) dy wn mo mu ke, ra_I (q 33) cI 9 fb, ra_I (q 34) cI 9 fw, ra_I (q 12) cI 9 ca, ra_I (q 13) cI 9 cc_]) ⟨hx, hb, hml, hown, hts⟩ hl.1 (c_bitCount l D cI cJ cC cZ cS (nI jj)) w_3_173 w_3_174 w_1_21 w_3_175 hd_J6_bitCount_0f7a4_1 ⟨⟨(Nat.le_of_ble_eq_true rfl), (Nat.le_of_ble_eq_true rfl)⟩, (Nat.le_of_ble_eq_true rfl), (Nat.le_of_ble_eq_true rfl)⟩ hK hP hD hS hA [] [0, 1, 2, 3, 4, 5, 6, 7, 8, 9, 10, 11, 12, 13, 14, 15, 16, 17, 18, 19, 20, 21, 22, 23, 24] rfl rfl (by decide +kernel) (by decide +kernel) (by decide +kernel) rfl rfl (Nat.le_of_ble_eq_true rfl) dX11_fewest_58 (fun r_44 u H locs hw hP hD hS => ?_)
                obtain rfl := hw
                refine o_re (ws' := [ro_rrrrrrrrrrrrrrrirl x0 11 (q 0) (q 1) (q 2) (q 3) (q 4) (q 5) (q 6) (q 7) (q 8) (q 9) (q 10) (q 11) (q 12) (q 13) (q 14) hc (q 16) dr, ro_rrrrrr (q 10) 9 (q 61) (q 62) (q 63) (q 64) (q 65) (q 66), ra_N (q 61) cI 90 sa2_7, ra_I (q 62) cI 900 ft2_8, ra_I (q 63) cI 90 fa2_9, ra_I (q 64) cI 90 fo2_10, ra_J (q 65) cJ 90 fg2_11, ra_I (q 66) cI 9 fk2_12, ro_rrrrrnniin (q 5) 2 (q 44) (q 45) (q 46) (q 47) (q 48) dh mh uh rh nh, ro_rrrrnn (q 44) 0 (q 49) (q 50) (q 51) (q 52) ch wh, ra_I (q 49) cI 1600 y1, ra_J (q 50) cJ 64 z2_13, ra_J (q 51) cJ 9 z3_14, ra_J (q 52) cJ 10 y4, ra_I (q 47) cI 3 yf, ra_I (q 48) cI 3 yt, ro_rrrrrrrnn (q 11) 1 (q 10) (q 67) (q 68) (q 69) (q 70) (q 71) (q 72) wd ws_, ra_I (q 67) cI 90 c1, ra_I (q 68) cI 9 c2_, ra_I (q 69) cI 10 c3, ro_rrnnnin (q 7) 7 (q 33) (q 34) dy wn mo mu ke, ra_I (q 33) cI 9 fb, ra_I (q 34) cI 9 fw, ra_I (q 12) cI 9 ca, ra_I (q 13) cI 9 cc_]) hP hD rfl (fun hP hD => ?_)
                refine lv_iload hx hb dX11_fewest_61 (lv_at hl 1 rfl) ?_
                refine lv_icmp_ne (tgt := 83) hx hb dX11_fewest_63 (by decide) (fun c_45 => ?_) (fun c_45 => ?_)
                · skip
                  refine lv_iconst (v := 0) hx hb dX11_fewest_83 ic_0 ?_
                  exact jn_26 0 _ _ _  hP hD hS (lv_sub hl [0, 1, 2, 3, 4, 5] rfl)
                · skip
                  refine lv_iload hx hb dX11_fewest_66 (lv_at hl 0 rfl) ?_
                  refine lv_aload_n hx hb dX11_fewest_68 rfl (lv_at hl 2 rfl) ?_
                  refine sk_get (v := .ref (q 7)) (C := RX11) (T := TX11) (N := 18) hx hb hts inlX11 hown hK hP 0 rfl rfl 7 (Nat.le_of_ble_eq_true rfl) w_2_130 rfl dX11_fewest_69 ?_
                  refine sk_get (v := .int mu) (C := RX7) (T := TX7) (N := 7) hx hb hts inlX7 hown hK hP 20 rfl rfl 5 (Nat.le_of_ble_eq_true rfl) w_2_12 rfl dX11_fewest_72 ?_
                  refine lv_iand hx hb dX11_fewest_75 ?_
                  refine lv_topi (fun v_46 ev_46 => ?_)
                  refine lv_if_ne (tgt := 83) hx hb dX11_fewest_76 (by decide) (fun c_47 => ?_) (fun c_47 => ?_)
                  · skip
                    refine lv_iconst (v := 0) hx hb dX11_fewest_83 ic_0 ?_
                    exact jn_26 0 _ _ _  hP hD hS (lv_sub hl [0, 1, 2, 3, 4, 5] rfl)
                  · skip
                    refine lv_iconst (v := 1) hx hb dX11_fewest_79 ic_1 ?_
                    refine lv_goto (tgt := 84) hx hb dX11_fewest_80 (by decide) ?_
                    exact jn_26 1 _ _ _  hP hD hS (lv_sub hl [0, 1, 2, 3, 4, 5] rfl)
          exact lp_22 (512 - 0 + 1) 0 zd zs b1 b2 b3 ba bc _ _ _ (Nat.lt_succ_self _) (by omega) hzd hzs hP hD hS (lv_sub hl [0, 1, 2, 3, 4, 5] rfl)
    exact lp_19 (10 - 0 + 1) 0 gd gs e1 e2 e3 ra rc _ _ _ (Nat.lt_succ_self _) (by omega) hgd hgs hP hD hS (lv_sub hl [0, 1, 2, 3, 4] rfl)
  · have c_6 : b_1 = 0 := (neq b_1 0 (by omega) (Nat.le_of_ble_eq_true rfl)).mp c_6
    refine lv_iconst (v := (-1)) hx hb dX11_fewest_7 (by decide) ?_
    exact sk_iret hx hb hr rfl hlocks hK hP hD hS (⟨sa, ft, fa, fo, fg, fk, y2, y3, e1, e2, e3, gd, gs, ra, rc, hsa, htq, hgd, hgs, rfl⟩) (Nat.le_of_ble_eq_true rfl) (Nat.le_of_ble_eq_true rfl) dX11_fewest_8
theorem dg_X11_hushed_0_0 : bqL cX11_hushed 0 [(0, [42]), (1, [3]), (2, [3]), (3, [3]), (4, [182, 0, 226]), (7, [172])] = true := by decide +kernel
theorem dX11_hushed_0 : decode cX11_hushed 0 = .ok (.aload_n 0, 1) := q_aload_n0 (bat_get dg_X11_hushed_0_0 0 rfl rfl)
theorem dX11_hushed_1 : decode cX11_hushed 1 = .ok (.iconst 0, 1) := q_iconst0 (bat_get dg_X11_hushed_0_0 1 rfl rfl)
theorem dX11_hushed_2 : decode cX11_hushed 2 = .ok (.iconst 0, 1) := q_iconst0 (bat_get dg_X11_hushed_0_0 2 rfl rfl)
theorem dX11_hushed_3 : decode cX11_hushed 3 = .ok (.iconst 0, 1) := q_iconst0 (bat_get dg_X11_hushed_0_0 3 rfl rfl)
theorem dX11_hushed_4 : decode cX11_hushed 4 = .ok (.invokevirtual 226, 3) := q_invokevirtual (bat_get dg_X11_hushed_0_0 4 rfl rfl) rfl
theorem dX11_hushed_7 : decode cX11_hushed 7 = .ok (.ireturn, 1) := q_ireturn (bat_get dg_X11_hushed_0_0 5 rfl rfl)
theorem w_4_96 : (Cond.methodLink RX11 226 yX11_fewest) ∈ wsL_law := sk_mem (ck_4 _ (List.mem_of_getElem? (i := 96) rfl)) rfl
theorem w_4_98 : (Cond.instanceMethod yX11_fewest) ∈ wsL_law := sk_mem (ck_4 _ (List.mem_of_getElem? (i := 98) rfl)) rfl
theorem w_0_22 : (Cond.selects RX11 yX11_fewest yX11_fewest) ∈ wsL_law := sk_mem (ck_0 _ (List.mem_of_getElem? (i := 22) rfl)) rfl
theorem w_4_95 : (Cond.code yX11_hushed cX11_hushed 1 (some .int)) ∈ wsL_law := sk_mem (ck_4 _ (List.mem_of_getElem? (i := 95) rfl)) rfl
theorem hd_X11_fewest_3 : skD yX11_fewest 3 := by decide +kernel
set_option maxHeartbeats 4000000 in
set_option maxRecDepth 100000 in
theorem c_ky_hushed (l : Launch) (D : va_G) (cI cJ cC cZ cS : ClassId) (x0 : Nat) (q : Nat → Nat) (hc : Int32) (dr : Int64) (sa : Nat → Nat) (ft : Nat → Int32) (fa : Nat → Int32) (fo : Nat → Int32) (fg : Nat → Int64) (fk : Nat → Int32) (dh : Nat) (mh : Nat) (uh : Int32) (rh : Int32) (nh : Nat) (ch : Nat) (wh : Nat) (y1 : Nat → Int32) (y2 : Nat → Int64) (y3 : Nat → Int64) (y4 : Nat → Int64) (yf : Nat → Int32) (yt : Nat → Int32) (gd : Nat) (gs : Nat) (e1 : Nat → Int32) (e2 : Nat → Int32) (e3 : Nat → Int32) (dy : Nat) (wn : Nat) (mo : Nat) (ke : Nat) (mu : Int32) (fb : Nat → Int32) (fw : Nat → Int32) (Ba : Nat → Nat) (We : Nat → Nat) (L : LkS) (U : Nat → Bool) (ra : Nat → Int32) (rc : Nat → Int32) (hsa : ∀ j, sa j ≤ 9) (hch : ch ≤ 1600) (hwh : wh ≤ 1) (hdy : dy ≤ 9) (hmo : mo ≤ 9) (hgd : gd ≤ 9) (hgs : gs ≤ 9) (hLk : kcLk L) (hlq : 1 ≤ dy → cdK (lK (lkF L)) ch wh y1 ∧ ∀ v, v < 3 → sgO (lG (lkF L) v) (yf v) (yt v)) (htq : 1 ≤ dy → kcTI L sa ft fa fo fg fk) (hfb : ∀ j, j < 9 → fb j = nI (Ba j)) (hfw : ∀ j, j < 9 → fw j = nI (We j)) (hB9 : ∀ j, Ba j ≤ 9) (hW9 : ∀ j, We j ≤ 9) (hwn : wn ≤ 999) (hU : muO U mu) : skM l yX11_hushed cX11_hushed 1 (some .int) 6 154 0 0 D (skT cI cJ cC cZ cS) [.ref x0] [ro_rrrrrrrrrrrrrrrirl x0 11 (q 0) (q 1) (q 2) (q 3) (q 4) (q 5) (q 6) (q 7) (q 8) (q 9) (q 10) (q 11) (q 12) (q 13) (q 14) hc (q 16) dr, ro_rrrrrr (q 10) 9 (q 61) (q 62) (q 63) (q 64) (q 65) (q 66), ra_N (q 61) cI 90 sa, ra_I (q 62) cI 900 ft, ra_I (q 63) cI 90 fa, ra_I (q 64) cI 90 fo, ra_J (q 65) cJ 90 fg, ra_I (q 66) cI 9 fk, ro_rrrrrnniin (q 5) 2 (q 44) (q 45) (q 46) (q 47) (q 48) dh mh uh rh nh, ro_rrrrnn (q 44) 0 (q 49) (q 50) (q 51) (q 52) ch wh, ra_I (q 49) cI 1600 y1, ra_J (q 50) cJ 64 y2, ra_J (q 51) cJ 9 y3, ra_J (q 52) cJ 10 y4, ra_I (q 47) cI 3 yf, ra_I (q 48) cI 3 yt, ro_rrrrrrrnn (q 11) 1 (q 10) (q 67) (q 68) (q 69) (q 70) (q 71) (q 72) gd gs, ra_I (q 67) cI 90 e1, ra_I (q 68) cI 9 e2, ra_I (q 69) cI 10 e3, ro_rrnnnin (q 7) 7 (q 33) (q 34) dy wn mo mu ke, ra_I (q 33) cI 9 fb, ra_I (q 34) cI 9 fw, ra_I (q 12) cI 9 ra, ra_I (q 13) cI 9 rc] (skI D (skT cI cJ cC cZ cS) (fun (r : Int32) (u : va_W) => ∃ (sa2 : Nat → Nat), ∃ (ft2 : Nat → Int32), ∃ (fa2 : Nat → Int32), ∃ (fo2 : Nat → Int32), ∃ (fg2 : Nat → Int64), ∃ (fk2 : Nat → Int32), ∃ (z2 : Nat → Int64), ∃ (z3 : Nat → Int64), ∃ (g1 : Nat → Int32), ∃ (g2 : Nat → Int32), ∃ (g3 : Nat → Int32), ∃ (gd2 : Nat), ∃ (gs2 : Nat), ∃ (ra2 : Nat → Int32), ∃ (rc2 : Nat → Int32), (∀ j, sa2 j ≤ 9) ∧ (1 ≤ dy → kcTI L sa2 ft2 fa2 fo2 fg2 fk2) ∧ gd2 ≤ 9 ∧ gs2 ≤ 9 ∧ u = [ro_rrrrrrrrrrrrrrrirl x0 11 (q 0) (q 1) (q 2) (q 3) (q 4) (q 5) (q 6) (q 7) (q 8) (q 9) (q 10) (q 11) (q 12) (q 13) (q 14) hc (q 16) dr, ro_rrrrrr (q 10) 9 (q 61) (q 62) (q 63) (q 64) (q 65) (q 66), ra_N (q 61) cI 90 sa2, ra_I (q 62) cI 900 ft2, ra_I (q 63) cI 90 fa2, ra_I (q 64) cI 90 fo2, ra_J (q 65) cJ 90 fg2, ra_I (q 66) cI 9 fk2, ro_rrrrrnniin (q 5) 2 (q 44) (q 45) (q 46) (q 47) (q 48) dh mh uh rh nh, ro_rrrrnn (q 44) 0 (q 49) (q 50) (q 51) (q 52) ch wh, ra_I (q 49) cI 1600 y1, ra_J (q 50) cJ 64 z2, ra_J (q 51) cJ 9 z3, ra_J (q 52) cJ 10 y4, ra_I (q 47) cI 3 yf, ra_I (q 48) cI 3 yt, ro_rrrrrrrnn (q 11) 1 (q 10) (q 67) (q 68) (q 69) (q 70) (q 71) (q 72) gd2 gs2, ra_I (q 67) cI 90 g1, ra_I (q 68) cI 9 g2, ra_I (q 69) cI 10 g3, ro_rrnnnin (q 7) 7 (q 33) (q 34) dy wn mo mu ke, ra_I (q 33) cI 9 fb, ra_I (q 34) cI 9 fw, ra_I (q 12) cI 9 ra2, ra_I (q 13) cI 9 rc2])) := by
  refine skM_of pf_X11_hushed (Nat.le_of_ble_eq_true rfl) ?_
  intro p e s m below meth c A ls E hP hD hl
  refine skE_el E (fun hx hb hr hml hlocks hin hown hts hK hA => ?_)
  have hown : s.vm.findClass RX11 = some m.cls := hown
  have hS : va_S A s.heap s.heap [] := va_S.rf
  have hl : lv_has ls 1 [(0, .ref x0)] := hl
  refine lv_aload_n hx hb dX11_hushed_0 rfl (lv_at hl 0 rfl) ?_
  refine lv_iconst (v := 0) hx hb dX11_hushed_1 ic_0 ?_
  refine lv_iconst (v := 0) hx hb dX11_hushed_2 ic_0 ?_
  refine lv_iconst (v := 0) hx hb dX11_hushed_3 ic_0 ?_
  refine sk_Vi (q0 := 0) (n := 3) (rest := []) (wr := fmR om_25_1ffffff _) ⟨hx, hb, hml, hown, hts⟩ hl.1 (c_kx_fewest l D cI cJ cC cZ cS x0 q hc dr sa ft fa fo fg fk dh mh uh rh nh ch wh y1 y2 y3 y4 yf yt gd gs e1 e2 e3 dy wn mo ke mu fb fw Ba We L U ra rc 0 0 0 hsa hch hwh hdy hmo hgd hgs hLk hlq htq hfb hfw hB9 hW9 hwn hU (by omega)) w_4_96 w_4_98 w_0_22 w_1_1 w_4_99 hd_X11_fewest_3 ⟨⟨(Nat.le_of_ble_eq_true rfl), (Nat.le_of_ble_eq_true rfl)⟩, (Nat.le_of_ble_eq_true rfl), (Nat.le_of_ble_eq_true rfl)⟩ hK hP hD hS hA (fmT om_25_1ffffff 0) (fmF om_25_1ffffff 0) (fm_C1 rfl rfl) (fm_R rfl rfl) (fm_nT om_25_1ffffff 0) (fm_nF om_25_1ffffff 0) (fm_di om_25_1ffffff 0) rfl rfl rfl rfl (Nat.le_of_ble_eq_true rfl) dX11_hushed_4 (fun r_16 u H locs hw hP hD hS => ?_)
  refine exE hw (fun sa2_1 hw1 => exE hw1 (fun ft2_2 hw2 => exE hw2 (fun fa2_3 hw3 => exE hw3 (fun fo2_4 hw4 => exE hw4 (fun fg2_5 hw5 => exE hw5 (fun fk2_6 hw6 => exE hw6 (fun z2_7 hw7 => exE hw7 (fun z3_8 hw8 => exE hw8 (fun g1_9 hw9 => exE hw9 (fun g2_10 hw10 => exE hw10 (fun g3_11 hw11 => exE hw11 (fun gd2_12 hw12 => exE hw12 (fun gs2_13 hw13 => exE hw13 (fun ra2_14 hw14 => exE hw14 (fun rc2_15 hw15 => anE hw15 (fun hsa2_17 hw16 => anE hw16 (fun htq2_18 hw17 => anE hw17 (fun hgd2_19 hw18 => anE hw18 (fun hgs2_20 eu_21 => ?_)))))))))))))))))))
  clear hw hw1 hw2 hw3 hw4 hw5 hw6 hw7 hw8 hw9 hw10 hw11 hw12 hw13 hw14 hw15 hw16 hw17 hw18
  refine o_mgE (ws' := [ro_rrrrrrrrrrrrrrrirl x0 11 (q 0) (q 1) (q 2) (q 3) (q 4) (q 5) (q 6) (q 7) (q 8) (q 9) (q 10) (q 11) (q 12) (q 13) (q 14) hc (q 16) dr, ro_rrrrrr (q 10) 9 (q 61) (q 62) (q 63) (q 64) (q 65) (q 66), ra_N (q 61) cI 90 sa2_1, ra_I (q 62) cI 900 ft2_2, ra_I (q 63) cI 90 fa2_3, ra_I (q 64) cI 90 fo2_4, ra_J (q 65) cJ 90 fg2_5, ra_I (q 66) cI 9 fk2_6, ro_rrrrrnniin (q 5) 2 (q 44) (q 45) (q 46) (q 47) (q 48) dh mh uh rh nh, ro_rrrrnn (q 44) 0 (q 49) (q 50) (q 51) (q 52) ch wh, ra_I (q 49) cI 1600 y1, ra_J (q 50) cJ 64 z2_7, ra_J (q 51) cJ 9 z3_8, ra_J (q 52) cJ 10 y4, ra_I (q 47) cI 3 yf, ra_I (q 48) cI 3 yt, ro_rrrrrrrnn (q 11) 1 (q 10) (q 67) (q 68) (q 69) (q 70) (q 71) (q 72) gd2_12 gs2_13, ra_I (q 67) cI 90 g1_9, ra_I (q 68) cI 9 g2_10, ra_I (q 69) cI 10 g3_11, ro_rrnnnin (q 7) 7 (q 33) (q 34) dy wn mo mu ke, ra_I (q 33) cI 9 fb, ra_I (q 34) cI 9 fw, ra_I (q 12) cI 9 ra2_14, ra_I (q 13) cI 9 rc2_15]) eu_21 hP hD rfl (fun hP hD => ?_)
  exact sk_iret hx hb hr rfl hlocks hK hP hD hS (⟨sa2_1, ft2_2, fa2_3, fo2_4, fg2_5, fk2_6, z2_7, z3_8, g1_9, g2_10, g3_11, gd2_12, gs2_13, ra2_14, rc2_15, hsa2_17, htq2_18, hgd2_19, hgs2_20, rfl⟩) (Nat.le_of_ble_eq_true rfl) (Nat.le_of_ble_eq_true rfl) dX11_hushed_7
theorem dg_X11_wished_0_0 : bqL cX11_wished 0 [(0, [42]), (1, [27]), (2, [182, 0, 170]), (5, [153, 0, 10]), (15, [2]), (16, [172]), (8, [28]), (9, [184, 0, 182]), (12, [154, 0, 5]), (17, [42]), (18, [4]), (19, [27]), (20, [28]), (21, [182, 0, 226]), (24, [172])] = true := by decide +kernel
theorem dX11_wished_0 : decode cX11_wished 0 = .ok (.aload_n 0, 1) := q_aload_n0 (bat_get dg_X11_wished_0_0 0 rfl rfl)
theorem dX11_wished_1 : decode cX11_wished 1 = .ok (.iload_n 1, 1) := q_iload_n1 (bat_get dg_X11_wished_0_0 1 rfl rfl)
theorem dX11_wished_2 : decode cX11_wished 2 = .ok (.invokevirtual 170, 3) := q_invokevirtual (bat_get dg_X11_wished_0_0 2 rfl rfl) rfl
theorem dX11_wished_5 : decode cX11_wished 5 = .ok (.ifCond .eq 10, 3) := q_ifCond_eq (bat_get dg_X11_wished_0_0 3 rfl rfl) rfl
theorem dX11_wished_15 : decode cX11_wished 15 = .ok (.iconst (-1), 1) := q_iconstm1 (bat_get dg_X11_wished_0_0 4 rfl rfl)
theorem dX11_wished_16 : decode cX11_wished 16 = .ok (.ireturn, 1) := q_ireturn (bat_get dg_X11_wished_0_0 5 rfl rfl)
theorem dX11_wished_8 : decode cX11_wished 8 = .ok (.iload_n 2, 1) := q_iload_n2 (bat_get dg_X11_wished_0_0 6 rfl rfl)
theorem dX11_wished_9 : decode cX11_wished 9 = .ok (.invokestatic 182, 3) := q_invokestatic (bat_get dg_X11_wished_0_0 7 rfl rfl) rfl
theorem dX11_wished_12 : decode cX11_wished 12 = .ok (.ifCond .ne 5, 3) := q_ifCond_ne (bat_get dg_X11_wished_0_0 8 rfl rfl) rfl
theorem dX11_wished_17 : decode cX11_wished 17 = .ok (.aload_n 0, 1) := q_aload_n0 (bat_get dg_X11_wished_0_0 9 rfl rfl)
theorem dX11_wished_18 : decode cX11_wished 18 = .ok (.iconst 1, 1) := q_iconst1 (bat_get dg_X11_wished_0_0 10 rfl rfl)
theorem dX11_wished_19 : decode cX11_wished 19 = .ok (.iload_n 1, 1) := q_iload_n1 (bat_get dg_X11_wished_0_0 11 rfl rfl)
theorem dX11_wished_20 : decode cX11_wished 20 = .ok (.iload_n 2, 1) := q_iload_n2 (bat_get dg_X11_wished_0_0 12 rfl rfl)
theorem dX11_wished_21 : decode cX11_wished 21 = .ok (.invokevirtual 226, 3) := q_invokevirtual (bat_get dg_X11_wished_0_0 13 rfl rfl) rfl
theorem dX11_wished_24 : decode cX11_wished 24 = .ok (.ireturn, 1) := q_ireturn (bat_get dg_X11_wished_0_0 14 rfl rfl)
theorem w_4_123 : (Cond.code yX11_wished cX11_wished 3 (some .int)) ∈ wsL_law := sk_mem (ck_4 _ (List.mem_of_getElem? (i := 123) rfl)) rfl
set_option maxHeartbeats 4000000 in
set_option maxRecDepth 100000 in
theorem c_ky_wished (l : Launch) (D : va_G) (cI cJ cC cZ cS : ClassId) (x0 : Nat) (q : Nat → Nat) (hc : Int32) (dr : Int64) (sa : Nat → Nat) (ft : Nat → Int32) (fa : Nat → Int32) (fo : Nat → Int32) (fg : Nat → Int64) (fk : Nat → Int32) (dh : Nat) (mh : Nat) (uh : Int32) (rh : Int32) (nh : Nat) (ch : Nat) (wh : Nat) (y1 : Nat → Int32) (y2 : Nat → Int64) (y3 : Nat → Int64) (y4 : Nat → Int64) (yf : Nat → Int32) (yt : Nat → Int32) (gd : Nat) (gs : Nat) (e1 : Nat → Int32) (e2 : Nat → Int32) (e3 : Nat → Int32) (dy : Nat) (wn : Nat) (mo : Nat) (ke : Nat) (mu : Int32) (fb : Nat → Int32) (fw : Nat → Int32) (Ba : Nat → Nat) (We : Nat → Nat) (L : LkS) (U : Nat → Bool) (ra : Nat → Int32) (rc : Nat → Int32) (d : Int32) (o : Int32) (hsa : ∀ j, sa j ≤ 9) (hch : ch ≤ 1600) (hwh : wh ≤ 1) (hdy : dy ≤ 9) (hmo : mo ≤ 9) (hgd : gd ≤ 9) (hgs : gs ≤ 9) (hLk : kcLk L) (hlq : 1 ≤ dy → cdK (lK (lkF L)) ch wh y1 ∧ ∀ v, v < 3 → sgO (lG (lkF L) v) (yf v) (yt v)) (htq : 1 ≤ dy → kcTI L sa ft fa fo fg fk) (hfb : ∀ j, j < 9 → fb j = nI (Ba j)) (hfw : ∀ j, j < 9 → fw j = nI (We j)) (hB9 : ∀ j, Ba j ≤ 9) (hW9 : ∀ j, We j ≤ 9) (hwn : wn ≤ 999) (hU : muO U mu) : skM l yX11_wished cX11_wished 3 (some .int) 6 154 0 0 D (skT cI cJ cC cZ cS) [.ref x0, .int d, .int o] [ro_rrrrrrrrrrrrrrrirl x0 11 (q 0) (q 1) (q 2) (q 3) (q 4) (q 5) (q 6) (q 7) (q 8) (q 9) (q 10) (q 11) (q 12) (q 13) (q 14) hc (q 16) dr, ro_rrrrrr (q 10) 9 (q 61) (q 62) (q 63) (q 64) (q 65) (q 66), ra_N (q 61) cI 90 sa, ra_I (q 62) cI 900 ft, ra_I (q 63) cI 90 fa, ra_I (q 64) cI 90 fo, ra_J (q 65) cJ 90 fg, ra_I (q 66) cI 9 fk, ro_rrrrrnniin (q 5) 2 (q 44) (q 45) (q 46) (q 47) (q 48) dh mh uh rh nh, ro_rrrrnn (q 44) 0 (q 49) (q 50) (q 51) (q 52) ch wh, ra_I (q 49) cI 1600 y1, ra_J (q 50) cJ 64 y2, ra_J (q 51) cJ 9 y3, ra_J (q 52) cJ 10 y4, ra_I (q 47) cI 3 yf, ra_I (q 48) cI 3 yt, ro_rrrrrrrnn (q 11) 1 (q 10) (q 67) (q 68) (q 69) (q 70) (q 71) (q 72) gd gs, ra_I (q 67) cI 90 e1, ra_I (q 68) cI 9 e2, ra_I (q 69) cI 10 e3, ro_rrnnnin (q 7) 7 (q 33) (q 34) dy wn mo mu ke, ra_I (q 33) cI 9 fb, ra_I (q 34) cI 9 fw, ra_I (q 12) cI 9 ra, ra_I (q 13) cI 9 rc] (skI D (skT cI cJ cC cZ cS) (fun (r : Int32) (u : va_W) => ∃ (sa2 : Nat → Nat), ∃ (ft2 : Nat → Int32), ∃ (fa2 : Nat → Int32), ∃ (fo2 : Nat → Int32), ∃ (fg2 : Nat → Int64), ∃ (fk2 : Nat → Int32), ∃ (z2 : Nat → Int64), ∃ (z3 : Nat → Int64), ∃ (g1 : Nat → Int32), ∃ (g2 : Nat → Int32), ∃ (g3 : Nat → Int32), ∃ (gd2 : Nat), ∃ (gs2 : Nat), ∃ (ra2 : Nat → Int32), ∃ (rc2 : Nat → Int32), (∀ j, sa2 j ≤ 9) ∧ (1 ≤ dy → kcTI L sa2 ft2 fa2 fo2 fg2 fk2) ∧ gd2 ≤ 9 ∧ gs2 ≤ 9 ∧ u = [ro_rrrrrrrrrrrrrrrirl x0 11 (q 0) (q 1) (q 2) (q 3) (q 4) (q 5) (q 6) (q 7) (q 8) (q 9) (q 10) (q 11) (q 12) (q 13) (q 14) hc (q 16) dr, ro_rrrrrr (q 10) 9 (q 61) (q 62) (q 63) (q 64) (q 65) (q 66), ra_N (q 61) cI 90 sa2, ra_I (q 62) cI 900 ft2, ra_I (q 63) cI 90 fa2, ra_I (q 64) cI 90 fo2, ra_J (q 65) cJ 90 fg2, ra_I (q 66) cI 9 fk2, ro_rrrrrnniin (q 5) 2 (q 44) (q 45) (q 46) (q 47) (q 48) dh mh uh rh nh, ro_rrrrnn (q 44) 0 (q 49) (q 50) (q 51) (q 52) ch wh, ra_I (q 49) cI 1600 y1, ra_J (q 50) cJ 64 z2, ra_J (q 51) cJ 9 z3, ra_J (q 52) cJ 10 y4, ra_I (q 47) cI 3 yf, ra_I (q 48) cI 3 yt, ro_rrrrrrrnn (q 11) 1 (q 10) (q 67) (q 68) (q 69) (q 70) (q 71) (q 72) gd2 gs2, ra_I (q 67) cI 90 g1, ra_I (q 68) cI 9 g2, ra_I (q 69) cI 10 g3, ro_rrnnnin (q 7) 7 (q 33) (q 34) dy wn mo mu ke, ra_I (q 33) cI 9 fb, ra_I (q 34) cI 9 fw, ra_I (q 12) cI 9 ra2, ra_I (q 13) cI 9 rc2])) := by
  refine skM_of pf_X11_wished (Nat.le_of_ble_eq_true rfl) ?_
  intro p e s m below meth c A ls E hP hD hl
  refine skE_el E (fun hx hb hr hml hlocks hin hown hts hK hA => ?_)
  have hown : s.vm.findClass RX11 = some m.cls := hown
  have hS : va_S A s.heap s.heap [] := va_S.rf
  have hl : lv_has ls 3 [(0, .ref x0), (1, .int d), (2, .int o)] := hl
  refine lv_aload_n hx hb dX11_wished_0 rfl (lv_at hl 0 rfl) ?_
  refine lv_iload_n hx hb dX11_wished_1 rfl (lv_at hl 1 rfl) ?_
  refine sk_Vi (q0 := 0) (n := 1) (rest := []) (wr := fmR om_25_1000010 _) ⟨hx, hb, hml, hown, hts⟩ hl.1 (c_kx_isDay l D cI cJ cC cZ cS x0 q hc dr dy wn mo ke mu fb fw d hdy) w_3_190 w_3_192 w_0_14 w_1_1 w_3_193 hd_X11_isDay_1 ⟨⟨(Nat.le_of_ble_eq_true rfl), (Nat.le_of_ble_eq_true rfl)⟩, (Nat.le_of_ble_eq_true rfl), (Nat.le_of_ble_eq_true rfl)⟩ hK hP hD hS hA (fmT om_25_1000010 0) (fmF om_25_1000010 0) (fm_C1 rfl rfl) (fm_R rfl rfl) (fm_nT om_25_1000010 0) (fm_nF om_25_1000010 0) (fm_di om_25_1000010 0) rfl rfl rfl rfl (Nat.le_of_ble_eq_true rfl) dX11_wished_2 (fun r_2 u H locs hw hP hD hS => ?_)
  refine exE hw (fun b_1 hw1 => anE hw1 (fun hb1_3 hw2 => anE hw2 (fun er_5 eu_4 => ?_)))
  clear hw hw1 hw2
  subst er_5
  refine o_mgE (ws' := [ro_rrrrrrrrrrrrrrrirl x0 11 (q 0) (q 1) (q 2) (q 3) (q 4) (q 5) (q 6) (q 7) (q 8) (q 9) (q 10) (q 11) (q 12) (q 13) (q 14) hc (q 16) dr, ro_rrrrrr (q 10) 9 (q 61) (q 62) (q 63) (q 64) (q 65) (q 66), ra_N (q 61) cI 90 sa, ra_I (q 62) cI 900 ft, ra_I (q 63) cI 90 fa, ra_I (q 64) cI 90 fo, ra_J (q 65) cJ 90 fg, ra_I (q 66) cI 9 fk, ro_rrrrrnniin (q 5) 2 (q 44) (q 45) (q 46) (q 47) (q 48) dh mh uh rh nh, ro_rrrrnn (q 44) 0 (q 49) (q 50) (q 51) (q 52) ch wh, ra_I (q 49) cI 1600 y1, ra_J (q 50) cJ 64 y2, ra_J (q 51) cJ 9 y3, ra_J (q 52) cJ 10 y4, ra_I (q 47) cI 3 yf, ra_I (q 48) cI 3 yt, ro_rrrrrrrnn (q 11) 1 (q 10) (q 67) (q 68) (q 69) (q 70) (q 71) (q 72) gd gs, ra_I (q 67) cI 90 e1, ra_I (q 68) cI 9 e2, ra_I (q 69) cI 10 e3, ro_rrnnnin (q 7) 7 (q 33) (q 34) dy wn mo mu ke, ra_I (q 33) cI 9 fb, ra_I (q 34) cI 9 fw, ra_I (q 12) cI 9 ra, ra_I (q 13) cI 9 rc]) eu_4 hP hD rfl (fun hP hD => ?_)
  refine lv_if_eq (tgt := 15) hx hb dX11_wished_5 (by decide) (fun c_6 => ?_) (fun c_6 => ?_)
  · have c_6 : b_1 = 0 := (neq b_1 0 (by omega) (Nat.le_of_ble_eq_true rfl)).mp c_6
    refine lv_iconst (v := (-1)) hx hb dX11_wished_15 (by decide) ?_
    exact sk_iret hx hb hr rfl hlocks hK hP hD hS (⟨sa, ft, fa, fo, fg, fk, y2, y3, e1, e2, e3, gd, gs, ra, rc, hsa, htq, hgd, hgs, rfl⟩) (Nat.le_of_ble_eq_true rfl) (Nat.le_of_ble_eq_true rfl) dX11_wished_16
  · have c_6 : ¬ (b_1 = 0) := fun h => c_6 ((neq b_1 0 (by omega) (Nat.le_of_ble_eq_true rfl)).mpr h)
    obtain ⟨kd_7, hkd_7, rfl⟩ := rr_1 hb1_3 (by omega)
    refine lv_iload_n hx hb dX11_wished_8 rfl (lv_at hl 2 rfl) ?_
    refine sk_Si (n := 1) (rest := []) (wr := [ro_rrrrrrrrrrrrrrrirl x0 11 (q 0) (q 1) (q 2) (q 3) (q 4) (q 5) (q 6) (q 7) (q 8) (q 9) (q 10) (q 11) (q 12) (q 13) (q 14) hc (q 16) dr, ro_rrrrrr (q 10) 9 (q 61) (q 62) (q 63) (q 64) (q 65) (q 66), ra_N (q 61) cI 90 sa, ra_I (q 62) cI 900 ft, ra_I (q 63) cI 90 fa, ra_I (q 64) cI 90 fo, ra_J (q 65) cJ 90 fg, ra_I (q 66) cI 9 fk, ro_rrrrrnniin (q 5) 2 (q 44) (q 45) (q 46) (q 47) (q 48) dh mh uh rh nh, ro_rrrrnn (q 44) 0 (q 49) (q 50) (q 51) (q 52) ch wh, ra_I (q 49) cI 1600 y1, ra_J (q 50) cJ 64 y2, ra_J (q 51) cJ 9 y3, ra_J (q 52) cJ 10 y4, ra_I (q 47) cI 3 yf, ra_I (q 48) cI 3 yt, ro_rrrrrrrnn (q 11) 1 (q 10) (q 67) (q 68) (q 69) (q 70) (q 71) (q 72) gd gs, ra_I (q 67) cI 90 e1, ra_I (q 68) cI 9 e2, ra_I (q 69) cI 10 e3, ro_rrnnnin (q 7) 7 (q 33) (q 34) dy wn mo mu ke, ra_I (q 33) cI 9 fb, ra_I (q 34) cI 9 fw, ra_I (q 12) cI 9 ra, ra_I (q 13) cI 9 rc]) ⟨hx, hb, hml, hown, hts⟩ hl.1 (c_kx_isDigit l D cI cJ cC cZ cS o) w_3_202 w_3_203 w_1_1 w_3_204 hd_X11_isDigit_1 ⟨⟨(Nat.le_of_ble_eq_true rfl), (Nat.le_of_ble_eq_true rfl)⟩, (Nat.le_of_ble_eq_true rfl), (Nat.le_of_ble_eq_true rfl)⟩ hK hP hD hS hA [] [0, 1, 2, 3, 4, 5, 6, 7, 8, 9, 10, 11, 12, 13, 14, 15, 16, 17, 18, 19, 20, 21, 22, 23, 24] rfl rfl (by decide +kernel) (by decide +kernel) (by decide +kernel) rfl rfl (Nat.le_of_ble_eq_true rfl) dX11_wished_9 (fun r_9 u H locs hw hP hD hS => ?_)
    obtain ⟨b_8, hb1_10, rfl, rfl⟩ := hw
    refine o_re (ws' := [ro_rrrrrrrrrrrrrrrirl x0 11 (q 0) (q 1) (q 2) (q 3) (q 4) (q 5) (q 6) (q 7) (q 8) (q 9) (q 10) (q 11) (q 12) (q 13) (q 14) hc (q 16) dr, ro_rrrrrr (q 10) 9 (q 61) (q 62) (q 63) (q 64) (q 65) (q 66), ra_N (q 61) cI 90 sa, ra_I (q 62) cI 900 ft, ra_I (q 63) cI 90 fa, ra_I (q 64) cI 90 fo, ra_J (q 65) cJ 90 fg, ra_I (q 66) cI 9 fk, ro_rrrrrnniin (q 5) 2 (q 44) (q 45) (q 46) (q 47) (q 48) dh mh uh rh nh, ro_rrrrnn (q 44) 0 (q 49) (q 50) (q 51) (q 52) ch wh, ra_I (q 49) cI 1600 y1, ra_J (q 50) cJ 64 y2, ra_J (q 51) cJ 9 y3, ra_J (q 52) cJ 10 y4, ra_I (q 47) cI 3 yf, ra_I (q 48) cI 3 yt, ro_rrrrrrrnn (q 11) 1 (q 10) (q 67) (q 68) (q 69) (q 70) (q 71) (q 72) gd gs, ra_I (q 67) cI 90 e1, ra_I (q 68) cI 9 e2, ra_I (q 69) cI 10 e3, ro_rrnnnin (q 7) 7 (q 33) (q 34) dy wn mo mu ke, ra_I (q 33) cI 9 fb, ra_I (q 34) cI 9 fw, ra_I (q 12) cI 9 ra, ra_I (q 13) cI 9 rc]) hP hD rfl (fun hP hD => ?_)
    refine lv_if_ne (tgt := 17) hx hb dX11_wished_12 (by decide) (fun c_11 => ?_) (fun c_11 => ?_)
    · have c_11 : ¬ (b_8 = 0) := fun h => c_11 ((neq b_8 0 (by omega) (Nat.le_of_ble_eq_true rfl)).mpr h)
      obtain ⟨kd_12, hkd_12, rfl⟩ := rr_1 hb1_10 (by omega)
      refine lv_aload_n hx hb dX11_wished_17 rfl (lv_at hl 0 rfl) ?_
      refine lv_iconst (v := 1) hx hb dX11_wished_18 ic_1 ?_
      refine lv_iload_n hx hb dX11_wished_19 rfl (lv_at hl 1 rfl) ?_
      refine lv_iload_n hx hb dX11_wished_20 rfl (lv_at hl 2 rfl) ?_
      refine sk_Vi (q0 := 0) (n := 3) (rest := []) (wr := fmR om_25_1ffffff _) ⟨hx, hb, hml, hown, hts⟩ hl.1 (c_kx_fewest l D cI cJ cC cZ cS x0 q hc dr sa ft fa fo fg fk dh mh uh rh nh ch wh y1 y2 y3 y4 yf yt gd gs e1 e2 e3 dy wn mo ke mu fb fw Ba We L U ra rc kd_7 1 (nI kd_12) hsa hch hwh hdy hmo hgd hgs hLk hlq htq hfb hfw hB9 hW9 hwn hU (by omega)) w_4_96 w_4_98 w_0_22 w_1_1 w_4_99 hd_X11_fewest_3 ⟨⟨(Nat.le_of_ble_eq_true rfl), (Nat.le_of_ble_eq_true rfl)⟩, (Nat.le_of_ble_eq_true rfl), (Nat.le_of_ble_eq_true rfl)⟩ hK hP hD hS hA (fmT om_25_1ffffff 0) (fmF om_25_1ffffff 0) (fm_C1 rfl rfl) (fm_R rfl rfl) (fm_nT om_25_1ffffff 0) (fm_nF om_25_1ffffff 0) (fm_di om_25_1ffffff 0) rfl rfl rfl rfl (Nat.le_of_ble_eq_true rfl) dX11_wished_21 (fun r_28 u H locs hw hP hD hS => ?_)
      refine exE hw (fun sa2_13 hw1 => exE hw1 (fun ft2_14 hw2 => exE hw2 (fun fa2_15 hw3 => exE hw3 (fun fo2_16 hw4 => exE hw4 (fun fg2_17 hw5 => exE hw5 (fun fk2_18 hw6 => exE hw6 (fun z2_19 hw7 => exE hw7 (fun z3_20 hw8 => exE hw8 (fun g1_21 hw9 => exE hw9 (fun g2_22 hw10 => exE hw10 (fun g3_23 hw11 => exE hw11 (fun gd2_24 hw12 => exE hw12 (fun gs2_25 hw13 => exE hw13 (fun ra2_26 hw14 => exE hw14 (fun rc2_27 hw15 => anE hw15 (fun hsa2_29 hw16 => anE hw16 (fun htq2_30 hw17 => anE hw17 (fun hgd2_31 hw18 => anE hw18 (fun hgs2_32 eu_33 => ?_)))))))))))))))))))
      clear hw hw1 hw2 hw3 hw4 hw5 hw6 hw7 hw8 hw9 hw10 hw11 hw12 hw13 hw14 hw15 hw16 hw17 hw18
      refine o_mgE (ws' := [ro_rrrrrrrrrrrrrrrirl x0 11 (q 0) (q 1) (q 2) (q 3) (q 4) (q 5) (q 6) (q 7) (q 8) (q 9) (q 10) (q 11) (q 12) (q 13) (q 14) hc (q 16) dr, ro_rrrrrr (q 10) 9 (q 61) (q 62) (q 63) (q 64) (q 65) (q 66), ra_N (q 61) cI 90 sa2_13, ra_I (q 62) cI 900 ft2_14, ra_I (q 63) cI 90 fa2_15, ra_I (q 64) cI 90 fo2_16, ra_J (q 65) cJ 90 fg2_17, ra_I (q 66) cI 9 fk2_18, ro_rrrrrnniin (q 5) 2 (q 44) (q 45) (q 46) (q 47) (q 48) dh mh uh rh nh, ro_rrrrnn (q 44) 0 (q 49) (q 50) (q 51) (q 52) ch wh, ra_I (q 49) cI 1600 y1, ra_J (q 50) cJ 64 z2_19, ra_J (q 51) cJ 9 z3_20, ra_J (q 52) cJ 10 y4, ra_I (q 47) cI 3 yf, ra_I (q 48) cI 3 yt, ro_rrrrrrrnn (q 11) 1 (q 10) (q 67) (q 68) (q 69) (q 70) (q 71) (q 72) gd2_24 gs2_25, ra_I (q 67) cI 90 g1_21, ra_I (q 68) cI 9 g2_22, ra_I (q 69) cI 10 g3_23, ro_rrnnnin (q 7) 7 (q 33) (q 34) dy wn mo mu ke, ra_I (q 33) cI 9 fb, ra_I (q 34) cI 9 fw, ra_I (q 12) cI 9 ra2_26, ra_I (q 13) cI 9 rc2_27]) eu_33 hP hD rfl (fun hP hD => ?_)
      exact sk_iret hx hb hr rfl hlocks hK hP hD hS (⟨sa2_13, ft2_14, fa2_15, fo2_16, fg2_17, fk2_18, z2_19, z3_20, g1_21, g2_22, g3_23, gd2_24, gs2_25, ra2_26, rc2_27, hsa2_29, htq2_30, hgd2_31, hgs2_32, rfl⟩) (Nat.le_of_ble_eq_true rfl) (Nat.le_of_ble_eq_true rfl) dX11_wished_24
    · have c_11 : b_8 = 0 := (neq b_8 0 (by omega) (Nat.le_of_ble_eq_true rfl)).mp c_11
      refine lv_iconst (v := (-1)) hx hb dX11_wished_15 (by decide) ?_
      exact sk_iret hx hb hr rfl hlocks hK hP hD hS (⟨sa, ft, fa, fo, fg, fk, y2, y3, e1, e2, e3, gd, gs, ra, rc, hsa, htq, hgd, hgs, rfl⟩) (Nat.le_of_ble_eq_true rfl) (Nat.le_of_ble_eq_true rfl) dX11_wished_16
theorem dg_X11_rest_0_0 : bqL cX11_rest 0 [(0, [42]), (1, [5]), (2, [3]), (3, [3]), (4, [182, 0, 226]), (7, [172])] = true := by decide +kernel
theorem dX11_rest_0 : decode cX11_rest 0 = .ok (.aload_n 0, 1) := q_aload_n0 (bat_get dg_X11_rest_0_0 0 rfl rfl)
theorem dX11_rest_1 : decode cX11_rest 1 = .ok (.iconst 2, 1) := q_iconst2 (bat_get dg_X11_rest_0_0 1 rfl rfl)
theorem dX11_rest_2 : decode cX11_rest 2 = .ok (.iconst 0, 1) := q_iconst0 (bat_get dg_X11_rest_0_0 2 rfl rfl)
theorem dX11_rest_3 : decode cX11_rest 3 = .ok (.iconst 0, 1) := q_iconst0 (bat_get dg_X11_rest_0_0 3 rfl rfl)
theorem dX11_rest_4 : decode cX11_rest 4 = .ok (.invokevirtual 226, 3) := q_invokevirtual (bat_get dg_X11_rest_0_0 4 rfl rfl) rfl
theorem dX11_rest_7 : decode cX11_rest 7 = .ok (.ireturn, 1) := q_ireturn (bat_get dg_X11_rest_0_0 5 rfl rfl)
theorem w_4_177 : (Cond.code yX11_rest cX11_rest 1 (some .int)) ∈ wsL_law := sk_mem (ck_4 _ (List.mem_of_getElem? (i := 177) rfl)) rfl
set_option maxHeartbeats 4000000 in
set_option maxRecDepth 100000 in
theorem c_ky_rest (l : Launch) (D : va_G) (cI cJ cC cZ cS : ClassId) (x0 : Nat) (q : Nat → Nat) (hc : Int32) (dr : Int64) (sa : Nat → Nat) (ft : Nat → Int32) (fa : Nat → Int32) (fo : Nat → Int32) (fg : Nat → Int64) (fk : Nat → Int32) (dh : Nat) (mh : Nat) (uh : Int32) (rh : Int32) (nh : Nat) (ch : Nat) (wh : Nat) (y1 : Nat → Int32) (y2 : Nat → Int64) (y3 : Nat → Int64) (y4 : Nat → Int64) (yf : Nat → Int32) (yt : Nat → Int32) (gd : Nat) (gs : Nat) (e1 : Nat → Int32) (e2 : Nat → Int32) (e3 : Nat → Int32) (dy : Nat) (wn : Nat) (mo : Nat) (ke : Nat) (mu : Int32) (fb : Nat → Int32) (fw : Nat → Int32) (Ba : Nat → Nat) (We : Nat → Nat) (L : LkS) (U : Nat → Bool) (ra : Nat → Int32) (rc : Nat → Int32) (hsa : ∀ j, sa j ≤ 9) (hch : ch ≤ 1600) (hwh : wh ≤ 1) (hdy : dy ≤ 9) (hmo : mo ≤ 9) (hgd : gd ≤ 9) (hgs : gs ≤ 9) (hLk : kcLk L) (hlq : 1 ≤ dy → cdK (lK (lkF L)) ch wh y1 ∧ ∀ v, v < 3 → sgO (lG (lkF L) v) (yf v) (yt v)) (htq : 1 ≤ dy → kcTI L sa ft fa fo fg fk) (hfb : ∀ j, j < 9 → fb j = nI (Ba j)) (hfw : ∀ j, j < 9 → fw j = nI (We j)) (hB9 : ∀ j, Ba j ≤ 9) (hW9 : ∀ j, We j ≤ 9) (hwn : wn ≤ 999) (hU : muO U mu) : skM l yX11_rest cX11_rest 1 (some .int) 6 154 0 0 D (skT cI cJ cC cZ cS) [.ref x0] [ro_rrrrrrrrrrrrrrrirl x0 11 (q 0) (q 1) (q 2) (q 3) (q 4) (q 5) (q 6) (q 7) (q 8) (q 9) (q 10) (q 11) (q 12) (q 13) (q 14) hc (q 16) dr, ro_rrrrrr (q 10) 9 (q 61) (q 62) (q 63) (q 64) (q 65) (q 66), ra_N (q 61) cI 90 sa, ra_I (q 62) cI 900 ft, ra_I (q 63) cI 90 fa, ra_I (q 64) cI 90 fo, ra_J (q 65) cJ 90 fg, ra_I (q 66) cI 9 fk, ro_rrrrrnniin (q 5) 2 (q 44) (q 45) (q 46) (q 47) (q 48) dh mh uh rh nh, ro_rrrrnn (q 44) 0 (q 49) (q 50) (q 51) (q 52) ch wh, ra_I (q 49) cI 1600 y1, ra_J (q 50) cJ 64 y2, ra_J (q 51) cJ 9 y3, ra_J (q 52) cJ 10 y4, ra_I (q 47) cI 3 yf, ra_I (q 48) cI 3 yt, ro_rrrrrrrnn (q 11) 1 (q 10) (q 67) (q 68) (q 69) (q 70) (q 71) (q 72) gd gs, ra_I (q 67) cI 90 e1, ra_I (q 68) cI 9 e2, ra_I (q 69) cI 10 e3, ro_rrnnnin (q 7) 7 (q 33) (q 34) dy wn mo mu ke, ra_I (q 33) cI 9 fb, ra_I (q 34) cI 9 fw, ra_I (q 12) cI 9 ra, ra_I (q 13) cI 9 rc] (skI D (skT cI cJ cC cZ cS) (fun (r : Int32) (u : va_W) => ∃ (sa2 : Nat → Nat), ∃ (ft2 : Nat → Int32), ∃ (fa2 : Nat → Int32), ∃ (fo2 : Nat → Int32), ∃ (fg2 : Nat → Int64), ∃ (fk2 : Nat → Int32), ∃ (z2 : Nat → Int64), ∃ (z3 : Nat → Int64), ∃ (g1 : Nat → Int32), ∃ (g2 : Nat → Int32), ∃ (g3 : Nat → Int32), ∃ (gd2 : Nat), ∃ (gs2 : Nat), ∃ (ra2 : Nat → Int32), ∃ (rc2 : Nat → Int32), (∀ j, sa2 j ≤ 9) ∧ (1 ≤ dy → kcTI L sa2 ft2 fa2 fo2 fg2 fk2) ∧ gd2 ≤ 9 ∧ gs2 ≤ 9 ∧ u = [ro_rrrrrrrrrrrrrrrirl x0 11 (q 0) (q 1) (q 2) (q 3) (q 4) (q 5) (q 6) (q 7) (q 8) (q 9) (q 10) (q 11) (q 12) (q 13) (q 14) hc (q 16) dr, ro_rrrrrr (q 10) 9 (q 61) (q 62) (q 63) (q 64) (q 65) (q 66), ra_N (q 61) cI 90 sa2, ra_I (q 62) cI 900 ft2, ra_I (q 63) cI 90 fa2, ra_I (q 64) cI 90 fo2, ra_J (q 65) cJ 90 fg2, ra_I (q 66) cI 9 fk2, ro_rrrrrnniin (q 5) 2 (q 44) (q 45) (q 46) (q 47) (q 48) dh mh uh rh nh, ro_rrrrnn (q 44) 0 (q 49) (q 50) (q 51) (q 52) ch wh, ra_I (q 49) cI 1600 y1, ra_J (q 50) cJ 64 z2, ra_J (q 51) cJ 9 z3, ra_J (q 52) cJ 10 y4, ra_I (q 47) cI 3 yf, ra_I (q 48) cI 3 yt, ro_rrrrrrrnn (q 11) 1 (q 10) (q 67) (q 68) (q 69) (q 70) (q 71) (q 72) gd2 gs2, ra_I (q 67) cI 90 g1, ra_I (q 68) cI 9 g2, ra_I (q 69) cI 10 g3, ro_rrnnnin (q 7) 7 (q 33) (q 34) dy wn mo mu ke, ra_I (q 33) cI 9 fb, ra_I (q 34) cI 9 fw, ra_I (q 12) cI 9 ra2, ra_I (q 13) cI 9 rc2])) := by
  refine skM_of pf_X11_rest (Nat.le_of_ble_eq_true rfl) ?_
  intro p e s m below meth c A ls E hP hD hl
  refine skE_el E (fun hx hb hr hml hlocks hin hown hts hK hA => ?_)
  have hown : s.vm.findClass RX11 = some m.cls := hown
  have hS : va_S A s.heap s.heap [] := va_S.rf
  have hl : lv_has ls 1 [(0, .ref x0)] := hl
  refine lv_aload_n hx hb dX11_rest_0 rfl (lv_at hl 0 rfl) ?_
  refine lv_iconst (v := 2) hx hb dX11_rest_1 ic_2 ?_
  refine lv_iconst (v := 0) hx hb dX11_rest_2 ic_0 ?_
  refine lv_iconst (v := 0) hx hb dX11_rest_3 ic_0 ?_
  refine sk_Vi (q0 := 0) (n := 3) (rest := []) (wr := fmR om_25_1ffffff _) ⟨hx, hb, hml, hown, hts⟩ hl.1 (c_kx_fewest l D cI cJ cC cZ cS x0 q hc dr sa ft fa fo fg fk dh mh uh rh nh ch wh y1 y2 y3 y4 yf yt gd gs e1 e2 e3 dy wn mo ke mu fb fw Ba We L U ra rc 0 2 0 hsa hch hwh hdy hmo hgd hgs hLk hlq htq hfb hfw hB9 hW9 hwn hU (by omega)) w_4_96 w_4_98 w_0_22 w_1_1 w_4_99 hd_X11_fewest_3 ⟨⟨(Nat.le_of_ble_eq_true rfl), (Nat.le_of_ble_eq_true rfl)⟩, (Nat.le_of_ble_eq_true rfl), (Nat.le_of_ble_eq_true rfl)⟩ hK hP hD hS hA (fmT om_25_1ffffff 0) (fmF om_25_1ffffff 0) (fm_C1 rfl rfl) (fm_R rfl rfl) (fm_nT om_25_1ffffff 0) (fm_nF om_25_1ffffff 0) (fm_di om_25_1ffffff 0) rfl rfl rfl rfl (Nat.le_of_ble_eq_true rfl) dX11_rest_4 (fun r_16 u H locs hw hP hD hS => ?_)
  refine exE hw (fun sa2_1 hw1 => exE hw1 (fun ft2_2 hw2 => exE hw2 (fun fa2_3 hw3 => exE hw3 (fun fo2_4 hw4 => exE hw4 (fun fg2_5 hw5 => exE hw5 (fun fk2_6 hw6 => exE hw6 (fun z2_7 hw7 => exE hw7 (fun z3_8 hw8 => exE hw8 (fun g1_9 hw9 => exE hw9 (fun g2_10 hw10 => exE hw10 (fun g3_11 hw11 => exE hw11 (fun gd2_12 hw12 => exE hw12 (fun gs2_13 hw13 => exE hw13 (fun ra2_14 hw14 => exE hw14 (fun rc2_15 hw15 => anE hw15 (fun hsa2_17 hw16 => anE hw16 (fun htq2_18 hw17 => anE hw17 (fun hgd2_19 hw18 => anE hw18 (fun hgs2_20 eu_21 => ?_)))))))))))))))))))
  clear hw hw1 hw2 hw3 hw4 hw5 hw6 hw7 hw8 hw9 hw10 hw11 hw12 hw13 hw14 hw15 hw16 hw17 hw18
  refine o_mgE (ws' := [ro_rrrrrrrrrrrrrrrirl x0 11 (q 0) (q 1) (q 2) (q 3) (q 4) (q 5) (q 6) (q 7) (q 8) (q 9) (q 10) (q 11) (q 12) (q 13) (q 14) hc (q 16) dr, ro_rrrrrr (q 10) 9 (q 61) (q 62) (q 63) (q 64) (q 65) (q 66), ra_N (q 61) cI 90 sa2_1, ra_I (q 62) cI 900 ft2_2, ra_I (q 63) cI 90 fa2_3, ra_I (q 64) cI 90 fo2_4, ra_J (q 65) cJ 90 fg2_5, ra_I (q 66) cI 9 fk2_6, ro_rrrrrnniin (q 5) 2 (q 44) (q 45) (q 46) (q 47) (q 48) dh mh uh rh nh, ro_rrrrnn (q 44) 0 (q 49) (q 50) (q 51) (q 52) ch wh, ra_I (q 49) cI 1600 y1, ra_J (q 50) cJ 64 z2_7, ra_J (q 51) cJ 9 z3_8, ra_J (q 52) cJ 10 y4, ra_I (q 47) cI 3 yf, ra_I (q 48) cI 3 yt, ro_rrrrrrrnn (q 11) 1 (q 10) (q 67) (q 68) (q 69) (q 70) (q 71) (q 72) gd2_12 gs2_13, ra_I (q 67) cI 90 g1_9, ra_I (q 68) cI 9 g2_10, ra_I (q 69) cI 10 g3_11, ro_rrnnnin (q 7) 7 (q 33) (q 34) dy wn mo mu ke, ra_I (q 33) cI 9 fb, ra_I (q 34) cI 9 fw, ra_I (q 12) cI 9 ra2_14, ra_I (q 13) cI 9 rc2_15]) eu_21 hP hD rfl (fun hP hD => ?_)
  exact sk_iret hx hb hr rfl hlocks hK hP hD hS (⟨sa2_1, ft2_2, fa2_3, fo2_4, fg2_5, fk2_6, z2_7, z3_8, g1_9, g2_10, g3_11, gd2_12, gs2_13, ra2_14, rc2_15, hsa2_17, htq2_18, hgd2_19, hgs2_20, rfl⟩) (Nat.le_of_ble_eq_true rfl) (Nat.le_of_ble_eq_true rfl) dX11_rest_7
theorem dg_X11_lies_0_0 : bqL cX11_lies 0 [(0, [42]), (1, [182, 0, 204]), (4, [154, 0, 5]), (9, [42]), (10, [180, 0, 76]), (13, [42]), (14, [180, 0, 49]), (17, [42]), (18, [180, 0, 59]), (21, [182, 0, 185]), (24, [3]), (25, [60]), (26, [3]), (27, [61]), (28, [28]), (29, [16, 10]), (31, [162, 0, 44]), (75, [27]), (76, [172]), (34, [42]), (35, [180, 0, 85]), (38, [42]), (39, [180, 0, 59]), (42, [42]), (43, [180, 0, 59]), (46, [180, 0, 153]), (49, [28]), (50, [182, 0, 230]), (53, [42]), (54, [180, 0, 85]), (57, [182, 0, 234]), (60, [153, 0, 9]), (69, [132, 2, 1]), (72, [167, 255, 212]), (63, [27]), (64, [4]), (65, [28]), (66, [120]), (67, [128]), (68, [60])] = true := by decide +kernel
theorem dX11_lies_0 : decode cX11_lies 0 = .ok (.aload_n 0, 1) := q_aload_n0 (bat_get dg_X11_lies_0_0 0 rfl rfl)
theorem dX11_lies_1 : decode cX11_lies 1 = .ok (.invokevirtual 204, 3) := q_invokevirtual (bat_get dg_X11_lies_0_0 1 rfl rfl) rfl
theorem dX11_lies_4 : decode cX11_lies 4 = .ok (.ifCond .ne 5, 3) := q_ifCond_ne (bat_get dg_X11_lies_0_0 2 rfl rfl) rfl
theorem dX11_lies_9 : decode cX11_lies 9 = .ok (.aload_n 0, 1) := q_aload_n0 (bat_get dg_X11_lies_0_0 3 rfl rfl)
theorem dX11_lies_10 : decode cX11_lies 10 = .ok (.getfield 76, 3) := q_getfield (bat_get dg_X11_lies_0_0 4 rfl rfl) rfl
theorem dX11_lies_13 : decode cX11_lies 13 = .ok (.aload_n 0, 1) := q_aload_n0 (bat_get dg_X11_lies_0_0 5 rfl rfl)
theorem dX11_lies_14 : decode cX11_lies 14 = .ok (.getfield 49, 3) := q_getfield (bat_get dg_X11_lies_0_0 6 rfl rfl) rfl
theorem dX11_lies_17 : decode cX11_lies 17 = .ok (.aload_n 0, 1) := q_aload_n0 (bat_get dg_X11_lies_0_0 7 rfl rfl)
theorem dX11_lies_18 : decode cX11_lies 18 = .ok (.getfield 59, 3) := q_getfield (bat_get dg_X11_lies_0_0 8 rfl rfl) rfl
theorem dX11_lies_21 : decode cX11_lies 21 = .ok (.invokevirtual 185, 3) := q_invokevirtual (bat_get dg_X11_lies_0_0 9 rfl rfl) rfl
theorem dX11_lies_24 : decode cX11_lies 24 = .ok (.iconst 0, 1) := q_iconst0 (bat_get dg_X11_lies_0_0 10 rfl rfl)
theorem dX11_lies_25 : decode cX11_lies 25 = .ok (.istore_n 1, 1) := q_istore_n1 (bat_get dg_X11_lies_0_0 11 rfl rfl)
theorem dX11_lies_26 : decode cX11_lies 26 = .ok (.iconst 0, 1) := q_iconst0 (bat_get dg_X11_lies_0_0 12 rfl rfl)
theorem dX11_lies_27 : decode cX11_lies 27 = .ok (.istore_n 2, 1) := q_istore_n2 (bat_get dg_X11_lies_0_0 13 rfl rfl)
theorem dX11_lies_28 : decode cX11_lies 28 = .ok (.iload_n 2, 1) := q_iload_n2 (bat_get dg_X11_lies_0_0 14 rfl rfl)
theorem dX11_lies_29 : decode cX11_lies 29 = .ok (.bipush 10, 2) := q_bipush (bat_get dg_X11_lies_0_0 15 rfl rfl) rfl
theorem dX11_lies_31 : decode cX11_lies 31 = .ok (.if_icmp .ge 44, 3) := q_if_icmp_ge (bat_get dg_X11_lies_0_0 16 rfl rfl) rfl
theorem dX11_lies_75 : decode cX11_lies 75 = .ok (.iload_n 1, 1) := q_iload_n1 (bat_get dg_X11_lies_0_0 17 rfl rfl)
theorem dX11_lies_76 : decode cX11_lies 76 = .ok (.ireturn, 1) := q_ireturn (bat_get dg_X11_lies_0_0 18 rfl rfl)
theorem dX11_lies_34 : decode cX11_lies 34 = .ok (.aload_n 0, 1) := q_aload_n0 (bat_get dg_X11_lies_0_0 19 rfl rfl)
theorem dX11_lies_35 : decode cX11_lies 35 = .ok (.getfield 85, 3) := q_getfield (bat_get dg_X11_lies_0_0 20 rfl rfl) rfl
theorem dX11_lies_38 : decode cX11_lies 38 = .ok (.aload_n 0, 1) := q_aload_n0 (bat_get dg_X11_lies_0_0 21 rfl rfl)
theorem dX11_lies_39 : decode cX11_lies 39 = .ok (.getfield 59, 3) := q_getfield (bat_get dg_X11_lies_0_0 22 rfl rfl) rfl
theorem dX11_lies_42 : decode cX11_lies 42 = .ok (.aload_n 0, 1) := q_aload_n0 (bat_get dg_X11_lies_0_0 23 rfl rfl)
theorem dX11_lies_43 : decode cX11_lies 43 = .ok (.getfield 59, 3) := q_getfield (bat_get dg_X11_lies_0_0 24 rfl rfl) rfl
theorem dX11_lies_46 : decode cX11_lies 46 = .ok (.getfield 153, 3) := q_getfield (bat_get dg_X11_lies_0_0 25 rfl rfl) rfl
theorem dX11_lies_49 : decode cX11_lies 49 = .ok (.iload_n 2, 1) := q_iload_n2 (bat_get dg_X11_lies_0_0 26 rfl rfl)
theorem dX11_lies_50 : decode cX11_lies 50 = .ok (.invokevirtual 230, 3) := q_invokevirtual (bat_get dg_X11_lies_0_0 27 rfl rfl) rfl
theorem dX11_lies_53 : decode cX11_lies 53 = .ok (.aload_n 0, 1) := q_aload_n0 (bat_get dg_X11_lies_0_0 28 rfl rfl)
theorem dX11_lies_54 : decode cX11_lies 54 = .ok (.getfield 85, 3) := q_getfield (bat_get dg_X11_lies_0_0 29 rfl rfl) rfl
theorem dX11_lies_57 : decode cX11_lies 57 = .ok (.invokevirtual 234, 3) := q_invokevirtual (bat_get dg_X11_lies_0_0 30 rfl rfl) rfl
theorem dX11_lies_60 : decode cX11_lies 60 = .ok (.ifCond .eq 9, 3) := q_ifCond_eq (bat_get dg_X11_lies_0_0 31 rfl rfl) rfl
theorem dX11_lies_69 : decode cX11_lies 69 = .ok (.iinc 2 1, 3) := q_iinc (bat_get dg_X11_lies_0_0 32 rfl rfl) rfl
theorem dX11_lies_72 : decode cX11_lies 72 = .ok (.goto (-44), 3) := q_goto (bat_get dg_X11_lies_0_0 33 rfl rfl) rfl
theorem dX11_lies_63 : decode cX11_lies 63 = .ok (.iload_n 1, 1) := q_iload_n1 (bat_get dg_X11_lies_0_0 34 rfl rfl)
theorem dX11_lies_64 : decode cX11_lies 64 = .ok (.iconst 1, 1) := q_iconst1 (bat_get dg_X11_lies_0_0 35 rfl rfl)
theorem dX11_lies_65 : decode cX11_lies 65 = .ok (.iload_n 2, 1) := q_iload_n2 (bat_get dg_X11_lies_0_0 36 rfl rfl)
theorem dX11_lies_66 : decode cX11_lies 66 = .ok (.ishl, 1) := q_ishl (bat_get dg_X11_lies_0_0 37 rfl rfl)
theorem dX11_lies_67 : decode cX11_lies 67 = .ok (.ior, 1) := q_ior (bat_get dg_X11_lies_0_0 38 rfl rfl)
theorem dX11_lies_68 : decode cX11_lies 68 = .ok (.istore_n 1, 1) := q_istore_n1 (bat_get dg_X11_lies_0_0 39 rfl rfl)
theorem dg_X11_lies_7_7 : bqL cX11_lies 7 [(0, [2]), (1, [172])] = true := by decide +kernel
theorem dX11_lies_7 : decode cX11_lies 7 = .ok (.iconst (-1), 1) := q_iconstm1 (bat_get dg_X11_lies_7_7 0 rfl rfl)
theorem dX11_lies_8 : decode cX11_lies 8 = .ok (.ireturn, 1) := q_ireturn (bat_get dg_X11_lies_7_7 1 rfl rfl)
theorem w_4_127 : (Cond.code yX11_lies cX11_lies 3 (some .int)) ∈ wsL_law := sk_mem (ck_4 _ (List.mem_of_getElem? (i := 127) rfl)) rfl
set_option maxHeartbeats 4000000 in
set_option maxRecDepth 100000 in
theorem c_ky_lies (l : Launch) (D : va_G) (cI cJ cC cZ cS : ClassId) (x0 : Nat) (q : Nat → Nat) (hc : Int32) (dr : Int64) (sa : Nat → Nat) (ft : Nat → Int32) (fa : Nat → Int32) (fo : Nat → Int32) (fg : Nat → Int64) (fk : Nat → Int32) (dh : Nat) (mh : Nat) (uh : Int32) (rh : Int32) (nh : Nat) (ch : Nat) (wh : Nat) (y1 : Nat → Int32) (y2 : Nat → Int64) (y3 : Nat → Int64) (y4 : Nat → Int64) (yf : Nat → Int32) (yt : Nat → Int32) (gd : Nat) (gs : Nat) (e1 : Nat → Int32) (e2 : Nat → Int32) (e3 : Nat → Int32) (dy : Nat) (wn : Nat) (mo : Nat) (ke : Nat) (mu : Int32) (fb : Nat → Int32) (fw : Nat → Int32) (Ba : Nat → Nat) (We : Nat → Nat) (L : LkS) (U : Nat → Bool) (hsa : ∀ j, sa j ≤ 9) (hch : ch ≤ 1600) (hwh : wh ≤ 1) (hdy : dy ≤ 9) (hmo : mo ≤ 9) (hgd : gd ≤ 9) (hgs : gs ≤ 9) (hLk : kcLk L) (hlq : 1 ≤ dy → cdK (lK (lkF L)) ch wh y1 ∧ ∀ v, v < 3 → sgO (lG (lkF L) v) (yf v) (yt v)) (htq : 1 ≤ dy → kcTI L sa ft fa fo fg fk) (hfb : ∀ j, j < 9 → fb j = nI (Ba j)) (hfw : ∀ j, j < 9 → fw j = nI (We j)) (hB9 : ∀ j, Ba j ≤ 9) (hW9 : ∀ j, We j ≤ 9) (hwn : wn ≤ 999) (hU : muO U mu) : skM l yX11_lies cX11_lies 3 (some .int) 5 128 0 0 D (skT cI cJ cC cZ cS) [.ref x0] [ro_rrrrrrrrrrrrrrrirl x0 11 (q 0) (q 1) (q 2) (q 3) (q 4) (q 5) (q 6) (q 7) (q 8) (q 9) (q 10) (q 11) (q 12) (q 13) (q 14) hc (q 16) dr, ro_rrrrrr (q 10) 9 (q 61) (q 62) (q 63) (q 64) (q 65) (q 66), ra_N (q 61) cI 90 sa, ra_I (q 62) cI 900 ft, ra_I (q 63) cI 90 fa, ra_I (q 64) cI 90 fo, ra_J (q 65) cJ 90 fg, ra_I (q 66) cI 9 fk, ro_rrrrrnniin (q 5) 2 (q 44) (q 45) (q 46) (q 47) (q 48) dh mh uh rh nh, ro_rrrrnn (q 44) 0 (q 49) (q 50) (q 51) (q 52) ch wh, ra_I (q 49) cI 1600 y1, ra_J (q 50) cJ 64 y2, ra_J (q 51) cJ 9 y3, ra_J (q 52) cJ 10 y4, ra_I (q 47) cI 3 yf, ra_I (q 48) cI 3 yt, ro_rrrrrrrnn (q 11) 1 (q 10) (q 67) (q 68) (q 69) (q 70) (q 71) (q 72) gd gs, ra_I (q 67) cI 90 e1, ra_I (q 68) cI 9 e2, ra_I (q 69) cI 10 e3, ro_rrnnnin (q 7) 7 (q 33) (q 34) dy wn mo mu ke, ra_I (q 33) cI 9 fb, ra_I (q 34) cI 9 fw] (skI D (skT cI cJ cC cZ cS) (fun (r : Int32) (u : va_W) => ∃ (sa2 : Nat → Nat), ∃ (ft2 : Nat → Int32), ∃ (fa2 : Nat → Int32), ∃ (fo2 : Nat → Int32), ∃ (fg2 : Nat → Int64), ∃ (fk2 : Nat → Int32), ∃ (z2 : Nat → Int64), ∃ (z3 : Nat → Int64), ∃ (g1 : Nat → Int32), ∃ (g2 : Nat → Int32), ∃ (g3 : Nat → Int32), ∃ (gd2 : Nat), ∃ (gs2 : Nat), (∀ j, sa2 j ≤ 9) ∧ (1 ≤ dy → kcTI L sa2 ft2 fa2 fo2 fg2 fk2) ∧ gd2 ≤ 9 ∧ gs2 ≤ 9 ∧ u = [ro_rrrrrrrrrrrrrrrirl x0 11 (q 0) (q 1) (q 2) (q 3) (q 4) (q 5) (q 6) (q 7) (q 8) (q 9) (q 10) (q 11) (q 12) (q 13) (q 14) hc (q 16) dr, ro_rrrrrr (q 10) 9 (q 61) (q 62) (q 63) (q 64) (q 65) (q 66), ra_N (q 61) cI 90 sa2, ra_I (q 62) cI 900 ft2, ra_I (q 63) cI 90 fa2, ra_I (q 64) cI 90 fo2, ra_J (q 65) cJ 90 fg2, ra_I (q 66) cI 9 fk2, ro_rrrrrnniin (q 5) 2 (q 44) (q 45) (q 46) (q 47) (q 48) dh mh uh rh nh, ro_rrrrnn (q 44) 0 (q 49) (q 50) (q 51) (q 52) ch wh, ra_I (q 49) cI 1600 y1, ra_J (q 50) cJ 64 z2, ra_J (q 51) cJ 9 z3, ra_J (q 52) cJ 10 y4, ra_I (q 47) cI 3 yf, ra_I (q 48) cI 3 yt, ro_rrrrrrrnn (q 11) 1 (q 10) (q 67) (q 68) (q 69) (q 70) (q 71) (q 72) gd2 gs2, ra_I (q 67) cI 90 g1, ra_I (q 68) cI 9 g2, ra_I (q 69) cI 10 g3, ro_rrnnnin (q 7) 7 (q 33) (q 34) dy wn mo mu ke, ra_I (q 33) cI 9 fb, ra_I (q 34) cI 9 fw])) := by
  refine skM_of pf_X11_lies (Nat.le_of_ble_eq_true rfl) ?_
  intro p e s m below meth c A ls E hP hD hl
  refine skE_el E (fun hx hb hr hml hlocks hin hown hts hK hA => ?_)
  have hown : s.vm.findClass RX11 = some m.cls := hown
  have hS : va_S A s.heap s.heap [] := va_S.rf
  have hl : lv_has ls 3 [(0, .ref x0)] := hl
  refine lv_aload_n hx hb dX11_lies_0 rfl (lv_at hl 0 rfl) ?_
  refine sk_Vi (q0 := 0) (n := 0) (rest := []) (wr := fmR om_23_400004 _) ⟨hx, hb, hml, hown, hts⟩ hl.1 (c_kx_isLocked l D cI cJ cC cZ cS x0 q hc dr dy wn mo ke mu fb fw hdy) w_4_39 w_4_41 w_0_18 w_1_1 w_4_42 hd_X11_isLocked_0 ⟨⟨(Nat.le_of_ble_eq_true rfl), (Nat.le_of_ble_eq_true rfl)⟩, (Nat.le_of_ble_eq_true rfl), (Nat.le_of_ble_eq_true rfl)⟩ hK hP hD hS hA (fmT om_23_400004 0) (fmF om_23_400004 0) (fm_C1 rfl rfl) (fm_R rfl rfl) (fm_nT om_23_400004 0) (fm_nF om_23_400004 0) (fm_di om_23_400004 0) rfl rfl rfl rfl (Nat.le_of_ble_eq_true rfl) dX11_lies_1 (fun r_2 u H locs hw hP hD hS => ?_)
  refine exE hw (fun b_1 hw1 => anE hw1 (fun hb1_3 hw2 => anE hw2 (fun er_5 eu_4 => ?_)))
  clear hw hw1 hw2
  subst er_5
  refine o_mgE (ws' := [ro_rrrrrrrrrrrrrrrirl x0 11 (q 0) (q 1) (q 2) (q 3) (q 4) (q 5) (q 6) (q 7) (q 8) (q 9) (q 10) (q 11) (q 12) (q 13) (q 14) hc (q 16) dr, ro_rrrrrr (q 10) 9 (q 61) (q 62) (q 63) (q 64) (q 65) (q 66), ra_N (q 61) cI 90 sa, ra_I (q 62) cI 900 ft, ra_I (q 63) cI 90 fa, ra_I (q 64) cI 90 fo, ra_J (q 65) cJ 90 fg, ra_I (q 66) cI 9 fk, ro_rrrrrnniin (q 5) 2 (q 44) (q 45) (q 46) (q 47) (q 48) dh mh uh rh nh, ro_rrrrnn (q 44) 0 (q 49) (q 50) (q 51) (q 52) ch wh, ra_I (q 49) cI 1600 y1, ra_J (q 50) cJ 64 y2, ra_J (q 51) cJ 9 y3, ra_J (q 52) cJ 10 y4, ra_I (q 47) cI 3 yf, ra_I (q 48) cI 3 yt, ro_rrrrrrrnn (q 11) 1 (q 10) (q 67) (q 68) (q 69) (q 70) (q 71) (q 72) gd gs, ra_I (q 67) cI 90 e1, ra_I (q 68) cI 9 e2, ra_I (q 69) cI 10 e3, ro_rrnnnin (q 7) 7 (q 33) (q 34) dy wn mo mu ke, ra_I (q 33) cI 9 fb, ra_I (q 34) cI 9 fw]) eu_4 hP hD rfl (fun hP hD => ?_)
  refine lv_if_ne (tgt := 9) hx hb dX11_lies_4 (by decide) (fun c_6 => ?_) (fun c_6 => ?_)
  · have c_6 : ¬ (b_1 = 0) := fun h => c_6 ((neq b_1 0 (by omega) (Nat.le_of_ble_eq_true rfl)).mpr h)
    refine lv_aload_n hx hb dX11_lies_9 rfl (lv_at hl 0 rfl) ?_
    refine sk_get (v := .ref (q 10)) (C := RX11) (T := TX11) (N := 18) hx hb hts inlX11 hown hK hP 0 rfl rfl 10 (Nat.le_of_ble_eq_true rfl) w_2_133 rfl dX11_lies_10 ?_
    refine lv_aload_n hx hb dX11_lies_13 rfl (lv_at hl 0 rfl) ?_
    refine sk_get (v := .ref (q 5)) (C := RX11) (T := TX11) (N := 18) hx hb hts inlX11 hown hK hP 0 rfl rfl 5 (Nat.le_of_ble_eq_true rfl) w_2_128 rfl dX11_lies_14 ?_
    refine lv_aload_n hx hb dX11_lies_17 rfl (lv_at hl 0 rfl) ?_
    refine sk_get (v := .ref (q 7)) (C := RX11) (T := TX11) (N := 18) hx hb hts inlX11 hown hK hP 0 rfl rfl 7 (Nat.le_of_ble_eq_true rfl) w_2_130 rfl dX11_lies_18 ?_
    refine sk_Vv (q0 := 0) (n := 2) (rest := []) (wr := fmR om_23_3fff87 _) ⟨hx, hb, hml, hown, hts⟩ hl.1 (c_kfit l D cI cJ cC cZ cS q dh mh uh rh nh ch wh y1 y2 y3 y4 yf yt sa ft fa fo fg fk (q 7) (q 33) (q 34) dy wn mo ke mu fb fw Ba We L hsa hch hwh hdy hmo hLk (hlq (by omega)).1 (hlq (by omega)).2 hfb hfw hB9 hW9 hwn (htq (by omega))) w_3_205 w_3_206 w_3_207 w_1_12 w_3_208 hd_X9_fit_2 ⟨⟨(Nat.le_of_ble_eq_true rfl), (Nat.le_of_ble_eq_true rfl)⟩, (Nat.le_of_ble_eq_true rfl), (Nat.le_of_ble_eq_true rfl)⟩ hK hP hD hS hA (fmT om_23_3fff87 0) (fmF om_23_3fff87 0) (fm_C1 rfl rfl) (fm_R rfl rfl) (fm_nT om_23_3fff87 0) (fm_nF om_23_3fff87 0) (fm_di om_23_3fff87 0) rfl rfl rfl rfl (Nat.le_of_ble_eq_true rfl) dX11_lies_21 (fun u H locs hw hP hD hS => ?_)
    refine exE hw (fun sa2_7 hw1 => exE hw1 (fun ft2_8 hw2 => exE hw2 (fun fa2_9 hw3 => exE hw3 (fun fo2_10 hw4 => exE hw4 (fun fg2_11 hw5 => exE hw5 (fun fk2_12 hw6 => exE hw6 (fun z2_13 hw7 => exE hw7 (fun z3_14 hw8 => anE hw8 (fun hsa2_15 hw9 => anE hw9 (fun hti2_16 hw10 => anE hw10 (fun hrows_17 eu_18 => ?_)))))))))))
    clear hw hw1 hw2 hw3 hw4 hw5 hw6 hw7 hw8 hw9 hw10
    refine o_mgE (ws' := [ro_rrrrrrrrrrrrrrrirl x0 11 (q 0) (q 1) (q 2) (q 3) (q 4) (q 5) (q 6) (q 7) (q 8) (q 9) (q 10) (q 11) (q 12) (q 13) (q 14) hc (q 16) dr, ro_rrrrrr (q 10) 9 (q 61) (q 62) (q 63) (q 64) (q 65) (q 66), ra_N (q 61) cI 90 sa2_7, ra_I (q 62) cI 900 ft2_8, ra_I (q 63) cI 90 fa2_9, ra_I (q 64) cI 90 fo2_10, ra_J (q 65) cJ 90 fg2_11, ra_I (q 66) cI 9 fk2_12, ro_rrrrrnniin (q 5) 2 (q 44) (q 45) (q 46) (q 47) (q 48) dh mh uh rh nh, ro_rrrrnn (q 44) 0 (q 49) (q 50) (q 51) (q 52) ch wh, ra_I (q 49) cI 1600 y1, ra_J (q 50) cJ 64 z2_13, ra_J (q 51) cJ 9 z3_14, ra_J (q 52) cJ 10 y4, ra_I (q 47) cI 3 yf, ra_I (q 48) cI 3 yt, ro_rrrrrrrnn (q 11) 1 (q 10) (q 67) (q 68) (q 69) (q 70) (q 71) (q 72) gd gs, ra_I (q 67) cI 90 e1, ra_I (q 68) cI 9 e2, ra_I (q 69) cI 10 e3, ro_rrnnnin (q 7) 7 (q 33) (q 34) dy wn mo mu ke, ra_I (q 33) cI 9 fb, ra_I (q 34) cI 9 fw]) eu_18 hP hD rfl (fun hP hD => ?_)
    refine lv_iconst (v := 0) hx hb dX11_lies_24 ic_0 ?_
    refine lv_istore_n (lv' := [(1, .int 0), (0, .ref x0)]) hx hb dX11_lies_25 rfl hl (by decide) rfl (fun ls hl => ?_)
    refine lv_iconst (v := 0) hx hb dX11_lies_26 ic_0 ?_
    refine lv_istore_n (lv' := [(2, .int 0), (1, .int 0), (0, .ref x0)]) hx hb dX11_lies_27 rfl hl (by decide) rfl (fun ls hl => ?_)
    have lp_19 : ∀ (n_20 : Nat) (i : Nat) (bt : Int32) (zd : Nat) (zs : Nat) (b1 : Nat → Int32) (b2 : Nat → Int32) (b3 : Nat → Int32) (H : Heap) (locs : List Loc) (ls : Array Slot), 10 - i < n_20 → (i ≤ 10) → (zd ≤ 9) → (zs ≤ 9) → va_P D vwCl [ro_rrrrrrrrrrrrrrrirl x0 11 (q 0) (q 1) (q 2) (q 3) (q 4) (q 5) (q 6) (q 7) (q 8) (q 9) (q 10) (q 11) (q 12) (q 13) (q 14) hc (q 16) dr, ro_rrrrrr (q 10) 9 (q 61) (q 62) (q 63) (q 64) (q 65) (q 66), ra_N (q 61) cI 90 sa2_7, ra_I (q 62) cI 900 ft2_8, ra_I (q 63) cI 90 fa2_9, ra_I (q 64) cI 90 fo2_10, ra_J (q 65) cJ 90 fg2_11, ra_I (q 66) cI 9 fk2_12, ro_rrrrrnniin (q 5) 2 (q 44) (q 45) (q 46) (q 47) (q 48) dh mh uh rh nh, ro_rrrrnn (q 44) 0 (q 49) (q 50) (q 51) (q 52) ch wh, ra_I (q 49) cI 1600 y1, ra_J (q 50) cJ 64 z2_13, ra_J (q 51) cJ 9 z3_14, ra_J (q 52) cJ 10 y4, ra_I (q 47) cI 3 yf, ra_I (q 48) cI 3 yt, ro_rrrrrrrnn (q 11) 1 (q 10) (q 67) (q 68) (q 69) (q 70) (q 71) (q 72) zd zs, ra_I (q 67) cI 90 b1, ra_I (q 68) cI 9 b2, ra_I (q 69) cI 10 b3, ro_rrnnnin (q 7) 7 (q 33) (q 34) dy wn mo mu ke, ra_I (q 33) cI 9 fb, ra_I (q 34) cI 9 fw] H → va_D A [ro_rrrrrrrrrrrrrrrirl x0 11 (q 0) (q 1) (q 2) (q 3) (q 4) (q 5) (q 6) (q 7) (q 8) (q 9) (q 10) (q 11) (q 12) (q 13) (q 14) hc (q 16) dr, ro_rrrrrr (q 10) 9 (q 61) (q 62) (q 63) (q 64) (q 65) (q 66), ra_N (q 61) cI 90 sa2_7, ra_I (q 62) cI 900 ft2_8, ra_I (q 63) cI 90 fa2_9, ra_I (q 64) cI 90 fo2_10, ra_J (q 65) cJ 90 fg2_11, ra_I (q 66) cI 9 fk2_12, ro_rrrrrnniin (q 5) 2 (q 44) (q 45) (q 46) (q 47) (q 48) dh mh uh rh nh, ro_rrrrnn (q 44) 0 (q 49) (q 50) (q 51) (q 52) ch wh, ra_I (q 49) cI 1600 y1, ra_J (q 50) cJ 64 z2_13, ra_J (q 51) cJ 9 z3_14, ra_J (q 52) cJ 10 y4, ra_I (q 47) cI 3 yf, ra_I (q 48) cI 3 yt, ro_rrrrrrrnn (q 11) 1 (q 10) (q 67) (q 68) (q 69) (q 70) (q 71) (q 72) zd zs, ra_I (q 67) cI 90 b1, ra_I (q 68) cI 9 b2, ra_I (q 69) cI 10 b3, ro_rrnnnin (q 7) 7 (q 33) (q 34) dy wn mo mu ke, ra_I (q 33) cI 9 fb, ra_I (q 34) cI 9 fw] → va_S A s.heap H locs → lv_has ls 3 [(2, .int (nI i)), (1, .int bt), (0, .ref x0)] → W p l e { frames := 5, cells := 0, slots := 0, locals := 128 } s m ([.ref x0] : List Value).toArray below meth c H locs 0 0 (MQ below (skI D (skT cI cJ cC cZ cS) (fun (r : Int32) (u : va_W) => ∃ (sa2 : Nat → Nat), ∃ (ft2 : Nat → Int32), ∃ (fa2 : Nat → Int32), ∃ (fo2 : Nat → Int32), ∃ (fg2 : Nat → Int64), ∃ (fk2 : Nat → Int32), ∃ (z2 : Nat → Int64), ∃ (z3 : Nat → Int64), ∃ (g1 : Nat → Int32), ∃ (g2 : Nat → Int32), ∃ (g3 : Nat → Int32), ∃ (gd2 : Nat), ∃ (gs2 : Nat), (∀ j, sa2 j ≤ 9) ∧ (1 ≤ dy → kcTI L sa2 ft2 fa2 fo2 fg2 fk2) ∧ gd2 ≤ 9 ∧ gs2 ≤ 9 ∧ u = [ro_rrrrrrrrrrrrrrrirl x0 11 (q 0) (q 1) (q 2) (q 3) (q 4) (q 5) (q 6) (q 7) (q 8) (q 9) (q 10) (q 11) (q 12) (q 13) (q 14) hc (q 16) dr, ro_rrrrrr (q 10) 9 (q 61) (q 62) (q 63) (q 64) (q 65) (q 66), ra_N (q 61) cI 90 sa2, ra_I (q 62) cI 900 ft2, ra_I (q 63) cI 90 fa2, ra_I (q 64) cI 90 fo2, ra_J (q 65) cJ 90 fg2, ra_I (q 66) cI 9 fk2, ro_rrrrrnniin (q 5) 2 (q 44) (q 45) (q 46) (q 47) (q 48) dh mh uh rh nh, ro_rrrrnn (q 44) 0 (q 49) (q 50) (q 51) (q 52) ch wh, ra_I (q 49) cI 1600 y1, ra_J (q 50) cJ 64 z2, ra_J (q 51) cJ 9 z3, ra_J (q 52) cJ 10 y4, ra_I (q 47) cI 3 yf, ra_I (q 48) cI 3 yt, ro_rrrrrrrnn (q 11) 1 (q 10) (q 67) (q 68) (q 69) (q 70) (q 71) (q 72) gd2 gs2, ra_I (q 67) cI 90 g1, ra_I (q 68) cI 9 g2, ra_I (q 69) cI 10 g3, ro_rrnnnin (q 7) 7 (q 33) (q 34) dy wn mo mu ke, ra_I (q 33) cI 9 fb, ra_I (q 34) cI 9 fw]) A) ([.ref x0] : List Value).toArray s 0 0 A) (F0 m 28 ls []) := by
      intro n_20
      induction n_20 with
      | zero => intro i bt zd zs b1 b2 b3 H locs ls hm; exact absurd hm (Nat.not_lt_zero _)
      | succ n_20 ih_lp_19 =>
        intro i bt zd zs b1 b2 b3 H locs ls hm hi hzd hzs hP hD hS hl
        refine lv_iload_n hx hb dX11_lies_28 rfl (lv_at hl 0 rfl) ?_
        refine lv_bipush (v := 10) hx hb dX11_lies_29 (by decide) ?_
        refine lv_icmp_ge (tgt := 75) hx hb dX11_lies_31 (by decide) (fun c_21 => ?_) (fun c_21 => ?_)
        · have c_21 : 10 ≤ i := (nle 10 i (Nat.le_of_ble_eq_true rfl) (by omega)).mp c_21
          refine lv_iload_n hx hb dX11_lies_75 rfl (lv_at hl 1 rfl) ?_
          exact sk_iret hx hb hr rfl hlocks hK hP hD hS (⟨sa2_7, ft2_8, fa2_9, fo2_10, fg2_11, fk2_12, z2_13, z3_14, b1, b2, b3, zd, zs, hsa2_15, (fun _ => hti2_16), hzd, hzs, rfl⟩) (Nat.le_of_ble_eq_true rfl) (Nat.le_of_ble_eq_true rfl) dX11_lies_76
        · have c_21 : ¬ (10 ≤ i) := fun h => c_21 ((nle 10 i (Nat.le_of_ble_eq_true rfl) (by omega)).mpr h)
          refine lv_aload_n hx hb dX11_lies_34 rfl (lv_at hl 2 rfl) ?_
          refine sk_get (v := .ref (q 11)) (C := RX11) (T := TX11) (N := 18) hx hb hts inlX11 hown hK hP 0 rfl rfl 11 (Nat.le_of_ble_eq_true rfl) w_2_134 rfl dX11_lies_35 ?_
          refine lv_aload_n hx hb dX11_lies_38 rfl (lv_at hl 2 rfl) ?_
          refine sk_get (v := .ref (q 7)) (C := RX11) (T := TX11) (N := 18) hx hb hts inlX11 hown hK hP 0 rfl rfl 7 (Nat.le_of_ble_eq_true rfl) w_2_130 rfl dX11_lies_39 ?_
          refine lv_aload_n hx hb dX11_lies_42 rfl (lv_at hl 2 rfl) ?_
          refine sk_get (v := .ref (q 7)) (C := RX11) (T := TX11) (N := 18) hx hb hts inlX11 hown hK hP 0 rfl rfl 7 (Nat.le_of_ble_eq_true rfl) w_2_130 rfl dX11_lies_43 ?_
          refine sk_get (v := .int mu) (C := RX7) (T := TX7) (N := 7) hx hb hts inlX7 hown hK hP 20 rfl rfl 5 (Nat.le_of_ble_eq_true rfl) w_2_12 rfl dX11_lies_46 ?_
          refine lv_iload_n hx hb dX11_lies_49 rfl (lv_at hl 0 rfl) ?_
          refine sk_Vv (q0 := 0) (n := 3) (rest := []) (wr := fmR om_23_3e0074 _) ⟨hx, hb, hml, hown, hts⟩ hl.1 (c_lay l D cI cJ cC cZ cS q zd zs b1 b2 sa2_7 ft2_8 fa2_9 fo2_10 (q 7) (q 33) (q 34) dy mo (nI wn) mu (nI ke) fb fw i mu hsa2_15 hdy hmo (by omega)) w_4_47 w_4_48 w_4_49 w_1_13 w_4_50 hd_X1_lay_3 ⟨⟨(Nat.le_of_ble_eq_true rfl), (Nat.le_of_ble_eq_true rfl)⟩, (Nat.le_of_ble_eq_true rfl), (Nat.le_of_ble_eq_true rfl)⟩ hK hP hD hS hA [16, 17, 18, 1, 2, 3, 4, 5, 20] (fmF om_23_3e0074 0) rfl (fm_R rfl rfl) (by decide +kernel) (fm_nF om_23_3e0074 0) (by decide +kernel) rfl rfl rfl rfl (Nat.le_of_ble_eq_true rfl) dX11_lies_50 (fun u H locs hw hP hD hS => ?_)
          refine exE hw (fun g1_22 hw1 => exE hw1 (fun g2_23 eu_24 => ?_))
          clear hw hw1
          refine o_mgqE (ux := [ro_rrrrrr (q 10) 9 (q 61) (q 62) (q 63) (q 64) (q 65) (q 66), ra_N (q 61) cI 90 sa2_7, ra_I (q 62) cI 900 ft2_8, ra_I (q 63) cI 90 fa2_9, ra_I (q 64) cI 90 fo2_10, ro_rrrrrrrnn (q 11) 1 (q 10) (q 67) (q 68) (q 69) (q 70) (q 71) (q 72) dy mo, ra_I (q 67) cI 90 g1_22, ra_I (q 68) cI 9 g2_23, ro_rrnnnin (q 7) 7 (q 33) (q 34) dy wn mo mu ke]) (ws' := [ro_rrrrrrrrrrrrrrrirl x0 11 (q 0) (q 1) (q 2) (q 3) (q 4) (q 5) (q 6) (q 7) (q 8) (q 9) (q 10) (q 11) (q 12) (q 13) (q 14) hc (q 16) dr, ro_rrrrrr (q 10) 9 (q 61) (q 62) (q 63) (q 64) (q 65) (q 66), ra_N (q 61) cI 90 sa2_7, ra_I (q 62) cI 900 ft2_8, ra_I (q 63) cI 90 fa2_9, ra_I (q 64) cI 90 fo2_10, ra_J (q 65) cJ 90 fg2_11, ra_I (q 66) cI 9 fk2_12, ro_rrrrrnniin (q 5) 2 (q 44) (q 45) (q 46) (q 47) (q 48) dh mh uh rh nh, ro_rrrrnn (q 44) 0 (q 49) (q 50) (q 51) (q 52) ch wh, ra_I (q 49) cI 1600 y1, ra_J (q 50) cJ 64 z2_13, ra_J (q 51) cJ 9 z3_14, ra_J (q 52) cJ 10 y4, ra_I (q 47) cI 3 yf, ra_I (q 48) cI 3 yt, ro_rrrrrrrnn (q 11) 1 (q 10) (q 67) (q 68) (q 69) (q 70) (q 71) (q 72) dy mo, ra_I (q 67) cI 90 g1_22, ra_I (q 68) cI 9 g2_23, ra_I (q 69) cI 10 b3, ro_rrnnnin (q 7) 7 (q 33) (q 34) dy wn mo mu ke, ra_I (q 33) cI 9 fb, ra_I (q 34) cI 9 fw]) eu_24 [3, 4, 5, 6, 7, 0, 1, 2, 8] (by decide +kernel) rfl hP hD rfl (fun hP hD => ?_)
          refine lv_aload_n hx hb dX11_lies_53 rfl (lv_at hl 2 rfl) ?_
          refine sk_get (v := .ref (q 11)) (C := RX11) (T := TX11) (N := 18) hx hb hts inlX11 hown hK hP 0 rfl rfl 11 (Nat.le_of_ble_eq_true rfl) w_2_134 rfl dX11_lies_54 ?_
          refine sk_Vi (q0 := 0) (n := 0) (rest := []) (wr := fmR om_23_78 _) ⟨hx, hb, hml, hown, hts⟩ hl.1 (c_settle l D cI cJ cC cZ cS q dy mo g1_22 g2_23 b3 hdy hmo) w_4_53 w_4_54 w_4_55 w_1_13 w_4_56 hd_X1_settle_0 ⟨⟨(Nat.le_of_ble_eq_true rfl), (Nat.le_of_ble_eq_true rfl)⟩, (Nat.le_of_ble_eq_true rfl), (Nat.le_of_ble_eq_true rfl)⟩ hK hP hD hS hA (fmT om_23_78 0) (fmF om_23_78 0) (fm_C1 rfl rfl) (fm_R rfl rfl) (fm_nT om_23_78 0) (fm_nF om_23_78 0) (fm_di om_23_78 0) rfl rfl rfl rfl (Nat.le_of_ble_eq_true rfl) dX11_lies_57 (fun r_27 u H locs hw hP hD hS => ?_)
          refine exE hw (fun b_25 hw1 => exE hw1 (fun g3_26 hw2 => anE hw2 (fun hb1_28 hw3 => anE hw3 (fun er_30 eu_29 => ?_))))
          clear hw hw1 hw2 hw3
          subst er_30
          refine o_mgE (ws' := [ro_rrrrrrrrrrrrrrrirl x0 11 (q 0) (q 1) (q 2) (q 3) (q 4) (q 5) (q 6) (q 7) (q 8) (q 9) (q 10) (q 11) (q 12) (q 13) (q 14) hc (q 16) dr, ro_rrrrrr (q 10) 9 (q 61) (q 62) (q 63) (q 64) (q 65) (q 66), ra_N (q 61) cI 90 sa2_7, ra_I (q 62) cI 900 ft2_8, ra_I (q 63) cI 90 fa2_9, ra_I (q 64) cI 90 fo2_10, ra_J (q 65) cJ 90 fg2_11, ra_I (q 66) cI 9 fk2_12, ro_rrrrrnniin (q 5) 2 (q 44) (q 45) (q 46) (q 47) (q 48) dh mh uh rh nh, ro_rrrrnn (q 44) 0 (q 49) (q 50) (q 51) (q 52) ch wh, ra_I (q 49) cI 1600 y1, ra_J (q 50) cJ 64 z2_13, ra_J (q 51) cJ 9 z3_14, ra_J (q 52) cJ 10 y4, ra_I (q 47) cI 3 yf, ra_I (q 48) cI 3 yt, ro_rrrrrrrnn (q 11) 1 (q 10) (q 67) (q 68) (q 69) (q 70) (q 71) (q 72) dy mo, ra_I (q 67) cI 90 g1_22, ra_I (q 68) cI 9 g2_23, ra_I (q 69) cI 10 g3_26, ro_rrnnnin (q 7) 7 (q 33) (q 34) dy wn mo mu ke, ra_I (q 33) cI 9 fb, ra_I (q 34) cI 9 fw]) eu_29 hP hD rfl (fun hP hD => ?_)
          refine lv_if_eq (tgt := 69) hx hb dX11_lies_60 (by decide) (fun c_31 => ?_) (fun c_31 => ?_)
          · have c_31 : b_25 = 0 := (neq b_25 0 (by omega) (Nat.le_of_ble_eq_true rfl)).mp c_31
            refine lv_iinc (v := nI (i + 1)) (lv' := [(2, .int (nI (i + 1))), (1, .int bt), (0, .ref x0)]) hx hb dX11_lies_69 hl (k := 0) rfl (ninc i 1 (by decide)) (by decide) rfl (fun ls hl => ?_)
            refine lv_goto (tgt := 28) hx hb dX11_lies_72 (by decide) ?_
            exact ih_lp_19 (i + 1) bt dy mo g1_22 g2_23 g3_26 _ _ _ (by omega) (by omega) hdy hmo hP hD hS (lv_sub hl [0, 1, 2] rfl)
          · have c_31 : ¬ (b_25 = 0) := fun h => c_31 ((neq b_25 0 (by omega) (Nat.le_of_ble_eq_true rfl)).mpr h)
            refine lv_iload_n hx hb dX11_lies_63 rfl (lv_at hl 1 rfl) ?_
            refine lv_iconst (v := 1) hx hb dX11_lies_64 ic_1 ?_
            refine lv_iload_n hx hb dX11_lies_65 rfl (lv_at hl 0 rfl) ?_
            refine lv_ishl hx hb dX11_lies_66 ?_
            refine lv_topi (fun v_32 ev_32 => ?_)
            refine lv_ior hx hb dX11_lies_67 ?_
            refine lv_topi (fun v_33 ev_33 => ?_)
            refine lv_istore_n (lv' := [(1, .int v_33), (2, .int (nI i)), (0, .ref x0)]) hx hb dX11_lies_68 rfl hl (by decide) rfl (fun ls hl => ?_)
            refine lv_iinc (v := nI (i + 1)) (lv' := [(2, .int (nI (i + 1))), (1, .int v_33), (0, .ref x0)]) hx hb dX11_lies_69 hl (k := 1) rfl (ninc i 1 (by decide)) (by decide) rfl (fun ls hl => ?_)
            refine lv_goto (tgt := 28) hx hb dX11_lies_72 (by decide) ?_
            exact ih_lp_19 (i + 1) v_33 dy mo g1_22 g2_23 g3_26 _ _ _ (by omega) (by omega) hdy hmo hP hD hS (lv_sub hl [0, 1, 2] rfl)
    exact lp_19 (10 - 0 + 1) 0 0 gd gs e1 e2 e3 _ _ _ (Nat.lt_succ_self _) (by omega) hgd hgs hP hD hS (lv_sub hl [0, 1, 2] rfl)
  · have c_6 : b_1 = 0 := (neq b_1 0 (by omega) (Nat.le_of_ble_eq_true rfl)).mp c_6
    refine lv_iconst (v := (-1)) hx hb dX11_lies_7 (by decide) ?_
    exact sk_iret hx hb hr rfl hlocks hK hP hD hS (⟨sa, ft, fa, fo, fg, fk, y2, y3, e1, e2, e3, gd, gs, hsa, htq, hgd, hgs, rfl⟩) (Nat.le_of_ble_eq_true rfl) (Nat.le_of_ble_eq_true rfl) dX11_lies_8
