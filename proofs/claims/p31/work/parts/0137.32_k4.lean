theorem kz_0 {n : Nat} (h : lg_cmp (Int64.ofNat n) 0 = 0) (hn : n < 9223372036854775808) : n = 0 := by
  have h1 := (lg_cmp_eq _ _).mp h
  have h2 := kofn_int hn
  rw [h1] at h2
  have e0 : (0 : Int64).toInt = 0 := rfl
  omega
theorem kz_1 {n : Nat} (h : ¬ lg_cmp (Int64.ofNat n) 0 = 0) : 0 < n := Nat.pos_of_ne_zero (fun q => h (by rw [q]; rfl))
theorem dg_X11_passByChance_0_0 : bqL cX11_passByChance 0 [(0, [3]), (1, [60]), (2, [27]), (3, [42]), (4, [180, 0, 59]), (7, [180, 0, 144]), (10, [162, 0, 73]), (83, [42]), (84, [42]), (85, [180, 0, 59]), (88, [182, 0, 208]), (91, [87]), (92, [42]), (93, [180, 0, 85]), (96, [182, 0, 212]), (99, [64]), (100, [31]), (101, [9]), (102, [148]), (103, [154, 0, 5]), (108, [42]), (109, [180, 0, 85]), (112, [42]), (113, [31]), (114, [182, 1, 91]), (117, [42]), (118, [180, 0, 89]), (121, [182, 1, 70]), (124, [42]), (125, [31]), (126, [182, 1, 32]), (129, [4]), (130, [172]), (106, [3]), (107, [172]), (13, [42]), (14, [20, 1, 89]), (17, [182, 1, 91]), (20, [42]), (21, [180, 0, 49])] = true := by decide +kernel
theorem dX11_passByChance_0 : decode cX11_passByChance 0 = .ok (.iconst 0, 1) := q_iconst0 (bat_get dg_X11_passByChance_0_0 0 rfl rfl)
theorem dX11_passByChance_1 : decode cX11_passByChance 1 = .ok (.istore_n 1, 1) := q_istore_n1 (bat_get dg_X11_passByChance_0_0 1 rfl rfl)
theorem dX11_passByChance_2 : decode cX11_passByChance 2 = .ok (.iload_n 1, 1) := q_iload_n1 (bat_get dg_X11_passByChance_0_0 2 rfl rfl)
theorem dX11_passByChance_3 : decode cX11_passByChance 3 = .ok (.aload_n 0, 1) := q_aload_n0 (bat_get dg_X11_passByChance_0_0 3 rfl rfl)
theorem dX11_passByChance_4 : decode cX11_passByChance 4 = .ok (.getfield 59, 3) := q_getfield (bat_get dg_X11_passByChance_0_0 4 rfl rfl) rfl
theorem dX11_passByChance_7 : decode cX11_passByChance 7 = .ok (.getfield 144, 3) := q_getfield (bat_get dg_X11_passByChance_0_0 5 rfl rfl) rfl
theorem dX11_passByChance_10 : decode cX11_passByChance 10 = .ok (.if_icmp .ge 73, 3) := q_if_icmp_ge (bat_get dg_X11_passByChance_0_0 6 rfl rfl) rfl
theorem dX11_passByChance_83 : decode cX11_passByChance 83 = .ok (.aload_n 0, 1) := q_aload_n0 (bat_get dg_X11_passByChance_0_0 7 rfl rfl)
theorem dX11_passByChance_84 : decode cX11_passByChance 84 = .ok (.aload_n 0, 1) := q_aload_n0 (bat_get dg_X11_passByChance_0_0 8 rfl rfl)
theorem dX11_passByChance_85 : decode cX11_passByChance 85 = .ok (.getfield 59, 3) := q_getfield (bat_get dg_X11_passByChance_0_0 9 rfl rfl) rfl
theorem dX11_passByChance_88 : decode cX11_passByChance 88 = .ok (.invokevirtual 208, 3) := q_invokevirtual (bat_get dg_X11_passByChance_0_0 10 rfl rfl) rfl
theorem dX11_passByChance_91 : decode cX11_passByChance 91 = .ok (.pop, 1) := q_pop (bat_get dg_X11_passByChance_0_0 11 rfl rfl)
theorem dX11_passByChance_92 : decode cX11_passByChance 92 = .ok (.aload_n 0, 1) := q_aload_n0 (bat_get dg_X11_passByChance_0_0 12 rfl rfl)
theorem dX11_passByChance_93 : decode cX11_passByChance 93 = .ok (.getfield 85, 3) := q_getfield (bat_get dg_X11_passByChance_0_0 13 rfl rfl) rfl
theorem dX11_passByChance_96 : decode cX11_passByChance 96 = .ok (.invokevirtual 212, 3) := q_invokevirtual (bat_get dg_X11_passByChance_0_0 14 rfl rfl) rfl
theorem dX11_passByChance_99 : decode cX11_passByChance 99 = .ok (.lstore_n 1, 1) := q_lstore_n1 (bat_get dg_X11_passByChance_0_0 15 rfl rfl)
theorem dX11_passByChance_100 : decode cX11_passByChance 100 = .ok (.lload_n 1, 1) := q_lload_n1 (bat_get dg_X11_passByChance_0_0 16 rfl rfl)
theorem dX11_passByChance_101 : decode cX11_passByChance 101 = .ok (.lconst 0, 1) := q_lconst0 (bat_get dg_X11_passByChance_0_0 17 rfl rfl)
theorem dX11_passByChance_102 : decode cX11_passByChance 102 = .ok (.lcmp, 1) := q_lcmp (bat_get dg_X11_passByChance_0_0 18 rfl rfl)
theorem dX11_passByChance_103 : decode cX11_passByChance 103 = .ok (.ifCond .ne 5, 3) := q_ifCond_ne (bat_get dg_X11_passByChance_0_0 19 rfl rfl) rfl
theorem dX11_passByChance_108 : decode cX11_passByChance 108 = .ok (.aload_n 0, 1) := q_aload_n0 (bat_get dg_X11_passByChance_0_0 20 rfl rfl)
theorem dX11_passByChance_109 : decode cX11_passByChance 109 = .ok (.getfield 85, 3) := q_getfield (bat_get dg_X11_passByChance_0_0 21 rfl rfl) rfl
theorem dX11_passByChance_112 : decode cX11_passByChance 112 = .ok (.aload_n 0, 1) := q_aload_n0 (bat_get dg_X11_passByChance_0_0 22 rfl rfl)
theorem dX11_passByChance_113 : decode cX11_passByChance 113 = .ok (.lload_n 1, 1) := q_lload_n1 (bat_get dg_X11_passByChance_0_0 23 rfl rfl)
theorem dX11_passByChance_114 : decode cX11_passByChance 114 = .ok (.invokevirtual 347, 3) := q_invokevirtual (bat_get dg_X11_passByChance_0_0 24 rfl rfl) rfl
theorem dX11_passByChance_117 : decode cX11_passByChance 117 = .ok (.aload_n 0, 1) := q_aload_n0 (bat_get dg_X11_passByChance_0_0 25 rfl rfl)
theorem dX11_passByChance_118 : decode cX11_passByChance 118 = .ok (.getfield 89, 3) := q_getfield (bat_get dg_X11_passByChance_0_0 26 rfl rfl) rfl
theorem dX11_passByChance_121 : decode cX11_passByChance 121 = .ok (.invokevirtual 326, 3) := q_invokevirtual (bat_get dg_X11_passByChance_0_0 27 rfl rfl) rfl
theorem dX11_passByChance_124 : decode cX11_passByChance 124 = .ok (.aload_n 0, 1) := q_aload_n0 (bat_get dg_X11_passByChance_0_0 28 rfl rfl)
theorem dX11_passByChance_125 : decode cX11_passByChance 125 = .ok (.lload_n 1, 1) := q_lload_n1 (bat_get dg_X11_passByChance_0_0 29 rfl rfl)
theorem dX11_passByChance_126 : decode cX11_passByChance 126 = .ok (.invokevirtual 288, 3) := q_invokevirtual (bat_get dg_X11_passByChance_0_0 30 rfl rfl) rfl
theorem dX11_passByChance_129 : decode cX11_passByChance 129 = .ok (.iconst 1, 1) := q_iconst1 (bat_get dg_X11_passByChance_0_0 31 rfl rfl)
theorem dX11_passByChance_130 : decode cX11_passByChance 130 = .ok (.ireturn, 1) := q_ireturn (bat_get dg_X11_passByChance_0_0 32 rfl rfl)
theorem dX11_passByChance_106 : decode cX11_passByChance 106 = .ok (.iconst 0, 1) := q_iconst0 (bat_get dg_X11_passByChance_0_0 33 rfl rfl)
theorem dX11_passByChance_107 : decode cX11_passByChance 107 = .ok (.ireturn, 1) := q_ireturn (bat_get dg_X11_passByChance_0_0 34 rfl rfl)
theorem dX11_passByChance_13 : decode cX11_passByChance 13 = .ok (.aload_n 0, 1) := q_aload_n0 (bat_get dg_X11_passByChance_0_0 35 rfl rfl)
theorem dX11_passByChance_14 : decode cX11_passByChance 14 = .ok (.ldc2_w 345, 3) := q_ldc2_w (bat_get dg_X11_passByChance_0_0 36 rfl rfl) rfl
theorem dX11_passByChance_17 : decode cX11_passByChance 17 = .ok (.invokevirtual 347, 3) := q_invokevirtual (bat_get dg_X11_passByChance_0_0 37 rfl rfl) rfl
theorem dX11_passByChance_20 : decode cX11_passByChance 20 = .ok (.aload_n 0, 1) := q_aload_n0 (bat_get dg_X11_passByChance_0_0 38 rfl rfl)
theorem dX11_passByChance_21 : decode cX11_passByChance 21 = .ok (.getfield 49, 3) := q_getfield (bat_get dg_X11_passByChance_0_0 39 rfl rfl) rfl
theorem dg_X11_passByChance_24_24 : bqL cX11_passByChance 24 [(0, [180, 1, 95]), (3, [133]), (4, [148]), (5, [156, 0, 31]), (36, [42]), (37, [180, 0, 59]), (40, [180, 0, 173]), (43, [27]), (44, [42]), (45, [20, 1, 103]), (48, [182, 1, 91]), (51, [136]), (52, [79]), (53, [132, 1, 1]), (56, [167, 255, 178]), (8, [42]), (9, [180, 0, 59]), (12, [180, 0, 176]), (15, [27]), (16, [42]), (17, [180, 0, 59]), (20, [180, 0, 176]), (23, [27]), (24, [46]), (25, [4]), (26, [96]), (27, [16, 9]), (29, [184, 1, 98]), (32, [79]), (33, [167, 0, 20])] = true := by decide +kernel
theorem dX11_passByChance_24 : decode cX11_passByChance 24 = .ok (.getfield 351, 3) := q_getfield (bat_get dg_X11_passByChance_24_24 0 rfl rfl) rfl
theorem dX11_passByChance_27 : decode cX11_passByChance 27 = .ok (.i2l, 1) := q_i2l (bat_get dg_X11_passByChance_24_24 1 rfl rfl)
theorem dX11_passByChance_28 : decode cX11_passByChance 28 = .ok (.lcmp, 1) := q_lcmp (bat_get dg_X11_passByChance_24_24 2 rfl rfl)
theorem dX11_passByChance_29 : decode cX11_passByChance 29 = .ok (.ifCond .ge 31, 3) := q_ifCond_ge (bat_get dg_X11_passByChance_24_24 3 rfl rfl) rfl
theorem dX11_passByChance_60 : decode cX11_passByChance 60 = .ok (.aload_n 0, 1) := q_aload_n0 (bat_get dg_X11_passByChance_24_24 4 rfl rfl)
theorem dX11_passByChance_61 : decode cX11_passByChance 61 = .ok (.getfield 59, 3) := q_getfield (bat_get dg_X11_passByChance_24_24 5 rfl rfl) rfl
theorem dX11_passByChance_64 : decode cX11_passByChance 64 = .ok (.getfield 173, 3) := q_getfield (bat_get dg_X11_passByChance_24_24 6 rfl rfl) rfl
theorem dX11_passByChance_67 : decode cX11_passByChance 67 = .ok (.iload_n 1, 1) := q_iload_n1 (bat_get dg_X11_passByChance_24_24 7 rfl rfl)
theorem dX11_passByChance_68 : decode cX11_passByChance 68 = .ok (.aload_n 0, 1) := q_aload_n0 (bat_get dg_X11_passByChance_24_24 8 rfl rfl)
theorem dX11_passByChance_69 : decode cX11_passByChance 69 = .ok (.ldc2_w 359, 3) := q_ldc2_w (bat_get dg_X11_passByChance_24_24 9 rfl rfl) rfl
theorem dX11_passByChance_72 : decode cX11_passByChance 72 = .ok (.invokevirtual 347, 3) := q_invokevirtual (bat_get dg_X11_passByChance_24_24 10 rfl rfl) rfl
theorem dX11_passByChance_75 : decode cX11_passByChance 75 = .ok (.l2i, 1) := q_l2i (bat_get dg_X11_passByChance_24_24 11 rfl rfl)
theorem dX11_passByChance_76 : decode cX11_passByChance 76 = .ok (.iastore, 1) := q_iastore (bat_get dg_X11_passByChance_24_24 12 rfl rfl)
theorem dX11_passByChance_77 : decode cX11_passByChance 77 = .ok (.iinc 1 1, 3) := q_iinc (bat_get dg_X11_passByChance_24_24 13 rfl rfl) rfl
theorem dX11_passByChance_80 : decode cX11_passByChance 80 = .ok (.goto (-78), 3) := q_goto (bat_get dg_X11_passByChance_24_24 14 rfl rfl) rfl
theorem dX11_passByChance_32 : decode cX11_passByChance 32 = .ok (.aload_n 0, 1) := q_aload_n0 (bat_get dg_X11_passByChance_24_24 15 rfl rfl)
theorem dX11_passByChance_33 : decode cX11_passByChance 33 = .ok (.getfield 59, 3) := q_getfield (bat_get dg_X11_passByChance_24_24 16 rfl rfl) rfl
theorem dX11_passByChance_36 : decode cX11_passByChance 36 = .ok (.getfield 176, 3) := q_getfield (bat_get dg_X11_passByChance_24_24 17 rfl rfl) rfl
theorem dX11_passByChance_39 : decode cX11_passByChance 39 = .ok (.iload_n 1, 1) := q_iload_n1 (bat_get dg_X11_passByChance_24_24 18 rfl rfl)
theorem dX11_passByChance_40 : decode cX11_passByChance 40 = .ok (.aload_n 0, 1) := q_aload_n0 (bat_get dg_X11_passByChance_24_24 19 rfl rfl)
theorem dX11_passByChance_41 : decode cX11_passByChance 41 = .ok (.getfield 59, 3) := q_getfield (bat_get dg_X11_passByChance_24_24 20 rfl rfl) rfl
theorem dX11_passByChance_44 : decode cX11_passByChance 44 = .ok (.getfield 176, 3) := q_getfield (bat_get dg_X11_passByChance_24_24 21 rfl rfl) rfl
theorem dX11_passByChance_47 : decode cX11_passByChance 47 = .ok (.iload_n 1, 1) := q_iload_n1 (bat_get dg_X11_passByChance_24_24 22 rfl rfl)
theorem dX11_passByChance_48 : decode cX11_passByChance 48 = .ok (.iaload, 1) := q_iaload (bat_get dg_X11_passByChance_24_24 23 rfl rfl)
theorem dX11_passByChance_49 : decode cX11_passByChance 49 = .ok (.iconst 1, 1) := q_iconst1 (bat_get dg_X11_passByChance_24_24 24 rfl rfl)
theorem dX11_passByChance_50 : decode cX11_passByChance 50 = .ok (.iadd, 1) := q_iadd (bat_get dg_X11_passByChance_24_24 25 rfl rfl)
theorem dX11_passByChance_51 : decode cX11_passByChance 51 = .ok (.bipush 9, 2) := q_bipush (bat_get dg_X11_passByChance_24_24 26 rfl rfl) rfl
theorem dX11_passByChance_53 : decode cX11_passByChance 53 = .ok (.invokestatic 354, 3) := q_invokestatic (bat_get dg_X11_passByChance_24_24 27 rfl rfl) rfl
theorem dX11_passByChance_56 : decode cX11_passByChance 56 = .ok (.iastore, 1) := q_iastore (bat_get dg_X11_passByChance_24_24 28 rfl rfl)
theorem dX11_passByChance_57 : decode cX11_passByChance 57 = .ok (.goto 20, 3) := q_goto (bat_get dg_X11_passByChance_24_24 29 rfl rfl) rfl
theorem w_4_43 : (Cond.methodLink RX11 208 yX11_lookAt) ∈ wsL_law := sk_mem (ck_4 _ (List.mem_of_getElem? (i := 43) rfl)) rfl
theorem w_4_45 : (Cond.instanceMethod yX11_lookAt) ∈ wsL_law := sk_mem (ck_4 _ (List.mem_of_getElem? (i := 45) rfl)) rfl
theorem w_0_19 : (Cond.selects RX11 yX11_lookAt yX11_lookAt) ∈ wsL_law := sk_mem (ck_0 _ (List.mem_of_getElem? (i := 19) rfl)) rfl
theorem w_4_61 : (Cond.methodLink RX11 212 yX1_countWays) ∈ wsL_law := sk_mem (ck_4 _ (List.mem_of_getElem? (i := 61) rfl)) rfl
theorem w_4_62 : (Cond.instanceMethod yX1_countWays) ∈ wsL_law := sk_mem (ck_4 _ (List.mem_of_getElem? (i := 62) rfl)) rfl
theorem w_4_63 : (Cond.selects RX1 yX1_countWays yX1_countWays) ∈ wsL_law := sk_mem (ck_4 _ (List.mem_of_getElem? (i := 63) rfl)) rfl
theorem w_5_37 : (Cond.methodLink RX11 347 yX11_draw) ∈ wsL_law := sk_mem (ck_5 _ (List.mem_of_getElem? (i := 37) rfl)) rfl
theorem w_5_39 : (Cond.instanceMethod yX11_draw) ∈ wsL_law := sk_mem (ck_5 _ (List.mem_of_getElem? (i := 39) rfl)) rfl
theorem w_0_33 : (Cond.selects RX11 yX11_draw yX11_draw) ∈ wsL_law := sk_mem (ck_0 _ (List.mem_of_getElem? (i := 33) rfl)) rfl
theorem w_4_73 : (Cond.methodLink RX11 326 yX1_takeNumbered) ∈ wsL_law := sk_mem (ck_4 _ (List.mem_of_getElem? (i := 73) rfl)) rfl
theorem w_4_74 : (Cond.instanceMethod yX1_takeNumbered) ∈ wsL_law := sk_mem (ck_4 _ (List.mem_of_getElem? (i := 74) rfl)) rfl
theorem w_4_75 : (Cond.selects RX1 yX1_takeNumbered yX1_takeNumbered) ∈ wsL_law := sk_mem (ck_4 _ (List.mem_of_getElem? (i := 75) rfl)) rfl
theorem w_5_20 : (Cond.methodLink RX11 288 yX11_pass) ∈ wsL_law := sk_mem (ck_5 _ (List.mem_of_getElem? (i := 20) rfl)) rfl
theorem w_5_22 : (Cond.instanceMethod yX11_pass) ∈ wsL_law := sk_mem (ck_5 _ (List.mem_of_getElem? (i := 22) rfl)) rfl
theorem w_0_31 : (Cond.selects RX11 yX11_pass yX11_pass) ∈ wsL_law := sk_mem (ck_0 _ (List.mem_of_getElem? (i := 31) rfl)) rfl
theorem w_5_36 : (Cond.constantLong RX11 345 (100)) ∈ wsL_law := sk_mem (ck_5 _ (List.mem_of_getElem? (i := 36) rfl)) rfl
theorem w_1_199 : (Cond.fieldLink RX11 351 "SameKeeper$Lock" "rain" "I") ∈ wsL_law := sk_mem (ck_1 _ (List.mem_of_getElem? (i := 199) rfl)) rfl
theorem w_1_232 : (Cond.fieldLink RX11 173 "SameKeeper$State" "barge" "[I") ∈ wsL_law := sk_mem (ck_1 _ (List.mem_of_getElem? (i := 232) rfl)) rfl
theorem w_5_46 : (Cond.constantLong RX11 359 (10)) ∈ wsL_law := sk_mem (ck_5 _ (List.mem_of_getElem? (i := 46) rfl)) rfl
theorem w_1_236 : (Cond.fieldLink RX11 176 "SameKeeper$State" "wet" "[I") ∈ wsL_law := sk_mem (ck_1 _ (List.mem_of_getElem? (i := 236) rfl)) rfl
theorem w_5_45 : (Cond.methodLink RX11 354 Lib.Math.min.name) ∈ wsL_law := sk_mem (ck_5 _ (List.mem_of_getElem? (i := 45) rfl)) rfl
theorem w_3_184 : (Cond.static Lib.Math.min.name) ∈ wsL_law := sk_mem (ck_3 _ (List.mem_of_getElem? (i := 184) rfl)) rfl
theorem w_3_185 : (Cond.code Lib.Math.min.name Lib.Math.min.code 2 (some .int)) ∈ wsL_law := sk_mem (ck_3 _ (List.mem_of_getElem? (i := 185) rfl)) rfl
theorem w_5_35 : (Cond.code yX11_passByChance cX11_passByChance 3 (some .boolean)) ∈ wsL_law := sk_mem (ck_5 _ (List.mem_of_getElem? (i := 35) rfl)) rfl
def om_29_1fffffc0 : List Bool := true :: true :: true :: true :: true :: true :: true :: true :: true :: true :: true :: true :: true :: true :: true :: true :: true :: true :: true :: true :: true :: true :: true :: false :: false :: false :: false :: false :: false :: []
def om_29_1e20 : List Bool := false :: false :: false :: false :: false :: false :: false :: false :: false :: false :: false :: false :: false :: false :: false :: false :: true :: true :: true :: true :: false :: false :: false :: true :: false :: false :: false :: false :: false :: []
def om_29_10000000 : List Bool := true :: false :: false :: false :: false :: false :: false :: false :: false :: false :: false :: false :: false :: false :: false :: false :: false :: false :: false :: false :: false :: false :: false :: false :: false :: false :: false :: false :: false :: []
def om_29_1e30 : List Bool := false :: false :: false :: false :: false :: false :: false :: false :: false :: false :: false :: false :: false :: false :: false :: false :: true :: true :: true :: true :: false :: false :: false :: true :: true :: false :: false :: false :: false :: []
def om_29_1000011f : List Bool := true :: false :: false :: false :: false :: false :: false :: false :: false :: false :: false :: false :: false :: false :: false :: false :: false :: false :: false :: false :: true :: false :: false :: false :: true :: true :: true :: true :: true :: []
