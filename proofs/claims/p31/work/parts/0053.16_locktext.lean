theorem dg_X3_readOpening_0_0 : bqL cX3_readOpening 0 [(0, [42]), (1, [180, 0, 9]), (4, [17, 1, 0]), (7, [182, 0, 58]), (10, [43]), (11, [42]), (12, [180, 0, 9]), (15, [5]), (16, [16, 9]), (18, [182, 0, 72]), (21, [181, 0, 76]), (24, [42]), (25, [180, 0, 9]), (28, [17, 1, 1]), (31, [182, 0, 58]), (34, [43]), (35, [42]), (36, [180, 0, 9]), (39, [3]), (40, [16, 9]), (42, [182, 0, 72]), (45, [181, 0, 79]), (48, [42]), (49, [180, 0, 9]), (52, [16, 59]), (54, [182, 0, 58]), (57, [43]), (58, [4]), (59, [181, 0, 41]), (62, [177])] = true := by decide +kernel
theorem dX3_readOpening_0 : decode cX3_readOpening 0 = .ok (.aload_n 0, 1) := q_aload_n0 (bat_get dg_X3_readOpening_0_0 0 rfl rfl)
theorem dX3_readOpening_1 : decode cX3_readOpening 1 = .ok (.getfield 9, 3) := q_getfield (bat_get dg_X3_readOpening_0_0 1 rfl rfl) rfl
theorem dX3_readOpening_4 : decode cX3_readOpening 4 = .ok (.sipush 256, 3) := q_sipush (bat_get dg_X3_readOpening_0_0 2 rfl rfl) rfl
theorem dX3_readOpening_7 : decode cX3_readOpening 7 = .ok (.invokevirtual 58, 3) := q_invokevirtual (bat_get dg_X3_readOpening_0_0 3 rfl rfl) rfl
theorem dX3_readOpening_10 : decode cX3_readOpening 10 = .ok (.aload_n 1, 1) := q_aload_n1 (bat_get dg_X3_readOpening_0_0 4 rfl rfl)
theorem dX3_readOpening_11 : decode cX3_readOpening 11 = .ok (.aload_n 0, 1) := q_aload_n0 (bat_get dg_X3_readOpening_0_0 5 rfl rfl)
theorem dX3_readOpening_12 : decode cX3_readOpening 12 = .ok (.getfield 9, 3) := q_getfield (bat_get dg_X3_readOpening_0_0 6 rfl rfl) rfl
theorem dX3_readOpening_15 : decode cX3_readOpening 15 = .ok (.iconst 2, 1) := q_iconst2 (bat_get dg_X3_readOpening_0_0 7 rfl rfl)
theorem dX3_readOpening_16 : decode cX3_readOpening 16 = .ok (.bipush 9, 2) := q_bipush (bat_get dg_X3_readOpening_0_0 8 rfl rfl) rfl
theorem dX3_readOpening_18 : decode cX3_readOpening 18 = .ok (.invokevirtual 72, 3) := q_invokevirtual (bat_get dg_X3_readOpening_0_0 9 rfl rfl) rfl
theorem dX3_readOpening_21 : decode cX3_readOpening 21 = .ok (.putfield 76, 3) := q_putfield (bat_get dg_X3_readOpening_0_0 10 rfl rfl) rfl
theorem dX3_readOpening_24 : decode cX3_readOpening 24 = .ok (.aload_n 0, 1) := q_aload_n0 (bat_get dg_X3_readOpening_0_0 11 rfl rfl)
theorem dX3_readOpening_25 : decode cX3_readOpening 25 = .ok (.getfield 9, 3) := q_getfield (bat_get dg_X3_readOpening_0_0 12 rfl rfl) rfl
theorem dX3_readOpening_28 : decode cX3_readOpening 28 = .ok (.sipush 257, 3) := q_sipush (bat_get dg_X3_readOpening_0_0 13 rfl rfl) rfl
theorem dX3_readOpening_31 : decode cX3_readOpening 31 = .ok (.invokevirtual 58, 3) := q_invokevirtual (bat_get dg_X3_readOpening_0_0 14 rfl rfl) rfl
theorem dX3_readOpening_34 : decode cX3_readOpening 34 = .ok (.aload_n 1, 1) := q_aload_n1 (bat_get dg_X3_readOpening_0_0 15 rfl rfl)
theorem dX3_readOpening_35 : decode cX3_readOpening 35 = .ok (.aload_n 0, 1) := q_aload_n0 (bat_get dg_X3_readOpening_0_0 16 rfl rfl)
theorem dX3_readOpening_36 : decode cX3_readOpening 36 = .ok (.getfield 9, 3) := q_getfield (bat_get dg_X3_readOpening_0_0 17 rfl rfl) rfl
theorem dX3_readOpening_39 : decode cX3_readOpening 39 = .ok (.iconst 0, 1) := q_iconst0 (bat_get dg_X3_readOpening_0_0 18 rfl rfl)
theorem dX3_readOpening_40 : decode cX3_readOpening 40 = .ok (.bipush 9, 2) := q_bipush (bat_get dg_X3_readOpening_0_0 19 rfl rfl) rfl
theorem dX3_readOpening_42 : decode cX3_readOpening 42 = .ok (.invokevirtual 72, 3) := q_invokevirtual (bat_get dg_X3_readOpening_0_0 20 rfl rfl) rfl
theorem dX3_readOpening_45 : decode cX3_readOpening 45 = .ok (.putfield 79, 3) := q_putfield (bat_get dg_X3_readOpening_0_0 21 rfl rfl) rfl
theorem dX3_readOpening_48 : decode cX3_readOpening 48 = .ok (.aload_n 0, 1) := q_aload_n0 (bat_get dg_X3_readOpening_0_0 22 rfl rfl)
theorem dX3_readOpening_49 : decode cX3_readOpening 49 = .ok (.getfield 9, 3) := q_getfield (bat_get dg_X3_readOpening_0_0 23 rfl rfl) rfl
theorem dX3_readOpening_52 : decode cX3_readOpening 52 = .ok (.bipush 59, 2) := q_bipush (bat_get dg_X3_readOpening_0_0 24 rfl rfl) rfl
theorem dX3_readOpening_54 : decode cX3_readOpening 54 = .ok (.invokevirtual 58, 3) := q_invokevirtual (bat_get dg_X3_readOpening_0_0 25 rfl rfl) rfl
theorem dX3_readOpening_57 : decode cX3_readOpening 57 = .ok (.aload_n 1, 1) := q_aload_n1 (bat_get dg_X3_readOpening_0_0 26 rfl rfl)
theorem dX3_readOpening_58 : decode cX3_readOpening 58 = .ok (.iconst 1, 1) := q_iconst1 (bat_get dg_X3_readOpening_0_0 27 rfl rfl)
theorem dX3_readOpening_59 : decode cX3_readOpening 59 = .ok (.putfield 41, 3) := q_putfield (bat_get dg_X3_readOpening_0_0 28 rfl rfl) rfl
theorem dX3_readOpening_62 : decode cX3_readOpening 62 = .ok (.return_, 1) := q_return_ (bat_get dg_X3_readOpening_0_0 29 rfl rfl)
theorem w_1_107 : (Cond.fieldLink RX3 9 "SameKeeper$LockText" "reader" "LSameKeeper$Reader;") ∈ wsL_law := sk_mem (ck_1 _ (List.mem_of_getElem? (i := 107) rfl)) rfl
theorem w_3_50 : (Cond.methodLink RX3 58 yX6_needs) ∈ wsL_law := sk_mem (ck_3 _ (List.mem_of_getElem? (i := 50) rfl)) rfl
theorem w_3_62 : (Cond.methodLink RX3 72 yX6_takeNumber) ∈ wsL_law := sk_mem (ck_3 _ (List.mem_of_getElem? (i := 62) rfl)) rfl
theorem w_1_190 : (Cond.fieldLink RX3 76 "SameKeeper$Lock" "days" "I") ∈ wsL_law := sk_mem (ck_1 _ (List.mem_of_getElem? (i := 190) rfl)) rfl
theorem w_1_193 : (Cond.fieldLink RX3 79 "SameKeeper$Lock" "mood" "I") ∈ wsL_law := sk_mem (ck_1 _ (List.mem_of_getElem? (i := 193) rfl)) rfl
theorem w_1_201 : (Cond.fieldLink RX3 41 "SameKeeper$Lock" "statements" "I") ∈ wsL_law := sk_mem (ck_1 _ (List.mem_of_getElem? (i := 201) rfl)) rfl
theorem w_3_49 : (Cond.code yX3_readOpening cX3_readOpening 2 none) ∈ wsL_law := sk_mem (ck_3 _ (List.mem_of_getElem? (i := 49) rfl)) rfl
def om_5_e : List Bool := false :: true :: true :: true :: false :: []
theorem dg_X3_readAmount_0_0 : bqL cX3_readAmount 0 [(0, [42]), (1, [180, 0, 9]), (4, [182, 0, 96]), (7, [42]), (8, [180, 0, 9]), (11, [3]), (12, [43]), (13, [180, 0, 76]), (16, [4]), (17, [100]), (18, [182, 0, 72]), (21, [62]), (22, [42]), (23, [180, 0, 9]), (26, [3]), (27, [16, 9]), (29, [182, 0, 72]), (32, [54, 4]), (34, [29]), (35, [44]), (36, [190]), (37, [162, 0, 8]), (45, [177]), (40, [44]), (41, [29]), (42, [21, 4]), (44, [79])] = true := by decide +kernel
theorem dX3_readAmount_0 : decode cX3_readAmount 0 = .ok (.aload_n 0, 1) := q_aload_n0 (bat_get dg_X3_readAmount_0_0 0 rfl rfl)
theorem dX3_readAmount_1 : decode cX3_readAmount 1 = .ok (.getfield 9, 3) := q_getfield (bat_get dg_X3_readAmount_0_0 1 rfl rfl) rfl
theorem dX3_readAmount_4 : decode cX3_readAmount 4 = .ok (.invokevirtual 96, 3) := q_invokevirtual (bat_get dg_X3_readAmount_0_0 2 rfl rfl) rfl
theorem dX3_readAmount_7 : decode cX3_readAmount 7 = .ok (.aload_n 0, 1) := q_aload_n0 (bat_get dg_X3_readAmount_0_0 3 rfl rfl)
theorem dX3_readAmount_8 : decode cX3_readAmount 8 = .ok (.getfield 9, 3) := q_getfield (bat_get dg_X3_readAmount_0_0 4 rfl rfl) rfl
theorem dX3_readAmount_11 : decode cX3_readAmount 11 = .ok (.iconst 0, 1) := q_iconst0 (bat_get dg_X3_readAmount_0_0 5 rfl rfl)
theorem dX3_readAmount_12 : decode cX3_readAmount 12 = .ok (.aload_n 1, 1) := q_aload_n1 (bat_get dg_X3_readAmount_0_0 6 rfl rfl)
theorem dX3_readAmount_13 : decode cX3_readAmount 13 = .ok (.getfield 76, 3) := q_getfield (bat_get dg_X3_readAmount_0_0 7 rfl rfl) rfl
theorem dX3_readAmount_16 : decode cX3_readAmount 16 = .ok (.iconst 1, 1) := q_iconst1 (bat_get dg_X3_readAmount_0_0 8 rfl rfl)
theorem dX3_readAmount_17 : decode cX3_readAmount 17 = .ok (.isub, 1) := q_isub (bat_get dg_X3_readAmount_0_0 9 rfl rfl)
theorem dX3_readAmount_18 : decode cX3_readAmount 18 = .ok (.invokevirtual 72, 3) := q_invokevirtual (bat_get dg_X3_readAmount_0_0 10 rfl rfl) rfl
theorem dX3_readAmount_21 : decode cX3_readAmount 21 = .ok (.istore_n 3, 1) := q_istore_n3 (bat_get dg_X3_readAmount_0_0 11 rfl rfl)
theorem dX3_readAmount_22 : decode cX3_readAmount 22 = .ok (.aload_n 0, 1) := q_aload_n0 (bat_get dg_X3_readAmount_0_0 12 rfl rfl)
theorem dX3_readAmount_23 : decode cX3_readAmount 23 = .ok (.getfield 9, 3) := q_getfield (bat_get dg_X3_readAmount_0_0 13 rfl rfl) rfl
theorem dX3_readAmount_26 : decode cX3_readAmount 26 = .ok (.iconst 0, 1) := q_iconst0 (bat_get dg_X3_readAmount_0_0 14 rfl rfl)
theorem dX3_readAmount_27 : decode cX3_readAmount 27 = .ok (.bipush 9, 2) := q_bipush (bat_get dg_X3_readAmount_0_0 15 rfl rfl) rfl
theorem dX3_readAmount_29 : decode cX3_readAmount 29 = .ok (.invokevirtual 72, 3) := q_invokevirtual (bat_get dg_X3_readAmount_0_0 16 rfl rfl) rfl
theorem dX3_readAmount_32 : decode cX3_readAmount 32 = .ok (.istore 4, 2) := q_istore (bat_get dg_X3_readAmount_0_0 17 rfl rfl)
theorem dX3_readAmount_34 : decode cX3_readAmount 34 = .ok (.iload_n 3, 1) := q_iload_n3 (bat_get dg_X3_readAmount_0_0 18 rfl rfl)
theorem dX3_readAmount_35 : decode cX3_readAmount 35 = .ok (.aload_n 2, 1) := q_aload_n2 (bat_get dg_X3_readAmount_0_0 19 rfl rfl)
theorem dX3_readAmount_36 : decode cX3_readAmount 36 = .ok (.arraylength, 1) := q_arraylength (bat_get dg_X3_readAmount_0_0 20 rfl rfl)
theorem dX3_readAmount_37 : decode cX3_readAmount 37 = .ok (.if_icmp .ge 8, 3) := q_if_icmp_ge (bat_get dg_X3_readAmount_0_0 21 rfl rfl) rfl
theorem dX3_readAmount_45 : decode cX3_readAmount 45 = .ok (.return_, 1) := q_return_ (bat_get dg_X3_readAmount_0_0 22 rfl rfl)
theorem dX3_readAmount_40 : decode cX3_readAmount 40 = .ok (.aload_n 2, 1) := q_aload_n2 (bat_get dg_X3_readAmount_0_0 23 rfl rfl)
theorem dX3_readAmount_41 : decode cX3_readAmount 41 = .ok (.iload_n 3, 1) := q_iload_n3 (bat_get dg_X3_readAmount_0_0 24 rfl rfl)
theorem dX3_readAmount_42 : decode cX3_readAmount 42 = .ok (.iload 4, 2) := q_iload (bat_get dg_X3_readAmount_0_0 25 rfl rfl)
theorem dX3_readAmount_44 : decode cX3_readAmount 44 = .ok (.iastore, 1) := q_iastore (bat_get dg_X3_readAmount_0_0 26 rfl rfl)
theorem w_3_75 : (Cond.methodLink RX3 96 yX6_step) ∈ wsL_law := sk_mem (ck_3 _ (List.mem_of_getElem? (i := 75) rfl)) rfl
theorem w_3_134 : (Cond.code yX3_readAmount cX3_readAmount 5 none) ∈ wsL_law := sk_mem (ck_3 _ (List.mem_of_getElem? (i := 134) rfl)) rfl
theorem dg_X3_readMute_0_0 : bqL cX3_readMute 0 [(0, [42]), (1, [180, 0, 9]), (4, [182, 0, 96]), (7, [42]), (8, [180, 0, 9]), (11, [180, 0, 62]), (14, [61]), (15, [42]), (16, [180, 0, 9]), (19, [3]), (20, [43]), (21, [180, 0, 76]), (24, [4]), (25, [100]), (26, [182, 0, 72]), (29, [62]), (30, [42]), (31, [180, 0, 9]), (34, [180, 0, 45]), (37, [154, 0, 24]), (61, [43]), (62, [89]), (63, [180, 0, 123]), (66, [4]), (67, [29]), (68, [120]), (69, [128]), (70, [181, 0, 123]), (73, [177]), (40, [43]), (41, [180, 0, 123]), (44, [29]), (45, [122]), (46, [4]), (47, [126]), (48, [4]), (49, [160, 0, 12]), (52, [42]), (53, [180, 0, 9]), (56, [5])] = true := by decide +kernel
theorem dX3_readMute_0 : decode cX3_readMute 0 = .ok (.aload_n 0, 1) := q_aload_n0 (bat_get dg_X3_readMute_0_0 0 rfl rfl)
theorem dX3_readMute_1 : decode cX3_readMute 1 = .ok (.getfield 9, 3) := q_getfield (bat_get dg_X3_readMute_0_0 1 rfl rfl) rfl
theorem dX3_readMute_4 : decode cX3_readMute 4 = .ok (.invokevirtual 96, 3) := q_invokevirtual (bat_get dg_X3_readMute_0_0 2 rfl rfl) rfl
theorem dX3_readMute_7 : decode cX3_readMute 7 = .ok (.aload_n 0, 1) := q_aload_n0 (bat_get dg_X3_readMute_0_0 3 rfl rfl)
theorem dX3_readMute_8 : decode cX3_readMute 8 = .ok (.getfield 9, 3) := q_getfield (bat_get dg_X3_readMute_0_0 4 rfl rfl) rfl
theorem dX3_readMute_11 : decode cX3_readMute 11 = .ok (.getfield 62, 3) := q_getfield (bat_get dg_X3_readMute_0_0 5 rfl rfl) rfl
theorem dX3_readMute_14 : decode cX3_readMute 14 = .ok (.istore_n 2, 1) := q_istore_n2 (bat_get dg_X3_readMute_0_0 6 rfl rfl)
theorem dX3_readMute_15 : decode cX3_readMute 15 = .ok (.aload_n 0, 1) := q_aload_n0 (bat_get dg_X3_readMute_0_0 7 rfl rfl)
theorem dX3_readMute_16 : decode cX3_readMute 16 = .ok (.getfield 9, 3) := q_getfield (bat_get dg_X3_readMute_0_0 8 rfl rfl) rfl
theorem dX3_readMute_19 : decode cX3_readMute 19 = .ok (.iconst 0, 1) := q_iconst0 (bat_get dg_X3_readMute_0_0 9 rfl rfl)
theorem dX3_readMute_20 : decode cX3_readMute 20 = .ok (.aload_n 1, 1) := q_aload_n1 (bat_get dg_X3_readMute_0_0 10 rfl rfl)
theorem dX3_readMute_21 : decode cX3_readMute 21 = .ok (.getfield 76, 3) := q_getfield (bat_get dg_X3_readMute_0_0 11 rfl rfl) rfl
theorem dX3_readMute_24 : decode cX3_readMute 24 = .ok (.iconst 1, 1) := q_iconst1 (bat_get dg_X3_readMute_0_0 12 rfl rfl)
theorem dX3_readMute_25 : decode cX3_readMute 25 = .ok (.isub, 1) := q_isub (bat_get dg_X3_readMute_0_0 13 rfl rfl)
theorem dX3_readMute_26 : decode cX3_readMute 26 = .ok (.invokevirtual 72, 3) := q_invokevirtual (bat_get dg_X3_readMute_0_0 14 rfl rfl) rfl
theorem dX3_readMute_29 : decode cX3_readMute 29 = .ok (.istore_n 3, 1) := q_istore_n3 (bat_get dg_X3_readMute_0_0 15 rfl rfl)
theorem dX3_readMute_30 : decode cX3_readMute 30 = .ok (.aload_n 0, 1) := q_aload_n0 (bat_get dg_X3_readMute_0_0 16 rfl rfl)
theorem dX3_readMute_31 : decode cX3_readMute 31 = .ok (.getfield 9, 3) := q_getfield (bat_get dg_X3_readMute_0_0 17 rfl rfl) rfl
theorem dX3_readMute_34 : decode cX3_readMute 34 = .ok (.getfield 45, 3) := q_getfield (bat_get dg_X3_readMute_0_0 18 rfl rfl) rfl
theorem dX3_readMute_37 : decode cX3_readMute 37 = .ok (.ifCond .ne 24, 3) := q_ifCond_ne (bat_get dg_X3_readMute_0_0 19 rfl rfl) rfl
theorem dX3_readMute_61 : decode cX3_readMute 61 = .ok (.aload_n 1, 1) := q_aload_n1 (bat_get dg_X3_readMute_0_0 20 rfl rfl)
theorem dX3_readMute_62 : decode cX3_readMute 62 = .ok (.dup, 1) := q_dup (bat_get dg_X3_readMute_0_0 21 rfl rfl)
theorem dX3_readMute_63 : decode cX3_readMute 63 = .ok (.getfield 123, 3) := q_getfield (bat_get dg_X3_readMute_0_0 22 rfl rfl) rfl
theorem dX3_readMute_66 : decode cX3_readMute 66 = .ok (.iconst 1, 1) := q_iconst1 (bat_get dg_X3_readMute_0_0 23 rfl rfl)
theorem dX3_readMute_67 : decode cX3_readMute 67 = .ok (.iload_n 3, 1) := q_iload_n3 (bat_get dg_X3_readMute_0_0 24 rfl rfl)
theorem dX3_readMute_68 : decode cX3_readMute 68 = .ok (.ishl, 1) := q_ishl (bat_get dg_X3_readMute_0_0 25 rfl rfl)
theorem dX3_readMute_69 : decode cX3_readMute 69 = .ok (.ior, 1) := q_ior (bat_get dg_X3_readMute_0_0 26 rfl rfl)
theorem dX3_readMute_70 : decode cX3_readMute 70 = .ok (.putfield 123, 3) := q_putfield (bat_get dg_X3_readMute_0_0 27 rfl rfl) rfl
theorem dX3_readMute_73 : decode cX3_readMute 73 = .ok (.return_, 1) := q_return_ (bat_get dg_X3_readMute_0_0 28 rfl rfl)
theorem dX3_readMute_40 : decode cX3_readMute 40 = .ok (.aload_n 1, 1) := q_aload_n1 (bat_get dg_X3_readMute_0_0 29 rfl rfl)
theorem dX3_readMute_41 : decode cX3_readMute 41 = .ok (.getfield 123, 3) := q_getfield (bat_get dg_X3_readMute_0_0 30 rfl rfl) rfl
theorem dX3_readMute_44 : decode cX3_readMute 44 = .ok (.iload_n 3, 1) := q_iload_n3 (bat_get dg_X3_readMute_0_0 31 rfl rfl)
theorem dX3_readMute_45 : decode cX3_readMute 45 = .ok (.ishr, 1) := q_ishr (bat_get dg_X3_readMute_0_0 32 rfl rfl)
theorem dX3_readMute_46 : decode cX3_readMute 46 = .ok (.iconst 1, 1) := q_iconst1 (bat_get dg_X3_readMute_0_0 33 rfl rfl)
theorem dX3_readMute_47 : decode cX3_readMute 47 = .ok (.iand, 1) := q_iand (bat_get dg_X3_readMute_0_0 34 rfl rfl)
theorem dX3_readMute_48 : decode cX3_readMute 48 = .ok (.iconst 1, 1) := q_iconst1 (bat_get dg_X3_readMute_0_0 35 rfl rfl)
theorem dX3_readMute_49 : decode cX3_readMute 49 = .ok (.if_icmp .ne 12, 3) := q_if_icmp_ne (bat_get dg_X3_readMute_0_0 36 rfl rfl) rfl
theorem dX3_readMute_52 : decode cX3_readMute 52 = .ok (.aload_n 0, 1) := q_aload_n0 (bat_get dg_X3_readMute_0_0 37 rfl rfl)
theorem dX3_readMute_53 : decode cX3_readMute 53 = .ok (.getfield 9, 3) := q_getfield (bat_get dg_X3_readMute_0_0 38 rfl rfl) rfl
theorem dX3_readMute_56 : decode cX3_readMute 56 = .ok (.iconst 2, 1) := q_iconst2 (bat_get dg_X3_readMute_0_0 39 rfl rfl)
theorem dg_X3_readMute_57_57 : bqL cX3_readMute 57 [(0, [28]), (1, [182, 0, 65])] = true := by decide +kernel
theorem dX3_readMute_57 : decode cX3_readMute 57 = .ok (.iload_n 2, 1) := q_iload_n2 (bat_get dg_X3_readMute_57_57 0 rfl rfl)
theorem dX3_readMute_58 : decode cX3_readMute 58 = .ok (.invokevirtual 65, 3) := q_invokevirtual (bat_get dg_X3_readMute_57_57 1 rfl rfl) rfl
