theorem dX12_qGoesOn_314 : decode cX12_qGoesOn 314 = .ok (.if_icmp .eq 12, 3) := q_if_icmp_eq (bat_get dg_X12_qGoesOn_123_298 26 rfl rfl) rfl
theorem dX12_qGoesOn_326 : decode cX12_qGoesOn 326 = .ok (.aload_n 0, 1) := q_aload_n0 (bat_get dg_X12_qGoesOn_123_298 27 rfl rfl)
theorem dX12_qGoesOn_327 : decode cX12_qGoesOn 327 = .ok (.bipush 44, 2) := q_bipush (bat_get dg_X12_qGoesOn_123_298 28 rfl rfl) rfl
theorem dX12_qGoesOn_329 : decode cX12_qGoesOn 329 = .ok (.invokevirtual 253, 3) := q_invokevirtual (bat_get dg_X12_qGoesOn_123_298 29 rfl rfl) rfl
theorem dX12_qGoesOn_332 : decode cX12_qGoesOn 332 = .ok (.aload_n 0, 1) := q_aload_n0 (bat_get dg_X12_qGoesOn_123_298 30 rfl rfl)
theorem dX12_qGoesOn_333 : decode cX12_qGoesOn 333 = .ok (.getfield 195, 3) := q_getfield (bat_get dg_X12_qGoesOn_123_298 31 rfl rfl) rfl
theorem dX12_qGoesOn_336 : decode cX12_qGoesOn 336 = .ok (.ifCond .eq 5, 3) := q_ifCond_eq (bat_get dg_X12_qGoesOn_123_298 32 rfl rfl) rfl
theorem dX12_qGoesOn_341 : decode cX12_qGoesOn 341 = .ok (.aload_n 0, 1) := q_aload_n0 (bat_get dg_X12_qGoesOn_123_298 33 rfl rfl)
theorem dX12_qGoesOn_342 : decode cX12_qGoesOn 342 = .ok (.invokevirtual 528, 3) := q_invokevirtual (bat_get dg_X12_qGoesOn_123_298 34 rfl rfl) rfl
theorem dX12_qGoesOn_345 : decode cX12_qGoesOn 345 = .ok (.aload_n 0, 1) := q_aload_n0 (bat_get dg_X12_qGoesOn_123_298 35 rfl rfl)
theorem dX12_qGoesOn_346 : decode cX12_qGoesOn 346 = .ok (.getfield 183, 3) := q_getfield (bat_get dg_X12_qGoesOn_123_298 36 rfl rfl) rfl
theorem dX12_qGoesOn_349 : decode cX12_qGoesOn 349 = .ok (.aload_n 0, 1) := q_aload_n0 (bat_get dg_X12_qGoesOn_123_298 37 rfl rfl)
theorem dX12_qGoesOn_350 : decode cX12_qGoesOn 350 = .ok (.getfield 260, 3) := q_getfield (bat_get dg_X12_qGoesOn_123_298 38 rfl rfl) rfl
theorem dX12_qGoesOn_353 : decode cX12_qGoesOn 353 = .ok (.iconst 1, 1) := q_iconst1 (bat_get dg_X12_qGoesOn_123_298 39 rfl rfl)
theorem dg_X12_qGoesOn_7_354 : bqL cX12_qGoesOn 7 [(347, [100]), (348, [92]), (349, [46]), (350, [5]), (351, [96]), (352, [79]), (353, [4]), (354, [172]), (332, [3]), (333, [172]), (310, [42]), (311, [182, 2, 13]), (314, [16, 22]), (316, [160, 0, 39]), (355, [42]), (356, [182, 2, 13]), (359, [2]), (360, [159, 0, 19]), (379, [3]), (380, [172]), (363, [42]), (364, [180, 0, 195]), (367, [154, 0, 12]), (370, [42]), (371, [4]), (372, [42]), (373, [180, 0, 201]), (376, [182, 0, 225]), (0, [42]), (1, [182, 0, 207]), (4, [16, 41]), (6, [160, 0, 109]), (9, [42]), (10, [182, 2, 13]), (13, [16, 20]), (15, [159, 0, 21]), (36, [42]), (37, [89]), (38, [180, 0, 201]), (41, [4])] = true := by decide +kernel
theorem dX12_qGoesOn_354 : decode cX12_qGoesOn 354 = .ok (.isub, 1) := q_isub (bat_get dg_X12_qGoesOn_7_354 0 rfl rfl)
theorem dX12_qGoesOn_355 : decode cX12_qGoesOn 355 = .ok (.dup2, 1) := q_dup2 (bat_get dg_X12_qGoesOn_7_354 1 rfl rfl)
theorem dX12_qGoesOn_356 : decode cX12_qGoesOn 356 = .ok (.iaload, 1) := q_iaload (bat_get dg_X12_qGoesOn_7_354 2 rfl rfl)
theorem dX12_qGoesOn_357 : decode cX12_qGoesOn 357 = .ok (.iconst 2, 1) := q_iconst2 (bat_get dg_X12_qGoesOn_7_354 3 rfl rfl)
theorem dX12_qGoesOn_358 : decode cX12_qGoesOn 358 = .ok (.iadd, 1) := q_iadd (bat_get dg_X12_qGoesOn_7_354 4 rfl rfl)
theorem dX12_qGoesOn_359 : decode cX12_qGoesOn 359 = .ok (.iastore, 1) := q_iastore (bat_get dg_X12_qGoesOn_7_354 5 rfl rfl)
theorem dX12_qGoesOn_360 : decode cX12_qGoesOn 360 = .ok (.iconst 1, 1) := q_iconst1 (bat_get dg_X12_qGoesOn_7_354 6 rfl rfl)
theorem dX12_qGoesOn_361 : decode cX12_qGoesOn 361 = .ok (.ireturn, 1) := q_ireturn (bat_get dg_X12_qGoesOn_7_354 7 rfl rfl)
theorem dX12_qGoesOn_339 : decode cX12_qGoesOn 339 = .ok (.iconst 0, 1) := q_iconst0 (bat_get dg_X12_qGoesOn_7_354 8 rfl rfl)
theorem dX12_qGoesOn_340 : decode cX12_qGoesOn 340 = .ok (.ireturn, 1) := q_ireturn (bat_get dg_X12_qGoesOn_7_354 9 rfl rfl)
theorem dX12_qGoesOn_317 : decode cX12_qGoesOn 317 = .ok (.aload_n 0, 1) := q_aload_n0 (bat_get dg_X12_qGoesOn_7_354 10 rfl rfl)
theorem dX12_qGoesOn_318 : decode cX12_qGoesOn 318 = .ok (.invokevirtual 525, 3) := q_invokevirtual (bat_get dg_X12_qGoesOn_7_354 11 rfl rfl) rfl
theorem dX12_qGoesOn_321 : decode cX12_qGoesOn 321 = .ok (.bipush 22, 2) := q_bipush (bat_get dg_X12_qGoesOn_7_354 12 rfl rfl) rfl
theorem dX12_qGoesOn_323 : decode cX12_qGoesOn 323 = .ok (.if_icmp .ne 39, 3) := q_if_icmp_ne (bat_get dg_X12_qGoesOn_7_354 13 rfl rfl) rfl
theorem dX12_qGoesOn_362 : decode cX12_qGoesOn 362 = .ok (.aload_n 0, 1) := q_aload_n0 (bat_get dg_X12_qGoesOn_7_354 14 rfl rfl)
theorem dX12_qGoesOn_363 : decode cX12_qGoesOn 363 = .ok (.invokevirtual 525, 3) := q_invokevirtual (bat_get dg_X12_qGoesOn_7_354 15 rfl rfl) rfl
theorem dX12_qGoesOn_366 : decode cX12_qGoesOn 366 = .ok (.iconst (-1), 1) := q_iconstm1 (bat_get dg_X12_qGoesOn_7_354 16 rfl rfl)
theorem dX12_qGoesOn_367 : decode cX12_qGoesOn 367 = .ok (.if_icmp .eq 19, 3) := q_if_icmp_eq (bat_get dg_X12_qGoesOn_7_354 17 rfl rfl) rfl
theorem dX12_qGoesOn_386 : decode cX12_qGoesOn 386 = .ok (.iconst 0, 1) := q_iconst0 (bat_get dg_X12_qGoesOn_7_354 18 rfl rfl)
theorem dX12_qGoesOn_387 : decode cX12_qGoesOn 387 = .ok (.ireturn, 1) := q_ireturn (bat_get dg_X12_qGoesOn_7_354 19 rfl rfl)
theorem dX12_qGoesOn_370 : decode cX12_qGoesOn 370 = .ok (.aload_n 0, 1) := q_aload_n0 (bat_get dg_X12_qGoesOn_7_354 20 rfl rfl)
theorem dX12_qGoesOn_371 : decode cX12_qGoesOn 371 = .ok (.getfield 195, 3) := q_getfield (bat_get dg_X12_qGoesOn_7_354 21 rfl rfl) rfl
theorem dX12_qGoesOn_374 : decode cX12_qGoesOn 374 = .ok (.ifCond .ne 12, 3) := q_ifCond_ne (bat_get dg_X12_qGoesOn_7_354 22 rfl rfl) rfl
theorem dX12_qGoesOn_377 : decode cX12_qGoesOn 377 = .ok (.aload_n 0, 1) := q_aload_n0 (bat_get dg_X12_qGoesOn_7_354 23 rfl rfl)
theorem dX12_qGoesOn_378 : decode cX12_qGoesOn 378 = .ok (.iconst 1, 1) := q_iconst1 (bat_get dg_X12_qGoesOn_7_354 24 rfl rfl)
theorem dX12_qGoesOn_379 : decode cX12_qGoesOn 379 = .ok (.aload_n 0, 1) := q_aload_n0 (bat_get dg_X12_qGoesOn_7_354 25 rfl rfl)
theorem dX12_qGoesOn_380 : decode cX12_qGoesOn 380 = .ok (.getfield 201, 3) := q_getfield (bat_get dg_X12_qGoesOn_7_354 26 rfl rfl) rfl
theorem dX12_qGoesOn_383 : decode cX12_qGoesOn 383 = .ok (.invokevirtual 225, 3) := q_invokevirtual (bat_get dg_X12_qGoesOn_7_354 27 rfl rfl) rfl
theorem dX12_qGoesOn_7 : decode cX12_qGoesOn 7 = .ok (.aload_n 0, 1) := q_aload_n0 (bat_get dg_X12_qGoesOn_7_354 28 rfl rfl)
theorem dX12_qGoesOn_8 : decode cX12_qGoesOn 8 = .ok (.invokevirtual 207, 3) := q_invokevirtual (bat_get dg_X12_qGoesOn_7_354 29 rfl rfl) rfl
theorem dX12_qGoesOn_11 : decode cX12_qGoesOn 11 = .ok (.bipush 41, 2) := q_bipush (bat_get dg_X12_qGoesOn_7_354 30 rfl rfl) rfl
theorem dX12_qGoesOn_13 : decode cX12_qGoesOn 13 = .ok (.if_icmp .ne 109, 3) := q_if_icmp_ne (bat_get dg_X12_qGoesOn_7_354 31 rfl rfl) rfl
theorem dX12_qGoesOn_16 : decode cX12_qGoesOn 16 = .ok (.aload_n 0, 1) := q_aload_n0 (bat_get dg_X12_qGoesOn_7_354 32 rfl rfl)
theorem dX12_qGoesOn_17 : decode cX12_qGoesOn 17 = .ok (.invokevirtual 525, 3) := q_invokevirtual (bat_get dg_X12_qGoesOn_7_354 33 rfl rfl) rfl
theorem dX12_qGoesOn_20 : decode cX12_qGoesOn 20 = .ok (.bipush 20, 2) := q_bipush (bat_get dg_X12_qGoesOn_7_354 34 rfl rfl) rfl
theorem dX12_qGoesOn_22 : decode cX12_qGoesOn 22 = .ok (.if_icmp .eq 21, 3) := q_if_icmp_eq (bat_get dg_X12_qGoesOn_7_354 35 rfl rfl) rfl
theorem dX12_qGoesOn_43 : decode cX12_qGoesOn 43 = .ok (.aload_n 0, 1) := q_aload_n0 (bat_get dg_X12_qGoesOn_7_354 36 rfl rfl)
theorem dX12_qGoesOn_44 : decode cX12_qGoesOn 44 = .ok (.dup, 1) := q_dup (bat_get dg_X12_qGoesOn_7_354 37 rfl rfl)
theorem dX12_qGoesOn_45 : decode cX12_qGoesOn 45 = .ok (.getfield 201, 3) := q_getfield (bat_get dg_X12_qGoesOn_7_354 38 rfl rfl) rfl
theorem dX12_qGoesOn_48 : decode cX12_qGoesOn 48 = .ok (.iconst 1, 1) := q_iconst1 (bat_get dg_X12_qGoesOn_7_354 39 rfl rfl)
theorem dg_X12_qGoesOn_25_49 : bqL cX12_qGoesOn 25 [(24, [96]), (25, [181, 0, 201]), (28, [42]), (29, [182, 2, 16]), (32, [42]), (33, [89]), (34, [180, 1, 4]), (37, [4]), (38, [100]), (39, [181, 1, 4]), (42, [42]), (43, [89]), (44, [180, 1, 7]), (47, [4]), (48, [100]), (49, [181, 1, 7]), (52, [42]), (53, [180, 0, 183]), (56, [42]), (57, [180, 1, 4]), (60, [46]), (61, [16, 20]), (63, [159, 0, 27]), (90, [42]), (91, [182, 2, 10]), (94, [167, 255, 137]), (0, [42]), (1, [182, 2, 13]), (4, [16, 23]), (6, [159, 0, 12]), (66, [42]), (67, [42]), (68, [180, 0, 183]), (71, [42]), (72, [180, 1, 4]), (75, [46]), (76, [16, 23]), (78, [160, 0, 7]), (81, [8]), (82, [167, 0, 5])] = true := by decide +kernel
theorem dX12_qGoesOn_49 : decode cX12_qGoesOn 49 = .ok (.iadd, 1) := q_iadd (bat_get dg_X12_qGoesOn_25_49 0 rfl rfl)
theorem dX12_qGoesOn_50 : decode cX12_qGoesOn 50 = .ok (.putfield 201, 3) := q_putfield (bat_get dg_X12_qGoesOn_25_49 1 rfl rfl) rfl
theorem dX12_qGoesOn_53 : decode cX12_qGoesOn 53 = .ok (.aload_n 0, 1) := q_aload_n0 (bat_get dg_X12_qGoesOn_25_49 2 rfl rfl)
theorem dX12_qGoesOn_54 : decode cX12_qGoesOn 54 = .ok (.invokevirtual 528, 3) := q_invokevirtual (bat_get dg_X12_qGoesOn_25_49 3 rfl rfl) rfl
theorem dX12_qGoesOn_57 : decode cX12_qGoesOn 57 = .ok (.aload_n 0, 1) := q_aload_n0 (bat_get dg_X12_qGoesOn_25_49 4 rfl rfl)
theorem dX12_qGoesOn_58 : decode cX12_qGoesOn 58 = .ok (.dup, 1) := q_dup (bat_get dg_X12_qGoesOn_25_49 5 rfl rfl)
theorem dX12_qGoesOn_59 : decode cX12_qGoesOn 59 = .ok (.getfield 260, 3) := q_getfield (bat_get dg_X12_qGoesOn_25_49 6 rfl rfl) rfl
theorem dX12_qGoesOn_62 : decode cX12_qGoesOn 62 = .ok (.iconst 1, 1) := q_iconst1 (bat_get dg_X12_qGoesOn_25_49 7 rfl rfl)
theorem dX12_qGoesOn_63 : decode cX12_qGoesOn 63 = .ok (.isub, 1) := q_isub (bat_get dg_X12_qGoesOn_25_49 8 rfl rfl)
theorem dX12_qGoesOn_64 : decode cX12_qGoesOn 64 = .ok (.putfield 260, 3) := q_putfield (bat_get dg_X12_qGoesOn_25_49 9 rfl rfl) rfl
theorem dX12_qGoesOn_67 : decode cX12_qGoesOn 67 = .ok (.aload_n 0, 1) := q_aload_n0 (bat_get dg_X12_qGoesOn_25_49 10 rfl rfl)
theorem dX12_qGoesOn_68 : decode cX12_qGoesOn 68 = .ok (.dup, 1) := q_dup (bat_get dg_X12_qGoesOn_25_49 11 rfl rfl)
theorem dX12_qGoesOn_69 : decode cX12_qGoesOn 69 = .ok (.getfield 263, 3) := q_getfield (bat_get dg_X12_qGoesOn_25_49 12 rfl rfl) rfl
theorem dX12_qGoesOn_72 : decode cX12_qGoesOn 72 = .ok (.iconst 1, 1) := q_iconst1 (bat_get dg_X12_qGoesOn_25_49 13 rfl rfl)
theorem dX12_qGoesOn_73 : decode cX12_qGoesOn 73 = .ok (.isub, 1) := q_isub (bat_get dg_X12_qGoesOn_25_49 14 rfl rfl)
theorem dX12_qGoesOn_74 : decode cX12_qGoesOn 74 = .ok (.putfield 263, 3) := q_putfield (bat_get dg_X12_qGoesOn_25_49 15 rfl rfl) rfl
theorem dX12_qGoesOn_77 : decode cX12_qGoesOn 77 = .ok (.aload_n 0, 1) := q_aload_n0 (bat_get dg_X12_qGoesOn_25_49 16 rfl rfl)
theorem dX12_qGoesOn_78 : decode cX12_qGoesOn 78 = .ok (.getfield 183, 3) := q_getfield (bat_get dg_X12_qGoesOn_25_49 17 rfl rfl) rfl
theorem dX12_qGoesOn_81 : decode cX12_qGoesOn 81 = .ok (.aload_n 0, 1) := q_aload_n0 (bat_get dg_X12_qGoesOn_25_49 18 rfl rfl)
theorem dX12_qGoesOn_82 : decode cX12_qGoesOn 82 = .ok (.getfield 260, 3) := q_getfield (bat_get dg_X12_qGoesOn_25_49 19 rfl rfl) rfl
theorem dX12_qGoesOn_85 : decode cX12_qGoesOn 85 = .ok (.iaload, 1) := q_iaload (bat_get dg_X12_qGoesOn_25_49 20 rfl rfl)
theorem dX12_qGoesOn_86 : decode cX12_qGoesOn 86 = .ok (.bipush 20, 2) := q_bipush (bat_get dg_X12_qGoesOn_25_49 21 rfl rfl) rfl
theorem dX12_qGoesOn_88 : decode cX12_qGoesOn 88 = .ok (.if_icmp .eq 27, 3) := q_if_icmp_eq (bat_get dg_X12_qGoesOn_25_49 22 rfl rfl) rfl
theorem dX12_qGoesOn_115 : decode cX12_qGoesOn 115 = .ok (.aload_n 0, 1) := q_aload_n0 (bat_get dg_X12_qGoesOn_25_49 23 rfl rfl)
theorem dX12_qGoesOn_116 : decode cX12_qGoesOn 116 = .ok (.invokevirtual 522, 3) := q_invokevirtual (bat_get dg_X12_qGoesOn_25_49 24 rfl rfl) rfl
theorem dX12_qGoesOn_119 : decode cX12_qGoesOn 119 = .ok (.goto (-119), 3) := q_goto (bat_get dg_X12_qGoesOn_25_49 25 rfl rfl) rfl
theorem dX12_qGoesOn_25 : decode cX12_qGoesOn 25 = .ok (.aload_n 0, 1) := q_aload_n0 (bat_get dg_X12_qGoesOn_25_49 26 rfl rfl)
theorem dX12_qGoesOn_26 : decode cX12_qGoesOn 26 = .ok (.invokevirtual 525, 3) := q_invokevirtual (bat_get dg_X12_qGoesOn_25_49 27 rfl rfl) rfl
theorem dX12_qGoesOn_29 : decode cX12_qGoesOn 29 = .ok (.bipush 23, 2) := q_bipush (bat_get dg_X12_qGoesOn_25_49 28 rfl rfl) rfl
theorem dX12_qGoesOn_31 : decode cX12_qGoesOn 31 = .ok (.if_icmp .eq 12, 3) := q_if_icmp_eq (bat_get dg_X12_qGoesOn_25_49 29 rfl rfl) rfl
theorem dX12_qGoesOn_91 : decode cX12_qGoesOn 91 = .ok (.aload_n 0, 1) := q_aload_n0 (bat_get dg_X12_qGoesOn_25_49 30 rfl rfl)
theorem dX12_qGoesOn_92 : decode cX12_qGoesOn 92 = .ok (.aload_n 0, 1) := q_aload_n0 (bat_get dg_X12_qGoesOn_25_49 31 rfl rfl)
theorem dX12_qGoesOn_93 : decode cX12_qGoesOn 93 = .ok (.getfield 183, 3) := q_getfield (bat_get dg_X12_qGoesOn_25_49 32 rfl rfl) rfl
theorem dX12_qGoesOn_96 : decode cX12_qGoesOn 96 = .ok (.aload_n 0, 1) := q_aload_n0 (bat_get dg_X12_qGoesOn_25_49 33 rfl rfl)
theorem dX12_qGoesOn_97 : decode cX12_qGoesOn 97 = .ok (.getfield 260, 3) := q_getfield (bat_get dg_X12_qGoesOn_25_49 34 rfl rfl) rfl
theorem dX12_qGoesOn_100 : decode cX12_qGoesOn 100 = .ok (.iaload, 1) := q_iaload (bat_get dg_X12_qGoesOn_25_49 35 rfl rfl)
theorem dX12_qGoesOn_101 : decode cX12_qGoesOn 101 = .ok (.bipush 23, 2) := q_bipush (bat_get dg_X12_qGoesOn_25_49 36 rfl rfl) rfl
theorem dX12_qGoesOn_103 : decode cX12_qGoesOn 103 = .ok (.if_icmp .ne 7, 3) := q_if_icmp_ne (bat_get dg_X12_qGoesOn_25_49 37 rfl rfl) rfl
theorem dX12_qGoesOn_106 : decode cX12_qGoesOn 106 = .ok (.iconst 5, 1) := q_iconst5 (bat_get dg_X12_qGoesOn_25_49 38 rfl rfl)
theorem dX12_qGoesOn_107 : decode cX12_qGoesOn 107 = .ok (.goto 5, 3) := q_goto (bat_get dg_X12_qGoesOn_25_49 39 rfl rfl) rfl
theorem dg_X12_qGoesOn_34_112 : bqL cX12_qGoesOn 34 [(78, [182, 1, 242]), (0, [42]), (1, [182, 2, 13]), (4, [16, 24]), (6, [160, 0, 82]), (76, [16, 6])] = true := by decide +kernel
theorem dX12_qGoesOn_112 : decode cX12_qGoesOn 112 = .ok (.invokevirtual 498, 3) := q_invokevirtual (bat_get dg_X12_qGoesOn_34_112 0 rfl rfl) rfl
theorem dX12_qGoesOn_34 : decode cX12_qGoesOn 34 = .ok (.aload_n 0, 1) := q_aload_n0 (bat_get dg_X12_qGoesOn_34_112 1 rfl rfl)
theorem dX12_qGoesOn_35 : decode cX12_qGoesOn 35 = .ok (.invokevirtual 525, 3) := q_invokevirtual (bat_get dg_X12_qGoesOn_34_112 2 rfl rfl) rfl
theorem dX12_qGoesOn_38 : decode cX12_qGoesOn 38 = .ok (.bipush 24, 2) := q_bipush (bat_get dg_X12_qGoesOn_34_112 3 rfl rfl) rfl
theorem dX12_qGoesOn_40 : decode cX12_qGoesOn 40 = .ok (.if_icmp .ne 82, 3) := q_if_icmp_ne (bat_get dg_X12_qGoesOn_34_112 4 rfl rfl) rfl
theorem dX12_qGoesOn_110 : decode cX12_qGoesOn 110 = .ok (.bipush 6, 2) := q_bipush (bat_get dg_X12_qGoesOn_34_112 5 rfl rfl) rfl
theorem w_7_82 : (Cond.methodLink RX12 531 yX12_qIsOn) ∈ wsL_law := sk_mem (ck_7 _ (List.mem_of_getElem? (i := 82) rfl)) rfl
theorem w_7_84 : (Cond.instanceMethod yX12_qIsOn) ∈ wsL_law := sk_mem (ck_7 _ (List.mem_of_getElem? (i := 84) rfl)) rfl
theorem w_0_67 : (Cond.selects RX12 yX12_qIsOn yX12_qIsOn) ∈ wsL_law := sk_mem (ck_0 _ (List.mem_of_getElem? (i := 67) rfl)) rfl
theorem w_7_71 : (Cond.methodLink RX12 525 yX12_qBracket) ∈ wsL_law := sk_mem (ck_7 _ (List.mem_of_getElem? (i := 71) rfl)) rfl
theorem w_7_73 : (Cond.instanceMethod yX12_qBracket) ∈ wsL_law := sk_mem (ck_7 _ (List.mem_of_getElem? (i := 73) rfl)) rfl
theorem w_0_65 : (Cond.selects RX12 yX12_qBracket yX12_qBracket) ∈ wsL_law := sk_mem (ck_0 _ (List.mem_of_getElem? (i := 65) rfl)) rfl
theorem w_7_78 : (Cond.methodLink RX12 528 yX12_qDropsToBracket) ∈ wsL_law := sk_mem (ck_7 _ (List.mem_of_getElem? (i := 78) rfl)) rfl
theorem w_7_80 : (Cond.instanceMethod yX12_qDropsToBracket) ∈ wsL_law := sk_mem (ck_7 _ (List.mem_of_getElem? (i := 80) rfl)) rfl
theorem w_0_66 : (Cond.selects RX12 yX12_qDropsToBracket yX12_qDropsToBracket) ∈ wsL_law := sk_mem (ck_0 _ (List.mem_of_getElem? (i := 66) rfl)) rfl
theorem w_7_70 : (Cond.code yX12_qGoesOn cX12_qGoesOn 2 (some .boolean)) ∈ wsL_law := sk_mem (ck_7 _ (List.mem_of_getElem? (i := 70) rfl)) rfl
def om_4_b : List Bool := true :: false :: true :: true :: []
def om_4_a : List Bool := true :: false :: true :: false :: []
