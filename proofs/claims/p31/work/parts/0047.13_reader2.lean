theorem dX6_opens_24 : decode cX6_opens 24 = .ok (.iconst 4, 1) := q_iconst4 (bat_get dg_X6_opens_0_0 19 rfl rfl)
theorem dX6_opens_25 : decode cX6_opens 25 = .ok (.aload_n 0, 1) := q_aload_n0 (bat_get dg_X6_opens_0_0 20 rfl rfl)
theorem dX6_opens_26 : decode cX6_opens 26 = .ok (.getfield 24, 3) := q_getfield (bat_get dg_X6_opens_0_0 21 rfl rfl) rfl
theorem dX6_opens_29 : decode cX6_opens 29 = .ok (.invokevirtual 40, 3) := q_invokevirtual (bat_get dg_X6_opens_0_0 22 rfl rfl) rfl
theorem dX6_opens_32 : decode cX6_opens 32 = .ok (.iconst 0, 1) := q_iconst0 (bat_get dg_X6_opens_0_0 23 rfl rfl)
theorem dX6_opens_33 : decode cX6_opens 33 = .ok (.ireturn, 1) := q_ireturn (bat_get dg_X6_opens_0_0 24 rfl rfl)
theorem dX6_opens_8 : decode cX6_opens 8 = .ok (.aload_n 0, 1) := q_aload_n0 (bat_get dg_X6_opens_0_0 25 rfl rfl)
theorem dX6_opens_9 : decode cX6_opens 9 = .ok (.invokevirtual 70, 3) := q_invokevirtual (bat_get dg_X6_opens_0_0 26 rfl rfl) rfl
theorem dX6_opens_12 : decode cX6_opens 12 = .ok (.iconst 0, 1) := q_iconst0 (bat_get dg_X6_opens_0_0 27 rfl rfl)
theorem dX6_opens_13 : decode cX6_opens 13 = .ok (.ireturn, 1) := q_ireturn (bat_get dg_X6_opens_0_0 28 rfl rfl)
theorem w_3_104 : (Cond.code yX6_opens cX6_opens 2 (some .boolean)) ∈ wsL_law := sk_mem (ck_3 _ (List.mem_of_getElem? (i := 104) rfl)) rfl
theorem dg_X6_shuts_0_0 : bqL cX6_shuts 0 [(0, [42]), (1, [89]), (2, [180, 0, 18]), (5, [4]), (6, [100]), (7, [181, 0, 18]), (10, [177])] = true := by decide +kernel
theorem dX6_shuts_0 : decode cX6_shuts 0 = .ok (.aload_n 0, 1) := q_aload_n0 (bat_get dg_X6_shuts_0_0 0 rfl rfl)
theorem dX6_shuts_1 : decode cX6_shuts 1 = .ok (.dup, 1) := q_dup (bat_get dg_X6_shuts_0_0 1 rfl rfl)
theorem dX6_shuts_2 : decode cX6_shuts 2 = .ok (.getfield 18, 3) := q_getfield (bat_get dg_X6_shuts_0_0 2 rfl rfl) rfl
theorem dX6_shuts_5 : decode cX6_shuts 5 = .ok (.iconst 1, 1) := q_iconst1 (bat_get dg_X6_shuts_0_0 3 rfl rfl)
theorem dX6_shuts_6 : decode cX6_shuts 6 = .ok (.isub, 1) := q_isub (bat_get dg_X6_shuts_0_0 4 rfl rfl)
theorem dX6_shuts_7 : decode cX6_shuts 7 = .ok (.putfield 18, 3) := q_putfield (bat_get dg_X6_shuts_0_0 5 rfl rfl) rfl
theorem dX6_shuts_10 : decode cX6_shuts 10 = .ok (.return_, 1) := q_return_ (bat_get dg_X6_shuts_0_0 6 rfl rfl)
theorem w_3_108 : (Cond.code yX6_shuts cX6_shuts 1 none) ∈ wsL_law := sk_mem (ck_3 _ (List.mem_of_getElem? (i := 108) rfl)) rfl

