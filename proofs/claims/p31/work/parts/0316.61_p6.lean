theorem dX12_qGoesOnTest_24 : decode cX12_qGoesOnTest 24 = .ok (.dup, 1) := q_dup (bat_get dg_X12_qGoesOnTest_24_24 0 rfl rfl)
theorem dX12_qGoesOnTest_25 : decode cX12_qGoesOnTest 25 = .ok (.getfield 201, 3) := q_getfield (bat_get dg_X12_qGoesOnTest_24_24 1 rfl rfl) rfl
theorem dX12_qGoesOnTest_28 : decode cX12_qGoesOnTest 28 = .ok (.iconst 1, 1) := q_iconst1 (bat_get dg_X12_qGoesOnTest_24_24 2 rfl rfl)
theorem dX12_qGoesOnTest_29 : decode cX12_qGoesOnTest 29 = .ok (.iadd, 1) := q_iadd (bat_get dg_X12_qGoesOnTest_24_24 3 rfl rfl)
theorem dX12_qGoesOnTest_30 : decode cX12_qGoesOnTest 30 = .ok (.putfield 201, 3) := q_putfield (bat_get dg_X12_qGoesOnTest_24_24 4 rfl rfl) rfl
theorem dX12_qGoesOnTest_33 : decode cX12_qGoesOnTest 33 = .ok (.aload_n 0, 1) := q_aload_n0 (bat_get dg_X12_qGoesOnTest_24_24 5 rfl rfl)
theorem dX12_qGoesOnTest_34 : decode cX12_qGoesOnTest 34 = .ok (.bipush 25, 2) := q_bipush (bat_get dg_X12_qGoesOnTest_24_24 6 rfl rfl) rfl
theorem dX12_qGoesOnTest_36 : decode cX12_qGoesOnTest 36 = .ok (.invokevirtual 531, 3) := q_invokevirtual (bat_get dg_X12_qGoesOnTest_24_24 7 rfl rfl) rfl
theorem dX12_qGoesOnTest_39 : decode cX12_qGoesOnTest 39 = .ok (.ifCond .ne 10, 3) := q_ifCond_ne (bat_get dg_X12_qGoesOnTest_24_24 8 rfl rfl) rfl
theorem dX12_qGoesOnTest_49 : decode cX12_qGoesOnTest 49 = .ok (.aload_n 0, 1) := q_aload_n0 (bat_get dg_X12_qGoesOnTest_24_24 9 rfl rfl)
theorem dX12_qGoesOnTest_50 : decode cX12_qGoesOnTest 50 = .ok (.dup, 1) := q_dup (bat_get dg_X12_qGoesOnTest_24_24 10 rfl rfl)
theorem dX12_qGoesOnTest_51 : decode cX12_qGoesOnTest 51 = .ok (.getfield 260, 3) := q_getfield (bat_get dg_X12_qGoesOnTest_24_24 11 rfl rfl) rfl
theorem dX12_qGoesOnTest_54 : decode cX12_qGoesOnTest 54 = .ok (.iconst 1, 1) := q_iconst1 (bat_get dg_X12_qGoesOnTest_24_24 12 rfl rfl)
theorem dX12_qGoesOnTest_55 : decode cX12_qGoesOnTest 55 = .ok (.isub, 1) := q_isub (bat_get dg_X12_qGoesOnTest_24_24 13 rfl rfl)
theorem dX12_qGoesOnTest_56 : decode cX12_qGoesOnTest 56 = .ok (.putfield 260, 3) := q_putfield (bat_get dg_X12_qGoesOnTest_24_24 14 rfl rfl) rfl
theorem dX12_qGoesOnTest_59 : decode cX12_qGoesOnTest 59 = .ok (.aload_n 0, 1) := q_aload_n0 (bat_get dg_X12_qGoesOnTest_24_24 15 rfl rfl)
theorem dX12_qGoesOnTest_60 : decode cX12_qGoesOnTest 60 = .ok (.dup, 1) := q_dup (bat_get dg_X12_qGoesOnTest_24_24 16 rfl rfl)
theorem dX12_qGoesOnTest_61 : decode cX12_qGoesOnTest 61 = .ok (.getfield 263, 3) := q_getfield (bat_get dg_X12_qGoesOnTest_24_24 17 rfl rfl) rfl
theorem dX12_qGoesOnTest_64 : decode cX12_qGoesOnTest 64 = .ok (.iconst 1, 1) := q_iconst1 (bat_get dg_X12_qGoesOnTest_24_24 18 rfl rfl)
theorem dX12_qGoesOnTest_65 : decode cX12_qGoesOnTest 65 = .ok (.isub, 1) := q_isub (bat_get dg_X12_qGoesOnTest_24_24 19 rfl rfl)
theorem dX12_qGoesOnTest_66 : decode cX12_qGoesOnTest 66 = .ok (.putfield 263, 3) := q_putfield (bat_get dg_X12_qGoesOnTest_24_24 20 rfl rfl) rfl
theorem dX12_qGoesOnTest_69 : decode cX12_qGoesOnTest 69 = .ok (.aload_n 0, 1) := q_aload_n0 (bat_get dg_X12_qGoesOnTest_24_24 21 rfl rfl)
theorem dX12_qGoesOnTest_70 : decode cX12_qGoesOnTest 70 = .ok (.invokevirtual 543, 3) := q_invokevirtual (bat_get dg_X12_qGoesOnTest_24_24 22 rfl rfl) rfl
theorem dX12_qGoesOnTest_73 : decode cX12_qGoesOnTest 73 = .ok (.goto (-73), 3) := q_goto (bat_get dg_X12_qGoesOnTest_24_24 23 rfl rfl) rfl
theorem dX12_qGoesOnTest_42 : decode cX12_qGoesOnTest 42 = .ok (.aload_n 0, 1) := q_aload_n0 (bat_get dg_X12_qGoesOnTest_24_24 24 rfl rfl)
theorem dX12_qGoesOnTest_43 : decode cX12_qGoesOnTest 43 = .ok (.invokevirtual 504, 3) := q_invokevirtual (bat_get dg_X12_qGoesOnTest_24_24 25 rfl rfl) rfl
theorem dX12_qGoesOnTest_46 : decode cX12_qGoesOnTest 46 = .ok (.goto (-13), 3) := q_goto (bat_get dg_X12_qGoesOnTest_24_24 26 rfl rfl) rfl
theorem w_5_220 : (Cond.fieldLink RX12 135 "SameKeeperModel" "andAsked" "[C") ∈ wsL_law := sk_mem (ck_5 _ (List.mem_of_getElem? (i := 220) rfl)) rfl
theorem w_5_221 : (Cond.fieldLink RX12 138 "SameKeeperModel" "orAsked" "[C") ∈ wsL_law := sk_mem (ck_5 _ (List.mem_of_getElem? (i := 221) rfl)) rfl
theorem w_8_187 : (Cond.methodLink RX12 549 yX12_qHasSquare) ∈ wsL_law := sk_mem (ck_8 _ (List.mem_of_getElem? (i := 187) rfl)) rfl
theorem w_8_189 : (Cond.instanceMethod yX12_qHasSquare) ∈ wsL_law := sk_mem (ck_8 _ (List.mem_of_getElem? (i := 189) rfl)) rfl
theorem w_0_115 : (Cond.selects RX12 yX12_qHasSquare yX12_qHasSquare) ∈ wsL_law := sk_mem (ck_0 _ (List.mem_of_getElem? (i := 115) rfl)) rfl
theorem w_8_179 : (Cond.methodLink RX12 543 yX12_qDropsNots) ∈ wsL_law := sk_mem (ck_8 _ (List.mem_of_getElem? (i := 179) rfl)) rfl
theorem w_8_181 : (Cond.instanceMethod yX12_qDropsNots) ∈ wsL_law := sk_mem (ck_8 _ (List.mem_of_getElem? (i := 181) rfl)) rfl
theorem w_0_113 : (Cond.selects RX12 yX12_qDropsNots yX12_qDropsNots) ∈ wsL_law := sk_mem (ck_0 _ (List.mem_of_getElem? (i := 113) rfl)) rfl
theorem w_8_186 : (Cond.code yX12_qGoesOnTest cX12_qGoesOnTest 1 (some .boolean)) ∈ wsL_law := sk_mem (ck_8 _ (List.mem_of_getElem? (i := 186) rfl)) rfl
def om_6_32 : List Bool := true :: true :: false :: false :: true :: false :: []
def om_6_31 : List Bool := true :: true :: false :: false :: false :: true :: []
def om_6_2c : List Bool := true :: false :: true :: true :: false :: false :: []
theorem hd_X12_qHasSquare_0 : skD yX12_qHasSquare 0 := by decide +kernel
theorem hd_X12_qDropsNots_0 : skD yX12_qDropsNots 0 := by decide +kernel

