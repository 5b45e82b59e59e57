theorem w_3_78 : (Cond.selects RX2 yX2_beginSum yX2_beginSum) ∈ wsL_law := sk_mem (ck_3 _ (List.mem_of_getElem? (i := 78) rfl)) rfl
theorem w_3_146 : (Cond.methodLink RX2 67 yX0_add) ∈ wsL_law := sk_mem (ck_3 _ (List.mem_of_getElem? (i := 146) rfl)) rfl
theorem w_3_147 : (Cond.methodLink RX2 70 yX2_endSum) ∈ wsL_law := sk_mem (ck_3 _ (List.mem_of_getElem? (i := 147) rfl)) rfl
theorem w_3_124 : (Cond.instanceMethod yX2_endSum) ∈ wsL_law := sk_mem (ck_3 _ (List.mem_of_getElem? (i := 124) rfl)) rfl
theorem w_3_125 : (Cond.selects RX2 yX2_endSum yX2_endSum) ∈ wsL_law := sk_mem (ck_3 _ (List.mem_of_getElem? (i := 125) rfl)) rfl
theorem w_3_143 : (Cond.code yX2_addUntold cX2_addUntold 2 none) ∈ wsL_law := sk_mem (ck_3 _ (List.mem_of_getElem? (i := 143) rfl)) rfl
def om_5_13 : List Bool := true :: false :: false :: true :: true :: []
def om_5_1a : List Bool := true :: true :: false :: true :: false :: []
def om_5_c : List Bool := false :: true :: true :: false :: false :: []
def om_5_19 : List Bool := true :: true :: false :: false :: true :: []
theorem hd_X2_hasSum_1 : skD yX2_hasSum 1 := by decide +kernel
theorem hd_X2_beginSum_1 : skD yX2_beginSum 1 := by decide +kernel
theorem hd_X2_endSum_1 : skD yX2_endSum 1 := by decide +kernel

