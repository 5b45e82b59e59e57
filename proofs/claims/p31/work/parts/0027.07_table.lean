theorem w_3_216 : (Cond.methodLink RX9 68 yX9_fillWords) ∈ wsL_law := sk_mem (ck_3 _ (List.mem_of_getElem? (i := 216) rfl)) rfl
theorem w_3_218 : (Cond.instanceMethod yX9_fillWords) ∈ wsL_law := sk_mem (ck_3 _ (List.mem_of_getElem? (i := 218) rfl)) rfl
theorem w_0_15 : (Cond.selects RX9 yX9_fillWords yX9_fillWords) ∈ wsL_law := sk_mem (ck_0 _ (List.mem_of_getElem? (i := 15) rfl)) rfl
theorem w_4_13 : (Cond.methodLink RX9 72 yX9_fillDeeds) ∈ wsL_law := sk_mem (ck_4 _ (List.mem_of_getElem? (i := 13) rfl)) rfl
theorem w_4_15 : (Cond.instanceMethod yX9_fillDeeds) ∈ wsL_law := sk_mem (ck_4 _ (List.mem_of_getElem? (i := 15) rfl)) rfl
theorem w_0_17 : (Cond.selects RX9 yX9_fillDeeds yX9_fillDeeds) ∈ wsL_law := sk_mem (ck_0 _ (List.mem_of_getElem? (i := 17) rfl)) rfl
theorem w_1_137 : (Cond.fieldLink RX9 43 "SameKeeper$Code" "mindsWeek" "Z") ∈ wsL_law := sk_mem (ck_1 _ (List.mem_of_getElem? (i := 137) rfl)) rfl
theorem w_3_208 : (Cond.code yX9_fit cX9_fit 6 none) ∈ wsL_law := sk_mem (ck_3 _ (List.mem_of_getElem? (i := 208) rfl)) rfl
def om_18_247 : List Bool := false :: false :: false :: false :: false :: false :: false :: false :: true :: false :: false :: true :: false :: false :: false :: true :: true :: true :: []
def om_18_317f8 : List Bool := true :: true :: false :: false :: false :: true :: false :: true :: true :: true :: true :: true :: true :: true :: true :: false :: false :: false :: []
def om_18_3e7f8 : List Bool := true :: true :: true :: true :: true :: false :: false :: true :: true :: true :: true :: true :: true :: true :: true :: false :: false :: false :: []
theorem hd_X9_nameDay_3 : skD yX9_nameDay 3 := by decide +kernel
theorem hd_X9_fillWords_2 : skD yX9_fillWords 2 := by decide +kernel
theorem hd_X9_fillDeeds_2 : skD yX9_fillDeeds 2 := by decide +kernel

