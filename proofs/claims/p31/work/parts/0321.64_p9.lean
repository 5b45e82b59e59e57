theorem w_7_23 : (Cond.methodLink RX12 284 yX12_codesTold) ∈ wsL_law := sk_mem (ck_7 _ (List.mem_of_getElem? (i := 23) rfl)) rfl
theorem w_7_25 : (Cond.instanceMethod yX12_codesTold) ∈ wsL_law := sk_mem (ck_7 _ (List.mem_of_getElem? (i := 25) rfl)) rfl
theorem w_0_53 : (Cond.selects RX12 yX12_codesTold yX12_codesTold) ∈ wsL_law := sk_mem (ck_0 _ (List.mem_of_getElem? (i := 53) rfl)) rfl
theorem w_7_19 : (Cond.methodLink RX12 281 yX12_muteTold) ∈ wsL_law := sk_mem (ck_7 _ (List.mem_of_getElem? (i := 19) rfl)) rfl
theorem w_7_21 : (Cond.instanceMethod yX12_muteTold) ∈ wsL_law := sk_mem (ck_7 _ (List.mem_of_getElem? (i := 21) rfl)) rfl
theorem w_0_52 : (Cond.selects RX12 yX12_muteTold yX12_muteTold) ∈ wsL_law := sk_mem (ck_0 _ (List.mem_of_getElem? (i := 52) rfl)) rfl
theorem w_7_15 : (Cond.methodLink RX12 278 yX12_dayTold) ∈ wsL_law := sk_mem (ck_7 _ (List.mem_of_getElem? (i := 15) rfl)) rfl
theorem w_7_17 : (Cond.instanceMethod yX12_dayTold) ∈ wsL_law := sk_mem (ck_7 _ (List.mem_of_getElem? (i := 17) rfl)) rfl
theorem w_0_51 : (Cond.selects RX12 yX12_dayTold yX12_dayTold) ∈ wsL_law := sk_mem (ck_0 _ (List.mem_of_getElem? (i := 51) rfl)) rfl
theorem w_7_14 : (Cond.code yX12_statementTold cX12_statementTold 2 none) ∈ wsL_law := sk_mem (ck_7 _ (List.mem_of_getElem? (i := 14) rfl)) rfl
def om_29_18000040 : List Bool := true :: true :: false :: false :: false :: false :: false :: false :: false :: false :: false :: false :: false :: false :: false :: false :: false :: false :: false :: false :: false :: false :: true :: false :: false :: false :: false :: false :: false :: []
def om_29_18000020 : List Bool := true :: true :: false :: false :: false :: false :: false :: false :: false :: false :: false :: false :: false :: false :: false :: false :: false :: false :: false :: false :: false :: false :: false :: true :: false :: false :: false :: false :: false :: []
def om_29_18000010 : List Bool := true :: true :: false :: false :: false :: false :: false :: false :: false :: false :: false :: false :: false :: false :: false :: false :: false :: false :: false :: false :: false :: false :: false :: false :: true :: false :: false :: false :: false :: []
def om_29_18000008 : List Bool := true :: true :: false :: false :: false :: false :: false :: false :: false :: false :: false :: false :: false :: false :: false :: false :: false :: false :: false :: false :: false :: false :: false :: false :: false :: true :: false :: false :: false :: []
def om_29_18000004 : List Bool := true :: true :: false :: false :: false :: false :: false :: false :: false :: false :: false :: false :: false :: false :: false :: false :: false :: false :: false :: false :: false :: false :: false :: false :: false :: false :: true :: false :: false :: []
def om_29_18000002 : List Bool := true :: true :: false :: false :: false :: false :: false :: false :: false :: false :: false :: false :: false :: false :: false :: false :: false :: false :: false :: false :: false :: false :: false :: false :: false :: false :: false :: true :: false :: []
def om_29_18000001 : List Bool := true :: true :: false :: false :: false :: false :: false :: false :: false :: false :: false :: false :: false :: false :: false :: false :: false :: false :: false :: false :: false :: false :: false :: false :: false :: false :: false :: false :: true :: []
def om_29_18000000 : List Bool := true :: true :: false :: false :: false :: false :: false :: false :: false :: false :: false :: false :: false :: false :: false :: false :: false :: false :: false :: false :: false :: false :: false :: false :: false :: false :: false :: false :: false :: []
def om_29_1ffffe00 : List Bool := true :: true :: true :: true :: true :: true :: true :: true :: true :: true :: true :: true :: true :: true :: true :: true :: true :: true :: true :: true :: false :: false :: false :: false :: false :: false :: false :: false :: false :: []
def om_29_18000180 : List Bool := true :: true :: false :: false :: false :: false :: false :: false :: false :: false :: false :: false :: false :: false :: false :: false :: false :: false :: false :: false :: true :: true :: false :: false :: false :: false :: false :: false :: false :: []
theorem hd_X12_codesTold_2 : skD yX12_codesTold 2 := by decide +kernel
theorem hd_X12_muteTold_0 : skD yX12_muteTold 0 := by decide +kernel
theorem hd_X12_dayTold_1 : skD yX12_dayTold 1 := by decide +kernel

