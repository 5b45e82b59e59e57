theorem w_6_192 : (Cond.arrayClass .char) ∈ wsL_law := sk_mem (ck_6 _ (List.mem_of_getElem? (i := 192) rfl)) rfl
theorem w_6_193 : (Cond.arrayClass .boolean) ∈ wsL_law := sk_mem (ck_6 _ (List.mem_of_getElem? (i := 193) rfl)) rfl
theorem w_5_153 : (Cond.code yX12_init cX12_init 1 none) ∈ wsL_law := sk_mem (ck_5 _ (List.mem_of_getElem? (i := 153) rfl)) rfl

