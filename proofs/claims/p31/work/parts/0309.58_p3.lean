theorem dX12_qPartTold_158 : decode cX12_qPartTold 158 = .ok (.aload_n 0, 1) := q_aload_n0 (bat_get dg_X12_qPartTold_33_126 22 rfl rfl)
theorem dX12_qPartTold_159 : decode cX12_qPartTold 159 = .ok (.bipush 60, 2) := q_bipush (bat_get dg_X12_qPartTold_33_126 23 rfl rfl) rfl
theorem dX12_qPartTold_161 : decode cX12_qPartTold 161 = .ok (.iload_n 3, 1) := q_iload_n3 (bat_get dg_X12_qPartTold_33_126 24 rfl rfl)
theorem dX12_qPartTold_162 : decode cX12_qPartTold 162 = .ok (.iadd, 1) := q_iadd (bat_get dg_X12_qPartTold_33_126 25 rfl rfl)
theorem dX12_qPartTold_163 : decode cX12_qPartTold 163 = .ok (.bipush 10, 2) := q_bipush (bat_get dg_X12_qPartTold_33_126 26 rfl rfl) rfl
theorem dX12_qPartTold_165 : decode cX12_qPartTold 165 = .ok (.isub, 1) := q_isub (bat_get dg_X12_qPartTold_33_126 27 rfl rfl)
theorem dX12_qPartTold_166 : decode cX12_qPartTold 166 = .ok (.aload_n 0, 1) := q_aload_n0 (bat_get dg_X12_qPartTold_33_126 28 rfl rfl)
theorem dX12_qPartTold_167 : decode cX12_qPartTold 167 = .ok (.getfield 201, 3) := q_getfield (bat_get dg_X12_qPartTold_33_126 29 rfl rfl) rfl
theorem dX12_qPartTold_170 : decode cX12_qPartTold 170 = .ok (.invokevirtual 516, 3) := q_invokevirtual (bat_get dg_X12_qPartTold_33_126 30 rfl rfl) rfl
theorem dX12_qPartTold_173 : decode cX12_qPartTold 173 = .ok (.aload_n 0, 1) := q_aload_n0 (bat_get dg_X12_qPartTold_33_126 31 rfl rfl)
theorem dX12_qPartTold_174 : decode cX12_qPartTold 174 = .ok (.iload_n 3, 1) := q_iload_n3 (bat_get dg_X12_qPartTold_33_126 32 rfl rfl)
theorem dX12_qPartTold_175 : decode cX12_qPartTold 175 = .ok (.invokevirtual 519, 3) := q_invokevirtual (bat_get dg_X12_qPartTold_33_126 33 rfl rfl) rfl
theorem dX12_qPartTold_178 : decode cX12_qPartTold 178 = .ok (.goto 5, 3) := q_goto (bat_get dg_X12_qPartTold_33_126 34 rfl rfl) rfl
theorem dX12_qPartTold_33 : decode cX12_qPartTold 33 = .ok (.aload_n 0, 1) := q_aload_n0 (bat_get dg_X12_qPartTold_33_126 35 rfl rfl)
theorem dX12_qPartTold_34 : decode cX12_qPartTold 34 = .ok (.bipush 20, 2) := q_bipush (bat_get dg_X12_qPartTold_33_126 36 rfl rfl) rfl
theorem dX12_qPartTold_36 : decode cX12_qPartTold 36 = .ok (.aload_n 0, 1) := q_aload_n0 (bat_get dg_X12_qPartTold_33_126 37 rfl rfl)
theorem dX12_qPartTold_37 : decode cX12_qPartTold 37 = .ok (.getfield 201, 3) := q_getfield (bat_get dg_X12_qPartTold_33_126 38 rfl rfl) rfl
theorem dX12_qPartTold_40 : decode cX12_qPartTold 40 = .ok (.invokevirtual 516, 3) := q_invokevirtual (bat_get dg_X12_qPartTold_33_126 39 rfl rfl) rfl
theorem dg_X12_qPartTold_43_43 : bqL cX12_qPartTold 43 [(0, [42]), (1, [89]), (2, [180, 0, 201]), (5, [4]), (6, [96]), (7, [181, 0, 201]), (10, [167, 0, 130])] = true := by decide +kernel
theorem dX12_qPartTold_43 : decode cX12_qPartTold 43 = .ok (.aload_n 0, 1) := q_aload_n0 (bat_get dg_X12_qPartTold_43_43 0 rfl rfl)
theorem dX12_qPartTold_44 : decode cX12_qPartTold 44 = .ok (.dup, 1) := q_dup (bat_get dg_X12_qPartTold_43_43 1 rfl rfl)
theorem dX12_qPartTold_45 : decode cX12_qPartTold 45 = .ok (.getfield 201, 3) := q_getfield (bat_get dg_X12_qPartTold_43_43 2 rfl rfl) rfl
theorem dX12_qPartTold_48 : decode cX12_qPartTold 48 = .ok (.iconst 1, 1) := q_iconst1 (bat_get dg_X12_qPartTold_43_43 3 rfl rfl)
theorem dX12_qPartTold_49 : decode cX12_qPartTold 49 = .ok (.iadd, 1) := q_iadd (bat_get dg_X12_qPartTold_43_43 4 rfl rfl)
theorem dX12_qPartTold_50 : decode cX12_qPartTold 50 = .ok (.putfield 201, 3) := q_putfield (bat_get dg_X12_qPartTold_43_43 5 rfl rfl) rfl
theorem dX12_qPartTold_53 : decode cX12_qPartTold 53 = .ok (.goto 130, 3) := q_goto (bat_get dg_X12_qPartTold_43_43 6 rfl rfl) rfl
theorem w_7_35 : (Cond.methodLink RX12 513 yX12_qWordOf) ∈ wsL_law := sk_mem (ck_7 _ (List.mem_of_getElem? (i := 35) rfl)) rfl
theorem w_7_37 : (Cond.instanceMethod yX12_qWordOf) ∈ wsL_law := sk_mem (ck_7 _ (List.mem_of_getElem? (i := 37) rfl)) rfl
theorem w_0_56 : (Cond.selects RX12 yX12_qWordOf yX12_qWordOf) ∈ wsL_law := sk_mem (ck_0 _ (List.mem_of_getElem? (i := 56) rfl)) rfl
theorem w_6_233 : (Cond.methodLink RX12 249 yX12_number) ∈ wsL_law := sk_mem (ck_6 _ (List.mem_of_getElem? (i := 233) rfl)) rfl
theorem w_6_235 : (Cond.instanceMethod yX12_number) ∈ wsL_law := sk_mem (ck_6 _ (List.mem_of_getElem? (i := 235) rfl)) rfl
theorem w_0_47 : (Cond.selects RX12 yX12_number yX12_number) ∈ wsL_law := sk_mem (ck_0 _ (List.mem_of_getElem? (i := 47) rfl)) rfl
theorem w_7_59 : (Cond.methodLink RX12 522 yX12_qEndsPart) ∈ wsL_law := sk_mem (ck_7 _ (List.mem_of_getElem? (i := 59) rfl)) rfl
theorem w_7_61 : (Cond.instanceMethod yX12_qEndsPart) ∈ wsL_law := sk_mem (ck_7 _ (List.mem_of_getElem? (i := 61) rfl)) rfl
theorem w_0_62 : (Cond.selects RX12 yX12_qEndsPart yX12_qEndsPart) ∈ wsL_law := sk_mem (ck_0 _ (List.mem_of_getElem? (i := 62) rfl)) rfl
theorem w_7_51 : (Cond.methodLink RX12 519 yX12_qAsksWord) ∈ wsL_law := sk_mem (ck_7 _ (List.mem_of_getElem? (i := 51) rfl)) rfl
theorem w_7_53 : (Cond.instanceMethod yX12_qAsksWord) ∈ wsL_law := sk_mem (ck_7 _ (List.mem_of_getElem? (i := 53) rfl)) rfl
theorem w_0_60 : (Cond.selects RX12 yX12_qAsksWord yX12_qAsksWord) ∈ wsL_law := sk_mem (ck_0 _ (List.mem_of_getElem? (i := 60) rfl)) rfl
theorem w_5_223 : (Cond.fieldLink RX12 144 "SameKeeperModel" "minAsked" "[C") ∈ wsL_law := sk_mem (ck_5 _ (List.mem_of_getElem? (i := 223) rfl)) rfl
theorem w_7_3 : (Cond.methodLink RX12 253 yX12_asksSign) ∈ wsL_law := sk_mem (ck_7 _ (List.mem_of_getElem? (i := 3) rfl)) rfl
theorem w_7_5 : (Cond.instanceMethod yX12_asksSign) ∈ wsL_law := sk_mem (ck_7 _ (List.mem_of_getElem? (i := 5) rfl)) rfl
theorem w_0_48 : (Cond.selects RX12 yX12_asksSign yX12_asksSign) ∈ wsL_law := sk_mem (ck_0 _ (List.mem_of_getElem? (i := 48) rfl)) rfl
theorem w_7_47 : (Cond.methodLink RX12 516 yX12_qOpens) ∈ wsL_law := sk_mem (ck_7 _ (List.mem_of_getElem? (i := 47) rfl)) rfl
theorem w_7_49 : (Cond.instanceMethod yX12_qOpens) ∈ wsL_law := sk_mem (ck_7 _ (List.mem_of_getElem? (i := 49) rfl)) rfl
theorem w_0_59 : (Cond.selects RX12 yX12_qOpens yX12_qOpens) ∈ wsL_law := sk_mem (ck_0 _ (List.mem_of_getElem? (i := 59) rfl)) rfl
theorem w_5_224 : (Cond.fieldLink RX12 147 "SameKeeperModel" "maxAsked" "[C") ∈ wsL_law := sk_mem (ck_5 _ (List.mem_of_getElem? (i := 224) rfl)) rfl
theorem w_7_34 : (Cond.code yX12_qPartTold cX12_qPartTold 6 none) ∈ wsL_law := sk_mem (ck_7 _ (List.mem_of_getElem? (i := 34) rfl)) rfl
def om_17_187ff : List Bool := true :: true :: false :: false :: false :: false :: true :: true :: true :: true :: true :: true :: true :: true :: true :: true :: true :: []
def om_17_18000 : List Bool := true :: true :: false :: false :: false :: false :: false :: false :: false :: false :: false :: false :: false :: false :: false :: false :: false :: []
def om_17_14000 : List Bool := true :: false :: true :: false :: false :: false :: false :: false :: false :: false :: false :: false :: false :: false :: false :: false :: false :: []
def om_17_16000 : List Bool := true :: false :: true :: true :: false :: false :: false :: false :: false :: false :: false :: false :: false :: false :: false :: false :: false :: []
def om_17_19000 : List Bool := true :: true :: false :: false :: true :: false :: false :: false :: false :: false :: false :: false :: false :: false :: false :: false :: false :: []
def om_17_12000 : List Bool := true :: false :: false :: true :: false :: false :: false :: false :: false :: false :: false :: false :: false :: false :: false :: false :: false :: []
def om_17_18800 : List Bool := true :: true :: false :: false :: false :: true :: false :: false :: false :: false :: false :: false :: false :: false :: false :: false :: false :: []
theorem hd_X12_qWordOf_2 : skD yX12_qWordOf 2 := by decide +kernel
theorem hd_X12_number_2 : skD yX12_number 2 := by decide +kernel
theorem hd_X12_qEndsPart_0 : skD yX12_qEndsPart 0 := by decide +kernel
theorem hd_X12_qAsksWord_1 : skD yX12_qAsksWord 1 := by decide +kernel
theorem hd_X12_asksSign_1 : skD yX12_asksSign 1 := by decide +kernel
theorem hd_X12_qOpens_2 : skD yX12_qOpens 2 := by decide +kernel

