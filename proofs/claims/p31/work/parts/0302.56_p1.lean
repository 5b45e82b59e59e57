theorem dX12_isHere_58 : decode cX12_isHere 58 = .ok (.goto (-23), 3) := q_goto (bat_get dg_X12_isHere_43_90 20 rfl rfl) rfl
theorem w_6_222 : (Cond.methodLink RX12 207 yX12_look) ∈ wsL_law := sk_mem (ck_6 _ (List.mem_of_getElem? (i := 222) rfl)) rfl
theorem w_6_224 : (Cond.instanceMethod yX12_look) ∈ wsL_law := sk_mem (ck_6 _ (List.mem_of_getElem? (i := 224) rfl)) rfl
theorem w_0_45 : (Cond.selects RX12 yX12_look yX12_look) ∈ wsL_law := sk_mem (ck_0 _ (List.mem_of_getElem? (i := 45) rfl)) rfl
theorem w_6_226 : (Cond.methodLink RX12 211 yX12_isLetter) ∈ wsL_law := sk_mem (ck_6 _ (List.mem_of_getElem? (i := 226) rfl)) rfl
theorem w_6_227 : (Cond.static yX12_isLetter) ∈ wsL_law := sk_mem (ck_6 _ (List.mem_of_getElem? (i := 227) rfl)) rfl
theorem w_5_159 : (Cond.fieldLink RX12 215 "SameKeeperModel" "ended" "I") ∈ wsL_law := sk_mem (ck_5 _ (List.mem_of_getElem? (i := 159) rfl)) rfl
theorem w_6_221 : (Cond.code yX12_isHere cX12_isHere 4 (some .boolean)) ∈ wsL_law := sk_mem (ck_6 _ (List.mem_of_getElem? (i := 221) rfl)) rfl
theorem hd_X12_look_0 : skD yX12_look 0 := by decide +kernel
theorem hd_X12_isLetter_1 : skD yX12_isLetter 1 := by decide +kernel
theorem dg_X12_takes_0_0 : bqL cX12_takes 0 [(0, [42]), (1, [43]), (2, [182, 0, 218]), (5, [154, 0, 5]), (10, [42]), (11, [89]), (12, [180, 0, 201]), (15, [43]), (16, [190]), (17, [96]), (18, [181, 0, 201]), (21, [42]), (22, [42]), (23, [180, 0, 201]), (26, [181, 0, 215]), (29, [4]), (30, [172]), (8, [3]), (9, [172])] = true := by decide +kernel
theorem dX12_takes_0 : decode cX12_takes 0 = .ok (.aload_n 0, 1) := q_aload_n0 (bat_get dg_X12_takes_0_0 0 rfl rfl)
theorem dX12_takes_1 : decode cX12_takes 1 = .ok (.aload_n 1, 1) := q_aload_n1 (bat_get dg_X12_takes_0_0 1 rfl rfl)
theorem dX12_takes_2 : decode cX12_takes 2 = .ok (.invokevirtual 218, 3) := q_invokevirtual (bat_get dg_X12_takes_0_0 2 rfl rfl) rfl
theorem dX12_takes_5 : decode cX12_takes 5 = .ok (.ifCond .ne 5, 3) := q_ifCond_ne (bat_get dg_X12_takes_0_0 3 rfl rfl) rfl
theorem dX12_takes_10 : decode cX12_takes 10 = .ok (.aload_n 0, 1) := q_aload_n0 (bat_get dg_X12_takes_0_0 4 rfl rfl)
theorem dX12_takes_11 : decode cX12_takes 11 = .ok (.dup, 1) := q_dup (bat_get dg_X12_takes_0_0 5 rfl rfl)
theorem dX12_takes_12 : decode cX12_takes 12 = .ok (.getfield 201, 3) := q_getfield (bat_get dg_X12_takes_0_0 6 rfl rfl) rfl
theorem dX12_takes_15 : decode cX12_takes 15 = .ok (.aload_n 1, 1) := q_aload_n1 (bat_get dg_X12_takes_0_0 7 rfl rfl)
theorem dX12_takes_16 : decode cX12_takes 16 = .ok (.arraylength, 1) := q_arraylength (bat_get dg_X12_takes_0_0 8 rfl rfl)
theorem dX12_takes_17 : decode cX12_takes 17 = .ok (.iadd, 1) := q_iadd (bat_get dg_X12_takes_0_0 9 rfl rfl)
theorem dX12_takes_18 : decode cX12_takes 18 = .ok (.putfield 201, 3) := q_putfield (bat_get dg_X12_takes_0_0 10 rfl rfl) rfl
theorem dX12_takes_21 : decode cX12_takes 21 = .ok (.aload_n 0, 1) := q_aload_n0 (bat_get dg_X12_takes_0_0 11 rfl rfl)
theorem dX12_takes_22 : decode cX12_takes 22 = .ok (.aload_n 0, 1) := q_aload_n0 (bat_get dg_X12_takes_0_0 12 rfl rfl)
theorem dX12_takes_23 : decode cX12_takes 23 = .ok (.getfield 201, 3) := q_getfield (bat_get dg_X12_takes_0_0 13 rfl rfl) rfl
theorem dX12_takes_26 : decode cX12_takes 26 = .ok (.putfield 215, 3) := q_putfield (bat_get dg_X12_takes_0_0 14 rfl rfl) rfl
theorem dX12_takes_29 : decode cX12_takes 29 = .ok (.iconst 1, 1) := q_iconst1 (bat_get dg_X12_takes_0_0 15 rfl rfl)
theorem dX12_takes_30 : decode cX12_takes 30 = .ok (.ireturn, 1) := q_ireturn (bat_get dg_X12_takes_0_0 16 rfl rfl)
theorem dX12_takes_8 : decode cX12_takes 8 = .ok (.iconst 0, 1) := q_iconst0 (bat_get dg_X12_takes_0_0 17 rfl rfl)
theorem dX12_takes_9 : decode cX12_takes 9 = .ok (.ireturn, 1) := q_ireturn (bat_get dg_X12_takes_0_0 18 rfl rfl)
theorem w_6_218 : (Cond.methodLink RX12 218 yX12_isHere) ∈ wsL_law := sk_mem (ck_6 _ (List.mem_of_getElem? (i := 218) rfl)) rfl
theorem w_6_220 : (Cond.instanceMethod yX12_isHere) ∈ wsL_law := sk_mem (ck_6 _ (List.mem_of_getElem? (i := 220) rfl)) rfl
theorem w_0_44 : (Cond.selects RX12 yX12_isHere yX12_isHere) ∈ wsL_law := sk_mem (ck_0 _ (List.mem_of_getElem? (i := 44) rfl)) rfl
theorem w_6_217 : (Cond.code yX12_takes cX12_takes 2 (some .boolean)) ∈ wsL_law := sk_mem (ck_6 _ (List.mem_of_getElem? (i := 217) rfl)) rfl
theorem hd_X12_isHere_1 : skD yX12_isHere 1 := by decide +kernel
theorem dg_X12_asks_0_0 : bqL cX12_asks 0 [(0, [42]), (1, [180, 0, 195]), (4, [154, 0, 20]), (24, [177]), (7, [42]), (8, [43]), (9, [182, 0, 222]), (12, [154, 0, 12]), (15, [42]), (16, [4]), (17, [42]), (18, [180, 0, 201]), (21, [182, 0, 225])] = true := by decide +kernel
theorem dX12_asks_0 : decode cX12_asks 0 = .ok (.aload_n 0, 1) := q_aload_n0 (bat_get dg_X12_asks_0_0 0 rfl rfl)
theorem dX12_asks_1 : decode cX12_asks 1 = .ok (.getfield 195, 3) := q_getfield (bat_get dg_X12_asks_0_0 1 rfl rfl) rfl
theorem dX12_asks_4 : decode cX12_asks 4 = .ok (.ifCond .ne 20, 3) := q_ifCond_ne (bat_get dg_X12_asks_0_0 2 rfl rfl) rfl
theorem dX12_asks_24 : decode cX12_asks 24 = .ok (.return_, 1) := q_return_ (bat_get dg_X12_asks_0_0 3 rfl rfl)
theorem dX12_asks_7 : decode cX12_asks 7 = .ok (.aload_n 0, 1) := q_aload_n0 (bat_get dg_X12_asks_0_0 4 rfl rfl)
theorem dX12_asks_8 : decode cX12_asks 8 = .ok (.aload_n 1, 1) := q_aload_n1 (bat_get dg_X12_asks_0_0 5 rfl rfl)
theorem dX12_asks_9 : decode cX12_asks 9 = .ok (.invokevirtual 222, 3) := q_invokevirtual (bat_get dg_X12_asks_0_0 6 rfl rfl) rfl
theorem dX12_asks_12 : decode cX12_asks 12 = .ok (.ifCond .ne 12, 3) := q_ifCond_ne (bat_get dg_X12_asks_0_0 7 rfl rfl) rfl
theorem dX12_asks_15 : decode cX12_asks 15 = .ok (.aload_n 0, 1) := q_aload_n0 (bat_get dg_X12_asks_0_0 8 rfl rfl)
theorem dX12_asks_16 : decode cX12_asks 16 = .ok (.iconst 1, 1) := q_iconst1 (bat_get dg_X12_asks_0_0 9 rfl rfl)
theorem dX12_asks_17 : decode cX12_asks 17 = .ok (.aload_n 0, 1) := q_aload_n0 (bat_get dg_X12_asks_0_0 10 rfl rfl)
theorem dX12_asks_18 : decode cX12_asks 18 = .ok (.getfield 201, 3) := q_getfield (bat_get dg_X12_asks_0_0 11 rfl rfl) rfl
theorem dX12_asks_21 : decode cX12_asks 21 = .ok (.invokevirtual 225, 3) := q_invokevirtual (bat_get dg_X12_asks_0_0 12 rfl rfl) rfl
theorem w_6_214 : (Cond.methodLink RX12 222 yX12_takes) ∈ wsL_law := sk_mem (ck_6 _ (List.mem_of_getElem? (i := 214) rfl)) rfl
theorem w_6_216 : (Cond.instanceMethod yX12_takes) ∈ wsL_law := sk_mem (ck_6 _ (List.mem_of_getElem? (i := 216) rfl)) rfl
theorem w_0_43 : (Cond.selects RX12 yX12_takes yX12_takes) ∈ wsL_law := sk_mem (ck_0 _ (List.mem_of_getElem? (i := 43) rfl)) rfl
theorem w_6_229 : (Cond.methodLink RX12 225 yX12_fail) ∈ wsL_law := sk_mem (ck_6 _ (List.mem_of_getElem? (i := 229) rfl)) rfl
theorem w_6_231 : (Cond.instanceMethod yX12_fail) ∈ wsL_law := sk_mem (ck_6 _ (List.mem_of_getElem? (i := 231) rfl)) rfl
theorem w_0_46 : (Cond.selects RX12 yX12_fail yX12_fail) ∈ wsL_law := sk_mem (ck_0 _ (List.mem_of_getElem? (i := 46) rfl)) rfl
theorem w_6_213 : (Cond.code yX12_asks cX12_asks 2 none) ∈ wsL_law := sk_mem (ck_6 _ (List.mem_of_getElem? (i := 213) rfl)) rfl
theorem hd_X12_takes_1 : skD yX12_takes 1 := by decide +kernel
theorem hd_X12_fail_2 : skD yX12_fail 2 := by decide +kernel
theorem dg_X12_takesSign_0_0 : bqL cX12_takesSign 0 [(0, [42]), (1, [180, 0, 195]), (4, [154, 0, 11]), (15, [3]), (16, [172]), (7, [42]), (8, [182, 0, 207]), (11, [27]), (12, [159, 0, 5]), (17, [42]), (18, [89]), (19, [180, 0, 201]), (22, [4]), (23, [96]), (24, [181, 0, 201]), (27, [4]), (28, [172])] = true := by decide +kernel
theorem dX12_takesSign_0 : decode cX12_takesSign 0 = .ok (.aload_n 0, 1) := q_aload_n0 (bat_get dg_X12_takesSign_0_0 0 rfl rfl)
theorem dX12_takesSign_1 : decode cX12_takesSign 1 = .ok (.getfield 195, 3) := q_getfield (bat_get dg_X12_takesSign_0_0 1 rfl rfl) rfl
theorem dX12_takesSign_4 : decode cX12_takesSign 4 = .ok (.ifCond .ne 11, 3) := q_ifCond_ne (bat_get dg_X12_takesSign_0_0 2 rfl rfl) rfl
theorem dX12_takesSign_15 : decode cX12_takesSign 15 = .ok (.iconst 0, 1) := q_iconst0 (bat_get dg_X12_takesSign_0_0 3 rfl rfl)
theorem dX12_takesSign_16 : decode cX12_takesSign 16 = .ok (.ireturn, 1) := q_ireturn (bat_get dg_X12_takesSign_0_0 4 rfl rfl)
theorem dX12_takesSign_7 : decode cX12_takesSign 7 = .ok (.aload_n 0, 1) := q_aload_n0 (bat_get dg_X12_takesSign_0_0 5 rfl rfl)
theorem dX12_takesSign_8 : decode cX12_takesSign 8 = .ok (.invokevirtual 207, 3) := q_invokevirtual (bat_get dg_X12_takesSign_0_0 6 rfl rfl) rfl
theorem dX12_takesSign_11 : decode cX12_takesSign 11 = .ok (.iload_n 1, 1) := q_iload_n1 (bat_get dg_X12_takesSign_0_0 7 rfl rfl)
theorem dX12_takesSign_12 : decode cX12_takesSign 12 = .ok (.if_icmp .eq 5, 3) := q_if_icmp_eq (bat_get dg_X12_takesSign_0_0 8 rfl rfl) rfl
theorem dX12_takesSign_17 : decode cX12_takesSign 17 = .ok (.aload_n 0, 1) := q_aload_n0 (bat_get dg_X12_takesSign_0_0 9 rfl rfl)
theorem dX12_takesSign_18 : decode cX12_takesSign 18 = .ok (.dup, 1) := q_dup (bat_get dg_X12_takesSign_0_0 10 rfl rfl)
theorem dX12_takesSign_19 : decode cX12_takesSign 19 = .ok (.getfield 201, 3) := q_getfield (bat_get dg_X12_takesSign_0_0 11 rfl rfl) rfl
theorem dX12_takesSign_22 : decode cX12_takesSign 22 = .ok (.iconst 1, 1) := q_iconst1 (bat_get dg_X12_takesSign_0_0 12 rfl rfl)
theorem dX12_takesSign_23 : decode cX12_takesSign 23 = .ok (.iadd, 1) := q_iadd (bat_get dg_X12_takesSign_0_0 13 rfl rfl)
theorem dX12_takesSign_24 : decode cX12_takesSign 24 = .ok (.putfield 201, 3) := q_putfield (bat_get dg_X12_takesSign_0_0 14 rfl rfl) rfl
theorem dX12_takesSign_27 : decode cX12_takesSign 27 = .ok (.iconst 1, 1) := q_iconst1 (bat_get dg_X12_takesSign_0_0 15 rfl rfl)
theorem dX12_takesSign_28 : decode cX12_takesSign 28 = .ok (.ireturn, 1) := q_ireturn (bat_get dg_X12_takesSign_0_0 16 rfl rfl)
theorem w_7_10 : (Cond.code yX12_takesSign cX12_takesSign 2 (some .boolean)) ∈ wsL_law := sk_mem (ck_7 _ (List.mem_of_getElem? (i := 10) rfl)) rfl
theorem dg_X12_asksSign_0_0 : bqL cX12_asksSign 0 [(0, [42]), (1, [180, 0, 195]), (4, [154, 0, 20]), (24, [177]), (7, [42]), (8, [27]), (9, [182, 0, 229]), (12, [154, 0, 12]), (15, [42]), (16, [4]), (17, [42]), (18, [180, 0, 201]), (21, [182, 0, 225])] = true := by decide +kernel
theorem dX12_asksSign_0 : decode cX12_asksSign 0 = .ok (.aload_n 0, 1) := q_aload_n0 (bat_get dg_X12_asksSign_0_0 0 rfl rfl)
theorem dX12_asksSign_1 : decode cX12_asksSign 1 = .ok (.getfield 195, 3) := q_getfield (bat_get dg_X12_asksSign_0_0 1 rfl rfl) rfl
theorem dX12_asksSign_4 : decode cX12_asksSign 4 = .ok (.ifCond .ne 20, 3) := q_ifCond_ne (bat_get dg_X12_asksSign_0_0 2 rfl rfl) rfl
theorem dX12_asksSign_24 : decode cX12_asksSign 24 = .ok (.return_, 1) := q_return_ (bat_get dg_X12_asksSign_0_0 3 rfl rfl)
theorem dX12_asksSign_7 : decode cX12_asksSign 7 = .ok (.aload_n 0, 1) := q_aload_n0 (bat_get dg_X12_asksSign_0_0 4 rfl rfl)
theorem dX12_asksSign_8 : decode cX12_asksSign 8 = .ok (.iload_n 1, 1) := q_iload_n1 (bat_get dg_X12_asksSign_0_0 5 rfl rfl)
theorem dX12_asksSign_9 : decode cX12_asksSign 9 = .ok (.invokevirtual 229, 3) := q_invokevirtual (bat_get dg_X12_asksSign_0_0 6 rfl rfl) rfl
theorem dX12_asksSign_12 : decode cX12_asksSign 12 = .ok (.ifCond .ne 12, 3) := q_ifCond_ne (bat_get dg_X12_asksSign_0_0 7 rfl rfl) rfl
theorem dX12_asksSign_15 : decode cX12_asksSign 15 = .ok (.aload_n 0, 1) := q_aload_n0 (bat_get dg_X12_asksSign_0_0 8 rfl rfl)
theorem dX12_asksSign_16 : decode cX12_asksSign 16 = .ok (.iconst 1, 1) := q_iconst1 (bat_get dg_X12_asksSign_0_0 9 rfl rfl)
theorem dX12_asksSign_17 : decode cX12_asksSign 17 = .ok (.aload_n 0, 1) := q_aload_n0 (bat_get dg_X12_asksSign_0_0 10 rfl rfl)
theorem dX12_asksSign_18 : decode cX12_asksSign 18 = .ok (.getfield 201, 3) := q_getfield (bat_get dg_X12_asksSign_0_0 11 rfl rfl) rfl
theorem dX12_asksSign_21 : decode cX12_asksSign 21 = .ok (.invokevirtual 225, 3) := q_invokevirtual (bat_get dg_X12_asksSign_0_0 12 rfl rfl) rfl
theorem w_7_7 : (Cond.methodLink RX12 229 yX12_takesSign) ∈ wsL_law := sk_mem (ck_7 _ (List.mem_of_getElem? (i := 7) rfl)) rfl
theorem w_7_9 : (Cond.instanceMethod yX12_takesSign) ∈ wsL_law := sk_mem (ck_7 _ (List.mem_of_getElem? (i := 9) rfl)) rfl
theorem w_0_49 : (Cond.selects RX12 yX12_takesSign yX12_takesSign) ∈ wsL_law := sk_mem (ck_0 _ (List.mem_of_getElem? (i := 49) rfl)) rfl
theorem w_7_6 : (Cond.code yX12_asksSign cX12_asksSign 2 none) ∈ wsL_law := sk_mem (ck_7 _ (List.mem_of_getElem? (i := 6) rfl)) rfl
def om_2_2 : List Bool := true :: false :: []
theorem hd_X12_takesSign_1 : skD yX12_takesSign 1 := by decide +kernel
theorem i2l_le {a b : Nat} (ha : a < 2147483648) (hb : b < 2147483648) (h : Int32.toInt64 (nI a) ≤ Int32.toInt64 (nI b)) : a ≤ b := by
  have h1 := Int64.le_iff_toInt_le.mp h
  rw [lgv a ha, lgv b hb] at h1
  omega
theorem dg_X12_number_0_0 : bqL cX12_number 0 [(0, [42]), (1, [180, 0, 195]), (4, [153, 0, 5]), (9, [42]), (10, [182, 0, 207]), (13, [184, 0, 232]), (16, [153, 0, 14]), (30, [42]), (31, [4]), (32, [42]), (33, [180, 0, 201]), (36, [182, 0, 225]), (39, [3]), (40, [172]), (19, [42]), (20, [180, 0, 201]), (23, [42]), (24, [180, 0, 215]), (27, [160, 0, 14]), (41, [42]), (42, [180, 0, 201]), (45, [62]), (46, [3]), (47, [54, 4]), (49, [42]), (50, [180, 0, 201]), (53, [42]), (54, [180, 0, 204]), (57, [162, 0, 72]), (129, [42]), (130, [42]), (131, [180, 0, 201]), (134, [181, 0, 215]), (137, [42]), (138, [29]), (139, [181, 0, 235]), (142, [21, 4]), (144, [133]), (145, [27]), (146, [133])] = true := by decide +kernel
theorem dX12_number_0 : decode cX12_number 0 = .ok (.aload_n 0, 1) := q_aload_n0 (bat_get dg_X12_number_0_0 0 rfl rfl)
theorem dX12_number_1 : decode cX12_number 1 = .ok (.getfield 195, 3) := q_getfield (bat_get dg_X12_number_0_0 1 rfl rfl) rfl
theorem dX12_number_4 : decode cX12_number 4 = .ok (.ifCond .eq 5, 3) := q_ifCond_eq (bat_get dg_X12_number_0_0 2 rfl rfl) rfl
theorem dX12_number_9 : decode cX12_number 9 = .ok (.aload_n 0, 1) := q_aload_n0 (bat_get dg_X12_number_0_0 3 rfl rfl)
theorem dX12_number_10 : decode cX12_number 10 = .ok (.invokevirtual 207, 3) := q_invokevirtual (bat_get dg_X12_number_0_0 4 rfl rfl) rfl
theorem dX12_number_13 : decode cX12_number 13 = .ok (.invokestatic 232, 3) := q_invokestatic (bat_get dg_X12_number_0_0 5 rfl rfl) rfl
theorem dX12_number_16 : decode cX12_number 16 = .ok (.ifCond .eq 14, 3) := q_ifCond_eq (bat_get dg_X12_number_0_0 6 rfl rfl) rfl
theorem dX12_number_30 : decode cX12_number 30 = .ok (.aload_n 0, 1) := q_aload_n0 (bat_get dg_X12_number_0_0 7 rfl rfl)
theorem dX12_number_31 : decode cX12_number 31 = .ok (.iconst 1, 1) := q_iconst1 (bat_get dg_X12_number_0_0 8 rfl rfl)
theorem dX12_number_32 : decode cX12_number 32 = .ok (.aload_n 0, 1) := q_aload_n0 (bat_get dg_X12_number_0_0 9 rfl rfl)
theorem dX12_number_33 : decode cX12_number 33 = .ok (.getfield 201, 3) := q_getfield (bat_get dg_X12_number_0_0 10 rfl rfl) rfl
theorem dX12_number_36 : decode cX12_number 36 = .ok (.invokevirtual 225, 3) := q_invokevirtual (bat_get dg_X12_number_0_0 11 rfl rfl) rfl
theorem dX12_number_39 : decode cX12_number 39 = .ok (.iconst 0, 1) := q_iconst0 (bat_get dg_X12_number_0_0 12 rfl rfl)
theorem dX12_number_40 : decode cX12_number 40 = .ok (.ireturn, 1) := q_ireturn (bat_get dg_X12_number_0_0 13 rfl rfl)
theorem dX12_number_19 : decode cX12_number 19 = .ok (.aload_n 0, 1) := q_aload_n0 (bat_get dg_X12_number_0_0 14 rfl rfl)
theorem dX12_number_20 : decode cX12_number 20 = .ok (.getfield 201, 3) := q_getfield (bat_get dg_X12_number_0_0 15 rfl rfl) rfl
theorem dX12_number_23 : decode cX12_number 23 = .ok (.aload_n 0, 1) := q_aload_n0 (bat_get dg_X12_number_0_0 16 rfl rfl)
theorem dX12_number_24 : decode cX12_number 24 = .ok (.getfield 215, 3) := q_getfield (bat_get dg_X12_number_0_0 17 rfl rfl) rfl
theorem dX12_number_27 : decode cX12_number 27 = .ok (.if_icmp .ne 14, 3) := q_if_icmp_ne (bat_get dg_X12_number_0_0 18 rfl rfl) rfl
theorem dX12_number_41 : decode cX12_number 41 = .ok (.aload_n 0, 1) := q_aload_n0 (bat_get dg_X12_number_0_0 19 rfl rfl)
theorem dX12_number_42 : decode cX12_number 42 = .ok (.getfield 201, 3) := q_getfield (bat_get dg_X12_number_0_0 20 rfl rfl) rfl
theorem dX12_number_45 : decode cX12_number 45 = .ok (.istore_n 3, 1) := q_istore_n3 (bat_get dg_X12_number_0_0 21 rfl rfl)
