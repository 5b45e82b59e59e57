theorem dg_X7_copy_0_0 : bqL cX7_copy 0 [(0, [42]), (1, [43]), (2, [180, 0, 18]), (5, [181, 0, 18]), (8, [42]), (9, [43]), (10, [180, 0, 22]), (13, [181, 0, 22]), (16, [42]), (17, [43]), (18, [180, 0, 25]), (21, [181, 0, 25]), (24, [42]), (25, [43]), (26, [180, 0, 28]), (29, [181, 0, 28]), (32, [42]), (33, [43]), (34, [180, 0, 31]), (37, [181, 0, 31]), (40, [43]), (41, [180, 0, 9]), (44, [3]), (45, [42]), (46, [180, 0, 9]), (49, [3]), (50, [16, 9]), (52, [184, 0, 40]), (55, [43]), (56, [180, 0, 15]), (59, [3]), (60, [42]), (61, [180, 0, 15]), (64, [3]), (65, [16, 9]), (67, [184, 0, 40]), (70, [177])] = true := by decide +kernel
theorem dX7_copy_0 : decode cX7_copy 0 = .ok (.aload_n 0, 1) := q_aload_n0 (bat_get dg_X7_copy_0_0 0 rfl rfl)
theorem dX7_copy_1 : decode cX7_copy 1 = .ok (.aload_n 1, 1) := q_aload_n1 (bat_get dg_X7_copy_0_0 1 rfl rfl)
theorem dX7_copy_2 : decode cX7_copy 2 = .ok (.getfield 18, 3) := q_getfield (bat_get dg_X7_copy_0_0 2 rfl rfl) rfl
theorem dX7_copy_5 : decode cX7_copy 5 = .ok (.putfield 18, 3) := q_putfield (bat_get dg_X7_copy_0_0 3 rfl rfl) rfl
theorem dX7_copy_8 : decode cX7_copy 8 = .ok (.aload_n 0, 1) := q_aload_n0 (bat_get dg_X7_copy_0_0 4 rfl rfl)
theorem dX7_copy_9 : decode cX7_copy 9 = .ok (.aload_n 1, 1) := q_aload_n1 (bat_get dg_X7_copy_0_0 5 rfl rfl)
theorem dX7_copy_10 : decode cX7_copy 10 = .ok (.getfield 22, 3) := q_getfield (bat_get dg_X7_copy_0_0 6 rfl rfl) rfl
theorem dX7_copy_13 : decode cX7_copy 13 = .ok (.putfield 22, 3) := q_putfield (bat_get dg_X7_copy_0_0 7 rfl rfl) rfl
theorem dX7_copy_16 : decode cX7_copy 16 = .ok (.aload_n 0, 1) := q_aload_n0 (bat_get dg_X7_copy_0_0 8 rfl rfl)
theorem dX7_copy_17 : decode cX7_copy 17 = .ok (.aload_n 1, 1) := q_aload_n1 (bat_get dg_X7_copy_0_0 9 rfl rfl)
theorem dX7_copy_18 : decode cX7_copy 18 = .ok (.getfield 25, 3) := q_getfield (bat_get dg_X7_copy_0_0 10 rfl rfl) rfl
theorem dX7_copy_21 : decode cX7_copy 21 = .ok (.putfield 25, 3) := q_putfield (bat_get dg_X7_copy_0_0 11 rfl rfl) rfl
theorem dX7_copy_24 : decode cX7_copy 24 = .ok (.aload_n 0, 1) := q_aload_n0 (bat_get dg_X7_copy_0_0 12 rfl rfl)
theorem dX7_copy_25 : decode cX7_copy 25 = .ok (.aload_n 1, 1) := q_aload_n1 (bat_get dg_X7_copy_0_0 13 rfl rfl)
theorem dX7_copy_26 : decode cX7_copy 26 = .ok (.getfield 28, 3) := q_getfield (bat_get dg_X7_copy_0_0 14 rfl rfl) rfl
theorem dX7_copy_29 : decode cX7_copy 29 = .ok (.putfield 28, 3) := q_putfield (bat_get dg_X7_copy_0_0 15 rfl rfl) rfl
theorem dX7_copy_32 : decode cX7_copy 32 = .ok (.aload_n 0, 1) := q_aload_n0 (bat_get dg_X7_copy_0_0 16 rfl rfl)
theorem dX7_copy_33 : decode cX7_copy 33 = .ok (.aload_n 1, 1) := q_aload_n1 (bat_get dg_X7_copy_0_0 17 rfl rfl)
theorem dX7_copy_34 : decode cX7_copy 34 = .ok (.getfield 31, 3) := q_getfield (bat_get dg_X7_copy_0_0 18 rfl rfl) rfl
theorem dX7_copy_37 : decode cX7_copy 37 = .ok (.putfield 31, 3) := q_putfield (bat_get dg_X7_copy_0_0 19 rfl rfl) rfl
theorem dX7_copy_40 : decode cX7_copy 40 = .ok (.aload_n 1, 1) := q_aload_n1 (bat_get dg_X7_copy_0_0 20 rfl rfl)
theorem dX7_copy_41 : decode cX7_copy 41 = .ok (.getfield 9, 3) := q_getfield (bat_get dg_X7_copy_0_0 21 rfl rfl) rfl
theorem dX7_copy_44 : decode cX7_copy 44 = .ok (.iconst 0, 1) := q_iconst0 (bat_get dg_X7_copy_0_0 22 rfl rfl)
theorem dX7_copy_45 : decode cX7_copy 45 = .ok (.aload_n 0, 1) := q_aload_n0 (bat_get dg_X7_copy_0_0 23 rfl rfl)
theorem dX7_copy_46 : decode cX7_copy 46 = .ok (.getfield 9, 3) := q_getfield (bat_get dg_X7_copy_0_0 24 rfl rfl) rfl
theorem dX7_copy_49 : decode cX7_copy 49 = .ok (.iconst 0, 1) := q_iconst0 (bat_get dg_X7_copy_0_0 25 rfl rfl)
theorem dX7_copy_50 : decode cX7_copy 50 = .ok (.bipush 9, 2) := q_bipush (bat_get dg_X7_copy_0_0 26 rfl rfl) rfl
theorem dX7_copy_52 : decode cX7_copy 52 = .ok (.invokestatic 40, 3) := q_invokestatic (bat_get dg_X7_copy_0_0 27 rfl rfl) rfl
theorem dX7_copy_55 : decode cX7_copy 55 = .ok (.aload_n 1, 1) := q_aload_n1 (bat_get dg_X7_copy_0_0 28 rfl rfl)
theorem dX7_copy_56 : decode cX7_copy 56 = .ok (.getfield 15, 3) := q_getfield (bat_get dg_X7_copy_0_0 29 rfl rfl) rfl
theorem dX7_copy_59 : decode cX7_copy 59 = .ok (.iconst 0, 1) := q_iconst0 (bat_get dg_X7_copy_0_0 30 rfl rfl)
theorem dX7_copy_60 : decode cX7_copy 60 = .ok (.aload_n 0, 1) := q_aload_n0 (bat_get dg_X7_copy_0_0 31 rfl rfl)
theorem dX7_copy_61 : decode cX7_copy 61 = .ok (.getfield 15, 3) := q_getfield (bat_get dg_X7_copy_0_0 32 rfl rfl) rfl
theorem dX7_copy_64 : decode cX7_copy 64 = .ok (.iconst 0, 1) := q_iconst0 (bat_get dg_X7_copy_0_0 33 rfl rfl)
theorem dX7_copy_65 : decode cX7_copy 65 = .ok (.bipush 9, 2) := q_bipush (bat_get dg_X7_copy_0_0 34 rfl rfl) rfl
theorem dX7_copy_67 : decode cX7_copy 67 = .ok (.invokestatic 40, 3) := q_invokestatic (bat_get dg_X7_copy_0_0 35 rfl rfl) rfl
theorem dX7_copy_70 : decode cX7_copy 70 = .ok (.return_, 1) := q_return_ (bat_get dg_X7_copy_0_0 36 rfl rfl)
theorem w_1_238 : (Cond.fieldLink RX7 18 "SameKeeper$State" "days" "I") ∈ wsL_law := sk_mem (ck_1 _ (List.mem_of_getElem? (i := 238) rfl)) rfl
theorem w_2_3 : (Cond.fieldLink RX7 22 "SameKeeper$State" "week" "I") ∈ wsL_law := sk_mem (ck_2 _ (List.mem_of_getElem? (i := 3) rfl)) rfl
theorem w_2_8 : (Cond.fieldLink RX7 25 "SameKeeper$State" "mood" "I") ∈ wsL_law := sk_mem (ck_2 _ (List.mem_of_getElem? (i := 8) rfl)) rfl
theorem w_2_11 : (Cond.fieldLink RX7 28 "SameKeeper$State" "mute" "I") ∈ wsL_law := sk_mem (ck_2 _ (List.mem_of_getElem? (i := 11) rfl)) rfl
theorem w_2_13 : (Cond.fieldLink RX7 31 "SameKeeper$State" "kept" "I") ∈ wsL_law := sk_mem (ck_2 _ (List.mem_of_getElem? (i := 13) rfl)) rfl
theorem w_1_230 : (Cond.fieldLink RX7 9 "SameKeeper$State" "barge" "[I") ∈ wsL_law := sk_mem (ck_1 _ (List.mem_of_getElem? (i := 230) rfl)) rfl
theorem w_3_152 : (Cond.methodLink RX7 40 arraycopyName) ∈ wsL_law := sk_mem (ck_3 _ (List.mem_of_getElem? (i := 152) rfl)) rfl
theorem w_3_154 : (Cond.native arraycopyName) ∈ wsL_law := sk_mem (ck_3 _ (List.mem_of_getElem? (i := 154) rfl)) rfl
theorem w_3_153 : (Cond.static arraycopyName) ∈ wsL_law := sk_mem (ck_3 _ (List.mem_of_getElem? (i := 153) rfl)) rfl
theorem w_1_20 : (Cond.initialized "java/lang/System") ∈ wsL_law := sk_mem (ck_1 _ (List.mem_of_getElem? (i := 20) rfl)) rfl
theorem w_1_234 : (Cond.fieldLink RX7 15 "SameKeeper$State" "wet" "[I") ∈ wsL_law := sk_mem (ck_1 _ (List.mem_of_getElem? (i := 234) rfl)) rfl
theorem w_4_135 : (Cond.code yX7_copy cX7_copy 2 none) ∈ wsL_law := sk_mem (ck_4 _ (List.mem_of_getElem? (i := 135) rfl)) rfl
theorem dg_X7_begin_0_0 : bqL cX7_begin 0 [(0, [42]), (1, [43]), (2, [180, 0, 34]), (5, [181, 0, 18]), (8, [42]), (9, [3]), (10, [181, 0, 22]), (13, [42]), (14, [43]), (15, [180, 0, 37]), (18, [181, 0, 25]), (21, [42]), (22, [43]), (23, [180, 0, 38]), (26, [181, 0, 28]), (29, [42]), (30, [3]), (31, [181, 0, 31]), (34, [43]), (35, [180, 0, 39]), (38, [3]), (39, [42]), (40, [180, 0, 9]), (43, [3]), (44, [16, 9]), (46, [184, 0, 40]), (49, [43]), (50, [180, 0, 46]), (53, [3]), (54, [42]), (55, [180, 0, 15]), (58, [3]), (59, [16, 9]), (61, [184, 0, 40]), (64, [177])] = true := by decide +kernel
theorem dX7_begin_0 : decode cX7_begin 0 = .ok (.aload_n 0, 1) := q_aload_n0 (bat_get dg_X7_begin_0_0 0 rfl rfl)
theorem dX7_begin_1 : decode cX7_begin 1 = .ok (.aload_n 1, 1) := q_aload_n1 (bat_get dg_X7_begin_0_0 1 rfl rfl)
theorem dX7_begin_2 : decode cX7_begin 2 = .ok (.getfield 34, 3) := q_getfield (bat_get dg_X7_begin_0_0 2 rfl rfl) rfl
theorem dX7_begin_5 : decode cX7_begin 5 = .ok (.putfield 18, 3) := q_putfield (bat_get dg_X7_begin_0_0 3 rfl rfl) rfl
theorem dX7_begin_8 : decode cX7_begin 8 = .ok (.aload_n 0, 1) := q_aload_n0 (bat_get dg_X7_begin_0_0 4 rfl rfl)
theorem dX7_begin_9 : decode cX7_begin 9 = .ok (.iconst 0, 1) := q_iconst0 (bat_get dg_X7_begin_0_0 5 rfl rfl)
theorem dX7_begin_10 : decode cX7_begin 10 = .ok (.putfield 22, 3) := q_putfield (bat_get dg_X7_begin_0_0 6 rfl rfl) rfl
theorem dX7_begin_13 : decode cX7_begin 13 = .ok (.aload_n 0, 1) := q_aload_n0 (bat_get dg_X7_begin_0_0 7 rfl rfl)
theorem dX7_begin_14 : decode cX7_begin 14 = .ok (.aload_n 1, 1) := q_aload_n1 (bat_get dg_X7_begin_0_0 8 rfl rfl)
theorem dX7_begin_15 : decode cX7_begin 15 = .ok (.getfield 37, 3) := q_getfield (bat_get dg_X7_begin_0_0 9 rfl rfl) rfl
theorem dX7_begin_18 : decode cX7_begin 18 = .ok (.putfield 25, 3) := q_putfield (bat_get dg_X7_begin_0_0 10 rfl rfl) rfl
theorem dX7_begin_21 : decode cX7_begin 21 = .ok (.aload_n 0, 1) := q_aload_n0 (bat_get dg_X7_begin_0_0 11 rfl rfl)
theorem dX7_begin_22 : decode cX7_begin 22 = .ok (.aload_n 1, 1) := q_aload_n1 (bat_get dg_X7_begin_0_0 12 rfl rfl)
theorem dX7_begin_23 : decode cX7_begin 23 = .ok (.getfield 38, 3) := q_getfield (bat_get dg_X7_begin_0_0 13 rfl rfl) rfl
theorem dX7_begin_26 : decode cX7_begin 26 = .ok (.putfield 28, 3) := q_putfield (bat_get dg_X7_begin_0_0 14 rfl rfl) rfl
theorem dX7_begin_29 : decode cX7_begin 29 = .ok (.aload_n 0, 1) := q_aload_n0 (bat_get dg_X7_begin_0_0 15 rfl rfl)
theorem dX7_begin_30 : decode cX7_begin 30 = .ok (.iconst 0, 1) := q_iconst0 (bat_get dg_X7_begin_0_0 16 rfl rfl)
theorem dX7_begin_31 : decode cX7_begin 31 = .ok (.putfield 31, 3) := q_putfield (bat_get dg_X7_begin_0_0 17 rfl rfl) rfl
theorem dX7_begin_34 : decode cX7_begin 34 = .ok (.aload_n 1, 1) := q_aload_n1 (bat_get dg_X7_begin_0_0 18 rfl rfl)
theorem dX7_begin_35 : decode cX7_begin 35 = .ok (.getfield 39, 3) := q_getfield (bat_get dg_X7_begin_0_0 19 rfl rfl) rfl
theorem dX7_begin_38 : decode cX7_begin 38 = .ok (.iconst 0, 1) := q_iconst0 (bat_get dg_X7_begin_0_0 20 rfl rfl)
theorem dX7_begin_39 : decode cX7_begin 39 = .ok (.aload_n 0, 1) := q_aload_n0 (bat_get dg_X7_begin_0_0 21 rfl rfl)
theorem dX7_begin_40 : decode cX7_begin 40 = .ok (.getfield 9, 3) := q_getfield (bat_get dg_X7_begin_0_0 22 rfl rfl) rfl
theorem dX7_begin_43 : decode cX7_begin 43 = .ok (.iconst 0, 1) := q_iconst0 (bat_get dg_X7_begin_0_0 23 rfl rfl)
theorem dX7_begin_44 : decode cX7_begin 44 = .ok (.bipush 9, 2) := q_bipush (bat_get dg_X7_begin_0_0 24 rfl rfl) rfl
theorem dX7_begin_46 : decode cX7_begin 46 = .ok (.invokestatic 40, 3) := q_invokestatic (bat_get dg_X7_begin_0_0 25 rfl rfl) rfl
theorem dX7_begin_49 : decode cX7_begin 49 = .ok (.aload_n 1, 1) := q_aload_n1 (bat_get dg_X7_begin_0_0 26 rfl rfl)
theorem dX7_begin_50 : decode cX7_begin 50 = .ok (.getfield 46, 3) := q_getfield (bat_get dg_X7_begin_0_0 27 rfl rfl) rfl
theorem dX7_begin_53 : decode cX7_begin 53 = .ok (.iconst 0, 1) := q_iconst0 (bat_get dg_X7_begin_0_0 28 rfl rfl)
theorem dX7_begin_54 : decode cX7_begin 54 = .ok (.aload_n 0, 1) := q_aload_n0 (bat_get dg_X7_begin_0_0 29 rfl rfl)
theorem dX7_begin_55 : decode cX7_begin 55 = .ok (.getfield 15, 3) := q_getfield (bat_get dg_X7_begin_0_0 30 rfl rfl) rfl
theorem dX7_begin_58 : decode cX7_begin 58 = .ok (.iconst 0, 1) := q_iconst0 (bat_get dg_X7_begin_0_0 31 rfl rfl)
theorem dX7_begin_59 : decode cX7_begin 59 = .ok (.bipush 9, 2) := q_bipush (bat_get dg_X7_begin_0_0 32 rfl rfl) rfl
theorem dX7_begin_61 : decode cX7_begin 61 = .ok (.invokestatic 40, 3) := q_invokestatic (bat_get dg_X7_begin_0_0 33 rfl rfl) rfl
theorem dX7_begin_64 : decode cX7_begin 64 = .ok (.return_, 1) := q_return_ (bat_get dg_X7_begin_0_0 34 rfl rfl)
theorem w_1_189 : (Cond.fieldLink RX7 34 "SameKeeper$Lock" "days" "I") ∈ wsL_law := sk_mem (ck_1 _ (List.mem_of_getElem? (i := 189) rfl)) rfl
theorem w_1_192 : (Cond.fieldLink RX7 37 "SameKeeper$Lock" "mood" "I") ∈ wsL_law := sk_mem (ck_1 _ (List.mem_of_getElem? (i := 192) rfl)) rfl
theorem w_1_195 : (Cond.fieldLink RX7 38 "SameKeeper$Lock" "mute" "I") ∈ wsL_law := sk_mem (ck_1 _ (List.mem_of_getElem? (i := 195) rfl)) rfl
theorem w_1_179 : (Cond.fieldLink RX7 39 "SameKeeper$Lock" "barge" "[I") ∈ wsL_law := sk_mem (ck_1 _ (List.mem_of_getElem? (i := 179) rfl)) rfl
theorem w_1_182 : (Cond.fieldLink RX7 46 "SameKeeper$Lock" "wet" "[I") ∈ wsL_law := sk_mem (ck_1 _ (List.mem_of_getElem? (i := 182) rfl)) rfl
theorem w_3_151 : (Cond.code yX7_begin cX7_begin 2 none) ∈ wsL_law := sk_mem (ck_3 _ (List.mem_of_getElem? (i := 151) rfl)) rfl
theorem dg_X7_isMute_0_0 : bqL cX7_isMute 0 [(0, [42]), (1, [180, 0, 28]), (4, [27]), (5, [122]), (6, [4]), (7, [126]), (8, [4]), (9, [160, 0, 7]), (16, [3]), (17, [172]), (12, [4]), (13, [167, 0, 4])] = true := by decide +kernel
theorem dX7_isMute_0 : decode cX7_isMute 0 = .ok (.aload_n 0, 1) := q_aload_n0 (bat_get dg_X7_isMute_0_0 0 rfl rfl)
theorem dX7_isMute_1 : decode cX7_isMute 1 = .ok (.getfield 28, 3) := q_getfield (bat_get dg_X7_isMute_0_0 1 rfl rfl) rfl
theorem dX7_isMute_4 : decode cX7_isMute 4 = .ok (.iload_n 1, 1) := q_iload_n1 (bat_get dg_X7_isMute_0_0 2 rfl rfl)
theorem dX7_isMute_5 : decode cX7_isMute 5 = .ok (.ishr, 1) := q_ishr (bat_get dg_X7_isMute_0_0 3 rfl rfl)
theorem dX7_isMute_6 : decode cX7_isMute 6 = .ok (.iconst 1, 1) := q_iconst1 (bat_get dg_X7_isMute_0_0 4 rfl rfl)
theorem dX7_isMute_7 : decode cX7_isMute 7 = .ok (.iand, 1) := q_iand (bat_get dg_X7_isMute_0_0 5 rfl rfl)
theorem dX7_isMute_8 : decode cX7_isMute 8 = .ok (.iconst 1, 1) := q_iconst1 (bat_get dg_X7_isMute_0_0 6 rfl rfl)
theorem dX7_isMute_9 : decode cX7_isMute 9 = .ok (.if_icmp .ne 7, 3) := q_if_icmp_ne (bat_get dg_X7_isMute_0_0 7 rfl rfl) rfl
theorem dX7_isMute_16 : decode cX7_isMute 16 = .ok (.iconst 0, 1) := q_iconst0 (bat_get dg_X7_isMute_0_0 8 rfl rfl)
theorem dX7_isMute_17 : decode cX7_isMute 17 = .ok (.ireturn, 1) := q_ireturn (bat_get dg_X7_isMute_0_0 9 rfl rfl)
theorem dX7_isMute_12 : decode cX7_isMute 12 = .ok (.iconst 1, 1) := q_iconst1 (bat_get dg_X7_isMute_0_0 10 rfl rfl)
theorem dX7_isMute_13 : decode cX7_isMute 13 = .ok (.goto 4, 3) := q_goto (bat_get dg_X7_isMute_0_0 11 rfl rfl) rfl
theorem w_3_197 : (Cond.code yX7_isMute cX7_isMute 2 (some .boolean)) ∈ wsL_law := sk_mem (ck_3 _ (List.mem_of_getElem? (i := 197) rfl)) rfl
set_option maxHeartbeats 4000000 in
set_option maxRecDepth 100000 in
theorem c_State_isMute (l : Launch) (D : va_G) (cI cJ cC cZ cS : ClassId) (h0 : Nat) (k1 : Nat) (k2 : Nat) (dy : Nat) (mo : Nat) (wk : Int32) (mu : Int32) (ke : Int32) (d : Int32)  : skM l yX7_isMute cX7_isMute 2 (some .boolean) 0 0 0 0 D (skT cI cJ cC cZ cS) [.ref h0, .int d] [(h0, .inr (7, [.ref k1, .ref k2, .int (nI dy), .int wk, .int (nI mo), .int mu, .int ke]))] (skI D (skT cI cJ cC cZ cS) (fun (r : Int32) (u : va_W) => ∃ (b : Nat), b ≤ 1 ∧ r = nI b ∧ u = [(h0, .inr (7, [.ref k1, .ref k2, .int (nI dy), .int wk, .int (nI mo), .int mu, .int ke]))])) := by
  refine skM_of pf_X7_isMute (Nat.le_of_ble_eq_true rfl) ?_
  intro p e s m below meth c A ls E hP hD hl
  refine skE_el E (fun hx hb hr hml hlocks hin hown hts hK hA => ?_)
  have hown : s.vm.findClass RX7 = some m.cls := hown
  have hS : va_S A s.heap s.heap [] := va_S.rf
  have hl : lv_has ls 2 [(0, .ref h0), (1, .int d)] := hl
  refine lv_aload_n hx hb dX7_isMute_0 rfl (lv_at hl 0 rfl) ?_
  refine sk_get (v := .int mu) (C := RX7) (T := TX7) (N := 7) hx hb hts inlX7 hown hK hP 0 rfl rfl 5 (by decide) w_2_11 rfl dX7_isMute_1 ?_
  refine lv_iload_n hx hb dX7_isMute_4 rfl (lv_at hl 1 rfl) ?_
  refine lv_ishr hx hb dX7_isMute_5 ?_
  refine lv_topi (fun v_1 ev_1 => ?_)
  refine lv_iconst (v := 1) hx hb dX7_isMute_6 (by decide) ?_
  refine lv_iand hx hb dX7_isMute_7 ?_
  refine lv_topi (fun v_2 ev_2 => ?_)
  refine lv_iconst (v := 1) hx hb dX7_isMute_8 (by decide) ?_
  refine lv_icmp_ne (tgt := 16) hx hb dX7_isMute_9 (by decide) (fun c_3 => ?_) (fun c_3 => ?_)
  · skip
    refine lv_iconst (v := 0) hx hb dX7_isMute_16 (by decide) ?_
    exact sk_iret hx hb hr rfl hlocks hK hP hD hS (⟨0, by omega, rfl, rfl⟩) (Nat.le_of_ble_eq_true rfl) (Nat.le_of_ble_eq_true rfl) dX7_isMute_17
  · skip
    refine lv_iconst (v := 1) hx hb dX7_isMute_12 (by decide) ?_
    refine lv_goto (tgt := 17) hx hb dX7_isMute_13 (by decide) ?_
    exact sk_iret hx hb hr rfl hlocks hK hP hD hS (⟨1, by omega, rfl, rfl⟩) (Nat.le_of_ble_eq_true rfl) (Nat.le_of_ble_eq_true rfl) dX7_isMute_17
theorem dg_X7_amount_0_0 : bqL cX7_amount 0 [(0, [28]), (1, [154, 0, 12]), (13, [42]), (14, [180, 0, 15]), (17, [27]), (18, [46]), (19, [172]), (4, [42]), (5, [180, 0, 9]), (8, [27]), (9, [46]), (10, [167, 0, 9])] = true := by decide +kernel
