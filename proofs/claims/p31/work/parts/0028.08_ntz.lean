theorem dg_J6_numberOfTrailingZeros_0f7a4_0_0 : bqL cJ6_numberOfTrailingZeros_0f7a4 0 [(0, [26]), (1, [2]), (2, [130]), (3, [26]), (4, [4]), (5, [100]), (6, [126]), (7, [59]), (8, [26]), (9, [157, 0, 8]), (17, [4]), (18, [60]), (19, [26]), (20, [19, 1, 8]), (23, [164, 0, 11]), (34, [26]), (35, [17, 1, 0]), (38, [164, 0, 11]), (49, [26]), (50, [16, 16]), (52, [164, 0, 10]), (62, [26]), (63, [7]), (64, [164, 0, 10]), (74, [27]), (75, [26]), (76, [4]), (77, [124]), (78, [96]), (79, [172]), (67, [132, 1, 2]), (70, [26]), (71, [5]), (72, [124]), (73, [59]), (55, [132, 1, 4]), (58, [26]), (59, [7]), (60, [124]), (61, [59])] = true := by decide +kernel
theorem dJ6_numberOfTrailingZeros_0f7a4_0 : decode cJ6_numberOfTrailingZeros_0f7a4 0 = .ok (.iload_n 0, 1) := q_iload_n0 (bat_get dg_J6_numberOfTrailingZeros_0f7a4_0_0 0 rfl rfl)
theorem dJ6_numberOfTrailingZeros_0f7a4_1 : decode cJ6_numberOfTrailingZeros_0f7a4 1 = .ok (.iconst (-1), 1) := q_iconstm1 (bat_get dg_J6_numberOfTrailingZeros_0f7a4_0_0 1 rfl rfl)
theorem dJ6_numberOfTrailingZeros_0f7a4_2 : decode cJ6_numberOfTrailingZeros_0f7a4 2 = .ok (.ixor, 1) := q_ixor (bat_get dg_J6_numberOfTrailingZeros_0f7a4_0_0 2 rfl rfl)
theorem dJ6_numberOfTrailingZeros_0f7a4_3 : decode cJ6_numberOfTrailingZeros_0f7a4 3 = .ok (.iload_n 0, 1) := q_iload_n0 (bat_get dg_J6_numberOfTrailingZeros_0f7a4_0_0 3 rfl rfl)
theorem dJ6_numberOfTrailingZeros_0f7a4_4 : decode cJ6_numberOfTrailingZeros_0f7a4 4 = .ok (.iconst 1, 1) := q_iconst1 (bat_get dg_J6_numberOfTrailingZeros_0f7a4_0_0 4 rfl rfl)
theorem dJ6_numberOfTrailingZeros_0f7a4_5 : decode cJ6_numberOfTrailingZeros_0f7a4 5 = .ok (.isub, 1) := q_isub (bat_get dg_J6_numberOfTrailingZeros_0f7a4_0_0 5 rfl rfl)
theorem dJ6_numberOfTrailingZeros_0f7a4_6 : decode cJ6_numberOfTrailingZeros_0f7a4 6 = .ok (.iand, 1) := q_iand (bat_get dg_J6_numberOfTrailingZeros_0f7a4_0_0 6 rfl rfl)
theorem dJ6_numberOfTrailingZeros_0f7a4_7 : decode cJ6_numberOfTrailingZeros_0f7a4 7 = .ok (.istore_n 0, 1) := q_istore_n0 (bat_get dg_J6_numberOfTrailingZeros_0f7a4_0_0 7 rfl rfl)
theorem dJ6_numberOfTrailingZeros_0f7a4_8 : decode cJ6_numberOfTrailingZeros_0f7a4 8 = .ok (.iload_n 0, 1) := q_iload_n0 (bat_get dg_J6_numberOfTrailingZeros_0f7a4_0_0 8 rfl rfl)
theorem dJ6_numberOfTrailingZeros_0f7a4_9 : decode cJ6_numberOfTrailingZeros_0f7a4 9 = .ok (.ifCond .gt 8, 3) := q_ifCond_gt (bat_get dg_J6_numberOfTrailingZeros_0f7a4_0_0 9 rfl rfl) rfl
theorem dJ6_numberOfTrailingZeros_0f7a4_17 : decode cJ6_numberOfTrailingZeros_0f7a4 17 = .ok (.iconst 1, 1) := q_iconst1 (bat_get dg_J6_numberOfTrailingZeros_0f7a4_0_0 10 rfl rfl)
theorem dJ6_numberOfTrailingZeros_0f7a4_18 : decode cJ6_numberOfTrailingZeros_0f7a4 18 = .ok (.istore_n 1, 1) := q_istore_n1 (bat_get dg_J6_numberOfTrailingZeros_0f7a4_0_0 11 rfl rfl)
theorem dJ6_numberOfTrailingZeros_0f7a4_19 : decode cJ6_numberOfTrailingZeros_0f7a4 19 = .ok (.iload_n 0, 1) := q_iload_n0 (bat_get dg_J6_numberOfTrailingZeros_0f7a4_0_0 12 rfl rfl)
theorem dJ6_numberOfTrailingZeros_0f7a4_20 : decode cJ6_numberOfTrailingZeros_0f7a4 20 = .ok (.ldc_w 264, 3) := q_ldc_w (bat_get dg_J6_numberOfTrailingZeros_0f7a4_0_0 13 rfl rfl) rfl
theorem dJ6_numberOfTrailingZeros_0f7a4_23 : decode cJ6_numberOfTrailingZeros_0f7a4 23 = .ok (.if_icmp .le 11, 3) := q_if_icmp_le (bat_get dg_J6_numberOfTrailingZeros_0f7a4_0_0 14 rfl rfl) rfl
theorem dJ6_numberOfTrailingZeros_0f7a4_34 : decode cJ6_numberOfTrailingZeros_0f7a4 34 = .ok (.iload_n 0, 1) := q_iload_n0 (bat_get dg_J6_numberOfTrailingZeros_0f7a4_0_0 15 rfl rfl)
theorem dJ6_numberOfTrailingZeros_0f7a4_35 : decode cJ6_numberOfTrailingZeros_0f7a4 35 = .ok (.sipush 256, 3) := q_sipush (bat_get dg_J6_numberOfTrailingZeros_0f7a4_0_0 16 rfl rfl) rfl
theorem dJ6_numberOfTrailingZeros_0f7a4_38 : decode cJ6_numberOfTrailingZeros_0f7a4 38 = .ok (.if_icmp .le 11, 3) := q_if_icmp_le (bat_get dg_J6_numberOfTrailingZeros_0f7a4_0_0 17 rfl rfl) rfl
theorem dJ6_numberOfTrailingZeros_0f7a4_49 : decode cJ6_numberOfTrailingZeros_0f7a4 49 = .ok (.iload_n 0, 1) := q_iload_n0 (bat_get dg_J6_numberOfTrailingZeros_0f7a4_0_0 18 rfl rfl)
theorem dJ6_numberOfTrailingZeros_0f7a4_50 : decode cJ6_numberOfTrailingZeros_0f7a4 50 = .ok (.bipush 16, 2) := q_bipush (bat_get dg_J6_numberOfTrailingZeros_0f7a4_0_0 19 rfl rfl) rfl
theorem dJ6_numberOfTrailingZeros_0f7a4_52 : decode cJ6_numberOfTrailingZeros_0f7a4 52 = .ok (.if_icmp .le 10, 3) := q_if_icmp_le (bat_get dg_J6_numberOfTrailingZeros_0f7a4_0_0 20 rfl rfl) rfl
theorem dJ6_numberOfTrailingZeros_0f7a4_62 : decode cJ6_numberOfTrailingZeros_0f7a4 62 = .ok (.iload_n 0, 1) := q_iload_n0 (bat_get dg_J6_numberOfTrailingZeros_0f7a4_0_0 21 rfl rfl)
theorem dJ6_numberOfTrailingZeros_0f7a4_63 : decode cJ6_numberOfTrailingZeros_0f7a4 63 = .ok (.iconst 4, 1) := q_iconst4 (bat_get dg_J6_numberOfTrailingZeros_0f7a4_0_0 22 rfl rfl)
theorem dJ6_numberOfTrailingZeros_0f7a4_64 : decode cJ6_numberOfTrailingZeros_0f7a4 64 = .ok (.if_icmp .le 10, 3) := q_if_icmp_le (bat_get dg_J6_numberOfTrailingZeros_0f7a4_0_0 23 rfl rfl) rfl
theorem dJ6_numberOfTrailingZeros_0f7a4_74 : decode cJ6_numberOfTrailingZeros_0f7a4 74 = .ok (.iload_n 1, 1) := q_iload_n1 (bat_get dg_J6_numberOfTrailingZeros_0f7a4_0_0 24 rfl rfl)
theorem dJ6_numberOfTrailingZeros_0f7a4_75 : decode cJ6_numberOfTrailingZeros_0f7a4 75 = .ok (.iload_n 0, 1) := q_iload_n0 (bat_get dg_J6_numberOfTrailingZeros_0f7a4_0_0 25 rfl rfl)
theorem dJ6_numberOfTrailingZeros_0f7a4_76 : decode cJ6_numberOfTrailingZeros_0f7a4 76 = .ok (.iconst 1, 1) := q_iconst1 (bat_get dg_J6_numberOfTrailingZeros_0f7a4_0_0 26 rfl rfl)
theorem dJ6_numberOfTrailingZeros_0f7a4_77 : decode cJ6_numberOfTrailingZeros_0f7a4 77 = .ok (.iushr, 1) := q_iushr (bat_get dg_J6_numberOfTrailingZeros_0f7a4_0_0 27 rfl rfl)
theorem dJ6_numberOfTrailingZeros_0f7a4_78 : decode cJ6_numberOfTrailingZeros_0f7a4 78 = .ok (.iadd, 1) := q_iadd (bat_get dg_J6_numberOfTrailingZeros_0f7a4_0_0 28 rfl rfl)
theorem dJ6_numberOfTrailingZeros_0f7a4_79 : decode cJ6_numberOfTrailingZeros_0f7a4 79 = .ok (.ireturn, 1) := q_ireturn (bat_get dg_J6_numberOfTrailingZeros_0f7a4_0_0 29 rfl rfl)
theorem dJ6_numberOfTrailingZeros_0f7a4_67 : decode cJ6_numberOfTrailingZeros_0f7a4 67 = .ok (.iinc 1 2, 3) := q_iinc (bat_get dg_J6_numberOfTrailingZeros_0f7a4_0_0 30 rfl rfl) rfl
theorem dJ6_numberOfTrailingZeros_0f7a4_70 : decode cJ6_numberOfTrailingZeros_0f7a4 70 = .ok (.iload_n 0, 1) := q_iload_n0 (bat_get dg_J6_numberOfTrailingZeros_0f7a4_0_0 31 rfl rfl)
theorem dJ6_numberOfTrailingZeros_0f7a4_71 : decode cJ6_numberOfTrailingZeros_0f7a4 71 = .ok (.iconst 2, 1) := q_iconst2 (bat_get dg_J6_numberOfTrailingZeros_0f7a4_0_0 32 rfl rfl)
theorem dJ6_numberOfTrailingZeros_0f7a4_72 : decode cJ6_numberOfTrailingZeros_0f7a4 72 = .ok (.iushr, 1) := q_iushr (bat_get dg_J6_numberOfTrailingZeros_0f7a4_0_0 33 rfl rfl)
theorem dJ6_numberOfTrailingZeros_0f7a4_73 : decode cJ6_numberOfTrailingZeros_0f7a4 73 = .ok (.istore_n 0, 1) := q_istore_n0 (bat_get dg_J6_numberOfTrailingZeros_0f7a4_0_0 34 rfl rfl)
theorem dJ6_numberOfTrailingZeros_0f7a4_55 : decode cJ6_numberOfTrailingZeros_0f7a4 55 = .ok (.iinc 1 4, 3) := q_iinc (bat_get dg_J6_numberOfTrailingZeros_0f7a4_0_0 35 rfl rfl) rfl
theorem dJ6_numberOfTrailingZeros_0f7a4_58 : decode cJ6_numberOfTrailingZeros_0f7a4 58 = .ok (.iload_n 0, 1) := q_iload_n0 (bat_get dg_J6_numberOfTrailingZeros_0f7a4_0_0 36 rfl rfl)
theorem dJ6_numberOfTrailingZeros_0f7a4_59 : decode cJ6_numberOfTrailingZeros_0f7a4 59 = .ok (.iconst 4, 1) := q_iconst4 (bat_get dg_J6_numberOfTrailingZeros_0f7a4_0_0 37 rfl rfl)
theorem dJ6_numberOfTrailingZeros_0f7a4_60 : decode cJ6_numberOfTrailingZeros_0f7a4 60 = .ok (.iushr, 1) := q_iushr (bat_get dg_J6_numberOfTrailingZeros_0f7a4_0_0 38 rfl rfl)
theorem dJ6_numberOfTrailingZeros_0f7a4_61 : decode cJ6_numberOfTrailingZeros_0f7a4 61 = .ok (.istore_n 0, 1) := q_istore_n0 (bat_get dg_J6_numberOfTrailingZeros_0f7a4_0_0 39 rfl rfl)
theorem dg_J6_numberOfTrailingZeros_0f7a4_12_41 : bqL cJ6_numberOfTrailingZeros_0f7a4 12 [(29, [132, 1, 8]), (32, [26]), (33, [16, 8]), (35, [124]), (36, [59]), (14, [132, 1, 16]), (17, [26]), (18, [16, 16]), (20, [124]), (21, [59]), (0, [26]), (1, [16, 32]), (3, [126]), (4, [172])] = true := by decide +kernel
theorem dJ6_numberOfTrailingZeros_0f7a4_41 : decode cJ6_numberOfTrailingZeros_0f7a4 41 = .ok (.iinc 1 8, 3) := q_iinc (bat_get dg_J6_numberOfTrailingZeros_0f7a4_12_41 0 rfl rfl) rfl
theorem dJ6_numberOfTrailingZeros_0f7a4_44 : decode cJ6_numberOfTrailingZeros_0f7a4 44 = .ok (.iload_n 0, 1) := q_iload_n0 (bat_get dg_J6_numberOfTrailingZeros_0f7a4_12_41 1 rfl rfl)
theorem dJ6_numberOfTrailingZeros_0f7a4_45 : decode cJ6_numberOfTrailingZeros_0f7a4 45 = .ok (.bipush 8, 2) := q_bipush (bat_get dg_J6_numberOfTrailingZeros_0f7a4_12_41 2 rfl rfl) rfl
theorem dJ6_numberOfTrailingZeros_0f7a4_47 : decode cJ6_numberOfTrailingZeros_0f7a4 47 = .ok (.iushr, 1) := q_iushr (bat_get dg_J6_numberOfTrailingZeros_0f7a4_12_41 3 rfl rfl)
theorem dJ6_numberOfTrailingZeros_0f7a4_48 : decode cJ6_numberOfTrailingZeros_0f7a4 48 = .ok (.istore_n 0, 1) := q_istore_n0 (bat_get dg_J6_numberOfTrailingZeros_0f7a4_12_41 4 rfl rfl)
theorem dJ6_numberOfTrailingZeros_0f7a4_26 : decode cJ6_numberOfTrailingZeros_0f7a4 26 = .ok (.iinc 1 16, 3) := q_iinc (bat_get dg_J6_numberOfTrailingZeros_0f7a4_12_41 5 rfl rfl) rfl
theorem dJ6_numberOfTrailingZeros_0f7a4_29 : decode cJ6_numberOfTrailingZeros_0f7a4 29 = .ok (.iload_n 0, 1) := q_iload_n0 (bat_get dg_J6_numberOfTrailingZeros_0f7a4_12_41 6 rfl rfl)
theorem dJ6_numberOfTrailingZeros_0f7a4_30 : decode cJ6_numberOfTrailingZeros_0f7a4 30 = .ok (.bipush 16, 2) := q_bipush (bat_get dg_J6_numberOfTrailingZeros_0f7a4_12_41 7 rfl rfl) rfl
theorem dJ6_numberOfTrailingZeros_0f7a4_32 : decode cJ6_numberOfTrailingZeros_0f7a4 32 = .ok (.iushr, 1) := q_iushr (bat_get dg_J6_numberOfTrailingZeros_0f7a4_12_41 8 rfl rfl)
theorem dJ6_numberOfTrailingZeros_0f7a4_33 : decode cJ6_numberOfTrailingZeros_0f7a4 33 = .ok (.istore_n 0, 1) := q_istore_n0 (bat_get dg_J6_numberOfTrailingZeros_0f7a4_12_41 9 rfl rfl)
theorem dJ6_numberOfTrailingZeros_0f7a4_12 : decode cJ6_numberOfTrailingZeros_0f7a4 12 = .ok (.iload_n 0, 1) := q_iload_n0 (bat_get dg_J6_numberOfTrailingZeros_0f7a4_12_41 10 rfl rfl)
theorem dJ6_numberOfTrailingZeros_0f7a4_13 : decode cJ6_numberOfTrailingZeros_0f7a4 13 = .ok (.bipush 32, 2) := q_bipush (bat_get dg_J6_numberOfTrailingZeros_0f7a4_12_41 11 rfl rfl) rfl
theorem dJ6_numberOfTrailingZeros_0f7a4_15 : decode cJ6_numberOfTrailingZeros_0f7a4 15 = .ok (.iand, 1) := q_iand (bat_get dg_J6_numberOfTrailingZeros_0f7a4_12_41 12 rfl rfl)
theorem dJ6_numberOfTrailingZeros_0f7a4_16 : decode cJ6_numberOfTrailingZeros_0f7a4 16 = .ok (.ireturn, 1) := q_ireturn (bat_get dg_J6_numberOfTrailingZeros_0f7a4_12_41 13 rfl rfl)
theorem w_4_119 : (Cond.constant RJ6 264 (65536)) ∈ wsL_law := sk_mem (ck_4 _ (List.mem_of_getElem? (i := 119) rfl)) rfl
theorem w_4_118 : (Cond.code yJ6_numberOfTrailingZeros_0f7a4 cJ6_numberOfTrailingZeros_0f7a4 2 (some .int)) ∈ wsL_law := sk_mem (ck_4 _ (List.mem_of_getElem? (i := 118) rfl)) rfl
set_option maxHeartbeats 4000000 in
set_option maxRecDepth 100000 in
theorem c_ntz (l : Launch) (D : va_G) (cI cJ cC cZ cS : ClassId) (o : Int32)  : skM l yJ6_numberOfTrailingZeros_0f7a4 cJ6_numberOfTrailingZeros_0f7a4 2 (some .int) 0 0 0 0 D (skT cI cJ cC cZ cS) [.int o] [] (skI D (skT cI cJ cC cZ cS) (fun (r : Int32) (u : va_W) => ∃ (v : Nat), v ≤ 64 ∧ r = nI v ∧ u = [])) := by
  refine skM_of pf_J6_numberOfTrailingZeros_0f7a4 (Nat.le_of_ble_eq_true rfl) ?_
  intro p e s m below meth c A ls E hP hD hl
  refine skE_el E (fun hx hb hr hml hlocks hin hown hts hK hA => ?_)
  have hown : s.vm.findClass RJ6 = some m.cls := hown
  have hS : va_S A s.heap s.heap [] := va_S.rf
  have hl : lv_has ls 2 [(0, .int o)] := hl
  refine lv_iload_n hx hb dJ6_numberOfTrailingZeros_0f7a4_0 rfl (lv_at hl 0 rfl) ?_
  refine lv_iconst (v := (-1)) hx hb dJ6_numberOfTrailingZeros_0f7a4_1 (by decide) ?_
  refine lv_ixor hx hb dJ6_numberOfTrailingZeros_0f7a4_2 ?_
  refine lv_topi (fun v_1 ev_1 => ?_)
  refine lv_iload_n hx hb dJ6_numberOfTrailingZeros_0f7a4_3 rfl (lv_at hl 0 rfl) ?_
  refine lv_iconst (v := 1) hx hb dJ6_numberOfTrailingZeros_0f7a4_4 (by decide) ?_
  refine lv_isub hx hb dJ6_numberOfTrailingZeros_0f7a4_5 ?_
  refine lv_topi (fun v_2 ev_2 => ?_)
  refine lv_iand hx hb dJ6_numberOfTrailingZeros_0f7a4_6 ?_
  refine lv_topi (fun v_3 ev_3 => ?_)
  refine lv_istore_n (lv' := [(0, .int v_3)]) hx hb dJ6_numberOfTrailingZeros_0f7a4_7 rfl hl (by decide) rfl (fun ls hl => ?_)
  refine lv_iload_n hx hb dJ6_numberOfTrailingZeros_0f7a4_8 rfl (lv_at hl 0 rfl) ?_
  refine lv_if_gt (tgt := 17) hx hb dJ6_numberOfTrailingZeros_0f7a4_9 (by decide) (fun c_4 => ?_) (fun c_4 => ?_)
  · obtain ⟨k_5, hk_5, h1k_5, rfl⟩ := nofp v_3 c_4
    refine lv_iconst (v := 1) hx hb dJ6_numberOfTrailingZeros_0f7a4_17 (by decide) ?_
    refine lv_istore_n (lv' := [(1, .int 1), (0, .int (nI k_5))]) hx hb dJ6_numberOfTrailingZeros_0f7a4_18 rfl hl (by decide) rfl (fun ls hl => ?_)
    refine lv_iload_n hx hb dJ6_numberOfTrailingZeros_0f7a4_19 rfl (lv_at hl 1 rfl) ?_
    refine lv_ldcw (v := 65536) hx hb hown (hts _ w_4_119) dJ6_numberOfTrailingZeros_0f7a4_20 ?_
    refine lv_icmp_le (tgt := 34) hx hb dJ6_numberOfTrailingZeros_0f7a4_23 (by decide) (fun c_6 => ?_) (fun c_6 => ?_)
    · have c_6 : k_5 ≤ 65536 := (nle k_5 65536 (by omega) (by omega)).mp c_6
      refine lv_iload_n hx hb dJ6_numberOfTrailingZeros_0f7a4_34 rfl (lv_at hl 1 rfl) ?_
      refine lv_sipush (v := 256) hx hb dJ6_numberOfTrailingZeros_0f7a4_35 (by decide) ?_
      refine lv_icmp_le (tgt := 49) hx hb dJ6_numberOfTrailingZeros_0f7a4_38 (by decide) (fun c_7 => ?_) (fun c_7 => ?_)
      · have c_7 : k_5 ≤ 256 := (nle k_5 256 (by omega) (by omega)).mp c_7
        refine lv_iload_n hx hb dJ6_numberOfTrailingZeros_0f7a4_49 rfl (lv_at hl 1 rfl) ?_
        refine lv_bipush (v := 16) hx hb dJ6_numberOfTrailingZeros_0f7a4_50 (by decide) ?_
        refine lv_icmp_le (tgt := 62) hx hb dJ6_numberOfTrailingZeros_0f7a4_52 (by decide) (fun c_8 => ?_) (fun c_8 => ?_)
        · have c_8 : k_5 ≤ 16 := (nle k_5 16 (by omega) (by omega)).mp c_8
          refine lv_iload_n hx hb dJ6_numberOfTrailingZeros_0f7a4_62 rfl (lv_at hl 1 rfl) ?_
          refine lv_iconst (v := 4) hx hb dJ6_numberOfTrailingZeros_0f7a4_63 (by decide) ?_
          refine lv_icmp_le (tgt := 74) hx hb dJ6_numberOfTrailingZeros_0f7a4_64 (by decide) (fun c_9 => ?_) (fun c_9 => ?_)
          · have c_9 : k_5 ≤ 4 := (nle k_5 4 (by omega) (by omega)).mp c_9
            refine lv_iload_n hx hb dJ6_numberOfTrailingZeros_0f7a4_74 rfl (lv_at hl 0 rfl) ?_
            refine lv_iload_n hx hb dJ6_numberOfTrailingZeros_0f7a4_75 rfl (lv_at hl 1 rfl) ?_
            refine lv_iconst (v := 1) hx hb dJ6_numberOfTrailingZeros_0f7a4_76 (by decide) ?_
            refine lv_iushr (v := nI (k_5 / 2)) hx hb dJ6_numberOfTrailingZeros_0f7a4_77 (nushr k_5 1 (by omega) (by decide) 2 rfl) ?_
            refine lv_iadd hx hb dJ6_numberOfTrailingZeros_0f7a4_78 ?_
            refine sk_top (nI (1 + (k_5 / 2))) (nI_add 1 (k_5 / 2)) ?_
            exact sk_iret hx hb hr rfl hlocks hK hP hD hS (⟨1 + (k_5 / 2), by omega, rfl, rfl⟩) (Nat.le_of_ble_eq_true rfl) (Nat.le_of_ble_eq_true rfl) dJ6_numberOfTrailingZeros_0f7a4_79
          · have c_9 : ¬ (k_5 ≤ 4) := fun h => c_9 ((nle k_5 4 (by omega) (by omega)).mpr h)
            refine lv_iinc (v := 3) (lv' := [(1, .int 3), (0, .int (nI k_5))]) hx hb dJ6_numberOfTrailingZeros_0f7a4_67 hl (k := 0) rfl (by decide) (by decide) rfl (fun ls hl => ?_)
            refine lv_iload_n hx hb dJ6_numberOfTrailingZeros_0f7a4_70 rfl (lv_at hl 1 rfl) ?_
            refine lv_iconst (v := 2) hx hb dJ6_numberOfTrailingZeros_0f7a4_71 (by decide) ?_
            refine lv_iushr (v := nI (k_5 / 4)) hx hb dJ6_numberOfTrailingZeros_0f7a4_72 (nushr k_5 2 (by omega) (by decide) 4 rfl) ?_
            refine lv_istore_n (lv' := [(0, .int (nI (k_5 / 4))), (1, .int 3)]) hx hb dJ6_numberOfTrailingZeros_0f7a4_73 rfl hl (by decide) rfl (fun ls hl => ?_)
            refine lv_iload_n hx hb dJ6_numberOfTrailingZeros_0f7a4_74 rfl (lv_at hl 1 rfl) ?_
            refine lv_iload_n hx hb dJ6_numberOfTrailingZeros_0f7a4_75 rfl (lv_at hl 0 rfl) ?_
            refine lv_iconst (v := 1) hx hb dJ6_numberOfTrailingZeros_0f7a4_76 (by decide) ?_
            refine lv_iushr (v := nI ((k_5 / 4) / 2)) hx hb dJ6_numberOfTrailingZeros_0f7a4_77 (nushr (k_5 / 4) 1 (by omega) (by decide) 2 rfl) ?_
            refine lv_iadd hx hb dJ6_numberOfTrailingZeros_0f7a4_78 ?_
            refine sk_top (nI (3 + ((k_5 / 4) / 2))) (nI_add 3 ((k_5 / 4) / 2)) ?_
            exact sk_iret hx hb hr rfl hlocks hK hP hD hS (⟨3 + ((k_5 / 4) / 2), by omega, rfl, rfl⟩) (Nat.le_of_ble_eq_true rfl) (Nat.le_of_ble_eq_true rfl) dJ6_numberOfTrailingZeros_0f7a4_79
        · have c_8 : ¬ (k_5 ≤ 16) := fun h => c_8 ((nle k_5 16 (by omega) (by omega)).mpr h)
          refine lv_iinc (v := 5) (lv' := [(1, .int 5), (0, .int (nI k_5))]) hx hb dJ6_numberOfTrailingZeros_0f7a4_55 hl (k := 0) rfl (by decide) (by decide) rfl (fun ls hl => ?_)
          refine lv_iload_n hx hb dJ6_numberOfTrailingZeros_0f7a4_58 rfl (lv_at hl 1 rfl) ?_
          refine lv_iconst (v := 4) hx hb dJ6_numberOfTrailingZeros_0f7a4_59 (by decide) ?_
          refine lv_iushr (v := nI (k_5 / 16)) hx hb dJ6_numberOfTrailingZeros_0f7a4_60 (nushr k_5 4 (by omega) (by decide) 16 rfl) ?_
          refine lv_istore_n (lv' := [(0, .int (nI (k_5 / 16))), (1, .int 5)]) hx hb dJ6_numberOfTrailingZeros_0f7a4_61 rfl hl (by decide) rfl (fun ls hl => ?_)
          refine lv_iload_n hx hb dJ6_numberOfTrailingZeros_0f7a4_62 rfl (lv_at hl 0 rfl) ?_
          refine lv_iconst (v := 4) hx hb dJ6_numberOfTrailingZeros_0f7a4_63 (by decide) ?_
          refine lv_icmp_le (tgt := 74) hx hb dJ6_numberOfTrailingZeros_0f7a4_64 (by decide) (fun c_10 => ?_) (fun c_10 => ?_)
          · have c_10 : k_5 / 16 ≤ 4 := (nle (k_5 / 16) 4 (by omega) (by omega)).mp c_10
            refine lv_iload_n hx hb dJ6_numberOfTrailingZeros_0f7a4_74 rfl (lv_at hl 1 rfl) ?_
            refine lv_iload_n hx hb dJ6_numberOfTrailingZeros_0f7a4_75 rfl (lv_at hl 0 rfl) ?_
            refine lv_iconst (v := 1) hx hb dJ6_numberOfTrailingZeros_0f7a4_76 (by decide) ?_
            refine lv_iushr (v := nI ((k_5 / 16) / 2)) hx hb dJ6_numberOfTrailingZeros_0f7a4_77 (nushr (k_5 / 16) 1 (by omega) (by decide) 2 rfl) ?_
            refine lv_iadd hx hb dJ6_numberOfTrailingZeros_0f7a4_78 ?_
            refine sk_top (nI (5 + ((k_5 / 16) / 2))) (nI_add 5 ((k_5 / 16) / 2)) ?_
            exact sk_iret hx hb hr rfl hlocks hK hP hD hS (⟨5 + ((k_5 / 16) / 2), by omega, rfl, rfl⟩) (Nat.le_of_ble_eq_true rfl) (Nat.le_of_ble_eq_true rfl) dJ6_numberOfTrailingZeros_0f7a4_79
          · have c_10 : ¬ (k_5 / 16 ≤ 4) := fun h => c_10 ((nle (k_5 / 16) 4 (by omega) (by omega)).mpr h)
            refine lv_iinc (v := 7) (lv' := [(1, .int 7), (0, .int (nI (k_5 / 16)))]) hx hb dJ6_numberOfTrailingZeros_0f7a4_67 hl (k := 1) rfl (by decide) (by decide) rfl (fun ls hl => ?_)
            refine lv_iload_n hx hb dJ6_numberOfTrailingZeros_0f7a4_70 rfl (lv_at hl 1 rfl) ?_
            refine lv_iconst (v := 2) hx hb dJ6_numberOfTrailingZeros_0f7a4_71 (by decide) ?_
            refine lv_iushr (v := nI ((k_5 / 16) / 4)) hx hb dJ6_numberOfTrailingZeros_0f7a4_72 (nushr (k_5 / 16) 2 (by omega) (by decide) 4 rfl) ?_
            refine lv_istore_n (lv' := [(0, .int (nI ((k_5 / 16) / 4))), (1, .int 7)]) hx hb dJ6_numberOfTrailingZeros_0f7a4_73 rfl hl (by decide) rfl (fun ls hl => ?_)
            refine lv_iload_n hx hb dJ6_numberOfTrailingZeros_0f7a4_74 rfl (lv_at hl 1 rfl) ?_
            refine lv_iload_n hx hb dJ6_numberOfTrailingZeros_0f7a4_75 rfl (lv_at hl 0 rfl) ?_
            refine lv_iconst (v := 1) hx hb dJ6_numberOfTrailingZeros_0f7a4_76 (by decide) ?_
            refine lv_iushr (v := nI (((k_5 / 16) / 4) / 2)) hx hb dJ6_numberOfTrailingZeros_0f7a4_77 (nushr ((k_5 / 16) / 4) 1 (by omega) (by decide) 2 rfl) ?_
            refine lv_iadd hx hb dJ6_numberOfTrailingZeros_0f7a4_78 ?_
            refine sk_top (nI (7 + (((k_5 / 16) / 4) / 2))) (nI_add 7 (((k_5 / 16) / 4) / 2)) ?_
            exact sk_iret hx hb hr rfl hlocks hK hP hD hS (⟨7 + (((k_5 / 16) / 4) / 2), by omega, rfl, rfl⟩) (Nat.le_of_ble_eq_true rfl) (Nat.le_of_ble_eq_true rfl) dJ6_numberOfTrailingZeros_0f7a4_79
      · have c_7 : ¬ (k_5 ≤ 256) := fun h => c_7 ((nle k_5 256 (by omega) (by omega)).mpr h)
        refine lv_iinc (v := 9) (lv' := [(1, .int 9), (0, .int (nI k_5))]) hx hb dJ6_numberOfTrailingZeros_0f7a4_41 hl (k := 0) rfl (by decide) (by decide) rfl (fun ls hl => ?_)
        refine lv_iload_n hx hb dJ6_numberOfTrailingZeros_0f7a4_44 rfl (lv_at hl 1 rfl) ?_
        refine lv_bipush (v := 8) hx hb dJ6_numberOfTrailingZeros_0f7a4_45 (by decide) ?_
        refine lv_iushr (v := nI (k_5 / 256)) hx hb dJ6_numberOfTrailingZeros_0f7a4_47 (nushr k_5 8 (by omega) (by decide) 256 rfl) ?_
        refine lv_istore_n (lv' := [(0, .int (nI (k_5 / 256))), (1, .int 9)]) hx hb dJ6_numberOfTrailingZeros_0f7a4_48 rfl hl (by decide) rfl (fun ls hl => ?_)
        refine lv_iload_n hx hb dJ6_numberOfTrailingZeros_0f7a4_49 rfl (lv_at hl 0 rfl) ?_
        refine lv_bipush (v := 16) hx hb dJ6_numberOfTrailingZeros_0f7a4_50 (by decide) ?_
        refine lv_icmp_le (tgt := 62) hx hb dJ6_numberOfTrailingZeros_0f7a4_52 (by decide) (fun c_11 => ?_) (fun c_11 => ?_)
        · have c_11 : k_5 / 256 ≤ 16 := (nle (k_5 / 256) 16 (by omega) (by omega)).mp c_11
          refine lv_iload_n hx hb dJ6_numberOfTrailingZeros_0f7a4_62 rfl (lv_at hl 0 rfl) ?_
          refine lv_iconst (v := 4) hx hb dJ6_numberOfTrailingZeros_0f7a4_63 (by decide) ?_
          refine lv_icmp_le (tgt := 74) hx hb dJ6_numberOfTrailingZeros_0f7a4_64 (by decide) (fun c_12 => ?_) (fun c_12 => ?_)
          · have c_12 : k_5 / 256 ≤ 4 := (nle (k_5 / 256) 4 (by omega) (by omega)).mp c_12
            refine lv_iload_n hx hb dJ6_numberOfTrailingZeros_0f7a4_74 rfl (lv_at hl 1 rfl) ?_
            refine lv_iload_n hx hb dJ6_numberOfTrailingZeros_0f7a4_75 rfl (lv_at hl 0 rfl) ?_
            refine lv_iconst (v := 1) hx hb dJ6_numberOfTrailingZeros_0f7a4_76 (by decide) ?_
            refine lv_iushr (v := nI ((k_5 / 256) / 2)) hx hb dJ6_numberOfTrailingZeros_0f7a4_77 (nushr (k_5 / 256) 1 (by omega) (by decide) 2 rfl) ?_
            refine lv_iadd hx hb dJ6_numberOfTrailingZeros_0f7a4_78 ?_
            refine sk_top (nI (9 + ((k_5 / 256) / 2))) (nI_add 9 ((k_5 / 256) / 2)) ?_
            exact sk_iret hx hb hr rfl hlocks hK hP hD hS (⟨9 + ((k_5 / 256) / 2), by omega, rfl, rfl⟩) (Nat.le_of_ble_eq_true rfl) (Nat.le_of_ble_eq_true rfl) dJ6_numberOfTrailingZeros_0f7a4_79
          · have c_12 : ¬ (k_5 / 256 ≤ 4) := fun h => c_12 ((nle (k_5 / 256) 4 (by omega) (by omega)).mpr h)
            refine lv_iinc (v := 11) (lv' := [(1, .int 11), (0, .int (nI (k_5 / 256)))]) hx hb dJ6_numberOfTrailingZeros_0f7a4_67 hl (k := 1) rfl (by decide) (by decide) rfl (fun ls hl => ?_)
            refine lv_iload_n hx hb dJ6_numberOfTrailingZeros_0f7a4_70 rfl (lv_at hl 1 rfl) ?_
            refine lv_iconst (v := 2) hx hb dJ6_numberOfTrailingZeros_0f7a4_71 (by decide) ?_
            refine lv_iushr (v := nI ((k_5 / 256) / 4)) hx hb dJ6_numberOfTrailingZeros_0f7a4_72 (nushr (k_5 / 256) 2 (by omega) (by decide) 4 rfl) ?_
            refine lv_istore_n (lv' := [(0, .int (nI ((k_5 / 256) / 4))), (1, .int 11)]) hx hb dJ6_numberOfTrailingZeros_0f7a4_73 rfl hl (by decide) rfl (fun ls hl => ?_)
            refine lv_iload_n hx hb dJ6_numberOfTrailingZeros_0f7a4_74 rfl (lv_at hl 1 rfl) ?_
            refine lv_iload_n hx hb dJ6_numberOfTrailingZeros_0f7a4_75 rfl (lv_at hl 0 rfl) ?_
            refine lv_iconst (v := 1) hx hb dJ6_numberOfTrailingZeros_0f7a4_76 (by decide) ?_
            refine lv_iushr (v := nI (((k_5 / 256) / 4) / 2)) hx hb dJ6_numberOfTrailingZeros_0f7a4_77 (nushr ((k_5 / 256) / 4) 1 (by omega) (by decide) 2 rfl) ?_
            refine lv_iadd hx hb dJ6_numberOfTrailingZeros_0f7a4_78 ?_
            refine sk_top (nI (11 + (((k_5 / 256) / 4) / 2))) (nI_add 11 (((k_5 / 256) / 4) / 2)) ?_
            exact sk_iret hx hb hr rfl hlocks hK hP hD hS (⟨11 + (((k_5 / 256) / 4) / 2), by omega, rfl, rfl⟩) (Nat.le_of_ble_eq_true rfl) (Nat.le_of_ble_eq_true rfl) dJ6_numberOfTrailingZeros_0f7a4_79
        · have c_11 : ¬ (k_5 / 256 ≤ 16) := fun h => c_11 ((nle (k_5 / 256) 16 (by omega) (by omega)).mpr h)
          refine lv_iinc (v := 13) (lv' := [(1, .int 13), (0, .int (nI (k_5 / 256)))]) hx hb dJ6_numberOfTrailingZeros_0f7a4_55 hl (k := 1) rfl (by decide) (by decide) rfl (fun ls hl => ?_)
          refine lv_iload_n hx hb dJ6_numberOfTrailingZeros_0f7a4_58 rfl (lv_at hl 1 rfl) ?_
          refine lv_iconst (v := 4) hx hb dJ6_numberOfTrailingZeros_0f7a4_59 (by decide) ?_
          refine lv_iushr (v := nI ((k_5 / 256) / 16)) hx hb dJ6_numberOfTrailingZeros_0f7a4_60 (nushr (k_5 / 256) 4 (by omega) (by decide) 16 rfl) ?_
          refine lv_istore_n (lv' := [(0, .int (nI ((k_5 / 256) / 16))), (1, .int 13)]) hx hb dJ6_numberOfTrailingZeros_0f7a4_61 rfl hl (by decide) rfl (fun ls hl => ?_)
          refine lv_iload_n hx hb dJ6_numberOfTrailingZeros_0f7a4_62 rfl (lv_at hl 0 rfl) ?_
          refine lv_iconst (v := 4) hx hb dJ6_numberOfTrailingZeros_0f7a4_63 (by decide) ?_
          refine lv_icmp_le (tgt := 74) hx hb dJ6_numberOfTrailingZeros_0f7a4_64 (by decide) (fun c_13 => ?_) (fun c_13 => ?_)
          · have c_13 : (k_5 / 256) / 16 ≤ 4 := (nle ((k_5 / 256) / 16) 4 (by omega) (by omega)).mp c_13
            refine lv_iload_n hx hb dJ6_numberOfTrailingZeros_0f7a4_74 rfl (lv_at hl 1 rfl) ?_
            refine lv_iload_n hx hb dJ6_numberOfTrailingZeros_0f7a4_75 rfl (lv_at hl 0 rfl) ?_
            refine lv_iconst (v := 1) hx hb dJ6_numberOfTrailingZeros_0f7a4_76 (by decide) ?_
            refine lv_iushr (v := nI (((k_5 / 256) / 16) / 2)) hx hb dJ6_numberOfTrailingZeros_0f7a4_77 (nushr ((k_5 / 256) / 16) 1 (by omega) (by decide) 2 rfl) ?_
            refine lv_iadd hx hb dJ6_numberOfTrailingZeros_0f7a4_78 ?_
            refine sk_top (nI (13 + (((k_5 / 256) / 16) / 2))) (nI_add 13 (((k_5 / 256) / 16) / 2)) ?_
            exact sk_iret hx hb hr rfl hlocks hK hP hD hS (⟨13 + (((k_5 / 256) / 16) / 2), by omega, rfl, rfl⟩) (Nat.le_of_ble_eq_true rfl) (Nat.le_of_ble_eq_true rfl) dJ6_numberOfTrailingZeros_0f7a4_79
          · have c_13 : ¬ ((k_5 / 256) / 16 ≤ 4) := fun h => c_13 ((nle ((k_5 / 256) / 16) 4 (by omega) (by omega)).mpr h)
            refine lv_iinc (v := 15) (lv' := [(1, .int 15), (0, .int (nI ((k_5 / 256) / 16)))]) hx hb dJ6_numberOfTrailingZeros_0f7a4_67 hl (k := 1) rfl (by decide) (by decide) rfl (fun ls hl => ?_)
            refine lv_iload_n hx hb dJ6_numberOfTrailingZeros_0f7a4_70 rfl (lv_at hl 1 rfl) ?_
            refine lv_iconst (v := 2) hx hb dJ6_numberOfTrailingZeros_0f7a4_71 (by decide) ?_
            refine lv_iushr (v := nI (((k_5 / 256) / 16) / 4)) hx hb dJ6_numberOfTrailingZeros_0f7a4_72 (nushr ((k_5 / 256) / 16) 2 (by omega) (by decide) 4 rfl) ?_
            refine lv_istore_n (lv' := [(0, .int (nI (((k_5 / 256) / 16) / 4))), (1, .int 15)]) hx hb dJ6_numberOfTrailingZeros_0f7a4_73 rfl hl (by decide) rfl (fun ls hl => ?_)
            refine lv_iload_n hx hb dJ6_numberOfTrailingZeros_0f7a4_74 rfl (lv_at hl 1 rfl) ?_
            refine lv_iload_n hx hb dJ6_numberOfTrailingZeros_0f7a4_75 rfl (lv_at hl 0 rfl) ?_
            refine lv_iconst (v := 1) hx hb dJ6_numberOfTrailingZeros_0f7a4_76 (by decide) ?_
            refine lv_iushr (v := nI ((((k_5 / 256) / 16) / 4) / 2)) hx hb dJ6_numberOfTrailingZeros_0f7a4_77 (nushr (((k_5 / 256) / 16) / 4) 1 (by omega) (by decide) 2 rfl) ?_
            refine lv_iadd hx hb dJ6_numberOfTrailingZeros_0f7a4_78 ?_
            refine sk_top (nI (15 + ((((k_5 / 256) / 16) / 4) / 2))) (nI_add 15 ((((k_5 / 256) / 16) / 4) / 2)) ?_
            exact sk_iret hx hb hr rfl hlocks hK hP hD hS (⟨15 + ((((k_5 / 256) / 16) / 4) / 2), by omega, rfl, rfl⟩) (Nat.le_of_ble_eq_true rfl) (Nat.le_of_ble_eq_true rfl) dJ6_numberOfTrailingZeros_0f7a4_79
    · have c_6 : ¬ (k_5 ≤ 65536) := fun h => c_6 ((nle k_5 65536 (by omega) (by omega)).mpr h)
      refine lv_iinc (v := 17) (lv' := [(1, .int 17), (0, .int (nI k_5))]) hx hb dJ6_numberOfTrailingZeros_0f7a4_26 hl (k := 0) rfl (by decide) (by decide) rfl (fun ls hl => ?_)
      refine lv_iload_n hx hb dJ6_numberOfTrailingZeros_0f7a4_29 rfl (lv_at hl 1 rfl) ?_
      refine lv_bipush (v := 16) hx hb dJ6_numberOfTrailingZeros_0f7a4_30 (by decide) ?_
      refine lv_iushr (v := nI (k_5 / 65536)) hx hb dJ6_numberOfTrailingZeros_0f7a4_32 (nushr k_5 16 (by omega) (by decide) 65536 rfl) ?_
      refine lv_istore_n (lv' := [(0, .int (nI (k_5 / 65536))), (1, .int 17)]) hx hb dJ6_numberOfTrailingZeros_0f7a4_33 rfl hl (by decide) rfl (fun ls hl => ?_)
      refine lv_iload_n hx hb dJ6_numberOfTrailingZeros_0f7a4_34 rfl (lv_at hl 0 rfl) ?_
      refine lv_sipush (v := 256) hx hb dJ6_numberOfTrailingZeros_0f7a4_35 (by decide) ?_
      refine lv_icmp_le (tgt := 49) hx hb dJ6_numberOfTrailingZeros_0f7a4_38 (by decide) (fun c_14 => ?_) (fun c_14 => ?_)
      · have c_14 : k_5 / 65536 ≤ 256 := (nle (k_5 / 65536) 256 (by omega) (by omega)).mp c_14
        refine lv_iload_n hx hb dJ6_numberOfTrailingZeros_0f7a4_49 rfl (lv_at hl 0 rfl) ?_
        refine lv_bipush (v := 16) hx hb dJ6_numberOfTrailingZeros_0f7a4_50 (by decide) ?_
        refine lv_icmp_le (tgt := 62) hx hb dJ6_numberOfTrailingZeros_0f7a4_52 (by decide) (fun c_15 => ?_) (fun c_15 => ?_)
        · have c_15 : k_5 / 65536 ≤ 16 := (nle (k_5 / 65536) 16 (by omega) (by omega)).mp c_15
          refine lv_iload_n hx hb dJ6_numberOfTrailingZeros_0f7a4_62 rfl (lv_at hl 0 rfl) ?_
          refine lv_iconst (v := 4) hx hb dJ6_numberOfTrailingZeros_0f7a4_63 (by decide) ?_
          refine lv_icmp_le (tgt := 74) hx hb dJ6_numberOfTrailingZeros_0f7a4_64 (by decide) (fun c_16 => ?_) (fun c_16 => ?_)
          · have c_16 : k_5 / 65536 ≤ 4 := (nle (k_5 / 65536) 4 (by omega) (by omega)).mp c_16
            refine lv_iload_n hx hb dJ6_numberOfTrailingZeros_0f7a4_74 rfl (lv_at hl 1 rfl) ?_
            refine lv_iload_n hx hb dJ6_numberOfTrailingZeros_0f7a4_75 rfl (lv_at hl 0 rfl) ?_
            refine lv_iconst (v := 1) hx hb dJ6_numberOfTrailingZeros_0f7a4_76 (by decide) ?_
            refine lv_iushr (v := nI ((k_5 / 65536) / 2)) hx hb dJ6_numberOfTrailingZeros_0f7a4_77 (nushr (k_5 / 65536) 1 (by omega) (by decide) 2 rfl) ?_
            refine lv_iadd hx hb dJ6_numberOfTrailingZeros_0f7a4_78 ?_
            refine sk_top (nI (17 + ((k_5 / 65536) / 2))) (nI_add 17 ((k_5 / 65536) / 2)) ?_
            exact sk_iret hx hb hr rfl hlocks hK hP hD hS (⟨17 + ((k_5 / 65536) / 2), by omega, rfl, rfl⟩) (Nat.le_of_ble_eq_true rfl) (Nat.le_of_ble_eq_true rfl) dJ6_numberOfTrailingZeros_0f7a4_79
          · have c_16 : ¬ (k_5 / 65536 ≤ 4) := fun h => c_16 ((nle (k_5 / 65536) 4 (by omega) (by omega)).mpr h)
            refine lv_iinc (v := 19) (lv' := [(1, .int 19), (0, .int (nI (k_5 / 65536)))]) hx hb dJ6_numberOfTrailingZeros_0f7a4_67 hl (k := 1) rfl (by decide) (by decide) rfl (fun ls hl => ?_)
            refine lv_iload_n hx hb dJ6_numberOfTrailingZeros_0f7a4_70 rfl (lv_at hl 1 rfl) ?_
            refine lv_iconst (v := 2) hx hb dJ6_numberOfTrailingZeros_0f7a4_71 (by decide) ?_
            refine lv_iushr (v := nI ((k_5 / 65536) / 4)) hx hb dJ6_numberOfTrailingZeros_0f7a4_72 (nushr (k_5 / 65536) 2 (by omega) (by decide) 4 rfl) ?_
            refine lv_istore_n (lv' := [(0, .int (nI ((k_5 / 65536) / 4))), (1, .int 19)]) hx hb dJ6_numberOfTrailingZeros_0f7a4_73 rfl hl (by decide) rfl (fun ls hl => ?_)
            refine lv_iload_n hx hb dJ6_numberOfTrailingZeros_0f7a4_74 rfl (lv_at hl 1 rfl) ?_
            refine lv_iload_n hx hb dJ6_numberOfTrailingZeros_0f7a4_75 rfl (lv_at hl 0 rfl) ?_
            refine lv_iconst (v := 1) hx hb dJ6_numberOfTrailingZeros_0f7a4_76 (by decide) ?_
            refine lv_iushr (v := nI (((k_5 / 65536) / 4) / 2)) hx hb dJ6_numberOfTrailingZeros_0f7a4_77 (nushr ((k_5 / 65536) / 4) 1 (by omega) (by decide) 2 rfl) ?_
            refine lv_iadd hx hb dJ6_numberOfTrailingZeros_0f7a4_78 ?_
            refine sk_top (nI (19 + (((k_5 / 65536) / 4) / 2))) (nI_add 19 (((k_5 / 65536) / 4) / 2)) ?_
            exact sk_iret hx hb hr rfl hlocks hK hP hD hS (⟨19 + (((k_5 / 65536) / 4) / 2), by omega, rfl, rfl⟩) (Nat.le_of_ble_eq_true rfl) (Nat.le_of_ble_eq_true rfl) dJ6_numberOfTrailingZeros_0f7a4_79
        · have c_15 : ¬ (k_5 / 65536 ≤ 16) := fun h => c_15 ((nle (k_5 / 65536) 16 (by omega) (by omega)).mpr h)
          refine lv_iinc (v := 21) (lv' := [(1, .int 21), (0, .int (nI (k_5 / 65536)))]) hx hb dJ6_numberOfTrailingZeros_0f7a4_55 hl (k := 1) rfl (by decide) (by decide) rfl (fun ls hl => ?_)
          refine lv_iload_n hx hb dJ6_numberOfTrailingZeros_0f7a4_58 rfl (lv_at hl 1 rfl) ?_
          refine lv_iconst (v := 4) hx hb dJ6_numberOfTrailingZeros_0f7a4_59 (by decide) ?_
          refine lv_iushr (v := nI ((k_5 / 65536) / 16)) hx hb dJ6_numberOfTrailingZeros_0f7a4_60 (nushr (k_5 / 65536) 4 (by omega) (by decide) 16 rfl) ?_
          refine lv_istore_n (lv' := [(0, .int (nI ((k_5 / 65536) / 16))), (1, .int 21)]) hx hb dJ6_numberOfTrailingZeros_0f7a4_61 rfl hl (by decide) rfl (fun ls hl => ?_)
          refine lv_iload_n hx hb dJ6_numberOfTrailingZeros_0f7a4_62 rfl (lv_at hl 0 rfl) ?_
          refine lv_iconst (v := 4) hx hb dJ6_numberOfTrailingZeros_0f7a4_63 (by decide) ?_
          refine lv_icmp_le (tgt := 74) hx hb dJ6_numberOfTrailingZeros_0f7a4_64 (by decide) (fun c_17 => ?_) (fun c_17 => ?_)
          · have c_17 : (k_5 / 65536) / 16 ≤ 4 := (nle ((k_5 / 65536) / 16) 4 (by omega) (by omega)).mp c_17
            refine lv_iload_n hx hb dJ6_numberOfTrailingZeros_0f7a4_74 rfl (lv_at hl 1 rfl) ?_
            refine lv_iload_n hx hb dJ6_numberOfTrailingZeros_0f7a4_75 rfl (lv_at hl 0 rfl) ?_
            refine lv_iconst (v := 1) hx hb dJ6_numberOfTrailingZeros_0f7a4_76 (by decide) ?_
            refine lv_iushr (v := nI (((k_5 / 65536) / 16) / 2)) hx hb dJ6_numberOfTrailingZeros_0f7a4_77 (nushr ((k_5 / 65536) / 16) 1 (by omega) (by decide) 2 rfl) ?_
            refine lv_iadd hx hb dJ6_numberOfTrailingZeros_0f7a4_78 ?_
            refine sk_top (nI (21 + (((k_5 / 65536) / 16) / 2))) (nI_add 21 (((k_5 / 65536) / 16) / 2)) ?_
            exact sk_iret hx hb hr rfl hlocks hK hP hD hS (⟨21 + (((k_5 / 65536) / 16) / 2), by omega, rfl, rfl⟩) (Nat.le_of_ble_eq_true rfl) (Nat.le_of_ble_eq_true rfl) dJ6_numberOfTrailingZeros_0f7a4_79
          · have c_17 : ¬ ((k_5 / 65536) / 16 ≤ 4) := fun h => c_17 ((nle ((k_5 / 65536) / 16) 4 (by omega) (by omega)).mpr h)
            refine lv_iinc (v := 23) (lv' := [(1, .int 23), (0, .int (nI ((k_5 / 65536) / 16)))]) hx hb dJ6_numberOfTrailingZeros_0f7a4_67 hl (k := 1) rfl (by decide) (by decide) rfl (fun ls hl => ?_)
            refine lv_iload_n hx hb dJ6_numberOfTrailingZeros_0f7a4_70 rfl (lv_at hl 1 rfl) ?_
            refine lv_iconst (v := 2) hx hb dJ6_numberOfTrailingZeros_0f7a4_71 (by decide) ?_
            refine lv_iushr (v := nI (((k_5 / 65536) / 16) / 4)) hx hb dJ6_numberOfTrailingZeros_0f7a4_72 (nushr ((k_5 / 65536) / 16) 2 (by omega) (by decide) 4 rfl) ?_
            refine lv_istore_n (lv' := [(0, .int (nI (((k_5 / 65536) / 16) / 4))), (1, .int 23)]) hx hb dJ6_numberOfTrailingZeros_0f7a4_73 rfl hl (by decide) rfl (fun ls hl => ?_)
            refine lv_iload_n hx hb dJ6_numberOfTrailingZeros_0f7a4_74 rfl (lv_at hl 1 rfl) ?_
            refine lv_iload_n hx hb dJ6_numberOfTrailingZeros_0f7a4_75 rfl (lv_at hl 0 rfl) ?_
            refine lv_iconst (v := 1) hx hb dJ6_numberOfTrailingZeros_0f7a4_76 (by decide) ?_
            refine lv_iushr (v := nI ((((k_5 / 65536) / 16) / 4) / 2)) hx hb dJ6_numberOfTrailingZeros_0f7a4_77 (nushr (((k_5 / 65536) / 16) / 4) 1 (by omega) (by decide) 2 rfl) ?_
            refine lv_iadd hx hb dJ6_numberOfTrailingZeros_0f7a4_78 ?_
            refine sk_top (nI (23 + ((((k_5 / 65536) / 16) / 4) / 2))) (nI_add 23 ((((k_5 / 65536) / 16) / 4) / 2)) ?_
            exact sk_iret hx hb hr rfl hlocks hK hP hD hS (⟨23 + ((((k_5 / 65536) / 16) / 4) / 2), by omega, rfl, rfl⟩) (Nat.le_of_ble_eq_true rfl) (Nat.le_of_ble_eq_true rfl) dJ6_numberOfTrailingZeros_0f7a4_79
      · have c_14 : ¬ (k_5 / 65536 ≤ 256) := fun h => c_14 ((nle (k_5 / 65536) 256 (by omega) (by omega)).mpr h)
        refine lv_iinc (v := 25) (lv' := [(1, .int 25), (0, .int (nI (k_5 / 65536)))]) hx hb dJ6_numberOfTrailingZeros_0f7a4_41 hl (k := 1) rfl (by decide) (by decide) rfl (fun ls hl => ?_)
        refine lv_iload_n hx hb dJ6_numberOfTrailingZeros_0f7a4_44 rfl (lv_at hl 1 rfl) ?_
        refine lv_bipush (v := 8) hx hb dJ6_numberOfTrailingZeros_0f7a4_45 (by decide) ?_
        refine lv_iushr (v := nI ((k_5 / 65536) / 256)) hx hb dJ6_numberOfTrailingZeros_0f7a4_47 (nushr (k_5 / 65536) 8 (by omega) (by decide) 256 rfl) ?_
        refine lv_istore_n (lv' := [(0, .int (nI ((k_5 / 65536) / 256))), (1, .int 25)]) hx hb dJ6_numberOfTrailingZeros_0f7a4_48 rfl hl (by decide) rfl (fun ls hl => ?_)
        refine lv_iload_n hx hb dJ6_numberOfTrailingZeros_0f7a4_49 rfl (lv_at hl 0 rfl) ?_
        refine lv_bipush (v := 16) hx hb dJ6_numberOfTrailingZeros_0f7a4_50 (by decide) ?_
        refine lv_icmp_le (tgt := 62) hx hb dJ6_numberOfTrailingZeros_0f7a4_52 (by decide) (fun c_18 => ?_) (fun c_18 => ?_)
        · have c_18 : (k_5 / 65536) / 256 ≤ 16 := (nle ((k_5 / 65536) / 256) 16 (by omega) (by omega)).mp c_18
          refine lv_iload_n hx hb dJ6_numberOfTrailingZeros_0f7a4_62 rfl (lv_at hl 0 rfl) ?_
          refine lv_iconst (v := 4) hx hb dJ6_numberOfTrailingZeros_0f7a4_63 (by decide) ?_
          refine lv_icmp_le (tgt := 74) hx hb dJ6_numberOfTrailingZeros_0f7a4_64 (by decide) (fun c_19 => ?_) (fun c_19 => ?_)
          · have c_19 : (k_5 / 65536) / 256 ≤ 4 := (nle ((k_5 / 65536) / 256) 4 (by omega) (by omega)).mp c_19
            refine lv_iload_n hx hb dJ6_numberOfTrailingZeros_0f7a4_74 rfl (lv_at hl 1 rfl) ?_
            refine lv_iload_n hx hb dJ6_numberOfTrailingZeros_0f7a4_75 rfl (lv_at hl 0 rfl) ?_
            refine lv_iconst (v := 1) hx hb dJ6_numberOfTrailingZeros_0f7a4_76 (by decide) ?_
            refine lv_iushr (v := nI (((k_5 / 65536) / 256) / 2)) hx hb dJ6_numberOfTrailingZeros_0f7a4_77 (nushr ((k_5 / 65536) / 256) 1 (by omega) (by decide) 2 rfl) ?_
            refine lv_iadd hx hb dJ6_numberOfTrailingZeros_0f7a4_78 ?_
            refine sk_top (nI (25 + (((k_5 / 65536) / 256) / 2))) (nI_add 25 (((k_5 / 65536) / 256) / 2)) ?_
            exact sk_iret hx hb hr rfl hlocks hK hP hD hS (⟨25 + (((k_5 / 65536) / 256) / 2), by omega, rfl, rfl⟩) (Nat.le_of_ble_eq_true rfl) (Nat.le_of_ble_eq_true rfl) dJ6_numberOfTrailingZeros_0f7a4_79
          · have c_19 : ¬ ((k_5 / 65536) / 256 ≤ 4) := fun h => c_19 ((nle ((k_5 / 65536) / 256) 4 (by omega) (by omega)).mpr h)
            refine lv_iinc (v := 27) (lv' := [(1, .int 27), (0, .int (nI ((k_5 / 65536) / 256)))]) hx hb dJ6_numberOfTrailingZeros_0f7a4_67 hl (k := 1) rfl (by decide) (by decide) rfl (fun ls hl => ?_)
            refine lv_iload_n hx hb dJ6_numberOfTrailingZeros_0f7a4_70 rfl (lv_at hl 1 rfl) ?_
            refine lv_iconst (v := 2) hx hb dJ6_numberOfTrailingZeros_0f7a4_71 (by decide) ?_
            refine lv_iushr (v := nI (((k_5 / 65536) / 256) / 4)) hx hb dJ6_numberOfTrailingZeros_0f7a4_72 (nushr ((k_5 / 65536) / 256) 2 (by omega) (by decide) 4 rfl) ?_
            refine lv_istore_n (lv' := [(0, .int (nI (((k_5 / 65536) / 256) / 4))), (1, .int 27)]) hx hb dJ6_numberOfTrailingZeros_0f7a4_73 rfl hl (by decide) rfl (fun ls hl => ?_)
            refine lv_iload_n hx hb dJ6_numberOfTrailingZeros_0f7a4_74 rfl (lv_at hl 1 rfl) ?_
            refine lv_iload_n hx hb dJ6_numberOfTrailingZeros_0f7a4_75 rfl (lv_at hl 0 rfl) ?_
            refine lv_iconst (v := 1) hx hb dJ6_numberOfTrailingZeros_0f7a4_76 (by decide) ?_
            refine lv_iushr (v := nI ((((k_5 / 65536) / 256) / 4) / 2)) hx hb dJ6_numberOfTrailingZeros_0f7a4_77 (nushr (((k_5 / 65536) / 256) / 4) 1 (by omega) (by decide) 2 rfl) ?_
            refine lv_iadd hx hb dJ6_numberOfTrailingZeros_0f7a4_78 ?_
            refine sk_top (nI (27 + ((((k_5 / 65536) / 256) / 4) / 2))) (nI_add 27 ((((k_5 / 65536) / 256) / 4) / 2)) ?_
            exact sk_iret hx hb hr rfl hlocks hK hP hD hS (⟨27 + ((((k_5 / 65536) / 256) / 4) / 2), by omega, rfl, rfl⟩) (Nat.le_of_ble_eq_true rfl) (Nat.le_of_ble_eq_true rfl) dJ6_numberOfTrailingZeros_0f7a4_79
        · have c_18 : ¬ ((k_5 / 65536) / 256 ≤ 16) := fun h => c_18 ((nle ((k_5 / 65536) / 256) 16 (by omega) (by omega)).mpr h)
          refine lv_iinc (v := 29) (lv' := [(1, .int 29), (0, .int (nI ((k_5 / 65536) / 256)))]) hx hb dJ6_numberOfTrailingZeros_0f7a4_55 hl (k := 1) rfl (by decide) (by decide) rfl (fun ls hl => ?_)
          refine lv_iload_n hx hb dJ6_numberOfTrailingZeros_0f7a4_58 rfl (lv_at hl 1 rfl) ?_
          refine lv_iconst (v := 4) hx hb dJ6_numberOfTrailingZeros_0f7a4_59 (by decide) ?_
          refine lv_iushr (v := nI (((k_5 / 65536) / 256) / 16)) hx hb dJ6_numberOfTrailingZeros_0f7a4_60 (nushr ((k_5 / 65536) / 256) 4 (by omega) (by decide) 16 rfl) ?_
          refine lv_istore_n (lv' := [(0, .int (nI (((k_5 / 65536) / 256) / 16))), (1, .int 29)]) hx hb dJ6_numberOfTrailingZeros_0f7a4_61 rfl hl (by decide) rfl (fun ls hl => ?_)
          refine lv_iload_n hx hb dJ6_numberOfTrailingZeros_0f7a4_62 rfl (lv_at hl 0 rfl) ?_
          refine lv_iconst (v := 4) hx hb dJ6_numberOfTrailingZeros_0f7a4_63 (by decide) ?_
          refine lv_icmp_le (tgt := 74) hx hb dJ6_numberOfTrailingZeros_0f7a4_64 (by decide) (fun c_20 => ?_) (fun c_20 => ?_)
          · have c_20 : ((k_5 / 65536) / 256) / 16 ≤ 4 := (nle (((k_5 / 65536) / 256) / 16) 4 (by omega) (by omega)).mp c_20
            refine lv_iload_n hx hb dJ6_numberOfTrailingZeros_0f7a4_74 rfl (lv_at hl 1 rfl) ?_
            refine lv_iload_n hx hb dJ6_numberOfTrailingZeros_0f7a4_75 rfl (lv_at hl 0 rfl) ?_
            refine lv_iconst (v := 1) hx hb dJ6_numberOfTrailingZeros_0f7a4_76 (by decide) ?_
            refine lv_iushr (v := nI ((((k_5 / 65536) / 256) / 16) / 2)) hx hb dJ6_numberOfTrailingZeros_0f7a4_77 (nushr (((k_5 / 65536) / 256) / 16) 1 (by omega) (by decide) 2 rfl) ?_
            refine lv_iadd hx hb dJ6_numberOfTrailingZeros_0f7a4_78 ?_
            refine sk_top (nI (29 + ((((k_5 / 65536) / 256) / 16) / 2))) (nI_add 29 ((((k_5 / 65536) / 256) / 16) / 2)) ?_
            exact sk_iret hx hb hr rfl hlocks hK hP hD hS (⟨29 + ((((k_5 / 65536) / 256) / 16) / 2), by omega, rfl, rfl⟩) (Nat.le_of_ble_eq_true rfl) (Nat.le_of_ble_eq_true rfl) dJ6_numberOfTrailingZeros_0f7a4_79
          · have c_20 : ¬ (((k_5 / 65536) / 256) / 16 ≤ 4) := fun h => c_20 ((nle (((k_5 / 65536) / 256) / 16) 4 (by omega) (by omega)).mpr h)
            refine lv_iinc (v := 31) (lv' := [(1, .int 31), (0, .int (nI (((k_5 / 65536) / 256) / 16)))]) hx hb dJ6_numberOfTrailingZeros_0f7a4_67 hl (k := 1) rfl (by decide) (by decide) rfl (fun ls hl => ?_)
            refine lv_iload_n hx hb dJ6_numberOfTrailingZeros_0f7a4_70 rfl (lv_at hl 1 rfl) ?_
            refine lv_iconst (v := 2) hx hb dJ6_numberOfTrailingZeros_0f7a4_71 (by decide) ?_
            refine lv_iushr (v := nI ((((k_5 / 65536) / 256) / 16) / 4)) hx hb dJ6_numberOfTrailingZeros_0f7a4_72 (nushr (((k_5 / 65536) / 256) / 16) 2 (by omega) (by decide) 4 rfl) ?_
            refine lv_istore_n (lv' := [(0, .int (nI ((((k_5 / 65536) / 256) / 16) / 4))), (1, .int 31)]) hx hb dJ6_numberOfTrailingZeros_0f7a4_73 rfl hl (by decide) rfl (fun ls hl => ?_)
            refine lv_iload_n hx hb dJ6_numberOfTrailingZeros_0f7a4_74 rfl (lv_at hl 1 rfl) ?_
            refine lv_iload_n hx hb dJ6_numberOfTrailingZeros_0f7a4_75 rfl (lv_at hl 0 rfl) ?_
            refine lv_iconst (v := 1) hx hb dJ6_numberOfTrailingZeros_0f7a4_76 (by decide) ?_
            refine lv_iushr (v := nI (((((k_5 / 65536) / 256) / 16) / 4) / 2)) hx hb dJ6_numberOfTrailingZeros_0f7a4_77 (nushr ((((k_5 / 65536) / 256) / 16) / 4) 1 (by omega) (by decide) 2 rfl) ?_
            refine lv_iadd hx hb dJ6_numberOfTrailingZeros_0f7a4_78 ?_
            refine sk_top (nI (31 + (((((k_5 / 65536) / 256) / 16) / 4) / 2))) (nI_add 31 (((((k_5 / 65536) / 256) / 16) / 4) / 2)) ?_
            exact sk_iret hx hb hr rfl hlocks hK hP hD hS (⟨31 + (((((k_5 / 65536) / 256) / 16) / 4) / 2), by omega, rfl, rfl⟩) (Nat.le_of_ble_eq_true rfl) (Nat.le_of_ble_eq_true rfl) dJ6_numberOfTrailingZeros_0f7a4_79
  · skip
    refine lv_iload_n hx hb dJ6_numberOfTrailingZeros_0f7a4_12 rfl (lv_at hl 0 rfl) ?_
    refine lv_bipush (v := 32) hx hb dJ6_numberOfTrailingZeros_0f7a4_13 (by decide) ?_
    refine lv_iand hx hb dJ6_numberOfTrailingZeros_0f7a4_15 ?_
    obtain ⟨k_21, hk_21, ek_21⟩ := nand32 v_3
    refine sk_top (nI k_21) ek_21 ?_
    exact sk_iret hx hb hr rfl hlocks hK hP hD hS (⟨k_21, by omega, rfl, rfl⟩) (Nat.le_of_ble_eq_true rfl) (Nat.le_of_ble_eq_true rfl) dJ6_numberOfTrailingZeros_0f7a4_16

