theorem dg_X9_moodsBehind_0_0 : bqL cX9_moodsBehind 0 [(0, [3]), (1, [54, 4]), (3, [3]), (4, [54, 5]), (6, [21, 5]), (8, [16, 10]), (10, [162, 0, 59]), (69, [21, 4]), (71, [172]), (13, [42]), (14, [180, 0, 9]), (17, [27]), (18, [16, 10]), (20, [104]), (21, [21, 5]), (23, [96]), (24, [46]), (25, [29]), (26, [96]), (27, [16, 10]), (29, [112]), (30, [54, 6]), (32, [42]), (33, [180, 0, 15]), (36, [27]), (37, [16, 10]), (39, [104]), (40, [28]), (41, [96]), (42, [16, 10]), (44, [104]), (45, [21, 6]), (47, [96]), (48, [46]), (49, [21, 5]), (51, [160, 0, 12]), (63, [132, 5, 1]), (66, [167, 255, 196]), (54, [21, 4]), (56, [4])] = true := by decide +kernel
theorem dX9_moodsBehind_0 : decode cX9_moodsBehind 0 = .ok (.iconst 0, 1) := q_iconst0 (bat_get dg_X9_moodsBehind_0_0 0 rfl rfl)
theorem dX9_moodsBehind_1 : decode cX9_moodsBehind 1 = .ok (.istore 4, 2) := q_istore (bat_get dg_X9_moodsBehind_0_0 1 rfl rfl)
theorem dX9_moodsBehind_3 : decode cX9_moodsBehind 3 = .ok (.iconst 0, 1) := q_iconst0 (bat_get dg_X9_moodsBehind_0_0 2 rfl rfl)
theorem dX9_moodsBehind_4 : decode cX9_moodsBehind 4 = .ok (.istore 5, 2) := q_istore (bat_get dg_X9_moodsBehind_0_0 3 rfl rfl)
theorem dX9_moodsBehind_6 : decode cX9_moodsBehind 6 = .ok (.iload 5, 2) := q_iload (bat_get dg_X9_moodsBehind_0_0 4 rfl rfl)
theorem dX9_moodsBehind_8 : decode cX9_moodsBehind 8 = .ok (.bipush 10, 2) := q_bipush (bat_get dg_X9_moodsBehind_0_0 5 rfl rfl) rfl
theorem dX9_moodsBehind_10 : decode cX9_moodsBehind 10 = .ok (.if_icmp .ge 59, 3) := q_if_icmp_ge (bat_get dg_X9_moodsBehind_0_0 6 rfl rfl) rfl
theorem dX9_moodsBehind_69 : decode cX9_moodsBehind 69 = .ok (.iload 4, 2) := q_iload (bat_get dg_X9_moodsBehind_0_0 7 rfl rfl)
theorem dX9_moodsBehind_71 : decode cX9_moodsBehind 71 = .ok (.ireturn, 1) := q_ireturn (bat_get dg_X9_moodsBehind_0_0 8 rfl rfl)
theorem dX9_moodsBehind_13 : decode cX9_moodsBehind 13 = .ok (.aload_n 0, 1) := q_aload_n0 (bat_get dg_X9_moodsBehind_0_0 9 rfl rfl)
theorem dX9_moodsBehind_14 : decode cX9_moodsBehind 14 = .ok (.getfield 9, 3) := q_getfield (bat_get dg_X9_moodsBehind_0_0 10 rfl rfl) rfl
theorem dX9_moodsBehind_17 : decode cX9_moodsBehind 17 = .ok (.iload_n 1, 1) := q_iload_n1 (bat_get dg_X9_moodsBehind_0_0 11 rfl rfl)
theorem dX9_moodsBehind_18 : decode cX9_moodsBehind 18 = .ok (.bipush 10, 2) := q_bipush (bat_get dg_X9_moodsBehind_0_0 12 rfl rfl) rfl
theorem dX9_moodsBehind_20 : decode cX9_moodsBehind 20 = .ok (.imul, 1) := q_imul (bat_get dg_X9_moodsBehind_0_0 13 rfl rfl)
theorem dX9_moodsBehind_21 : decode cX9_moodsBehind 21 = .ok (.iload 5, 2) := q_iload (bat_get dg_X9_moodsBehind_0_0 14 rfl rfl)
theorem dX9_moodsBehind_23 : decode cX9_moodsBehind 23 = .ok (.iadd, 1) := q_iadd (bat_get dg_X9_moodsBehind_0_0 15 rfl rfl)
theorem dX9_moodsBehind_24 : decode cX9_moodsBehind 24 = .ok (.iaload, 1) := q_iaload (bat_get dg_X9_moodsBehind_0_0 16 rfl rfl)
theorem dX9_moodsBehind_25 : decode cX9_moodsBehind 25 = .ok (.iload_n 3, 1) := q_iload_n3 (bat_get dg_X9_moodsBehind_0_0 17 rfl rfl)
theorem dX9_moodsBehind_26 : decode cX9_moodsBehind 26 = .ok (.iadd, 1) := q_iadd (bat_get dg_X9_moodsBehind_0_0 18 rfl rfl)
theorem dX9_moodsBehind_27 : decode cX9_moodsBehind 27 = .ok (.bipush 10, 2) := q_bipush (bat_get dg_X9_moodsBehind_0_0 19 rfl rfl) rfl
theorem dX9_moodsBehind_29 : decode cX9_moodsBehind 29 = .ok (.irem, 1) := q_irem (bat_get dg_X9_moodsBehind_0_0 20 rfl rfl)
theorem dX9_moodsBehind_30 : decode cX9_moodsBehind 30 = .ok (.istore 6, 2) := q_istore (bat_get dg_X9_moodsBehind_0_0 21 rfl rfl)
theorem dX9_moodsBehind_32 : decode cX9_moodsBehind 32 = .ok (.aload_n 0, 1) := q_aload_n0 (bat_get dg_X9_moodsBehind_0_0 22 rfl rfl)
theorem dX9_moodsBehind_33 : decode cX9_moodsBehind 33 = .ok (.getfield 15, 3) := q_getfield (bat_get dg_X9_moodsBehind_0_0 23 rfl rfl) rfl
theorem dX9_moodsBehind_36 : decode cX9_moodsBehind 36 = .ok (.iload_n 1, 1) := q_iload_n1 (bat_get dg_X9_moodsBehind_0_0 24 rfl rfl)
theorem dX9_moodsBehind_37 : decode cX9_moodsBehind 37 = .ok (.bipush 10, 2) := q_bipush (bat_get dg_X9_moodsBehind_0_0 25 rfl rfl) rfl
theorem dX9_moodsBehind_39 : decode cX9_moodsBehind 39 = .ok (.imul, 1) := q_imul (bat_get dg_X9_moodsBehind_0_0 26 rfl rfl)
theorem dX9_moodsBehind_40 : decode cX9_moodsBehind 40 = .ok (.iload_n 2, 1) := q_iload_n2 (bat_get dg_X9_moodsBehind_0_0 27 rfl rfl)
theorem dX9_moodsBehind_41 : decode cX9_moodsBehind 41 = .ok (.iadd, 1) := q_iadd (bat_get dg_X9_moodsBehind_0_0 28 rfl rfl)
theorem dX9_moodsBehind_42 : decode cX9_moodsBehind 42 = .ok (.bipush 10, 2) := q_bipush (bat_get dg_X9_moodsBehind_0_0 29 rfl rfl) rfl
theorem dX9_moodsBehind_44 : decode cX9_moodsBehind 44 = .ok (.imul, 1) := q_imul (bat_get dg_X9_moodsBehind_0_0 30 rfl rfl)
theorem dX9_moodsBehind_45 : decode cX9_moodsBehind 45 = .ok (.iload 6, 2) := q_iload (bat_get dg_X9_moodsBehind_0_0 31 rfl rfl)
theorem dX9_moodsBehind_47 : decode cX9_moodsBehind 47 = .ok (.iadd, 1) := q_iadd (bat_get dg_X9_moodsBehind_0_0 32 rfl rfl)
theorem dX9_moodsBehind_48 : decode cX9_moodsBehind 48 = .ok (.iaload, 1) := q_iaload (bat_get dg_X9_moodsBehind_0_0 33 rfl rfl)
theorem dX9_moodsBehind_49 : decode cX9_moodsBehind 49 = .ok (.iload 5, 2) := q_iload (bat_get dg_X9_moodsBehind_0_0 34 rfl rfl)
theorem dX9_moodsBehind_51 : decode cX9_moodsBehind 51 = .ok (.if_icmp .ne 12, 3) := q_if_icmp_ne (bat_get dg_X9_moodsBehind_0_0 35 rfl rfl) rfl
theorem dX9_moodsBehind_63 : decode cX9_moodsBehind 63 = .ok (.iinc 5 1, 3) := q_iinc (bat_get dg_X9_moodsBehind_0_0 36 rfl rfl) rfl
theorem dX9_moodsBehind_66 : decode cX9_moodsBehind 66 = .ok (.goto (-60), 3) := q_goto (bat_get dg_X9_moodsBehind_0_0 37 rfl rfl) rfl
theorem dX9_moodsBehind_54 : decode cX9_moodsBehind 54 = .ok (.iload 4, 2) := q_iload (bat_get dg_X9_moodsBehind_0_0 38 rfl rfl)
theorem dX9_moodsBehind_56 : decode cX9_moodsBehind 56 = .ok (.iconst 1, 1) := q_iconst1 (bat_get dg_X9_moodsBehind_0_0 39 rfl rfl)
theorem dg_X9_moodsBehind_57_57 : bqL cX9_moodsBehind 57 [(0, [21, 5]), (2, [120]), (3, [128]), (4, [54, 4])] = true := by decide +kernel
theorem dX9_moodsBehind_57 : decode cX9_moodsBehind 57 = .ok (.iload 5, 2) := q_iload (bat_get dg_X9_moodsBehind_57_57 0 rfl rfl)
theorem dX9_moodsBehind_59 : decode cX9_moodsBehind 59 = .ok (.ishl, 1) := q_ishl (bat_get dg_X9_moodsBehind_57_57 1 rfl rfl)
theorem dX9_moodsBehind_60 : decode cX9_moodsBehind 60 = .ok (.ior, 1) := q_ior (bat_get dg_X9_moodsBehind_57_57 2 rfl rfl)
theorem dX9_moodsBehind_61 : decode cX9_moodsBehind 61 = .ok (.istore 4, 2) := q_istore (bat_get dg_X9_moodsBehind_57_57 3 rfl rfl)
theorem w_2_63 : (Cond.fieldLink RX9 9 "SameKeeper$Table" "said" "[I") ∈ wsL_law := sk_mem (ck_2 _ (List.mem_of_getElem? (i := 63) rfl)) rfl
theorem w_2_65 : (Cond.fieldLink RX9 15 "SameKeeper$Table" "turned" "[I") ∈ wsL_law := sk_mem (ck_2 _ (List.mem_of_getElem? (i := 65) rfl)) rfl
theorem w_4_20 : (Cond.code yX9_moodsBehind cX9_moodsBehind 7 (some .int)) ∈ wsL_law := sk_mem (ck_4 _ (List.mem_of_getElem? (i := 20) rfl)) rfl
set_option maxHeartbeats 4000000 in
set_option maxRecDepth 100000 in
theorem c_moodsBehind (l : Launch) (D : va_G) (cI cJ cC cZ cS : ClassId) (q : Nat → Nat) (sa : Nat → Nat) (ft : Nat → Int32) (d : Nat) (ah : Nat) (li : Nat) (hsa : ∀ j, sa j ≤ 9) (hd : d < 9) (hah : ah < 10) (hli : li < 10) : skM l yX9_moodsBehind cX9_moodsBehind 7 (some .int) 0 0 0 0 D (skT cI cJ cC cZ cS) [.ref (q 10), .int (nI d), .int (nI ah), .int (nI li)] [ro_rrrrrr (q 10) 9 (q 61) (q 62) (q 63) (q 64) (q 65) (q 66), ra_N (q 61) cI 90 sa, ra_I (q 62) cI 900 ft] (skI D (skT cI cJ cC cZ cS) (fun (r : Int32) (u : va_W) => u = [ro_rrrrrr (q 10) 9 (q 61) (q 62) (q 63) (q 64) (q 65) (q 66), ra_N (q 61) cI 90 sa, ra_I (q 62) cI 900 ft])) := by
  refine skM_of pf_X9_moodsBehind (Nat.le_of_ble_eq_true rfl) ?_
  intro p e s m below meth c A ls E hP hD hl
  refine skE_el E (fun hx hb hr hml hlocks hin hown hts hK hA => ?_)
  have hown : s.vm.findClass RX9 = some m.cls := hown
  have hS : va_S A s.heap s.heap [] := va_S.rf
  have hl : lv_has ls 7 [(0, .ref (q 10)), (1, .int (nI d)), (2, .int (nI ah)), (3, .int (nI li))] := hl
  refine lv_iconst (v := 0) hx hb dX9_moodsBehind_0 ic_0 ?_
  refine lv_istore (lv' := [(4, .int 0), (0, .ref (q 10)), (1, .int (nI d)), (2, .int (nI ah)), (3, .int (nI li))]) hx hb dX9_moodsBehind_1 hl (by decide) rfl (fun ls hl => ?_)
  refine lv_iconst (v := 0) hx hb dX9_moodsBehind_3 ic_0 ?_
  refine lv_istore (lv' := [(5, .int 0), (4, .int 0), (0, .ref (q 10)), (1, .int (nI d)), (2, .int (nI ah)), (3, .int (nI li))]) hx hb dX9_moodsBehind_4 hl (by decide) rfl (fun ls hl => ?_)
  have lp_1 : ∀ (n_2 : Nat) (i : Nat) (mo : Int32) (H : Heap) (locs : List Loc) (ls : Array Slot), 10 - i < n_2 → (i ≤ 10) → va_P D vwCl [ro_rrrrrr (q 10) 9 (q 61) (q 62) (q 63) (q 64) (q 65) (q 66), ra_N (q 61) cI 90 sa, ra_I (q 62) cI 900 ft] H → va_D A [ro_rrrrrr (q 10) 9 (q 61) (q 62) (q 63) (q 64) (q 65) (q 66), ra_N (q 61) cI 90 sa, ra_I (q 62) cI 900 ft] → va_S A s.heap H locs → lv_has ls 7 [(5, .int (nI i)), (4, .int mo), (0, .ref (q 10)), (1, .int (nI d)), (2, .int (nI ah)), (3, .int (nI li))] → W p l e { frames := 0, cells := 0, slots := 0, locals := 0 } s m ([.ref (q 10), .int (nI d), .int (nI ah), .int (nI li)] : List Value).toArray below meth c H locs 0 0 (MQ below (skI D (skT cI cJ cC cZ cS) (fun (r : Int32) (u : va_W) => u = [ro_rrrrrr (q 10) 9 (q 61) (q 62) (q 63) (q 64) (q 65) (q 66), ra_N (q 61) cI 90 sa, ra_I (q 62) cI 900 ft]) A) ([.ref (q 10), .int (nI d), .int (nI ah), .int (nI li)] : List Value).toArray s 0 0 A) (F0 m 6 ls []) := by
    intro n_2
    induction n_2 with
    | zero => intro i mo H locs ls hm; exact absurd hm (Nat.not_lt_zero _)
    | succ n_2 ih_lp_1 =>
      intro i mo H locs ls hm hi hP hD hS hl
      refine lv_iload hx hb dX9_moodsBehind_6 (lv_at hl 0 rfl) ?_
      refine lv_bipush (v := 10) hx hb dX9_moodsBehind_8 (by decide) ?_
      refine lv_icmp_ge (tgt := 69) hx hb dX9_moodsBehind_10 (by decide) (fun c_3 => ?_) (fun c_3 => ?_)
      · have c_3 : 10 ≤ i := (nle 10 i (Nat.le_of_ble_eq_true rfl) (by omega)).mp c_3
        refine lv_iload hx hb dX9_moodsBehind_69 (lv_at hl 1 rfl) ?_
        exact sk_iret hx hb hr rfl hlocks hK hP hD hS rfl (Nat.le_of_ble_eq_true rfl) (Nat.le_of_ble_eq_true rfl) dX9_moodsBehind_71
      · have c_3 : ¬ (10 ≤ i) := fun h => c_3 ((nle 10 i (Nat.le_of_ble_eq_true rfl) (by omega)).mpr h)
        refine lv_aload_n hx hb dX9_moodsBehind_13 rfl (lv_at hl 2 rfl) ?_
        refine sk_get (v := .ref (q 61)) (C := RX9) (T := TX9) (N := 6) hx hb hts inlX9 hown hK hP 0 rfl rfl 0 (Nat.le_of_ble_eq_true rfl) w_2_63 rfl dX9_moodsBehind_14 ?_
        refine lv_iload_n hx hb dX9_moodsBehind_17 rfl (lv_at hl 3 rfl) ?_
        refine lv_bipush (v := 10) hx hb dX9_moodsBehind_18 (by decide) ?_
        refine lv_imul hx hb dX9_moodsBehind_20 ?_
        refine sk_top (nI (d * 10)) (nmul d 10) ?_
        refine lv_iload hx hb dX9_moodsBehind_21 (lv_at hl 0 rfl) ?_
        refine lv_iadd hx hb dX9_moodsBehind_23 ?_
        refine sk_top (nI (d * 10 + i)) (nI_add (d * 10) i) ?_
        refine va_iald hx hb hK.1 hP 1 0 rfl rfl (vin (d * 10 + i) 90 (by omega) (Nat.le_of_ble_eq_true rfl)) dX9_moodsBehind_24 ?_
        refine sk_top (nI (sa (d * 10 + i))) (nrd sa (d * 10 + i) (by omega)) ?_
        have hb_4 := hsa (d * 10 + i)
        refine lv_iload_n hx hb dX9_moodsBehind_25 rfl (lv_at hl 5 rfl) ?_
        refine lv_iadd hx hb dX9_moodsBehind_26 ?_
        refine sk_top (nI (sa (d * 10 + i) + li)) (nI_add (sa (d * 10 + i)) li) ?_
        refine lv_bipush (v := 10) hx hb dX9_moodsBehind_27 (by decide) ?_
        refine lv_irem hx hb dX9_moodsBehind_29 (by decide) ?_
        refine sk_top (nI ((sa (d * 10 + i) + li) % 10)) (nrem (sa (d * 10 + i) + li) 10 (by omega) (by omega) (by omega)) ?_
        refine lv_istore (lv' := [(6, .int (nI ((sa (d * 10 + i) + li) % 10))), (5, .int (nI i)), (4, .int mo), (0, .ref (q 10)), (1, .int (nI d)), (2, .int (nI ah)), (3, .int (nI li))]) hx hb dX9_moodsBehind_30 hl (by decide) rfl (fun ls hl => ?_)
        refine lv_aload_n hx hb dX9_moodsBehind_32 rfl (lv_at hl 3 rfl) ?_
        refine sk_get (v := .ref (q 62)) (C := RX9) (T := TX9) (N := 6) hx hb hts inlX9 hown hK hP 0 rfl rfl 1 (Nat.le_of_ble_eq_true rfl) w_2_65 rfl dX9_moodsBehind_33 ?_
        refine lv_iload_n hx hb dX9_moodsBehind_36 rfl (lv_at hl 4 rfl) ?_
        refine lv_bipush (v := 10) hx hb dX9_moodsBehind_37 (by decide) ?_
        refine lv_imul hx hb dX9_moodsBehind_39 ?_
        refine sk_top (nI (d * 10)) (nmul d 10) ?_
        refine lv_iload_n hx hb dX9_moodsBehind_40 rfl (lv_at hl 5 rfl) ?_
        refine lv_iadd hx hb dX9_moodsBehind_41 ?_
        refine sk_top (nI (d * 10 + ah)) (nI_add (d * 10) ah) ?_
        refine lv_bipush (v := 10) hx hb dX9_moodsBehind_42 (by decide) ?_
        refine lv_imul hx hb dX9_moodsBehind_44 ?_
        refine sk_top (nI ((d * 10 + ah) * 10)) (nmul (d * 10 + ah) 10) ?_
        refine lv_iload hx hb dX9_moodsBehind_45 (lv_at hl 0 rfl) ?_
        refine lv_iadd hx hb dX9_moodsBehind_47 ?_
        refine sk_top (nI ((d * 10 + ah) * 10 + ((sa (d * 10 + i) + li) % 10))) (nI_add ((d * 10 + ah) * 10) ((sa (d * 10 + i) + li) % 10)) ?_
        refine va_iald hx hb hK.1 hP 2 0 rfl rfl (vin ((d * 10 + ah) * 10 + ((sa (d * 10 + i) + li) % 10)) 900 (by omega) (by omega)) dX9_moodsBehind_48 ?_
        refine lv_topi (fun v_5 ev_5 => ?_)
        refine lv_iload hx hb dX9_moodsBehind_49 (lv_at hl 1 rfl) ?_
        refine lv_icmp_ne (tgt := 63) hx hb dX9_moodsBehind_51 (by decide) (fun c_6 => ?_) (fun c_6 => ?_)
        · skip
          refine lv_iinc (v := nI (i + 1)) (lv' := [(5, .int (nI (i + 1))), (6, .int (nI ((sa (d * 10 + i) + li) % 10))), (4, .int mo), (0, .ref (q 10)), (1, .int (nI d)), (2, .int (nI ah)), (3, .int (nI li))]) hx hb dX9_moodsBehind_63 hl (k := 1) rfl (ninc i 1 (by decide)) (by decide) rfl (fun ls hl => ?_)
          refine lv_goto (tgt := 6) hx hb dX9_moodsBehind_66 (by decide) ?_
          exact ih_lp_1 (i + 1) mo _ _ _ (by omega) (by omega) hP hD hS (lv_sub hl [0, 2, 3, 4, 5, 6] rfl)
        · skip
          refine lv_iload hx hb dX9_moodsBehind_54 (lv_at hl 2 rfl) ?_
          refine lv_iconst (v := 1) hx hb dX9_moodsBehind_56 ic_1 ?_
          refine lv_iload hx hb dX9_moodsBehind_57 (lv_at hl 1 rfl) ?_
          refine lv_ishl hx hb dX9_moodsBehind_59 ?_
          refine lv_topi (fun v_7 ev_7 => ?_)
          refine lv_ior hx hb dX9_moodsBehind_60 ?_
          refine lv_topi (fun v_8 ev_8 => ?_)
          refine lv_istore (lv' := [(4, .int v_8), (6, .int (nI ((sa (d * 10 + i) + li) % 10))), (5, .int (nI i)), (0, .ref (q 10)), (1, .int (nI d)), (2, .int (nI ah)), (3, .int (nI li))]) hx hb dX9_moodsBehind_61 hl (by decide) rfl (fun ls hl => ?_)
          refine lv_iinc (v := nI (i + 1)) (lv' := [(5, .int (nI (i + 1))), (4, .int v_8), (6, .int (nI ((sa (d * 10 + i) + li) % 10))), (0, .ref (q 10)), (1, .int (nI d)), (2, .int (nI ah)), (3, .int (nI li))]) hx hb dX9_moodsBehind_63 hl (k := 2) rfl (ninc i 1 (by decide)) (by decide) rfl (fun ls hl => ?_)
          refine lv_goto (tgt := 6) hx hb dX9_moodsBehind_66 (by decide) ?_
          exact ih_lp_1 (i + 1) v_8 _ _ _ (by omega) (by omega) hP hD hS (lv_sub hl [0, 1, 3, 4, 5, 6] rfl)
  exact lp_1 (10 - 0 + 1) 0 0 _ _ _ (Nat.lt_succ_self _) (by omega) hP hD hS (lv_sub hl [0, 1, 2, 3, 4, 5] rfl)
theorem dg_X9_moodsThatSay_0_0 : bqL cX9_moodsThatSay 0 [(0, [3]), (1, [62]), (2, [3]), (3, [54, 4]), (5, [21, 4]), (7, [16, 10]), (9, [162, 0, 32]), (41, [29]), (42, [172]), (12, [42]), (13, [180, 0, 9]), (16, [27]), (17, [16, 10]), (19, [104]), (20, [21, 4]), (22, [96]), (23, [46]), (24, [28]), (25, [160, 0, 10]), (35, [132, 4, 1]), (38, [167, 255, 223]), (28, [29]), (29, [4]), (30, [21, 4]), (32, [120]), (33, [128]), (34, [62])] = true := by decide +kernel
theorem dX9_moodsThatSay_0 : decode cX9_moodsThatSay 0 = .ok (.iconst 0, 1) := q_iconst0 (bat_get dg_X9_moodsThatSay_0_0 0 rfl rfl)
theorem dX9_moodsThatSay_1 : decode cX9_moodsThatSay 1 = .ok (.istore_n 3, 1) := q_istore_n3 (bat_get dg_X9_moodsThatSay_0_0 1 rfl rfl)
theorem dX9_moodsThatSay_2 : decode cX9_moodsThatSay 2 = .ok (.iconst 0, 1) := q_iconst0 (bat_get dg_X9_moodsThatSay_0_0 2 rfl rfl)
theorem dX9_moodsThatSay_3 : decode cX9_moodsThatSay 3 = .ok (.istore 4, 2) := q_istore (bat_get dg_X9_moodsThatSay_0_0 3 rfl rfl)
theorem dX9_moodsThatSay_5 : decode cX9_moodsThatSay 5 = .ok (.iload 4, 2) := q_iload (bat_get dg_X9_moodsThatSay_0_0 4 rfl rfl)
theorem dX9_moodsThatSay_7 : decode cX9_moodsThatSay 7 = .ok (.bipush 10, 2) := q_bipush (bat_get dg_X9_moodsThatSay_0_0 5 rfl rfl) rfl
theorem dX9_moodsThatSay_9 : decode cX9_moodsThatSay 9 = .ok (.if_icmp .ge 32, 3) := q_if_icmp_ge (bat_get dg_X9_moodsThatSay_0_0 6 rfl rfl) rfl
theorem dX9_moodsThatSay_41 : decode cX9_moodsThatSay 41 = .ok (.iload_n 3, 1) := q_iload_n3 (bat_get dg_X9_moodsThatSay_0_0 7 rfl rfl)
theorem dX9_moodsThatSay_42 : decode cX9_moodsThatSay 42 = .ok (.ireturn, 1) := q_ireturn (bat_get dg_X9_moodsThatSay_0_0 8 rfl rfl)
theorem dX9_moodsThatSay_12 : decode cX9_moodsThatSay 12 = .ok (.aload_n 0, 1) := q_aload_n0 (bat_get dg_X9_moodsThatSay_0_0 9 rfl rfl)
theorem dX9_moodsThatSay_13 : decode cX9_moodsThatSay 13 = .ok (.getfield 9, 3) := q_getfield (bat_get dg_X9_moodsThatSay_0_0 10 rfl rfl) rfl
theorem dX9_moodsThatSay_16 : decode cX9_moodsThatSay 16 = .ok (.iload_n 1, 1) := q_iload_n1 (bat_get dg_X9_moodsThatSay_0_0 11 rfl rfl)
theorem dX9_moodsThatSay_17 : decode cX9_moodsThatSay 17 = .ok (.bipush 10, 2) := q_bipush (bat_get dg_X9_moodsThatSay_0_0 12 rfl rfl) rfl
theorem dX9_moodsThatSay_19 : decode cX9_moodsThatSay 19 = .ok (.imul, 1) := q_imul (bat_get dg_X9_moodsThatSay_0_0 13 rfl rfl)
theorem dX9_moodsThatSay_20 : decode cX9_moodsThatSay 20 = .ok (.iload 4, 2) := q_iload (bat_get dg_X9_moodsThatSay_0_0 14 rfl rfl)
theorem dX9_moodsThatSay_22 : decode cX9_moodsThatSay 22 = .ok (.iadd, 1) := q_iadd (bat_get dg_X9_moodsThatSay_0_0 15 rfl rfl)
theorem dX9_moodsThatSay_23 : decode cX9_moodsThatSay 23 = .ok (.iaload, 1) := q_iaload (bat_get dg_X9_moodsThatSay_0_0 16 rfl rfl)
theorem dX9_moodsThatSay_24 : decode cX9_moodsThatSay 24 = .ok (.iload_n 2, 1) := q_iload_n2 (bat_get dg_X9_moodsThatSay_0_0 17 rfl rfl)
theorem dX9_moodsThatSay_25 : decode cX9_moodsThatSay 25 = .ok (.if_icmp .ne 10, 3) := q_if_icmp_ne (bat_get dg_X9_moodsThatSay_0_0 18 rfl rfl) rfl
theorem dX9_moodsThatSay_35 : decode cX9_moodsThatSay 35 = .ok (.iinc 4 1, 3) := q_iinc (bat_get dg_X9_moodsThatSay_0_0 19 rfl rfl) rfl
theorem dX9_moodsThatSay_38 : decode cX9_moodsThatSay 38 = .ok (.goto (-33), 3) := q_goto (bat_get dg_X9_moodsThatSay_0_0 20 rfl rfl) rfl
theorem dX9_moodsThatSay_28 : decode cX9_moodsThatSay 28 = .ok (.iload_n 3, 1) := q_iload_n3 (bat_get dg_X9_moodsThatSay_0_0 21 rfl rfl)
theorem dX9_moodsThatSay_29 : decode cX9_moodsThatSay 29 = .ok (.iconst 1, 1) := q_iconst1 (bat_get dg_X9_moodsThatSay_0_0 22 rfl rfl)
theorem dX9_moodsThatSay_30 : decode cX9_moodsThatSay 30 = .ok (.iload 4, 2) := q_iload (bat_get dg_X9_moodsThatSay_0_0 23 rfl rfl)
theorem dX9_moodsThatSay_32 : decode cX9_moodsThatSay 32 = .ok (.ishl, 1) := q_ishl (bat_get dg_X9_moodsThatSay_0_0 24 rfl rfl)
theorem dX9_moodsThatSay_33 : decode cX9_moodsThatSay 33 = .ok (.ior, 1) := q_ior (bat_get dg_X9_moodsThatSay_0_0 25 rfl rfl)
theorem dX9_moodsThatSay_34 : decode cX9_moodsThatSay 34 = .ok (.istore_n 3, 1) := q_istore_n3 (bat_get dg_X9_moodsThatSay_0_0 26 rfl rfl)
theorem w_4_197 : (Cond.code yX9_moodsThatSay cX9_moodsThatSay 5 (some .int)) ∈ wsL_law := sk_mem (ck_4 _ (List.mem_of_getElem? (i := 197) rfl)) rfl
set_option maxHeartbeats 4000000 in
set_option maxRecDepth 100000 in
theorem c_moodsThatSay (l : Launch) (D : va_G) (cI cJ cC cZ cS : ClassId) (q : Nat → Nat) (sa : Nat → Nat) (d : Nat) (o : Int32) (hsa : ∀ j, sa j ≤ 9) (hd : d < 9) : skM l yX9_moodsThatSay cX9_moodsThatSay 5 (some .int) 0 0 0 0 D (skT cI cJ cC cZ cS) [.ref (q 10), .int (nI d), .int o] [ro_rrrrrr (q 10) 9 (q 61) (q 62) (q 63) (q 64) (q 65) (q 66), ra_N (q 61) cI 90 sa] (skI D (skT cI cJ cC cZ cS) (fun (r : Int32) (u : va_W) => u = [ro_rrrrrr (q 10) 9 (q 61) (q 62) (q 63) (q 64) (q 65) (q 66), ra_N (q 61) cI 90 sa])) := by
  refine skM_of pf_X9_moodsThatSay (Nat.le_of_ble_eq_true rfl) ?_
  intro p e s m below meth c A ls E hP hD hl
  refine skE_el E (fun hx hb hr hml hlocks hin hown hts hK hA => ?_)
  have hown : s.vm.findClass RX9 = some m.cls := hown
  have hS : va_S A s.heap s.heap [] := va_S.rf
  have hl : lv_has ls 5 [(0, .ref (q 10)), (1, .int (nI d)), (2, .int o)] := hl
  refine lv_iconst (v := 0) hx hb dX9_moodsThatSay_0 ic_0 ?_
  refine lv_istore_n (lv' := [(3, .int 0), (0, .ref (q 10)), (1, .int (nI d)), (2, .int o)]) hx hb dX9_moodsThatSay_1 rfl hl (by decide) rfl (fun ls hl => ?_)
  refine lv_iconst (v := 0) hx hb dX9_moodsThatSay_2 ic_0 ?_
  refine lv_istore (lv' := [(4, .int 0), (3, .int 0), (0, .ref (q 10)), (1, .int (nI d)), (2, .int o)]) hx hb dX9_moodsThatSay_3 hl (by decide) rfl (fun ls hl => ?_)
  have lp_1 : ∀ (n_2 : Nat) (i : Nat) (mo : Int32) (H : Heap) (locs : List Loc) (ls : Array Slot), 10 - i < n_2 → (i ≤ 10) → va_P D vwCl [ro_rrrrrr (q 10) 9 (q 61) (q 62) (q 63) (q 64) (q 65) (q 66), ra_N (q 61) cI 90 sa] H → va_D A [ro_rrrrrr (q 10) 9 (q 61) (q 62) (q 63) (q 64) (q 65) (q 66), ra_N (q 61) cI 90 sa] → va_S A s.heap H locs → lv_has ls 5 [(4, .int (nI i)), (3, .int mo), (0, .ref (q 10)), (1, .int (nI d)), (2, .int o)] → W p l e { frames := 0, cells := 0, slots := 0, locals := 0 } s m ([.ref (q 10), .int (nI d), .int o] : List Value).toArray below meth c H locs 0 0 (MQ below (skI D (skT cI cJ cC cZ cS) (fun (r : Int32) (u : va_W) => u = [ro_rrrrrr (q 10) 9 (q 61) (q 62) (q 63) (q 64) (q 65) (q 66), ra_N (q 61) cI 90 sa]) A) ([.ref (q 10), .int (nI d), .int o] : List Value).toArray s 0 0 A) (F0 m 5 ls []) := by
    intro n_2
    induction n_2 with
    | zero => intro i mo H locs ls hm; exact absurd hm (Nat.not_lt_zero _)
    | succ n_2 ih_lp_1 =>
      intro i mo H locs ls hm hi hP hD hS hl
      refine lv_iload hx hb dX9_moodsThatSay_5 (lv_at hl 0 rfl) ?_
      refine lv_bipush (v := 10) hx hb dX9_moodsThatSay_7 (by decide) ?_
      refine lv_icmp_ge (tgt := 41) hx hb dX9_moodsThatSay_9 (by decide) (fun c_3 => ?_) (fun c_3 => ?_)
      · have c_3 : 10 ≤ i := (nle 10 i (Nat.le_of_ble_eq_true rfl) (by omega)).mp c_3
        refine lv_iload_n hx hb dX9_moodsThatSay_41 rfl (lv_at hl 1 rfl) ?_
        exact sk_iret hx hb hr rfl hlocks hK hP hD hS rfl (Nat.le_of_ble_eq_true rfl) (Nat.le_of_ble_eq_true rfl) dX9_moodsThatSay_42
      · have c_3 : ¬ (10 ≤ i) := fun h => c_3 ((nle 10 i (Nat.le_of_ble_eq_true rfl) (by omega)).mpr h)
        refine lv_aload_n hx hb dX9_moodsThatSay_12 rfl (lv_at hl 2 rfl) ?_
        refine sk_get (v := .ref (q 61)) (C := RX9) (T := TX9) (N := 6) hx hb hts inlX9 hown hK hP 0 rfl rfl 0 (Nat.le_of_ble_eq_true rfl) w_2_63 rfl dX9_moodsThatSay_13 ?_
        refine lv_iload_n hx hb dX9_moodsThatSay_16 rfl (lv_at hl 3 rfl) ?_
        refine lv_bipush (v := 10) hx hb dX9_moodsThatSay_17 (by decide) ?_
        refine lv_imul hx hb dX9_moodsThatSay_19 ?_
        refine sk_top (nI (d * 10)) (nmul d 10) ?_
        refine lv_iload hx hb dX9_moodsThatSay_20 (lv_at hl 0 rfl) ?_
        refine lv_iadd hx hb dX9_moodsThatSay_22 ?_
        refine sk_top (nI (d * 10 + i)) (nI_add (d * 10) i) ?_
        refine va_iald hx hb hK.1 hP 1 0 rfl rfl (vin (d * 10 + i) 90 (by omega) (Nat.le_of_ble_eq_true rfl)) dX9_moodsThatSay_23 ?_
        refine sk_top (nI (sa (d * 10 + i))) (nrd sa (d * 10 + i) (by omega)) ?_
        have hb_4 := hsa (d * 10 + i)
        refine lv_iload_n hx hb dX9_moodsThatSay_24 rfl (lv_at hl 4 rfl) ?_
        refine lv_icmp_ne (tgt := 35) hx hb dX9_moodsThatSay_25 (by decide) (fun c_5 => ?_) (fun c_5 => ?_)
        · skip
          refine lv_iinc (v := nI (i + 1)) (lv' := [(4, .int (nI (i + 1))), (3, .int mo), (0, .ref (q 10)), (1, .int (nI d)), (2, .int o)]) hx hb dX9_moodsThatSay_35 hl (k := 0) rfl (ninc i 1 (by decide)) (by decide) rfl (fun ls hl => ?_)
          refine lv_goto (tgt := 5) hx hb dX9_moodsThatSay_38 (by decide) ?_
          exact ih_lp_1 (i + 1) mo _ _ _ (by omega) (by omega) hP hD hS (lv_sub hl [0, 1, 2, 3, 4] rfl)
        · skip
          refine lv_iload_n hx hb dX9_moodsThatSay_28 rfl (lv_at hl 1 rfl) ?_
          refine lv_iconst (v := 1) hx hb dX9_moodsThatSay_29 ic_1 ?_
          refine lv_iload hx hb dX9_moodsThatSay_30 (lv_at hl 0 rfl) ?_
          refine lv_ishl hx hb dX9_moodsThatSay_32 ?_
          refine lv_topi (fun v_6 ev_6 => ?_)
          refine lv_ior hx hb dX9_moodsThatSay_33 ?_
          refine lv_topi (fun v_7 ev_7 => ?_)
          refine lv_istore_n (lv' := [(3, .int v_7), (4, .int (nI i)), (0, .ref (q 10)), (1, .int (nI d)), (2, .int o)]) hx hb dX9_moodsThatSay_34 rfl hl (by decide) rfl (fun ls hl => ?_)
          refine lv_iinc (v := nI (i + 1)) (lv' := [(4, .int (nI (i + 1))), (3, .int v_7), (0, .ref (q 10)), (1, .int (nI d)), (2, .int o)]) hx hb dX9_moodsThatSay_35 hl (k := 1) rfl (ninc i 1 (by decide)) (by decide) rfl (fun ls hl => ?_)
          refine lv_goto (tgt := 5) hx hb dX9_moodsThatSay_38 (by decide) ?_
          exact ih_lp_1 (i + 1) v_7 _ _ _ (by omega) (by omega) hP hD hS (lv_sub hl [0, 1, 2, 3, 4] rfl)
  exact lp_1 (10 - 0 + 1) 0 0 _ _ _ (Nat.lt_succ_self _) (by omega) hP hD hS (lv_sub hl [0, 1, 2, 3, 4] rfl)
theorem dg_X9_forget_0_0 : bqL cX9_forget 0 [(0, [42]), (1, [180, 0, 28]), (4, [2]), (5, [184, 0, 31]), (8, [177])] = true := by decide +kernel
theorem dX9_forget_0 : decode cX9_forget 0 = .ok (.aload_n 0, 1) := q_aload_n0 (bat_get dg_X9_forget_0_0 0 rfl rfl)
theorem dX9_forget_1 : decode cX9_forget 1 = .ok (.getfield 28, 3) := q_getfield (bat_get dg_X9_forget_0_0 1 rfl rfl) rfl
theorem dX9_forget_4 : decode cX9_forget 4 = .ok (.iconst (-1), 1) := q_iconstm1 (bat_get dg_X9_forget_0_0 2 rfl rfl)
theorem dX9_forget_5 : decode cX9_forget 5 = .ok (.invokestatic 31, 3) := q_invokestatic (bat_get dg_X9_forget_0_0 3 rfl rfl) rfl
theorem dX9_forget_8 : decode cX9_forget 8 = .ok (.return_, 1) := q_return_ (bat_get dg_X9_forget_0_0 4 rfl rfl)
theorem w_2_75 : (Cond.fieldLink RX9 28 "SameKeeper$Table" "keys" "[I") ∈ wsL_law := sk_mem (ck_2 _ (List.mem_of_getElem? (i := 75) rfl)) rfl
theorem w_3_163 : (Cond.methodLink RX9 31 yJ7_fill_53178) ∈ wsL_law := sk_mem (ck_3 _ (List.mem_of_getElem? (i := 163) rfl)) rfl
theorem w_2_219 : (Cond.static yJ7_fill_53178) ∈ wsL_law := sk_mem (ck_2 _ (List.mem_of_getElem? (i := 219) rfl)) rfl
theorem w_1_15 : (Cond.initialized RJ7) ∈ wsL_law := sk_mem (ck_1 _ (List.mem_of_getElem? (i := 15) rfl)) rfl
theorem w_3_162 : (Cond.code yX9_forget cX9_forget 1 none) ∈ wsL_law := sk_mem (ck_3 _ (List.mem_of_getElem? (i := 162) rfl)) rfl
def om_2_1 : List Bool := false :: true :: []
theorem hd_J7_fill_53178_2 : skD yJ7_fill_53178 2 := by decide +kernel
theorem dg_X9_nameDay_0_0 : bqL cX9_nameDay 0 [(0, [42]), (1, [17, 39, 19]), (4, [28]), (5, [133]), (6, [182, 0, 75]), (9, [42]), (10, [17, 39, 17]), (13, [43]), (14, [180, 0, 58]), (17, [28]), (18, [46]), (19, [133]), (20, [182, 0, 75]), (23, [42]), (24, [17, 39, 18]), (27, [43]), (28, [180, 0, 61]), (31, [28]), (32, [46]), (33, [133]), (34, [182, 0, 75]), (37, [42]), (38, [17, 39, 20]), (41, [43]), (42, [180, 0, 49]), (45, [133]), (46, [182, 0, 75]), (49, [177])] = true := by decide +kernel
theorem dX9_nameDay_0 : decode cX9_nameDay 0 = .ok (.aload_n 0, 1) := q_aload_n0 (bat_get dg_X9_nameDay_0_0 0 rfl rfl)
theorem dX9_nameDay_1 : decode cX9_nameDay 1 = .ok (.sipush 10003, 3) := q_sipush (bat_get dg_X9_nameDay_0_0 1 rfl rfl) rfl
theorem dX9_nameDay_4 : decode cX9_nameDay 4 = .ok (.iload_n 2, 1) := q_iload_n2 (bat_get dg_X9_nameDay_0_0 2 rfl rfl)
theorem dX9_nameDay_5 : decode cX9_nameDay 5 = .ok (.i2l, 1) := q_i2l (bat_get dg_X9_nameDay_0_0 3 rfl rfl)
theorem dX9_nameDay_6 : decode cX9_nameDay 6 = .ok (.invokevirtual 75, 3) := q_invokevirtual (bat_get dg_X9_nameDay_0_0 4 rfl rfl) rfl
theorem dX9_nameDay_9 : decode cX9_nameDay 9 = .ok (.aload_n 0, 1) := q_aload_n0 (bat_get dg_X9_nameDay_0_0 5 rfl rfl)
theorem dX9_nameDay_10 : decode cX9_nameDay 10 = .ok (.sipush 10001, 3) := q_sipush (bat_get dg_X9_nameDay_0_0 6 rfl rfl) rfl
theorem dX9_nameDay_13 : decode cX9_nameDay 13 = .ok (.aload_n 1, 1) := q_aload_n1 (bat_get dg_X9_nameDay_0_0 7 rfl rfl)
theorem dX9_nameDay_14 : decode cX9_nameDay 14 = .ok (.getfield 58, 3) := q_getfield (bat_get dg_X9_nameDay_0_0 8 rfl rfl) rfl
theorem dX9_nameDay_17 : decode cX9_nameDay 17 = .ok (.iload_n 2, 1) := q_iload_n2 (bat_get dg_X9_nameDay_0_0 9 rfl rfl)
theorem dX9_nameDay_18 : decode cX9_nameDay 18 = .ok (.iaload, 1) := q_iaload (bat_get dg_X9_nameDay_0_0 10 rfl rfl)
theorem dX9_nameDay_19 : decode cX9_nameDay 19 = .ok (.i2l, 1) := q_i2l (bat_get dg_X9_nameDay_0_0 11 rfl rfl)
theorem dX9_nameDay_20 : decode cX9_nameDay 20 = .ok (.invokevirtual 75, 3) := q_invokevirtual (bat_get dg_X9_nameDay_0_0 12 rfl rfl) rfl
theorem dX9_nameDay_23 : decode cX9_nameDay 23 = .ok (.aload_n 0, 1) := q_aload_n0 (bat_get dg_X9_nameDay_0_0 13 rfl rfl)
theorem dX9_nameDay_24 : decode cX9_nameDay 24 = .ok (.sipush 10002, 3) := q_sipush (bat_get dg_X9_nameDay_0_0 14 rfl rfl) rfl
theorem dX9_nameDay_27 : decode cX9_nameDay 27 = .ok (.aload_n 1, 1) := q_aload_n1 (bat_get dg_X9_nameDay_0_0 15 rfl rfl)
theorem dX9_nameDay_28 : decode cX9_nameDay 28 = .ok (.getfield 61, 3) := q_getfield (bat_get dg_X9_nameDay_0_0 16 rfl rfl) rfl
theorem dX9_nameDay_31 : decode cX9_nameDay 31 = .ok (.iload_n 2, 1) := q_iload_n2 (bat_get dg_X9_nameDay_0_0 17 rfl rfl)
theorem dX9_nameDay_32 : decode cX9_nameDay 32 = .ok (.iaload, 1) := q_iaload (bat_get dg_X9_nameDay_0_0 18 rfl rfl)
theorem dX9_nameDay_33 : decode cX9_nameDay 33 = .ok (.i2l, 1) := q_i2l (bat_get dg_X9_nameDay_0_0 19 rfl rfl)
theorem dX9_nameDay_34 : decode cX9_nameDay 34 = .ok (.invokevirtual 75, 3) := q_invokevirtual (bat_get dg_X9_nameDay_0_0 20 rfl rfl) rfl
theorem dX9_nameDay_37 : decode cX9_nameDay 37 = .ok (.aload_n 0, 1) := q_aload_n0 (bat_get dg_X9_nameDay_0_0 21 rfl rfl)
theorem dX9_nameDay_38 : decode cX9_nameDay 38 = .ok (.sipush 10004, 3) := q_sipush (bat_get dg_X9_nameDay_0_0 22 rfl rfl) rfl
theorem dX9_nameDay_41 : decode cX9_nameDay 41 = .ok (.aload_n 1, 1) := q_aload_n1 (bat_get dg_X9_nameDay_0_0 23 rfl rfl)
theorem dX9_nameDay_42 : decode cX9_nameDay 42 = .ok (.getfield 49, 3) := q_getfield (bat_get dg_X9_nameDay_0_0 24 rfl rfl) rfl
theorem dX9_nameDay_45 : decode cX9_nameDay 45 = .ok (.i2l, 1) := q_i2l (bat_get dg_X9_nameDay_0_0 25 rfl rfl)
theorem dX9_nameDay_46 : decode cX9_nameDay 46 = .ok (.invokevirtual 75, 3) := q_invokevirtual (bat_get dg_X9_nameDay_0_0 26 rfl rfl) rfl
theorem dX9_nameDay_49 : decode cX9_nameDay 49 = .ok (.return_, 1) := q_return_ (bat_get dg_X9_nameDay_0_0 27 rfl rfl)
theorem w_3_212 : (Cond.methodLink RX9 75 yX0_name) ∈ wsL_law := sk_mem (ck_3 _ (List.mem_of_getElem? (i := 212) rfl)) rfl
theorem w_3_213 : (Cond.instanceMethod yX0_name) ∈ wsL_law := sk_mem (ck_3 _ (List.mem_of_getElem? (i := 213) rfl)) rfl
theorem w_3_214 : (Cond.selects RX0 yX0_name yX0_name) ∈ wsL_law := sk_mem (ck_3 _ (List.mem_of_getElem? (i := 214) rfl)) rfl
theorem w_1_231 : (Cond.fieldLink RX9 58 "SameKeeper$State" "barge" "[I") ∈ wsL_law := sk_mem (ck_1 _ (List.mem_of_getElem? (i := 231) rfl)) rfl
theorem w_1_235 : (Cond.fieldLink RX9 61 "SameKeeper$State" "wet" "[I") ∈ wsL_law := sk_mem (ck_1 _ (List.mem_of_getElem? (i := 235) rfl)) rfl
theorem w_2_4 : (Cond.fieldLink RX9 49 "SameKeeper$State" "week" "I") ∈ wsL_law := sk_mem (ck_2 _ (List.mem_of_getElem? (i := 4) rfl)) rfl
theorem w_3_211 : (Cond.code yX9_nameDay cX9_nameDay 3 none) ∈ wsL_law := sk_mem (ck_3 _ (List.mem_of_getElem? (i := 211) rfl)) rfl
def om_5_18 : List Bool := true :: true :: false :: false :: false :: []
theorem hd_X0_name_2 : skD yX0_name 2 := by decide +kernel
theorem dg_X9_fillWords_0_0 : bqL cX9_fillWords 0 [(0, [43]), (1, [180, 0, 37]), (4, [78]), (5, [3]), (6, [54, 4]), (8, [21, 4]), (10, [16, 10]), (12, [162, 0, 79]), (91, [177]), (15, [28]), (16, [16, 10]), (18, [104]), (19, [21, 4]), (21, [96]), (22, [54, 5]), (24, [45]), (25, [17, 39, 16]), (28, [21, 4]), (30, [133]), (31, [182, 0, 75]), (34, [42]), (35, [180, 0, 9]), (38, [21, 5]), (40, [45]), (41, [43]), (42, [180, 0, 79]), (45, [3]), (46, [46]), (47, [43]), (48, [180, 0, 82]), (51, [3]), (52, [46]), (53, [182, 0, 85]), (56, [16, 10]), (58, [184, 0, 89]), (61, [79]), (62, [42]), (63, [180, 0, 24]), (66, [21, 5]), (68, [45])] = true := by decide +kernel
theorem dX9_fillWords_0 : decode cX9_fillWords 0 = .ok (.aload_n 1, 1) := q_aload_n1 (bat_get dg_X9_fillWords_0_0 0 rfl rfl)
theorem dX9_fillWords_1 : decode cX9_fillWords 1 = .ok (.getfield 37, 3) := q_getfield (bat_get dg_X9_fillWords_0_0 1 rfl rfl) rfl
theorem dX9_fillWords_4 : decode cX9_fillWords 4 = .ok (.astore_n 3, 1) := q_astore_n3 (bat_get dg_X9_fillWords_0_0 2 rfl rfl)
theorem dX9_fillWords_5 : decode cX9_fillWords 5 = .ok (.iconst 0, 1) := q_iconst0 (bat_get dg_X9_fillWords_0_0 3 rfl rfl)
theorem dX9_fillWords_6 : decode cX9_fillWords 6 = .ok (.istore 4, 2) := q_istore (bat_get dg_X9_fillWords_0_0 4 rfl rfl)
theorem dX9_fillWords_8 : decode cX9_fillWords 8 = .ok (.iload 4, 2) := q_iload (bat_get dg_X9_fillWords_0_0 5 rfl rfl)
theorem dX9_fillWords_10 : decode cX9_fillWords 10 = .ok (.bipush 10, 2) := q_bipush (bat_get dg_X9_fillWords_0_0 6 rfl rfl) rfl
theorem dX9_fillWords_12 : decode cX9_fillWords 12 = .ok (.if_icmp .ge 79, 3) := q_if_icmp_ge (bat_get dg_X9_fillWords_0_0 7 rfl rfl) rfl
theorem dX9_fillWords_91 : decode cX9_fillWords 91 = .ok (.return_, 1) := q_return_ (bat_get dg_X9_fillWords_0_0 8 rfl rfl)
theorem dX9_fillWords_15 : decode cX9_fillWords 15 = .ok (.iload_n 2, 1) := q_iload_n2 (bat_get dg_X9_fillWords_0_0 9 rfl rfl)
theorem dX9_fillWords_16 : decode cX9_fillWords 16 = .ok (.bipush 10, 2) := q_bipush (bat_get dg_X9_fillWords_0_0 10 rfl rfl) rfl
theorem dX9_fillWords_18 : decode cX9_fillWords 18 = .ok (.imul, 1) := q_imul (bat_get dg_X9_fillWords_0_0 11 rfl rfl)
theorem dX9_fillWords_19 : decode cX9_fillWords 19 = .ok (.iload 4, 2) := q_iload (bat_get dg_X9_fillWords_0_0 12 rfl rfl)
theorem dX9_fillWords_21 : decode cX9_fillWords 21 = .ok (.iadd, 1) := q_iadd (bat_get dg_X9_fillWords_0_0 13 rfl rfl)
theorem dX9_fillWords_22 : decode cX9_fillWords 22 = .ok (.istore 5, 2) := q_istore (bat_get dg_X9_fillWords_0_0 14 rfl rfl)
theorem dX9_fillWords_24 : decode cX9_fillWords 24 = .ok (.aload_n 3, 1) := q_aload_n3 (bat_get dg_X9_fillWords_0_0 15 rfl rfl)
theorem dX9_fillWords_25 : decode cX9_fillWords 25 = .ok (.sipush 10000, 3) := q_sipush (bat_get dg_X9_fillWords_0_0 16 rfl rfl) rfl
theorem dX9_fillWords_28 : decode cX9_fillWords 28 = .ok (.iload 4, 2) := q_iload (bat_get dg_X9_fillWords_0_0 17 rfl rfl)
theorem dX9_fillWords_30 : decode cX9_fillWords 30 = .ok (.i2l, 1) := q_i2l (bat_get dg_X9_fillWords_0_0 18 rfl rfl)
theorem dX9_fillWords_31 : decode cX9_fillWords 31 = .ok (.invokevirtual 75, 3) := q_invokevirtual (bat_get dg_X9_fillWords_0_0 19 rfl rfl) rfl
theorem dX9_fillWords_34 : decode cX9_fillWords 34 = .ok (.aload_n 0, 1) := q_aload_n0 (bat_get dg_X9_fillWords_0_0 20 rfl rfl)
theorem dX9_fillWords_35 : decode cX9_fillWords 35 = .ok (.getfield 9, 3) := q_getfield (bat_get dg_X9_fillWords_0_0 21 rfl rfl) rfl
theorem dX9_fillWords_38 : decode cX9_fillWords 38 = .ok (.iload 5, 2) := q_iload (bat_get dg_X9_fillWords_0_0 22 rfl rfl)
theorem dX9_fillWords_40 : decode cX9_fillWords 40 = .ok (.aload_n 3, 1) := q_aload_n3 (bat_get dg_X9_fillWords_0_0 23 rfl rfl)
theorem dX9_fillWords_41 : decode cX9_fillWords 41 = .ok (.aload_n 1, 1) := q_aload_n1 (bat_get dg_X9_fillWords_0_0 24 rfl rfl)
theorem dX9_fillWords_42 : decode cX9_fillWords 42 = .ok (.getfield 79, 3) := q_getfield (bat_get dg_X9_fillWords_0_0 25 rfl rfl) rfl
theorem dX9_fillWords_45 : decode cX9_fillWords 45 = .ok (.iconst 0, 1) := q_iconst0 (bat_get dg_X9_fillWords_0_0 26 rfl rfl)
theorem dX9_fillWords_46 : decode cX9_fillWords 46 = .ok (.iaload, 1) := q_iaload (bat_get dg_X9_fillWords_0_0 27 rfl rfl)
theorem dX9_fillWords_47 : decode cX9_fillWords 47 = .ok (.aload_n 1, 1) := q_aload_n1 (bat_get dg_X9_fillWords_0_0 28 rfl rfl)
theorem dX9_fillWords_48 : decode cX9_fillWords 48 = .ok (.getfield 82, 3) := q_getfield (bat_get dg_X9_fillWords_0_0 29 rfl rfl) rfl
theorem dX9_fillWords_51 : decode cX9_fillWords 51 = .ok (.iconst 0, 1) := q_iconst0 (bat_get dg_X9_fillWords_0_0 30 rfl rfl)
theorem dX9_fillWords_52 : decode cX9_fillWords 52 = .ok (.iaload, 1) := q_iaload (bat_get dg_X9_fillWords_0_0 31 rfl rfl)
theorem dX9_fillWords_53 : decode cX9_fillWords 53 = .ok (.invokevirtual 85, 3) := q_invokevirtual (bat_get dg_X9_fillWords_0_0 32 rfl rfl) rfl
theorem dX9_fillWords_56 : decode cX9_fillWords 56 = .ok (.bipush 10, 2) := q_bipush (bat_get dg_X9_fillWords_0_0 33 rfl rfl) rfl
theorem dX9_fillWords_58 : decode cX9_fillWords 58 = .ok (.invokestatic 89, 3) := q_invokestatic (bat_get dg_X9_fillWords_0_0 34 rfl rfl) rfl
theorem dX9_fillWords_61 : decode cX9_fillWords 61 = .ok (.iastore, 1) := q_iastore (bat_get dg_X9_fillWords_0_0 35 rfl rfl)
theorem dX9_fillWords_62 : decode cX9_fillWords 62 = .ok (.aload_n 0, 1) := q_aload_n0 (bat_get dg_X9_fillWords_0_0 36 rfl rfl)
theorem dX9_fillWords_63 : decode cX9_fillWords 63 = .ok (.getfield 24, 3) := q_getfield (bat_get dg_X9_fillWords_0_0 37 rfl rfl) rfl
theorem dX9_fillWords_66 : decode cX9_fillWords 66 = .ok (.iload 5, 2) := q_iload (bat_get dg_X9_fillWords_0_0 38 rfl rfl)
theorem dX9_fillWords_68 : decode cX9_fillWords 68 = .ok (.aload_n 3, 1) := q_aload_n3 (bat_get dg_X9_fillWords_0_0 39 rfl rfl)
theorem dg_X9_fillWords_69_69 : bqL cX9_fillWords 69 [(0, [43]), (1, [180, 0, 79]), (4, [5]), (5, [46]), (6, [43]), (7, [180, 0, 82]), (10, [5]), (11, [46]), (12, [182, 0, 85]), (15, [80]), (16, [132, 4, 1]), (19, [167, 255, 176])] = true := by decide +kernel
theorem dX9_fillWords_69 : decode cX9_fillWords 69 = .ok (.aload_n 1, 1) := q_aload_n1 (bat_get dg_X9_fillWords_69_69 0 rfl rfl)
theorem dX9_fillWords_70 : decode cX9_fillWords 70 = .ok (.getfield 79, 3) := q_getfield (bat_get dg_X9_fillWords_69_69 1 rfl rfl) rfl
theorem dX9_fillWords_73 : decode cX9_fillWords 73 = .ok (.iconst 2, 1) := q_iconst2 (bat_get dg_X9_fillWords_69_69 2 rfl rfl)
theorem dX9_fillWords_74 : decode cX9_fillWords 74 = .ok (.iaload, 1) := q_iaload (bat_get dg_X9_fillWords_69_69 3 rfl rfl)
theorem dX9_fillWords_75 : decode cX9_fillWords 75 = .ok (.aload_n 1, 1) := q_aload_n1 (bat_get dg_X9_fillWords_69_69 4 rfl rfl)
theorem dX9_fillWords_76 : decode cX9_fillWords 76 = .ok (.getfield 82, 3) := q_getfield (bat_get dg_X9_fillWords_69_69 5 rfl rfl) rfl
theorem dX9_fillWords_79 : decode cX9_fillWords 79 = .ok (.iconst 2, 1) := q_iconst2 (bat_get dg_X9_fillWords_69_69 6 rfl rfl)
theorem dX9_fillWords_80 : decode cX9_fillWords 80 = .ok (.iaload, 1) := q_iaload (bat_get dg_X9_fillWords_69_69 7 rfl rfl)
theorem dX9_fillWords_81 : decode cX9_fillWords 81 = .ok (.invokevirtual 85, 3) := q_invokevirtual (bat_get dg_X9_fillWords_69_69 8 rfl rfl) rfl
theorem dX9_fillWords_84 : decode cX9_fillWords 84 = .ok (.lastore, 1) := q_lastore (bat_get dg_X9_fillWords_69_69 9 rfl rfl)
theorem dX9_fillWords_85 : decode cX9_fillWords 85 = .ok (.iinc 4 1, 3) := q_iinc (bat_get dg_X9_fillWords_69_69 10 rfl rfl) rfl
theorem dX9_fillWords_88 : decode cX9_fillWords 88 = .ok (.goto (-80), 3) := q_goto (bat_get dg_X9_fillWords_69_69 11 rfl rfl) rfl
theorem w_1_176 : (Cond.fieldLink RX9 37 "SameKeeper$Lock" "code" "LSameKeeper$Code;") ∈ wsL_law := sk_mem (ck_1 _ (List.mem_of_getElem? (i := 176) rfl)) rfl
theorem w_1_185 : (Cond.fieldLink RX9 79 "SameKeeper$Lock" "from" "[I") ∈ wsL_law := sk_mem (ck_1 _ (List.mem_of_getElem? (i := 185) rfl)) rfl
theorem w_1_187 : (Cond.fieldLink RX9 82 "SameKeeper$Lock" "to" "[I") ∈ wsL_law := sk_mem (ck_1 _ (List.mem_of_getElem? (i := 187) rfl)) rfl
theorem w_3_220 : (Cond.methodLink RX9 85 yX0_run) ∈ wsL_law := sk_mem (ck_3 _ (List.mem_of_getElem? (i := 220) rfl)) rfl
theorem w_3_221 : (Cond.instanceMethod yX0_run) ∈ wsL_law := sk_mem (ck_3 _ (List.mem_of_getElem? (i := 221) rfl)) rfl
theorem w_3_222 : (Cond.selects RX0 yX0_run yX0_run) ∈ wsL_law := sk_mem (ck_3 _ (List.mem_of_getElem? (i := 222) rfl)) rfl
theorem w_4_7 : (Cond.methodLink RX9 89 yJ9_floorMod_1978a) ∈ wsL_law := sk_mem (ck_4 _ (List.mem_of_getElem? (i := 7) rfl)) rfl
theorem w_4_8 : (Cond.static yJ9_floorMod_1978a) ∈ wsL_law := sk_mem (ck_4 _ (List.mem_of_getElem? (i := 8) rfl)) rfl
theorem w_2_72 : (Cond.fieldLink RX9 24 "SameKeeper$Table" "wages" "[J") ∈ wsL_law := sk_mem (ck_2 _ (List.mem_of_getElem? (i := 72) rfl)) rfl
theorem w_3_219 : (Cond.code yX9_fillWords cX9_fillWords 6 none) ∈ wsL_law := sk_mem (ck_3 _ (List.mem_of_getElem? (i := 219) rfl)) rfl
def om_11_48 : List Bool := false :: false :: false :: false :: true :: false :: false :: true :: false :: false :: false :: []
def om_11_7c : List Bool := false :: false :: false :: false :: true :: true :: true :: true :: true :: false :: false :: []
theorem hd_X0_run_2 : skD yX0_run 2 := by decide +kernel
theorem hd_J9_floorMod_1978a_2 : skD yJ9_floorMod_1978a 2 := by decide +kernel
theorem dg_X9_fillDeeds_0_0 : bqL cX9_fillDeeds 0 [(0, [43]), (1, [180, 0, 37]), (4, [78]), (5, [43]), (6, [180, 0, 79]), (9, [4]), (10, [46]), (11, [54, 4]), (13, [43]), (14, [180, 0, 82]), (17, [4]), (18, [46]), (19, [54, 5]), (21, [3]), (22, [54, 6]), (24, [21, 6]), (26, [16, 10]), (28, [162, 0, 139]), (167, [177]), (31, [28]), (32, [16, 10]), (34, [104]), (35, [21, 6]), (37, [96]), (38, [54, 7]), (40, [45]), (41, [17, 39, 16]), (44, [21, 6]), (46, [133]), (47, [182, 0, 75]), (50, [45]), (51, [17, 39, 22]), (54, [10]), (55, [182, 0, 75]), (58, [45]), (59, [17, 39, 21]), (62, [9]), (63, [182, 0, 75]), (66, [42]), (67, [180, 0, 18])] = true := by decide +kernel
theorem dX9_fillDeeds_0 : decode cX9_fillDeeds 0 = .ok (.aload_n 1, 1) := q_aload_n1 (bat_get dg_X9_fillDeeds_0_0 0 rfl rfl)
theorem dX9_fillDeeds_1 : decode cX9_fillDeeds 1 = .ok (.getfield 37, 3) := q_getfield (bat_get dg_X9_fillDeeds_0_0 1 rfl rfl) rfl
theorem dX9_fillDeeds_4 : decode cX9_fillDeeds 4 = .ok (.astore_n 3, 1) := q_astore_n3 (bat_get dg_X9_fillDeeds_0_0 2 rfl rfl)
theorem dX9_fillDeeds_5 : decode cX9_fillDeeds 5 = .ok (.aload_n 1, 1) := q_aload_n1 (bat_get dg_X9_fillDeeds_0_0 3 rfl rfl)
theorem dX9_fillDeeds_6 : decode cX9_fillDeeds 6 = .ok (.getfield 79, 3) := q_getfield (bat_get dg_X9_fillDeeds_0_0 4 rfl rfl) rfl
theorem dX9_fillDeeds_9 : decode cX9_fillDeeds 9 = .ok (.iconst 1, 1) := q_iconst1 (bat_get dg_X9_fillDeeds_0_0 5 rfl rfl)
theorem dX9_fillDeeds_10 : decode cX9_fillDeeds 10 = .ok (.iaload, 1) := q_iaload (bat_get dg_X9_fillDeeds_0_0 6 rfl rfl)
theorem dX9_fillDeeds_11 : decode cX9_fillDeeds 11 = .ok (.istore 4, 2) := q_istore (bat_get dg_X9_fillDeeds_0_0 7 rfl rfl)
theorem dX9_fillDeeds_13 : decode cX9_fillDeeds 13 = .ok (.aload_n 1, 1) := q_aload_n1 (bat_get dg_X9_fillDeeds_0_0 8 rfl rfl)
theorem dX9_fillDeeds_14 : decode cX9_fillDeeds 14 = .ok (.getfield 82, 3) := q_getfield (bat_get dg_X9_fillDeeds_0_0 9 rfl rfl) rfl
theorem dX9_fillDeeds_17 : decode cX9_fillDeeds 17 = .ok (.iconst 1, 1) := q_iconst1 (bat_get dg_X9_fillDeeds_0_0 10 rfl rfl)
theorem dX9_fillDeeds_18 : decode cX9_fillDeeds 18 = .ok (.iaload, 1) := q_iaload (bat_get dg_X9_fillDeeds_0_0 11 rfl rfl)
theorem dX9_fillDeeds_19 : decode cX9_fillDeeds 19 = .ok (.istore 5, 2) := q_istore (bat_get dg_X9_fillDeeds_0_0 12 rfl rfl)
theorem dX9_fillDeeds_21 : decode cX9_fillDeeds 21 = .ok (.iconst 0, 1) := q_iconst0 (bat_get dg_X9_fillDeeds_0_0 13 rfl rfl)
theorem dX9_fillDeeds_22 : decode cX9_fillDeeds 22 = .ok (.istore 6, 2) := q_istore (bat_get dg_X9_fillDeeds_0_0 14 rfl rfl)
theorem dX9_fillDeeds_24 : decode cX9_fillDeeds 24 = .ok (.iload 6, 2) := q_iload (bat_get dg_X9_fillDeeds_0_0 15 rfl rfl)
theorem dX9_fillDeeds_26 : decode cX9_fillDeeds 26 = .ok (.bipush 10, 2) := q_bipush (bat_get dg_X9_fillDeeds_0_0 16 rfl rfl) rfl
theorem dX9_fillDeeds_28 : decode cX9_fillDeeds 28 = .ok (.if_icmp .ge 139, 3) := q_if_icmp_ge (bat_get dg_X9_fillDeeds_0_0 17 rfl rfl) rfl
theorem dX9_fillDeeds_167 : decode cX9_fillDeeds 167 = .ok (.return_, 1) := q_return_ (bat_get dg_X9_fillDeeds_0_0 18 rfl rfl)
theorem dX9_fillDeeds_31 : decode cX9_fillDeeds 31 = .ok (.iload_n 2, 1) := q_iload_n2 (bat_get dg_X9_fillDeeds_0_0 19 rfl rfl)
theorem dX9_fillDeeds_32 : decode cX9_fillDeeds 32 = .ok (.bipush 10, 2) := q_bipush (bat_get dg_X9_fillDeeds_0_0 20 rfl rfl) rfl
theorem dX9_fillDeeds_34 : decode cX9_fillDeeds 34 = .ok (.imul, 1) := q_imul (bat_get dg_X9_fillDeeds_0_0 21 rfl rfl)
theorem dX9_fillDeeds_35 : decode cX9_fillDeeds 35 = .ok (.iload 6, 2) := q_iload (bat_get dg_X9_fillDeeds_0_0 22 rfl rfl)
theorem dX9_fillDeeds_37 : decode cX9_fillDeeds 37 = .ok (.iadd, 1) := q_iadd (bat_get dg_X9_fillDeeds_0_0 23 rfl rfl)
theorem dX9_fillDeeds_38 : decode cX9_fillDeeds 38 = .ok (.istore 7, 2) := q_istore (bat_get dg_X9_fillDeeds_0_0 24 rfl rfl)
theorem dX9_fillDeeds_40 : decode cX9_fillDeeds 40 = .ok (.aload_n 3, 1) := q_aload_n3 (bat_get dg_X9_fillDeeds_0_0 25 rfl rfl)
theorem dX9_fillDeeds_41 : decode cX9_fillDeeds 41 = .ok (.sipush 10000, 3) := q_sipush (bat_get dg_X9_fillDeeds_0_0 26 rfl rfl) rfl
theorem dX9_fillDeeds_44 : decode cX9_fillDeeds 44 = .ok (.iload 6, 2) := q_iload (bat_get dg_X9_fillDeeds_0_0 27 rfl rfl)
theorem dX9_fillDeeds_46 : decode cX9_fillDeeds 46 = .ok (.i2l, 1) := q_i2l (bat_get dg_X9_fillDeeds_0_0 28 rfl rfl)
theorem dX9_fillDeeds_47 : decode cX9_fillDeeds 47 = .ok (.invokevirtual 75, 3) := q_invokevirtual (bat_get dg_X9_fillDeeds_0_0 29 rfl rfl) rfl
theorem dX9_fillDeeds_50 : decode cX9_fillDeeds 50 = .ok (.aload_n 3, 1) := q_aload_n3 (bat_get dg_X9_fillDeeds_0_0 30 rfl rfl)
theorem dX9_fillDeeds_51 : decode cX9_fillDeeds 51 = .ok (.sipush 10006, 3) := q_sipush (bat_get dg_X9_fillDeeds_0_0 31 rfl rfl) rfl
theorem dX9_fillDeeds_54 : decode cX9_fillDeeds 54 = .ok (.lconst 1, 1) := q_lconst1 (bat_get dg_X9_fillDeeds_0_0 32 rfl rfl)
theorem dX9_fillDeeds_55 : decode cX9_fillDeeds 55 = .ok (.invokevirtual 75, 3) := q_invokevirtual (bat_get dg_X9_fillDeeds_0_0 33 rfl rfl) rfl
theorem dX9_fillDeeds_58 : decode cX9_fillDeeds 58 = .ok (.aload_n 3, 1) := q_aload_n3 (bat_get dg_X9_fillDeeds_0_0 34 rfl rfl)
theorem dX9_fillDeeds_59 : decode cX9_fillDeeds 59 = .ok (.sipush 10005, 3) := q_sipush (bat_get dg_X9_fillDeeds_0_0 35 rfl rfl) rfl
theorem dX9_fillDeeds_62 : decode cX9_fillDeeds 62 = .ok (.lconst 0, 1) := q_lconst0 (bat_get dg_X9_fillDeeds_0_0 36 rfl rfl)
theorem dX9_fillDeeds_63 : decode cX9_fillDeeds 63 = .ok (.invokevirtual 75, 3) := q_invokevirtual (bat_get dg_X9_fillDeeds_0_0 37 rfl rfl) rfl
theorem dX9_fillDeeds_66 : decode cX9_fillDeeds 66 = .ok (.aload_n 0, 1) := q_aload_n0 (bat_get dg_X9_fillDeeds_0_0 38 rfl rfl)
theorem dX9_fillDeeds_67 : decode cX9_fillDeeds 67 = .ok (.getfield 18, 3) := q_getfield (bat_get dg_X9_fillDeeds_0_0 39 rfl rfl) rfl
theorem dg_X9_fillDeeds_70_70 : bqL cX9_fillDeeds 70 [(0, [21, 7]), (2, [45]), (3, [21, 4]), (5, [21, 5]), (7, [182, 0, 85]), (10, [16, 10]), (12, [184, 0, 89]), (15, [79]), (16, [45]), (17, [17, 39, 22]), (20, [9]), (21, [182, 0, 75]), (24, [3]), (25, [54, 8]), (27, [21, 8]), (29, [16, 10]), (31, [162, 0, 45]), (76, [42]), (77, [180, 0, 21]), (80, [21, 7]), (82, [42]), (83, [28]), (84, [21, 6]), (86, [3]), (87, [182, 0, 95]), (90, [79]), (91, [132, 6, 1]), (94, [167, 255, 116]), (34, [45]), (35, [17, 39, 21]), (38, [21, 8]), (40, [133]), (41, [182, 0, 75]), (44, [42]), (45, [180, 0, 15]), (48, [21, 7]), (50, [16, 10]), (52, [104]), (53, [21, 8]), (55, [96])] = true := by decide +kernel
theorem dX9_fillDeeds_70 : decode cX9_fillDeeds 70 = .ok (.iload 7, 2) := q_iload (bat_get dg_X9_fillDeeds_70_70 0 rfl rfl)
theorem dX9_fillDeeds_72 : decode cX9_fillDeeds 72 = .ok (.aload_n 3, 1) := q_aload_n3 (bat_get dg_X9_fillDeeds_70_70 1 rfl rfl)
theorem dX9_fillDeeds_73 : decode cX9_fillDeeds 73 = .ok (.iload 4, 2) := q_iload (bat_get dg_X9_fillDeeds_70_70 2 rfl rfl)
theorem dX9_fillDeeds_75 : decode cX9_fillDeeds 75 = .ok (.iload 5, 2) := q_iload (bat_get dg_X9_fillDeeds_70_70 3 rfl rfl)
theorem dX9_fillDeeds_77 : decode cX9_fillDeeds 77 = .ok (.invokevirtual 85, 3) := q_invokevirtual (bat_get dg_X9_fillDeeds_70_70 4 rfl rfl) rfl
theorem dX9_fillDeeds_80 : decode cX9_fillDeeds 80 = .ok (.bipush 10, 2) := q_bipush (bat_get dg_X9_fillDeeds_70_70 5 rfl rfl) rfl
theorem dX9_fillDeeds_82 : decode cX9_fillDeeds 82 = .ok (.invokestatic 89, 3) := q_invokestatic (bat_get dg_X9_fillDeeds_70_70 6 rfl rfl) rfl
theorem dX9_fillDeeds_85 : decode cX9_fillDeeds 85 = .ok (.iastore, 1) := q_iastore (bat_get dg_X9_fillDeeds_70_70 7 rfl rfl)
theorem dX9_fillDeeds_86 : decode cX9_fillDeeds 86 = .ok (.aload_n 3, 1) := q_aload_n3 (bat_get dg_X9_fillDeeds_70_70 8 rfl rfl)
theorem dX9_fillDeeds_87 : decode cX9_fillDeeds 87 = .ok (.sipush 10006, 3) := q_sipush (bat_get dg_X9_fillDeeds_70_70 9 rfl rfl) rfl
theorem dX9_fillDeeds_90 : decode cX9_fillDeeds 90 = .ok (.lconst 0, 1) := q_lconst0 (bat_get dg_X9_fillDeeds_70_70 10 rfl rfl)
theorem dX9_fillDeeds_91 : decode cX9_fillDeeds 91 = .ok (.invokevirtual 75, 3) := q_invokevirtual (bat_get dg_X9_fillDeeds_70_70 11 rfl rfl) rfl
theorem dX9_fillDeeds_94 : decode cX9_fillDeeds 94 = .ok (.iconst 0, 1) := q_iconst0 (bat_get dg_X9_fillDeeds_70_70 12 rfl rfl)
theorem dX9_fillDeeds_95 : decode cX9_fillDeeds 95 = .ok (.istore 8, 2) := q_istore (bat_get dg_X9_fillDeeds_70_70 13 rfl rfl)
theorem dX9_fillDeeds_97 : decode cX9_fillDeeds 97 = .ok (.iload 8, 2) := q_iload (bat_get dg_X9_fillDeeds_70_70 14 rfl rfl)
theorem dX9_fillDeeds_99 : decode cX9_fillDeeds 99 = .ok (.bipush 10, 2) := q_bipush (bat_get dg_X9_fillDeeds_70_70 15 rfl rfl) rfl
theorem dX9_fillDeeds_101 : decode cX9_fillDeeds 101 = .ok (.if_icmp .ge 45, 3) := q_if_icmp_ge (bat_get dg_X9_fillDeeds_70_70 16 rfl rfl) rfl
theorem dX9_fillDeeds_146 : decode cX9_fillDeeds 146 = .ok (.aload_n 0, 1) := q_aload_n0 (bat_get dg_X9_fillDeeds_70_70 17 rfl rfl)
theorem dX9_fillDeeds_147 : decode cX9_fillDeeds 147 = .ok (.getfield 21, 3) := q_getfield (bat_get dg_X9_fillDeeds_70_70 18 rfl rfl) rfl
theorem dX9_fillDeeds_150 : decode cX9_fillDeeds 150 = .ok (.iload 7, 2) := q_iload (bat_get dg_X9_fillDeeds_70_70 19 rfl rfl)
theorem dX9_fillDeeds_152 : decode cX9_fillDeeds 152 = .ok (.aload_n 0, 1) := q_aload_n0 (bat_get dg_X9_fillDeeds_70_70 20 rfl rfl)
theorem dX9_fillDeeds_153 : decode cX9_fillDeeds 153 = .ok (.iload_n 2, 1) := q_iload_n2 (bat_get dg_X9_fillDeeds_70_70 21 rfl rfl)
theorem dX9_fillDeeds_154 : decode cX9_fillDeeds 154 = .ok (.iload 6, 2) := q_iload (bat_get dg_X9_fillDeeds_70_70 22 rfl rfl)
theorem dX9_fillDeeds_156 : decode cX9_fillDeeds 156 = .ok (.iconst 0, 1) := q_iconst0 (bat_get dg_X9_fillDeeds_70_70 23 rfl rfl)
theorem dX9_fillDeeds_157 : decode cX9_fillDeeds 157 = .ok (.invokevirtual 95, 3) := q_invokevirtual (bat_get dg_X9_fillDeeds_70_70 24 rfl rfl) rfl
theorem dX9_fillDeeds_160 : decode cX9_fillDeeds 160 = .ok (.iastore, 1) := q_iastore (bat_get dg_X9_fillDeeds_70_70 25 rfl rfl)
theorem dX9_fillDeeds_161 : decode cX9_fillDeeds 161 = .ok (.iinc 6 1, 3) := q_iinc (bat_get dg_X9_fillDeeds_70_70 26 rfl rfl) rfl
theorem dX9_fillDeeds_164 : decode cX9_fillDeeds 164 = .ok (.goto (-140), 3) := q_goto (bat_get dg_X9_fillDeeds_70_70 27 rfl rfl) rfl
theorem dX9_fillDeeds_104 : decode cX9_fillDeeds 104 = .ok (.aload_n 3, 1) := q_aload_n3 (bat_get dg_X9_fillDeeds_70_70 28 rfl rfl)
theorem dX9_fillDeeds_105 : decode cX9_fillDeeds 105 = .ok (.sipush 10005, 3) := q_sipush (bat_get dg_X9_fillDeeds_70_70 29 rfl rfl) rfl
theorem dX9_fillDeeds_108 : decode cX9_fillDeeds 108 = .ok (.iload 8, 2) := q_iload (bat_get dg_X9_fillDeeds_70_70 30 rfl rfl)
theorem dX9_fillDeeds_110 : decode cX9_fillDeeds 110 = .ok (.i2l, 1) := q_i2l (bat_get dg_X9_fillDeeds_70_70 31 rfl rfl)
theorem dX9_fillDeeds_111 : decode cX9_fillDeeds 111 = .ok (.invokevirtual 75, 3) := q_invokevirtual (bat_get dg_X9_fillDeeds_70_70 32 rfl rfl) rfl
theorem dX9_fillDeeds_114 : decode cX9_fillDeeds 114 = .ok (.aload_n 0, 1) := q_aload_n0 (bat_get dg_X9_fillDeeds_70_70 33 rfl rfl)
theorem dX9_fillDeeds_115 : decode cX9_fillDeeds 115 = .ok (.getfield 15, 3) := q_getfield (bat_get dg_X9_fillDeeds_70_70 34 rfl rfl) rfl
theorem dX9_fillDeeds_118 : decode cX9_fillDeeds 118 = .ok (.iload 7, 2) := q_iload (bat_get dg_X9_fillDeeds_70_70 35 rfl rfl)
theorem dX9_fillDeeds_120 : decode cX9_fillDeeds 120 = .ok (.bipush 10, 2) := q_bipush (bat_get dg_X9_fillDeeds_70_70 36 rfl rfl) rfl
theorem dX9_fillDeeds_122 : decode cX9_fillDeeds 122 = .ok (.imul, 1) := q_imul (bat_get dg_X9_fillDeeds_70_70 37 rfl rfl)
theorem dX9_fillDeeds_123 : decode cX9_fillDeeds 123 = .ok (.iload 8, 2) := q_iload (bat_get dg_X9_fillDeeds_70_70 38 rfl rfl)
theorem dX9_fillDeeds_125 : decode cX9_fillDeeds 125 = .ok (.iadd, 1) := q_iadd (bat_get dg_X9_fillDeeds_70_70 39 rfl rfl)
theorem dg_X9_fillDeeds_126_126 : bqL cX9_fillDeeds 126 [(0, [45]), (1, [21, 4]), (3, [21, 5]), (5, [182, 0, 85]), (8, [16, 10]), (10, [184, 0, 89]), (13, [79]), (14, [132, 8, 1]), (17, [167, 255, 210])] = true := by decide +kernel
theorem dX9_fillDeeds_126 : decode cX9_fillDeeds 126 = .ok (.aload_n 3, 1) := q_aload_n3 (bat_get dg_X9_fillDeeds_126_126 0 rfl rfl)
theorem dX9_fillDeeds_127 : decode cX9_fillDeeds 127 = .ok (.iload 4, 2) := q_iload (bat_get dg_X9_fillDeeds_126_126 1 rfl rfl)
theorem dX9_fillDeeds_129 : decode cX9_fillDeeds 129 = .ok (.iload 5, 2) := q_iload (bat_get dg_X9_fillDeeds_126_126 2 rfl rfl)
theorem dX9_fillDeeds_131 : decode cX9_fillDeeds 131 = .ok (.invokevirtual 85, 3) := q_invokevirtual (bat_get dg_X9_fillDeeds_126_126 3 rfl rfl) rfl
theorem dX9_fillDeeds_134 : decode cX9_fillDeeds 134 = .ok (.bipush 10, 2) := q_bipush (bat_get dg_X9_fillDeeds_126_126 4 rfl rfl) rfl
theorem dX9_fillDeeds_136 : decode cX9_fillDeeds 136 = .ok (.invokestatic 89, 3) := q_invokestatic (bat_get dg_X9_fillDeeds_126_126 5 rfl rfl) rfl
theorem dX9_fillDeeds_139 : decode cX9_fillDeeds 139 = .ok (.iastore, 1) := q_iastore (bat_get dg_X9_fillDeeds_126_126 6 rfl rfl)
theorem dX9_fillDeeds_140 : decode cX9_fillDeeds 140 = .ok (.iinc 8 1, 3) := q_iinc (bat_get dg_X9_fillDeeds_126_126 7 rfl rfl) rfl
theorem dX9_fillDeeds_143 : decode cX9_fillDeeds 143 = .ok (.goto (-46), 3) := q_goto (bat_get dg_X9_fillDeeds_126_126 8 rfl rfl) rfl
theorem w_2_67 : (Cond.fieldLink RX9 18 "SameKeeper$Table" "alone" "[I") ∈ wsL_law := sk_mem (ck_2 _ (List.mem_of_getElem? (i := 67) rfl)) rfl
theorem w_2_70 : (Cond.fieldLink RX9 21 "SameKeeper$Table" "open" "[I") ∈ wsL_law := sk_mem (ck_2 _ (List.mem_of_getElem? (i := 70) rfl)) rfl
theorem w_4_17 : (Cond.methodLink RX9 95 yX9_moodsBehind) ∈ wsL_law := sk_mem (ck_4 _ (List.mem_of_getElem? (i := 17) rfl)) rfl
theorem w_4_18 : (Cond.instanceMethod yX9_moodsBehind) ∈ wsL_law := sk_mem (ck_4 _ (List.mem_of_getElem? (i := 18) rfl)) rfl
theorem w_4_19 : (Cond.selects RX9 yX9_moodsBehind yX9_moodsBehind) ∈ wsL_law := sk_mem (ck_4 _ (List.mem_of_getElem? (i := 19) rfl)) rfl
theorem w_1_12 : (Cond.initialized RX9) ∈ wsL_law := sk_mem (ck_1 _ (List.mem_of_getElem? (i := 12) rfl)) rfl
theorem w_4_16 : (Cond.code yX9_fillDeeds cX9_fillDeeds 9 none) ∈ wsL_law := sk_mem (ck_4 _ (List.mem_of_getElem? (i := 16) rfl)) rfl
def om_13_48 : List Bool := false :: false :: false :: false :: false :: false :: true :: false :: false :: true :: false :: false :: false :: []
def om_13_7c : List Bool := false :: false :: false :: false :: false :: false :: true :: true :: true :: true :: true :: false :: false :: []
def om_13_1c00 : List Bool := true :: true :: true :: false :: false :: false :: false :: false :: false :: false :: false :: false :: false :: []
theorem hd_X9_moodsBehind_3 : skD yX9_moodsBehind 3 := by decide +kernel
theorem dg_X9_fit_18_18 : bqL cX9_fit 18 [(0, [62]), (1, [3]), (2, [54, 4]), (4, [21, 4]), (6, [44]), (7, [180, 0, 55]), (10, [162, 0, 86]), (96, [177]), (13, [21, 4]), (15, [16, 9]), (17, [162, 0, 79]), (20, [29]), (21, [16, 10]), (23, [104]), (24, [44]), (25, [180, 0, 58]), (28, [21, 4]), (30, [46]), (31, [96]), (32, [16, 10]), (34, [104]), (35, [44]), (36, [180, 0, 61]), (39, [21, 4]), (41, [46]), (42, [96]), (43, [54, 5]), (45, [42]), (46, [180, 0, 28]), (49, [21, 4]), (51, [46]), (52, [21, 5]), (54, [159, 0, 36]), (90, [132, 4, 1]), (93, [167, 255, 167]), (57, [42]), (58, [180, 0, 28]), (61, [21, 4]), (63, [21, 5]), (65, [79])] = true := by decide +kernel
theorem dX9_fit_18 : decode cX9_fit 18 = .ok (.istore_n 3, 1) := q_istore_n3 (bat_get dg_X9_fit_18_18 0 rfl rfl)
theorem dX9_fit_19 : decode cX9_fit 19 = .ok (.iconst 0, 1) := q_iconst0 (bat_get dg_X9_fit_18_18 1 rfl rfl)
theorem dX9_fit_20 : decode cX9_fit 20 = .ok (.istore 4, 2) := q_istore (bat_get dg_X9_fit_18_18 2 rfl rfl)
theorem dX9_fit_22 : decode cX9_fit 22 = .ok (.iload 4, 2) := q_iload (bat_get dg_X9_fit_18_18 3 rfl rfl)
theorem dX9_fit_24 : decode cX9_fit 24 = .ok (.aload_n 2, 1) := q_aload_n2 (bat_get dg_X9_fit_18_18 4 rfl rfl)
theorem dX9_fit_25 : decode cX9_fit 25 = .ok (.getfield 55, 3) := q_getfield (bat_get dg_X9_fit_18_18 5 rfl rfl) rfl
theorem dX9_fit_28 : decode cX9_fit 28 = .ok (.if_icmp .ge 86, 3) := q_if_icmp_ge (bat_get dg_X9_fit_18_18 6 rfl rfl) rfl
theorem dX9_fit_114 : decode cX9_fit 114 = .ok (.return_, 1) := q_return_ (bat_get dg_X9_fit_18_18 7 rfl rfl)
theorem dX9_fit_31 : decode cX9_fit 31 = .ok (.iload 4, 2) := q_iload (bat_get dg_X9_fit_18_18 8 rfl rfl)
theorem dX9_fit_33 : decode cX9_fit 33 = .ok (.bipush 9, 2) := q_bipush (bat_get dg_X9_fit_18_18 9 rfl rfl) rfl
theorem dX9_fit_35 : decode cX9_fit 35 = .ok (.if_icmp .ge 79, 3) := q_if_icmp_ge (bat_get dg_X9_fit_18_18 10 rfl rfl) rfl
theorem dX9_fit_38 : decode cX9_fit 38 = .ok (.iload_n 3, 1) := q_iload_n3 (bat_get dg_X9_fit_18_18 11 rfl rfl)
theorem dX9_fit_39 : decode cX9_fit 39 = .ok (.bipush 10, 2) := q_bipush (bat_get dg_X9_fit_18_18 12 rfl rfl) rfl
theorem dX9_fit_41 : decode cX9_fit 41 = .ok (.imul, 1) := q_imul (bat_get dg_X9_fit_18_18 13 rfl rfl)
theorem dX9_fit_42 : decode cX9_fit 42 = .ok (.aload_n 2, 1) := q_aload_n2 (bat_get dg_X9_fit_18_18 14 rfl rfl)
theorem dX9_fit_43 : decode cX9_fit 43 = .ok (.getfield 58, 3) := q_getfield (bat_get dg_X9_fit_18_18 15 rfl rfl) rfl
theorem dX9_fit_46 : decode cX9_fit 46 = .ok (.iload 4, 2) := q_iload (bat_get dg_X9_fit_18_18 16 rfl rfl)
theorem dX9_fit_48 : decode cX9_fit 48 = .ok (.iaload, 1) := q_iaload (bat_get dg_X9_fit_18_18 17 rfl rfl)
theorem dX9_fit_49 : decode cX9_fit 49 = .ok (.iadd, 1) := q_iadd (bat_get dg_X9_fit_18_18 18 rfl rfl)
theorem dX9_fit_50 : decode cX9_fit 50 = .ok (.bipush 10, 2) := q_bipush (bat_get dg_X9_fit_18_18 19 rfl rfl) rfl
theorem dX9_fit_52 : decode cX9_fit 52 = .ok (.imul, 1) := q_imul (bat_get dg_X9_fit_18_18 20 rfl rfl)
theorem dX9_fit_53 : decode cX9_fit 53 = .ok (.aload_n 2, 1) := q_aload_n2 (bat_get dg_X9_fit_18_18 21 rfl rfl)
theorem dX9_fit_54 : decode cX9_fit 54 = .ok (.getfield 61, 3) := q_getfield (bat_get dg_X9_fit_18_18 22 rfl rfl) rfl
theorem dX9_fit_57 : decode cX9_fit 57 = .ok (.iload 4, 2) := q_iload (bat_get dg_X9_fit_18_18 23 rfl rfl)
theorem dX9_fit_59 : decode cX9_fit 59 = .ok (.iaload, 1) := q_iaload (bat_get dg_X9_fit_18_18 24 rfl rfl)
theorem dX9_fit_60 : decode cX9_fit 60 = .ok (.iadd, 1) := q_iadd (bat_get dg_X9_fit_18_18 25 rfl rfl)
theorem dX9_fit_61 : decode cX9_fit 61 = .ok (.istore 5, 2) := q_istore (bat_get dg_X9_fit_18_18 26 rfl rfl)
theorem dX9_fit_63 : decode cX9_fit 63 = .ok (.aload_n 0, 1) := q_aload_n0 (bat_get dg_X9_fit_18_18 27 rfl rfl)
theorem dX9_fit_64 : decode cX9_fit 64 = .ok (.getfield 28, 3) := q_getfield (bat_get dg_X9_fit_18_18 28 rfl rfl) rfl
theorem dX9_fit_67 : decode cX9_fit 67 = .ok (.iload 4, 2) := q_iload (bat_get dg_X9_fit_18_18 29 rfl rfl)
theorem dX9_fit_69 : decode cX9_fit 69 = .ok (.iaload, 1) := q_iaload (bat_get dg_X9_fit_18_18 30 rfl rfl)
theorem dX9_fit_70 : decode cX9_fit 70 = .ok (.iload 5, 2) := q_iload (bat_get dg_X9_fit_18_18 31 rfl rfl)
theorem dX9_fit_72 : decode cX9_fit 72 = .ok (.if_icmp .eq 36, 3) := q_if_icmp_eq (bat_get dg_X9_fit_18_18 32 rfl rfl) rfl
theorem dX9_fit_108 : decode cX9_fit 108 = .ok (.iinc 4 1, 3) := q_iinc (bat_get dg_X9_fit_18_18 33 rfl rfl) rfl
theorem dX9_fit_111 : decode cX9_fit 111 = .ok (.goto (-89), 3) := q_goto (bat_get dg_X9_fit_18_18 34 rfl rfl) rfl
theorem dX9_fit_75 : decode cX9_fit 75 = .ok (.aload_n 0, 1) := q_aload_n0 (bat_get dg_X9_fit_18_18 35 rfl rfl)
theorem dX9_fit_76 : decode cX9_fit 76 = .ok (.getfield 28, 3) := q_getfield (bat_get dg_X9_fit_18_18 36 rfl rfl) rfl
theorem dX9_fit_79 : decode cX9_fit 79 = .ok (.iload 4, 2) := q_iload (bat_get dg_X9_fit_18_18 37 rfl rfl)
theorem dX9_fit_81 : decode cX9_fit 81 = .ok (.iload 5, 2) := q_iload (bat_get dg_X9_fit_18_18 38 rfl rfl)
theorem dX9_fit_83 : decode cX9_fit 83 = .ok (.iastore, 1) := q_iastore (bat_get dg_X9_fit_18_18 39 rfl rfl)
theorem dg_X9_fit_0_84 : bqL cX9_fit 0 [(84, [43]), (85, [180, 0, 37]), (88, [44]), (89, [21, 4]), (91, [184, 0, 64]), (94, [42]), (95, [43]), (96, [21, 4]), (98, [182, 0, 68]), (101, [42]), (102, [43]), (103, [21, 4]), (105, [182, 0, 72]), (0, [43]), (1, [180, 0, 37]), (4, [180, 0, 43]), (7, [153, 0, 10]), (17, [3]), (10, [44]), (11, [180, 0, 49]), (14, [167, 0, 4])] = true := by decide +kernel
theorem dX9_fit_84 : decode cX9_fit 84 = .ok (.aload_n 1, 1) := q_aload_n1 (bat_get dg_X9_fit_0_84 0 rfl rfl)
theorem dX9_fit_85 : decode cX9_fit 85 = .ok (.getfield 37, 3) := q_getfield (bat_get dg_X9_fit_0_84 1 rfl rfl) rfl
theorem dX9_fit_88 : decode cX9_fit 88 = .ok (.aload_n 2, 1) := q_aload_n2 (bat_get dg_X9_fit_0_84 2 rfl rfl)
theorem dX9_fit_89 : decode cX9_fit 89 = .ok (.iload 4, 2) := q_iload (bat_get dg_X9_fit_0_84 3 rfl rfl)
theorem dX9_fit_91 : decode cX9_fit 91 = .ok (.invokestatic 64, 3) := q_invokestatic (bat_get dg_X9_fit_0_84 4 rfl rfl) rfl
theorem dX9_fit_94 : decode cX9_fit 94 = .ok (.aload_n 0, 1) := q_aload_n0 (bat_get dg_X9_fit_0_84 5 rfl rfl)
theorem dX9_fit_95 : decode cX9_fit 95 = .ok (.aload_n 1, 1) := q_aload_n1 (bat_get dg_X9_fit_0_84 6 rfl rfl)
theorem dX9_fit_96 : decode cX9_fit 96 = .ok (.iload 4, 2) := q_iload (bat_get dg_X9_fit_0_84 7 rfl rfl)
theorem dX9_fit_98 : decode cX9_fit 98 = .ok (.invokevirtual 68, 3) := q_invokevirtual (bat_get dg_X9_fit_0_84 8 rfl rfl) rfl
theorem dX9_fit_101 : decode cX9_fit 101 = .ok (.aload_n 0, 1) := q_aload_n0 (bat_get dg_X9_fit_0_84 9 rfl rfl)
theorem dX9_fit_102 : decode cX9_fit 102 = .ok (.aload_n 1, 1) := q_aload_n1 (bat_get dg_X9_fit_0_84 10 rfl rfl)
theorem dX9_fit_103 : decode cX9_fit 103 = .ok (.iload 4, 2) := q_iload (bat_get dg_X9_fit_0_84 11 rfl rfl)
theorem dX9_fit_105 : decode cX9_fit 105 = .ok (.invokevirtual 72, 3) := q_invokevirtual (bat_get dg_X9_fit_0_84 12 rfl rfl) rfl
theorem dX9_fit_0 : decode cX9_fit 0 = .ok (.aload_n 1, 1) := q_aload_n1 (bat_get dg_X9_fit_0_84 13 rfl rfl)
theorem dX9_fit_1 : decode cX9_fit 1 = .ok (.getfield 37, 3) := q_getfield (bat_get dg_X9_fit_0_84 14 rfl rfl) rfl
theorem dX9_fit_4 : decode cX9_fit 4 = .ok (.getfield 43, 3) := q_getfield (bat_get dg_X9_fit_0_84 15 rfl rfl) rfl
theorem dX9_fit_7 : decode cX9_fit 7 = .ok (.ifCond .eq 10, 3) := q_ifCond_eq (bat_get dg_X9_fit_0_84 16 rfl rfl) rfl
theorem dX9_fit_17 : decode cX9_fit 17 = .ok (.iconst 0, 1) := q_iconst0 (bat_get dg_X9_fit_0_84 17 rfl rfl)
theorem dX9_fit_10 : decode cX9_fit 10 = .ok (.aload_n 2, 1) := q_aload_n2 (bat_get dg_X9_fit_0_84 18 rfl rfl)
theorem dX9_fit_11 : decode cX9_fit 11 = .ok (.getfield 49, 3) := q_getfield (bat_get dg_X9_fit_0_84 19 rfl rfl) rfl
theorem dX9_fit_14 : decode cX9_fit 14 = .ok (.goto 4, 3) := q_goto (bat_get dg_X9_fit_0_84 20 rfl rfl) rfl
theorem w_2_0 : (Cond.fieldLink RX9 55 "SameKeeper$State" "days" "I") ∈ wsL_law := sk_mem (ck_2 _ (List.mem_of_getElem? (i := 0) rfl)) rfl
theorem w_3_209 : (Cond.methodLink RX9 64 yX9_nameDay) ∈ wsL_law := sk_mem (ck_3 _ (List.mem_of_getElem? (i := 209) rfl)) rfl
theorem w_3_210 : (Cond.static yX9_nameDay) ∈ wsL_law := sk_mem (ck_3 _ (List.mem_of_getElem? (i := 210) rfl)) rfl
theorem w_3_216 : (Cond.methodLink RX9 68 yX9_fillWords) ∈ wsL_law := sk_mem (ck_3 _ (List.mem_of_getElem? (i := 216) rfl)) rfl
theorem w_3_218 : (Cond.instanceMethod yX9_fillWords) ∈ wsL_law := sk_mem (ck_3 _ (List.mem_of_getElem? (i := 218) rfl)) rfl
theorem w_0_15 : (Cond.selects RX9 yX9_fillWords yX9_fillWords) ∈ wsL_law := sk_mem (ck_0 _ (List.mem_of_getElem? (i := 15) rfl)) rfl
theorem w_4_13 : (Cond.methodLink RX9 72 yX9_fillDeeds) ∈ wsL_law := sk_mem (ck_4 _ (List.mem_of_getElem? (i := 13) rfl)) rfl
theorem w_4_15 : (Cond.instanceMethod yX9_fillDeeds) ∈ wsL_law := sk_mem (ck_4 _ (List.mem_of_getElem? (i := 15) rfl)) rfl
theorem w_0_17 : (Cond.selects RX9 yX9_fillDeeds yX9_fillDeeds) ∈ wsL_law := sk_mem (ck_0 _ (List.mem_of_getElem? (i := 17) rfl)) rfl
theorem w_1_137 : (Cond.fieldLink RX9 43 "SameKeeper$Code" "mindsWeek" "Z") ∈ wsL_law := sk_mem (ck_1 _ (List.mem_of_getElem? (i := 137) rfl)) rfl
theorem w_3_208 : (Cond.code yX9_fit cX9_fit 6 none) ∈ wsL_law := sk_mem (ck_3 _ (List.mem_of_getElem? (i := 208) rfl)) rfl
def om_18_247 : List Bool := false :: false :: false :: false :: false :: false :: false :: false :: true :: false :: false :: true :: false :: false :: false :: true :: true :: true :: []
def om_18_317f8 : List Bool := true :: true :: false :: false :: false :: true :: false :: true :: true :: true :: true :: true :: true :: true :: true :: false :: false :: false :: []
def om_18_3e7f8 : List Bool := true :: true :: true :: true :: true :: false :: false :: true :: true :: true :: true :: true :: true :: true :: true :: false :: false :: false :: []
theorem hd_X9_nameDay_3 : skD yX9_nameDay 3 := by decide +kernel
theorem hd_X9_fillWords_2 : skD yX9_fillWords 2 := by decide +kernel
theorem hd_X9_fillDeeds_2 : skD yX9_fillDeeds 2 := by decide +kernel
theorem dg_J6_numberOfTrailingZeros_0f7a4_0_0 : bqL cJ6_numberOfTrailingZeros_0f7a4 0 [(0, [26]), (1, [2]), (2, [130]), (3, [26]), (4, [4]), (5, [100]), (6, [126]), (7, [59]), (8, [26]), (9, [157, 0, 8]), (17, [4]), (18, [60]), (19, [26]), (20, [19, 1, 8]), (23, [164, 0, 11]), (34, [26]), (35, [17, 1, 0]), (38, [164, 0, 11]), (49, [26]), (50, [16, 16]), (52, [164, 0, 10]), (62, [26]), (63, [7]), (64, [164, 0, 10]), (74, [27]), (75, [26]), (76, [4]), (77, [124]), (78, [96]), (79, [172]), (67, [132, 1, 2]), (70, [26]), (71, [5]), (72, [124]), (73, [59]), (55, [132, 1, 4]), (58, [26]), (59, [7]), (60, [124]), (61, [59])] = true := by decide +kernel
theorem dJ6_numberOfTrailingZeros_0f7a4_0 : decode cJ6_numberOfTrailingZeros_0f7a4 0 = .ok (.iload_n 0, 1) := q_iload_n0 (bat_get dg_J6_numberOfTrailingZeros_0f7a4_0_0 0 rfl rfl)
theorem dJ6_numberOfTrailingZeros_0f7a4_1 : decode cJ6_numberOfTrailingZeros_0f7a4 1 = .ok (.iconst (-1), 1) := q_iconstm1 (bat_get dg_J6_numberOfTrailingZeros_0f7a4_0_0 1 rfl rfl)
theorem dJ6_numberOfTrailingZeros_0f7a4_2 : decode cJ6_numberOfTrailingZeros_0f7a4 2 = .ok (.ixor, 1) := q_ixor (bat_get dg_J6_numberOfTrailingZeros_0f7a4_0_0 2 rfl rfl)
theorem dJ6_numberOfTrailingZeros_0f7a4_3 : decode cJ6_numberOfTrailingZeros_0f7a4 3 = .ok (.iload_n 0, 1) := q_iload_n0 (bat_get dg_J6_numberOfTrailingZeros_0f7a4_0_0 3 rfl rfl)
theorem dJ6_numberOfTrailingZeros_0f7a4_4 : decode cJ6_numberOfTrailingZeros_0f7a4 4 = .ok (.iconst 1, 1) := q_iconst1 (bat_get dg_J6_numberOfTrailingZeros_0f7a4_0_0 4 rfl rfl)
theorem dJ6_numberOfTrailingZeros_0f7a4_5 : decode cJ6_numberOfTrailingZeros_0f7a4 5 = .ok (.isub, 1) := q_isub (bat_get dg_J6_numberOfTrailingZeros_0f7a4_0_0 5 rfl rfl)
theorem dJ6_numberOfTrailingZeros_0f7a4_6 : decode cJ6_numberOfTrailingZeros_0f7a4 6 = .ok (.iand, 1) := q_iand (bat_get dg_J6_numberOfTrailingZeros_0f7a4_0_0 6 rfl rfl)
theorem dJ6_numberOfTrailingZeros_0f7a4_7 : decode cJ6_numberOfTrailingZeros_0f7a4 7 = .ok (.istore_n 0, 1) := q_istore_n0 (bat_get dg_J6_numberOfTrailingZeros_0f7a4_0_0 7 rfl rfl)
theorem dJ6_numberOfTrailingZeros_0f7a4_8 : decode cJ6_numberOfTrailingZeros_0f7a4 8 = .ok (.iload_n 0, 1) := q_iload_n0 (bat_get dg_J6_numberOfTrailingZeros_0f7a4_0_0 8 rfl rfl)
theorem dJ6_numberOfTrailingZeros_0f7a4_9 : decode cJ6_numberOfTrailingZeros_0f7a4 9 = .ok (.ifCond .gt 8, 3) := q_ifCond_gt (bat_get dg_J6_numberOfTrailingZeros_0f7a4_0_0 9 rfl rfl) rfl
theorem dJ6_numberOfTrailingZeros_0f7a4_17 : decode cJ6_numberOfTrailingZeros_0f7a4 17 = .ok (.iconst 1, 1) := q_iconst1 (bat_get dg_J6_numberOfTrailingZeros_0f7a4_0_0 10 rfl rfl)
theorem dJ6_numberOfTrailingZeros_0f7a4_18 : decode cJ6_numberOfTrailingZeros_0f7a4 18 = .ok (.istore_n 1, 1) := q_istore_n1 (bat_get dg_J6_numberOfTrailingZeros_0f7a4_0_0 11 rfl rfl)
theorem dJ6_numberOfTrailingZeros_0f7a4_19 : decode cJ6_numberOfTrailingZeros_0f7a4 19 = .ok (.iload_n 0, 1) := q_iload_n0 (bat_get dg_J6_numberOfTrailingZeros_0f7a4_0_0 12 rfl rfl)
theorem dJ6_numberOfTrailingZeros_0f7a4_20 : decode cJ6_numberOfTrailingZeros_0f7a4 20 = .ok (.ldc_w 264, 3) := q_ldc_w (bat_get dg_J6_numberOfTrailingZeros_0f7a4_0_0 13 rfl rfl) rfl
theorem dJ6_numberOfTrailingZeros_0f7a4_23 : decode cJ6_numberOfTrailingZeros_0f7a4 23 = .ok (.if_icmp .le 11, 3) := q_if_icmp_le (bat_get dg_J6_numberOfTrailingZeros_0f7a4_0_0 14 rfl rfl) rfl
theorem dJ6_numberOfTrailingZeros_0f7a4_34 : decode cJ6_numberOfTrailingZeros_0f7a4 34 = .ok (.iload_n 0, 1) := q_iload_n0 (bat_get dg_J6_numberOfTrailingZeros_0f7a4_0_0 15 rfl rfl)
theorem dJ6_numberOfTrailingZeros_0f7a4_35 : decode cJ6_numberOfTrailingZeros_0f7a4 35 = .ok (.sipush 256, 3) := q_sipush (bat_get dg_J6_numberOfTrailingZeros_0f7a4_0_0 16 rfl rfl) rfl
theorem dJ6_numberOfTrailingZeros_0f7a4_38 : decode cJ6_numberOfTrailingZeros_0f7a4 38 = .ok (.if_icmp .le 11, 3) := q_if_icmp_le (bat_get dg_J6_numberOfTrailingZeros_0f7a4_0_0 17 rfl rfl) rfl
theorem dJ6_numberOfTrailingZeros_0f7a4_49 : decode cJ6_numberOfTrailingZeros_0f7a4 49 = .ok (.iload_n 0, 1) := q_iload_n0 (bat_get dg_J6_numberOfTrailingZeros_0f7a4_0_0 18 rfl rfl)
theorem dJ6_numberOfTrailingZeros_0f7a4_50 : decode cJ6_numberOfTrailingZeros_0f7a4 50 = .ok (.bipush 16, 2) := q_bipush (bat_get dg_J6_numberOfTrailingZeros_0f7a4_0_0 19 rfl rfl) rfl
theorem dJ6_numberOfTrailingZeros_0f7a4_52 : decode cJ6_numberOfTrailingZeros_0f7a4 52 = .ok (.if_icmp .le 10, 3) := q_if_icmp_le (bat_get dg_J6_numberOfTrailingZeros_0f7a4_0_0 20 rfl rfl) rfl
theorem dJ6_numberOfTrailingZeros_0f7a4_62 : decode cJ6_numberOfTrailingZeros_0f7a4 62 = .ok (.iload_n 0, 1) := q_iload_n0 (bat_get dg_J6_numberOfTrailingZeros_0f7a4_0_0 21 rfl rfl)
theorem dJ6_numberOfTrailingZeros_0f7a4_63 : decode cJ6_numberOfTrailingZeros_0f7a4 63 = .ok (.iconst 4, 1) := q_iconst4 (bat_get dg_J6_numberOfTrailingZeros_0f7a4_0_0 22 rfl rfl)
theorem dJ6_numberOfTrailingZeros_0f7a4_64 : decode cJ6_numberOfTrailingZeros_0f7a4 64 = .ok (.if_icmp .le 10, 3) := q_if_icmp_le (bat_get dg_J6_numberOfTrailingZeros_0f7a4_0_0 23 rfl rfl) rfl
theorem dJ6_numberOfTrailingZeros_0f7a4_74 : decode cJ6_numberOfTrailingZeros_0f7a4 74 = .ok (.iload_n 1, 1) := q_iload_n1 (bat_get dg_J6_numberOfTrailingZeros_0f7a4_0_0 24 rfl rfl)
theorem dJ6_numberOfTrailingZeros_0f7a4_75 : decode cJ6_numberOfTrailingZeros_0f7a4 75 = .ok (.iload_n 0, 1) := q_iload_n0 (bat_get dg_J6_numberOfTrailingZeros_0f7a4_0_0 25 rfl rfl)
theorem dJ6_numberOfTrailingZeros_0f7a4_76 : decode cJ6_numberOfTrailingZeros_0f7a4 76 = .ok (.iconst 1, 1) := q_iconst1 (bat_get dg_J6_numberOfTrailingZeros_0f7a4_0_0 26 rfl rfl)
theorem dJ6_numberOfTrailingZeros_0f7a4_77 : decode cJ6_numberOfTrailingZeros_0f7a4 77 = .ok (.iushr, 1) := q_iushr (bat_get dg_J6_numberOfTrailingZeros_0f7a4_0_0 27 rfl rfl)
theorem dJ6_numberOfTrailingZeros_0f7a4_78 : decode cJ6_numberOfTrailingZeros_0f7a4 78 = .ok (.iadd, 1) := q_iadd (bat_get dg_J6_numberOfTrailingZeros_0f7a4_0_0 28 rfl rfl)
theorem dJ6_numberOfTrailingZeros_0f7a4_79 : decode cJ6_numberOfTrailingZeros_0f7a4 79 = .ok (.ireturn, 1) := q_ireturn (bat_get dg_J6_numberOfTrailingZeros_0f7a4_0_0 29 rfl rfl)
theorem dJ6_numberOfTrailingZeros_0f7a4_67 : decode cJ6_numberOfTrailingZeros_0f7a4 67 = .ok (.iinc 1 2, 3) := q_iinc (bat_get dg_J6_numberOfTrailingZeros_0f7a4_0_0 30 rfl rfl) rfl
theorem dJ6_numberOfTrailingZeros_0f7a4_70 : decode cJ6_numberOfTrailingZeros_0f7a4 70 = .ok (.iload_n 0, 1) := q_iload_n0 (bat_get dg_J6_numberOfTrailingZeros_0f7a4_0_0 31 rfl rfl)
theorem dJ6_numberOfTrailingZeros_0f7a4_71 : decode cJ6_numberOfTrailingZeros_0f7a4 71 = .ok (.iconst 2, 1) := q_iconst2 (bat_get dg_J6_numberOfTrailingZeros_0f7a4_0_0 32 rfl rfl)
theorem dJ6_numberOfTrailingZeros_0f7a4_72 : decode cJ6_numberOfTrailingZeros_0f7a4 72 = .ok (.iushr, 1) := q_iushr (bat_get dg_J6_numberOfTrailingZeros_0f7a4_0_0 33 rfl rfl)
theorem dJ6_numberOfTrailingZeros_0f7a4_73 : decode cJ6_numberOfTrailingZeros_0f7a4 73 = .ok (.istore_n 0, 1) := q_istore_n0 (bat_get dg_J6_numberOfTrailingZeros_0f7a4_0_0 34 rfl rfl)
theorem dJ6_numberOfTrailingZeros_0f7a4_55 : decode cJ6_numberOfTrailingZeros_0f7a4 55 = .ok (.iinc 1 4, 3) := q_iinc (bat_get dg_J6_numberOfTrailingZeros_0f7a4_0_0 35 rfl rfl) rfl
theorem dJ6_numberOfTrailingZeros_0f7a4_58 : decode cJ6_numberOfTrailingZeros_0f7a4 58 = .ok (.iload_n 0, 1) := q_iload_n0 (bat_get dg_J6_numberOfTrailingZeros_0f7a4_0_0 36 rfl rfl)
theorem dJ6_numberOfTrailingZeros_0f7a4_59 : decode cJ6_numberOfTrailingZeros_0f7a4 59 = .ok (.iconst 4, 1) := q_iconst4 (bat_get dg_J6_numberOfTrailingZeros_0f7a4_0_0 37 rfl rfl)
theorem dJ6_numberOfTrailingZeros_0f7a4_60 : decode cJ6_numberOfTrailingZeros_0f7a4 60 = .ok (.iushr, 1) := q_iushr (bat_get dg_J6_numberOfTrailingZeros_0f7a4_0_0 38 rfl rfl)
theorem dJ6_numberOfTrailingZeros_0f7a4_61 : decode cJ6_numberOfTrailingZeros_0f7a4 61 = .ok (.istore_n 0, 1) := q_istore_n0 (bat_get dg_J6_numberOfTrailingZeros_0f7a4_0_0 39 rfl rfl)
theorem dg_J6_numberOfTrailingZeros_0f7a4_12_41 : bqL cJ6_numberOfTrailingZeros_0f7a4 12 [(29, [132, 1, 8]), (32, [26]), (33, [16, 8]), (35, [124]), (36, [59]), (14, [132, 1, 16]), (17, [26]), (18, [16, 16]), (20, [124]), (21, [59]), (0, [26]), (1, [16, 32]), (3, [126]), (4, [172])] = true := by decide +kernel
theorem dJ6_numberOfTrailingZeros_0f7a4_41 : decode cJ6_numberOfTrailingZeros_0f7a4 41 = .ok (.iinc 1 8, 3) := q_iinc (bat_get dg_J6_numberOfTrailingZeros_0f7a4_12_41 0 rfl rfl) rfl
theorem dJ6_numberOfTrailingZeros_0f7a4_44 : decode cJ6_numberOfTrailingZeros_0f7a4 44 = .ok (.iload_n 0, 1) := q_iload_n0 (bat_get dg_J6_numberOfTrailingZeros_0f7a4_12_41 1 rfl rfl)
theorem dJ6_numberOfTrailingZeros_0f7a4_45 : decode cJ6_numberOfTrailingZeros_0f7a4 45 = .ok (.bipush 8, 2) := q_bipush (bat_get dg_J6_numberOfTrailingZeros_0f7a4_12_41 2 rfl rfl) rfl
theorem dJ6_numberOfTrailingZeros_0f7a4_47 : decode cJ6_numberOfTrailingZeros_0f7a4 47 = .ok (.iushr, 1) := q_iushr (bat_get dg_J6_numberOfTrailingZeros_0f7a4_12_41 3 rfl rfl)
theorem dJ6_numberOfTrailingZeros_0f7a4_48 : decode cJ6_numberOfTrailingZeros_0f7a4 48 = .ok (.istore_n 0, 1) := q_istore_n0 (bat_get dg_J6_numberOfTrailingZeros_0f7a4_12_41 4 rfl rfl)
theorem dJ6_numberOfTrailingZeros_0f7a4_26 : decode cJ6_numberOfTrailingZeros_0f7a4 26 = .ok (.iinc 1 16, 3) := q_iinc (bat_get dg_J6_numberOfTrailingZeros_0f7a4_12_41 5 rfl rfl) rfl
theorem dJ6_numberOfTrailingZeros_0f7a4_29 : decode cJ6_numberOfTrailingZeros_0f7a4 29 = .ok (.iload_n 0, 1) := q_iload_n0 (bat_get dg_J6_numberOfTrailingZeros_0f7a4_12_41 6 rfl rfl)
theorem dJ6_numberOfTrailingZeros_0f7a4_30 : decode cJ6_numberOfTrailingZeros_0f7a4 30 = .ok (.bipush 16, 2) := q_bipush (bat_get dg_J6_numberOfTrailingZeros_0f7a4_12_41 7 rfl rfl) rfl
theorem dJ6_numberOfTrailingZeros_0f7a4_32 : decode cJ6_numberOfTrailingZeros_0f7a4 32 = .ok (.iushr, 1) := q_iushr (bat_get dg_J6_numberOfTrailingZeros_0f7a4_12_41 8 rfl rfl)
theorem dJ6_numberOfTrailingZeros_0f7a4_33 : decode cJ6_numberOfTrailingZeros_0f7a4 33 = .ok (.istore_n 0, 1) := q_istore_n0 (bat_get dg_J6_numberOfTrailingZeros_0f7a4_12_41 9 rfl rfl)
theorem dJ6_numberOfTrailingZeros_0f7a4_12 : decode cJ6_numberOfTrailingZeros_0f7a4 12 = .ok (.iload_n 0, 1) := q_iload_n0 (bat_get dg_J6_numberOfTrailingZeros_0f7a4_12_41 10 rfl rfl)
theorem dJ6_numberOfTrailingZeros_0f7a4_13 : decode cJ6_numberOfTrailingZeros_0f7a4 13 = .ok (.bipush 32, 2) := q_bipush (bat_get dg_J6_numberOfTrailingZeros_0f7a4_12_41 11 rfl rfl) rfl
theorem dJ6_numberOfTrailingZeros_0f7a4_15 : decode cJ6_numberOfTrailingZeros_0f7a4 15 = .ok (.iand, 1) := q_iand (bat_get dg_J6_numberOfTrailingZeros_0f7a4_12_41 12 rfl rfl)
theorem dJ6_numberOfTrailingZeros_0f7a4_16 : decode cJ6_numberOfTrailingZeros_0f7a4 16 = .ok (.ireturn, 1) := q_ireturn (bat_get dg_J6_numberOfTrailingZeros_0f7a4_12_41 13 rfl rfl)
theorem w_4_119 : (Cond.constant RJ6 264 (65536)) ∈ wsL_law := sk_mem (ck_4 _ (List.mem_of_getElem? (i := 119) rfl)) rfl
theorem w_4_118 : (Cond.code yJ6_numberOfTrailingZeros_0f7a4 cJ6_numberOfTrailingZeros_0f7a4 2 (some .int)) ∈ wsL_law := sk_mem (ck_4 _ (List.mem_of_getElem? (i := 118) rfl)) rfl
set_option maxHeartbeats 4000000 in
set_option maxRecDepth 100000 in
theorem c_ntz (l : Launch) (D : va_G) (cI cJ cC cZ cS : ClassId) (o : Int32)  : skM l yJ6_numberOfTrailingZeros_0f7a4 cJ6_numberOfTrailingZeros_0f7a4 2 (some .int) 0 0 0 0 D (skT cI cJ cC cZ cS) [.int o] [] (skI D (skT cI cJ cC cZ cS) (fun (r : Int32) (u : va_W) => ∃ (v : Nat), v ≤ 64 ∧ r = nI v ∧ u = [])) := by
  refine skM_of pf_J6_numberOfTrailingZeros_0f7a4 (Nat.le_of_ble_eq_true rfl) ?_
  intro p e s m below meth c A ls E hP hD hl
  refine skE_el E (fun hx hb hr hml hlocks hin hown hts hK hA => ?_)
  have hown : s.vm.findClass RJ6 = some m.cls := hown
  have hS : va_S A s.heap s.heap [] := va_S.rf
  have hl : lv_has ls 2 [(0, .int o)] := hl
  refine lv_iload_n hx hb dJ6_numberOfTrailingZeros_0f7a4_0 rfl (lv_at hl 0 rfl) ?_
  refine lv_iconst (v := (-1)) hx hb dJ6_numberOfTrailingZeros_0f7a4_1 (by decide) ?_
  refine lv_ixor hx hb dJ6_numberOfTrailingZeros_0f7a4_2 ?_
  refine lv_topi (fun v_1 ev_1 => ?_)
  refine lv_iload_n hx hb dJ6_numberOfTrailingZeros_0f7a4_3 rfl (lv_at hl 0 rfl) ?_
  refine lv_iconst (v := 1) hx hb dJ6_numberOfTrailingZeros_0f7a4_4 ic_1 ?_
  refine lv_isub hx hb dJ6_numberOfTrailingZeros_0f7a4_5 ?_
  refine lv_topi (fun v_2 ev_2 => ?_)
  refine lv_iand hx hb dJ6_numberOfTrailingZeros_0f7a4_6 ?_
  refine lv_topi (fun v_3 ev_3 => ?_)
  refine lv_istore_n (lv' := [(0, .int v_3)]) hx hb dJ6_numberOfTrailingZeros_0f7a4_7 rfl hl (by decide) rfl (fun ls hl => ?_)
  refine lv_iload_n hx hb dJ6_numberOfTrailingZeros_0f7a4_8 rfl (lv_at hl 0 rfl) ?_
  refine lv_if_gt (tgt := 17) hx hb dJ6_numberOfTrailingZeros_0f7a4_9 (by decide) (fun c_4 => ?_) (fun c_4 => ?_)
  · obtain ⟨k_5, hk_5, h1k_5, rfl⟩ := nofp v_3 c_4
    refine lv_iconst (v := 1) hx hb dJ6_numberOfTrailingZeros_0f7a4_17 ic_1 ?_
    refine lv_istore_n (lv' := [(1, .int 1), (0, .int (nI k_5))]) hx hb dJ6_numberOfTrailingZeros_0f7a4_18 rfl hl (by decide) rfl (fun ls hl => ?_)
    refine lv_iload_n hx hb dJ6_numberOfTrailingZeros_0f7a4_19 rfl (lv_at hl 1 rfl) ?_
    refine lv_ldcw (v := 65536) hx hb hown (hts _ w_4_119) dJ6_numberOfTrailingZeros_0f7a4_20 ?_
    refine lv_icmp_le (tgt := 34) hx hb dJ6_numberOfTrailingZeros_0f7a4_23 (by decide) (fun c_6 => ?_) (fun c_6 => ?_)
    · have c_6 : k_5 ≤ 65536 := (nle k_5 65536 (by omega) (Nat.le_of_ble_eq_true rfl)).mp c_6
      refine lv_iload_n hx hb dJ6_numberOfTrailingZeros_0f7a4_34 rfl (lv_at hl 1 rfl) ?_
      refine lv_sipush (v := 256) hx hb dJ6_numberOfTrailingZeros_0f7a4_35 (by decide) ?_
      refine lv_icmp_le (tgt := 49) hx hb dJ6_numberOfTrailingZeros_0f7a4_38 (by decide) (fun c_7 => ?_) (fun c_7 => ?_)
      · have c_7 : k_5 ≤ 256 := (nle k_5 256 (by omega) (Nat.le_of_ble_eq_true rfl)).mp c_7
        refine lv_iload_n hx hb dJ6_numberOfTrailingZeros_0f7a4_49 rfl (lv_at hl 1 rfl) ?_
        refine lv_bipush (v := 16) hx hb dJ6_numberOfTrailingZeros_0f7a4_50 (by decide) ?_
        refine lv_icmp_le (tgt := 62) hx hb dJ6_numberOfTrailingZeros_0f7a4_52 (by decide) (fun c_8 => ?_) (fun c_8 => ?_)
        · have c_8 : k_5 ≤ 16 := (nle k_5 16 (by omega) (Nat.le_of_ble_eq_true rfl)).mp c_8
          refine lv_iload_n hx hb dJ6_numberOfTrailingZeros_0f7a4_62 rfl (lv_at hl 1 rfl) ?_
          refine lv_iconst (v := 4) hx hb dJ6_numberOfTrailingZeros_0f7a4_63 ic_4 ?_
          refine lv_icmp_le (tgt := 74) hx hb dJ6_numberOfTrailingZeros_0f7a4_64 (by decide) (fun c_9 => ?_) (fun c_9 => ?_)
          · have c_9 : k_5 ≤ 4 := (nle k_5 4 (by omega) (Nat.le_of_ble_eq_true rfl)).mp c_9
            refine lv_iload_n hx hb dJ6_numberOfTrailingZeros_0f7a4_74 rfl (lv_at hl 0 rfl) ?_
            refine lv_iload_n hx hb dJ6_numberOfTrailingZeros_0f7a4_75 rfl (lv_at hl 1 rfl) ?_
            refine lv_iconst (v := 1) hx hb dJ6_numberOfTrailingZeros_0f7a4_76 ic_1 ?_
            refine lv_iushr (v := nI (k_5 / 2)) hx hb dJ6_numberOfTrailingZeros_0f7a4_77 (nushr k_5 1 (by omega) (by decide) 2 rfl) ?_
            refine lv_iadd hx hb dJ6_numberOfTrailingZeros_0f7a4_78 ?_
            refine sk_top (nI (1 + (k_5 / 2))) (nI_add 1 (k_5 / 2)) ?_
            exact sk_iret hx hb hr rfl hlocks hK hP hD hS (⟨1 + (k_5 / 2), by omega, rfl, rfl⟩) (Nat.le_of_ble_eq_true rfl) (Nat.le_of_ble_eq_true rfl) dJ6_numberOfTrailingZeros_0f7a4_79
          · have c_9 : ¬ (k_5 ≤ 4) := fun h => c_9 ((nle k_5 4 (by omega) (Nat.le_of_ble_eq_true rfl)).mpr h)
            refine lv_iinc (v := 3) (lv' := [(1, .int 3), (0, .int (nI k_5))]) hx hb dJ6_numberOfTrailingZeros_0f7a4_67 hl (k := 0) rfl (by decide) (by decide) rfl (fun ls hl => ?_)
            refine lv_iload_n hx hb dJ6_numberOfTrailingZeros_0f7a4_70 rfl (lv_at hl 1 rfl) ?_
            refine lv_iconst (v := 2) hx hb dJ6_numberOfTrailingZeros_0f7a4_71 ic_2 ?_
            refine lv_iushr (v := nI (k_5 / 4)) hx hb dJ6_numberOfTrailingZeros_0f7a4_72 (nushr k_5 2 (by omega) (by decide) 4 rfl) ?_
            refine lv_istore_n (lv' := [(0, .int (nI (k_5 / 4))), (1, .int 3)]) hx hb dJ6_numberOfTrailingZeros_0f7a4_73 rfl hl (by decide) rfl (fun ls hl => ?_)
            refine lv_iload_n hx hb dJ6_numberOfTrailingZeros_0f7a4_74 rfl (lv_at hl 1 rfl) ?_
            refine lv_iload_n hx hb dJ6_numberOfTrailingZeros_0f7a4_75 rfl (lv_at hl 0 rfl) ?_
            refine lv_iconst (v := 1) hx hb dJ6_numberOfTrailingZeros_0f7a4_76 ic_1 ?_
            refine lv_iushr (v := nI ((k_5 / 4) / 2)) hx hb dJ6_numberOfTrailingZeros_0f7a4_77 (nushr (k_5 / 4) 1 (by omega) (by decide) 2 rfl) ?_
            refine lv_iadd hx hb dJ6_numberOfTrailingZeros_0f7a4_78 ?_
            refine sk_top (nI (3 + ((k_5 / 4) / 2))) (nI_add 3 ((k_5 / 4) / 2)) ?_
            exact sk_iret hx hb hr rfl hlocks hK hP hD hS (⟨3 + ((k_5 / 4) / 2), by omega, rfl, rfl⟩) (Nat.le_of_ble_eq_true rfl) (Nat.le_of_ble_eq_true rfl) dJ6_numberOfTrailingZeros_0f7a4_79
        · have c_8 : ¬ (k_5 ≤ 16) := fun h => c_8 ((nle k_5 16 (by omega) (Nat.le_of_ble_eq_true rfl)).mpr h)
          refine lv_iinc (v := 5) (lv' := [(1, .int 5), (0, .int (nI k_5))]) hx hb dJ6_numberOfTrailingZeros_0f7a4_55 hl (k := 0) rfl (by decide) (by decide) rfl (fun ls hl => ?_)
          refine lv_iload_n hx hb dJ6_numberOfTrailingZeros_0f7a4_58 rfl (lv_at hl 1 rfl) ?_
          refine lv_iconst (v := 4) hx hb dJ6_numberOfTrailingZeros_0f7a4_59 ic_4 ?_
          refine lv_iushr (v := nI (k_5 / 16)) hx hb dJ6_numberOfTrailingZeros_0f7a4_60 (nushr k_5 4 (by omega) (by decide) 16 rfl) ?_
          refine lv_istore_n (lv' := [(0, .int (nI (k_5 / 16))), (1, .int 5)]) hx hb dJ6_numberOfTrailingZeros_0f7a4_61 rfl hl (by decide) rfl (fun ls hl => ?_)
          refine lv_iload_n hx hb dJ6_numberOfTrailingZeros_0f7a4_62 rfl (lv_at hl 0 rfl) ?_
          refine lv_iconst (v := 4) hx hb dJ6_numberOfTrailingZeros_0f7a4_63 ic_4 ?_
          refine lv_icmp_le (tgt := 74) hx hb dJ6_numberOfTrailingZeros_0f7a4_64 (by decide) (fun c_10 => ?_) (fun c_10 => ?_)
          · have c_10 : k_5 / 16 ≤ 4 := (nle (k_5 / 16) 4 (by omega) (Nat.le_of_ble_eq_true rfl)).mp c_10
            refine lv_iload_n hx hb dJ6_numberOfTrailingZeros_0f7a4_74 rfl (lv_at hl 1 rfl) ?_
            refine lv_iload_n hx hb dJ6_numberOfTrailingZeros_0f7a4_75 rfl (lv_at hl 0 rfl) ?_
            refine lv_iconst (v := 1) hx hb dJ6_numberOfTrailingZeros_0f7a4_76 ic_1 ?_
            refine lv_iushr (v := nI ((k_5 / 16) / 2)) hx hb dJ6_numberOfTrailingZeros_0f7a4_77 (nushr (k_5 / 16) 1 (by omega) (by decide) 2 rfl) ?_
            refine lv_iadd hx hb dJ6_numberOfTrailingZeros_0f7a4_78 ?_
            refine sk_top (nI (5 + ((k_5 / 16) / 2))) (nI_add 5 ((k_5 / 16) / 2)) ?_
            exact sk_iret hx hb hr rfl hlocks hK hP hD hS (⟨5 + ((k_5 / 16) / 2), by omega, rfl, rfl⟩) (Nat.le_of_ble_eq_true rfl) (Nat.le_of_ble_eq_true rfl) dJ6_numberOfTrailingZeros_0f7a4_79
          · have c_10 : ¬ (k_5 / 16 ≤ 4) := fun h => c_10 ((nle (k_5 / 16) 4 (by omega) (Nat.le_of_ble_eq_true rfl)).mpr h)
            refine lv_iinc (v := 7) (lv' := [(1, .int 7), (0, .int (nI (k_5 / 16)))]) hx hb dJ6_numberOfTrailingZeros_0f7a4_67 hl (k := 1) rfl (by decide) (by decide) rfl (fun ls hl => ?_)
            refine lv_iload_n hx hb dJ6_numberOfTrailingZeros_0f7a4_70 rfl (lv_at hl 1 rfl) ?_
            refine lv_iconst (v := 2) hx hb dJ6_numberOfTrailingZeros_0f7a4_71 ic_2 ?_
            refine lv_iushr (v := nI ((k_5 / 16) / 4)) hx hb dJ6_numberOfTrailingZeros_0f7a4_72 (nushr (k_5 / 16) 2 (by omega) (by decide) 4 rfl) ?_
            refine lv_istore_n (lv' := [(0, .int (nI ((k_5 / 16) / 4))), (1, .int 7)]) hx hb dJ6_numberOfTrailingZeros_0f7a4_73 rfl hl (by decide) rfl (fun ls hl => ?_)
            refine lv_iload_n hx hb dJ6_numberOfTrailingZeros_0f7a4_74 rfl (lv_at hl 1 rfl) ?_
            refine lv_iload_n hx hb dJ6_numberOfTrailingZeros_0f7a4_75 rfl (lv_at hl 0 rfl) ?_
            refine lv_iconst (v := 1) hx hb dJ6_numberOfTrailingZeros_0f7a4_76 ic_1 ?_
            refine lv_iushr (v := nI (((k_5 / 16) / 4) / 2)) hx hb dJ6_numberOfTrailingZeros_0f7a4_77 (nushr ((k_5 / 16) / 4) 1 (by omega) (by decide) 2 rfl) ?_
            refine lv_iadd hx hb dJ6_numberOfTrailingZeros_0f7a4_78 ?_
            refine sk_top (nI (7 + (((k_5 / 16) / 4) / 2))) (nI_add 7 (((k_5 / 16) / 4) / 2)) ?_
            exact sk_iret hx hb hr rfl hlocks hK hP hD hS (⟨7 + (((k_5 / 16) / 4) / 2), by omega, rfl, rfl⟩) (Nat.le_of_ble_eq_true rfl) (Nat.le_of_ble_eq_true rfl) dJ6_numberOfTrailingZeros_0f7a4_79
      · have c_7 : ¬ (k_5 ≤ 256) := fun h => c_7 ((nle k_5 256 (by omega) (Nat.le_of_ble_eq_true rfl)).mpr h)
        refine lv_iinc (v := 9) (lv' := [(1, .int 9), (0, .int (nI k_5))]) hx hb dJ6_numberOfTrailingZeros_0f7a4_41 hl (k := 0) rfl (by decide) (by decide) rfl (fun ls hl => ?_)
        refine lv_iload_n hx hb dJ6_numberOfTrailingZeros_0f7a4_44 rfl (lv_at hl 1 rfl) ?_
        refine lv_bipush (v := 8) hx hb dJ6_numberOfTrailingZeros_0f7a4_45 (by decide) ?_
        refine lv_iushr (v := nI (k_5 / 256)) hx hb dJ6_numberOfTrailingZeros_0f7a4_47 (nushr k_5 8 (by omega) (by decide) 256 rfl) ?_
        refine lv_istore_n (lv' := [(0, .int (nI (k_5 / 256))), (1, .int 9)]) hx hb dJ6_numberOfTrailingZeros_0f7a4_48 rfl hl (by decide) rfl (fun ls hl => ?_)
        refine lv_iload_n hx hb dJ6_numberOfTrailingZeros_0f7a4_49 rfl (lv_at hl 0 rfl) ?_
        refine lv_bipush (v := 16) hx hb dJ6_numberOfTrailingZeros_0f7a4_50 (by decide) ?_
        refine lv_icmp_le (tgt := 62) hx hb dJ6_numberOfTrailingZeros_0f7a4_52 (by decide) (fun c_11 => ?_) (fun c_11 => ?_)
        · have c_11 : k_5 / 256 ≤ 16 := (nle (k_5 / 256) 16 (by omega) (Nat.le_of_ble_eq_true rfl)).mp c_11
          refine lv_iload_n hx hb dJ6_numberOfTrailingZeros_0f7a4_62 rfl (lv_at hl 0 rfl) ?_
          refine lv_iconst (v := 4) hx hb dJ6_numberOfTrailingZeros_0f7a4_63 ic_4 ?_
          refine lv_icmp_le (tgt := 74) hx hb dJ6_numberOfTrailingZeros_0f7a4_64 (by decide) (fun c_12 => ?_) (fun c_12 => ?_)
          · have c_12 : k_5 / 256 ≤ 4 := (nle (k_5 / 256) 4 (by omega) (Nat.le_of_ble_eq_true rfl)).mp c_12
            refine lv_iload_n hx hb dJ6_numberOfTrailingZeros_0f7a4_74 rfl (lv_at hl 1 rfl) ?_
            refine lv_iload_n hx hb dJ6_numberOfTrailingZeros_0f7a4_75 rfl (lv_at hl 0 rfl) ?_
            refine lv_iconst (v := 1) hx hb dJ6_numberOfTrailingZeros_0f7a4_76 ic_1 ?_
            refine lv_iushr (v := nI ((k_5 / 256) / 2)) hx hb dJ6_numberOfTrailingZeros_0f7a4_77 (nushr (k_5 / 256) 1 (by omega) (by decide) 2 rfl) ?_
            refine lv_iadd hx hb dJ6_numberOfTrailingZeros_0f7a4_78 ?_
            refine sk_top (nI (9 + ((k_5 / 256) / 2))) (nI_add 9 ((k_5 / 256) / 2)) ?_
            exact sk_iret hx hb hr rfl hlocks hK hP hD hS (⟨9 + ((k_5 / 256) / 2), by omega, rfl, rfl⟩) (Nat.le_of_ble_eq_true rfl) (Nat.le_of_ble_eq_true rfl) dJ6_numberOfTrailingZeros_0f7a4_79
          · have c_12 : ¬ (k_5 / 256 ≤ 4) := fun h => c_12 ((nle (k_5 / 256) 4 (by omega) (Nat.le_of_ble_eq_true rfl)).mpr h)
            refine lv_iinc (v := 11) (lv' := [(1, .int 11), (0, .int (nI (k_5 / 256)))]) hx hb dJ6_numberOfTrailingZeros_0f7a4_67 hl (k := 1) rfl (by decide) (by decide) rfl (fun ls hl => ?_)
            refine lv_iload_n hx hb dJ6_numberOfTrailingZeros_0f7a4_70 rfl (lv_at hl 1 rfl) ?_
            refine lv_iconst (v := 2) hx hb dJ6_numberOfTrailingZeros_0f7a4_71 ic_2 ?_
            refine lv_iushr (v := nI ((k_5 / 256) / 4)) hx hb dJ6_numberOfTrailingZeros_0f7a4_72 (nushr (k_5 / 256) 2 (by omega) (by decide) 4 rfl) ?_
            refine lv_istore_n (lv' := [(0, .int (nI ((k_5 / 256) / 4))), (1, .int 11)]) hx hb dJ6_numberOfTrailingZeros_0f7a4_73 rfl hl (by decide) rfl (fun ls hl => ?_)
            refine lv_iload_n hx hb dJ6_numberOfTrailingZeros_0f7a4_74 rfl (lv_at hl 1 rfl) ?_
            refine lv_iload_n hx hb dJ6_numberOfTrailingZeros_0f7a4_75 rfl (lv_at hl 0 rfl) ?_
            refine lv_iconst (v := 1) hx hb dJ6_numberOfTrailingZeros_0f7a4_76 ic_1 ?_
            refine lv_iushr (v := nI (((k_5 / 256) / 4) / 2)) hx hb dJ6_numberOfTrailingZeros_0f7a4_77 (nushr ((k_5 / 256) / 4) 1 (by omega) (by decide) 2 rfl) ?_
            refine lv_iadd hx hb dJ6_numberOfTrailingZeros_0f7a4_78 ?_
            refine sk_top (nI (11 + (((k_5 / 256) / 4) / 2))) (nI_add 11 (((k_5 / 256) / 4) / 2)) ?_
            exact sk_iret hx hb hr rfl hlocks hK hP hD hS (⟨11 + (((k_5 / 256) / 4) / 2), by omega, rfl, rfl⟩) (Nat.le_of_ble_eq_true rfl) (Nat.le_of_ble_eq_true rfl) dJ6_numberOfTrailingZeros_0f7a4_79
        · have c_11 : ¬ (k_5 / 256 ≤ 16) := fun h => c_11 ((nle (k_5 / 256) 16 (by omega) (Nat.le_of_ble_eq_true rfl)).mpr h)
          refine lv_iinc (v := 13) (lv' := [(1, .int 13), (0, .int (nI (k_5 / 256)))]) hx hb dJ6_numberOfTrailingZeros_0f7a4_55 hl (k := 1) rfl (by decide) (by decide) rfl (fun ls hl => ?_)
          refine lv_iload_n hx hb dJ6_numberOfTrailingZeros_0f7a4_58 rfl (lv_at hl 1 rfl) ?_
          refine lv_iconst (v := 4) hx hb dJ6_numberOfTrailingZeros_0f7a4_59 ic_4 ?_
          refine lv_iushr (v := nI ((k_5 / 256) / 16)) hx hb dJ6_numberOfTrailingZeros_0f7a4_60 (nushr (k_5 / 256) 4 (by omega) (by decide) 16 rfl) ?_
          refine lv_istore_n (lv' := [(0, .int (nI ((k_5 / 256) / 16))), (1, .int 13)]) hx hb dJ6_numberOfTrailingZeros_0f7a4_61 rfl hl (by decide) rfl (fun ls hl => ?_)
          refine lv_iload_n hx hb dJ6_numberOfTrailingZeros_0f7a4_62 rfl (lv_at hl 0 rfl) ?_
          refine lv_iconst (v := 4) hx hb dJ6_numberOfTrailingZeros_0f7a4_63 ic_4 ?_
          refine lv_icmp_le (tgt := 74) hx hb dJ6_numberOfTrailingZeros_0f7a4_64 (by decide) (fun c_13 => ?_) (fun c_13 => ?_)
          · have c_13 : (k_5 / 256) / 16 ≤ 4 := (nle ((k_5 / 256) / 16) 4 (by omega) (Nat.le_of_ble_eq_true rfl)).mp c_13
            refine lv_iload_n hx hb dJ6_numberOfTrailingZeros_0f7a4_74 rfl (lv_at hl 1 rfl) ?_
            refine lv_iload_n hx hb dJ6_numberOfTrailingZeros_0f7a4_75 rfl (lv_at hl 0 rfl) ?_
            refine lv_iconst (v := 1) hx hb dJ6_numberOfTrailingZeros_0f7a4_76 ic_1 ?_
            refine lv_iushr (v := nI (((k_5 / 256) / 16) / 2)) hx hb dJ6_numberOfTrailingZeros_0f7a4_77 (nushr ((k_5 / 256) / 16) 1 (by omega) (by decide) 2 rfl) ?_
            refine lv_iadd hx hb dJ6_numberOfTrailingZeros_0f7a4_78 ?_
            refine sk_top (nI (13 + (((k_5 / 256) / 16) / 2))) (nI_add 13 (((k_5 / 256) / 16) / 2)) ?_
            exact sk_iret hx hb hr rfl hlocks hK hP hD hS (⟨13 + (((k_5 / 256) / 16) / 2), by omega, rfl, rfl⟩) (Nat.le_of_ble_eq_true rfl) (Nat.le_of_ble_eq_true rfl) dJ6_numberOfTrailingZeros_0f7a4_79
          · have c_13 : ¬ ((k_5 / 256) / 16 ≤ 4) := fun h => c_13 ((nle ((k_5 / 256) / 16) 4 (by omega) (Nat.le_of_ble_eq_true rfl)).mpr h)
            refine lv_iinc (v := 15) (lv' := [(1, .int 15), (0, .int (nI ((k_5 / 256) / 16)))]) hx hb dJ6_numberOfTrailingZeros_0f7a4_67 hl (k := 1) rfl (by decide) (by decide) rfl (fun ls hl => ?_)
            refine lv_iload_n hx hb dJ6_numberOfTrailingZeros_0f7a4_70 rfl (lv_at hl 1 rfl) ?_
            refine lv_iconst (v := 2) hx hb dJ6_numberOfTrailingZeros_0f7a4_71 ic_2 ?_
            refine lv_iushr (v := nI (((k_5 / 256) / 16) / 4)) hx hb dJ6_numberOfTrailingZeros_0f7a4_72 (nushr ((k_5 / 256) / 16) 2 (by omega) (by decide) 4 rfl) ?_
            refine lv_istore_n (lv' := [(0, .int (nI (((k_5 / 256) / 16) / 4))), (1, .int 15)]) hx hb dJ6_numberOfTrailingZeros_0f7a4_73 rfl hl (by decide) rfl (fun ls hl => ?_)
            refine lv_iload_n hx hb dJ6_numberOfTrailingZeros_0f7a4_74 rfl (lv_at hl 1 rfl) ?_
            refine lv_iload_n hx hb dJ6_numberOfTrailingZeros_0f7a4_75 rfl (lv_at hl 0 rfl) ?_
            refine lv_iconst (v := 1) hx hb dJ6_numberOfTrailingZeros_0f7a4_76 ic_1 ?_
            refine lv_iushr (v := nI ((((k_5 / 256) / 16) / 4) / 2)) hx hb dJ6_numberOfTrailingZeros_0f7a4_77 (nushr (((k_5 / 256) / 16) / 4) 1 (by omega) (by decide) 2 rfl) ?_
            refine lv_iadd hx hb dJ6_numberOfTrailingZeros_0f7a4_78 ?_
            refine sk_top (nI (15 + ((((k_5 / 256) / 16) / 4) / 2))) (nI_add 15 ((((k_5 / 256) / 16) / 4) / 2)) ?_
            exact sk_iret hx hb hr rfl hlocks hK hP hD hS (⟨15 + ((((k_5 / 256) / 16) / 4) / 2), by omega, rfl, rfl⟩) (Nat.le_of_ble_eq_true rfl) (Nat.le_of_ble_eq_true rfl) dJ6_numberOfTrailingZeros_0f7a4_79
    · have c_6 : ¬ (k_5 ≤ 65536) := fun h => c_6 ((nle k_5 65536 (by omega) (Nat.le_of_ble_eq_true rfl)).mpr h)
      refine lv_iinc (v := 17) (lv' := [(1, .int 17), (0, .int (nI k_5))]) hx hb dJ6_numberOfTrailingZeros_0f7a4_26 hl (k := 0) rfl (by decide) (by decide) rfl (fun ls hl => ?_)
      refine lv_iload_n hx hb dJ6_numberOfTrailingZeros_0f7a4_29 rfl (lv_at hl 1 rfl) ?_
      refine lv_bipush (v := 16) hx hb dJ6_numberOfTrailingZeros_0f7a4_30 (by decide) ?_
      refine lv_iushr (v := nI (k_5 / 65536)) hx hb dJ6_numberOfTrailingZeros_0f7a4_32 (nushr k_5 16 (by omega) (by decide) 65536 rfl) ?_
      refine lv_istore_n (lv' := [(0, .int (nI (k_5 / 65536))), (1, .int 17)]) hx hb dJ6_numberOfTrailingZeros_0f7a4_33 rfl hl (by decide) rfl (fun ls hl => ?_)
      refine lv_iload_n hx hb dJ6_numberOfTrailingZeros_0f7a4_34 rfl (lv_at hl 0 rfl) ?_
      refine lv_sipush (v := 256) hx hb dJ6_numberOfTrailingZeros_0f7a4_35 (by decide) ?_
      refine lv_icmp_le (tgt := 49) hx hb dJ6_numberOfTrailingZeros_0f7a4_38 (by decide) (fun c_14 => ?_) (fun c_14 => ?_)
      · have c_14 : k_5 / 65536 ≤ 256 := (nle (k_5 / 65536) 256 (by omega) (Nat.le_of_ble_eq_true rfl)).mp c_14
        refine lv_iload_n hx hb dJ6_numberOfTrailingZeros_0f7a4_49 rfl (lv_at hl 0 rfl) ?_
        refine lv_bipush (v := 16) hx hb dJ6_numberOfTrailingZeros_0f7a4_50 (by decide) ?_
        refine lv_icmp_le (tgt := 62) hx hb dJ6_numberOfTrailingZeros_0f7a4_52 (by decide) (fun c_15 => ?_) (fun c_15 => ?_)
        · have c_15 : k_5 / 65536 ≤ 16 := (nle (k_5 / 65536) 16 (by omega) (Nat.le_of_ble_eq_true rfl)).mp c_15
          refine lv_iload_n hx hb dJ6_numberOfTrailingZeros_0f7a4_62 rfl (lv_at hl 0 rfl) ?_
          refine lv_iconst (v := 4) hx hb dJ6_numberOfTrailingZeros_0f7a4_63 ic_4 ?_
          refine lv_icmp_le (tgt := 74) hx hb dJ6_numberOfTrailingZeros_0f7a4_64 (by decide) (fun c_16 => ?_) (fun c_16 => ?_)
          · have c_16 : k_5 / 65536 ≤ 4 := (nle (k_5 / 65536) 4 (by omega) (Nat.le_of_ble_eq_true rfl)).mp c_16
            refine lv_iload_n hx hb dJ6_numberOfTrailingZeros_0f7a4_74 rfl (lv_at hl 1 rfl) ?_
            refine lv_iload_n hx hb dJ6_numberOfTrailingZeros_0f7a4_75 rfl (lv_at hl 0 rfl) ?_
            refine lv_iconst (v := 1) hx hb dJ6_numberOfTrailingZeros_0f7a4_76 ic_1 ?_
            refine lv_iushr (v := nI ((k_5 / 65536) / 2)) hx hb dJ6_numberOfTrailingZeros_0f7a4_77 (nushr (k_5 / 65536) 1 (by omega) (by decide) 2 rfl) ?_
            refine lv_iadd hx hb dJ6_numberOfTrailingZeros_0f7a4_78 ?_
            refine sk_top (nI (17 + ((k_5 / 65536) / 2))) (nI_add 17 ((k_5 / 65536) / 2)) ?_
            exact sk_iret hx hb hr rfl hlocks hK hP hD hS (⟨17 + ((k_5 / 65536) / 2), by omega, rfl, rfl⟩) (Nat.le_of_ble_eq_true rfl) (Nat.le_of_ble_eq_true rfl) dJ6_numberOfTrailingZeros_0f7a4_79
          · have c_16 : ¬ (k_5 / 65536 ≤ 4) := fun h => c_16 ((nle (k_5 / 65536) 4 (by omega) (Nat.le_of_ble_eq_true rfl)).mpr h)
            refine lv_iinc (v := 19) (lv' := [(1, .int 19), (0, .int (nI (k_5 / 65536)))]) hx hb dJ6_numberOfTrailingZeros_0f7a4_67 hl (k := 1) rfl (by decide) (by decide) rfl (fun ls hl => ?_)
            refine lv_iload_n hx hb dJ6_numberOfTrailingZeros_0f7a4_70 rfl (lv_at hl 1 rfl) ?_
            refine lv_iconst (v := 2) hx hb dJ6_numberOfTrailingZeros_0f7a4_71 ic_2 ?_
            refine lv_iushr (v := nI ((k_5 / 65536) / 4)) hx hb dJ6_numberOfTrailingZeros_0f7a4_72 (nushr (k_5 / 65536) 2 (by omega) (by decide) 4 rfl) ?_
            refine lv_istore_n (lv' := [(0, .int (nI ((k_5 / 65536) / 4))), (1, .int 19)]) hx hb dJ6_numberOfTrailingZeros_0f7a4_73 rfl hl (by decide) rfl (fun ls hl => ?_)
            refine lv_iload_n hx hb dJ6_numberOfTrailingZeros_0f7a4_74 rfl (lv_at hl 1 rfl) ?_
            refine lv_iload_n hx hb dJ6_numberOfTrailingZeros_0f7a4_75 rfl (lv_at hl 0 rfl) ?_
            refine lv_iconst (v := 1) hx hb dJ6_numberOfTrailingZeros_0f7a4_76 ic_1 ?_
            refine lv_iushr (v := nI (((k_5 / 65536) / 4) / 2)) hx hb dJ6_numberOfTrailingZeros_0f7a4_77 (nushr ((k_5 / 65536) / 4) 1 (by omega) (by decide) 2 rfl) ?_
            refine lv_iadd hx hb dJ6_numberOfTrailingZeros_0f7a4_78 ?_
            refine sk_top (nI (19 + (((k_5 / 65536) / 4) / 2))) (nI_add 19 (((k_5 / 65536) / 4) / 2)) ?_
            exact sk_iret hx hb hr rfl hlocks hK hP hD hS (⟨19 + (((k_5 / 65536) / 4) / 2), by omega, rfl, rfl⟩) (Nat.le_of_ble_eq_true rfl) (Nat.le_of_ble_eq_true rfl) dJ6_numberOfTrailingZeros_0f7a4_79
        · have c_15 : ¬ (k_5 / 65536 ≤ 16) := fun h => c_15 ((nle (k_5 / 65536) 16 (by omega) (Nat.le_of_ble_eq_true rfl)).mpr h)
          refine lv_iinc (v := 21) (lv' := [(1, .int 21), (0, .int (nI (k_5 / 65536)))]) hx hb dJ6_numberOfTrailingZeros_0f7a4_55 hl (k := 1) rfl (by decide) (by decide) rfl (fun ls hl => ?_)
          refine lv_iload_n hx hb dJ6_numberOfTrailingZeros_0f7a4_58 rfl (lv_at hl 1 rfl) ?_
          refine lv_iconst (v := 4) hx hb dJ6_numberOfTrailingZeros_0f7a4_59 ic_4 ?_
          refine lv_iushr (v := nI ((k_5 / 65536) / 16)) hx hb dJ6_numberOfTrailingZeros_0f7a4_60 (nushr (k_5 / 65536) 4 (by omega) (by decide) 16 rfl) ?_
          refine lv_istore_n (lv' := [(0, .int (nI ((k_5 / 65536) / 16))), (1, .int 21)]) hx hb dJ6_numberOfTrailingZeros_0f7a4_61 rfl hl (by decide) rfl (fun ls hl => ?_)
          refine lv_iload_n hx hb dJ6_numberOfTrailingZeros_0f7a4_62 rfl (lv_at hl 0 rfl) ?_
          refine lv_iconst (v := 4) hx hb dJ6_numberOfTrailingZeros_0f7a4_63 ic_4 ?_
          refine lv_icmp_le (tgt := 74) hx hb dJ6_numberOfTrailingZeros_0f7a4_64 (by decide) (fun c_17 => ?_) (fun c_17 => ?_)
          · have c_17 : (k_5 / 65536) / 16 ≤ 4 := (nle ((k_5 / 65536) / 16) 4 (by omega) (Nat.le_of_ble_eq_true rfl)).mp c_17
            refine lv_iload_n hx hb dJ6_numberOfTrailingZeros_0f7a4_74 rfl (lv_at hl 1 rfl) ?_
            refine lv_iload_n hx hb dJ6_numberOfTrailingZeros_0f7a4_75 rfl (lv_at hl 0 rfl) ?_
            refine lv_iconst (v := 1) hx hb dJ6_numberOfTrailingZeros_0f7a4_76 ic_1 ?_
            refine lv_iushr (v := nI (((k_5 / 65536) / 16) / 2)) hx hb dJ6_numberOfTrailingZeros_0f7a4_77 (nushr ((k_5 / 65536) / 16) 1 (by omega) (by decide) 2 rfl) ?_
            refine lv_iadd hx hb dJ6_numberOfTrailingZeros_0f7a4_78 ?_
            refine sk_top (nI (21 + (((k_5 / 65536) / 16) / 2))) (nI_add 21 (((k_5 / 65536) / 16) / 2)) ?_
            exact sk_iret hx hb hr rfl hlocks hK hP hD hS (⟨21 + (((k_5 / 65536) / 16) / 2), by omega, rfl, rfl⟩) (Nat.le_of_ble_eq_true rfl) (Nat.le_of_ble_eq_true rfl) dJ6_numberOfTrailingZeros_0f7a4_79
          · have c_17 : ¬ ((k_5 / 65536) / 16 ≤ 4) := fun h => c_17 ((nle ((k_5 / 65536) / 16) 4 (by omega) (Nat.le_of_ble_eq_true rfl)).mpr h)
            refine lv_iinc (v := 23) (lv' := [(1, .int 23), (0, .int (nI ((k_5 / 65536) / 16)))]) hx hb dJ6_numberOfTrailingZeros_0f7a4_67 hl (k := 1) rfl (by decide) (by decide) rfl (fun ls hl => ?_)
            refine lv_iload_n hx hb dJ6_numberOfTrailingZeros_0f7a4_70 rfl (lv_at hl 1 rfl) ?_
            refine lv_iconst (v := 2) hx hb dJ6_numberOfTrailingZeros_0f7a4_71 ic_2 ?_
            refine lv_iushr (v := nI (((k_5 / 65536) / 16) / 4)) hx hb dJ6_numberOfTrailingZeros_0f7a4_72 (nushr ((k_5 / 65536) / 16) 2 (by omega) (by decide) 4 rfl) ?_
            refine lv_istore_n (lv' := [(0, .int (nI (((k_5 / 65536) / 16) / 4))), (1, .int 23)]) hx hb dJ6_numberOfTrailingZeros_0f7a4_73 rfl hl (by decide) rfl (fun ls hl => ?_)
            refine lv_iload_n hx hb dJ6_numberOfTrailingZeros_0f7a4_74 rfl (lv_at hl 1 rfl) ?_
            refine lv_iload_n hx hb dJ6_numberOfTrailingZeros_0f7a4_75 rfl (lv_at hl 0 rfl) ?_
            refine lv_iconst (v := 1) hx hb dJ6_numberOfTrailingZeros_0f7a4_76 ic_1 ?_
            refine lv_iushr (v := nI ((((k_5 / 65536) / 16) / 4) / 2)) hx hb dJ6_numberOfTrailingZeros_0f7a4_77 (nushr (((k_5 / 65536) / 16) / 4) 1 (by omega) (by decide) 2 rfl) ?_
            refine lv_iadd hx hb dJ6_numberOfTrailingZeros_0f7a4_78 ?_
            refine sk_top (nI (23 + ((((k_5 / 65536) / 16) / 4) / 2))) (nI_add 23 ((((k_5 / 65536) / 16) / 4) / 2)) ?_
            exact sk_iret hx hb hr rfl hlocks hK hP hD hS (⟨23 + ((((k_5 / 65536) / 16) / 4) / 2), by omega, rfl, rfl⟩) (Nat.le_of_ble_eq_true rfl) (Nat.le_of_ble_eq_true rfl) dJ6_numberOfTrailingZeros_0f7a4_79
      · have c_14 : ¬ (k_5 / 65536 ≤ 256) := fun h => c_14 ((nle (k_5 / 65536) 256 (by omega) (Nat.le_of_ble_eq_true rfl)).mpr h)
        refine lv_iinc (v := 25) (lv' := [(1, .int 25), (0, .int (nI (k_5 / 65536)))]) hx hb dJ6_numberOfTrailingZeros_0f7a4_41 hl (k := 1) rfl (by decide) (by decide) rfl (fun ls hl => ?_)
        refine lv_iload_n hx hb dJ6_numberOfTrailingZeros_0f7a4_44 rfl (lv_at hl 1 rfl) ?_
        refine lv_bipush (v := 8) hx hb dJ6_numberOfTrailingZeros_0f7a4_45 (by decide) ?_
        refine lv_iushr (v := nI ((k_5 / 65536) / 256)) hx hb dJ6_numberOfTrailingZeros_0f7a4_47 (nushr (k_5 / 65536) 8 (by omega) (by decide) 256 rfl) ?_
        refine lv_istore_n (lv' := [(0, .int (nI ((k_5 / 65536) / 256))), (1, .int 25)]) hx hb dJ6_numberOfTrailingZeros_0f7a4_48 rfl hl (by decide) rfl (fun ls hl => ?_)
        refine lv_iload_n hx hb dJ6_numberOfTrailingZeros_0f7a4_49 rfl (lv_at hl 0 rfl) ?_
        refine lv_bipush (v := 16) hx hb dJ6_numberOfTrailingZeros_0f7a4_50 (by decide) ?_
        refine lv_icmp_le (tgt := 62) hx hb dJ6_numberOfTrailingZeros_0f7a4_52 (by decide) (fun c_18 => ?_) (fun c_18 => ?_)
        · have c_18 : (k_5 / 65536) / 256 ≤ 16 := (nle ((k_5 / 65536) / 256) 16 (by omega) (Nat.le_of_ble_eq_true rfl)).mp c_18
          refine lv_iload_n hx hb dJ6_numberOfTrailingZeros_0f7a4_62 rfl (lv_at hl 0 rfl) ?_
          refine lv_iconst (v := 4) hx hb dJ6_numberOfTrailingZeros_0f7a4_63 ic_4 ?_
          refine lv_icmp_le (tgt := 74) hx hb dJ6_numberOfTrailingZeros_0f7a4_64 (by decide) (fun c_19 => ?_) (fun c_19 => ?_)
          · have c_19 : (k_5 / 65536) / 256 ≤ 4 := (nle ((k_5 / 65536) / 256) 4 (by omega) (Nat.le_of_ble_eq_true rfl)).mp c_19
            refine lv_iload_n hx hb dJ6_numberOfTrailingZeros_0f7a4_74 rfl (lv_at hl 1 rfl) ?_
            refine lv_iload_n hx hb dJ6_numberOfTrailingZeros_0f7a4_75 rfl (lv_at hl 0 rfl) ?_
            refine lv_iconst (v := 1) hx hb dJ6_numberOfTrailingZeros_0f7a4_76 ic_1 ?_
            refine lv_iushr (v := nI (((k_5 / 65536) / 256) / 2)) hx hb dJ6_numberOfTrailingZeros_0f7a4_77 (nushr ((k_5 / 65536) / 256) 1 (by omega) (by decide) 2 rfl) ?_
            refine lv_iadd hx hb dJ6_numberOfTrailingZeros_0f7a4_78 ?_
            refine sk_top (nI (25 + (((k_5 / 65536) / 256) / 2))) (nI_add 25 (((k_5 / 65536) / 256) / 2)) ?_
            exact sk_iret hx hb hr rfl hlocks hK hP hD hS (⟨25 + (((k_5 / 65536) / 256) / 2), by omega, rfl, rfl⟩) (Nat.le_of_ble_eq_true rfl) (Nat.le_of_ble_eq_true rfl) dJ6_numberOfTrailingZeros_0f7a4_79
          · have c_19 : ¬ ((k_5 / 65536) / 256 ≤ 4) := fun h => c_19 ((nle ((k_5 / 65536) / 256) 4 (by omega) (Nat.le_of_ble_eq_true rfl)).mpr h)
            refine lv_iinc (v := 27) (lv' := [(1, .int 27), (0, .int (nI ((k_5 / 65536) / 256)))]) hx hb dJ6_numberOfTrailingZeros_0f7a4_67 hl (k := 1) rfl (by decide) (by decide) rfl (fun ls hl => ?_)
            refine lv_iload_n hx hb dJ6_numberOfTrailingZeros_0f7a4_70 rfl (lv_at hl 1 rfl) ?_
            refine lv_iconst (v := 2) hx hb dJ6_numberOfTrailingZeros_0f7a4_71 ic_2 ?_
            refine lv_iushr (v := nI (((k_5 / 65536) / 256) / 4)) hx hb dJ6_numberOfTrailingZeros_0f7a4_72 (nushr ((k_5 / 65536) / 256) 2 (by omega) (by decide) 4 rfl) ?_
            refine lv_istore_n (lv' := [(0, .int (nI (((k_5 / 65536) / 256) / 4))), (1, .int 27)]) hx hb dJ6_numberOfTrailingZeros_0f7a4_73 rfl hl (by decide) rfl (fun ls hl => ?_)
            refine lv_iload_n hx hb dJ6_numberOfTrailingZeros_0f7a4_74 rfl (lv_at hl 1 rfl) ?_
            refine lv_iload_n hx hb dJ6_numberOfTrailingZeros_0f7a4_75 rfl (lv_at hl 0 rfl) ?_
            refine lv_iconst (v := 1) hx hb dJ6_numberOfTrailingZeros_0f7a4_76 ic_1 ?_
            refine lv_iushr (v := nI ((((k_5 / 65536) / 256) / 4) / 2)) hx hb dJ6_numberOfTrailingZeros_0f7a4_77 (nushr (((k_5 / 65536) / 256) / 4) 1 (by omega) (by decide) 2 rfl) ?_
            refine lv_iadd hx hb dJ6_numberOfTrailingZeros_0f7a4_78 ?_
            refine sk_top (nI (27 + ((((k_5 / 65536) / 256) / 4) / 2))) (nI_add 27 ((((k_5 / 65536) / 256) / 4) / 2)) ?_
            exact sk_iret hx hb hr rfl hlocks hK hP hD hS (⟨27 + ((((k_5 / 65536) / 256) / 4) / 2), by omega, rfl, rfl⟩) (Nat.le_of_ble_eq_true rfl) (Nat.le_of_ble_eq_true rfl) dJ6_numberOfTrailingZeros_0f7a4_79
        · have c_18 : ¬ ((k_5 / 65536) / 256 ≤ 16) := fun h => c_18 ((nle ((k_5 / 65536) / 256) 16 (by omega) (Nat.le_of_ble_eq_true rfl)).mpr h)
          refine lv_iinc (v := 29) (lv' := [(1, .int 29), (0, .int (nI ((k_5 / 65536) / 256)))]) hx hb dJ6_numberOfTrailingZeros_0f7a4_55 hl (k := 1) rfl (by decide) (by decide) rfl (fun ls hl => ?_)
          refine lv_iload_n hx hb dJ6_numberOfTrailingZeros_0f7a4_58 rfl (lv_at hl 1 rfl) ?_
          refine lv_iconst (v := 4) hx hb dJ6_numberOfTrailingZeros_0f7a4_59 ic_4 ?_
          refine lv_iushr (v := nI (((k_5 / 65536) / 256) / 16)) hx hb dJ6_numberOfTrailingZeros_0f7a4_60 (nushr ((k_5 / 65536) / 256) 4 (by omega) (by decide) 16 rfl) ?_
          refine lv_istore_n (lv' := [(0, .int (nI (((k_5 / 65536) / 256) / 16))), (1, .int 29)]) hx hb dJ6_numberOfTrailingZeros_0f7a4_61 rfl hl (by decide) rfl (fun ls hl => ?_)
          refine lv_iload_n hx hb dJ6_numberOfTrailingZeros_0f7a4_62 rfl (lv_at hl 0 rfl) ?_
          refine lv_iconst (v := 4) hx hb dJ6_numberOfTrailingZeros_0f7a4_63 ic_4 ?_
          refine lv_icmp_le (tgt := 74) hx hb dJ6_numberOfTrailingZeros_0f7a4_64 (by decide) (fun c_20 => ?_) (fun c_20 => ?_)
          · have c_20 : ((k_5 / 65536) / 256) / 16 ≤ 4 := (nle (((k_5 / 65536) / 256) / 16) 4 (by omega) (by omega)).mp c_20
            refine lv_iload_n hx hb dJ6_numberOfTrailingZeros_0f7a4_74 rfl (lv_at hl 1 rfl) ?_
            refine lv_iload_n hx hb dJ6_numberOfTrailingZeros_0f7a4_75 rfl (lv_at hl 0 rfl) ?_
            refine lv_iconst (v := 1) hx hb dJ6_numberOfTrailingZeros_0f7a4_76 ic_1 ?_
            refine lv_iushr (v := nI ((((k_5 / 65536) / 256) / 16) / 2)) hx hb dJ6_numberOfTrailingZeros_0f7a4_77 (nushr (((k_5 / 65536) / 256) / 16) 1 (by omega) (by decide) 2 rfl) ?_
            refine lv_iadd hx hb dJ6_numberOfTrailingZeros_0f7a4_78 ?_
            refine sk_top (nI (29 + ((((k_5 / 65536) / 256) / 16) / 2))) (nI_add 29 ((((k_5 / 65536) / 256) / 16) / 2)) ?_
            exact sk_iret hx hb hr rfl hlocks hK hP hD hS (⟨29 + ((((k_5 / 65536) / 256) / 16) / 2), by omega, rfl, rfl⟩) (Nat.le_of_ble_eq_true rfl) (Nat.le_of_ble_eq_true rfl) dJ6_numberOfTrailingZeros_0f7a4_79
          · have c_20 : ¬ (((k_5 / 65536) / 256) / 16 ≤ 4) := fun h => c_20 ((nle (((k_5 / 65536) / 256) / 16) 4 (by omega) (by omega)).mpr h)
            refine lv_iinc (v := 31) (lv' := [(1, .int 31), (0, .int (nI (((k_5 / 65536) / 256) / 16)))]) hx hb dJ6_numberOfTrailingZeros_0f7a4_67 hl (k := 1) rfl (by decide) (by decide) rfl (fun ls hl => ?_)
            refine lv_iload_n hx hb dJ6_numberOfTrailingZeros_0f7a4_70 rfl (lv_at hl 1 rfl) ?_
            refine lv_iconst (v := 2) hx hb dJ6_numberOfTrailingZeros_0f7a4_71 ic_2 ?_
            refine lv_iushr (v := nI ((((k_5 / 65536) / 256) / 16) / 4)) hx hb dJ6_numberOfTrailingZeros_0f7a4_72 (nushr (((k_5 / 65536) / 256) / 16) 2 (by omega) (by decide) 4 rfl) ?_
            refine lv_istore_n (lv' := [(0, .int (nI ((((k_5 / 65536) / 256) / 16) / 4))), (1, .int 31)]) hx hb dJ6_numberOfTrailingZeros_0f7a4_73 rfl hl (by decide) rfl (fun ls hl => ?_)
            refine lv_iload_n hx hb dJ6_numberOfTrailingZeros_0f7a4_74 rfl (lv_at hl 1 rfl) ?_
            refine lv_iload_n hx hb dJ6_numberOfTrailingZeros_0f7a4_75 rfl (lv_at hl 0 rfl) ?_
            refine lv_iconst (v := 1) hx hb dJ6_numberOfTrailingZeros_0f7a4_76 ic_1 ?_
            refine lv_iushr (v := nI (((((k_5 / 65536) / 256) / 16) / 4) / 2)) hx hb dJ6_numberOfTrailingZeros_0f7a4_77 (nushr ((((k_5 / 65536) / 256) / 16) / 4) 1 (by omega) (by decide) 2 rfl) ?_
            refine lv_iadd hx hb dJ6_numberOfTrailingZeros_0f7a4_78 ?_
            refine sk_top (nI (31 + (((((k_5 / 65536) / 256) / 16) / 4) / 2))) (nI_add 31 (((((k_5 / 65536) / 256) / 16) / 4) / 2)) ?_
            exact sk_iret hx hb hr rfl hlocks hK hP hD hS (⟨31 + (((((k_5 / 65536) / 256) / 16) / 4) / 2), by omega, rfl, rfl⟩) (Nat.le_of_ble_eq_true rfl) (Nat.le_of_ble_eq_true rfl) dJ6_numberOfTrailingZeros_0f7a4_79
  · skip
    refine lv_iload_n hx hb dJ6_numberOfTrailingZeros_0f7a4_12 rfl (lv_at hl 0 rfl) ?_
    refine lv_bipush (v := 32) hx hb dJ6_numberOfTrailingZeros_0f7a4_13 (by decide) ?_
    refine lv_iand hx hb dJ6_numberOfTrailingZeros_0f7a4_15 ?_
    obtain ⟨k_21, hk_21, ek_21⟩ := nand32 v_3
    refine sk_top (nI k_21) ek_21 ?_
    exact sk_iret hx hb hr rfl hlocks hK hP hD hS (⟨k_21, by omega, rfl, rfl⟩) (Nat.le_of_ble_eq_true rfl) (Nat.le_of_ble_eq_true rfl) dJ6_numberOfTrailingZeros_0f7a4_16
theorem dg_X1_next_0_0 : bqL cX1_next 0 [(0, [42]), (1, [180, 0, 9]), (4, [27]), (5, [16, 10]), (7, [104]), (8, [28]), (9, [96]), (10, [46]), (11, [42]), (12, [180, 0, 15]), (15, [27]), (16, [46]), (17, [126]), (18, [42]), (19, [180, 0, 18]), (22, [27]), (23, [4]), (24, [96]), (25, [46]), (26, [126]), (27, [172])] = true := by decide +kernel
theorem dX1_next_0 : decode cX1_next 0 = .ok (.aload_n 0, 1) := q_aload_n0 (bat_get dg_X1_next_0_0 0 rfl rfl)
theorem dX1_next_1 : decode cX1_next 1 = .ok (.getfield 9, 3) := q_getfield (bat_get dg_X1_next_0_0 1 rfl rfl) rfl
theorem dX1_next_4 : decode cX1_next 4 = .ok (.iload_n 1, 1) := q_iload_n1 (bat_get dg_X1_next_0_0 2 rfl rfl)
theorem dX1_next_5 : decode cX1_next 5 = .ok (.bipush 10, 2) := q_bipush (bat_get dg_X1_next_0_0 3 rfl rfl) rfl
theorem dX1_next_7 : decode cX1_next 7 = .ok (.imul, 1) := q_imul (bat_get dg_X1_next_0_0 4 rfl rfl)
theorem dX1_next_8 : decode cX1_next 8 = .ok (.iload_n 2, 1) := q_iload_n2 (bat_get dg_X1_next_0_0 5 rfl rfl)
theorem dX1_next_9 : decode cX1_next 9 = .ok (.iadd, 1) := q_iadd (bat_get dg_X1_next_0_0 6 rfl rfl)
theorem dX1_next_10 : decode cX1_next 10 = .ok (.iaload, 1) := q_iaload (bat_get dg_X1_next_0_0 7 rfl rfl)
theorem dX1_next_11 : decode cX1_next 11 = .ok (.aload_n 0, 1) := q_aload_n0 (bat_get dg_X1_next_0_0 8 rfl rfl)
theorem dX1_next_12 : decode cX1_next 12 = .ok (.getfield 15, 3) := q_getfield (bat_get dg_X1_next_0_0 9 rfl rfl) rfl
theorem dX1_next_15 : decode cX1_next 15 = .ok (.iload_n 1, 1) := q_iload_n1 (bat_get dg_X1_next_0_0 10 rfl rfl)
theorem dX1_next_16 : decode cX1_next 16 = .ok (.iaload, 1) := q_iaload (bat_get dg_X1_next_0_0 11 rfl rfl)
theorem dX1_next_17 : decode cX1_next 17 = .ok (.iand, 1) := q_iand (bat_get dg_X1_next_0_0 12 rfl rfl)
theorem dX1_next_18 : decode cX1_next 18 = .ok (.aload_n 0, 1) := q_aload_n0 (bat_get dg_X1_next_0_0 13 rfl rfl)
theorem dX1_next_19 : decode cX1_next 19 = .ok (.getfield 18, 3) := q_getfield (bat_get dg_X1_next_0_0 14 rfl rfl) rfl
theorem dX1_next_22 : decode cX1_next 22 = .ok (.iload_n 1, 1) := q_iload_n1 (bat_get dg_X1_next_0_0 15 rfl rfl)
theorem dX1_next_23 : decode cX1_next 23 = .ok (.iconst 1, 1) := q_iconst1 (bat_get dg_X1_next_0_0 16 rfl rfl)
theorem dX1_next_24 : decode cX1_next 24 = .ok (.iadd, 1) := q_iadd (bat_get dg_X1_next_0_0 17 rfl rfl)
theorem dX1_next_25 : decode cX1_next 25 = .ok (.iaload, 1) := q_iaload (bat_get dg_X1_next_0_0 18 rfl rfl)
theorem dX1_next_26 : decode cX1_next 26 = .ok (.iand, 1) := q_iand (bat_get dg_X1_next_0_0 19 rfl rfl)
theorem dX1_next_27 : decode cX1_next 27 = .ok (.ireturn, 1) := q_ireturn (bat_get dg_X1_next_0_0 20 rfl rfl)
theorem w_2_96 : (Cond.fieldLink RX1 9 "SameKeeper$Graph" "leads" "[I") ∈ wsL_law := sk_mem (ck_2 _ (List.mem_of_getElem? (i := 96) rfl)) rfl
theorem w_2_97 : (Cond.fieldLink RX1 15 "SameKeeper$Graph" "allowed" "[I") ∈ wsL_law := sk_mem (ck_2 _ (List.mem_of_getElem? (i := 97) rfl)) rfl
theorem w_2_98 : (Cond.fieldLink RX1 18 "SameKeeper$Graph" "live" "[I") ∈ wsL_law := sk_mem (ck_2 _ (List.mem_of_getElem? (i := 98) rfl)) rfl
theorem w_4_60 : (Cond.code yX1_next cX1_next 3 (some .int)) ∈ wsL_law := sk_mem (ck_4 _ (List.mem_of_getElem? (i := 60) rfl)) rfl
set_option maxHeartbeats 4000000 in
set_option maxRecDepth 100000 in
theorem c_next (l : Launch) (D : va_G) (cI cJ cC cZ cS : ClassId) (q : Nat → Nat) (gd : Nat) (gs : Nat) (e1 : Nat → Int32) (e2 : Nat → Int32) (e3 : Nat → Int32) (d : Nat) (ah : Nat) (hd : d < 9) (hah : ah < 10) : skM l yX1_next cX1_next 3 (some .int) 0 0 0 0 D (skT cI cJ cC cZ cS) [.ref (q 11), .int (nI d), .int (nI ah)] [ro_rrrrrrrnn (q 11) 1 (q 10) (q 67) (q 68) (q 69) (q 70) (q 71) (q 72) gd gs, ra_I (q 67) cI 90 e1, ra_I (q 68) cI 9 e2, ra_I (q 69) cI 10 e3] (skI D (skT cI cJ cC cZ cS) (fun (r : Int32) (u : va_W) => u = [ro_rrrrrrrnn (q 11) 1 (q 10) (q 67) (q 68) (q 69) (q 70) (q 71) (q 72) gd gs, ra_I (q 67) cI 90 e1, ra_I (q 68) cI 9 e2, ra_I (q 69) cI 10 e3])) := by
  refine skM_of pf_X1_next (Nat.le_of_ble_eq_true rfl) ?_
  intro p e s m below meth c A ls E hP hD hl
  refine skE_el E (fun hx hb hr hml hlocks hin hown hts hK hA => ?_)
  have hown : s.vm.findClass RX1 = some m.cls := hown
  have hS : va_S A s.heap s.heap [] := va_S.rf
  have hl : lv_has ls 3 [(0, .ref (q 11)), (1, .int (nI d)), (2, .int (nI ah))] := hl
  refine lv_aload_n hx hb dX1_next_0 rfl (lv_at hl 0 rfl) ?_
  refine sk_get (v := .ref (q 67)) (C := RX1) (T := TX1) (N := 9) hx hb hts inlX1 hown hK hP 0 rfl rfl 1 (Nat.le_of_ble_eq_true rfl) w_2_96 rfl dX1_next_1 ?_
  refine lv_iload_n hx hb dX1_next_4 rfl (lv_at hl 1 rfl) ?_
  refine lv_bipush (v := 10) hx hb dX1_next_5 (by decide) ?_
  refine lv_imul hx hb dX1_next_7 ?_
  refine sk_top (nI (d * 10)) (nmul d 10) ?_
  refine lv_iload_n hx hb dX1_next_8 rfl (lv_at hl 2 rfl) ?_
  refine lv_iadd hx hb dX1_next_9 ?_
  refine sk_top (nI (d * 10 + ah)) (nI_add (d * 10) ah) ?_
  refine va_iald hx hb hK.1 hP 1 0 rfl rfl (vin (d * 10 + ah) 90 (by omega) (Nat.le_of_ble_eq_true rfl)) dX1_next_10 ?_
  refine lv_topi (fun v_1 ev_1 => ?_)
  refine lv_aload_n hx hb dX1_next_11 rfl (lv_at hl 0 rfl) ?_
  refine sk_get (v := .ref (q 68)) (C := RX1) (T := TX1) (N := 9) hx hb hts inlX1 hown hK hP 0 rfl rfl 2 (Nat.le_of_ble_eq_true rfl) w_2_97 rfl dX1_next_12 ?_
  refine lv_iload_n hx hb dX1_next_15 rfl (lv_at hl 1 rfl) ?_
  refine va_iald hx hb hK.1 hP 2 0 rfl rfl (vin d 9 (by omega) (Nat.le_of_ble_eq_true rfl)) dX1_next_16 ?_
  refine lv_topi (fun v_2 ev_2 => ?_)
  refine lv_iand hx hb dX1_next_17 ?_
  refine lv_topi (fun v_3 ev_3 => ?_)
  refine lv_aload_n hx hb dX1_next_18 rfl (lv_at hl 0 rfl) ?_
  refine sk_get (v := .ref (q 69)) (C := RX1) (T := TX1) (N := 9) hx hb hts inlX1 hown hK hP 0 rfl rfl 3 (Nat.le_of_ble_eq_true rfl) w_2_98 rfl dX1_next_19 ?_
  refine lv_iload_n hx hb dX1_next_22 rfl (lv_at hl 1 rfl) ?_
  refine lv_iconst (v := 1) hx hb dX1_next_23 ic_1 ?_
  refine lv_iadd hx hb dX1_next_24 ?_
  refine sk_top (nI (d + 1)) (nI_add d 1) ?_
  refine va_iald hx hb hK.1 hP 3 0 rfl rfl (vin (d + 1) 10 (by omega) (Nat.le_of_ble_eq_true rfl)) dX1_next_25 ?_
  refine lv_topi (fun v_4 ev_4 => ?_)
  refine lv_iand hx hb dX1_next_26 ?_
  refine lv_topi (fun v_5 ev_5 => ?_)
  exact sk_iret hx hb hr rfl hlocks hK hP hD hS rfl (Nat.le_of_ble_eq_true rfl) (Nat.le_of_ble_eq_true rfl) dX1_next_27
theorem dg_X1_allowOnly_0_0 : bqL cX1_allowOnly 0 [(0, [42]), (1, [180, 0, 15]), (4, [27]), (5, [92]), (6, [46]), (7, [28]), (8, [126]), (9, [79]), (10, [177])] = true := by decide +kernel
theorem dX1_allowOnly_0 : decode cX1_allowOnly 0 = .ok (.aload_n 0, 1) := q_aload_n0 (bat_get dg_X1_allowOnly_0_0 0 rfl rfl)
theorem dX1_allowOnly_1 : decode cX1_allowOnly 1 = .ok (.getfield 15, 3) := q_getfield (bat_get dg_X1_allowOnly_0_0 1 rfl rfl) rfl
theorem dX1_allowOnly_4 : decode cX1_allowOnly 4 = .ok (.iload_n 1, 1) := q_iload_n1 (bat_get dg_X1_allowOnly_0_0 2 rfl rfl)
theorem dX1_allowOnly_5 : decode cX1_allowOnly 5 = .ok (.dup2, 1) := q_dup2 (bat_get dg_X1_allowOnly_0_0 3 rfl rfl)
theorem dX1_allowOnly_6 : decode cX1_allowOnly 6 = .ok (.iaload, 1) := q_iaload (bat_get dg_X1_allowOnly_0_0 4 rfl rfl)
theorem dX1_allowOnly_7 : decode cX1_allowOnly 7 = .ok (.iload_n 2, 1) := q_iload_n2 (bat_get dg_X1_allowOnly_0_0 5 rfl rfl)
theorem dX1_allowOnly_8 : decode cX1_allowOnly 8 = .ok (.iand, 1) := q_iand (bat_get dg_X1_allowOnly_0_0 6 rfl rfl)
theorem dX1_allowOnly_9 : decode cX1_allowOnly 9 = .ok (.iastore, 1) := q_iastore (bat_get dg_X1_allowOnly_0_0 7 rfl rfl)
theorem dX1_allowOnly_10 : decode cX1_allowOnly 10 = .ok (.return_, 1) := q_return_ (bat_get dg_X1_allowOnly_0_0 8 rfl rfl)
theorem w_4_201 : (Cond.code yX1_allowOnly cX1_allowOnly 3 none) ∈ wsL_law := sk_mem (ck_4 _ (List.mem_of_getElem? (i := 201) rfl)) rfl
set_option maxHeartbeats 4000000 in
set_option maxRecDepth 100000 in
theorem c_allowOnly (l : Launch) (D : va_G) (cI cJ cC cZ cS : ClassId) (q : Nat → Nat) (gd : Nat) (gs : Nat) (e2 : Nat → Int32) (d : Nat) (o : Int32) (hd : d < 9) : skM l yX1_allowOnly cX1_allowOnly 3 none 0 0 0 0 D (skT cI cJ cC cZ cS) [.ref (q 11), .int (nI d), .int o] [ro_rrrrrrrnn (q 11) 1 (q 10) (q 67) (q 68) (q 69) (q 70) (q 71) (q 72) gd gs, ra_I (q 68) cI 9 e2] (skV D (skT cI cJ cC cZ cS) (fun (u : va_W) => ∃ (g2 : Nat → Int32), u = [ro_rrrrrrrnn (q 11) 1 (q 10) (q 67) (q 68) (q 69) (q 70) (q 71) (q 72) gd gs, ra_I (q 68) cI 9 g2])) := by
  refine skM_of pf_X1_allowOnly (Nat.le_of_ble_eq_true rfl) ?_
  intro p e s m below meth c A ls E hP hD hl
  refine skE_el E (fun hx hb hr hml hlocks hin hown hts hK hA => ?_)
  have hown : s.vm.findClass RX1 = some m.cls := hown
  have hS : va_S A s.heap s.heap [] := va_S.rf
  have hl : lv_has ls 3 [(0, .ref (q 11)), (1, .int (nI d)), (2, .int o)] := hl
  refine lv_aload_n hx hb dX1_allowOnly_0 rfl (lv_at hl 0 rfl) ?_
  refine sk_get (v := .ref (q 68)) (C := RX1) (T := TX1) (N := 9) hx hb hts inlX1 hown hK hP 0 rfl rfl 2 (Nat.le_of_ble_eq_true rfl) w_2_97 rfl dX1_allowOnly_1 ?_
  refine lv_iload_n hx hb dX1_allowOnly_4 rfl (lv_at hl 1 rfl) ?_
  refine lv_dup2_11 hx hb dX1_allowOnly_5 rfl rfl ?_
  refine va_iald hx hb hK.1 hP 1 0 rfl rfl (vin d 9 (by omega) (Nat.le_of_ble_eq_true rfl)) dX1_allowOnly_6 ?_
  refine lv_topi (fun v_1 ev_1 => ?_)
  refine lv_iload_n hx hb dX1_allowOnly_7 rfl (lv_at hl 2 rfl) ?_
  refine lv_iand hx hb dX1_allowOnly_8 ?_
  refine lv_topi (fun v_2 ev_2 => ?_)
  refine sk_iastO (ws' := fun f_3 => [ro_rrrrrrrnn (q 11) 1 (q 10) (q 67) (q 68) (q 69) (q 70) (q 71) (q 72) gd gs, ra_I (q 68) cI 9 f_3]) hx hb hK hP hD hS 1 0 rfl rfl (vin d 9 (by omega) (Nat.le_of_ble_eq_true rfl)) (fun _ => rfl) dX1_allowOnly_9 (fun f_3 H locs hP hD hS => ?_)
  exact sk_vret hx hb hr hlocks hK hP hD hS (⟨f_3, rfl⟩) (Nat.le_of_ble_eq_true rfl) (Nat.le_of_ble_eq_true rfl) dX1_allowOnly_10
theorem dg_X1_lay_0_0 : bqL cX1_lay 0 [(0, [42]), (1, [43]), (2, [180, 0, 42]), (5, [181, 0, 31]), (8, [42]), (9, [43]), (10, [180, 0, 45]), (13, [181, 0, 35]), (16, [42]), (17, [180, 0, 15]), (20, [17, 3, 255]), (23, [184, 0, 48]), (26, [3]), (27, [54, 4]), (29, [21, 4]), (31, [42]), (32, [180, 0, 31]), (35, [162, 0, 115]), (150, [177]), (53, [54, 5]), (55, [3]), (56, [54, 6]), (58, [21, 6]), (60, [16, 10]), (62, [162, 0, 82]), (144, [132, 4, 1]), (147, [167, 255, 138]), (65, [21, 4]), (67, [16, 10]), (69, [104]), (70, [21, 6]), (72, [96]), (73, [54, 7]), (75, [21, 5]), (77, [153, 0, 25]), (102, [42]), (103, [180, 0, 9]), (106, [21, 7]), (108, [29]), (109, [154, 0, 16])] = true := by decide +kernel
theorem dX1_lay_0 : decode cX1_lay 0 = .ok (.aload_n 0, 1) := q_aload_n0 (bat_get dg_X1_lay_0_0 0 rfl rfl)
theorem dX1_lay_1 : decode cX1_lay 1 = .ok (.aload_n 1, 1) := q_aload_n1 (bat_get dg_X1_lay_0_0 1 rfl rfl)
theorem dX1_lay_2 : decode cX1_lay 2 = .ok (.getfield 42, 3) := q_getfield (bat_get dg_X1_lay_0_0 2 rfl rfl) rfl
theorem dX1_lay_5 : decode cX1_lay 5 = .ok (.putfield 31, 3) := q_putfield (bat_get dg_X1_lay_0_0 3 rfl rfl) rfl
theorem dX1_lay_8 : decode cX1_lay 8 = .ok (.aload_n 0, 1) := q_aload_n0 (bat_get dg_X1_lay_0_0 4 rfl rfl)
theorem dX1_lay_9 : decode cX1_lay 9 = .ok (.aload_n 1, 1) := q_aload_n1 (bat_get dg_X1_lay_0_0 5 rfl rfl)
theorem dX1_lay_10 : decode cX1_lay 10 = .ok (.getfield 45, 3) := q_getfield (bat_get dg_X1_lay_0_0 6 rfl rfl) rfl
theorem dX1_lay_13 : decode cX1_lay 13 = .ok (.putfield 35, 3) := q_putfield (bat_get dg_X1_lay_0_0 7 rfl rfl) rfl
theorem dX1_lay_16 : decode cX1_lay 16 = .ok (.aload_n 0, 1) := q_aload_n0 (bat_get dg_X1_lay_0_0 8 rfl rfl)
theorem dX1_lay_17 : decode cX1_lay 17 = .ok (.getfield 15, 3) := q_getfield (bat_get dg_X1_lay_0_0 9 rfl rfl) rfl
theorem dX1_lay_20 : decode cX1_lay 20 = .ok (.sipush 1023, 3) := q_sipush (bat_get dg_X1_lay_0_0 10 rfl rfl) rfl
theorem dX1_lay_23 : decode cX1_lay 23 = .ok (.invokestatic 48, 3) := q_invokestatic (bat_get dg_X1_lay_0_0 11 rfl rfl) rfl
theorem dX1_lay_26 : decode cX1_lay 26 = .ok (.iconst 0, 1) := q_iconst0 (bat_get dg_X1_lay_0_0 12 rfl rfl)
theorem dX1_lay_27 : decode cX1_lay 27 = .ok (.istore 4, 2) := q_istore (bat_get dg_X1_lay_0_0 13 rfl rfl)
theorem dX1_lay_29 : decode cX1_lay 29 = .ok (.iload 4, 2) := q_iload (bat_get dg_X1_lay_0_0 14 rfl rfl)
theorem dX1_lay_31 : decode cX1_lay 31 = .ok (.aload_n 0, 1) := q_aload_n0 (bat_get dg_X1_lay_0_0 15 rfl rfl)
theorem dX1_lay_32 : decode cX1_lay 32 = .ok (.getfield 31, 3) := q_getfield (bat_get dg_X1_lay_0_0 16 rfl rfl) rfl
theorem dX1_lay_35 : decode cX1_lay 35 = .ok (.if_icmp .ge 115, 3) := q_if_icmp_ge (bat_get dg_X1_lay_0_0 17 rfl rfl) rfl
theorem dX1_lay_150 : decode cX1_lay 150 = .ok (.return_, 1) := q_return_ (bat_get dg_X1_lay_0_0 18 rfl rfl)
theorem dX1_lay_53 : decode cX1_lay 53 = .ok (.istore 5, 2) := q_istore (bat_get dg_X1_lay_0_0 19 rfl rfl)
theorem dX1_lay_55 : decode cX1_lay 55 = .ok (.iconst 0, 1) := q_iconst0 (bat_get dg_X1_lay_0_0 20 rfl rfl)
theorem dX1_lay_56 : decode cX1_lay 56 = .ok (.istore 6, 2) := q_istore (bat_get dg_X1_lay_0_0 21 rfl rfl)
theorem dX1_lay_58 : decode cX1_lay 58 = .ok (.iload 6, 2) := q_iload (bat_get dg_X1_lay_0_0 22 rfl rfl)
theorem dX1_lay_60 : decode cX1_lay 60 = .ok (.bipush 10, 2) := q_bipush (bat_get dg_X1_lay_0_0 23 rfl rfl) rfl
theorem dX1_lay_62 : decode cX1_lay 62 = .ok (.if_icmp .ge 82, 3) := q_if_icmp_ge (bat_get dg_X1_lay_0_0 24 rfl rfl) rfl
theorem dX1_lay_144 : decode cX1_lay 144 = .ok (.iinc 4 1, 3) := q_iinc (bat_get dg_X1_lay_0_0 25 rfl rfl) rfl
theorem dX1_lay_147 : decode cX1_lay 147 = .ok (.goto (-118), 3) := q_goto (bat_get dg_X1_lay_0_0 26 rfl rfl) rfl
theorem dX1_lay_65 : decode cX1_lay 65 = .ok (.iload 4, 2) := q_iload (bat_get dg_X1_lay_0_0 27 rfl rfl)
theorem dX1_lay_67 : decode cX1_lay 67 = .ok (.bipush 10, 2) := q_bipush (bat_get dg_X1_lay_0_0 28 rfl rfl) rfl
theorem dX1_lay_69 : decode cX1_lay 69 = .ok (.imul, 1) := q_imul (bat_get dg_X1_lay_0_0 29 rfl rfl)
theorem dX1_lay_70 : decode cX1_lay 70 = .ok (.iload 6, 2) := q_iload (bat_get dg_X1_lay_0_0 30 rfl rfl)
theorem dX1_lay_72 : decode cX1_lay 72 = .ok (.iadd, 1) := q_iadd (bat_get dg_X1_lay_0_0 31 rfl rfl)
theorem dX1_lay_73 : decode cX1_lay 73 = .ok (.istore 7, 2) := q_istore (bat_get dg_X1_lay_0_0 32 rfl rfl)
theorem dX1_lay_75 : decode cX1_lay 75 = .ok (.iload 5, 2) := q_iload (bat_get dg_X1_lay_0_0 33 rfl rfl)
theorem dX1_lay_77 : decode cX1_lay 77 = .ok (.ifCond .eq 25, 3) := q_ifCond_eq (bat_get dg_X1_lay_0_0 34 rfl rfl) rfl
theorem dX1_lay_102 : decode cX1_lay 102 = .ok (.aload_n 0, 1) := q_aload_n0 (bat_get dg_X1_lay_0_0 35 rfl rfl)
theorem dX1_lay_103 : decode cX1_lay 103 = .ok (.getfield 9, 3) := q_getfield (bat_get dg_X1_lay_0_0 36 rfl rfl) rfl
theorem dX1_lay_106 : decode cX1_lay 106 = .ok (.iload 7, 2) := q_iload (bat_get dg_X1_lay_0_0 37 rfl rfl)
theorem dX1_lay_108 : decode cX1_lay 108 = .ok (.iload_n 3, 1) := q_iload_n3 (bat_get dg_X1_lay_0_0 38 rfl rfl)
theorem dX1_lay_109 : decode cX1_lay 109 = .ok (.ifCond .ne 16, 3) := q_ifCond_ne (bat_get dg_X1_lay_0_0 39 rfl rfl) rfl
theorem dg_X1_lay_38_125 : bqL cX1_lay 38 [(87, [42]), (88, [180, 0, 38]), (91, [21, 4]), (93, [21, 6]), (95, [29]), (96, [182, 0, 62]), (99, [79]), (100, [132, 6, 1]), (103, [167, 255, 173]), (74, [42]), (75, [180, 0, 38]), (78, [180, 0, 59]), (81, [21, 7]), (83, [46]), (84, [167, 0, 15]), (42, [42]), (43, [180, 0, 9]), (46, [21, 7]), (48, [4]), (49, [42]), (50, [180, 0, 38]), (53, [180, 0, 54]), (56, [21, 7]), (58, [46]), (59, [120]), (60, [79]), (61, [167, 0, 39]), (0, [28]), (1, [21, 4]), (3, [122]), (4, [4]), (5, [126]), (6, [4]), (7, [160, 0, 7]), (14, [3]), (10, [4]), (11, [167, 0, 4])] = true := by decide +kernel
theorem dX1_lay_125 : decode cX1_lay 125 = .ok (.aload_n 0, 1) := q_aload_n0 (bat_get dg_X1_lay_38_125 0 rfl rfl)
theorem dX1_lay_126 : decode cX1_lay 126 = .ok (.getfield 38, 3) := q_getfield (bat_get dg_X1_lay_38_125 1 rfl rfl) rfl
theorem dX1_lay_129 : decode cX1_lay 129 = .ok (.iload 4, 2) := q_iload (bat_get dg_X1_lay_38_125 2 rfl rfl)
theorem dX1_lay_131 : decode cX1_lay 131 = .ok (.iload 6, 2) := q_iload (bat_get dg_X1_lay_38_125 3 rfl rfl)
theorem dX1_lay_133 : decode cX1_lay 133 = .ok (.iload_n 3, 1) := q_iload_n3 (bat_get dg_X1_lay_38_125 4 rfl rfl)
theorem dX1_lay_134 : decode cX1_lay 134 = .ok (.invokevirtual 62, 3) := q_invokevirtual (bat_get dg_X1_lay_38_125 5 rfl rfl) rfl
theorem dX1_lay_137 : decode cX1_lay 137 = .ok (.iastore, 1) := q_iastore (bat_get dg_X1_lay_38_125 6 rfl rfl)
theorem dX1_lay_138 : decode cX1_lay 138 = .ok (.iinc 6 1, 3) := q_iinc (bat_get dg_X1_lay_38_125 7 rfl rfl) rfl
theorem dX1_lay_141 : decode cX1_lay 141 = .ok (.goto (-83), 3) := q_goto (bat_get dg_X1_lay_38_125 8 rfl rfl) rfl
theorem dX1_lay_112 : decode cX1_lay 112 = .ok (.aload_n 0, 1) := q_aload_n0 (bat_get dg_X1_lay_38_125 9 rfl rfl)
theorem dX1_lay_113 : decode cX1_lay 113 = .ok (.getfield 38, 3) := q_getfield (bat_get dg_X1_lay_38_125 10 rfl rfl) rfl
theorem dX1_lay_116 : decode cX1_lay 116 = .ok (.getfield 59, 3) := q_getfield (bat_get dg_X1_lay_38_125 11 rfl rfl) rfl
theorem dX1_lay_119 : decode cX1_lay 119 = .ok (.iload 7, 2) := q_iload (bat_get dg_X1_lay_38_125 12 rfl rfl)
theorem dX1_lay_121 : decode cX1_lay 121 = .ok (.iaload, 1) := q_iaload (bat_get dg_X1_lay_38_125 13 rfl rfl)
theorem dX1_lay_122 : decode cX1_lay 122 = .ok (.goto 15, 3) := q_goto (bat_get dg_X1_lay_38_125 14 rfl rfl) rfl
theorem dX1_lay_80 : decode cX1_lay 80 = .ok (.aload_n 0, 1) := q_aload_n0 (bat_get dg_X1_lay_38_125 15 rfl rfl)
theorem dX1_lay_81 : decode cX1_lay 81 = .ok (.getfield 9, 3) := q_getfield (bat_get dg_X1_lay_38_125 16 rfl rfl) rfl
theorem dX1_lay_84 : decode cX1_lay 84 = .ok (.iload 7, 2) := q_iload (bat_get dg_X1_lay_38_125 17 rfl rfl)
theorem dX1_lay_86 : decode cX1_lay 86 = .ok (.iconst 1, 1) := q_iconst1 (bat_get dg_X1_lay_38_125 18 rfl rfl)
theorem dX1_lay_87 : decode cX1_lay 87 = .ok (.aload_n 0, 1) := q_aload_n0 (bat_get dg_X1_lay_38_125 19 rfl rfl)
theorem dX1_lay_88 : decode cX1_lay 88 = .ok (.getfield 38, 3) := q_getfield (bat_get dg_X1_lay_38_125 20 rfl rfl) rfl
theorem dX1_lay_91 : decode cX1_lay 91 = .ok (.getfield 54, 3) := q_getfield (bat_get dg_X1_lay_38_125 21 rfl rfl) rfl
theorem dX1_lay_94 : decode cX1_lay 94 = .ok (.iload 7, 2) := q_iload (bat_get dg_X1_lay_38_125 22 rfl rfl)
theorem dX1_lay_96 : decode cX1_lay 96 = .ok (.iaload, 1) := q_iaload (bat_get dg_X1_lay_38_125 23 rfl rfl)
theorem dX1_lay_97 : decode cX1_lay 97 = .ok (.ishl, 1) := q_ishl (bat_get dg_X1_lay_38_125 24 rfl rfl)
theorem dX1_lay_98 : decode cX1_lay 98 = .ok (.iastore, 1) := q_iastore (bat_get dg_X1_lay_38_125 25 rfl rfl)
theorem dX1_lay_99 : decode cX1_lay 99 = .ok (.goto 39, 3) := q_goto (bat_get dg_X1_lay_38_125 26 rfl rfl) rfl
theorem dX1_lay_38 : decode cX1_lay 38 = .ok (.iload_n 2, 1) := q_iload_n2 (bat_get dg_X1_lay_38_125 27 rfl rfl)
theorem dX1_lay_39 : decode cX1_lay 39 = .ok (.iload 4, 2) := q_iload (bat_get dg_X1_lay_38_125 28 rfl rfl)
theorem dX1_lay_41 : decode cX1_lay 41 = .ok (.ishr, 1) := q_ishr (bat_get dg_X1_lay_38_125 29 rfl rfl)
theorem dX1_lay_42 : decode cX1_lay 42 = .ok (.iconst 1, 1) := q_iconst1 (bat_get dg_X1_lay_38_125 30 rfl rfl)
theorem dX1_lay_43 : decode cX1_lay 43 = .ok (.iand, 1) := q_iand (bat_get dg_X1_lay_38_125 31 rfl rfl)
theorem dX1_lay_44 : decode cX1_lay 44 = .ok (.iconst 1, 1) := q_iconst1 (bat_get dg_X1_lay_38_125 32 rfl rfl)
theorem dX1_lay_45 : decode cX1_lay 45 = .ok (.if_icmp .ne 7, 3) := q_if_icmp_ne (bat_get dg_X1_lay_38_125 33 rfl rfl) rfl
theorem dX1_lay_52 : decode cX1_lay 52 = .ok (.iconst 0, 1) := q_iconst0 (bat_get dg_X1_lay_38_125 34 rfl rfl)
theorem dX1_lay_48 : decode cX1_lay 48 = .ok (.iconst 1, 1) := q_iconst1 (bat_get dg_X1_lay_38_125 35 rfl rfl)
theorem dX1_lay_49 : decode cX1_lay 49 = .ok (.goto 4, 3) := q_goto (bat_get dg_X1_lay_38_125 36 rfl rfl) rfl
theorem w_1_239 : (Cond.fieldLink RX1 42 "SameKeeper$State" "days" "I") ∈ wsL_law := sk_mem (ck_1 _ (List.mem_of_getElem? (i := 239) rfl)) rfl
theorem w_2_102 : (Cond.fieldLink RX1 31 "SameKeeper$Graph" "days" "I") ∈ wsL_law := sk_mem (ck_2 _ (List.mem_of_getElem? (i := 102) rfl)) rfl
theorem w_2_9 : (Cond.fieldLink RX1 45 "SameKeeper$State" "mood" "I") ∈ wsL_law := sk_mem (ck_2 _ (List.mem_of_getElem? (i := 9) rfl)) rfl
theorem w_2_103 : (Cond.fieldLink RX1 35 "SameKeeper$Graph" "start" "I") ∈ wsL_law := sk_mem (ck_2 _ (List.mem_of_getElem? (i := 103) rfl)) rfl
theorem w_4_51 : (Cond.methodLink RX1 48 yJ7_fill_53178) ∈ wsL_law := sk_mem (ck_4 _ (List.mem_of_getElem? (i := 51) rfl)) rfl
theorem w_2_95 : (Cond.fieldLink RX1 38 "SameKeeper$Graph" "table" "LSameKeeper$Table;") ∈ wsL_law := sk_mem (ck_2 _ (List.mem_of_getElem? (i := 95) rfl)) rfl
theorem w_4_52 : (Cond.methodLink RX1 62 yX9_moodsBehind) ∈ wsL_law := sk_mem (ck_4 _ (List.mem_of_getElem? (i := 52) rfl)) rfl
theorem w_2_71 : (Cond.fieldLink RX1 59 "SameKeeper$Table" "open" "[I") ∈ wsL_law := sk_mem (ck_2 _ (List.mem_of_getElem? (i := 71) rfl)) rfl
theorem w_2_68 : (Cond.fieldLink RX1 54 "SameKeeper$Table" "alone" "[I") ∈ wsL_law := sk_mem (ck_2 _ (List.mem_of_getElem? (i := 68) rfl)) rfl
theorem w_4_50 : (Cond.code yX1_lay cX1_lay 8 none) ∈ wsL_law := sk_mem (ck_4 _ (List.mem_of_getElem? (i := 50) rfl)) rfl
def om_9_40 : List Bool := false :: false :: true :: false :: false :: false :: false :: false :: false :: []
def om_9_38 : List Bool := false :: false :: false :: true :: true :: true :: false :: false :: false :: []
set_option maxHeartbeats 4000000 in
set_option maxRecDepth 100000 in
theorem c_lay (l : Launch) (D : va_G) (cI cJ cC cZ cS : ClassId) (q : Nat → Nat) (gd : Nat) (gs : Nat) (e1 : Nat → Int32) (e2 : Nat → Int32) (sa : Nat → Nat) (ft : Nat → Int32) (fa : Nat → Int32) (fo : Nat → Int32) (o0 : Nat) (o1 : Nat) (o2 : Nat) (dy : Nat) (mo : Nat) (wk : Int32) (mu : Int32) (ke : Int32) (fb : Nat → Int32) (fw : Nat → Int32) (li : Nat) (o : Int32) (hsa : ∀ j, sa j ≤ 9) (hdy : dy ≤ 9) (hmo : mo ≤ 9) (hli : li < 10) : skM l yX1_lay cX1_lay 8 none 1 26 0 0 D (skT cI cJ cC cZ cS) [.ref (q 11), .ref o0, .int o, .int (nI li)] [ro_rrrrrrrnn (q 11) 1 (q 10) (q 67) (q 68) (q 69) (q 70) (q 71) (q 72) gd gs, ra_I (q 67) cI 90 e1, ra_I (q 68) cI 9 e2, ro_rrrrrr (q 10) 9 (q 61) (q 62) (q 63) (q 64) (q 65) (q 66), ra_N (q 61) cI 90 sa, ra_I (q 62) cI 900 ft, ra_I (q 63) cI 90 fa, ra_I (q 64) cI 90 fo, ro_rrninii o0 7 o1 o2 dy wk mo mu ke] (skV D (skT cI cJ cC cZ cS) (fun (u : va_W) => ∃ (g1 : Nat → Int32), ∃ (g2 : Nat → Int32), u = [ro_rrrrrrrnn (q 11) 1 (q 10) (q 67) (q 68) (q 69) (q 70) (q 71) (q 72) dy mo, ra_I (q 67) cI 90 g1, ra_I (q 68) cI 9 g2, ro_rrrrrr (q 10) 9 (q 61) (q 62) (q 63) (q 64) (q 65) (q 66), ra_N (q 61) cI 90 sa, ra_I (q 62) cI 900 ft, ra_I (q 63) cI 90 fa, ra_I (q 64) cI 90 fo, ro_rrninii o0 7 o1 o2 dy wk mo mu ke])) := by
  refine skM_of pf_X1_lay (Nat.le_of_ble_eq_true rfl) ?_
  intro p e s m below meth c A ls E hP hD hl
  refine skE_el E (fun hx hb hr hml hlocks hin hown hts hK hA => ?_)
  have hown : s.vm.findClass RX1 = some m.cls := hown
  have hS : va_S A s.heap s.heap [] := va_S.rf
  have hl : lv_has ls 8 [(0, .ref (q 11)), (1, .ref o0), (2, .int o), (3, .int (nI li))] := hl
  refine lv_aload_n hx hb dX1_lay_0 rfl (lv_at hl 0 rfl) ?_
  refine lv_aload_n hx hb dX1_lay_1 rfl (lv_at hl 1 rfl) ?_
  refine sk_get (v := .int (nI dy)) (C := RX7) (T := TX7) (N := 7) hx hb hts inlX7 hown hK hP 8 rfl rfl 2 (Nat.le_of_ble_eq_true rfl) w_1_239 rfl dX1_lay_2 ?_
  refine sk_put (ws' := [ro_rrrrrrrnn (q 11) 1 (q 10) (q 67) (q 68) (q 69) (q 70) (q 71) (q 72) dy gs, ra_I (q 67) cI 90 e1, ra_I (q 68) cI 9 e2, ro_rrrrrr (q 10) 9 (q 61) (q 62) (q 63) (q 64) (q 65) (q 66), ra_N (q 61) cI 90 sa, ra_I (q 62) cI 900 ft, ra_I (q 63) cI 90 fa, ra_I (q 64) cI 90 fo, ro_rrninii o0 7 o1 o2 dy wk mo mu ke]) (C := RX1) (T := TX1) (N := 9) (v := .int (nI dy)) hx hb hts inlX1 tyX1 tyX1_ok nmX1 hown hK hP hD hS 0 rfl rfl 7 (Nat.le_of_ble_eq_true rfl) w_2_102 rfl rfl rfl (Nat.le_of_ble_eq_true rfl) rfl dX1_lay_5 (fun H locs hP hD hS => ?_)
  refine lv_aload_n hx hb dX1_lay_8 rfl (lv_at hl 0 rfl) ?_
  refine lv_aload_n hx hb dX1_lay_9 rfl (lv_at hl 1 rfl) ?_
  refine sk_get (v := .int (nI mo)) (C := RX7) (T := TX7) (N := 7) hx hb hts inlX7 hown hK hP 8 rfl rfl 4 (Nat.le_of_ble_eq_true rfl) w_2_9 rfl dX1_lay_10 ?_
  refine sk_put (ws' := [ro_rrrrrrrnn (q 11) 1 (q 10) (q 67) (q 68) (q 69) (q 70) (q 71) (q 72) dy mo, ra_I (q 67) cI 90 e1, ra_I (q 68) cI 9 e2, ro_rrrrrr (q 10) 9 (q 61) (q 62) (q 63) (q 64) (q 65) (q 66), ra_N (q 61) cI 90 sa, ra_I (q 62) cI 900 ft, ra_I (q 63) cI 90 fa, ra_I (q 64) cI 90 fo, ro_rrninii o0 7 o1 o2 dy wk mo mu ke]) (C := RX1) (T := TX1) (N := 9) (v := .int (nI mo)) hx hb hts inlX1 tyX1 tyX1_ok nmX1 hown hK hP hD hS 0 rfl rfl 8 (Nat.le_of_ble_eq_true rfl) w_2_103 rfl rfl rfl (Nat.le_of_ble_eq_true rfl) rfl dX1_lay_13 (fun H locs hP hD hS => ?_)
  refine lv_aload_n hx hb dX1_lay_16 rfl (lv_at hl 0 rfl) ?_
  refine sk_get (v := .ref (q 68)) (C := RX1) (T := TX1) (N := 9) hx hb hts inlX1 hown hK hP 0 rfl rfl 2 (Nat.le_of_ble_eq_true rfl) w_2_97 rfl dX1_lay_17 ?_
  refine lv_sipush (v := 1023) hx hb dX1_lay_20 (by decide) ?_
  refine sk_Sv (n := 2) (rest := []) (wr := fmR om_9_40 _) ⟨hx, hb, hml, hown, hts⟩ hl.1 (c_fill l D cI cJ cC cZ cS (q 68) 9 e2 1023 (by omega)) w_4_51 w_2_219 w_1_15 w_2_220 hd_J7_fill_53178_2 ⟨⟨(Nat.le_of_ble_eq_true rfl), (Nat.le_of_ble_eq_true rfl)⟩, (Nat.le_of_ble_eq_true rfl), (Nat.le_of_ble_eq_true rfl)⟩ hK hP hD hS hA (fmT om_9_40 0) (fmF om_9_40 0) (fm_C1 rfl rfl) (fm_R rfl rfl) (fm_nT om_9_40 0) (fm_nF om_9_40 0) (fm_di om_9_40 0) rfl rfl (Nat.le_of_ble_eq_true rfl) dX1_lay_23 (fun u H locs hw hP hD hS => ?_)
  refine exE hw (fun g_1 eu_2 => ?_)
  clear hw
  refine o_mgE (ws' := [ro_rrrrrrrnn (q 11) 1 (q 10) (q 67) (q 68) (q 69) (q 70) (q 71) (q 72) dy mo, ra_I (q 67) cI 90 e1, ra_I (q 68) cI 9 g_1, ro_rrrrrr (q 10) 9 (q 61) (q 62) (q 63) (q 64) (q 65) (q 66), ra_N (q 61) cI 90 sa, ra_I (q 62) cI 900 ft, ra_I (q 63) cI 90 fa, ra_I (q 64) cI 90 fo, ro_rrninii o0 7 o1 o2 dy wk mo mu ke]) eu_2 hP hD rfl (fun hP hD => ?_)
  refine lv_iconst (v := 0) hx hb dX1_lay_26 ic_0 ?_
  refine lv_istore (lv' := [(4, .int 0), (0, .ref (q 11)), (1, .ref o0), (2, .int o), (3, .int (nI li))]) hx hb dX1_lay_27 hl (by decide) rfl (fun ls hl => ?_)
  have lp_3 : ∀ (n_4 : Nat) (i : Nat) (a1 : Nat → Int32) (H : Heap) (locs : List Loc) (ls : Array Slot), dy - i < n_4 → (i ≤ dy) → va_P D vwCl [ro_rrrrrrrnn (q 11) 1 (q 10) (q 67) (q 68) (q 69) (q 70) (q 71) (q 72) dy mo, ra_I (q 67) cI 90 a1, ra_I (q 68) cI 9 g_1, ro_rrrrrr (q 10) 9 (q 61) (q 62) (q 63) (q 64) (q 65) (q 66), ra_N (q 61) cI 90 sa, ra_I (q 62) cI 900 ft, ra_I (q 63) cI 90 fa, ra_I (q 64) cI 90 fo, ro_rrninii o0 7 o1 o2 dy wk mo mu ke] H → va_D A [ro_rrrrrrrnn (q 11) 1 (q 10) (q 67) (q 68) (q 69) (q 70) (q 71) (q 72) dy mo, ra_I (q 67) cI 90 a1, ra_I (q 68) cI 9 g_1, ro_rrrrrr (q 10) 9 (q 61) (q 62) (q 63) (q 64) (q 65) (q 66), ra_N (q 61) cI 90 sa, ra_I (q 62) cI 900 ft, ra_I (q 63) cI 90 fa, ra_I (q 64) cI 90 fo, ro_rrninii o0 7 o1 o2 dy wk mo mu ke] → va_S A s.heap H locs → lv_has ls 8 [(4, .int (nI i)), (0, .ref (q 11)), (1, .ref o0), (2, .int o), (3, .int (nI li))] → W p l e { frames := 1, cells := 0, slots := 0, locals := 26 } s m ([.ref (q 11), .ref o0, .int o, .int (nI li)] : List Value).toArray below meth c H locs 0 0 (MQ below (skV D (skT cI cJ cC cZ cS) (fun (u : va_W) => ∃ (g1 : Nat → Int32), ∃ (g2 : Nat → Int32), u = [ro_rrrrrrrnn (q 11) 1 (q 10) (q 67) (q 68) (q 69) (q 70) (q 71) (q 72) dy mo, ra_I (q 67) cI 90 g1, ra_I (q 68) cI 9 g2, ro_rrrrrr (q 10) 9 (q 61) (q 62) (q 63) (q 64) (q 65) (q 66), ra_N (q 61) cI 90 sa, ra_I (q 62) cI 900 ft, ra_I (q 63) cI 90 fa, ra_I (q 64) cI 90 fo, ro_rrninii o0 7 o1 o2 dy wk mo mu ke]) A) ([.ref (q 11), .ref o0, .int o, .int (nI li)] : List Value).toArray s 0 0 A) (F0 m 29 ls []) := by
    intro n_4
    induction n_4 with
    | zero => intro i a1 H locs ls hm; exact absurd hm (Nat.not_lt_zero _)
    | succ n_4 ih_lp_3 =>
      intro i a1 H locs ls hm hi hP hD hS hl
      refine lv_iload hx hb dX1_lay_29 (lv_at hl 0 rfl) ?_
      refine lv_aload_n hx hb dX1_lay_31 rfl (lv_at hl 1 rfl) ?_
      refine sk_get (v := .int (nI dy)) (C := RX1) (T := TX1) (N := 9) hx hb hts inlX1 hown hK hP 0 rfl rfl 7 (Nat.le_of_ble_eq_true rfl) w_2_102 rfl dX1_lay_32 ?_
      refine lv_icmp_ge (tgt := 150) hx hb dX1_lay_35 (by decide) (fun c_5 => ?_) (fun c_5 => ?_)
      · have c_5 : dy ≤ i := (nle dy i (by omega) (by omega)).mp c_5
        exact sk_vret hx hb hr hlocks hK hP hD hS (⟨a1, g_1, rfl⟩) (Nat.le_of_ble_eq_true rfl) (Nat.le_of_ble_eq_true rfl) dX1_lay_150
      · have c_5 : ¬ (dy ≤ i) := fun h => c_5 ((nle dy i (by omega) (by omega)).mpr h)
        have jn_6 : ∀ (bq : Int32) (H : Heap) (locs : List Loc) (ls : Array Slot), va_P D vwCl [ro_rrrrrrrnn (q 11) 1 (q 10) (q 67) (q 68) (q 69) (q 70) (q 71) (q 72) dy mo, ra_I (q 67) cI 90 a1, ra_I (q 68) cI 9 g_1, ro_rrrrrr (q 10) 9 (q 61) (q 62) (q 63) (q 64) (q 65) (q 66), ra_N (q 61) cI 90 sa, ra_I (q 62) cI 900 ft, ra_I (q 63) cI 90 fa, ra_I (q 64) cI 90 fo, ro_rrninii o0 7 o1 o2 dy wk mo mu ke] H → va_D A [ro_rrrrrrrnn (q 11) 1 (q 10) (q 67) (q 68) (q 69) (q 70) (q 71) (q 72) dy mo, ra_I (q 67) cI 90 a1, ra_I (q 68) cI 9 g_1, ro_rrrrrr (q 10) 9 (q 61) (q 62) (q 63) (q 64) (q 65) (q 66), ra_N (q 61) cI 90 sa, ra_I (q 62) cI 900 ft, ra_I (q 63) cI 90 fa, ra_I (q 64) cI 90 fo, ro_rrninii o0 7 o1 o2 dy wk mo mu ke] → va_S A s.heap H locs → lv_has ls 8 [(4, .int (nI i)), (0, .ref (q 11)), (1, .ref o0), (2, .int o), (3, .int (nI li))] → W p l e { frames := 1, cells := 0, slots := 0, locals := 26 } s m ([.ref (q 11), .ref o0, .int o, .int (nI li)] : List Value).toArray below meth c H locs 0 0 (MQ below (skV D (skT cI cJ cC cZ cS) (fun (u : va_W) => ∃ (g1 : Nat → Int32), ∃ (g2 : Nat → Int32), u = [ro_rrrrrrrnn (q 11) 1 (q 10) (q 67) (q 68) (q 69) (q 70) (q 71) (q 72) dy mo, ra_I (q 67) cI 90 g1, ra_I (q 68) cI 9 g2, ro_rrrrrr (q 10) 9 (q 61) (q 62) (q 63) (q 64) (q 65) (q 66), ra_N (q 61) cI 90 sa, ra_I (q 62) cI 900 ft, ra_I (q 63) cI 90 fa, ra_I (q 64) cI 90 fo, ro_rrninii o0 7 o1 o2 dy wk mo mu ke]) A) ([.ref (q 11), .ref o0, .int o, .int (nI li)] : List Value).toArray s 0 0 A) (F0 m 53 ls [.int bq]) := by
          intro bq H locs ls  hP hD hS hl
          refine lv_istore (lv' := [(5, .int bq), (4, .int (nI i)), (0, .ref (q 11)), (1, .ref o0), (2, .int o), (3, .int (nI li))]) hx hb dX1_lay_53 hl (by decide) rfl (fun ls hl => ?_)
          refine lv_iconst (v := 0) hx hb dX1_lay_55 ic_0 ?_
          refine lv_istore (lv' := [(6, .int 0), (5, .int bq), (4, .int (nI i)), (0, .ref (q 11)), (1, .ref o0), (2, .int o), (3, .int (nI li))]) hx hb dX1_lay_56 hl (by decide) rfl (fun ls hl => ?_)
          have lp_7 : ∀ (n_8 : Nat) (jj : Nat) (a2 : Nat → Int32) (H : Heap) (locs : List Loc) (ls : Array Slot), 10 - jj < n_8 → (jj ≤ 10) → va_P D vwCl [ro_rrrrrrrnn (q 11) 1 (q 10) (q 67) (q 68) (q 69) (q 70) (q 71) (q 72) dy mo, ra_I (q 67) cI 90 a2, ra_I (q 68) cI 9 g_1, ro_rrrrrr (q 10) 9 (q 61) (q 62) (q 63) (q 64) (q 65) (q 66), ra_N (q 61) cI 90 sa, ra_I (q 62) cI 900 ft, ra_I (q 63) cI 90 fa, ra_I (q 64) cI 90 fo, ro_rrninii o0 7 o1 o2 dy wk mo mu ke] H → va_D A [ro_rrrrrrrnn (q 11) 1 (q 10) (q 67) (q 68) (q 69) (q 70) (q 71) (q 72) dy mo, ra_I (q 67) cI 90 a2, ra_I (q 68) cI 9 g_1, ro_rrrrrr (q 10) 9 (q 61) (q 62) (q 63) (q 64) (q 65) (q 66), ra_N (q 61) cI 90 sa, ra_I (q 62) cI 900 ft, ra_I (q 63) cI 90 fa, ra_I (q 64) cI 90 fo, ro_rrninii o0 7 o1 o2 dy wk mo mu ke] → va_S A s.heap H locs → lv_has ls 8 [(6, .int (nI jj)), (5, .int bq), (4, .int (nI i)), (0, .ref (q 11)), (1, .ref o0), (2, .int o), (3, .int (nI li))] → W p l e { frames := 1, cells := 0, slots := 0, locals := 26 } s m ([.ref (q 11), .ref o0, .int o, .int (nI li)] : List Value).toArray below meth c H locs 0 0 (MQ below (skV D (skT cI cJ cC cZ cS) (fun (u : va_W) => ∃ (g1 : Nat → Int32), ∃ (g2 : Nat → Int32), u = [ro_rrrrrrrnn (q 11) 1 (q 10) (q 67) (q 68) (q 69) (q 70) (q 71) (q 72) dy mo, ra_I (q 67) cI 90 g1, ra_I (q 68) cI 9 g2, ro_rrrrrr (q 10) 9 (q 61) (q 62) (q 63) (q 64) (q 65) (q 66), ra_N (q 61) cI 90 sa, ra_I (q 62) cI 900 ft, ra_I (q 63) cI 90 fa, ra_I (q 64) cI 90 fo, ro_rrninii o0 7 o1 o2 dy wk mo mu ke]) A) ([.ref (q 11), .ref o0, .int o, .int (nI li)] : List Value).toArray s 0 0 A) (F0 m 58 ls []) := by
            intro n_8
            induction n_8 with
            | zero => intro jj a2 H locs ls hm; exact absurd hm (Nat.not_lt_zero _)
            | succ n_8 ih_lp_7 =>
              intro jj a2 H locs ls hm hjj hP hD hS hl
              refine lv_iload hx hb dX1_lay_58 (lv_at hl 0 rfl) ?_
              refine lv_bipush (v := 10) hx hb dX1_lay_60 (by decide) ?_
              refine lv_icmp_ge (tgt := 144) hx hb dX1_lay_62 (by decide) (fun c_9 => ?_) (fun c_9 => ?_)
              · have c_9 : 10 ≤ jj := (nle 10 jj (Nat.le_of_ble_eq_true rfl) (by omega)).mp c_9
                refine lv_iinc (v := nI (i + 1)) (lv' := [(4, .int (nI (i + 1))), (6, .int (nI jj)), (5, .int bq), (0, .ref (q 11)), (1, .ref o0), (2, .int o), (3, .int (nI li))]) hx hb dX1_lay_144 hl (k := 2) rfl (ninc i 1 (by decide)) (by decide) rfl (fun ls hl => ?_)
                refine lv_goto (tgt := 29) hx hb dX1_lay_147 (by decide) ?_
                exact ih_lp_3 (i + 1) a2 _ _ _ (by omega) (by omega) hP hD hS (lv_sub hl [0, 3, 4, 5, 6] rfl)
              · have c_9 : ¬ (10 ≤ jj) := fun h => c_9 ((nle 10 jj (Nat.le_of_ble_eq_true rfl) (by omega)).mpr h)
                refine lv_iload hx hb dX1_lay_65 (lv_at hl 2 rfl) ?_
                refine lv_bipush (v := 10) hx hb dX1_lay_67 (by decide) ?_
                refine lv_imul hx hb dX1_lay_69 ?_
                refine sk_top (nI (i * 10)) (nmul i 10) ?_
                refine lv_iload hx hb dX1_lay_70 (lv_at hl 0 rfl) ?_
                refine lv_iadd hx hb dX1_lay_72 ?_
                refine sk_top (nI (i * 10 + jj)) (nI_add (i * 10) jj) ?_
                refine lv_istore (lv' := [(7, .int (nI (i * 10 + jj))), (6, .int (nI jj)), (5, .int bq), (4, .int (nI i)), (0, .ref (q 11)), (1, .ref o0), (2, .int o), (3, .int (nI li))]) hx hb dX1_lay_73 hl (by decide) rfl (fun ls hl => ?_)
                refine lv_iload hx hb dX1_lay_75 (lv_at hl 2 rfl) ?_
                refine lv_if_eq (tgt := 102) hx hb dX1_lay_77 (by decide) (fun c_10 => ?_) (fun c_10 => ?_)
                · skip
                  refine lv_aload_n hx hb dX1_lay_102 rfl (lv_at hl 4 rfl) ?_
                  refine sk_get (v := .ref (q 67)) (C := RX1) (T := TX1) (N := 9) hx hb hts inlX1 hown hK hP 0 rfl rfl 1 (Nat.le_of_ble_eq_true rfl) w_2_96 rfl dX1_lay_103 ?_
                  refine lv_iload hx hb dX1_lay_106 (lv_at hl 0 rfl) ?_
                  refine lv_iload_n hx hb dX1_lay_108 rfl (lv_at hl 7 rfl) ?_
                  refine lv_if_ne (tgt := 125) hx hb dX1_lay_109 (by decide) (fun c_11 => ?_) (fun c_11 => ?_)
                  · have c_11 : ¬ (li = 0) := fun h => c_11 ((neq li 0 (by omega) (Nat.le_of_ble_eq_true rfl)).mpr h)
                    refine lv_aload_n hx hb dX1_lay_125 rfl (lv_at hl 4 rfl) ?_
                    refine sk_get (v := .ref (q 10)) (C := RX1) (T := TX1) (N := 9) hx hb hts inlX1 hown hK hP 0 rfl rfl 0 (Nat.le_of_ble_eq_true rfl) w_2_95 rfl dX1_lay_126 ?_
                    refine lv_iload hx hb dX1_lay_129 (lv_at hl 3 rfl) ?_
                    refine lv_iload hx hb dX1_lay_131 (lv_at hl 1 rfl) ?_
                    refine lv_iload_n hx hb dX1_lay_133 rfl (lv_at hl 7 rfl) ?_
                    refine sk_Vi (q0 := 0) (n := 3) (rest := [.int (nI (i * 10 + jj)), .ref (q 67)]) (wr := fmR om_9_38 _) ⟨hx, hb, hml, hown, hts⟩ hl.1 (c_moodsBehind l D cI cJ cC cZ cS q sa ft i jj li hsa (by omega) (by omega) hli) w_4_52 w_4_18 w_4_19 w_1_12 w_4_20 hd_X9_moodsBehind_3 ⟨⟨(Nat.le_of_ble_eq_true rfl), (Nat.le_of_ble_eq_true rfl)⟩, (Nat.le_of_ble_eq_true rfl), (Nat.le_of_ble_eq_true rfl)⟩ hK hP hD hS hA (fmT om_9_38 0) (fmF om_9_38 0) (fm_C1 rfl rfl) (fm_R rfl rfl) (fm_nT om_9_38 0) (fm_nF om_9_38 0) (fm_di om_9_38 0) rfl rfl rfl rfl (Nat.le_of_ble_eq_true rfl) dX1_lay_134 (fun r_12 u H locs hw hP hD hS => ?_)
                    refine o_mgE (ws' := [ro_rrrrrrrnn (q 11) 1 (q 10) (q 67) (q 68) (q 69) (q 70) (q 71) (q 72) dy mo, ra_I (q 67) cI 90 a2, ra_I (q 68) cI 9 g_1, ro_rrrrrr (q 10) 9 (q 61) (q 62) (q 63) (q 64) (q 65) (q 66), ra_N (q 61) cI 90 sa, ra_I (q 62) cI 900 ft, ra_I (q 63) cI 90 fa, ra_I (q 64) cI 90 fo, ro_rrninii o0 7 o1 o2 dy wk mo mu ke]) hw hP hD rfl (fun hP hD => ?_)
                    refine sk_iastO (ws' := fun f_13 => [ro_rrrrrrrnn (q 11) 1 (q 10) (q 67) (q 68) (q 69) (q 70) (q 71) (q 72) dy mo, ra_I (q 67) cI 90 f_13, ra_I (q 68) cI 9 g_1, ro_rrrrrr (q 10) 9 (q 61) (q 62) (q 63) (q 64) (q 65) (q 66), ra_N (q 61) cI 90 sa, ra_I (q 62) cI 900 ft, ra_I (q 63) cI 90 fa, ra_I (q 64) cI 90 fo, ro_rrninii o0 7 o1 o2 dy wk mo mu ke]) hx hb hK hP hD hS 1 0 rfl rfl (vin (i * 10 + jj) 90 (by omega) (Nat.le_of_ble_eq_true rfl)) (fun _ => rfl) dX1_lay_137 (fun f_13 H locs hP hD hS => ?_)
                    refine lv_iinc (v := nI (jj + 1)) (lv' := [(6, .int (nI (jj + 1))), (7, .int (nI (i * 10 + jj))), (5, .int bq), (4, .int (nI i)), (0, .ref (q 11)), (1, .ref o0), (2, .int o), (3, .int (nI li))]) hx hb dX1_lay_138 hl (k := 1) rfl (ninc jj 1 (by decide)) (by decide) rfl (fun ls hl => ?_)
                    refine lv_goto (tgt := 58) hx hb dX1_lay_141 (by decide) ?_
                    exact ih_lp_7 (jj + 1) f_13 _ _ _ (by omega) (by omega) hP hD hS (lv_sub hl [0, 2, 3, 4, 5, 6, 7] rfl)
                  · have c_11 : li = 0 := (neq li 0 (by omega) (Nat.le_of_ble_eq_true rfl)).mp c_11
                    refine lv_aload_n hx hb dX1_lay_112 rfl (lv_at hl 4 rfl) ?_
                    refine sk_get (v := .ref (q 10)) (C := RX1) (T := TX1) (N := 9) hx hb hts inlX1 hown hK hP 0 rfl rfl 0 (Nat.le_of_ble_eq_true rfl) w_2_95 rfl dX1_lay_113 ?_
                    refine sk_get (v := .ref (q 64)) (C := RX9) (T := TX9) (N := 6) hx hb hts inlX9 hown hK hP 3 rfl rfl 3 (Nat.le_of_ble_eq_true rfl) w_2_71 rfl dX1_lay_116 ?_
                    refine lv_iload hx hb dX1_lay_119 (lv_at hl 0 rfl) ?_
                    refine va_iald hx hb hK.1 hP 7 0 rfl rfl (vin (i * 10 + jj) 90 (by omega) (Nat.le_of_ble_eq_true rfl)) dX1_lay_121 ?_
                    refine lv_topi (fun v_14 ev_14 => ?_)
                    refine lv_goto (tgt := 137) hx hb dX1_lay_122 (by decide) ?_
                    refine sk_iastO (ws' := fun f_15 => [ro_rrrrrrrnn (q 11) 1 (q 10) (q 67) (q 68) (q 69) (q 70) (q 71) (q 72) dy mo, ra_I (q 67) cI 90 f_15, ra_I (q 68) cI 9 g_1, ro_rrrrrr (q 10) 9 (q 61) (q 62) (q 63) (q 64) (q 65) (q 66), ra_N (q 61) cI 90 sa, ra_I (q 62) cI 900 ft, ra_I (q 63) cI 90 fa, ra_I (q 64) cI 90 fo, ro_rrninii o0 7 o1 o2 dy wk mo mu ke]) hx hb hK hP hD hS 1 0 rfl rfl (vin (i * 10 + jj) 90 (by omega) (Nat.le_of_ble_eq_true rfl)) (fun _ => rfl) dX1_lay_137 (fun f_15 H locs hP hD hS => ?_)
                    refine lv_iinc (v := nI (jj + 1)) (lv' := [(6, .int (nI (jj + 1))), (7, .int (nI (i * 10 + jj))), (5, .int bq), (4, .int (nI i)), (0, .ref (q 11)), (1, .ref o0), (2, .int o), (3, .int (nI li))]) hx hb dX1_lay_138 hl (k := 1) rfl (ninc jj 1 (by decide)) (by decide) rfl (fun ls hl => ?_)
                    refine lv_goto (tgt := 58) hx hb dX1_lay_141 (by decide) ?_
                    exact ih_lp_7 (jj + 1) f_15 _ _ _ (by omega) (by omega) hP hD hS (lv_sub hl [0, 2, 3, 4, 5, 6, 7] rfl)
                · skip
                  refine lv_aload_n hx hb dX1_lay_80 rfl (lv_at hl 4 rfl) ?_
                  refine sk_get (v := .ref (q 67)) (C := RX1) (T := TX1) (N := 9) hx hb hts inlX1 hown hK hP 0 rfl rfl 1 (Nat.le_of_ble_eq_true rfl) w_2_96 rfl dX1_lay_81 ?_
                  refine lv_iload hx hb dX1_lay_84 (lv_at hl 0 rfl) ?_
                  refine lv_iconst (v := 1) hx hb dX1_lay_86 ic_1 ?_
                  refine lv_aload_n hx hb dX1_lay_87 rfl (lv_at hl 4 rfl) ?_
                  refine sk_get (v := .ref (q 10)) (C := RX1) (T := TX1) (N := 9) hx hb hts inlX1 hown hK hP 0 rfl rfl 0 (Nat.le_of_ble_eq_true rfl) w_2_95 rfl dX1_lay_88 ?_
                  refine sk_get (v := .ref (q 63)) (C := RX9) (T := TX9) (N := 6) hx hb hts inlX9 hown hK hP 3 rfl rfl 2 (Nat.le_of_ble_eq_true rfl) w_2_68 rfl dX1_lay_91 ?_
                  refine lv_iload hx hb dX1_lay_94 (lv_at hl 0 rfl) ?_
                  refine va_iald hx hb hK.1 hP 6 0 rfl rfl (vin (i * 10 + jj) 90 (by omega) (Nat.le_of_ble_eq_true rfl)) dX1_lay_96 ?_
                  refine lv_topi (fun v_16 ev_16 => ?_)
                  refine lv_ishl hx hb dX1_lay_97 ?_
                  refine lv_topi (fun v_17 ev_17 => ?_)
                  refine sk_iastO (ws' := fun f_18 => [ro_rrrrrrrnn (q 11) 1 (q 10) (q 67) (q 68) (q 69) (q 70) (q 71) (q 72) dy mo, ra_I (q 67) cI 90 f_18, ra_I (q 68) cI 9 g_1, ro_rrrrrr (q 10) 9 (q 61) (q 62) (q 63) (q 64) (q 65) (q 66), ra_N (q 61) cI 90 sa, ra_I (q 62) cI 900 ft, ra_I (q 63) cI 90 fa, ra_I (q 64) cI 90 fo, ro_rrninii o0 7 o1 o2 dy wk mo mu ke]) hx hb hK hP hD hS 1 0 rfl rfl (vin (i * 10 + jj) 90 (by omega) (Nat.le_of_ble_eq_true rfl)) (fun _ => rfl) dX1_lay_98 (fun f_18 H locs hP hD hS => ?_)
                  refine lv_goto (tgt := 138) hx hb dX1_lay_99 (by decide) ?_
                  refine lv_iinc (v := nI (jj + 1)) (lv' := [(6, .int (nI (jj + 1))), (7, .int (nI (i * 10 + jj))), (5, .int bq), (4, .int (nI i)), (0, .ref (q 11)), (1, .ref o0), (2, .int o), (3, .int (nI li))]) hx hb dX1_lay_138 hl (k := 1) rfl (ninc jj 1 (by decide)) (by decide) rfl (fun ls hl => ?_)
                  refine lv_goto (tgt := 58) hx hb dX1_lay_141 (by decide) ?_
                  exact ih_lp_7 (jj + 1) f_18 _ _ _ (by omega) (by omega) hP hD hS (lv_sub hl [0, 2, 3, 4, 5, 6, 7] rfl)
          exact lp_7 (10 - 0 + 1) 0 a1 _ _ _ (Nat.lt_succ_self _) (by omega) hP hD hS (lv_sub hl [0, 1, 2, 3, 4, 5, 6] rfl)
        refine lv_iload_n hx hb dX1_lay_38 rfl (lv_at hl 3 rfl) ?_
        refine lv_iload hx hb dX1_lay_39 (lv_at hl 0 rfl) ?_
        refine lv_ishr hx hb dX1_lay_41 ?_
        refine lv_topi (fun v_19 ev_19 => ?_)
        refine lv_iconst (v := 1) hx hb dX1_lay_42 ic_1 ?_
        refine lv_iand hx hb dX1_lay_43 ?_
        refine lv_topi (fun v_20 ev_20 => ?_)
        refine lv_iconst (v := 1) hx hb dX1_lay_44 ic_1 ?_
        refine lv_icmp_ne (tgt := 52) hx hb dX1_lay_45 (by decide) (fun c_21 => ?_) (fun c_21 => ?_)
        · skip
          refine lv_iconst (v := 0) hx hb dX1_lay_52 ic_0 ?_
          exact jn_6 0 _ _ _  hP hD hS (lv_sub hl [0, 1, 2, 3, 4] rfl)
        · skip
          refine lv_iconst (v := 1) hx hb dX1_lay_48 ic_1 ?_
          refine lv_goto (tgt := 53) hx hb dX1_lay_49 (by decide) ?_
          exact jn_6 1 _ _ _  hP hD hS (lv_sub hl [0, 1, 2, 3, 4] rfl)
  exact lp_3 (dy - 0 + 1) 0 e1 _ _ _ (Nat.lt_succ_self _) (by omega) hP hD hS (lv_sub hl [0, 1, 2, 3, 4] rfl)
theorem dg_X1_settle_0_0 : bqL cX1_settle 0 [(0, [42]), (1, [180, 0, 18]), (4, [42]), (5, [180, 0, 31]), (8, [17, 3, 255]), (11, [79]), (12, [42]), (13, [180, 0, 31]), (16, [4]), (17, [100]), (18, [60]), (19, [27]), (20, [155, 0, 47]), (67, [42]), (68, [180, 0, 18]), (71, [3]), (72, [46]), (73, [42]), (74, [180, 0, 35]), (77, [122]), (78, [4]), (79, [126]), (80, [4]), (81, [160, 0, 7]), (88, [3]), (89, [172]), (84, [4]), (85, [167, 0, 4]), (23, [3]), (24, [61]), (25, [3]), (26, [62]), (27, [29]), (28, [16, 10]), (30, [162, 0, 24]), (54, [42]), (55, [180, 0, 18]), (58, [27]), (59, [28]), (60, [79])] = true := by decide +kernel
theorem dX1_settle_0 : decode cX1_settle 0 = .ok (.aload_n 0, 1) := q_aload_n0 (bat_get dg_X1_settle_0_0 0 rfl rfl)
theorem dX1_settle_1 : decode cX1_settle 1 = .ok (.getfield 18, 3) := q_getfield (bat_get dg_X1_settle_0_0 1 rfl rfl) rfl
theorem dX1_settle_4 : decode cX1_settle 4 = .ok (.aload_n 0, 1) := q_aload_n0 (bat_get dg_X1_settle_0_0 2 rfl rfl)
theorem dX1_settle_5 : decode cX1_settle 5 = .ok (.getfield 31, 3) := q_getfield (bat_get dg_X1_settle_0_0 3 rfl rfl) rfl
theorem dX1_settle_8 : decode cX1_settle 8 = .ok (.sipush 1023, 3) := q_sipush (bat_get dg_X1_settle_0_0 4 rfl rfl) rfl
theorem dX1_settle_11 : decode cX1_settle 11 = .ok (.iastore, 1) := q_iastore (bat_get dg_X1_settle_0_0 5 rfl rfl)
theorem dX1_settle_12 : decode cX1_settle 12 = .ok (.aload_n 0, 1) := q_aload_n0 (bat_get dg_X1_settle_0_0 6 rfl rfl)
theorem dX1_settle_13 : decode cX1_settle 13 = .ok (.getfield 31, 3) := q_getfield (bat_get dg_X1_settle_0_0 7 rfl rfl) rfl
theorem dX1_settle_16 : decode cX1_settle 16 = .ok (.iconst 1, 1) := q_iconst1 (bat_get dg_X1_settle_0_0 8 rfl rfl)
theorem dX1_settle_17 : decode cX1_settle 17 = .ok (.isub, 1) := q_isub (bat_get dg_X1_settle_0_0 9 rfl rfl)
theorem dX1_settle_18 : decode cX1_settle 18 = .ok (.istore_n 1, 1) := q_istore_n1 (bat_get dg_X1_settle_0_0 10 rfl rfl)
theorem dX1_settle_19 : decode cX1_settle 19 = .ok (.iload_n 1, 1) := q_iload_n1 (bat_get dg_X1_settle_0_0 11 rfl rfl)
theorem dX1_settle_20 : decode cX1_settle 20 = .ok (.ifCond .lt 47, 3) := q_ifCond_lt (bat_get dg_X1_settle_0_0 12 rfl rfl) rfl
theorem dX1_settle_67 : decode cX1_settle 67 = .ok (.aload_n 0, 1) := q_aload_n0 (bat_get dg_X1_settle_0_0 13 rfl rfl)
theorem dX1_settle_68 : decode cX1_settle 68 = .ok (.getfield 18, 3) := q_getfield (bat_get dg_X1_settle_0_0 14 rfl rfl) rfl
theorem dX1_settle_71 : decode cX1_settle 71 = .ok (.iconst 0, 1) := q_iconst0 (bat_get dg_X1_settle_0_0 15 rfl rfl)
theorem dX1_settle_72 : decode cX1_settle 72 = .ok (.iaload, 1) := q_iaload (bat_get dg_X1_settle_0_0 16 rfl rfl)
theorem dX1_settle_73 : decode cX1_settle 73 = .ok (.aload_n 0, 1) := q_aload_n0 (bat_get dg_X1_settle_0_0 17 rfl rfl)
theorem dX1_settle_74 : decode cX1_settle 74 = .ok (.getfield 35, 3) := q_getfield (bat_get dg_X1_settle_0_0 18 rfl rfl) rfl
theorem dX1_settle_77 : decode cX1_settle 77 = .ok (.ishr, 1) := q_ishr (bat_get dg_X1_settle_0_0 19 rfl rfl)
theorem dX1_settle_78 : decode cX1_settle 78 = .ok (.iconst 1, 1) := q_iconst1 (bat_get dg_X1_settle_0_0 20 rfl rfl)
theorem dX1_settle_79 : decode cX1_settle 79 = .ok (.iand, 1) := q_iand (bat_get dg_X1_settle_0_0 21 rfl rfl)
theorem dX1_settle_80 : decode cX1_settle 80 = .ok (.iconst 1, 1) := q_iconst1 (bat_get dg_X1_settle_0_0 22 rfl rfl)
theorem dX1_settle_81 : decode cX1_settle 81 = .ok (.if_icmp .ne 7, 3) := q_if_icmp_ne (bat_get dg_X1_settle_0_0 23 rfl rfl) rfl
theorem dX1_settle_88 : decode cX1_settle 88 = .ok (.iconst 0, 1) := q_iconst0 (bat_get dg_X1_settle_0_0 24 rfl rfl)
theorem dX1_settle_89 : decode cX1_settle 89 = .ok (.ireturn, 1) := q_ireturn (bat_get dg_X1_settle_0_0 25 rfl rfl)
theorem dX1_settle_84 : decode cX1_settle 84 = .ok (.iconst 1, 1) := q_iconst1 (bat_get dg_X1_settle_0_0 26 rfl rfl)
theorem dX1_settle_85 : decode cX1_settle 85 = .ok (.goto 4, 3) := q_goto (bat_get dg_X1_settle_0_0 27 rfl rfl) rfl
theorem dX1_settle_23 : decode cX1_settle 23 = .ok (.iconst 0, 1) := q_iconst0 (bat_get dg_X1_settle_0_0 28 rfl rfl)
theorem dX1_settle_24 : decode cX1_settle 24 = .ok (.istore_n 2, 1) := q_istore_n2 (bat_get dg_X1_settle_0_0 29 rfl rfl)
theorem dX1_settle_25 : decode cX1_settle 25 = .ok (.iconst 0, 1) := q_iconst0 (bat_get dg_X1_settle_0_0 30 rfl rfl)
theorem dX1_settle_26 : decode cX1_settle 26 = .ok (.istore_n 3, 1) := q_istore_n3 (bat_get dg_X1_settle_0_0 31 rfl rfl)
theorem dX1_settle_27 : decode cX1_settle 27 = .ok (.iload_n 3, 1) := q_iload_n3 (bat_get dg_X1_settle_0_0 32 rfl rfl)
theorem dX1_settle_28 : decode cX1_settle 28 = .ok (.bipush 10, 2) := q_bipush (bat_get dg_X1_settle_0_0 33 rfl rfl) rfl
theorem dX1_settle_30 : decode cX1_settle 30 = .ok (.if_icmp .ge 24, 3) := q_if_icmp_ge (bat_get dg_X1_settle_0_0 34 rfl rfl) rfl
theorem dX1_settle_54 : decode cX1_settle 54 = .ok (.aload_n 0, 1) := q_aload_n0 (bat_get dg_X1_settle_0_0 35 rfl rfl)
theorem dX1_settle_55 : decode cX1_settle 55 = .ok (.getfield 18, 3) := q_getfield (bat_get dg_X1_settle_0_0 36 rfl rfl) rfl
theorem dX1_settle_58 : decode cX1_settle 58 = .ok (.iload_n 1, 1) := q_iload_n1 (bat_get dg_X1_settle_0_0 37 rfl rfl)
theorem dX1_settle_59 : decode cX1_settle 59 = .ok (.iload_n 2, 1) := q_iload_n2 (bat_get dg_X1_settle_0_0 38 rfl rfl)
theorem dX1_settle_60 : decode cX1_settle 60 = .ok (.iastore, 1) := q_iastore (bat_get dg_X1_settle_0_0 39 rfl rfl)
theorem dg_X1_settle_33_61 : bqL cX1_settle 33 [(28, [132, 1, 255]), (31, [167, 255, 211]), (0, [42]), (1, [27]), (2, [29]), (3, [182, 0, 66]), (6, [153, 0, 9]), (15, [132, 3, 1]), (18, [167, 255, 232]), (9, [28]), (10, [4]), (11, [29]), (12, [120]), (13, [128]), (14, [61])] = true := by decide +kernel
theorem dX1_settle_61 : decode cX1_settle 61 = .ok (.iinc 1 (-1), 3) := q_iinc (bat_get dg_X1_settle_33_61 0 rfl rfl) rfl
theorem dX1_settle_64 : decode cX1_settle 64 = .ok (.goto (-45), 3) := q_goto (bat_get dg_X1_settle_33_61 1 rfl rfl) rfl
theorem dX1_settle_33 : decode cX1_settle 33 = .ok (.aload_n 0, 1) := q_aload_n0 (bat_get dg_X1_settle_33_61 2 rfl rfl)
theorem dX1_settle_34 : decode cX1_settle 34 = .ok (.iload_n 1, 1) := q_iload_n1 (bat_get dg_X1_settle_33_61 3 rfl rfl)
theorem dX1_settle_35 : decode cX1_settle 35 = .ok (.iload_n 3, 1) := q_iload_n3 (bat_get dg_X1_settle_33_61 4 rfl rfl)
theorem dX1_settle_36 : decode cX1_settle 36 = .ok (.invokevirtual 66, 3) := q_invokevirtual (bat_get dg_X1_settle_33_61 5 rfl rfl) rfl
theorem dX1_settle_39 : decode cX1_settle 39 = .ok (.ifCond .eq 9, 3) := q_ifCond_eq (bat_get dg_X1_settle_33_61 6 rfl rfl) rfl
theorem dX1_settle_48 : decode cX1_settle 48 = .ok (.iinc 3 1, 3) := q_iinc (bat_get dg_X1_settle_33_61 7 rfl rfl) rfl
theorem dX1_settle_51 : decode cX1_settle 51 = .ok (.goto (-24), 3) := q_goto (bat_get dg_X1_settle_33_61 8 rfl rfl) rfl
theorem dX1_settle_42 : decode cX1_settle 42 = .ok (.iload_n 2, 1) := q_iload_n2 (bat_get dg_X1_settle_33_61 9 rfl rfl)
theorem dX1_settle_43 : decode cX1_settle 43 = .ok (.iconst 1, 1) := q_iconst1 (bat_get dg_X1_settle_33_61 10 rfl rfl)
theorem dX1_settle_44 : decode cX1_settle 44 = .ok (.iload_n 3, 1) := q_iload_n3 (bat_get dg_X1_settle_33_61 11 rfl rfl)
theorem dX1_settle_45 : decode cX1_settle 45 = .ok (.ishl, 1) := q_ishl (bat_get dg_X1_settle_33_61 12 rfl rfl)
theorem dX1_settle_46 : decode cX1_settle 46 = .ok (.ior, 1) := q_ior (bat_get dg_X1_settle_33_61 13 rfl rfl)
theorem dX1_settle_47 : decode cX1_settle 47 = .ok (.istore_n 2, 1) := q_istore_n2 (bat_get dg_X1_settle_33_61 14 rfl rfl)
theorem w_4_57 : (Cond.methodLink RX1 66 yX1_next) ∈ wsL_law := sk_mem (ck_4 _ (List.mem_of_getElem? (i := 57) rfl)) rfl
theorem w_4_59 : (Cond.instanceMethod yX1_next) ∈ wsL_law := sk_mem (ck_4 _ (List.mem_of_getElem? (i := 59) rfl)) rfl
theorem w_0_20 : (Cond.selects RX1 yX1_next yX1_next) ∈ wsL_law := sk_mem (ck_0 _ (List.mem_of_getElem? (i := 20) rfl)) rfl
theorem w_1_13 : (Cond.initialized RX1) ∈ wsL_law := sk_mem (ck_1 _ (List.mem_of_getElem? (i := 13) rfl)) rfl
theorem w_4_56 : (Cond.code yX1_settle cX1_settle 4 (some .boolean)) ∈ wsL_law := sk_mem (ck_4 _ (List.mem_of_getElem? (i := 56) rfl)) rfl
def om_4_f : List Bool := true :: true :: true :: true :: []
theorem hd_X1_next_2 : skD yX1_next 2 := by decide +kernel
set_option maxHeartbeats 4000000 in
set_option maxRecDepth 100000 in
theorem c_settle (l : Launch) (D : va_G) (cI cJ cC cZ cS : ClassId) (q : Nat → Nat) (gd : Nat) (gs : Nat) (e1 : Nat → Int32) (e2 : Nat → Int32) (e3 : Nat → Int32) (hgd : gd ≤ 9) (hgs : gs ≤ 9) : skM l yX1_settle cX1_settle 4 (some .boolean) 1 22 0 0 D (skT cI cJ cC cZ cS) [.ref (q 11)] [ro_rrrrrrrnn (q 11) 1 (q 10) (q 67) (q 68) (q 69) (q 70) (q 71) (q 72) gd gs, ra_I (q 67) cI 90 e1, ra_I (q 68) cI 9 e2, ra_I (q 69) cI 10 e3] (skI D (skT cI cJ cC cZ cS) (fun (r : Int32) (u : va_W) => ∃ (b : Nat), ∃ (g3 : Nat → Int32), b ≤ 1 ∧ r = nI b ∧ u = [ro_rrrrrrrnn (q 11) 1 (q 10) (q 67) (q 68) (q 69) (q 70) (q 71) (q 72) gd gs, ra_I (q 67) cI 90 e1, ra_I (q 68) cI 9 e2, ra_I (q 69) cI 10 g3])) := by
  refine skM_of pf_X1_settle (Nat.le_of_ble_eq_true rfl) ?_
  intro p e s m below meth c A ls E hP hD hl
  refine skE_el E (fun hx hb hr hml hlocks hin hown hts hK hA => ?_)
  have hown : s.vm.findClass RX1 = some m.cls := hown
  have hS : va_S A s.heap s.heap [] := va_S.rf
  have hl : lv_has ls 4 [(0, .ref (q 11))] := hl
  refine lv_aload_n hx hb dX1_settle_0 rfl (lv_at hl 0 rfl) ?_
  refine sk_get (v := .ref (q 69)) (C := RX1) (T := TX1) (N := 9) hx hb hts inlX1 hown hK hP 0 rfl rfl 3 (Nat.le_of_ble_eq_true rfl) w_2_98 rfl dX1_settle_1 ?_
  refine lv_aload_n hx hb dX1_settle_4 rfl (lv_at hl 0 rfl) ?_
  refine sk_get (v := .int (nI gd)) (C := RX1) (T := TX1) (N := 9) hx hb hts inlX1 hown hK hP 0 rfl rfl 7 (Nat.le_of_ble_eq_true rfl) w_2_102 rfl dX1_settle_5 ?_
  refine lv_sipush (v := 1023) hx hb dX1_settle_8 (by decide) ?_
  refine sk_iastO (ws' := fun f_1 => [ro_rrrrrrrnn (q 11) 1 (q 10) (q 67) (q 68) (q 69) (q 70) (q 71) (q 72) gd gs, ra_I (q 67) cI 90 e1, ra_I (q 68) cI 9 e2, ra_I (q 69) cI 10 f_1]) hx hb hK hP hD hS 3 0 rfl rfl (vin gd 10 (by omega) (Nat.le_of_ble_eq_true rfl)) (fun _ => rfl) dX1_settle_11 (fun f_1 H locs hP hD hS => ?_)
  refine lv_aload_n hx hb dX1_settle_12 rfl (lv_at hl 0 rfl) ?_
  refine sk_get (v := .int (nI gd)) (C := RX1) (T := TX1) (N := 9) hx hb hts inlX1 hown hK hP 0 rfl rfl 7 (Nat.le_of_ble_eq_true rfl) w_2_102 rfl dX1_settle_13 ?_
  refine lv_iconst (v := 1) hx hb dX1_settle_16 ic_1 ?_
  refine lv_isub hx hb dX1_settle_17 ?_
  refine lv_istore_n (lv' := [(1, .int (nI gd - 1)), (0, .ref (q 11))]) hx hb dX1_settle_18 rfl hl (by decide) rfl (fun ls hl => ?_)
  have lp_2 : ∀ (n_3 : Nat) (dd : Nat) (a3 : Nat → Int32) (H : Heap) (locs : List Loc) (ls : Array Slot), dd < n_3 → (dd ≤ 9) → va_P D vwCl [ro_rrrrrrrnn (q 11) 1 (q 10) (q 67) (q 68) (q 69) (q 70) (q 71) (q 72) gd gs, ra_I (q 67) cI 90 e1, ra_I (q 68) cI 9 e2, ra_I (q 69) cI 10 a3] H → va_D A [ro_rrrrrrrnn (q 11) 1 (q 10) (q 67) (q 68) (q 69) (q 70) (q 71) (q 72) gd gs, ra_I (q 67) cI 90 e1, ra_I (q 68) cI 9 e2, ra_I (q 69) cI 10 a3] → va_S A s.heap H locs → lv_has ls 4 [(1, .int (nI dd - 1)), (0, .ref (q 11))] → W p l e { frames := 1, cells := 0, slots := 0, locals := 22 } s m ([.ref (q 11)] : List Value).toArray below meth c H locs 0 0 (MQ below (skI D (skT cI cJ cC cZ cS) (fun (r : Int32) (u : va_W) => ∃ (b : Nat), ∃ (g3 : Nat → Int32), b ≤ 1 ∧ r = nI b ∧ u = [ro_rrrrrrrnn (q 11) 1 (q 10) (q 67) (q 68) (q 69) (q 70) (q 71) (q 72) gd gs, ra_I (q 67) cI 90 e1, ra_I (q 68) cI 9 e2, ra_I (q 69) cI 10 g3]) A) ([.ref (q 11)] : List Value).toArray s 0 0 A) (F0 m 19 ls []) := by
    intro n_3
    induction n_3 with
    | zero => intro dd a3 H locs ls hm; exact absurd hm (Nat.not_lt_zero _)
    | succ n_3 ih_lp_2 =>
      intro dd a3 H locs ls hm hdd hP hD hS hl
      refine lv_iload_n hx hb dX1_settle_19 rfl (lv_at hl 0 rfl) ?_
      refine lv_if_lt (tgt := 67) hx hb dX1_settle_20 (by decide) (fun c_4 => ?_) (fun c_4 => ?_)
      · have c_4 : dd = 0 := npm0 dd (by omega) c_4
        refine lv_aload_n hx hb dX1_settle_67 rfl (lv_at hl 1 rfl) ?_
        refine sk_get (v := .ref (q 69)) (C := RX1) (T := TX1) (N := 9) hx hb hts inlX1 hown hK hP 0 rfl rfl 3 (Nat.le_of_ble_eq_true rfl) w_2_98 rfl dX1_settle_68 ?_
        refine lv_iconst (v := 0) hx hb dX1_settle_71 ic_0 ?_
        refine va_iald hx hb hK.1 hP 3 0 rfl rfl (by unfold vp_in; decide) dX1_settle_72 ?_
        refine lv_topi (fun v_5 ev_5 => ?_)
        refine lv_aload_n hx hb dX1_settle_73 rfl (lv_at hl 1 rfl) ?_
        refine sk_get (v := .int (nI gs)) (C := RX1) (T := TX1) (N := 9) hx hb hts inlX1 hown hK hP 0 rfl rfl 8 (Nat.le_of_ble_eq_true rfl) w_2_103 rfl dX1_settle_74 ?_
        refine lv_ishr hx hb dX1_settle_77 ?_
        refine lv_topi (fun v_6 ev_6 => ?_)
        refine lv_iconst (v := 1) hx hb dX1_settle_78 ic_1 ?_
        refine lv_iand hx hb dX1_settle_79 ?_
        refine lv_topi (fun v_7 ev_7 => ?_)
        refine lv_iconst (v := 1) hx hb dX1_settle_80 ic_1 ?_
        refine lv_icmp_ne (tgt := 88) hx hb dX1_settle_81 (by decide) (fun c_8 => ?_) (fun c_8 => ?_)
        · skip
          refine lv_iconst (v := 0) hx hb dX1_settle_88 ic_0 ?_
          exact sk_iret hx hb hr rfl hlocks hK hP hD hS (⟨0, a3, by omega, rfl, rfl⟩) (Nat.le_of_ble_eq_true rfl) (Nat.le_of_ble_eq_true rfl) dX1_settle_89
        · skip
          refine lv_iconst (v := 1) hx hb dX1_settle_84 ic_1 ?_
          refine lv_goto (tgt := 89) hx hb dX1_settle_85 (by decide) ?_
          exact sk_iret hx hb hr rfl hlocks hK hP hD hS (⟨1, a3, by omega, rfl, rfl⟩) (Nat.le_of_ble_eq_true rfl) (Nat.le_of_ble_eq_true rfl) dX1_settle_89
      · have c_4 : 1 ≤ dd := npm1 dd c_4
        rw [npred dd (by omega)] at hl
        refine lv_iconst (v := 0) hx hb dX1_settle_23 ic_0 ?_
        refine lv_istore_n (lv' := [(2, .int 0), (1, .int (nI (dd - 1))), (0, .ref (q 11))]) hx hb dX1_settle_24 rfl hl (by decide) rfl (fun ls hl => ?_)
        refine lv_iconst (v := 0) hx hb dX1_settle_25 ic_0 ?_
        refine lv_istore_n (lv' := [(3, .int 0), (2, .int 0), (1, .int (nI (dd - 1))), (0, .ref (q 11))]) hx hb dX1_settle_26 rfl hl (by decide) rfl (fun ls hl => ?_)
        have lp_9 : ∀ (n_10 : Nat) (i : Nat) (al : Int32) (H : Heap) (locs : List Loc) (ls : Array Slot), 10 - i < n_10 → (i ≤ 10) → va_P D vwCl [ro_rrrrrrrnn (q 11) 1 (q 10) (q 67) (q 68) (q 69) (q 70) (q 71) (q 72) gd gs, ra_I (q 67) cI 90 e1, ra_I (q 68) cI 9 e2, ra_I (q 69) cI 10 a3] H → va_D A [ro_rrrrrrrnn (q 11) 1 (q 10) (q 67) (q 68) (q 69) (q 70) (q 71) (q 72) gd gs, ra_I (q 67) cI 90 e1, ra_I (q 68) cI 9 e2, ra_I (q 69) cI 10 a3] → va_S A s.heap H locs → lv_has ls 4 [(3, .int (nI i)), (2, .int al), (1, .int (nI (dd - 1))), (0, .ref (q 11))] → W p l e { frames := 1, cells := 0, slots := 0, locals := 22 } s m ([.ref (q 11)] : List Value).toArray below meth c H locs 0 0 (MQ below (skI D (skT cI cJ cC cZ cS) (fun (r : Int32) (u : va_W) => ∃ (b : Nat), ∃ (g3 : Nat → Int32), b ≤ 1 ∧ r = nI b ∧ u = [ro_rrrrrrrnn (q 11) 1 (q 10) (q 67) (q 68) (q 69) (q 70) (q 71) (q 72) gd gs, ra_I (q 67) cI 90 e1, ra_I (q 68) cI 9 e2, ra_I (q 69) cI 10 g3]) A) ([.ref (q 11)] : List Value).toArray s 0 0 A) (F0 m 27 ls []) := by
          intro n_10
          induction n_10 with
          | zero => intro i al H locs ls hm; exact absurd hm (Nat.not_lt_zero _)
          | succ n_10 ih_lp_9 =>
            intro i al H locs ls hm hi hP hD hS hl
            refine lv_iload_n hx hb dX1_settle_27 rfl (lv_at hl 0 rfl) ?_
            refine lv_bipush (v := 10) hx hb dX1_settle_28 (by decide) ?_
            refine lv_icmp_ge (tgt := 54) hx hb dX1_settle_30 (by decide) (fun c_11 => ?_) (fun c_11 => ?_)
            · have c_11 : 10 ≤ i := (nle 10 i (Nat.le_of_ble_eq_true rfl) (by omega)).mp c_11
              refine lv_aload_n hx hb dX1_settle_54 rfl (lv_at hl 3 rfl) ?_
              refine sk_get (v := .ref (q 69)) (C := RX1) (T := TX1) (N := 9) hx hb hts inlX1 hown hK hP 0 rfl rfl 3 (Nat.le_of_ble_eq_true rfl) w_2_98 rfl dX1_settle_55 ?_
              refine lv_iload_n hx hb dX1_settle_58 rfl (lv_at hl 2 rfl) ?_
              refine lv_iload_n hx hb dX1_settle_59 rfl (lv_at hl 1 rfl) ?_
              refine sk_iastO (ws' := fun f_12 => [ro_rrrrrrrnn (q 11) 1 (q 10) (q 67) (q 68) (q 69) (q 70) (q 71) (q 72) gd gs, ra_I (q 67) cI 90 e1, ra_I (q 68) cI 9 e2, ra_I (q 69) cI 10 f_12]) hx hb hK hP hD hS 3 0 rfl rfl (vin (dd - 1) 10 (by omega) (Nat.le_of_ble_eq_true rfl)) (fun _ => rfl) dX1_settle_60 (fun f_12 H locs hP hD hS => ?_)
              refine lv_iinc (v := nI (dd - 1) - 1) (lv' := [(1, .int (nI (dd - 1) - 1)), (3, .int (nI i)), (2, .int al), (0, .ref (q 11))]) hx hb dX1_settle_61 hl (k := 2) rfl (ndn _) (by decide) rfl (fun ls hl => ?_)
              refine lv_goto (tgt := 19) hx hb dX1_settle_64 (by decide) ?_
              exact ih_lp_2 (dd - 1) f_12 _ _ _ (by omega) (by omega) hP hD hS (lv_sub hl [0, 3] rfl)
            · have c_11 : ¬ (10 ≤ i) := fun h => c_11 ((nle 10 i (Nat.le_of_ble_eq_true rfl) (by omega)).mpr h)
              refine lv_aload_n hx hb dX1_settle_33 rfl (lv_at hl 3 rfl) ?_
              refine lv_iload_n hx hb dX1_settle_34 rfl (lv_at hl 2 rfl) ?_
              refine lv_iload_n hx hb dX1_settle_35 rfl (lv_at hl 0 rfl) ?_
              refine sk_Vi (q0 := 0) (n := 2) (rest := []) (wr := fmR om_4_f _) ⟨hx, hb, hml, hown, hts⟩ hl.1 (c_next l D cI cJ cC cZ cS q gd gs e1 e2 a3 (dd - 1) i (by omega) (by omega)) w_4_57 w_4_59 w_0_20 w_1_13 w_4_60 hd_X1_next_2 ⟨⟨(Nat.le_of_ble_eq_true rfl), (Nat.le_of_ble_eq_true rfl)⟩, (Nat.le_of_ble_eq_true rfl), (Nat.le_of_ble_eq_true rfl)⟩ hK hP hD hS hA (fmT om_4_f 0) (fmF om_4_f 0) (fm_C1 rfl rfl) (fm_R rfl rfl) (fm_nT om_4_f 0) (fm_nF om_4_f 0) (fm_di om_4_f 0) rfl rfl rfl rfl (Nat.le_of_ble_eq_true rfl) dX1_settle_36 (fun r_13 u H locs hw hP hD hS => ?_)
              refine o_mgE (ws' := [ro_rrrrrrrnn (q 11) 1 (q 10) (q 67) (q 68) (q 69) (q 70) (q 71) (q 72) gd gs, ra_I (q 67) cI 90 e1, ra_I (q 68) cI 9 e2, ra_I (q 69) cI 10 a3]) hw hP hD rfl (fun hP hD => ?_)
              refine lv_if_eq (tgt := 48) hx hb dX1_settle_39 (by decide) (fun c_14 => ?_) (fun c_14 => ?_)
              · skip
                refine lv_iinc (v := nI (i + 1)) (lv' := [(3, .int (nI (i + 1))), (2, .int al), (1, .int (nI (dd - 1))), (0, .ref (q 11))]) hx hb dX1_settle_48 hl (k := 0) rfl (ninc i 1 (by decide)) (by decide) rfl (fun ls hl => ?_)
                refine lv_goto (tgt := 27) hx hb dX1_settle_51 (by decide) ?_
                exact ih_lp_9 (i + 1) al _ _ _ (by omega) (by omega) hP hD hS (lv_sub hl [0, 1, 2, 3] rfl)
              · skip
                refine lv_iload_n hx hb dX1_settle_42 rfl (lv_at hl 1 rfl) ?_
                refine lv_iconst (v := 1) hx hb dX1_settle_43 ic_1 ?_
                refine lv_iload_n hx hb dX1_settle_44 rfl (lv_at hl 0 rfl) ?_
                refine lv_ishl hx hb dX1_settle_45 ?_
                refine lv_topi (fun v_15 ev_15 => ?_)
                refine lv_ior hx hb dX1_settle_46 ?_
                refine lv_topi (fun v_16 ev_16 => ?_)
                refine lv_istore_n (lv' := [(2, .int v_16), (3, .int (nI i)), (1, .int (nI (dd - 1))), (0, .ref (q 11))]) hx hb dX1_settle_47 rfl hl (by decide) rfl (fun ls hl => ?_)
                refine lv_iinc (v := nI (i + 1)) (lv' := [(3, .int (nI (i + 1))), (2, .int v_16), (1, .int (nI (dd - 1))), (0, .ref (q 11))]) hx hb dX1_settle_48 hl (k := 1) rfl (ninc i 1 (by decide)) (by decide) rfl (fun ls hl => ?_)
                refine lv_goto (tgt := 27) hx hb dX1_settle_51 (by decide) ?_
                exact ih_lp_9 (i + 1) v_16 _ _ _ (by omega) (by omega) hP hD hS (lv_sub hl [0, 1, 2, 3] rfl)
        exact lp_9 (10 - 0 + 1) 0 0 _ _ _ (Nat.lt_succ_self _) (by omega) hP hD hS (lv_sub hl [0, 1, 2, 3] rfl)
  exact lp_2 (gd + 1) gd f_1 _ _ _ (Nat.lt_succ_self _) hgd hP hD hS (lv_sub hl [0, 1] rfl)
theorem dg_X1_moodsOf_0_0 : bqL cX1_moodsOf 0 [(0, [4]), (1, [42]), (2, [180, 0, 35]), (5, [120]), (6, [61]), (7, [3]), (8, [62]), (9, [29]), (10, [27]), (11, [163, 0, 53]), (64, [28]), (65, [172]), (14, [3]), (15, [54, 4]), (17, [3]), (18, [54, 5]), (20, [21, 5]), (22, [16, 10]), (24, [162, 0, 31]), (55, [21, 4]), (57, [61]), (58, [132, 3, 1]), (61, [167, 255, 204]), (27, [28]), (28, [21, 5]), (30, [122]), (31, [4]), (32, [126]), (33, [4]), (34, [160, 0, 15]), (49, [132, 5, 1]), (52, [167, 255, 224]), (37, [21, 4]), (39, [42]), (40, [29]), (41, [21, 5]), (43, [182, 0, 66]), (46, [128]), (47, [54, 4])] = true := by decide +kernel
theorem dX1_moodsOf_0 : decode cX1_moodsOf 0 = .ok (.iconst 1, 1) := q_iconst1 (bat_get dg_X1_moodsOf_0_0 0 rfl rfl)
theorem dX1_moodsOf_1 : decode cX1_moodsOf 1 = .ok (.aload_n 0, 1) := q_aload_n0 (bat_get dg_X1_moodsOf_0_0 1 rfl rfl)
theorem dX1_moodsOf_2 : decode cX1_moodsOf 2 = .ok (.getfield 35, 3) := q_getfield (bat_get dg_X1_moodsOf_0_0 2 rfl rfl) rfl
theorem dX1_moodsOf_5 : decode cX1_moodsOf 5 = .ok (.ishl, 1) := q_ishl (bat_get dg_X1_moodsOf_0_0 3 rfl rfl)
theorem dX1_moodsOf_6 : decode cX1_moodsOf 6 = .ok (.istore_n 2, 1) := q_istore_n2 (bat_get dg_X1_moodsOf_0_0 4 rfl rfl)
theorem dX1_moodsOf_7 : decode cX1_moodsOf 7 = .ok (.iconst 0, 1) := q_iconst0 (bat_get dg_X1_moodsOf_0_0 5 rfl rfl)
theorem dX1_moodsOf_8 : decode cX1_moodsOf 8 = .ok (.istore_n 3, 1) := q_istore_n3 (bat_get dg_X1_moodsOf_0_0 6 rfl rfl)
theorem dX1_moodsOf_9 : decode cX1_moodsOf 9 = .ok (.iload_n 3, 1) := q_iload_n3 (bat_get dg_X1_moodsOf_0_0 7 rfl rfl)
theorem dX1_moodsOf_10 : decode cX1_moodsOf 10 = .ok (.iload_n 1, 1) := q_iload_n1 (bat_get dg_X1_moodsOf_0_0 8 rfl rfl)
theorem dX1_moodsOf_11 : decode cX1_moodsOf 11 = .ok (.if_icmp .gt 53, 3) := q_if_icmp_gt (bat_get dg_X1_moodsOf_0_0 9 rfl rfl) rfl
theorem dX1_moodsOf_64 : decode cX1_moodsOf 64 = .ok (.iload_n 2, 1) := q_iload_n2 (bat_get dg_X1_moodsOf_0_0 10 rfl rfl)
theorem dX1_moodsOf_65 : decode cX1_moodsOf 65 = .ok (.ireturn, 1) := q_ireturn (bat_get dg_X1_moodsOf_0_0 11 rfl rfl)
theorem dX1_moodsOf_14 : decode cX1_moodsOf 14 = .ok (.iconst 0, 1) := q_iconst0 (bat_get dg_X1_moodsOf_0_0 12 rfl rfl)
theorem dX1_moodsOf_15 : decode cX1_moodsOf 15 = .ok (.istore 4, 2) := q_istore (bat_get dg_X1_moodsOf_0_0 13 rfl rfl)
theorem dX1_moodsOf_17 : decode cX1_moodsOf 17 = .ok (.iconst 0, 1) := q_iconst0 (bat_get dg_X1_moodsOf_0_0 14 rfl rfl)
theorem dX1_moodsOf_18 : decode cX1_moodsOf 18 = .ok (.istore 5, 2) := q_istore (bat_get dg_X1_moodsOf_0_0 15 rfl rfl)
theorem dX1_moodsOf_20 : decode cX1_moodsOf 20 = .ok (.iload 5, 2) := q_iload (bat_get dg_X1_moodsOf_0_0 16 rfl rfl)
theorem dX1_moodsOf_22 : decode cX1_moodsOf 22 = .ok (.bipush 10, 2) := q_bipush (bat_get dg_X1_moodsOf_0_0 17 rfl rfl) rfl
theorem dX1_moodsOf_24 : decode cX1_moodsOf 24 = .ok (.if_icmp .ge 31, 3) := q_if_icmp_ge (bat_get dg_X1_moodsOf_0_0 18 rfl rfl) rfl
theorem dX1_moodsOf_55 : decode cX1_moodsOf 55 = .ok (.iload 4, 2) := q_iload (bat_get dg_X1_moodsOf_0_0 19 rfl rfl)
theorem dX1_moodsOf_57 : decode cX1_moodsOf 57 = .ok (.istore_n 2, 1) := q_istore_n2 (bat_get dg_X1_moodsOf_0_0 20 rfl rfl)
theorem dX1_moodsOf_58 : decode cX1_moodsOf 58 = .ok (.iinc 3 1, 3) := q_iinc (bat_get dg_X1_moodsOf_0_0 21 rfl rfl) rfl
theorem dX1_moodsOf_61 : decode cX1_moodsOf 61 = .ok (.goto (-52), 3) := q_goto (bat_get dg_X1_moodsOf_0_0 22 rfl rfl) rfl
theorem dX1_moodsOf_27 : decode cX1_moodsOf 27 = .ok (.iload_n 2, 1) := q_iload_n2 (bat_get dg_X1_moodsOf_0_0 23 rfl rfl)
theorem dX1_moodsOf_28 : decode cX1_moodsOf 28 = .ok (.iload 5, 2) := q_iload (bat_get dg_X1_moodsOf_0_0 24 rfl rfl)
theorem dX1_moodsOf_30 : decode cX1_moodsOf 30 = .ok (.ishr, 1) := q_ishr (bat_get dg_X1_moodsOf_0_0 25 rfl rfl)
theorem dX1_moodsOf_31 : decode cX1_moodsOf 31 = .ok (.iconst 1, 1) := q_iconst1 (bat_get dg_X1_moodsOf_0_0 26 rfl rfl)
theorem dX1_moodsOf_32 : decode cX1_moodsOf 32 = .ok (.iand, 1) := q_iand (bat_get dg_X1_moodsOf_0_0 27 rfl rfl)
theorem dX1_moodsOf_33 : decode cX1_moodsOf 33 = .ok (.iconst 1, 1) := q_iconst1 (bat_get dg_X1_moodsOf_0_0 28 rfl rfl)
theorem dX1_moodsOf_34 : decode cX1_moodsOf 34 = .ok (.if_icmp .ne 15, 3) := q_if_icmp_ne (bat_get dg_X1_moodsOf_0_0 29 rfl rfl) rfl
theorem dX1_moodsOf_49 : decode cX1_moodsOf 49 = .ok (.iinc 5 1, 3) := q_iinc (bat_get dg_X1_moodsOf_0_0 30 rfl rfl) rfl
theorem dX1_moodsOf_52 : decode cX1_moodsOf 52 = .ok (.goto (-32), 3) := q_goto (bat_get dg_X1_moodsOf_0_0 31 rfl rfl) rfl
theorem dX1_moodsOf_37 : decode cX1_moodsOf 37 = .ok (.iload 4, 2) := q_iload (bat_get dg_X1_moodsOf_0_0 32 rfl rfl)
theorem dX1_moodsOf_39 : decode cX1_moodsOf 39 = .ok (.aload_n 0, 1) := q_aload_n0 (bat_get dg_X1_moodsOf_0_0 33 rfl rfl)
theorem dX1_moodsOf_40 : decode cX1_moodsOf 40 = .ok (.iload_n 3, 1) := q_iload_n3 (bat_get dg_X1_moodsOf_0_0 34 rfl rfl)
theorem dX1_moodsOf_41 : decode cX1_moodsOf 41 = .ok (.iload 5, 2) := q_iload (bat_get dg_X1_moodsOf_0_0 35 rfl rfl)
theorem dX1_moodsOf_43 : decode cX1_moodsOf 43 = .ok (.invokevirtual 66, 3) := q_invokevirtual (bat_get dg_X1_moodsOf_0_0 36 rfl rfl) rfl
theorem dX1_moodsOf_46 : decode cX1_moodsOf 46 = .ok (.ior, 1) := q_ior (bat_get dg_X1_moodsOf_0_0 37 rfl rfl)
theorem dX1_moodsOf_47 : decode cX1_moodsOf 47 = .ok (.istore 4, 2) := q_istore (bat_get dg_X1_moodsOf_0_0 38 rfl rfl)
theorem w_4_107 : (Cond.code yX1_moodsOf cX1_moodsOf 6 (some .int)) ∈ wsL_law := sk_mem (ck_4 _ (List.mem_of_getElem? (i := 107) rfl)) rfl
set_option maxHeartbeats 4000000 in
set_option maxRecDepth 100000 in
theorem c_moodsOf (l : Launch) (D : va_G) (cI cJ cC cZ cS : ClassId) (q : Nat → Nat) (gd : Nat) (gs : Nat) (e1 : Nat → Int32) (e2 : Nat → Int32) (e3 : Nat → Int32) (d : Nat) (hgd : gd ≤ 9) (hgs : gs ≤ 9) (hd : d < 9) : skM l yX1_moodsOf cX1_moodsOf 6 (some .int) 1 22 0 0 D (skT cI cJ cC cZ cS) [.ref (q 11), .int (nI d)] [ro_rrrrrrrnn (q 11) 1 (q 10) (q 67) (q 68) (q 69) (q 70) (q 71) (q 72) gd gs, ra_I (q 67) cI 90 e1, ra_I (q 68) cI 9 e2, ra_I (q 69) cI 10 e3] (skI D (skT cI cJ cC cZ cS) (fun (r : Int32) (u : va_W) => u = [ro_rrrrrrrnn (q 11) 1 (q 10) (q 67) (q 68) (q 69) (q 70) (q 71) (q 72) gd gs, ra_I (q 67) cI 90 e1, ra_I (q 68) cI 9 e2, ra_I (q 69) cI 10 e3])) := by
  refine skM_of pf_X1_moodsOf (Nat.le_of_ble_eq_true rfl) ?_
  intro p e s m below meth c A ls E hP hD hl
  refine skE_el E (fun hx hb hr hml hlocks hin hown hts hK hA => ?_)
  have hown : s.vm.findClass RX1 = some m.cls := hown
  have hS : va_S A s.heap s.heap [] := va_S.rf
  have hl : lv_has ls 6 [(0, .ref (q 11)), (1, .int (nI d))] := hl
  refine lv_iconst (v := 1) hx hb dX1_moodsOf_0 ic_1 ?_
  refine lv_aload_n hx hb dX1_moodsOf_1 rfl (lv_at hl 0 rfl) ?_
  refine sk_get (v := .int (nI gs)) (C := RX1) (T := TX1) (N := 9) hx hb hts inlX1 hown hK hP 0 rfl rfl 8 (Nat.le_of_ble_eq_true rfl) w_2_103 rfl dX1_moodsOf_2 ?_
  refine lv_ishl hx hb dX1_moodsOf_5 ?_
  refine lv_topi (fun v_1 ev_1 => ?_)
  refine lv_istore_n (lv' := [(2, .int v_1), (0, .ref (q 11)), (1, .int (nI d))]) hx hb dX1_moodsOf_6 rfl hl (by decide) rfl (fun ls hl => ?_)
  refine lv_iconst (v := 0) hx hb dX1_moodsOf_7 ic_0 ?_
  refine lv_istore_n (lv' := [(3, .int 0), (2, .int v_1), (0, .ref (q 11)), (1, .int (nI d))]) hx hb dX1_moodsOf_8 rfl hl (by decide) rfl (fun ls hl => ?_)
  have lp_2 : ∀ (n_3 : Nat) (i : Nat) (ms : Int32) (H : Heap) (locs : List Loc) (ls : Array Slot), d + 1 - i < n_3 → (i ≤ d + 1) → va_P D vwCl [ro_rrrrrrrnn (q 11) 1 (q 10) (q 67) (q 68) (q 69) (q 70) (q 71) (q 72) gd gs, ra_I (q 67) cI 90 e1, ra_I (q 68) cI 9 e2, ra_I (q 69) cI 10 e3] H → va_D A [ro_rrrrrrrnn (q 11) 1 (q 10) (q 67) (q 68) (q 69) (q 70) (q 71) (q 72) gd gs, ra_I (q 67) cI 90 e1, ra_I (q 68) cI 9 e2, ra_I (q 69) cI 10 e3] → va_S A s.heap H locs → lv_has ls 6 [(3, .int (nI i)), (2, .int ms), (0, .ref (q 11)), (1, .int (nI d))] → W p l e { frames := 1, cells := 0, slots := 0, locals := 22 } s m ([.ref (q 11), .int (nI d)] : List Value).toArray below meth c H locs 0 0 (MQ below (skI D (skT cI cJ cC cZ cS) (fun (r : Int32) (u : va_W) => u = [ro_rrrrrrrnn (q 11) 1 (q 10) (q 67) (q 68) (q 69) (q 70) (q 71) (q 72) gd gs, ra_I (q 67) cI 90 e1, ra_I (q 68) cI 9 e2, ra_I (q 69) cI 10 e3]) A) ([.ref (q 11), .int (nI d)] : List Value).toArray s 0 0 A) (F0 m 9 ls []) := by
    intro n_3
    induction n_3 with
    | zero => intro i ms H locs ls hm; exact absurd hm (Nat.not_lt_zero _)
    | succ n_3 ih_lp_2 =>
      intro i ms H locs ls hm hi hP hD hS hl
      refine lv_iload_n hx hb dX1_moodsOf_9 rfl (lv_at hl 0 rfl) ?_
      refine lv_iload_n hx hb dX1_moodsOf_10 rfl (lv_at hl 3 rfl) ?_
      refine lv_icmp_gt (tgt := 64) hx hb dX1_moodsOf_11 (by decide) (fun c_4 => ?_) (fun c_4 => ?_)
      · have c_4 : d < i := (nlt d i (by omega) (by omega)).mp c_4
        refine lv_iload_n hx hb dX1_moodsOf_64 rfl (lv_at hl 1 rfl) ?_
        exact sk_iret hx hb hr rfl hlocks hK hP hD hS rfl (Nat.le_of_ble_eq_true rfl) (Nat.le_of_ble_eq_true rfl) dX1_moodsOf_65
      · have c_4 : ¬ (d < i) := fun h => c_4 ((nlt d i (by omega) (by omega)).mpr h)
        refine lv_iconst (v := 0) hx hb dX1_moodsOf_14 ic_0 ?_
        refine lv_istore (lv' := [(4, .int 0), (3, .int (nI i)), (2, .int ms), (0, .ref (q 11)), (1, .int (nI d))]) hx hb dX1_moodsOf_15 hl (by decide) rfl (fun ls hl => ?_)
        refine lv_iconst (v := 0) hx hb dX1_moodsOf_17 ic_0 ?_
        refine lv_istore (lv' := [(5, .int 0), (4, .int 0), (3, .int (nI i)), (2, .int ms), (0, .ref (q 11)), (1, .int (nI d))]) hx hb dX1_moodsOf_18 hl (by decide) rfl (fun ls hl => ?_)
        have lp_5 : ∀ (n_6 : Nat) (jj : Nat) (rc : Int32) (H : Heap) (locs : List Loc) (ls : Array Slot), 10 - jj < n_6 → (jj ≤ 10) → va_P D vwCl [ro_rrrrrrrnn (q 11) 1 (q 10) (q 67) (q 68) (q 69) (q 70) (q 71) (q 72) gd gs, ra_I (q 67) cI 90 e1, ra_I (q 68) cI 9 e2, ra_I (q 69) cI 10 e3] H → va_D A [ro_rrrrrrrnn (q 11) 1 (q 10) (q 67) (q 68) (q 69) (q 70) (q 71) (q 72) gd gs, ra_I (q 67) cI 90 e1, ra_I (q 68) cI 9 e2, ra_I (q 69) cI 10 e3] → va_S A s.heap H locs → lv_has ls 6 [(5, .int (nI jj)), (4, .int rc), (3, .int (nI i)), (2, .int ms), (0, .ref (q 11)), (1, .int (nI d))] → W p l e { frames := 1, cells := 0, slots := 0, locals := 22 } s m ([.ref (q 11), .int (nI d)] : List Value).toArray below meth c H locs 0 0 (MQ below (skI D (skT cI cJ cC cZ cS) (fun (r : Int32) (u : va_W) => u = [ro_rrrrrrrnn (q 11) 1 (q 10) (q 67) (q 68) (q 69) (q 70) (q 71) (q 72) gd gs, ra_I (q 67) cI 90 e1, ra_I (q 68) cI 9 e2, ra_I (q 69) cI 10 e3]) A) ([.ref (q 11), .int (nI d)] : List Value).toArray s 0 0 A) (F0 m 20 ls []) := by
          intro n_6
          induction n_6 with
          | zero => intro jj rc H locs ls hm; exact absurd hm (Nat.not_lt_zero _)
          | succ n_6 ih_lp_5 =>
            intro jj rc H locs ls hm hjj hP hD hS hl
            refine lv_iload hx hb dX1_moodsOf_20 (lv_at hl 0 rfl) ?_
            refine lv_bipush (v := 10) hx hb dX1_moodsOf_22 (by decide) ?_
            refine lv_icmp_ge (tgt := 55) hx hb dX1_moodsOf_24 (by decide) (fun c_7 => ?_) (fun c_7 => ?_)
            · have c_7 : 10 ≤ jj := (nle 10 jj (Nat.le_of_ble_eq_true rfl) (by omega)).mp c_7
              refine lv_iload hx hb dX1_moodsOf_55 (lv_at hl 1 rfl) ?_
              refine lv_istore_n (lv' := [(2, .int rc), (5, .int (nI jj)), (4, .int rc), (3, .int (nI i)), (0, .ref (q 11)), (1, .int (nI d))]) hx hb dX1_moodsOf_57 rfl hl (by decide) rfl (fun ls hl => ?_)
              refine lv_iinc (v := nI (i + 1)) (lv' := [(3, .int (nI (i + 1))), (2, .int rc), (5, .int (nI jj)), (4, .int rc), (0, .ref (q 11)), (1, .int (nI d))]) hx hb dX1_moodsOf_58 hl (k := 3) rfl (ninc i 1 (by decide)) (by decide) rfl (fun ls hl => ?_)
              refine lv_goto (tgt := 9) hx hb dX1_moodsOf_61 (by decide) ?_
              exact ih_lp_2 (i + 1) rc _ _ _ (by omega) (by omega) hP hD hS (lv_sub hl [0, 1, 4, 5] rfl)
            · have c_7 : ¬ (10 ≤ jj) := fun h => c_7 ((nle 10 jj (Nat.le_of_ble_eq_true rfl) (by omega)).mpr h)
              refine lv_iload_n hx hb dX1_moodsOf_27 rfl (lv_at hl 3 rfl) ?_
              refine lv_iload hx hb dX1_moodsOf_28 (lv_at hl 0 rfl) ?_
              refine lv_ishr hx hb dX1_moodsOf_30 ?_
              refine lv_topi (fun v_8 ev_8 => ?_)
              refine lv_iconst (v := 1) hx hb dX1_moodsOf_31 ic_1 ?_
              refine lv_iand hx hb dX1_moodsOf_32 ?_
              refine lv_topi (fun v_9 ev_9 => ?_)
              refine lv_iconst (v := 1) hx hb dX1_moodsOf_33 ic_1 ?_
              refine lv_icmp_ne (tgt := 49) hx hb dX1_moodsOf_34 (by decide) (fun c_10 => ?_) (fun c_10 => ?_)
              · skip
                refine lv_iinc (v := nI (jj + 1)) (lv' := [(5, .int (nI (jj + 1))), (4, .int rc), (3, .int (nI i)), (2, .int ms), (0, .ref (q 11)), (1, .int (nI d))]) hx hb dX1_moodsOf_49 hl (k := 0) rfl (ninc jj 1 (by decide)) (by decide) rfl (fun ls hl => ?_)
                refine lv_goto (tgt := 20) hx hb dX1_moodsOf_52 (by decide) ?_
                exact ih_lp_5 (jj + 1) rc _ _ _ (by omega) (by omega) hP hD hS (lv_sub hl [0, 1, 2, 3, 4, 5] rfl)
              · skip
                refine lv_iload hx hb dX1_moodsOf_37 (lv_at hl 1 rfl) ?_
                refine lv_aload_n hx hb dX1_moodsOf_39 rfl (lv_at hl 4 rfl) ?_
                refine lv_iload_n hx hb dX1_moodsOf_40 rfl (lv_at hl 2 rfl) ?_
                refine lv_iload hx hb dX1_moodsOf_41 (lv_at hl 0 rfl) ?_
                refine sk_Vi (q0 := 0) (n := 2) (rest := [.int rc]) (wr := fmR om_4_f _) ⟨hx, hb, hml, hown, hts⟩ hl.1 (c_next l D cI cJ cC cZ cS q gd gs e1 e2 e3 i jj (by omega) (by omega)) w_4_57 w_4_59 w_0_20 w_1_13 w_4_60 hd_X1_next_2 ⟨⟨(Nat.le_of_ble_eq_true rfl), (Nat.le_of_ble_eq_true rfl)⟩, (Nat.le_of_ble_eq_true rfl), (Nat.le_of_ble_eq_true rfl)⟩ hK hP hD hS hA (fmT om_4_f 0) (fmF om_4_f 0) (fm_C1 rfl rfl) (fm_R rfl rfl) (fm_nT om_4_f 0) (fm_nF om_4_f 0) (fm_di om_4_f 0) rfl rfl rfl rfl (Nat.le_of_ble_eq_true rfl) dX1_moodsOf_43 (fun r_11 u H locs hw hP hD hS => ?_)
                refine o_mgE (ws' := [ro_rrrrrrrnn (q 11) 1 (q 10) (q 67) (q 68) (q 69) (q 70) (q 71) (q 72) gd gs, ra_I (q 67) cI 90 e1, ra_I (q 68) cI 9 e2, ra_I (q 69) cI 10 e3]) hw hP hD rfl (fun hP hD => ?_)
                refine lv_ior hx hb dX1_moodsOf_46 ?_
                refine lv_topi (fun v_12 ev_12 => ?_)
                refine lv_istore (lv' := [(4, .int v_12), (5, .int (nI jj)), (3, .int (nI i)), (2, .int ms), (0, .ref (q 11)), (1, .int (nI d))]) hx hb dX1_moodsOf_47 hl (by decide) rfl (fun ls hl => ?_)
                refine lv_iinc (v := nI (jj + 1)) (lv' := [(5, .int (nI (jj + 1))), (4, .int v_12), (3, .int (nI i)), (2, .int ms), (0, .ref (q 11)), (1, .int (nI d))]) hx hb dX1_moodsOf_49 hl (k := 1) rfl (ninc jj 1 (by decide)) (by decide) rfl (fun ls hl => ?_)
                refine lv_goto (tgt := 20) hx hb dX1_moodsOf_52 (by decide) ?_
                exact ih_lp_5 (jj + 1) v_12 _ _ _ (by omega) (by omega) hP hD hS (lv_sub hl [0, 1, 2, 3, 4, 5] rfl)
        exact lp_5 (10 - 0 + 1) 0 0 _ _ _ (Nat.lt_succ_self _) (by omega) hP hD hS (lv_sub hl [0, 1, 2, 3, 4, 5] rfl)
  exact lp_2 (d + 1 - 0 + 1) 0 v_1 _ _ _ (Nat.lt_succ_self _) (by omega) hP hD hS (lv_sub hl [0, 1, 2, 3] rfl)
theorem dg_X1_takeFirst_0_0 : bqL cX1_takeFirst 0 [(0, [42]), (1, [180, 0, 35]), (4, [61]), (5, [3]), (6, [62]), (7, [29]), (8, [42]), (9, [180, 0, 31]), (12, [162, 0, 26]), (38, [177]), (15, [42]), (16, [29]), (17, [28]), (18, [182, 0, 66]), (21, [184, 0, 70]), (24, [16, 10]), (26, [112]), (27, [61]), (28, [43]), (29, [29]), (30, [28]), (31, [79]), (32, [132, 3, 1]), (35, [167, 255, 228])] = true := by decide +kernel
theorem dX1_takeFirst_0 : decode cX1_takeFirst 0 = .ok (.aload_n 0, 1) := q_aload_n0 (bat_get dg_X1_takeFirst_0_0 0 rfl rfl)
theorem dX1_takeFirst_1 : decode cX1_takeFirst 1 = .ok (.getfield 35, 3) := q_getfield (bat_get dg_X1_takeFirst_0_0 1 rfl rfl) rfl
theorem dX1_takeFirst_4 : decode cX1_takeFirst 4 = .ok (.istore_n 2, 1) := q_istore_n2 (bat_get dg_X1_takeFirst_0_0 2 rfl rfl)
theorem dX1_takeFirst_5 : decode cX1_takeFirst 5 = .ok (.iconst 0, 1) := q_iconst0 (bat_get dg_X1_takeFirst_0_0 3 rfl rfl)
theorem dX1_takeFirst_6 : decode cX1_takeFirst 6 = .ok (.istore_n 3, 1) := q_istore_n3 (bat_get dg_X1_takeFirst_0_0 4 rfl rfl)
theorem dX1_takeFirst_7 : decode cX1_takeFirst 7 = .ok (.iload_n 3, 1) := q_iload_n3 (bat_get dg_X1_takeFirst_0_0 5 rfl rfl)
theorem dX1_takeFirst_8 : decode cX1_takeFirst 8 = .ok (.aload_n 0, 1) := q_aload_n0 (bat_get dg_X1_takeFirst_0_0 6 rfl rfl)
theorem dX1_takeFirst_9 : decode cX1_takeFirst 9 = .ok (.getfield 31, 3) := q_getfield (bat_get dg_X1_takeFirst_0_0 7 rfl rfl) rfl
theorem dX1_takeFirst_12 : decode cX1_takeFirst 12 = .ok (.if_icmp .ge 26, 3) := q_if_icmp_ge (bat_get dg_X1_takeFirst_0_0 8 rfl rfl) rfl
theorem dX1_takeFirst_38 : decode cX1_takeFirst 38 = .ok (.return_, 1) := q_return_ (bat_get dg_X1_takeFirst_0_0 9 rfl rfl)
theorem dX1_takeFirst_15 : decode cX1_takeFirst 15 = .ok (.aload_n 0, 1) := q_aload_n0 (bat_get dg_X1_takeFirst_0_0 10 rfl rfl)
theorem dX1_takeFirst_16 : decode cX1_takeFirst 16 = .ok (.iload_n 3, 1) := q_iload_n3 (bat_get dg_X1_takeFirst_0_0 11 rfl rfl)
theorem dX1_takeFirst_17 : decode cX1_takeFirst 17 = .ok (.iload_n 2, 1) := q_iload_n2 (bat_get dg_X1_takeFirst_0_0 12 rfl rfl)
theorem dX1_takeFirst_18 : decode cX1_takeFirst 18 = .ok (.invokevirtual 66, 3) := q_invokevirtual (bat_get dg_X1_takeFirst_0_0 13 rfl rfl) rfl
theorem dX1_takeFirst_21 : decode cX1_takeFirst 21 = .ok (.invokestatic 70, 3) := q_invokestatic (bat_get dg_X1_takeFirst_0_0 14 rfl rfl) rfl
theorem dX1_takeFirst_24 : decode cX1_takeFirst 24 = .ok (.bipush 10, 2) := q_bipush (bat_get dg_X1_takeFirst_0_0 15 rfl rfl) rfl
theorem dX1_takeFirst_26 : decode cX1_takeFirst 26 = .ok (.irem, 1) := q_irem (bat_get dg_X1_takeFirst_0_0 16 rfl rfl)
theorem dX1_takeFirst_27 : decode cX1_takeFirst 27 = .ok (.istore_n 2, 1) := q_istore_n2 (bat_get dg_X1_takeFirst_0_0 17 rfl rfl)
theorem dX1_takeFirst_28 : decode cX1_takeFirst 28 = .ok (.aload_n 1, 1) := q_aload_n1 (bat_get dg_X1_takeFirst_0_0 18 rfl rfl)
theorem dX1_takeFirst_29 : decode cX1_takeFirst 29 = .ok (.iload_n 3, 1) := q_iload_n3 (bat_get dg_X1_takeFirst_0_0 19 rfl rfl)
theorem dX1_takeFirst_30 : decode cX1_takeFirst 30 = .ok (.iload_n 2, 1) := q_iload_n2 (bat_get dg_X1_takeFirst_0_0 20 rfl rfl)
theorem dX1_takeFirst_31 : decode cX1_takeFirst 31 = .ok (.iastore, 1) := q_iastore (bat_get dg_X1_takeFirst_0_0 21 rfl rfl)
theorem dX1_takeFirst_32 : decode cX1_takeFirst 32 = .ok (.iinc 3 1, 3) := q_iinc (bat_get dg_X1_takeFirst_0_0 22 rfl rfl) rfl
theorem dX1_takeFirst_35 : decode cX1_takeFirst 35 = .ok (.goto (-28), 3) := q_goto (bat_get dg_X1_takeFirst_0_0 23 rfl rfl) rfl
theorem w_4_116 : (Cond.methodLink RX1 70 yJ6_numberOfTrailingZeros_0f7a4) ∈ wsL_law := sk_mem (ck_4 _ (List.mem_of_getElem? (i := 116) rfl)) rfl
theorem w_4_117 : (Cond.static yJ6_numberOfTrailingZeros_0f7a4) ∈ wsL_law := sk_mem (ck_4 _ (List.mem_of_getElem? (i := 117) rfl)) rfl
theorem w_1_21 : (Cond.initialized RJ6) ∈ wsL_law := sk_mem (ck_1 _ (List.mem_of_getElem? (i := 21) rfl)) rfl
theorem w_4_115 : (Cond.code yX1_takeFirst cX1_takeFirst 4 none) ∈ wsL_law := sk_mem (ck_4 _ (List.mem_of_getElem? (i := 115) rfl)) rfl
def om_5_1e : List Bool := true :: true :: true :: true :: false :: []
theorem hd_J6_numberOfTrailingZeros_0f7a4_1 : skD yJ6_numberOfTrailingZeros_0f7a4 1 := by decide +kernel
set_option maxHeartbeats 4000000 in
set_option maxRecDepth 100000 in
theorem c_takeFirst (l : Launch) (D : va_G) (cI cJ cC cZ cS : ClassId) (q : Nat → Nat) (gd : Nat) (gs : Nat) (e1 : Nat → Int32) (e2 : Nat → Int32) (e3 : Nat → Int32) (rw : Nat) (ra : Nat → Int32) (hgd : gd ≤ 9) (hgs : gs ≤ 9) : skM l yX1_takeFirst cX1_takeFirst 4 none 1 22 0 0 D (skT cI cJ cC cZ cS) [.ref (q 11), .ref rw] [ro_rrrrrrrnn (q 11) 1 (q 10) (q 67) (q 68) (q 69) (q 70) (q 71) (q 72) gd gs, ra_I (q 67) cI 90 e1, ra_I (q 68) cI 9 e2, ra_I (q 69) cI 10 e3, ra_I rw cI 9 ra] (skV D (skT cI cJ cC cZ cS) (fun (u : va_W) => ∃ (ra2 : Nat → Int32), rowOk ra2 gd ∧ u = [ro_rrrrrrrnn (q 11) 1 (q 10) (q 67) (q 68) (q 69) (q 70) (q 71) (q 72) gd gs, ra_I (q 67) cI 90 e1, ra_I (q 68) cI 9 e2, ra_I (q 69) cI 10 e3, ra_I rw cI 9 ra2])) := by
  refine skM_of pf_X1_takeFirst (Nat.le_of_ble_eq_true rfl) ?_
  intro p e s m below meth c A ls E hP hD hl
  refine skE_el E (fun hx hb hr hml hlocks hin hown hts hK hA => ?_)
  have hown : s.vm.findClass RX1 = some m.cls := hown
  have hS : va_S A s.heap s.heap [] := va_S.rf
  have hl : lv_has ls 4 [(0, .ref (q 11)), (1, .ref rw)] := hl
  refine lv_aload_n hx hb dX1_takeFirst_0 rfl (lv_at hl 0 rfl) ?_
  refine sk_get (v := .int (nI gs)) (C := RX1) (T := TX1) (N := 9) hx hb hts inlX1 hown hK hP 0 rfl rfl 8 (Nat.le_of_ble_eq_true rfl) w_2_103 rfl dX1_takeFirst_1 ?_
  refine lv_istore_n (lv' := [(2, .int (nI gs)), (0, .ref (q 11)), (1, .ref rw)]) hx hb dX1_takeFirst_4 rfl hl (by decide) rfl (fun ls hl => ?_)
  refine lv_iconst (v := 0) hx hb dX1_takeFirst_5 ic_0 ?_
  refine lv_istore_n (lv' := [(3, .int 0), (2, .int (nI gs)), (0, .ref (q 11)), (1, .ref rw)]) hx hb dX1_takeFirst_6 rfl hl (by decide) rfl (fun ls hl => ?_)
  have lp_1 : ∀ (n_2 : Nat) (i : Nat) (ah : Nat) (rb : Nat → Int32) (H : Heap) (locs : List Loc) (ls : Array Slot), gd - i < n_2 → (i ≤ gd) → (ah < 10) → (rowOk rb i) → va_P D vwCl [ro_rrrrrrrnn (q 11) 1 (q 10) (q 67) (q 68) (q 69) (q 70) (q 71) (q 72) gd gs, ra_I (q 67) cI 90 e1, ra_I (q 68) cI 9 e2, ra_I (q 69) cI 10 e3, ra_I rw cI 9 rb] H → va_D A [ro_rrrrrrrnn (q 11) 1 (q 10) (q 67) (q 68) (q 69) (q 70) (q 71) (q 72) gd gs, ra_I (q 67) cI 90 e1, ra_I (q 68) cI 9 e2, ra_I (q 69) cI 10 e3, ra_I rw cI 9 rb] → va_S A s.heap H locs → lv_has ls 4 [(3, .int (nI i)), (2, .int (nI ah)), (0, .ref (q 11)), (1, .ref rw)] → W p l e { frames := 1, cells := 0, slots := 0, locals := 22 } s m ([.ref (q 11), .ref rw] : List Value).toArray below meth c H locs 0 0 (MQ below (skV D (skT cI cJ cC cZ cS) (fun (u : va_W) => ∃ (ra2 : Nat → Int32), rowOk ra2 gd ∧ u = [ro_rrrrrrrnn (q 11) 1 (q 10) (q 67) (q 68) (q 69) (q 70) (q 71) (q 72) gd gs, ra_I (q 67) cI 90 e1, ra_I (q 68) cI 9 e2, ra_I (q 69) cI 10 e3, ra_I rw cI 9 ra2]) A) ([.ref (q 11), .ref rw] : List Value).toArray s 0 0 A) (F0 m 7 ls []) := by
    intro n_2
    induction n_2 with
    | zero => intro i ah rb H locs ls hm; exact absurd hm (Nat.not_lt_zero _)
    | succ n_2 ih_lp_1 =>
      intro i ah rb H locs ls hm hi hah hro hP hD hS hl
      refine lv_iload_n hx hb dX1_takeFirst_7 rfl (lv_at hl 0 rfl) ?_
      refine lv_aload_n hx hb dX1_takeFirst_8 rfl (lv_at hl 2 rfl) ?_
      refine sk_get (v := .int (nI gd)) (C := RX1) (T := TX1) (N := 9) hx hb hts inlX1 hown hK hP 0 rfl rfl 7 (Nat.le_of_ble_eq_true rfl) w_2_102 rfl dX1_takeFirst_9 ?_
      refine lv_icmp_ge (tgt := 38) hx hb dX1_takeFirst_12 (by decide) (fun c_3 => ?_) (fun c_3 => ?_)
      · have c_3 : gd ≤ i := (nle gd i (by omega) (by omega)).mp c_3
        exact sk_vret hx hb hr hlocks hK hP hD hS (⟨rb, by rw [show gd = i by omega]; exact hro, rfl⟩) (Nat.le_of_ble_eq_true rfl) (Nat.le_of_ble_eq_true rfl) dX1_takeFirst_38
      · have c_3 : ¬ (gd ≤ i) := fun h => c_3 ((nle gd i (by omega) (by omega)).mpr h)
        refine lv_aload_n hx hb dX1_takeFirst_15 rfl (lv_at hl 2 rfl) ?_
        refine lv_iload_n hx hb dX1_takeFirst_16 rfl (lv_at hl 0 rfl) ?_
        refine lv_iload_n hx hb dX1_takeFirst_17 rfl (lv_at hl 1 rfl) ?_
        refine sk_Vi (q0 := 0) (n := 2) (rest := []) (wr := fmR om_5_1e _) ⟨hx, hb, hml, hown, hts⟩ hl.1 (c_next l D cI cJ cC cZ cS q gd gs e1 e2 e3 i ah (by omega) hah) w_4_57 w_4_59 w_0_20 w_1_13 w_4_60 hd_X1_next_2 ⟨⟨(Nat.le_of_ble_eq_true rfl), (Nat.le_of_ble_eq_true rfl)⟩, (Nat.le_of_ble_eq_true rfl), (Nat.le_of_ble_eq_true rfl)⟩ hK hP hD hS hA (fmT om_5_1e 0) (fmF om_5_1e 0) (fm_C1 rfl rfl) (fm_R rfl rfl) (fm_nT om_5_1e 0) (fm_nF om_5_1e 0) (fm_di om_5_1e 0) rfl rfl rfl rfl (Nat.le_of_ble_eq_true rfl) dX1_takeFirst_18 (fun r_4 u H locs hw hP hD hS => ?_)
        refine o_mgE (ws' := [ro_rrrrrrrnn (q 11) 1 (q 10) (q 67) (q 68) (q 69) (q 70) (q 71) (q 72) gd gs, ra_I (q 67) cI 90 e1, ra_I (q 68) cI 9 e2, ra_I (q 69) cI 10 e3, ra_I rw cI 9 rb]) hw hP hD rfl (fun hP hD => ?_)
        refine sk_Si (n := 1) (rest := []) (wr := [ro_rrrrrrrnn (q 11) 1 (q 10) (q 67) (q 68) (q 69) (q 70) (q 71) (q 72) gd gs, ra_I (q 67) cI 90 e1, ra_I (q 68) cI 9 e2, ra_I (q 69) cI 10 e3, ra_I rw cI 9 rb]) ⟨hx, hb, hml, hown, hts⟩ hl.1 (c_ntz l D cI cJ cC cZ cS r_4) w_4_116 w_4_117 w_1_21 w_4_118 hd_J6_numberOfTrailingZeros_0f7a4_1 ⟨⟨(Nat.le_of_ble_eq_true rfl), (Nat.le_of_ble_eq_true rfl)⟩, (Nat.le_of_ble_eq_true rfl), (Nat.le_of_ble_eq_true rfl)⟩ hK hP hD hS hA [] [0, 1, 2, 3, 4] rfl rfl (by decide +kernel) (by decide +kernel) (by decide +kernel) rfl rfl (Nat.le_of_ble_eq_true rfl) dX1_takeFirst_21 (fun r_6 u H locs hw hP hD hS => ?_)
        obtain ⟨v_5, hv_7, rfl, rfl⟩ := hw
        refine o_re (ws' := [ro_rrrrrrrnn (q 11) 1 (q 10) (q 67) (q 68) (q 69) (q 70) (q 71) (q 72) gd gs, ra_I (q 67) cI 90 e1, ra_I (q 68) cI 9 e2, ra_I (q 69) cI 10 e3, ra_I rw cI 9 rb]) hP hD rfl (fun hP hD => ?_)
        refine lv_bipush (v := 10) hx hb dX1_takeFirst_24 (by decide) ?_
        refine lv_irem hx hb dX1_takeFirst_26 (by decide) ?_
        refine sk_top (nI (v_5 % 10)) (nrem v_5 10 (by omega) (by omega) (by omega)) ?_
        refine lv_istore_n (lv' := [(2, .int (nI (v_5 % 10))), (3, .int (nI i)), (0, .ref (q 11)), (1, .ref rw)]) hx hb dX1_takeFirst_27 rfl hl (by decide) rfl (fun ls hl => ?_)
        refine lv_aload_n hx hb dX1_takeFirst_28 rfl (lv_at hl 3 rfl) ?_
        refine lv_iload_n hx hb dX1_takeFirst_29 rfl (lv_at hl 1 rfl) ?_
        refine lv_iload_n hx hb dX1_takeFirst_30 rfl (lv_at hl 0 rfl) ?_
        refine sk_iast (ws' := [ro_rrrrrrrnn (q 11) 1 (q 10) (q 67) (q 68) (q 69) (q 70) (q 71) (q 72) gd gs, ra_I (q 67) cI 90 e1, ra_I (q 68) cI 9 e2, ra_I (q 69) cI 10 e3, ra_I rw cI 9 (upd rb (nI i).toNatClampNeg (nI (v_5 % 10)))]) hx hb hK hP hD hS 4 0 rfl rfl (vin i 9 (by omega) (Nat.le_of_ble_eq_true rfl)) rfl dX1_takeFirst_31 (fun H locs hP hD hS => ?_)
        have ho_9 := rowOk_up (f := rb) (i := i) (v := (v_5 % 10)) hro (by omega) (by omega)
        generalize ef_10 : upd rb (nI i).toNatClampNeg (nI (v_5 % 10)) = f_8 at hP hD ho_9
        refine lv_iinc (v := nI (i + 1)) (lv' := [(3, .int (nI (i + 1))), (2, .int (nI (v_5 % 10))), (0, .ref (q 11)), (1, .ref rw)]) hx hb dX1_takeFirst_32 hl (k := 1) rfl (ninc i 1 (by decide)) (by decide) rfl (fun ls hl => ?_)
        refine lv_goto (tgt := 7) hx hb dX1_takeFirst_35 (by decide) ?_
        exact ih_lp_1 (i + 1) (v_5 % 10) f_8 _ _ _ (by omega) (by omega) (by omega) ho_9 hP hD hS (lv_sub hl [0, 1, 2, 3] rfl)
  exact lp_1 (gd - 0 + 1) 0 gs ra _ _ _ (Nat.lt_succ_self _) (by omega) (by omega) (rowOk_0 _) hP hD hS (lv_sub hl [0, 1, 2, 3] rfl)
theorem dg_X1_countWays_0_0 : bqL cX1_countWays 0 [(0, [3]), (1, [60]), (2, [27]), (3, [16, 10]), (5, [162, 0, 24]), (29, [42]), (30, [180, 0, 31]), (33, [4]), (34, [100]), (35, [60]), (36, [27]), (37, [155, 0, 95]), (132, [42]), (133, [180, 0, 21]), (136, [42]), (137, [180, 0, 35]), (140, [47]), (141, [173]), (40, [3]), (41, [61]), (42, [28]), (43, [16, 10]), (45, [162, 0, 81]), (126, [132, 1, 255]), (129, [167, 255, 163]), (48, [42]), (49, [27]), (50, [28]), (51, [182, 0, 66]), (54, [62]), (55, [9]), (56, [55, 4]), (58, [3]), (59, [54, 6]), (61, [21, 6]), (63, [16, 10]), (65, [162, 0, 42]), (107, [42]), (108, [180, 0, 21]), (111, [27])] = true := by decide +kernel
theorem dX1_countWays_0 : decode cX1_countWays 0 = .ok (.iconst 0, 1) := q_iconst0 (bat_get dg_X1_countWays_0_0 0 rfl rfl)
theorem dX1_countWays_1 : decode cX1_countWays 1 = .ok (.istore_n 1, 1) := q_istore_n1 (bat_get dg_X1_countWays_0_0 1 rfl rfl)
theorem dX1_countWays_2 : decode cX1_countWays 2 = .ok (.iload_n 1, 1) := q_iload_n1 (bat_get dg_X1_countWays_0_0 2 rfl rfl)
theorem dX1_countWays_3 : decode cX1_countWays 3 = .ok (.bipush 10, 2) := q_bipush (bat_get dg_X1_countWays_0_0 3 rfl rfl) rfl
theorem dX1_countWays_5 : decode cX1_countWays 5 = .ok (.if_icmp .ge 24, 3) := q_if_icmp_ge (bat_get dg_X1_countWays_0_0 4 rfl rfl) rfl
theorem dX1_countWays_29 : decode cX1_countWays 29 = .ok (.aload_n 0, 1) := q_aload_n0 (bat_get dg_X1_countWays_0_0 5 rfl rfl)
theorem dX1_countWays_30 : decode cX1_countWays 30 = .ok (.getfield 31, 3) := q_getfield (bat_get dg_X1_countWays_0_0 6 rfl rfl) rfl
theorem dX1_countWays_33 : decode cX1_countWays 33 = .ok (.iconst 1, 1) := q_iconst1 (bat_get dg_X1_countWays_0_0 7 rfl rfl)
theorem dX1_countWays_34 : decode cX1_countWays 34 = .ok (.isub, 1) := q_isub (bat_get dg_X1_countWays_0_0 8 rfl rfl)
theorem dX1_countWays_35 : decode cX1_countWays 35 = .ok (.istore_n 1, 1) := q_istore_n1 (bat_get dg_X1_countWays_0_0 9 rfl rfl)
theorem dX1_countWays_36 : decode cX1_countWays 36 = .ok (.iload_n 1, 1) := q_iload_n1 (bat_get dg_X1_countWays_0_0 10 rfl rfl)
theorem dX1_countWays_37 : decode cX1_countWays 37 = .ok (.ifCond .lt 95, 3) := q_ifCond_lt (bat_get dg_X1_countWays_0_0 11 rfl rfl) rfl
theorem dX1_countWays_132 : decode cX1_countWays 132 = .ok (.aload_n 0, 1) := q_aload_n0 (bat_get dg_X1_countWays_0_0 12 rfl rfl)
theorem dX1_countWays_133 : decode cX1_countWays 133 = .ok (.getfield 21, 3) := q_getfield (bat_get dg_X1_countWays_0_0 13 rfl rfl) rfl
theorem dX1_countWays_136 : decode cX1_countWays 136 = .ok (.aload_n 0, 1) := q_aload_n0 (bat_get dg_X1_countWays_0_0 14 rfl rfl)
theorem dX1_countWays_137 : decode cX1_countWays 137 = .ok (.getfield 35, 3) := q_getfield (bat_get dg_X1_countWays_0_0 15 rfl rfl) rfl
theorem dX1_countWays_140 : decode cX1_countWays 140 = .ok (.laload, 1) := q_laload (bat_get dg_X1_countWays_0_0 16 rfl rfl)
theorem dX1_countWays_141 : decode cX1_countWays 141 = .ok (.lreturn, 1) := q_lreturn (bat_get dg_X1_countWays_0_0 17 rfl rfl)
theorem dX1_countWays_40 : decode cX1_countWays 40 = .ok (.iconst 0, 1) := q_iconst0 (bat_get dg_X1_countWays_0_0 18 rfl rfl)
theorem dX1_countWays_41 : decode cX1_countWays 41 = .ok (.istore_n 2, 1) := q_istore_n2 (bat_get dg_X1_countWays_0_0 19 rfl rfl)
theorem dX1_countWays_42 : decode cX1_countWays 42 = .ok (.iload_n 2, 1) := q_iload_n2 (bat_get dg_X1_countWays_0_0 20 rfl rfl)
theorem dX1_countWays_43 : decode cX1_countWays 43 = .ok (.bipush 10, 2) := q_bipush (bat_get dg_X1_countWays_0_0 21 rfl rfl) rfl
theorem dX1_countWays_45 : decode cX1_countWays 45 = .ok (.if_icmp .ge 81, 3) := q_if_icmp_ge (bat_get dg_X1_countWays_0_0 22 rfl rfl) rfl
theorem dX1_countWays_126 : decode cX1_countWays 126 = .ok (.iinc 1 (-1), 3) := q_iinc (bat_get dg_X1_countWays_0_0 23 rfl rfl) rfl
theorem dX1_countWays_129 : decode cX1_countWays 129 = .ok (.goto (-93), 3) := q_goto (bat_get dg_X1_countWays_0_0 24 rfl rfl) rfl
theorem dX1_countWays_48 : decode cX1_countWays 48 = .ok (.aload_n 0, 1) := q_aload_n0 (bat_get dg_X1_countWays_0_0 25 rfl rfl)
theorem dX1_countWays_49 : decode cX1_countWays 49 = .ok (.iload_n 1, 1) := q_iload_n1 (bat_get dg_X1_countWays_0_0 26 rfl rfl)
theorem dX1_countWays_50 : decode cX1_countWays 50 = .ok (.iload_n 2, 1) := q_iload_n2 (bat_get dg_X1_countWays_0_0 27 rfl rfl)
theorem dX1_countWays_51 : decode cX1_countWays 51 = .ok (.invokevirtual 66, 3) := q_invokevirtual (bat_get dg_X1_countWays_0_0 28 rfl rfl) rfl
theorem dX1_countWays_54 : decode cX1_countWays 54 = .ok (.istore_n 3, 1) := q_istore_n3 (bat_get dg_X1_countWays_0_0 29 rfl rfl)
theorem dX1_countWays_55 : decode cX1_countWays 55 = .ok (.lconst 0, 1) := q_lconst0 (bat_get dg_X1_countWays_0_0 30 rfl rfl)
theorem dX1_countWays_56 : decode cX1_countWays 56 = .ok (.lstore 4, 2) := q_lstore (bat_get dg_X1_countWays_0_0 31 rfl rfl)
theorem dX1_countWays_58 : decode cX1_countWays 58 = .ok (.iconst 0, 1) := q_iconst0 (bat_get dg_X1_countWays_0_0 32 rfl rfl)
theorem dX1_countWays_59 : decode cX1_countWays 59 = .ok (.istore 6, 2) := q_istore (bat_get dg_X1_countWays_0_0 33 rfl rfl)
theorem dX1_countWays_61 : decode cX1_countWays 61 = .ok (.iload 6, 2) := q_iload (bat_get dg_X1_countWays_0_0 34 rfl rfl)
theorem dX1_countWays_63 : decode cX1_countWays 63 = .ok (.bipush 10, 2) := q_bipush (bat_get dg_X1_countWays_0_0 35 rfl rfl) rfl
theorem dX1_countWays_65 : decode cX1_countWays 65 = .ok (.if_icmp .ge 42, 3) := q_if_icmp_ge (bat_get dg_X1_countWays_0_0 36 rfl rfl) rfl
theorem dX1_countWays_107 : decode cX1_countWays 107 = .ok (.aload_n 0, 1) := q_aload_n0 (bat_get dg_X1_countWays_0_0 37 rfl rfl)
theorem dX1_countWays_108 : decode cX1_countWays 108 = .ok (.getfield 21, 3) := q_getfield (bat_get dg_X1_countWays_0_0 38 rfl rfl) rfl
theorem dX1_countWays_111 : decode cX1_countWays 111 = .ok (.iload_n 1, 1) := q_iload_n1 (bat_get dg_X1_countWays_0_0 39 rfl rfl)
theorem dg_X1_countWays_8_112 : bqL cX1_countWays 8 [(104, [16, 10]), (106, [104]), (107, [28]), (108, [96]), (109, [22, 4]), (111, [80]), (112, [132, 2, 1]), (115, [167, 255, 175]), (60, [22, 4]), (62, [29]), (63, [21, 6]), (65, [122]), (66, [4]), (67, [126]), (68, [4]), (69, [160, 0, 20]), (89, [9]), (90, [97]), (91, [55, 4]), (93, [132, 6, 1]), (96, [167, 255, 213]), (72, [42]), (73, [180, 0, 21]), (76, [27]), (77, [4]), (78, [96]), (79, [16, 10]), (81, [104]), (82, [21, 6]), (84, [96]), (85, [47]), (86, [167, 0, 4]), (0, [42]), (1, [180, 0, 21]), (4, [42]), (5, [180, 0, 31]), (8, [16, 10]), (10, [104]), (11, [27]), (12, [96])] = true := by decide +kernel
theorem dX1_countWays_112 : decode cX1_countWays 112 = .ok (.bipush 10, 2) := q_bipush (bat_get dg_X1_countWays_8_112 0 rfl rfl) rfl
theorem dX1_countWays_114 : decode cX1_countWays 114 = .ok (.imul, 1) := q_imul (bat_get dg_X1_countWays_8_112 1 rfl rfl)
theorem dX1_countWays_115 : decode cX1_countWays 115 = .ok (.iload_n 2, 1) := q_iload_n2 (bat_get dg_X1_countWays_8_112 2 rfl rfl)
theorem dX1_countWays_116 : decode cX1_countWays 116 = .ok (.iadd, 1) := q_iadd (bat_get dg_X1_countWays_8_112 3 rfl rfl)
theorem dX1_countWays_117 : decode cX1_countWays 117 = .ok (.lload 4, 2) := q_lload (bat_get dg_X1_countWays_8_112 4 rfl rfl)
theorem dX1_countWays_119 : decode cX1_countWays 119 = .ok (.lastore, 1) := q_lastore (bat_get dg_X1_countWays_8_112 5 rfl rfl)
theorem dX1_countWays_120 : decode cX1_countWays 120 = .ok (.iinc 2 1, 3) := q_iinc (bat_get dg_X1_countWays_8_112 6 rfl rfl) rfl
theorem dX1_countWays_123 : decode cX1_countWays 123 = .ok (.goto (-81), 3) := q_goto (bat_get dg_X1_countWays_8_112 7 rfl rfl) rfl
theorem dX1_countWays_68 : decode cX1_countWays 68 = .ok (.lload 4, 2) := q_lload (bat_get dg_X1_countWays_8_112 8 rfl rfl)
theorem dX1_countWays_70 : decode cX1_countWays 70 = .ok (.iload_n 3, 1) := q_iload_n3 (bat_get dg_X1_countWays_8_112 9 rfl rfl)
theorem dX1_countWays_71 : decode cX1_countWays 71 = .ok (.iload 6, 2) := q_iload (bat_get dg_X1_countWays_8_112 10 rfl rfl)
theorem dX1_countWays_73 : decode cX1_countWays 73 = .ok (.ishr, 1) := q_ishr (bat_get dg_X1_countWays_8_112 11 rfl rfl)
theorem dX1_countWays_74 : decode cX1_countWays 74 = .ok (.iconst 1, 1) := q_iconst1 (bat_get dg_X1_countWays_8_112 12 rfl rfl)
theorem dX1_countWays_75 : decode cX1_countWays 75 = .ok (.iand, 1) := q_iand (bat_get dg_X1_countWays_8_112 13 rfl rfl)
theorem dX1_countWays_76 : decode cX1_countWays 76 = .ok (.iconst 1, 1) := q_iconst1 (bat_get dg_X1_countWays_8_112 14 rfl rfl)
theorem dX1_countWays_77 : decode cX1_countWays 77 = .ok (.if_icmp .ne 20, 3) := q_if_icmp_ne (bat_get dg_X1_countWays_8_112 15 rfl rfl) rfl
theorem dX1_countWays_97 : decode cX1_countWays 97 = .ok (.lconst 0, 1) := q_lconst0 (bat_get dg_X1_countWays_8_112 16 rfl rfl)
theorem dX1_countWays_98 : decode cX1_countWays 98 = .ok (.ladd, 1) := q_ladd (bat_get dg_X1_countWays_8_112 17 rfl rfl)
theorem dX1_countWays_99 : decode cX1_countWays 99 = .ok (.lstore 4, 2) := q_lstore (bat_get dg_X1_countWays_8_112 18 rfl rfl)
theorem dX1_countWays_101 : decode cX1_countWays 101 = .ok (.iinc 6 1, 3) := q_iinc (bat_get dg_X1_countWays_8_112 19 rfl rfl) rfl
theorem dX1_countWays_104 : decode cX1_countWays 104 = .ok (.goto (-43), 3) := q_goto (bat_get dg_X1_countWays_8_112 20 rfl rfl) rfl
theorem dX1_countWays_80 : decode cX1_countWays 80 = .ok (.aload_n 0, 1) := q_aload_n0 (bat_get dg_X1_countWays_8_112 21 rfl rfl)
theorem dX1_countWays_81 : decode cX1_countWays 81 = .ok (.getfield 21, 3) := q_getfield (bat_get dg_X1_countWays_8_112 22 rfl rfl) rfl
theorem dX1_countWays_84 : decode cX1_countWays 84 = .ok (.iload_n 1, 1) := q_iload_n1 (bat_get dg_X1_countWays_8_112 23 rfl rfl)
theorem dX1_countWays_85 : decode cX1_countWays 85 = .ok (.iconst 1, 1) := q_iconst1 (bat_get dg_X1_countWays_8_112 24 rfl rfl)
theorem dX1_countWays_86 : decode cX1_countWays 86 = .ok (.iadd, 1) := q_iadd (bat_get dg_X1_countWays_8_112 25 rfl rfl)
theorem dX1_countWays_87 : decode cX1_countWays 87 = .ok (.bipush 10, 2) := q_bipush (bat_get dg_X1_countWays_8_112 26 rfl rfl) rfl
theorem dX1_countWays_89 : decode cX1_countWays 89 = .ok (.imul, 1) := q_imul (bat_get dg_X1_countWays_8_112 27 rfl rfl)
theorem dX1_countWays_90 : decode cX1_countWays 90 = .ok (.iload 6, 2) := q_iload (bat_get dg_X1_countWays_8_112 28 rfl rfl)
theorem dX1_countWays_92 : decode cX1_countWays 92 = .ok (.iadd, 1) := q_iadd (bat_get dg_X1_countWays_8_112 29 rfl rfl)
theorem dX1_countWays_93 : decode cX1_countWays 93 = .ok (.laload, 1) := q_laload (bat_get dg_X1_countWays_8_112 30 rfl rfl)
theorem dX1_countWays_94 : decode cX1_countWays 94 = .ok (.goto 4, 3) := q_goto (bat_get dg_X1_countWays_8_112 31 rfl rfl) rfl
theorem dX1_countWays_8 : decode cX1_countWays 8 = .ok (.aload_n 0, 1) := q_aload_n0 (bat_get dg_X1_countWays_8_112 32 rfl rfl)
theorem dX1_countWays_9 : decode cX1_countWays 9 = .ok (.getfield 21, 3) := q_getfield (bat_get dg_X1_countWays_8_112 33 rfl rfl) rfl
theorem dX1_countWays_12 : decode cX1_countWays 12 = .ok (.aload_n 0, 1) := q_aload_n0 (bat_get dg_X1_countWays_8_112 34 rfl rfl)
theorem dX1_countWays_13 : decode cX1_countWays 13 = .ok (.getfield 31, 3) := q_getfield (bat_get dg_X1_countWays_8_112 35 rfl rfl) rfl
theorem dX1_countWays_16 : decode cX1_countWays 16 = .ok (.bipush 10, 2) := q_bipush (bat_get dg_X1_countWays_8_112 36 rfl rfl) rfl
theorem dX1_countWays_18 : decode cX1_countWays 18 = .ok (.imul, 1) := q_imul (bat_get dg_X1_countWays_8_112 37 rfl rfl)
theorem dX1_countWays_19 : decode cX1_countWays 19 = .ok (.iload_n 1, 1) := q_iload_n1 (bat_get dg_X1_countWays_8_112 38 rfl rfl)
theorem dX1_countWays_20 : decode cX1_countWays 20 = .ok (.iadd, 1) := q_iadd (bat_get dg_X1_countWays_8_112 39 rfl rfl)
theorem dg_X1_countWays_21_21 : bqL cX1_countWays 21 [(0, [10]), (1, [80]), (2, [132, 1, 1]), (5, [167, 255, 232])] = true := by decide +kernel
theorem dX1_countWays_21 : decode cX1_countWays 21 = .ok (.lconst 1, 1) := q_lconst1 (bat_get dg_X1_countWays_21_21 0 rfl rfl)
theorem dX1_countWays_22 : decode cX1_countWays 22 = .ok (.lastore, 1) := q_lastore (bat_get dg_X1_countWays_21_21 1 rfl rfl)
theorem dX1_countWays_23 : decode cX1_countWays 23 = .ok (.iinc 1 1, 3) := q_iinc (bat_get dg_X1_countWays_21_21 2 rfl rfl) rfl
theorem dX1_countWays_26 : decode cX1_countWays 26 = .ok (.goto (-24), 3) := q_goto (bat_get dg_X1_countWays_21_21 3 rfl rfl) rfl
theorem w_2_99 : (Cond.fieldLink RX1 21 "SameKeeper$Graph" "ways" "[J") ∈ wsL_law := sk_mem (ck_2 _ (List.mem_of_getElem? (i := 99) rfl)) rfl
theorem w_4_64 : (Cond.code yX1_countWays cX1_countWays 7 (some .long)) ∈ wsL_law := sk_mem (ck_4 _ (List.mem_of_getElem? (i := 64) rfl)) rfl
set_option maxHeartbeats 4000000 in
set_option maxRecDepth 100000 in
theorem c_countWays (l : Launch) (D : va_G) (cI cJ cC cZ cS : ClassId) (q : Nat → Nat) (gd : Nat) (gs : Nat) (e1 : Nat → Int32) (e2 : Nat → Int32) (e3 : Nat → Int32) (e4 : Nat → Int64) (hgd : gd ≤ 9) (hgs : gs ≤ 9) : skM l yX1_countWays cX1_countWays 7 (some .long) 1 22 0 0 D (skT cI cJ cC cZ cS) [.ref (q 11)] [ro_rrrrrrrnn (q 11) 1 (q 10) (q 67) (q 68) (q 69) (q 70) (q 71) (q 72) gd gs, ra_I (q 67) cI 90 e1, ra_I (q 68) cI 9 e2, ra_I (q 69) cI 10 e3, ra_J (q 70) cJ 100 e4] (skL D (skT cI cJ cC cZ cS) (fun (r : Int64) (u : va_W) => ∃ (g4 : Nat → Int64), u = [ro_rrrrrrrnn (q 11) 1 (q 10) (q 67) (q 68) (q 69) (q 70) (q 71) (q 72) gd gs, ra_I (q 67) cI 90 e1, ra_I (q 68) cI 9 e2, ra_I (q 69) cI 10 e3, ra_J (q 70) cJ 100 g4])) := by
  refine skM_of pf_X1_countWays (Nat.le_of_ble_eq_true rfl) ?_
  intro p e s m below meth c A ls E hP hD hl
  refine skE_el E (fun hx hb hr hml hlocks hin hown hts hK hA => ?_)
  have hown : s.vm.findClass RX1 = some m.cls := hown
  have hS : va_S A s.heap s.heap [] := va_S.rf
  have hl : lv_has ls 7 [(0, .ref (q 11))] := hl
  refine lv_iconst (v := 0) hx hb dX1_countWays_0 ic_0 ?_
  refine lv_istore_n (lv' := [(1, .int 0), (0, .ref (q 11))]) hx hb dX1_countWays_1 rfl hl (by decide) rfl (fun ls hl => ?_)
  have lp_1 : ∀ (n_2 : Nat) (i : Nat) (a4 : Nat → Int64) (H : Heap) (locs : List Loc) (ls : Array Slot), 10 - i < n_2 → (i ≤ 10) → va_P D vwCl [ro_rrrrrrrnn (q 11) 1 (q 10) (q 67) (q 68) (q 69) (q 70) (q 71) (q 72) gd gs, ra_I (q 67) cI 90 e1, ra_I (q 68) cI 9 e2, ra_I (q 69) cI 10 e3, ra_J (q 70) cJ 100 a4] H → va_D A [ro_rrrrrrrnn (q 11) 1 (q 10) (q 67) (q 68) (q 69) (q 70) (q 71) (q 72) gd gs, ra_I (q 67) cI 90 e1, ra_I (q 68) cI 9 e2, ra_I (q 69) cI 10 e3, ra_J (q 70) cJ 100 a4] → va_S A s.heap H locs → lv_has ls 7 [(1, .int (nI i)), (0, .ref (q 11))] → W p l e { frames := 1, cells := 0, slots := 0, locals := 22 } s m ([.ref (q 11)] : List Value).toArray below meth c H locs 0 0 (MQ below (skL D (skT cI cJ cC cZ cS) (fun (r : Int64) (u : va_W) => ∃ (g4 : Nat → Int64), u = [ro_rrrrrrrnn (q 11) 1 (q 10) (q 67) (q 68) (q 69) (q 70) (q 71) (q 72) gd gs, ra_I (q 67) cI 90 e1, ra_I (q 68) cI 9 e2, ra_I (q 69) cI 10 e3, ra_J (q 70) cJ 100 g4]) A) ([.ref (q 11)] : List Value).toArray s 0 0 A) (F0 m 2 ls []) := by
    intro n_2
    induction n_2 with
    | zero => intro i a4 H locs ls hm; exact absurd hm (Nat.not_lt_zero _)
    | succ n_2 ih_lp_1 =>
      intro i a4 H locs ls hm hi hP hD hS hl
      refine lv_iload_n hx hb dX1_countWays_2 rfl (lv_at hl 0 rfl) ?_
      refine lv_bipush (v := 10) hx hb dX1_countWays_3 (by decide) ?_
      refine lv_icmp_ge (tgt := 29) hx hb dX1_countWays_5 (by decide) (fun c_3 => ?_) (fun c_3 => ?_)
      · have c_3 : 10 ≤ i := (nle 10 i (Nat.le_of_ble_eq_true rfl) (by omega)).mp c_3
        refine lv_aload_n hx hb dX1_countWays_29 rfl (lv_at hl 1 rfl) ?_
        refine sk_get (v := .int (nI gd)) (C := RX1) (T := TX1) (N := 9) hx hb hts inlX1 hown hK hP 0 rfl rfl 7 (Nat.le_of_ble_eq_true rfl) w_2_102 rfl dX1_countWays_30 ?_
        refine lv_iconst (v := 1) hx hb dX1_countWays_33 ic_1 ?_
        refine lv_isub hx hb dX1_countWays_34 ?_
        refine lv_istore_n (lv' := [(1, .int (nI gd - 1)), (0, .ref (q 11))]) hx hb dX1_countWays_35 rfl hl (by decide) rfl (fun ls hl => ?_)
        have lp_4 : ∀ (n_5 : Nat) (dd : Nat) (b4 : Nat → Int64) (H : Heap) (locs : List Loc) (ls : Array Slot), dd < n_5 → (dd ≤ 9) → va_P D vwCl [ro_rrrrrrrnn (q 11) 1 (q 10) (q 67) (q 68) (q 69) (q 70) (q 71) (q 72) gd gs, ra_I (q 67) cI 90 e1, ra_I (q 68) cI 9 e2, ra_I (q 69) cI 10 e3, ra_J (q 70) cJ 100 b4] H → va_D A [ro_rrrrrrrnn (q 11) 1 (q 10) (q 67) (q 68) (q 69) (q 70) (q 71) (q 72) gd gs, ra_I (q 67) cI 90 e1, ra_I (q 68) cI 9 e2, ra_I (q 69) cI 10 e3, ra_J (q 70) cJ 100 b4] → va_S A s.heap H locs → lv_has ls 7 [(1, .int (nI dd - 1)), (0, .ref (q 11))] → W p l e { frames := 1, cells := 0, slots := 0, locals := 22 } s m ([.ref (q 11)] : List Value).toArray below meth c H locs 0 0 (MQ below (skL D (skT cI cJ cC cZ cS) (fun (r : Int64) (u : va_W) => ∃ (g4 : Nat → Int64), u = [ro_rrrrrrrnn (q 11) 1 (q 10) (q 67) (q 68) (q 69) (q 70) (q 71) (q 72) gd gs, ra_I (q 67) cI 90 e1, ra_I (q 68) cI 9 e2, ra_I (q 69) cI 10 e3, ra_J (q 70) cJ 100 g4]) A) ([.ref (q 11)] : List Value).toArray s 0 0 A) (F0 m 36 ls []) := by
          intro n_5
          induction n_5 with
          | zero => intro dd b4 H locs ls hm; exact absurd hm (Nat.not_lt_zero _)
          | succ n_5 ih_lp_4 =>
            intro dd b4 H locs ls hm hdd hP hD hS hl
            refine lv_iload_n hx hb dX1_countWays_36 rfl (lv_at hl 0 rfl) ?_
            refine lv_if_lt (tgt := 132) hx hb dX1_countWays_37 (by decide) (fun c_6 => ?_) (fun c_6 => ?_)
            · have c_6 : dd = 0 := npm0 dd (by omega) c_6
              refine lv_aload_n hx hb dX1_countWays_132 rfl (lv_at hl 1 rfl) ?_
              refine sk_get (v := .ref (q 70)) (C := RX1) (T := TX1) (N := 9) hx hb hts inlX1 hown hK hP 0 rfl rfl 4 (Nat.le_of_ble_eq_true rfl) w_2_99 rfl dX1_countWays_133 ?_
              refine lv_aload_n hx hb dX1_countWays_136 rfl (lv_at hl 1 rfl) ?_
              refine sk_get (v := .int (nI gs)) (C := RX1) (T := TX1) (N := 9) hx hb hts inlX1 hown hK hP 0 rfl rfl 8 (Nat.le_of_ble_eq_true rfl) w_2_103 rfl dX1_countWays_137 ?_
              refine va_lald hx hb hK.1 hP 4 1 rfl rfl (vin gs 100 (by omega) (Nat.le_of_ble_eq_true rfl)) dX1_countWays_140 ?_
              refine lv_topl (fun v_7 ev_7 => ?_)
              exact sk_lret hx hb hr hlocks hK hP hD hS (⟨b4, rfl⟩) (Nat.le_of_ble_eq_true rfl) (Nat.le_of_ble_eq_true rfl) dX1_countWays_141
            · have c_6 : 1 ≤ dd := npm1 dd c_6
              rw [npred dd (by omega)] at hl
              refine lv_iconst (v := 0) hx hb dX1_countWays_40 ic_0 ?_
              refine lv_istore_n (lv' := [(2, .int 0), (1, .int (nI (dd - 1))), (0, .ref (q 11))]) hx hb dX1_countWays_41 rfl hl (by decide) rfl (fun ls hl => ?_)
              have lp_8 : ∀ (n_9 : Nat) (jj : Nat) (c4 : Nat → Int64) (H : Heap) (locs : List Loc) (ls : Array Slot), 10 - jj < n_9 → (jj ≤ 10) → va_P D vwCl [ro_rrrrrrrnn (q 11) 1 (q 10) (q 67) (q 68) (q 69) (q 70) (q 71) (q 72) gd gs, ra_I (q 67) cI 90 e1, ra_I (q 68) cI 9 e2, ra_I (q 69) cI 10 e3, ra_J (q 70) cJ 100 c4] H → va_D A [ro_rrrrrrrnn (q 11) 1 (q 10) (q 67) (q 68) (q 69) (q 70) (q 71) (q 72) gd gs, ra_I (q 67) cI 90 e1, ra_I (q 68) cI 9 e2, ra_I (q 69) cI 10 e3, ra_J (q 70) cJ 100 c4] → va_S A s.heap H locs → lv_has ls 7 [(2, .int (nI jj)), (1, .int (nI (dd - 1))), (0, .ref (q 11))] → W p l e { frames := 1, cells := 0, slots := 0, locals := 22 } s m ([.ref (q 11)] : List Value).toArray below meth c H locs 0 0 (MQ below (skL D (skT cI cJ cC cZ cS) (fun (r : Int64) (u : va_W) => ∃ (g4 : Nat → Int64), u = [ro_rrrrrrrnn (q 11) 1 (q 10) (q 67) (q 68) (q 69) (q 70) (q 71) (q 72) gd gs, ra_I (q 67) cI 90 e1, ra_I (q 68) cI 9 e2, ra_I (q 69) cI 10 e3, ra_J (q 70) cJ 100 g4]) A) ([.ref (q 11)] : List Value).toArray s 0 0 A) (F0 m 42 ls []) := by
                intro n_9
                induction n_9 with
                | zero => intro jj c4 H locs ls hm; exact absurd hm (Nat.not_lt_zero _)
                | succ n_9 ih_lp_8 =>
                  intro jj c4 H locs ls hm hjj hP hD hS hl
                  refine lv_iload_n hx hb dX1_countWays_42 rfl (lv_at hl 0 rfl) ?_
                  refine lv_bipush (v := 10) hx hb dX1_countWays_43 (by decide) ?_
                  refine lv_icmp_ge (tgt := 126) hx hb dX1_countWays_45 (by decide) (fun c_10 => ?_) (fun c_10 => ?_)
                  · have c_10 : 10 ≤ jj := (nle 10 jj (Nat.le_of_ble_eq_true rfl) (by omega)).mp c_10
                    refine lv_iinc (v := nI (dd - 1) - 1) (lv' := [(1, .int (nI (dd - 1) - 1)), (2, .int (nI jj)), (0, .ref (q 11))]) hx hb dX1_countWays_126 hl (k := 1) rfl (ndn _) (by decide) rfl (fun ls hl => ?_)
                    refine lv_goto (tgt := 36) hx hb dX1_countWays_129 (by decide) ?_
                    exact ih_lp_4 (dd - 1) c4 _ _ _ (by omega) (by omega) hP hD hS (lv_sub hl [0, 2] rfl)
                  · have c_10 : ¬ (10 ≤ jj) := fun h => c_10 ((nle 10 jj (Nat.le_of_ble_eq_true rfl) (by omega)).mpr h)
                    refine lv_aload_n hx hb dX1_countWays_48 rfl (lv_at hl 2 rfl) ?_
                    refine lv_iload_n hx hb dX1_countWays_49 rfl (lv_at hl 1 rfl) ?_
                    refine lv_iload_n hx hb dX1_countWays_50 rfl (lv_at hl 0 rfl) ?_
                    refine sk_Vi (q0 := 0) (n := 2) (rest := []) (wr := fmR om_5_1e _) ⟨hx, hb, hml, hown, hts⟩ hl.1 (c_next l D cI cJ cC cZ cS q gd gs e1 e2 e3 (dd - 1) jj (by omega) (by omega)) w_4_57 w_4_59 w_0_20 w_1_13 w_4_60 hd_X1_next_2 ⟨⟨(Nat.le_of_ble_eq_true rfl), (Nat.le_of_ble_eq_true rfl)⟩, (Nat.le_of_ble_eq_true rfl), (Nat.le_of_ble_eq_true rfl)⟩ hK hP hD hS hA (fmT om_5_1e 0) (fmF om_5_1e 0) (fm_C1 rfl rfl) (fm_R rfl rfl) (fm_nT om_5_1e 0) (fm_nF om_5_1e 0) (fm_di om_5_1e 0) rfl rfl rfl rfl (Nat.le_of_ble_eq_true rfl) dX1_countWays_51 (fun r_11 u H locs hw hP hD hS => ?_)
                    refine o_mgE (ws' := [ro_rrrrrrrnn (q 11) 1 (q 10) (q 67) (q 68) (q 69) (q 70) (q 71) (q 72) gd gs, ra_I (q 67) cI 90 e1, ra_I (q 68) cI 9 e2, ra_I (q 69) cI 10 e3, ra_J (q 70) cJ 100 c4]) hw hP hD rfl (fun hP hD => ?_)
                    refine lv_istore_n (lv' := [(3, .int r_11), (2, .int (nI jj)), (1, .int (nI (dd - 1))), (0, .ref (q 11))]) hx hb dX1_countWays_54 rfl hl (by decide) rfl (fun ls hl => ?_)
                    refine lv_lconst (v := 0) hx hb dX1_countWays_55 (by decide) ?_
                    refine lv_lstore (lv' := [(4, .long 0), (3, .int r_11), (2, .int (nI jj)), (1, .int (nI (dd - 1))), (0, .ref (q 11))]) hx hb dX1_countWays_56 hl (by decide) rfl (fun ls hl => ?_)
                    refine lv_iconst (v := 0) hx hb dX1_countWays_58 ic_0 ?_
                    refine lv_istore (lv' := [(6, .int 0), (4, .long 0), (3, .int r_11), (2, .int (nI jj)), (1, .int (nI (dd - 1))), (0, .ref (q 11))]) hx hb dX1_countWays_59 hl (by decide) rfl (fun ls hl => ?_)
                    have lp_12 : ∀ (n_13 : Nat) (kk : Nat) (sm : Int64) (H : Heap) (locs : List Loc) (ls : Array Slot), 10 - kk < n_13 → (kk ≤ 10) → va_P D vwCl [ro_rrrrrrrnn (q 11) 1 (q 10) (q 67) (q 68) (q 69) (q 70) (q 71) (q 72) gd gs, ra_I (q 67) cI 90 e1, ra_I (q 68) cI 9 e2, ra_I (q 69) cI 10 e3, ra_J (q 70) cJ 100 c4] H → va_D A [ro_rrrrrrrnn (q 11) 1 (q 10) (q 67) (q 68) (q 69) (q 70) (q 71) (q 72) gd gs, ra_I (q 67) cI 90 e1, ra_I (q 68) cI 9 e2, ra_I (q 69) cI 10 e3, ra_J (q 70) cJ 100 c4] → va_S A s.heap H locs → lv_has ls 7 [(6, .int (nI kk)), (4, .long sm), (3, .int r_11), (2, .int (nI jj)), (1, .int (nI (dd - 1))), (0, .ref (q 11))] → W p l e { frames := 1, cells := 0, slots := 0, locals := 22 } s m ([.ref (q 11)] : List Value).toArray below meth c H locs 0 0 (MQ below (skL D (skT cI cJ cC cZ cS) (fun (r : Int64) (u : va_W) => ∃ (g4 : Nat → Int64), u = [ro_rrrrrrrnn (q 11) 1 (q 10) (q 67) (q 68) (q 69) (q 70) (q 71) (q 72) gd gs, ra_I (q 67) cI 90 e1, ra_I (q 68) cI 9 e2, ra_I (q 69) cI 10 e3, ra_J (q 70) cJ 100 g4]) A) ([.ref (q 11)] : List Value).toArray s 0 0 A) (F0 m 61 ls []) := by
                      intro n_13
                      induction n_13 with
                      | zero => intro kk sm H locs ls hm; exact absurd hm (Nat.not_lt_zero _)
                      | succ n_13 ih_lp_12 =>
                        intro kk sm H locs ls hm hkk hP hD hS hl
                        refine lv_iload hx hb dX1_countWays_61 (lv_at hl 0 rfl) ?_
                        refine lv_bipush (v := 10) hx hb dX1_countWays_63 (by decide) ?_
                        refine lv_icmp_ge (tgt := 107) hx hb dX1_countWays_65 (by decide) (fun c_14 => ?_) (fun c_14 => ?_)
                        · have c_14 : 10 ≤ kk := (nle 10 kk (Nat.le_of_ble_eq_true rfl) (by omega)).mp c_14
                          refine lv_aload_n hx hb dX1_countWays_107 rfl (lv_at hl 5 rfl) ?_
                          refine sk_get (v := .ref (q 70)) (C := RX1) (T := TX1) (N := 9) hx hb hts inlX1 hown hK hP 0 rfl rfl 4 (Nat.le_of_ble_eq_true rfl) w_2_99 rfl dX1_countWays_108 ?_
                          refine lv_iload_n hx hb dX1_countWays_111 rfl (lv_at hl 4 rfl) ?_
                          refine lv_bipush (v := 10) hx hb dX1_countWays_112 (by decide) ?_
                          refine lv_imul hx hb dX1_countWays_114 ?_
                          refine sk_top (nI ((dd - 1) * 10)) (nmul (dd - 1) 10) ?_
                          refine lv_iload_n hx hb dX1_countWays_115 rfl (lv_at hl 3 rfl) ?_
                          refine lv_iadd hx hb dX1_countWays_116 ?_
                          refine sk_top (nI ((dd - 1) * 10 + jj)) (nI_add ((dd - 1) * 10) jj) ?_
                          refine lv_lload hx hb dX1_countWays_117 (lv_at hl 1 rfl) ?_
                          refine sk_lastO (ws' := fun f_15 => [ro_rrrrrrrnn (q 11) 1 (q 10) (q 67) (q 68) (q 69) (q 70) (q 71) (q 72) gd gs, ra_I (q 67) cI 90 e1, ra_I (q 68) cI 9 e2, ra_I (q 69) cI 10 e3, ra_J (q 70) cJ 100 f_15]) hx hb hK hP hD hS 4 1 rfl rfl (vin ((dd - 1) * 10 + jj) 100 (by omega) (Nat.le_of_ble_eq_true rfl)) (fun _ => rfl) dX1_countWays_119 (fun f_15 H locs hP hD hS => ?_)
                          refine lv_iinc (v := nI (jj + 1)) (lv' := [(2, .int (nI (jj + 1))), (6, .int (nI kk)), (4, .long sm), (3, .int r_11), (1, .int (nI (dd - 1))), (0, .ref (q 11))]) hx hb dX1_countWays_120 hl (k := 3) rfl (ninc jj 1 (by decide)) (by decide) rfl (fun ls hl => ?_)
                          refine lv_goto (tgt := 42) hx hb dX1_countWays_123 (by decide) ?_
                          exact ih_lp_8 (jj + 1) f_15 _ _ _ (by omega) (by omega) hP hD hS (lv_sub hl [0, 4, 5] rfl)
                        · have c_14 : ¬ (10 ≤ kk) := fun h => c_14 ((nle 10 kk (Nat.le_of_ble_eq_true rfl) (by omega)).mpr h)
                          refine lv_lload hx hb dX1_countWays_68 (lv_at hl 1 rfl) ?_
                          refine lv_iload_n hx hb dX1_countWays_70 rfl (lv_at hl 2 rfl) ?_
                          refine lv_iload hx hb dX1_countWays_71 (lv_at hl 0 rfl) ?_
                          refine lv_ishr hx hb dX1_countWays_73 ?_
                          refine lv_topi (fun v_16 ev_16 => ?_)
                          refine lv_iconst (v := 1) hx hb dX1_countWays_74 ic_1 ?_
                          refine lv_iand hx hb dX1_countWays_75 ?_
                          refine lv_topi (fun v_17 ev_17 => ?_)
                          refine lv_iconst (v := 1) hx hb dX1_countWays_76 ic_1 ?_
                          refine lv_icmp_ne (tgt := 97) hx hb dX1_countWays_77 (by decide) (fun c_18 => ?_) (fun c_18 => ?_)
                          · skip
                            refine lv_lconst (v := 0) hx hb dX1_countWays_97 (by decide) ?_
                            refine lv_ladd hx hb dX1_countWays_98 ?_
                            refine lv_topl (fun v_19 ev_19 => ?_)
                            refine lv_lstore (lv' := [(4, .long v_19), (6, .int (nI kk)), (3, .int r_11), (2, .int (nI jj)), (1, .int (nI (dd - 1))), (0, .ref (q 11))]) hx hb dX1_countWays_99 hl (by decide) rfl (fun ls hl => ?_)
                            refine lv_iinc (v := nI (kk + 1)) (lv' := [(6, .int (nI (kk + 1))), (4, .long v_19), (3, .int r_11), (2, .int (nI jj)), (1, .int (nI (dd - 1))), (0, .ref (q 11))]) hx hb dX1_countWays_101 hl (k := 1) rfl (ninc kk 1 (by decide)) (by decide) rfl (fun ls hl => ?_)
                            refine lv_goto (tgt := 61) hx hb dX1_countWays_104 (by decide) ?_
                            exact ih_lp_12 (kk + 1) v_19 _ _ _ (by omega) (by omega) hP hD hS (lv_sub hl [0, 1, 2, 3, 4, 5] rfl)
                          · skip
                            refine lv_aload_n hx hb dX1_countWays_80 rfl (lv_at hl 5 rfl) ?_
                            refine sk_get (v := .ref (q 70)) (C := RX1) (T := TX1) (N := 9) hx hb hts inlX1 hown hK hP 0 rfl rfl 4 (Nat.le_of_ble_eq_true rfl) w_2_99 rfl dX1_countWays_81 ?_
                            refine lv_iload_n hx hb dX1_countWays_84 rfl (lv_at hl 4 rfl) ?_
                            refine lv_iconst (v := 1) hx hb dX1_countWays_85 ic_1 ?_
                            refine lv_iadd hx hb dX1_countWays_86 ?_
                            refine sk_top (nI (dd - 1 + 1)) (nI_add (dd - 1) 1) ?_
                            refine lv_bipush (v := 10) hx hb dX1_countWays_87 (by decide) ?_
                            refine lv_imul hx hb dX1_countWays_89 ?_
                            refine sk_top (nI ((dd - 1 + 1) * 10)) (nmul (dd - 1 + 1) 10) ?_
                            refine lv_iload hx hb dX1_countWays_90 (lv_at hl 0 rfl) ?_
                            refine lv_iadd hx hb dX1_countWays_92 ?_
                            refine sk_top (nI ((dd - 1 + 1) * 10 + kk)) (nI_add ((dd - 1 + 1) * 10) kk) ?_
                            refine va_lald hx hb hK.1 hP 4 1 rfl rfl (vin ((dd - 1 + 1) * 10 + kk) 100 (by omega) (Nat.le_of_ble_eq_true rfl)) dX1_countWays_93 ?_
                            refine lv_topl (fun v_20 ev_20 => ?_)
                            refine lv_goto (tgt := 98) hx hb dX1_countWays_94 (by decide) ?_
                            refine lv_ladd hx hb dX1_countWays_98 ?_
                            refine lv_topl (fun v_21 ev_21 => ?_)
                            refine lv_lstore (lv' := [(4, .long v_21), (6, .int (nI kk)), (3, .int r_11), (2, .int (nI jj)), (1, .int (nI (dd - 1))), (0, .ref (q 11))]) hx hb dX1_countWays_99 hl (by decide) rfl (fun ls hl => ?_)
                            refine lv_iinc (v := nI (kk + 1)) (lv' := [(6, .int (nI (kk + 1))), (4, .long v_21), (3, .int r_11), (2, .int (nI jj)), (1, .int (nI (dd - 1))), (0, .ref (q 11))]) hx hb dX1_countWays_101 hl (k := 1) rfl (ninc kk 1 (by decide)) (by decide) rfl (fun ls hl => ?_)
                            refine lv_goto (tgt := 61) hx hb dX1_countWays_104 (by decide) ?_
                            exact ih_lp_12 (kk + 1) v_21 _ _ _ (by omega) (by omega) hP hD hS (lv_sub hl [0, 1, 2, 3, 4, 5] rfl)
                    exact lp_12 (10 - 0 + 1) 0 0 _ _ _ (Nat.lt_succ_self _) (by omega) hP hD hS (lv_sub hl [0, 1, 2, 3, 4, 5] rfl)
              exact lp_8 (10 - 0 + 1) 0 b4 _ _ _ (Nat.lt_succ_self _) (by omega) hP hD hS (lv_sub hl [0, 1, 2] rfl)
        exact lp_4 (gd + 1) gd a4 _ _ _ (Nat.lt_succ_self _) hgd hP hD hS (lv_sub hl [0, 1] rfl)
      · have c_3 : ¬ (10 ≤ i) := fun h => c_3 ((nle 10 i (Nat.le_of_ble_eq_true rfl) (by omega)).mpr h)
        refine lv_aload_n hx hb dX1_countWays_8 rfl (lv_at hl 1 rfl) ?_
        refine sk_get (v := .ref (q 70)) (C := RX1) (T := TX1) (N := 9) hx hb hts inlX1 hown hK hP 0 rfl rfl 4 (Nat.le_of_ble_eq_true rfl) w_2_99 rfl dX1_countWays_9 ?_
        refine lv_aload_n hx hb dX1_countWays_12 rfl (lv_at hl 1 rfl) ?_
        refine sk_get (v := .int (nI gd)) (C := RX1) (T := TX1) (N := 9) hx hb hts inlX1 hown hK hP 0 rfl rfl 7 (Nat.le_of_ble_eq_true rfl) w_2_102 rfl dX1_countWays_13 ?_
        refine lv_bipush (v := 10) hx hb dX1_countWays_16 (by decide) ?_
        refine lv_imul hx hb dX1_countWays_18 ?_
        refine sk_top (nI (gd * 10)) (nmul gd 10) ?_
        refine lv_iload_n hx hb dX1_countWays_19 rfl (lv_at hl 0 rfl) ?_
        refine lv_iadd hx hb dX1_countWays_20 ?_
        refine sk_top (nI (gd * 10 + i)) (nI_add (gd * 10) i) ?_
        refine lv_lconst (v := 1) hx hb dX1_countWays_21 (by decide) ?_
        refine sk_lastO (ws' := fun f_22 => [ro_rrrrrrrnn (q 11) 1 (q 10) (q 67) (q 68) (q 69) (q 70) (q 71) (q 72) gd gs, ra_I (q 67) cI 90 e1, ra_I (q 68) cI 9 e2, ra_I (q 69) cI 10 e3, ra_J (q 70) cJ 100 f_22]) hx hb hK hP hD hS 4 1 rfl rfl (vin (gd * 10 + i) 100 (by omega) (Nat.le_of_ble_eq_true rfl)) (fun _ => rfl) dX1_countWays_22 (fun f_22 H locs hP hD hS => ?_)
        refine lv_iinc (v := nI (i + 1)) (lv' := [(1, .int (nI (i + 1))), (0, .ref (q 11))]) hx hb dX1_countWays_23 hl (k := 0) rfl (ninc i 1 (by decide)) (by decide) rfl (fun ls hl => ?_)
        refine lv_goto (tgt := 2) hx hb dX1_countWays_26 (by decide) ?_
        exact ih_lp_1 (i + 1) f_22 _ _ _ (by omega) (by omega) hP hD hS (lv_sub hl [0, 1] rfl)
  exact lp_1 (10 - 0 + 1) 0 e4 _ _ _ (Nat.lt_succ_self _) (by omega) hP hD hS (lv_sub hl [0, 1] rfl)
theorem dg_X1_countComings_0_0 : bqL cX1_countComings 0 [(0, [42]), (1, [180, 0, 25]), (4, [9]), (5, [184, 0, 76]), (8, [42]), (9, [180, 0, 25]), (12, [42]), (13, [180, 0, 35]), (16, [10]), (17, [80]), (18, [3]), (19, [60]), (20, [27]), (21, [42]), (22, [180, 0, 31]), (25, [162, 0, 84]), (109, [177]), (28, [3]), (29, [61]), (30, [28]), (31, [16, 10]), (33, [162, 0, 70]), (103, [132, 1, 1]), (106, [167, 255, 170]), (36, [42]), (37, [27]), (38, [28]), (39, [182, 0, 66]), (42, [62]), (43, [3]), (44, [54, 4]), (46, [21, 4]), (48, [16, 10]), (50, [162, 0, 47]), (97, [132, 2, 1]), (100, [167, 255, 186]), (53, [29]), (54, [21, 4]), (56, [122]), (57, [4])] = true := by decide +kernel
theorem dX1_countComings_0 : decode cX1_countComings 0 = .ok (.aload_n 0, 1) := q_aload_n0 (bat_get dg_X1_countComings_0_0 0 rfl rfl)
theorem dX1_countComings_1 : decode cX1_countComings 1 = .ok (.getfield 25, 3) := q_getfield (bat_get dg_X1_countComings_0_0 1 rfl rfl) rfl
theorem dX1_countComings_4 : decode cX1_countComings 4 = .ok (.lconst 0, 1) := q_lconst0 (bat_get dg_X1_countComings_0_0 2 rfl rfl)
theorem dX1_countComings_5 : decode cX1_countComings 5 = .ok (.invokestatic 76, 3) := q_invokestatic (bat_get dg_X1_countComings_0_0 3 rfl rfl) rfl
theorem dX1_countComings_8 : decode cX1_countComings 8 = .ok (.aload_n 0, 1) := q_aload_n0 (bat_get dg_X1_countComings_0_0 4 rfl rfl)
theorem dX1_countComings_9 : decode cX1_countComings 9 = .ok (.getfield 25, 3) := q_getfield (bat_get dg_X1_countComings_0_0 5 rfl rfl) rfl
theorem dX1_countComings_12 : decode cX1_countComings 12 = .ok (.aload_n 0, 1) := q_aload_n0 (bat_get dg_X1_countComings_0_0 6 rfl rfl)
theorem dX1_countComings_13 : decode cX1_countComings 13 = .ok (.getfield 35, 3) := q_getfield (bat_get dg_X1_countComings_0_0 7 rfl rfl) rfl
theorem dX1_countComings_16 : decode cX1_countComings 16 = .ok (.lconst 1, 1) := q_lconst1 (bat_get dg_X1_countComings_0_0 8 rfl rfl)
theorem dX1_countComings_17 : decode cX1_countComings 17 = .ok (.lastore, 1) := q_lastore (bat_get dg_X1_countComings_0_0 9 rfl rfl)
theorem dX1_countComings_18 : decode cX1_countComings 18 = .ok (.iconst 0, 1) := q_iconst0 (bat_get dg_X1_countComings_0_0 10 rfl rfl)
theorem dX1_countComings_19 : decode cX1_countComings 19 = .ok (.istore_n 1, 1) := q_istore_n1 (bat_get dg_X1_countComings_0_0 11 rfl rfl)
theorem dX1_countComings_20 : decode cX1_countComings 20 = .ok (.iload_n 1, 1) := q_iload_n1 (bat_get dg_X1_countComings_0_0 12 rfl rfl)
theorem dX1_countComings_21 : decode cX1_countComings 21 = .ok (.aload_n 0, 1) := q_aload_n0 (bat_get dg_X1_countComings_0_0 13 rfl rfl)
theorem dX1_countComings_22 : decode cX1_countComings 22 = .ok (.getfield 31, 3) := q_getfield (bat_get dg_X1_countComings_0_0 14 rfl rfl) rfl
theorem dX1_countComings_25 : decode cX1_countComings 25 = .ok (.if_icmp .ge 84, 3) := q_if_icmp_ge (bat_get dg_X1_countComings_0_0 15 rfl rfl) rfl
theorem dX1_countComings_109 : decode cX1_countComings 109 = .ok (.return_, 1) := q_return_ (bat_get dg_X1_countComings_0_0 16 rfl rfl)
theorem dX1_countComings_28 : decode cX1_countComings 28 = .ok (.iconst 0, 1) := q_iconst0 (bat_get dg_X1_countComings_0_0 17 rfl rfl)
theorem dX1_countComings_29 : decode cX1_countComings 29 = .ok (.istore_n 2, 1) := q_istore_n2 (bat_get dg_X1_countComings_0_0 18 rfl rfl)
theorem dX1_countComings_30 : decode cX1_countComings 30 = .ok (.iload_n 2, 1) := q_iload_n2 (bat_get dg_X1_countComings_0_0 19 rfl rfl)
theorem dX1_countComings_31 : decode cX1_countComings 31 = .ok (.bipush 10, 2) := q_bipush (bat_get dg_X1_countComings_0_0 20 rfl rfl) rfl
theorem dX1_countComings_33 : decode cX1_countComings 33 = .ok (.if_icmp .ge 70, 3) := q_if_icmp_ge (bat_get dg_X1_countComings_0_0 21 rfl rfl) rfl
theorem dX1_countComings_103 : decode cX1_countComings 103 = .ok (.iinc 1 1, 3) := q_iinc (bat_get dg_X1_countComings_0_0 22 rfl rfl) rfl
theorem dX1_countComings_106 : decode cX1_countComings 106 = .ok (.goto (-86), 3) := q_goto (bat_get dg_X1_countComings_0_0 23 rfl rfl) rfl
theorem dX1_countComings_36 : decode cX1_countComings 36 = .ok (.aload_n 0, 1) := q_aload_n0 (bat_get dg_X1_countComings_0_0 24 rfl rfl)
theorem dX1_countComings_37 : decode cX1_countComings 37 = .ok (.iload_n 1, 1) := q_iload_n1 (bat_get dg_X1_countComings_0_0 25 rfl rfl)
theorem dX1_countComings_38 : decode cX1_countComings 38 = .ok (.iload_n 2, 1) := q_iload_n2 (bat_get dg_X1_countComings_0_0 26 rfl rfl)
theorem dX1_countComings_39 : decode cX1_countComings 39 = .ok (.invokevirtual 66, 3) := q_invokevirtual (bat_get dg_X1_countComings_0_0 27 rfl rfl) rfl
theorem dX1_countComings_42 : decode cX1_countComings 42 = .ok (.istore_n 3, 1) := q_istore_n3 (bat_get dg_X1_countComings_0_0 28 rfl rfl)
theorem dX1_countComings_43 : decode cX1_countComings 43 = .ok (.iconst 0, 1) := q_iconst0 (bat_get dg_X1_countComings_0_0 29 rfl rfl)
theorem dX1_countComings_44 : decode cX1_countComings 44 = .ok (.istore 4, 2) := q_istore (bat_get dg_X1_countComings_0_0 30 rfl rfl)
theorem dX1_countComings_46 : decode cX1_countComings 46 = .ok (.iload 4, 2) := q_iload (bat_get dg_X1_countComings_0_0 31 rfl rfl)
theorem dX1_countComings_48 : decode cX1_countComings 48 = .ok (.bipush 10, 2) := q_bipush (bat_get dg_X1_countComings_0_0 32 rfl rfl) rfl
theorem dX1_countComings_50 : decode cX1_countComings 50 = .ok (.if_icmp .ge 47, 3) := q_if_icmp_ge (bat_get dg_X1_countComings_0_0 33 rfl rfl) rfl
theorem dX1_countComings_97 : decode cX1_countComings 97 = .ok (.iinc 2 1, 3) := q_iinc (bat_get dg_X1_countComings_0_0 34 rfl rfl) rfl
theorem dX1_countComings_100 : decode cX1_countComings 100 = .ok (.goto (-70), 3) := q_goto (bat_get dg_X1_countComings_0_0 35 rfl rfl) rfl
theorem dX1_countComings_53 : decode cX1_countComings 53 = .ok (.iload_n 3, 1) := q_iload_n3 (bat_get dg_X1_countComings_0_0 36 rfl rfl)
theorem dX1_countComings_54 : decode cX1_countComings 54 = .ok (.iload 4, 2) := q_iload (bat_get dg_X1_countComings_0_0 37 rfl rfl)
theorem dX1_countComings_56 : decode cX1_countComings 56 = .ok (.ishr, 1) := q_ishr (bat_get dg_X1_countComings_0_0 38 rfl rfl)
theorem dX1_countComings_57 : decode cX1_countComings 57 = .ok (.iconst 1, 1) := q_iconst1 (bat_get dg_X1_countComings_0_0 39 rfl rfl)
theorem dg_X1_countComings_58_58 : bqL cX1_countComings 58 [(0, [126]), (1, [4]), (2, [160, 0, 31]), (33, [132, 4, 1]), (36, [167, 255, 208]), (5, [42]), (6, [180, 0, 25]), (9, [27]), (10, [4]), (11, [96]), (12, [16, 10]), (14, [104]), (15, [21, 4]), (17, [96]), (18, [92]), (19, [47]), (20, [42]), (21, [180, 0, 25]), (24, [27]), (25, [16, 10]), (27, [104]), (28, [28]), (29, [96]), (30, [47]), (31, [97]), (32, [80])] = true := by decide +kernel
theorem dX1_countComings_58 : decode cX1_countComings 58 = .ok (.iand, 1) := q_iand (bat_get dg_X1_countComings_58_58 0 rfl rfl)
theorem dX1_countComings_59 : decode cX1_countComings 59 = .ok (.iconst 1, 1) := q_iconst1 (bat_get dg_X1_countComings_58_58 1 rfl rfl)
theorem dX1_countComings_60 : decode cX1_countComings 60 = .ok (.if_icmp .ne 31, 3) := q_if_icmp_ne (bat_get dg_X1_countComings_58_58 2 rfl rfl) rfl
theorem dX1_countComings_91 : decode cX1_countComings 91 = .ok (.iinc 4 1, 3) := q_iinc (bat_get dg_X1_countComings_58_58 3 rfl rfl) rfl
theorem dX1_countComings_94 : decode cX1_countComings 94 = .ok (.goto (-48), 3) := q_goto (bat_get dg_X1_countComings_58_58 4 rfl rfl) rfl
theorem dX1_countComings_63 : decode cX1_countComings 63 = .ok (.aload_n 0, 1) := q_aload_n0 (bat_get dg_X1_countComings_58_58 5 rfl rfl)
theorem dX1_countComings_64 : decode cX1_countComings 64 = .ok (.getfield 25, 3) := q_getfield (bat_get dg_X1_countComings_58_58 6 rfl rfl) rfl
theorem dX1_countComings_67 : decode cX1_countComings 67 = .ok (.iload_n 1, 1) := q_iload_n1 (bat_get dg_X1_countComings_58_58 7 rfl rfl)
theorem dX1_countComings_68 : decode cX1_countComings 68 = .ok (.iconst 1, 1) := q_iconst1 (bat_get dg_X1_countComings_58_58 8 rfl rfl)
theorem dX1_countComings_69 : decode cX1_countComings 69 = .ok (.iadd, 1) := q_iadd (bat_get dg_X1_countComings_58_58 9 rfl rfl)
theorem dX1_countComings_70 : decode cX1_countComings 70 = .ok (.bipush 10, 2) := q_bipush (bat_get dg_X1_countComings_58_58 10 rfl rfl) rfl
theorem dX1_countComings_72 : decode cX1_countComings 72 = .ok (.imul, 1) := q_imul (bat_get dg_X1_countComings_58_58 11 rfl rfl)
theorem dX1_countComings_73 : decode cX1_countComings 73 = .ok (.iload 4, 2) := q_iload (bat_get dg_X1_countComings_58_58 12 rfl rfl)
theorem dX1_countComings_75 : decode cX1_countComings 75 = .ok (.iadd, 1) := q_iadd (bat_get dg_X1_countComings_58_58 13 rfl rfl)
theorem dX1_countComings_76 : decode cX1_countComings 76 = .ok (.dup2, 1) := q_dup2 (bat_get dg_X1_countComings_58_58 14 rfl rfl)
theorem dX1_countComings_77 : decode cX1_countComings 77 = .ok (.laload, 1) := q_laload (bat_get dg_X1_countComings_58_58 15 rfl rfl)
theorem dX1_countComings_78 : decode cX1_countComings 78 = .ok (.aload_n 0, 1) := q_aload_n0 (bat_get dg_X1_countComings_58_58 16 rfl rfl)
theorem dX1_countComings_79 : decode cX1_countComings 79 = .ok (.getfield 25, 3) := q_getfield (bat_get dg_X1_countComings_58_58 17 rfl rfl) rfl
theorem dX1_countComings_82 : decode cX1_countComings 82 = .ok (.iload_n 1, 1) := q_iload_n1 (bat_get dg_X1_countComings_58_58 18 rfl rfl)
theorem dX1_countComings_83 : decode cX1_countComings 83 = .ok (.bipush 10, 2) := q_bipush (bat_get dg_X1_countComings_58_58 19 rfl rfl) rfl
theorem dX1_countComings_85 : decode cX1_countComings 85 = .ok (.imul, 1) := q_imul (bat_get dg_X1_countComings_58_58 20 rfl rfl)
theorem dX1_countComings_86 : decode cX1_countComings 86 = .ok (.iload_n 2, 1) := q_iload_n2 (bat_get dg_X1_countComings_58_58 21 rfl rfl)
theorem dX1_countComings_87 : decode cX1_countComings 87 = .ok (.iadd, 1) := q_iadd (bat_get dg_X1_countComings_58_58 22 rfl rfl)
theorem dX1_countComings_88 : decode cX1_countComings 88 = .ok (.laload, 1) := q_laload (bat_get dg_X1_countComings_58_58 23 rfl rfl)
theorem dX1_countComings_89 : decode cX1_countComings 89 = .ok (.ladd, 1) := q_ladd (bat_get dg_X1_countComings_58_58 24 rfl rfl)
theorem dX1_countComings_90 : decode cX1_countComings 90 = .ok (.lastore, 1) := q_lastore (bat_get dg_X1_countComings_58_58 25 rfl rfl)
theorem w_2_100 : (Cond.fieldLink RX1 25 "SameKeeper$Graph" "comings" "[J") ∈ wsL_law := sk_mem (ck_2 _ (List.mem_of_getElem? (i := 100) rfl)) rfl
theorem w_4_85 : (Cond.methodLink RX1 76 yJ7_fill_d0a16) ∈ wsL_law := sk_mem (ck_4 _ (List.mem_of_getElem? (i := 85) rfl)) rfl
theorem w_4_86 : (Cond.static yJ7_fill_d0a16) ∈ wsL_law := sk_mem (ck_4 _ (List.mem_of_getElem? (i := 86) rfl)) rfl
theorem w_4_84 : (Cond.code yX1_countComings cX1_countComings 5 none) ∈ wsL_law := sk_mem (ck_4 _ (List.mem_of_getElem? (i := 84) rfl)) rfl
def om_5_1 : List Bool := false :: false :: false :: false :: true :: []
theorem hd_J7_fill_d0a16_2 : skD yJ7_fill_d0a16 2 := by decide +kernel
set_option maxHeartbeats 4000000 in
set_option maxRecDepth 100000 in
theorem c_countComings (l : Launch) (D : va_G) (cI cJ cC cZ cS : ClassId) (q : Nat → Nat) (gd : Nat) (gs : Nat) (e1 : Nat → Int32) (e2 : Nat → Int32) (e3 : Nat → Int32) (e5 : Nat → Int64) (hgd : gd ≤ 9) (hgs : gs ≤ 9) : skM l yX1_countComings cX1_countComings 5 none 1 24 0 0 D (skT cI cJ cC cZ cS) [.ref (q 11)] [ro_rrrrrrrnn (q 11) 1 (q 10) (q 67) (q 68) (q 69) (q 70) (q 71) (q 72) gd gs, ra_I (q 67) cI 90 e1, ra_I (q 68) cI 9 e2, ra_I (q 69) cI 10 e3, ra_J (q 71) cJ 100 e5] (skV D (skT cI cJ cC cZ cS) (fun (u : va_W) => ∃ (g5 : Nat → Int64), u = [ro_rrrrrrrnn (q 11) 1 (q 10) (q 67) (q 68) (q 69) (q 70) (q 71) (q 72) gd gs, ra_I (q 67) cI 90 e1, ra_I (q 68) cI 9 e2, ra_I (q 69) cI 10 e3, ra_J (q 71) cJ 100 g5])) := by
  refine skM_of pf_X1_countComings (Nat.le_of_ble_eq_true rfl) ?_
  intro p e s m below meth c A ls E hP hD hl
  refine skE_el E (fun hx hb hr hml hlocks hin hown hts hK hA => ?_)
  have hown : s.vm.findClass RX1 = some m.cls := hown
  have hS : va_S A s.heap s.heap [] := va_S.rf
  have hl : lv_has ls 5 [(0, .ref (q 11))] := hl
  refine lv_aload_n hx hb dX1_countComings_0 rfl (lv_at hl 0 rfl) ?_
  refine sk_get (v := .ref (q 71)) (C := RX1) (T := TX1) (N := 9) hx hb hts inlX1 hown hK hP 0 rfl rfl 5 (Nat.le_of_ble_eq_true rfl) w_2_100 rfl dX1_countComings_1 ?_
  refine lv_lconst (v := 0) hx hb dX1_countComings_4 (by decide) ?_
  refine sk_Sv (n := 2) (rest := []) (wr := fmR om_5_1 _) ⟨hx, hb, hml, hown, hts⟩ hl.1 (c_fillL l D cI cJ cC cZ cS (q 71) 100 e5 0 (by omega)) w_4_85 w_4_86 w_1_15 w_4_87 hd_J7_fill_d0a16_2 ⟨⟨(Nat.le_of_ble_eq_true rfl), (Nat.le_of_ble_eq_true rfl)⟩, (Nat.le_of_ble_eq_true rfl), (Nat.le_of_ble_eq_true rfl)⟩ hK hP hD hS hA (fmT om_5_1 0) (fmF om_5_1 0) (fm_C1 rfl rfl) (fm_R rfl rfl) (fm_nT om_5_1 0) (fm_nF om_5_1 0) (fm_di om_5_1 0) rfl rfl (Nat.le_of_ble_eq_true rfl) dX1_countComings_5 (fun u H locs hw hP hD hS => ?_)
  refine exE hw (fun g_1 eu_2 => ?_)
  clear hw
  refine o_mgE (ws' := [ro_rrrrrrrnn (q 11) 1 (q 10) (q 67) (q 68) (q 69) (q 70) (q 71) (q 72) gd gs, ra_I (q 67) cI 90 e1, ra_I (q 68) cI 9 e2, ra_I (q 69) cI 10 e3, ra_J (q 71) cJ 100 g_1]) eu_2 hP hD rfl (fun hP hD => ?_)
  refine lv_aload_n hx hb dX1_countComings_8 rfl (lv_at hl 0 rfl) ?_
  refine sk_get (v := .ref (q 71)) (C := RX1) (T := TX1) (N := 9) hx hb hts inlX1 hown hK hP 0 rfl rfl 5 (Nat.le_of_ble_eq_true rfl) w_2_100 rfl dX1_countComings_9 ?_
  refine lv_aload_n hx hb dX1_countComings_12 rfl (lv_at hl 0 rfl) ?_
  refine sk_get (v := .int (nI gs)) (C := RX1) (T := TX1) (N := 9) hx hb hts inlX1 hown hK hP 0 rfl rfl 8 (Nat.le_of_ble_eq_true rfl) w_2_103 rfl dX1_countComings_13 ?_
  refine lv_lconst (v := 1) hx hb dX1_countComings_16 (by decide) ?_
  refine sk_lastO (ws' := fun f_3 => [ro_rrrrrrrnn (q 11) 1 (q 10) (q 67) (q 68) (q 69) (q 70) (q 71) (q 72) gd gs, ra_I (q 67) cI 90 e1, ra_I (q 68) cI 9 e2, ra_I (q 69) cI 10 e3, ra_J (q 71) cJ 100 f_3]) hx hb hK hP hD hS 4 1 rfl rfl (vin gs 100 (by omega) (Nat.le_of_ble_eq_true rfl)) (fun _ => rfl) dX1_countComings_17 (fun f_3 H locs hP hD hS => ?_)
  refine lv_iconst (v := 0) hx hb dX1_countComings_18 ic_0 ?_
  refine lv_istore_n (lv' := [(1, .int 0), (0, .ref (q 11))]) hx hb dX1_countComings_19 rfl hl (by decide) rfl (fun ls hl => ?_)
  have lp_4 : ∀ (n_5 : Nat) (i : Nat) (a5 : Nat → Int64) (H : Heap) (locs : List Loc) (ls : Array Slot), gd - i < n_5 → (i ≤ gd) → va_P D vwCl [ro_rrrrrrrnn (q 11) 1 (q 10) (q 67) (q 68) (q 69) (q 70) (q 71) (q 72) gd gs, ra_I (q 67) cI 90 e1, ra_I (q 68) cI 9 e2, ra_I (q 69) cI 10 e3, ra_J (q 71) cJ 100 a5] H → va_D A [ro_rrrrrrrnn (q 11) 1 (q 10) (q 67) (q 68) (q 69) (q 70) (q 71) (q 72) gd gs, ra_I (q 67) cI 90 e1, ra_I (q 68) cI 9 e2, ra_I (q 69) cI 10 e3, ra_J (q 71) cJ 100 a5] → va_S A s.heap H locs → lv_has ls 5 [(1, .int (nI i)), (0, .ref (q 11))] → W p l e { frames := 1, cells := 0, slots := 0, locals := 24 } s m ([.ref (q 11)] : List Value).toArray below meth c H locs 0 0 (MQ below (skV D (skT cI cJ cC cZ cS) (fun (u : va_W) => ∃ (g5 : Nat → Int64), u = [ro_rrrrrrrnn (q 11) 1 (q 10) (q 67) (q 68) (q 69) (q 70) (q 71) (q 72) gd gs, ra_I (q 67) cI 90 e1, ra_I (q 68) cI 9 e2, ra_I (q 69) cI 10 e3, ra_J (q 71) cJ 100 g5]) A) ([.ref (q 11)] : List Value).toArray s 0 0 A) (F0 m 20 ls []) := by
    intro n_5
    induction n_5 with
    | zero => intro i a5 H locs ls hm; exact absurd hm (Nat.not_lt_zero _)
    | succ n_5 ih_lp_4 =>
      intro i a5 H locs ls hm hi hP hD hS hl
      refine lv_iload_n hx hb dX1_countComings_20 rfl (lv_at hl 0 rfl) ?_
      refine lv_aload_n hx hb dX1_countComings_21 rfl (lv_at hl 1 rfl) ?_
      refine sk_get (v := .int (nI gd)) (C := RX1) (T := TX1) (N := 9) hx hb hts inlX1 hown hK hP 0 rfl rfl 7 (Nat.le_of_ble_eq_true rfl) w_2_102 rfl dX1_countComings_22 ?_
      refine lv_icmp_ge (tgt := 109) hx hb dX1_countComings_25 (by decide) (fun c_6 => ?_) (fun c_6 => ?_)
      · have c_6 : gd ≤ i := (nle gd i (by omega) (by omega)).mp c_6
        exact sk_vret hx hb hr hlocks hK hP hD hS (⟨a5, rfl⟩) (Nat.le_of_ble_eq_true rfl) (Nat.le_of_ble_eq_true rfl) dX1_countComings_109
      · have c_6 : ¬ (gd ≤ i) := fun h => c_6 ((nle gd i (by omega) (by omega)).mpr h)
        refine lv_iconst (v := 0) hx hb dX1_countComings_28 ic_0 ?_
        refine lv_istore_n (lv' := [(2, .int 0), (1, .int (nI i)), (0, .ref (q 11))]) hx hb dX1_countComings_29 rfl hl (by decide) rfl (fun ls hl => ?_)
        have lp_7 : ∀ (n_8 : Nat) (jj : Nat) (b5 : Nat → Int64) (H : Heap) (locs : List Loc) (ls : Array Slot), 10 - jj < n_8 → (jj ≤ 10) → va_P D vwCl [ro_rrrrrrrnn (q 11) 1 (q 10) (q 67) (q 68) (q 69) (q 70) (q 71) (q 72) gd gs, ra_I (q 67) cI 90 e1, ra_I (q 68) cI 9 e2, ra_I (q 69) cI 10 e3, ra_J (q 71) cJ 100 b5] H → va_D A [ro_rrrrrrrnn (q 11) 1 (q 10) (q 67) (q 68) (q 69) (q 70) (q 71) (q 72) gd gs, ra_I (q 67) cI 90 e1, ra_I (q 68) cI 9 e2, ra_I (q 69) cI 10 e3, ra_J (q 71) cJ 100 b5] → va_S A s.heap H locs → lv_has ls 5 [(2, .int (nI jj)), (1, .int (nI i)), (0, .ref (q 11))] → W p l e { frames := 1, cells := 0, slots := 0, locals := 24 } s m ([.ref (q 11)] : List Value).toArray below meth c H locs 0 0 (MQ below (skV D (skT cI cJ cC cZ cS) (fun (u : va_W) => ∃ (g5 : Nat → Int64), u = [ro_rrrrrrrnn (q 11) 1 (q 10) (q 67) (q 68) (q 69) (q 70) (q 71) (q 72) gd gs, ra_I (q 67) cI 90 e1, ra_I (q 68) cI 9 e2, ra_I (q 69) cI 10 e3, ra_J (q 71) cJ 100 g5]) A) ([.ref (q 11)] : List Value).toArray s 0 0 A) (F0 m 30 ls []) := by
          intro n_8
          induction n_8 with
          | zero => intro jj b5 H locs ls hm; exact absurd hm (Nat.not_lt_zero _)
          | succ n_8 ih_lp_7 =>
            intro jj b5 H locs ls hm hjj hP hD hS hl
            refine lv_iload_n hx hb dX1_countComings_30 rfl (lv_at hl 0 rfl) ?_
            refine lv_bipush (v := 10) hx hb dX1_countComings_31 (by decide) ?_
            refine lv_icmp_ge (tgt := 103) hx hb dX1_countComings_33 (by decide) (fun c_9 => ?_) (fun c_9 => ?_)
            · have c_9 : 10 ≤ jj := (nle 10 jj (Nat.le_of_ble_eq_true rfl) (by omega)).mp c_9
              refine lv_iinc (v := nI (i + 1)) (lv' := [(1, .int (nI (i + 1))), (2, .int (nI jj)), (0, .ref (q 11))]) hx hb dX1_countComings_103 hl (k := 1) rfl (ninc i 1 (by decide)) (by decide) rfl (fun ls hl => ?_)
              refine lv_goto (tgt := 20) hx hb dX1_countComings_106 (by decide) ?_
              exact ih_lp_4 (i + 1) b5 _ _ _ (by omega) (by omega) hP hD hS (lv_sub hl [0, 2] rfl)
            · have c_9 : ¬ (10 ≤ jj) := fun h => c_9 ((nle 10 jj (Nat.le_of_ble_eq_true rfl) (by omega)).mpr h)
              refine lv_aload_n hx hb dX1_countComings_36 rfl (lv_at hl 2 rfl) ?_
              refine lv_iload_n hx hb dX1_countComings_37 rfl (lv_at hl 1 rfl) ?_
              refine lv_iload_n hx hb dX1_countComings_38 rfl (lv_at hl 0 rfl) ?_
              refine sk_Vi (q0 := 0) (n := 2) (rest := []) (wr := fmR om_5_1e _) ⟨hx, hb, hml, hown, hts⟩ hl.1 (c_next l D cI cJ cC cZ cS q gd gs e1 e2 e3 i jj (by omega) (by omega)) w_4_57 w_4_59 w_0_20 w_1_13 w_4_60 hd_X1_next_2 ⟨⟨(Nat.le_of_ble_eq_true rfl), (Nat.le_of_ble_eq_true rfl)⟩, (Nat.le_of_ble_eq_true rfl), (Nat.le_of_ble_eq_true rfl)⟩ hK hP hD hS hA (fmT om_5_1e 0) (fmF om_5_1e 0) (fm_C1 rfl rfl) (fm_R rfl rfl) (fm_nT om_5_1e 0) (fm_nF om_5_1e 0) (fm_di om_5_1e 0) rfl rfl rfl rfl (Nat.le_of_ble_eq_true rfl) dX1_countComings_39 (fun r_10 u H locs hw hP hD hS => ?_)
              refine o_mgE (ws' := [ro_rrrrrrrnn (q 11) 1 (q 10) (q 67) (q 68) (q 69) (q 70) (q 71) (q 72) gd gs, ra_I (q 67) cI 90 e1, ra_I (q 68) cI 9 e2, ra_I (q 69) cI 10 e3, ra_J (q 71) cJ 100 b5]) hw hP hD rfl (fun hP hD => ?_)
              refine lv_istore_n (lv' := [(3, .int r_10), (2, .int (nI jj)), (1, .int (nI i)), (0, .ref (q 11))]) hx hb dX1_countComings_42 rfl hl (by decide) rfl (fun ls hl => ?_)
              refine lv_iconst (v := 0) hx hb dX1_countComings_43 ic_0 ?_
              refine lv_istore (lv' := [(4, .int 0), (3, .int r_10), (2, .int (nI jj)), (1, .int (nI i)), (0, .ref (q 11))]) hx hb dX1_countComings_44 hl (by decide) rfl (fun ls hl => ?_)
              have lp_11 : ∀ (n_12 : Nat) (kk : Nat) (c5 : Nat → Int64) (H : Heap) (locs : List Loc) (ls : Array Slot), 10 - kk < n_12 → (kk ≤ 10) → va_P D vwCl [ro_rrrrrrrnn (q 11) 1 (q 10) (q 67) (q 68) (q 69) (q 70) (q 71) (q 72) gd gs, ra_I (q 67) cI 90 e1, ra_I (q 68) cI 9 e2, ra_I (q 69) cI 10 e3, ra_J (q 71) cJ 100 c5] H → va_D A [ro_rrrrrrrnn (q 11) 1 (q 10) (q 67) (q 68) (q 69) (q 70) (q 71) (q 72) gd gs, ra_I (q 67) cI 90 e1, ra_I (q 68) cI 9 e2, ra_I (q 69) cI 10 e3, ra_J (q 71) cJ 100 c5] → va_S A s.heap H locs → lv_has ls 5 [(4, .int (nI kk)), (3, .int r_10), (2, .int (nI jj)), (1, .int (nI i)), (0, .ref (q 11))] → W p l e { frames := 1, cells := 0, slots := 0, locals := 24 } s m ([.ref (q 11)] : List Value).toArray below meth c H locs 0 0 (MQ below (skV D (skT cI cJ cC cZ cS) (fun (u : va_W) => ∃ (g5 : Nat → Int64), u = [ro_rrrrrrrnn (q 11) 1 (q 10) (q 67) (q 68) (q 69) (q 70) (q 71) (q 72) gd gs, ra_I (q 67) cI 90 e1, ra_I (q 68) cI 9 e2, ra_I (q 69) cI 10 e3, ra_J (q 71) cJ 100 g5]) A) ([.ref (q 11)] : List Value).toArray s 0 0 A) (F0 m 46 ls []) := by
                intro n_12
                induction n_12 with
                | zero => intro kk c5 H locs ls hm; exact absurd hm (Nat.not_lt_zero _)
                | succ n_12 ih_lp_11 =>
                  intro kk c5 H locs ls hm hkk hP hD hS hl
                  refine lv_iload hx hb dX1_countComings_46 (lv_at hl 0 rfl) ?_
                  refine lv_bipush (v := 10) hx hb dX1_countComings_48 (by decide) ?_
                  refine lv_icmp_ge (tgt := 97) hx hb dX1_countComings_50 (by decide) (fun c_13 => ?_) (fun c_13 => ?_)
                  · have c_13 : 10 ≤ kk := (nle 10 kk (Nat.le_of_ble_eq_true rfl) (by omega)).mp c_13
                    refine lv_iinc (v := nI (jj + 1)) (lv' := [(2, .int (nI (jj + 1))), (4, .int (nI kk)), (3, .int r_10), (1, .int (nI i)), (0, .ref (q 11))]) hx hb dX1_countComings_97 hl (k := 2) rfl (ninc jj 1 (by decide)) (by decide) rfl (fun ls hl => ?_)
                    refine lv_goto (tgt := 30) hx hb dX1_countComings_100 (by decide) ?_
                    exact ih_lp_7 (jj + 1) c5 _ _ _ (by omega) (by omega) hP hD hS (lv_sub hl [0, 3, 4] rfl)
                  · have c_13 : ¬ (10 ≤ kk) := fun h => c_13 ((nle 10 kk (Nat.le_of_ble_eq_true rfl) (by omega)).mpr h)
                    refine lv_iload_n hx hb dX1_countComings_53 rfl (lv_at hl 1 rfl) ?_
                    refine lv_iload hx hb dX1_countComings_54 (lv_at hl 0 rfl) ?_
                    refine lv_ishr hx hb dX1_countComings_56 ?_
                    refine lv_topi (fun v_14 ev_14 => ?_)
                    refine lv_iconst (v := 1) hx hb dX1_countComings_57 ic_1 ?_
                    refine lv_iand hx hb dX1_countComings_58 ?_
                    refine lv_topi (fun v_15 ev_15 => ?_)
                    refine lv_iconst (v := 1) hx hb dX1_countComings_59 ic_1 ?_
                    refine lv_icmp_ne (tgt := 91) hx hb dX1_countComings_60 (by decide) (fun c_16 => ?_) (fun c_16 => ?_)
                    · skip
                      refine lv_iinc (v := nI (kk + 1)) (lv' := [(4, .int (nI (kk + 1))), (3, .int r_10), (2, .int (nI jj)), (1, .int (nI i)), (0, .ref (q 11))]) hx hb dX1_countComings_91 hl (k := 0) rfl (ninc kk 1 (by decide)) (by decide) rfl (fun ls hl => ?_)
                      refine lv_goto (tgt := 46) hx hb dX1_countComings_94 (by decide) ?_
                      exact ih_lp_11 (kk + 1) c5 _ _ _ (by omega) (by omega) hP hD hS (lv_sub hl [0, 1, 2, 3, 4] rfl)
                    · skip
                      refine lv_aload_n hx hb dX1_countComings_63 rfl (lv_at hl 4 rfl) ?_
                      refine sk_get (v := .ref (q 71)) (C := RX1) (T := TX1) (N := 9) hx hb hts inlX1 hown hK hP 0 rfl rfl 5 (Nat.le_of_ble_eq_true rfl) w_2_100 rfl dX1_countComings_64 ?_
                      refine lv_iload_n hx hb dX1_countComings_67 rfl (lv_at hl 3 rfl) ?_
                      refine lv_iconst (v := 1) hx hb dX1_countComings_68 ic_1 ?_
                      refine lv_iadd hx hb dX1_countComings_69 ?_
                      refine sk_top (nI (i + 1)) (nI_add i 1) ?_
                      refine lv_bipush (v := 10) hx hb dX1_countComings_70 (by decide) ?_
                      refine lv_imul hx hb dX1_countComings_72 ?_
                      refine sk_top (nI ((i + 1) * 10)) (nmul (i + 1) 10) ?_
                      refine lv_iload hx hb dX1_countComings_73 (lv_at hl 0 rfl) ?_
                      refine lv_iadd hx hb dX1_countComings_75 ?_
                      refine sk_top (nI ((i + 1) * 10 + kk)) (nI_add ((i + 1) * 10) kk) ?_
                      refine lv_dup2_11 hx hb dX1_countComings_76 rfl rfl ?_
                      refine va_lald hx hb hK.1 hP 4 1 rfl rfl (vin ((i + 1) * 10 + kk) 100 (by omega) (Nat.le_of_ble_eq_true rfl)) dX1_countComings_77 ?_
                      refine lv_topl (fun v_17 ev_17 => ?_)
                      refine lv_aload_n hx hb dX1_countComings_78 rfl (lv_at hl 4 rfl) ?_
                      refine sk_get (v := .ref (q 71)) (C := RX1) (T := TX1) (N := 9) hx hb hts inlX1 hown hK hP 0 rfl rfl 5 (Nat.le_of_ble_eq_true rfl) w_2_100 rfl dX1_countComings_79 ?_
                      refine lv_iload_n hx hb dX1_countComings_82 rfl (lv_at hl 3 rfl) ?_
                      refine lv_bipush (v := 10) hx hb dX1_countComings_83 (by decide) ?_
                      refine lv_imul hx hb dX1_countComings_85 ?_
                      refine sk_top (nI (i * 10)) (nmul i 10) ?_
                      refine lv_iload_n hx hb dX1_countComings_86 rfl (lv_at hl 2 rfl) ?_
                      refine lv_iadd hx hb dX1_countComings_87 ?_
                      refine sk_top (nI (i * 10 + jj)) (nI_add (i * 10) jj) ?_
                      refine va_lald hx hb hK.1 hP 4 1 rfl rfl (vin (i * 10 + jj) 100 (by omega) (Nat.le_of_ble_eq_true rfl)) dX1_countComings_88 ?_
                      refine lv_topl (fun v_18 ev_18 => ?_)
                      refine lv_ladd hx hb dX1_countComings_89 ?_
                      refine lv_topl (fun v_19 ev_19 => ?_)
                      refine sk_lastO (ws' := fun f_20 => [ro_rrrrrrrnn (q 11) 1 (q 10) (q 67) (q 68) (q 69) (q 70) (q 71) (q 72) gd gs, ra_I (q 67) cI 90 e1, ra_I (q 68) cI 9 e2, ra_I (q 69) cI 10 e3, ra_J (q 71) cJ 100 f_20]) hx hb hK hP hD hS 4 1 rfl rfl (vin ((i + 1) * 10 + kk) 100 (by omega) (Nat.le_of_ble_eq_true rfl)) (fun _ => rfl) dX1_countComings_90 (fun f_20 H locs hP hD hS => ?_)
                      refine lv_iinc (v := nI (kk + 1)) (lv' := [(4, .int (nI (kk + 1))), (3, .int r_10), (2, .int (nI jj)), (1, .int (nI i)), (0, .ref (q 11))]) hx hb dX1_countComings_91 hl (k := 0) rfl (ninc kk 1 (by decide)) (by decide) rfl (fun ls hl => ?_)
                      refine lv_goto (tgt := 46) hx hb dX1_countComings_94 (by decide) ?_
                      exact ih_lp_11 (kk + 1) f_20 _ _ _ (by omega) (by omega) hP hD hS (lv_sub hl [0, 1, 2, 3, 4] rfl)
              exact lp_11 (10 - 0 + 1) 0 b5 _ _ _ (Nat.lt_succ_self _) (by omega) hP hD hS (lv_sub hl [0, 1, 2, 3, 4] rfl)
        exact lp_7 (10 - 0 + 1) 0 a5 _ _ _ (Nat.lt_succ_self _) (by omega) hP hD hS (lv_sub hl [0, 1, 2] rfl)
  exact lp_4 (gd - 0 + 1) 0 f_3 _ _ _ (Nat.lt_succ_self _) (by omega) hP hD hS (lv_sub hl [0, 1] rfl)
theorem dg_X1_timesOf_0_0 : bqL cX1_timesOf 0 [(0, [27]), (1, [4]), (2, [96]), (3, [16, 10]), (5, [104]), (6, [28]), (7, [96]), (8, [62]), (9, [42]), (10, [180, 0, 25]), (13, [29]), (14, [47]), (15, [42]), (16, [180, 0, 21]), (19, [29]), (20, [47]), (21, [105]), (22, [173])] = true := by decide +kernel
theorem dX1_timesOf_0 : decode cX1_timesOf 0 = .ok (.iload_n 1, 1) := q_iload_n1 (bat_get dg_X1_timesOf_0_0 0 rfl rfl)
theorem dX1_timesOf_1 : decode cX1_timesOf 1 = .ok (.iconst 1, 1) := q_iconst1 (bat_get dg_X1_timesOf_0_0 1 rfl rfl)
theorem dX1_timesOf_2 : decode cX1_timesOf 2 = .ok (.iadd, 1) := q_iadd (bat_get dg_X1_timesOf_0_0 2 rfl rfl)
theorem dX1_timesOf_3 : decode cX1_timesOf 3 = .ok (.bipush 10, 2) := q_bipush (bat_get dg_X1_timesOf_0_0 3 rfl rfl) rfl
theorem dX1_timesOf_5 : decode cX1_timesOf 5 = .ok (.imul, 1) := q_imul (bat_get dg_X1_timesOf_0_0 4 rfl rfl)
theorem dX1_timesOf_6 : decode cX1_timesOf 6 = .ok (.iload_n 2, 1) := q_iload_n2 (bat_get dg_X1_timesOf_0_0 5 rfl rfl)
theorem dX1_timesOf_7 : decode cX1_timesOf 7 = .ok (.iadd, 1) := q_iadd (bat_get dg_X1_timesOf_0_0 6 rfl rfl)
theorem dX1_timesOf_8 : decode cX1_timesOf 8 = .ok (.istore_n 3, 1) := q_istore_n3 (bat_get dg_X1_timesOf_0_0 7 rfl rfl)
theorem dX1_timesOf_9 : decode cX1_timesOf 9 = .ok (.aload_n 0, 1) := q_aload_n0 (bat_get dg_X1_timesOf_0_0 8 rfl rfl)
theorem dX1_timesOf_10 : decode cX1_timesOf 10 = .ok (.getfield 25, 3) := q_getfield (bat_get dg_X1_timesOf_0_0 9 rfl rfl) rfl
theorem dX1_timesOf_13 : decode cX1_timesOf 13 = .ok (.iload_n 3, 1) := q_iload_n3 (bat_get dg_X1_timesOf_0_0 10 rfl rfl)
theorem dX1_timesOf_14 : decode cX1_timesOf 14 = .ok (.laload, 1) := q_laload (bat_get dg_X1_timesOf_0_0 11 rfl rfl)
theorem dX1_timesOf_15 : decode cX1_timesOf 15 = .ok (.aload_n 0, 1) := q_aload_n0 (bat_get dg_X1_timesOf_0_0 12 rfl rfl)
theorem dX1_timesOf_16 : decode cX1_timesOf 16 = .ok (.getfield 21, 3) := q_getfield (bat_get dg_X1_timesOf_0_0 13 rfl rfl) rfl
theorem dX1_timesOf_19 : decode cX1_timesOf 19 = .ok (.iload_n 3, 1) := q_iload_n3 (bat_get dg_X1_timesOf_0_0 14 rfl rfl)
theorem dX1_timesOf_20 : decode cX1_timesOf 20 = .ok (.laload, 1) := q_laload (bat_get dg_X1_timesOf_0_0 15 rfl rfl)
theorem dX1_timesOf_21 : decode cX1_timesOf 21 = .ok (.lmul, 1) := q_lmul (bat_get dg_X1_timesOf_0_0 16 rfl rfl)
theorem dX1_timesOf_22 : decode cX1_timesOf 22 = .ok (.lreturn, 1) := q_lreturn (bat_get dg_X1_timesOf_0_0 17 rfl rfl)
theorem w_4_91 : (Cond.code yX1_timesOf cX1_timesOf 4 (some .long)) ∈ wsL_law := sk_mem (ck_4 _ (List.mem_of_getElem? (i := 91) rfl)) rfl
set_option maxHeartbeats 4000000 in
set_option maxRecDepth 100000 in
theorem c_timesOf (l : Launch) (D : va_G) (cI cJ cC cZ cS : ClassId) (q : Nat → Nat) (gd : Nat) (gs : Nat) (e4 : Nat → Int64) (e5 : Nat → Int64) (d : Nat) (ah : Nat) (hd : d < 9) (hah : ah < 10) : skM l yX1_timesOf cX1_timesOf 4 (some .long) 0 0 0 0 D (skT cI cJ cC cZ cS) [.ref (q 11), .int (nI d), .int (nI ah)] [ro_rrrrrrrnn (q 11) 1 (q 10) (q 67) (q 68) (q 69) (q 70) (q 71) (q 72) gd gs, ra_J (q 70) cJ 100 e4, ra_J (q 71) cJ 100 e5] (skL D (skT cI cJ cC cZ cS) (fun (r : Int64) (u : va_W) => u = [ro_rrrrrrrnn (q 11) 1 (q 10) (q 67) (q 68) (q 69) (q 70) (q 71) (q 72) gd gs, ra_J (q 70) cJ 100 e4, ra_J (q 71) cJ 100 e5])) := by
  refine skM_of pf_X1_timesOf (Nat.le_of_ble_eq_true rfl) ?_
  intro p e s m below meth c A ls E hP hD hl
  refine skE_el E (fun hx hb hr hml hlocks hin hown hts hK hA => ?_)
  have hown : s.vm.findClass RX1 = some m.cls := hown
  have hS : va_S A s.heap s.heap [] := va_S.rf
  have hl : lv_has ls 4 [(0, .ref (q 11)), (1, .int (nI d)), (2, .int (nI ah))] := hl
  refine lv_iload_n hx hb dX1_timesOf_0 rfl (lv_at hl 1 rfl) ?_
  refine lv_iconst (v := 1) hx hb dX1_timesOf_1 ic_1 ?_
  refine lv_iadd hx hb dX1_timesOf_2 ?_
  refine sk_top (nI (d + 1)) (nI_add d 1) ?_
  refine lv_bipush (v := 10) hx hb dX1_timesOf_3 (by decide) ?_
  refine lv_imul hx hb dX1_timesOf_5 ?_
  refine sk_top (nI ((d + 1) * 10)) (nmul (d + 1) 10) ?_
  refine lv_iload_n hx hb dX1_timesOf_6 rfl (lv_at hl 2 rfl) ?_
  refine lv_iadd hx hb dX1_timesOf_7 ?_
  refine sk_top (nI ((d + 1) * 10 + ah)) (nI_add ((d + 1) * 10) ah) ?_
  refine lv_istore_n (lv' := [(3, .int (nI ((d + 1) * 10 + ah))), (0, .ref (q 11)), (1, .int (nI d)), (2, .int (nI ah))]) hx hb dX1_timesOf_8 rfl hl (by decide) rfl (fun ls hl => ?_)
  refine lv_aload_n hx hb dX1_timesOf_9 rfl (lv_at hl 1 rfl) ?_
  refine sk_get (v := .ref (q 71)) (C := RX1) (T := TX1) (N := 9) hx hb hts inlX1 hown hK hP 0 rfl rfl 5 (Nat.le_of_ble_eq_true rfl) w_2_100 rfl dX1_timesOf_10 ?_
  refine lv_iload_n hx hb dX1_timesOf_13 rfl (lv_at hl 0 rfl) ?_
  refine va_lald hx hb hK.1 hP 2 1 rfl rfl (vin ((d + 1) * 10 + ah) 100 (by omega) (Nat.le_of_ble_eq_true rfl)) dX1_timesOf_14 ?_
  refine lv_topl (fun v_1 ev_1 => ?_)
  refine lv_aload_n hx hb dX1_timesOf_15 rfl (lv_at hl 1 rfl) ?_
  refine sk_get (v := .ref (q 70)) (C := RX1) (T := TX1) (N := 9) hx hb hts inlX1 hown hK hP 0 rfl rfl 4 (Nat.le_of_ble_eq_true rfl) w_2_99 rfl dX1_timesOf_16 ?_
  refine lv_iload_n hx hb dX1_timesOf_19 rfl (lv_at hl 0 rfl) ?_
  refine va_lald hx hb hK.1 hP 1 1 rfl rfl (vin ((d + 1) * 10 + ah) 100 (by omega) (Nat.le_of_ble_eq_true rfl)) dX1_timesOf_20 ?_
  refine lv_topl (fun v_2 ev_2 => ?_)
  refine lv_lmul hx hb dX1_timesOf_21 ?_
  refine lv_topl (fun v_3 ev_3 => ?_)
  exact sk_lret hx hb hr hlocks hK hP hD hS rfl (Nat.le_of_ble_eq_true rfl) (Nat.le_of_ble_eq_true rfl) dX1_timesOf_22
theorem dg_X1_mostLeft_0_0 : bqL cX1_mostLeft 0 [(0, [9]), (1, [65]), (2, [3]), (3, [54, 4]), (5, [21, 4]), (7, [16, 10]), (9, [162, 0, 21]), (30, [32]), (31, [173]), (12, [32]), (13, [42]), (14, [27]), (15, [21, 4]), (17, [182, 0, 79]), (20, [184, 0, 83]), (23, [65]), (24, [132, 4, 1]), (27, [167, 255, 234])] = true := by decide +kernel
theorem dX1_mostLeft_0 : decode cX1_mostLeft 0 = .ok (.lconst 0, 1) := q_lconst0 (bat_get dg_X1_mostLeft_0_0 0 rfl rfl)
theorem dX1_mostLeft_1 : decode cX1_mostLeft 1 = .ok (.lstore_n 2, 1) := q_lstore_n2 (bat_get dg_X1_mostLeft_0_0 1 rfl rfl)
theorem dX1_mostLeft_2 : decode cX1_mostLeft 2 = .ok (.iconst 0, 1) := q_iconst0 (bat_get dg_X1_mostLeft_0_0 2 rfl rfl)
theorem dX1_mostLeft_3 : decode cX1_mostLeft 3 = .ok (.istore 4, 2) := q_istore (bat_get dg_X1_mostLeft_0_0 3 rfl rfl)
theorem dX1_mostLeft_5 : decode cX1_mostLeft 5 = .ok (.iload 4, 2) := q_iload (bat_get dg_X1_mostLeft_0_0 4 rfl rfl)
theorem dX1_mostLeft_7 : decode cX1_mostLeft 7 = .ok (.bipush 10, 2) := q_bipush (bat_get dg_X1_mostLeft_0_0 5 rfl rfl) rfl
theorem dX1_mostLeft_9 : decode cX1_mostLeft 9 = .ok (.if_icmp .ge 21, 3) := q_if_icmp_ge (bat_get dg_X1_mostLeft_0_0 6 rfl rfl) rfl
theorem dX1_mostLeft_30 : decode cX1_mostLeft 30 = .ok (.lload_n 2, 1) := q_lload_n2 (bat_get dg_X1_mostLeft_0_0 7 rfl rfl)
theorem dX1_mostLeft_31 : decode cX1_mostLeft 31 = .ok (.lreturn, 1) := q_lreturn (bat_get dg_X1_mostLeft_0_0 8 rfl rfl)
theorem dX1_mostLeft_12 : decode cX1_mostLeft 12 = .ok (.lload_n 2, 1) := q_lload_n2 (bat_get dg_X1_mostLeft_0_0 9 rfl rfl)
theorem dX1_mostLeft_13 : decode cX1_mostLeft 13 = .ok (.aload_n 0, 1) := q_aload_n0 (bat_get dg_X1_mostLeft_0_0 10 rfl rfl)
theorem dX1_mostLeft_14 : decode cX1_mostLeft 14 = .ok (.iload_n 1, 1) := q_iload_n1 (bat_get dg_X1_mostLeft_0_0 11 rfl rfl)
theorem dX1_mostLeft_15 : decode cX1_mostLeft 15 = .ok (.iload 4, 2) := q_iload (bat_get dg_X1_mostLeft_0_0 12 rfl rfl)
theorem dX1_mostLeft_17 : decode cX1_mostLeft 17 = .ok (.invokevirtual 79, 3) := q_invokevirtual (bat_get dg_X1_mostLeft_0_0 13 rfl rfl) rfl
theorem dX1_mostLeft_20 : decode cX1_mostLeft 20 = .ok (.invokestatic 83, 3) := q_invokestatic (bat_get dg_X1_mostLeft_0_0 14 rfl rfl) rfl
theorem dX1_mostLeft_23 : decode cX1_mostLeft 23 = .ok (.lstore_n 2, 1) := q_lstore_n2 (bat_get dg_X1_mostLeft_0_0 15 rfl rfl)
theorem dX1_mostLeft_24 : decode cX1_mostLeft 24 = .ok (.iinc 4 1, 3) := q_iinc (bat_get dg_X1_mostLeft_0_0 16 rfl rfl) rfl
theorem dX1_mostLeft_27 : decode cX1_mostLeft 27 = .ok (.goto (-22), 3) := q_goto (bat_get dg_X1_mostLeft_0_0 17 rfl rfl) rfl
theorem w_4_234 : (Cond.methodLink RX1 79 yX1_timesOf) ∈ wsL_law := sk_mem (ck_4 _ (List.mem_of_getElem? (i := 234) rfl)) rfl
theorem w_4_89 : (Cond.instanceMethod yX1_timesOf) ∈ wsL_law := sk_mem (ck_4 _ (List.mem_of_getElem? (i := 89) rfl)) rfl
theorem w_4_90 : (Cond.selects RX1 yX1_timesOf yX1_timesOf) ∈ wsL_law := sk_mem (ck_4 _ (List.mem_of_getElem? (i := 90) rfl)) rfl
theorem w_4_165 : (Cond.methodLink RX1 83 Lib.MathLoose.max_long.x) ∈ wsL_law := sk_mem (ck_4 _ (List.mem_of_getElem? (i := 165) rfl)) rfl
theorem w_4_233 : (Cond.code yX1_mostLeft cX1_mostLeft 5 (some .long)) ∈ wsL_law := sk_mem (ck_4 _ (List.mem_of_getElem? (i := 233) rfl)) rfl
def om_3_7 : List Bool := true :: true :: true :: []
theorem hd_X1_timesOf_2 : skD yX1_timesOf 2 := by decide +kernel
set_option maxHeartbeats 4000000 in
set_option maxRecDepth 100000 in
theorem c_mostLeft (l : Launch) (D : va_G) (cI cJ cC cZ cS : ClassId) (q : Nat → Nat) (gd : Nat) (gs : Nat) (e4 : Nat → Int64) (e5 : Nat → Int64) (d : Nat) (hd : d < 9) : skM l yX1_mostLeft cX1_mostLeft 5 (some .long) 1 23 0 0 D (skT cI cJ cC cZ cS) [.ref (q 11), .int (nI d)] [ro_rrrrrrrnn (q 11) 1 (q 10) (q 67) (q 68) (q 69) (q 70) (q 71) (q 72) gd gs, ra_J (q 70) cJ 100 e4, ra_J (q 71) cJ 100 e5] (skL D (skT cI cJ cC cZ cS) (fun (r : Int64) (u : va_W) => u = [ro_rrrrrrrnn (q 11) 1 (q 10) (q 67) (q 68) (q 69) (q 70) (q 71) (q 72) gd gs, ra_J (q 70) cJ 100 e4, ra_J (q 71) cJ 100 e5])) := by
  refine skM_of pf_X1_mostLeft (Nat.le_of_ble_eq_true rfl) ?_
  intro p e s m below meth c A ls E hP hD hl
  refine skE_el E (fun hx hb hr hml hlocks hin hown hts hK hA => ?_)
  have hown : s.vm.findClass RX1 = some m.cls := hown
  have hS : va_S A s.heap s.heap [] := va_S.rf
  have hl : lv_has ls 5 [(0, .ref (q 11)), (1, .int (nI d))] := hl
  refine lv_lconst (v := 0) hx hb dX1_mostLeft_0 (by decide) ?_
  refine lv_lstore_n (lv' := [(2, .long 0), (0, .ref (q 11)), (1, .int (nI d))]) hx hb dX1_mostLeft_1 rfl hl (by decide) rfl (fun ls hl => ?_)
  refine lv_iconst (v := 0) hx hb dX1_mostLeft_2 ic_0 ?_
  refine lv_istore (lv' := [(4, .int 0), (2, .long 0), (0, .ref (q 11)), (1, .int (nI d))]) hx hb dX1_mostLeft_3 hl (by decide) rfl (fun ls hl => ?_)
  have lp_1 : ∀ (n_2 : Nat) (i : Nat) (ml : Int64) (H : Heap) (locs : List Loc) (ls : Array Slot), 10 - i < n_2 → (i ≤ 10) → va_P D vwCl [ro_rrrrrrrnn (q 11) 1 (q 10) (q 67) (q 68) (q 69) (q 70) (q 71) (q 72) gd gs, ra_J (q 70) cJ 100 e4, ra_J (q 71) cJ 100 e5] H → va_D A [ro_rrrrrrrnn (q 11) 1 (q 10) (q 67) (q 68) (q 69) (q 70) (q 71) (q 72) gd gs, ra_J (q 70) cJ 100 e4, ra_J (q 71) cJ 100 e5] → va_S A s.heap H locs → lv_has ls 5 [(4, .int (nI i)), (2, .long ml), (0, .ref (q 11)), (1, .int (nI d))] → W p l e { frames := 1, cells := 0, slots := 0, locals := 23 } s m ([.ref (q 11), .int (nI d)] : List Value).toArray below meth c H locs 0 0 (MQ below (skL D (skT cI cJ cC cZ cS) (fun (r : Int64) (u : va_W) => u = [ro_rrrrrrrnn (q 11) 1 (q 10) (q 67) (q 68) (q 69) (q 70) (q 71) (q 72) gd gs, ra_J (q 70) cJ 100 e4, ra_J (q 71) cJ 100 e5]) A) ([.ref (q 11), .int (nI d)] : List Value).toArray s 0 0 A) (F0 m 5 ls []) := by
    intro n_2
    induction n_2 with
    | zero => intro i ml H locs ls hm; exact absurd hm (Nat.not_lt_zero _)
    | succ n_2 ih_lp_1 =>
      intro i ml H locs ls hm hi hP hD hS hl
      refine lv_iload hx hb dX1_mostLeft_5 (lv_at hl 0 rfl) ?_
      refine lv_bipush (v := 10) hx hb dX1_mostLeft_7 (by decide) ?_
      refine lv_icmp_ge (tgt := 30) hx hb dX1_mostLeft_9 (by decide) (fun c_3 => ?_) (fun c_3 => ?_)
      · have c_3 : 10 ≤ i := (nle 10 i (Nat.le_of_ble_eq_true rfl) (by omega)).mp c_3
        refine lv_lload_n hx hb dX1_mostLeft_30 rfl (lv_at hl 1 rfl) ?_
        exact sk_lret hx hb hr hlocks hK hP hD hS rfl (Nat.le_of_ble_eq_true rfl) (Nat.le_of_ble_eq_true rfl) dX1_mostLeft_31
      · have c_3 : ¬ (10 ≤ i) := fun h => c_3 ((nle 10 i (Nat.le_of_ble_eq_true rfl) (by omega)).mpr h)
        refine lv_lload_n hx hb dX1_mostLeft_12 rfl (lv_at hl 1 rfl) ?_
        refine lv_aload_n hx hb dX1_mostLeft_13 rfl (lv_at hl 2 rfl) ?_
        refine lv_iload_n hx hb dX1_mostLeft_14 rfl (lv_at hl 3 rfl) ?_
        refine lv_iload hx hb dX1_mostLeft_15 (lv_at hl 0 rfl) ?_
        refine sk_Vl (q0 := 0) (n := 2) (rest := [.long ml]) (wr := fmR om_3_7 _) ⟨hx, hb, hml, hown, hts⟩ hl.1 (c_timesOf l D cI cJ cC cZ cS q gd gs e4 e5 d i hd (by omega)) w_4_234 w_4_89 w_4_90 w_1_13 w_4_91 hd_X1_timesOf_2 ⟨⟨(Nat.le_of_ble_eq_true rfl), (Nat.le_of_ble_eq_true rfl)⟩, (Nat.le_of_ble_eq_true rfl), (Nat.le_of_ble_eq_true rfl)⟩ hK hP hD hS hA (fmT om_3_7 0) (fmF om_3_7 0) (fm_C1 rfl rfl) (fm_R rfl rfl) (fm_nT om_3_7 0) (fm_nF om_3_7 0) (fm_di om_3_7 0) rfl rfl rfl rfl (Nat.le_of_ble_eq_true rfl) dX1_mostLeft_17 (fun r_4 u H locs hw hP hD hS => ?_)
        refine o_mgE (ws' := [ro_rrrrrrrnn (q 11) 1 (q 10) (q 67) (q 68) (q 69) (q 70) (q 71) (q 72) gd gs, ra_J (q 70) cJ 100 e4, ra_J (q 71) cJ 100 e5]) hw hP hD rfl (fun hP hD => ?_)
        refine va_mmax_long hx hb (by rw [hml]; exact hl.1.symm) hown (hts _ w_4_165) (hts _ w_4_0) (hts _ w_1_3) (hts _ w_4_1) (Nat.le_of_ble_eq_true rfl) (Nat.le_of_ble_eq_true rfl) (Nat.le_of_ble_eq_true rfl) (Nat.le_of_ble_eq_true rfl) dX1_mostLeft_20 ?_
        refine lv_topl (fun v_5 ev_5 => ?_)
        refine lv_lstore_n (lv' := [(2, .long v_5), (4, .int (nI i)), (0, .ref (q 11)), (1, .int (nI d))]) hx hb dX1_mostLeft_23 rfl hl (by decide) rfl (fun ls hl => ?_)
        refine lv_iinc (v := nI (i + 1)) (lv' := [(4, .int (nI (i + 1))), (2, .long v_5), (0, .ref (q 11)), (1, .int (nI d))]) hx hb dX1_mostLeft_24 hl (k := 1) rfl (ninc i 1 (by decide)) (by decide) rfl (fun ls hl => ?_)
        refine lv_goto (tgt := 5) hx hb dX1_mostLeft_27 (by decide) ?_
        exact ih_lp_1 (i + 1) v_5 _ _ _ (by omega) (by omega) hP hD hS (lv_sub hl [0, 1, 2, 3] rfl)
  exact lp_1 (10 - 0 + 1) 0 0 _ _ _ (Nat.lt_succ_self _) (by omega) hP hD hS (lv_sub hl [0, 1, 2, 3] rfl)
theorem dg_X1_takeNumbered_0_0 : bqL cX1_takeNumbered 0 [(0, [31]), (1, [55, 4]), (3, [42]), (4, [180, 0, 35]), (7, [54, 6]), (9, [3]), (10, [54, 7]), (12, [21, 7]), (14, [42]), (15, [180, 0, 31]), (18, [162, 0, 102]), (120, [177]), (21, [42]), (22, [21, 7]), (24, [21, 6]), (26, [182, 0, 66]), (29, [54, 8]), (31, [3]), (32, [54, 9]), (34, [3]), (35, [54, 10]), (37, [21, 10]), (39, [16, 10]), (41, [162, 0, 63]), (104, [45]), (105, [21, 7]), (107, [21, 9]), (109, [79]), (110, [21, 9]), (112, [54, 6]), (114, [132, 7, 1]), (117, [167, 255, 151]), (44, [21, 8]), (46, [21, 10]), (48, [122]), (49, [4]), (50, [126]), (51, [4]), (52, [160, 0, 21]), (73, [9])] = true := by decide +kernel
theorem dX1_takeNumbered_0 : decode cX1_takeNumbered 0 = .ok (.lload_n 1, 1) := q_lload_n1 (bat_get dg_X1_takeNumbered_0_0 0 rfl rfl)
theorem dX1_takeNumbered_1 : decode cX1_takeNumbered 1 = .ok (.lstore 4, 2) := q_lstore (bat_get dg_X1_takeNumbered_0_0 1 rfl rfl)
theorem dX1_takeNumbered_3 : decode cX1_takeNumbered 3 = .ok (.aload_n 0, 1) := q_aload_n0 (bat_get dg_X1_takeNumbered_0_0 2 rfl rfl)
theorem dX1_takeNumbered_4 : decode cX1_takeNumbered 4 = .ok (.getfield 35, 3) := q_getfield (bat_get dg_X1_takeNumbered_0_0 3 rfl rfl) rfl
theorem dX1_takeNumbered_7 : decode cX1_takeNumbered 7 = .ok (.istore 6, 2) := q_istore (bat_get dg_X1_takeNumbered_0_0 4 rfl rfl)
theorem dX1_takeNumbered_9 : decode cX1_takeNumbered 9 = .ok (.iconst 0, 1) := q_iconst0 (bat_get dg_X1_takeNumbered_0_0 5 rfl rfl)
theorem dX1_takeNumbered_10 : decode cX1_takeNumbered 10 = .ok (.istore 7, 2) := q_istore (bat_get dg_X1_takeNumbered_0_0 6 rfl rfl)
theorem dX1_takeNumbered_12 : decode cX1_takeNumbered 12 = .ok (.iload 7, 2) := q_iload (bat_get dg_X1_takeNumbered_0_0 7 rfl rfl)
theorem dX1_takeNumbered_14 : decode cX1_takeNumbered 14 = .ok (.aload_n 0, 1) := q_aload_n0 (bat_get dg_X1_takeNumbered_0_0 8 rfl rfl)
theorem dX1_takeNumbered_15 : decode cX1_takeNumbered 15 = .ok (.getfield 31, 3) := q_getfield (bat_get dg_X1_takeNumbered_0_0 9 rfl rfl) rfl
theorem dX1_takeNumbered_18 : decode cX1_takeNumbered 18 = .ok (.if_icmp .ge 102, 3) := q_if_icmp_ge (bat_get dg_X1_takeNumbered_0_0 10 rfl rfl) rfl
theorem dX1_takeNumbered_120 : decode cX1_takeNumbered 120 = .ok (.return_, 1) := q_return_ (bat_get dg_X1_takeNumbered_0_0 11 rfl rfl)
theorem dX1_takeNumbered_21 : decode cX1_takeNumbered 21 = .ok (.aload_n 0, 1) := q_aload_n0 (bat_get dg_X1_takeNumbered_0_0 12 rfl rfl)
theorem dX1_takeNumbered_22 : decode cX1_takeNumbered 22 = .ok (.iload 7, 2) := q_iload (bat_get dg_X1_takeNumbered_0_0 13 rfl rfl)
theorem dX1_takeNumbered_24 : decode cX1_takeNumbered 24 = .ok (.iload 6, 2) := q_iload (bat_get dg_X1_takeNumbered_0_0 14 rfl rfl)
theorem dX1_takeNumbered_26 : decode cX1_takeNumbered 26 = .ok (.invokevirtual 66, 3) := q_invokevirtual (bat_get dg_X1_takeNumbered_0_0 15 rfl rfl) rfl
theorem dX1_takeNumbered_29 : decode cX1_takeNumbered 29 = .ok (.istore 8, 2) := q_istore (bat_get dg_X1_takeNumbered_0_0 16 rfl rfl)
theorem dX1_takeNumbered_31 : decode cX1_takeNumbered 31 = .ok (.iconst 0, 1) := q_iconst0 (bat_get dg_X1_takeNumbered_0_0 17 rfl rfl)
theorem dX1_takeNumbered_32 : decode cX1_takeNumbered 32 = .ok (.istore 9, 2) := q_istore (bat_get dg_X1_takeNumbered_0_0 18 rfl rfl)
theorem dX1_takeNumbered_34 : decode cX1_takeNumbered 34 = .ok (.iconst 0, 1) := q_iconst0 (bat_get dg_X1_takeNumbered_0_0 19 rfl rfl)
theorem dX1_takeNumbered_35 : decode cX1_takeNumbered 35 = .ok (.istore 10, 2) := q_istore (bat_get dg_X1_takeNumbered_0_0 20 rfl rfl)
theorem dX1_takeNumbered_37 : decode cX1_takeNumbered 37 = .ok (.iload 10, 2) := q_iload (bat_get dg_X1_takeNumbered_0_0 21 rfl rfl)
theorem dX1_takeNumbered_39 : decode cX1_takeNumbered 39 = .ok (.bipush 10, 2) := q_bipush (bat_get dg_X1_takeNumbered_0_0 22 rfl rfl) rfl
theorem dX1_takeNumbered_41 : decode cX1_takeNumbered 41 = .ok (.if_icmp .ge 63, 3) := q_if_icmp_ge (bat_get dg_X1_takeNumbered_0_0 23 rfl rfl) rfl
theorem dX1_takeNumbered_104 : decode cX1_takeNumbered 104 = .ok (.aload_n 3, 1) := q_aload_n3 (bat_get dg_X1_takeNumbered_0_0 24 rfl rfl)
theorem dX1_takeNumbered_105 : decode cX1_takeNumbered 105 = .ok (.iload 7, 2) := q_iload (bat_get dg_X1_takeNumbered_0_0 25 rfl rfl)
theorem dX1_takeNumbered_107 : decode cX1_takeNumbered 107 = .ok (.iload 9, 2) := q_iload (bat_get dg_X1_takeNumbered_0_0 26 rfl rfl)
theorem dX1_takeNumbered_109 : decode cX1_takeNumbered 109 = .ok (.iastore, 1) := q_iastore (bat_get dg_X1_takeNumbered_0_0 27 rfl rfl)
theorem dX1_takeNumbered_110 : decode cX1_takeNumbered 110 = .ok (.iload 9, 2) := q_iload (bat_get dg_X1_takeNumbered_0_0 28 rfl rfl)
theorem dX1_takeNumbered_112 : decode cX1_takeNumbered 112 = .ok (.istore 6, 2) := q_istore (bat_get dg_X1_takeNumbered_0_0 29 rfl rfl)
theorem dX1_takeNumbered_114 : decode cX1_takeNumbered 114 = .ok (.iinc 7 1, 3) := q_iinc (bat_get dg_X1_takeNumbered_0_0 30 rfl rfl) rfl
theorem dX1_takeNumbered_117 : decode cX1_takeNumbered 117 = .ok (.goto (-105), 3) := q_goto (bat_get dg_X1_takeNumbered_0_0 31 rfl rfl) rfl
theorem dX1_takeNumbered_44 : decode cX1_takeNumbered 44 = .ok (.iload 8, 2) := q_iload (bat_get dg_X1_takeNumbered_0_0 32 rfl rfl)
theorem dX1_takeNumbered_46 : decode cX1_takeNumbered 46 = .ok (.iload 10, 2) := q_iload (bat_get dg_X1_takeNumbered_0_0 33 rfl rfl)
theorem dX1_takeNumbered_48 : decode cX1_takeNumbered 48 = .ok (.ishr, 1) := q_ishr (bat_get dg_X1_takeNumbered_0_0 34 rfl rfl)
theorem dX1_takeNumbered_49 : decode cX1_takeNumbered 49 = .ok (.iconst 1, 1) := q_iconst1 (bat_get dg_X1_takeNumbered_0_0 35 rfl rfl)
theorem dX1_takeNumbered_50 : decode cX1_takeNumbered 50 = .ok (.iand, 1) := q_iand (bat_get dg_X1_takeNumbered_0_0 36 rfl rfl)
theorem dX1_takeNumbered_51 : decode cX1_takeNumbered 51 = .ok (.iconst 1, 1) := q_iconst1 (bat_get dg_X1_takeNumbered_0_0 37 rfl rfl)
theorem dX1_takeNumbered_52 : decode cX1_takeNumbered 52 = .ok (.if_icmp .ne 21, 3) := q_if_icmp_ne (bat_get dg_X1_takeNumbered_0_0 38 rfl rfl) rfl
theorem dX1_takeNumbered_73 : decode cX1_takeNumbered 73 = .ok (.lconst 0, 1) := q_lconst0 (bat_get dg_X1_takeNumbered_0_0 39 rfl rfl)
theorem dg_X1_takeNumbered_55_74 : bqL cX1_takeNumbered 55 [(19, [55, 11]), (21, [22, 4]), (23, [22, 11]), (25, [148]), (26, [156, 0, 10]), (36, [22, 4]), (38, [22, 11]), (40, [101]), (41, [55, 4]), (43, [132, 10, 1]), (46, [167, 255, 192]), (29, [21, 10]), (31, [54, 9]), (33, [167, 0, 16]), (0, [42]), (1, [180, 0, 21]), (4, [21, 7]), (6, [4]), (7, [96]), (8, [16, 10]), (10, [104]), (11, [21, 10]), (13, [96]), (14, [47]), (15, [167, 0, 4])] = true := by decide +kernel
theorem dX1_takeNumbered_74 : decode cX1_takeNumbered 74 = .ok (.lstore 11, 2) := q_lstore (bat_get dg_X1_takeNumbered_55_74 0 rfl rfl)
theorem dX1_takeNumbered_76 : decode cX1_takeNumbered 76 = .ok (.lload 4, 2) := q_lload (bat_get dg_X1_takeNumbered_55_74 1 rfl rfl)
theorem dX1_takeNumbered_78 : decode cX1_takeNumbered 78 = .ok (.lload 11, 2) := q_lload (bat_get dg_X1_takeNumbered_55_74 2 rfl rfl)
theorem dX1_takeNumbered_80 : decode cX1_takeNumbered 80 = .ok (.lcmp, 1) := q_lcmp (bat_get dg_X1_takeNumbered_55_74 3 rfl rfl)
theorem dX1_takeNumbered_81 : decode cX1_takeNumbered 81 = .ok (.ifCond .ge 10, 3) := q_ifCond_ge (bat_get dg_X1_takeNumbered_55_74 4 rfl rfl) rfl
theorem dX1_takeNumbered_91 : decode cX1_takeNumbered 91 = .ok (.lload 4, 2) := q_lload (bat_get dg_X1_takeNumbered_55_74 5 rfl rfl)
theorem dX1_takeNumbered_93 : decode cX1_takeNumbered 93 = .ok (.lload 11, 2) := q_lload (bat_get dg_X1_takeNumbered_55_74 6 rfl rfl)
theorem dX1_takeNumbered_95 : decode cX1_takeNumbered 95 = .ok (.lsub, 1) := q_lsub (bat_get dg_X1_takeNumbered_55_74 7 rfl rfl)
theorem dX1_takeNumbered_96 : decode cX1_takeNumbered 96 = .ok (.lstore 4, 2) := q_lstore (bat_get dg_X1_takeNumbered_55_74 8 rfl rfl)
theorem dX1_takeNumbered_98 : decode cX1_takeNumbered 98 = .ok (.iinc 10 1, 3) := q_iinc (bat_get dg_X1_takeNumbered_55_74 9 rfl rfl) rfl
theorem dX1_takeNumbered_101 : decode cX1_takeNumbered 101 = .ok (.goto (-64), 3) := q_goto (bat_get dg_X1_takeNumbered_55_74 10 rfl rfl) rfl
theorem dX1_takeNumbered_84 : decode cX1_takeNumbered 84 = .ok (.iload 10, 2) := q_iload (bat_get dg_X1_takeNumbered_55_74 11 rfl rfl)
theorem dX1_takeNumbered_86 : decode cX1_takeNumbered 86 = .ok (.istore 9, 2) := q_istore (bat_get dg_X1_takeNumbered_55_74 12 rfl rfl)
theorem dX1_takeNumbered_88 : decode cX1_takeNumbered 88 = .ok (.goto 16, 3) := q_goto (bat_get dg_X1_takeNumbered_55_74 13 rfl rfl) rfl
theorem dX1_takeNumbered_55 : decode cX1_takeNumbered 55 = .ok (.aload_n 0, 1) := q_aload_n0 (bat_get dg_X1_takeNumbered_55_74 14 rfl rfl)
theorem dX1_takeNumbered_56 : decode cX1_takeNumbered 56 = .ok (.getfield 21, 3) := q_getfield (bat_get dg_X1_takeNumbered_55_74 15 rfl rfl) rfl
theorem dX1_takeNumbered_59 : decode cX1_takeNumbered 59 = .ok (.iload 7, 2) := q_iload (bat_get dg_X1_takeNumbered_55_74 16 rfl rfl)
theorem dX1_takeNumbered_61 : decode cX1_takeNumbered 61 = .ok (.iconst 1, 1) := q_iconst1 (bat_get dg_X1_takeNumbered_55_74 17 rfl rfl)
theorem dX1_takeNumbered_62 : decode cX1_takeNumbered 62 = .ok (.iadd, 1) := q_iadd (bat_get dg_X1_takeNumbered_55_74 18 rfl rfl)
theorem dX1_takeNumbered_63 : decode cX1_takeNumbered 63 = .ok (.bipush 10, 2) := q_bipush (bat_get dg_X1_takeNumbered_55_74 19 rfl rfl) rfl
theorem dX1_takeNumbered_65 : decode cX1_takeNumbered 65 = .ok (.imul, 1) := q_imul (bat_get dg_X1_takeNumbered_55_74 20 rfl rfl)
theorem dX1_takeNumbered_66 : decode cX1_takeNumbered 66 = .ok (.iload 10, 2) := q_iload (bat_get dg_X1_takeNumbered_55_74 21 rfl rfl)
theorem dX1_takeNumbered_68 : decode cX1_takeNumbered 68 = .ok (.iadd, 1) := q_iadd (bat_get dg_X1_takeNumbered_55_74 22 rfl rfl)
theorem dX1_takeNumbered_69 : decode cX1_takeNumbered 69 = .ok (.laload, 1) := q_laload (bat_get dg_X1_takeNumbered_55_74 23 rfl rfl)
theorem dX1_takeNumbered_70 : decode cX1_takeNumbered 70 = .ok (.goto 4, 3) := q_goto (bat_get dg_X1_takeNumbered_55_74 24 rfl rfl) rfl
theorem w_4_76 : (Cond.code yX1_takeNumbered cX1_takeNumbered 13 none) ∈ wsL_law := sk_mem (ck_4 _ (List.mem_of_getElem? (i := 76) rfl)) rfl
def om_6_3c : List Bool := true :: true :: true :: true :: false :: false :: []
theorem dg_X1_gainBy_0_0 : bqL cX1_gainBy 0 [(0, [42]), (1, [180, 0, 38]), (4, [180, 0, 94]), (7, [27]), (8, [16, 10]), (10, [104]), (11, [28]), (12, [96]), (13, [47]), (14, [42]), (15, [180, 0, 28]), (18, [27]), (19, [4]), (20, [96]), (21, [16, 10]), (23, [104]), (24, [28]), (25, [96]), (26, [47]), (27, [97]), (28, [173])] = true := by decide +kernel
theorem dX1_gainBy_0 : decode cX1_gainBy 0 = .ok (.aload_n 0, 1) := q_aload_n0 (bat_get dg_X1_gainBy_0_0 0 rfl rfl)
theorem dX1_gainBy_1 : decode cX1_gainBy 1 = .ok (.getfield 38, 3) := q_getfield (bat_get dg_X1_gainBy_0_0 1 rfl rfl) rfl
theorem dX1_gainBy_4 : decode cX1_gainBy 4 = .ok (.getfield 94, 3) := q_getfield (bat_get dg_X1_gainBy_0_0 2 rfl rfl) rfl
theorem dX1_gainBy_7 : decode cX1_gainBy 7 = .ok (.iload_n 1, 1) := q_iload_n1 (bat_get dg_X1_gainBy_0_0 3 rfl rfl)
theorem dX1_gainBy_8 : decode cX1_gainBy 8 = .ok (.bipush 10, 2) := q_bipush (bat_get dg_X1_gainBy_0_0 4 rfl rfl) rfl
theorem dX1_gainBy_10 : decode cX1_gainBy 10 = .ok (.imul, 1) := q_imul (bat_get dg_X1_gainBy_0_0 5 rfl rfl)
theorem dX1_gainBy_11 : decode cX1_gainBy 11 = .ok (.iload_n 2, 1) := q_iload_n2 (bat_get dg_X1_gainBy_0_0 6 rfl rfl)
theorem dX1_gainBy_12 : decode cX1_gainBy 12 = .ok (.iadd, 1) := q_iadd (bat_get dg_X1_gainBy_0_0 7 rfl rfl)
theorem dX1_gainBy_13 : decode cX1_gainBy 13 = .ok (.laload, 1) := q_laload (bat_get dg_X1_gainBy_0_0 8 rfl rfl)
theorem dX1_gainBy_14 : decode cX1_gainBy 14 = .ok (.aload_n 0, 1) := q_aload_n0 (bat_get dg_X1_gainBy_0_0 9 rfl rfl)
theorem dX1_gainBy_15 : decode cX1_gainBy 15 = .ok (.getfield 28, 3) := q_getfield (bat_get dg_X1_gainBy_0_0 10 rfl rfl) rfl
theorem dX1_gainBy_18 : decode cX1_gainBy 18 = .ok (.iload_n 1, 1) := q_iload_n1 (bat_get dg_X1_gainBy_0_0 11 rfl rfl)
theorem dX1_gainBy_19 : decode cX1_gainBy 19 = .ok (.iconst 1, 1) := q_iconst1 (bat_get dg_X1_gainBy_0_0 12 rfl rfl)
theorem dX1_gainBy_20 : decode cX1_gainBy 20 = .ok (.iadd, 1) := q_iadd (bat_get dg_X1_gainBy_0_0 13 rfl rfl)
theorem dX1_gainBy_21 : decode cX1_gainBy 21 = .ok (.bipush 10, 2) := q_bipush (bat_get dg_X1_gainBy_0_0 14 rfl rfl) rfl
theorem dX1_gainBy_23 : decode cX1_gainBy 23 = .ok (.imul, 1) := q_imul (bat_get dg_X1_gainBy_0_0 15 rfl rfl)
theorem dX1_gainBy_24 : decode cX1_gainBy 24 = .ok (.iload_n 2, 1) := q_iload_n2 (bat_get dg_X1_gainBy_0_0 16 rfl rfl)
theorem dX1_gainBy_25 : decode cX1_gainBy 25 = .ok (.iadd, 1) := q_iadd (bat_get dg_X1_gainBy_0_0 17 rfl rfl)
theorem dX1_gainBy_26 : decode cX1_gainBy 26 = .ok (.laload, 1) := q_laload (bat_get dg_X1_gainBy_0_0 18 rfl rfl)
theorem dX1_gainBy_27 : decode cX1_gainBy 27 = .ok (.ladd, 1) := q_ladd (bat_get dg_X1_gainBy_0_0 19 rfl rfl)
theorem dX1_gainBy_28 : decode cX1_gainBy 28 = .ok (.lreturn, 1) := q_lreturn (bat_get dg_X1_gainBy_0_0 20 rfl rfl)
theorem w_2_73 : (Cond.fieldLink RX1 94 "SameKeeper$Table" "wages" "[J") ∈ wsL_law := sk_mem (ck_2 _ (List.mem_of_getElem? (i := 73) rfl)) rfl
theorem w_2_101 : (Cond.fieldLink RX1 28 "SameKeeper$Graph" "gains" "[J") ∈ wsL_law := sk_mem (ck_2 _ (List.mem_of_getElem? (i := 101) rfl)) rfl
theorem w_4_164 : (Cond.code yX1_gainBy cX1_gainBy 3 (some .long)) ∈ wsL_law := sk_mem (ck_4 _ (List.mem_of_getElem? (i := 164) rfl)) rfl
set_option maxHeartbeats 4000000 in
set_option maxRecDepth 100000 in
theorem c_gainBy (l : Launch) (D : va_G) (cI cJ cC cZ cS : ClassId) (q : Nat → Nat) (gd : Nat) (gs : Nat) (e6 : Nat → Int64) (fg : Nat → Int64) (d : Nat) (ah : Nat) (hd : d < 9) (hah : ah < 10) : skM l yX1_gainBy cX1_gainBy 3 (some .long) 0 0 0 0 D (skT cI cJ cC cZ cS) [.ref (q 11), .int (nI d), .int (nI ah)] [ro_rrrrrrrnn (q 11) 1 (q 10) (q 67) (q 68) (q 69) (q 70) (q 71) (q 72) gd gs, ra_J (q 72) cJ 100 e6, ro_rrrrrr (q 10) 9 (q 61) (q 62) (q 63) (q 64) (q 65) (q 66), ra_J (q 65) cJ 90 fg] (skL D (skT cI cJ cC cZ cS) (fun (r : Int64) (u : va_W) => u = [ro_rrrrrrrnn (q 11) 1 (q 10) (q 67) (q 68) (q 69) (q 70) (q 71) (q 72) gd gs, ra_J (q 72) cJ 100 e6, ro_rrrrrr (q 10) 9 (q 61) (q 62) (q 63) (q 64) (q 65) (q 66), ra_J (q 65) cJ 90 fg])) := by
  refine skM_of pf_X1_gainBy (Nat.le_of_ble_eq_true rfl) ?_
  intro p e s m below meth c A ls E hP hD hl
  refine skE_el E (fun hx hb hr hml hlocks hin hown hts hK hA => ?_)
  have hown : s.vm.findClass RX1 = some m.cls := hown
  have hS : va_S A s.heap s.heap [] := va_S.rf
  have hl : lv_has ls 3 [(0, .ref (q 11)), (1, .int (nI d)), (2, .int (nI ah))] := hl
  refine lv_aload_n hx hb dX1_gainBy_0 rfl (lv_at hl 0 rfl) ?_
  refine sk_get (v := .ref (q 10)) (C := RX1) (T := TX1) (N := 9) hx hb hts inlX1 hown hK hP 0 rfl rfl 0 (Nat.le_of_ble_eq_true rfl) w_2_95 rfl dX1_gainBy_1 ?_
  refine sk_get (v := .ref (q 65)) (C := RX9) (T := TX9) (N := 6) hx hb hts inlX9 hown hK hP 2 rfl rfl 4 (Nat.le_of_ble_eq_true rfl) w_2_73 rfl dX1_gainBy_4 ?_
  refine lv_iload_n hx hb dX1_gainBy_7 rfl (lv_at hl 1 rfl) ?_
  refine lv_bipush (v := 10) hx hb dX1_gainBy_8 (by decide) ?_
  refine lv_imul hx hb dX1_gainBy_10 ?_
  refine sk_top (nI (d * 10)) (nmul d 10) ?_
  refine lv_iload_n hx hb dX1_gainBy_11 rfl (lv_at hl 2 rfl) ?_
  refine lv_iadd hx hb dX1_gainBy_12 ?_
  refine sk_top (nI (d * 10 + ah)) (nI_add (d * 10) ah) ?_
  refine va_lald hx hb hK.1 hP 3 1 rfl rfl (vin (d * 10 + ah) 90 (by omega) (Nat.le_of_ble_eq_true rfl)) dX1_gainBy_13 ?_
  refine lv_topl (fun v_1 ev_1 => ?_)
  refine lv_aload_n hx hb dX1_gainBy_14 rfl (lv_at hl 0 rfl) ?_
  refine sk_get (v := .ref (q 72)) (C := RX1) (T := TX1) (N := 9) hx hb hts inlX1 hown hK hP 0 rfl rfl 6 (Nat.le_of_ble_eq_true rfl) w_2_101 rfl dX1_gainBy_15 ?_
  refine lv_iload_n hx hb dX1_gainBy_18 rfl (lv_at hl 1 rfl) ?_
  refine lv_iconst (v := 1) hx hb dX1_gainBy_19 ic_1 ?_
  refine lv_iadd hx hb dX1_gainBy_20 ?_
  refine sk_top (nI (d + 1)) (nI_add d 1) ?_
  refine lv_bipush (v := 10) hx hb dX1_gainBy_21 (by decide) ?_
  refine lv_imul hx hb dX1_gainBy_23 ?_
  refine sk_top (nI ((d + 1) * 10)) (nmul (d + 1) 10) ?_
  refine lv_iload_n hx hb dX1_gainBy_24 rfl (lv_at hl 2 rfl) ?_
  refine lv_iadd hx hb dX1_gainBy_25 ?_
  refine sk_top (nI ((d + 1) * 10 + ah)) (nI_add ((d + 1) * 10) ah) ?_
  refine va_lald hx hb hK.1 hP 1 1 rfl rfl (vin ((d + 1) * 10 + ah) 100 (by omega) (Nat.le_of_ble_eq_true rfl)) dX1_gainBy_26 ?_
  refine lv_topl (fun v_2 ev_2 => ?_)
  refine lv_ladd hx hb dX1_gainBy_27 ?_
  refine lv_topl (fun v_3 ev_3 => ?_)
  exact sk_lret hx hb hr hlocks hK hP hD hS rfl (Nat.le_of_ble_eq_true rfl) (Nat.le_of_ble_eq_true rfl) dX1_gainBy_28
theorem dg_X1_bestPay_0_0 : bqL cX1_bestPay 0 [(0, [3]), (1, [60]), (2, [27]), (3, [16, 10]), (5, [162, 0, 24]), (29, [42]), (30, [180, 0, 31]), (33, [4]), (34, [100]), (35, [60]), (36, [27]), (37, [155, 0, 88]), (125, [42]), (126, [180, 0, 28]), (129, [42]), (130, [180, 0, 35]), (133, [47]), (134, [173]), (40, [3]), (41, [61]), (42, [28]), (43, [16, 10]), (45, [162, 0, 74]), (119, [132, 1, 255]), (122, [167, 255, 170]), (48, [42]), (49, [27]), (50, [28]), (51, [182, 0, 66]), (54, [62]), (55, [20, 0, 89]), (58, [55, 4]), (60, [3]), (61, [54, 6]), (63, [21, 6]), (65, [16, 10]), (67, [162, 0, 33]), (100, [42]), (101, [180, 0, 28]), (104, [27])] = true := by decide +kernel
theorem dX1_bestPay_0 : decode cX1_bestPay 0 = .ok (.iconst 0, 1) := q_iconst0 (bat_get dg_X1_bestPay_0_0 0 rfl rfl)
theorem dX1_bestPay_1 : decode cX1_bestPay 1 = .ok (.istore_n 1, 1) := q_istore_n1 (bat_get dg_X1_bestPay_0_0 1 rfl rfl)
theorem dX1_bestPay_2 : decode cX1_bestPay 2 = .ok (.iload_n 1, 1) := q_iload_n1 (bat_get dg_X1_bestPay_0_0 2 rfl rfl)
theorem dX1_bestPay_3 : decode cX1_bestPay 3 = .ok (.bipush 10, 2) := q_bipush (bat_get dg_X1_bestPay_0_0 3 rfl rfl) rfl
theorem dX1_bestPay_5 : decode cX1_bestPay 5 = .ok (.if_icmp .ge 24, 3) := q_if_icmp_ge (bat_get dg_X1_bestPay_0_0 4 rfl rfl) rfl
theorem dX1_bestPay_29 : decode cX1_bestPay 29 = .ok (.aload_n 0, 1) := q_aload_n0 (bat_get dg_X1_bestPay_0_0 5 rfl rfl)
theorem dX1_bestPay_30 : decode cX1_bestPay 30 = .ok (.getfield 31, 3) := q_getfield (bat_get dg_X1_bestPay_0_0 6 rfl rfl) rfl
theorem dX1_bestPay_33 : decode cX1_bestPay 33 = .ok (.iconst 1, 1) := q_iconst1 (bat_get dg_X1_bestPay_0_0 7 rfl rfl)
theorem dX1_bestPay_34 : decode cX1_bestPay 34 = .ok (.isub, 1) := q_isub (bat_get dg_X1_bestPay_0_0 8 rfl rfl)
theorem dX1_bestPay_35 : decode cX1_bestPay 35 = .ok (.istore_n 1, 1) := q_istore_n1 (bat_get dg_X1_bestPay_0_0 9 rfl rfl)
theorem dX1_bestPay_36 : decode cX1_bestPay 36 = .ok (.iload_n 1, 1) := q_iload_n1 (bat_get dg_X1_bestPay_0_0 10 rfl rfl)
theorem dX1_bestPay_37 : decode cX1_bestPay 37 = .ok (.ifCond .lt 88, 3) := q_ifCond_lt (bat_get dg_X1_bestPay_0_0 11 rfl rfl) rfl
theorem dX1_bestPay_125 : decode cX1_bestPay 125 = .ok (.aload_n 0, 1) := q_aload_n0 (bat_get dg_X1_bestPay_0_0 12 rfl rfl)
theorem dX1_bestPay_126 : decode cX1_bestPay 126 = .ok (.getfield 28, 3) := q_getfield (bat_get dg_X1_bestPay_0_0 13 rfl rfl) rfl
theorem dX1_bestPay_129 : decode cX1_bestPay 129 = .ok (.aload_n 0, 1) := q_aload_n0 (bat_get dg_X1_bestPay_0_0 14 rfl rfl)
theorem dX1_bestPay_130 : decode cX1_bestPay 130 = .ok (.getfield 35, 3) := q_getfield (bat_get dg_X1_bestPay_0_0 15 rfl rfl) rfl
theorem dX1_bestPay_133 : decode cX1_bestPay 133 = .ok (.laload, 1) := q_laload (bat_get dg_X1_bestPay_0_0 16 rfl rfl)
theorem dX1_bestPay_134 : decode cX1_bestPay 134 = .ok (.lreturn, 1) := q_lreturn (bat_get dg_X1_bestPay_0_0 17 rfl rfl)
theorem dX1_bestPay_40 : decode cX1_bestPay 40 = .ok (.iconst 0, 1) := q_iconst0 (bat_get dg_X1_bestPay_0_0 18 rfl rfl)
theorem dX1_bestPay_41 : decode cX1_bestPay 41 = .ok (.istore_n 2, 1) := q_istore_n2 (bat_get dg_X1_bestPay_0_0 19 rfl rfl)
theorem dX1_bestPay_42 : decode cX1_bestPay 42 = .ok (.iload_n 2, 1) := q_iload_n2 (bat_get dg_X1_bestPay_0_0 20 rfl rfl)
theorem dX1_bestPay_43 : decode cX1_bestPay 43 = .ok (.bipush 10, 2) := q_bipush (bat_get dg_X1_bestPay_0_0 21 rfl rfl) rfl
theorem dX1_bestPay_45 : decode cX1_bestPay 45 = .ok (.if_icmp .ge 74, 3) := q_if_icmp_ge (bat_get dg_X1_bestPay_0_0 22 rfl rfl) rfl
theorem dX1_bestPay_119 : decode cX1_bestPay 119 = .ok (.iinc 1 (-1), 3) := q_iinc (bat_get dg_X1_bestPay_0_0 23 rfl rfl) rfl
theorem dX1_bestPay_122 : decode cX1_bestPay 122 = .ok (.goto (-86), 3) := q_goto (bat_get dg_X1_bestPay_0_0 24 rfl rfl) rfl
theorem dX1_bestPay_48 : decode cX1_bestPay 48 = .ok (.aload_n 0, 1) := q_aload_n0 (bat_get dg_X1_bestPay_0_0 25 rfl rfl)
theorem dX1_bestPay_49 : decode cX1_bestPay 49 = .ok (.iload_n 1, 1) := q_iload_n1 (bat_get dg_X1_bestPay_0_0 26 rfl rfl)
theorem dX1_bestPay_50 : decode cX1_bestPay 50 = .ok (.iload_n 2, 1) := q_iload_n2 (bat_get dg_X1_bestPay_0_0 27 rfl rfl)
theorem dX1_bestPay_51 : decode cX1_bestPay 51 = .ok (.invokevirtual 66, 3) := q_invokevirtual (bat_get dg_X1_bestPay_0_0 28 rfl rfl) rfl
theorem dX1_bestPay_54 : decode cX1_bestPay 54 = .ok (.istore_n 3, 1) := q_istore_n3 (bat_get dg_X1_bestPay_0_0 29 rfl rfl)
theorem dX1_bestPay_55 : decode cX1_bestPay 55 = .ok (.ldc2_w 89, 3) := q_ldc2_w (bat_get dg_X1_bestPay_0_0 30 rfl rfl) rfl
theorem dX1_bestPay_58 : decode cX1_bestPay 58 = .ok (.lstore 4, 2) := q_lstore (bat_get dg_X1_bestPay_0_0 31 rfl rfl)
theorem dX1_bestPay_60 : decode cX1_bestPay 60 = .ok (.iconst 0, 1) := q_iconst0 (bat_get dg_X1_bestPay_0_0 32 rfl rfl)
theorem dX1_bestPay_61 : decode cX1_bestPay 61 = .ok (.istore 6, 2) := q_istore (bat_get dg_X1_bestPay_0_0 33 rfl rfl)
theorem dX1_bestPay_63 : decode cX1_bestPay 63 = .ok (.iload 6, 2) := q_iload (bat_get dg_X1_bestPay_0_0 34 rfl rfl)
theorem dX1_bestPay_65 : decode cX1_bestPay 65 = .ok (.bipush 10, 2) := q_bipush (bat_get dg_X1_bestPay_0_0 35 rfl rfl) rfl
theorem dX1_bestPay_67 : decode cX1_bestPay 67 = .ok (.if_icmp .ge 33, 3) := q_if_icmp_ge (bat_get dg_X1_bestPay_0_0 36 rfl rfl) rfl
theorem dX1_bestPay_100 : decode cX1_bestPay 100 = .ok (.aload_n 0, 1) := q_aload_n0 (bat_get dg_X1_bestPay_0_0 37 rfl rfl)
theorem dX1_bestPay_101 : decode cX1_bestPay 101 = .ok (.getfield 28, 3) := q_getfield (bat_get dg_X1_bestPay_0_0 38 rfl rfl) rfl
theorem dX1_bestPay_104 : decode cX1_bestPay 104 = .ok (.iload_n 1, 1) := q_iload_n1 (bat_get dg_X1_bestPay_0_0 39 rfl rfl)
theorem dg_X1_bestPay_8_105 : bqL cX1_bestPay 8 [(97, [16, 10]), (99, [104]), (100, [28]), (101, [96]), (102, [22, 4]), (104, [80]), (105, [132, 2, 1]), (108, [167, 255, 182]), (62, [29]), (63, [21, 6]), (65, [122]), (66, [4]), (67, [126]), (68, [4]), (69, [160, 0, 17]), (86, [132, 6, 1]), (89, [167, 255, 222]), (72, [22, 4]), (74, [42]), (75, [27]), (76, [21, 6]), (78, [182, 0, 91]), (81, [184, 0, 83]), (84, [55, 4]), (0, [42]), (1, [180, 0, 28]), (4, [42]), (5, [180, 0, 31]), (8, [16, 10]), (10, [104]), (11, [27]), (12, [96]), (13, [9]), (14, [80]), (15, [132, 1, 1]), (18, [167, 255, 232])] = true := by decide +kernel
theorem dX1_bestPay_105 : decode cX1_bestPay 105 = .ok (.bipush 10, 2) := q_bipush (bat_get dg_X1_bestPay_8_105 0 rfl rfl) rfl
theorem dX1_bestPay_107 : decode cX1_bestPay 107 = .ok (.imul, 1) := q_imul (bat_get dg_X1_bestPay_8_105 1 rfl rfl)
theorem dX1_bestPay_108 : decode cX1_bestPay 108 = .ok (.iload_n 2, 1) := q_iload_n2 (bat_get dg_X1_bestPay_8_105 2 rfl rfl)
theorem dX1_bestPay_109 : decode cX1_bestPay 109 = .ok (.iadd, 1) := q_iadd (bat_get dg_X1_bestPay_8_105 3 rfl rfl)
theorem dX1_bestPay_110 : decode cX1_bestPay 110 = .ok (.lload 4, 2) := q_lload (bat_get dg_X1_bestPay_8_105 4 rfl rfl)
theorem dX1_bestPay_112 : decode cX1_bestPay 112 = .ok (.lastore, 1) := q_lastore (bat_get dg_X1_bestPay_8_105 5 rfl rfl)
theorem dX1_bestPay_113 : decode cX1_bestPay 113 = .ok (.iinc 2 1, 3) := q_iinc (bat_get dg_X1_bestPay_8_105 6 rfl rfl) rfl
theorem dX1_bestPay_116 : decode cX1_bestPay 116 = .ok (.goto (-74), 3) := q_goto (bat_get dg_X1_bestPay_8_105 7 rfl rfl) rfl
theorem dX1_bestPay_70 : decode cX1_bestPay 70 = .ok (.iload_n 3, 1) := q_iload_n3 (bat_get dg_X1_bestPay_8_105 8 rfl rfl)
theorem dX1_bestPay_71 : decode cX1_bestPay 71 = .ok (.iload 6, 2) := q_iload (bat_get dg_X1_bestPay_8_105 9 rfl rfl)
theorem dX1_bestPay_73 : decode cX1_bestPay 73 = .ok (.ishr, 1) := q_ishr (bat_get dg_X1_bestPay_8_105 10 rfl rfl)
theorem dX1_bestPay_74 : decode cX1_bestPay 74 = .ok (.iconst 1, 1) := q_iconst1 (bat_get dg_X1_bestPay_8_105 11 rfl rfl)
theorem dX1_bestPay_75 : decode cX1_bestPay 75 = .ok (.iand, 1) := q_iand (bat_get dg_X1_bestPay_8_105 12 rfl rfl)
theorem dX1_bestPay_76 : decode cX1_bestPay 76 = .ok (.iconst 1, 1) := q_iconst1 (bat_get dg_X1_bestPay_8_105 13 rfl rfl)
theorem dX1_bestPay_77 : decode cX1_bestPay 77 = .ok (.if_icmp .ne 17, 3) := q_if_icmp_ne (bat_get dg_X1_bestPay_8_105 14 rfl rfl) rfl
theorem dX1_bestPay_94 : decode cX1_bestPay 94 = .ok (.iinc 6 1, 3) := q_iinc (bat_get dg_X1_bestPay_8_105 15 rfl rfl) rfl
theorem dX1_bestPay_97 : decode cX1_bestPay 97 = .ok (.goto (-34), 3) := q_goto (bat_get dg_X1_bestPay_8_105 16 rfl rfl) rfl
theorem dX1_bestPay_80 : decode cX1_bestPay 80 = .ok (.lload 4, 2) := q_lload (bat_get dg_X1_bestPay_8_105 17 rfl rfl)
theorem dX1_bestPay_82 : decode cX1_bestPay 82 = .ok (.aload_n 0, 1) := q_aload_n0 (bat_get dg_X1_bestPay_8_105 18 rfl rfl)
theorem dX1_bestPay_83 : decode cX1_bestPay 83 = .ok (.iload_n 1, 1) := q_iload_n1 (bat_get dg_X1_bestPay_8_105 19 rfl rfl)
theorem dX1_bestPay_84 : decode cX1_bestPay 84 = .ok (.iload 6, 2) := q_iload (bat_get dg_X1_bestPay_8_105 20 rfl rfl)
theorem dX1_bestPay_86 : decode cX1_bestPay 86 = .ok (.invokevirtual 91, 3) := q_invokevirtual (bat_get dg_X1_bestPay_8_105 21 rfl rfl) rfl
theorem dX1_bestPay_89 : decode cX1_bestPay 89 = .ok (.invokestatic 83, 3) := q_invokestatic (bat_get dg_X1_bestPay_8_105 22 rfl rfl) rfl
theorem dX1_bestPay_92 : decode cX1_bestPay 92 = .ok (.lstore 4, 2) := q_lstore (bat_get dg_X1_bestPay_8_105 23 rfl rfl)
theorem dX1_bestPay_8 : decode cX1_bestPay 8 = .ok (.aload_n 0, 1) := q_aload_n0 (bat_get dg_X1_bestPay_8_105 24 rfl rfl)
theorem dX1_bestPay_9 : decode cX1_bestPay 9 = .ok (.getfield 28, 3) := q_getfield (bat_get dg_X1_bestPay_8_105 25 rfl rfl) rfl
theorem dX1_bestPay_12 : decode cX1_bestPay 12 = .ok (.aload_n 0, 1) := q_aload_n0 (bat_get dg_X1_bestPay_8_105 26 rfl rfl)
theorem dX1_bestPay_13 : decode cX1_bestPay 13 = .ok (.getfield 31, 3) := q_getfield (bat_get dg_X1_bestPay_8_105 27 rfl rfl) rfl
theorem dX1_bestPay_16 : decode cX1_bestPay 16 = .ok (.bipush 10, 2) := q_bipush (bat_get dg_X1_bestPay_8_105 28 rfl rfl) rfl
theorem dX1_bestPay_18 : decode cX1_bestPay 18 = .ok (.imul, 1) := q_imul (bat_get dg_X1_bestPay_8_105 29 rfl rfl)
theorem dX1_bestPay_19 : decode cX1_bestPay 19 = .ok (.iload_n 1, 1) := q_iload_n1 (bat_get dg_X1_bestPay_8_105 30 rfl rfl)
theorem dX1_bestPay_20 : decode cX1_bestPay 20 = .ok (.iadd, 1) := q_iadd (bat_get dg_X1_bestPay_8_105 31 rfl rfl)
theorem dX1_bestPay_21 : decode cX1_bestPay 21 = .ok (.lconst 0, 1) := q_lconst0 (bat_get dg_X1_bestPay_8_105 32 rfl rfl)
theorem dX1_bestPay_22 : decode cX1_bestPay 22 = .ok (.lastore, 1) := q_lastore (bat_get dg_X1_bestPay_8_105 33 rfl rfl)
theorem dX1_bestPay_23 : decode cX1_bestPay 23 = .ok (.iinc 1 1, 3) := q_iinc (bat_get dg_X1_bestPay_8_105 34 rfl rfl) rfl
theorem dX1_bestPay_26 : decode cX1_bestPay 26 = .ok (.goto (-24), 3) := q_goto (bat_get dg_X1_bestPay_8_105 35 rfl rfl) rfl
theorem w_4_160 : (Cond.constantLong RX1 89 (-1000000000000000)) ∈ wsL_law := sk_mem (ck_4 _ (List.mem_of_getElem? (i := 160) rfl)) rfl
theorem w_4_161 : (Cond.methodLink RX1 91 yX1_gainBy) ∈ wsL_law := sk_mem (ck_4 _ (List.mem_of_getElem? (i := 161) rfl)) rfl
theorem w_4_163 : (Cond.instanceMethod yX1_gainBy) ∈ wsL_law := sk_mem (ck_4 _ (List.mem_of_getElem? (i := 163) rfl)) rfl
theorem w_0_26 : (Cond.selects RX1 yX1_gainBy yX1_gainBy) ∈ wsL_law := sk_mem (ck_0 _ (List.mem_of_getElem? (i := 26) rfl)) rfl
theorem w_4_159 : (Cond.code yX1_bestPay cX1_bestPay 7 (some .long)) ∈ wsL_law := sk_mem (ck_4 _ (List.mem_of_getElem? (i := 159) rfl)) rfl
def om_7_78 : List Bool := true :: true :: true :: true :: false :: false :: false :: []
def om_7_47 : List Bool := true :: false :: false :: false :: true :: true :: true :: []
theorem hd_X1_gainBy_2 : skD yX1_gainBy 2 := by decide +kernel
set_option maxHeartbeats 4000000 in
set_option maxRecDepth 100000 in
theorem c_bestPay (l : Launch) (D : va_G) (cI cJ cC cZ cS : ClassId) (q : Nat → Nat) (gd : Nat) (gs : Nat) (e1 : Nat → Int32) (e2 : Nat → Int32) (e3 : Nat → Int32) (e6 : Nat → Int64) (fg : Nat → Int64) (hgd : gd ≤ 9) (hgs : gs ≤ 9) : skM l yX1_bestPay cX1_bestPay 7 (some .long) 1 23 0 0 D (skT cI cJ cC cZ cS) [.ref (q 11)] [ro_rrrrrrrnn (q 11) 1 (q 10) (q 67) (q 68) (q 69) (q 70) (q 71) (q 72) gd gs, ra_I (q 67) cI 90 e1, ra_I (q 68) cI 9 e2, ra_I (q 69) cI 10 e3, ra_J (q 72) cJ 100 e6, ro_rrrrrr (q 10) 9 (q 61) (q 62) (q 63) (q 64) (q 65) (q 66), ra_J (q 65) cJ 90 fg] (skL D (skT cI cJ cC cZ cS) (fun (r : Int64) (u : va_W) => ∃ (g6 : Nat → Int64), u = [ro_rrrrrrrnn (q 11) 1 (q 10) (q 67) (q 68) (q 69) (q 70) (q 71) (q 72) gd gs, ra_I (q 67) cI 90 e1, ra_I (q 68) cI 9 e2, ra_I (q 69) cI 10 e3, ra_J (q 72) cJ 100 g6, ro_rrrrrr (q 10) 9 (q 61) (q 62) (q 63) (q 64) (q 65) (q 66), ra_J (q 65) cJ 90 fg])) := by
  refine skM_of pf_X1_bestPay (Nat.le_of_ble_eq_true rfl) ?_
  intro p e s m below meth c A ls E hP hD hl
  refine skE_el E (fun hx hb hr hml hlocks hin hown hts hK hA => ?_)
  have hown : s.vm.findClass RX1 = some m.cls := hown
  have hS : va_S A s.heap s.heap [] := va_S.rf
  have hl : lv_has ls 7 [(0, .ref (q 11))] := hl
  refine lv_iconst (v := 0) hx hb dX1_bestPay_0 ic_0 ?_
  refine lv_istore_n (lv' := [(1, .int 0), (0, .ref (q 11))]) hx hb dX1_bestPay_1 rfl hl (by decide) rfl (fun ls hl => ?_)
  have lp_1 : ∀ (n_2 : Nat) (i : Nat) (a6 : Nat → Int64) (H : Heap) (locs : List Loc) (ls : Array Slot), 10 - i < n_2 → (i ≤ 10) → va_P D vwCl [ro_rrrrrrrnn (q 11) 1 (q 10) (q 67) (q 68) (q 69) (q 70) (q 71) (q 72) gd gs, ra_I (q 67) cI 90 e1, ra_I (q 68) cI 9 e2, ra_I (q 69) cI 10 e3, ra_J (q 72) cJ 100 a6, ro_rrrrrr (q 10) 9 (q 61) (q 62) (q 63) (q 64) (q 65) (q 66), ra_J (q 65) cJ 90 fg] H → va_D A [ro_rrrrrrrnn (q 11) 1 (q 10) (q 67) (q 68) (q 69) (q 70) (q 71) (q 72) gd gs, ra_I (q 67) cI 90 e1, ra_I (q 68) cI 9 e2, ra_I (q 69) cI 10 e3, ra_J (q 72) cJ 100 a6, ro_rrrrrr (q 10) 9 (q 61) (q 62) (q 63) (q 64) (q 65) (q 66), ra_J (q 65) cJ 90 fg] → va_S A s.heap H locs → lv_has ls 7 [(1, .int (nI i)), (0, .ref (q 11))] → W p l e { frames := 1, cells := 0, slots := 0, locals := 23 } s m ([.ref (q 11)] : List Value).toArray below meth c H locs 0 0 (MQ below (skL D (skT cI cJ cC cZ cS) (fun (r : Int64) (u : va_W) => ∃ (g6 : Nat → Int64), u = [ro_rrrrrrrnn (q 11) 1 (q 10) (q 67) (q 68) (q 69) (q 70) (q 71) (q 72) gd gs, ra_I (q 67) cI 90 e1, ra_I (q 68) cI 9 e2, ra_I (q 69) cI 10 e3, ra_J (q 72) cJ 100 g6, ro_rrrrrr (q 10) 9 (q 61) (q 62) (q 63) (q 64) (q 65) (q 66), ra_J (q 65) cJ 90 fg]) A) ([.ref (q 11)] : List Value).toArray s 0 0 A) (F0 m 2 ls []) := by
    intro n_2
    induction n_2 with
    | zero => intro i a6 H locs ls hm; exact absurd hm (Nat.not_lt_zero _)
    | succ n_2 ih_lp_1 =>
      intro i a6 H locs ls hm hi hP hD hS hl
      refine lv_iload_n hx hb dX1_bestPay_2 rfl (lv_at hl 0 rfl) ?_
      refine lv_bipush (v := 10) hx hb dX1_bestPay_3 (by decide) ?_
      refine lv_icmp_ge (tgt := 29) hx hb dX1_bestPay_5 (by decide) (fun c_3 => ?_) (fun c_3 => ?_)
      · have c_3 : 10 ≤ i := (nle 10 i (Nat.le_of_ble_eq_true rfl) (by omega)).mp c_3
        refine lv_aload_n hx hb dX1_bestPay_29 rfl (lv_at hl 1 rfl) ?_
        refine sk_get (v := .int (nI gd)) (C := RX1) (T := TX1) (N := 9) hx hb hts inlX1 hown hK hP 0 rfl rfl 7 (Nat.le_of_ble_eq_true rfl) w_2_102 rfl dX1_bestPay_30 ?_
        refine lv_iconst (v := 1) hx hb dX1_bestPay_33 ic_1 ?_
        refine lv_isub hx hb dX1_bestPay_34 ?_
        refine lv_istore_n (lv' := [(1, .int (nI gd - 1)), (0, .ref (q 11))]) hx hb dX1_bestPay_35 rfl hl (by decide) rfl (fun ls hl => ?_)
        have lp_4 : ∀ (n_5 : Nat) (dd : Nat) (b6 : Nat → Int64) (H : Heap) (locs : List Loc) (ls : Array Slot), dd < n_5 → (dd ≤ 9) → va_P D vwCl [ro_rrrrrrrnn (q 11) 1 (q 10) (q 67) (q 68) (q 69) (q 70) (q 71) (q 72) gd gs, ra_I (q 67) cI 90 e1, ra_I (q 68) cI 9 e2, ra_I (q 69) cI 10 e3, ra_J (q 72) cJ 100 b6, ro_rrrrrr (q 10) 9 (q 61) (q 62) (q 63) (q 64) (q 65) (q 66), ra_J (q 65) cJ 90 fg] H → va_D A [ro_rrrrrrrnn (q 11) 1 (q 10) (q 67) (q 68) (q 69) (q 70) (q 71) (q 72) gd gs, ra_I (q 67) cI 90 e1, ra_I (q 68) cI 9 e2, ra_I (q 69) cI 10 e3, ra_J (q 72) cJ 100 b6, ro_rrrrrr (q 10) 9 (q 61) (q 62) (q 63) (q 64) (q 65) (q 66), ra_J (q 65) cJ 90 fg] → va_S A s.heap H locs → lv_has ls 7 [(1, .int (nI dd - 1)), (0, .ref (q 11))] → W p l e { frames := 1, cells := 0, slots := 0, locals := 23 } s m ([.ref (q 11)] : List Value).toArray below meth c H locs 0 0 (MQ below (skL D (skT cI cJ cC cZ cS) (fun (r : Int64) (u : va_W) => ∃ (g6 : Nat → Int64), u = [ro_rrrrrrrnn (q 11) 1 (q 10) (q 67) (q 68) (q 69) (q 70) (q 71) (q 72) gd gs, ra_I (q 67) cI 90 e1, ra_I (q 68) cI 9 e2, ra_I (q 69) cI 10 e3, ra_J (q 72) cJ 100 g6, ro_rrrrrr (q 10) 9 (q 61) (q 62) (q 63) (q 64) (q 65) (q 66), ra_J (q 65) cJ 90 fg]) A) ([.ref (q 11)] : List Value).toArray s 0 0 A) (F0 m 36 ls []) := by
          intro n_5
          induction n_5 with
          | zero => intro dd b6 H locs ls hm; exact absurd hm (Nat.not_lt_zero _)
          | succ n_5 ih_lp_4 =>
            intro dd b6 H locs ls hm hdd hP hD hS hl
            refine lv_iload_n hx hb dX1_bestPay_36 rfl (lv_at hl 0 rfl) ?_
            refine lv_if_lt (tgt := 125) hx hb dX1_bestPay_37 (by decide) (fun c_6 => ?_) (fun c_6 => ?_)
            · have c_6 : dd = 0 := npm0 dd (by omega) c_6
              refine lv_aload_n hx hb dX1_bestPay_125 rfl (lv_at hl 1 rfl) ?_
              refine sk_get (v := .ref (q 72)) (C := RX1) (T := TX1) (N := 9) hx hb hts inlX1 hown hK hP 0 rfl rfl 6 (Nat.le_of_ble_eq_true rfl) w_2_101 rfl dX1_bestPay_126 ?_
              refine lv_aload_n hx hb dX1_bestPay_129 rfl (lv_at hl 1 rfl) ?_
              refine sk_get (v := .int (nI gs)) (C := RX1) (T := TX1) (N := 9) hx hb hts inlX1 hown hK hP 0 rfl rfl 8 (Nat.le_of_ble_eq_true rfl) w_2_103 rfl dX1_bestPay_130 ?_
              refine va_lald hx hb hK.1 hP 4 1 rfl rfl (vin gs 100 (by omega) (Nat.le_of_ble_eq_true rfl)) dX1_bestPay_133 ?_
              refine lv_topl (fun v_7 ev_7 => ?_)
              exact sk_lret hx hb hr hlocks hK hP hD hS (⟨b6, rfl⟩) (Nat.le_of_ble_eq_true rfl) (Nat.le_of_ble_eq_true rfl) dX1_bestPay_134
            · have c_6 : 1 ≤ dd := npm1 dd c_6
              rw [npred dd (by omega)] at hl
              refine lv_iconst (v := 0) hx hb dX1_bestPay_40 ic_0 ?_
              refine lv_istore_n (lv' := [(2, .int 0), (1, .int (nI (dd - 1))), (0, .ref (q 11))]) hx hb dX1_bestPay_41 rfl hl (by decide) rfl (fun ls hl => ?_)
              have lp_8 : ∀ (n_9 : Nat) (jj : Nat) (c6 : Nat → Int64) (H : Heap) (locs : List Loc) (ls : Array Slot), 10 - jj < n_9 → (jj ≤ 10) → va_P D vwCl [ro_rrrrrrrnn (q 11) 1 (q 10) (q 67) (q 68) (q 69) (q 70) (q 71) (q 72) gd gs, ra_I (q 67) cI 90 e1, ra_I (q 68) cI 9 e2, ra_I (q 69) cI 10 e3, ra_J (q 72) cJ 100 c6, ro_rrrrrr (q 10) 9 (q 61) (q 62) (q 63) (q 64) (q 65) (q 66), ra_J (q 65) cJ 90 fg] H → va_D A [ro_rrrrrrrnn (q 11) 1 (q 10) (q 67) (q 68) (q 69) (q 70) (q 71) (q 72) gd gs, ra_I (q 67) cI 90 e1, ra_I (q 68) cI 9 e2, ra_I (q 69) cI 10 e3, ra_J (q 72) cJ 100 c6, ro_rrrrrr (q 10) 9 (q 61) (q 62) (q 63) (q 64) (q 65) (q 66), ra_J (q 65) cJ 90 fg] → va_S A s.heap H locs → lv_has ls 7 [(2, .int (nI jj)), (1, .int (nI (dd - 1))), (0, .ref (q 11))] → W p l e { frames := 1, cells := 0, slots := 0, locals := 23 } s m ([.ref (q 11)] : List Value).toArray below meth c H locs 0 0 (MQ below (skL D (skT cI cJ cC cZ cS) (fun (r : Int64) (u : va_W) => ∃ (g6 : Nat → Int64), u = [ro_rrrrrrrnn (q 11) 1 (q 10) (q 67) (q 68) (q 69) (q 70) (q 71) (q 72) gd gs, ra_I (q 67) cI 90 e1, ra_I (q 68) cI 9 e2, ra_I (q 69) cI 10 e3, ra_J (q 72) cJ 100 g6, ro_rrrrrr (q 10) 9 (q 61) (q 62) (q 63) (q 64) (q 65) (q 66), ra_J (q 65) cJ 90 fg]) A) ([.ref (q 11)] : List Value).toArray s 0 0 A) (F0 m 42 ls []) := by
                intro n_9
                induction n_9 with
                | zero => intro jj c6 H locs ls hm; exact absurd hm (Nat.not_lt_zero _)
                | succ n_9 ih_lp_8 =>
                  intro jj c6 H locs ls hm hjj hP hD hS hl
                  refine lv_iload_n hx hb dX1_bestPay_42 rfl (lv_at hl 0 rfl) ?_
                  refine lv_bipush (v := 10) hx hb dX1_bestPay_43 (by decide) ?_
                  refine lv_icmp_ge (tgt := 119) hx hb dX1_bestPay_45 (by decide) (fun c_10 => ?_) (fun c_10 => ?_)
                  · have c_10 : 10 ≤ jj := (nle 10 jj (Nat.le_of_ble_eq_true rfl) (by omega)).mp c_10
                    refine lv_iinc (v := nI (dd - 1) - 1) (lv' := [(1, .int (nI (dd - 1) - 1)), (2, .int (nI jj)), (0, .ref (q 11))]) hx hb dX1_bestPay_119 hl (k := 1) rfl (ndn _) (by decide) rfl (fun ls hl => ?_)
                    refine lv_goto (tgt := 36) hx hb dX1_bestPay_122 (by decide) ?_
                    exact ih_lp_4 (dd - 1) c6 _ _ _ (by omega) (by omega) hP hD hS (lv_sub hl [0, 2] rfl)
                  · have c_10 : ¬ (10 ≤ jj) := fun h => c_10 ((nle 10 jj (Nat.le_of_ble_eq_true rfl) (by omega)).mpr h)
                    refine lv_aload_n hx hb dX1_bestPay_48 rfl (lv_at hl 2 rfl) ?_
                    refine lv_iload_n hx hb dX1_bestPay_49 rfl (lv_at hl 1 rfl) ?_
                    refine lv_iload_n hx hb dX1_bestPay_50 rfl (lv_at hl 0 rfl) ?_
                    refine sk_Vi (q0 := 0) (n := 2) (rest := []) (wr := fmR om_7_78 _) ⟨hx, hb, hml, hown, hts⟩ hl.1 (c_next l D cI cJ cC cZ cS q gd gs e1 e2 e3 (dd - 1) jj (by omega) (by omega)) w_4_57 w_4_59 w_0_20 w_1_13 w_4_60 hd_X1_next_2 ⟨⟨(Nat.le_of_ble_eq_true rfl), (Nat.le_of_ble_eq_true rfl)⟩, (Nat.le_of_ble_eq_true rfl), (Nat.le_of_ble_eq_true rfl)⟩ hK hP hD hS hA (fmT om_7_78 0) (fmF om_7_78 0) (fm_C1 rfl rfl) (fm_R rfl rfl) (fm_nT om_7_78 0) (fm_nF om_7_78 0) (fm_di om_7_78 0) rfl rfl rfl rfl (Nat.le_of_ble_eq_true rfl) dX1_bestPay_51 (fun r_11 u H locs hw hP hD hS => ?_)
                    refine o_mgE (ws' := [ro_rrrrrrrnn (q 11) 1 (q 10) (q 67) (q 68) (q 69) (q 70) (q 71) (q 72) gd gs, ra_I (q 67) cI 90 e1, ra_I (q 68) cI 9 e2, ra_I (q 69) cI 10 e3, ra_J (q 72) cJ 100 c6, ro_rrrrrr (q 10) 9 (q 61) (q 62) (q 63) (q 64) (q 65) (q 66), ra_J (q 65) cJ 90 fg]) hw hP hD rfl (fun hP hD => ?_)
                    refine lv_istore_n (lv' := [(3, .int r_11), (2, .int (nI jj)), (1, .int (nI (dd - 1))), (0, .ref (q 11))]) hx hb dX1_bestPay_54 rfl hl (by decide) rfl (fun ls hl => ?_)
                    refine lv_ldc2 (v := (-1000000000000000)) hx hb hown (hts _ w_4_160) dX1_bestPay_55 ?_
                    refine lv_lstore (lv' := [(4, .long (-1000000000000000)), (3, .int r_11), (2, .int (nI jj)), (1, .int (nI (dd - 1))), (0, .ref (q 11))]) hx hb dX1_bestPay_58 hl (by decide) rfl (fun ls hl => ?_)
                    refine lv_iconst (v := 0) hx hb dX1_bestPay_60 ic_0 ?_
                    refine lv_istore (lv' := [(6, .int 0), (4, .long (-1000000000000000)), (3, .int r_11), (2, .int (nI jj)), (1, .int (nI (dd - 1))), (0, .ref (q 11))]) hx hb dX1_bestPay_61 hl (by decide) rfl (fun ls hl => ?_)
                    have lp_12 : ∀ (n_13 : Nat) (kk : Nat) (sm : Int64) (H : Heap) (locs : List Loc) (ls : Array Slot), 10 - kk < n_13 → (kk ≤ 10) → va_P D vwCl [ro_rrrrrrrnn (q 11) 1 (q 10) (q 67) (q 68) (q 69) (q 70) (q 71) (q 72) gd gs, ra_I (q 67) cI 90 e1, ra_I (q 68) cI 9 e2, ra_I (q 69) cI 10 e3, ra_J (q 72) cJ 100 c6, ro_rrrrrr (q 10) 9 (q 61) (q 62) (q 63) (q 64) (q 65) (q 66), ra_J (q 65) cJ 90 fg] H → va_D A [ro_rrrrrrrnn (q 11) 1 (q 10) (q 67) (q 68) (q 69) (q 70) (q 71) (q 72) gd gs, ra_I (q 67) cI 90 e1, ra_I (q 68) cI 9 e2, ra_I (q 69) cI 10 e3, ra_J (q 72) cJ 100 c6, ro_rrrrrr (q 10) 9 (q 61) (q 62) (q 63) (q 64) (q 65) (q 66), ra_J (q 65) cJ 90 fg] → va_S A s.heap H locs → lv_has ls 7 [(6, .int (nI kk)), (4, .long sm), (3, .int r_11), (2, .int (nI jj)), (1, .int (nI (dd - 1))), (0, .ref (q 11))] → W p l e { frames := 1, cells := 0, slots := 0, locals := 23 } s m ([.ref (q 11)] : List Value).toArray below meth c H locs 0 0 (MQ below (skL D (skT cI cJ cC cZ cS) (fun (r : Int64) (u : va_W) => ∃ (g6 : Nat → Int64), u = [ro_rrrrrrrnn (q 11) 1 (q 10) (q 67) (q 68) (q 69) (q 70) (q 71) (q 72) gd gs, ra_I (q 67) cI 90 e1, ra_I (q 68) cI 9 e2, ra_I (q 69) cI 10 e3, ra_J (q 72) cJ 100 g6, ro_rrrrrr (q 10) 9 (q 61) (q 62) (q 63) (q 64) (q 65) (q 66), ra_J (q 65) cJ 90 fg]) A) ([.ref (q 11)] : List Value).toArray s 0 0 A) (F0 m 63 ls []) := by
                      intro n_13
                      induction n_13 with
                      | zero => intro kk sm H locs ls hm; exact absurd hm (Nat.not_lt_zero _)
                      | succ n_13 ih_lp_12 =>
                        intro kk sm H locs ls hm hkk hP hD hS hl
                        refine lv_iload hx hb dX1_bestPay_63 (lv_at hl 0 rfl) ?_
                        refine lv_bipush (v := 10) hx hb dX1_bestPay_65 (by decide) ?_
                        refine lv_icmp_ge (tgt := 100) hx hb dX1_bestPay_67 (by decide) (fun c_14 => ?_) (fun c_14 => ?_)
                        · have c_14 : 10 ≤ kk := (nle 10 kk (Nat.le_of_ble_eq_true rfl) (by omega)).mp c_14
                          refine lv_aload_n hx hb dX1_bestPay_100 rfl (lv_at hl 5 rfl) ?_
                          refine sk_get (v := .ref (q 72)) (C := RX1) (T := TX1) (N := 9) hx hb hts inlX1 hown hK hP 0 rfl rfl 6 (Nat.le_of_ble_eq_true rfl) w_2_101 rfl dX1_bestPay_101 ?_
                          refine lv_iload_n hx hb dX1_bestPay_104 rfl (lv_at hl 4 rfl) ?_
                          refine lv_bipush (v := 10) hx hb dX1_bestPay_105 (by decide) ?_
                          refine lv_imul hx hb dX1_bestPay_107 ?_
                          refine sk_top (nI ((dd - 1) * 10)) (nmul (dd - 1) 10) ?_
                          refine lv_iload_n hx hb dX1_bestPay_108 rfl (lv_at hl 3 rfl) ?_
                          refine lv_iadd hx hb dX1_bestPay_109 ?_
                          refine sk_top (nI ((dd - 1) * 10 + jj)) (nI_add ((dd - 1) * 10) jj) ?_
                          refine lv_lload hx hb dX1_bestPay_110 (lv_at hl 1 rfl) ?_
                          refine sk_lastO (ws' := fun f_15 => [ro_rrrrrrrnn (q 11) 1 (q 10) (q 67) (q 68) (q 69) (q 70) (q 71) (q 72) gd gs, ra_I (q 67) cI 90 e1, ra_I (q 68) cI 9 e2, ra_I (q 69) cI 10 e3, ra_J (q 72) cJ 100 f_15, ro_rrrrrr (q 10) 9 (q 61) (q 62) (q 63) (q 64) (q 65) (q 66), ra_J (q 65) cJ 90 fg]) hx hb hK hP hD hS 4 1 rfl rfl (vin ((dd - 1) * 10 + jj) 100 (by omega) (Nat.le_of_ble_eq_true rfl)) (fun _ => rfl) dX1_bestPay_112 (fun f_15 H locs hP hD hS => ?_)
                          refine lv_iinc (v := nI (jj + 1)) (lv' := [(2, .int (nI (jj + 1))), (6, .int (nI kk)), (4, .long sm), (3, .int r_11), (1, .int (nI (dd - 1))), (0, .ref (q 11))]) hx hb dX1_bestPay_113 hl (k := 3) rfl (ninc jj 1 (by decide)) (by decide) rfl (fun ls hl => ?_)
                          refine lv_goto (tgt := 42) hx hb dX1_bestPay_116 (by decide) ?_
                          exact ih_lp_8 (jj + 1) f_15 _ _ _ (by omega) (by omega) hP hD hS (lv_sub hl [0, 4, 5] rfl)
                        · have c_14 : ¬ (10 ≤ kk) := fun h => c_14 ((nle 10 kk (Nat.le_of_ble_eq_true rfl) (by omega)).mpr h)
                          refine lv_iload_n hx hb dX1_bestPay_70 rfl (lv_at hl 2 rfl) ?_
                          refine lv_iload hx hb dX1_bestPay_71 (lv_at hl 0 rfl) ?_
                          refine lv_ishr hx hb dX1_bestPay_73 ?_
                          refine lv_topi (fun v_16 ev_16 => ?_)
                          refine lv_iconst (v := 1) hx hb dX1_bestPay_74 ic_1 ?_
                          refine lv_iand hx hb dX1_bestPay_75 ?_
                          refine lv_topi (fun v_17 ev_17 => ?_)
                          refine lv_iconst (v := 1) hx hb dX1_bestPay_76 ic_1 ?_
                          refine lv_icmp_ne (tgt := 94) hx hb dX1_bestPay_77 (by decide) (fun c_18 => ?_) (fun c_18 => ?_)
                          · skip
                            refine lv_iinc (v := nI (kk + 1)) (lv' := [(6, .int (nI (kk + 1))), (4, .long sm), (3, .int r_11), (2, .int (nI jj)), (1, .int (nI (dd - 1))), (0, .ref (q 11))]) hx hb dX1_bestPay_94 hl (k := 0) rfl (ninc kk 1 (by decide)) (by decide) rfl (fun ls hl => ?_)
                            refine lv_goto (tgt := 63) hx hb dX1_bestPay_97 (by decide) ?_
                            exact ih_lp_12 (kk + 1) sm _ _ _ (by omega) (by omega) hP hD hS (lv_sub hl [0, 1, 2, 3, 4, 5] rfl)
                          · skip
                            refine lv_lload hx hb dX1_bestPay_80 (lv_at hl 1 rfl) ?_
                            refine lv_aload_n hx hb dX1_bestPay_82 rfl (lv_at hl 5 rfl) ?_
                            refine lv_iload_n hx hb dX1_bestPay_83 rfl (lv_at hl 4 rfl) ?_
                            refine lv_iload hx hb dX1_bestPay_84 (lv_at hl 0 rfl) ?_
                            refine sk_Vl (q0 := 0) (n := 2) (rest := [.long sm]) (wr := fmR om_7_47 _) ⟨hx, hb, hml, hown, hts⟩ hl.1 (c_gainBy l D cI cJ cC cZ cS q gd gs c6 fg (dd - 1) kk (by omega) (by omega)) w_4_161 w_4_163 w_0_26 w_1_13 w_4_164 hd_X1_gainBy_2 ⟨⟨(Nat.le_of_ble_eq_true rfl), (Nat.le_of_ble_eq_true rfl)⟩, (Nat.le_of_ble_eq_true rfl), (Nat.le_of_ble_eq_true rfl)⟩ hK hP hD hS hA (fmT om_7_47 0) (fmF om_7_47 0) (fm_C1 rfl rfl) (fm_R rfl rfl) (fm_nT om_7_47 0) (fm_nF om_7_47 0) (fm_di om_7_47 0) rfl rfl rfl rfl (Nat.le_of_ble_eq_true rfl) dX1_bestPay_86 (fun r_19 u H locs hw hP hD hS => ?_)
                            refine o_mgE (ws' := [ro_rrrrrrrnn (q 11) 1 (q 10) (q 67) (q 68) (q 69) (q 70) (q 71) (q 72) gd gs, ra_I (q 67) cI 90 e1, ra_I (q 68) cI 9 e2, ra_I (q 69) cI 10 e3, ra_J (q 72) cJ 100 c6, ro_rrrrrr (q 10) 9 (q 61) (q 62) (q 63) (q 64) (q 65) (q 66), ra_J (q 65) cJ 90 fg]) hw hP hD rfl (fun hP hD => ?_)
                            refine va_mmax_long hx hb (by rw [hml]; exact hl.1.symm) hown (hts _ w_4_165) (hts _ w_4_0) (hts _ w_1_3) (hts _ w_4_1) (Nat.le_of_ble_eq_true rfl) (Nat.le_of_ble_eq_true rfl) (Nat.le_of_ble_eq_true rfl) (Nat.le_of_ble_eq_true rfl) dX1_bestPay_89 ?_
                            refine lv_topl (fun v_20 ev_20 => ?_)
                            refine lv_lstore (lv' := [(4, .long v_20), (6, .int (nI kk)), (3, .int r_11), (2, .int (nI jj)), (1, .int (nI (dd - 1))), (0, .ref (q 11))]) hx hb dX1_bestPay_92 hl (by decide) rfl (fun ls hl => ?_)
                            refine lv_iinc (v := nI (kk + 1)) (lv' := [(6, .int (nI (kk + 1))), (4, .long v_20), (3, .int r_11), (2, .int (nI jj)), (1, .int (nI (dd - 1))), (0, .ref (q 11))]) hx hb dX1_bestPay_94 hl (k := 1) rfl (ninc kk 1 (by decide)) (by decide) rfl (fun ls hl => ?_)
                            refine lv_goto (tgt := 63) hx hb dX1_bestPay_97 (by decide) ?_
                            exact ih_lp_12 (kk + 1) v_20 _ _ _ (by omega) (by omega) hP hD hS (lv_sub hl [0, 1, 2, 3, 4, 5] rfl)
                    exact lp_12 (10 - 0 + 1) 0 (-1000000000000000) _ _ _ (Nat.lt_succ_self _) (by omega) hP hD hS (lv_sub hl [0, 1, 2, 3, 4, 5] rfl)
              exact lp_8 (10 - 0 + 1) 0 b6 _ _ _ (Nat.lt_succ_self _) (by omega) hP hD hS (lv_sub hl [0, 1, 2] rfl)
        exact lp_4 (gd + 1) gd a6 _ _ _ (Nat.lt_succ_self _) hgd hP hD hS (lv_sub hl [0, 1] rfl)
      · have c_3 : ¬ (10 ≤ i) := fun h => c_3 ((nle 10 i (Nat.le_of_ble_eq_true rfl) (by omega)).mpr h)
        refine lv_aload_n hx hb dX1_bestPay_8 rfl (lv_at hl 1 rfl) ?_
        refine sk_get (v := .ref (q 72)) (C := RX1) (T := TX1) (N := 9) hx hb hts inlX1 hown hK hP 0 rfl rfl 6 (Nat.le_of_ble_eq_true rfl) w_2_101 rfl dX1_bestPay_9 ?_
        refine lv_aload_n hx hb dX1_bestPay_12 rfl (lv_at hl 1 rfl) ?_
        refine sk_get (v := .int (nI gd)) (C := RX1) (T := TX1) (N := 9) hx hb hts inlX1 hown hK hP 0 rfl rfl 7 (Nat.le_of_ble_eq_true rfl) w_2_102 rfl dX1_bestPay_13 ?_
        refine lv_bipush (v := 10) hx hb dX1_bestPay_16 (by decide) ?_
        refine lv_imul hx hb dX1_bestPay_18 ?_
        refine sk_top (nI (gd * 10)) (nmul gd 10) ?_
        refine lv_iload_n hx hb dX1_bestPay_19 rfl (lv_at hl 0 rfl) ?_
        refine lv_iadd hx hb dX1_bestPay_20 ?_
        refine sk_top (nI (gd * 10 + i)) (nI_add (gd * 10) i) ?_
        refine lv_lconst (v := 0) hx hb dX1_bestPay_21 (by decide) ?_
        refine sk_lastO (ws' := fun f_21 => [ro_rrrrrrrnn (q 11) 1 (q 10) (q 67) (q 68) (q 69) (q 70) (q 71) (q 72) gd gs, ra_I (q 67) cI 90 e1, ra_I (q 68) cI 9 e2, ra_I (q 69) cI 10 e3, ra_J (q 72) cJ 100 f_21, ro_rrrrrr (q 10) 9 (q 61) (q 62) (q 63) (q 64) (q 65) (q 66), ra_J (q 65) cJ 90 fg]) hx hb hK hP hD hS 4 1 rfl rfl (vin (gd * 10 + i) 100 (by omega) (Nat.le_of_ble_eq_true rfl)) (fun _ => rfl) dX1_bestPay_22 (fun f_21 H locs hP hD hS => ?_)
        refine lv_iinc (v := nI (i + 1)) (lv' := [(1, .int (nI (i + 1))), (0, .ref (q 11))]) hx hb dX1_bestPay_23 hl (k := 0) rfl (ninc i 1 (by decide)) (by decide) rfl (fun ls hl => ?_)
        refine lv_goto (tgt := 2) hx hb dX1_bestPay_26 (by decide) ?_
        exact ih_lp_1 (i + 1) f_21 _ _ _ (by omega) (by omega) hP hD hS (lv_sub hl [0, 1] rfl)
  exact lp_1 (10 - 0 + 1) 0 e6 _ _ _ (Nat.lt_succ_self _) (by omega) hP hD hS (lv_sub hl [0, 1] rfl)
theorem dg_X1_takeBestPaid_0_0 : bqL cX1_takeBestPaid 0 [(0, [42]), (1, [180, 0, 35]), (4, [61]), (5, [3]), (6, [62]), (7, [29]), (8, [42]), (9, [180, 0, 31]), (12, [162, 0, 84]), (96, [177]), (15, [42]), (16, [29]), (17, [28]), (18, [182, 0, 66]), (21, [54, 4]), (23, [3]), (24, [54, 5]), (26, [3]), (27, [54, 6]), (29, [21, 6]), (31, [16, 10]), (33, [162, 0, 49]), (82, [43]), (83, [29]), (84, [21, 5]), (86, [79]), (87, [21, 5]), (89, [61]), (90, [132, 3, 1]), (93, [167, 255, 170]), (36, [21, 4]), (38, [21, 6]), (40, [122]), (41, [4]), (42, [126]), (43, [4]), (44, [160, 0, 32]), (76, [132, 6, 1]), (79, [167, 255, 206]), (47, [42])] = true := by decide +kernel
theorem dX1_takeBestPaid_0 : decode cX1_takeBestPaid 0 = .ok (.aload_n 0, 1) := q_aload_n0 (bat_get dg_X1_takeBestPaid_0_0 0 rfl rfl)
theorem dX1_takeBestPaid_1 : decode cX1_takeBestPaid 1 = .ok (.getfield 35, 3) := q_getfield (bat_get dg_X1_takeBestPaid_0_0 1 rfl rfl) rfl
theorem dX1_takeBestPaid_4 : decode cX1_takeBestPaid 4 = .ok (.istore_n 2, 1) := q_istore_n2 (bat_get dg_X1_takeBestPaid_0_0 2 rfl rfl)
theorem dX1_takeBestPaid_5 : decode cX1_takeBestPaid 5 = .ok (.iconst 0, 1) := q_iconst0 (bat_get dg_X1_takeBestPaid_0_0 3 rfl rfl)
theorem dX1_takeBestPaid_6 : decode cX1_takeBestPaid 6 = .ok (.istore_n 3, 1) := q_istore_n3 (bat_get dg_X1_takeBestPaid_0_0 4 rfl rfl)
theorem dX1_takeBestPaid_7 : decode cX1_takeBestPaid 7 = .ok (.iload_n 3, 1) := q_iload_n3 (bat_get dg_X1_takeBestPaid_0_0 5 rfl rfl)
theorem dX1_takeBestPaid_8 : decode cX1_takeBestPaid 8 = .ok (.aload_n 0, 1) := q_aload_n0 (bat_get dg_X1_takeBestPaid_0_0 6 rfl rfl)
theorem dX1_takeBestPaid_9 : decode cX1_takeBestPaid 9 = .ok (.getfield 31, 3) := q_getfield (bat_get dg_X1_takeBestPaid_0_0 7 rfl rfl) rfl
theorem dX1_takeBestPaid_12 : decode cX1_takeBestPaid 12 = .ok (.if_icmp .ge 84, 3) := q_if_icmp_ge (bat_get dg_X1_takeBestPaid_0_0 8 rfl rfl) rfl
theorem dX1_takeBestPaid_96 : decode cX1_takeBestPaid 96 = .ok (.return_, 1) := q_return_ (bat_get dg_X1_takeBestPaid_0_0 9 rfl rfl)
theorem dX1_takeBestPaid_15 : decode cX1_takeBestPaid 15 = .ok (.aload_n 0, 1) := q_aload_n0 (bat_get dg_X1_takeBestPaid_0_0 10 rfl rfl)
theorem dX1_takeBestPaid_16 : decode cX1_takeBestPaid 16 = .ok (.iload_n 3, 1) := q_iload_n3 (bat_get dg_X1_takeBestPaid_0_0 11 rfl rfl)
theorem dX1_takeBestPaid_17 : decode cX1_takeBestPaid 17 = .ok (.iload_n 2, 1) := q_iload_n2 (bat_get dg_X1_takeBestPaid_0_0 12 rfl rfl)
theorem dX1_takeBestPaid_18 : decode cX1_takeBestPaid 18 = .ok (.invokevirtual 66, 3) := q_invokevirtual (bat_get dg_X1_takeBestPaid_0_0 13 rfl rfl) rfl
theorem dX1_takeBestPaid_21 : decode cX1_takeBestPaid 21 = .ok (.istore 4, 2) := q_istore (bat_get dg_X1_takeBestPaid_0_0 14 rfl rfl)
theorem dX1_takeBestPaid_23 : decode cX1_takeBestPaid 23 = .ok (.iconst 0, 1) := q_iconst0 (bat_get dg_X1_takeBestPaid_0_0 15 rfl rfl)
theorem dX1_takeBestPaid_24 : decode cX1_takeBestPaid 24 = .ok (.istore 5, 2) := q_istore (bat_get dg_X1_takeBestPaid_0_0 16 rfl rfl)
theorem dX1_takeBestPaid_26 : decode cX1_takeBestPaid 26 = .ok (.iconst 0, 1) := q_iconst0 (bat_get dg_X1_takeBestPaid_0_0 17 rfl rfl)
theorem dX1_takeBestPaid_27 : decode cX1_takeBestPaid 27 = .ok (.istore 6, 2) := q_istore (bat_get dg_X1_takeBestPaid_0_0 18 rfl rfl)
theorem dX1_takeBestPaid_29 : decode cX1_takeBestPaid 29 = .ok (.iload 6, 2) := q_iload (bat_get dg_X1_takeBestPaid_0_0 19 rfl rfl)
theorem dX1_takeBestPaid_31 : decode cX1_takeBestPaid 31 = .ok (.bipush 10, 2) := q_bipush (bat_get dg_X1_takeBestPaid_0_0 20 rfl rfl) rfl
theorem dX1_takeBestPaid_33 : decode cX1_takeBestPaid 33 = .ok (.if_icmp .ge 49, 3) := q_if_icmp_ge (bat_get dg_X1_takeBestPaid_0_0 21 rfl rfl) rfl
theorem dX1_takeBestPaid_82 : decode cX1_takeBestPaid 82 = .ok (.aload_n 1, 1) := q_aload_n1 (bat_get dg_X1_takeBestPaid_0_0 22 rfl rfl)
theorem dX1_takeBestPaid_83 : decode cX1_takeBestPaid 83 = .ok (.iload_n 3, 1) := q_iload_n3 (bat_get dg_X1_takeBestPaid_0_0 23 rfl rfl)
theorem dX1_takeBestPaid_84 : decode cX1_takeBestPaid 84 = .ok (.iload 5, 2) := q_iload (bat_get dg_X1_takeBestPaid_0_0 24 rfl rfl)
theorem dX1_takeBestPaid_86 : decode cX1_takeBestPaid 86 = .ok (.iastore, 1) := q_iastore (bat_get dg_X1_takeBestPaid_0_0 25 rfl rfl)
theorem dX1_takeBestPaid_87 : decode cX1_takeBestPaid 87 = .ok (.iload 5, 2) := q_iload (bat_get dg_X1_takeBestPaid_0_0 26 rfl rfl)
theorem dX1_takeBestPaid_89 : decode cX1_takeBestPaid 89 = .ok (.istore_n 2, 1) := q_istore_n2 (bat_get dg_X1_takeBestPaid_0_0 27 rfl rfl)
theorem dX1_takeBestPaid_90 : decode cX1_takeBestPaid 90 = .ok (.iinc 3 1, 3) := q_iinc (bat_get dg_X1_takeBestPaid_0_0 28 rfl rfl) rfl
theorem dX1_takeBestPaid_93 : decode cX1_takeBestPaid 93 = .ok (.goto (-86), 3) := q_goto (bat_get dg_X1_takeBestPaid_0_0 29 rfl rfl) rfl
theorem dX1_takeBestPaid_36 : decode cX1_takeBestPaid 36 = .ok (.iload 4, 2) := q_iload (bat_get dg_X1_takeBestPaid_0_0 30 rfl rfl)
theorem dX1_takeBestPaid_38 : decode cX1_takeBestPaid 38 = .ok (.iload 6, 2) := q_iload (bat_get dg_X1_takeBestPaid_0_0 31 rfl rfl)
theorem dX1_takeBestPaid_40 : decode cX1_takeBestPaid 40 = .ok (.ishr, 1) := q_ishr (bat_get dg_X1_takeBestPaid_0_0 32 rfl rfl)
theorem dX1_takeBestPaid_41 : decode cX1_takeBestPaid 41 = .ok (.iconst 1, 1) := q_iconst1 (bat_get dg_X1_takeBestPaid_0_0 33 rfl rfl)
theorem dX1_takeBestPaid_42 : decode cX1_takeBestPaid 42 = .ok (.iand, 1) := q_iand (bat_get dg_X1_takeBestPaid_0_0 34 rfl rfl)
theorem dX1_takeBestPaid_43 : decode cX1_takeBestPaid 43 = .ok (.iconst 1, 1) := q_iconst1 (bat_get dg_X1_takeBestPaid_0_0 35 rfl rfl)
theorem dX1_takeBestPaid_44 : decode cX1_takeBestPaid 44 = .ok (.if_icmp .ne 32, 3) := q_if_icmp_ne (bat_get dg_X1_takeBestPaid_0_0 36 rfl rfl) rfl
theorem dX1_takeBestPaid_76 : decode cX1_takeBestPaid 76 = .ok (.iinc 6 1, 3) := q_iinc (bat_get dg_X1_takeBestPaid_0_0 37 rfl rfl) rfl
theorem dX1_takeBestPaid_79 : decode cX1_takeBestPaid 79 = .ok (.goto (-50), 3) := q_goto (bat_get dg_X1_takeBestPaid_0_0 38 rfl rfl) rfl
theorem dX1_takeBestPaid_47 : decode cX1_takeBestPaid 47 = .ok (.aload_n 0, 1) := q_aload_n0 (bat_get dg_X1_takeBestPaid_0_0 39 rfl rfl)
theorem dg_X1_takeBestPaid_48_48 : bqL cX1_takeBestPaid 48 [(0, [29]), (1, [21, 6]), (3, [182, 0, 91]), (6, [42]), (7, [180, 0, 28]), (10, [29]), (11, [16, 10]), (13, [104]), (14, [28]), (15, [96]), (16, [47]), (17, [148]), (18, [154, 0, 10]), (21, [21, 6]), (23, [54, 5]), (25, [167, 0, 9])] = true := by decide +kernel
theorem dX1_takeBestPaid_48 : decode cX1_takeBestPaid 48 = .ok (.iload_n 3, 1) := q_iload_n3 (bat_get dg_X1_takeBestPaid_48_48 0 rfl rfl)
theorem dX1_takeBestPaid_49 : decode cX1_takeBestPaid 49 = .ok (.iload 6, 2) := q_iload (bat_get dg_X1_takeBestPaid_48_48 1 rfl rfl)
theorem dX1_takeBestPaid_51 : decode cX1_takeBestPaid 51 = .ok (.invokevirtual 91, 3) := q_invokevirtual (bat_get dg_X1_takeBestPaid_48_48 2 rfl rfl) rfl
theorem dX1_takeBestPaid_54 : decode cX1_takeBestPaid 54 = .ok (.aload_n 0, 1) := q_aload_n0 (bat_get dg_X1_takeBestPaid_48_48 3 rfl rfl)
theorem dX1_takeBestPaid_55 : decode cX1_takeBestPaid 55 = .ok (.getfield 28, 3) := q_getfield (bat_get dg_X1_takeBestPaid_48_48 4 rfl rfl) rfl
theorem dX1_takeBestPaid_58 : decode cX1_takeBestPaid 58 = .ok (.iload_n 3, 1) := q_iload_n3 (bat_get dg_X1_takeBestPaid_48_48 5 rfl rfl)
theorem dX1_takeBestPaid_59 : decode cX1_takeBestPaid 59 = .ok (.bipush 10, 2) := q_bipush (bat_get dg_X1_takeBestPaid_48_48 6 rfl rfl) rfl
theorem dX1_takeBestPaid_61 : decode cX1_takeBestPaid 61 = .ok (.imul, 1) := q_imul (bat_get dg_X1_takeBestPaid_48_48 7 rfl rfl)
theorem dX1_takeBestPaid_62 : decode cX1_takeBestPaid 62 = .ok (.iload_n 2, 1) := q_iload_n2 (bat_get dg_X1_takeBestPaid_48_48 8 rfl rfl)
theorem dX1_takeBestPaid_63 : decode cX1_takeBestPaid 63 = .ok (.iadd, 1) := q_iadd (bat_get dg_X1_takeBestPaid_48_48 9 rfl rfl)
theorem dX1_takeBestPaid_64 : decode cX1_takeBestPaid 64 = .ok (.laload, 1) := q_laload (bat_get dg_X1_takeBestPaid_48_48 10 rfl rfl)
theorem dX1_takeBestPaid_65 : decode cX1_takeBestPaid 65 = .ok (.lcmp, 1) := q_lcmp (bat_get dg_X1_takeBestPaid_48_48 11 rfl rfl)
theorem dX1_takeBestPaid_66 : decode cX1_takeBestPaid 66 = .ok (.ifCond .ne 10, 3) := q_ifCond_ne (bat_get dg_X1_takeBestPaid_48_48 12 rfl rfl) rfl
theorem dX1_takeBestPaid_69 : decode cX1_takeBestPaid 69 = .ok (.iload 6, 2) := q_iload (bat_get dg_X1_takeBestPaid_48_48 13 rfl rfl)
theorem dX1_takeBestPaid_71 : decode cX1_takeBestPaid 71 = .ok (.istore 5, 2) := q_istore (bat_get dg_X1_takeBestPaid_48_48 14 rfl rfl)
theorem dX1_takeBestPaid_73 : decode cX1_takeBestPaid 73 = .ok (.goto 9, 3) := q_goto (bat_get dg_X1_takeBestPaid_48_48 15 rfl rfl) rfl
theorem w_4_173 : (Cond.code yX1_takeBestPaid cX1_takeBestPaid 7 none) ∈ wsL_law := sk_mem (ck_4 _ (List.mem_of_getElem? (i := 173) rfl)) rfl
def om_8_f0 : List Bool := true :: true :: true :: true :: false :: false :: false :: false :: []
def om_8_8e : List Bool := true :: false :: false :: false :: true :: true :: true :: false :: []
set_option maxHeartbeats 4000000 in
set_option maxRecDepth 100000 in
theorem c_takeBestPaid (l : Launch) (D : va_G) (cI cJ cC cZ cS : ClassId) (q : Nat → Nat) (gd : Nat) (gs : Nat) (e1 : Nat → Int32) (e2 : Nat → Int32) (e3 : Nat → Int32) (e6 : Nat → Int64) (fg : Nat → Int64) (rw : Nat) (ra : Nat → Int32) (hgd : gd ≤ 9) (hgs : gs ≤ 9) : skM l yX1_takeBestPaid cX1_takeBestPaid 7 none 1 22 0 0 D (skT cI cJ cC cZ cS) [.ref (q 11), .ref rw] [ro_rrrrrrrnn (q 11) 1 (q 10) (q 67) (q 68) (q 69) (q 70) (q 71) (q 72) gd gs, ra_I (q 67) cI 90 e1, ra_I (q 68) cI 9 e2, ra_I (q 69) cI 10 e3, ra_J (q 72) cJ 100 e6, ro_rrrrrr (q 10) 9 (q 61) (q 62) (q 63) (q 64) (q 65) (q 66), ra_J (q 65) cJ 90 fg, ra_I rw cI 9 ra] (skV D (skT cI cJ cC cZ cS) (fun (u : va_W) => ∃ (ra2 : Nat → Int32), rowOk ra2 gd ∧ u = [ro_rrrrrrrnn (q 11) 1 (q 10) (q 67) (q 68) (q 69) (q 70) (q 71) (q 72) gd gs, ra_I (q 67) cI 90 e1, ra_I (q 68) cI 9 e2, ra_I (q 69) cI 10 e3, ra_J (q 72) cJ 100 e6, ro_rrrrrr (q 10) 9 (q 61) (q 62) (q 63) (q 64) (q 65) (q 66), ra_J (q 65) cJ 90 fg, ra_I rw cI 9 ra2])) := by
  refine skM_of pf_X1_takeBestPaid (Nat.le_of_ble_eq_true rfl) ?_
  intro p e s m below meth c A ls E hP hD hl
  refine skE_el E (fun hx hb hr hml hlocks hin hown hts hK hA => ?_)
  have hown : s.vm.findClass RX1 = some m.cls := hown
  have hS : va_S A s.heap s.heap [] := va_S.rf
  have hl : lv_has ls 7 [(0, .ref (q 11)), (1, .ref rw)] := hl
  refine lv_aload_n hx hb dX1_takeBestPaid_0 rfl (lv_at hl 0 rfl) ?_
  refine sk_get (v := .int (nI gs)) (C := RX1) (T := TX1) (N := 9) hx hb hts inlX1 hown hK hP 0 rfl rfl 8 (Nat.le_of_ble_eq_true rfl) w_2_103 rfl dX1_takeBestPaid_1 ?_
  refine lv_istore_n (lv' := [(2, .int (nI gs)), (0, .ref (q 11)), (1, .ref rw)]) hx hb dX1_takeBestPaid_4 rfl hl (by decide) rfl (fun ls hl => ?_)
  refine lv_iconst (v := 0) hx hb dX1_takeBestPaid_5 ic_0 ?_
  refine lv_istore_n (lv' := [(3, .int 0), (2, .int (nI gs)), (0, .ref (q 11)), (1, .ref rw)]) hx hb dX1_takeBestPaid_6 rfl hl (by decide) rfl (fun ls hl => ?_)
  have lp_1 : ∀ (n_2 : Nat) (i : Nat) (ah : Nat) (rb : Nat → Int32) (H : Heap) (locs : List Loc) (ls : Array Slot), gd - i < n_2 → (i ≤ gd) → (ah < 10) → (rowOk rb i) → va_P D vwCl [ro_rrrrrrrnn (q 11) 1 (q 10) (q 67) (q 68) (q 69) (q 70) (q 71) (q 72) gd gs, ra_I (q 67) cI 90 e1, ra_I (q 68) cI 9 e2, ra_I (q 69) cI 10 e3, ra_J (q 72) cJ 100 e6, ro_rrrrrr (q 10) 9 (q 61) (q 62) (q 63) (q 64) (q 65) (q 66), ra_J (q 65) cJ 90 fg, ra_I rw cI 9 rb] H → va_D A [ro_rrrrrrrnn (q 11) 1 (q 10) (q 67) (q 68) (q 69) (q 70) (q 71) (q 72) gd gs, ra_I (q 67) cI 90 e1, ra_I (q 68) cI 9 e2, ra_I (q 69) cI 10 e3, ra_J (q 72) cJ 100 e6, ro_rrrrrr (q 10) 9 (q 61) (q 62) (q 63) (q 64) (q 65) (q 66), ra_J (q 65) cJ 90 fg, ra_I rw cI 9 rb] → va_S A s.heap H locs → lv_has ls 7 [(3, .int (nI i)), (2, .int (nI ah)), (0, .ref (q 11)), (1, .ref rw)] → W p l e { frames := 1, cells := 0, slots := 0, locals := 22 } s m ([.ref (q 11), .ref rw] : List Value).toArray below meth c H locs 0 0 (MQ below (skV D (skT cI cJ cC cZ cS) (fun (u : va_W) => ∃ (ra2 : Nat → Int32), rowOk ra2 gd ∧ u = [ro_rrrrrrrnn (q 11) 1 (q 10) (q 67) (q 68) (q 69) (q 70) (q 71) (q 72) gd gs, ra_I (q 67) cI 90 e1, ra_I (q 68) cI 9 e2, ra_I (q 69) cI 10 e3, ra_J (q 72) cJ 100 e6, ro_rrrrrr (q 10) 9 (q 61) (q 62) (q 63) (q 64) (q 65) (q 66), ra_J (q 65) cJ 90 fg, ra_I rw cI 9 ra2]) A) ([.ref (q 11), .ref rw] : List Value).toArray s 0 0 A) (F0 m 7 ls []) := by
    intro n_2
    induction n_2 with
    | zero => intro i ah rb H locs ls hm; exact absurd hm (Nat.not_lt_zero _)
    | succ n_2 ih_lp_1 =>
      intro i ah rb H locs ls hm hi hah hro hP hD hS hl
      refine lv_iload_n hx hb dX1_takeBestPaid_7 rfl (lv_at hl 0 rfl) ?_
      refine lv_aload_n hx hb dX1_takeBestPaid_8 rfl (lv_at hl 2 rfl) ?_
      refine sk_get (v := .int (nI gd)) (C := RX1) (T := TX1) (N := 9) hx hb hts inlX1 hown hK hP 0 rfl rfl 7 (Nat.le_of_ble_eq_true rfl) w_2_102 rfl dX1_takeBestPaid_9 ?_
      refine lv_icmp_ge (tgt := 96) hx hb dX1_takeBestPaid_12 (by decide) (fun c_3 => ?_) (fun c_3 => ?_)
      · have c_3 : gd ≤ i := (nle gd i (by omega) (by omega)).mp c_3
        exact sk_vret hx hb hr hlocks hK hP hD hS (⟨rb, by rw [show gd = i by omega]; exact hro, rfl⟩) (Nat.le_of_ble_eq_true rfl) (Nat.le_of_ble_eq_true rfl) dX1_takeBestPaid_96
      · have c_3 : ¬ (gd ≤ i) := fun h => c_3 ((nle gd i (by omega) (by omega)).mpr h)
        refine lv_aload_n hx hb dX1_takeBestPaid_15 rfl (lv_at hl 2 rfl) ?_
        refine lv_iload_n hx hb dX1_takeBestPaid_16 rfl (lv_at hl 0 rfl) ?_
        refine lv_iload_n hx hb dX1_takeBestPaid_17 rfl (lv_at hl 1 rfl) ?_
        refine sk_Vi (q0 := 0) (n := 2) (rest := []) (wr := fmR om_8_f0 _) ⟨hx, hb, hml, hown, hts⟩ hl.1 (c_next l D cI cJ cC cZ cS q gd gs e1 e2 e3 i ah (by omega) hah) w_4_57 w_4_59 w_0_20 w_1_13 w_4_60 hd_X1_next_2 ⟨⟨(Nat.le_of_ble_eq_true rfl), (Nat.le_of_ble_eq_true rfl)⟩, (Nat.le_of_ble_eq_true rfl), (Nat.le_of_ble_eq_true rfl)⟩ hK hP hD hS hA (fmT om_8_f0 0) (fmF om_8_f0 0) (fm_C1 rfl rfl) (fm_R rfl rfl) (fm_nT om_8_f0 0) (fm_nF om_8_f0 0) (fm_di om_8_f0 0) rfl rfl rfl rfl (Nat.le_of_ble_eq_true rfl) dX1_takeBestPaid_18 (fun r_4 u H locs hw hP hD hS => ?_)
        refine o_mgE (ws' := [ro_rrrrrrrnn (q 11) 1 (q 10) (q 67) (q 68) (q 69) (q 70) (q 71) (q 72) gd gs, ra_I (q 67) cI 90 e1, ra_I (q 68) cI 9 e2, ra_I (q 69) cI 10 e3, ra_J (q 72) cJ 100 e6, ro_rrrrrr (q 10) 9 (q 61) (q 62) (q 63) (q 64) (q 65) (q 66), ra_J (q 65) cJ 90 fg, ra_I rw cI 9 rb]) hw hP hD rfl (fun hP hD => ?_)
        refine lv_istore (lv' := [(4, .int r_4), (3, .int (nI i)), (2, .int (nI ah)), (0, .ref (q 11)), (1, .ref rw)]) hx hb dX1_takeBestPaid_21 hl (by decide) rfl (fun ls hl => ?_)
        refine lv_iconst (v := 0) hx hb dX1_takeBestPaid_23 ic_0 ?_
        refine lv_istore (lv' := [(5, .int 0), (4, .int r_4), (3, .int (nI i)), (2, .int (nI ah)), (0, .ref (q 11)), (1, .ref rw)]) hx hb dX1_takeBestPaid_24 hl (by decide) rfl (fun ls hl => ?_)
        refine lv_iconst (v := 0) hx hb dX1_takeBestPaid_26 ic_0 ?_
        refine lv_istore (lv' := [(6, .int 0), (5, .int 0), (4, .int r_4), (3, .int (nI i)), (2, .int (nI ah)), (0, .ref (q 11)), (1, .ref rw)]) hx hb dX1_takeBestPaid_27 hl (by decide) rfl (fun ls hl => ?_)
        have lp_5 : ∀ (n_6 : Nat) (jj : Nat) (H : Heap) (locs : List Loc) (ls : Array Slot), 10 - jj < n_6 → (jj ≤ 10) → va_P D vwCl [ro_rrrrrrrnn (q 11) 1 (q 10) (q 67) (q 68) (q 69) (q 70) (q 71) (q 72) gd gs, ra_I (q 67) cI 90 e1, ra_I (q 68) cI 9 e2, ra_I (q 69) cI 10 e3, ra_J (q 72) cJ 100 e6, ro_rrrrrr (q 10) 9 (q 61) (q 62) (q 63) (q 64) (q 65) (q 66), ra_J (q 65) cJ 90 fg, ra_I rw cI 9 rb] H → va_D A [ro_rrrrrrrnn (q 11) 1 (q 10) (q 67) (q 68) (q 69) (q 70) (q 71) (q 72) gd gs, ra_I (q 67) cI 90 e1, ra_I (q 68) cI 9 e2, ra_I (q 69) cI 10 e3, ra_J (q 72) cJ 100 e6, ro_rrrrrr (q 10) 9 (q 61) (q 62) (q 63) (q 64) (q 65) (q 66), ra_J (q 65) cJ 90 fg, ra_I rw cI 9 rb] → va_S A s.heap H locs → lv_has ls 7 [(6, .int (nI jj)), (5, .int 0), (4, .int r_4), (3, .int (nI i)), (2, .int (nI ah)), (0, .ref (q 11)), (1, .ref rw)] → W p l e { frames := 1, cells := 0, slots := 0, locals := 22 } s m ([.ref (q 11), .ref rw] : List Value).toArray below meth c H locs 0 0 (MQ below (skV D (skT cI cJ cC cZ cS) (fun (u : va_W) => ∃ (ra2 : Nat → Int32), rowOk ra2 gd ∧ u = [ro_rrrrrrrnn (q 11) 1 (q 10) (q 67) (q 68) (q 69) (q 70) (q 71) (q 72) gd gs, ra_I (q 67) cI 90 e1, ra_I (q 68) cI 9 e2, ra_I (q 69) cI 10 e3, ra_J (q 72) cJ 100 e6, ro_rrrrrr (q 10) 9 (q 61) (q 62) (q 63) (q 64) (q 65) (q 66), ra_J (q 65) cJ 90 fg, ra_I rw cI 9 ra2]) A) ([.ref (q 11), .ref rw] : List Value).toArray s 0 0 A) (F0 m 29 ls []) := by
          intro n_6
          induction n_6 with
          | zero => intro jj H locs ls hm; exact absurd hm (Nat.not_lt_zero _)
          | succ n_6 ih_lp_5 =>
            intro jj H locs ls hm hjj hP hD hS hl
            refine lv_iload hx hb dX1_takeBestPaid_29 (lv_at hl 0 rfl) ?_
            refine lv_bipush (v := 10) hx hb dX1_takeBestPaid_31 (by decide) ?_
            refine lv_icmp_ge (tgt := 82) hx hb dX1_takeBestPaid_33 (by decide) (fun c_7 => ?_) (fun c_7 => ?_)
            · have c_7 : 10 ≤ jj := (nle 10 jj (Nat.le_of_ble_eq_true rfl) (by omega)).mp c_7
              refine lv_aload_n hx hb dX1_takeBestPaid_82 rfl (lv_at hl 6 rfl) ?_
              refine lv_iload_n hx hb dX1_takeBestPaid_83 rfl (lv_at hl 3 rfl) ?_
              refine lv_iload hx hb dX1_takeBestPaid_84 (lv_at hl 1 rfl) ?_
              refine sk_iast (ws' := [ro_rrrrrrrnn (q 11) 1 (q 10) (q 67) (q 68) (q 69) (q 70) (q 71) (q 72) gd gs, ra_I (q 67) cI 90 e1, ra_I (q 68) cI 9 e2, ra_I (q 69) cI 10 e3, ra_J (q 72) cJ 100 e6, ro_rrrrrr (q 10) 9 (q 61) (q 62) (q 63) (q 64) (q 65) (q 66), ra_J (q 65) cJ 90 fg, ra_I rw cI 9 (upd rb (nI i).toNatClampNeg (nI 0))]) hx hb hK hP hD hS 7 0 rfl rfl (vin i 9 (by omega) (Nat.le_of_ble_eq_true rfl)) rfl dX1_takeBestPaid_86 (fun H locs hP hD hS => ?_)
              have ho_9 := rowOk_up (f := rb) (i := i) (v := 0) hro (by omega) (by omega)
              generalize ef_10 : upd rb (nI i).toNatClampNeg (nI 0) = f_8 at hP hD ho_9
              refine lv_iload hx hb dX1_takeBestPaid_87 (lv_at hl 1 rfl) ?_
              refine lv_istore_n (lv' := [(2, .int 0), (6, .int (nI jj)), (5, .int 0), (4, .int r_4), (3, .int (nI i)), (0, .ref (q 11)), (1, .ref rw)]) hx hb dX1_takeBestPaid_89 rfl hl (by decide) rfl (fun ls hl => ?_)
              refine lv_iinc (v := nI (i + 1)) (lv' := [(3, .int (nI (i + 1))), (2, .int 0), (6, .int (nI jj)), (5, .int 0), (4, .int r_4), (0, .ref (q 11)), (1, .ref rw)]) hx hb dX1_takeBestPaid_90 hl (k := 4) rfl (ninc i 1 (by decide)) (by decide) rfl (fun ls hl => ?_)
              refine lv_goto (tgt := 7) hx hb dX1_takeBestPaid_93 (by decide) ?_
              exact ih_lp_1 (i + 1) 0 f_8 _ _ _ (by omega) (by omega) (by omega) ho_9 hP hD hS (lv_sub hl [0, 1, 5, 6] rfl)
            · have c_7 : ¬ (10 ≤ jj) := fun h => c_7 ((nle 10 jj (Nat.le_of_ble_eq_true rfl) (by omega)).mpr h)
              refine lv_iload hx hb dX1_takeBestPaid_36 (lv_at hl 2 rfl) ?_
              refine lv_iload hx hb dX1_takeBestPaid_38 (lv_at hl 0 rfl) ?_
              refine lv_ishr hx hb dX1_takeBestPaid_40 ?_
              refine lv_topi (fun v_11 ev_11 => ?_)
              refine lv_iconst (v := 1) hx hb dX1_takeBestPaid_41 ic_1 ?_
              refine lv_iand hx hb dX1_takeBestPaid_42 ?_
              refine lv_topi (fun v_12 ev_12 => ?_)
              refine lv_iconst (v := 1) hx hb dX1_takeBestPaid_43 ic_1 ?_
              refine lv_icmp_ne (tgt := 76) hx hb dX1_takeBestPaid_44 (by decide) (fun c_13 => ?_) (fun c_13 => ?_)
              · skip
                refine lv_iinc (v := nI (jj + 1)) (lv' := [(6, .int (nI (jj + 1))), (5, .int 0), (4, .int r_4), (3, .int (nI i)), (2, .int (nI ah)), (0, .ref (q 11)), (1, .ref rw)]) hx hb dX1_takeBestPaid_76 hl (k := 0) rfl (ninc jj 1 (by decide)) (by decide) rfl (fun ls hl => ?_)
                refine lv_goto (tgt := 29) hx hb dX1_takeBestPaid_79 (by decide) ?_
                exact ih_lp_5 (jj + 1) _ _ _ (by omega) (by omega) hP hD hS (lv_sub hl [0, 1, 2, 3, 4, 5, 6] rfl)
              · skip
                refine lv_aload_n hx hb dX1_takeBestPaid_47 rfl (lv_at hl 5 rfl) ?_
                refine lv_iload_n hx hb dX1_takeBestPaid_48 rfl (lv_at hl 3 rfl) ?_
                refine lv_iload hx hb dX1_takeBestPaid_49 (lv_at hl 0 rfl) ?_
                refine sk_Vl (q0 := 0) (n := 2) (rest := []) (wr := fmR om_8_8e _) ⟨hx, hb, hml, hown, hts⟩ hl.1 (c_gainBy l D cI cJ cC cZ cS q gd gs e6 fg i jj (by omega) (by omega)) w_4_161 w_4_163 w_0_26 w_1_13 w_4_164 hd_X1_gainBy_2 ⟨⟨(Nat.le_of_ble_eq_true rfl), (Nat.le_of_ble_eq_true rfl)⟩, (Nat.le_of_ble_eq_true rfl), (Nat.le_of_ble_eq_true rfl)⟩ hK hP hD hS hA (fmT om_8_8e 0) (fmF om_8_8e 0) (fm_C1 rfl rfl) (fm_R rfl rfl) (fm_nT om_8_8e 0) (fm_nF om_8_8e 0) (fm_di om_8_8e 0) rfl rfl rfl rfl (Nat.le_of_ble_eq_true rfl) dX1_takeBestPaid_51 (fun r_14 u H locs hw hP hD hS => ?_)
                refine o_mgE (ws' := [ro_rrrrrrrnn (q 11) 1 (q 10) (q 67) (q 68) (q 69) (q 70) (q 71) (q 72) gd gs, ra_I (q 67) cI 90 e1, ra_I (q 68) cI 9 e2, ra_I (q 69) cI 10 e3, ra_J (q 72) cJ 100 e6, ro_rrrrrr (q 10) 9 (q 61) (q 62) (q 63) (q 64) (q 65) (q 66), ra_J (q 65) cJ 90 fg, ra_I rw cI 9 rb]) hw hP hD rfl (fun hP hD => ?_)
                refine lv_aload_n hx hb dX1_takeBestPaid_54 rfl (lv_at hl 5 rfl) ?_
                refine sk_get (v := .ref (q 72)) (C := RX1) (T := TX1) (N := 9) hx hb hts inlX1 hown hK hP 0 rfl rfl 6 (Nat.le_of_ble_eq_true rfl) w_2_101 rfl dX1_takeBestPaid_55 ?_
                refine lv_iload_n hx hb dX1_takeBestPaid_58 rfl (lv_at hl 3 rfl) ?_
                refine lv_bipush (v := 10) hx hb dX1_takeBestPaid_59 (by decide) ?_
                refine lv_imul hx hb dX1_takeBestPaid_61 ?_
                refine sk_top (nI (i * 10)) (nmul i 10) ?_
                refine lv_iload_n hx hb dX1_takeBestPaid_62 rfl (lv_at hl 4 rfl) ?_
                refine lv_iadd hx hb dX1_takeBestPaid_63 ?_
                refine sk_top (nI (i * 10 + ah)) (nI_add (i * 10) ah) ?_
                refine va_lald hx hb hK.1 hP 4 1 rfl rfl (vin (i * 10 + ah) 100 (by omega) (Nat.le_of_ble_eq_true rfl)) dX1_takeBestPaid_64 ?_
                refine lv_topl (fun v_15 ev_15 => ?_)
                refine W.lcmp hx hb dX1_takeBestPaid_65 ?_
                refine lv_if_ne (tgt := 76) hx hb dX1_takeBestPaid_66 (by decide) (fun c_16 => ?_) (fun c_16 => ?_)
                · skip
                  refine lv_iinc (v := nI (jj + 1)) (lv' := [(6, .int (nI (jj + 1))), (5, .int 0), (4, .int r_4), (3, .int (nI i)), (2, .int (nI ah)), (0, .ref (q 11)), (1, .ref rw)]) hx hb dX1_takeBestPaid_76 hl (k := 0) rfl (ninc jj 1 (by decide)) (by decide) rfl (fun ls hl => ?_)
                  refine lv_goto (tgt := 29) hx hb dX1_takeBestPaid_79 (by decide) ?_
                  exact ih_lp_5 (jj + 1) _ _ _ (by omega) (by omega) hP hD hS (lv_sub hl [0, 1, 2, 3, 4, 5, 6] rfl)
                · skip
                  refine lv_iload hx hb dX1_takeBestPaid_69 (lv_at hl 0 rfl) ?_
                  refine lv_istore (lv' := [(5, .int (nI jj)), (6, .int (nI jj)), (4, .int r_4), (3, .int (nI i)), (2, .int (nI ah)), (0, .ref (q 11)), (1, .ref rw)]) hx hb dX1_takeBestPaid_71 hl (by decide) rfl (fun ls hl => ?_)
                  refine lv_goto (tgt := 82) hx hb dX1_takeBestPaid_73 (by decide) ?_
                  refine lv_aload_n hx hb dX1_takeBestPaid_82 rfl (lv_at hl 6 rfl) ?_
                  refine lv_iload_n hx hb dX1_takeBestPaid_83 rfl (lv_at hl 3 rfl) ?_
                  refine lv_iload hx hb dX1_takeBestPaid_84 (lv_at hl 0 rfl) ?_
                  refine sk_iast (ws' := [ro_rrrrrrrnn (q 11) 1 (q 10) (q 67) (q 68) (q 69) (q 70) (q 71) (q 72) gd gs, ra_I (q 67) cI 90 e1, ra_I (q 68) cI 9 e2, ra_I (q 69) cI 10 e3, ra_J (q 72) cJ 100 e6, ro_rrrrrr (q 10) 9 (q 61) (q 62) (q 63) (q 64) (q 65) (q 66), ra_J (q 65) cJ 90 fg, ra_I rw cI 9 (upd rb (nI i).toNatClampNeg (nI jj))]) hx hb hK hP hD hS 7 0 rfl rfl (vin i 9 (by omega) (Nat.le_of_ble_eq_true rfl)) rfl dX1_takeBestPaid_86 (fun H locs hP hD hS => ?_)
                  have ho_18 := rowOk_up (f := rb) (i := i) (v := jj) hro (by omega) (by omega)
                  generalize ef_19 : upd rb (nI i).toNatClampNeg (nI jj) = f_17 at hP hD ho_18
                  refine lv_iload hx hb dX1_takeBestPaid_87 (lv_at hl 0 rfl) ?_
                  refine lv_istore_n (lv' := [(2, .int (nI jj)), (5, .int (nI jj)), (6, .int (nI jj)), (4, .int r_4), (3, .int (nI i)), (0, .ref (q 11)), (1, .ref rw)]) hx hb dX1_takeBestPaid_89 rfl hl (by decide) rfl (fun ls hl => ?_)
                  refine lv_iinc (v := nI (i + 1)) (lv' := [(3, .int (nI (i + 1))), (2, .int (nI jj)), (5, .int (nI jj)), (6, .int (nI jj)), (4, .int r_4), (0, .ref (q 11)), (1, .ref rw)]) hx hb dX1_takeBestPaid_90 hl (k := 4) rfl (ninc i 1 (by decide)) (by decide) rfl (fun ls hl => ?_)
                  refine lv_goto (tgt := 7) hx hb dX1_takeBestPaid_93 (by decide) ?_
                  exact ih_lp_1 (i + 1) jj f_17 _ _ _ (by omega) (by omega) (by omega) ho_18 hP hD hS (lv_sub hl [0, 1, 5, 6] rfl)
        exact lp_5 (10 - 0 + 1) 0 _ _ _ (Nat.lt_succ_self _) (by omega) hP hD hS (lv_sub hl [0, 1, 2, 3, 4, 5, 6] rfl)
  exact lp_1 (gd - 0 + 1) 0 gs ra _ _ _ (Nat.lt_succ_self _) (by omega) (by omega) (rowOk_0 _) hP hD hS (lv_sub hl [0, 1, 2, 3] rfl)
/-! the class's own text constant, which lies in the heap that was there before -/
def skTx : String := "lock  from  barge wet   mute  says  does  wage  rain  mood  day   week  told  alone numberfirst weeks or    and   not   all   min   max   last  often total most  least "
def skBy : List Int32 := [108, 111, 99, 107, 32, 32, 102, 114, 111, 109, 32, 32, 98, 97, 114, 103, 101, 32, 119, 101, 116, 32, 32, 32, 109, 117, 116, 101, 32, 32, 115, 97, 121, 115, 32, 32, 100, 111, 101, 115, 32, 32, 119, 97, 103, 101, 32, 32, 114, 97, 105, 110, 32, 32, 109, 111, 111, 100, 32, 32, 100, 97, 121, 32, 32, 32, 119, 101, 101, 107, 32, 32, 116, 111, 108, 100, 32, 32, 97, 108, 111, 110, 101, 32, 110, 117, 109, 98, 101, 114, 102, 105, 114, 115, 116, 32, 119, 101, 101, 107, 115, 32, 111, 114, 32, 32, 32, 32, 97, 110, 100, 32, 32, 32, 110, 111, 116, 32, 32, 32, 97, 108, 108, 32, 32, 32, 109, 105, 110, 32, 32, 32, 109, 97, 120, 32, 32, 32, 108, 97, 115, 116, 32, 32, 111, 102, 116, 101, 110, 32, 116, 111, 116, 97, 108, 32, 109, 111, 115, 116, 32, 32, 108, 101, 97, 115, 116, 32]
def skStr (zk zv : Nat) (zf : Value) (A : Nat → Prop) (U : State) (H : Heap) : Prop :=
  vk_R RX6 59 skTx zk U ∧ va_O "java/lang/String" zk A U H ∧ va_OF "java/lang/String" "coder" "B" (.int 0) zk A U H ∧ va_OF "java/lang/String" "value" "[B" (.ref zv) zk A U H ∧ va_T .byte zv 168 (fun j => .int (skBy.getD j 0)) A U H ∧ va_Z "java/lang/String" "COMPACT_STRINGS" "Z" (.int 1) A U H ∧ va_Z "jdk/internal/util/Preconditions" "SIOOBE_FORMATTER" "Ljava/util/function/BiFunction;" zf A U H ∧ (zf = .null ∨ ∃ a : Nat, zf = .ref a)
theorem skStr.at {zk zv : Nat} {zf : Value} {A B : Nat → Prop} {s U : State} {H : Heap} {locs : List Loc} (h : skStr zk zv zf A s s.heap) (hS : va_S A s.heap H locs) (hF : ∀ q, B q → A q) (hU : U.heap = H) (hW : s.WarmedH U.vm) : skStr zk zv zf B U U.heap := by
  obtain ⟨h1, h2, h3, h4, h5, h6, h7, h8⟩ := h
  rw [hU]
  exact ⟨h1.warm hW, ((h2.kept hS.2.1).narrow hF).moved hW.alike, ((h3.kept hS.2.1).narrow hF).moved hW.alike, ((h4.kept hS.2.1).narrow hF).moved hW.alike, ((h5.kept hS.2.1).narrow hF).moved hW.alike, ((h6.kept hS.2.1).narrow hF).moved hW.alike, ((h7.kept hS.2.1).narrow hF).moved hW.alike, h8⟩
theorem skStr.same {zk zv : Nat} {zf : Value} {A : Nat → Prop} {u U : State} {H : Heap} (h : skStr zk zv zf A u H) (e : U.vm = u.vm) (ha : u.vm.Alike U.vm) : skStr zk zv zf A U H := by
  obtain ⟨h1, h2, h3, h4, h5, h6, h7, h8⟩ := h
  exact ⟨h1.same e, h2.moved ha, h3.moved ha, h4.moved ha, h5.moved ha, h6.moved ha, h7.moved ha, h8⟩
abbrev skPreZ (zk zv : Nat) (zf : Value) (D : va_G) (tys : List (ClassId × FieldType)) (av : List Value) (sz : Nat) (w : va_W) : Array Value → State → Prop := va_Pc av (fun U => U.heap.size = sz ∧ va_P D vwCl w U.heap ∧ skK D tys U ∧ va_D (fun _ => True) w ∧ skStr zk zv zf (va_A w sz) U U.heap)
def skMZ (zk zv : Nat) (zf : Value) (l : Launch) (y : MethodName) (cc : ByteArray) (maxL : Nat) (ret : Option FieldType) (fr lo mc ms : Nat) (D : va_G) (tys : List (ClassId × FieldType)) (av : List Value) (w : va_W) (Qc : (Nat → Prop) → Array Value → State → Outcome → State → Prop) : Prop :=
  ∀ sz : Nat, Met l y (skC y cc maxL ret) { frames := fr, cells := mc, slots := ms, locals := lo } (skPreZ zk zv zf D tys av sz w) (Qc (va_A w sz)) mc ms (va_A w sz)
theorem skMZ_of {zk zv : Nat} {zf : Value} {l : Launch} {y : MethodName} {cc : ByteArray} {maxL : Nat} {ret : Option FieldType} {fr lo mc ms : Nat} {D : va_G} {tys : List (ClassId × FieldType)} {av : List Value} {w : va_W} {Qc : (Nat → Prop) → Array Value → State → Outcome → State → Prop}
    (hy : plainFor y = true) (hlen : (lg_sl av).length ≤ maxL)
    (body : ∀ (p : Program) (e : Env) (s : State) (m : MethodId) (below : List Frame) (meth : Method) (c : Code) (A : Nat → Prop) (ls : Array Slot), skEnv p s m meth c cc ret maxL y av D tys A → va_P D vwCl w s.heap → va_D A w → skStr zk zv zf A s s.heap → lv_has ls maxL (lv_args 0 av) →
      W p l e { frames := fr, cells := mc, slots := ms, locals := lo } s m av.toArray below meth c s.heap [] 0 0 (MQ below (Qc A) av.toArray s mc ms A) (F0 m 0 ls [])) : skMZ zk zv zf l y cc maxL ret fr lo mc ms D tys av w Qc := by
  intro sz
  refine MetFree.of_bodySF (code := cc) (maxLocals := maxL) (ret := ret) hy ?_ ?_
  · intro args s m h hn
    obtain ⟨meth, c, h1, h2, h3, h4, h5, h6, -, -⟩ := Cond.code_spec hn (atoms_spec (ws := skC y cc maxL ret) h _ List.mem_cons_self)
    exact ⟨meth, c, h1, h2, h3, h4, h5, h6⟩
  · intro p e s m args below meth c s₁ B hml hv _
    have hh0 : s₁.heap = s.heap := by rw [B.state]; rfl
    obtain ⟨rfl, hsz, hP, hK, hD0, hZ⟩ := hv
    have hts := atoms_spec (ws := skC y cc maxL ret) B.pre
    subst hsz
    have hD := hD0.self (sz := s.heap.size)
    have hl := lv_entry av (n := maxL) hlen
    have hw : W p l e { frames := fr, cells := mc, slots := ms, locals := lo } s m av.toArray below meth c s.heap [] 0 0 (MQ below (Qc (va_A w s.heap.size)) av.toArray s mc ms (va_A w s.heap.size)) (entryFrame m av.toArray maxL) := by
      rw [lg_entry_eq]
      exact body p e s m below meth c _ _ ⟨B.exec, B.bytes, B.returns, hml, B.notSynchronized, (name_of_methodNamed B.named B.method).1, findClass_of_methodNamed B.named, fun w hw => hts w (List.mem_cons_of_mem _ hw), hK, fun q h => Or.inr h⟩ hP hD hZ hl
    obtain ⟨t, a1, o, b1, b2, b3⟩ := hw s₁ hh0 (Stand.of_body B)
    exact ⟨t, o, a1, b1, b2, ⟨b3.1, b3.2⟩⟩
section SkRowsZ
variable {p : Program} {l : Launch} {e : Env} {R : Room} {s : State} {m : MethodId} {args : Array Value} {below : List Frame} {meth : Method} {c : Code} {H : Heap} {locs : List Loc} {cells slots : Nat} {Q : State → Prop}
variable {cc : ByteArray} {pc : Nat} {ls : Array Slot} {rest : List Value} {D : va_G} {tys : List (ClassId × FieldType)} {ws ws' : va_W} {A : Nat → Prop} {H0 : Heap} {a : Nat}
theorem sk_blindZ (zk zv : Nat) (zf : Value) (D : va_G) (tys : List (ClassId × FieldType)) (av : List Value) (sz : Nat) (w : va_W) : FrameBlind (skPreZ zk zv zf D tys av sz w) := fun a U g mk q => by
  obtain ⟨q0, q1, qP, qK, qD, qZ⟩ := q
  exact ⟨q0, q1, qP, skK.same (u := U) (U := U.calling g mk a) qK rfl (Vm.Alike.refl U.vm), qD, skStr.same (u := U) (U := U.calling g mk a) qZ rfl (Vm.Alike.refl U.vm)⟩
section SkCallsZ
variable {zk zv : Nat} {zf : Value} {y : MethodName} {bytes : ByteArray} {maxL nL fr lo mc ms n index ci q0 N : Nat} {ret : Option FieldType} {own C : String} {b : Nat} {As st0 : List Value} {wc wr : va_W} {fs : List Value} {T : u_T}
theorem sk_preVZ (hZ : skStr zk zv zf A s s.heap) (hS : va_S A s.heap H locs) (hF : ∀ q, va_A wc H.size q → A q) (hK : skK D tys s) (hP : va_P D vwCl ws H) (hD : va_D A ws) (isC : List Nat) (hC : isC.map (fun i => ws[i]?) = wc.map some) (hnC : va_nd isC = true) (av : List Value) : PreS s H (skPreZ zk zv zf D tys av H.size wc) av := by
  have hPc : va_P D vwCl wc H := hP.sub isC (by
    have h9 : isC.filterMap (fun i => ws[i]?) = (isC.map (fun i => ws[i]?)).filterMap id := by rw [List.filterMap_map]; rfl
    rw [h9, hC]
    simp [List.filterMap_map])
  have hDc : va_D A wc := hD.sub isC hnC hC
  exact ⟨sk_blindZ zk zv zf D tys av H.size wc, fun U hU hW => ⟨rfl, by rw [hU], by rw [hU]; exact hPc, hK.warm hW, hDc.weaken (fun _ _ _ _ => trivial), hZ.at hS hF hU hW⟩⟩
theorem sk_ViZ {post : Int32 → va_W → Prop} (S : CallFix p m c cc nL s args wsL_law own) (hls : ls.size = nL) (hM : skMZ zk zv zf l y bytes maxL ret fr lo mc ms D tys (.ref b :: As) wc (skI D tys post))
    (h1 : Cond.methodLink own index y ∈ wsL_law) (h2 : Cond.instanceMethod y ∈ wsL_law) (h3 : Cond.selects C y y ∈ wsL_law) (h4 : Cond.initialized y.cls ∈ wsL_law) (h5 : Cond.code y bytes maxL ret ∈ wsL_law) (hd : skD y n) (hrm : skR R fr lo mc ms maxL cells slots)
    (hK : skK D tys s) (hP : va_P D vwCl ws H) (hD : va_D A ws) (hS : va_S A s.heap H locs) (hZ : skStr zk zv zf A s s.heap) (hA : ∀ q, s.heap.size ≤ q → A q) (isC isR : List Nat) (hC : isC.map (fun i => ws[i]?) = wc.map some) (hR : isR.map (fun i => ws[i]?) = wr.map some) (hnC : va_nd isC = true) (hn : va_nd isR = true) (hdis : ∀ i ∈ isR, i ∉ isC) (he : wc[q0]? = some (b, .inr (ci, fs))) (hc : vwCl[ci]? = some (C, T, N))
    (hlen : As.length = n) (hst : st0 = As.reverse ++ .ref b :: rest) (hcat : (rest.map fun v => v.category).sum ≤ 8) (hdg : decode cc pc = .ok (.invokevirtual index, 3))
    (kk : ∀ (r : Int32) (u : va_W) (H1 : Heap) (locs1 : List Loc), post r u → va_P D vwCl (wr ++ u) H1 → va_D A (wr ++ u) → va_S A s.heap H1 locs1 → W p l e R s m args below meth c H1 locs1 (cells + mc) (slots + ms) Q (F0 m (pc + 3) ls (.int r :: rest))) : W p l e R s m args below meth c H locs cells slots Q (F0 m pc ls st0) := by
  have hts := S.2.2.2.2
  have hFc := va_free (wc := wc) hD hS hA isC hC
  have hpre := sk_preVZ hZ hS hFc hK hP hD isC hC hnC (.ref b :: As)
  refine va_calli (va_runV (As := As) (rest := rest) S (hM H.size) ⟨callB_of n hts (sk_good h5) rfl rfl rfl (hts _ h4) (hts _ h1) hd hrm.1, hts _ h2, hts _ h3⟩ ⟨hpre.1, sk_recv hK hP isC hC he hc, hpre.2⟩ rfl hlen hls hst (lv_room hcat) hdg hrm.2) hS (fun q _ h => hFc q h) hFc (fun r u t H1 locs1 ht hvm hw hB hz1 hk1 hS1 => ?_)
  obtain ⟨hP1, -, hD1⟩ := hB
  rw [ht] at hP1
  obtain ⟨hP', hD'⟩ := va_join (wr := wr) (w1 := u) hP hD isC isR hC hR hn hdis hk1 hFc hP1 hD1
  exact kk r u H1 locs1 hw hP' hD' hS1
theorem sk_VlZ {post : Int64 → va_W → Prop} (S : CallFix p m c cc nL s args wsL_law own) (hls : ls.size = nL) (hM : skMZ zk zv zf l y bytes maxL ret fr lo mc ms D tys (.ref b :: As) wc (skL D tys post))
    (h1 : Cond.methodLink own index y ∈ wsL_law) (h2 : Cond.instanceMethod y ∈ wsL_law) (h3 : Cond.selects C y y ∈ wsL_law) (h4 : Cond.initialized y.cls ∈ wsL_law) (h5 : Cond.code y bytes maxL ret ∈ wsL_law) (hd : skD y n) (hrm : skR R fr lo mc ms maxL cells slots)
    (hK : skK D tys s) (hP : va_P D vwCl ws H) (hD : va_D A ws) (hS : va_S A s.heap H locs) (hZ : skStr zk zv zf A s s.heap) (hA : ∀ q, s.heap.size ≤ q → A q) (isC isR : List Nat) (hC : isC.map (fun i => ws[i]?) = wc.map some) (hR : isR.map (fun i => ws[i]?) = wr.map some) (hnC : va_nd isC = true) (hn : va_nd isR = true) (hdis : ∀ i ∈ isR, i ∉ isC) (he : wc[q0]? = some (b, .inr (ci, fs))) (hc : vwCl[ci]? = some (C, T, N))
    (hlen : As.length = n) (hst : st0 = As.reverse ++ .ref b :: rest) (hcat : (rest.map fun v => v.category).sum ≤ 8) (hdg : decode cc pc = .ok (.invokevirtual index, 3))
    (kk : ∀ (r : Int64) (u : va_W) (H1 : Heap) (locs1 : List Loc), post r u → va_P D vwCl (wr ++ u) H1 → va_D A (wr ++ u) → va_S A s.heap H1 locs1 → W p l e R s m args below meth c H1 locs1 (cells + mc) (slots + ms) Q (F0 m (pc + 3) ls (.long r :: rest))) : W p l e R s m args below meth c H locs cells slots Q (F0 m pc ls st0) := by
  have hts := S.2.2.2.2
  have hFc := va_free (wc := wc) hD hS hA isC hC
  have hpre := sk_preVZ hZ hS hFc hK hP hD isC hC hnC (.ref b :: As)
  refine va_calll (va_runV (As := As) (rest := rest) S (hM H.size) ⟨callB_of n hts (sk_good h5) rfl rfl rfl (hts _ h4) (hts _ h1) hd hrm.1, hts _ h2, hts _ h3⟩ ⟨hpre.1, sk_recv hK hP isC hC he hc, hpre.2⟩ rfl hlen hls hst (lv_room hcat) hdg hrm.2) hS (fun q _ h => hFc q h) hFc (fun r u t H1 locs1 ht hvm hw hB hz1 hk1 hS1 => ?_)
  obtain ⟨hP1, -, hD1⟩ := hB
  rw [ht] at hP1
  obtain ⟨hP', hD'⟩ := va_join (wr := wr) (w1 := u) hP hD isC isR hC hR hn hdis hk1 hFc hP1 hD1
  exact kk r u H1 locs1 hw hP' hD' hS1
theorem sk_VvZ {post : va_W → Prop} (S : CallFix p m c cc nL s args wsL_law own) (hls : ls.size = nL) (hM : skMZ zk zv zf l y bytes maxL ret fr lo mc ms D tys (.ref b :: As) wc (skV D tys post))
    (h1 : Cond.methodLink own index y ∈ wsL_law) (h2 : Cond.instanceMethod y ∈ wsL_law) (h3 : Cond.selects C y y ∈ wsL_law) (h4 : Cond.initialized y.cls ∈ wsL_law) (h5 : Cond.code y bytes maxL ret ∈ wsL_law) (hd : skD y n) (hrm : skR R fr lo mc ms maxL cells slots)
    (hK : skK D tys s) (hP : va_P D vwCl ws H) (hD : va_D A ws) (hS : va_S A s.heap H locs) (hZ : skStr zk zv zf A s s.heap) (hA : ∀ q, s.heap.size ≤ q → A q) (isC isR : List Nat) (hC : isC.map (fun i => ws[i]?) = wc.map some) (hR : isR.map (fun i => ws[i]?) = wr.map some) (hnC : va_nd isC = true) (hn : va_nd isR = true) (hdis : ∀ i ∈ isR, i ∉ isC) (he : wc[q0]? = some (b, .inr (ci, fs))) (hc : vwCl[ci]? = some (C, T, N))
    (hlen : As.length = n) (hst : st0 = As.reverse ++ .ref b :: rest) (hcat : (rest.map fun v => v.category).sum ≤ 8) (hdg : decode cc pc = .ok (.invokevirtual index, 3))
    (kk : ∀ (u : va_W) (H1 : Heap) (locs1 : List Loc), post u → va_P D vwCl (wr ++ u) H1 → va_D A (wr ++ u) → va_S A s.heap H1 locs1 → W p l e R s m args below meth c H1 locs1 (cells + mc) (slots + ms) Q (F0 m (pc + 3) ls rest)) : W p l e R s m args below meth c H locs cells slots Q (F0 m pc ls st0) := by
  have hts := S.2.2.2.2
  have hFc := va_free (wc := wc) hD hS hA isC hC
  have hpre := sk_preVZ hZ hS hFc hK hP hD isC hC hnC (.ref b :: As)
  refine va_callv (va_runV (As := As) (rest := rest) S (hM H.size) ⟨callB_of n hts (sk_good h5) rfl rfl rfl (hts _ h4) (hts _ h1) hd hrm.1, hts _ h2, hts _ h3⟩ ⟨hpre.1, sk_recv hK hP isC hC he hc, hpre.2⟩ rfl hlen hls hst (lv_room hcat) hdg hrm.2) hS (fun q _ h => hFc q h) hFc (fun u t H1 locs1 ht hvm hw hB hz1 hk1 hS1 => ?_)
  obtain ⟨hP1, -, hD1⟩ := hB
  rw [ht] at hP1
  obtain ⟨hP', hD'⟩ := va_join (wr := wr) (w1 := u) hP hD isC isR hC hR hn hdis hk1 hFc hP1 hD1
  exact kk u H1 locs1 hw hP' hD' hS1
theorem sk_SiZ {post : Int32 → va_W → Prop} (S : CallFix p m c cc nL s args wsL_law own) (hls : ls.size = nL) (hM : skMZ zk zv zf l y bytes maxL ret fr lo mc ms D tys As wc (skI D tys post))
    (h1 : Cond.methodLink own index y ∈ wsL_law) (h2 : Cond.static y ∈ wsL_law) (h4 : Cond.initialized y.cls ∈ wsL_law) (h5 : Cond.code y bytes maxL ret ∈ wsL_law) (hd : skD y n) (hrm : skR R fr lo mc ms maxL cells slots)
    (hK : skK D tys s) (hP : va_P D vwCl ws H) (hD : va_D A ws) (hS : va_S A s.heap H locs) (hZ : skStr zk zv zf A s s.heap) (hA : ∀ q, s.heap.size ≤ q → A q) (isC isR : List Nat) (hC : isC.map (fun i => ws[i]?) = wc.map some) (hR : isR.map (fun i => ws[i]?) = wr.map some) (hnC : va_nd isC = true) (hn : va_nd isR = true) (hdis : ∀ i ∈ isR, i ∉ isC)
    (hlen : As.length = n) (hst : st0 = As.reverse ++ rest) (hcat : (rest.map fun v => v.category).sum ≤ 8) (hdg : decode cc pc = .ok (.invokestatic index, 3))
    (kk : ∀ (r : Int32) (u : va_W) (H1 : Heap) (locs1 : List Loc), post r u → va_P D vwCl (wr ++ u) H1 → va_D A (wr ++ u) → va_S A s.heap H1 locs1 → W p l e R s m args below meth c H1 locs1 (cells + mc) (slots + ms) Q (F0 m (pc + 3) ls (.int r :: rest))) : W p l e R s m args below meth c H locs cells slots Q (F0 m pc ls st0) := by
  have hts := S.2.2.2.2
  have hFc := va_free (wc := wc) hD hS hA isC hC
  have hpre := sk_preVZ hZ hS hFc hK hP hD isC hC hnC As
  refine va_calli (va_runS (As := As) (rest := rest) S (hM H.size) ⟨callB_of n hts (sk_good h5) rfl rfl rfl (hts _ h4) (hts _ h1) hd hrm.1, hts _ h2⟩ hpre rfl hlen hls hst (lv_room hcat) hdg hrm.2) hS (fun q _ h => hFc q h) hFc (fun r u t H1 locs1 ht hvm hw hB hz1 hk1 hS1 => ?_)
  obtain ⟨hP1, -, hD1⟩ := hB
  rw [ht] at hP1
  obtain ⟨hP', hD'⟩ := va_join (wr := wr) (w1 := u) hP hD isC isR hC hR hn hdis hk1 hFc hP1 hD1
  exact kk r u H1 locs1 hw hP' hD' hS1
theorem sk_SvZ {post : va_W → Prop} (S : CallFix p m c cc nL s args wsL_law own) (hls : ls.size = nL) (hM : skMZ zk zv zf l y bytes maxL ret fr lo mc ms D tys As wc (skV D tys post))
    (h1 : Cond.methodLink own index y ∈ wsL_law) (h2 : Cond.static y ∈ wsL_law) (h4 : Cond.initialized y.cls ∈ wsL_law) (h5 : Cond.code y bytes maxL ret ∈ wsL_law) (hd : skD y n) (hrm : skR R fr lo mc ms maxL cells slots)
    (hK : skK D tys s) (hP : va_P D vwCl ws H) (hD : va_D A ws) (hS : va_S A s.heap H locs) (hZ : skStr zk zv zf A s s.heap) (hA : ∀ q, s.heap.size ≤ q → A q) (isC isR : List Nat) (hC : isC.map (fun i => ws[i]?) = wc.map some) (hR : isR.map (fun i => ws[i]?) = wr.map some) (hnC : va_nd isC = true) (hn : va_nd isR = true) (hdis : ∀ i ∈ isR, i ∉ isC)
    (hlen : As.length = n) (hst : st0 = As.reverse ++ rest) (hcat : (rest.map fun v => v.category).sum ≤ 8) (hdg : decode cc pc = .ok (.invokestatic index, 3))
    (kk : ∀ (u : va_W) (H1 : Heap) (locs1 : List Loc), post u → va_P D vwCl (wr ++ u) H1 → va_D A (wr ++ u) → va_S A s.heap H1 locs1 → W p l e R s m args below meth c H1 locs1 (cells + mc) (slots + ms) Q (F0 m (pc + 3) ls rest)) : W p l e R s m args below meth c H locs cells slots Q (F0 m pc ls st0) := by
  have hts := S.2.2.2.2
  have hFc := va_free (wc := wc) hD hS hA isC hC
  have hpre := sk_preVZ hZ hS hFc hK hP hD isC hC hnC As
  refine va_callv (va_runS (As := As) (rest := rest) S (hM H.size) ⟨callB_of n hts (sk_good h5) rfl rfl rfl (hts _ h4) (hts _ h1) hd hrm.1, hts _ h2⟩ hpre rfl hlen hls hst (lv_room hcat) hdg hrm.2) hS (fun q _ h => hFc q h) hFc (fun u t H1 locs1 ht hvm hw hB hz1 hk1 hS1 => ?_)
  obtain ⟨hP1, -, hD1⟩ := hB
  rw [ht] at hP1
  obtain ⟨hP', hD'⟩ := va_join (wr := wr) (w1 := u) hP hD isC isR hC hR hn hdis hk1 hFc hP1 hD1
  exact kk u H1 locs1 hw hP' hD' hS1
theorem sk_recvS {C : String} {b : Nat} (hZ : skStr zk zv zf A s s.heap) (hS : va_S A s.heap H locs) (hbz : b = zk) (hCs : C = "java/lang/String") : ∃ cell : Cell, H[b]? = some cell ∧ cell.vm.isStatics = false ∧ s.vm.findClass C = some cell.cls := by
  subst hbz; subst hCs
  obtain ⟨cell, h1, h2, h3, -⟩ := hZ.2.1.kept hS.2.1
  exact ⟨cell, h1, h2, h3⟩
theorem sk_ViS {post : Int32 → va_W → Prop} (S : CallFix p m c cc nL s args wsL_law own) (hls : ls.size = nL) (hM : skMZ zk zv zf l y bytes maxL ret fr lo mc ms D tys (.ref b :: As) wc (skI D tys post))
    (h1 : Cond.methodLink own index y ∈ wsL_law) (h2 : Cond.instanceMethod y ∈ wsL_law) (h3 : Cond.selects C y y ∈ wsL_law) (h4 : Cond.initialized y.cls ∈ wsL_law) (h5 : Cond.code y bytes maxL ret ∈ wsL_law) (hd : skD y n) (hrm : skR R fr lo mc ms maxL cells slots)
    (hK : skK D tys s) (hP : va_P D vwCl ws H) (hD : va_D A ws) (hS : va_S A s.heap H locs) (hZ : skStr zk zv zf A s s.heap) (hA : ∀ q, s.heap.size ≤ q → A q) (isC isR : List Nat) (hC : isC.map (fun i => ws[i]?) = wc.map some) (hR : isR.map (fun i => ws[i]?) = wr.map some) (hnC : va_nd isC = true) (hn : va_nd isR = true) (hdis : ∀ i ∈ isR, i ∉ isC) (hbz : b = zk) (hCs : C = "java/lang/String")
    (hlen : As.length = n) (hst : st0 = As.reverse ++ .ref b :: rest) (hcat : (rest.map fun v => v.category).sum ≤ 8) (hdg : decode cc pc = .ok (.invokevirtual index, 3))
    (kk : ∀ (r : Int32) (u : va_W) (H1 : Heap) (locs1 : List Loc), post r u → va_P D vwCl (wr ++ u) H1 → va_D A (wr ++ u) → va_S A s.heap H1 locs1 → W p l e R s m args below meth c H1 locs1 (cells + mc) (slots + ms) Q (F0 m (pc + 3) ls (.int r :: rest))) : W p l e R s m args below meth c H locs cells slots Q (F0 m pc ls st0) := by
  have hts := S.2.2.2.2
  have hFc := va_free (wc := wc) hD hS hA isC hC
  have hpre := sk_preVZ hZ hS hFc hK hP hD isC hC hnC (.ref b :: As)
  refine va_calli (va_runV (As := As) (rest := rest) S (hM H.size) ⟨callB_of n hts (sk_good h5) rfl rfl rfl (hts _ h4) (hts _ h1) hd hrm.1, hts _ h2, hts _ h3⟩ ⟨hpre.1, sk_recvS hZ hS hbz hCs, hpre.2⟩ rfl hlen hls hst (lv_room hcat) hdg hrm.2) hS (fun q _ h => hFc q h) hFc (fun r u t H1 locs1 ht hvm hw hB hz1 hk1 hS1 => ?_)
  obtain ⟨hP1, -, hD1⟩ := hB
  rw [ht] at hP1
  obtain ⟨hP', hD'⟩ := va_join (wr := wr) (w1 := u) hP hD isC isR hC hR hn hdis hk1 hFc hP1 hD1
  exact kk r u H1 locs1 hw hP' hD' hS1
end SkCallsZ
end SkRowsZ
theorem ch_by : ∀ i, i < 168 → (((skBy.getD i 0) &&& 255).toUInt32 % 65536).toInt32 = skBy.getD i 0 := by decide +kernel
theorem dg_J3_checkIndex_8e157_0_0 : bqL cJ3_checkIndex_8e157 0 [(0, [26]), (1, [155, 0, 8]), (4, [26]), (5, [27]), (6, [161, 0, 10]), (16, [26]), (17, [172])] = true := by decide +kernel
theorem dJ3_checkIndex_8e157_0 : decode cJ3_checkIndex_8e157 0 = .ok (.iload_n 0, 1) := q_iload_n0 (bat_get dg_J3_checkIndex_8e157_0_0 0 rfl rfl)
theorem dJ3_checkIndex_8e157_1 : decode cJ3_checkIndex_8e157 1 = .ok (.ifCond .lt 8, 3) := q_ifCond_lt (bat_get dg_J3_checkIndex_8e157_0_0 1 rfl rfl) rfl
theorem dJ3_checkIndex_8e157_4 : decode cJ3_checkIndex_8e157 4 = .ok (.iload_n 0, 1) := q_iload_n0 (bat_get dg_J3_checkIndex_8e157_0_0 2 rfl rfl)
theorem dJ3_checkIndex_8e157_5 : decode cJ3_checkIndex_8e157 5 = .ok (.iload_n 1, 1) := q_iload_n1 (bat_get dg_J3_checkIndex_8e157_0_0 3 rfl rfl)
theorem dJ3_checkIndex_8e157_6 : decode cJ3_checkIndex_8e157 6 = .ok (.if_icmp .lt 10, 3) := q_if_icmp_lt (bat_get dg_J3_checkIndex_8e157_0_0 4 rfl rfl) rfl
theorem dJ3_checkIndex_8e157_16 : decode cJ3_checkIndex_8e157 16 = .ok (.iload_n 0, 1) := q_iload_n0 (bat_get dg_J3_checkIndex_8e157_0_0 5 rfl rfl)
theorem dJ3_checkIndex_8e157_17 : decode cJ3_checkIndex_8e157 17 = .ok (.ireturn, 1) := q_ireturn (bat_get dg_J3_checkIndex_8e157_0_0 6 rfl rfl)
theorem w_3_22 : (Cond.code yJ3_checkIndex_8e157 cJ3_checkIndex_8e157 3 (some .int)) ∈ wsL_law := sk_mem (ck_3 _ (List.mem_of_getElem? (i := 22) rfl)) rfl
set_option maxHeartbeats 4000000 in
set_option maxRecDepth 100000 in
theorem c_pc_checkIndex_n (l : Launch) (D : va_G) (cI cJ cC cZ cS : ClassId) (i : Nat) (n : Nat) (hi : i < n) (hn : n < 2147483648) : skM l yJ3_checkIndex_8e157 cJ3_checkIndex_8e157 3 (some .int) 0 0 0 0 D (skT cI cJ cC cZ cS) [.int (nI i), .int (nI n), .null] [] (skI D (skT cI cJ cC cZ cS) (fun (r : Int32) (u : va_W) => r = nI i ∧ u = [])) := by
  refine skM_of pf_J3_checkIndex_8e157 (Nat.le_of_ble_eq_true rfl) ?_
  intro p e s m below meth c A ls E hP hD hl
  refine skE_el E (fun hx hb hr hml hlocks hin hown hts hK hA => ?_)
  have hown : s.vm.findClass RJ3 = some m.cls := hown
  have hS : va_S A s.heap s.heap [] := va_S.rf
  have hl : lv_has ls 3 [(0, .int (nI i)), (1, .int (nI n)), (2, .null)] := hl
  refine lv_iload_n hx hb dJ3_checkIndex_8e157_0 rfl (lv_at hl 0 rfl) ?_
  refine lv_if_lt (tgt := 9) hx hb dJ3_checkIndex_8e157_1 (by decide) (fun c => absurd c (nI_pos (by omega))) (fun c_1 => ?_)
  refine lv_iload_n hx hb dJ3_checkIndex_8e157_4 rfl (lv_at hl 0 rfl) ?_
  refine lv_iload_n hx hb dJ3_checkIndex_8e157_5 rfl (lv_at hl 1 rfl) ?_
  refine lv_icmp_lt (tgt := 16) hx hb dJ3_checkIndex_8e157_6 (by decide) (fun c_2 => ?_) (fun c => absurd ((nlt i n (by omega) (by omega)).mpr (by omega)) c)
  refine lv_iload_n hx hb dJ3_checkIndex_8e157_16 rfl (lv_at hl 0 rfl) ?_
  exact sk_iret hx hb hr rfl hlocks hK hP hD hS (⟨rfl, rfl⟩) (Nat.le_of_ble_eq_true rfl) (Nat.le_of_ble_eq_true rfl) dJ3_checkIndex_8e157_17
set_option maxHeartbeats 4000000 in
set_option maxRecDepth 100000 in
theorem c_pc_checkIndex_r (l : Launch) (D : va_G) (cI cJ cC cZ cS : ClassId) (i : Nat) (n : Nat) (zz : Nat) (hi : i < n) (hn : n < 2147483648) : skM l yJ3_checkIndex_8e157 cJ3_checkIndex_8e157 3 (some .int) 0 0 0 0 D (skT cI cJ cC cZ cS) [.int (nI i), .int (nI n), .ref zz] [] (skI D (skT cI cJ cC cZ cS) (fun (r : Int32) (u : va_W) => r = nI i ∧ u = [])) := by
  refine skM_of pf_J3_checkIndex_8e157 (Nat.le_of_ble_eq_true rfl) ?_
  intro p e s m below meth c A ls E hP hD hl
  refine skE_el E (fun hx hb hr hml hlocks hin hown hts hK hA => ?_)
  have hown : s.vm.findClass RJ3 = some m.cls := hown
  have hS : va_S A s.heap s.heap [] := va_S.rf
  have hl : lv_has ls 3 [(0, .int (nI i)), (1, .int (nI n)), (2, .ref zz)] := hl
  refine lv_iload_n hx hb dJ3_checkIndex_8e157_0 rfl (lv_at hl 0 rfl) ?_
  refine lv_if_lt (tgt := 9) hx hb dJ3_checkIndex_8e157_1 (by decide) (fun c => absurd c (nI_pos (by omega))) (fun c_1 => ?_)
  refine lv_iload_n hx hb dJ3_checkIndex_8e157_4 rfl (lv_at hl 0 rfl) ?_
  refine lv_iload_n hx hb dJ3_checkIndex_8e157_5 rfl (lv_at hl 1 rfl) ?_
  refine lv_icmp_lt (tgt := 16) hx hb dJ3_checkIndex_8e157_6 (by decide) (fun c_2 => ?_) (fun c => absurd ((nlt i n (by omega) (by omega)).mpr (by omega)) c)
  refine lv_iload_n hx hb dJ3_checkIndex_8e157_16 rfl (lv_at hl 0 rfl) ?_
  exact sk_iret hx hb hr rfl hlocks hK hP hD hS (⟨rfl, rfl⟩) (Nat.le_of_ble_eq_true rfl) (Nat.le_of_ble_eq_true rfl) dJ3_checkIndex_8e157_17
theorem dg_J0_checkIndex_df160_0_0 : bqL cJ0_checkIndex_df160 0 [(0, [26]), (1, [27]), (2, [178, 4, 29]), (5, [184, 4, 35]), (8, [87]), (9, [177])] = true := by decide +kernel
theorem dJ0_checkIndex_df160_0 : decode cJ0_checkIndex_df160 0 = .ok (.iload_n 0, 1) := q_iload_n0 (bat_get dg_J0_checkIndex_df160_0_0 0 rfl rfl)
theorem dJ0_checkIndex_df160_1 : decode cJ0_checkIndex_df160 1 = .ok (.iload_n 1, 1) := q_iload_n1 (bat_get dg_J0_checkIndex_df160_0_0 1 rfl rfl)
theorem dJ0_checkIndex_df160_2 : decode cJ0_checkIndex_df160 2 = .ok (.getstatic 1053, 3) := q_getstatic (bat_get dg_J0_checkIndex_df160_0_0 2 rfl rfl) rfl
theorem dJ0_checkIndex_df160_5 : decode cJ0_checkIndex_df160 5 = .ok (.invokestatic 1059, 3) := q_invokestatic (bat_get dg_J0_checkIndex_df160_0_0 3 rfl rfl) rfl
theorem dJ0_checkIndex_df160_8 : decode cJ0_checkIndex_df160 8 = .ok (.pop, 1) := q_pop (bat_get dg_J0_checkIndex_df160_0_0 4 rfl rfl)
theorem dJ0_checkIndex_df160_9 : decode cJ0_checkIndex_df160 9 = .ok (.return_, 1) := q_return_ (bat_get dg_J0_checkIndex_df160_0_0 5 rfl rfl)
theorem w_3_18 : (Cond.fieldLink RJ0 1053 "jdk/internal/util/Preconditions" "SIOOBE_FORMATTER" "Ljava/util/function/BiFunction;") ∈ wsL_law := sk_mem (ck_3 _ (List.mem_of_getElem? (i := 18) rfl)) rfl
theorem w_3_20 : (Cond.methodLink RJ0 1059 yJ3_checkIndex_8e157) ∈ wsL_law := sk_mem (ck_3 _ (List.mem_of_getElem? (i := 20) rfl)) rfl
theorem w_3_21 : (Cond.static yJ3_checkIndex_8e157) ∈ wsL_law := sk_mem (ck_3 _ (List.mem_of_getElem? (i := 21) rfl)) rfl
theorem w_1_18 : (Cond.initialized RJ3) ∈ wsL_law := sk_mem (ck_1 _ (List.mem_of_getElem? (i := 18) rfl)) rfl
theorem w_3_17 : (Cond.code yJ0_checkIndex_df160 cJ0_checkIndex_df160 2 none) ∈ wsL_law := sk_mem (ck_3 _ (List.mem_of_getElem? (i := 17) rfl)) rfl
theorem hd_J3_checkIndex_8e157_3 : skD yJ3_checkIndex_8e157 3 := by decide +kernel
set_option maxHeartbeats 4000000 in
set_option maxRecDepth 100000 in
theorem c_str_checkIndex (l : Launch) (D : va_G) (cI cJ cC cZ cS : ClassId) (zk zv : Nat) (zf : Value) (i : Nat) (n : Nat) (hi : i < n) (hn : n < 2147483648) : skMZ zk zv zf l yJ0_checkIndex_df160 cJ0_checkIndex_df160 2 none 1 22 0 0 D (skT cI cJ cC cZ cS) [.int (nI i), .int (nI n)] [] (skV D (skT cI cJ cC cZ cS) (fun (u : va_W) => u = [])) := by
  refine skMZ_of pf_J0_checkIndex_df160 (Nat.le_of_ble_eq_true rfl) ?_
  intro p e s m below meth c A ls E hP hD hZ hl
  refine skE_el E (fun hx hb hr hml hlocks hin hown hts hK hA => ?_)
  have hown : s.vm.findClass RJ0 = some m.cls := hown
  have hS : va_S A s.heap s.heap [] := va_S.rf
  have hl : lv_has ls 2 [(0, .int (nI i)), (1, .int (nI n))] := hl
  refine lv_iload_n hx hb dJ0_checkIndex_df160_0 rfl (lv_at hl 0 rfl) ?_
  refine lv_iload_n hx hb dJ0_checkIndex_df160_1 rfl (lv_at hl 1 rfl) ?_
  rcases hZ.2.2.2.2.2.2.2 with hq | ⟨zz, hq⟩
  · subst hq
    refine va_gets hx hb hZ.2.2.2.2.2.2.1 hS hown (hts _ w_3_18) (fun _ h => h) dJ0_checkIndex_df160_2 ?_
    refine sk_Si (n := 3) (rest := []) (wr := []) ⟨hx, hb, hml, hown, hts⟩ hl.1 (c_pc_checkIndex_n l D cI cJ cC cZ cS i n hi hn) w_3_20 w_3_21 w_1_18 w_3_22 hd_J3_checkIndex_8e157_3 ⟨⟨(Nat.le_of_ble_eq_true rfl), (Nat.le_of_ble_eq_true rfl)⟩, (Nat.le_of_ble_eq_true rfl), (Nat.le_of_ble_eq_true rfl)⟩ hK hP hD hS hA [] [] rfl rfl (by decide +kernel) (by decide +kernel) (by decide +kernel) rfl rfl (Nat.le_of_ble_eq_true rfl) dJ0_checkIndex_df160_5 (fun r_1 u H locs hw hP hD hS => ?_)
    obtain ⟨rfl, rfl⟩ := hw
    refine o_re (ws' := []) hP hD rfl (fun hP hD => ?_)
    refine lv_pop hx hb dJ0_checkIndex_df160_8 rfl ?_
    exact sk_vret hx hb hr hlocks hK hP hD hS rfl (Nat.le_of_ble_eq_true rfl) (Nat.le_of_ble_eq_true rfl) dJ0_checkIndex_df160_9
  · subst hq
    refine va_gets hx hb hZ.2.2.2.2.2.2.1 hS hown (hts _ w_3_18) (fun _ h => h) dJ0_checkIndex_df160_2 ?_
    refine sk_Si (n := 3) (rest := []) (wr := []) ⟨hx, hb, hml, hown, hts⟩ hl.1 (c_pc_checkIndex_r l D cI cJ cC cZ cS i n zz hi hn) w_3_20 w_3_21 w_1_18 w_3_22 hd_J3_checkIndex_8e157_3 ⟨⟨(Nat.le_of_ble_eq_true rfl), (Nat.le_of_ble_eq_true rfl)⟩, (Nat.le_of_ble_eq_true rfl), (Nat.le_of_ble_eq_true rfl)⟩ hK hP hD hS hA [] [] rfl rfl (by decide +kernel) (by decide +kernel) (by decide +kernel) rfl rfl (Nat.le_of_ble_eq_true rfl) dJ0_checkIndex_df160_5 (fun r_2 u H locs hw hP hD hS => ?_)
    obtain ⟨rfl, rfl⟩ := hw
    refine o_re (ws' := []) hP hD rfl (fun hP hD => ?_)
    refine lv_pop hx hb dJ0_checkIndex_df160_8 rfl ?_
    exact sk_vret hx hb hr hlocks hK hP hD hS rfl (Nat.le_of_ble_eq_true rfl) (Nat.le_of_ble_eq_true rfl) dJ0_checkIndex_df160_9
theorem dg_J1_charAt_3b067_0_0 : bqL cJ1_charAt_3b067 0 [(0, [27]), (1, [42]), (2, [190]), (3, [184, 0, 9]), (6, [42]), (7, [27]), (8, [51]), (9, [17, 0, 255]), (12, [126]), (13, [146]), (14, [172])] = true := by decide +kernel
theorem dJ1_charAt_3b067_0 : decode cJ1_charAt_3b067 0 = .ok (.iload_n 1, 1) := q_iload_n1 (bat_get dg_J1_charAt_3b067_0_0 0 rfl rfl)
theorem dJ1_charAt_3b067_1 : decode cJ1_charAt_3b067 1 = .ok (.aload_n 0, 1) := q_aload_n0 (bat_get dg_J1_charAt_3b067_0_0 1 rfl rfl)
theorem dJ1_charAt_3b067_2 : decode cJ1_charAt_3b067 2 = .ok (.arraylength, 1) := q_arraylength (bat_get dg_J1_charAt_3b067_0_0 2 rfl rfl)
theorem dJ1_charAt_3b067_3 : decode cJ1_charAt_3b067 3 = .ok (.invokestatic 9, 3) := q_invokestatic (bat_get dg_J1_charAt_3b067_0_0 3 rfl rfl) rfl
theorem dJ1_charAt_3b067_6 : decode cJ1_charAt_3b067 6 = .ok (.aload_n 0, 1) := q_aload_n0 (bat_get dg_J1_charAt_3b067_0_0 4 rfl rfl)
theorem dJ1_charAt_3b067_7 : decode cJ1_charAt_3b067 7 = .ok (.iload_n 1, 1) := q_iload_n1 (bat_get dg_J1_charAt_3b067_0_0 5 rfl rfl)
theorem dJ1_charAt_3b067_8 : decode cJ1_charAt_3b067 8 = .ok (.baload, 1) := q_baload (bat_get dg_J1_charAt_3b067_0_0 6 rfl rfl)
theorem dJ1_charAt_3b067_9 : decode cJ1_charAt_3b067 9 = .ok (.sipush 255, 3) := q_sipush (bat_get dg_J1_charAt_3b067_0_0 7 rfl rfl) rfl
theorem dJ1_charAt_3b067_12 : decode cJ1_charAt_3b067 12 = .ok (.iand, 1) := q_iand (bat_get dg_J1_charAt_3b067_0_0 8 rfl rfl)
theorem dJ1_charAt_3b067_13 : decode cJ1_charAt_3b067 13 = .ok (.i2c, 1) := q_i2c (bat_get dg_J1_charAt_3b067_0_0 9 rfl rfl)
theorem dJ1_charAt_3b067_14 : decode cJ1_charAt_3b067 14 = .ok (.ireturn, 1) := q_ireturn (bat_get dg_J1_charAt_3b067_0_0 10 rfl rfl)
theorem w_3_15 : (Cond.methodLink RJ1 9 yJ0_checkIndex_df160) ∈ wsL_law := sk_mem (ck_3 _ (List.mem_of_getElem? (i := 15) rfl)) rfl
theorem w_3_16 : (Cond.static yJ0_checkIndex_df160) ∈ wsL_law := sk_mem (ck_3 _ (List.mem_of_getElem? (i := 16) rfl)) rfl
theorem w_1_16 : (Cond.initialized RJ0) ∈ wsL_law := sk_mem (ck_1 _ (List.mem_of_getElem? (i := 16) rfl)) rfl
theorem w_3_14 : (Cond.code yJ1_charAt_3b067 cJ1_charAt_3b067 2 (some .char)) ∈ wsL_law := sk_mem (ck_3 _ (List.mem_of_getElem? (i := 14) rfl)) rfl
theorem hd_J0_checkIndex_df160_2 : skD yJ0_checkIndex_df160 2 := by decide +kernel
set_option maxHeartbeats 4000000 in
set_option maxRecDepth 100000 in
theorem c_l1_charAt (l : Launch) (D : va_G) (cI cJ cC cZ cS : ClassId) (zk zv : Nat) (zf : Value) (i : Nat) (hi : i < 168) : skMZ zk zv zf l yJ1_charAt_3b067 cJ1_charAt_3b067 2 (some .char) 2 43 0 0 D (skT cI cJ cC cZ cS) [.ref zv, .int (nI i)] [] (skI D (skT cI cJ cC cZ cS) (fun (r : Int32) (u : va_W) => narrow .char (.int r) = .int r ∧ r = skBy.getD i 0 ∧ u = [])) := by
  refine skMZ_of pf_J1_charAt_3b067 (Nat.le_of_ble_eq_true rfl) ?_
  intro p e s m below meth c A ls E hP hD hZ hl
  refine skE_el E (fun hx hb hr hml hlocks hin hown hts hK hA => ?_)
  have hown : s.vm.findClass RJ1 = some m.cls := hown
  have hS : va_S A s.heap s.heap [] := va_S.rf
  have hl : lv_has ls 2 [(0, .ref zv), (1, .int (nI i))] := hl
  refine lv_iload_n hx hb dJ1_charAt_3b067_0 rfl (lv_at hl 1 rfl) ?_
  refine lv_aload_n hx hb dJ1_charAt_3b067_1 rfl (lv_at hl 0 rfl) ?_
  refine va_tlen (v := 168) hx hb hZ.2.2.2.2.1 hS rfl dJ1_charAt_3b067_2 ?_
  refine sk_SvZ (n := 2) (rest := []) (wr := []) ⟨hx, hb, hml, hown, hts⟩ hl.1 (c_str_checkIndex l D cI cJ cC cZ cS zk zv zf i 168 hi (by omega)) w_3_15 w_3_16 w_1_16 w_3_17 hd_J0_checkIndex_df160_2 ⟨⟨(Nat.le_of_ble_eq_true rfl), (Nat.le_of_ble_eq_true rfl)⟩, (Nat.le_of_ble_eq_true rfl), (Nat.le_of_ble_eq_true rfl)⟩ hK hP hD hS hZ hA [] [] rfl rfl (by decide +kernel) (by decide +kernel) (by decide +kernel) rfl rfl (Nat.le_of_ble_eq_true rfl) dJ1_charAt_3b067_3 (fun u H locs hw hP hD hS => ?_)
  obtain rfl := hw
  refine o_re (ws' := []) hP hD rfl (fun hP hD => ?_)
  refine lv_aload_n hx hb dJ1_charAt_3b067_6 rfl (lv_at hl 0 rfl) ?_
  refine lv_iload_n hx hb dJ1_charAt_3b067_7 rfl (lv_at hl 1 rfl) ?_
  refine va_tb hx hb hZ.2.2.2.2.1 hS (vin i 168 (by omega) (Nat.le_of_ble_eq_true rfl)) rfl dJ1_charAt_3b067_8 ?_
  refine lv_topi (fun v_1 ev_1 => ?_)
  refine lv_sipush (v := 255) hx hb dJ1_charAt_3b067_9 (by decide) ?_
  refine lv_iand hx hb dJ1_charAt_3b067_12 ?_
  refine lv_i2c hx hb dJ1_charAt_3b067_13 rfl ?_
  refine lv_topi (fun v_2 ev_2 => ?_)
  exact sk_iret hx hb hr (by rw [ev_2]; exact pk_nc _) hlocks hK hP hD hS (⟨by rw [ev_2]; exact pk_nc _, by rw [ev_2, ev_1, nI_clamp (by omega)]; exact ch_by i (by omega), rfl⟩) (Nat.le_of_ble_eq_true rfl) (Nat.le_of_ble_eq_true rfl) dJ1_charAt_3b067_14
theorem dg_J0_coder_7d493_0_0 : bqL cJ0_coder_7d493 0 [(0, [178, 0, 38]), (3, [153, 0, 10]), (6, [42]), (7, [180, 0, 15]), (10, [167, 0, 4]), (14, [172])] = true := by decide +kernel
theorem dJ0_coder_7d493_0 : decode cJ0_coder_7d493 0 = .ok (.getstatic 38, 3) := q_getstatic (bat_get dg_J0_coder_7d493_0_0 0 rfl rfl) rfl
theorem dJ0_coder_7d493_3 : decode cJ0_coder_7d493 3 = .ok (.ifCond .eq 10, 3) := q_ifCond_eq (bat_get dg_J0_coder_7d493_0_0 1 rfl rfl) rfl
theorem dJ0_coder_7d493_6 : decode cJ0_coder_7d493 6 = .ok (.aload_n 0, 1) := q_aload_n0 (bat_get dg_J0_coder_7d493_0_0 2 rfl rfl)
theorem dJ0_coder_7d493_7 : decode cJ0_coder_7d493 7 = .ok (.getfield 15, 3) := q_getfield (bat_get dg_J0_coder_7d493_0_0 3 rfl rfl) rfl
theorem dJ0_coder_7d493_10 : decode cJ0_coder_7d493 10 = .ok (.goto 4, 3) := q_goto (bat_get dg_J0_coder_7d493_0_0 4 rfl rfl) rfl
theorem dJ0_coder_7d493_14 : decode cJ0_coder_7d493 14 = .ok (.ireturn, 1) := q_ireturn (bat_get dg_J0_coder_7d493_0_0 5 rfl rfl)
theorem w_3_2 : (Cond.fieldLink RJ0 38 "java/lang/String" "COMPACT_STRINGS" "Z") ∈ wsL_law := sk_mem (ck_3 _ (List.mem_of_getElem? (i := 2) rfl)) rfl
theorem w_8_232 : (Cond.fieldLink RJ0 15 "java/lang/String" "coder" "B") ∈ wsL_law := sk_mem (ck_8 _ (List.mem_of_getElem? (i := 232) rfl)) rfl
theorem w_3_1 : (Cond.code yJ0_coder_7d493 cJ0_coder_7d493 1 (some .byte)) ∈ wsL_law := sk_mem (ck_3 _ (List.mem_of_getElem? (i := 1) rfl)) rfl
set_option maxHeartbeats 4000000 in
set_option maxRecDepth 100000 in
theorem c_str_coder (l : Launch) (D : va_G) (cI cJ cC cZ cS : ClassId) (zk zv : Nat) (zf : Value)  : skMZ zk zv zf l yJ0_coder_7d493 cJ0_coder_7d493 1 (some .byte) 0 0 0 0 D (skT cI cJ cC cZ cS) [.ref zk] [] (skI D (skT cI cJ cC cZ cS) (fun (r : Int32) (u : va_W) => r = 0 ∧ u = [])) := by
  refine skMZ_of pf_J0_coder_7d493 (Nat.le_of_ble_eq_true rfl) ?_
  intro p e s m below meth c A ls E hP hD hZ hl
  refine skE_el E (fun hx hb hr hml hlocks hin hown hts hK hA => ?_)
  have hown : s.vm.findClass RJ0 = some m.cls := hown
  have hS : va_S A s.heap s.heap [] := va_S.rf
  have hl : lv_has ls 1 [(0, .ref zk)] := hl
  refine va_gets hx hb hZ.2.2.2.2.2.1 hS hown (hts _ w_3_2) (fun _ h => h) dJ0_coder_7d493_0 ?_
  refine lv_if_eq (tgt := 13) hx hb dJ0_coder_7d493_3 (by decide) (fun c => absurd c (by decide)) (fun c_1 => ?_)
  refine lv_aload_n hx hb dJ0_coder_7d493_6 rfl (lv_at hl 0 rfl) ?_
  refine vk_getf hx hb hZ.2.2.1 hS hown (hts _ w_8_232) (fun _ h => h) dJ0_coder_7d493_7 ?_
  refine lv_goto (tgt := 14) hx hb dJ0_coder_7d493_10 (by decide) ?_
  exact sk_iret hx hb hr rfl hlocks hK hP hD hS (⟨rfl, rfl⟩) (Nat.le_of_ble_eq_true rfl) (Nat.le_of_ble_eq_true rfl) dJ0_coder_7d493_14
theorem dg_J0_isLatin1_aae02_0_0 : bqL cJ0_isLatin1_aae02 0 [(0, [178, 0, 38]), (3, [153, 0, 14]), (6, [42]), (7, [180, 0, 15]), (10, [154, 0, 7]), (13, [4]), (14, [167, 0, 4]), (18, [172])] = true := by decide +kernel
theorem dJ0_isLatin1_aae02_0 : decode cJ0_isLatin1_aae02 0 = .ok (.getstatic 38, 3) := q_getstatic (bat_get dg_J0_isLatin1_aae02_0_0 0 rfl rfl) rfl
theorem dJ0_isLatin1_aae02_3 : decode cJ0_isLatin1_aae02 3 = .ok (.ifCond .eq 14, 3) := q_ifCond_eq (bat_get dg_J0_isLatin1_aae02_0_0 1 rfl rfl) rfl
theorem dJ0_isLatin1_aae02_6 : decode cJ0_isLatin1_aae02 6 = .ok (.aload_n 0, 1) := q_aload_n0 (bat_get dg_J0_isLatin1_aae02_0_0 2 rfl rfl)
theorem dJ0_isLatin1_aae02_7 : decode cJ0_isLatin1_aae02 7 = .ok (.getfield 15, 3) := q_getfield (bat_get dg_J0_isLatin1_aae02_0_0 3 rfl rfl) rfl
theorem dJ0_isLatin1_aae02_10 : decode cJ0_isLatin1_aae02 10 = .ok (.ifCond .ne 7, 3) := q_ifCond_ne (bat_get dg_J0_isLatin1_aae02_0_0 4 rfl rfl) rfl
theorem dJ0_isLatin1_aae02_13 : decode cJ0_isLatin1_aae02 13 = .ok (.iconst 1, 1) := q_iconst1 (bat_get dg_J0_isLatin1_aae02_0_0 5 rfl rfl)
theorem dJ0_isLatin1_aae02_14 : decode cJ0_isLatin1_aae02 14 = .ok (.goto 4, 3) := q_goto (bat_get dg_J0_isLatin1_aae02_0_0 6 rfl rfl) rfl
theorem dJ0_isLatin1_aae02_18 : decode cJ0_isLatin1_aae02 18 = .ok (.ireturn, 1) := q_ireturn (bat_get dg_J0_isLatin1_aae02_0_0 7 rfl rfl)
theorem w_3_11 : (Cond.code yJ0_isLatin1_aae02 cJ0_isLatin1_aae02 1 (some .boolean)) ∈ wsL_law := sk_mem (ck_3 _ (List.mem_of_getElem? (i := 11) rfl)) rfl
set_option maxHeartbeats 4000000 in
set_option maxRecDepth 100000 in
theorem c_str_isLatin1 (l : Launch) (D : va_G) (cI cJ cC cZ cS : ClassId) (zk zv : Nat) (zf : Value)  : skMZ zk zv zf l yJ0_isLatin1_aae02 cJ0_isLatin1_aae02 1 (some .boolean) 0 0 0 0 D (skT cI cJ cC cZ cS) [.ref zk] [] (skI D (skT cI cJ cC cZ cS) (fun (r : Int32) (u : va_W) => r = 1 ∧ u = [])) := by
  refine skMZ_of pf_J0_isLatin1_aae02 (Nat.le_of_ble_eq_true rfl) ?_
  intro p e s m below meth c A ls E hP hD hZ hl
  refine skE_el E (fun hx hb hr hml hlocks hin hown hts hK hA => ?_)
  have hown : s.vm.findClass RJ0 = some m.cls := hown
  have hS : va_S A s.heap s.heap [] := va_S.rf
  have hl : lv_has ls 1 [(0, .ref zk)] := hl
  refine va_gets hx hb hZ.2.2.2.2.2.1 hS hown (hts _ w_3_2) (fun _ h => h) dJ0_isLatin1_aae02_0 ?_
  refine lv_if_eq (tgt := 17) hx hb dJ0_isLatin1_aae02_3 (by decide) (fun c => absurd c (by decide)) (fun c_1 => ?_)
  refine lv_aload_n hx hb dJ0_isLatin1_aae02_6 rfl (lv_at hl 0 rfl) ?_
  refine vk_getf hx hb hZ.2.2.1 hS hown (hts _ w_8_232) (fun _ h => h) dJ0_isLatin1_aae02_7 ?_
  refine lv_if_ne (tgt := 17) hx hb dJ0_isLatin1_aae02_10 (by decide) (fun c => absurd c (by decide)) (fun c_2 => ?_)
  refine lv_iconst (v := 1) hx hb dJ0_isLatin1_aae02_13 ic_1 ?_
  refine lv_goto (tgt := 18) hx hb dJ0_isLatin1_aae02_14 (by decide) ?_
  exact sk_iret hx hb hr rfl hlocks hK hP hD hS (⟨rfl, rfl⟩) (Nat.le_of_ble_eq_true rfl) (Nat.le_of_ble_eq_true rfl) dJ0_isLatin1_aae02_18
theorem dg_J0_length_8abf5_0_0 : bqL cJ0_length_8abf5 0 [(0, [42]), (1, [180, 0, 9]), (4, [190]), (5, [42]), (6, [182, 1, 79]), (9, [122]), (10, [172])] = true := by decide +kernel
theorem dJ0_length_8abf5_0 : decode cJ0_length_8abf5 0 = .ok (.aload_n 0, 1) := q_aload_n0 (bat_get dg_J0_length_8abf5_0_0 0 rfl rfl)
theorem dJ0_length_8abf5_1 : decode cJ0_length_8abf5 1 = .ok (.getfield 9, 3) := q_getfield (bat_get dg_J0_length_8abf5_0_0 1 rfl rfl) rfl
theorem dJ0_length_8abf5_4 : decode cJ0_length_8abf5 4 = .ok (.arraylength, 1) := q_arraylength (bat_get dg_J0_length_8abf5_0_0 2 rfl rfl)
theorem dJ0_length_8abf5_5 : decode cJ0_length_8abf5 5 = .ok (.aload_n 0, 1) := q_aload_n0 (bat_get dg_J0_length_8abf5_0_0 3 rfl rfl)
theorem dJ0_length_8abf5_6 : decode cJ0_length_8abf5 6 = .ok (.invokevirtual 335, 3) := q_invokevirtual (bat_get dg_J0_length_8abf5_0_0 4 rfl rfl) rfl
theorem dJ0_length_8abf5_9 : decode cJ0_length_8abf5 9 = .ok (.ishr, 1) := q_ishr (bat_get dg_J0_length_8abf5_0_0 5 rfl rfl)
theorem dJ0_length_8abf5_10 : decode cJ0_length_8abf5 10 = .ok (.ireturn, 1) := q_ireturn (bat_get dg_J0_length_8abf5_0_0 6 rfl rfl)
theorem w_8_231 : (Cond.fieldLink RJ0 9 "java/lang/String" "value" "[B") ∈ wsL_law := sk_mem (ck_8 _ (List.mem_of_getElem? (i := 231) rfl)) rfl
theorem w_2_238 : (Cond.methodLink RJ0 335 yJ0_coder_7d493) ∈ wsL_law := sk_mem (ck_2 _ (List.mem_of_getElem? (i := 238) rfl)) rfl
theorem w_2_239 : (Cond.instanceMethod yJ0_coder_7d493) ∈ wsL_law := sk_mem (ck_2 _ (List.mem_of_getElem? (i := 239) rfl)) rfl
theorem w_3_0 : (Cond.selects RJ0 yJ0_coder_7d493 yJ0_coder_7d493) ∈ wsL_law := sk_mem (ck_3 _ (List.mem_of_getElem? (i := 0) rfl)) rfl
theorem w_2_237 : (Cond.code yJ0_length_8abf5 cJ0_length_8abf5 1 (some .int)) ∈ wsL_law := sk_mem (ck_2 _ (List.mem_of_getElem? (i := 237) rfl)) rfl
theorem hd_J0_coder_7d493_0 : skD yJ0_coder_7d493 0 := by decide +kernel
set_option maxHeartbeats 4000000 in
set_option maxRecDepth 100000 in
theorem c_str_length (l : Launch) (D : va_G) (cI cJ cC cZ cS : ClassId) (zk zv : Nat) (zf : Value)  : skMZ zk zv zf l yJ0_length_8abf5 cJ0_length_8abf5 1 (some .int) 1 20 0 0 D (skT cI cJ cC cZ cS) [.ref zk] [] (skI D (skT cI cJ cC cZ cS) (fun (r : Int32) (u : va_W) => r = 168 ∧ u = [])) := by
  refine skMZ_of pf_J0_length_8abf5 (Nat.le_of_ble_eq_true rfl) ?_
  intro p e s m below meth c A ls E hP hD hZ hl
  refine skE_el E (fun hx hb hr hml hlocks hin hown hts hK hA => ?_)
  have hown : s.vm.findClass RJ0 = some m.cls := hown
  have hS : va_S A s.heap s.heap [] := va_S.rf
  have hl : lv_has ls 1 [(0, .ref zk)] := hl
  refine lv_aload_n hx hb dJ0_length_8abf5_0 rfl (lv_at hl 0 rfl) ?_
  refine vk_getf hx hb hZ.2.2.2.1 hS hown (hts _ w_8_231) (fun _ h => h) dJ0_length_8abf5_1 ?_
  refine va_tlen (v := 168) hx hb hZ.2.2.2.2.1 hS rfl dJ0_length_8abf5_4 ?_
  refine lv_aload_n hx hb dJ0_length_8abf5_5 rfl (lv_at hl 0 rfl) ?_
  refine sk_ViS (n := 0) (rest := [.int 168]) (wr := []) ⟨hx, hb, hml, hown, hts⟩ hl.1 (c_str_coder l D cI cJ cC cZ cS zk zv zf) w_2_238 w_2_239 w_3_0 w_1_16 w_3_1 hd_J0_coder_7d493_0 ⟨⟨(Nat.le_of_ble_eq_true rfl), (Nat.le_of_ble_eq_true rfl)⟩, (Nat.le_of_ble_eq_true rfl), (Nat.le_of_ble_eq_true rfl)⟩ hK hP hD hS hZ hA [] [] rfl rfl (by decide +kernel) (by decide +kernel) (by decide +kernel) rfl rfl rfl rfl (Nat.le_of_ble_eq_true rfl) dJ0_length_8abf5_6 (fun r_1 u H locs hw hP hD hS => ?_)
  obtain ⟨rfl, rfl⟩ := hw
  refine o_re (ws' := []) hP hD rfl (fun hP hD => ?_)
  refine lv_ishr hx hb dJ0_length_8abf5_9 ?_
  refine sk_top 168 (by decide) ?_
  exact sk_iret hx hb hr rfl hlocks hK hP hD hS (⟨rfl, rfl⟩) (Nat.le_of_ble_eq_true rfl) (Nat.le_of_ble_eq_true rfl) dJ0_length_8abf5_10
theorem dg_J0_charAt_5068e_0_0 : bqL cJ0_charAt_5068e 0 [(0, [42]), (1, [182, 1, 236]), (4, [153, 0, 12]), (7, [42]), (8, [180, 0, 9]), (11, [27]), (12, [184, 1, 239]), (15, [172])] = true := by decide +kernel
theorem dJ0_charAt_5068e_0 : decode cJ0_charAt_5068e 0 = .ok (.aload_n 0, 1) := q_aload_n0 (bat_get dg_J0_charAt_5068e_0_0 0 rfl rfl)
theorem dJ0_charAt_5068e_1 : decode cJ0_charAt_5068e 1 = .ok (.invokevirtual 492, 3) := q_invokevirtual (bat_get dg_J0_charAt_5068e_0_0 1 rfl rfl) rfl
theorem dJ0_charAt_5068e_4 : decode cJ0_charAt_5068e 4 = .ok (.ifCond .eq 12, 3) := q_ifCond_eq (bat_get dg_J0_charAt_5068e_0_0 2 rfl rfl) rfl
theorem dJ0_charAt_5068e_7 : decode cJ0_charAt_5068e 7 = .ok (.aload_n 0, 1) := q_aload_n0 (bat_get dg_J0_charAt_5068e_0_0 3 rfl rfl)
theorem dJ0_charAt_5068e_8 : decode cJ0_charAt_5068e 8 = .ok (.getfield 9, 3) := q_getfield (bat_get dg_J0_charAt_5068e_0_0 4 rfl rfl) rfl
theorem dJ0_charAt_5068e_11 : decode cJ0_charAt_5068e 11 = .ok (.iload_n 1, 1) := q_iload_n1 (bat_get dg_J0_charAt_5068e_0_0 5 rfl rfl)
theorem dJ0_charAt_5068e_12 : decode cJ0_charAt_5068e 12 = .ok (.invokestatic 495, 3) := q_invokestatic (bat_get dg_J0_charAt_5068e_0_0 6 rfl rfl) rfl
theorem dJ0_charAt_5068e_15 : decode cJ0_charAt_5068e 15 = .ok (.ireturn, 1) := q_ireturn (bat_get dg_J0_charAt_5068e_0_0 7 rfl rfl)
theorem w_3_8 : (Cond.methodLink RJ0 492 yJ0_isLatin1_aae02) ∈ wsL_law := sk_mem (ck_3 _ (List.mem_of_getElem? (i := 8) rfl)) rfl
theorem w_3_9 : (Cond.instanceMethod yJ0_isLatin1_aae02) ∈ wsL_law := sk_mem (ck_3 _ (List.mem_of_getElem? (i := 9) rfl)) rfl
theorem w_3_10 : (Cond.selects RJ0 yJ0_isLatin1_aae02 yJ0_isLatin1_aae02) ∈ wsL_law := sk_mem (ck_3 _ (List.mem_of_getElem? (i := 10) rfl)) rfl
theorem w_3_12 : (Cond.methodLink RJ0 495 yJ1_charAt_3b067) ∈ wsL_law := sk_mem (ck_3 _ (List.mem_of_getElem? (i := 12) rfl)) rfl
theorem w_3_13 : (Cond.static yJ1_charAt_3b067) ∈ wsL_law := sk_mem (ck_3 _ (List.mem_of_getElem? (i := 13) rfl)) rfl
theorem w_1_17 : (Cond.initialized RJ1) ∈ wsL_law := sk_mem (ck_1 _ (List.mem_of_getElem? (i := 17) rfl)) rfl
theorem w_3_7 : (Cond.code yJ0_charAt_5068e cJ0_charAt_5068e 2 (some .char)) ∈ wsL_law := sk_mem (ck_3 _ (List.mem_of_getElem? (i := 7) rfl)) rfl
theorem hd_J0_isLatin1_aae02_0 : skD yJ0_isLatin1_aae02 0 := by decide +kernel
theorem hd_J1_charAt_3b067_2 : skD yJ1_charAt_3b067 2 := by decide +kernel
set_option maxHeartbeats 4000000 in
set_option maxRecDepth 100000 in
theorem c_str_charAt (l : Launch) (D : va_G) (cI cJ cC cZ cS : ClassId) (zk zv : Nat) (zf : Value) (i : Nat) (hi : i < 168) : skMZ zk zv zf l yJ0_charAt_5068e cJ0_charAt_5068e 2 (some .char) 3 64 0 0 D (skT cI cJ cC cZ cS) [.ref zk, .int (nI i)] [] (skI D (skT cI cJ cC cZ cS) (fun (r : Int32) (u : va_W) => r = skBy.getD i 0 ∧ u = [])) := by
  refine skMZ_of pf_J0_charAt_5068e (Nat.le_of_ble_eq_true rfl) ?_
  intro p e s m below meth c A ls E hP hD hZ hl
  refine skE_el E (fun hx hb hr hml hlocks hin hown hts hK hA => ?_)
  have hown : s.vm.findClass RJ0 = some m.cls := hown
  have hS : va_S A s.heap s.heap [] := va_S.rf
  have hl : lv_has ls 2 [(0, .ref zk), (1, .int (nI i))] := hl
  refine lv_aload_n hx hb dJ0_charAt_5068e_0 rfl (lv_at hl 0 rfl) ?_
  refine sk_ViS (n := 0) (rest := []) (wr := []) ⟨hx, hb, hml, hown, hts⟩ hl.1 (c_str_isLatin1 l D cI cJ cC cZ cS zk zv zf) w_3_8 w_3_9 w_3_10 w_1_16 w_3_11 hd_J0_isLatin1_aae02_0 ⟨⟨(Nat.le_of_ble_eq_true rfl), (Nat.le_of_ble_eq_true rfl)⟩, (Nat.le_of_ble_eq_true rfl), (Nat.le_of_ble_eq_true rfl)⟩ hK hP hD hS hZ hA [] [] rfl rfl (by decide +kernel) (by decide +kernel) (by decide +kernel) rfl rfl rfl rfl (Nat.le_of_ble_eq_true rfl) dJ0_charAt_5068e_1 (fun r_1 u H locs hw hP hD hS => ?_)
  obtain ⟨rfl, rfl⟩ := hw
  refine o_re (ws' := []) hP hD rfl (fun hP hD => ?_)
  refine lv_if_eq (tgt := 16) hx hb dJ0_charAt_5068e_4 (by decide) (fun c => absurd c (by decide)) (fun c_2 => ?_)
  refine lv_aload_n hx hb dJ0_charAt_5068e_7 rfl (lv_at hl 0 rfl) ?_
  refine vk_getf hx hb hZ.2.2.2.1 hS hown (hts _ w_8_231) (fun _ h => h) dJ0_charAt_5068e_8 ?_
  refine lv_iload_n hx hb dJ0_charAt_5068e_11 rfl (lv_at hl 1 rfl) ?_
  refine sk_SiZ (n := 2) (rest := []) (wr := []) ⟨hx, hb, hml, hown, hts⟩ hl.1 (c_l1_charAt l D cI cJ cC cZ cS zk zv zf i hi) w_3_12 w_3_13 w_1_17 w_3_14 hd_J1_charAt_3b067_2 ⟨⟨(Nat.le_of_ble_eq_true rfl), (Nat.le_of_ble_eq_true rfl)⟩, (Nat.le_of_ble_eq_true rfl), (Nat.le_of_ble_eq_true rfl)⟩ hK hP hD hS hZ hA [] [] rfl rfl (by decide +kernel) (by decide +kernel) (by decide +kernel) rfl rfl (Nat.le_of_ble_eq_true rfl) dJ0_charAt_5068e_12 (fun r_3 u H locs hw hP hD hS => ?_)
  obtain ⟨hn_4, hv_5, rfl⟩ := hw
  refine o_re (ws' := []) hP hD rfl (fun hP hD => ?_)
  exact sk_iret hx hb hr hn_4 hlocks hK hP hD hS (⟨hv_5, rfl⟩) (Nat.le_of_ble_eq_true rfl) (Nat.le_of_ble_eq_true rfl) dJ0_charAt_5068e_15
