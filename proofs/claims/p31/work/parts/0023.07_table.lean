theorem dg_X9_moodsBehind_0_0 : bqL cX9_moodsBehind 0 [(0, [3]), (1, [54, 4]), (3, [3]), (4, [54, 5]), (6, [21, 5]), (8, [16, 10]), (10, [162, 0, 59]), (69, [21, 4]), (71, [172]), (13, [42]), (14, [180, 0, 9]), (17, [27]), (18, [16, 10]), (20, [104]), (21, [21, 5]), (23, [96]), (24, [46]), (25, [29]), (26, [96]), (27, [16, 10]), (29, [112]), (30, [54, 6]), (32, [42]), (33, [180, 0, 15]), (36, [27]), (37, [16, 10]), (39, [104]), (40, [28]), (41, [96]), (42, [16, 10]), (44, [104]), (45, [21, 6]), (47, [96]), (48, [46]), (49, [21, 5]), (51, [160, 0, 12]), (63, [132, 5, 1]), (66, [167, 255, 196]), (54, [21, 4]), (56, [4])] = true := by decide +kernel
theorem dX9_moodsBehind_0 : decode cX9_moodsBehind 0 = .ok (.iconst 0, 1) := q_iconst0 (bat_get dg_X9_moodsBehind_0_0 0 rfl rfl)
theorem dX9_moodsBehind_1 : decode cX9_moodsBehind 1 = .ok (.istore 4, 2) := q_istore (bat_get dg_X9_moodsBehind_0_0 1 rfl rfl)
theorem dX9_moodsBehind_3 : decode cX9_moodsBehind 3 = .ok (.iconst 0, 1) := q_iconst0 (bat_get dg_X9_moodsBehind_0_0 2 rfl rfl)
theorem dX9_moodsBehind_4 : decode cX9_moodsBehind 4 = .ok (.istore 5, 2) := q_istore (bat_get dg_X9_moodsBehind_0_0 3 rfl rfl)
theorem dX9_moodsBehind_6 : decode cX9_moodsBehind 6 = .ok (.iload 5, 2) := q_iload (bat_get dg_X9_moodsBehind_0_0 4 rfl rfl)
theorem dX9_moodsBehind_8 : decode cX9_moodsBehind 8 = .ok (.bipush 10, 2) := q_bipush (bat_get dg_X9_moodsBehind_0_0 5 rfl rfl) rfl
theorem dX9_moodsBehind_10 : decode cX9_moodsBehind 10 = .ok (.if_icmp .ge 59, 3) := q_if_icmp_ge (bat_get dg_X9_moodsBehind_0_0 6 rfl rfl) rfl
theorem dX9_moodsBehind_69 : decode cX9_moodsBehind 69 = .ok (.iload 4, 2) := q_iload (bat_get dg_X9_moodsBehind_0_0 7 rfl rfl)
theorem dX9_moodsBehind_71 : decode cX9_moodsBehind 71 = .ok (.ireturn, 1) := q_ireturn (bat_get dg_X9_moodsBehind_0_0 8 rfl rfl)
theorem dX9_moodsBehind_13 : decode cX9_moodsBehind 13 = .ok (.aload_n 0, 1) := q_aload_n0 (bat_get dg_X9_moodsBehind_0_0 9 rfl rfl)
theorem dX9_moodsBehind_14 : decode cX9_moodsBehind 14 = .ok (.getfield 9, 3) := q_getfield (bat_get dg_X9_moodsBehind_0_0 10 rfl rfl) rfl
theorem dX9_moodsBehind_17 : decode cX9_moodsBehind 17 = .ok (.iload_n 1, 1) := q_iload_n1 (bat_get dg_X9_moodsBehind_0_0 11 rfl rfl)
theorem dX9_moodsBehind_18 : decode cX9_moodsBehind 18 = .ok (.bipush 10, 2) := q_bipush (bat_get dg_X9_moodsBehind_0_0 12 rfl rfl) rfl
theorem dX9_moodsBehind_20 : decode cX9_moodsBehind 20 = .ok (.imul, 1) := q_imul (bat_get dg_X9_moodsBehind_0_0 13 rfl rfl)
theorem dX9_moodsBehind_21 : decode cX9_moodsBehind 21 = .ok (.iload 5, 2) := q_iload (bat_get dg_X9_moodsBehind_0_0 14 rfl rfl)
theorem dX9_moodsBehind_23 : decode cX9_moodsBehind 23 = .ok (.iadd, 1) := q_iadd (bat_get dg_X9_moodsBehind_0_0 15 rfl rfl)
theorem dX9_moodsBehind_24 : decode cX9_moodsBehind 24 = .ok (.iaload, 1) := q_iaload (bat_get dg_X9_moodsBehind_0_0 16 rfl rfl)
theorem dX9_moodsBehind_25 : decode cX9_moodsBehind 25 = .ok (.iload_n 3, 1) := q_iload_n3 (bat_get dg_X9_moodsBehind_0_0 17 rfl rfl)
theorem dX9_moodsBehind_26 : decode cX9_moodsBehind 26 = .ok (.iadd, 1) := q_iadd (bat_get dg_X9_moodsBehind_0_0 18 rfl rfl)
theorem dX9_moodsBehind_27 : decode cX9_moodsBehind 27 = .ok (.bipush 10, 2) := q_bipush (bat_get dg_X9_moodsBehind_0_0 19 rfl rfl) rfl
theorem dX9_moodsBehind_29 : decode cX9_moodsBehind 29 = .ok (.irem, 1) := q_irem (bat_get dg_X9_moodsBehind_0_0 20 rfl rfl)
theorem dX9_moodsBehind_30 : decode cX9_moodsBehind 30 = .ok (.istore 6, 2) := q_istore (bat_get dg_X9_moodsBehind_0_0 21 rfl rfl)
theorem dX9_moodsBehind_32 : decode cX9_moodsBehind 32 = .ok (.aload_n 0, 1) := q_aload_n0 (bat_get dg_X9_moodsBehind_0_0 22 rfl rfl)
theorem dX9_moodsBehind_33 : decode cX9_moodsBehind 33 = .ok (.getfield 15, 3) := q_getfield (bat_get dg_X9_moodsBehind_0_0 23 rfl rfl) rfl
theorem dX9_moodsBehind_36 : decode cX9_moodsBehind 36 = .ok (.iload_n 1, 1) := q_iload_n1 (bat_get dg_X9_moodsBehind_0_0 24 rfl rfl)
theorem dX9_moodsBehind_37 : decode cX9_moodsBehind 37 = .ok (.bipush 10, 2) := q_bipush (bat_get dg_X9_moodsBehind_0_0 25 rfl rfl) rfl
theorem dX9_moodsBehind_39 : decode cX9_moodsBehind 39 = .ok (.imul, 1) := q_imul (bat_get dg_X9_moodsBehind_0_0 26 rfl rfl)
theorem dX9_moodsBehind_40 : decode cX9_moodsBehind 40 = .ok (.iload_n 2, 1) := q_iload_n2 (bat_get dg_X9_moodsBehind_0_0 27 rfl rfl)
theorem dX9_moodsBehind_41 : decode cX9_moodsBehind 41 = .ok (.iadd, 1) := q_iadd (bat_get dg_X9_moodsBehind_0_0 28 rfl rfl)
theorem dX9_moodsBehind_42 : decode cX9_moodsBehind 42 = .ok (.bipush 10, 2) := q_bipush (bat_get dg_X9_moodsBehind_0_0 29 rfl rfl) rfl
theorem dX9_moodsBehind_44 : decode cX9_moodsBehind 44 = .ok (.imul, 1) := q_imul (bat_get dg_X9_moodsBehind_0_0 30 rfl rfl)
theorem dX9_moodsBehind_45 : decode cX9_moodsBehind 45 = .ok (.iload 6, 2) := q_iload (bat_get dg_X9_moodsBehind_0_0 31 rfl rfl)
theorem dX9_moodsBehind_47 : decode cX9_moodsBehind 47 = .ok (.iadd, 1) := q_iadd (bat_get dg_X9_moodsBehind_0_0 32 rfl rfl)
theorem dX9_moodsBehind_48 : decode cX9_moodsBehind 48 = .ok (.iaload, 1) := q_iaload (bat_get dg_X9_moodsBehind_0_0 33 rfl rfl)
theorem dX9_moodsBehind_49 : decode cX9_moodsBehind 49 = .ok (.iload 5, 2) := q_iload (bat_get dg_X9_moodsBehind_0_0 34 rfl rfl)
theorem dX9_moodsBehind_51 : decode cX9_moodsBehind 51 = .ok (.if_icmp .ne 12, 3) := q_if_icmp_ne (bat_get dg_X9_moodsBehind_0_0 35 rfl rfl) rfl
theorem dX9_moodsBehind_63 : decode cX9_moodsBehind 63 = .ok (.iinc 5 1, 3) := q_iinc (bat_get dg_X9_moodsBehind_0_0 36 rfl rfl) rfl
theorem dX9_moodsBehind_66 : decode cX9_moodsBehind 66 = .ok (.goto (-60), 3) := q_goto (bat_get dg_X9_moodsBehind_0_0 37 rfl rfl) rfl
theorem dX9_moodsBehind_54 : decode cX9_moodsBehind 54 = .ok (.iload 4, 2) := q_iload (bat_get dg_X9_moodsBehind_0_0 38 rfl rfl)
theorem dX9_moodsBehind_56 : decode cX9_moodsBehind 56 = .ok (.iconst 1, 1) := q_iconst1 (bat_get dg_X9_moodsBehind_0_0 39 rfl rfl)
theorem dg_X9_moodsBehind_57_57 : bqL cX9_moodsBehind 57 [(0, [21, 5]), (2, [120]), (3, [128]), (4, [54, 4])] = true := by decide +kernel
theorem dX9_moodsBehind_57 : decode cX9_moodsBehind 57 = .ok (.iload 5, 2) := q_iload (bat_get dg_X9_moodsBehind_57_57 0 rfl rfl)
theorem dX9_moodsBehind_59 : decode cX9_moodsBehind 59 = .ok (.ishl, 1) := q_ishl (bat_get dg_X9_moodsBehind_57_57 1 rfl rfl)
theorem dX9_moodsBehind_60 : decode cX9_moodsBehind 60 = .ok (.ior, 1) := q_ior (bat_get dg_X9_moodsBehind_57_57 2 rfl rfl)
theorem dX9_moodsBehind_61 : decode cX9_moodsBehind 61 = .ok (.istore 4, 2) := q_istore (bat_get dg_X9_moodsBehind_57_57 3 rfl rfl)
theorem w_2_63 : (Cond.fieldLink RX9 9 "SameKeeper$Table" "said" "[I") ∈ wsL_law := sk_mem (ck_2 _ (List.mem_of_getElem? (i := 63) rfl)) rfl
theorem w_2_65 : (Cond.fieldLink RX9 15 "SameKeeper$Table" "turned" "[I") ∈ wsL_law := sk_mem (ck_2 _ (List.mem_of_getElem? (i := 65) rfl)) rfl
theorem w_4_20 : (Cond.code yX9_moodsBehind cX9_moodsBehind 7 (some .int)) ∈ wsL_law := sk_mem (ck_4 _ (List.mem_of_getElem? (i := 20) rfl)) rfl
set_option maxHeartbeats 4000000 in
set_option maxRecDepth 100000 in
theorem c_moodsBehind (l : Launch) (D : va_G) (cI cJ cC cZ cS : ClassId) (q : Nat → Nat) (sa : Nat → Nat) (ft : Nat → Int32) (d : Nat) (ah : Nat) (li : Nat) (hsa : ∀ j, sa j ≤ 9) (hd : d < 9) (hah : ah < 10) (hli : li < 10) : skM l yX9_moodsBehind cX9_moodsBehind 7 (some .int) 0 0 0 0 D (skT cI cJ cC cZ cS) [.ref (q 10), .int (nI d), .int (nI ah), .int (nI li)] [(q 10, .inr (9, [.ref (q 61), .ref (q 62), .ref (q 63), .ref (q 64), .ref (q 65), .ref (q 66)])), (q 61, .inl (cI, 90, .inl (fun j => nI (sa j)))), (q 62, .inl (cI, 900, .inl ft))] (skI D (skT cI cJ cC cZ cS) (fun (r : Int32) (u : va_W) => u = [(q 10, .inr (9, [.ref (q 61), .ref (q 62), .ref (q 63), .ref (q 64), .ref (q 65), .ref (q 66)])), (q 61, .inl (cI, 90, .inl (fun j => nI (sa j)))), (q 62, .inl (cI, 900, .inl ft))])) := by
  refine skM_of pf_X9_moodsBehind (Nat.le_of_ble_eq_true rfl) ?_
  intro p e s m below meth c A ls E hP hD hl
  refine skE_el E (fun hx hb hr hml hlocks hin hown hts hK hA => ?_)
  have hown : s.vm.findClass RX9 = some m.cls := hown
  have hS : va_S A s.heap s.heap [] := va_S.rf
  have hl : lv_has ls 7 [(0, .ref (q 10)), (1, .int (nI d)), (2, .int (nI ah)), (3, .int (nI li))] := hl
  refine lv_iconst (v := 0) hx hb dX9_moodsBehind_0 (by decide) ?_
  refine lv_istore (lv' := [(4, .int 0), (0, .ref (q 10)), (1, .int (nI d)), (2, .int (nI ah)), (3, .int (nI li))]) hx hb dX9_moodsBehind_1 hl (by decide) rfl (fun ls hl => ?_)
  refine lv_iconst (v := 0) hx hb dX9_moodsBehind_3 (by decide) ?_
  refine lv_istore (lv' := [(5, .int 0), (4, .int 0), (0, .ref (q 10)), (1, .int (nI d)), (2, .int (nI ah)), (3, .int (nI li))]) hx hb dX9_moodsBehind_4 hl (by decide) rfl (fun ls hl => ?_)
  have lp_1 : ∀ (n_2 : Nat) (i : Nat) (mo : Int32) (H : Heap) (locs : List Loc) (ls : Array Slot), 10 - i < n_2 → (i ≤ 10) → va_P D vwCl [(q 10, .inr (9, [.ref (q 61), .ref (q 62), .ref (q 63), .ref (q 64), .ref (q 65), .ref (q 66)])), (q 61, .inl (cI, 90, .inl (fun j => nI (sa j)))), (q 62, .inl (cI, 900, .inl ft))] H → va_D A [(q 10, .inr (9, [.ref (q 61), .ref (q 62), .ref (q 63), .ref (q 64), .ref (q 65), .ref (q 66)])), (q 61, .inl (cI, 90, .inl (fun j => nI (sa j)))), (q 62, .inl (cI, 900, .inl ft))] → va_S A s.heap H locs → lv_has ls 7 [(5, .int (nI i)), (4, .int mo), (0, .ref (q 10)), (1, .int (nI d)), (2, .int (nI ah)), (3, .int (nI li))] → W p l e { frames := 0, cells := 0, slots := 0, locals := 0 } s m ([.ref (q 10), .int (nI d), .int (nI ah), .int (nI li)] : List Value).toArray below meth c H locs 0 0 (MQ below (skI D (skT cI cJ cC cZ cS) (fun (r : Int32) (u : va_W) => u = [(q 10, .inr (9, [.ref (q 61), .ref (q 62), .ref (q 63), .ref (q 64), .ref (q 65), .ref (q 66)])), (q 61, .inl (cI, 90, .inl (fun j => nI (sa j)))), (q 62, .inl (cI, 900, .inl ft))]) A) ([.ref (q 10), .int (nI d), .int (nI ah), .int (nI li)] : List Value).toArray s 0 0 A) (F0 m 6 ls []) := by
    intro n_2
    induction n_2 with
    | zero => intro i mo H locs ls hm; exact absurd hm (Nat.not_lt_zero _)
    | succ n_2 ih_lp_1 =>
      intro i mo H locs ls hm hi hP hD hS hl
      refine lv_iload hx hb dX9_moodsBehind_6 (lv_at hl 0 rfl) ?_
      refine lv_bipush (v := 10) hx hb dX9_moodsBehind_8 (by decide) ?_
      refine lv_icmp_ge (tgt := 69) hx hb dX9_moodsBehind_10 (by decide) (fun c_3 => ?_) (fun c_3 => ?_)
      · have c_3 : 10 ≤ i := (nle 10 i (by omega) (by omega)).mp c_3
        refine lv_iload hx hb dX9_moodsBehind_69 (lv_at hl 1 rfl) ?_
        exact sk_iret hx hb hr rfl hlocks hK hP hD hS rfl (Nat.le_of_ble_eq_true rfl) (Nat.le_of_ble_eq_true rfl) dX9_moodsBehind_71
      · have c_3 : ¬ (10 ≤ i) := fun h => c_3 ((nle 10 i (by omega) (by omega)).mpr h)
        refine lv_aload_n hx hb dX9_moodsBehind_13 rfl (lv_at hl 2 rfl) ?_
        refine sk_get (v := .ref (q 61)) (C := RX9) (T := TX9) (N := 6) hx hb hts inlX9 hown hK hP 0 rfl rfl 0 (by decide) w_2_63 rfl dX9_moodsBehind_14 ?_
        refine lv_iload_n hx hb dX9_moodsBehind_17 rfl (lv_at hl 3 rfl) ?_
        refine lv_bipush (v := 10) hx hb dX9_moodsBehind_18 (by decide) ?_
        refine lv_imul hx hb dX9_moodsBehind_20 ?_
        refine sk_top (nI (d * 10)) (nmul d 10) ?_
        refine lv_iload hx hb dX9_moodsBehind_21 (lv_at hl 0 rfl) ?_
        refine lv_iadd hx hb dX9_moodsBehind_23 ?_
        refine sk_top (nI (d * 10 + i)) (nI_add (d * 10) i) ?_
        refine va_iald hx hb hK.1 hP 1 0 rfl rfl (vin (d * 10 + i) 90 (by omega) (by omega)) dX9_moodsBehind_24 ?_
        refine sk_top (nI (sa (d * 10 + i))) (nrd sa (d * 10 + i) (by omega)) ?_
        have hb_4 := hsa (d * 10 + i)
        refine lv_iload_n hx hb dX9_moodsBehind_25 rfl (lv_at hl 5 rfl) ?_
        refine lv_iadd hx hb dX9_moodsBehind_26 ?_
        refine sk_top (nI (sa (d * 10 + i) + li)) (nI_add (sa (d * 10 + i)) li) ?_
        refine lv_bipush (v := 10) hx hb dX9_moodsBehind_27 (by decide) ?_
        refine lv_irem hx hb dX9_moodsBehind_29 (by decide) ?_
        refine sk_top (nI ((sa (d * 10 + i) + li) % 10)) (nrem (sa (d * 10 + i) + li) 10 (by omega) (by omega) (by omega)) ?_
        refine lv_istore (lv' := [(6, .int (nI ((sa (d * 10 + i) + li) % 10))), (5, .int (nI i)), (4, .int mo), (0, .ref (q 10)), (1, .int (nI d)), (2, .int (nI ah)), (3, .int (nI li))]) hx hb dX9_moodsBehind_30 hl (by decide) rfl (fun ls hl => ?_)
        refine lv_aload_n hx hb dX9_moodsBehind_32 rfl (lv_at hl 3 rfl) ?_
        refine sk_get (v := .ref (q 62)) (C := RX9) (T := TX9) (N := 6) hx hb hts inlX9 hown hK hP 0 rfl rfl 1 (by decide) w_2_65 rfl dX9_moodsBehind_33 ?_
        refine lv_iload_n hx hb dX9_moodsBehind_36 rfl (lv_at hl 4 rfl) ?_
        refine lv_bipush (v := 10) hx hb dX9_moodsBehind_37 (by decide) ?_
        refine lv_imul hx hb dX9_moodsBehind_39 ?_
        refine sk_top (nI (d * 10)) (nmul d 10) ?_
        refine lv_iload_n hx hb dX9_moodsBehind_40 rfl (lv_at hl 5 rfl) ?_
        refine lv_iadd hx hb dX9_moodsBehind_41 ?_
        refine sk_top (nI (d * 10 + ah)) (nI_add (d * 10) ah) ?_
        refine lv_bipush (v := 10) hx hb dX9_moodsBehind_42 (by decide) ?_
        refine lv_imul hx hb dX9_moodsBehind_44 ?_
        refine sk_top (nI ((d * 10 + ah) * 10)) (nmul (d * 10 + ah) 10) ?_
        refine lv_iload hx hb dX9_moodsBehind_45 (lv_at hl 0 rfl) ?_
        refine lv_iadd hx hb dX9_moodsBehind_47 ?_
        refine sk_top (nI ((d * 10 + ah) * 10 + ((sa (d * 10 + i) + li) % 10))) (nI_add ((d * 10 + ah) * 10) ((sa (d * 10 + i) + li) % 10)) ?_
        refine va_iald hx hb hK.1 hP 2 0 rfl rfl (vin ((d * 10 + ah) * 10 + ((sa (d * 10 + i) + li) % 10)) 900 (by omega) (by omega)) dX9_moodsBehind_48 ?_
        refine lv_topi (fun v_5 ev_5 => ?_)
        refine lv_iload hx hb dX9_moodsBehind_49 (lv_at hl 1 rfl) ?_
        refine lv_icmp_ne (tgt := 63) hx hb dX9_moodsBehind_51 (by decide) (fun c_6 => ?_) (fun c_6 => ?_)
        · skip
          refine lv_iinc (v := nI (i + 1)) (lv' := [(5, .int (nI (i + 1))), (6, .int (nI ((sa (d * 10 + i) + li) % 10))), (4, .int mo), (0, .ref (q 10)), (1, .int (nI d)), (2, .int (nI ah)), (3, .int (nI li))]) hx hb dX9_moodsBehind_63 hl (k := 1) rfl (ninc i 1 (by decide)) (by decide) rfl (fun ls hl => ?_)
          refine lv_goto (tgt := 6) hx hb dX9_moodsBehind_66 (by decide) ?_
          exact ih_lp_1 (i + 1) mo _ _ _ (by omega) (by omega) hP hD hS (lv_sub hl [0, 2, 3, 4, 5, 6] rfl)
        · skip
          refine lv_iload hx hb dX9_moodsBehind_54 (lv_at hl 2 rfl) ?_
          refine lv_iconst (v := 1) hx hb dX9_moodsBehind_56 (by decide) ?_
          refine lv_iload hx hb dX9_moodsBehind_57 (lv_at hl 1 rfl) ?_
          refine lv_ishl hx hb dX9_moodsBehind_59 ?_
          refine lv_topi (fun v_7 ev_7 => ?_)
          refine lv_ior hx hb dX9_moodsBehind_60 ?_
          refine lv_topi (fun v_8 ev_8 => ?_)
          refine lv_istore (lv' := [(4, .int v_8), (6, .int (nI ((sa (d * 10 + i) + li) % 10))), (5, .int (nI i)), (0, .ref (q 10)), (1, .int (nI d)), (2, .int (nI ah)), (3, .int (nI li))]) hx hb dX9_moodsBehind_61 hl (by decide) rfl (fun ls hl => ?_)
          refine lv_iinc (v := nI (i + 1)) (lv' := [(5, .int (nI (i + 1))), (4, .int v_8), (6, .int (nI ((sa (d * 10 + i) + li) % 10))), (0, .ref (q 10)), (1, .int (nI d)), (2, .int (nI ah)), (3, .int (nI li))]) hx hb dX9_moodsBehind_63 hl (k := 2) rfl (ninc i 1 (by decide)) (by decide) rfl (fun ls hl => ?_)
          refine lv_goto (tgt := 6) hx hb dX9_moodsBehind_66 (by decide) ?_
          exact ih_lp_1 (i + 1) v_8 _ _ _ (by omega) (by omega) hP hD hS (lv_sub hl [0, 1, 3, 4, 5, 6] rfl)
  exact lp_1 (10 - 0 + 1) 0 0 _ _ _ (Nat.lt_succ_self _) (by omega) hP hD hS (lv_sub hl [0, 1, 2, 3, 4, 5] rfl)
theorem dg_X9_moodsThatSay_0_0 : bqL cX9_moodsThatSay 0 [(0, [3]), (1, [62]), (2, [3]), (3, [54, 4]), (5, [21, 4]), (7, [16, 10]), (9, [162, 0, 32]), (41, [29]), (42, [172]), (12, [42]), (13, [180, 0, 9]), (16, [27]), (17, [16, 10]), (19, [104]), (20, [21, 4]), (22, [96]), (23, [46]), (24, [28]), (25, [160, 0, 10]), (35, [132, 4, 1]), (38, [167, 255, 223]), (28, [29]), (29, [4]), (30, [21, 4]), (32, [120]), (33, [128]), (34, [62])] = true := by decide +kernel
theorem dX9_moodsThatSay_0 : decode cX9_moodsThatSay 0 = .ok (.iconst 0, 1) := q_iconst0 (bat_get dg_X9_moodsThatSay_0_0 0 rfl rfl)
