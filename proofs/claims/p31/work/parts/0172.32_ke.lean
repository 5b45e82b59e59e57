theorem dg_X11_hear_19_19 : bqL cX11_hear 19 [(0, [60]), (1, [42]), (2, [180, 0, 12]), (5, [180, 0, 110]), (8, [5]), (9, [108]), (10, [61]), (11, [42]), (12, [180, 0, 12]), (15, [3]), (16, [181, 0, 110]), (19, [27]), (20, [154, 0, 9]), (29, [3]), (30, [62]), (31, [29]), (32, [28]), (33, [162, 0, 47]), (80, [42]), (81, [28]), (82, [181, 0, 99]), (85, [28]), (86, [172]), (36, [29]), (37, [16, 16]), (39, [162, 0, 41]), (42, [42]), (43, [180, 0, 96]), (46, [29]), (47, [42]), (48, [180, 0, 12]), (51, [5]), (52, [29]), (53, [104]), (54, [182, 1, 12]), (57, [16, 10]), (59, [104]), (60, [42]), (61, [180, 0, 12]), (64, [5])] = true := by decide +kernel
theorem dX11_hear_19 : decode cX11_hear 19 = .ok (.istore_n 1, 1) := q_istore_n1 (bat_get dg_X11_hear_19_19 0 rfl rfl)
theorem dX11_hear_20 : decode cX11_hear 20 = .ok (.aload_n 0, 1) := q_aload_n0 (bat_get dg_X11_hear_19_19 1 rfl rfl)
theorem dX11_hear_21 : decode cX11_hear 21 = .ok (.getfield 12, 3) := q_getfield (bat_get dg_X11_hear_19_19 2 rfl rfl) rfl
theorem dX11_hear_24 : decode cX11_hear 24 = .ok (.getfield 110, 3) := q_getfield (bat_get dg_X11_hear_19_19 3 rfl rfl) rfl
theorem dX11_hear_27 : decode cX11_hear 27 = .ok (.iconst 2, 1) := q_iconst2 (bat_get dg_X11_hear_19_19 4 rfl rfl)
theorem dX11_hear_28 : decode cX11_hear 28 = .ok (.idiv, 1) := q_idiv (bat_get dg_X11_hear_19_19 5 rfl rfl)
theorem dX11_hear_29 : decode cX11_hear 29 = .ok (.istore_n 2, 1) := q_istore_n2 (bat_get dg_X11_hear_19_19 6 rfl rfl)
theorem dX11_hear_30 : decode cX11_hear 30 = .ok (.aload_n 0, 1) := q_aload_n0 (bat_get dg_X11_hear_19_19 7 rfl rfl)
theorem dX11_hear_31 : decode cX11_hear 31 = .ok (.getfield 12, 3) := q_getfield (bat_get dg_X11_hear_19_19 8 rfl rfl) rfl
theorem dX11_hear_34 : decode cX11_hear 34 = .ok (.iconst 0, 1) := q_iconst0 (bat_get dg_X11_hear_19_19 9 rfl rfl)
theorem dX11_hear_35 : decode cX11_hear 35 = .ok (.putfield 110, 3) := q_putfield (bat_get dg_X11_hear_19_19 10 rfl rfl) rfl
theorem dX11_hear_38 : decode cX11_hear 38 = .ok (.iload_n 1, 1) := q_iload_n1 (bat_get dg_X11_hear_19_19 11 rfl rfl)
theorem dX11_hear_39 : decode cX11_hear 39 = .ok (.ifCond .ne 9, 3) := q_ifCond_ne (bat_get dg_X11_hear_19_19 12 rfl rfl) rfl
theorem dX11_hear_48 : decode cX11_hear 48 = .ok (.iconst 0, 1) := q_iconst0 (bat_get dg_X11_hear_19_19 13 rfl rfl)
theorem dX11_hear_49 : decode cX11_hear 49 = .ok (.istore_n 3, 1) := q_istore_n3 (bat_get dg_X11_hear_19_19 14 rfl rfl)
theorem dX11_hear_50 : decode cX11_hear 50 = .ok (.iload_n 3, 1) := q_iload_n3 (bat_get dg_X11_hear_19_19 15 rfl rfl)
theorem dX11_hear_51 : decode cX11_hear 51 = .ok (.iload_n 2, 1) := q_iload_n2 (bat_get dg_X11_hear_19_19 16 rfl rfl)
theorem dX11_hear_52 : decode cX11_hear 52 = .ok (.if_icmp .ge 47, 3) := q_if_icmp_ge (bat_get dg_X11_hear_19_19 17 rfl rfl) rfl
theorem dX11_hear_99 : decode cX11_hear 99 = .ok (.aload_n 0, 1) := q_aload_n0 (bat_get dg_X11_hear_19_19 18 rfl rfl)
theorem dX11_hear_100 : decode cX11_hear 100 = .ok (.iload_n 2, 1) := q_iload_n2 (bat_get dg_X11_hear_19_19 19 rfl rfl)
theorem dX11_hear_101 : decode cX11_hear 101 = .ok (.putfield 99, 3) := q_putfield (bat_get dg_X11_hear_19_19 20 rfl rfl) rfl
theorem dX11_hear_104 : decode cX11_hear 104 = .ok (.iload_n 2, 1) := q_iload_n2 (bat_get dg_X11_hear_19_19 21 rfl rfl)
theorem dX11_hear_105 : decode cX11_hear 105 = .ok (.ireturn, 1) := q_ireturn (bat_get dg_X11_hear_19_19 22 rfl rfl)
theorem dX11_hear_55 : decode cX11_hear 55 = .ok (.iload_n 3, 1) := q_iload_n3 (bat_get dg_X11_hear_19_19 23 rfl rfl)
theorem dX11_hear_56 : decode cX11_hear 56 = .ok (.bipush 16, 2) := q_bipush (bat_get dg_X11_hear_19_19 24 rfl rfl) rfl
theorem dX11_hear_58 : decode cX11_hear 58 = .ok (.if_icmp .ge 41, 3) := q_if_icmp_ge (bat_get dg_X11_hear_19_19 25 rfl rfl) rfl
theorem dX11_hear_61 : decode cX11_hear 61 = .ok (.aload_n 0, 1) := q_aload_n0 (bat_get dg_X11_hear_19_19 26 rfl rfl)
theorem dX11_hear_62 : decode cX11_hear 62 = .ok (.getfield 96, 3) := q_getfield (bat_get dg_X11_hear_19_19 27 rfl rfl) rfl
theorem dX11_hear_65 : decode cX11_hear 65 = .ok (.iload_n 3, 1) := q_iload_n3 (bat_get dg_X11_hear_19_19 28 rfl rfl)
theorem dX11_hear_66 : decode cX11_hear 66 = .ok (.aload_n 0, 1) := q_aload_n0 (bat_get dg_X11_hear_19_19 29 rfl rfl)
theorem dX11_hear_67 : decode cX11_hear 67 = .ok (.getfield 12, 3) := q_getfield (bat_get dg_X11_hear_19_19 30 rfl rfl) rfl
theorem dX11_hear_70 : decode cX11_hear 70 = .ok (.iconst 2, 1) := q_iconst2 (bat_get dg_X11_hear_19_19 31 rfl rfl)
theorem dX11_hear_71 : decode cX11_hear 71 = .ok (.iload_n 3, 1) := q_iload_n3 (bat_get dg_X11_hear_19_19 32 rfl rfl)
theorem dX11_hear_72 : decode cX11_hear 72 = .ok (.imul, 1) := q_imul (bat_get dg_X11_hear_19_19 33 rfl rfl)
theorem dX11_hear_73 : decode cX11_hear 73 = .ok (.invokevirtual 268, 3) := q_invokevirtual (bat_get dg_X11_hear_19_19 34 rfl rfl) rfl
theorem dX11_hear_76 : decode cX11_hear 76 = .ok (.bipush 10, 2) := q_bipush (bat_get dg_X11_hear_19_19 35 rfl rfl) rfl
theorem dX11_hear_78 : decode cX11_hear 78 = .ok (.imul, 1) := q_imul (bat_get dg_X11_hear_19_19 36 rfl rfl)
theorem dX11_hear_79 : decode cX11_hear 79 = .ok (.aload_n 0, 1) := q_aload_n0 (bat_get dg_X11_hear_19_19 37 rfl rfl)
theorem dX11_hear_80 : decode cX11_hear 80 = .ok (.getfield 12, 3) := q_getfield (bat_get dg_X11_hear_19_19 38 rfl rfl) rfl
theorem dX11_hear_83 : decode cX11_hear 83 = .ok (.iconst 2, 1) := q_iconst2 (bat_get dg_X11_hear_19_19 39 rfl rfl)
theorem dg_X11_hear_0_84 : bqL cX11_hear 0 [(84, [29]), (85, [104]), (86, [4]), (87, [96]), (88, [182, 1, 12]), (91, [96]), (92, [79]), (93, [132, 3, 1]), (96, [167, 255, 210]), (42, [42]), (43, [4]), (44, [182, 0, 113]), (47, [172]), (0, [42]), (1, [182, 0, 204]), (4, [153, 0, 14]), (18, [3]), (7, [42]), (8, [182, 1, 9]), (11, [153, 0, 7]), (14, [4]), (15, [167, 0, 4])] = true := by decide +kernel
theorem dX11_hear_84 : decode cX11_hear 84 = .ok (.iload_n 3, 1) := q_iload_n3 (bat_get dg_X11_hear_0_84 0 rfl rfl)
theorem dX11_hear_85 : decode cX11_hear 85 = .ok (.imul, 1) := q_imul (bat_get dg_X11_hear_0_84 1 rfl rfl)
theorem dX11_hear_86 : decode cX11_hear 86 = .ok (.iconst 1, 1) := q_iconst1 (bat_get dg_X11_hear_0_84 2 rfl rfl)
theorem dX11_hear_87 : decode cX11_hear 87 = .ok (.iadd, 1) := q_iadd (bat_get dg_X11_hear_0_84 3 rfl rfl)
theorem dX11_hear_88 : decode cX11_hear 88 = .ok (.invokevirtual 268, 3) := q_invokevirtual (bat_get dg_X11_hear_0_84 4 rfl rfl) rfl
theorem dX11_hear_91 : decode cX11_hear 91 = .ok (.iadd, 1) := q_iadd (bat_get dg_X11_hear_0_84 5 rfl rfl)
theorem dX11_hear_92 : decode cX11_hear 92 = .ok (.iastore, 1) := q_iastore (bat_get dg_X11_hear_0_84 6 rfl rfl)
theorem dX11_hear_93 : decode cX11_hear 93 = .ok (.iinc 3 1, 3) := q_iinc (bat_get dg_X11_hear_0_84 7 rfl rfl) rfl
theorem dX11_hear_96 : decode cX11_hear 96 = .ok (.goto (-46), 3) := q_goto (bat_get dg_X11_hear_0_84 8 rfl rfl) rfl
theorem dX11_hear_42 : decode cX11_hear 42 = .ok (.aload_n 0, 1) := q_aload_n0 (bat_get dg_X11_hear_0_84 9 rfl rfl)
theorem dX11_hear_43 : decode cX11_hear 43 = .ok (.iconst 1, 1) := q_iconst1 (bat_get dg_X11_hear_0_84 10 rfl rfl)
theorem dX11_hear_44 : decode cX11_hear 44 = .ok (.invokevirtual 113, 3) := q_invokevirtual (bat_get dg_X11_hear_0_84 11 rfl rfl) rfl
theorem dX11_hear_47 : decode cX11_hear 47 = .ok (.ireturn, 1) := q_ireturn (bat_get dg_X11_hear_0_84 12 rfl rfl)
theorem dX11_hear_0 : decode cX11_hear 0 = .ok (.aload_n 0, 1) := q_aload_n0 (bat_get dg_X11_hear_0_84 13 rfl rfl)
theorem dX11_hear_1 : decode cX11_hear 1 = .ok (.invokevirtual 204, 3) := q_invokevirtual (bat_get dg_X11_hear_0_84 14 rfl rfl) rfl
theorem dX11_hear_4 : decode cX11_hear 4 = .ok (.ifCond .eq 14, 3) := q_ifCond_eq (bat_get dg_X11_hear_0_84 15 rfl rfl) rfl
theorem dX11_hear_18 : decode cX11_hear 18 = .ok (.iconst 0, 1) := q_iconst0 (bat_get dg_X11_hear_0_84 16 rfl rfl)
theorem dX11_hear_7 : decode cX11_hear 7 = .ok (.aload_n 0, 1) := q_aload_n0 (bat_get dg_X11_hear_0_84 17 rfl rfl)
theorem dX11_hear_8 : decode cX11_hear 8 = .ok (.invokevirtual 265, 3) := q_invokevirtual (bat_get dg_X11_hear_0_84 18 rfl rfl) rfl
theorem dX11_hear_11 : decode cX11_hear 11 = .ok (.ifCond .eq 7, 3) := q_ifCond_eq (bat_get dg_X11_hear_0_84 19 rfl rfl) rfl
theorem dX11_hear_14 : decode cX11_hear 14 = .ok (.iconst 1, 1) := q_iconst1 (bat_get dg_X11_hear_0_84 20 rfl rfl)
theorem dX11_hear_15 : decode cX11_hear 15 = .ok (.goto 4, 3) := q_goto (bat_get dg_X11_hear_0_84 21 rfl rfl) rfl
theorem w_4_210 : (Cond.methodLink RX11 265 yX11_tellsRows) ∈ wsL_law := sk_mem (ck_4 _ (List.mem_of_getElem? (i := 210) rfl)) rfl
theorem w_4_212 : (Cond.instanceMethod yX11_tellsRows) ∈ wsL_law := sk_mem (ck_4 _ (List.mem_of_getElem? (i := 212) rfl)) rfl
theorem w_0_29 : (Cond.selects RX11 yX11_tellsRows yX11_tellsRows) ∈ wsL_law := sk_mem (ck_0 _ (List.mem_of_getElem? (i := 29) rfl)) rfl
theorem w_4_209 : (Cond.code yX11_hear cX11_hear 4 (some .int)) ∈ wsL_law := sk_mem (ck_4 _ (List.mem_of_getElem? (i := 209) rfl)) rfl
def om_6_21 : List Bool := true :: false :: false :: false :: false :: true :: []
def om_6_24 : List Bool := true :: false :: false :: true :: false :: false :: []
theorem hd_X11_tellsRows_0 : skD yX11_tellsRows 0 := by decide +kernel
set_option maxHeartbeats 4000000 in
set_option maxRecDepth 100000 in
theorem c_ky_hear (l : Launch) (D : va_G) (cI cJ cC cZ cS : ClassId) (x0 : Nat) (q : Nat → Nat) (dr : Int64) (hn : Nat) (tl : Nat) (tb : Nat → Nat) (dy : Nat) (wn : Nat) (mo : Nat) (ke : Nat) (mu : Int32) (fb : Nat → Int32) (fw : Nat → Int32) (U : Nat → Bool) (hr_ : Nat → Int32) (hR : Nat → Nat) (rf : Nat → Int32) (htl : tl ≤ 1600) (htb : ∀ j, tb j ≤ 255) (hdy : dy ≤ 9) (hmo : mo ≤ 9) (hU : muO U mu) (hhr : ∀ j, j < hn → hr_ j = nI (hR j)) : skM l yX11_hear cX11_hear 4 (some .int) 3 64 0 0 D (skT cI cJ cC cZ cS) [.ref x0] [(x0, .inr (11, [.ref (q 0), .ref (q 1), .ref (q 2), .ref (q 3), .ref (q 4), .ref (q 5), .ref (q 6), .ref (q 7), .ref (q 8), .ref (q 9), .ref (q 10), .ref (q 11), .ref (q 12), .ref (q 13), .ref (q 14), .int (nI hn), .ref (q 16), .long dr])), (q 0, .inr (10, [.ref (q 20), .int (nI tl)])), (q 20, .inl (cI, 1600, .inl (fun j => nI (tb j)))), (q 7, .inr (7, [.ref (q 33), .ref (q 34), .int (nI dy), .int (nI wn), .int (nI mo), .int mu, .int (nI ke)])), (q 14, .inl (cI, 16, .inl hr_)), (q 16, .inl (cI, 6, .inl rf))] (skI D (skT cI cJ cC cZ cS) (fun (r : Int32) (u : va_W) => ∃ (hn2 : Nat), ∃ (hr2 : Nat → Int32), ∃ (hR2 : Nat → Nat), ∃ (rf2 : Nat → Int32), (∀ j, j < hn2 → hr2 j = nI (hR2 j)) ∧ hearR dy U tb tl hn hR rf r hn2 hR2 rf2 ∧ u = [(x0, .inr (11, [.ref (q 0), .ref (q 1), .ref (q 2), .ref (q 3), .ref (q 4), .ref (q 5), .ref (q 6), .ref (q 7), .ref (q 8), .ref (q 9), .ref (q 10), .ref (q 11), .ref (q 12), .ref (q 13), .ref (q 14), .int (nI hn2), .ref (q 16), .long dr])), (q 0, .inr (10, [.ref (q 20), .int 0])), (q 20, .inl (cI, 1600, .inl (fun j => nI (tb j)))), (q 7, .inr (7, [.ref (q 33), .ref (q 34), .int (nI dy), .int (nI wn), .int (nI mo), .int mu, .int (nI ke)])), (q 14, .inl (cI, 16, .inl hr2)), (q 16, .inl (cI, 6, .inl rf2))])) := by
  refine skM_of pf_X11_hear (Nat.le_of_ble_eq_true rfl) ?_
  intro p e s m below meth c A ls E hP hD hl
  refine skE_el E (fun hx hb hr hml hlocks hin hown hts hK hA => ?_)
  have hown : s.vm.findClass RX11 = some m.cls := hown
  have hS : va_S A s.heap s.heap [] := va_S.rf
  have hl : lv_has ls 4 [(0, .ref x0)] := hl
  have jn_1 : ∀ (bq : Nat) (H : Heap) (locs : List Loc) (ls : Array Slot), (bq ≤ 1) → ((bq = 0 ∧ ¬ hearC dy U tb tl) ∨ (bq = 1 ∧ hearC dy U tb tl)) → va_P D vwCl [(x0, .inr (11, [.ref (q 0), .ref (q 1), .ref (q 2), .ref (q 3), .ref (q 4), .ref (q 5), .ref (q 6), .ref (q 7), .ref (q 8), .ref (q 9), .ref (q 10), .ref (q 11), .ref (q 12), .ref (q 13), .ref (q 14), .int (nI hn), .ref (q 16), .long dr])), (q 0, .inr (10, [.ref (q 20), .int (nI tl)])), (q 20, .inl (cI, 1600, .inl (fun j => nI (tb j)))), (q 7, .inr (7, [.ref (q 33), .ref (q 34), .int (nI dy), .int (nI wn), .int (nI mo), .int mu, .int (nI ke)])), (q 14, .inl (cI, 16, .inl hr_)), (q 16, .inl (cI, 6, .inl rf))] H → va_D A [(x0, .inr (11, [.ref (q 0), .ref (q 1), .ref (q 2), .ref (q 3), .ref (q 4), .ref (q 5), .ref (q 6), .ref (q 7), .ref (q 8), .ref (q 9), .ref (q 10), .ref (q 11), .ref (q 12), .ref (q 13), .ref (q 14), .int (nI hn), .ref (q 16), .long dr])), (q 0, .inr (10, [.ref (q 20), .int (nI tl)])), (q 20, .inl (cI, 1600, .inl (fun j => nI (tb j)))), (q 7, .inr (7, [.ref (q 33), .ref (q 34), .int (nI dy), .int (nI wn), .int (nI mo), .int mu, .int (nI ke)])), (q 14, .inl (cI, 16, .inl hr_)), (q 16, .inl (cI, 6, .inl rf))] → va_S A s.heap H locs → lv_has ls 4 [(0, .ref x0)] → W p l e { frames := 3, cells := 0, slots := 0, locals := 64 } s m ([.ref x0] : List Value).toArray below meth c H locs 0 0 (MQ below (skI D (skT cI cJ cC cZ cS) (fun (r : Int32) (u : va_W) => ∃ (hn2 : Nat), ∃ (hr2 : Nat → Int32), ∃ (hR2 : Nat → Nat), ∃ (rf2 : Nat → Int32), (∀ j, j < hn2 → hr2 j = nI (hR2 j)) ∧ hearR dy U tb tl hn hR rf r hn2 hR2 rf2 ∧ u = [(x0, .inr (11, [.ref (q 0), .ref (q 1), .ref (q 2), .ref (q 3), .ref (q 4), .ref (q 5), .ref (q 6), .ref (q 7), .ref (q 8), .ref (q 9), .ref (q 10), .ref (q 11), .ref (q 12), .ref (q 13), .ref (q 14), .int (nI hn2), .ref (q 16), .long dr])), (q 0, .inr (10, [.ref (q 20), .int 0])), (q 20, .inl (cI, 1600, .inl (fun j => nI (tb j)))), (q 7, .inr (7, [.ref (q 33), .ref (q 34), .int (nI dy), .int (nI wn), .int (nI mo), .int mu, .int (nI ke)])), (q 14, .inl (cI, 16, .inl hr2)), (q 16, .inl (cI, 6, .inl rf2))]) A) ([.ref x0] : List Value).toArray s 0 0 A) (F0 m 19 ls [.int (nI bq)]) := by
    intro bq H locs ls hbq1 hbq3 hP hD hS hl
    refine lv_istore_n (lv' := [(1, .int (nI bq)), (0, .ref x0)]) hx hb dX11_hear_19 rfl hl (by decide) rfl (fun ls hl => ?_)
    refine lv_aload_n hx hb dX11_hear_20 rfl (lv_at hl 1 rfl) ?_
    refine sk_get (v := .ref (q 0)) (C := RX11) (T := TX11) (N := 18) hx hb hts inlX11 hown hK hP 0 rfl rfl 0 (by decide) w_2_123 rfl dX11_hear_21 ?_
    refine sk_get (v := .int (nI tl)) (C := RX10) (T := TX10) (N := 2) hx hb hts inlX10 hown hK hP 1 rfl rfl 1 (by decide) w_1_42 rfl dX11_hear_24 ?_
    refine lv_iconst (v := 2) hx hb dX11_hear_27 (by decide) ?_
    refine lv_idiv hx hb dX11_hear_28 (by decide) ?_
    refine sk_top (nI (tl / 2)) (ndiv tl 2 (by omega) (by omega) (by omega)) ?_
    refine lv_istore_n (lv' := [(2, .int (nI (tl / 2))), (1, .int (nI bq)), (0, .ref x0)]) hx hb dX11_hear_29 rfl hl (by decide) rfl (fun ls hl => ?_)
    refine lv_aload_n hx hb dX11_hear_30 rfl (lv_at hl 2 rfl) ?_
    refine sk_get (v := .ref (q 0)) (C := RX11) (T := TX11) (N := 18) hx hb hts inlX11 hown hK hP 0 rfl rfl 0 (by decide) w_2_123 rfl dX11_hear_31 ?_
    refine lv_iconst (v := 0) hx hb dX11_hear_34 (by decide) ?_
    refine sk_put (ws' := [(x0, .inr (11, [.ref (q 0), .ref (q 1), .ref (q 2), .ref (q 3), .ref (q 4), .ref (q 5), .ref (q 6), .ref (q 7), .ref (q 8), .ref (q 9), .ref (q 10), .ref (q 11), .ref (q 12), .ref (q 13), .ref (q 14), .int (nI hn), .ref (q 16), .long dr])), (q 0, .inr (10, [.ref (q 20), .int 0])), (q 20, .inl (cI, 1600, .inl (fun j => nI (tb j)))), (q 7, .inr (7, [.ref (q 33), .ref (q 34), .int (nI dy), .int (nI wn), .int (nI mo), .int mu, .int (nI ke)])), (q 14, .inl (cI, 16, .inl hr_)), (q 16, .inl (cI, 6, .inl rf))]) (C := RX10) (T := TX10) (N := 2) (v := .int 0) hx hb hts inlX10 tyX10 tyX10_ok nmX10 hown hK hP hD hS 1 rfl rfl 1 (by decide) w_1_42 rfl rfl rfl (Nat.le_of_ble_eq_true rfl) rfl dX11_hear_35 (fun H locs hP hD hS => ?_)
    refine lv_iload_n hx hb dX11_hear_38 rfl (lv_at hl 1 rfl) ?_
    refine lv_if_ne (tgt := 48) hx hb dX11_hear_39 (by decide) (fun c_2 => ?_) (fun c_2 => ?_)
    · have c_2 : ¬ (bq = 0) := fun h => c_2 ((neq bq 0 (by omega) (by omega)).mpr h)
      have hcc := rr_1 hbq3 (by omega)
      have hl32 := hcc.2.2.1
      refine lv_iconst (v := 0) hx hb dX11_hear_48 (by decide) ?_
      refine lv_istore_n (lv' := [(3, .int 0), (2, .int (nI (tl / 2))), (1, .int (nI bq)), (0, .ref x0)]) hx hb dX11_hear_49 rfl hl (by decide) rfl (fun ls hl => ?_)
      have lp_3 : ∀ (n_4 : Nat) (i : Nat) (ch : Nat → Int32) (H : Heap) (locs : List Loc) (ls : Array Slot), 16 - i < n_4 → (i ≤ 16) → (∀ j, j < i → ch j = nI (hrR tb j)) → va_P D vwCl [(x0, .inr (11, [.ref (q 0), .ref (q 1), .ref (q 2), .ref (q 3), .ref (q 4), .ref (q 5), .ref (q 6), .ref (q 7), .ref (q 8), .ref (q 9), .ref (q 10), .ref (q 11), .ref (q 12), .ref (q 13), .ref (q 14), .int (nI hn), .ref (q 16), .long dr])), (q 0, .inr (10, [.ref (q 20), .int 0])), (q 20, .inl (cI, 1600, .inl (fun j => nI (tb j)))), (q 7, .inr (7, [.ref (q 33), .ref (q 34), .int (nI dy), .int (nI wn), .int (nI mo), .int mu, .int (nI ke)])), (q 14, .inl (cI, 16, .inl ch)), (q 16, .inl (cI, 6, .inl rf))] H → va_D A [(x0, .inr (11, [.ref (q 0), .ref (q 1), .ref (q 2), .ref (q 3), .ref (q 4), .ref (q 5), .ref (q 6), .ref (q 7), .ref (q 8), .ref (q 9), .ref (q 10), .ref (q 11), .ref (q 12), .ref (q 13), .ref (q 14), .int (nI hn), .ref (q 16), .long dr])), (q 0, .inr (10, [.ref (q 20), .int 0])), (q 20, .inl (cI, 1600, .inl (fun j => nI (tb j)))), (q 7, .inr (7, [.ref (q 33), .ref (q 34), .int (nI dy), .int (nI wn), .int (nI mo), .int mu, .int (nI ke)])), (q 14, .inl (cI, 16, .inl ch)), (q 16, .inl (cI, 6, .inl rf))] → va_S A s.heap H locs → lv_has ls 4 [(3, .int (nI i)), (2, .int (nI (tl / 2))), (1, .int (nI bq)), (0, .ref x0)] → W p l e { frames := 3, cells := 0, slots := 0, locals := 64 } s m ([.ref x0] : List Value).toArray below meth c H locs 0 0 (MQ below (skI D (skT cI cJ cC cZ cS) (fun (r : Int32) (u : va_W) => ∃ (hn2 : Nat), ∃ (hr2 : Nat → Int32), ∃ (hR2 : Nat → Nat), ∃ (rf2 : Nat → Int32), (∀ j, j < hn2 → hr2 j = nI (hR2 j)) ∧ hearR dy U tb tl hn hR rf r hn2 hR2 rf2 ∧ u = [(x0, .inr (11, [.ref (q 0), .ref (q 1), .ref (q 2), .ref (q 3), .ref (q 4), .ref (q 5), .ref (q 6), .ref (q 7), .ref (q 8), .ref (q 9), .ref (q 10), .ref (q 11), .ref (q 12), .ref (q 13), .ref (q 14), .int (nI hn2), .ref (q 16), .long dr])), (q 0, .inr (10, [.ref (q 20), .int 0])), (q 20, .inl (cI, 1600, .inl (fun j => nI (tb j)))), (q 7, .inr (7, [.ref (q 33), .ref (q 34), .int (nI dy), .int (nI wn), .int (nI mo), .int mu, .int (nI ke)])), (q 14, .inl (cI, 16, .inl hr2)), (q 16, .inl (cI, 6, .inl rf2))]) A) ([.ref x0] : List Value).toArray s 0 0 A) (F0 m 50 ls []) := by
        intro n_4
        induction n_4 with
        | zero => intro i ch H locs ls hm; exact absurd hm (Nat.not_lt_zero _)
        | succ n_4 ih_lp_3 =>
          intro i ch H locs ls hm hi hch hP hD hS hl
          refine lv_iload_n hx hb dX11_hear_50 rfl (lv_at hl 0 rfl) ?_
          refine lv_iload_n hx hb dX11_hear_51 rfl (lv_at hl 1 rfl) ?_
          refine lv_icmp_ge (tgt := 99) hx hb dX11_hear_52 (by decide) (fun c_5 => ?_) (fun c_5 => ?_)
          · have c_5 : tl / 2 ≤ i := (nle (tl / 2) i (by omega) (by omega)).mp c_5
            refine lv_aload_n hx hb dX11_hear_99 rfl (lv_at hl 3 rfl) ?_
            refine lv_iload_n hx hb dX11_hear_100 rfl (lv_at hl 1 rfl) ?_
            refine sk_put (ws' := [(x0, .inr (11, [.ref (q 0), .ref (q 1), .ref (q 2), .ref (q 3), .ref (q 4), .ref (q 5), .ref (q 6), .ref (q 7), .ref (q 8), .ref (q 9), .ref (q 10), .ref (q 11), .ref (q 12), .ref (q 13), .ref (q 14), .int (nI (tl / 2)), .ref (q 16), .long dr])), (q 0, .inr (10, [.ref (q 20), .int 0])), (q 20, .inl (cI, 1600, .inl (fun j => nI (tb j)))), (q 7, .inr (7, [.ref (q 33), .ref (q 34), .int (nI dy), .int (nI wn), .int (nI mo), .int mu, .int (nI ke)])), (q 14, .inl (cI, 16, .inl ch)), (q 16, .inl (cI, 6, .inl rf))]) (C := RX11) (T := TX11) (N := 18) (v := .int (nI (tl / 2))) hx hb hts inlX11 tyX11 tyX11_ok nmX11 hown hK hP hD hS 0 rfl rfl 15 (by decide) w_2_138 rfl rfl rfl (Nat.le_of_ble_eq_true rfl) rfl dX11_hear_101 (fun H locs hP hD hS => ?_)
            refine lv_iload_n hx hb dX11_hear_104 rfl (lv_at hl 1 rfl) ?_
            exact sk_iret hx hb hr rfl hlocks hK hP hD hS (⟨(tl / 2), ch, (hrR tb), rf, (fun j hj => hch j (by omega)), kB_1 hcc ⟨rfl, rfl, rfl, rfl⟩, rfl⟩) (Nat.le_of_ble_eq_true rfl) (Nat.le_of_ble_eq_true rfl) dX11_hear_105
          · have c_5 : ¬ (tl / 2 ≤ i) := fun h => c_5 ((nle (tl / 2) i (by omega) (by omega)).mpr h)
            refine lv_iload_n hx hb dX11_hear_55 rfl (lv_at hl 0 rfl) ?_
            refine lv_bipush (v := 16) hx hb dX11_hear_56 (by decide) ?_
            refine lv_icmp_ge (tgt := 99) hx hb dX11_hear_58 (by decide) (fun c_6 => ?_) (fun c_6 => ?_)
            · have c_6 : 16 ≤ i := (nle 16 i (by omega) (by omega)).mp c_6
              refine lv_aload_n hx hb dX11_hear_99 rfl (lv_at hl 3 rfl) ?_
              refine lv_iload_n hx hb dX11_hear_100 rfl (lv_at hl 1 rfl) ?_
              refine sk_put (ws' := [(x0, .inr (11, [.ref (q 0), .ref (q 1), .ref (q 2), .ref (q 3), .ref (q 4), .ref (q 5), .ref (q 6), .ref (q 7), .ref (q 8), .ref (q 9), .ref (q 10), .ref (q 11), .ref (q 12), .ref (q 13), .ref (q 14), .int (nI (tl / 2)), .ref (q 16), .long dr])), (q 0, .inr (10, [.ref (q 20), .int 0])), (q 20, .inl (cI, 1600, .inl (fun j => nI (tb j)))), (q 7, .inr (7, [.ref (q 33), .ref (q 34), .int (nI dy), .int (nI wn), .int (nI mo), .int mu, .int (nI ke)])), (q 14, .inl (cI, 16, .inl ch)), (q 16, .inl (cI, 6, .inl rf))]) (C := RX11) (T := TX11) (N := 18) (v := .int (nI (tl / 2))) hx hb hts inlX11 tyX11 tyX11_ok nmX11 hown hK hP hD hS 0 rfl rfl 15 (by decide) w_2_138 rfl rfl rfl (Nat.le_of_ble_eq_true rfl) rfl dX11_hear_101 (fun H locs hP hD hS => ?_)
              refine lv_iload_n hx hb dX11_hear_104 rfl (lv_at hl 1 rfl) ?_
              exact sk_iret hx hb hr rfl hlocks hK hP hD hS (⟨(tl / 2), ch, (hrR tb), rf, (fun j hj => hch j (by omega)), kB_1 hcc ⟨rfl, rfl, rfl, rfl⟩, rfl⟩) (Nat.le_of_ble_eq_true rfl) (Nat.le_of_ble_eq_true rfl) dX11_hear_105
            · have c_6 : ¬ (16 ≤ i) := fun h => c_6 ((nle 16 i (by omega) (by omega)).mpr h)
              refine lv_aload_n hx hb dX11_hear_61 rfl (lv_at hl 3 rfl) ?_
              refine sk_get (v := .ref (q 14)) (C := RX11) (T := TX11) (N := 18) hx hb hts inlX11 hown hK hP 0 rfl rfl 14 (by decide) w_2_137 rfl dX11_hear_62 ?_
              refine lv_iload_n hx hb dX11_hear_65 rfl (lv_at hl 0 rfl) ?_
              refine lv_aload_n hx hb dX11_hear_66 rfl (lv_at hl 3 rfl) ?_
              refine sk_get (v := .ref (q 0)) (C := RX11) (T := TX11) (N := 18) hx hb hts inlX11 hown hK hP 0 rfl rfl 0 (by decide) w_2_123 rfl dX11_hear_67 ?_
              refine lv_iconst (v := 2) hx hb dX11_hear_70 (by decide) ?_
              refine lv_iload_n hx hb dX11_hear_71 rfl (lv_at hl 0 rfl) ?_
              refine lv_imul hx hb dX11_hear_72 ?_
              refine sk_top (nI (2 * i)) (nmul 2 i) ?_
              refine sk_Vi (q0 := 0) (n := 1) (rest := [.int (nI i), .ref (q 14)]) (wr := fmR om_6_18 _) ⟨hx, hb, hml, hown, hts⟩ hl.1 (c_Tape_leftN l D cI cJ cC cZ cS (q 0) (q 20) 0 tb (2 * i) (by omega) htb (by omega)) w_4_214 w_4_215 w_4_216 w_1_2 w_4_217 hd_X10_left_1 ⟨⟨(Nat.le_of_ble_eq_true rfl), (Nat.le_of_ble_eq_true rfl)⟩, (Nat.le_of_ble_eq_true rfl), (Nat.le_of_ble_eq_true rfl)⟩ hK hP hD hS hA (fmT om_6_18 0) (fmF om_6_18 0) (fm_C1 rfl rfl) (fm_R rfl rfl) (fm_nT om_6_18 0) (fm_nF om_6_18 0) (fm_di om_6_18 0) rfl rfl rfl rfl (Nat.le_of_ble_eq_true rfl) dX11_hear_73 (fun r_7 u H locs hw hP hD hS => ?_)
              refine anE hw (fun hv_8 hw1 => anE hw1 (fun er_10 eu_9 => ?_))
              clear hw hw1
              subst er_10
              refine o_mgE (ws' := [(x0, .inr (11, [.ref (q 0), .ref (q 1), .ref (q 2), .ref (q 3), .ref (q 4), .ref (q 5), .ref (q 6), .ref (q 7), .ref (q 8), .ref (q 9), .ref (q 10), .ref (q 11), .ref (q 12), .ref (q 13), .ref (q 14), .int (nI hn), .ref (q 16), .long dr])), (q 0, .inr (10, [.ref (q 20), .int 0])), (q 20, .inl (cI, 1600, .inl (fun j => nI (tb j)))), (q 7, .inr (7, [.ref (q 33), .ref (q 34), .int (nI dy), .int (nI wn), .int (nI mo), .int mu, .int (nI ke)])), (q 14, .inl (cI, 16, .inl ch)), (q 16, .inl (cI, 6, .inl rf))]) eu_9 hP hD rfl (fun hP hD => ?_)
              refine lv_bipush (v := 10) hx hb dX11_hear_76 (by decide) ?_
              refine lv_imul hx hb dX11_hear_78 ?_
              refine sk_top (nI ((tb (2 * i)) * 10)) (nmul (tb (2 * i)) 10) ?_
              refine lv_aload_n hx hb dX11_hear_79 rfl (lv_at hl 3 rfl) ?_
              refine sk_get (v := .ref (q 0)) (C := RX11) (T := TX11) (N := 18) hx hb hts inlX11 hown hK hP 0 rfl rfl 0 (by decide) w_2_123 rfl dX11_hear_80 ?_
              refine lv_iconst (v := 2) hx hb dX11_hear_83 (by decide) ?_
              refine lv_iload_n hx hb dX11_hear_84 rfl (lv_at hl 0 rfl) ?_
              refine lv_imul hx hb dX11_hear_85 ?_
              refine sk_top (nI (2 * i)) (nmul 2 i) ?_
              refine lv_iconst (v := 1) hx hb dX11_hear_86 (by decide) ?_
              refine lv_iadd hx hb dX11_hear_87 ?_
              refine sk_top (nI (2 * i + 1)) (nI_add (2 * i) 1) ?_
              refine sk_Vi (q0 := 0) (n := 1) (rest := [.int (nI ((tb (2 * i)) * 10)), .int (nI i), .ref (q 14)]) (wr := fmR om_6_18 _) ⟨hx, hb, hml, hown, hts⟩ hl.1 (c_Tape_leftN l D cI cJ cC cZ cS (q 0) (q 20) 0 tb (2 * i + 1) (by omega) htb (by omega)) w_4_214 w_4_215 w_4_216 w_1_2 w_4_217 hd_X10_left_1 ⟨⟨(Nat.le_of_ble_eq_true rfl), (Nat.le_of_ble_eq_true rfl)⟩, (Nat.le_of_ble_eq_true rfl), (Nat.le_of_ble_eq_true rfl)⟩ hK hP hD hS hA (fmT om_6_18 0) (fmF om_6_18 0) (fm_C1 rfl rfl) (fm_R rfl rfl) (fm_nT om_6_18 0) (fm_nF om_6_18 0) (fm_di om_6_18 0) rfl rfl rfl rfl (Nat.le_of_ble_eq_true rfl) dX11_hear_88 (fun r_11 u H locs hw hP hD hS => ?_)
              refine anE hw (fun hv_12 hw1 => anE hw1 (fun er_14 eu_13 => ?_))
              clear hw hw1
              subst er_14
              refine o_mgE (ws' := [(x0, .inr (11, [.ref (q 0), .ref (q 1), .ref (q 2), .ref (q 3), .ref (q 4), .ref (q 5), .ref (q 6), .ref (q 7), .ref (q 8), .ref (q 9), .ref (q 10), .ref (q 11), .ref (q 12), .ref (q 13), .ref (q 14), .int (nI hn), .ref (q 16), .long dr])), (q 0, .inr (10, [.ref (q 20), .int 0])), (q 20, .inl (cI, 1600, .inl (fun j => nI (tb j)))), (q 7, .inr (7, [.ref (q 33), .ref (q 34), .int (nI dy), .int (nI wn), .int (nI mo), .int mu, .int (nI ke)])), (q 14, .inl (cI, 16, .inl ch)), (q 16, .inl (cI, 6, .inl rf))]) eu_13 hP hD rfl (fun hP hD => ?_)
              refine lv_iadd hx hb dX11_hear_91 ?_
              refine sk_top (nI ((tb (2 * i)) * 10 + (tb (2 * i + 1)))) (nI_add ((tb (2 * i)) * 10) (tb (2 * i + 1))) ?_
              refine sk_iastE (k := i) (ws' := fun f_15 => [(x0, .inr (11, [.ref (q 0), .ref (q 1), .ref (q 2), .ref (q 3), .ref (q 4), .ref (q 5), .ref (q 6), .ref (q 7), .ref (q 8), .ref (q 9), .ref (q 10), .ref (q 11), .ref (q 12), .ref (q 13), .ref (q 14), .int (nI hn), .ref (q 16), .long dr])), (q 0, .inr (10, [.ref (q 20), .int 0])), (q 20, .inl (cI, 1600, .inl (fun j => nI (tb j)))), (q 7, .inr (7, [.ref (q 33), .ref (q 34), .int (nI dy), .int (nI wn), .int (nI mo), .int mu, .int (nI ke)])), (q 14, .inl (cI, 16, .inl f_15)), (q 16, .inl (cI, 6, .inl rf))]) hx hb hK hP hD hS 4 0 rfl rfl (by omega) (by omega) (fun _ => rfl) dX11_hear_92 (fun f_15 H locs ef_16 hP hD hS => ?_)
              refine lv_iinc (v := nI (i + 1)) (lv' := [(3, .int (nI (i + 1))), (2, .int (nI (tl / 2))), (1, .int (nI bq)), (0, .ref x0)]) hx hb dX11_hear_93 hl (k := 0) rfl (ninc i 1 (by decide)) (by decide) rfl (fun ls hl => ?_)
              refine lv_goto (tgt := 50) hx hb dX11_hear_96 (by decide) ?_
              exact ih_lp_3 (i + 1) f_15 _ _ _ (by omega) (by omega) (hr_s hch ef_16) hP hD hS (lv_sub hl [0, 1, 2, 3] rfl)
      exact lp_3 (16 - 0 + 1) 0 hr_ _ _ _ (Nat.lt_succ_self _) (by omega) (fun j hj => absurd hj (Nat.not_lt_zero j)) hP hD hS (lv_sub hl [0, 1, 2, 3] rfl)
    · have c_2 : bq = 0 := (neq bq 0 (by omega) (by omega)).mp c_2
      refine lv_aload_n hx hb dX11_hear_42 rfl (lv_at hl 2 rfl) ?_
      refine lv_iconst (v := 1) hx hb dX11_hear_43 (by decide) ?_
      refine sk_Vi (q0 := 0) (n := 1) (rest := []) (wr := fmR om_6_21 _) ⟨hx, hb, hml, hown, hts⟩ hl.1 (c_kx_refuse l D cI cJ cC cZ cS x0 q (nI hn) dr 1 rf (by omega)) w_2_182 w_2_184 w_0_0 w_1_1 w_2_185 hd_X11_refuse_1 ⟨⟨(Nat.le_of_ble_eq_true rfl), (Nat.le_of_ble_eq_true rfl)⟩, (Nat.le_of_ble_eq_true rfl), (Nat.le_of_ble_eq_true rfl)⟩ hK hP hD hS hA (fmT om_6_21 0) (fmF om_6_21 0) (fm_C1 rfl rfl) (fm_R rfl rfl) (fm_nT om_6_21 0) (fm_nF om_6_21 0) (fm_di om_6_21 0) rfl rfl rfl rfl (Nat.le_of_ble_eq_true rfl) dX11_hear_44 (fun r_18 u H locs hw hP hD hS => ?_)
      refine exE hw (fun rf2_17 hw1 => anE hw1 (fun hrf_19 hw2 => anE hw2 (fun er_21 eu_20 => ?_)))
      clear hw hw1 hw2
      subst er_21
      refine o_mgE (ws' := [(x0, .inr (11, [.ref (q 0), .ref (q 1), .ref (q 2), .ref (q 3), .ref (q 4), .ref (q 5), .ref (q 6), .ref (q 7), .ref (q 8), .ref (q 9), .ref (q 10), .ref (q 11), .ref (q 12), .ref (q 13), .ref (q 14), .int (nI hn), .ref (q 16), .long dr])), (q 0, .inr (10, [.ref (q 20), .int 0])), (q 20, .inl (cI, 1600, .inl (fun j => nI (tb j)))), (q 7, .inr (7, [.ref (q 33), .ref (q 34), .int (nI dy), .int (nI wn), .int (nI mo), .int mu, .int (nI ke)])), (q 14, .inl (cI, 16, .inl hr_)), (q 16, .inl (cI, 6, .inl rf2_17))]) eu_20 hP hD rfl (fun hP hD => ?_)
      exact sk_iret hx hb hr rfl hlocks hK hP hD hS (⟨hn, hr_, hR, rf2_17, hhr, kB_0 (rr_0 hbq3 (by omega)) ⟨rfl, rfl, rfl, hrf_19⟩, rfl⟩) (Nat.le_of_ble_eq_true rfl) (Nat.le_of_ble_eq_true rfl) dX11_hear_47
  refine lv_aload_n hx hb dX11_hear_0 rfl (lv_at hl 0 rfl) ?_
  refine sk_Vi (q0 := 0) (n := 0) (rest := []) (wr := fmR om_6_24 _) ⟨hx, hb, hml, hown, hts⟩ hl.1 (c_kx_isLocked l D cI cJ cC cZ cS x0 q (nI hn) dr dy wn mo ke mu fb fw (by omega)) w_4_39 w_4_41 w_0_18 w_1_1 w_4_42 hd_X11_isLocked_0 ⟨⟨(Nat.le_of_ble_eq_true rfl), (Nat.le_of_ble_eq_true rfl)⟩, (Nat.le_of_ble_eq_true rfl), (Nat.le_of_ble_eq_true rfl)⟩ hK hP hD hS hA (fmT om_6_24 0) (fmF om_6_24 0) (fm_C1 rfl rfl) (fm_R rfl rfl) (fm_nT om_6_24 0) (fm_nF om_6_24 0) (fm_di om_6_24 0) rfl rfl rfl rfl (Nat.le_of_ble_eq_true rfl) dX11_hear_1 (fun r_23 u H locs hw hP hD hS => ?_)
  refine exE hw (fun b_22 hw1 => anE hw1 (fun hb1_24 hw2 => anE hw2 (fun er_26 eu_25 => ?_)))
  clear hw hw1 hw2
  subst er_26
  refine o_mgE (ws' := [(x0, .inr (11, [.ref (q 0), .ref (q 1), .ref (q 2), .ref (q 3), .ref (q 4), .ref (q 5), .ref (q 6), .ref (q 7), .ref (q 8), .ref (q 9), .ref (q 10), .ref (q 11), .ref (q 12), .ref (q 13), .ref (q 14), .int (nI hn), .ref (q 16), .long dr])), (q 0, .inr (10, [.ref (q 20), .int (nI tl)])), (q 20, .inl (cI, 1600, .inl (fun j => nI (tb j)))), (q 7, .inr (7, [.ref (q 33), .ref (q 34), .int (nI dy), .int (nI wn), .int (nI mo), .int mu, .int (nI ke)])), (q 14, .inl (cI, 16, .inl hr_)), (q 16, .inl (cI, 6, .inl rf))]) eu_25 hP hD rfl (fun hP hD => ?_)
  refine lv_if_eq (tgt := 18) hx hb dX11_hear_4 (by decide) (fun c_27 => ?_) (fun c_27 => ?_)
  · have c_27 : b_22 = 0 := (neq b_22 0 (by omega) (by omega)).mp c_27
    refine lv_iconst (v := 0) hx hb dX11_hear_18 (by decide) ?_
    exact jn_1 0 _ _ _ (by omega) (Or.inl ⟨rfl, fun hq => absurd hq.1 (by omega)⟩) hP hD hS (lv_sub hl [0] rfl)
  · have c_27 : ¬ (b_22 = 0) := fun h => c_27 ((neq b_22 0 (by omega) (by omega)).mpr h)
    refine lv_aload_n hx hb dX11_hear_7 rfl (lv_at hl 0 rfl) ?_
    refine sk_Vi (q0 := 0) (n := 0) (rest := []) (wr := fmR om_6_3c _) ⟨hx, hb, hml, hown, hts⟩ hl.1 (c_kx_tellsRows l D cI cJ cC cZ cS x0 q (nI hn) dr tl tb dy wn mo ke mu fb fw U (by omega) htb (by omega) (by omega) hU) w_4_210 w_4_212 w_0_29 w_1_1 w_4_213 hd_X11_tellsRows_0 ⟨⟨(Nat.le_of_ble_eq_true rfl), (Nat.le_of_ble_eq_true rfl)⟩, (Nat.le_of_ble_eq_true rfl), (Nat.le_of_ble_eq_true rfl)⟩ hK hP hD hS hA (fmT om_6_3c 0) (fmF om_6_3c 0) (fm_C1 rfl rfl) (fm_R rfl rfl) (fm_nT om_6_3c 0) (fm_nF om_6_3c 0) (fm_di om_6_3c 0) rfl rfl rfl rfl (Nat.le_of_ble_eq_true rfl) dX11_hear_8 (fun r_29 u H locs hw hP hD hS => ?_)
    refine exE hw (fun b_28 hw1 => anE hw1 (fun htr_30 hw2 => anE hw2 (fun er_32 eu_31 => ?_)))
    clear hw hw1 hw2
    subst er_32
    refine o_mgE (ws' := [(x0, .inr (11, [.ref (q 0), .ref (q 1), .ref (q 2), .ref (q 3), .ref (q 4), .ref (q 5), .ref (q 6), .ref (q 7), .ref (q 8), .ref (q 9), .ref (q 10), .ref (q 11), .ref (q 12), .ref (q 13), .ref (q 14), .int (nI hn), .ref (q 16), .long dr])), (q 0, .inr (10, [.ref (q 20), .int (nI tl)])), (q 20, .inl (cI, 1600, .inl (fun j => nI (tb j)))), (q 7, .inr (7, [.ref (q 33), .ref (q 34), .int (nI dy), .int (nI wn), .int (nI mo), .int mu, .int (nI ke)])), (q 14, .inl (cI, 16, .inl hr_)), (q 16, .inl (cI, 6, .inl rf))]) eu_31 hP hD rfl (fun hP hD => ?_)
    refine lv_if_eq (tgt := 18) hx hb dX11_hear_11 (by decide) (fun c_33 => ?_) (fun c_33 => ?_)
    · have c_33 : b_28 = 0 := (neq b_28 0 (by omega) (by omega)).mp c_33
      refine lv_iconst (v := 0) hx hb dX11_hear_18 (by decide) ?_
      exact jn_1 0 _ _ _ (by omega) (Or.inl ⟨rfl, fun hq => rr_0 htr_30 (by omega) hq.2⟩) hP hD hS (lv_sub hl [0] rfl)
    · have c_33 : ¬ (b_28 = 0) := fun h => c_33 ((neq b_28 0 (by omega) (by omega)).mpr h)
      refine lv_iconst (v := 1) hx hb dX11_hear_14 (by decide) ?_
      refine lv_goto (tgt := 19) hx hb dX11_hear_15 (by decide) ?_
      exact jn_1 1 _ _ _ (by omega) (Or.inr ⟨rfl, by omega, rr_1 htr_30 (by omega)⟩) hP hD hS (lv_sub hl [0] rfl)

