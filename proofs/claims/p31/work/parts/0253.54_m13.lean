theorem dg_X12_checked_0_0 : bqL cX12_checked 0 [(0, [17, 0, 139]), (3, [61]), (4, [3]), (5, [62]), (6, [29]), (7, [27]), (8, [162, 0, 21]), (29, [28]), (30, [172]), (11, [6]), (12, [28]), (13, [104]), (14, [42]), (15, [29]), (16, [46]), (17, [96]), (18, [17, 0, 251]), (21, [112]), (22, [61]), (23, [132, 3, 1]), (26, [167, 255, 236])] = true := by decide +kernel
theorem dX12_checked_0 : decode cX12_checked 0 = .ok (.sipush 139, 3) := q_sipush (bat_get dg_X12_checked_0_0 0 rfl rfl) rfl
theorem dX12_checked_3 : decode cX12_checked 3 = .ok (.istore_n 2, 1) := q_istore_n2 (bat_get dg_X12_checked_0_0 1 rfl rfl)
theorem dX12_checked_4 : decode cX12_checked 4 = .ok (.iconst 0, 1) := q_iconst0 (bat_get dg_X12_checked_0_0 2 rfl rfl)
theorem dX12_checked_5 : decode cX12_checked 5 = .ok (.istore_n 3, 1) := q_istore_n3 (bat_get dg_X12_checked_0_0 3 rfl rfl)
theorem dX12_checked_6 : decode cX12_checked 6 = .ok (.iload_n 3, 1) := q_iload_n3 (bat_get dg_X12_checked_0_0 4 rfl rfl)
theorem dX12_checked_7 : decode cX12_checked 7 = .ok (.iload_n 1, 1) := q_iload_n1 (bat_get dg_X12_checked_0_0 5 rfl rfl)
theorem dX12_checked_8 : decode cX12_checked 8 = .ok (.if_icmp .ge 21, 3) := q_if_icmp_ge (bat_get dg_X12_checked_0_0 6 rfl rfl) rfl
theorem dX12_checked_29 : decode cX12_checked 29 = .ok (.iload_n 2, 1) := q_iload_n2 (bat_get dg_X12_checked_0_0 7 rfl rfl)
theorem dX12_checked_30 : decode cX12_checked 30 = .ok (.ireturn, 1) := q_ireturn (bat_get dg_X12_checked_0_0 8 rfl rfl)
theorem dX12_checked_11 : decode cX12_checked 11 = .ok (.iconst 3, 1) := q_iconst3 (bat_get dg_X12_checked_0_0 9 rfl rfl)
theorem dX12_checked_12 : decode cX12_checked 12 = .ok (.iload_n 2, 1) := q_iload_n2 (bat_get dg_X12_checked_0_0 10 rfl rfl)
theorem dX12_checked_13 : decode cX12_checked 13 = .ok (.imul, 1) := q_imul (bat_get dg_X12_checked_0_0 11 rfl rfl)
theorem dX12_checked_14 : decode cX12_checked 14 = .ok (.aload_n 0, 1) := q_aload_n0 (bat_get dg_X12_checked_0_0 12 rfl rfl)
theorem dX12_checked_15 : decode cX12_checked 15 = .ok (.iload_n 3, 1) := q_iload_n3 (bat_get dg_X12_checked_0_0 13 rfl rfl)
theorem dX12_checked_16 : decode cX12_checked 16 = .ok (.iaload, 1) := q_iaload (bat_get dg_X12_checked_0_0 14 rfl rfl)
theorem dX12_checked_17 : decode cX12_checked 17 = .ok (.iadd, 1) := q_iadd (bat_get dg_X12_checked_0_0 15 rfl rfl)
theorem dX12_checked_18 : decode cX12_checked 18 = .ok (.sipush 251, 3) := q_sipush (bat_get dg_X12_checked_0_0 16 rfl rfl) rfl
theorem dX12_checked_21 : decode cX12_checked 21 = .ok (.irem, 1) := q_irem (bat_get dg_X12_checked_0_0 17 rfl rfl)
theorem dX12_checked_22 : decode cX12_checked 22 = .ok (.istore_n 2, 1) := q_istore_n2 (bat_get dg_X12_checked_0_0 18 rfl rfl)
theorem dX12_checked_23 : decode cX12_checked 23 = .ok (.iinc 3 1, 3) := q_iinc (bat_get dg_X12_checked_0_0 19 rfl rfl) rfl
theorem dX12_checked_26 : decode cX12_checked 26 = .ok (.goto (-20), 3) := q_goto (bat_get dg_X12_checked_0_0 20 rfl rfl) rfl
theorem w_8_213 : (Cond.code yX12_checked cX12_checked 4 (some .int)) ∈ wsL_law := sk_mem (ck_8 _ (List.mem_of_getElem? (i := 213) rfl)) rfl
set_option maxHeartbeats 4000000 in
set_option maxRecDepth 100000 in
theorem c_m_checkedX (l : Launch) (D : va_G) (cI cJ cC cZ cS : ClassId) (h0 : Nat) (tb : Nat → Nat) (n : Nat) (hn : n ≤ 1600) (htb : ∀ j, tb j ≤ 255) : skM l yX12_checked cX12_checked 4 (some .int) 0 0 0 0 D (skT cI cJ cC cZ cS) [.ref h0, .int (nI n)] [(h0, .inl (cI, 1600, .inl (fun j => nI (tb j))))] (skI D (skT cI cJ cC cZ cS) (fun (r : Int32) (u : va_W) => ∃ (ck2 : Nat), ck2 = chkN tb n ∧ ck2 < 251 ∧ r = nI ck2 ∧ u = [(h0, .inl (cI, 1600, .inl (fun j => nI (tb j))))])) := by
  refine skM_of pf_X12_checked (Nat.le_of_ble_eq_true rfl) ?_
  intro p e s m below meth c A ls E hP hD hl
  refine skE_el E (fun hx hb hr hml hlocks hin hown hts hK hA => ?_)
  have hown : s.vm.findClass RX12 = some m.cls := hown
  have hS : va_S A s.heap s.heap [] := va_S.rf
  have hl : lv_has ls 4 [(0, .ref h0), (1, .int (nI n))] := hl
  refine lv_sipush (v := 139) hx hb dX12_checked_0 (by decide) ?_
  refine lv_istore_n (lv' := [(2, .int 139), (0, .ref h0), (1, .int (nI n))]) hx hb dX12_checked_3 rfl hl (by decide) rfl (fun ls hl => ?_)
  refine lv_iconst (v := 0) hx hb dX12_checked_4 (by decide) ?_
  refine lv_istore_n (lv' := [(3, .int 0), (2, .int 139), (0, .ref h0), (1, .int (nI n))]) hx hb dX12_checked_5 rfl hl (by decide) rfl (fun ls hl => ?_)
  have lp_1 : ∀ (n_2 : Nat) (i : Nat) (ck : Nat) (H : Heap) (locs : List Loc) (ls : Array Slot), n - i < n_2 → (i ≤ n) → (ck < 251) → (ck = chkN tb i) → va_P D vwCl [(h0, .inl (cI, 1600, .inl (fun j => nI (tb j))))] H → va_D A [(h0, .inl (cI, 1600, .inl (fun j => nI (tb j))))] → va_S A s.heap H locs → lv_has ls 4 [(3, .int (nI i)), (2, .int (nI ck)), (0, .ref h0), (1, .int (nI n))] → W p l e { frames := 0, cells := 0, slots := 0, locals := 0 } s m ([.ref h0, .int (nI n)] : List Value).toArray below meth c H locs 0 0 (MQ below (skI D (skT cI cJ cC cZ cS) (fun (r : Int32) (u : va_W) => ∃ (ck2 : Nat), ck2 = chkN tb n ∧ ck2 < 251 ∧ r = nI ck2 ∧ u = [(h0, .inl (cI, 1600, .inl (fun j => nI (tb j))))]) A) ([.ref h0, .int (nI n)] : List Value).toArray s 0 0 A) (F0 m 6 ls []) := by
    intro n_2
    induction n_2 with
    | zero => intro i ck H locs ls hm; exact absurd hm (Nat.not_lt_zero _)
    | succ n_2 ih_lp_1 =>
      intro i ck H locs ls hm hi hc9 hci hP hD hS hl
      refine lv_iload_n hx hb dX12_checked_6 rfl (lv_at hl 0 rfl) ?_
      refine lv_iload_n hx hb dX12_checked_7 rfl (lv_at hl 3 rfl) ?_
      refine lv_icmp_ge (tgt := 29) hx hb dX12_checked_8 (by decide) (fun c_3 => ?_) (fun c_3 => ?_)
      · have c_3 : n ≤ i := (nle n i (by omega) (by omega)).mp c_3
        refine lv_iload_n hx hb dX12_checked_29 rfl (lv_at hl 1 rfl) ?_
        exact sk_iret hx hb hr rfl hlocks hK hP hD hS (⟨ck, (by rw [show n = i by omega]; exact hci), by omega, rfl, rfl⟩) (Nat.le_of_ble_eq_true rfl) (Nat.le_of_ble_eq_true rfl) dX12_checked_30
      · have c_3 : ¬ (n ≤ i) := fun h => c_3 ((nle n i (by omega) (by omega)).mpr h)
        refine lv_iconst (v := 3) hx hb dX12_checked_11 (by decide) ?_
        refine lv_iload_n hx hb dX12_checked_12 rfl (lv_at hl 1 rfl) ?_
        refine lv_imul hx hb dX12_checked_13 ?_
        refine sk_top (nI (3 * ck)) (nmul 3 ck) ?_
        refine lv_aload_n hx hb dX12_checked_14 rfl (lv_at hl 2 rfl) ?_
        refine lv_iload_n hx hb dX12_checked_15 rfl (lv_at hl 0 rfl) ?_
        refine va_iald hx hb hK.1 hP 0 0 rfl rfl (vin i 1600 (by omega) (by omega)) dX12_checked_16 ?_
        refine sk_top (nI (tb i)) (nrd tb i (by omega)) ?_
        have hb_4 := htb i
        refine lv_iadd hx hb dX12_checked_17 ?_
        refine sk_top (nI (3 * ck + (tb i))) (nI_add (3 * ck) (tb i)) ?_
        refine lv_sipush (v := 251) hx hb dX12_checked_18 (by decide) ?_
        refine lv_irem hx hb dX12_checked_21 (by decide) ?_
        refine sk_top (nI ((3 * ck + (tb i)) % 251)) (nrem (3 * ck + (tb i)) 251 (by omega) (by omega) (by omega)) ?_
        refine lv_istore_n (lv' := [(2, .int (nI ((3 * ck + (tb i)) % 251))), (3, .int (nI i)), (0, .ref h0), (1, .int (nI n))]) hx hb dX12_checked_22 rfl hl (by decide) rfl (fun ls hl => ?_)
        refine lv_iinc (v := nI (i + 1)) (lv' := [(3, .int (nI (i + 1))), (2, .int (nI ((3 * ck + (tb i)) % 251))), (0, .ref h0), (1, .int (nI n))]) hx hb dX12_checked_23 hl (k := 1) rfl (ninc i 1 (by decide)) (by decide) rfl (fun ls hl => ?_)
        refine lv_goto (tgt := 6) hx hb dX12_checked_26 (by decide) ?_
        exact ih_lp_1 (i + 1) ((3 * ck + (tb i)) % 251) _ _ _ (by omega) (by omega) (by omega) (by rw [chkN, ← hci]) hP hD hS (lv_sub hl [0, 1, 2, 3] rfl)
  exact lp_1 (n - 0 + 1) 0 139 _ _ _ (Nat.lt_succ_self _) (by omega) (by omega) rfl hP hD hS (lv_sub hl [0, 1, 2, 3] rfl)
theorem imgK_1 {tb : Nat → Nat} {i : Nat} (h : imgK tb i) (h1 : tb i ≤ 9) (h2 : 2 < i → i % 3 = 2 → tb i ≤ 1) : imgK tb (i + 1) := fun k q1 q2 => by
  by_cases e : k < i
  · exact h k q1 e
  · obtain rfl : k = i := by omega
    exact ⟨h1, h2⟩
theorem img_at {tb : Nat → Nat} {n d c : Nat} (hn : n - 1 = 3 * d + 3) (hc : c = chkN tb (n - 1)) : tb (n - 1) = c ↔ tb (3 * d + 3) = chkN tb (3 * d + 3) := by
  rw [hc, hn]
theorem fd_s {tb zb f1 : Nat → Nat} {t zt i : Nat} {a b c d e v w : Int32} (h : zb = feedN tb t (wByte a b c d e) i) (ht : zt = t + i) (hu : f1 = updN zb zt (lo8 v)) (hv : v = w >>> (nI (8 * (3 - i % 4)) &&& 31)) (hw : (if i < 4 then a else if i < 8 then b else if i < 12 then c else if i < 16 then d else e) = w) : f1 = feedN tb t (wByte a b c d e) (i + 1) := by
  rw [hu, h, ht]
  show updN _ _ _ = updN _ _ (wByte a b c d e i)
  unfold wByte
  rw [hw, hv]
theorem fd_20 {tb zb : Nat → Nat} {t i : Nat} {a b c d e : Int32} (h : zb = feedN tb t (wByte a b c d e) i) (hi : i = 20) : zb = feedT tb t a b c d e := by
  subst hi
  exact h
theorem dg_X12_isImage_0_0 : bqL cX12_isImage 0 [(0, [42]), (1, [180, 1, 46]), (4, [153, 0, 59]), (63, [3]), (64, [172]), (7, [27]), (8, [7]), (9, [6]), (10, [42]), (11, [182, 1, 59]), (14, [104]), (15, [96]), (16, [160, 0, 47]), (19, [42]), (20, [180, 0, 7]), (23, [27]), (24, [4]), (25, [100]), (26, [46]), (27, [42]), (28, [180, 0, 7]), (31, [27]), (32, [4]), (33, [100]), (34, [184, 2, 89]), (37, [160, 0, 26]), (40, [17, 1, 0]), (43, [42]), (44, [180, 0, 7]), (47, [3]), (48, [46]), (49, [104]), (50, [42]), (51, [180, 0, 7]), (54, [4]), (55, [46]), (56, [96]), (57, [17, 3, 231]), (60, [164, 0, 5]), (65, [5])] = true := by decide +kernel
theorem dX12_isImage_0 : decode cX12_isImage 0 = .ok (.aload_n 0, 1) := q_aload_n0 (bat_get dg_X12_isImage_0_0 0 rfl rfl)
theorem dX12_isImage_1 : decode cX12_isImage 1 = .ok (.getfield 302, 3) := q_getfield (bat_get dg_X12_isImage_0_0 1 rfl rfl) rfl
theorem dX12_isImage_4 : decode cX12_isImage 4 = .ok (.ifCond .eq 59, 3) := q_ifCond_eq (bat_get dg_X12_isImage_0_0 2 rfl rfl) rfl
theorem dX12_isImage_63 : decode cX12_isImage 63 = .ok (.iconst 0, 1) := q_iconst0 (bat_get dg_X12_isImage_0_0 3 rfl rfl)
theorem dX12_isImage_64 : decode cX12_isImage 64 = .ok (.ireturn, 1) := q_ireturn (bat_get dg_X12_isImage_0_0 4 rfl rfl)
theorem dX12_isImage_7 : decode cX12_isImage 7 = .ok (.iload_n 1, 1) := q_iload_n1 (bat_get dg_X12_isImage_0_0 5 rfl rfl)
theorem dX12_isImage_8 : decode cX12_isImage 8 = .ok (.iconst 4, 1) := q_iconst4 (bat_get dg_X12_isImage_0_0 6 rfl rfl)
theorem dX12_isImage_9 : decode cX12_isImage 9 = .ok (.iconst 3, 1) := q_iconst3 (bat_get dg_X12_isImage_0_0 7 rfl rfl)
theorem dX12_isImage_10 : decode cX12_isImage 10 = .ok (.aload_n 0, 1) := q_aload_n0 (bat_get dg_X12_isImage_0_0 8 rfl rfl)
theorem dX12_isImage_11 : decode cX12_isImage 11 = .ok (.invokevirtual 315, 3) := q_invokevirtual (bat_get dg_X12_isImage_0_0 9 rfl rfl) rfl
theorem dX12_isImage_14 : decode cX12_isImage 14 = .ok (.imul, 1) := q_imul (bat_get dg_X12_isImage_0_0 10 rfl rfl)
theorem dX12_isImage_15 : decode cX12_isImage 15 = .ok (.iadd, 1) := q_iadd (bat_get dg_X12_isImage_0_0 11 rfl rfl)
theorem dX12_isImage_16 : decode cX12_isImage 16 = .ok (.if_icmp .ne 47, 3) := q_if_icmp_ne (bat_get dg_X12_isImage_0_0 12 rfl rfl) rfl
theorem dX12_isImage_19 : decode cX12_isImage 19 = .ok (.aload_n 0, 1) := q_aload_n0 (bat_get dg_X12_isImage_0_0 13 rfl rfl)
theorem dX12_isImage_20 : decode cX12_isImage 20 = .ok (.getfield 7, 3) := q_getfield (bat_get dg_X12_isImage_0_0 14 rfl rfl) rfl
theorem dX12_isImage_23 : decode cX12_isImage 23 = .ok (.iload_n 1, 1) := q_iload_n1 (bat_get dg_X12_isImage_0_0 15 rfl rfl)
theorem dX12_isImage_24 : decode cX12_isImage 24 = .ok (.iconst 1, 1) := q_iconst1 (bat_get dg_X12_isImage_0_0 16 rfl rfl)
theorem dX12_isImage_25 : decode cX12_isImage 25 = .ok (.isub, 1) := q_isub (bat_get dg_X12_isImage_0_0 17 rfl rfl)
theorem dX12_isImage_26 : decode cX12_isImage 26 = .ok (.iaload, 1) := q_iaload (bat_get dg_X12_isImage_0_0 18 rfl rfl)
theorem dX12_isImage_27 : decode cX12_isImage 27 = .ok (.aload_n 0, 1) := q_aload_n0 (bat_get dg_X12_isImage_0_0 19 rfl rfl)
theorem dX12_isImage_28 : decode cX12_isImage 28 = .ok (.getfield 7, 3) := q_getfield (bat_get dg_X12_isImage_0_0 20 rfl rfl) rfl
theorem dX12_isImage_31 : decode cX12_isImage 31 = .ok (.iload_n 1, 1) := q_iload_n1 (bat_get dg_X12_isImage_0_0 21 rfl rfl)
theorem dX12_isImage_32 : decode cX12_isImage 32 = .ok (.iconst 1, 1) := q_iconst1 (bat_get dg_X12_isImage_0_0 22 rfl rfl)
theorem dX12_isImage_33 : decode cX12_isImage 33 = .ok (.isub, 1) := q_isub (bat_get dg_X12_isImage_0_0 23 rfl rfl)
theorem dX12_isImage_34 : decode cX12_isImage 34 = .ok (.invokestatic 601, 3) := q_invokestatic (bat_get dg_X12_isImage_0_0 24 rfl rfl) rfl
theorem dX12_isImage_37 : decode cX12_isImage 37 = .ok (.if_icmp .ne 26, 3) := q_if_icmp_ne (bat_get dg_X12_isImage_0_0 25 rfl rfl) rfl
theorem dX12_isImage_40 : decode cX12_isImage 40 = .ok (.sipush 256, 3) := q_sipush (bat_get dg_X12_isImage_0_0 26 rfl rfl) rfl
theorem dX12_isImage_43 : decode cX12_isImage 43 = .ok (.aload_n 0, 1) := q_aload_n0 (bat_get dg_X12_isImage_0_0 27 rfl rfl)
theorem dX12_isImage_44 : decode cX12_isImage 44 = .ok (.getfield 7, 3) := q_getfield (bat_get dg_X12_isImage_0_0 28 rfl rfl) rfl
theorem dX12_isImage_47 : decode cX12_isImage 47 = .ok (.iconst 0, 1) := q_iconst0 (bat_get dg_X12_isImage_0_0 29 rfl rfl)
theorem dX12_isImage_48 : decode cX12_isImage 48 = .ok (.iaload, 1) := q_iaload (bat_get dg_X12_isImage_0_0 30 rfl rfl)
theorem dX12_isImage_49 : decode cX12_isImage 49 = .ok (.imul, 1) := q_imul (bat_get dg_X12_isImage_0_0 31 rfl rfl)
theorem dX12_isImage_50 : decode cX12_isImage 50 = .ok (.aload_n 0, 1) := q_aload_n0 (bat_get dg_X12_isImage_0_0 32 rfl rfl)
theorem dX12_isImage_51 : decode cX12_isImage 51 = .ok (.getfield 7, 3) := q_getfield (bat_get dg_X12_isImage_0_0 33 rfl rfl) rfl
theorem dX12_isImage_54 : decode cX12_isImage 54 = .ok (.iconst 1, 1) := q_iconst1 (bat_get dg_X12_isImage_0_0 34 rfl rfl)
theorem dX12_isImage_55 : decode cX12_isImage 55 = .ok (.iaload, 1) := q_iaload (bat_get dg_X12_isImage_0_0 35 rfl rfl)
theorem dX12_isImage_56 : decode cX12_isImage 56 = .ok (.iadd, 1) := q_iadd (bat_get dg_X12_isImage_0_0 36 rfl rfl)
theorem dX12_isImage_57 : decode cX12_isImage 57 = .ok (.sipush 999, 3) := q_sipush (bat_get dg_X12_isImage_0_0 37 rfl rfl) rfl
theorem dX12_isImage_60 : decode cX12_isImage 60 = .ok (.if_icmp .le 5, 3) := q_if_icmp_le (bat_get dg_X12_isImage_0_0 38 rfl rfl) rfl
theorem dX12_isImage_65 : decode cX12_isImage 65 = .ok (.iconst 2, 1) := q_iconst2 (bat_get dg_X12_isImage_0_0 39 rfl rfl)
theorem dg_X12_isImage_66_66 : bqL cX12_isImage 66 [(0, [61]), (1, [28]), (2, [27]), (3, [4]), (4, [100]), (5, [162, 0, 38]), (43, [4]), (44, [172]), (8, [42]), (9, [180, 0, 7]), (12, [28]), (13, [46]), (14, [28]), (15, [5]), (16, [164, 0, 14]), (30, [16, 9]), (32, [164, 0, 5]), (37, [132, 2, 1]), (40, [167, 255, 217]), (35, [3]), (36, [172]), (19, [28]), (20, [6]), (21, [112]), (22, [5]), (23, [160, 0, 7]), (26, [4]), (27, [167, 0, 5])] = true := by decide +kernel
theorem dX12_isImage_66 : decode cX12_isImage 66 = .ok (.istore_n 2, 1) := q_istore_n2 (bat_get dg_X12_isImage_66_66 0 rfl rfl)
theorem dX12_isImage_67 : decode cX12_isImage 67 = .ok (.iload_n 2, 1) := q_iload_n2 (bat_get dg_X12_isImage_66_66 1 rfl rfl)
theorem dX12_isImage_68 : decode cX12_isImage 68 = .ok (.iload_n 1, 1) := q_iload_n1 (bat_get dg_X12_isImage_66_66 2 rfl rfl)
theorem dX12_isImage_69 : decode cX12_isImage 69 = .ok (.iconst 1, 1) := q_iconst1 (bat_get dg_X12_isImage_66_66 3 rfl rfl)
theorem dX12_isImage_70 : decode cX12_isImage 70 = .ok (.isub, 1) := q_isub (bat_get dg_X12_isImage_66_66 4 rfl rfl)
theorem dX12_isImage_71 : decode cX12_isImage 71 = .ok (.if_icmp .ge 38, 3) := q_if_icmp_ge (bat_get dg_X12_isImage_66_66 5 rfl rfl) rfl
theorem dX12_isImage_109 : decode cX12_isImage 109 = .ok (.iconst 1, 1) := q_iconst1 (bat_get dg_X12_isImage_66_66 6 rfl rfl)
theorem dX12_isImage_110 : decode cX12_isImage 110 = .ok (.ireturn, 1) := q_ireturn (bat_get dg_X12_isImage_66_66 7 rfl rfl)
theorem dX12_isImage_74 : decode cX12_isImage 74 = .ok (.aload_n 0, 1) := q_aload_n0 (bat_get dg_X12_isImage_66_66 8 rfl rfl)
theorem dX12_isImage_75 : decode cX12_isImage 75 = .ok (.getfield 7, 3) := q_getfield (bat_get dg_X12_isImage_66_66 9 rfl rfl) rfl
