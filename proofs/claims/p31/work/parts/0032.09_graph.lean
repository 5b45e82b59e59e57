theorem dg_X1_moodsOf_0_0 : bqL cX1_moodsOf 0 [(0, [4]), (1, [42]), (2, [180, 0, 35]), (5, [120]), (6, [61]), (7, [3]), (8, [62]), (9, [29]), (10, [27]), (11, [163, 0, 53]), (64, [28]), (65, [172]), (14, [3]), (15, [54, 4]), (17, [3]), (18, [54, 5]), (20, [21, 5]), (22, [16, 10]), (24, [162, 0, 31]), (55, [21, 4]), (57, [61]), (58, [132, 3, 1]), (61, [167, 255, 204]), (27, [28]), (28, [21, 5]), (30, [122]), (31, [4]), (32, [126]), (33, [4]), (34, [160, 0, 15]), (49, [132, 5, 1]), (52, [167, 255, 224]), (37, [21, 4]), (39, [42]), (40, [29]), (41, [21, 5]), (43, [182, 0, 66]), (46, [128]), (47, [54, 4])] = true := by decide +kernel
theorem dX1_moodsOf_0 : decode cX1_moodsOf 0 = .ok (.iconst 1, 1) := q_iconst1 (bat_get dg_X1_moodsOf_0_0 0 rfl rfl)
theorem dX1_moodsOf_1 : decode cX1_moodsOf 1 = .ok (.aload_n 0, 1) := q_aload_n0 (bat_get dg_X1_moodsOf_0_0 1 rfl rfl)
theorem dX1_moodsOf_2 : decode cX1_moodsOf 2 = .ok (.getfield 35, 3) := q_getfield (bat_get dg_X1_moodsOf_0_0 2 rfl rfl) rfl
theorem dX1_moodsOf_5 : decode cX1_moodsOf 5 = .ok (.ishl, 1) := q_ishl (bat_get dg_X1_moodsOf_0_0 3 rfl rfl)
theorem dX1_moodsOf_6 : decode cX1_moodsOf 6 = .ok (.istore_n 2, 1) := q_istore_n2 (bat_get dg_X1_moodsOf_0_0 4 rfl rfl)
theorem dX1_moodsOf_7 : decode cX1_moodsOf 7 = .ok (.iconst 0, 1) := q_iconst0 (bat_get dg_X1_moodsOf_0_0 5 rfl rfl)
theorem dX1_moodsOf_8 : decode cX1_moodsOf 8 = .ok (.istore_n 3, 1) := q_istore_n3 (bat_get dg_X1_moodsOf_0_0 6 rfl rfl)
theorem dX1_moodsOf_9 : decode cX1_moodsOf 9 = .ok (.iload_n 3, 1) := q_iload_n3 (bat_get dg_X1_moodsOf_0_0 7 rfl rfl)
theorem dX1_moodsOf_10 : decode cX1_moodsOf 10 = .ok (.iload_n 1, 1) := q_iload_n1 (bat_get dg_X1_moodsOf_0_0 8 rfl rfl)
theorem dX1_moodsOf_11 : decode cX1_moodsOf 11 = .ok (.if_icmp .gt 53, 3) := q_if_icmp_gt (bat_get dg_X1_moodsOf_0_0 9 rfl rfl) rfl
theorem dX1_moodsOf_64 : decode cX1_moodsOf 64 = .ok (.iload_n 2, 1) := q_iload_n2 (bat_get dg_X1_moodsOf_0_0 10 rfl rfl)
theorem dX1_moodsOf_65 : decode cX1_moodsOf 65 = .ok (.ireturn, 1) := q_ireturn (bat_get dg_X1_moodsOf_0_0 11 rfl rfl)
theorem dX1_moodsOf_14 : decode cX1_moodsOf 14 = .ok (.iconst 0, 1) := q_iconst0 (bat_get dg_X1_moodsOf_0_0 12 rfl rfl)
theorem dX1_moodsOf_15 : decode cX1_moodsOf 15 = .ok (.istore 4, 2) := q_istore (bat_get dg_X1_moodsOf_0_0 13 rfl rfl)
theorem dX1_moodsOf_17 : decode cX1_moodsOf 17 = .ok (.iconst 0, 1) := q_iconst0 (bat_get dg_X1_moodsOf_0_0 14 rfl rfl)
theorem dX1_moodsOf_18 : decode cX1_moodsOf 18 = .ok (.istore 5, 2) := q_istore (bat_get dg_X1_moodsOf_0_0 15 rfl rfl)
theorem dX1_moodsOf_20 : decode cX1_moodsOf 20 = .ok (.iload 5, 2) := q_iload (bat_get dg_X1_moodsOf_0_0 16 rfl rfl)
theorem dX1_moodsOf_22 : decode cX1_moodsOf 22 = .ok (.bipush 10, 2) := q_bipush (bat_get dg_X1_moodsOf_0_0 17 rfl rfl) rfl
theorem dX1_moodsOf_24 : decode cX1_moodsOf 24 = .ok (.if_icmp .ge 31, 3) := q_if_icmp_ge (bat_get dg_X1_moodsOf_0_0 18 rfl rfl) rfl
theorem dX1_moodsOf_55 : decode cX1_moodsOf 55 = .ok (.iload 4, 2) := q_iload (bat_get dg_X1_moodsOf_0_0 19 rfl rfl)
theorem dX1_moodsOf_57 : decode cX1_moodsOf 57 = .ok (.istore_n 2, 1) := q_istore_n2 (bat_get dg_X1_moodsOf_0_0 20 rfl rfl)
theorem dX1_moodsOf_58 : decode cX1_moodsOf 58 = .ok (.iinc 3 1, 3) := q_iinc (bat_get dg_X1_moodsOf_0_0 21 rfl rfl) rfl
theorem dX1_moodsOf_61 : decode cX1_moodsOf 61 = .ok (.goto (-52), 3) := q_goto (bat_get dg_X1_moodsOf_0_0 22 rfl rfl) rfl
theorem dX1_moodsOf_27 : decode cX1_moodsOf 27 = .ok (.iload_n 2, 1) := q_iload_n2 (bat_get dg_X1_moodsOf_0_0 23 rfl rfl)
theorem dX1_moodsOf_28 : decode cX1_moodsOf 28 = .ok (.iload 5, 2) := q_iload (bat_get dg_X1_moodsOf_0_0 24 rfl rfl)
theorem dX1_moodsOf_30 : decode cX1_moodsOf 30 = .ok (.ishr, 1) := q_ishr (bat_get dg_X1_moodsOf_0_0 25 rfl rfl)
theorem dX1_moodsOf_31 : decode cX1_moodsOf 31 = .ok (.iconst 1, 1) := q_iconst1 (bat_get dg_X1_moodsOf_0_0 26 rfl rfl)
theorem dX1_moodsOf_32 : decode cX1_moodsOf 32 = .ok (.iand, 1) := q_iand (bat_get dg_X1_moodsOf_0_0 27 rfl rfl)
theorem dX1_moodsOf_33 : decode cX1_moodsOf 33 = .ok (.iconst 1, 1) := q_iconst1 (bat_get dg_X1_moodsOf_0_0 28 rfl rfl)
theorem dX1_moodsOf_34 : decode cX1_moodsOf 34 = .ok (.if_icmp .ne 15, 3) := q_if_icmp_ne (bat_get dg_X1_moodsOf_0_0 29 rfl rfl) rfl
theorem dX1_moodsOf_49 : decode cX1_moodsOf 49 = .ok (.iinc 5 1, 3) := q_iinc (bat_get dg_X1_moodsOf_0_0 30 rfl rfl) rfl
theorem dX1_moodsOf_52 : decode cX1_moodsOf 52 = .ok (.goto (-32), 3) := q_goto (bat_get dg_X1_moodsOf_0_0 31 rfl rfl) rfl
theorem dX1_moodsOf_37 : decode cX1_moodsOf 37 = .ok (.iload 4, 2) := q_iload (bat_get dg_X1_moodsOf_0_0 32 rfl rfl)
theorem dX1_moodsOf_39 : decode cX1_moodsOf 39 = .ok (.aload_n 0, 1) := q_aload_n0 (bat_get dg_X1_moodsOf_0_0 33 rfl rfl)
theorem dX1_moodsOf_40 : decode cX1_moodsOf 40 = .ok (.iload_n 3, 1) := q_iload_n3 (bat_get dg_X1_moodsOf_0_0 34 rfl rfl)
theorem dX1_moodsOf_41 : decode cX1_moodsOf 41 = .ok (.iload 5, 2) := q_iload (bat_get dg_X1_moodsOf_0_0 35 rfl rfl)
theorem dX1_moodsOf_43 : decode cX1_moodsOf 43 = .ok (.invokevirtual 66, 3) := q_invokevirtual (bat_get dg_X1_moodsOf_0_0 36 rfl rfl) rfl
theorem dX1_moodsOf_46 : decode cX1_moodsOf 46 = .ok (.ior, 1) := q_ior (bat_get dg_X1_moodsOf_0_0 37 rfl rfl)
theorem dX1_moodsOf_47 : decode cX1_moodsOf 47 = .ok (.istore 4, 2) := q_istore (bat_get dg_X1_moodsOf_0_0 38 rfl rfl)
theorem w_4_107 : (Cond.code yX1_moodsOf cX1_moodsOf 6 (some .int)) ∈ wsL_law := sk_mem (ck_4 _ (List.mem_of_getElem? (i := 107) rfl)) rfl
set_option maxHeartbeats 4000000 in
set_option maxRecDepth 100000 in
theorem c_moodsOf (l : Launch) (D : va_G) (cI cJ cC cZ cS : ClassId) (q : Nat → Nat) (gd : Nat) (gs : Nat) (e1 : Nat → Int32) (e2 : Nat → Int32) (e3 : Nat → Int32) (d : Nat) (hgd : gd ≤ 9) (hgs : gs ≤ 9) (hd : d < 9) : skM l yX1_moodsOf cX1_moodsOf 6 (some .int) 1 22 0 0 D (skT cI cJ cC cZ cS) [.ref (q 11), .int (nI d)] [(q 11, .inr (1, [.ref (q 10), .ref (q 67), .ref (q 68), .ref (q 69), .ref (q 70), .ref (q 71), .ref (q 72), .int (nI gd), .int (nI gs)])), (q 67, .inl (cI, 90, .inl e1)), (q 68, .inl (cI, 9, .inl e2)), (q 69, .inl (cI, 10, .inl e3))] (skI D (skT cI cJ cC cZ cS) (fun (r : Int32) (u : va_W) => u = [(q 11, .inr (1, [.ref (q 10), .ref (q 67), .ref (q 68), .ref (q 69), .ref (q 70), .ref (q 71), .ref (q 72), .int (nI gd), .int (nI gs)])), (q 67, .inl (cI, 90, .inl e1)), (q 68, .inl (cI, 9, .inl e2)), (q 69, .inl (cI, 10, .inl e3))])) := by
  refine skM_of pf_X1_moodsOf (Nat.le_of_ble_eq_true rfl) ?_
  intro p e s m below meth c A ls E hP hD hl
  refine skE_el E (fun hx hb hr hml hlocks hin hown hts hK hA => ?_)
  have hown : s.vm.findClass RX1 = some m.cls := hown
  have hS : va_S A s.heap s.heap [] := va_S.rf
  have hl : lv_has ls 6 [(0, .ref (q 11)), (1, .int (nI d))] := hl
  refine lv_iconst (v := 1) hx hb dX1_moodsOf_0 (by decide) ?_
  refine lv_aload_n hx hb dX1_moodsOf_1 rfl (lv_at hl 0 rfl) ?_
  refine sk_get (v := .int (nI gs)) (C := RX1) (T := TX1) (N := 9) hx hb hts inlX1 hown hK hP 0 rfl rfl 8 (by decide) w_2_103 rfl dX1_moodsOf_2 ?_
  refine lv_ishl hx hb dX1_moodsOf_5 ?_
  refine lv_topi (fun v_1 ev_1 => ?_)
  refine lv_istore_n (lv' := [(2, .int v_1), (0, .ref (q 11)), (1, .int (nI d))]) hx hb dX1_moodsOf_6 rfl hl (by decide) rfl (fun ls hl => ?_)
  refine lv_iconst (v := 0) hx hb dX1_moodsOf_7 (by decide) ?_
  refine lv_istore_n (lv' := [(3, .int 0), (2, .int v_1), (0, .ref (q 11)), (1, .int (nI d))]) hx hb dX1_moodsOf_8 rfl hl (by decide) rfl (fun ls hl => ?_)
  have lp_2 : ∀ (n_3 : Nat) (i : Nat) (ms : Int32) (H : Heap) (locs : List Loc) (ls : Array Slot), d + 1 - i < n_3 → (i ≤ d + 1) → va_P D vwCl [(q 11, .inr (1, [.ref (q 10), .ref (q 67), .ref (q 68), .ref (q 69), .ref (q 70), .ref (q 71), .ref (q 72), .int (nI gd), .int (nI gs)])), (q 67, .inl (cI, 90, .inl e1)), (q 68, .inl (cI, 9, .inl e2)), (q 69, .inl (cI, 10, .inl e3))] H → va_D A [(q 11, .inr (1, [.ref (q 10), .ref (q 67), .ref (q 68), .ref (q 69), .ref (q 70), .ref (q 71), .ref (q 72), .int (nI gd), .int (nI gs)])), (q 67, .inl (cI, 90, .inl e1)), (q 68, .inl (cI, 9, .inl e2)), (q 69, .inl (cI, 10, .inl e3))] → va_S A s.heap H locs → lv_has ls 6 [(3, .int (nI i)), (2, .int ms), (0, .ref (q 11)), (1, .int (nI d))] → W p l e { frames := 1, cells := 0, slots := 0, locals := 22 } s m ([.ref (q 11), .int (nI d)] : List Value).toArray below meth c H locs 0 0 (MQ below (skI D (skT cI cJ cC cZ cS) (fun (r : Int32) (u : va_W) => u = [(q 11, .inr (1, [.ref (q 10), .ref (q 67), .ref (q 68), .ref (q 69), .ref (q 70), .ref (q 71), .ref (q 72), .int (nI gd), .int (nI gs)])), (q 67, .inl (cI, 90, .inl e1)), (q 68, .inl (cI, 9, .inl e2)), (q 69, .inl (cI, 10, .inl e3))]) A) ([.ref (q 11), .int (nI d)] : List Value).toArray s 0 0 A) (F0 m 9 ls []) := by
    intro n_3
    induction n_3 with
    | zero => intro i ms H locs ls hm; exact absurd hm (Nat.not_lt_zero _)
    | succ n_3 ih_lp_2 =>
      intro i ms H locs ls hm hi hP hD hS hl
      refine lv_iload_n hx hb dX1_moodsOf_9 rfl (lv_at hl 0 rfl) ?_
      refine lv_iload_n hx hb dX1_moodsOf_10 rfl (lv_at hl 3 rfl) ?_
      refine lv_icmp_gt (tgt := 64) hx hb dX1_moodsOf_11 (by decide) (fun c_4 => ?_) (fun c_4 => ?_)
      · have c_4 : d < i := (nlt d i (by omega) (by omega)).mp c_4
        refine lv_iload_n hx hb dX1_moodsOf_64 rfl (lv_at hl 1 rfl) ?_
        exact sk_iret hx hb hr rfl hlocks hK hP hD hS rfl (Nat.le_of_ble_eq_true rfl) (Nat.le_of_ble_eq_true rfl) dX1_moodsOf_65
      · have c_4 : ¬ (d < i) := fun h => c_4 ((nlt d i (by omega) (by omega)).mpr h)
        refine lv_iconst (v := 0) hx hb dX1_moodsOf_14 (by decide) ?_
        refine lv_istore (lv' := [(4, .int 0), (3, .int (nI i)), (2, .int ms), (0, .ref (q 11)), (1, .int (nI d))]) hx hb dX1_moodsOf_15 hl (by decide) rfl (fun ls hl => ?_)
        refine lv_iconst (v := 0) hx hb dX1_moodsOf_17 (by decide) ?_
        refine lv_istore (lv' := [(5, .int 0), (4, .int 0), (3, .int (nI i)), (2, .int ms), (0, .ref (q 11)), (1, .int (nI d))]) hx hb dX1_moodsOf_18 hl (by decide) rfl (fun ls hl => ?_)
        have lp_5 : ∀ (n_6 : Nat) (jj : Nat) (rc : Int32) (H : Heap) (locs : List Loc) (ls : Array Slot), 10 - jj < n_6 → (jj ≤ 10) → va_P D vwCl [(q 11, .inr (1, [.ref (q 10), .ref (q 67), .ref (q 68), .ref (q 69), .ref (q 70), .ref (q 71), .ref (q 72), .int (nI gd), .int (nI gs)])), (q 67, .inl (cI, 90, .inl e1)), (q 68, .inl (cI, 9, .inl e2)), (q 69, .inl (cI, 10, .inl e3))] H → va_D A [(q 11, .inr (1, [.ref (q 10), .ref (q 67), .ref (q 68), .ref (q 69), .ref (q 70), .ref (q 71), .ref (q 72), .int (nI gd), .int (nI gs)])), (q 67, .inl (cI, 90, .inl e1)), (q 68, .inl (cI, 9, .inl e2)), (q 69, .inl (cI, 10, .inl e3))] → va_S A s.heap H locs → lv_has ls 6 [(5, .int (nI jj)), (4, .int rc), (3, .int (nI i)), (2, .int ms), (0, .ref (q 11)), (1, .int (nI d))] → W p l e { frames := 1, cells := 0, slots := 0, locals := 22 } s m ([.ref (q 11), .int (nI d)] : List Value).toArray below meth c H locs 0 0 (MQ below (skI D (skT cI cJ cC cZ cS) (fun (r : Int32) (u : va_W) => u = [(q 11, .inr (1, [.ref (q 10), .ref (q 67), .ref (q 68), .ref (q 69), .ref (q 70), .ref (q 71), .ref (q 72), .int (nI gd), .int (nI gs)])), (q 67, .inl (cI, 90, .inl e1)), (q 68, .inl (cI, 9, .inl e2)), (q 69, .inl (cI, 10, .inl e3))]) A) ([.ref (q 11), .int (nI d)] : List Value).toArray s 0 0 A) (F0 m 20 ls []) := by
          intro n_6
          induction n_6 with
          | zero => intro jj rc H locs ls hm; exact absurd hm (Nat.not_lt_zero _)
          | succ n_6 ih_lp_5 =>
            intro jj rc H locs ls hm hjj hP hD hS hl
            refine lv_iload hx hb dX1_moodsOf_20 (lv_at hl 0 rfl) ?_
            refine lv_bipush (v := 10) hx hb dX1_moodsOf_22 (by decide) ?_
            refine lv_icmp_ge (tgt := 55) hx hb dX1_moodsOf_24 (by decide) (fun c_7 => ?_) (fun c_7 => ?_)
            · have c_7 : 10 ≤ jj := (nle 10 jj (by omega) (by omega)).mp c_7
              refine lv_iload hx hb dX1_moodsOf_55 (lv_at hl 1 rfl) ?_
              refine lv_istore_n (lv' := [(2, .int rc), (5, .int (nI jj)), (4, .int rc), (3, .int (nI i)), (0, .ref (q 11)), (1, .int (nI d))]) hx hb dX1_moodsOf_57 rfl hl (by decide) rfl (fun ls hl => ?_)
              refine lv_iinc (v := nI (i + 1)) (lv' := [(3, .int (nI (i + 1))), (2, .int rc), (5, .int (nI jj)), (4, .int rc), (0, .ref (q 11)), (1, .int (nI d))]) hx hb dX1_moodsOf_58 hl (k := 3) rfl (ninc i 1 (by decide)) (by decide) rfl (fun ls hl => ?_)
              refine lv_goto (tgt := 9) hx hb dX1_moodsOf_61 (by decide) ?_
              exact ih_lp_2 (i + 1) rc _ _ _ (by omega) (by omega) hP hD hS (lv_sub hl [0, 1, 4, 5] rfl)
            · have c_7 : ¬ (10 ≤ jj) := fun h => c_7 ((nle 10 jj (by omega) (by omega)).mpr h)
              refine lv_iload_n hx hb dX1_moodsOf_27 rfl (lv_at hl 3 rfl) ?_
              refine lv_iload hx hb dX1_moodsOf_28 (lv_at hl 0 rfl) ?_
              refine lv_ishr hx hb dX1_moodsOf_30 ?_
              refine lv_topi (fun v_8 ev_8 => ?_)
              refine lv_iconst (v := 1) hx hb dX1_moodsOf_31 (by decide) ?_
              refine lv_iand hx hb dX1_moodsOf_32 ?_
              refine lv_topi (fun v_9 ev_9 => ?_)
              refine lv_iconst (v := 1) hx hb dX1_moodsOf_33 (by decide) ?_
              refine lv_icmp_ne (tgt := 49) hx hb dX1_moodsOf_34 (by decide) (fun c_10 => ?_) (fun c_10 => ?_)
              · skip
                refine lv_iinc (v := nI (jj + 1)) (lv' := [(5, .int (nI (jj + 1))), (4, .int rc), (3, .int (nI i)), (2, .int ms), (0, .ref (q 11)), (1, .int (nI d))]) hx hb dX1_moodsOf_49 hl (k := 0) rfl (ninc jj 1 (by decide)) (by decide) rfl (fun ls hl => ?_)
                refine lv_goto (tgt := 20) hx hb dX1_moodsOf_52 (by decide) ?_
                exact ih_lp_5 (jj + 1) rc _ _ _ (by omega) (by omega) hP hD hS (lv_sub hl [0, 1, 2, 3, 4, 5] rfl)
              · skip
                refine lv_iload hx hb dX1_moodsOf_37 (lv_at hl 1 rfl) ?_
                refine lv_aload_n hx hb dX1_moodsOf_39 rfl (lv_at hl 4 rfl) ?_
                refine lv_iload_n hx hb dX1_moodsOf_40 rfl (lv_at hl 2 rfl) ?_
                refine lv_iload hx hb dX1_moodsOf_41 (lv_at hl 0 rfl) ?_
                refine sk_Vi (q0 := 0) (n := 2) (rest := [.int rc]) (wr := fmR om_4_f _) ⟨hx, hb, hml, hown, hts⟩ hl.1 (c_next l D cI cJ cC cZ cS q gd gs e1 e2 e3 i jj (by omega) (by omega)) w_4_57 w_4_59 w_0_20 w_1_13 w_4_60 hd_X1_next_2 ⟨⟨(Nat.le_of_ble_eq_true rfl), (Nat.le_of_ble_eq_true rfl)⟩, (Nat.le_of_ble_eq_true rfl), (Nat.le_of_ble_eq_true rfl)⟩ hK hP hD hS hA (fmT om_4_f 0) (fmF om_4_f 0) (fm_C1 rfl rfl) (fm_R rfl rfl) (fm_nT om_4_f 0) (fm_nF om_4_f 0) (fm_di om_4_f 0) rfl rfl rfl rfl (Nat.le_of_ble_eq_true rfl) dX1_moodsOf_43 (fun r_11 u H locs hw hP hD hS => ?_)
                refine o_mgE (ws' := [(q 11, .inr (1, [.ref (q 10), .ref (q 67), .ref (q 68), .ref (q 69), .ref (q 70), .ref (q 71), .ref (q 72), .int (nI gd), .int (nI gs)])), (q 67, .inl (cI, 90, .inl e1)), (q 68, .inl (cI, 9, .inl e2)), (q 69, .inl (cI, 10, .inl e3))]) hw hP hD rfl (fun hP hD => ?_)
                refine lv_ior hx hb dX1_moodsOf_46 ?_
                refine lv_topi (fun v_12 ev_12 => ?_)
                refine lv_istore (lv' := [(4, .int v_12), (5, .int (nI jj)), (3, .int (nI i)), (2, .int ms), (0, .ref (q 11)), (1, .int (nI d))]) hx hb dX1_moodsOf_47 hl (by decide) rfl (fun ls hl => ?_)
                refine lv_iinc (v := nI (jj + 1)) (lv' := [(5, .int (nI (jj + 1))), (4, .int v_12), (3, .int (nI i)), (2, .int ms), (0, .ref (q 11)), (1, .int (nI d))]) hx hb dX1_moodsOf_49 hl (k := 1) rfl (ninc jj 1 (by decide)) (by decide) rfl (fun ls hl => ?_)
                refine lv_goto (tgt := 20) hx hb dX1_moodsOf_52 (by decide) ?_
                exact ih_lp_5 (jj + 1) v_12 _ _ _ (by omega) (by omega) hP hD hS (lv_sub hl [0, 1, 2, 3, 4, 5] rfl)
        exact lp_5 (10 - 0 + 1) 0 0 _ _ _ (Nat.lt_succ_self _) (by omega) hP hD hS (lv_sub hl [0, 1, 2, 3, 4, 5] rfl)
  exact lp_2 (d + 1 - 0 + 1) 0 v_1 _ _ _ (Nat.lt_succ_self _) (by omega) hP hD hS (lv_sub hl [0, 1, 2, 3] rfl)
theorem dg_X1_takeFirst_0_0 : bqL cX1_takeFirst 0 [(0, [42]), (1, [180, 0, 35]), (4, [61]), (5, [3]), (6, [62]), (7, [29]), (8, [42]), (9, [180, 0, 31]), (12, [162, 0, 26]), (38, [177]), (15, [42]), (16, [29]), (17, [28]), (18, [182, 0, 66]), (21, [184, 0, 70]), (24, [16, 10]), (26, [112]), (27, [61]), (28, [43]), (29, [29]), (30, [28]), (31, [79]), (32, [132, 3, 1]), (35, [167, 255, 228])] = true := by decide +kernel
