theorem dg_X1_takeBestPaid_0_0 : bqL cX1_takeBestPaid 0 [(0, [42]), (1, [180, 0, 35]), (4, [61]), (5, [3]), (6, [62]), (7, [29]), (8, [42]), (9, [180, 0, 31]), (12, [162, 0, 84]), (96, [177]), (15, [42]), (16, [29]), (17, [28]), (18, [182, 0, 66]), (21, [54, 4]), (23, [3]), (24, [54, 5]), (26, [3]), (27, [54, 6]), (29, [21, 6]), (31, [16, 10]), (33, [162, 0, 49]), (82, [43]), (83, [29]), (84, [21, 5]), (86, [79]), (87, [21, 5]), (89, [61]), (90, [132, 3, 1]), (93, [167, 255, 170]), (36, [21, 4]), (38, [21, 6]), (40, [122]), (41, [4]), (42, [126]), (43, [4]), (44, [160, 0, 32]), (76, [132, 6, 1]), (79, [167, 255, 206]), (47, [42])] = true := by decide +kernel
theorem dX1_takeBestPaid_0 : decode cX1_takeBestPaid 0 = .ok (.aload_n 0, 1) := q_aload_n0 (bat_get dg_X1_takeBestPaid_0_0 0 rfl rfl)
theorem dX1_takeBestPaid_1 : decode cX1_takeBestPaid 1 = .ok (.getfield 35, 3) := q_getfield (bat_get dg_X1_takeBestPaid_0_0 1 rfl rfl) rfl
theorem dX1_takeBestPaid_4 : decode cX1_takeBestPaid 4 = .ok (.istore_n 2, 1) := q_istore_n2 (bat_get dg_X1_takeBestPaid_0_0 2 rfl rfl)
theorem dX1_takeBestPaid_5 : decode cX1_takeBestPaid 5 = .ok (.iconst 0, 1) := q_iconst0 (bat_get dg_X1_takeBestPaid_0_0 3 rfl rfl)
theorem dX1_takeBestPaid_6 : decode cX1_takeBestPaid 6 = .ok (.istore_n 3, 1) := q_istore_n3 (bat_get dg_X1_takeBestPaid_0_0 4 rfl rfl)
theorem dX1_takeBestPaid_7 : decode cX1_takeBestPaid 7 = .ok (.iload_n 3, 1) := q_iload_n3 (bat_get dg_X1_takeBestPaid_0_0 5 rfl rfl)
theorem dX1_takeBestPaid_8 : decode cX1_takeBestPaid 8 = .ok (.aload_n 0, 1) := q_aload_n0 (bat_get dg_X1_takeBestPaid_0_0 6 rfl rfl)
theorem dX1_takeBestPaid_9 : decode cX1_takeBestPaid 9 = .ok (.getfield 31, 3) := q_getfield (bat_get dg_X1_takeBestPaid_0_0 7 rfl rfl) rfl
theorem dX1_takeBestPaid_12 : decode cX1_takeBestPaid 12 = .ok (.if_icmp .ge 84, 3) := q_if_icmp_ge (bat_get dg_X1_takeBestPaid_0_0 8 rfl rfl) rfl
theorem dX1_takeBestPaid_96 : decode cX1_takeBestPaid 96 = .ok (.return_, 1) := q_return_ (bat_get dg_X1_takeBestPaid_0_0 9 rfl rfl)
theorem dX1_takeBestPaid_15 : decode cX1_takeBestPaid 15 = .ok (.aload_n 0, 1) := q_aload_n0 (bat_get dg_X1_takeBestPaid_0_0 10 rfl rfl)
theorem dX1_takeBestPaid_16 : decode cX1_takeBestPaid 16 = .ok (.iload_n 3, 1) := q_iload_n3 (bat_get dg_X1_takeBestPaid_0_0 11 rfl rfl)
theorem dX1_takeBestPaid_17 : decode cX1_takeBestPaid 17 = .ok (.iload_n 2, 1) := q_iload_n2 (bat_get dg_X1_takeBestPaid_0_0 12 rfl rfl)
theorem dX1_takeBestPaid_18 : decode cX1_takeBestPaid 18 = .ok (.invokevirtual 66, 3) := q_invokevirtual (bat_get dg_X1_takeBestPaid_0_0 13 rfl rfl) rfl
theorem dX1_takeBestPaid_21 : decode cX1_takeBestPaid 21 = .ok (.istore 4, 2) := q_istore (bat_get dg_X1_takeBestPaid_0_0 14 rfl rfl)
theorem dX1_takeBestPaid_23 : decode cX1_takeBestPaid 23 = .ok (.iconst 0, 1) := q_iconst0 (bat_get dg_X1_takeBestPaid_0_0 15 rfl rfl)
theorem dX1_takeBestPaid_24 : decode cX1_takeBestPaid 24 = .ok (.istore 5, 2) := q_istore (bat_get dg_X1_takeBestPaid_0_0 16 rfl rfl)
theorem dX1_takeBestPaid_26 : decode cX1_takeBestPaid 26 = .ok (.iconst 0, 1) := q_iconst0 (bat_get dg_X1_takeBestPaid_0_0 17 rfl rfl)
theorem dX1_takeBestPaid_27 : decode cX1_takeBestPaid 27 = .ok (.istore 6, 2) := q_istore (bat_get dg_X1_takeBestPaid_0_0 18 rfl rfl)
theorem dX1_takeBestPaid_29 : decode cX1_takeBestPaid 29 = .ok (.iload 6, 2) := q_iload (bat_get dg_X1_takeBestPaid_0_0 19 rfl rfl)
theorem dX1_takeBestPaid_31 : decode cX1_takeBestPaid 31 = .ok (.bipush 10, 2) := q_bipush (bat_get dg_X1_takeBestPaid_0_0 20 rfl rfl) rfl
theorem dX1_takeBestPaid_33 : decode cX1_takeBestPaid 33 = .ok (.if_icmp .ge 49, 3) := q_if_icmp_ge (bat_get dg_X1_takeBestPaid_0_0 21 rfl rfl) rfl
theorem dX1_takeBestPaid_82 : decode cX1_takeBestPaid 82 = .ok (.aload_n 1, 1) := q_aload_n1 (bat_get dg_X1_takeBestPaid_0_0 22 rfl rfl)
theorem dX1_takeBestPaid_83 : decode cX1_takeBestPaid 83 = .ok (.iload_n 3, 1) := q_iload_n3 (bat_get dg_X1_takeBestPaid_0_0 23 rfl rfl)
theorem dX1_takeBestPaid_84 : decode cX1_takeBestPaid 84 = .ok (.iload 5, 2) := q_iload (bat_get dg_X1_takeBestPaid_0_0 24 rfl rfl)
theorem dX1_takeBestPaid_86 : decode cX1_takeBestPaid 86 = .ok (.iastore, 1) := q_iastore (bat_get dg_X1_takeBestPaid_0_0 25 rfl rfl)
theorem dX1_takeBestPaid_87 : decode cX1_takeBestPaid 87 = .ok (.iload 5, 2) := q_iload (bat_get dg_X1_takeBestPaid_0_0 26 rfl rfl)
theorem dX1_takeBestPaid_89 : decode cX1_takeBestPaid 89 = .ok (.istore_n 2, 1) := q_istore_n2 (bat_get dg_X1_takeBestPaid_0_0 27 rfl rfl)
theorem dX1_takeBestPaid_90 : decode cX1_takeBestPaid 90 = .ok (.iinc 3 1, 3) := q_iinc (bat_get dg_X1_takeBestPaid_0_0 28 rfl rfl) rfl
theorem dX1_takeBestPaid_93 : decode cX1_takeBestPaid 93 = .ok (.goto (-86), 3) := q_goto (bat_get dg_X1_takeBestPaid_0_0 29 rfl rfl) rfl
theorem dX1_takeBestPaid_36 : decode cX1_takeBestPaid 36 = .ok (.iload 4, 2) := q_iload (bat_get dg_X1_takeBestPaid_0_0 30 rfl rfl)
theorem dX1_takeBestPaid_38 : decode cX1_takeBestPaid 38 = .ok (.iload 6, 2) := q_iload (bat_get dg_X1_takeBestPaid_0_0 31 rfl rfl)
theorem dX1_takeBestPaid_40 : decode cX1_takeBestPaid 40 = .ok (.ishr, 1) := q_ishr (bat_get dg_X1_takeBestPaid_0_0 32 rfl rfl)
theorem dX1_takeBestPaid_41 : decode cX1_takeBestPaid 41 = .ok (.iconst 1, 1) := q_iconst1 (bat_get dg_X1_takeBestPaid_0_0 33 rfl rfl)
theorem dX1_takeBestPaid_42 : decode cX1_takeBestPaid 42 = .ok (.iand, 1) := q_iand (bat_get dg_X1_takeBestPaid_0_0 34 rfl rfl)
theorem dX1_takeBestPaid_43 : decode cX1_takeBestPaid 43 = .ok (.iconst 1, 1) := q_iconst1 (bat_get dg_X1_takeBestPaid_0_0 35 rfl rfl)
theorem dX1_takeBestPaid_44 : decode cX1_takeBestPaid 44 = .ok (.if_icmp .ne 32, 3) := q_if_icmp_ne (bat_get dg_X1_takeBestPaid_0_0 36 rfl rfl) rfl
theorem dX1_takeBestPaid_76 : decode cX1_takeBestPaid 76 = .ok (.iinc 6 1, 3) := q_iinc (bat_get dg_X1_takeBestPaid_0_0 37 rfl rfl) rfl
theorem dX1_takeBestPaid_79 : decode cX1_takeBestPaid 79 = .ok (.goto (-50), 3) := q_goto (bat_get dg_X1_takeBestPaid_0_0 38 rfl rfl) rfl
theorem dX1_takeBestPaid_47 : decode cX1_takeBestPaid 47 = .ok (.aload_n 0, 1) := q_aload_n0 (bat_get dg_X1_takeBestPaid_0_0 39 rfl rfl)
theorem dg_X1_takeBestPaid_48_48 : bqL cX1_takeBestPaid 48 [(0, [29]), (1, [21, 6]), (3, [182, 0, 91]), (6, [42]), (7, [180, 0, 28]), (10, [29]), (11, [16, 10]), (13, [104]), (14, [28]), (15, [96]), (16, [47]), (17, [148]), (18, [154, 0, 10]), (21, [21, 6]), (23, [54, 5]), (25, [167, 0, 9])] = true := by decide +kernel
theorem dX1_takeBestPaid_48 : decode cX1_takeBestPaid 48 = .ok (.iload_n 3, 1) := q_iload_n3 (bat_get dg_X1_takeBestPaid_48_48 0 rfl rfl)
theorem dX1_takeBestPaid_49 : decode cX1_takeBestPaid 49 = .ok (.iload 6, 2) := q_iload (bat_get dg_X1_takeBestPaid_48_48 1 rfl rfl)
theorem dX1_takeBestPaid_51 : decode cX1_takeBestPaid 51 = .ok (.invokevirtual 91, 3) := q_invokevirtual (bat_get dg_X1_takeBestPaid_48_48 2 rfl rfl) rfl
theorem dX1_takeBestPaid_54 : decode cX1_takeBestPaid 54 = .ok (.aload_n 0, 1) := q_aload_n0 (bat_get dg_X1_takeBestPaid_48_48 3 rfl rfl)
theorem dX1_takeBestPaid_55 : decode cX1_takeBestPaid 55 = .ok (.getfield 28, 3) := q_getfield (bat_get dg_X1_takeBestPaid_48_48 4 rfl rfl) rfl
theorem dX1_takeBestPaid_58 : decode cX1_takeBestPaid 58 = .ok (.iload_n 3, 1) := q_iload_n3 (bat_get dg_X1_takeBestPaid_48_48 5 rfl rfl)
theorem dX1_takeBestPaid_59 : decode cX1_takeBestPaid 59 = .ok (.bipush 10, 2) := q_bipush (bat_get dg_X1_takeBestPaid_48_48 6 rfl rfl) rfl
theorem dX1_takeBestPaid_61 : decode cX1_takeBestPaid 61 = .ok (.imul, 1) := q_imul (bat_get dg_X1_takeBestPaid_48_48 7 rfl rfl)
theorem dX1_takeBestPaid_62 : decode cX1_takeBestPaid 62 = .ok (.iload_n 2, 1) := q_iload_n2 (bat_get dg_X1_takeBestPaid_48_48 8 rfl rfl)
theorem dX1_takeBestPaid_63 : decode cX1_takeBestPaid 63 = .ok (.iadd, 1) := q_iadd (bat_get dg_X1_takeBestPaid_48_48 9 rfl rfl)
theorem dX1_takeBestPaid_64 : decode cX1_takeBestPaid 64 = .ok (.laload, 1) := q_laload (bat_get dg_X1_takeBestPaid_48_48 10 rfl rfl)
theorem dX1_takeBestPaid_65 : decode cX1_takeBestPaid 65 = .ok (.lcmp, 1) := q_lcmp (bat_get dg_X1_takeBestPaid_48_48 11 rfl rfl)
theorem dX1_takeBestPaid_66 : decode cX1_takeBestPaid 66 = .ok (.ifCond .ne 10, 3) := q_ifCond_ne (bat_get dg_X1_takeBestPaid_48_48 12 rfl rfl) rfl
theorem dX1_takeBestPaid_69 : decode cX1_takeBestPaid 69 = .ok (.iload 6, 2) := q_iload (bat_get dg_X1_takeBestPaid_48_48 13 rfl rfl)
theorem dX1_takeBestPaid_71 : decode cX1_takeBestPaid 71 = .ok (.istore 5, 2) := q_istore (bat_get dg_X1_takeBestPaid_48_48 14 rfl rfl)
theorem dX1_takeBestPaid_73 : decode cX1_takeBestPaid 73 = .ok (.goto 9, 3) := q_goto (bat_get dg_X1_takeBestPaid_48_48 15 rfl rfl) rfl
theorem w_4_173 : (Cond.code yX1_takeBestPaid cX1_takeBestPaid 7 none) ∈ wsL_law := sk_mem (ck_4 _ (List.mem_of_getElem? (i := 173) rfl)) rfl
def om_8_f0 : List Bool := true :: true :: true :: true :: false :: false :: false :: false :: []
def om_8_8e : List Bool := true :: false :: false :: false :: true :: true :: true :: false :: []
set_option maxHeartbeats 4000000 in
set_option maxRecDepth 100000 in
theorem c_takeBestPaid (l : Launch) (D : va_G) (cI cJ cC cZ cS : ClassId) (q : Nat → Nat) (gd : Nat) (gs : Nat) (e1 : Nat → Int32) (e2 : Nat → Int32) (e3 : Nat → Int32) (e6 : Nat → Int64) (fg : Nat → Int64) (rw : Nat) (ra : Nat → Int32) (hgd : gd ≤ 9) (hgs : gs ≤ 9) : skM l yX1_takeBestPaid cX1_takeBestPaid 7 none 1 22 0 0 D (skT cI cJ cC cZ cS) [.ref (q 11), .ref rw] [(q 11, .inr (1, [.ref (q 10), .ref (q 67), .ref (q 68), .ref (q 69), .ref (q 70), .ref (q 71), .ref (q 72), .int (nI gd), .int (nI gs)])), (q 67, .inl (cI, 90, .inl e1)), (q 68, .inl (cI, 9, .inl e2)), (q 69, .inl (cI, 10, .inl e3)), (q 72, .inl (cJ, 100, .inr (.inl e6))), (q 10, .inr (9, [.ref (q 61), .ref (q 62), .ref (q 63), .ref (q 64), .ref (q 65), .ref (q 66)])), (q 65, .inl (cJ, 90, .inr (.inl fg))), (rw, .inl (cI, 9, .inl ra))] (skV D (skT cI cJ cC cZ cS) (fun (u : va_W) => ∃ (ra2 : Nat → Int32), rowOk ra2 gd ∧ u = [(q 11, .inr (1, [.ref (q 10), .ref (q 67), .ref (q 68), .ref (q 69), .ref (q 70), .ref (q 71), .ref (q 72), .int (nI gd), .int (nI gs)])), (q 67, .inl (cI, 90, .inl e1)), (q 68, .inl (cI, 9, .inl e2)), (q 69, .inl (cI, 10, .inl e3)), (q 72, .inl (cJ, 100, .inr (.inl e6))), (q 10, .inr (9, [.ref (q 61), .ref (q 62), .ref (q 63), .ref (q 64), .ref (q 65), .ref (q 66)])), (q 65, .inl (cJ, 90, .inr (.inl fg))), (rw, .inl (cI, 9, .inl ra2))])) := by
  refine skM_of pf_X1_takeBestPaid (Nat.le_of_ble_eq_true rfl) ?_
  intro p e s m below meth c A ls E hP hD hl
  refine skE_el E (fun hx hb hr hml hlocks hin hown hts hK hA => ?_)
  have hown : s.vm.findClass RX1 = some m.cls := hown
  have hS : va_S A s.heap s.heap [] := va_S.rf
  have hl : lv_has ls 7 [(0, .ref (q 11)), (1, .ref rw)] := hl
  refine lv_aload_n hx hb dX1_takeBestPaid_0 rfl (lv_at hl 0 rfl) ?_
  refine sk_get (v := .int (nI gs)) (C := RX1) (T := TX1) (N := 9) hx hb hts inlX1 hown hK hP 0 rfl rfl 8 (by decide) w_2_103 rfl dX1_takeBestPaid_1 ?_
  refine lv_istore_n (lv' := [(2, .int (nI gs)), (0, .ref (q 11)), (1, .ref rw)]) hx hb dX1_takeBestPaid_4 rfl hl (by decide) rfl (fun ls hl => ?_)
  refine lv_iconst (v := 0) hx hb dX1_takeBestPaid_5 (by decide) ?_
  refine lv_istore_n (lv' := [(3, .int 0), (2, .int (nI gs)), (0, .ref (q 11)), (1, .ref rw)]) hx hb dX1_takeBestPaid_6 rfl hl (by decide) rfl (fun ls hl => ?_)
  have lp_1 : ∀ (n_2 : Nat) (i : Nat) (ah : Nat) (rb : Nat → Int32) (H : Heap) (locs : List Loc) (ls : Array Slot), gd - i < n_2 → (i ≤ gd) → (ah < 10) → (rowOk rb i) → va_P D vwCl [(q 11, .inr (1, [.ref (q 10), .ref (q 67), .ref (q 68), .ref (q 69), .ref (q 70), .ref (q 71), .ref (q 72), .int (nI gd), .int (nI gs)])), (q 67, .inl (cI, 90, .inl e1)), (q 68, .inl (cI, 9, .inl e2)), (q 69, .inl (cI, 10, .inl e3)), (q 72, .inl (cJ, 100, .inr (.inl e6))), (q 10, .inr (9, [.ref (q 61), .ref (q 62), .ref (q 63), .ref (q 64), .ref (q 65), .ref (q 66)])), (q 65, .inl (cJ, 90, .inr (.inl fg))), (rw, .inl (cI, 9, .inl rb))] H → va_D A [(q 11, .inr (1, [.ref (q 10), .ref (q 67), .ref (q 68), .ref (q 69), .ref (q 70), .ref (q 71), .ref (q 72), .int (nI gd), .int (nI gs)])), (q 67, .inl (cI, 90, .inl e1)), (q 68, .inl (cI, 9, .inl e2)), (q 69, .inl (cI, 10, .inl e3)), (q 72, .inl (cJ, 100, .inr (.inl e6))), (q 10, .inr (9, [.ref (q 61), .ref (q 62), .ref (q 63), .ref (q 64), .ref (q 65), .ref (q 66)])), (q 65, .inl (cJ, 90, .inr (.inl fg))), (rw, .inl (cI, 9, .inl rb))] → va_S A s.heap H locs → lv_has ls 7 [(3, .int (nI i)), (2, .int (nI ah)), (0, .ref (q 11)), (1, .ref rw)] → W p l e { frames := 1, cells := 0, slots := 0, locals := 22 } s m ([.ref (q 11), .ref rw] : List Value).toArray below meth c H locs 0 0 (MQ below (skV D (skT cI cJ cC cZ cS) (fun (u : va_W) => ∃ (ra2 : Nat → Int32), rowOk ra2 gd ∧ u = [(q 11, .inr (1, [.ref (q 10), .ref (q 67), .ref (q 68), .ref (q 69), .ref (q 70), .ref (q 71), .ref (q 72), .int (nI gd), .int (nI gs)])), (q 67, .inl (cI, 90, .inl e1)), (q 68, .inl (cI, 9, .inl e2)), (q 69, .inl (cI, 10, .inl e3)), (q 72, .inl (cJ, 100, .inr (.inl e6))), (q 10, .inr (9, [.ref (q 61), .ref (q 62), .ref (q 63), .ref (q 64), .ref (q 65), .ref (q 66)])), (q 65, .inl (cJ, 90, .inr (.inl fg))), (rw, .inl (cI, 9, .inl ra2))]) A) ([.ref (q 11), .ref rw] : List Value).toArray s 0 0 A) (F0 m 7 ls []) := by
    intro n_2
    induction n_2 with
    | zero => intro i ah rb H locs ls hm; exact absurd hm (Nat.not_lt_zero _)
    | succ n_2 ih_lp_1 =>
      intro i ah rb H locs ls hm hi hah hro hP hD hS hl
      refine lv_iload_n hx hb dX1_takeBestPaid_7 rfl (lv_at hl 0 rfl) ?_
      refine lv_aload_n hx hb dX1_takeBestPaid_8 rfl (lv_at hl 2 rfl) ?_
      refine sk_get (v := .int (nI gd)) (C := RX1) (T := TX1) (N := 9) hx hb hts inlX1 hown hK hP 0 rfl rfl 7 (by decide) w_2_102 rfl dX1_takeBestPaid_9 ?_
      refine lv_icmp_ge (tgt := 96) hx hb dX1_takeBestPaid_12 (by decide) (fun c_3 => ?_) (fun c_3 => ?_)
      · have c_3 : gd ≤ i := (nle gd i (by omega) (by omega)).mp c_3
        exact sk_vret hx hb hr hlocks hK hP hD hS (⟨rb, by rw [show gd = i by omega]; exact hro, rfl⟩) (Nat.le_of_ble_eq_true rfl) (Nat.le_of_ble_eq_true rfl) dX1_takeBestPaid_96
      · have c_3 : ¬ (gd ≤ i) := fun h => c_3 ((nle gd i (by omega) (by omega)).mpr h)
        refine lv_aload_n hx hb dX1_takeBestPaid_15 rfl (lv_at hl 2 rfl) ?_
        refine lv_iload_n hx hb dX1_takeBestPaid_16 rfl (lv_at hl 0 rfl) ?_
        refine lv_iload_n hx hb dX1_takeBestPaid_17 rfl (lv_at hl 1 rfl) ?_
        refine sk_Vi (q0 := 0) (n := 2) (rest := []) (wr := fmR om_8_f0 _) ⟨hx, hb, hml, hown, hts⟩ hl.1 (c_next l D cI cJ cC cZ cS q gd gs e1 e2 e3 i ah (by omega) (by omega)) w_4_57 w_4_59 w_0_20 w_1_13 w_4_60 hd_X1_next_2 ⟨⟨(Nat.le_of_ble_eq_true rfl), (Nat.le_of_ble_eq_true rfl)⟩, (Nat.le_of_ble_eq_true rfl), (Nat.le_of_ble_eq_true rfl)⟩ hK hP hD hS hA (fmT om_8_f0 0) (fmF om_8_f0 0) (fm_C1 rfl rfl) (fm_R rfl rfl) (fm_nT om_8_f0 0) (fm_nF om_8_f0 0) (fm_di om_8_f0 0) rfl rfl rfl rfl (Nat.le_of_ble_eq_true rfl) dX1_takeBestPaid_18 (fun r_4 u H locs hw hP hD hS => ?_)
        refine o_mgE (ws' := [(q 11, .inr (1, [.ref (q 10), .ref (q 67), .ref (q 68), .ref (q 69), .ref (q 70), .ref (q 71), .ref (q 72), .int (nI gd), .int (nI gs)])), (q 67, .inl (cI, 90, .inl e1)), (q 68, .inl (cI, 9, .inl e2)), (q 69, .inl (cI, 10, .inl e3)), (q 72, .inl (cJ, 100, .inr (.inl e6))), (q 10, .inr (9, [.ref (q 61), .ref (q 62), .ref (q 63), .ref (q 64), .ref (q 65), .ref (q 66)])), (q 65, .inl (cJ, 90, .inr (.inl fg))), (rw, .inl (cI, 9, .inl rb))]) hw hP hD rfl (fun hP hD => ?_)
        refine lv_istore (lv' := [(4, .int r_4), (3, .int (nI i)), (2, .int (nI ah)), (0, .ref (q 11)), (1, .ref rw)]) hx hb dX1_takeBestPaid_21 hl (by decide) rfl (fun ls hl => ?_)
        refine lv_iconst (v := 0) hx hb dX1_takeBestPaid_23 (by decide) ?_
        refine lv_istore (lv' := [(5, .int 0), (4, .int r_4), (3, .int (nI i)), (2, .int (nI ah)), (0, .ref (q 11)), (1, .ref rw)]) hx hb dX1_takeBestPaid_24 hl (by decide) rfl (fun ls hl => ?_)
        refine lv_iconst (v := 0) hx hb dX1_takeBestPaid_26 (by decide) ?_
        refine lv_istore (lv' := [(6, .int 0), (5, .int 0), (4, .int r_4), (3, .int (nI i)), (2, .int (nI ah)), (0, .ref (q 11)), (1, .ref rw)]) hx hb dX1_takeBestPaid_27 hl (by decide) rfl (fun ls hl => ?_)
        have lp_5 : ∀ (n_6 : Nat) (jj : Nat) (H : Heap) (locs : List Loc) (ls : Array Slot), 10 - jj < n_6 → (jj ≤ 10) → va_P D vwCl [(q 11, .inr (1, [.ref (q 10), .ref (q 67), .ref (q 68), .ref (q 69), .ref (q 70), .ref (q 71), .ref (q 72), .int (nI gd), .int (nI gs)])), (q 67, .inl (cI, 90, .inl e1)), (q 68, .inl (cI, 9, .inl e2)), (q 69, .inl (cI, 10, .inl e3)), (q 72, .inl (cJ, 100, .inr (.inl e6))), (q 10, .inr (9, [.ref (q 61), .ref (q 62), .ref (q 63), .ref (q 64), .ref (q 65), .ref (q 66)])), (q 65, .inl (cJ, 90, .inr (.inl fg))), (rw, .inl (cI, 9, .inl rb))] H → va_D A [(q 11, .inr (1, [.ref (q 10), .ref (q 67), .ref (q 68), .ref (q 69), .ref (q 70), .ref (q 71), .ref (q 72), .int (nI gd), .int (nI gs)])), (q 67, .inl (cI, 90, .inl e1)), (q 68, .inl (cI, 9, .inl e2)), (q 69, .inl (cI, 10, .inl e3)), (q 72, .inl (cJ, 100, .inr (.inl e6))), (q 10, .inr (9, [.ref (q 61), .ref (q 62), .ref (q 63), .ref (q 64), .ref (q 65), .ref (q 66)])), (q 65, .inl (cJ, 90, .inr (.inl fg))), (rw, .inl (cI, 9, .inl rb))] → va_S A s.heap H locs → lv_has ls 7 [(6, .int (nI jj)), (5, .int 0), (4, .int r_4), (3, .int (nI i)), (2, .int (nI ah)), (0, .ref (q 11)), (1, .ref rw)] → W p l e { frames := 1, cells := 0, slots := 0, locals := 22 } s m ([.ref (q 11), .ref rw] : List Value).toArray below meth c H locs 0 0 (MQ below (skV D (skT cI cJ cC cZ cS) (fun (u : va_W) => ∃ (ra2 : Nat → Int32), rowOk ra2 gd ∧ u = [(q 11, .inr (1, [.ref (q 10), .ref (q 67), .ref (q 68), .ref (q 69), .ref (q 70), .ref (q 71), .ref (q 72), .int (nI gd), .int (nI gs)])), (q 67, .inl (cI, 90, .inl e1)), (q 68, .inl (cI, 9, .inl e2)), (q 69, .inl (cI, 10, .inl e3)), (q 72, .inl (cJ, 100, .inr (.inl e6))), (q 10, .inr (9, [.ref (q 61), .ref (q 62), .ref (q 63), .ref (q 64), .ref (q 65), .ref (q 66)])), (q 65, .inl (cJ, 90, .inr (.inl fg))), (rw, .inl (cI, 9, .inl ra2))]) A) ([.ref (q 11), .ref rw] : List Value).toArray s 0 0 A) (F0 m 29 ls []) := by
          intro n_6
          induction n_6 with
          | zero => intro jj H locs ls hm; exact absurd hm (Nat.not_lt_zero _)
          | succ n_6 ih_lp_5 =>
            intro jj H locs ls hm hjj hP hD hS hl
            refine lv_iload hx hb dX1_takeBestPaid_29 (lv_at hl 0 rfl) ?_
            refine lv_bipush (v := 10) hx hb dX1_takeBestPaid_31 (by decide) ?_
            refine lv_icmp_ge (tgt := 82) hx hb dX1_takeBestPaid_33 (by decide) (fun c_7 => ?_) (fun c_7 => ?_)
            · have c_7 : 10 ≤ jj := (nle 10 jj (by omega) (by omega)).mp c_7
              refine lv_aload_n hx hb dX1_takeBestPaid_82 rfl (lv_at hl 6 rfl) ?_
              refine lv_iload_n hx hb dX1_takeBestPaid_83 rfl (lv_at hl 3 rfl) ?_
              refine lv_iload hx hb dX1_takeBestPaid_84 (lv_at hl 1 rfl) ?_
              refine sk_iast (ws' := [(q 11, .inr (1, [.ref (q 10), .ref (q 67), .ref (q 68), .ref (q 69), .ref (q 70), .ref (q 71), .ref (q 72), .int (nI gd), .int (nI gs)])), (q 67, .inl (cI, 90, .inl e1)), (q 68, .inl (cI, 9, .inl e2)), (q 69, .inl (cI, 10, .inl e3)), (q 72, .inl (cJ, 100, .inr (.inl e6))), (q 10, .inr (9, [.ref (q 61), .ref (q 62), .ref (q 63), .ref (q 64), .ref (q 65), .ref (q 66)])), (q 65, .inl (cJ, 90, .inr (.inl fg))), (rw, .inl (cI, 9, .inl (upd rb (nI i).toNatClampNeg (nI 0))))]) hx hb hK hP hD hS 7 0 rfl rfl (vin i 9 (by omega) (by omega)) rfl dX1_takeBestPaid_86 (fun H locs hP hD hS => ?_)
              have ho_9 := rowOk_up (f := rb) (i := i) (v := 0) hro (by omega) (by omega)
              generalize ef_10 : upd rb (nI i).toNatClampNeg (nI 0) = f_8 at hP hD ho_9
              refine lv_iload hx hb dX1_takeBestPaid_87 (lv_at hl 1 rfl) ?_
              refine lv_istore_n (lv' := [(2, .int 0), (6, .int (nI jj)), (5, .int 0), (4, .int r_4), (3, .int (nI i)), (0, .ref (q 11)), (1, .ref rw)]) hx hb dX1_takeBestPaid_89 rfl hl (by decide) rfl (fun ls hl => ?_)
              refine lv_iinc (v := nI (i + 1)) (lv' := [(3, .int (nI (i + 1))), (2, .int 0), (6, .int (nI jj)), (5, .int 0), (4, .int r_4), (0, .ref (q 11)), (1, .ref rw)]) hx hb dX1_takeBestPaid_90 hl (k := 4) rfl (ninc i 1 (by decide)) (by decide) rfl (fun ls hl => ?_)
              refine lv_goto (tgt := 7) hx hb dX1_takeBestPaid_93 (by decide) ?_
              exact ih_lp_1 (i + 1) 0 f_8 _ _ _ (by omega) (by omega) (by omega) ho_9 hP hD hS (lv_sub hl [0, 1, 5, 6] rfl)
            · have c_7 : ¬ (10 ≤ jj) := fun h => c_7 ((nle 10 jj (by omega) (by omega)).mpr h)
              refine lv_iload hx hb dX1_takeBestPaid_36 (lv_at hl 2 rfl) ?_
              refine lv_iload hx hb dX1_takeBestPaid_38 (lv_at hl 0 rfl) ?_
              refine lv_ishr hx hb dX1_takeBestPaid_40 ?_
              refine lv_topi (fun v_11 ev_11 => ?_)
              refine lv_iconst (v := 1) hx hb dX1_takeBestPaid_41 (by decide) ?_
              refine lv_iand hx hb dX1_takeBestPaid_42 ?_
              refine lv_topi (fun v_12 ev_12 => ?_)
              refine lv_iconst (v := 1) hx hb dX1_takeBestPaid_43 (by decide) ?_
              refine lv_icmp_ne (tgt := 76) hx hb dX1_takeBestPaid_44 (by decide) (fun c_13 => ?_) (fun c_13 => ?_)
              · skip
                refine lv_iinc (v := nI (jj + 1)) (lv' := [(6, .int (nI (jj + 1))), (5, .int 0), (4, .int r_4), (3, .int (nI i)), (2, .int (nI ah)), (0, .ref (q 11)), (1, .ref rw)]) hx hb dX1_takeBestPaid_76 hl (k := 0) rfl (ninc jj 1 (by decide)) (by decide) rfl (fun ls hl => ?_)
                refine lv_goto (tgt := 29) hx hb dX1_takeBestPaid_79 (by decide) ?_
                exact ih_lp_5 (jj + 1) _ _ _ (by omega) (by omega) hP hD hS (lv_sub hl [0, 1, 2, 3, 4, 5, 6] rfl)
              · skip
                refine lv_aload_n hx hb dX1_takeBestPaid_47 rfl (lv_at hl 5 rfl) ?_
                refine lv_iload_n hx hb dX1_takeBestPaid_48 rfl (lv_at hl 3 rfl) ?_
                refine lv_iload hx hb dX1_takeBestPaid_49 (lv_at hl 0 rfl) ?_
                refine sk_Vl (q0 := 0) (n := 2) (rest := []) (wr := fmR om_8_8e _) ⟨hx, hb, hml, hown, hts⟩ hl.1 (c_gainBy l D cI cJ cC cZ cS q gd gs e6 fg i jj (by omega) (by omega)) w_4_161 w_4_163 w_0_26 w_1_13 w_4_164 hd_X1_gainBy_2 ⟨⟨(Nat.le_of_ble_eq_true rfl), (Nat.le_of_ble_eq_true rfl)⟩, (Nat.le_of_ble_eq_true rfl), (Nat.le_of_ble_eq_true rfl)⟩ hK hP hD hS hA (fmT om_8_8e 0) (fmF om_8_8e 0) (fm_C1 rfl rfl) (fm_R rfl rfl) (fm_nT om_8_8e 0) (fm_nF om_8_8e 0) (fm_di om_8_8e 0) rfl rfl rfl rfl (Nat.le_of_ble_eq_true rfl) dX1_takeBestPaid_51 (fun r_14 u H locs hw hP hD hS => ?_)
                refine o_mgE (ws' := [(q 11, .inr (1, [.ref (q 10), .ref (q 67), .ref (q 68), .ref (q 69), .ref (q 70), .ref (q 71), .ref (q 72), .int (nI gd), .int (nI gs)])), (q 67, .inl (cI, 90, .inl e1)), (q 68, .inl (cI, 9, .inl e2)), (q 69, .inl (cI, 10, .inl e3)), (q 72, .inl (cJ, 100, .inr (.inl e6))), (q 10, .inr (9, [.ref (q 61), .ref (q 62), .ref (q 63), .ref (q 64), .ref (q 65), .ref (q 66)])), (q 65, .inl (cJ, 90, .inr (.inl fg))), (rw, .inl (cI, 9, .inl rb))]) hw hP hD rfl (fun hP hD => ?_)
                refine lv_aload_n hx hb dX1_takeBestPaid_54 rfl (lv_at hl 5 rfl) ?_
                refine sk_get (v := .ref (q 72)) (C := RX1) (T := TX1) (N := 9) hx hb hts inlX1 hown hK hP 0 rfl rfl 6 (by decide) w_2_101 rfl dX1_takeBestPaid_55 ?_
                refine lv_iload_n hx hb dX1_takeBestPaid_58 rfl (lv_at hl 3 rfl) ?_
                refine lv_bipush (v := 10) hx hb dX1_takeBestPaid_59 (by decide) ?_
                refine lv_imul hx hb dX1_takeBestPaid_61 ?_
                refine sk_top (nI (i * 10)) (nmul i 10) ?_
                refine lv_iload_n hx hb dX1_takeBestPaid_62 rfl (lv_at hl 4 rfl) ?_
                refine lv_iadd hx hb dX1_takeBestPaid_63 ?_
                refine sk_top (nI (i * 10 + ah)) (nI_add (i * 10) ah) ?_
                refine va_lald hx hb hK.1 hP 4 1 rfl rfl (vin (i * 10 + ah) 100 (by omega) (by omega)) dX1_takeBestPaid_64 ?_
                refine lv_topl (fun v_15 ev_15 => ?_)
                refine W.lcmp hx hb dX1_takeBestPaid_65 ?_
                refine lv_if_ne (tgt := 76) hx hb dX1_takeBestPaid_66 (by decide) (fun c_16 => ?_) (fun c_16 => ?_)
                · skip
                  refine lv_iinc (v := nI (jj + 1)) (lv' := [(6, .int (nI (jj + 1))), (5, .int 0), (4, .int r_4), (3, .int (nI i)), (2, .int (nI ah)), (0, .ref (q 11)), (1, .ref rw)]) hx hb dX1_takeBestPaid_76 hl (k := 0) rfl (ninc jj 1 (by decide)) (by decide) rfl (fun ls hl => ?_)
                  refine lv_goto (tgt := 29) hx hb dX1_takeBestPaid_79 (by decide) ?_
                  exact ih_lp_5 (jj + 1) _ _ _ (by omega) (by omega) hP hD hS (lv_sub hl [0, 1, 2, 3, 4, 5, 6] rfl)
                · skip
                  refine lv_iload hx hb dX1_takeBestPaid_69 (lv_at hl 0 rfl) ?_
                  refine lv_istore (lv' := [(5, .int (nI jj)), (6, .int (nI jj)), (4, .int r_4), (3, .int (nI i)), (2, .int (nI ah)), (0, .ref (q 11)), (1, .ref rw)]) hx hb dX1_takeBestPaid_71 hl (by decide) rfl (fun ls hl => ?_)
                  refine lv_goto (tgt := 82) hx hb dX1_takeBestPaid_73 (by decide) ?_
                  refine lv_aload_n hx hb dX1_takeBestPaid_82 rfl (lv_at hl 6 rfl) ?_
                  refine lv_iload_n hx hb dX1_takeBestPaid_83 rfl (lv_at hl 3 rfl) ?_
                  refine lv_iload hx hb dX1_takeBestPaid_84 (lv_at hl 0 rfl) ?_
                  refine sk_iast (ws' := [(q 11, .inr (1, [.ref (q 10), .ref (q 67), .ref (q 68), .ref (q 69), .ref (q 70), .ref (q 71), .ref (q 72), .int (nI gd), .int (nI gs)])), (q 67, .inl (cI, 90, .inl e1)), (q 68, .inl (cI, 9, .inl e2)), (q 69, .inl (cI, 10, .inl e3)), (q 72, .inl (cJ, 100, .inr (.inl e6))), (q 10, .inr (9, [.ref (q 61), .ref (q 62), .ref (q 63), .ref (q 64), .ref (q 65), .ref (q 66)])), (q 65, .inl (cJ, 90, .inr (.inl fg))), (rw, .inl (cI, 9, .inl (upd rb (nI i).toNatClampNeg (nI jj))))]) hx hb hK hP hD hS 7 0 rfl rfl (vin i 9 (by omega) (by omega)) rfl dX1_takeBestPaid_86 (fun H locs hP hD hS => ?_)
                  have ho_18 := rowOk_up (f := rb) (i := i) (v := jj) hro (by omega) (by omega)
                  generalize ef_19 : upd rb (nI i).toNatClampNeg (nI jj) = f_17 at hP hD ho_18
                  refine lv_iload hx hb dX1_takeBestPaid_87 (lv_at hl 0 rfl) ?_
                  refine lv_istore_n (lv' := [(2, .int (nI jj)), (5, .int (nI jj)), (6, .int (nI jj)), (4, .int r_4), (3, .int (nI i)), (0, .ref (q 11)), (1, .ref rw)]) hx hb dX1_takeBestPaid_89 rfl hl (by decide) rfl (fun ls hl => ?_)
                  refine lv_iinc (v := nI (i + 1)) (lv' := [(3, .int (nI (i + 1))), (2, .int (nI jj)), (5, .int (nI jj)), (6, .int (nI jj)), (4, .int r_4), (0, .ref (q 11)), (1, .ref rw)]) hx hb dX1_takeBestPaid_90 hl (k := 4) rfl (ninc i 1 (by decide)) (by decide) rfl (fun ls hl => ?_)
                  refine lv_goto (tgt := 7) hx hb dX1_takeBestPaid_93 (by decide) ?_
                  exact ih_lp_1 (i + 1) jj f_17 _ _ _ (by omega) (by omega) (by omega) ho_18 hP hD hS (lv_sub hl [0, 1, 5, 6] rfl)
        exact lp_5 (10 - 0 + 1) 0 _ _ _ (Nat.lt_succ_self _) (by omega) hP hD hS (lv_sub hl [0, 1, 2, 3, 4, 5, 6] rfl)
  exact lp_1 (gd - 0 + 1) 0 gs ra _ _ _ (Nat.lt_succ_self _) (by omega) (by omega) (rowOk_0 _) hP hD hS (lv_sub hl [0, 1, 2, 3] rfl)

