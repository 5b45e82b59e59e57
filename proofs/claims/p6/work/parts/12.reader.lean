theorem dX6_fail_0 : decode cX6_fail 0 = .ok (.aload_n 0, 1) := by decide +kernel
theorem dX6_fail_1 : decode cX6_fail 1 = .ok (.getfield 27, 3) := by decide +kernel
theorem dX6_fail_4 : decode cX6_fail 4 = .ok (.ifCond .ne 13, 3) := by decide +kernel
theorem dX6_fail_17 : decode cX6_fail 17 = .ok (.aload_n 0, 1) := by decide +kernel
theorem dX6_fail_18 : decode cX6_fail 18 = .ok (.bipush (-2), 2) := by decide +kernel
theorem dX6_fail_20 : decode cX6_fail 20 = .ok (.putfield 21, 3) := by decide +kernel
theorem dX6_fail_23 : decode cX6_fail 23 = .ok (.return_, 1) := by decide +kernel
theorem dX6_fail_7 : decode cX6_fail 7 = .ok (.aload_n 0, 1) := by decide +kernel
theorem dX6_fail_8 : decode cX6_fail 8 = .ok (.iload_n 1, 1) := by decide +kernel
theorem dX6_fail_9 : decode cX6_fail 9 = .ok (.putfield 27, 3) := by decide +kernel
theorem dX6_fail_12 : decode cX6_fail 12 = .ok (.aload_n 0, 1) := by decide +kernel
theorem dX6_fail_13 : decode cX6_fail 13 = .ok (.iload_n 2, 1) := by decide +kernel
theorem dX6_fail_14 : decode cX6_fail 14 = .ok (.putfield 30, 3) := by decide +kernel
theorem w_1_66 : (Cond.fieldLink RX6 27 "SameKeeper$Reader" "fault" "I") ∈ wsL_law := sk_mem (ck_1 _ (List.mem_of_getElem? (i := 66) rfl)) rfl
theorem w_1_60 : (Cond.fieldLink RX6 21 "SameKeeper$Reader" "token" "I") ∈ wsL_law := sk_mem (ck_1 _ (List.mem_of_getElem? (i := 60) rfl)) rfl
theorem w_1_69 : (Cond.fieldLink RX6 30 "SameKeeper$Reader" "place" "I") ∈ wsL_law := sk_mem (ck_1 _ (List.mem_of_getElem? (i := 69) rfl)) rfl
theorem w_3_61 : (Cond.code yX6_fail cX6_fail 3 none) ∈ wsL_law := sk_mem (ck_3 _ (List.mem_of_getElem? (i := 61) rfl)) rfl
set_option maxHeartbeats 4000000 in
set_option maxRecDepth 100000 in
theorem c_rd_fail (l : Launch) (D : va_G) (cI cJ cC cZ cS : ClassId) (q : Nat → Nat) (xa : Nat) (xv : Int32) (xo : Nat) (xt : Int32) (xz : Nat) (xf : Int32) (xp : Int32) (k : Int32) (w : Int32)  : skM l yX6_fail cX6_fail 3 none 0 0 0 0 D (skT cI cJ cC cZ cS) [.ref (q 2), .int k, .int w] [(q 2, .inr (6, [.ref (q 0), .int (nI xa), .int xv, .int (nI xo), .int xt, .int (nI xz), .int xf, .int xp]))] (skV D (skT cI cJ cC cZ cS) (fun (u : va_W) => ∃ (xf2 : Int32), ∃ (xp2 : Int32), u = [(q 2, .inr (6, [.ref (q 0), .int (nI xa), .int xv, .int (nI xo), .int (-2), .int (nI xz), .int xf2, .int xp2]))])) := by
  refine skM_of (by decide +kernel) (Nat.le_of_ble_eq_true rfl) ?_
  intro p e s m below meth c A ls E hP hD hl
  obtain ⟨hx, hb, hr, hml, hlocks, hin, hown, hts, hK, hA⟩ := E
  have hown : s.vm.findClass RX6 = some m.cls := hown
  have hS : va_S A s.heap s.heap [] := va_S.rf
  have hl : lv_has ls 3 [(0, .ref (q 2)), (1, .int k), (2, .int w)] := hl
  refine lv_aload_n hx hb dX6_fail_0 rfl (lv_at hl 0 rfl) ?_
  refine sk_get (v := .int xf) (C := RX6) (T := TX6) (N := 8) hx hb hts inlX6 hown hK hP 0 rfl rfl 6 (by decide) w_1_66 rfl dX6_fail_1 ?_
  refine lv_if_ne (tgt := 17) hx hb dX6_fail_4 (by decide) (fun c_1 => ?_) (fun c_1 => ?_)
  · skip
    refine lv_aload_n hx hb dX6_fail_17 rfl (lv_at hl 0 rfl) ?_
    refine lv_bipush (v := (-2)) hx hb dX6_fail_18 (by decide) ?_
    refine sk_put (ws' := [(q 2, .inr (6, [.ref (q 0), .int (nI xa), .int xv, .int (nI xo), .int (-2), .int (nI xz), .int xf, .int xp]))]) (C := RX6) (T := TX6) (N := 8) (v := .int (-2)) hx hb hts inlX6 tyX6 tyX6_ok nmX6 hown hK hP hD hS 0 rfl rfl 4 (by decide) w_1_60 rfl rfl rfl (Nat.le_of_ble_eq_true rfl) rfl dX6_fail_20 (fun H locs hP hD hS => ?_)
    exact sk_vret hx hb hr hlocks hK hP hD hS (⟨xf, xp, rfl⟩) (Nat.le_of_ble_eq_true rfl) (Nat.le_of_ble_eq_true rfl) dX6_fail_23
  · skip
    refine lv_aload_n hx hb dX6_fail_7 rfl (lv_at hl 0 rfl) ?_
    refine lv_iload_n hx hb dX6_fail_8 rfl (lv_at hl 1 rfl) ?_
    refine sk_put (ws' := [(q 2, .inr (6, [.ref (q 0), .int (nI xa), .int xv, .int (nI xo), .int xt, .int (nI xz), .int k, .int xp]))]) (C := RX6) (T := TX6) (N := 8) (v := .int k) hx hb hts inlX6 tyX6 tyX6_ok nmX6 hown hK hP hD hS 0 rfl rfl 6 (by decide) w_1_66 rfl rfl rfl (Nat.le_of_ble_eq_true rfl) rfl dX6_fail_9 (fun H locs hP hD hS => ?_)
    refine lv_aload_n hx hb dX6_fail_12 rfl (lv_at hl 0 rfl) ?_
    refine lv_iload_n hx hb dX6_fail_13 rfl (lv_at hl 2 rfl) ?_
    refine sk_put (ws' := [(q 2, .inr (6, [.ref (q 0), .int (nI xa), .int xv, .int (nI xo), .int xt, .int (nI xz), .int k, .int w]))]) (C := RX6) (T := TX6) (N := 8) (v := .int w) hx hb hts inlX6 tyX6 tyX6_ok nmX6 hown hK hP hD hS 0 rfl rfl 7 (by decide) w_1_69 rfl rfl rfl (Nat.le_of_ble_eq_true rfl) rfl dX6_fail_14 (fun H locs hP hD hS => ?_)
    refine lv_aload_n hx hb dX6_fail_17 rfl (lv_at hl 0 rfl) ?_
    refine lv_bipush (v := (-2)) hx hb dX6_fail_18 (by decide) ?_
    refine sk_put (ws' := [(q 2, .inr (6, [.ref (q 0), .int (nI xa), .int xv, .int (nI xo), .int (-2), .int (nI xz), .int k, .int w]))]) (C := RX6) (T := TX6) (N := 8) (v := .int (-2)) hx hb hts inlX6 tyX6 tyX6_ok nmX6 hown hK hP hD hS 0 rfl rfl 4 (by decide) w_1_60 rfl rfl rfl (Nat.le_of_ble_eq_true rfl) rfl dX6_fail_20 (fun H locs hP hD hS => ?_)
    exact sk_vret hx hb hr hlocks hK hP hD hS (⟨k, w, rfl⟩) (Nat.le_of_ble_eq_true rfl) (Nat.le_of_ble_eq_true rfl) dX6_fail_23
theorem dX6_failHere_0 : decode cX6_failHere 0 = .ok (.aload_n 0, 1) := by decide +kernel
theorem dX6_failHere_1 : decode cX6_failHere 1 = .ok (.iconst 1, 1) := by decide +kernel
theorem dX6_failHere_2 : decode cX6_failHere 2 = .ok (.aload_n 0, 1) := by decide +kernel
theorem dX6_failHere_3 : decode cX6_failHere 3 = .ok (.getfield 24, 3) := by decide +kernel
theorem dX6_failHere_6 : decode cX6_failHere 6 = .ok (.invokevirtual 40, 3) := by decide +kernel
theorem dX6_failHere_9 : decode cX6_failHere 9 = .ok (.return_, 1) := by decide +kernel
theorem w_1_64 : (Cond.fieldLink RX6 24 "SameKeeper$Reader" "start" "I") ∈ wsL_law := sk_mem (ck_1 _ (List.mem_of_getElem? (i := 64) rfl)) rfl
theorem w_3_58 : (Cond.methodLink RX6 40 yX6_fail) ∈ wsL_law := sk_mem (ck_3 _ (List.mem_of_getElem? (i := 58) rfl)) rfl
theorem w_3_59 : (Cond.instanceMethod yX6_fail) ∈ wsL_law := sk_mem (ck_3 _ (List.mem_of_getElem? (i := 59) rfl)) rfl
theorem w_3_60 : (Cond.selects RX6 yX6_fail yX6_fail) ∈ wsL_law := sk_mem (ck_3 _ (List.mem_of_getElem? (i := 60) rfl)) rfl
theorem w_1_4 : (Cond.initialized RX6) ∈ wsL_law := sk_mem (ck_1 _ (List.mem_of_getElem? (i := 4) rfl)) rfl
theorem w_3_57 : (Cond.code yX6_failHere cX6_failHere 1 none) ∈ wsL_law := sk_mem (ck_3 _ (List.mem_of_getElem? (i := 57) rfl)) rfl
set_option maxHeartbeats 4000000 in
set_option maxRecDepth 100000 in
theorem c_rd_failHere (l : Launch) (D : va_G) (cI cJ cC cZ cS : ClassId) (q : Nat → Nat) (xa : Nat) (xv : Int32) (xo : Nat) (xt : Int32) (xz : Nat) (xf : Int32) (xp : Int32)  : skM l yX6_failHere cX6_failHere 1 none 1 22 0 0 D (skT cI cJ cC cZ cS) [.ref (q 2)] [(q 2, .inr (6, [.ref (q 0), .int (nI xa), .int xv, .int (nI xo), .int xt, .int (nI xz), .int xf, .int xp]))] (skV D (skT cI cJ cC cZ cS) (fun (u : va_W) => ∃ (xf2 : Int32), ∃ (xp2 : Int32), u = [(q 2, .inr (6, [.ref (q 0), .int (nI xa), .int xv, .int (nI xo), .int (-2), .int (nI xz), .int xf2, .int xp2]))])) := by
  refine skM_of (by decide +kernel) (Nat.le_of_ble_eq_true rfl) ?_
  intro p e s m below meth c A ls E hP hD hl
  obtain ⟨hx, hb, hr, hml, hlocks, hin, hown, hts, hK, hA⟩ := E
  have hown : s.vm.findClass RX6 = some m.cls := hown
  have hS : va_S A s.heap s.heap [] := va_S.rf
  have hl : lv_has ls 1 [(0, .ref (q 2))] := hl
  refine lv_aload_n hx hb dX6_failHere_0 rfl (lv_at hl 0 rfl) ?_
  refine lv_iconst (v := 1) hx hb dX6_failHere_1 (by decide) ?_
  refine lv_aload_n hx hb dX6_failHere_2 rfl (lv_at hl 0 rfl) ?_
  refine sk_get (v := .int (nI xz)) (C := RX6) (T := TX6) (N := 8) hx hb hts inlX6 hown hK hP 0 rfl rfl 5 (by decide) w_1_64 rfl dX6_failHere_3 ?_
  refine sk_Vv (q0 := 0) (n := 2) (rest := []) (wr := []) ⟨hx, hb, hml, hown, hts⟩ hl.1 (c_rd_fail l D cI cJ cC cZ cS q xa xv xo xt xz xf xp 1 (nI xz)) w_3_58 w_3_59 w_3_60 w_1_4 w_3_61 (by decide +kernel) ⟨⟨(Nat.le_of_ble_eq_true rfl), (Nat.le_of_ble_eq_true rfl)⟩, (Nat.le_of_ble_eq_true rfl), (Nat.le_of_ble_eq_true rfl)⟩ hK hP hD hS hA [0] [] rfl rfl (by decide +kernel) (by decide +kernel) (by decide +kernel) rfl rfl rfl rfl (Nat.le_of_ble_eq_true rfl) dX6_failHere_6 (fun u H locs hw hP hD hS => ?_)
  obtain ⟨xf2_1, xp2_2, rfl⟩ := hw
  have hP : va_P D vwCl [(q 2, .inr (6, [.ref (q 0), .int (nI xa), .int xv, .int (nI xo), .int (-2), .int (nI xz), .int xf2_1, .int xp2_2]))] H := hP
  have hD : va_D A [(q 2, .inr (6, [.ref (q 0), .int (nI xa), .int xv, .int (nI xo), .int (-2), .int (nI xz), .int xf2_1, .int xp2_2]))] := hD
  exact sk_vret hx hb hr hlocks hK hP hD hS (⟨xf2_1, xp2_2, rfl⟩) (Nat.le_of_ble_eq_true rfl) (Nat.le_of_ble_eq_true rfl) dX6_failHere_9
theorem dX6_readNumber_0 : decode cX6_readNumber 0 = .ok (.aload_n 0, 1) := by decide +kernel
theorem dX6_readNumber_1 : decode cX6_readNumber 1 = .ok (.iconst 0, 1) := by decide +kernel
theorem dX6_readNumber_2 : decode cX6_readNumber 2 = .ok (.putfield 15, 3) := by decide +kernel
theorem dX6_readNumber_5 : decode cX6_readNumber 5 = .ok (.aload_n 0, 1) := by decide +kernel
theorem dX6_readNumber_6 : decode cX6_readNumber 6 = .ok (.getfield 9, 3) := by decide +kernel
theorem dX6_readNumber_9 : decode cX6_readNumber 9 = .ok (.aload_n 0, 1) := by decide +kernel
theorem dX6_readNumber_10 : decode cX6_readNumber 10 = .ok (.getfield 33, 3) := by decide +kernel
theorem dX6_readNumber_13 : decode cX6_readNumber 13 = .ok (.getfield 44, 3) := by decide +kernel
theorem dX6_readNumber_16 : decode cX6_readNumber 16 = .ok (.if_icmp .ge 90, 3) := by decide +kernel
theorem dX6_readNumber_106 : decode cX6_readNumber 106 = .ok (.aload_n 0, 1) := by decide +kernel
theorem dX6_readNumber_107 : decode cX6_readNumber 107 = .ok (.bipush (-3), 2) := by decide +kernel
theorem dX6_readNumber_109 : decode cX6_readNumber 109 = .ok (.putfield 21, 3) := by decide +kernel
theorem dX6_readNumber_112 : decode cX6_readNumber 112 = .ok (.return_, 1) := by decide +kernel
theorem dX6_readNumber_19 : decode cX6_readNumber 19 = .ok (.aload_n 0, 1) := by decide +kernel
theorem dX6_readNumber_20 : decode cX6_readNumber 20 = .ok (.getfield 33, 3) := by decide +kernel
theorem dX6_readNumber_23 : decode cX6_readNumber 23 = .ok (.getfield 49, 3) := by decide +kernel
theorem dX6_readNumber_26 : decode cX6_readNumber 26 = .ok (.aload_n 0, 1) := by decide +kernel
theorem dX6_readNumber_27 : decode cX6_readNumber 27 = .ok (.getfield 9, 3) := by decide +kernel
theorem dX6_readNumber_30 : decode cX6_readNumber 30 = .ok (.iaload, 1) := by decide +kernel
theorem dX6_readNumber_31 : decode cX6_readNumber 31 = .ok (.bipush 48, 2) := by decide +kernel
theorem dX6_readNumber_33 : decode cX6_readNumber 33 = .ok (.if_icmp .lt 73, 3) := by decide +kernel
theorem dX6_readNumber_36 : decode cX6_readNumber 36 = .ok (.aload_n 0, 1) := by decide +kernel
theorem dX6_readNumber_37 : decode cX6_readNumber 37 = .ok (.getfield 33, 3) := by decide +kernel
theorem dX6_readNumber_40 : decode cX6_readNumber 40 = .ok (.getfield 49, 3) := by decide +kernel
theorem dX6_readNumber_43 : decode cX6_readNumber 43 = .ok (.aload_n 0, 1) := by decide +kernel
theorem dX6_readNumber_44 : decode cX6_readNumber 44 = .ok (.getfield 9, 3) := by decide +kernel
theorem dX6_readNumber_47 : decode cX6_readNumber 47 = .ok (.iaload, 1) := by decide +kernel
theorem dX6_readNumber_48 : decode cX6_readNumber 48 = .ok (.bipush 57, 2) := by decide +kernel
theorem dX6_readNumber_50 : decode cX6_readNumber 50 = .ok (.if_icmp .gt 56, 3) := by decide +kernel
theorem dX6_readNumber_53 : decode cX6_readNumber 53 = .ok (.aload_n 0, 1) := by decide +kernel
theorem dX6_readNumber_54 : decode cX6_readNumber 54 = .ok (.getfield 9, 3) := by decide +kernel
theorem dX6_readNumber_57 : decode cX6_readNumber 57 = .ok (.aload_n 0, 1) := by decide +kernel
theorem dX6_readNumber_58 : decode cX6_readNumber 58 = .ok (.getfield 24, 3) := by decide +kernel
theorem dX6_readNumber_61 : decode cX6_readNumber 61 = .ok (.isub, 1) := by decide +kernel
theorem dX6_readNumber_62 : decode cX6_readNumber 62 = .ok (.iconst 4, 1) := by decide +kernel
theorem dX6_readNumber_63 : decode cX6_readNumber 63 = .ok (.if_icmp .ge 30, 3) := by decide +kernel
theorem dX6_readNumber_93 : decode cX6_readNumber 93 = .ok (.aload_n 0, 1) := by decide +kernel
theorem dX6_readNumber_94 : decode cX6_readNumber 94 = .ok (.dup, 1) := by decide +kernel
theorem dX6_readNumber_95 : decode cX6_readNumber 95 = .ok (.getfield 9, 3) := by decide +kernel
theorem dX6_readNumber_98 : decode cX6_readNumber 98 = .ok (.iconst 1, 1) := by decide +kernel
theorem dX6_readNumber_99 : decode cX6_readNumber 99 = .ok (.iadd, 1) := by decide +kernel
theorem dX6_readNumber_100 : decode cX6_readNumber 100 = .ok (.putfield 9, 3) := by decide +kernel
theorem dX6_readNumber_103 : decode cX6_readNumber 103 = .ok (.goto (-98), 3) := by decide +kernel
theorem dX6_readNumber_66 : decode cX6_readNumber 66 = .ok (.aload_n 0, 1) := by decide +kernel
theorem dX6_readNumber_67 : decode cX6_readNumber 67 = .ok (.aload_n 0, 1) := by decide +kernel
theorem dX6_readNumber_68 : decode cX6_readNumber 68 = .ok (.getfield 15, 3) := by decide +kernel
theorem dX6_readNumber_71 : decode cX6_readNumber 71 = .ok (.bipush 10, 2) := by decide +kernel
theorem dX6_readNumber_73 : decode cX6_readNumber 73 = .ok (.imul, 1) := by decide +kernel
theorem dX6_readNumber_74 : decode cX6_readNumber 74 = .ok (.aload_n 0, 1) := by decide +kernel
theorem dX6_readNumber_75 : decode cX6_readNumber 75 = .ok (.getfield 33, 3) := by decide +kernel
theorem dX6_readNumber_78 : decode cX6_readNumber 78 = .ok (.getfield 49, 3) := by decide +kernel
theorem dX6_readNumber_81 : decode cX6_readNumber 81 = .ok (.aload_n 0, 1) := by decide +kernel
theorem dX6_readNumber_82 : decode cX6_readNumber 82 = .ok (.getfield 9, 3) := by decide +kernel
theorem dX6_readNumber_85 : decode cX6_readNumber 85 = .ok (.iaload, 1) := by decide +kernel
theorem dX6_readNumber_86 : decode cX6_readNumber 86 = .ok (.iadd, 1) := by decide +kernel
theorem dX6_readNumber_87 : decode cX6_readNumber 87 = .ok (.bipush 48, 2) := by decide +kernel
theorem dX6_readNumber_89 : decode cX6_readNumber 89 = .ok (.isub, 1) := by decide +kernel
theorem dX6_readNumber_90 : decode cX6_readNumber 90 = .ok (.putfield 15, 3) := by decide +kernel
theorem w_1_58 : (Cond.fieldLink RX6 15 "SameKeeper$Reader" "value" "I") ∈ wsL_law := sk_mem (ck_1 _ (List.mem_of_getElem? (i := 58) rfl)) rfl
theorem w_1_57 : (Cond.fieldLink RX6 9 "SameKeeper$Reader" "at" "I") ∈ wsL_law := sk_mem (ck_1 _ (List.mem_of_getElem? (i := 57) rfl)) rfl
theorem w_1_56 : (Cond.fieldLink RX6 33 "SameKeeper$Reader" "tape" "LSameKeeper$Tape;") ∈ wsL_law := sk_mem (ck_1 _ (List.mem_of_getElem? (i := 56) rfl)) rfl
theorem w_1_43 : (Cond.fieldLink RX6 44 "SameKeeper$Tape" "length" "I") ∈ wsL_law := sk_mem (ck_1 _ (List.mem_of_getElem? (i := 43) rfl)) rfl
theorem w_1_40 : (Cond.fieldLink RX6 49 "SameKeeper$Tape" "bytes" "[I") ∈ wsL_law := sk_mem (ck_1 _ (List.mem_of_getElem? (i := 40) rfl)) rfl
theorem w_3_45 : (Cond.code yX6_readNumber cX6_readNumber 1 none) ∈ wsL_law := sk_mem (ck_3 _ (List.mem_of_getElem? (i := 45) rfl)) rfl
set_option maxHeartbeats 4000000 in
set_option maxRecDepth 100000 in
theorem c_rd_readNumber (l : Launch) (D : va_G) (cI cJ cC cZ cS : ClassId) (q : Nat → Nat) (xa : Nat) (xv : Int32) (xo : Nat) (xt : Int32) (xz : Nat) (xf : Int32) (xp : Int32) (tl : Nat) (tb : Nat → Nat) (hxa : xa ≤ 1600) (hxz : xz ≤ 1600) (htl : tl ≤ 1600) (htb : ∀ j, tb j ≤ 255) : skM l yX6_readNumber cX6_readNumber 1 none 0 0 0 0 D (skT cI cJ cC cZ cS) [.ref (q 2)] [(q 2, .inr (6, [.ref (q 0), .int (nI xa), .int xv, .int (nI xo), .int xt, .int (nI xz), .int xf, .int xp])), (q 0, .inr (10, [.ref (q 20), .int (nI tl)])), (q 20, .inl (cI, 1600, .inl (fun j => nI (tb j))))] (skV D (skT cI cJ cC cZ cS) (fun (u : va_W) => ∃ (xa2 : Nat), ∃ (xv2 : Int32), xa2 ≤ 1600 ∧ u = [(q 2, .inr (6, [.ref (q 0), .int (nI xa2), .int xv2, .int (nI xo), .int (-3), .int (nI xz), .int xf, .int xp])), (q 0, .inr (10, [.ref (q 20), .int (nI tl)])), (q 20, .inl (cI, 1600, .inl (fun j => nI (tb j))))])) := by
  refine skM_of (by decide +kernel) (Nat.le_of_ble_eq_true rfl) ?_
  intro p e s m below meth c A ls E hP hD hl
  obtain ⟨hx, hb, hr, hml, hlocks, hin, hown, hts, hK, hA⟩ := E
  have hown : s.vm.findClass RX6 = some m.cls := hown
  have hS : va_S A s.heap s.heap [] := va_S.rf
  have hl : lv_has ls 1 [(0, .ref (q 2))] := hl
  refine lv_aload_n hx hb dX6_readNumber_0 rfl (lv_at hl 0 rfl) ?_
  refine lv_iconst (v := 0) hx hb dX6_readNumber_1 (by decide) ?_
  refine sk_put (ws' := [(q 2, .inr (6, [.ref (q 0), .int (nI xa), .int 0, .int (nI xo), .int xt, .int (nI xz), .int xf, .int xp])), (q 0, .inr (10, [.ref (q 20), .int (nI tl)])), (q 20, .inl (cI, 1600, .inl (fun j => nI (tb j))))]) (C := RX6) (T := TX6) (N := 8) (v := .int 0) hx hb hts inlX6 tyX6 tyX6_ok nmX6 hown hK hP hD hS 0 rfl rfl 2 (by decide) w_1_58 rfl rfl rfl (Nat.le_of_ble_eq_true rfl) rfl dX6_readNumber_2 (fun H locs hP hD hS => ?_)
  have lp_1 : ∀ (n_2 : Nat) (za : Nat) (zw : Int32) (H : Heap) (locs : List Loc) (ls : Array Slot), tl - za < n_2 → (za ≤ 1600) → va_P D vwCl [(q 2, .inr (6, [.ref (q 0), .int (nI za), .int zw, .int (nI xo), .int xt, .int (nI xz), .int xf, .int xp])), (q 0, .inr (10, [.ref (q 20), .int (nI tl)])), (q 20, .inl (cI, 1600, .inl (fun j => nI (tb j))))] H → va_D A [(q 2, .inr (6, [.ref (q 0), .int (nI za), .int zw, .int (nI xo), .int xt, .int (nI xz), .int xf, .int xp])), (q 0, .inr (10, [.ref (q 20), .int (nI tl)])), (q 20, .inl (cI, 1600, .inl (fun j => nI (tb j))))] → va_S A s.heap H locs → lv_has ls 1 [(0, .ref (q 2))] → W p l e { frames := 0, cells := 0, slots := 0, locals := 0 } s m ([.ref (q 2)] : List Value).toArray below meth c H locs 0 0 (MQ below (skV D (skT cI cJ cC cZ cS) (fun (u : va_W) => ∃ (xa2 : Nat), ∃ (xv2 : Int32), xa2 ≤ 1600 ∧ u = [(q 2, .inr (6, [.ref (q 0), .int (nI xa2), .int xv2, .int (nI xo), .int (-3), .int (nI xz), .int xf, .int xp])), (q 0, .inr (10, [.ref (q 20), .int (nI tl)])), (q 20, .inl (cI, 1600, .inl (fun j => nI (tb j))))]) A) ([.ref (q 2)] : List Value).toArray s 0 0 A) (F0 m 5 ls []) := by
    intro n_2
    induction n_2 with
    | zero => intro za zw H locs ls hm; exact absurd hm (Nat.not_lt_zero _)
    | succ n_2 ih_lp_1 =>
      intro za zw H locs ls hm hza hP hD hS hl
      refine lv_aload_n hx hb dX6_readNumber_5 rfl (lv_at hl 0 rfl) ?_
      refine sk_get (v := .int (nI za)) (C := RX6) (T := TX6) (N := 8) hx hb hts inlX6 hown hK hP 0 rfl rfl 1 (by decide) w_1_57 rfl dX6_readNumber_6 ?_
      refine lv_aload_n hx hb dX6_readNumber_9 rfl (lv_at hl 0 rfl) ?_
      refine sk_get (v := .ref (q 0)) (C := RX6) (T := TX6) (N := 8) hx hb hts inlX6 hown hK hP 0 rfl rfl 0 (by decide) w_1_56 rfl dX6_readNumber_10 ?_
      refine sk_get (v := .int (nI tl)) (C := RX10) (T := TX10) (N := 2) hx hb hts inlX10 hown hK hP 1 rfl rfl 1 (by decide) w_1_43 rfl dX6_readNumber_13 ?_
      refine lv_icmp_ge (tgt := 106) hx hb dX6_readNumber_16 (by decide) (fun c_3 => ?_) (fun c_3 => ?_)
      · have c_3 : tl ≤ za := (nle tl za (by omega) (by omega)).mp c_3
        refine lv_aload_n hx hb dX6_readNumber_106 rfl (lv_at hl 0 rfl) ?_
        refine lv_bipush (v := (-3)) hx hb dX6_readNumber_107 (by decide) ?_
        refine sk_put (ws' := [(q 2, .inr (6, [.ref (q 0), .int (nI za), .int zw, .int (nI xo), .int (-3), .int (nI xz), .int xf, .int xp])), (q 0, .inr (10, [.ref (q 20), .int (nI tl)])), (q 20, .inl (cI, 1600, .inl (fun j => nI (tb j))))]) (C := RX6) (T := TX6) (N := 8) (v := .int (-3)) hx hb hts inlX6 tyX6 tyX6_ok nmX6 hown hK hP hD hS 0 rfl rfl 4 (by decide) w_1_60 rfl rfl rfl (Nat.le_of_ble_eq_true rfl) rfl dX6_readNumber_109 (fun H locs hP hD hS => ?_)
        exact sk_vret hx hb hr hlocks hK hP hD hS (⟨za, zw, by omega, rfl⟩) (Nat.le_of_ble_eq_true rfl) (Nat.le_of_ble_eq_true rfl) dX6_readNumber_112
      · have c_3 : ¬ (tl ≤ za) := fun h => c_3 ((nle tl za (by omega) (by omega)).mpr h)
        refine lv_aload_n hx hb dX6_readNumber_19 rfl (lv_at hl 0 rfl) ?_
        refine sk_get (v := .ref (q 0)) (C := RX6) (T := TX6) (N := 8) hx hb hts inlX6 hown hK hP 0 rfl rfl 0 (by decide) w_1_56 rfl dX6_readNumber_20 ?_
        refine sk_get (v := .ref (q 20)) (C := RX10) (T := TX10) (N := 2) hx hb hts inlX10 hown hK hP 1 rfl rfl 0 (by decide) w_1_40 rfl dX6_readNumber_23 ?_
        refine lv_aload_n hx hb dX6_readNumber_26 rfl (lv_at hl 0 rfl) ?_
        refine sk_get (v := .int (nI za)) (C := RX6) (T := TX6) (N := 8) hx hb hts inlX6 hown hK hP 0 rfl rfl 1 (by decide) w_1_57 rfl dX6_readNumber_27 ?_
        refine va_iald hx hb hK.1 hP 2 0 rfl rfl (vin za 1600 (by omega) (by omega)) dX6_readNumber_30 ?_
        refine sk_top (nI (tb za)) (nrd tb za (by omega)) ?_
        have hb_4 := htb za
        refine lv_bipush (v := 48) hx hb dX6_readNumber_31 (by decide) ?_
        refine lv_icmp_lt (tgt := 106) hx hb dX6_readNumber_33 (by decide) (fun c_5 => ?_) (fun c_5 => ?_)
        · have c_5 : tb za < 48 := (nlt (tb za) 48 (by omega) (by omega)).mp c_5
          refine lv_aload_n hx hb dX6_readNumber_106 rfl (lv_at hl 0 rfl) ?_
          refine lv_bipush (v := (-3)) hx hb dX6_readNumber_107 (by decide) ?_
          refine sk_put (ws' := [(q 2, .inr (6, [.ref (q 0), .int (nI za), .int zw, .int (nI xo), .int (-3), .int (nI xz), .int xf, .int xp])), (q 0, .inr (10, [.ref (q 20), .int (nI tl)])), (q 20, .inl (cI, 1600, .inl (fun j => nI (tb j))))]) (C := RX6) (T := TX6) (N := 8) (v := .int (-3)) hx hb hts inlX6 tyX6 tyX6_ok nmX6 hown hK hP hD hS 0 rfl rfl 4 (by decide) w_1_60 rfl rfl rfl (Nat.le_of_ble_eq_true rfl) rfl dX6_readNumber_109 (fun H locs hP hD hS => ?_)
          exact sk_vret hx hb hr hlocks hK hP hD hS (⟨za, zw, by omega, rfl⟩) (Nat.le_of_ble_eq_true rfl) (Nat.le_of_ble_eq_true rfl) dX6_readNumber_112
        · have c_5 : ¬ (tb za < 48) := fun h => c_5 ((nlt (tb za) 48 (by omega) (by omega)).mpr h)
          refine lv_aload_n hx hb dX6_readNumber_36 rfl (lv_at hl 0 rfl) ?_
          refine sk_get (v := .ref (q 0)) (C := RX6) (T := TX6) (N := 8) hx hb hts inlX6 hown hK hP 0 rfl rfl 0 (by decide) w_1_56 rfl dX6_readNumber_37 ?_
          refine sk_get (v := .ref (q 20)) (C := RX10) (T := TX10) (N := 2) hx hb hts inlX10 hown hK hP 1 rfl rfl 0 (by decide) w_1_40 rfl dX6_readNumber_40 ?_
          refine lv_aload_n hx hb dX6_readNumber_43 rfl (lv_at hl 0 rfl) ?_
          refine sk_get (v := .int (nI za)) (C := RX6) (T := TX6) (N := 8) hx hb hts inlX6 hown hK hP 0 rfl rfl 1 (by decide) w_1_57 rfl dX6_readNumber_44 ?_
          refine va_iald hx hb hK.1 hP 2 0 rfl rfl (vin za 1600 (by omega) (by omega)) dX6_readNumber_47 ?_
          refine sk_top (nI (tb za)) (nrd tb za (by omega)) ?_
          have hb_6 := htb za
          refine lv_bipush (v := 57) hx hb dX6_readNumber_48 (by decide) ?_
          refine lv_icmp_gt (tgt := 106) hx hb dX6_readNumber_50 (by decide) (fun c_7 => ?_) (fun c_7 => ?_)
          · have c_7 : 57 < tb za := (nlt 57 (tb za) (by omega) (by omega)).mp c_7
            refine lv_aload_n hx hb dX6_readNumber_106 rfl (lv_at hl 0 rfl) ?_
            refine lv_bipush (v := (-3)) hx hb dX6_readNumber_107 (by decide) ?_
            refine sk_put (ws' := [(q 2, .inr (6, [.ref (q 0), .int (nI za), .int zw, .int (nI xo), .int (-3), .int (nI xz), .int xf, .int xp])), (q 0, .inr (10, [.ref (q 20), .int (nI tl)])), (q 20, .inl (cI, 1600, .inl (fun j => nI (tb j))))]) (C := RX6) (T := TX6) (N := 8) (v := .int (-3)) hx hb hts inlX6 tyX6 tyX6_ok nmX6 hown hK hP hD hS 0 rfl rfl 4 (by decide) w_1_60 rfl rfl rfl (Nat.le_of_ble_eq_true rfl) rfl dX6_readNumber_109 (fun H locs hP hD hS => ?_)
            exact sk_vret hx hb hr hlocks hK hP hD hS (⟨za, zw, by omega, rfl⟩) (Nat.le_of_ble_eq_true rfl) (Nat.le_of_ble_eq_true rfl) dX6_readNumber_112
          · have c_7 : ¬ (57 < tb za) := fun h => c_7 ((nlt 57 (tb za) (by omega) (by omega)).mpr h)
            refine lv_aload_n hx hb dX6_readNumber_53 rfl (lv_at hl 0 rfl) ?_
            refine sk_get (v := .int (nI za)) (C := RX6) (T := TX6) (N := 8) hx hb hts inlX6 hown hK hP 0 rfl rfl 1 (by decide) w_1_57 rfl dX6_readNumber_54 ?_
            refine lv_aload_n hx hb dX6_readNumber_57 rfl (lv_at hl 0 rfl) ?_
            refine sk_get (v := .int (nI xz)) (C := RX6) (T := TX6) (N := 8) hx hb hts inlX6 hown hK hP 0 rfl rfl 5 (by decide) w_1_64 rfl dX6_readNumber_58 ?_
            refine lv_isub hx hb dX6_readNumber_61 ?_
            refine lv_topi (fun v_8 ev_8 => ?_)
            refine lv_iconst (v := 4) hx hb dX6_readNumber_62 (by decide) ?_
            refine lv_icmp_ge (tgt := 93) hx hb dX6_readNumber_63 (by decide) (fun c_9 => ?_) (fun c_9 => ?_)
            · obtain ⟨k_10, hk_10, h1k_10, rfl⟩ := nofge' v_8 4 (by omega) c_9
              refine lv_aload_n hx hb dX6_readNumber_93 rfl (lv_at hl 0 rfl) ?_
              refine lv_dup hx hb dX6_readNumber_94 rfl ?_
              refine sk_get (v := .int (nI za)) (C := RX6) (T := TX6) (N := 8) hx hb hts inlX6 hown hK hP 0 rfl rfl 1 (by decide) w_1_57 rfl dX6_readNumber_95 ?_
              refine lv_iconst (v := 1) hx hb dX6_readNumber_98 (by decide) ?_
              refine lv_iadd hx hb dX6_readNumber_99 ?_
              refine sk_top (nI (za + 1)) (nI_add za 1) ?_
              refine sk_put (ws' := [(q 2, .inr (6, [.ref (q 0), .int (nI (za + 1)), .int zw, .int (nI xo), .int xt, .int (nI xz), .int xf, .int xp])), (q 0, .inr (10, [.ref (q 20), .int (nI tl)])), (q 20, .inl (cI, 1600, .inl (fun j => nI (tb j))))]) (C := RX6) (T := TX6) (N := 8) (v := .int (nI (za + 1))) hx hb hts inlX6 tyX6 tyX6_ok nmX6 hown hK hP hD hS 0 rfl rfl 1 (by decide) w_1_57 rfl rfl rfl (Nat.le_of_ble_eq_true rfl) rfl dX6_readNumber_100 (fun H locs hP hD hS => ?_)
              refine lv_goto (tgt := 5) hx hb dX6_readNumber_103 (by decide) ?_
              exact ih_lp_1 (za + 1) zw _ _ _ (by omega) (by omega) hP hD hS (lv_sub hl [0] rfl)
            · skip
              refine lv_aload_n hx hb dX6_readNumber_66 rfl (lv_at hl 0 rfl) ?_
              refine lv_aload_n hx hb dX6_readNumber_67 rfl (lv_at hl 0 rfl) ?_
              refine sk_get (v := .int zw) (C := RX6) (T := TX6) (N := 8) hx hb hts inlX6 hown hK hP 0 rfl rfl 2 (by decide) w_1_58 rfl dX6_readNumber_68 ?_
              refine lv_bipush (v := 10) hx hb dX6_readNumber_71 (by decide) ?_
              refine lv_imul hx hb dX6_readNumber_73 ?_
              refine lv_topi (fun v_11 ev_11 => ?_)
              refine lv_aload_n hx hb dX6_readNumber_74 rfl (lv_at hl 0 rfl) ?_
              refine sk_get (v := .ref (q 0)) (C := RX6) (T := TX6) (N := 8) hx hb hts inlX6 hown hK hP 0 rfl rfl 0 (by decide) w_1_56 rfl dX6_readNumber_75 ?_
              refine sk_get (v := .ref (q 20)) (C := RX10) (T := TX10) (N := 2) hx hb hts inlX10 hown hK hP 1 rfl rfl 0 (by decide) w_1_40 rfl dX6_readNumber_78 ?_
              refine lv_aload_n hx hb dX6_readNumber_81 rfl (lv_at hl 0 rfl) ?_
              refine sk_get (v := .int (nI za)) (C := RX6) (T := TX6) (N := 8) hx hb hts inlX6 hown hK hP 0 rfl rfl 1 (by decide) w_1_57 rfl dX6_readNumber_82 ?_
              refine va_iald hx hb hK.1 hP 2 0 rfl rfl (vin za 1600 (by omega) (by omega)) dX6_readNumber_85 ?_
              refine sk_top (nI (tb za)) (nrd tb za (by omega)) ?_
              have hb_12 := htb za
              refine lv_iadd hx hb dX6_readNumber_86 ?_
              refine lv_topi (fun v_13 ev_13 => ?_)
              refine lv_bipush (v := 48) hx hb dX6_readNumber_87 (by decide) ?_
              refine lv_isub hx hb dX6_readNumber_89 ?_
              refine lv_topi (fun v_14 ev_14 => ?_)
              refine sk_put (ws' := [(q 2, .inr (6, [.ref (q 0), .int (nI za), .int v_14, .int (nI xo), .int xt, .int (nI xz), .int xf, .int xp])), (q 0, .inr (10, [.ref (q 20), .int (nI tl)])), (q 20, .inl (cI, 1600, .inl (fun j => nI (tb j))))]) (C := RX6) (T := TX6) (N := 8) (v := .int v_14) hx hb hts inlX6 tyX6 tyX6_ok nmX6 hown hK hP hD hS 0 rfl rfl 2 (by decide) w_1_58 rfl rfl rfl (Nat.le_of_ble_eq_true rfl) rfl dX6_readNumber_90 (fun H locs hP hD hS => ?_)
              refine lv_aload_n hx hb dX6_readNumber_93 rfl (lv_at hl 0 rfl) ?_
              refine lv_dup hx hb dX6_readNumber_94 rfl ?_
              refine sk_get (v := .int (nI za)) (C := RX6) (T := TX6) (N := 8) hx hb hts inlX6 hown hK hP 0 rfl rfl 1 (by decide) w_1_57 rfl dX6_readNumber_95 ?_
              refine lv_iconst (v := 1) hx hb dX6_readNumber_98 (by decide) ?_
              refine lv_iadd hx hb dX6_readNumber_99 ?_
              refine sk_top (nI (za + 1)) (nI_add za 1) ?_
              refine sk_put (ws' := [(q 2, .inr (6, [.ref (q 0), .int (nI (za + 1)), .int v_14, .int (nI xo), .int xt, .int (nI xz), .int xf, .int xp])), (q 0, .inr (10, [.ref (q 20), .int (nI tl)])), (q 20, .inl (cI, 1600, .inl (fun j => nI (tb j))))]) (C := RX6) (T := TX6) (N := 8) (v := .int (nI (za + 1))) hx hb hts inlX6 tyX6 tyX6_ok nmX6 hown hK hP hD hS 0 rfl rfl 1 (by decide) w_1_57 rfl rfl rfl (Nat.le_of_ble_eq_true rfl) rfl dX6_readNumber_100 (fun H locs hP hD hS => ?_)
              refine lv_goto (tgt := 5) hx hb dX6_readNumber_103 (by decide) ?_
              exact ih_lp_1 (za + 1) v_14 _ _ _ (by omega) (by omega) hP hD hS (lv_sub hl [0] rfl)
  exact lp_1 (tl - xa + 1) xa 0 _ _ _ (Nat.lt_succ_self _) (by omega) hP hD hS (lv_sub hl [0] rfl)
theorem dX6_readWord_0 : decode cX6_readWord 0 = .ok (.aload_n 0, 1) := by decide +kernel
theorem dX6_readWord_1 : decode cX6_readWord 1 = .ok (.getfield 9, 3) := by decide +kernel
theorem dX6_readWord_4 : decode cX6_readWord 4 = .ok (.aload_n 0, 1) := by decide +kernel
theorem dX6_readWord_5 : decode cX6_readWord 5 = .ok (.getfield 33, 3) := by decide +kernel
theorem dX6_readWord_8 : decode cX6_readWord 8 = .ok (.getfield 44, 3) := by decide +kernel
theorem dX6_readWord_11 : decode cX6_readWord 11 = .ok (.if_icmp .ge 50, 3) := by decide +kernel
theorem dX6_readWord_61 : decode cX6_readWord 61 = .ok (.aload_n 0, 1) := by decide +kernel
theorem dX6_readWord_62 : decode cX6_readWord 62 = .ok (.bipush (-2), 2) := by decide +kernel
theorem dX6_readWord_64 : decode cX6_readWord 64 = .ok (.putfield 21, 3) := by decide +kernel
theorem dX6_readWord_67 : decode cX6_readWord 67 = .ok (.aload_n 0, 1) := by decide +kernel
theorem dX6_readWord_68 : decode cX6_readWord 68 = .ok (.getfield 9, 3) := by decide +kernel
theorem dX6_readWord_71 : decode cX6_readWord 71 = .ok (.aload_n 0, 1) := by decide +kernel
theorem dX6_readWord_72 : decode cX6_readWord 72 = .ok (.getfield 24, 3) := by decide +kernel
theorem dX6_readWord_75 : decode cX6_readWord 75 = .ok (.isub, 1) := by decide +kernel
theorem dX6_readWord_76 : decode cX6_readWord 76 = .ok (.bipush 6, 2) := by decide +kernel
theorem dX6_readWord_78 : decode cX6_readWord 78 = .ok (.if_icmp .le 4, 3) := by decide +kernel
theorem dX6_readWord_82 : decode cX6_readWord 82 = .ok (.iconst 0, 1) := by decide +kernel
theorem dX6_readWord_83 : decode cX6_readWord 83 = .ok (.istore_n 1, 1) := by decide +kernel
theorem dX6_readWord_84 : decode cX6_readWord 84 = .ok (.iload_n 1, 1) := by decide +kernel
theorem dX6_readWord_85 : decode cX6_readWord 85 = .ok (.bipush 6, 2) := by decide +kernel
theorem dX6_readWord_87 : decode cX6_readWord 87 = .ok (.iadd, 1) := by decide +kernel
theorem dX6_readWord_88 : decode cX6_readWord 88 = .ok (.ldc 59, 2) := by decide +kernel
theorem dX6_readWord_90 : decode cX6_readWord 90 = .ok (.invokevirtual 61, 3) := by decide +kernel
theorem dX6_readWord_93 : decode cX6_readWord 93 = .ok (.if_icmp .gt 99, 3) := by decide +kernel
theorem dX6_readWord_192 : decode cX6_readWord 192 = .ok (.return_, 1) := by decide +kernel
theorem dX6_readWord_96 : decode cX6_readWord 96 = .ok (.iconst 1, 1) := by decide +kernel
theorem dX6_readWord_97 : decode cX6_readWord 97 = .ok (.istore_n 2, 1) := by decide +kernel
theorem dX6_readWord_98 : decode cX6_readWord 98 = .ok (.iconst 0, 1) := by decide +kernel
theorem dX6_readWord_99 : decode cX6_readWord 99 = .ok (.istore_n 3, 1) := by decide +kernel
theorem dX6_readWord_100 : decode cX6_readWord 100 = .ok (.iload_n 3, 1) := by decide +kernel
theorem dX6_readWord_101 : decode cX6_readWord 101 = .ok (.bipush 6, 2) := by decide +kernel
theorem dX6_readWord_103 : decode cX6_readWord 103 = .ok (.if_icmp .ge 66, 3) := by decide +kernel
theorem dX6_readWord_169 : decode cX6_readWord 169 = .ok (.iload_n 2, 1) := by decide +kernel
theorem dX6_readWord_170 : decode cX6_readWord 170 = .ok (.ifCond .eq 16, 3) := by decide +kernel
theorem dX6_readWord_186 : decode cX6_readWord 186 = .ok (.iinc 1 6, 3) := by decide +kernel
theorem dX6_readWord_189 : decode cX6_readWord 189 = .ok (.goto (-105), 3) := by decide +kernel
theorem dX6_readWord_173 : decode cX6_readWord 173 = .ok (.aload_n 0, 1) := by decide +kernel
theorem dX6_readWord_174 : decode cX6_readWord 174 = .ok (.sipush 256, 3) := by decide +kernel
theorem dX6_readWord_177 : decode cX6_readWord 177 = .ok (.iload_n 1, 1) := by decide +kernel
theorem dX6_readWord_178 : decode cX6_readWord 178 = .ok (.bipush 6, 2) := by decide +kernel
theorem dX6_readWord_180 : decode cX6_readWord 180 = .ok (.idiv, 1) := by decide +kernel
theorem dX6_readWord_181 : decode cX6_readWord 181 = .ok (.iadd, 1) := by decide +kernel
theorem dX6_readWord_182 : decode cX6_readWord 182 = .ok (.putfield 21, 3) := by decide +kernel
theorem dX6_readWord_185 : decode cX6_readWord 185 = .ok (.return_, 1) := by decide +kernel
theorem dX6_readWord_106 : decode cX6_readWord 106 = .ok (.iload_n 2, 1) := by decide +kernel
theorem dX6_readWord_107 : decode cX6_readWord 107 = .ok (.ifCond .eq 62, 3) := by decide +kernel
theorem dX6_readWord_142 : decode cX6_readWord 142 = .ok (.istore 4, 2) := by decide +kernel
theorem dX6_readWord_144 : decode cX6_readWord 144 = .ok (.ldc 59, 2) := by decide +kernel
theorem dX6_readWord_146 : decode cX6_readWord 146 = .ok (.iload_n 1, 1) := by decide +kernel
theorem dX6_readWord_147 : decode cX6_readWord 147 = .ok (.iload_n 3, 1) := by decide +kernel
theorem dX6_readWord_148 : decode cX6_readWord 148 = .ok (.iadd, 1) := by decide +kernel
theorem dX6_readWord_149 : decode cX6_readWord 149 = .ok (.invokevirtual 66, 3) := by decide +kernel
theorem dX6_readWord_152 : decode cX6_readWord 152 = .ok (.iload 4, 2) := by decide +kernel
theorem dX6_readWord_154 : decode cX6_readWord 154 = .ok (.if_icmp .ne 7, 3) := by decide +kernel
theorem dX6_readWord_161 : decode cX6_readWord 161 = .ok (.iconst 0, 1) := by decide +kernel
theorem dX6_readWord_162 : decode cX6_readWord 162 = .ok (.istore_n 2, 1) := by decide +kernel
theorem dX6_readWord_163 : decode cX6_readWord 163 = .ok (.iinc 3 1, 3) := by decide +kernel
theorem dX6_readWord_166 : decode cX6_readWord 166 = .ok (.goto (-66), 3) := by decide +kernel
theorem dX6_readWord_157 : decode cX6_readWord 157 = .ok (.iconst 1, 1) := by decide +kernel
theorem dX6_readWord_158 : decode cX6_readWord 158 = .ok (.goto 4, 3) := by decide +kernel
theorem dX6_readWord_110 : decode cX6_readWord 110 = .ok (.aload_n 0, 1) := by decide +kernel
theorem dX6_readWord_111 : decode cX6_readWord 111 = .ok (.getfield 24, 3) := by decide +kernel
theorem dX6_readWord_114 : decode cX6_readWord 114 = .ok (.iload_n 3, 1) := by decide +kernel
theorem dX6_readWord_115 : decode cX6_readWord 115 = .ok (.iadd, 1) := by decide +kernel
theorem dX6_readWord_116 : decode cX6_readWord 116 = .ok (.aload_n 0, 1) := by decide +kernel
theorem dX6_readWord_117 : decode cX6_readWord 117 = .ok (.getfield 9, 3) := by decide +kernel
theorem dX6_readWord_120 : decode cX6_readWord 120 = .ok (.if_icmp .ge 20, 3) := by decide +kernel
theorem dX6_readWord_140 : decode cX6_readWord 140 = .ok (.bipush 32, 2) := by decide +kernel
theorem dX6_readWord_123 : decode cX6_readWord 123 = .ok (.aload_n 0, 1) := by decide +kernel
theorem dX6_readWord_124 : decode cX6_readWord 124 = .ok (.getfield 33, 3) := by decide +kernel
theorem dX6_readWord_127 : decode cX6_readWord 127 = .ok (.getfield 49, 3) := by decide +kernel
theorem dX6_readWord_130 : decode cX6_readWord 130 = .ok (.aload_n 0, 1) := by decide +kernel
theorem dX6_readWord_131 : decode cX6_readWord 131 = .ok (.getfield 24, 3) := by decide +kernel
theorem dX6_readWord_134 : decode cX6_readWord 134 = .ok (.iload_n 3, 1) := by decide +kernel
theorem dX6_readWord_135 : decode cX6_readWord 135 = .ok (.iadd, 1) := by decide +kernel
theorem dX6_readWord_136 : decode cX6_readWord 136 = .ok (.iaload, 1) := by decide +kernel
theorem dX6_readWord_137 : decode cX6_readWord 137 = .ok (.goto 5, 3) := by decide +kernel
theorem dX6_readWord_81 : decode cX6_readWord 81 = .ok (.return_, 1) := by decide +kernel
theorem dX6_readWord_14 : decode cX6_readWord 14 = .ok (.aload_n 0, 1) := by decide +kernel
theorem dX6_readWord_15 : decode cX6_readWord 15 = .ok (.getfield 33, 3) := by decide +kernel
theorem dX6_readWord_18 : decode cX6_readWord 18 = .ok (.getfield 49, 3) := by decide +kernel
theorem dX6_readWord_21 : decode cX6_readWord 21 = .ok (.aload_n 0, 1) := by decide +kernel
theorem dX6_readWord_22 : decode cX6_readWord 22 = .ok (.getfield 9, 3) := by decide +kernel
theorem dX6_readWord_25 : decode cX6_readWord 25 = .ok (.iaload, 1) := by decide +kernel
theorem dX6_readWord_26 : decode cX6_readWord 26 = .ok (.bipush 97, 2) := by decide +kernel
theorem dX6_readWord_28 : decode cX6_readWord 28 = .ok (.if_icmp .lt 33, 3) := by decide +kernel
theorem dX6_readWord_31 : decode cX6_readWord 31 = .ok (.aload_n 0, 1) := by decide +kernel
theorem dX6_readWord_32 : decode cX6_readWord 32 = .ok (.getfield 33, 3) := by decide +kernel
theorem dX6_readWord_35 : decode cX6_readWord 35 = .ok (.getfield 49, 3) := by decide +kernel
theorem dX6_readWord_38 : decode cX6_readWord 38 = .ok (.aload_n 0, 1) := by decide +kernel
theorem dX6_readWord_39 : decode cX6_readWord 39 = .ok (.getfield 9, 3) := by decide +kernel
theorem dX6_readWord_42 : decode cX6_readWord 42 = .ok (.iaload, 1) := by decide +kernel
theorem dX6_readWord_43 : decode cX6_readWord 43 = .ok (.bipush 122, 2) := by decide +kernel
theorem dX6_readWord_45 : decode cX6_readWord 45 = .ok (.if_icmp .gt 16, 3) := by decide +kernel
theorem dX6_readWord_48 : decode cX6_readWord 48 = .ok (.aload_n 0, 1) := by decide +kernel
theorem dX6_readWord_49 : decode cX6_readWord 49 = .ok (.dup, 1) := by decide +kernel
theorem dX6_readWord_50 : decode cX6_readWord 50 = .ok (.getfield 9, 3) := by decide +kernel
theorem dX6_readWord_53 : decode cX6_readWord 53 = .ok (.iconst 1, 1) := by decide +kernel
theorem dX6_readWord_54 : decode cX6_readWord 54 = .ok (.iadd, 1) := by decide +kernel
theorem dX6_readWord_55 : decode cX6_readWord 55 = .ok (.putfield 9, 3) := by decide +kernel
theorem dX6_readWord_58 : decode cX6_readWord 58 = .ok (.goto (-58), 3) := by decide +kernel
theorem w_2_234 : (Cond.methodLink RX6 61 yJ0_length_8abf5) ∈ wsL_law := sk_mem (ck_2 _ (List.mem_of_getElem? (i := 234) rfl)) rfl
theorem w_2_235 : (Cond.instanceMethod yJ0_length_8abf5) ∈ wsL_law := sk_mem (ck_2 _ (List.mem_of_getElem? (i := 235) rfl)) rfl
theorem w_2_236 : (Cond.selects RJ0 yJ0_length_8abf5 yJ0_length_8abf5) ∈ wsL_law := sk_mem (ck_2 _ (List.mem_of_getElem? (i := 236) rfl)) rfl
theorem w_3_4 : (Cond.methodLink RX6 66 yJ0_charAt_5068e) ∈ wsL_law := sk_mem (ck_3 _ (List.mem_of_getElem? (i := 4) rfl)) rfl
theorem w_3_5 : (Cond.instanceMethod yJ0_charAt_5068e) ∈ wsL_law := sk_mem (ck_3 _ (List.mem_of_getElem? (i := 5) rfl)) rfl
theorem w_3_6 : (Cond.selects RJ0 yJ0_charAt_5068e yJ0_charAt_5068e) ∈ wsL_law := sk_mem (ck_3 _ (List.mem_of_getElem? (i := 6) rfl)) rfl
theorem w_2_232 : (Cond.code yX6_readWord cX6_readWord 5 none) ∈ wsL_law := sk_mem (ck_2 _ (List.mem_of_getElem? (i := 232) rfl)) rfl
set_option maxHeartbeats 4000000 in
set_option maxRecDepth 100000 in
theorem c_rd_readWord (l : Launch) (D : va_G) (cI cJ cC cZ cS : ClassId) (zk zv : Nat) (zf : Value) (q : Nat → Nat) (xa : Nat) (xv : Int32) (xo : Nat) (xt : Int32) (xz : Nat) (xf : Int32) (xp : Int32) (tl : Nat) (tb : Nat → Nat) (hxa : xa ≤ 1600) (hxz : xz ≤ 1600) (htl : tl ≤ 1600) (htb : ∀ j, tb j ≤ 255) : skMZ zk zv zf l yX6_readWord cX6_readWord 5 none 4 85 0 0 D (skT cI cJ cC cZ cS) [.ref (q 2)] [(q 2, .inr (6, [.ref (q 0), .int (nI xa), .int xv, .int (nI xo), .int xt, .int (nI xz), .int xf, .int xp])), (q 0, .inr (10, [.ref (q 20), .int (nI tl)])), (q 20, .inl (cI, 1600, .inl (fun j => nI (tb j))))] (skV D (skT cI cJ cC cZ cS) (fun (u : va_W) => ∃ (xa2 : Nat), ∃ (xt2 : Int32), xa2 ≤ 1600 ∧ u = [(q 2, .inr (6, [.ref (q 0), .int (nI xa2), .int xv, .int (nI xo), .int xt2, .int (nI xz), .int xf, .int xp])), (q 0, .inr (10, [.ref (q 20), .int (nI tl)])), (q 20, .inl (cI, 1600, .inl (fun j => nI (tb j))))])) := by
  refine skMZ_of (by decide +kernel) (Nat.le_of_ble_eq_true rfl) ?_
  intro p e s m below meth c A ls E hP hD hZ hl
  obtain ⟨hx, hb, hr, hml, hlocks, hin, hown, hts, hK, hA⟩ := E
  have hown : s.vm.findClass RX6 = some m.cls := hown
  have hS : va_S A s.heap s.heap [] := va_S.rf
  have hl : lv_has ls 5 [(0, .ref (q 2))] := hl
  refine lv_aload_n hx hb dX6_readWord_0 rfl (lv_at hl 0 rfl) ?_
  refine sk_get (v := .int (nI xa)) (C := RX6) (T := TX6) (N := 8) hx hb hts inlX6 hown hK hP 0 rfl rfl 1 (by decide) w_1_57 rfl dX6_readWord_1 ?_
  refine lv_aload_n hx hb dX6_readWord_4 rfl (lv_at hl 0 rfl) ?_
  refine sk_get (v := .ref (q 0)) (C := RX6) (T := TX6) (N := 8) hx hb hts inlX6 hown hK hP 0 rfl rfl 0 (by decide) w_1_56 rfl dX6_readWord_5 ?_
  refine sk_get (v := .int (nI tl)) (C := RX10) (T := TX10) (N := 2) hx hb hts inlX10 hown hK hP 1 rfl rfl 1 (by decide) w_1_43 rfl dX6_readWord_8 ?_
  refine lv_icmp_ge (tgt := 61) hx hb dX6_readWord_11 (by decide) (fun c_1 => ?_) (fun c_1 => ?_)
  · have c_1 : tl ≤ xa := (nle tl xa (by omega) (by omega)).mp c_1
    refine lv_aload_n hx hb dX6_readWord_61 rfl (lv_at hl 0 rfl) ?_
    refine lv_bipush (v := (-2)) hx hb dX6_readWord_62 (by decide) ?_
    refine sk_put (ws' := [(q 2, .inr (6, [.ref (q 0), .int (nI xa), .int xv, .int (nI xo), .int (-2), .int (nI xz), .int xf, .int xp])), (q 0, .inr (10, [.ref (q 20), .int (nI tl)])), (q 20, .inl (cI, 1600, .inl (fun j => nI (tb j))))]) (C := RX6) (T := TX6) (N := 8) (v := .int (-2)) hx hb hts inlX6 tyX6 tyX6_ok nmX6 hown hK hP hD hS 0 rfl rfl 4 (by decide) w_1_60 rfl rfl rfl (Nat.le_of_ble_eq_true rfl) rfl dX6_readWord_64 (fun H locs hP hD hS => ?_)
    refine lv_aload_n hx hb dX6_readWord_67 rfl (lv_at hl 0 rfl) ?_
    refine sk_get (v := .int (nI xa)) (C := RX6) (T := TX6) (N := 8) hx hb hts inlX6 hown hK hP 0 rfl rfl 1 (by decide) w_1_57 rfl dX6_readWord_68 ?_
    refine lv_aload_n hx hb dX6_readWord_71 rfl (lv_at hl 0 rfl) ?_
    refine sk_get (v := .int (nI xz)) (C := RX6) (T := TX6) (N := 8) hx hb hts inlX6 hown hK hP 0 rfl rfl 5 (by decide) w_1_64 rfl dX6_readWord_72 ?_
    refine lv_isub hx hb dX6_readWord_75 ?_
    refine lv_topi (fun v_2 ev_2 => ?_)
    refine lv_bipush (v := 6) hx hb dX6_readWord_76 (by decide) ?_
    refine lv_icmp_le (tgt := 82) hx hb dX6_readWord_78 (by decide) (fun c_3 => ?_) (fun c_3 => ?_)
    · skip
      refine lv_iconst (v := 0) hx hb dX6_readWord_82 (by decide) ?_
      refine lv_istore_n (lv' := [(1, .int 0), (0, .ref (q 2))]) hx hb dX6_readWord_83 rfl hl (by decide) rfl (fun ls hl => ?_)
      have lp_4 : ∀ (n_5 : Nat) (i : Nat) (H : Heap) (locs : List Loc) (ls : Array Slot), 168 - i < n_5 → (i ≤ 168) → va_P D vwCl [(q 2, .inr (6, [.ref (q 0), .int (nI xa), .int xv, .int (nI xo), .int (-2), .int (nI xz), .int xf, .int xp])), (q 0, .inr (10, [.ref (q 20), .int (nI tl)])), (q 20, .inl (cI, 1600, .inl (fun j => nI (tb j))))] H → va_D A [(q 2, .inr (6, [.ref (q 0), .int (nI xa), .int xv, .int (nI xo), .int (-2), .int (nI xz), .int xf, .int xp])), (q 0, .inr (10, [.ref (q 20), .int (nI tl)])), (q 20, .inl (cI, 1600, .inl (fun j => nI (tb j))))] → va_S A s.heap H locs → lv_has ls 5 [(1, .int (nI i)), (0, .ref (q 2))] → W p l e { frames := 4, cells := 0, slots := 0, locals := 85 } s m ([.ref (q 2)] : List Value).toArray below meth c H locs 0 0 (MQ below (skV D (skT cI cJ cC cZ cS) (fun (u : va_W) => ∃ (xa2 : Nat), ∃ (xt2 : Int32), xa2 ≤ 1600 ∧ u = [(q 2, .inr (6, [.ref (q 0), .int (nI xa2), .int xv, .int (nI xo), .int xt2, .int (nI xz), .int xf, .int xp])), (q 0, .inr (10, [.ref (q 20), .int (nI tl)])), (q 20, .inl (cI, 1600, .inl (fun j => nI (tb j))))]) A) ([.ref (q 2)] : List Value).toArray s 0 0 A) (F0 m 84 ls []) := by
        intro n_5
        induction n_5 with
        | zero => intro i H locs ls hm; exact absurd hm (Nat.not_lt_zero _)
        | succ n_5 ih_lp_4 =>
          intro i H locs ls hm hi hP hD hS hl
          refine lv_iload_n hx hb dX6_readWord_84 rfl (lv_at hl 0 rfl) ?_
          refine lv_bipush (v := 6) hx hb dX6_readWord_85 (by decide) ?_
          refine lv_iadd hx hb dX6_readWord_87 ?_
          refine sk_top (nI (i + 6)) (nI_add i 6) ?_
          refine va_ldcS hx hb hown hZ.1 dX6_readWord_88 ?_
          refine sk_ViS (n := 0) (rest := [.int (nI (i + 6))]) (wr := [(q 2, .inr (6, [.ref (q 0), .int (nI xa), .int xv, .int (nI xo), .int (-2), .int (nI xz), .int xf, .int xp])), (q 0, .inr (10, [.ref (q 20), .int (nI tl)])), (q 20, .inl (cI, 1600, .inl (fun j => nI (tb j))))]) ⟨hx, hb, hml, hown, hts⟩ hl.1 (c_str_length l D cI cJ cC cZ cS zk zv zf) w_2_234 w_2_235 w_2_236 w_1_16 w_2_237 (by decide +kernel) ⟨⟨(Nat.le_of_ble_eq_true rfl), (Nat.le_of_ble_eq_true rfl)⟩, (Nat.le_of_ble_eq_true rfl), (Nat.le_of_ble_eq_true rfl)⟩ hK hP hD hS hZ hA [] [0, 1, 2] rfl rfl (by decide +kernel) (by decide +kernel) (by decide +kernel) rfl rfl rfl rfl (Nat.le_of_ble_eq_true rfl) dX6_readWord_90 (fun r_6 u H locs hw hP hD hS => ?_)
          obtain ⟨rfl, rfl⟩ := hw
          have hP : va_P D vwCl [(q 2, .inr (6, [.ref (q 0), .int (nI xa), .int xv, .int (nI xo), .int (-2), .int (nI xz), .int xf, .int xp])), (q 0, .inr (10, [.ref (q 20), .int (nI tl)])), (q 20, .inl (cI, 1600, .inl (fun j => nI (tb j))))] H := hP
          have hD : va_D A [(q 2, .inr (6, [.ref (q 0), .int (nI xa), .int xv, .int (nI xo), .int (-2), .int (nI xz), .int xf, .int xp])), (q 0, .inr (10, [.ref (q 20), .int (nI tl)])), (q 20, .inl (cI, 1600, .inl (fun j => nI (tb j))))] := hD
          refine lv_icmp_gt (tgt := 192) hx hb dX6_readWord_93 (by decide) (fun c_7 => ?_) (fun c_7 => ?_)
          · have c_7 : 168 < i + 6 := (nlt 168 (i + 6) (by omega) (by omega)).mp c_7
            exact sk_vret hx hb hr hlocks hK hP hD hS (⟨xa, (-2), by omega, rfl⟩) (Nat.le_of_ble_eq_true rfl) (Nat.le_of_ble_eq_true rfl) dX6_readWord_192
          · have c_7 : ¬ (168 < i + 6) := fun h => c_7 ((nlt 168 (i + 6) (by omega) (by omega)).mpr h)
            refine lv_iconst (v := 1) hx hb dX6_readWord_96 (by decide) ?_
            refine lv_istore_n (lv' := [(2, .int 1), (1, .int (nI i)), (0, .ref (q 2))]) hx hb dX6_readWord_97 rfl hl (by decide) rfl (fun ls hl => ?_)
            refine lv_iconst (v := 0) hx hb dX6_readWord_98 (by decide) ?_
            refine lv_istore_n (lv' := [(3, .int 0), (2, .int 1), (1, .int (nI i)), (0, .ref (q 2))]) hx hb dX6_readWord_99 rfl hl (by decide) rfl (fun ls hl => ?_)
            have lp_8 : ∀ (n_9 : Nat) (jj : Nat) (al : Int32) (H : Heap) (locs : List Loc) (ls : Array Slot), 6 - jj < n_9 → (jj ≤ 6) → va_P D vwCl [(q 2, .inr (6, [.ref (q 0), .int (nI xa), .int xv, .int (nI xo), .int (-2), .int (nI xz), .int xf, .int xp])), (q 0, .inr (10, [.ref (q 20), .int (nI tl)])), (q 20, .inl (cI, 1600, .inl (fun j => nI (tb j))))] H → va_D A [(q 2, .inr (6, [.ref (q 0), .int (nI xa), .int xv, .int (nI xo), .int (-2), .int (nI xz), .int xf, .int xp])), (q 0, .inr (10, [.ref (q 20), .int (nI tl)])), (q 20, .inl (cI, 1600, .inl (fun j => nI (tb j))))] → va_S A s.heap H locs → lv_has ls 5 [(3, .int (nI jj)), (2, .int al), (1, .int (nI i)), (0, .ref (q 2))] → W p l e { frames := 4, cells := 0, slots := 0, locals := 85 } s m ([.ref (q 2)] : List Value).toArray below meth c H locs 0 0 (MQ below (skV D (skT cI cJ cC cZ cS) (fun (u : va_W) => ∃ (xa2 : Nat), ∃ (xt2 : Int32), xa2 ≤ 1600 ∧ u = [(q 2, .inr (6, [.ref (q 0), .int (nI xa2), .int xv, .int (nI xo), .int xt2, .int (nI xz), .int xf, .int xp])), (q 0, .inr (10, [.ref (q 20), .int (nI tl)])), (q 20, .inl (cI, 1600, .inl (fun j => nI (tb j))))]) A) ([.ref (q 2)] : List Value).toArray s 0 0 A) (F0 m 100 ls []) := by
              intro n_9
              induction n_9 with
              | zero => intro jj al H locs ls hm; exact absurd hm (Nat.not_lt_zero _)
              | succ n_9 ih_lp_8 =>
                intro jj al H locs ls hm hjj hP hD hS hl
                refine lv_iload_n hx hb dX6_readWord_100 rfl (lv_at hl 0 rfl) ?_
                refine lv_bipush (v := 6) hx hb dX6_readWord_101 (by decide) ?_
                refine lv_icmp_ge (tgt := 169) hx hb dX6_readWord_103 (by decide) (fun c_10 => ?_) (fun c_10 => ?_)
                · have c_10 : 6 ≤ jj := (nle 6 jj (by omega) (by omega)).mp c_10
                  refine lv_iload_n hx hb dX6_readWord_169 rfl (lv_at hl 1 rfl) ?_
                  refine lv_if_eq (tgt := 186) hx hb dX6_readWord_170 (by decide) (fun c_11 => ?_) (fun c_11 => ?_)
                  · skip
                    refine lv_iinc (v := nI (i + 6)) (lv' := [(1, .int (nI (i + 6))), (3, .int (nI jj)), (2, .int al), (0, .ref (q 2))]) hx hb dX6_readWord_186 hl (k := 2) rfl (ninc i 6 (by decide)) (by decide) rfl (fun ls hl => ?_)
                    refine lv_goto (tgt := 84) hx hb dX6_readWord_189 (by decide) ?_
                    exact ih_lp_4 (i + 6) _ _ _ (by omega) (by omega) hP hD hS (lv_sub hl [0, 3] rfl)
                  · skip
                    refine lv_aload_n hx hb dX6_readWord_173 rfl (lv_at hl 3 rfl) ?_
                    refine lv_sipush (v := 256) hx hb dX6_readWord_174 (by decide) ?_
                    refine lv_iload_n hx hb dX6_readWord_177 rfl (lv_at hl 2 rfl) ?_
                    refine lv_bipush (v := 6) hx hb dX6_readWord_178 (by decide) ?_
                    refine lv_idiv hx hb dX6_readWord_180 (by decide) ?_
                    refine sk_top (nI (i / 6)) (ndiv i 6 (by omega) (by omega) (by omega)) ?_
                    refine lv_iadd hx hb dX6_readWord_181 ?_
                    refine sk_top (nI (256 + (i / 6))) (nI_add 256 (i / 6)) ?_
                    refine sk_put (ws' := [(q 2, .inr (6, [.ref (q 0), .int (nI xa), .int xv, .int (nI xo), .int (nI (256 + (i / 6))), .int (nI xz), .int xf, .int xp])), (q 0, .inr (10, [.ref (q 20), .int (nI tl)])), (q 20, .inl (cI, 1600, .inl (fun j => nI (tb j))))]) (C := RX6) (T := TX6) (N := 8) (v := .int (nI (256 + (i / 6)))) hx hb hts inlX6 tyX6 tyX6_ok nmX6 hown hK hP hD hS 0 rfl rfl 4 (by decide) w_1_60 rfl rfl rfl (Nat.le_of_ble_eq_true rfl) rfl dX6_readWord_182 (fun H locs hP hD hS => ?_)
                    exact sk_vret hx hb hr hlocks hK hP hD hS (⟨xa, nI (256 + (i / 6)), by omega, rfl⟩) (Nat.le_of_ble_eq_true rfl) (Nat.le_of_ble_eq_true rfl) dX6_readWord_185
                · have c_10 : ¬ (6 ≤ jj) := fun h => c_10 ((nle 6 jj (by omega) (by omega)).mpr h)
                  refine lv_iload_n hx hb dX6_readWord_106 rfl (lv_at hl 1 rfl) ?_
                  refine lv_if_eq (tgt := 169) hx hb dX6_readWord_107 (by decide) (fun c_12 => ?_) (fun c_12 => ?_)
                  · skip
                    refine lv_iload_n hx hb dX6_readWord_169 rfl (lv_at hl 1 rfl) ?_
                    refine lv_if_eq (tgt := 186) hx hb dX6_readWord_170 (by decide) (fun c_13 => ?_) (fun c_13 => ?_)
                    · skip
                      refine lv_iinc (v := nI (i + 6)) (lv' := [(1, .int (nI (i + 6))), (3, .int (nI jj)), (2, .int al), (0, .ref (q 2))]) hx hb dX6_readWord_186 hl (k := 2) rfl (ninc i 6 (by decide)) (by decide) rfl (fun ls hl => ?_)
                      refine lv_goto (tgt := 84) hx hb dX6_readWord_189 (by decide) ?_
                      exact ih_lp_4 (i + 6) _ _ _ (by omega) (by omega) hP hD hS (lv_sub hl [0, 3] rfl)
                    · skip
                      refine lv_aload_n hx hb dX6_readWord_173 rfl (lv_at hl 3 rfl) ?_
                      refine lv_sipush (v := 256) hx hb dX6_readWord_174 (by decide) ?_
                      refine lv_iload_n hx hb dX6_readWord_177 rfl (lv_at hl 2 rfl) ?_
                      refine lv_bipush (v := 6) hx hb dX6_readWord_178 (by decide) ?_
                      refine lv_idiv hx hb dX6_readWord_180 (by decide) ?_
                      refine sk_top (nI (i / 6)) (ndiv i 6 (by omega) (by omega) (by omega)) ?_
                      refine lv_iadd hx hb dX6_readWord_181 ?_
                      refine sk_top (nI (256 + (i / 6))) (nI_add 256 (i / 6)) ?_
                      refine sk_put (ws' := [(q 2, .inr (6, [.ref (q 0), .int (nI xa), .int xv, .int (nI xo), .int (nI (256 + (i / 6))), .int (nI xz), .int xf, .int xp])), (q 0, .inr (10, [.ref (q 20), .int (nI tl)])), (q 20, .inl (cI, 1600, .inl (fun j => nI (tb j))))]) (C := RX6) (T := TX6) (N := 8) (v := .int (nI (256 + (i / 6)))) hx hb hts inlX6 tyX6 tyX6_ok nmX6 hown hK hP hD hS 0 rfl rfl 4 (by decide) w_1_60 rfl rfl rfl (Nat.le_of_ble_eq_true rfl) rfl dX6_readWord_182 (fun H locs hP hD hS => ?_)
                      exact sk_vret hx hb hr hlocks hK hP hD hS (⟨xa, nI (256 + (i / 6)), by omega, rfl⟩) (Nat.le_of_ble_eq_true rfl) (Nat.le_of_ble_eq_true rfl) dX6_readWord_185
                  · skip
                    have jn_14 : ∀ (lt : Int32) (H : Heap) (locs : List Loc) (ls : Array Slot), va_P D vwCl [(q 2, .inr (6, [.ref (q 0), .int (nI xa), .int xv, .int (nI xo), .int (-2), .int (nI xz), .int xf, .int xp])), (q 0, .inr (10, [.ref (q 20), .int (nI tl)])), (q 20, .inl (cI, 1600, .inl (fun j => nI (tb j))))] H → va_D A [(q 2, .inr (6, [.ref (q 0), .int (nI xa), .int xv, .int (nI xo), .int (-2), .int (nI xz), .int xf, .int xp])), (q 0, .inr (10, [.ref (q 20), .int (nI tl)])), (q 20, .inl (cI, 1600, .inl (fun j => nI (tb j))))] → va_S A s.heap H locs → lv_has ls 5 [(3, .int (nI jj)), (2, .int al), (1, .int (nI i)), (0, .ref (q 2))] → W p l e { frames := 4, cells := 0, slots := 0, locals := 85 } s m ([.ref (q 2)] : List Value).toArray below meth c H locs 0 0 (MQ below (skV D (skT cI cJ cC cZ cS) (fun (u : va_W) => ∃ (xa2 : Nat), ∃ (xt2 : Int32), xa2 ≤ 1600 ∧ u = [(q 2, .inr (6, [.ref (q 0), .int (nI xa2), .int xv, .int (nI xo), .int xt2, .int (nI xz), .int xf, .int xp])), (q 0, .inr (10, [.ref (q 20), .int (nI tl)])), (q 20, .inl (cI, 1600, .inl (fun j => nI (tb j))))]) A) ([.ref (q 2)] : List Value).toArray s 0 0 A) (F0 m 142 ls [.int lt]) := by
                      intro lt H locs ls  hP hD hS hl
                      refine lv_istore (lv' := [(4, .int lt), (3, .int (nI jj)), (2, .int al), (1, .int (nI i)), (0, .ref (q 2))]) hx hb dX6_readWord_142 hl (by decide) rfl (fun ls hl => ?_)
                      refine va_ldcS hx hb hown hZ.1 dX6_readWord_144 ?_
                      refine lv_iload_n hx hb dX6_readWord_146 rfl (lv_at hl 3 rfl) ?_
                      refine lv_iload_n hx hb dX6_readWord_147 rfl (lv_at hl 1 rfl) ?_
                      refine lv_iadd hx hb dX6_readWord_148 ?_
                      refine sk_top (nI (i + jj)) (nI_add i jj) ?_
                      refine sk_ViS (n := 1) (rest := []) (wr := [(q 2, .inr (6, [.ref (q 0), .int (nI xa), .int xv, .int (nI xo), .int (-2), .int (nI xz), .int xf, .int xp])), (q 0, .inr (10, [.ref (q 20), .int (nI tl)])), (q 20, .inl (cI, 1600, .inl (fun j => nI (tb j))))]) ⟨hx, hb, hml, hown, hts⟩ hl.1 (c_str_charAt l D cI cJ cC cZ cS zk zv zf (i + jj) (by omega)) w_3_4 w_3_5 w_3_6 w_1_16 w_3_7 (by decide +kernel) ⟨⟨(Nat.le_of_ble_eq_true rfl), (Nat.le_of_ble_eq_true rfl)⟩, (Nat.le_of_ble_eq_true rfl), (Nat.le_of_ble_eq_true rfl)⟩ hK hP hD hS hZ hA [] [0, 1, 2] rfl rfl (by decide +kernel) (by decide +kernel) (by decide +kernel) rfl rfl rfl rfl (Nat.le_of_ble_eq_true rfl) dX6_readWord_149 (fun r_15 u H locs hw hP hD hS => ?_)
                      obtain ⟨hv_16, rfl⟩ := hw
                      have hP : va_P D vwCl [(q 2, .inr (6, [.ref (q 0), .int (nI xa), .int xv, .int (nI xo), .int (-2), .int (nI xz), .int xf, .int xp])), (q 0, .inr (10, [.ref (q 20), .int (nI tl)])), (q 20, .inl (cI, 1600, .inl (fun j => nI (tb j))))] H := hP
                      have hD : va_D A [(q 2, .inr (6, [.ref (q 0), .int (nI xa), .int xv, .int (nI xo), .int (-2), .int (nI xz), .int xf, .int xp])), (q 0, .inr (10, [.ref (q 20), .int (nI tl)])), (q 20, .inl (cI, 1600, .inl (fun j => nI (tb j))))] := hD
                      refine lv_iload hx hb dX6_readWord_152 (lv_at hl 0 rfl) ?_
                      refine lv_icmp_ne (tgt := 161) hx hb dX6_readWord_154 (by decide) (fun c_17 => ?_) (fun c_17 => ?_)
                      · skip
                        refine lv_iconst (v := 0) hx hb dX6_readWord_161 (by decide) ?_
                        refine lv_istore_n (lv' := [(2, .int 0), (4, .int lt), (3, .int (nI jj)), (1, .int (nI i)), (0, .ref (q 2))]) hx hb dX6_readWord_162 rfl hl (by decide) rfl (fun ls hl => ?_)
                        refine lv_iinc (v := nI (jj + 1)) (lv' := [(3, .int (nI (jj + 1))), (2, .int 0), (4, .int lt), (1, .int (nI i)), (0, .ref (q 2))]) hx hb dX6_readWord_163 hl (k := 2) rfl (ninc jj 1 (by decide)) (by decide) rfl (fun ls hl => ?_)
                        refine lv_goto (tgt := 100) hx hb dX6_readWord_166 (by decide) ?_
                        exact ih_lp_8 (jj + 1) 0 _ _ _ (by omega) (by omega) hP hD hS (lv_sub hl [0, 1, 3, 4] rfl)
                      · skip
                        refine lv_iconst (v := 1) hx hb dX6_readWord_157 (by decide) ?_
                        refine lv_goto (tgt := 162) hx hb dX6_readWord_158 (by decide) ?_
                        refine lv_istore_n (lv' := [(2, .int 1), (4, .int lt), (3, .int (nI jj)), (1, .int (nI i)), (0, .ref (q 2))]) hx hb dX6_readWord_162 rfl hl (by decide) rfl (fun ls hl => ?_)
                        refine lv_iinc (v := nI (jj + 1)) (lv' := [(3, .int (nI (jj + 1))), (2, .int 1), (4, .int lt), (1, .int (nI i)), (0, .ref (q 2))]) hx hb dX6_readWord_163 hl (k := 2) rfl (ninc jj 1 (by decide)) (by decide) rfl (fun ls hl => ?_)
                        refine lv_goto (tgt := 100) hx hb dX6_readWord_166 (by decide) ?_
                        exact ih_lp_8 (jj + 1) 1 _ _ _ (by omega) (by omega) hP hD hS (lv_sub hl [0, 1, 3, 4] rfl)
                    refine lv_aload_n hx hb dX6_readWord_110 rfl (lv_at hl 3 rfl) ?_
                    refine sk_get (v := .int (nI xz)) (C := RX6) (T := TX6) (N := 8) hx hb hts inlX6 hown hK hP 0 rfl rfl 5 (by decide) w_1_64 rfl dX6_readWord_111 ?_
                    refine lv_iload_n hx hb dX6_readWord_114 rfl (lv_at hl 0 rfl) ?_
                    refine lv_iadd hx hb dX6_readWord_115 ?_
                    refine sk_top (nI (xz + jj)) (nI_add xz jj) ?_
                    refine lv_aload_n hx hb dX6_readWord_116 rfl (lv_at hl 3 rfl) ?_
                    refine sk_get (v := .int (nI xa)) (C := RX6) (T := TX6) (N := 8) hx hb hts inlX6 hown hK hP 0 rfl rfl 1 (by decide) w_1_57 rfl dX6_readWord_117 ?_
                    refine lv_icmp_ge (tgt := 140) hx hb dX6_readWord_120 (by decide) (fun c_18 => ?_) (fun c_18 => ?_)
                    · have c_18 : xa ≤ xz + jj := (nle xa (xz + jj) (by omega) (by omega)).mp c_18
                      refine lv_bipush (v := 32) hx hb dX6_readWord_140 (by decide) ?_
                      exact jn_14 32 _ _ _  hP hD hS (lv_sub hl [0, 1, 2, 3] rfl)
                    · have c_18 : ¬ (xa ≤ xz + jj) := fun h => c_18 ((nle xa (xz + jj) (by omega) (by omega)).mpr h)
                      refine lv_aload_n hx hb dX6_readWord_123 rfl (lv_at hl 3 rfl) ?_
                      refine sk_get (v := .ref (q 0)) (C := RX6) (T := TX6) (N := 8) hx hb hts inlX6 hown hK hP 0 rfl rfl 0 (by decide) w_1_56 rfl dX6_readWord_124 ?_
                      refine sk_get (v := .ref (q 20)) (C := RX10) (T := TX10) (N := 2) hx hb hts inlX10 hown hK hP 1 rfl rfl 0 (by decide) w_1_40 rfl dX6_readWord_127 ?_
                      refine lv_aload_n hx hb dX6_readWord_130 rfl (lv_at hl 3 rfl) ?_
                      refine sk_get (v := .int (nI xz)) (C := RX6) (T := TX6) (N := 8) hx hb hts inlX6 hown hK hP 0 rfl rfl 5 (by decide) w_1_64 rfl dX6_readWord_131 ?_
                      refine lv_iload_n hx hb dX6_readWord_134 rfl (lv_at hl 0 rfl) ?_
                      refine lv_iadd hx hb dX6_readWord_135 ?_
                      refine sk_top (nI (xz + jj)) (nI_add xz jj) ?_
                      refine va_iald hx hb hK.1 hP 2 0 rfl rfl (vin (xz + jj) 1600 (by omega) (by omega)) dX6_readWord_136 ?_
                      refine sk_top (nI (tb (xz + jj))) (nrd tb (xz + jj) (by omega)) ?_
                      have hb_19 := htb (xz + jj)
                      refine lv_goto (tgt := 142) hx hb dX6_readWord_137 (by decide) ?_
                      exact jn_14 (nI (tb (xz + jj))) _ _ _  hP hD hS (lv_sub hl [0, 1, 2, 3] rfl)
            exact lp_8 (6 - 0 + 1) 0 1 _ _ _ (Nat.lt_succ_self _) (by omega) hP hD hS (lv_sub hl [0, 1, 2, 3] rfl)
      exact lp_4 (168 - 0 + 1) 0 _ _ _ (Nat.lt_succ_self _) (by omega) hP hD hS (lv_sub hl [0, 1] rfl)
    · skip
      exact sk_vret hx hb hr hlocks hK hP hD hS (⟨xa, (-2), by omega, rfl⟩) (Nat.le_of_ble_eq_true rfl) (Nat.le_of_ble_eq_true rfl) dX6_readWord_81
  · have c_1 : ¬ (tl ≤ xa) := fun h => c_1 ((nle tl xa (by omega) (by omega)).mpr h)
    refine lv_aload_n hx hb dX6_readWord_14 rfl (lv_at hl 0 rfl) ?_
    refine sk_get (v := .ref (q 0)) (C := RX6) (T := TX6) (N := 8) hx hb hts inlX6 hown hK hP 0 rfl rfl 0 (by decide) w_1_56 rfl dX6_readWord_15 ?_
    refine sk_get (v := .ref (q 20)) (C := RX10) (T := TX10) (N := 2) hx hb hts inlX10 hown hK hP 1 rfl rfl 0 (by decide) w_1_40 rfl dX6_readWord_18 ?_
    refine lv_aload_n hx hb dX6_readWord_21 rfl (lv_at hl 0 rfl) ?_
    refine sk_get (v := .int (nI xa)) (C := RX6) (T := TX6) (N := 8) hx hb hts inlX6 hown hK hP 0 rfl rfl 1 (by decide) w_1_57 rfl dX6_readWord_22 ?_
    refine va_iald hx hb hK.1 hP 2 0 rfl rfl (vin xa 1600 (by omega) (by omega)) dX6_readWord_25 ?_
    refine sk_top (nI (tb xa)) (nrd tb xa (by omega)) ?_
    have hb_20 := htb xa
    refine lv_bipush (v := 97) hx hb dX6_readWord_26 (by decide) ?_
    refine lv_icmp_lt (tgt := 61) hx hb dX6_readWord_28 (by decide) (fun c_21 => ?_) (fun c_21 => ?_)
    · have c_21 : tb xa < 97 := (nlt (tb xa) 97 (by omega) (by omega)).mp c_21
      refine lv_aload_n hx hb dX6_readWord_61 rfl (lv_at hl 0 rfl) ?_
      refine lv_bipush (v := (-2)) hx hb dX6_readWord_62 (by decide) ?_
      refine sk_put (ws' := [(q 2, .inr (6, [.ref (q 0), .int (nI xa), .int xv, .int (nI xo), .int (-2), .int (nI xz), .int xf, .int xp])), (q 0, .inr (10, [.ref (q 20), .int (nI tl)])), (q 20, .inl (cI, 1600, .inl (fun j => nI (tb j))))]) (C := RX6) (T := TX6) (N := 8) (v := .int (-2)) hx hb hts inlX6 tyX6 tyX6_ok nmX6 hown hK hP hD hS 0 rfl rfl 4 (by decide) w_1_60 rfl rfl rfl (Nat.le_of_ble_eq_true rfl) rfl dX6_readWord_64 (fun H locs hP hD hS => ?_)
      refine lv_aload_n hx hb dX6_readWord_67 rfl (lv_at hl 0 rfl) ?_
      refine sk_get (v := .int (nI xa)) (C := RX6) (T := TX6) (N := 8) hx hb hts inlX6 hown hK hP 0 rfl rfl 1 (by decide) w_1_57 rfl dX6_readWord_68 ?_
      refine lv_aload_n hx hb dX6_readWord_71 rfl (lv_at hl 0 rfl) ?_
      refine sk_get (v := .int (nI xz)) (C := RX6) (T := TX6) (N := 8) hx hb hts inlX6 hown hK hP 0 rfl rfl 5 (by decide) w_1_64 rfl dX6_readWord_72 ?_
      refine lv_isub hx hb dX6_readWord_75 ?_
      refine lv_topi (fun v_22 ev_22 => ?_)
      refine lv_bipush (v := 6) hx hb dX6_readWord_76 (by decide) ?_
      refine lv_icmp_le (tgt := 82) hx hb dX6_readWord_78 (by decide) (fun c_23 => ?_) (fun c_23 => ?_)
      · skip
        refine lv_iconst (v := 0) hx hb dX6_readWord_82 (by decide) ?_
        refine lv_istore_n (lv' := [(1, .int 0), (0, .ref (q 2))]) hx hb dX6_readWord_83 rfl hl (by decide) rfl (fun ls hl => ?_)
        have lp_24 : ∀ (n_25 : Nat) (i : Nat) (H : Heap) (locs : List Loc) (ls : Array Slot), 168 - i < n_25 → (i ≤ 168) → va_P D vwCl [(q 2, .inr (6, [.ref (q 0), .int (nI xa), .int xv, .int (nI xo), .int (-2), .int (nI xz), .int xf, .int xp])), (q 0, .inr (10, [.ref (q 20), .int (nI tl)])), (q 20, .inl (cI, 1600, .inl (fun j => nI (tb j))))] H → va_D A [(q 2, .inr (6, [.ref (q 0), .int (nI xa), .int xv, .int (nI xo), .int (-2), .int (nI xz), .int xf, .int xp])), (q 0, .inr (10, [.ref (q 20), .int (nI tl)])), (q 20, .inl (cI, 1600, .inl (fun j => nI (tb j))))] → va_S A s.heap H locs → lv_has ls 5 [(1, .int (nI i)), (0, .ref (q 2))] → W p l e { frames := 4, cells := 0, slots := 0, locals := 85 } s m ([.ref (q 2)] : List Value).toArray below meth c H locs 0 0 (MQ below (skV D (skT cI cJ cC cZ cS) (fun (u : va_W) => ∃ (xa2 : Nat), ∃ (xt2 : Int32), xa2 ≤ 1600 ∧ u = [(q 2, .inr (6, [.ref (q 0), .int (nI xa2), .int xv, .int (nI xo), .int xt2, .int (nI xz), .int xf, .int xp])), (q 0, .inr (10, [.ref (q 20), .int (nI tl)])), (q 20, .inl (cI, 1600, .inl (fun j => nI (tb j))))]) A) ([.ref (q 2)] : List Value).toArray s 0 0 A) (F0 m 84 ls []) := by
          intro n_25
          induction n_25 with
          | zero => intro i H locs ls hm; exact absurd hm (Nat.not_lt_zero _)
          | succ n_25 ih_lp_24 =>
            intro i H locs ls hm hi hP hD hS hl
            refine lv_iload_n hx hb dX6_readWord_84 rfl (lv_at hl 0 rfl) ?_
            refine lv_bipush (v := 6) hx hb dX6_readWord_85 (by decide) ?_
            refine lv_iadd hx hb dX6_readWord_87 ?_
            refine sk_top (nI (i + 6)) (nI_add i 6) ?_
            refine va_ldcS hx hb hown hZ.1 dX6_readWord_88 ?_
            refine sk_ViS (n := 0) (rest := [.int (nI (i + 6))]) (wr := [(q 2, .inr (6, [.ref (q 0), .int (nI xa), .int xv, .int (nI xo), .int (-2), .int (nI xz), .int xf, .int xp])), (q 0, .inr (10, [.ref (q 20), .int (nI tl)])), (q 20, .inl (cI, 1600, .inl (fun j => nI (tb j))))]) ⟨hx, hb, hml, hown, hts⟩ hl.1 (c_str_length l D cI cJ cC cZ cS zk zv zf) w_2_234 w_2_235 w_2_236 w_1_16 w_2_237 (by decide +kernel) ⟨⟨(Nat.le_of_ble_eq_true rfl), (Nat.le_of_ble_eq_true rfl)⟩, (Nat.le_of_ble_eq_true rfl), (Nat.le_of_ble_eq_true rfl)⟩ hK hP hD hS hZ hA [] [0, 1, 2] rfl rfl (by decide +kernel) (by decide +kernel) (by decide +kernel) rfl rfl rfl rfl (Nat.le_of_ble_eq_true rfl) dX6_readWord_90 (fun r_26 u H locs hw hP hD hS => ?_)
            obtain ⟨rfl, rfl⟩ := hw
            have hP : va_P D vwCl [(q 2, .inr (6, [.ref (q 0), .int (nI xa), .int xv, .int (nI xo), .int (-2), .int (nI xz), .int xf, .int xp])), (q 0, .inr (10, [.ref (q 20), .int (nI tl)])), (q 20, .inl (cI, 1600, .inl (fun j => nI (tb j))))] H := hP
            have hD : va_D A [(q 2, .inr (6, [.ref (q 0), .int (nI xa), .int xv, .int (nI xo), .int (-2), .int (nI xz), .int xf, .int xp])), (q 0, .inr (10, [.ref (q 20), .int (nI tl)])), (q 20, .inl (cI, 1600, .inl (fun j => nI (tb j))))] := hD
            refine lv_icmp_gt (tgt := 192) hx hb dX6_readWord_93 (by decide) (fun c_27 => ?_) (fun c_27 => ?_)
            · have c_27 : 168 < i + 6 := (nlt 168 (i + 6) (by omega) (by omega)).mp c_27
              exact sk_vret hx hb hr hlocks hK hP hD hS (⟨xa, (-2), by omega, rfl⟩) (Nat.le_of_ble_eq_true rfl) (Nat.le_of_ble_eq_true rfl) dX6_readWord_192
            · have c_27 : ¬ (168 < i + 6) := fun h => c_27 ((nlt 168 (i + 6) (by omega) (by omega)).mpr h)
              refine lv_iconst (v := 1) hx hb dX6_readWord_96 (by decide) ?_
              refine lv_istore_n (lv' := [(2, .int 1), (1, .int (nI i)), (0, .ref (q 2))]) hx hb dX6_readWord_97 rfl hl (by decide) rfl (fun ls hl => ?_)
              refine lv_iconst (v := 0) hx hb dX6_readWord_98 (by decide) ?_
              refine lv_istore_n (lv' := [(3, .int 0), (2, .int 1), (1, .int (nI i)), (0, .ref (q 2))]) hx hb dX6_readWord_99 rfl hl (by decide) rfl (fun ls hl => ?_)
              have lp_28 : ∀ (n_29 : Nat) (jj : Nat) (al : Int32) (H : Heap) (locs : List Loc) (ls : Array Slot), 6 - jj < n_29 → (jj ≤ 6) → va_P D vwCl [(q 2, .inr (6, [.ref (q 0), .int (nI xa), .int xv, .int (nI xo), .int (-2), .int (nI xz), .int xf, .int xp])), (q 0, .inr (10, [.ref (q 20), .int (nI tl)])), (q 20, .inl (cI, 1600, .inl (fun j => nI (tb j))))] H → va_D A [(q 2, .inr (6, [.ref (q 0), .int (nI xa), .int xv, .int (nI xo), .int (-2), .int (nI xz), .int xf, .int xp])), (q 0, .inr (10, [.ref (q 20), .int (nI tl)])), (q 20, .inl (cI, 1600, .inl (fun j => nI (tb j))))] → va_S A s.heap H locs → lv_has ls 5 [(3, .int (nI jj)), (2, .int al), (1, .int (nI i)), (0, .ref (q 2))] → W p l e { frames := 4, cells := 0, slots := 0, locals := 85 } s m ([.ref (q 2)] : List Value).toArray below meth c H locs 0 0 (MQ below (skV D (skT cI cJ cC cZ cS) (fun (u : va_W) => ∃ (xa2 : Nat), ∃ (xt2 : Int32), xa2 ≤ 1600 ∧ u = [(q 2, .inr (6, [.ref (q 0), .int (nI xa2), .int xv, .int (nI xo), .int xt2, .int (nI xz), .int xf, .int xp])), (q 0, .inr (10, [.ref (q 20), .int (nI tl)])), (q 20, .inl (cI, 1600, .inl (fun j => nI (tb j))))]) A) ([.ref (q 2)] : List Value).toArray s 0 0 A) (F0 m 100 ls []) := by
                intro n_29
                induction n_29 with
                | zero => intro jj al H locs ls hm; exact absurd hm (Nat.not_lt_zero _)
                | succ n_29 ih_lp_28 =>
                  intro jj al H locs ls hm hjj hP hD hS hl
                  refine lv_iload_n hx hb dX6_readWord_100 rfl (lv_at hl 0 rfl) ?_
                  refine lv_bipush (v := 6) hx hb dX6_readWord_101 (by decide) ?_
                  refine lv_icmp_ge (tgt := 169) hx hb dX6_readWord_103 (by decide) (fun c_30 => ?_) (fun c_30 => ?_)
                  · have c_30 : 6 ≤ jj := (nle 6 jj (by omega) (by omega)).mp c_30
                    refine lv_iload_n hx hb dX6_readWord_169 rfl (lv_at hl 1 rfl) ?_
                    refine lv_if_eq (tgt := 186) hx hb dX6_readWord_170 (by decide) (fun c_31 => ?_) (fun c_31 => ?_)
                    · skip
                      refine lv_iinc (v := nI (i + 6)) (lv' := [(1, .int (nI (i + 6))), (3, .int (nI jj)), (2, .int al), (0, .ref (q 2))]) hx hb dX6_readWord_186 hl (k := 2) rfl (ninc i 6 (by decide)) (by decide) rfl (fun ls hl => ?_)
                      refine lv_goto (tgt := 84) hx hb dX6_readWord_189 (by decide) ?_
                      exact ih_lp_24 (i + 6) _ _ _ (by omega) (by omega) hP hD hS (lv_sub hl [0, 3] rfl)
                    · skip
                      refine lv_aload_n hx hb dX6_readWord_173 rfl (lv_at hl 3 rfl) ?_
                      refine lv_sipush (v := 256) hx hb dX6_readWord_174 (by decide) ?_
                      refine lv_iload_n hx hb dX6_readWord_177 rfl (lv_at hl 2 rfl) ?_
                      refine lv_bipush (v := 6) hx hb dX6_readWord_178 (by decide) ?_
                      refine lv_idiv hx hb dX6_readWord_180 (by decide) ?_
                      refine sk_top (nI (i / 6)) (ndiv i 6 (by omega) (by omega) (by omega)) ?_
                      refine lv_iadd hx hb dX6_readWord_181 ?_
                      refine sk_top (nI (256 + (i / 6))) (nI_add 256 (i / 6)) ?_
                      refine sk_put (ws' := [(q 2, .inr (6, [.ref (q 0), .int (nI xa), .int xv, .int (nI xo), .int (nI (256 + (i / 6))), .int (nI xz), .int xf, .int xp])), (q 0, .inr (10, [.ref (q 20), .int (nI tl)])), (q 20, .inl (cI, 1600, .inl (fun j => nI (tb j))))]) (C := RX6) (T := TX6) (N := 8) (v := .int (nI (256 + (i / 6)))) hx hb hts inlX6 tyX6 tyX6_ok nmX6 hown hK hP hD hS 0 rfl rfl 4 (by decide) w_1_60 rfl rfl rfl (Nat.le_of_ble_eq_true rfl) rfl dX6_readWord_182 (fun H locs hP hD hS => ?_)
                      exact sk_vret hx hb hr hlocks hK hP hD hS (⟨xa, nI (256 + (i / 6)), by omega, rfl⟩) (Nat.le_of_ble_eq_true rfl) (Nat.le_of_ble_eq_true rfl) dX6_readWord_185
                  · have c_30 : ¬ (6 ≤ jj) := fun h => c_30 ((nle 6 jj (by omega) (by omega)).mpr h)
                    refine lv_iload_n hx hb dX6_readWord_106 rfl (lv_at hl 1 rfl) ?_
                    refine lv_if_eq (tgt := 169) hx hb dX6_readWord_107 (by decide) (fun c_32 => ?_) (fun c_32 => ?_)
                    · skip
                      refine lv_iload_n hx hb dX6_readWord_169 rfl (lv_at hl 1 rfl) ?_
                      refine lv_if_eq (tgt := 186) hx hb dX6_readWord_170 (by decide) (fun c_33 => ?_) (fun c_33 => ?_)
                      · skip
                        refine lv_iinc (v := nI (i + 6)) (lv' := [(1, .int (nI (i + 6))), (3, .int (nI jj)), (2, .int al), (0, .ref (q 2))]) hx hb dX6_readWord_186 hl (k := 2) rfl (ninc i 6 (by decide)) (by decide) rfl (fun ls hl => ?_)
                        refine lv_goto (tgt := 84) hx hb dX6_readWord_189 (by decide) ?_
                        exact ih_lp_24 (i + 6) _ _ _ (by omega) (by omega) hP hD hS (lv_sub hl [0, 3] rfl)
                      · skip
                        refine lv_aload_n hx hb dX6_readWord_173 rfl (lv_at hl 3 rfl) ?_
                        refine lv_sipush (v := 256) hx hb dX6_readWord_174 (by decide) ?_
                        refine lv_iload_n hx hb dX6_readWord_177 rfl (lv_at hl 2 rfl) ?_
                        refine lv_bipush (v := 6) hx hb dX6_readWord_178 (by decide) ?_
                        refine lv_idiv hx hb dX6_readWord_180 (by decide) ?_
                        refine sk_top (nI (i / 6)) (ndiv i 6 (by omega) (by omega) (by omega)) ?_
                        refine lv_iadd hx hb dX6_readWord_181 ?_
                        refine sk_top (nI (256 + (i / 6))) (nI_add 256 (i / 6)) ?_
                        refine sk_put (ws' := [(q 2, .inr (6, [.ref (q 0), .int (nI xa), .int xv, .int (nI xo), .int (nI (256 + (i / 6))), .int (nI xz), .int xf, .int xp])), (q 0, .inr (10, [.ref (q 20), .int (nI tl)])), (q 20, .inl (cI, 1600, .inl (fun j => nI (tb j))))]) (C := RX6) (T := TX6) (N := 8) (v := .int (nI (256 + (i / 6)))) hx hb hts inlX6 tyX6 tyX6_ok nmX6 hown hK hP hD hS 0 rfl rfl 4 (by decide) w_1_60 rfl rfl rfl (Nat.le_of_ble_eq_true rfl) rfl dX6_readWord_182 (fun H locs hP hD hS => ?_)
                        exact sk_vret hx hb hr hlocks hK hP hD hS (⟨xa, nI (256 + (i / 6)), by omega, rfl⟩) (Nat.le_of_ble_eq_true rfl) (Nat.le_of_ble_eq_true rfl) dX6_readWord_185
                    · skip
                      have jn_34 : ∀ (lt : Int32) (H : Heap) (locs : List Loc) (ls : Array Slot), va_P D vwCl [(q 2, .inr (6, [.ref (q 0), .int (nI xa), .int xv, .int (nI xo), .int (-2), .int (nI xz), .int xf, .int xp])), (q 0, .inr (10, [.ref (q 20), .int (nI tl)])), (q 20, .inl (cI, 1600, .inl (fun j => nI (tb j))))] H → va_D A [(q 2, .inr (6, [.ref (q 0), .int (nI xa), .int xv, .int (nI xo), .int (-2), .int (nI xz), .int xf, .int xp])), (q 0, .inr (10, [.ref (q 20), .int (nI tl)])), (q 20, .inl (cI, 1600, .inl (fun j => nI (tb j))))] → va_S A s.heap H locs → lv_has ls 5 [(3, .int (nI jj)), (2, .int al), (1, .int (nI i)), (0, .ref (q 2))] → W p l e { frames := 4, cells := 0, slots := 0, locals := 85 } s m ([.ref (q 2)] : List Value).toArray below meth c H locs 0 0 (MQ below (skV D (skT cI cJ cC cZ cS) (fun (u : va_W) => ∃ (xa2 : Nat), ∃ (xt2 : Int32), xa2 ≤ 1600 ∧ u = [(q 2, .inr (6, [.ref (q 0), .int (nI xa2), .int xv, .int (nI xo), .int xt2, .int (nI xz), .int xf, .int xp])), (q 0, .inr (10, [.ref (q 20), .int (nI tl)])), (q 20, .inl (cI, 1600, .inl (fun j => nI (tb j))))]) A) ([.ref (q 2)] : List Value).toArray s 0 0 A) (F0 m 142 ls [.int lt]) := by
                        intro lt H locs ls  hP hD hS hl
                        refine lv_istore (lv' := [(4, .int lt), (3, .int (nI jj)), (2, .int al), (1, .int (nI i)), (0, .ref (q 2))]) hx hb dX6_readWord_142 hl (by decide) rfl (fun ls hl => ?_)
                        refine va_ldcS hx hb hown hZ.1 dX6_readWord_144 ?_
                        refine lv_iload_n hx hb dX6_readWord_146 rfl (lv_at hl 3 rfl) ?_
                        refine lv_iload_n hx hb dX6_readWord_147 rfl (lv_at hl 1 rfl) ?_
                        refine lv_iadd hx hb dX6_readWord_148 ?_
                        refine sk_top (nI (i + jj)) (nI_add i jj) ?_
                        refine sk_ViS (n := 1) (rest := []) (wr := [(q 2, .inr (6, [.ref (q 0), .int (nI xa), .int xv, .int (nI xo), .int (-2), .int (nI xz), .int xf, .int xp])), (q 0, .inr (10, [.ref (q 20), .int (nI tl)])), (q 20, .inl (cI, 1600, .inl (fun j => nI (tb j))))]) ⟨hx, hb, hml, hown, hts⟩ hl.1 (c_str_charAt l D cI cJ cC cZ cS zk zv zf (i + jj) (by omega)) w_3_4 w_3_5 w_3_6 w_1_16 w_3_7 (by decide +kernel) ⟨⟨(Nat.le_of_ble_eq_true rfl), (Nat.le_of_ble_eq_true rfl)⟩, (Nat.le_of_ble_eq_true rfl), (Nat.le_of_ble_eq_true rfl)⟩ hK hP hD hS hZ hA [] [0, 1, 2] rfl rfl (by decide +kernel) (by decide +kernel) (by decide +kernel) rfl rfl rfl rfl (Nat.le_of_ble_eq_true rfl) dX6_readWord_149 (fun r_35 u H locs hw hP hD hS => ?_)
                        obtain ⟨hv_36, rfl⟩ := hw
                        have hP : va_P D vwCl [(q 2, .inr (6, [.ref (q 0), .int (nI xa), .int xv, .int (nI xo), .int (-2), .int (nI xz), .int xf, .int xp])), (q 0, .inr (10, [.ref (q 20), .int (nI tl)])), (q 20, .inl (cI, 1600, .inl (fun j => nI (tb j))))] H := hP
                        have hD : va_D A [(q 2, .inr (6, [.ref (q 0), .int (nI xa), .int xv, .int (nI xo), .int (-2), .int (nI xz), .int xf, .int xp])), (q 0, .inr (10, [.ref (q 20), .int (nI tl)])), (q 20, .inl (cI, 1600, .inl (fun j => nI (tb j))))] := hD
                        refine lv_iload hx hb dX6_readWord_152 (lv_at hl 0 rfl) ?_
                        refine lv_icmp_ne (tgt := 161) hx hb dX6_readWord_154 (by decide) (fun c_37 => ?_) (fun c_37 => ?_)
                        · skip
                          refine lv_iconst (v := 0) hx hb dX6_readWord_161 (by decide) ?_
                          refine lv_istore_n (lv' := [(2, .int 0), (4, .int lt), (3, .int (nI jj)), (1, .int (nI i)), (0, .ref (q 2))]) hx hb dX6_readWord_162 rfl hl (by decide) rfl (fun ls hl => ?_)
                          refine lv_iinc (v := nI (jj + 1)) (lv' := [(3, .int (nI (jj + 1))), (2, .int 0), (4, .int lt), (1, .int (nI i)), (0, .ref (q 2))]) hx hb dX6_readWord_163 hl (k := 2) rfl (ninc jj 1 (by decide)) (by decide) rfl (fun ls hl => ?_)
                          refine lv_goto (tgt := 100) hx hb dX6_readWord_166 (by decide) ?_
                          exact ih_lp_28 (jj + 1) 0 _ _ _ (by omega) (by omega) hP hD hS (lv_sub hl [0, 1, 3, 4] rfl)
                        · skip
                          refine lv_iconst (v := 1) hx hb dX6_readWord_157 (by decide) ?_
                          refine lv_goto (tgt := 162) hx hb dX6_readWord_158 (by decide) ?_
                          refine lv_istore_n (lv' := [(2, .int 1), (4, .int lt), (3, .int (nI jj)), (1, .int (nI i)), (0, .ref (q 2))]) hx hb dX6_readWord_162 rfl hl (by decide) rfl (fun ls hl => ?_)
                          refine lv_iinc (v := nI (jj + 1)) (lv' := [(3, .int (nI (jj + 1))), (2, .int 1), (4, .int lt), (1, .int (nI i)), (0, .ref (q 2))]) hx hb dX6_readWord_163 hl (k := 2) rfl (ninc jj 1 (by decide)) (by decide) rfl (fun ls hl => ?_)
                          refine lv_goto (tgt := 100) hx hb dX6_readWord_166 (by decide) ?_
                          exact ih_lp_28 (jj + 1) 1 _ _ _ (by omega) (by omega) hP hD hS (lv_sub hl [0, 1, 3, 4] rfl)
                      refine lv_aload_n hx hb dX6_readWord_110 rfl (lv_at hl 3 rfl) ?_
                      refine sk_get (v := .int (nI xz)) (C := RX6) (T := TX6) (N := 8) hx hb hts inlX6 hown hK hP 0 rfl rfl 5 (by decide) w_1_64 rfl dX6_readWord_111 ?_
                      refine lv_iload_n hx hb dX6_readWord_114 rfl (lv_at hl 0 rfl) ?_
                      refine lv_iadd hx hb dX6_readWord_115 ?_
                      refine sk_top (nI (xz + jj)) (nI_add xz jj) ?_
                      refine lv_aload_n hx hb dX6_readWord_116 rfl (lv_at hl 3 rfl) ?_
                      refine sk_get (v := .int (nI xa)) (C := RX6) (T := TX6) (N := 8) hx hb hts inlX6 hown hK hP 0 rfl rfl 1 (by decide) w_1_57 rfl dX6_readWord_117 ?_
                      refine lv_icmp_ge (tgt := 140) hx hb dX6_readWord_120 (by decide) (fun c_38 => ?_) (fun c_38 => ?_)
                      · have c_38 : xa ≤ xz + jj := (nle xa (xz + jj) (by omega) (by omega)).mp c_38
                        refine lv_bipush (v := 32) hx hb dX6_readWord_140 (by decide) ?_
                        exact jn_34 32 _ _ _  hP hD hS (lv_sub hl [0, 1, 2, 3] rfl)
                      · have c_38 : ¬ (xa ≤ xz + jj) := fun h => c_38 ((nle xa (xz + jj) (by omega) (by omega)).mpr h)
                        refine lv_aload_n hx hb dX6_readWord_123 rfl (lv_at hl 3 rfl) ?_
                        refine sk_get (v := .ref (q 0)) (C := RX6) (T := TX6) (N := 8) hx hb hts inlX6 hown hK hP 0 rfl rfl 0 (by decide) w_1_56 rfl dX6_readWord_124 ?_
                        refine sk_get (v := .ref (q 20)) (C := RX10) (T := TX10) (N := 2) hx hb hts inlX10 hown hK hP 1 rfl rfl 0 (by decide) w_1_40 rfl dX6_readWord_127 ?_
                        refine lv_aload_n hx hb dX6_readWord_130 rfl (lv_at hl 3 rfl) ?_
                        refine sk_get (v := .int (nI xz)) (C := RX6) (T := TX6) (N := 8) hx hb hts inlX6 hown hK hP 0 rfl rfl 5 (by decide) w_1_64 rfl dX6_readWord_131 ?_
                        refine lv_iload_n hx hb dX6_readWord_134 rfl (lv_at hl 0 rfl) ?_
                        refine lv_iadd hx hb dX6_readWord_135 ?_
                        refine sk_top (nI (xz + jj)) (nI_add xz jj) ?_
                        refine va_iald hx hb hK.1 hP 2 0 rfl rfl (vin (xz + jj) 1600 (by omega) (by omega)) dX6_readWord_136 ?_
                        refine sk_top (nI (tb (xz + jj))) (nrd tb (xz + jj) (by omega)) ?_
                        have hb_39 := htb (xz + jj)
                        refine lv_goto (tgt := 142) hx hb dX6_readWord_137 (by decide) ?_
                        exact jn_34 (nI (tb (xz + jj))) _ _ _  hP hD hS (lv_sub hl [0, 1, 2, 3] rfl)
              exact lp_28 (6 - 0 + 1) 0 1 _ _ _ (Nat.lt_succ_self _) (by omega) hP hD hS (lv_sub hl [0, 1, 2, 3] rfl)
        exact lp_24 (168 - 0 + 1) 0 _ _ _ (Nat.lt_succ_self _) (by omega) hP hD hS (lv_sub hl [0, 1] rfl)
      · skip
        exact sk_vret hx hb hr hlocks hK hP hD hS (⟨xa, (-2), by omega, rfl⟩) (Nat.le_of_ble_eq_true rfl) (Nat.le_of_ble_eq_true rfl) dX6_readWord_81
    · have c_21 : ¬ (tb xa < 97) := fun h => c_21 ((nlt (tb xa) 97 (by omega) (by omega)).mpr h)
      refine lv_aload_n hx hb dX6_readWord_31 rfl (lv_at hl 0 rfl) ?_
      refine sk_get (v := .ref (q 0)) (C := RX6) (T := TX6) (N := 8) hx hb hts inlX6 hown hK hP 0 rfl rfl 0 (by decide) w_1_56 rfl dX6_readWord_32 ?_
      refine sk_get (v := .ref (q 20)) (C := RX10) (T := TX10) (N := 2) hx hb hts inlX10 hown hK hP 1 rfl rfl 0 (by decide) w_1_40 rfl dX6_readWord_35 ?_
      refine lv_aload_n hx hb dX6_readWord_38 rfl (lv_at hl 0 rfl) ?_
      refine sk_get (v := .int (nI xa)) (C := RX6) (T := TX6) (N := 8) hx hb hts inlX6 hown hK hP 0 rfl rfl 1 (by decide) w_1_57 rfl dX6_readWord_39 ?_
      refine va_iald hx hb hK.1 hP 2 0 rfl rfl (vin xa 1600 (by omega) (by omega)) dX6_readWord_42 ?_
      refine sk_top (nI (tb xa)) (nrd tb xa (by omega)) ?_
      have hb_40 := htb xa
      refine lv_bipush (v := 122) hx hb dX6_readWord_43 (by decide) ?_
      refine lv_icmp_gt (tgt := 61) hx hb dX6_readWord_45 (by decide) (fun c_41 => ?_) (fun c_41 => ?_)
      · have c_41 : 122 < tb xa := (nlt 122 (tb xa) (by omega) (by omega)).mp c_41
        refine lv_aload_n hx hb dX6_readWord_61 rfl (lv_at hl 0 rfl) ?_
        refine lv_bipush (v := (-2)) hx hb dX6_readWord_62 (by decide) ?_
        refine sk_put (ws' := [(q 2, .inr (6, [.ref (q 0), .int (nI xa), .int xv, .int (nI xo), .int (-2), .int (nI xz), .int xf, .int xp])), (q 0, .inr (10, [.ref (q 20), .int (nI tl)])), (q 20, .inl (cI, 1600, .inl (fun j => nI (tb j))))]) (C := RX6) (T := TX6) (N := 8) (v := .int (-2)) hx hb hts inlX6 tyX6 tyX6_ok nmX6 hown hK hP hD hS 0 rfl rfl 4 (by decide) w_1_60 rfl rfl rfl (Nat.le_of_ble_eq_true rfl) rfl dX6_readWord_64 (fun H locs hP hD hS => ?_)
        refine lv_aload_n hx hb dX6_readWord_67 rfl (lv_at hl 0 rfl) ?_
        refine sk_get (v := .int (nI xa)) (C := RX6) (T := TX6) (N := 8) hx hb hts inlX6 hown hK hP 0 rfl rfl 1 (by decide) w_1_57 rfl dX6_readWord_68 ?_
        refine lv_aload_n hx hb dX6_readWord_71 rfl (lv_at hl 0 rfl) ?_
        refine sk_get (v := .int (nI xz)) (C := RX6) (T := TX6) (N := 8) hx hb hts inlX6 hown hK hP 0 rfl rfl 5 (by decide) w_1_64 rfl dX6_readWord_72 ?_
        refine lv_isub hx hb dX6_readWord_75 ?_
        refine lv_topi (fun v_42 ev_42 => ?_)
        refine lv_bipush (v := 6) hx hb dX6_readWord_76 (by decide) ?_
        refine lv_icmp_le (tgt := 82) hx hb dX6_readWord_78 (by decide) (fun c_43 => ?_) (fun c_43 => ?_)
        · skip
          refine lv_iconst (v := 0) hx hb dX6_readWord_82 (by decide) ?_
          refine lv_istore_n (lv' := [(1, .int 0), (0, .ref (q 2))]) hx hb dX6_readWord_83 rfl hl (by decide) rfl (fun ls hl => ?_)
          have lp_44 : ∀ (n_45 : Nat) (i : Nat) (H : Heap) (locs : List Loc) (ls : Array Slot), 168 - i < n_45 → (i ≤ 168) → va_P D vwCl [(q 2, .inr (6, [.ref (q 0), .int (nI xa), .int xv, .int (nI xo), .int (-2), .int (nI xz), .int xf, .int xp])), (q 0, .inr (10, [.ref (q 20), .int (nI tl)])), (q 20, .inl (cI, 1600, .inl (fun j => nI (tb j))))] H → va_D A [(q 2, .inr (6, [.ref (q 0), .int (nI xa), .int xv, .int (nI xo), .int (-2), .int (nI xz), .int xf, .int xp])), (q 0, .inr (10, [.ref (q 20), .int (nI tl)])), (q 20, .inl (cI, 1600, .inl (fun j => nI (tb j))))] → va_S A s.heap H locs → lv_has ls 5 [(1, .int (nI i)), (0, .ref (q 2))] → W p l e { frames := 4, cells := 0, slots := 0, locals := 85 } s m ([.ref (q 2)] : List Value).toArray below meth c H locs 0 0 (MQ below (skV D (skT cI cJ cC cZ cS) (fun (u : va_W) => ∃ (xa2 : Nat), ∃ (xt2 : Int32), xa2 ≤ 1600 ∧ u = [(q 2, .inr (6, [.ref (q 0), .int (nI xa2), .int xv, .int (nI xo), .int xt2, .int (nI xz), .int xf, .int xp])), (q 0, .inr (10, [.ref (q 20), .int (nI tl)])), (q 20, .inl (cI, 1600, .inl (fun j => nI (tb j))))]) A) ([.ref (q 2)] : List Value).toArray s 0 0 A) (F0 m 84 ls []) := by
            intro n_45
            induction n_45 with
            | zero => intro i H locs ls hm; exact absurd hm (Nat.not_lt_zero _)
            | succ n_45 ih_lp_44 =>
              intro i H locs ls hm hi hP hD hS hl
              refine lv_iload_n hx hb dX6_readWord_84 rfl (lv_at hl 0 rfl) ?_
              refine lv_bipush (v := 6) hx hb dX6_readWord_85 (by decide) ?_
              refine lv_iadd hx hb dX6_readWord_87 ?_
              refine sk_top (nI (i + 6)) (nI_add i 6) ?_
              refine va_ldcS hx hb hown hZ.1 dX6_readWord_88 ?_
              refine sk_ViS (n := 0) (rest := [.int (nI (i + 6))]) (wr := [(q 2, .inr (6, [.ref (q 0), .int (nI xa), .int xv, .int (nI xo), .int (-2), .int (nI xz), .int xf, .int xp])), (q 0, .inr (10, [.ref (q 20), .int (nI tl)])), (q 20, .inl (cI, 1600, .inl (fun j => nI (tb j))))]) ⟨hx, hb, hml, hown, hts⟩ hl.1 (c_str_length l D cI cJ cC cZ cS zk zv zf) w_2_234 w_2_235 w_2_236 w_1_16 w_2_237 (by decide +kernel) ⟨⟨(Nat.le_of_ble_eq_true rfl), (Nat.le_of_ble_eq_true rfl)⟩, (Nat.le_of_ble_eq_true rfl), (Nat.le_of_ble_eq_true rfl)⟩ hK hP hD hS hZ hA [] [0, 1, 2] rfl rfl (by decide +kernel) (by decide +kernel) (by decide +kernel) rfl rfl rfl rfl (Nat.le_of_ble_eq_true rfl) dX6_readWord_90 (fun r_46 u H locs hw hP hD hS => ?_)
              obtain ⟨rfl, rfl⟩ := hw
              have hP : va_P D vwCl [(q 2, .inr (6, [.ref (q 0), .int (nI xa), .int xv, .int (nI xo), .int (-2), .int (nI xz), .int xf, .int xp])), (q 0, .inr (10, [.ref (q 20), .int (nI tl)])), (q 20, .inl (cI, 1600, .inl (fun j => nI (tb j))))] H := hP
              have hD : va_D A [(q 2, .inr (6, [.ref (q 0), .int (nI xa), .int xv, .int (nI xo), .int (-2), .int (nI xz), .int xf, .int xp])), (q 0, .inr (10, [.ref (q 20), .int (nI tl)])), (q 20, .inl (cI, 1600, .inl (fun j => nI (tb j))))] := hD
              refine lv_icmp_gt (tgt := 192) hx hb dX6_readWord_93 (by decide) (fun c_47 => ?_) (fun c_47 => ?_)
              · have c_47 : 168 < i + 6 := (nlt 168 (i + 6) (by omega) (by omega)).mp c_47
                exact sk_vret hx hb hr hlocks hK hP hD hS (⟨xa, (-2), by omega, rfl⟩) (Nat.le_of_ble_eq_true rfl) (Nat.le_of_ble_eq_true rfl) dX6_readWord_192
              · have c_47 : ¬ (168 < i + 6) := fun h => c_47 ((nlt 168 (i + 6) (by omega) (by omega)).mpr h)
                refine lv_iconst (v := 1) hx hb dX6_readWord_96 (by decide) ?_
                refine lv_istore_n (lv' := [(2, .int 1), (1, .int (nI i)), (0, .ref (q 2))]) hx hb dX6_readWord_97 rfl hl (by decide) rfl (fun ls hl => ?_)
                refine lv_iconst (v := 0) hx hb dX6_readWord_98 (by decide) ?_
                refine lv_istore_n (lv' := [(3, .int 0), (2, .int 1), (1, .int (nI i)), (0, .ref (q 2))]) hx hb dX6_readWord_99 rfl hl (by decide) rfl (fun ls hl => ?_)
                have lp_48 : ∀ (n_49 : Nat) (jj : Nat) (al : Int32) (H : Heap) (locs : List Loc) (ls : Array Slot), 6 - jj < n_49 → (jj ≤ 6) → va_P D vwCl [(q 2, .inr (6, [.ref (q 0), .int (nI xa), .int xv, .int (nI xo), .int (-2), .int (nI xz), .int xf, .int xp])), (q 0, .inr (10, [.ref (q 20), .int (nI tl)])), (q 20, .inl (cI, 1600, .inl (fun j => nI (tb j))))] H → va_D A [(q 2, .inr (6, [.ref (q 0), .int (nI xa), .int xv, .int (nI xo), .int (-2), .int (nI xz), .int xf, .int xp])), (q 0, .inr (10, [.ref (q 20), .int (nI tl)])), (q 20, .inl (cI, 1600, .inl (fun j => nI (tb j))))] → va_S A s.heap H locs → lv_has ls 5 [(3, .int (nI jj)), (2, .int al), (1, .int (nI i)), (0, .ref (q 2))] → W p l e { frames := 4, cells := 0, slots := 0, locals := 85 } s m ([.ref (q 2)] : List Value).toArray below meth c H locs 0 0 (MQ below (skV D (skT cI cJ cC cZ cS) (fun (u : va_W) => ∃ (xa2 : Nat), ∃ (xt2 : Int32), xa2 ≤ 1600 ∧ u = [(q 2, .inr (6, [.ref (q 0), .int (nI xa2), .int xv, .int (nI xo), .int xt2, .int (nI xz), .int xf, .int xp])), (q 0, .inr (10, [.ref (q 20), .int (nI tl)])), (q 20, .inl (cI, 1600, .inl (fun j => nI (tb j))))]) A) ([.ref (q 2)] : List Value).toArray s 0 0 A) (F0 m 100 ls []) := by
                  intro n_49
                  induction n_49 with
                  | zero => intro jj al H locs ls hm; exact absurd hm (Nat.not_lt_zero _)
                  | succ n_49 ih_lp_48 =>
                    intro jj al H locs ls hm hjj hP hD hS hl
                    refine lv_iload_n hx hb dX6_readWord_100 rfl (lv_at hl 0 rfl) ?_
                    refine lv_bipush (v := 6) hx hb dX6_readWord_101 (by decide) ?_
                    refine lv_icmp_ge (tgt := 169) hx hb dX6_readWord_103 (by decide) (fun c_50 => ?_) (fun c_50 => ?_)
                    · have c_50 : 6 ≤ jj := (nle 6 jj (by omega) (by omega)).mp c_50
                      refine lv_iload_n hx hb dX6_readWord_169 rfl (lv_at hl 1 rfl) ?_
                      refine lv_if_eq (tgt := 186) hx hb dX6_readWord_170 (by decide) (fun c_51 => ?_) (fun c_51 => ?_)
                      · skip
                        refine lv_iinc (v := nI (i + 6)) (lv' := [(1, .int (nI (i + 6))), (3, .int (nI jj)), (2, .int al), (0, .ref (q 2))]) hx hb dX6_readWord_186 hl (k := 2) rfl (ninc i 6 (by decide)) (by decide) rfl (fun ls hl => ?_)
                        refine lv_goto (tgt := 84) hx hb dX6_readWord_189 (by decide) ?_
                        exact ih_lp_44 (i + 6) _ _ _ (by omega) (by omega) hP hD hS (lv_sub hl [0, 3] rfl)
                      · skip
                        refine lv_aload_n hx hb dX6_readWord_173 rfl (lv_at hl 3 rfl) ?_
                        refine lv_sipush (v := 256) hx hb dX6_readWord_174 (by decide) ?_
                        refine lv_iload_n hx hb dX6_readWord_177 rfl (lv_at hl 2 rfl) ?_
                        refine lv_bipush (v := 6) hx hb dX6_readWord_178 (by decide) ?_
                        refine lv_idiv hx hb dX6_readWord_180 (by decide) ?_
                        refine sk_top (nI (i / 6)) (ndiv i 6 (by omega) (by omega) (by omega)) ?_
                        refine lv_iadd hx hb dX6_readWord_181 ?_
                        refine sk_top (nI (256 + (i / 6))) (nI_add 256 (i / 6)) ?_
                        refine sk_put (ws' := [(q 2, .inr (6, [.ref (q 0), .int (nI xa), .int xv, .int (nI xo), .int (nI (256 + (i / 6))), .int (nI xz), .int xf, .int xp])), (q 0, .inr (10, [.ref (q 20), .int (nI tl)])), (q 20, .inl (cI, 1600, .inl (fun j => nI (tb j))))]) (C := RX6) (T := TX6) (N := 8) (v := .int (nI (256 + (i / 6)))) hx hb hts inlX6 tyX6 tyX6_ok nmX6 hown hK hP hD hS 0 rfl rfl 4 (by decide) w_1_60 rfl rfl rfl (Nat.le_of_ble_eq_true rfl) rfl dX6_readWord_182 (fun H locs hP hD hS => ?_)
                        exact sk_vret hx hb hr hlocks hK hP hD hS (⟨xa, nI (256 + (i / 6)), by omega, rfl⟩) (Nat.le_of_ble_eq_true rfl) (Nat.le_of_ble_eq_true rfl) dX6_readWord_185
                    · have c_50 : ¬ (6 ≤ jj) := fun h => c_50 ((nle 6 jj (by omega) (by omega)).mpr h)
                      refine lv_iload_n hx hb dX6_readWord_106 rfl (lv_at hl 1 rfl) ?_
                      refine lv_if_eq (tgt := 169) hx hb dX6_readWord_107 (by decide) (fun c_52 => ?_) (fun c_52 => ?_)
                      · skip
                        refine lv_iload_n hx hb dX6_readWord_169 rfl (lv_at hl 1 rfl) ?_
                        refine lv_if_eq (tgt := 186) hx hb dX6_readWord_170 (by decide) (fun c_53 => ?_) (fun c_53 => ?_)
                        · skip
                          refine lv_iinc (v := nI (i + 6)) (lv' := [(1, .int (nI (i + 6))), (3, .int (nI jj)), (2, .int al), (0, .ref (q 2))]) hx hb dX6_readWord_186 hl (k := 2) rfl (ninc i 6 (by decide)) (by decide) rfl (fun ls hl => ?_)
                          refine lv_goto (tgt := 84) hx hb dX6_readWord_189 (by decide) ?_
                          exact ih_lp_44 (i + 6) _ _ _ (by omega) (by omega) hP hD hS (lv_sub hl [0, 3] rfl)
                        · skip
                          refine lv_aload_n hx hb dX6_readWord_173 rfl (lv_at hl 3 rfl) ?_
                          refine lv_sipush (v := 256) hx hb dX6_readWord_174 (by decide) ?_
                          refine lv_iload_n hx hb dX6_readWord_177 rfl (lv_at hl 2 rfl) ?_
                          refine lv_bipush (v := 6) hx hb dX6_readWord_178 (by decide) ?_
                          refine lv_idiv hx hb dX6_readWord_180 (by decide) ?_
                          refine sk_top (nI (i / 6)) (ndiv i 6 (by omega) (by omega) (by omega)) ?_
                          refine lv_iadd hx hb dX6_readWord_181 ?_
                          refine sk_top (nI (256 + (i / 6))) (nI_add 256 (i / 6)) ?_
                          refine sk_put (ws' := [(q 2, .inr (6, [.ref (q 0), .int (nI xa), .int xv, .int (nI xo), .int (nI (256 + (i / 6))), .int (nI xz), .int xf, .int xp])), (q 0, .inr (10, [.ref (q 20), .int (nI tl)])), (q 20, .inl (cI, 1600, .inl (fun j => nI (tb j))))]) (C := RX6) (T := TX6) (N := 8) (v := .int (nI (256 + (i / 6)))) hx hb hts inlX6 tyX6 tyX6_ok nmX6 hown hK hP hD hS 0 rfl rfl 4 (by decide) w_1_60 rfl rfl rfl (Nat.le_of_ble_eq_true rfl) rfl dX6_readWord_182 (fun H locs hP hD hS => ?_)
                          exact sk_vret hx hb hr hlocks hK hP hD hS (⟨xa, nI (256 + (i / 6)), by omega, rfl⟩) (Nat.le_of_ble_eq_true rfl) (Nat.le_of_ble_eq_true rfl) dX6_readWord_185
                      · skip
                        have jn_54 : ∀ (lt : Int32) (H : Heap) (locs : List Loc) (ls : Array Slot), va_P D vwCl [(q 2, .inr (6, [.ref (q 0), .int (nI xa), .int xv, .int (nI xo), .int (-2), .int (nI xz), .int xf, .int xp])), (q 0, .inr (10, [.ref (q 20), .int (nI tl)])), (q 20, .inl (cI, 1600, .inl (fun j => nI (tb j))))] H → va_D A [(q 2, .inr (6, [.ref (q 0), .int (nI xa), .int xv, .int (nI xo), .int (-2), .int (nI xz), .int xf, .int xp])), (q 0, .inr (10, [.ref (q 20), .int (nI tl)])), (q 20, .inl (cI, 1600, .inl (fun j => nI (tb j))))] → va_S A s.heap H locs → lv_has ls 5 [(3, .int (nI jj)), (2, .int al), (1, .int (nI i)), (0, .ref (q 2))] → W p l e { frames := 4, cells := 0, slots := 0, locals := 85 } s m ([.ref (q 2)] : List Value).toArray below meth c H locs 0 0 (MQ below (skV D (skT cI cJ cC cZ cS) (fun (u : va_W) => ∃ (xa2 : Nat), ∃ (xt2 : Int32), xa2 ≤ 1600 ∧ u = [(q 2, .inr (6, [.ref (q 0), .int (nI xa2), .int xv, .int (nI xo), .int xt2, .int (nI xz), .int xf, .int xp])), (q 0, .inr (10, [.ref (q 20), .int (nI tl)])), (q 20, .inl (cI, 1600, .inl (fun j => nI (tb j))))]) A) ([.ref (q 2)] : List Value).toArray s 0 0 A) (F0 m 142 ls [.int lt]) := by
                          intro lt H locs ls  hP hD hS hl
                          refine lv_istore (lv' := [(4, .int lt), (3, .int (nI jj)), (2, .int al), (1, .int (nI i)), (0, .ref (q 2))]) hx hb dX6_readWord_142 hl (by decide) rfl (fun ls hl => ?_)
                          refine va_ldcS hx hb hown hZ.1 dX6_readWord_144 ?_
                          refine lv_iload_n hx hb dX6_readWord_146 rfl (lv_at hl 3 rfl) ?_
                          refine lv_iload_n hx hb dX6_readWord_147 rfl (lv_at hl 1 rfl) ?_
                          refine lv_iadd hx hb dX6_readWord_148 ?_
                          refine sk_top (nI (i + jj)) (nI_add i jj) ?_
                          refine sk_ViS (n := 1) (rest := []) (wr := [(q 2, .inr (6, [.ref (q 0), .int (nI xa), .int xv, .int (nI xo), .int (-2), .int (nI xz), .int xf, .int xp])), (q 0, .inr (10, [.ref (q 20), .int (nI tl)])), (q 20, .inl (cI, 1600, .inl (fun j => nI (tb j))))]) ⟨hx, hb, hml, hown, hts⟩ hl.1 (c_str_charAt l D cI cJ cC cZ cS zk zv zf (i + jj) (by omega)) w_3_4 w_3_5 w_3_6 w_1_16 w_3_7 (by decide +kernel) ⟨⟨(Nat.le_of_ble_eq_true rfl), (Nat.le_of_ble_eq_true rfl)⟩, (Nat.le_of_ble_eq_true rfl), (Nat.le_of_ble_eq_true rfl)⟩ hK hP hD hS hZ hA [] [0, 1, 2] rfl rfl (by decide +kernel) (by decide +kernel) (by decide +kernel) rfl rfl rfl rfl (Nat.le_of_ble_eq_true rfl) dX6_readWord_149 (fun r_55 u H locs hw hP hD hS => ?_)
                          obtain ⟨hv_56, rfl⟩ := hw
                          have hP : va_P D vwCl [(q 2, .inr (6, [.ref (q 0), .int (nI xa), .int xv, .int (nI xo), .int (-2), .int (nI xz), .int xf, .int xp])), (q 0, .inr (10, [.ref (q 20), .int (nI tl)])), (q 20, .inl (cI, 1600, .inl (fun j => nI (tb j))))] H := hP
                          have hD : va_D A [(q 2, .inr (6, [.ref (q 0), .int (nI xa), .int xv, .int (nI xo), .int (-2), .int (nI xz), .int xf, .int xp])), (q 0, .inr (10, [.ref (q 20), .int (nI tl)])), (q 20, .inl (cI, 1600, .inl (fun j => nI (tb j))))] := hD
                          refine lv_iload hx hb dX6_readWord_152 (lv_at hl 0 rfl) ?_
                          refine lv_icmp_ne (tgt := 161) hx hb dX6_readWord_154 (by decide) (fun c_57 => ?_) (fun c_57 => ?_)
                          · skip
                            refine lv_iconst (v := 0) hx hb dX6_readWord_161 (by decide) ?_
                            refine lv_istore_n (lv' := [(2, .int 0), (4, .int lt), (3, .int (nI jj)), (1, .int (nI i)), (0, .ref (q 2))]) hx hb dX6_readWord_162 rfl hl (by decide) rfl (fun ls hl => ?_)
                            refine lv_iinc (v := nI (jj + 1)) (lv' := [(3, .int (nI (jj + 1))), (2, .int 0), (4, .int lt), (1, .int (nI i)), (0, .ref (q 2))]) hx hb dX6_readWord_163 hl (k := 2) rfl (ninc jj 1 (by decide)) (by decide) rfl (fun ls hl => ?_)
                            refine lv_goto (tgt := 100) hx hb dX6_readWord_166 (by decide) ?_
                            exact ih_lp_48 (jj + 1) 0 _ _ _ (by omega) (by omega) hP hD hS (lv_sub hl [0, 1, 3, 4] rfl)
                          · skip
                            refine lv_iconst (v := 1) hx hb dX6_readWord_157 (by decide) ?_
                            refine lv_goto (tgt := 162) hx hb dX6_readWord_158 (by decide) ?_
                            refine lv_istore_n (lv' := [(2, .int 1), (4, .int lt), (3, .int (nI jj)), (1, .int (nI i)), (0, .ref (q 2))]) hx hb dX6_readWord_162 rfl hl (by decide) rfl (fun ls hl => ?_)
                            refine lv_iinc (v := nI (jj + 1)) (lv' := [(3, .int (nI (jj + 1))), (2, .int 1), (4, .int lt), (1, .int (nI i)), (0, .ref (q 2))]) hx hb dX6_readWord_163 hl (k := 2) rfl (ninc jj 1 (by decide)) (by decide) rfl (fun ls hl => ?_)
                            refine lv_goto (tgt := 100) hx hb dX6_readWord_166 (by decide) ?_
                            exact ih_lp_48 (jj + 1) 1 _ _ _ (by omega) (by omega) hP hD hS (lv_sub hl [0, 1, 3, 4] rfl)
                        refine lv_aload_n hx hb dX6_readWord_110 rfl (lv_at hl 3 rfl) ?_
                        refine sk_get (v := .int (nI xz)) (C := RX6) (T := TX6) (N := 8) hx hb hts inlX6 hown hK hP 0 rfl rfl 5 (by decide) w_1_64 rfl dX6_readWord_111 ?_
                        refine lv_iload_n hx hb dX6_readWord_114 rfl (lv_at hl 0 rfl) ?_
                        refine lv_iadd hx hb dX6_readWord_115 ?_
                        refine sk_top (nI (xz + jj)) (nI_add xz jj) ?_
                        refine lv_aload_n hx hb dX6_readWord_116 rfl (lv_at hl 3 rfl) ?_
                        refine sk_get (v := .int (nI xa)) (C := RX6) (T := TX6) (N := 8) hx hb hts inlX6 hown hK hP 0 rfl rfl 1 (by decide) w_1_57 rfl dX6_readWord_117 ?_
                        refine lv_icmp_ge (tgt := 140) hx hb dX6_readWord_120 (by decide) (fun c_58 => ?_) (fun c_58 => ?_)
                        · have c_58 : xa ≤ xz + jj := (nle xa (xz + jj) (by omega) (by omega)).mp c_58
                          refine lv_bipush (v := 32) hx hb dX6_readWord_140 (by decide) ?_
                          exact jn_54 32 _ _ _  hP hD hS (lv_sub hl [0, 1, 2, 3] rfl)
                        · have c_58 : ¬ (xa ≤ xz + jj) := fun h => c_58 ((nle xa (xz + jj) (by omega) (by omega)).mpr h)
                          refine lv_aload_n hx hb dX6_readWord_123 rfl (lv_at hl 3 rfl) ?_
                          refine sk_get (v := .ref (q 0)) (C := RX6) (T := TX6) (N := 8) hx hb hts inlX6 hown hK hP 0 rfl rfl 0 (by decide) w_1_56 rfl dX6_readWord_124 ?_
                          refine sk_get (v := .ref (q 20)) (C := RX10) (T := TX10) (N := 2) hx hb hts inlX10 hown hK hP 1 rfl rfl 0 (by decide) w_1_40 rfl dX6_readWord_127 ?_
                          refine lv_aload_n hx hb dX6_readWord_130 rfl (lv_at hl 3 rfl) ?_
                          refine sk_get (v := .int (nI xz)) (C := RX6) (T := TX6) (N := 8) hx hb hts inlX6 hown hK hP 0 rfl rfl 5 (by decide) w_1_64 rfl dX6_readWord_131 ?_
                          refine lv_iload_n hx hb dX6_readWord_134 rfl (lv_at hl 0 rfl) ?_
                          refine lv_iadd hx hb dX6_readWord_135 ?_
                          refine sk_top (nI (xz + jj)) (nI_add xz jj) ?_
                          refine va_iald hx hb hK.1 hP 2 0 rfl rfl (vin (xz + jj) 1600 (by omega) (by omega)) dX6_readWord_136 ?_
                          refine sk_top (nI (tb (xz + jj))) (nrd tb (xz + jj) (by omega)) ?_
                          have hb_59 := htb (xz + jj)
                          refine lv_goto (tgt := 142) hx hb dX6_readWord_137 (by decide) ?_
                          exact jn_54 (nI (tb (xz + jj))) _ _ _  hP hD hS (lv_sub hl [0, 1, 2, 3] rfl)
                exact lp_48 (6 - 0 + 1) 0 1 _ _ _ (Nat.lt_succ_self _) (by omega) hP hD hS (lv_sub hl [0, 1, 2, 3] rfl)
          exact lp_44 (168 - 0 + 1) 0 _ _ _ (Nat.lt_succ_self _) (by omega) hP hD hS (lv_sub hl [0, 1] rfl)
        · skip
          exact sk_vret hx hb hr hlocks hK hP hD hS (⟨xa, (-2), by omega, rfl⟩) (Nat.le_of_ble_eq_true rfl) (Nat.le_of_ble_eq_true rfl) dX6_readWord_81
      · have c_41 : ¬ (122 < tb xa) := fun h => c_41 ((nlt 122 (tb xa) (by omega) (by omega)).mpr h)
        refine lv_aload_n hx hb dX6_readWord_48 rfl (lv_at hl 0 rfl) ?_
        refine lv_dup hx hb dX6_readWord_49 rfl ?_
        refine sk_get (v := .int (nI xa)) (C := RX6) (T := TX6) (N := 8) hx hb hts inlX6 hown hK hP 0 rfl rfl 1 (by decide) w_1_57 rfl dX6_readWord_50 ?_
        refine lv_iconst (v := 1) hx hb dX6_readWord_53 (by decide) ?_
        refine lv_iadd hx hb dX6_readWord_54 ?_
        refine sk_top (nI (xa + 1)) (nI_add xa 1) ?_
        refine sk_put (ws' := [(q 2, .inr (6, [.ref (q 0), .int (nI (xa + 1)), .int xv, .int (nI xo), .int xt, .int (nI xz), .int xf, .int xp])), (q 0, .inr (10, [.ref (q 20), .int (nI tl)])), (q 20, .inl (cI, 1600, .inl (fun j => nI (tb j))))]) (C := RX6) (T := TX6) (N := 8) (v := .int (nI (xa + 1))) hx hb hts inlX6 tyX6 tyX6_ok nmX6 hown hK hP hD hS 0 rfl rfl 1 (by decide) w_1_57 rfl rfl rfl (Nat.le_of_ble_eq_true rfl) rfl dX6_readWord_55 (fun H locs hP hD hS => ?_)
        refine lv_goto (tgt := 0) hx hb dX6_readWord_58 (by decide) ?_
        have lp_60 : ∀ (n_61 : Nat) (za : Nat) (H : Heap) (locs : List Loc) (ls : Array Slot), tl - za < n_61 → (za ≤ 1600) → va_P D vwCl [(q 2, .inr (6, [.ref (q 0), .int (nI za), .int xv, .int (nI xo), .int xt, .int (nI xz), .int xf, .int xp])), (q 0, .inr (10, [.ref (q 20), .int (nI tl)])), (q 20, .inl (cI, 1600, .inl (fun j => nI (tb j))))] H → va_D A [(q 2, .inr (6, [.ref (q 0), .int (nI za), .int xv, .int (nI xo), .int xt, .int (nI xz), .int xf, .int xp])), (q 0, .inr (10, [.ref (q 20), .int (nI tl)])), (q 20, .inl (cI, 1600, .inl (fun j => nI (tb j))))] → va_S A s.heap H locs → lv_has ls 5 [(0, .ref (q 2))] → W p l e { frames := 4, cells := 0, slots := 0, locals := 85 } s m ([.ref (q 2)] : List Value).toArray below meth c H locs 0 0 (MQ below (skV D (skT cI cJ cC cZ cS) (fun (u : va_W) => ∃ (xa2 : Nat), ∃ (xt2 : Int32), xa2 ≤ 1600 ∧ u = [(q 2, .inr (6, [.ref (q 0), .int (nI xa2), .int xv, .int (nI xo), .int xt2, .int (nI xz), .int xf, .int xp])), (q 0, .inr (10, [.ref (q 20), .int (nI tl)])), (q 20, .inl (cI, 1600, .inl (fun j => nI (tb j))))]) A) ([.ref (q 2)] : List Value).toArray s 0 0 A) (F0 m 0 ls []) := by
          intro n_61
          induction n_61 with
          | zero => intro za H locs ls hm; exact absurd hm (Nat.not_lt_zero _)
          | succ n_61 ih_lp_60 =>
            intro za H locs ls hm hza hP hD hS hl
            refine lv_aload_n hx hb dX6_readWord_0 rfl (lv_at hl 0 rfl) ?_
            refine sk_get (v := .int (nI za)) (C := RX6) (T := TX6) (N := 8) hx hb hts inlX6 hown hK hP 0 rfl rfl 1 (by decide) w_1_57 rfl dX6_readWord_1 ?_
            refine lv_aload_n hx hb dX6_readWord_4 rfl (lv_at hl 0 rfl) ?_
            refine sk_get (v := .ref (q 0)) (C := RX6) (T := TX6) (N := 8) hx hb hts inlX6 hown hK hP 0 rfl rfl 0 (by decide) w_1_56 rfl dX6_readWord_5 ?_
            refine sk_get (v := .int (nI tl)) (C := RX10) (T := TX10) (N := 2) hx hb hts inlX10 hown hK hP 1 rfl rfl 1 (by decide) w_1_43 rfl dX6_readWord_8 ?_
            refine lv_icmp_ge (tgt := 61) hx hb dX6_readWord_11 (by decide) (fun c_62 => ?_) (fun c_62 => ?_)
            · have c_62 : tl ≤ za := (nle tl za (by omega) (by omega)).mp c_62
              refine lv_aload_n hx hb dX6_readWord_61 rfl (lv_at hl 0 rfl) ?_
              refine lv_bipush (v := (-2)) hx hb dX6_readWord_62 (by decide) ?_
              refine sk_put (ws' := [(q 2, .inr (6, [.ref (q 0), .int (nI za), .int xv, .int (nI xo), .int (-2), .int (nI xz), .int xf, .int xp])), (q 0, .inr (10, [.ref (q 20), .int (nI tl)])), (q 20, .inl (cI, 1600, .inl (fun j => nI (tb j))))]) (C := RX6) (T := TX6) (N := 8) (v := .int (-2)) hx hb hts inlX6 tyX6 tyX6_ok nmX6 hown hK hP hD hS 0 rfl rfl 4 (by decide) w_1_60 rfl rfl rfl (Nat.le_of_ble_eq_true rfl) rfl dX6_readWord_64 (fun H locs hP hD hS => ?_)
              refine lv_aload_n hx hb dX6_readWord_67 rfl (lv_at hl 0 rfl) ?_
              refine sk_get (v := .int (nI za)) (C := RX6) (T := TX6) (N := 8) hx hb hts inlX6 hown hK hP 0 rfl rfl 1 (by decide) w_1_57 rfl dX6_readWord_68 ?_
              refine lv_aload_n hx hb dX6_readWord_71 rfl (lv_at hl 0 rfl) ?_
              refine sk_get (v := .int (nI xz)) (C := RX6) (T := TX6) (N := 8) hx hb hts inlX6 hown hK hP 0 rfl rfl 5 (by decide) w_1_64 rfl dX6_readWord_72 ?_
              refine lv_isub hx hb dX6_readWord_75 ?_
              refine lv_topi (fun v_63 ev_63 => ?_)
              refine lv_bipush (v := 6) hx hb dX6_readWord_76 (by decide) ?_
              refine lv_icmp_le (tgt := 82) hx hb dX6_readWord_78 (by decide) (fun c_64 => ?_) (fun c_64 => ?_)
              · skip
                refine lv_iconst (v := 0) hx hb dX6_readWord_82 (by decide) ?_
                refine lv_istore_n (lv' := [(1, .int 0), (0, .ref (q 2))]) hx hb dX6_readWord_83 rfl hl (by decide) rfl (fun ls hl => ?_)
                have lp_65 : ∀ (n_66 : Nat) (i : Nat) (H : Heap) (locs : List Loc) (ls : Array Slot), 168 - i < n_66 → (i ≤ 168) → va_P D vwCl [(q 2, .inr (6, [.ref (q 0), .int (nI za), .int xv, .int (nI xo), .int (-2), .int (nI xz), .int xf, .int xp])), (q 0, .inr (10, [.ref (q 20), .int (nI tl)])), (q 20, .inl (cI, 1600, .inl (fun j => nI (tb j))))] H → va_D A [(q 2, .inr (6, [.ref (q 0), .int (nI za), .int xv, .int (nI xo), .int (-2), .int (nI xz), .int xf, .int xp])), (q 0, .inr (10, [.ref (q 20), .int (nI tl)])), (q 20, .inl (cI, 1600, .inl (fun j => nI (tb j))))] → va_S A s.heap H locs → lv_has ls 5 [(1, .int (nI i)), (0, .ref (q 2))] → W p l e { frames := 4, cells := 0, slots := 0, locals := 85 } s m ([.ref (q 2)] : List Value).toArray below meth c H locs 0 0 (MQ below (skV D (skT cI cJ cC cZ cS) (fun (u : va_W) => ∃ (xa2 : Nat), ∃ (xt2 : Int32), xa2 ≤ 1600 ∧ u = [(q 2, .inr (6, [.ref (q 0), .int (nI xa2), .int xv, .int (nI xo), .int xt2, .int (nI xz), .int xf, .int xp])), (q 0, .inr (10, [.ref (q 20), .int (nI tl)])), (q 20, .inl (cI, 1600, .inl (fun j => nI (tb j))))]) A) ([.ref (q 2)] : List Value).toArray s 0 0 A) (F0 m 84 ls []) := by
                  intro n_66
                  induction n_66 with
                  | zero => intro i H locs ls hm; exact absurd hm (Nat.not_lt_zero _)
                  | succ n_66 ih_lp_65 =>
                    intro i H locs ls hm hi hP hD hS hl
                    refine lv_iload_n hx hb dX6_readWord_84 rfl (lv_at hl 0 rfl) ?_
                    refine lv_bipush (v := 6) hx hb dX6_readWord_85 (by decide) ?_
                    refine lv_iadd hx hb dX6_readWord_87 ?_
                    refine sk_top (nI (i + 6)) (nI_add i 6) ?_
                    refine va_ldcS hx hb hown hZ.1 dX6_readWord_88 ?_
                    refine sk_ViS (n := 0) (rest := [.int (nI (i + 6))]) (wr := [(q 2, .inr (6, [.ref (q 0), .int (nI za), .int xv, .int (nI xo), .int (-2), .int (nI xz), .int xf, .int xp])), (q 0, .inr (10, [.ref (q 20), .int (nI tl)])), (q 20, .inl (cI, 1600, .inl (fun j => nI (tb j))))]) ⟨hx, hb, hml, hown, hts⟩ hl.1 (c_str_length l D cI cJ cC cZ cS zk zv zf) w_2_234 w_2_235 w_2_236 w_1_16 w_2_237 (by decide +kernel) ⟨⟨(Nat.le_of_ble_eq_true rfl), (Nat.le_of_ble_eq_true rfl)⟩, (Nat.le_of_ble_eq_true rfl), (Nat.le_of_ble_eq_true rfl)⟩ hK hP hD hS hZ hA [] [0, 1, 2] rfl rfl (by decide +kernel) (by decide +kernel) (by decide +kernel) rfl rfl rfl rfl (Nat.le_of_ble_eq_true rfl) dX6_readWord_90 (fun r_67 u H locs hw hP hD hS => ?_)
                    obtain ⟨rfl, rfl⟩ := hw
                    have hP : va_P D vwCl [(q 2, .inr (6, [.ref (q 0), .int (nI za), .int xv, .int (nI xo), .int (-2), .int (nI xz), .int xf, .int xp])), (q 0, .inr (10, [.ref (q 20), .int (nI tl)])), (q 20, .inl (cI, 1600, .inl (fun j => nI (tb j))))] H := hP
                    have hD : va_D A [(q 2, .inr (6, [.ref (q 0), .int (nI za), .int xv, .int (nI xo), .int (-2), .int (nI xz), .int xf, .int xp])), (q 0, .inr (10, [.ref (q 20), .int (nI tl)])), (q 20, .inl (cI, 1600, .inl (fun j => nI (tb j))))] := hD
                    refine lv_icmp_gt (tgt := 192) hx hb dX6_readWord_93 (by decide) (fun c_68 => ?_) (fun c_68 => ?_)
                    · have c_68 : 168 < i + 6 := (nlt 168 (i + 6) (by omega) (by omega)).mp c_68
                      exact sk_vret hx hb hr hlocks hK hP hD hS (⟨za, (-2), by omega, rfl⟩) (Nat.le_of_ble_eq_true rfl) (Nat.le_of_ble_eq_true rfl) dX6_readWord_192
                    · have c_68 : ¬ (168 < i + 6) := fun h => c_68 ((nlt 168 (i + 6) (by omega) (by omega)).mpr h)
                      refine lv_iconst (v := 1) hx hb dX6_readWord_96 (by decide) ?_
                      refine lv_istore_n (lv' := [(2, .int 1), (1, .int (nI i)), (0, .ref (q 2))]) hx hb dX6_readWord_97 rfl hl (by decide) rfl (fun ls hl => ?_)
                      refine lv_iconst (v := 0) hx hb dX6_readWord_98 (by decide) ?_
                      refine lv_istore_n (lv' := [(3, .int 0), (2, .int 1), (1, .int (nI i)), (0, .ref (q 2))]) hx hb dX6_readWord_99 rfl hl (by decide) rfl (fun ls hl => ?_)
                      have lp_69 : ∀ (n_70 : Nat) (jj : Nat) (al : Int32) (H : Heap) (locs : List Loc) (ls : Array Slot), 6 - jj < n_70 → (jj ≤ 6) → va_P D vwCl [(q 2, .inr (6, [.ref (q 0), .int (nI za), .int xv, .int (nI xo), .int (-2), .int (nI xz), .int xf, .int xp])), (q 0, .inr (10, [.ref (q 20), .int (nI tl)])), (q 20, .inl (cI, 1600, .inl (fun j => nI (tb j))))] H → va_D A [(q 2, .inr (6, [.ref (q 0), .int (nI za), .int xv, .int (nI xo), .int (-2), .int (nI xz), .int xf, .int xp])), (q 0, .inr (10, [.ref (q 20), .int (nI tl)])), (q 20, .inl (cI, 1600, .inl (fun j => nI (tb j))))] → va_S A s.heap H locs → lv_has ls 5 [(3, .int (nI jj)), (2, .int al), (1, .int (nI i)), (0, .ref (q 2))] → W p l e { frames := 4, cells := 0, slots := 0, locals := 85 } s m ([.ref (q 2)] : List Value).toArray below meth c H locs 0 0 (MQ below (skV D (skT cI cJ cC cZ cS) (fun (u : va_W) => ∃ (xa2 : Nat), ∃ (xt2 : Int32), xa2 ≤ 1600 ∧ u = [(q 2, .inr (6, [.ref (q 0), .int (nI xa2), .int xv, .int (nI xo), .int xt2, .int (nI xz), .int xf, .int xp])), (q 0, .inr (10, [.ref (q 20), .int (nI tl)])), (q 20, .inl (cI, 1600, .inl (fun j => nI (tb j))))]) A) ([.ref (q 2)] : List Value).toArray s 0 0 A) (F0 m 100 ls []) := by
                        intro n_70
                        induction n_70 with
                        | zero => intro jj al H locs ls hm; exact absurd hm (Nat.not_lt_zero _)
                        | succ n_70 ih_lp_69 =>
                          intro jj al H locs ls hm hjj hP hD hS hl
                          refine lv_iload_n hx hb dX6_readWord_100 rfl (lv_at hl 0 rfl) ?_
                          refine lv_bipush (v := 6) hx hb dX6_readWord_101 (by decide) ?_
                          refine lv_icmp_ge (tgt := 169) hx hb dX6_readWord_103 (by decide) (fun c_71 => ?_) (fun c_71 => ?_)
                          · have c_71 : 6 ≤ jj := (nle 6 jj (by omega) (by omega)).mp c_71
                            refine lv_iload_n hx hb dX6_readWord_169 rfl (lv_at hl 1 rfl) ?_
                            refine lv_if_eq (tgt := 186) hx hb dX6_readWord_170 (by decide) (fun c_72 => ?_) (fun c_72 => ?_)
                            · skip
                              refine lv_iinc (v := nI (i + 6)) (lv' := [(1, .int (nI (i + 6))), (3, .int (nI jj)), (2, .int al), (0, .ref (q 2))]) hx hb dX6_readWord_186 hl (k := 2) rfl (ninc i 6 (by decide)) (by decide) rfl (fun ls hl => ?_)
                              refine lv_goto (tgt := 84) hx hb dX6_readWord_189 (by decide) ?_
                              exact ih_lp_65 (i + 6) _ _ _ (by omega) (by omega) hP hD hS (lv_sub hl [0, 3] rfl)
                            · skip
                              refine lv_aload_n hx hb dX6_readWord_173 rfl (lv_at hl 3 rfl) ?_
                              refine lv_sipush (v := 256) hx hb dX6_readWord_174 (by decide) ?_
                              refine lv_iload_n hx hb dX6_readWord_177 rfl (lv_at hl 2 rfl) ?_
                              refine lv_bipush (v := 6) hx hb dX6_readWord_178 (by decide) ?_
                              refine lv_idiv hx hb dX6_readWord_180 (by decide) ?_
                              refine sk_top (nI (i / 6)) (ndiv i 6 (by omega) (by omega) (by omega)) ?_
                              refine lv_iadd hx hb dX6_readWord_181 ?_
                              refine sk_top (nI (256 + (i / 6))) (nI_add 256 (i / 6)) ?_
                              refine sk_put (ws' := [(q 2, .inr (6, [.ref (q 0), .int (nI za), .int xv, .int (nI xo), .int (nI (256 + (i / 6))), .int (nI xz), .int xf, .int xp])), (q 0, .inr (10, [.ref (q 20), .int (nI tl)])), (q 20, .inl (cI, 1600, .inl (fun j => nI (tb j))))]) (C := RX6) (T := TX6) (N := 8) (v := .int (nI (256 + (i / 6)))) hx hb hts inlX6 tyX6 tyX6_ok nmX6 hown hK hP hD hS 0 rfl rfl 4 (by decide) w_1_60 rfl rfl rfl (Nat.le_of_ble_eq_true rfl) rfl dX6_readWord_182 (fun H locs hP hD hS => ?_)
                              exact sk_vret hx hb hr hlocks hK hP hD hS (⟨za, nI (256 + (i / 6)), by omega, rfl⟩) (Nat.le_of_ble_eq_true rfl) (Nat.le_of_ble_eq_true rfl) dX6_readWord_185
                          · have c_71 : ¬ (6 ≤ jj) := fun h => c_71 ((nle 6 jj (by omega) (by omega)).mpr h)
                            refine lv_iload_n hx hb dX6_readWord_106 rfl (lv_at hl 1 rfl) ?_
                            refine lv_if_eq (tgt := 169) hx hb dX6_readWord_107 (by decide) (fun c_73 => ?_) (fun c_73 => ?_)
                            · skip
                              refine lv_iload_n hx hb dX6_readWord_169 rfl (lv_at hl 1 rfl) ?_
                              refine lv_if_eq (tgt := 186) hx hb dX6_readWord_170 (by decide) (fun c_74 => ?_) (fun c_74 => ?_)
                              · skip
                                refine lv_iinc (v := nI (i + 6)) (lv' := [(1, .int (nI (i + 6))), (3, .int (nI jj)), (2, .int al), (0, .ref (q 2))]) hx hb dX6_readWord_186 hl (k := 2) rfl (ninc i 6 (by decide)) (by decide) rfl (fun ls hl => ?_)
                                refine lv_goto (tgt := 84) hx hb dX6_readWord_189 (by decide) ?_
                                exact ih_lp_65 (i + 6) _ _ _ (by omega) (by omega) hP hD hS (lv_sub hl [0, 3] rfl)
                              · skip
                                refine lv_aload_n hx hb dX6_readWord_173 rfl (lv_at hl 3 rfl) ?_
                                refine lv_sipush (v := 256) hx hb dX6_readWord_174 (by decide) ?_
                                refine lv_iload_n hx hb dX6_readWord_177 rfl (lv_at hl 2 rfl) ?_
                                refine lv_bipush (v := 6) hx hb dX6_readWord_178 (by decide) ?_
                                refine lv_idiv hx hb dX6_readWord_180 (by decide) ?_
                                refine sk_top (nI (i / 6)) (ndiv i 6 (by omega) (by omega) (by omega)) ?_
                                refine lv_iadd hx hb dX6_readWord_181 ?_
                                refine sk_top (nI (256 + (i / 6))) (nI_add 256 (i / 6)) ?_
                                refine sk_put (ws' := [(q 2, .inr (6, [.ref (q 0), .int (nI za), .int xv, .int (nI xo), .int (nI (256 + (i / 6))), .int (nI xz), .int xf, .int xp])), (q 0, .inr (10, [.ref (q 20), .int (nI tl)])), (q 20, .inl (cI, 1600, .inl (fun j => nI (tb j))))]) (C := RX6) (T := TX6) (N := 8) (v := .int (nI (256 + (i / 6)))) hx hb hts inlX6 tyX6 tyX6_ok nmX6 hown hK hP hD hS 0 rfl rfl 4 (by decide) w_1_60 rfl rfl rfl (Nat.le_of_ble_eq_true rfl) rfl dX6_readWord_182 (fun H locs hP hD hS => ?_)
                                exact sk_vret hx hb hr hlocks hK hP hD hS (⟨za, nI (256 + (i / 6)), by omega, rfl⟩) (Nat.le_of_ble_eq_true rfl) (Nat.le_of_ble_eq_true rfl) dX6_readWord_185
                            · skip
                              have jn_75 : ∀ (lt : Int32) (H : Heap) (locs : List Loc) (ls : Array Slot), va_P D vwCl [(q 2, .inr (6, [.ref (q 0), .int (nI za), .int xv, .int (nI xo), .int (-2), .int (nI xz), .int xf, .int xp])), (q 0, .inr (10, [.ref (q 20), .int (nI tl)])), (q 20, .inl (cI, 1600, .inl (fun j => nI (tb j))))] H → va_D A [(q 2, .inr (6, [.ref (q 0), .int (nI za), .int xv, .int (nI xo), .int (-2), .int (nI xz), .int xf, .int xp])), (q 0, .inr (10, [.ref (q 20), .int (nI tl)])), (q 20, .inl (cI, 1600, .inl (fun j => nI (tb j))))] → va_S A s.heap H locs → lv_has ls 5 [(3, .int (nI jj)), (2, .int al), (1, .int (nI i)), (0, .ref (q 2))] → W p l e { frames := 4, cells := 0, slots := 0, locals := 85 } s m ([.ref (q 2)] : List Value).toArray below meth c H locs 0 0 (MQ below (skV D (skT cI cJ cC cZ cS) (fun (u : va_W) => ∃ (xa2 : Nat), ∃ (xt2 : Int32), xa2 ≤ 1600 ∧ u = [(q 2, .inr (6, [.ref (q 0), .int (nI xa2), .int xv, .int (nI xo), .int xt2, .int (nI xz), .int xf, .int xp])), (q 0, .inr (10, [.ref (q 20), .int (nI tl)])), (q 20, .inl (cI, 1600, .inl (fun j => nI (tb j))))]) A) ([.ref (q 2)] : List Value).toArray s 0 0 A) (F0 m 142 ls [.int lt]) := by
                                intro lt H locs ls  hP hD hS hl
                                refine lv_istore (lv' := [(4, .int lt), (3, .int (nI jj)), (2, .int al), (1, .int (nI i)), (0, .ref (q 2))]) hx hb dX6_readWord_142 hl (by decide) rfl (fun ls hl => ?_)
                                refine va_ldcS hx hb hown hZ.1 dX6_readWord_144 ?_
                                refine lv_iload_n hx hb dX6_readWord_146 rfl (lv_at hl 3 rfl) ?_
                                refine lv_iload_n hx hb dX6_readWord_147 rfl (lv_at hl 1 rfl) ?_
                                refine lv_iadd hx hb dX6_readWord_148 ?_
                                refine sk_top (nI (i + jj)) (nI_add i jj) ?_
                                refine sk_ViS (n := 1) (rest := []) (wr := [(q 2, .inr (6, [.ref (q 0), .int (nI za), .int xv, .int (nI xo), .int (-2), .int (nI xz), .int xf, .int xp])), (q 0, .inr (10, [.ref (q 20), .int (nI tl)])), (q 20, .inl (cI, 1600, .inl (fun j => nI (tb j))))]) ⟨hx, hb, hml, hown, hts⟩ hl.1 (c_str_charAt l D cI cJ cC cZ cS zk zv zf (i + jj) (by omega)) w_3_4 w_3_5 w_3_6 w_1_16 w_3_7 (by decide +kernel) ⟨⟨(Nat.le_of_ble_eq_true rfl), (Nat.le_of_ble_eq_true rfl)⟩, (Nat.le_of_ble_eq_true rfl), (Nat.le_of_ble_eq_true rfl)⟩ hK hP hD hS hZ hA [] [0, 1, 2] rfl rfl (by decide +kernel) (by decide +kernel) (by decide +kernel) rfl rfl rfl rfl (Nat.le_of_ble_eq_true rfl) dX6_readWord_149 (fun r_76 u H locs hw hP hD hS => ?_)
                                obtain ⟨hv_77, rfl⟩ := hw
                                have hP : va_P D vwCl [(q 2, .inr (6, [.ref (q 0), .int (nI za), .int xv, .int (nI xo), .int (-2), .int (nI xz), .int xf, .int xp])), (q 0, .inr (10, [.ref (q 20), .int (nI tl)])), (q 20, .inl (cI, 1600, .inl (fun j => nI (tb j))))] H := hP
                                have hD : va_D A [(q 2, .inr (6, [.ref (q 0), .int (nI za), .int xv, .int (nI xo), .int (-2), .int (nI xz), .int xf, .int xp])), (q 0, .inr (10, [.ref (q 20), .int (nI tl)])), (q 20, .inl (cI, 1600, .inl (fun j => nI (tb j))))] := hD
                                refine lv_iload hx hb dX6_readWord_152 (lv_at hl 0 rfl) ?_
                                refine lv_icmp_ne (tgt := 161) hx hb dX6_readWord_154 (by decide) (fun c_78 => ?_) (fun c_78 => ?_)
                                · skip
                                  refine lv_iconst (v := 0) hx hb dX6_readWord_161 (by decide) ?_
                                  refine lv_istore_n (lv' := [(2, .int 0), (4, .int lt), (3, .int (nI jj)), (1, .int (nI i)), (0, .ref (q 2))]) hx hb dX6_readWord_162 rfl hl (by decide) rfl (fun ls hl => ?_)
                                  refine lv_iinc (v := nI (jj + 1)) (lv' := [(3, .int (nI (jj + 1))), (2, .int 0), (4, .int lt), (1, .int (nI i)), (0, .ref (q 2))]) hx hb dX6_readWord_163 hl (k := 2) rfl (ninc jj 1 (by decide)) (by decide) rfl (fun ls hl => ?_)
                                  refine lv_goto (tgt := 100) hx hb dX6_readWord_166 (by decide) ?_
                                  exact ih_lp_69 (jj + 1) 0 _ _ _ (by omega) (by omega) hP hD hS (lv_sub hl [0, 1, 3, 4] rfl)
                                · skip
                                  refine lv_iconst (v := 1) hx hb dX6_readWord_157 (by decide) ?_
                                  refine lv_goto (tgt := 162) hx hb dX6_readWord_158 (by decide) ?_
                                  refine lv_istore_n (lv' := [(2, .int 1), (4, .int lt), (3, .int (nI jj)), (1, .int (nI i)), (0, .ref (q 2))]) hx hb dX6_readWord_162 rfl hl (by decide) rfl (fun ls hl => ?_)
                                  refine lv_iinc (v := nI (jj + 1)) (lv' := [(3, .int (nI (jj + 1))), (2, .int 1), (4, .int lt), (1, .int (nI i)), (0, .ref (q 2))]) hx hb dX6_readWord_163 hl (k := 2) rfl (ninc jj 1 (by decide)) (by decide) rfl (fun ls hl => ?_)
                                  refine lv_goto (tgt := 100) hx hb dX6_readWord_166 (by decide) ?_
                                  exact ih_lp_69 (jj + 1) 1 _ _ _ (by omega) (by omega) hP hD hS (lv_sub hl [0, 1, 3, 4] rfl)
                              refine lv_aload_n hx hb dX6_readWord_110 rfl (lv_at hl 3 rfl) ?_
                              refine sk_get (v := .int (nI xz)) (C := RX6) (T := TX6) (N := 8) hx hb hts inlX6 hown hK hP 0 rfl rfl 5 (by decide) w_1_64 rfl dX6_readWord_111 ?_
                              refine lv_iload_n hx hb dX6_readWord_114 rfl (lv_at hl 0 rfl) ?_
                              refine lv_iadd hx hb dX6_readWord_115 ?_
                              refine sk_top (nI (xz + jj)) (nI_add xz jj) ?_
                              refine lv_aload_n hx hb dX6_readWord_116 rfl (lv_at hl 3 rfl) ?_
                              refine sk_get (v := .int (nI za)) (C := RX6) (T := TX6) (N := 8) hx hb hts inlX6 hown hK hP 0 rfl rfl 1 (by decide) w_1_57 rfl dX6_readWord_117 ?_
                              refine lv_icmp_ge (tgt := 140) hx hb dX6_readWord_120 (by decide) (fun c_79 => ?_) (fun c_79 => ?_)
                              · have c_79 : za ≤ xz + jj := (nle za (xz + jj) (by omega) (by omega)).mp c_79
                                refine lv_bipush (v := 32) hx hb dX6_readWord_140 (by decide) ?_
                                exact jn_75 32 _ _ _  hP hD hS (lv_sub hl [0, 1, 2, 3] rfl)
                              · have c_79 : ¬ (za ≤ xz + jj) := fun h => c_79 ((nle za (xz + jj) (by omega) (by omega)).mpr h)
                                refine lv_aload_n hx hb dX6_readWord_123 rfl (lv_at hl 3 rfl) ?_
                                refine sk_get (v := .ref (q 0)) (C := RX6) (T := TX6) (N := 8) hx hb hts inlX6 hown hK hP 0 rfl rfl 0 (by decide) w_1_56 rfl dX6_readWord_124 ?_
                                refine sk_get (v := .ref (q 20)) (C := RX10) (T := TX10) (N := 2) hx hb hts inlX10 hown hK hP 1 rfl rfl 0 (by decide) w_1_40 rfl dX6_readWord_127 ?_
                                refine lv_aload_n hx hb dX6_readWord_130 rfl (lv_at hl 3 rfl) ?_
                                refine sk_get (v := .int (nI xz)) (C := RX6) (T := TX6) (N := 8) hx hb hts inlX6 hown hK hP 0 rfl rfl 5 (by decide) w_1_64 rfl dX6_readWord_131 ?_
                                refine lv_iload_n hx hb dX6_readWord_134 rfl (lv_at hl 0 rfl) ?_
                                refine lv_iadd hx hb dX6_readWord_135 ?_
                                refine sk_top (nI (xz + jj)) (nI_add xz jj) ?_
                                refine va_iald hx hb hK.1 hP 2 0 rfl rfl (vin (xz + jj) 1600 (by omega) (by omega)) dX6_readWord_136 ?_
                                refine sk_top (nI (tb (xz + jj))) (nrd tb (xz + jj) (by omega)) ?_
                                have hb_80 := htb (xz + jj)
                                refine lv_goto (tgt := 142) hx hb dX6_readWord_137 (by decide) ?_
                                exact jn_75 (nI (tb (xz + jj))) _ _ _  hP hD hS (lv_sub hl [0, 1, 2, 3] rfl)
                      exact lp_69 (6 - 0 + 1) 0 1 _ _ _ (Nat.lt_succ_self _) (by omega) hP hD hS (lv_sub hl [0, 1, 2, 3] rfl)
                exact lp_65 (168 - 0 + 1) 0 _ _ _ (Nat.lt_succ_self _) (by omega) hP hD hS (lv_sub hl [0, 1] rfl)
              · skip
                exact sk_vret hx hb hr hlocks hK hP hD hS (⟨za, (-2), by omega, rfl⟩) (Nat.le_of_ble_eq_true rfl) (Nat.le_of_ble_eq_true rfl) dX6_readWord_81
            · have c_62 : ¬ (tl ≤ za) := fun h => c_62 ((nle tl za (by omega) (by omega)).mpr h)
              refine lv_aload_n hx hb dX6_readWord_14 rfl (lv_at hl 0 rfl) ?_
              refine sk_get (v := .ref (q 0)) (C := RX6) (T := TX6) (N := 8) hx hb hts inlX6 hown hK hP 0 rfl rfl 0 (by decide) w_1_56 rfl dX6_readWord_15 ?_
              refine sk_get (v := .ref (q 20)) (C := RX10) (T := TX10) (N := 2) hx hb hts inlX10 hown hK hP 1 rfl rfl 0 (by decide) w_1_40 rfl dX6_readWord_18 ?_
              refine lv_aload_n hx hb dX6_readWord_21 rfl (lv_at hl 0 rfl) ?_
              refine sk_get (v := .int (nI za)) (C := RX6) (T := TX6) (N := 8) hx hb hts inlX6 hown hK hP 0 rfl rfl 1 (by decide) w_1_57 rfl dX6_readWord_22 ?_
              refine va_iald hx hb hK.1 hP 2 0 rfl rfl (vin za 1600 (by omega) (by omega)) dX6_readWord_25 ?_
              refine sk_top (nI (tb za)) (nrd tb za (by omega)) ?_
              have hb_81 := htb za
              refine lv_bipush (v := 97) hx hb dX6_readWord_26 (by decide) ?_
              refine lv_icmp_lt (tgt := 61) hx hb dX6_readWord_28 (by decide) (fun c_82 => ?_) (fun c_82 => ?_)
              · have c_82 : tb za < 97 := (nlt (tb za) 97 (by omega) (by omega)).mp c_82
                refine lv_aload_n hx hb dX6_readWord_61 rfl (lv_at hl 0 rfl) ?_
                refine lv_bipush (v := (-2)) hx hb dX6_readWord_62 (by decide) ?_
                refine sk_put (ws' := [(q 2, .inr (6, [.ref (q 0), .int (nI za), .int xv, .int (nI xo), .int (-2), .int (nI xz), .int xf, .int xp])), (q 0, .inr (10, [.ref (q 20), .int (nI tl)])), (q 20, .inl (cI, 1600, .inl (fun j => nI (tb j))))]) (C := RX6) (T := TX6) (N := 8) (v := .int (-2)) hx hb hts inlX6 tyX6 tyX6_ok nmX6 hown hK hP hD hS 0 rfl rfl 4 (by decide) w_1_60 rfl rfl rfl (Nat.le_of_ble_eq_true rfl) rfl dX6_readWord_64 (fun H locs hP hD hS => ?_)
                refine lv_aload_n hx hb dX6_readWord_67 rfl (lv_at hl 0 rfl) ?_
                refine sk_get (v := .int (nI za)) (C := RX6) (T := TX6) (N := 8) hx hb hts inlX6 hown hK hP 0 rfl rfl 1 (by decide) w_1_57 rfl dX6_readWord_68 ?_
                refine lv_aload_n hx hb dX6_readWord_71 rfl (lv_at hl 0 rfl) ?_
                refine sk_get (v := .int (nI xz)) (C := RX6) (T := TX6) (N := 8) hx hb hts inlX6 hown hK hP 0 rfl rfl 5 (by decide) w_1_64 rfl dX6_readWord_72 ?_
                refine lv_isub hx hb dX6_readWord_75 ?_
                refine lv_topi (fun v_83 ev_83 => ?_)
                refine lv_bipush (v := 6) hx hb dX6_readWord_76 (by decide) ?_
                refine lv_icmp_le (tgt := 82) hx hb dX6_readWord_78 (by decide) (fun c_84 => ?_) (fun c_84 => ?_)
                · skip
                  refine lv_iconst (v := 0) hx hb dX6_readWord_82 (by decide) ?_
                  refine lv_istore_n (lv' := [(1, .int 0), (0, .ref (q 2))]) hx hb dX6_readWord_83 rfl hl (by decide) rfl (fun ls hl => ?_)
                  have lp_85 : ∀ (n_86 : Nat) (i : Nat) (H : Heap) (locs : List Loc) (ls : Array Slot), 168 - i < n_86 → (i ≤ 168) → va_P D vwCl [(q 2, .inr (6, [.ref (q 0), .int (nI za), .int xv, .int (nI xo), .int (-2), .int (nI xz), .int xf, .int xp])), (q 0, .inr (10, [.ref (q 20), .int (nI tl)])), (q 20, .inl (cI, 1600, .inl (fun j => nI (tb j))))] H → va_D A [(q 2, .inr (6, [.ref (q 0), .int (nI za), .int xv, .int (nI xo), .int (-2), .int (nI xz), .int xf, .int xp])), (q 0, .inr (10, [.ref (q 20), .int (nI tl)])), (q 20, .inl (cI, 1600, .inl (fun j => nI (tb j))))] → va_S A s.heap H locs → lv_has ls 5 [(1, .int (nI i)), (0, .ref (q 2))] → W p l e { frames := 4, cells := 0, slots := 0, locals := 85 } s m ([.ref (q 2)] : List Value).toArray below meth c H locs 0 0 (MQ below (skV D (skT cI cJ cC cZ cS) (fun (u : va_W) => ∃ (xa2 : Nat), ∃ (xt2 : Int32), xa2 ≤ 1600 ∧ u = [(q 2, .inr (6, [.ref (q 0), .int (nI xa2), .int xv, .int (nI xo), .int xt2, .int (nI xz), .int xf, .int xp])), (q 0, .inr (10, [.ref (q 20), .int (nI tl)])), (q 20, .inl (cI, 1600, .inl (fun j => nI (tb j))))]) A) ([.ref (q 2)] : List Value).toArray s 0 0 A) (F0 m 84 ls []) := by
                    intro n_86
                    induction n_86 with
                    | zero => intro i H locs ls hm; exact absurd hm (Nat.not_lt_zero _)
                    | succ n_86 ih_lp_85 =>
                      intro i H locs ls hm hi hP hD hS hl
                      refine lv_iload_n hx hb dX6_readWord_84 rfl (lv_at hl 0 rfl) ?_
                      refine lv_bipush (v := 6) hx hb dX6_readWord_85 (by decide) ?_
                      refine lv_iadd hx hb dX6_readWord_87 ?_
                      refine sk_top (nI (i + 6)) (nI_add i 6) ?_
                      refine va_ldcS hx hb hown hZ.1 dX6_readWord_88 ?_
                      refine sk_ViS (n := 0) (rest := [.int (nI (i + 6))]) (wr := [(q 2, .inr (6, [.ref (q 0), .int (nI za), .int xv, .int (nI xo), .int (-2), .int (nI xz), .int xf, .int xp])), (q 0, .inr (10, [.ref (q 20), .int (nI tl)])), (q 20, .inl (cI, 1600, .inl (fun j => nI (tb j))))]) ⟨hx, hb, hml, hown, hts⟩ hl.1 (c_str_length l D cI cJ cC cZ cS zk zv zf) w_2_234 w_2_235 w_2_236 w_1_16 w_2_237 (by decide +kernel) ⟨⟨(Nat.le_of_ble_eq_true rfl), (Nat.le_of_ble_eq_true rfl)⟩, (Nat.le_of_ble_eq_true rfl), (Nat.le_of_ble_eq_true rfl)⟩ hK hP hD hS hZ hA [] [0, 1, 2] rfl rfl (by decide +kernel) (by decide +kernel) (by decide +kernel) rfl rfl rfl rfl (Nat.le_of_ble_eq_true rfl) dX6_readWord_90 (fun r_87 u H locs hw hP hD hS => ?_)
                      obtain ⟨rfl, rfl⟩ := hw
                      have hP : va_P D vwCl [(q 2, .inr (6, [.ref (q 0), .int (nI za), .int xv, .int (nI xo), .int (-2), .int (nI xz), .int xf, .int xp])), (q 0, .inr (10, [.ref (q 20), .int (nI tl)])), (q 20, .inl (cI, 1600, .inl (fun j => nI (tb j))))] H := hP
                      have hD : va_D A [(q 2, .inr (6, [.ref (q 0), .int (nI za), .int xv, .int (nI xo), .int (-2), .int (nI xz), .int xf, .int xp])), (q 0, .inr (10, [.ref (q 20), .int (nI tl)])), (q 20, .inl (cI, 1600, .inl (fun j => nI (tb j))))] := hD
                      refine lv_icmp_gt (tgt := 192) hx hb dX6_readWord_93 (by decide) (fun c_88 => ?_) (fun c_88 => ?_)
                      · have c_88 : 168 < i + 6 := (nlt 168 (i + 6) (by omega) (by omega)).mp c_88
                        exact sk_vret hx hb hr hlocks hK hP hD hS (⟨za, (-2), by omega, rfl⟩) (Nat.le_of_ble_eq_true rfl) (Nat.le_of_ble_eq_true rfl) dX6_readWord_192
                      · have c_88 : ¬ (168 < i + 6) := fun h => c_88 ((nlt 168 (i + 6) (by omega) (by omega)).mpr h)
                        refine lv_iconst (v := 1) hx hb dX6_readWord_96 (by decide) ?_
                        refine lv_istore_n (lv' := [(2, .int 1), (1, .int (nI i)), (0, .ref (q 2))]) hx hb dX6_readWord_97 rfl hl (by decide) rfl (fun ls hl => ?_)
                        refine lv_iconst (v := 0) hx hb dX6_readWord_98 (by decide) ?_
                        refine lv_istore_n (lv' := [(3, .int 0), (2, .int 1), (1, .int (nI i)), (0, .ref (q 2))]) hx hb dX6_readWord_99 rfl hl (by decide) rfl (fun ls hl => ?_)
                        have lp_89 : ∀ (n_90 : Nat) (jj : Nat) (al : Int32) (H : Heap) (locs : List Loc) (ls : Array Slot), 6 - jj < n_90 → (jj ≤ 6) → va_P D vwCl [(q 2, .inr (6, [.ref (q 0), .int (nI za), .int xv, .int (nI xo), .int (-2), .int (nI xz), .int xf, .int xp])), (q 0, .inr (10, [.ref (q 20), .int (nI tl)])), (q 20, .inl (cI, 1600, .inl (fun j => nI (tb j))))] H → va_D A [(q 2, .inr (6, [.ref (q 0), .int (nI za), .int xv, .int (nI xo), .int (-2), .int (nI xz), .int xf, .int xp])), (q 0, .inr (10, [.ref (q 20), .int (nI tl)])), (q 20, .inl (cI, 1600, .inl (fun j => nI (tb j))))] → va_S A s.heap H locs → lv_has ls 5 [(3, .int (nI jj)), (2, .int al), (1, .int (nI i)), (0, .ref (q 2))] → W p l e { frames := 4, cells := 0, slots := 0, locals := 85 } s m ([.ref (q 2)] : List Value).toArray below meth c H locs 0 0 (MQ below (skV D (skT cI cJ cC cZ cS) (fun (u : va_W) => ∃ (xa2 : Nat), ∃ (xt2 : Int32), xa2 ≤ 1600 ∧ u = [(q 2, .inr (6, [.ref (q 0), .int (nI xa2), .int xv, .int (nI xo), .int xt2, .int (nI xz), .int xf, .int xp])), (q 0, .inr (10, [.ref (q 20), .int (nI tl)])), (q 20, .inl (cI, 1600, .inl (fun j => nI (tb j))))]) A) ([.ref (q 2)] : List Value).toArray s 0 0 A) (F0 m 100 ls []) := by
                          intro n_90
                          induction n_90 with
                          | zero => intro jj al H locs ls hm; exact absurd hm (Nat.not_lt_zero _)
                          | succ n_90 ih_lp_89 =>
                            intro jj al H locs ls hm hjj hP hD hS hl
                            refine lv_iload_n hx hb dX6_readWord_100 rfl (lv_at hl 0 rfl) ?_
                            refine lv_bipush (v := 6) hx hb dX6_readWord_101 (by decide) ?_
                            refine lv_icmp_ge (tgt := 169) hx hb dX6_readWord_103 (by decide) (fun c_91 => ?_) (fun c_91 => ?_)
                            · have c_91 : 6 ≤ jj := (nle 6 jj (by omega) (by omega)).mp c_91
                              refine lv_iload_n hx hb dX6_readWord_169 rfl (lv_at hl 1 rfl) ?_
                              refine lv_if_eq (tgt := 186) hx hb dX6_readWord_170 (by decide) (fun c_92 => ?_) (fun c_92 => ?_)
                              · skip
                                refine lv_iinc (v := nI (i + 6)) (lv' := [(1, .int (nI (i + 6))), (3, .int (nI jj)), (2, .int al), (0, .ref (q 2))]) hx hb dX6_readWord_186 hl (k := 2) rfl (ninc i 6 (by decide)) (by decide) rfl (fun ls hl => ?_)
                                refine lv_goto (tgt := 84) hx hb dX6_readWord_189 (by decide) ?_
                                exact ih_lp_85 (i + 6) _ _ _ (by omega) (by omega) hP hD hS (lv_sub hl [0, 3] rfl)
                              · skip
                                refine lv_aload_n hx hb dX6_readWord_173 rfl (lv_at hl 3 rfl) ?_
                                refine lv_sipush (v := 256) hx hb dX6_readWord_174 (by decide) ?_
                                refine lv_iload_n hx hb dX6_readWord_177 rfl (lv_at hl 2 rfl) ?_
                                refine lv_bipush (v := 6) hx hb dX6_readWord_178 (by decide) ?_
                                refine lv_idiv hx hb dX6_readWord_180 (by decide) ?_
                                refine sk_top (nI (i / 6)) (ndiv i 6 (by omega) (by omega) (by omega)) ?_
                                refine lv_iadd hx hb dX6_readWord_181 ?_
                                refine sk_top (nI (256 + (i / 6))) (nI_add 256 (i / 6)) ?_
                                refine sk_put (ws' := [(q 2, .inr (6, [.ref (q 0), .int (nI za), .int xv, .int (nI xo), .int (nI (256 + (i / 6))), .int (nI xz), .int xf, .int xp])), (q 0, .inr (10, [.ref (q 20), .int (nI tl)])), (q 20, .inl (cI, 1600, .inl (fun j => nI (tb j))))]) (C := RX6) (T := TX6) (N := 8) (v := .int (nI (256 + (i / 6)))) hx hb hts inlX6 tyX6 tyX6_ok nmX6 hown hK hP hD hS 0 rfl rfl 4 (by decide) w_1_60 rfl rfl rfl (Nat.le_of_ble_eq_true rfl) rfl dX6_readWord_182 (fun H locs hP hD hS => ?_)
                                exact sk_vret hx hb hr hlocks hK hP hD hS (⟨za, nI (256 + (i / 6)), by omega, rfl⟩) (Nat.le_of_ble_eq_true rfl) (Nat.le_of_ble_eq_true rfl) dX6_readWord_185
                            · have c_91 : ¬ (6 ≤ jj) := fun h => c_91 ((nle 6 jj (by omega) (by omega)).mpr h)
                              refine lv_iload_n hx hb dX6_readWord_106 rfl (lv_at hl 1 rfl) ?_
                              refine lv_if_eq (tgt := 169) hx hb dX6_readWord_107 (by decide) (fun c_93 => ?_) (fun c_93 => ?_)
                              · skip
                                refine lv_iload_n hx hb dX6_readWord_169 rfl (lv_at hl 1 rfl) ?_
                                refine lv_if_eq (tgt := 186) hx hb dX6_readWord_170 (by decide) (fun c_94 => ?_) (fun c_94 => ?_)
                                · skip
                                  refine lv_iinc (v := nI (i + 6)) (lv' := [(1, .int (nI (i + 6))), (3, .int (nI jj)), (2, .int al), (0, .ref (q 2))]) hx hb dX6_readWord_186 hl (k := 2) rfl (ninc i 6 (by decide)) (by decide) rfl (fun ls hl => ?_)
                                  refine lv_goto (tgt := 84) hx hb dX6_readWord_189 (by decide) ?_
                                  exact ih_lp_85 (i + 6) _ _ _ (by omega) (by omega) hP hD hS (lv_sub hl [0, 3] rfl)
                                · skip
                                  refine lv_aload_n hx hb dX6_readWord_173 rfl (lv_at hl 3 rfl) ?_
                                  refine lv_sipush (v := 256) hx hb dX6_readWord_174 (by decide) ?_
                                  refine lv_iload_n hx hb dX6_readWord_177 rfl (lv_at hl 2 rfl) ?_
                                  refine lv_bipush (v := 6) hx hb dX6_readWord_178 (by decide) ?_
                                  refine lv_idiv hx hb dX6_readWord_180 (by decide) ?_
                                  refine sk_top (nI (i / 6)) (ndiv i 6 (by omega) (by omega) (by omega)) ?_
                                  refine lv_iadd hx hb dX6_readWord_181 ?_
                                  refine sk_top (nI (256 + (i / 6))) (nI_add 256 (i / 6)) ?_
                                  refine sk_put (ws' := [(q 2, .inr (6, [.ref (q 0), .int (nI za), .int xv, .int (nI xo), .int (nI (256 + (i / 6))), .int (nI xz), .int xf, .int xp])), (q 0, .inr (10, [.ref (q 20), .int (nI tl)])), (q 20, .inl (cI, 1600, .inl (fun j => nI (tb j))))]) (C := RX6) (T := TX6) (N := 8) (v := .int (nI (256 + (i / 6)))) hx hb hts inlX6 tyX6 tyX6_ok nmX6 hown hK hP hD hS 0 rfl rfl 4 (by decide) w_1_60 rfl rfl rfl (Nat.le_of_ble_eq_true rfl) rfl dX6_readWord_182 (fun H locs hP hD hS => ?_)
                                  exact sk_vret hx hb hr hlocks hK hP hD hS (⟨za, nI (256 + (i / 6)), by omega, rfl⟩) (Nat.le_of_ble_eq_true rfl) (Nat.le_of_ble_eq_true rfl) dX6_readWord_185
                              · skip
                                have jn_95 : ∀ (lt : Int32) (H : Heap) (locs : List Loc) (ls : Array Slot), va_P D vwCl [(q 2, .inr (6, [.ref (q 0), .int (nI za), .int xv, .int (nI xo), .int (-2), .int (nI xz), .int xf, .int xp])), (q 0, .inr (10, [.ref (q 20), .int (nI tl)])), (q 20, .inl (cI, 1600, .inl (fun j => nI (tb j))))] H → va_D A [(q 2, .inr (6, [.ref (q 0), .int (nI za), .int xv, .int (nI xo), .int (-2), .int (nI xz), .int xf, .int xp])), (q 0, .inr (10, [.ref (q 20), .int (nI tl)])), (q 20, .inl (cI, 1600, .inl (fun j => nI (tb j))))] → va_S A s.heap H locs → lv_has ls 5 [(3, .int (nI jj)), (2, .int al), (1, .int (nI i)), (0, .ref (q 2))] → W p l e { frames := 4, cells := 0, slots := 0, locals := 85 } s m ([.ref (q 2)] : List Value).toArray below meth c H locs 0 0 (MQ below (skV D (skT cI cJ cC cZ cS) (fun (u : va_W) => ∃ (xa2 : Nat), ∃ (xt2 : Int32), xa2 ≤ 1600 ∧ u = [(q 2, .inr (6, [.ref (q 0), .int (nI xa2), .int xv, .int (nI xo), .int xt2, .int (nI xz), .int xf, .int xp])), (q 0, .inr (10, [.ref (q 20), .int (nI tl)])), (q 20, .inl (cI, 1600, .inl (fun j => nI (tb j))))]) A) ([.ref (q 2)] : List Value).toArray s 0 0 A) (F0 m 142 ls [.int lt]) := by
                                  intro lt H locs ls  hP hD hS hl
                                  refine lv_istore (lv' := [(4, .int lt), (3, .int (nI jj)), (2, .int al), (1, .int (nI i)), (0, .ref (q 2))]) hx hb dX6_readWord_142 hl (by decide) rfl (fun ls hl => ?_)
                                  refine va_ldcS hx hb hown hZ.1 dX6_readWord_144 ?_
                                  refine lv_iload_n hx hb dX6_readWord_146 rfl (lv_at hl 3 rfl) ?_
                                  refine lv_iload_n hx hb dX6_readWord_147 rfl (lv_at hl 1 rfl) ?_
                                  refine lv_iadd hx hb dX6_readWord_148 ?_
                                  refine sk_top (nI (i + jj)) (nI_add i jj) ?_
                                  refine sk_ViS (n := 1) (rest := []) (wr := [(q 2, .inr (6, [.ref (q 0), .int (nI za), .int xv, .int (nI xo), .int (-2), .int (nI xz), .int xf, .int xp])), (q 0, .inr (10, [.ref (q 20), .int (nI tl)])), (q 20, .inl (cI, 1600, .inl (fun j => nI (tb j))))]) ⟨hx, hb, hml, hown, hts⟩ hl.1 (c_str_charAt l D cI cJ cC cZ cS zk zv zf (i + jj) (by omega)) w_3_4 w_3_5 w_3_6 w_1_16 w_3_7 (by decide +kernel) ⟨⟨(Nat.le_of_ble_eq_true rfl), (Nat.le_of_ble_eq_true rfl)⟩, (Nat.le_of_ble_eq_true rfl), (Nat.le_of_ble_eq_true rfl)⟩ hK hP hD hS hZ hA [] [0, 1, 2] rfl rfl (by decide +kernel) (by decide +kernel) (by decide +kernel) rfl rfl rfl rfl (Nat.le_of_ble_eq_true rfl) dX6_readWord_149 (fun r_96 u H locs hw hP hD hS => ?_)
                                  obtain ⟨hv_97, rfl⟩ := hw
                                  have hP : va_P D vwCl [(q 2, .inr (6, [.ref (q 0), .int (nI za), .int xv, .int (nI xo), .int (-2), .int (nI xz), .int xf, .int xp])), (q 0, .inr (10, [.ref (q 20), .int (nI tl)])), (q 20, .inl (cI, 1600, .inl (fun j => nI (tb j))))] H := hP
                                  have hD : va_D A [(q 2, .inr (6, [.ref (q 0), .int (nI za), .int xv, .int (nI xo), .int (-2), .int (nI xz), .int xf, .int xp])), (q 0, .inr (10, [.ref (q 20), .int (nI tl)])), (q 20, .inl (cI, 1600, .inl (fun j => nI (tb j))))] := hD
                                  refine lv_iload hx hb dX6_readWord_152 (lv_at hl 0 rfl) ?_
                                  refine lv_icmp_ne (tgt := 161) hx hb dX6_readWord_154 (by decide) (fun c_98 => ?_) (fun c_98 => ?_)
                                  · skip
                                    refine lv_iconst (v := 0) hx hb dX6_readWord_161 (by decide) ?_
                                    refine lv_istore_n (lv' := [(2, .int 0), (4, .int lt), (3, .int (nI jj)), (1, .int (nI i)), (0, .ref (q 2))]) hx hb dX6_readWord_162 rfl hl (by decide) rfl (fun ls hl => ?_)
                                    refine lv_iinc (v := nI (jj + 1)) (lv' := [(3, .int (nI (jj + 1))), (2, .int 0), (4, .int lt), (1, .int (nI i)), (0, .ref (q 2))]) hx hb dX6_readWord_163 hl (k := 2) rfl (ninc jj 1 (by decide)) (by decide) rfl (fun ls hl => ?_)
                                    refine lv_goto (tgt := 100) hx hb dX6_readWord_166 (by decide) ?_
                                    exact ih_lp_89 (jj + 1) 0 _ _ _ (by omega) (by omega) hP hD hS (lv_sub hl [0, 1, 3, 4] rfl)
                                  · skip
                                    refine lv_iconst (v := 1) hx hb dX6_readWord_157 (by decide) ?_
                                    refine lv_goto (tgt := 162) hx hb dX6_readWord_158 (by decide) ?_
                                    refine lv_istore_n (lv' := [(2, .int 1), (4, .int lt), (3, .int (nI jj)), (1, .int (nI i)), (0, .ref (q 2))]) hx hb dX6_readWord_162 rfl hl (by decide) rfl (fun ls hl => ?_)
                                    refine lv_iinc (v := nI (jj + 1)) (lv' := [(3, .int (nI (jj + 1))), (2, .int 1), (4, .int lt), (1, .int (nI i)), (0, .ref (q 2))]) hx hb dX6_readWord_163 hl (k := 2) rfl (ninc jj 1 (by decide)) (by decide) rfl (fun ls hl => ?_)
                                    refine lv_goto (tgt := 100) hx hb dX6_readWord_166 (by decide) ?_
                                    exact ih_lp_89 (jj + 1) 1 _ _ _ (by omega) (by omega) hP hD hS (lv_sub hl [0, 1, 3, 4] rfl)
                                refine lv_aload_n hx hb dX6_readWord_110 rfl (lv_at hl 3 rfl) ?_
                                refine sk_get (v := .int (nI xz)) (C := RX6) (T := TX6) (N := 8) hx hb hts inlX6 hown hK hP 0 rfl rfl 5 (by decide) w_1_64 rfl dX6_readWord_111 ?_
                                refine lv_iload_n hx hb dX6_readWord_114 rfl (lv_at hl 0 rfl) ?_
                                refine lv_iadd hx hb dX6_readWord_115 ?_
                                refine sk_top (nI (xz + jj)) (nI_add xz jj) ?_
                                refine lv_aload_n hx hb dX6_readWord_116 rfl (lv_at hl 3 rfl) ?_
                                refine sk_get (v := .int (nI za)) (C := RX6) (T := TX6) (N := 8) hx hb hts inlX6 hown hK hP 0 rfl rfl 1 (by decide) w_1_57 rfl dX6_readWord_117 ?_
                                refine lv_icmp_ge (tgt := 140) hx hb dX6_readWord_120 (by decide) (fun c_99 => ?_) (fun c_99 => ?_)
                                · have c_99 : za ≤ xz + jj := (nle za (xz + jj) (by omega) (by omega)).mp c_99
                                  refine lv_bipush (v := 32) hx hb dX6_readWord_140 (by decide) ?_
                                  exact jn_95 32 _ _ _  hP hD hS (lv_sub hl [0, 1, 2, 3] rfl)
                                · have c_99 : ¬ (za ≤ xz + jj) := fun h => c_99 ((nle za (xz + jj) (by omega) (by omega)).mpr h)
                                  refine lv_aload_n hx hb dX6_readWord_123 rfl (lv_at hl 3 rfl) ?_
                                  refine sk_get (v := .ref (q 0)) (C := RX6) (T := TX6) (N := 8) hx hb hts inlX6 hown hK hP 0 rfl rfl 0 (by decide) w_1_56 rfl dX6_readWord_124 ?_
                                  refine sk_get (v := .ref (q 20)) (C := RX10) (T := TX10) (N := 2) hx hb hts inlX10 hown hK hP 1 rfl rfl 0 (by decide) w_1_40 rfl dX6_readWord_127 ?_
                                  refine lv_aload_n hx hb dX6_readWord_130 rfl (lv_at hl 3 rfl) ?_
                                  refine sk_get (v := .int (nI xz)) (C := RX6) (T := TX6) (N := 8) hx hb hts inlX6 hown hK hP 0 rfl rfl 5 (by decide) w_1_64 rfl dX6_readWord_131 ?_
                                  refine lv_iload_n hx hb dX6_readWord_134 rfl (lv_at hl 0 rfl) ?_
                                  refine lv_iadd hx hb dX6_readWord_135 ?_
                                  refine sk_top (nI (xz + jj)) (nI_add xz jj) ?_
                                  refine va_iald hx hb hK.1 hP 2 0 rfl rfl (vin (xz + jj) 1600 (by omega) (by omega)) dX6_readWord_136 ?_
                                  refine sk_top (nI (tb (xz + jj))) (nrd tb (xz + jj) (by omega)) ?_
                                  have hb_100 := htb (xz + jj)
                                  refine lv_goto (tgt := 142) hx hb dX6_readWord_137 (by decide) ?_
                                  exact jn_95 (nI (tb (xz + jj))) _ _ _  hP hD hS (lv_sub hl [0, 1, 2, 3] rfl)
                        exact lp_89 (6 - 0 + 1) 0 1 _ _ _ (Nat.lt_succ_self _) (by omega) hP hD hS (lv_sub hl [0, 1, 2, 3] rfl)
                  exact lp_85 (168 - 0 + 1) 0 _ _ _ (Nat.lt_succ_self _) (by omega) hP hD hS (lv_sub hl [0, 1] rfl)
                · skip
                  exact sk_vret hx hb hr hlocks hK hP hD hS (⟨za, (-2), by omega, rfl⟩) (Nat.le_of_ble_eq_true rfl) (Nat.le_of_ble_eq_true rfl) dX6_readWord_81
              · have c_82 : ¬ (tb za < 97) := fun h => c_82 ((nlt (tb za) 97 (by omega) (by omega)).mpr h)
                refine lv_aload_n hx hb dX6_readWord_31 rfl (lv_at hl 0 rfl) ?_
                refine sk_get (v := .ref (q 0)) (C := RX6) (T := TX6) (N := 8) hx hb hts inlX6 hown hK hP 0 rfl rfl 0 (by decide) w_1_56 rfl dX6_readWord_32 ?_
                refine sk_get (v := .ref (q 20)) (C := RX10) (T := TX10) (N := 2) hx hb hts inlX10 hown hK hP 1 rfl rfl 0 (by decide) w_1_40 rfl dX6_readWord_35 ?_
                refine lv_aload_n hx hb dX6_readWord_38 rfl (lv_at hl 0 rfl) ?_
                refine sk_get (v := .int (nI za)) (C := RX6) (T := TX6) (N := 8) hx hb hts inlX6 hown hK hP 0 rfl rfl 1 (by decide) w_1_57 rfl dX6_readWord_39 ?_
                refine va_iald hx hb hK.1 hP 2 0 rfl rfl (vin za 1600 (by omega) (by omega)) dX6_readWord_42 ?_
                refine sk_top (nI (tb za)) (nrd tb za (by omega)) ?_
                have hb_101 := htb za
                refine lv_bipush (v := 122) hx hb dX6_readWord_43 (by decide) ?_
                refine lv_icmp_gt (tgt := 61) hx hb dX6_readWord_45 (by decide) (fun c_102 => ?_) (fun c_102 => ?_)
                · have c_102 : 122 < tb za := (nlt 122 (tb za) (by omega) (by omega)).mp c_102
                  refine lv_aload_n hx hb dX6_readWord_61 rfl (lv_at hl 0 rfl) ?_
                  refine lv_bipush (v := (-2)) hx hb dX6_readWord_62 (by decide) ?_
                  refine sk_put (ws' := [(q 2, .inr (6, [.ref (q 0), .int (nI za), .int xv, .int (nI xo), .int (-2), .int (nI xz), .int xf, .int xp])), (q 0, .inr (10, [.ref (q 20), .int (nI tl)])), (q 20, .inl (cI, 1600, .inl (fun j => nI (tb j))))]) (C := RX6) (T := TX6) (N := 8) (v := .int (-2)) hx hb hts inlX6 tyX6 tyX6_ok nmX6 hown hK hP hD hS 0 rfl rfl 4 (by decide) w_1_60 rfl rfl rfl (Nat.le_of_ble_eq_true rfl) rfl dX6_readWord_64 (fun H locs hP hD hS => ?_)
                  refine lv_aload_n hx hb dX6_readWord_67 rfl (lv_at hl 0 rfl) ?_
                  refine sk_get (v := .int (nI za)) (C := RX6) (T := TX6) (N := 8) hx hb hts inlX6 hown hK hP 0 rfl rfl 1 (by decide) w_1_57 rfl dX6_readWord_68 ?_
                  refine lv_aload_n hx hb dX6_readWord_71 rfl (lv_at hl 0 rfl) ?_
                  refine sk_get (v := .int (nI xz)) (C := RX6) (T := TX6) (N := 8) hx hb hts inlX6 hown hK hP 0 rfl rfl 5 (by decide) w_1_64 rfl dX6_readWord_72 ?_
                  refine lv_isub hx hb dX6_readWord_75 ?_
                  refine lv_topi (fun v_103 ev_103 => ?_)
                  refine lv_bipush (v := 6) hx hb dX6_readWord_76 (by decide) ?_
                  refine lv_icmp_le (tgt := 82) hx hb dX6_readWord_78 (by decide) (fun c_104 => ?_) (fun c_104 => ?_)
                  · skip
                    refine lv_iconst (v := 0) hx hb dX6_readWord_82 (by decide) ?_
                    refine lv_istore_n (lv' := [(1, .int 0), (0, .ref (q 2))]) hx hb dX6_readWord_83 rfl hl (by decide) rfl (fun ls hl => ?_)
                    have lp_105 : ∀ (n_106 : Nat) (i : Nat) (H : Heap) (locs : List Loc) (ls : Array Slot), 168 - i < n_106 → (i ≤ 168) → va_P D vwCl [(q 2, .inr (6, [.ref (q 0), .int (nI za), .int xv, .int (nI xo), .int (-2), .int (nI xz), .int xf, .int xp])), (q 0, .inr (10, [.ref (q 20), .int (nI tl)])), (q 20, .inl (cI, 1600, .inl (fun j => nI (tb j))))] H → va_D A [(q 2, .inr (6, [.ref (q 0), .int (nI za), .int xv, .int (nI xo), .int (-2), .int (nI xz), .int xf, .int xp])), (q 0, .inr (10, [.ref (q 20), .int (nI tl)])), (q 20, .inl (cI, 1600, .inl (fun j => nI (tb j))))] → va_S A s.heap H locs → lv_has ls 5 [(1, .int (nI i)), (0, .ref (q 2))] → W p l e { frames := 4, cells := 0, slots := 0, locals := 85 } s m ([.ref (q 2)] : List Value).toArray below meth c H locs 0 0 (MQ below (skV D (skT cI cJ cC cZ cS) (fun (u : va_W) => ∃ (xa2 : Nat), ∃ (xt2 : Int32), xa2 ≤ 1600 ∧ u = [(q 2, .inr (6, [.ref (q 0), .int (nI xa2), .int xv, .int (nI xo), .int xt2, .int (nI xz), .int xf, .int xp])), (q 0, .inr (10, [.ref (q 20), .int (nI tl)])), (q 20, .inl (cI, 1600, .inl (fun j => nI (tb j))))]) A) ([.ref (q 2)] : List Value).toArray s 0 0 A) (F0 m 84 ls []) := by
                      intro n_106
                      induction n_106 with
                      | zero => intro i H locs ls hm; exact absurd hm (Nat.not_lt_zero _)
                      | succ n_106 ih_lp_105 =>
                        intro i H locs ls hm hi hP hD hS hl
                        refine lv_iload_n hx hb dX6_readWord_84 rfl (lv_at hl 0 rfl) ?_
                        refine lv_bipush (v := 6) hx hb dX6_readWord_85 (by decide) ?_
                        refine lv_iadd hx hb dX6_readWord_87 ?_
                        refine sk_top (nI (i + 6)) (nI_add i 6) ?_
                        refine va_ldcS hx hb hown hZ.1 dX6_readWord_88 ?_
                        refine sk_ViS (n := 0) (rest := [.int (nI (i + 6))]) (wr := [(q 2, .inr (6, [.ref (q 0), .int (nI za), .int xv, .int (nI xo), .int (-2), .int (nI xz), .int xf, .int xp])), (q 0, .inr (10, [.ref (q 20), .int (nI tl)])), (q 20, .inl (cI, 1600, .inl (fun j => nI (tb j))))]) ⟨hx, hb, hml, hown, hts⟩ hl.1 (c_str_length l D cI cJ cC cZ cS zk zv zf) w_2_234 w_2_235 w_2_236 w_1_16 w_2_237 (by decide +kernel) ⟨⟨(Nat.le_of_ble_eq_true rfl), (Nat.le_of_ble_eq_true rfl)⟩, (Nat.le_of_ble_eq_true rfl), (Nat.le_of_ble_eq_true rfl)⟩ hK hP hD hS hZ hA [] [0, 1, 2] rfl rfl (by decide +kernel) (by decide +kernel) (by decide +kernel) rfl rfl rfl rfl (Nat.le_of_ble_eq_true rfl) dX6_readWord_90 (fun r_107 u H locs hw hP hD hS => ?_)
                        obtain ⟨rfl, rfl⟩ := hw
                        have hP : va_P D vwCl [(q 2, .inr (6, [.ref (q 0), .int (nI za), .int xv, .int (nI xo), .int (-2), .int (nI xz), .int xf, .int xp])), (q 0, .inr (10, [.ref (q 20), .int (nI tl)])), (q 20, .inl (cI, 1600, .inl (fun j => nI (tb j))))] H := hP
                        have hD : va_D A [(q 2, .inr (6, [.ref (q 0), .int (nI za), .int xv, .int (nI xo), .int (-2), .int (nI xz), .int xf, .int xp])), (q 0, .inr (10, [.ref (q 20), .int (nI tl)])), (q 20, .inl (cI, 1600, .inl (fun j => nI (tb j))))] := hD
                        refine lv_icmp_gt (tgt := 192) hx hb dX6_readWord_93 (by decide) (fun c_108 => ?_) (fun c_108 => ?_)
                        · have c_108 : 168 < i + 6 := (nlt 168 (i + 6) (by omega) (by omega)).mp c_108
                          exact sk_vret hx hb hr hlocks hK hP hD hS (⟨za, (-2), by omega, rfl⟩) (Nat.le_of_ble_eq_true rfl) (Nat.le_of_ble_eq_true rfl) dX6_readWord_192
                        · have c_108 : ¬ (168 < i + 6) := fun h => c_108 ((nlt 168 (i + 6) (by omega) (by omega)).mpr h)
                          refine lv_iconst (v := 1) hx hb dX6_readWord_96 (by decide) ?_
                          refine lv_istore_n (lv' := [(2, .int 1), (1, .int (nI i)), (0, .ref (q 2))]) hx hb dX6_readWord_97 rfl hl (by decide) rfl (fun ls hl => ?_)
                          refine lv_iconst (v := 0) hx hb dX6_readWord_98 (by decide) ?_
                          refine lv_istore_n (lv' := [(3, .int 0), (2, .int 1), (1, .int (nI i)), (0, .ref (q 2))]) hx hb dX6_readWord_99 rfl hl (by decide) rfl (fun ls hl => ?_)
                          have lp_109 : ∀ (n_110 : Nat) (jj : Nat) (al : Int32) (H : Heap) (locs : List Loc) (ls : Array Slot), 6 - jj < n_110 → (jj ≤ 6) → va_P D vwCl [(q 2, .inr (6, [.ref (q 0), .int (nI za), .int xv, .int (nI xo), .int (-2), .int (nI xz), .int xf, .int xp])), (q 0, .inr (10, [.ref (q 20), .int (nI tl)])), (q 20, .inl (cI, 1600, .inl (fun j => nI (tb j))))] H → va_D A [(q 2, .inr (6, [.ref (q 0), .int (nI za), .int xv, .int (nI xo), .int (-2), .int (nI xz), .int xf, .int xp])), (q 0, .inr (10, [.ref (q 20), .int (nI tl)])), (q 20, .inl (cI, 1600, .inl (fun j => nI (tb j))))] → va_S A s.heap H locs → lv_has ls 5 [(3, .int (nI jj)), (2, .int al), (1, .int (nI i)), (0, .ref (q 2))] → W p l e { frames := 4, cells := 0, slots := 0, locals := 85 } s m ([.ref (q 2)] : List Value).toArray below meth c H locs 0 0 (MQ below (skV D (skT cI cJ cC cZ cS) (fun (u : va_W) => ∃ (xa2 : Nat), ∃ (xt2 : Int32), xa2 ≤ 1600 ∧ u = [(q 2, .inr (6, [.ref (q 0), .int (nI xa2), .int xv, .int (nI xo), .int xt2, .int (nI xz), .int xf, .int xp])), (q 0, .inr (10, [.ref (q 20), .int (nI tl)])), (q 20, .inl (cI, 1600, .inl (fun j => nI (tb j))))]) A) ([.ref (q 2)] : List Value).toArray s 0 0 A) (F0 m 100 ls []) := by
                            intro n_110
                            induction n_110 with
                            | zero => intro jj al H locs ls hm; exact absurd hm (Nat.not_lt_zero _)
                            | succ n_110 ih_lp_109 =>
                              intro jj al H locs ls hm hjj hP hD hS hl
                              refine lv_iload_n hx hb dX6_readWord_100 rfl (lv_at hl 0 rfl) ?_
                              refine lv_bipush (v := 6) hx hb dX6_readWord_101 (by decide) ?_
                              refine lv_icmp_ge (tgt := 169) hx hb dX6_readWord_103 (by decide) (fun c_111 => ?_) (fun c_111 => ?_)
                              · have c_111 : 6 ≤ jj := (nle 6 jj (by omega) (by omega)).mp c_111
                                refine lv_iload_n hx hb dX6_readWord_169 rfl (lv_at hl 1 rfl) ?_
                                refine lv_if_eq (tgt := 186) hx hb dX6_readWord_170 (by decide) (fun c_112 => ?_) (fun c_112 => ?_)
                                · skip
                                  refine lv_iinc (v := nI (i + 6)) (lv' := [(1, .int (nI (i + 6))), (3, .int (nI jj)), (2, .int al), (0, .ref (q 2))]) hx hb dX6_readWord_186 hl (k := 2) rfl (ninc i 6 (by decide)) (by decide) rfl (fun ls hl => ?_)
                                  refine lv_goto (tgt := 84) hx hb dX6_readWord_189 (by decide) ?_
                                  exact ih_lp_105 (i + 6) _ _ _ (by omega) (by omega) hP hD hS (lv_sub hl [0, 3] rfl)
                                · skip
                                  refine lv_aload_n hx hb dX6_readWord_173 rfl (lv_at hl 3 rfl) ?_
                                  refine lv_sipush (v := 256) hx hb dX6_readWord_174 (by decide) ?_
                                  refine lv_iload_n hx hb dX6_readWord_177 rfl (lv_at hl 2 rfl) ?_
                                  refine lv_bipush (v := 6) hx hb dX6_readWord_178 (by decide) ?_
                                  refine lv_idiv hx hb dX6_readWord_180 (by decide) ?_
                                  refine sk_top (nI (i / 6)) (ndiv i 6 (by omega) (by omega) (by omega)) ?_
                                  refine lv_iadd hx hb dX6_readWord_181 ?_
                                  refine sk_top (nI (256 + (i / 6))) (nI_add 256 (i / 6)) ?_
                                  refine sk_put (ws' := [(q 2, .inr (6, [.ref (q 0), .int (nI za), .int xv, .int (nI xo), .int (nI (256 + (i / 6))), .int (nI xz), .int xf, .int xp])), (q 0, .inr (10, [.ref (q 20), .int (nI tl)])), (q 20, .inl (cI, 1600, .inl (fun j => nI (tb j))))]) (C := RX6) (T := TX6) (N := 8) (v := .int (nI (256 + (i / 6)))) hx hb hts inlX6 tyX6 tyX6_ok nmX6 hown hK hP hD hS 0 rfl rfl 4 (by decide) w_1_60 rfl rfl rfl (Nat.le_of_ble_eq_true rfl) rfl dX6_readWord_182 (fun H locs hP hD hS => ?_)
                                  exact sk_vret hx hb hr hlocks hK hP hD hS (⟨za, nI (256 + (i / 6)), by omega, rfl⟩) (Nat.le_of_ble_eq_true rfl) (Nat.le_of_ble_eq_true rfl) dX6_readWord_185
                              · have c_111 : ¬ (6 ≤ jj) := fun h => c_111 ((nle 6 jj (by omega) (by omega)).mpr h)
                                refine lv_iload_n hx hb dX6_readWord_106 rfl (lv_at hl 1 rfl) ?_
                                refine lv_if_eq (tgt := 169) hx hb dX6_readWord_107 (by decide) (fun c_113 => ?_) (fun c_113 => ?_)
                                · skip
                                  refine lv_iload_n hx hb dX6_readWord_169 rfl (lv_at hl 1 rfl) ?_
                                  refine lv_if_eq (tgt := 186) hx hb dX6_readWord_170 (by decide) (fun c_114 => ?_) (fun c_114 => ?_)
                                  · skip
                                    refine lv_iinc (v := nI (i + 6)) (lv' := [(1, .int (nI (i + 6))), (3, .int (nI jj)), (2, .int al), (0, .ref (q 2))]) hx hb dX6_readWord_186 hl (k := 2) rfl (ninc i 6 (by decide)) (by decide) rfl (fun ls hl => ?_)
                                    refine lv_goto (tgt := 84) hx hb dX6_readWord_189 (by decide) ?_
                                    exact ih_lp_105 (i + 6) _ _ _ (by omega) (by omega) hP hD hS (lv_sub hl [0, 3] rfl)
                                  · skip
                                    refine lv_aload_n hx hb dX6_readWord_173 rfl (lv_at hl 3 rfl) ?_
                                    refine lv_sipush (v := 256) hx hb dX6_readWord_174 (by decide) ?_
                                    refine lv_iload_n hx hb dX6_readWord_177 rfl (lv_at hl 2 rfl) ?_
                                    refine lv_bipush (v := 6) hx hb dX6_readWord_178 (by decide) ?_
                                    refine lv_idiv hx hb dX6_readWord_180 (by decide) ?_
                                    refine sk_top (nI (i / 6)) (ndiv i 6 (by omega) (by omega) (by omega)) ?_
                                    refine lv_iadd hx hb dX6_readWord_181 ?_
                                    refine sk_top (nI (256 + (i / 6))) (nI_add 256 (i / 6)) ?_
                                    refine sk_put (ws' := [(q 2, .inr (6, [.ref (q 0), .int (nI za), .int xv, .int (nI xo), .int (nI (256 + (i / 6))), .int (nI xz), .int xf, .int xp])), (q 0, .inr (10, [.ref (q 20), .int (nI tl)])), (q 20, .inl (cI, 1600, .inl (fun j => nI (tb j))))]) (C := RX6) (T := TX6) (N := 8) (v := .int (nI (256 + (i / 6)))) hx hb hts inlX6 tyX6 tyX6_ok nmX6 hown hK hP hD hS 0 rfl rfl 4 (by decide) w_1_60 rfl rfl rfl (Nat.le_of_ble_eq_true rfl) rfl dX6_readWord_182 (fun H locs hP hD hS => ?_)
                                    exact sk_vret hx hb hr hlocks hK hP hD hS (⟨za, nI (256 + (i / 6)), by omega, rfl⟩) (Nat.le_of_ble_eq_true rfl) (Nat.le_of_ble_eq_true rfl) dX6_readWord_185
                                · skip
                                  have jn_115 : ∀ (lt : Int32) (H : Heap) (locs : List Loc) (ls : Array Slot), va_P D vwCl [(q 2, .inr (6, [.ref (q 0), .int (nI za), .int xv, .int (nI xo), .int (-2), .int (nI xz), .int xf, .int xp])), (q 0, .inr (10, [.ref (q 20), .int (nI tl)])), (q 20, .inl (cI, 1600, .inl (fun j => nI (tb j))))] H → va_D A [(q 2, .inr (6, [.ref (q 0), .int (nI za), .int xv, .int (nI xo), .int (-2), .int (nI xz), .int xf, .int xp])), (q 0, .inr (10, [.ref (q 20), .int (nI tl)])), (q 20, .inl (cI, 1600, .inl (fun j => nI (tb j))))] → va_S A s.heap H locs → lv_has ls 5 [(3, .int (nI jj)), (2, .int al), (1, .int (nI i)), (0, .ref (q 2))] → W p l e { frames := 4, cells := 0, slots := 0, locals := 85 } s m ([.ref (q 2)] : List Value).toArray below meth c H locs 0 0 (MQ below (skV D (skT cI cJ cC cZ cS) (fun (u : va_W) => ∃ (xa2 : Nat), ∃ (xt2 : Int32), xa2 ≤ 1600 ∧ u = [(q 2, .inr (6, [.ref (q 0), .int (nI xa2), .int xv, .int (nI xo), .int xt2, .int (nI xz), .int xf, .int xp])), (q 0, .inr (10, [.ref (q 20), .int (nI tl)])), (q 20, .inl (cI, 1600, .inl (fun j => nI (tb j))))]) A) ([.ref (q 2)] : List Value).toArray s 0 0 A) (F0 m 142 ls [.int lt]) := by
                                    intro lt H locs ls  hP hD hS hl
                                    refine lv_istore (lv' := [(4, .int lt), (3, .int (nI jj)), (2, .int al), (1, .int (nI i)), (0, .ref (q 2))]) hx hb dX6_readWord_142 hl (by decide) rfl (fun ls hl => ?_)
                                    refine va_ldcS hx hb hown hZ.1 dX6_readWord_144 ?_
                                    refine lv_iload_n hx hb dX6_readWord_146 rfl (lv_at hl 3 rfl) ?_
                                    refine lv_iload_n hx hb dX6_readWord_147 rfl (lv_at hl 1 rfl) ?_
                                    refine lv_iadd hx hb dX6_readWord_148 ?_
                                    refine sk_top (nI (i + jj)) (nI_add i jj) ?_
                                    refine sk_ViS (n := 1) (rest := []) (wr := [(q 2, .inr (6, [.ref (q 0), .int (nI za), .int xv, .int (nI xo), .int (-2), .int (nI xz), .int xf, .int xp])), (q 0, .inr (10, [.ref (q 20), .int (nI tl)])), (q 20, .inl (cI, 1600, .inl (fun j => nI (tb j))))]) ⟨hx, hb, hml, hown, hts⟩ hl.1 (c_str_charAt l D cI cJ cC cZ cS zk zv zf (i + jj) (by omega)) w_3_4 w_3_5 w_3_6 w_1_16 w_3_7 (by decide +kernel) ⟨⟨(Nat.le_of_ble_eq_true rfl), (Nat.le_of_ble_eq_true rfl)⟩, (Nat.le_of_ble_eq_true rfl), (Nat.le_of_ble_eq_true rfl)⟩ hK hP hD hS hZ hA [] [0, 1, 2] rfl rfl (by decide +kernel) (by decide +kernel) (by decide +kernel) rfl rfl rfl rfl (Nat.le_of_ble_eq_true rfl) dX6_readWord_149 (fun r_116 u H locs hw hP hD hS => ?_)
                                    obtain ⟨hv_117, rfl⟩ := hw
                                    have hP : va_P D vwCl [(q 2, .inr (6, [.ref (q 0), .int (nI za), .int xv, .int (nI xo), .int (-2), .int (nI xz), .int xf, .int xp])), (q 0, .inr (10, [.ref (q 20), .int (nI tl)])), (q 20, .inl (cI, 1600, .inl (fun j => nI (tb j))))] H := hP
                                    have hD : va_D A [(q 2, .inr (6, [.ref (q 0), .int (nI za), .int xv, .int (nI xo), .int (-2), .int (nI xz), .int xf, .int xp])), (q 0, .inr (10, [.ref (q 20), .int (nI tl)])), (q 20, .inl (cI, 1600, .inl (fun j => nI (tb j))))] := hD
                                    refine lv_iload hx hb dX6_readWord_152 (lv_at hl 0 rfl) ?_
                                    refine lv_icmp_ne (tgt := 161) hx hb dX6_readWord_154 (by decide) (fun c_118 => ?_) (fun c_118 => ?_)
                                    · skip
                                      refine lv_iconst (v := 0) hx hb dX6_readWord_161 (by decide) ?_
                                      refine lv_istore_n (lv' := [(2, .int 0), (4, .int lt), (3, .int (nI jj)), (1, .int (nI i)), (0, .ref (q 2))]) hx hb dX6_readWord_162 rfl hl (by decide) rfl (fun ls hl => ?_)
                                      refine lv_iinc (v := nI (jj + 1)) (lv' := [(3, .int (nI (jj + 1))), (2, .int 0), (4, .int lt), (1, .int (nI i)), (0, .ref (q 2))]) hx hb dX6_readWord_163 hl (k := 2) rfl (ninc jj 1 (by decide)) (by decide) rfl (fun ls hl => ?_)
                                      refine lv_goto (tgt := 100) hx hb dX6_readWord_166 (by decide) ?_
                                      exact ih_lp_109 (jj + 1) 0 _ _ _ (by omega) (by omega) hP hD hS (lv_sub hl [0, 1, 3, 4] rfl)
                                    · skip
                                      refine lv_iconst (v := 1) hx hb dX6_readWord_157 (by decide) ?_
                                      refine lv_goto (tgt := 162) hx hb dX6_readWord_158 (by decide) ?_
                                      refine lv_istore_n (lv' := [(2, .int 1), (4, .int lt), (3, .int (nI jj)), (1, .int (nI i)), (0, .ref (q 2))]) hx hb dX6_readWord_162 rfl hl (by decide) rfl (fun ls hl => ?_)
                                      refine lv_iinc (v := nI (jj + 1)) (lv' := [(3, .int (nI (jj + 1))), (2, .int 1), (4, .int lt), (1, .int (nI i)), (0, .ref (q 2))]) hx hb dX6_readWord_163 hl (k := 2) rfl (ninc jj 1 (by decide)) (by decide) rfl (fun ls hl => ?_)
                                      refine lv_goto (tgt := 100) hx hb dX6_readWord_166 (by decide) ?_
                                      exact ih_lp_109 (jj + 1) 1 _ _ _ (by omega) (by omega) hP hD hS (lv_sub hl [0, 1, 3, 4] rfl)
                                  refine lv_aload_n hx hb dX6_readWord_110 rfl (lv_at hl 3 rfl) ?_
                                  refine sk_get (v := .int (nI xz)) (C := RX6) (T := TX6) (N := 8) hx hb hts inlX6 hown hK hP 0 rfl rfl 5 (by decide) w_1_64 rfl dX6_readWord_111 ?_
                                  refine lv_iload_n hx hb dX6_readWord_114 rfl (lv_at hl 0 rfl) ?_
                                  refine lv_iadd hx hb dX6_readWord_115 ?_
                                  refine sk_top (nI (xz + jj)) (nI_add xz jj) ?_
                                  refine lv_aload_n hx hb dX6_readWord_116 rfl (lv_at hl 3 rfl) ?_
                                  refine sk_get (v := .int (nI za)) (C := RX6) (T := TX6) (N := 8) hx hb hts inlX6 hown hK hP 0 rfl rfl 1 (by decide) w_1_57 rfl dX6_readWord_117 ?_
                                  refine lv_icmp_ge (tgt := 140) hx hb dX6_readWord_120 (by decide) (fun c_119 => ?_) (fun c_119 => ?_)
                                  · have c_119 : za ≤ xz + jj := (nle za (xz + jj) (by omega) (by omega)).mp c_119
                                    refine lv_bipush (v := 32) hx hb dX6_readWord_140 (by decide) ?_
                                    exact jn_115 32 _ _ _  hP hD hS (lv_sub hl [0, 1, 2, 3] rfl)
                                  · have c_119 : ¬ (za ≤ xz + jj) := fun h => c_119 ((nle za (xz + jj) (by omega) (by omega)).mpr h)
                                    refine lv_aload_n hx hb dX6_readWord_123 rfl (lv_at hl 3 rfl) ?_
                                    refine sk_get (v := .ref (q 0)) (C := RX6) (T := TX6) (N := 8) hx hb hts inlX6 hown hK hP 0 rfl rfl 0 (by decide) w_1_56 rfl dX6_readWord_124 ?_
                                    refine sk_get (v := .ref (q 20)) (C := RX10) (T := TX10) (N := 2) hx hb hts inlX10 hown hK hP 1 rfl rfl 0 (by decide) w_1_40 rfl dX6_readWord_127 ?_
                                    refine lv_aload_n hx hb dX6_readWord_130 rfl (lv_at hl 3 rfl) ?_
                                    refine sk_get (v := .int (nI xz)) (C := RX6) (T := TX6) (N := 8) hx hb hts inlX6 hown hK hP 0 rfl rfl 5 (by decide) w_1_64 rfl dX6_readWord_131 ?_
                                    refine lv_iload_n hx hb dX6_readWord_134 rfl (lv_at hl 0 rfl) ?_
                                    refine lv_iadd hx hb dX6_readWord_135 ?_
                                    refine sk_top (nI (xz + jj)) (nI_add xz jj) ?_
                                    refine va_iald hx hb hK.1 hP 2 0 rfl rfl (vin (xz + jj) 1600 (by omega) (by omega)) dX6_readWord_136 ?_
                                    refine sk_top (nI (tb (xz + jj))) (nrd tb (xz + jj) (by omega)) ?_
                                    have hb_120 := htb (xz + jj)
                                    refine lv_goto (tgt := 142) hx hb dX6_readWord_137 (by decide) ?_
                                    exact jn_115 (nI (tb (xz + jj))) _ _ _  hP hD hS (lv_sub hl [0, 1, 2, 3] rfl)
                          exact lp_109 (6 - 0 + 1) 0 1 _ _ _ (Nat.lt_succ_self _) (by omega) hP hD hS (lv_sub hl [0, 1, 2, 3] rfl)
                    exact lp_105 (168 - 0 + 1) 0 _ _ _ (Nat.lt_succ_self _) (by omega) hP hD hS (lv_sub hl [0, 1] rfl)
                  · skip
                    exact sk_vret hx hb hr hlocks hK hP hD hS (⟨za, (-2), by omega, rfl⟩) (Nat.le_of_ble_eq_true rfl) (Nat.le_of_ble_eq_true rfl) dX6_readWord_81
                · have c_102 : ¬ (122 < tb za) := fun h => c_102 ((nlt 122 (tb za) (by omega) (by omega)).mpr h)
                  refine lv_aload_n hx hb dX6_readWord_48 rfl (lv_at hl 0 rfl) ?_
                  refine lv_dup hx hb dX6_readWord_49 rfl ?_
                  refine sk_get (v := .int (nI za)) (C := RX6) (T := TX6) (N := 8) hx hb hts inlX6 hown hK hP 0 rfl rfl 1 (by decide) w_1_57 rfl dX6_readWord_50 ?_
                  refine lv_iconst (v := 1) hx hb dX6_readWord_53 (by decide) ?_
                  refine lv_iadd hx hb dX6_readWord_54 ?_
                  refine sk_top (nI (za + 1)) (nI_add za 1) ?_
                  refine sk_put (ws' := [(q 2, .inr (6, [.ref (q 0), .int (nI (za + 1)), .int xv, .int (nI xo), .int xt, .int (nI xz), .int xf, .int xp])), (q 0, .inr (10, [.ref (q 20), .int (nI tl)])), (q 20, .inl (cI, 1600, .inl (fun j => nI (tb j))))]) (C := RX6) (T := TX6) (N := 8) (v := .int (nI (za + 1))) hx hb hts inlX6 tyX6 tyX6_ok nmX6 hown hK hP hD hS 0 rfl rfl 1 (by decide) w_1_57 rfl rfl rfl (Nat.le_of_ble_eq_true rfl) rfl dX6_readWord_55 (fun H locs hP hD hS => ?_)
                  refine lv_goto (tgt := 0) hx hb dX6_readWord_58 (by decide) ?_
                  exact ih_lp_60 (za + 1) _ _ _ (by omega) (by omega) hP hD hS (lv_sub hl [0] rfl)
        exact lp_60 (tl - (xa + 1) + 1) (xa + 1) _ _ _ (Nat.lt_succ_self _) (by omega) hP hD hS (lv_sub hl [0] rfl)
theorem dX6_step_0 : decode cX6_step 0 = .ok (.aload_n 0, 1) := by decide +kernel
theorem dX6_step_1 : decode cX6_step 1 = .ok (.getfield 27, 3) := by decide +kernel
theorem dX6_step_4 : decode cX6_step 4 = .ok (.ifCond .eq 4, 3) := by decide +kernel
theorem dX6_step_35 : decode cX6_step 35 = .ok (.istore_n 1, 1) := by decide +kernel
theorem dX6_step_36 : decode cX6_step 36 = .ok (.aload_n 0, 1) := by decide +kernel
theorem dX6_step_37 : decode cX6_step 37 = .ok (.getfield 9, 3) := by decide +kernel
theorem dX6_step_40 : decode cX6_step 40 = .ok (.aload_n 0, 1) := by decide +kernel
theorem dX6_step_41 : decode cX6_step 41 = .ok (.getfield 33, 3) := by decide +kernel
theorem dX6_step_44 : decode cX6_step 44 = .ok (.getfield 44, 3) := by decide +kernel
theorem dX6_step_47 : decode cX6_step 47 = .ok (.if_icmp .ge 50, 3) := by decide +kernel
theorem dX6_step_192 : decode cX6_step 192 = .ok (.aload_n 0, 1) := by decide +kernel
theorem dX6_step_193 : decode cX6_step 193 = .ok (.getfield 24, 3) := by decide +kernel
theorem dX6_step_196 : decode cX6_step 196 = .ok (.iload_n 1, 1) := by decide +kernel
theorem dX6_step_197 : decode cX6_step 197 = .ok (.if_icmp .ne 9, 3) := by decide +kernel
theorem dX6_step_206 : decode cX6_step 206 = .ok (.return_, 1) := by decide +kernel
theorem dX6_step_200 : decode cX6_step 200 = .ok (.aload_n 0, 1) := by decide +kernel
theorem dX6_step_201 : decode cX6_step 201 = .ok (.bipush (-2), 2) := by decide +kernel
theorem dX6_step_203 : decode cX6_step 203 = .ok (.putfield 21, 3) := by decide +kernel
theorem dX6_step_97 : decode cX6_step 97 = .ok (.aload_n 0, 1) := by decide +kernel
theorem dX6_step_98 : decode cX6_step 98 = .ok (.aload_n 0, 1) := by decide +kernel
theorem dX6_step_99 : decode cX6_step 99 = .ok (.getfield 9, 3) := by decide +kernel
theorem dX6_step_102 : decode cX6_step 102 = .ok (.putfield 24, 3) := by decide +kernel
theorem dX6_step_105 : decode cX6_step 105 = .ok (.aload_n 0, 1) := by decide +kernel
theorem dX6_step_106 : decode cX6_step 106 = .ok (.getfield 9, 3) := by decide +kernel
theorem dX6_step_109 : decode cX6_step 109 = .ok (.aload_n 0, 1) := by decide +kernel
theorem dX6_step_110 : decode cX6_step 110 = .ok (.getfield 33, 3) := by decide +kernel
theorem dX6_step_113 : decode cX6_step 113 = .ok (.getfield 44, 3) := by decide +kernel
theorem dX6_step_116 : decode cX6_step 116 = .ok (.if_icmp .lt 9, 3) := by decide +kernel
theorem dX6_step_125 : decode cX6_step 125 = .ok (.aload_n 0, 1) := by decide +kernel
theorem dX6_step_126 : decode cX6_step 126 = .ok (.getfield 33, 3) := by decide +kernel
theorem dX6_step_129 : decode cX6_step 129 = .ok (.getfield 49, 3) := by decide +kernel
theorem dX6_step_132 : decode cX6_step 132 = .ok (.aload_n 0, 1) := by decide +kernel
theorem dX6_step_133 : decode cX6_step 133 = .ok (.getfield 9, 3) := by decide +kernel
theorem dX6_step_136 : decode cX6_step 136 = .ok (.iaload, 1) := by decide +kernel
theorem dX6_step_137 : decode cX6_step 137 = .ok (.istore_n 2, 1) := by decide +kernel
theorem dX6_step_138 : decode cX6_step 138 = .ok (.iload_n 2, 1) := by decide +kernel
theorem dX6_step_139 : decode cX6_step 139 = .ok (.bipush 97, 2) := by decide +kernel
theorem dX6_step_141 : decode cX6_step 141 = .ok (.if_icmp .lt 16, 3) := by decide +kernel
theorem dX6_step_157 : decode cX6_step 157 = .ok (.iload_n 2, 1) := by decide +kernel
theorem dX6_step_158 : decode cX6_step 158 = .ok (.bipush 48, 2) := by decide +kernel
theorem dX6_step_160 : decode cX6_step 160 = .ok (.if_icmp .lt 16, 3) := by decide +kernel
theorem dX6_step_176 : decode cX6_step 176 = .ok (.aload_n 0, 1) := by decide +kernel
theorem dX6_step_177 : decode cX6_step 177 = .ok (.dup, 1) := by decide +kernel
theorem dX6_step_178 : decode cX6_step 178 = .ok (.getfield 9, 3) := by decide +kernel
theorem dX6_step_181 : decode cX6_step 181 = .ok (.iconst 1, 1) := by decide +kernel
theorem dX6_step_182 : decode cX6_step 182 = .ok (.iadd, 1) := by decide +kernel
theorem dX6_step_183 : decode cX6_step 183 = .ok (.putfield 9, 3) := by decide +kernel
theorem dX6_step_186 : decode cX6_step 186 = .ok (.aload_n 0, 1) := by decide +kernel
theorem dX6_step_187 : decode cX6_step 187 = .ok (.iload_n 2, 1) := by decide +kernel
theorem dX6_step_188 : decode cX6_step 188 = .ok (.putfield 21, 3) := by decide +kernel
theorem dX6_step_191 : decode cX6_step 191 = .ok (.return_, 1) := by decide +kernel
theorem dX6_step_163 : decode cX6_step 163 = .ok (.iload_n 2, 1) := by decide +kernel
theorem dX6_step_164 : decode cX6_step 164 = .ok (.bipush 57, 2) := by decide +kernel
theorem dX6_step_166 : decode cX6_step 166 = .ok (.if_icmp .gt 10, 3) := by decide +kernel
theorem dX6_step_169 : decode cX6_step 169 = .ok (.aload_n 0, 1) := by decide +kernel
theorem dX6_step_170 : decode cX6_step 170 = .ok (.invokevirtual 56, 3) := by decide +kernel
theorem dX6_step_173 : decode cX6_step 173 = .ok (.goto 19, 3) := by decide +kernel
theorem dX6_step_144 : decode cX6_step 144 = .ok (.iload_n 2, 1) := by decide +kernel
theorem dX6_step_145 : decode cX6_step 145 = .ok (.bipush 122, 2) := by decide +kernel
theorem dX6_step_147 : decode cX6_step 147 = .ok (.if_icmp .gt 10, 3) := by decide +kernel
theorem dX6_step_150 : decode cX6_step 150 = .ok (.aload_n 0, 1) := by decide +kernel
theorem dX6_step_151 : decode cX6_step 151 = .ok (.invokevirtual 53, 3) := by decide +kernel
theorem dX6_step_154 : decode cX6_step 154 = .ok (.goto 38, 3) := by decide +kernel
theorem dX6_step_119 : decode cX6_step 119 = .ok (.aload_n 0, 1) := by decide +kernel
theorem dX6_step_120 : decode cX6_step 120 = .ok (.iconst (-1), 1) := by decide +kernel
theorem dX6_step_121 : decode cX6_step 121 = .ok (.putfield 21, 3) := by decide +kernel
theorem dX6_step_124 : decode cX6_step 124 = .ok (.return_, 1) := by decide +kernel
theorem dX6_step_50 : decode cX6_step 50 = .ok (.aload_n 0, 1) := by decide +kernel
theorem dX6_step_51 : decode cX6_step 51 = .ok (.getfield 33, 3) := by decide +kernel
theorem dX6_step_54 : decode cX6_step 54 = .ok (.getfield 49, 3) := by decide +kernel
theorem dX6_step_57 : decode cX6_step 57 = .ok (.aload_n 0, 1) := by decide +kernel
theorem dX6_step_58 : decode cX6_step 58 = .ok (.getfield 9, 3) := by decide +kernel
theorem dX6_step_61 : decode cX6_step 61 = .ok (.iaload, 1) := by decide +kernel
theorem dX6_step_62 : decode cX6_step 62 = .ok (.bipush 32, 2) := by decide +kernel
theorem dX6_step_64 : decode cX6_step 64 = .ok (.if_icmp .eq 20, 3) := by decide +kernel
theorem dX6_step_84 : decode cX6_step 84 = .ok (.aload_n 0, 1) := by decide +kernel
theorem dX6_step_85 : decode cX6_step 85 = .ok (.dup, 1) := by decide +kernel
theorem dX6_step_86 : decode cX6_step 86 = .ok (.getfield 9, 3) := by decide +kernel
theorem dX6_step_89 : decode cX6_step 89 = .ok (.iconst 1, 1) := by decide +kernel
theorem dX6_step_90 : decode cX6_step 90 = .ok (.iadd, 1) := by decide +kernel
theorem dX6_step_91 : decode cX6_step 91 = .ok (.putfield 9, 3) := by decide +kernel
theorem dX6_step_94 : decode cX6_step 94 = .ok (.goto (-58), 3) := by decide +kernel
theorem dX6_step_67 : decode cX6_step 67 = .ok (.aload_n 0, 1) := by decide +kernel
theorem dX6_step_68 : decode cX6_step 68 = .ok (.getfield 33, 3) := by decide +kernel
theorem dX6_step_71 : decode cX6_step 71 = .ok (.getfield 49, 3) := by decide +kernel
theorem dX6_step_74 : decode cX6_step 74 = .ok (.aload_n 0, 1) := by decide +kernel
theorem dX6_step_75 : decode cX6_step 75 = .ok (.getfield 9, 3) := by decide +kernel
theorem dX6_step_78 : decode cX6_step 78 = .ok (.iaload, 1) := by decide +kernel
theorem dX6_step_79 : decode cX6_step 79 = .ok (.bipush 10, 2) := by decide +kernel
theorem dX6_step_81 : decode cX6_step 81 = .ok (.if_icmp .ne 16, 3) := by decide +kernel
theorem dX6_step_8 : decode cX6_step 8 = .ok (.aload_n 0, 1) := by decide +kernel
theorem dX6_step_9 : decode cX6_step 9 = .ok (.getfield 21, 3) := by decide +kernel
theorem dX6_step_12 : decode cX6_step 12 = .ok (.bipush (-3), 2) := by decide +kernel
theorem dX6_step_14 : decode cX6_step 14 = .ok (.if_icmp .eq 13, 3) := by decide +kernel
theorem dX6_step_27 : decode cX6_step 27 = .ok (.aload_n 0, 1) := by decide +kernel
theorem dX6_step_28 : decode cX6_step 28 = .ok (.getfield 9, 3) := by decide +kernel
theorem dX6_step_31 : decode cX6_step 31 = .ok (.goto 4, 3) := by decide +kernel
theorem dX6_step_17 : decode cX6_step 17 = .ok (.aload_n 0, 1) := by decide +kernel
theorem dX6_step_18 : decode cX6_step 18 = .ok (.getfield 21, 3) := by decide +kernel
theorem dX6_step_21 : decode cX6_step 21 = .ok (.sipush 256, 3) := by decide +kernel
theorem dX6_step_24 : decode cX6_step 24 = .ok (.if_icmp .lt 10, 3) := by decide +kernel
theorem dX6_step_34 : decode cX6_step 34 = .ok (.iconst (-1), 1) := by decide +kernel
theorem dX6_step_7 : decode cX6_step 7 = .ok (.return_, 1) := by decide +kernel
theorem w_3_42 : (Cond.methodLink RX6 56 yX6_readNumber) ∈ wsL_law := sk_mem (ck_3 _ (List.mem_of_getElem? (i := 42) rfl)) rfl
theorem w_3_44 : (Cond.instanceMethod yX6_readNumber) ∈ wsL_law := sk_mem (ck_3 _ (List.mem_of_getElem? (i := 44) rfl)) rfl
theorem w_0_3 : (Cond.selects RX6 yX6_readNumber yX6_readNumber) ∈ wsL_law := sk_mem (ck_0 _ (List.mem_of_getElem? (i := 3) rfl)) rfl
theorem w_2_229 : (Cond.methodLink RX6 53 yX6_readWord) ∈ wsL_law := sk_mem (ck_2 _ (List.mem_of_getElem? (i := 229) rfl)) rfl
theorem w_2_231 : (Cond.instanceMethod yX6_readWord) ∈ wsL_law := sk_mem (ck_2 _ (List.mem_of_getElem? (i := 231) rfl)) rfl
theorem w_0_2 : (Cond.selects RX6 yX6_readWord yX6_readWord) ∈ wsL_law := sk_mem (ck_0 _ (List.mem_of_getElem? (i := 2) rfl)) rfl
theorem w_2_228 : (Cond.code yX6_step cX6_step 3 none) ∈ wsL_law := sk_mem (ck_2 _ (List.mem_of_getElem? (i := 228) rfl)) rfl
set_option maxHeartbeats 4000000 in
set_option maxRecDepth 100000 in
theorem c_rd_step (l : Launch) (D : va_G) (cI cJ cC cZ cS : ClassId) (zk zv : Nat) (zf : Value) (q : Nat → Nat) (xa : Nat) (xv : Int32) (xo : Nat) (xt : Int32) (xz : Nat) (xf : Int32) (xp : Int32) (tl : Nat) (tb : Nat → Nat) (hxa : xa ≤ 1600) (hxz : xz ≤ 1600) (htl : tl ≤ 1600) (htb : ∀ j, tb j ≤ 255) : skMZ zk zv zf l yX6_step cX6_step 3 none 5 109 0 0 D (skT cI cJ cC cZ cS) [.ref (q 2)] [(q 2, .inr (6, [.ref (q 0), .int (nI xa), .int xv, .int (nI xo), .int xt, .int (nI xz), .int xf, .int xp])), (q 0, .inr (10, [.ref (q 20), .int (nI tl)])), (q 20, .inl (cI, 1600, .inl (fun j => nI (tb j))))] (skV D (skT cI cJ cC cZ cS) (fun (u : va_W) => ∃ (xa2 : Nat), ∃ (xv2 : Int32), ∃ (xt2 : Int32), ∃ (xz2 : Nat), xa2 ≤ 1600 ∧ xz2 ≤ 1600 ∧ u = [(q 2, .inr (6, [.ref (q 0), .int (nI xa2), .int xv2, .int (nI xo), .int xt2, .int (nI xz2), .int xf, .int xp])), (q 0, .inr (10, [.ref (q 20), .int (nI tl)])), (q 20, .inl (cI, 1600, .inl (fun j => nI (tb j))))])) := by
  refine skMZ_of (by decide +kernel) (Nat.le_of_ble_eq_true rfl) ?_
  intro p e s m below meth c A ls E hP hD hZ hl
  obtain ⟨hx, hb, hr, hml, hlocks, hin, hown, hts, hK, hA⟩ := E
  have hown : s.vm.findClass RX6 = some m.cls := hown
  have hS : va_S A s.heap s.heap [] := va_S.rf
  have hl : lv_has ls 3 [(0, .ref (q 2))] := hl
  refine lv_aload_n hx hb dX6_step_0 rfl (lv_at hl 0 rfl) ?_
  refine sk_get (v := .int xf) (C := RX6) (T := TX6) (N := 8) hx hb hts inlX6 hown hK hP 0 rfl rfl 6 (by decide) w_1_66 rfl dX6_step_1 ?_
  refine lv_if_eq (tgt := 8) hx hb dX6_step_4 (by decide) (fun c_1 => ?_) (fun c_1 => ?_)
  · skip
    have jn_2 : ∀ (bh : Int32) (H : Heap) (locs : List Loc) (ls : Array Slot), va_P D vwCl [(q 2, .inr (6, [.ref (q 0), .int (nI xa), .int xv, .int (nI xo), .int xt, .int (nI xz), .int xf, .int xp])), (q 0, .inr (10, [.ref (q 20), .int (nI tl)])), (q 20, .inl (cI, 1600, .inl (fun j => nI (tb j))))] H → va_D A [(q 2, .inr (6, [.ref (q 0), .int (nI xa), .int xv, .int (nI xo), .int xt, .int (nI xz), .int xf, .int xp])), (q 0, .inr (10, [.ref (q 20), .int (nI tl)])), (q 20, .inl (cI, 1600, .inl (fun j => nI (tb j))))] → va_S A s.heap H locs → lv_has ls 3 [(0, .ref (q 2))] → W p l e { frames := 5, cells := 0, slots := 0, locals := 109 } s m ([.ref (q 2)] : List Value).toArray below meth c H locs 0 0 (MQ below (skV D (skT cI cJ cC cZ cS) (fun (u : va_W) => ∃ (xa2 : Nat), ∃ (xv2 : Int32), ∃ (xt2 : Int32), ∃ (xz2 : Nat), xa2 ≤ 1600 ∧ xz2 ≤ 1600 ∧ u = [(q 2, .inr (6, [.ref (q 0), .int (nI xa2), .int xv2, .int (nI xo), .int xt2, .int (nI xz2), .int xf, .int xp])), (q 0, .inr (10, [.ref (q 20), .int (nI tl)])), (q 20, .inl (cI, 1600, .inl (fun j => nI (tb j))))]) A) ([.ref (q 2)] : List Value).toArray s 0 0 A) (F0 m 35 ls [.int bh]) := by
      intro bh H locs ls  hP hD hS hl
      refine lv_istore_n (lv' := [(1, .int bh), (0, .ref (q 2))]) hx hb dX6_step_35 rfl hl (by decide) rfl (fun ls hl => ?_)
      have lp_3 : ∀ (n_4 : Nat) (za : Nat) (H : Heap) (locs : List Loc) (ls : Array Slot), tl - za < n_4 → (za ≤ 1600) → va_P D vwCl [(q 2, .inr (6, [.ref (q 0), .int (nI za), .int xv, .int (nI xo), .int xt, .int (nI xz), .int xf, .int xp])), (q 0, .inr (10, [.ref (q 20), .int (nI tl)])), (q 20, .inl (cI, 1600, .inl (fun j => nI (tb j))))] H → va_D A [(q 2, .inr (6, [.ref (q 0), .int (nI za), .int xv, .int (nI xo), .int xt, .int (nI xz), .int xf, .int xp])), (q 0, .inr (10, [.ref (q 20), .int (nI tl)])), (q 20, .inl (cI, 1600, .inl (fun j => nI (tb j))))] → va_S A s.heap H locs → lv_has ls 3 [(1, .int bh), (0, .ref (q 2))] → W p l e { frames := 5, cells := 0, slots := 0, locals := 109 } s m ([.ref (q 2)] : List Value).toArray below meth c H locs 0 0 (MQ below (skV D (skT cI cJ cC cZ cS) (fun (u : va_W) => ∃ (xa2 : Nat), ∃ (xv2 : Int32), ∃ (xt2 : Int32), ∃ (xz2 : Nat), xa2 ≤ 1600 ∧ xz2 ≤ 1600 ∧ u = [(q 2, .inr (6, [.ref (q 0), .int (nI xa2), .int xv2, .int (nI xo), .int xt2, .int (nI xz2), .int xf, .int xp])), (q 0, .inr (10, [.ref (q 20), .int (nI tl)])), (q 20, .inl (cI, 1600, .inl (fun j => nI (tb j))))]) A) ([.ref (q 2)] : List Value).toArray s 0 0 A) (F0 m 36 ls []) := by
        intro n_4
        induction n_4 with
        | zero => intro za H locs ls hm; exact absurd hm (Nat.not_lt_zero _)
        | succ n_4 ih_lp_3 =>
          intro za H locs ls hm hza hP hD hS hl
          refine lv_aload_n hx hb dX6_step_36 rfl (lv_at hl 1 rfl) ?_
          refine sk_get (v := .int (nI za)) (C := RX6) (T := TX6) (N := 8) hx hb hts inlX6 hown hK hP 0 rfl rfl 1 (by decide) w_1_57 rfl dX6_step_37 ?_
          refine lv_aload_n hx hb dX6_step_40 rfl (lv_at hl 1 rfl) ?_
          refine sk_get (v := .ref (q 0)) (C := RX6) (T := TX6) (N := 8) hx hb hts inlX6 hown hK hP 0 rfl rfl 0 (by decide) w_1_56 rfl dX6_step_41 ?_
          refine sk_get (v := .int (nI tl)) (C := RX10) (T := TX10) (N := 2) hx hb hts inlX10 hown hK hP 1 rfl rfl 1 (by decide) w_1_43 rfl dX6_step_44 ?_
          refine lv_icmp_ge (tgt := 97) hx hb dX6_step_47 (by decide) (fun c_5 => ?_) (fun c_5 => ?_)
          · have c_5 : tl ≤ za := (nle tl za (by omega) (by omega)).mp c_5
            have jn_6 : ∀ (ya : Nat) (yv : Int32) (yk : Int32) (yz : Nat) (H : Heap) (locs : List Loc) (ls : Array Slot), (ya ≤ 1600) → (yz ≤ 1600) → va_P D vwCl [(q 2, .inr (6, [.ref (q 0), .int (nI ya), .int yv, .int (nI xo), .int yk, .int (nI yz), .int xf, .int xp])), (q 0, .inr (10, [.ref (q 20), .int (nI tl)])), (q 20, .inl (cI, 1600, .inl (fun j => nI (tb j))))] H → va_D A [(q 2, .inr (6, [.ref (q 0), .int (nI ya), .int yv, .int (nI xo), .int yk, .int (nI yz), .int xf, .int xp])), (q 0, .inr (10, [.ref (q 20), .int (nI tl)])), (q 20, .inl (cI, 1600, .inl (fun j => nI (tb j))))] → va_S A s.heap H locs → lv_has ls 3 [(1, .int bh), (0, .ref (q 2))] → W p l e { frames := 5, cells := 0, slots := 0, locals := 109 } s m ([.ref (q 2)] : List Value).toArray below meth c H locs 0 0 (MQ below (skV D (skT cI cJ cC cZ cS) (fun (u : va_W) => ∃ (xa2 : Nat), ∃ (xv2 : Int32), ∃ (xt2 : Int32), ∃ (xz2 : Nat), xa2 ≤ 1600 ∧ xz2 ≤ 1600 ∧ u = [(q 2, .inr (6, [.ref (q 0), .int (nI xa2), .int xv2, .int (nI xo), .int xt2, .int (nI xz2), .int xf, .int xp])), (q 0, .inr (10, [.ref (q 20), .int (nI tl)])), (q 20, .inl (cI, 1600, .inl (fun j => nI (tb j))))]) A) ([.ref (q 2)] : List Value).toArray s 0 0 A) (F0 m 192 ls []) := by
              intro ya yv yk yz H locs ls hya hyz hP hD hS hl
              refine lv_aload_n hx hb dX6_step_192 rfl (lv_at hl 1 rfl) ?_
              refine sk_get (v := .int (nI yz)) (C := RX6) (T := TX6) (N := 8) hx hb hts inlX6 hown hK hP 0 rfl rfl 5 (by decide) w_1_64 rfl dX6_step_193 ?_
              refine lv_iload_n hx hb dX6_step_196 rfl (lv_at hl 0 rfl) ?_
              refine lv_icmp_ne (tgt := 206) hx hb dX6_step_197 (by decide) (fun c_7 => ?_) (fun c_7 => ?_)
              · skip
                exact sk_vret hx hb hr hlocks hK hP hD hS (⟨ya, yv, yk, yz, by omega, by omega, rfl⟩) (Nat.le_of_ble_eq_true rfl) (Nat.le_of_ble_eq_true rfl) dX6_step_206
              · skip
                refine lv_aload_n hx hb dX6_step_200 rfl (lv_at hl 1 rfl) ?_
                refine lv_bipush (v := (-2)) hx hb dX6_step_201 (by decide) ?_
                refine sk_put (ws' := [(q 2, .inr (6, [.ref (q 0), .int (nI ya), .int yv, .int (nI xo), .int (-2), .int (nI yz), .int xf, .int xp])), (q 0, .inr (10, [.ref (q 20), .int (nI tl)])), (q 20, .inl (cI, 1600, .inl (fun j => nI (tb j))))]) (C := RX6) (T := TX6) (N := 8) (v := .int (-2)) hx hb hts inlX6 tyX6 tyX6_ok nmX6 hown hK hP hD hS 0 rfl rfl 4 (by decide) w_1_60 rfl rfl rfl (Nat.le_of_ble_eq_true rfl) rfl dX6_step_203 (fun H locs hP hD hS => ?_)
                exact sk_vret hx hb hr hlocks hK hP hD hS (⟨ya, yv, (-2), yz, by omega, by omega, rfl⟩) (Nat.le_of_ble_eq_true rfl) (Nat.le_of_ble_eq_true rfl) dX6_step_206
            refine lv_aload_n hx hb dX6_step_97 rfl (lv_at hl 1 rfl) ?_
            refine lv_aload_n hx hb dX6_step_98 rfl (lv_at hl 1 rfl) ?_
            refine sk_get (v := .int (nI za)) (C := RX6) (T := TX6) (N := 8) hx hb hts inlX6 hown hK hP 0 rfl rfl 1 (by decide) w_1_57 rfl dX6_step_99 ?_
            refine sk_put (ws' := [(q 2, .inr (6, [.ref (q 0), .int (nI za), .int xv, .int (nI xo), .int xt, .int (nI za), .int xf, .int xp])), (q 0, .inr (10, [.ref (q 20), .int (nI tl)])), (q 20, .inl (cI, 1600, .inl (fun j => nI (tb j))))]) (C := RX6) (T := TX6) (N := 8) (v := .int (nI za)) hx hb hts inlX6 tyX6 tyX6_ok nmX6 hown hK hP hD hS 0 rfl rfl 5 (by decide) w_1_64 rfl rfl rfl (Nat.le_of_ble_eq_true rfl) rfl dX6_step_102 (fun H locs hP hD hS => ?_)
            refine lv_aload_n hx hb dX6_step_105 rfl (lv_at hl 1 rfl) ?_
            refine sk_get (v := .int (nI za)) (C := RX6) (T := TX6) (N := 8) hx hb hts inlX6 hown hK hP 0 rfl rfl 1 (by decide) w_1_57 rfl dX6_step_106 ?_
            refine lv_aload_n hx hb dX6_step_109 rfl (lv_at hl 1 rfl) ?_
            refine sk_get (v := .ref (q 0)) (C := RX6) (T := TX6) (N := 8) hx hb hts inlX6 hown hK hP 0 rfl rfl 0 (by decide) w_1_56 rfl dX6_step_110 ?_
            refine sk_get (v := .int (nI tl)) (C := RX10) (T := TX10) (N := 2) hx hb hts inlX10 hown hK hP 1 rfl rfl 1 (by decide) w_1_43 rfl dX6_step_113 ?_
            refine lv_icmp_lt (tgt := 125) hx hb dX6_step_116 (by decide) (fun c_8 => ?_) (fun c_8 => ?_)
            · have c_8 : za < tl := (nlt za tl (by omega) (by omega)).mp c_8
              refine lv_aload_n hx hb dX6_step_125 rfl (lv_at hl 1 rfl) ?_
              refine sk_get (v := .ref (q 0)) (C := RX6) (T := TX6) (N := 8) hx hb hts inlX6 hown hK hP 0 rfl rfl 0 (by decide) w_1_56 rfl dX6_step_126 ?_
              refine sk_get (v := .ref (q 20)) (C := RX10) (T := TX10) (N := 2) hx hb hts inlX10 hown hK hP 1 rfl rfl 0 (by decide) w_1_40 rfl dX6_step_129 ?_
              refine lv_aload_n hx hb dX6_step_132 rfl (lv_at hl 1 rfl) ?_
              refine sk_get (v := .int (nI za)) (C := RX6) (T := TX6) (N := 8) hx hb hts inlX6 hown hK hP 0 rfl rfl 1 (by decide) w_1_57 rfl dX6_step_133 ?_
              refine va_iald hx hb hK.1 hP 2 0 rfl rfl (vin za 1600 (by omega) (by omega)) dX6_step_136 ?_
              refine sk_top (nI (tb za)) (nrd tb za (by omega)) ?_
              have hb_9 := htb za
              refine lv_istore_n (lv' := [(2, .int (nI (tb za))), (1, .int bh), (0, .ref (q 2))]) hx hb dX6_step_137 rfl hl (by decide) rfl (fun ls hl => ?_)
              refine lv_iload_n hx hb dX6_step_138 rfl (lv_at hl 0 rfl) ?_
              refine lv_bipush (v := 97) hx hb dX6_step_139 (by decide) ?_
              refine lv_icmp_lt (tgt := 157) hx hb dX6_step_141 (by decide) (fun c_10 => ?_) (fun c_10 => ?_)
              · have c_10 : tb za < 97 := (nlt (tb za) 97 (by omega) (by omega)).mp c_10
                refine lv_iload_n hx hb dX6_step_157 rfl (lv_at hl 0 rfl) ?_
                refine lv_bipush (v := 48) hx hb dX6_step_158 (by decide) ?_
                refine lv_icmp_lt (tgt := 176) hx hb dX6_step_160 (by decide) (fun c_11 => ?_) (fun c_11 => ?_)
                · have c_11 : tb za < 48 := (nlt (tb za) 48 (by omega) (by omega)).mp c_11
                  refine lv_aload_n hx hb dX6_step_176 rfl (lv_at hl 2 rfl) ?_
                  refine lv_dup hx hb dX6_step_177 rfl ?_
                  refine sk_get (v := .int (nI za)) (C := RX6) (T := TX6) (N := 8) hx hb hts inlX6 hown hK hP 0 rfl rfl 1 (by decide) w_1_57 rfl dX6_step_178 ?_
                  refine lv_iconst (v := 1) hx hb dX6_step_181 (by decide) ?_
                  refine lv_iadd hx hb dX6_step_182 ?_
                  refine sk_top (nI (za + 1)) (nI_add za 1) ?_
                  refine sk_put (ws' := [(q 2, .inr (6, [.ref (q 0), .int (nI (za + 1)), .int xv, .int (nI xo), .int xt, .int (nI za), .int xf, .int xp])), (q 0, .inr (10, [.ref (q 20), .int (nI tl)])), (q 20, .inl (cI, 1600, .inl (fun j => nI (tb j))))]) (C := RX6) (T := TX6) (N := 8) (v := .int (nI (za + 1))) hx hb hts inlX6 tyX6 tyX6_ok nmX6 hown hK hP hD hS 0 rfl rfl 1 (by decide) w_1_57 rfl rfl rfl (Nat.le_of_ble_eq_true rfl) rfl dX6_step_183 (fun H locs hP hD hS => ?_)
                  refine lv_aload_n hx hb dX6_step_186 rfl (lv_at hl 2 rfl) ?_
                  refine lv_iload_n hx hb dX6_step_187 rfl (lv_at hl 0 rfl) ?_
                  refine sk_put (ws' := [(q 2, .inr (6, [.ref (q 0), .int (nI (za + 1)), .int xv, .int (nI xo), .int (nI (tb za)), .int (nI za), .int xf, .int xp])), (q 0, .inr (10, [.ref (q 20), .int (nI tl)])), (q 20, .inl (cI, 1600, .inl (fun j => nI (tb j))))]) (C := RX6) (T := TX6) (N := 8) (v := .int (nI (tb za))) hx hb hts inlX6 tyX6 tyX6_ok nmX6 hown hK hP hD hS 0 rfl rfl 4 (by decide) w_1_60 rfl rfl rfl (Nat.le_of_ble_eq_true rfl) rfl dX6_step_188 (fun H locs hP hD hS => ?_)
                  exact sk_vret hx hb hr hlocks hK hP hD hS (⟨za + 1, xv, nI (tb za), za, by omega, by omega, rfl⟩) (Nat.le_of_ble_eq_true rfl) (Nat.le_of_ble_eq_true rfl) dX6_step_191
                · have c_11 : ¬ (tb za < 48) := fun h => c_11 ((nlt (tb za) 48 (by omega) (by omega)).mpr h)
                  refine lv_iload_n hx hb dX6_step_163 rfl (lv_at hl 0 rfl) ?_
                  refine lv_bipush (v := 57) hx hb dX6_step_164 (by decide) ?_
                  refine lv_icmp_gt (tgt := 176) hx hb dX6_step_166 (by decide) (fun c_12 => ?_) (fun c_12 => ?_)
                  · have c_12 : 57 < tb za := (nlt 57 (tb za) (by omega) (by omega)).mp c_12
                    refine lv_aload_n hx hb dX6_step_176 rfl (lv_at hl 2 rfl) ?_
                    refine lv_dup hx hb dX6_step_177 rfl ?_
                    refine sk_get (v := .int (nI za)) (C := RX6) (T := TX6) (N := 8) hx hb hts inlX6 hown hK hP 0 rfl rfl 1 (by decide) w_1_57 rfl dX6_step_178 ?_
                    refine lv_iconst (v := 1) hx hb dX6_step_181 (by decide) ?_
                    refine lv_iadd hx hb dX6_step_182 ?_
                    refine sk_top (nI (za + 1)) (nI_add za 1) ?_
                    refine sk_put (ws' := [(q 2, .inr (6, [.ref (q 0), .int (nI (za + 1)), .int xv, .int (nI xo), .int xt, .int (nI za), .int xf, .int xp])), (q 0, .inr (10, [.ref (q 20), .int (nI tl)])), (q 20, .inl (cI, 1600, .inl (fun j => nI (tb j))))]) (C := RX6) (T := TX6) (N := 8) (v := .int (nI (za + 1))) hx hb hts inlX6 tyX6 tyX6_ok nmX6 hown hK hP hD hS 0 rfl rfl 1 (by decide) w_1_57 rfl rfl rfl (Nat.le_of_ble_eq_true rfl) rfl dX6_step_183 (fun H locs hP hD hS => ?_)
                    refine lv_aload_n hx hb dX6_step_186 rfl (lv_at hl 2 rfl) ?_
                    refine lv_iload_n hx hb dX6_step_187 rfl (lv_at hl 0 rfl) ?_
                    refine sk_put (ws' := [(q 2, .inr (6, [.ref (q 0), .int (nI (za + 1)), .int xv, .int (nI xo), .int (nI (tb za)), .int (nI za), .int xf, .int xp])), (q 0, .inr (10, [.ref (q 20), .int (nI tl)])), (q 20, .inl (cI, 1600, .inl (fun j => nI (tb j))))]) (C := RX6) (T := TX6) (N := 8) (v := .int (nI (tb za))) hx hb hts inlX6 tyX6 tyX6_ok nmX6 hown hK hP hD hS 0 rfl rfl 4 (by decide) w_1_60 rfl rfl rfl (Nat.le_of_ble_eq_true rfl) rfl dX6_step_188 (fun H locs hP hD hS => ?_)
                    exact sk_vret hx hb hr hlocks hK hP hD hS (⟨za + 1, xv, nI (tb za), za, by omega, by omega, rfl⟩) (Nat.le_of_ble_eq_true rfl) (Nat.le_of_ble_eq_true rfl) dX6_step_191
                  · have c_12 : ¬ (57 < tb za) := fun h => c_12 ((nlt 57 (tb za) (by omega) (by omega)).mpr h)
                    refine lv_aload_n hx hb dX6_step_169 rfl (lv_at hl 2 rfl) ?_
                    refine sk_Vv (q0 := 0) (n := 0) (rest := []) (wr := []) ⟨hx, hb, hml, hown, hts⟩ hl.1 (c_rd_readNumber l D cI cJ cC cZ cS q za xv xo xt za xf xp tl tb (by omega) (by omega) (by omega) htb) w_3_42 w_3_44 w_0_3 w_1_4 w_3_45 (by decide +kernel) ⟨⟨(Nat.le_of_ble_eq_true rfl), (Nat.le_of_ble_eq_true rfl)⟩, (Nat.le_of_ble_eq_true rfl), (Nat.le_of_ble_eq_true rfl)⟩ hK hP hD hS hA [0, 1, 2] [] rfl rfl (by decide +kernel) (by decide +kernel) (by decide +kernel) rfl rfl rfl rfl (Nat.le_of_ble_eq_true rfl) dX6_step_170 (fun u H locs hw hP hD hS => ?_)
                    obtain ⟨xa2_13, xv2_14, hxa2_15, rfl⟩ := hw
                    have hP : va_P D vwCl [(q 2, .inr (6, [.ref (q 0), .int (nI xa2_13), .int xv2_14, .int (nI xo), .int (-3), .int (nI za), .int xf, .int xp])), (q 0, .inr (10, [.ref (q 20), .int (nI tl)])), (q 20, .inl (cI, 1600, .inl (fun j => nI (tb j))))] H := hP
                    have hD : va_D A [(q 2, .inr (6, [.ref (q 0), .int (nI xa2_13), .int xv2_14, .int (nI xo), .int (-3), .int (nI za), .int xf, .int xp])), (q 0, .inr (10, [.ref (q 20), .int (nI tl)])), (q 20, .inl (cI, 1600, .inl (fun j => nI (tb j))))] := hD
                    refine lv_goto (tgt := 192) hx hb dX6_step_173 (by decide) ?_
                    exact jn_6 xa2_13 xv2_14 (-3) za _ _ _ (by omega) (by omega) hP hD hS (lv_sub hl [1, 2] rfl)
              · have c_10 : ¬ (tb za < 97) := fun h => c_10 ((nlt (tb za) 97 (by omega) (by omega)).mpr h)
                refine lv_iload_n hx hb dX6_step_144 rfl (lv_at hl 0 rfl) ?_
                refine lv_bipush (v := 122) hx hb dX6_step_145 (by decide) ?_
                refine lv_icmp_gt (tgt := 157) hx hb dX6_step_147 (by decide) (fun c_16 => ?_) (fun c_16 => ?_)
                · have c_16 : 122 < tb za := (nlt 122 (tb za) (by omega) (by omega)).mp c_16
                  refine lv_iload_n hx hb dX6_step_157 rfl (lv_at hl 0 rfl) ?_
                  refine lv_bipush (v := 48) hx hb dX6_step_158 (by decide) ?_
                  refine lv_icmp_lt (tgt := 176) hx hb dX6_step_160 (by decide) (fun c_17 => ?_) (fun c_17 => ?_)
                  · have c_17 : tb za < 48 := (nlt (tb za) 48 (by omega) (by omega)).mp c_17
                    refine lv_aload_n hx hb dX6_step_176 rfl (lv_at hl 2 rfl) ?_
                    refine lv_dup hx hb dX6_step_177 rfl ?_
                    refine sk_get (v := .int (nI za)) (C := RX6) (T := TX6) (N := 8) hx hb hts inlX6 hown hK hP 0 rfl rfl 1 (by decide) w_1_57 rfl dX6_step_178 ?_
                    refine lv_iconst (v := 1) hx hb dX6_step_181 (by decide) ?_
                    refine lv_iadd hx hb dX6_step_182 ?_
                    refine sk_top (nI (za + 1)) (nI_add za 1) ?_
                    refine sk_put (ws' := [(q 2, .inr (6, [.ref (q 0), .int (nI (za + 1)), .int xv, .int (nI xo), .int xt, .int (nI za), .int xf, .int xp])), (q 0, .inr (10, [.ref (q 20), .int (nI tl)])), (q 20, .inl (cI, 1600, .inl (fun j => nI (tb j))))]) (C := RX6) (T := TX6) (N := 8) (v := .int (nI (za + 1))) hx hb hts inlX6 tyX6 tyX6_ok nmX6 hown hK hP hD hS 0 rfl rfl 1 (by decide) w_1_57 rfl rfl rfl (Nat.le_of_ble_eq_true rfl) rfl dX6_step_183 (fun H locs hP hD hS => ?_)
                    refine lv_aload_n hx hb dX6_step_186 rfl (lv_at hl 2 rfl) ?_
                    refine lv_iload_n hx hb dX6_step_187 rfl (lv_at hl 0 rfl) ?_
                    refine sk_put (ws' := [(q 2, .inr (6, [.ref (q 0), .int (nI (za + 1)), .int xv, .int (nI xo), .int (nI (tb za)), .int (nI za), .int xf, .int xp])), (q 0, .inr (10, [.ref (q 20), .int (nI tl)])), (q 20, .inl (cI, 1600, .inl (fun j => nI (tb j))))]) (C := RX6) (T := TX6) (N := 8) (v := .int (nI (tb za))) hx hb hts inlX6 tyX6 tyX6_ok nmX6 hown hK hP hD hS 0 rfl rfl 4 (by decide) w_1_60 rfl rfl rfl (Nat.le_of_ble_eq_true rfl) rfl dX6_step_188 (fun H locs hP hD hS => ?_)
                    exact sk_vret hx hb hr hlocks hK hP hD hS (⟨za + 1, xv, nI (tb za), za, by omega, by omega, rfl⟩) (Nat.le_of_ble_eq_true rfl) (Nat.le_of_ble_eq_true rfl) dX6_step_191
                  · have c_17 : ¬ (tb za < 48) := fun h => c_17 ((nlt (tb za) 48 (by omega) (by omega)).mpr h)
                    refine lv_iload_n hx hb dX6_step_163 rfl (lv_at hl 0 rfl) ?_
                    refine lv_bipush (v := 57) hx hb dX6_step_164 (by decide) ?_
                    refine lv_icmp_gt (tgt := 176) hx hb dX6_step_166 (by decide) (fun c_18 => ?_) (fun c_18 => ?_)
                    · have c_18 : 57 < tb za := (nlt 57 (tb za) (by omega) (by omega)).mp c_18
                      refine lv_aload_n hx hb dX6_step_176 rfl (lv_at hl 2 rfl) ?_
                      refine lv_dup hx hb dX6_step_177 rfl ?_
                      refine sk_get (v := .int (nI za)) (C := RX6) (T := TX6) (N := 8) hx hb hts inlX6 hown hK hP 0 rfl rfl 1 (by decide) w_1_57 rfl dX6_step_178 ?_
                      refine lv_iconst (v := 1) hx hb dX6_step_181 (by decide) ?_
                      refine lv_iadd hx hb dX6_step_182 ?_
                      refine sk_top (nI (za + 1)) (nI_add za 1) ?_
                      refine sk_put (ws' := [(q 2, .inr (6, [.ref (q 0), .int (nI (za + 1)), .int xv, .int (nI xo), .int xt, .int (nI za), .int xf, .int xp])), (q 0, .inr (10, [.ref (q 20), .int (nI tl)])), (q 20, .inl (cI, 1600, .inl (fun j => nI (tb j))))]) (C := RX6) (T := TX6) (N := 8) (v := .int (nI (za + 1))) hx hb hts inlX6 tyX6 tyX6_ok nmX6 hown hK hP hD hS 0 rfl rfl 1 (by decide) w_1_57 rfl rfl rfl (Nat.le_of_ble_eq_true rfl) rfl dX6_step_183 (fun H locs hP hD hS => ?_)
                      refine lv_aload_n hx hb dX6_step_186 rfl (lv_at hl 2 rfl) ?_
                      refine lv_iload_n hx hb dX6_step_187 rfl (lv_at hl 0 rfl) ?_
                      refine sk_put (ws' := [(q 2, .inr (6, [.ref (q 0), .int (nI (za + 1)), .int xv, .int (nI xo), .int (nI (tb za)), .int (nI za), .int xf, .int xp])), (q 0, .inr (10, [.ref (q 20), .int (nI tl)])), (q 20, .inl (cI, 1600, .inl (fun j => nI (tb j))))]) (C := RX6) (T := TX6) (N := 8) (v := .int (nI (tb za))) hx hb hts inlX6 tyX6 tyX6_ok nmX6 hown hK hP hD hS 0 rfl rfl 4 (by decide) w_1_60 rfl rfl rfl (Nat.le_of_ble_eq_true rfl) rfl dX6_step_188 (fun H locs hP hD hS => ?_)
                      exact sk_vret hx hb hr hlocks hK hP hD hS (⟨za + 1, xv, nI (tb za), za, by omega, by omega, rfl⟩) (Nat.le_of_ble_eq_true rfl) (Nat.le_of_ble_eq_true rfl) dX6_step_191
                    · have c_18 : ¬ (57 < tb za) := fun h => c_18 ((nlt 57 (tb za) (by omega) (by omega)).mpr h)
                      refine lv_aload_n hx hb dX6_step_169 rfl (lv_at hl 2 rfl) ?_
                      refine sk_Vv (q0 := 0) (n := 0) (rest := []) (wr := []) ⟨hx, hb, hml, hown, hts⟩ hl.1 (c_rd_readNumber l D cI cJ cC cZ cS q za xv xo xt za xf xp tl tb (by omega) (by omega) (by omega) htb) w_3_42 w_3_44 w_0_3 w_1_4 w_3_45 (by decide +kernel) ⟨⟨(Nat.le_of_ble_eq_true rfl), (Nat.le_of_ble_eq_true rfl)⟩, (Nat.le_of_ble_eq_true rfl), (Nat.le_of_ble_eq_true rfl)⟩ hK hP hD hS hA [0, 1, 2] [] rfl rfl (by decide +kernel) (by decide +kernel) (by decide +kernel) rfl rfl rfl rfl (Nat.le_of_ble_eq_true rfl) dX6_step_170 (fun u H locs hw hP hD hS => ?_)
                      obtain ⟨xa2_19, xv2_20, hxa2_21, rfl⟩ := hw
                      have hP : va_P D vwCl [(q 2, .inr (6, [.ref (q 0), .int (nI xa2_19), .int xv2_20, .int (nI xo), .int (-3), .int (nI za), .int xf, .int xp])), (q 0, .inr (10, [.ref (q 20), .int (nI tl)])), (q 20, .inl (cI, 1600, .inl (fun j => nI (tb j))))] H := hP
                      have hD : va_D A [(q 2, .inr (6, [.ref (q 0), .int (nI xa2_19), .int xv2_20, .int (nI xo), .int (-3), .int (nI za), .int xf, .int xp])), (q 0, .inr (10, [.ref (q 20), .int (nI tl)])), (q 20, .inl (cI, 1600, .inl (fun j => nI (tb j))))] := hD
                      refine lv_goto (tgt := 192) hx hb dX6_step_173 (by decide) ?_
                      exact jn_6 xa2_19 xv2_20 (-3) za _ _ _ (by omega) (by omega) hP hD hS (lv_sub hl [1, 2] rfl)
                · have c_16 : ¬ (122 < tb za) := fun h => c_16 ((nlt 122 (tb za) (by omega) (by omega)).mpr h)
                  refine lv_aload_n hx hb dX6_step_150 rfl (lv_at hl 2 rfl) ?_
                  refine sk_VvZ (q0 := 0) (n := 0) (rest := []) (wr := []) ⟨hx, hb, hml, hown, hts⟩ hl.1 (c_rd_readWord l D cI cJ cC cZ cS zk zv zf q za xv xo xt za xf xp tl tb (by omega) (by omega) (by omega) htb) w_2_229 w_2_231 w_0_2 w_1_4 w_2_232 (by decide +kernel) ⟨⟨(Nat.le_of_ble_eq_true rfl), (Nat.le_of_ble_eq_true rfl)⟩, (Nat.le_of_ble_eq_true rfl), (Nat.le_of_ble_eq_true rfl)⟩ hK hP hD hS hZ hA [0, 1, 2] [] rfl rfl (by decide +kernel) (by decide +kernel) (by decide +kernel) rfl rfl rfl rfl (Nat.le_of_ble_eq_true rfl) dX6_step_151 (fun u H locs hw hP hD hS => ?_)
                  obtain ⟨xa2_22, xt2_23, hxa2_24, rfl⟩ := hw
                  have hP : va_P D vwCl [(q 2, .inr (6, [.ref (q 0), .int (nI xa2_22), .int xv, .int (nI xo), .int xt2_23, .int (nI za), .int xf, .int xp])), (q 0, .inr (10, [.ref (q 20), .int (nI tl)])), (q 20, .inl (cI, 1600, .inl (fun j => nI (tb j))))] H := hP
                  have hD : va_D A [(q 2, .inr (6, [.ref (q 0), .int (nI xa2_22), .int xv, .int (nI xo), .int xt2_23, .int (nI za), .int xf, .int xp])), (q 0, .inr (10, [.ref (q 20), .int (nI tl)])), (q 20, .inl (cI, 1600, .inl (fun j => nI (tb j))))] := hD
                  refine lv_goto (tgt := 192) hx hb dX6_step_154 (by decide) ?_
                  exact jn_6 xa2_22 xv xt2_23 za _ _ _ (by omega) (by omega) hP hD hS (lv_sub hl [1, 2] rfl)
            · have c_8 : ¬ (za < tl) := fun h => c_8 ((nlt za tl (by omega) (by omega)).mpr h)
              refine lv_aload_n hx hb dX6_step_119 rfl (lv_at hl 1 rfl) ?_
              refine lv_iconst (v := (-1)) hx hb dX6_step_120 (by decide) ?_
              refine sk_put (ws' := [(q 2, .inr (6, [.ref (q 0), .int (nI za), .int xv, .int (nI xo), .int (-1), .int (nI za), .int xf, .int xp])), (q 0, .inr (10, [.ref (q 20), .int (nI tl)])), (q 20, .inl (cI, 1600, .inl (fun j => nI (tb j))))]) (C := RX6) (T := TX6) (N := 8) (v := .int (-1)) hx hb hts inlX6 tyX6 tyX6_ok nmX6 hown hK hP hD hS 0 rfl rfl 4 (by decide) w_1_60 rfl rfl rfl (Nat.le_of_ble_eq_true rfl) rfl dX6_step_121 (fun H locs hP hD hS => ?_)
              exact sk_vret hx hb hr hlocks hK hP hD hS (⟨za, xv, (-1), za, by omega, by omega, rfl⟩) (Nat.le_of_ble_eq_true rfl) (Nat.le_of_ble_eq_true rfl) dX6_step_124
          · have c_5 : ¬ (tl ≤ za) := fun h => c_5 ((nle tl za (by omega) (by omega)).mpr h)
            refine lv_aload_n hx hb dX6_step_50 rfl (lv_at hl 1 rfl) ?_
            refine sk_get (v := .ref (q 0)) (C := RX6) (T := TX6) (N := 8) hx hb hts inlX6 hown hK hP 0 rfl rfl 0 (by decide) w_1_56 rfl dX6_step_51 ?_
            refine sk_get (v := .ref (q 20)) (C := RX10) (T := TX10) (N := 2) hx hb hts inlX10 hown hK hP 1 rfl rfl 0 (by decide) w_1_40 rfl dX6_step_54 ?_
            refine lv_aload_n hx hb dX6_step_57 rfl (lv_at hl 1 rfl) ?_
            refine sk_get (v := .int (nI za)) (C := RX6) (T := TX6) (N := 8) hx hb hts inlX6 hown hK hP 0 rfl rfl 1 (by decide) w_1_57 rfl dX6_step_58 ?_
            refine va_iald hx hb hK.1 hP 2 0 rfl rfl (vin za 1600 (by omega) (by omega)) dX6_step_61 ?_
            refine sk_top (nI (tb za)) (nrd tb za (by omega)) ?_
            have hb_25 := htb za
            refine lv_bipush (v := 32) hx hb dX6_step_62 (by decide) ?_
            refine lv_icmp_eq (tgt := 84) hx hb dX6_step_64 (by decide) (fun c_26 => ?_) (fun c_26 => ?_)
            · have c_26 : tb za = 32 := (neq (tb za) 32 (by omega) (by omega)).mp c_26
              refine lv_aload_n hx hb dX6_step_84 rfl (lv_at hl 1 rfl) ?_
              refine lv_dup hx hb dX6_step_85 rfl ?_
              refine sk_get (v := .int (nI za)) (C := RX6) (T := TX6) (N := 8) hx hb hts inlX6 hown hK hP 0 rfl rfl 1 (by decide) w_1_57 rfl dX6_step_86 ?_
              refine lv_iconst (v := 1) hx hb dX6_step_89 (by decide) ?_
              refine lv_iadd hx hb dX6_step_90 ?_
              refine sk_top (nI (za + 1)) (nI_add za 1) ?_
              refine sk_put (ws' := [(q 2, .inr (6, [.ref (q 0), .int (nI (za + 1)), .int xv, .int (nI xo), .int xt, .int (nI xz), .int xf, .int xp])), (q 0, .inr (10, [.ref (q 20), .int (nI tl)])), (q 20, .inl (cI, 1600, .inl (fun j => nI (tb j))))]) (C := RX6) (T := TX6) (N := 8) (v := .int (nI (za + 1))) hx hb hts inlX6 tyX6 tyX6_ok nmX6 hown hK hP hD hS 0 rfl rfl 1 (by decide) w_1_57 rfl rfl rfl (Nat.le_of_ble_eq_true rfl) rfl dX6_step_91 (fun H locs hP hD hS => ?_)
              refine lv_goto (tgt := 36) hx hb dX6_step_94 (by decide) ?_
              exact ih_lp_3 (za + 1) _ _ _ (by omega) (by omega) hP hD hS (lv_sub hl [0, 1] rfl)
            · have c_26 : ¬ (tb za = 32) := fun h => c_26 ((neq (tb za) 32 (by omega) (by omega)).mpr h)
              refine lv_aload_n hx hb dX6_step_67 rfl (lv_at hl 1 rfl) ?_
              refine sk_get (v := .ref (q 0)) (C := RX6) (T := TX6) (N := 8) hx hb hts inlX6 hown hK hP 0 rfl rfl 0 (by decide) w_1_56 rfl dX6_step_68 ?_
              refine sk_get (v := .ref (q 20)) (C := RX10) (T := TX10) (N := 2) hx hb hts inlX10 hown hK hP 1 rfl rfl 0 (by decide) w_1_40 rfl dX6_step_71 ?_
              refine lv_aload_n hx hb dX6_step_74 rfl (lv_at hl 1 rfl) ?_
              refine sk_get (v := .int (nI za)) (C := RX6) (T := TX6) (N := 8) hx hb hts inlX6 hown hK hP 0 rfl rfl 1 (by decide) w_1_57 rfl dX6_step_75 ?_
              refine va_iald hx hb hK.1 hP 2 0 rfl rfl (vin za 1600 (by omega) (by omega)) dX6_step_78 ?_
              refine sk_top (nI (tb za)) (nrd tb za (by omega)) ?_
              have hb_27 := htb za
              refine lv_bipush (v := 10) hx hb dX6_step_79 (by decide) ?_
              refine lv_icmp_ne (tgt := 97) hx hb dX6_step_81 (by decide) (fun c_28 => ?_) (fun c_28 => ?_)
              · have c_28 : ¬ (tb za = 10) := fun h => c_28 ((neq (tb za) 10 (by omega) (by omega)).mpr h)
                have jn_29 : ∀ (ya : Nat) (yv : Int32) (yk : Int32) (yz : Nat) (H : Heap) (locs : List Loc) (ls : Array Slot), (ya ≤ 1600) → (yz ≤ 1600) → va_P D vwCl [(q 2, .inr (6, [.ref (q 0), .int (nI ya), .int yv, .int (nI xo), .int yk, .int (nI yz), .int xf, .int xp])), (q 0, .inr (10, [.ref (q 20), .int (nI tl)])), (q 20, .inl (cI, 1600, .inl (fun j => nI (tb j))))] H → va_D A [(q 2, .inr (6, [.ref (q 0), .int (nI ya), .int yv, .int (nI xo), .int yk, .int (nI yz), .int xf, .int xp])), (q 0, .inr (10, [.ref (q 20), .int (nI tl)])), (q 20, .inl (cI, 1600, .inl (fun j => nI (tb j))))] → va_S A s.heap H locs → lv_has ls 3 [(1, .int bh), (0, .ref (q 2))] → W p l e { frames := 5, cells := 0, slots := 0, locals := 109 } s m ([.ref (q 2)] : List Value).toArray below meth c H locs 0 0 (MQ below (skV D (skT cI cJ cC cZ cS) (fun (u : va_W) => ∃ (xa2 : Nat), ∃ (xv2 : Int32), ∃ (xt2 : Int32), ∃ (xz2 : Nat), xa2 ≤ 1600 ∧ xz2 ≤ 1600 ∧ u = [(q 2, .inr (6, [.ref (q 0), .int (nI xa2), .int xv2, .int (nI xo), .int xt2, .int (nI xz2), .int xf, .int xp])), (q 0, .inr (10, [.ref (q 20), .int (nI tl)])), (q 20, .inl (cI, 1600, .inl (fun j => nI (tb j))))]) A) ([.ref (q 2)] : List Value).toArray s 0 0 A) (F0 m 192 ls []) := by
                  intro ya yv yk yz H locs ls hya hyz hP hD hS hl
                  refine lv_aload_n hx hb dX6_step_192 rfl (lv_at hl 1 rfl) ?_
                  refine sk_get (v := .int (nI yz)) (C := RX6) (T := TX6) (N := 8) hx hb hts inlX6 hown hK hP 0 rfl rfl 5 (by decide) w_1_64 rfl dX6_step_193 ?_
                  refine lv_iload_n hx hb dX6_step_196 rfl (lv_at hl 0 rfl) ?_
                  refine lv_icmp_ne (tgt := 206) hx hb dX6_step_197 (by decide) (fun c_30 => ?_) (fun c_30 => ?_)
                  · skip
                    exact sk_vret hx hb hr hlocks hK hP hD hS (⟨ya, yv, yk, yz, by omega, by omega, rfl⟩) (Nat.le_of_ble_eq_true rfl) (Nat.le_of_ble_eq_true rfl) dX6_step_206
                  · skip
                    refine lv_aload_n hx hb dX6_step_200 rfl (lv_at hl 1 rfl) ?_
                    refine lv_bipush (v := (-2)) hx hb dX6_step_201 (by decide) ?_
                    refine sk_put (ws' := [(q 2, .inr (6, [.ref (q 0), .int (nI ya), .int yv, .int (nI xo), .int (-2), .int (nI yz), .int xf, .int xp])), (q 0, .inr (10, [.ref (q 20), .int (nI tl)])), (q 20, .inl (cI, 1600, .inl (fun j => nI (tb j))))]) (C := RX6) (T := TX6) (N := 8) (v := .int (-2)) hx hb hts inlX6 tyX6 tyX6_ok nmX6 hown hK hP hD hS 0 rfl rfl 4 (by decide) w_1_60 rfl rfl rfl (Nat.le_of_ble_eq_true rfl) rfl dX6_step_203 (fun H locs hP hD hS => ?_)
                    exact sk_vret hx hb hr hlocks hK hP hD hS (⟨ya, yv, (-2), yz, by omega, by omega, rfl⟩) (Nat.le_of_ble_eq_true rfl) (Nat.le_of_ble_eq_true rfl) dX6_step_206
                refine lv_aload_n hx hb dX6_step_97 rfl (lv_at hl 1 rfl) ?_
                refine lv_aload_n hx hb dX6_step_98 rfl (lv_at hl 1 rfl) ?_
                refine sk_get (v := .int (nI za)) (C := RX6) (T := TX6) (N := 8) hx hb hts inlX6 hown hK hP 0 rfl rfl 1 (by decide) w_1_57 rfl dX6_step_99 ?_
                refine sk_put (ws' := [(q 2, .inr (6, [.ref (q 0), .int (nI za), .int xv, .int (nI xo), .int xt, .int (nI za), .int xf, .int xp])), (q 0, .inr (10, [.ref (q 20), .int (nI tl)])), (q 20, .inl (cI, 1600, .inl (fun j => nI (tb j))))]) (C := RX6) (T := TX6) (N := 8) (v := .int (nI za)) hx hb hts inlX6 tyX6 tyX6_ok nmX6 hown hK hP hD hS 0 rfl rfl 5 (by decide) w_1_64 rfl rfl rfl (Nat.le_of_ble_eq_true rfl) rfl dX6_step_102 (fun H locs hP hD hS => ?_)
                refine lv_aload_n hx hb dX6_step_105 rfl (lv_at hl 1 rfl) ?_
                refine sk_get (v := .int (nI za)) (C := RX6) (T := TX6) (N := 8) hx hb hts inlX6 hown hK hP 0 rfl rfl 1 (by decide) w_1_57 rfl dX6_step_106 ?_
                refine lv_aload_n hx hb dX6_step_109 rfl (lv_at hl 1 rfl) ?_
                refine sk_get (v := .ref (q 0)) (C := RX6) (T := TX6) (N := 8) hx hb hts inlX6 hown hK hP 0 rfl rfl 0 (by decide) w_1_56 rfl dX6_step_110 ?_
                refine sk_get (v := .int (nI tl)) (C := RX10) (T := TX10) (N := 2) hx hb hts inlX10 hown hK hP 1 rfl rfl 1 (by decide) w_1_43 rfl dX6_step_113 ?_
                refine lv_icmp_lt (tgt := 125) hx hb dX6_step_116 (by decide) (fun c_31 => ?_) (fun c_31 => ?_)
                · have c_31 : za < tl := (nlt za tl (by omega) (by omega)).mp c_31
                  refine lv_aload_n hx hb dX6_step_125 rfl (lv_at hl 1 rfl) ?_
                  refine sk_get (v := .ref (q 0)) (C := RX6) (T := TX6) (N := 8) hx hb hts inlX6 hown hK hP 0 rfl rfl 0 (by decide) w_1_56 rfl dX6_step_126 ?_
                  refine sk_get (v := .ref (q 20)) (C := RX10) (T := TX10) (N := 2) hx hb hts inlX10 hown hK hP 1 rfl rfl 0 (by decide) w_1_40 rfl dX6_step_129 ?_
                  refine lv_aload_n hx hb dX6_step_132 rfl (lv_at hl 1 rfl) ?_
                  refine sk_get (v := .int (nI za)) (C := RX6) (T := TX6) (N := 8) hx hb hts inlX6 hown hK hP 0 rfl rfl 1 (by decide) w_1_57 rfl dX6_step_133 ?_
                  refine va_iald hx hb hK.1 hP 2 0 rfl rfl (vin za 1600 (by omega) (by omega)) dX6_step_136 ?_
                  refine sk_top (nI (tb za)) (nrd tb za (by omega)) ?_
                  have hb_32 := htb za
                  refine lv_istore_n (lv' := [(2, .int (nI (tb za))), (1, .int bh), (0, .ref (q 2))]) hx hb dX6_step_137 rfl hl (by decide) rfl (fun ls hl => ?_)
                  refine lv_iload_n hx hb dX6_step_138 rfl (lv_at hl 0 rfl) ?_
                  refine lv_bipush (v := 97) hx hb dX6_step_139 (by decide) ?_
                  refine lv_icmp_lt (tgt := 157) hx hb dX6_step_141 (by decide) (fun c_33 => ?_) (fun c_33 => ?_)
                  · have c_33 : tb za < 97 := (nlt (tb za) 97 (by omega) (by omega)).mp c_33
                    refine lv_iload_n hx hb dX6_step_157 rfl (lv_at hl 0 rfl) ?_
                    refine lv_bipush (v := 48) hx hb dX6_step_158 (by decide) ?_
                    refine lv_icmp_lt (tgt := 176) hx hb dX6_step_160 (by decide) (fun c_34 => ?_) (fun c_34 => ?_)
                    · have c_34 : tb za < 48 := (nlt (tb za) 48 (by omega) (by omega)).mp c_34
                      refine lv_aload_n hx hb dX6_step_176 rfl (lv_at hl 2 rfl) ?_
                      refine lv_dup hx hb dX6_step_177 rfl ?_
                      refine sk_get (v := .int (nI za)) (C := RX6) (T := TX6) (N := 8) hx hb hts inlX6 hown hK hP 0 rfl rfl 1 (by decide) w_1_57 rfl dX6_step_178 ?_
                      refine lv_iconst (v := 1) hx hb dX6_step_181 (by decide) ?_
                      refine lv_iadd hx hb dX6_step_182 ?_
                      refine sk_top (nI (za + 1)) (nI_add za 1) ?_
                      refine sk_put (ws' := [(q 2, .inr (6, [.ref (q 0), .int (nI (za + 1)), .int xv, .int (nI xo), .int xt, .int (nI za), .int xf, .int xp])), (q 0, .inr (10, [.ref (q 20), .int (nI tl)])), (q 20, .inl (cI, 1600, .inl (fun j => nI (tb j))))]) (C := RX6) (T := TX6) (N := 8) (v := .int (nI (za + 1))) hx hb hts inlX6 tyX6 tyX6_ok nmX6 hown hK hP hD hS 0 rfl rfl 1 (by decide) w_1_57 rfl rfl rfl (Nat.le_of_ble_eq_true rfl) rfl dX6_step_183 (fun H locs hP hD hS => ?_)
                      refine lv_aload_n hx hb dX6_step_186 rfl (lv_at hl 2 rfl) ?_
                      refine lv_iload_n hx hb dX6_step_187 rfl (lv_at hl 0 rfl) ?_
                      refine sk_put (ws' := [(q 2, .inr (6, [.ref (q 0), .int (nI (za + 1)), .int xv, .int (nI xo), .int (nI (tb za)), .int (nI za), .int xf, .int xp])), (q 0, .inr (10, [.ref (q 20), .int (nI tl)])), (q 20, .inl (cI, 1600, .inl (fun j => nI (tb j))))]) (C := RX6) (T := TX6) (N := 8) (v := .int (nI (tb za))) hx hb hts inlX6 tyX6 tyX6_ok nmX6 hown hK hP hD hS 0 rfl rfl 4 (by decide) w_1_60 rfl rfl rfl (Nat.le_of_ble_eq_true rfl) rfl dX6_step_188 (fun H locs hP hD hS => ?_)
                      exact sk_vret hx hb hr hlocks hK hP hD hS (⟨za + 1, xv, nI (tb za), za, by omega, by omega, rfl⟩) (Nat.le_of_ble_eq_true rfl) (Nat.le_of_ble_eq_true rfl) dX6_step_191
                    · have c_34 : ¬ (tb za < 48) := fun h => c_34 ((nlt (tb za) 48 (by omega) (by omega)).mpr h)
                      refine lv_iload_n hx hb dX6_step_163 rfl (lv_at hl 0 rfl) ?_
                      refine lv_bipush (v := 57) hx hb dX6_step_164 (by decide) ?_
                      refine lv_icmp_gt (tgt := 176) hx hb dX6_step_166 (by decide) (fun c_35 => ?_) (fun c_35 => ?_)
                      · have c_35 : 57 < tb za := (nlt 57 (tb za) (by omega) (by omega)).mp c_35
                        refine lv_aload_n hx hb dX6_step_176 rfl (lv_at hl 2 rfl) ?_
                        refine lv_dup hx hb dX6_step_177 rfl ?_
                        refine sk_get (v := .int (nI za)) (C := RX6) (T := TX6) (N := 8) hx hb hts inlX6 hown hK hP 0 rfl rfl 1 (by decide) w_1_57 rfl dX6_step_178 ?_
                        refine lv_iconst (v := 1) hx hb dX6_step_181 (by decide) ?_
                        refine lv_iadd hx hb dX6_step_182 ?_
                        refine sk_top (nI (za + 1)) (nI_add za 1) ?_
                        refine sk_put (ws' := [(q 2, .inr (6, [.ref (q 0), .int (nI (za + 1)), .int xv, .int (nI xo), .int xt, .int (nI za), .int xf, .int xp])), (q 0, .inr (10, [.ref (q 20), .int (nI tl)])), (q 20, .inl (cI, 1600, .inl (fun j => nI (tb j))))]) (C := RX6) (T := TX6) (N := 8) (v := .int (nI (za + 1))) hx hb hts inlX6 tyX6 tyX6_ok nmX6 hown hK hP hD hS 0 rfl rfl 1 (by decide) w_1_57 rfl rfl rfl (Nat.le_of_ble_eq_true rfl) rfl dX6_step_183 (fun H locs hP hD hS => ?_)
                        refine lv_aload_n hx hb dX6_step_186 rfl (lv_at hl 2 rfl) ?_
                        refine lv_iload_n hx hb dX6_step_187 rfl (lv_at hl 0 rfl) ?_
                        refine sk_put (ws' := [(q 2, .inr (6, [.ref (q 0), .int (nI (za + 1)), .int xv, .int (nI xo), .int (nI (tb za)), .int (nI za), .int xf, .int xp])), (q 0, .inr (10, [.ref (q 20), .int (nI tl)])), (q 20, .inl (cI, 1600, .inl (fun j => nI (tb j))))]) (C := RX6) (T := TX6) (N := 8) (v := .int (nI (tb za))) hx hb hts inlX6 tyX6 tyX6_ok nmX6 hown hK hP hD hS 0 rfl rfl 4 (by decide) w_1_60 rfl rfl rfl (Nat.le_of_ble_eq_true rfl) rfl dX6_step_188 (fun H locs hP hD hS => ?_)
                        exact sk_vret hx hb hr hlocks hK hP hD hS (⟨za + 1, xv, nI (tb za), za, by omega, by omega, rfl⟩) (Nat.le_of_ble_eq_true rfl) (Nat.le_of_ble_eq_true rfl) dX6_step_191
                      · have c_35 : ¬ (57 < tb za) := fun h => c_35 ((nlt 57 (tb za) (by omega) (by omega)).mpr h)
                        refine lv_aload_n hx hb dX6_step_169 rfl (lv_at hl 2 rfl) ?_
                        refine sk_Vv (q0 := 0) (n := 0) (rest := []) (wr := []) ⟨hx, hb, hml, hown, hts⟩ hl.1 (c_rd_readNumber l D cI cJ cC cZ cS q za xv xo xt za xf xp tl tb (by omega) (by omega) (by omega) htb) w_3_42 w_3_44 w_0_3 w_1_4 w_3_45 (by decide +kernel) ⟨⟨(Nat.le_of_ble_eq_true rfl), (Nat.le_of_ble_eq_true rfl)⟩, (Nat.le_of_ble_eq_true rfl), (Nat.le_of_ble_eq_true rfl)⟩ hK hP hD hS hA [0, 1, 2] [] rfl rfl (by decide +kernel) (by decide +kernel) (by decide +kernel) rfl rfl rfl rfl (Nat.le_of_ble_eq_true rfl) dX6_step_170 (fun u H locs hw hP hD hS => ?_)
                        obtain ⟨xa2_36, xv2_37, hxa2_38, rfl⟩ := hw
                        have hP : va_P D vwCl [(q 2, .inr (6, [.ref (q 0), .int (nI xa2_36), .int xv2_37, .int (nI xo), .int (-3), .int (nI za), .int xf, .int xp])), (q 0, .inr (10, [.ref (q 20), .int (nI tl)])), (q 20, .inl (cI, 1600, .inl (fun j => nI (tb j))))] H := hP
                        have hD : va_D A [(q 2, .inr (6, [.ref (q 0), .int (nI xa2_36), .int xv2_37, .int (nI xo), .int (-3), .int (nI za), .int xf, .int xp])), (q 0, .inr (10, [.ref (q 20), .int (nI tl)])), (q 20, .inl (cI, 1600, .inl (fun j => nI (tb j))))] := hD
                        refine lv_goto (tgt := 192) hx hb dX6_step_173 (by decide) ?_
                        exact jn_29 xa2_36 xv2_37 (-3) za _ _ _ (by omega) (by omega) hP hD hS (lv_sub hl [1, 2] rfl)
                  · have c_33 : ¬ (tb za < 97) := fun h => c_33 ((nlt (tb za) 97 (by omega) (by omega)).mpr h)
                    refine lv_iload_n hx hb dX6_step_144 rfl (lv_at hl 0 rfl) ?_
                    refine lv_bipush (v := 122) hx hb dX6_step_145 (by decide) ?_
                    refine lv_icmp_gt (tgt := 157) hx hb dX6_step_147 (by decide) (fun c_39 => ?_) (fun c_39 => ?_)
                    · have c_39 : 122 < tb za := (nlt 122 (tb za) (by omega) (by omega)).mp c_39
                      refine lv_iload_n hx hb dX6_step_157 rfl (lv_at hl 0 rfl) ?_
                      refine lv_bipush (v := 48) hx hb dX6_step_158 (by decide) ?_
                      refine lv_icmp_lt (tgt := 176) hx hb dX6_step_160 (by decide) (fun c_40 => ?_) (fun c_40 => ?_)
                      · have c_40 : tb za < 48 := (nlt (tb za) 48 (by omega) (by omega)).mp c_40
                        refine lv_aload_n hx hb dX6_step_176 rfl (lv_at hl 2 rfl) ?_
                        refine lv_dup hx hb dX6_step_177 rfl ?_
                        refine sk_get (v := .int (nI za)) (C := RX6) (T := TX6) (N := 8) hx hb hts inlX6 hown hK hP 0 rfl rfl 1 (by decide) w_1_57 rfl dX6_step_178 ?_
                        refine lv_iconst (v := 1) hx hb dX6_step_181 (by decide) ?_
                        refine lv_iadd hx hb dX6_step_182 ?_
                        refine sk_top (nI (za + 1)) (nI_add za 1) ?_
                        refine sk_put (ws' := [(q 2, .inr (6, [.ref (q 0), .int (nI (za + 1)), .int xv, .int (nI xo), .int xt, .int (nI za), .int xf, .int xp])), (q 0, .inr (10, [.ref (q 20), .int (nI tl)])), (q 20, .inl (cI, 1600, .inl (fun j => nI (tb j))))]) (C := RX6) (T := TX6) (N := 8) (v := .int (nI (za + 1))) hx hb hts inlX6 tyX6 tyX6_ok nmX6 hown hK hP hD hS 0 rfl rfl 1 (by decide) w_1_57 rfl rfl rfl (Nat.le_of_ble_eq_true rfl) rfl dX6_step_183 (fun H locs hP hD hS => ?_)
                        refine lv_aload_n hx hb dX6_step_186 rfl (lv_at hl 2 rfl) ?_
                        refine lv_iload_n hx hb dX6_step_187 rfl (lv_at hl 0 rfl) ?_
                        refine sk_put (ws' := [(q 2, .inr (6, [.ref (q 0), .int (nI (za + 1)), .int xv, .int (nI xo), .int (nI (tb za)), .int (nI za), .int xf, .int xp])), (q 0, .inr (10, [.ref (q 20), .int (nI tl)])), (q 20, .inl (cI, 1600, .inl (fun j => nI (tb j))))]) (C := RX6) (T := TX6) (N := 8) (v := .int (nI (tb za))) hx hb hts inlX6 tyX6 tyX6_ok nmX6 hown hK hP hD hS 0 rfl rfl 4 (by decide) w_1_60 rfl rfl rfl (Nat.le_of_ble_eq_true rfl) rfl dX6_step_188 (fun H locs hP hD hS => ?_)
                        exact sk_vret hx hb hr hlocks hK hP hD hS (⟨za + 1, xv, nI (tb za), za, by omega, by omega, rfl⟩) (Nat.le_of_ble_eq_true rfl) (Nat.le_of_ble_eq_true rfl) dX6_step_191
                      · have c_40 : ¬ (tb za < 48) := fun h => c_40 ((nlt (tb za) 48 (by omega) (by omega)).mpr h)
                        refine lv_iload_n hx hb dX6_step_163 rfl (lv_at hl 0 rfl) ?_
                        refine lv_bipush (v := 57) hx hb dX6_step_164 (by decide) ?_
                        refine lv_icmp_gt (tgt := 176) hx hb dX6_step_166 (by decide) (fun c_41 => ?_) (fun c_41 => ?_)
                        · have c_41 : 57 < tb za := (nlt 57 (tb za) (by omega) (by omega)).mp c_41
                          refine lv_aload_n hx hb dX6_step_176 rfl (lv_at hl 2 rfl) ?_
                          refine lv_dup hx hb dX6_step_177 rfl ?_
                          refine sk_get (v := .int (nI za)) (C := RX6) (T := TX6) (N := 8) hx hb hts inlX6 hown hK hP 0 rfl rfl 1 (by decide) w_1_57 rfl dX6_step_178 ?_
                          refine lv_iconst (v := 1) hx hb dX6_step_181 (by decide) ?_
                          refine lv_iadd hx hb dX6_step_182 ?_
                          refine sk_top (nI (za + 1)) (nI_add za 1) ?_
                          refine sk_put (ws' := [(q 2, .inr (6, [.ref (q 0), .int (nI (za + 1)), .int xv, .int (nI xo), .int xt, .int (nI za), .int xf, .int xp])), (q 0, .inr (10, [.ref (q 20), .int (nI tl)])), (q 20, .inl (cI, 1600, .inl (fun j => nI (tb j))))]) (C := RX6) (T := TX6) (N := 8) (v := .int (nI (za + 1))) hx hb hts inlX6 tyX6 tyX6_ok nmX6 hown hK hP hD hS 0 rfl rfl 1 (by decide) w_1_57 rfl rfl rfl (Nat.le_of_ble_eq_true rfl) rfl dX6_step_183 (fun H locs hP hD hS => ?_)
                          refine lv_aload_n hx hb dX6_step_186 rfl (lv_at hl 2 rfl) ?_
                          refine lv_iload_n hx hb dX6_step_187 rfl (lv_at hl 0 rfl) ?_
                          refine sk_put (ws' := [(q 2, .inr (6, [.ref (q 0), .int (nI (za + 1)), .int xv, .int (nI xo), .int (nI (tb za)), .int (nI za), .int xf, .int xp])), (q 0, .inr (10, [.ref (q 20), .int (nI tl)])), (q 20, .inl (cI, 1600, .inl (fun j => nI (tb j))))]) (C := RX6) (T := TX6) (N := 8) (v := .int (nI (tb za))) hx hb hts inlX6 tyX6 tyX6_ok nmX6 hown hK hP hD hS 0 rfl rfl 4 (by decide) w_1_60 rfl rfl rfl (Nat.le_of_ble_eq_true rfl) rfl dX6_step_188 (fun H locs hP hD hS => ?_)
                          exact sk_vret hx hb hr hlocks hK hP hD hS (⟨za + 1, xv, nI (tb za), za, by omega, by omega, rfl⟩) (Nat.le_of_ble_eq_true rfl) (Nat.le_of_ble_eq_true rfl) dX6_step_191
                        · have c_41 : ¬ (57 < tb za) := fun h => c_41 ((nlt 57 (tb za) (by omega) (by omega)).mpr h)
                          refine lv_aload_n hx hb dX6_step_169 rfl (lv_at hl 2 rfl) ?_
                          refine sk_Vv (q0 := 0) (n := 0) (rest := []) (wr := []) ⟨hx, hb, hml, hown, hts⟩ hl.1 (c_rd_readNumber l D cI cJ cC cZ cS q za xv xo xt za xf xp tl tb (by omega) (by omega) (by omega) htb) w_3_42 w_3_44 w_0_3 w_1_4 w_3_45 (by decide +kernel) ⟨⟨(Nat.le_of_ble_eq_true rfl), (Nat.le_of_ble_eq_true rfl)⟩, (Nat.le_of_ble_eq_true rfl), (Nat.le_of_ble_eq_true rfl)⟩ hK hP hD hS hA [0, 1, 2] [] rfl rfl (by decide +kernel) (by decide +kernel) (by decide +kernel) rfl rfl rfl rfl (Nat.le_of_ble_eq_true rfl) dX6_step_170 (fun u H locs hw hP hD hS => ?_)
                          obtain ⟨xa2_42, xv2_43, hxa2_44, rfl⟩ := hw
                          have hP : va_P D vwCl [(q 2, .inr (6, [.ref (q 0), .int (nI xa2_42), .int xv2_43, .int (nI xo), .int (-3), .int (nI za), .int xf, .int xp])), (q 0, .inr (10, [.ref (q 20), .int (nI tl)])), (q 20, .inl (cI, 1600, .inl (fun j => nI (tb j))))] H := hP
                          have hD : va_D A [(q 2, .inr (6, [.ref (q 0), .int (nI xa2_42), .int xv2_43, .int (nI xo), .int (-3), .int (nI za), .int xf, .int xp])), (q 0, .inr (10, [.ref (q 20), .int (nI tl)])), (q 20, .inl (cI, 1600, .inl (fun j => nI (tb j))))] := hD
                          refine lv_goto (tgt := 192) hx hb dX6_step_173 (by decide) ?_
                          exact jn_29 xa2_42 xv2_43 (-3) za _ _ _ (by omega) (by omega) hP hD hS (lv_sub hl [1, 2] rfl)
                    · have c_39 : ¬ (122 < tb za) := fun h => c_39 ((nlt 122 (tb za) (by omega) (by omega)).mpr h)
                      refine lv_aload_n hx hb dX6_step_150 rfl (lv_at hl 2 rfl) ?_
                      refine sk_VvZ (q0 := 0) (n := 0) (rest := []) (wr := []) ⟨hx, hb, hml, hown, hts⟩ hl.1 (c_rd_readWord l D cI cJ cC cZ cS zk zv zf q za xv xo xt za xf xp tl tb (by omega) (by omega) (by omega) htb) w_2_229 w_2_231 w_0_2 w_1_4 w_2_232 (by decide +kernel) ⟨⟨(Nat.le_of_ble_eq_true rfl), (Nat.le_of_ble_eq_true rfl)⟩, (Nat.le_of_ble_eq_true rfl), (Nat.le_of_ble_eq_true rfl)⟩ hK hP hD hS hZ hA [0, 1, 2] [] rfl rfl (by decide +kernel) (by decide +kernel) (by decide +kernel) rfl rfl rfl rfl (Nat.le_of_ble_eq_true rfl) dX6_step_151 (fun u H locs hw hP hD hS => ?_)
                      obtain ⟨xa2_45, xt2_46, hxa2_47, rfl⟩ := hw
                      have hP : va_P D vwCl [(q 2, .inr (6, [.ref (q 0), .int (nI xa2_45), .int xv, .int (nI xo), .int xt2_46, .int (nI za), .int xf, .int xp])), (q 0, .inr (10, [.ref (q 20), .int (nI tl)])), (q 20, .inl (cI, 1600, .inl (fun j => nI (tb j))))] H := hP
                      have hD : va_D A [(q 2, .inr (6, [.ref (q 0), .int (nI xa2_45), .int xv, .int (nI xo), .int xt2_46, .int (nI za), .int xf, .int xp])), (q 0, .inr (10, [.ref (q 20), .int (nI tl)])), (q 20, .inl (cI, 1600, .inl (fun j => nI (tb j))))] := hD
                      refine lv_goto (tgt := 192) hx hb dX6_step_154 (by decide) ?_
                      exact jn_29 xa2_45 xv xt2_46 za _ _ _ (by omega) (by omega) hP hD hS (lv_sub hl [1, 2] rfl)
                · have c_31 : ¬ (za < tl) := fun h => c_31 ((nlt za tl (by omega) (by omega)).mpr h)
                  refine lv_aload_n hx hb dX6_step_119 rfl (lv_at hl 1 rfl) ?_
                  refine lv_iconst (v := (-1)) hx hb dX6_step_120 (by decide) ?_
                  refine sk_put (ws' := [(q 2, .inr (6, [.ref (q 0), .int (nI za), .int xv, .int (nI xo), .int (-1), .int (nI za), .int xf, .int xp])), (q 0, .inr (10, [.ref (q 20), .int (nI tl)])), (q 20, .inl (cI, 1600, .inl (fun j => nI (tb j))))]) (C := RX6) (T := TX6) (N := 8) (v := .int (-1)) hx hb hts inlX6 tyX6 tyX6_ok nmX6 hown hK hP hD hS 0 rfl rfl 4 (by decide) w_1_60 rfl rfl rfl (Nat.le_of_ble_eq_true rfl) rfl dX6_step_121 (fun H locs hP hD hS => ?_)
                  exact sk_vret hx hb hr hlocks hK hP hD hS (⟨za, xv, (-1), za, by omega, by omega, rfl⟩) (Nat.le_of_ble_eq_true rfl) (Nat.le_of_ble_eq_true rfl) dX6_step_124
              · have c_28 : tb za = 10 := (neq (tb za) 10 (by omega) (by omega)).mp c_28
                refine lv_aload_n hx hb dX6_step_84 rfl (lv_at hl 1 rfl) ?_
                refine lv_dup hx hb dX6_step_85 rfl ?_
                refine sk_get (v := .int (nI za)) (C := RX6) (T := TX6) (N := 8) hx hb hts inlX6 hown hK hP 0 rfl rfl 1 (by decide) w_1_57 rfl dX6_step_86 ?_
                refine lv_iconst (v := 1) hx hb dX6_step_89 (by decide) ?_
                refine lv_iadd hx hb dX6_step_90 ?_
                refine sk_top (nI (za + 1)) (nI_add za 1) ?_
                refine sk_put (ws' := [(q 2, .inr (6, [.ref (q 0), .int (nI (za + 1)), .int xv, .int (nI xo), .int xt, .int (nI xz), .int xf, .int xp])), (q 0, .inr (10, [.ref (q 20), .int (nI tl)])), (q 20, .inl (cI, 1600, .inl (fun j => nI (tb j))))]) (C := RX6) (T := TX6) (N := 8) (v := .int (nI (za + 1))) hx hb hts inlX6 tyX6 tyX6_ok nmX6 hown hK hP hD hS 0 rfl rfl 1 (by decide) w_1_57 rfl rfl rfl (Nat.le_of_ble_eq_true rfl) rfl dX6_step_91 (fun H locs hP hD hS => ?_)
                refine lv_goto (tgt := 36) hx hb dX6_step_94 (by decide) ?_
                exact ih_lp_3 (za + 1) _ _ _ (by omega) (by omega) hP hD hS (lv_sub hl [0, 1] rfl)
      exact lp_3 (tl - xa + 1) xa _ _ _ (Nat.lt_succ_self _) (by omega) hP hD hS (lv_sub hl [0, 1] rfl)
    refine lv_aload_n hx hb dX6_step_8 rfl (lv_at hl 0 rfl) ?_
    refine sk_get (v := .int xt) (C := RX6) (T := TX6) (N := 8) hx hb hts inlX6 hown hK hP 0 rfl rfl 4 (by decide) w_1_60 rfl dX6_step_9 ?_
    refine lv_bipush (v := (-3)) hx hb dX6_step_12 (by decide) ?_
    refine lv_icmp_eq (tgt := 27) hx hb dX6_step_14 (by decide) (fun c_48 => ?_) (fun c_48 => ?_)
    · skip
      refine lv_aload_n hx hb dX6_step_27 rfl (lv_at hl 0 rfl) ?_
      refine sk_get (v := .int (nI xa)) (C := RX6) (T := TX6) (N := 8) hx hb hts inlX6 hown hK hP 0 rfl rfl 1 (by decide) w_1_57 rfl dX6_step_28 ?_
      refine lv_goto (tgt := 35) hx hb dX6_step_31 (by decide) ?_
      exact jn_2 (nI xa) _ _ _  hP hD hS (lv_sub hl [0] rfl)
    · skip
      refine lv_aload_n hx hb dX6_step_17 rfl (lv_at hl 0 rfl) ?_
      refine sk_get (v := .int xt) (C := RX6) (T := TX6) (N := 8) hx hb hts inlX6 hown hK hP 0 rfl rfl 4 (by decide) w_1_60 rfl dX6_step_18 ?_
      refine lv_sipush (v := 256) hx hb dX6_step_21 (by decide) ?_
      refine lv_icmp_lt (tgt := 34) hx hb dX6_step_24 (by decide) (fun c_49 => ?_) (fun c_49 => ?_)
      · skip
        refine lv_iconst (v := (-1)) hx hb dX6_step_34 (by decide) ?_
        exact jn_2 (-1) _ _ _  hP hD hS (lv_sub hl [0] rfl)
      · obtain ⟨k_50, hk_50, h1k_50, rfl⟩ := nofge xt 256 (by omega) c_49
        refine lv_aload_n hx hb dX6_step_27 rfl (lv_at hl 0 rfl) ?_
        refine sk_get (v := .int (nI xa)) (C := RX6) (T := TX6) (N := 8) hx hb hts inlX6 hown hK hP 0 rfl rfl 1 (by decide) w_1_57 rfl dX6_step_28 ?_
        refine lv_goto (tgt := 35) hx hb dX6_step_31 (by decide) ?_
        exact jn_2 (nI xa) _ _ _  hP hD hS (lv_sub hl [0] rfl)
  · skip
    exact sk_vret hx hb hr hlocks hK hP hD hS (⟨xa, xv, xt, xz, by omega, by omega, rfl⟩) (Nat.le_of_ble_eq_true rfl) (Nat.le_of_ble_eq_true rfl) dX6_step_7
