theorem dX6_begin_0 : decode cX6_begin 0 = .ok (.aload_n 0, 1) := by decide +kernel
theorem dX6_begin_1 : decode cX6_begin 1 = .ok (.iconst 0, 1) := by decide +kernel
theorem dX6_begin_2 : decode cX6_begin 2 = .ok (.putfield 9, 3) := by decide +kernel
theorem dX6_begin_5 : decode cX6_begin 5 = .ok (.aload_n 0, 1) := by decide +kernel
theorem dX6_begin_6 : decode cX6_begin 6 = .ok (.iconst 0, 1) := by decide +kernel
theorem dX6_begin_7 : decode cX6_begin 7 = .ok (.putfield 18, 3) := by decide +kernel
theorem dX6_begin_10 : decode cX6_begin 10 = .ok (.aload_n 0, 1) := by decide +kernel
theorem dX6_begin_11 : decode cX6_begin 11 = .ok (.iconst 0, 1) := by decide +kernel
theorem dX6_begin_12 : decode cX6_begin 12 = .ok (.putfield 27, 3) := by decide +kernel
theorem dX6_begin_15 : decode cX6_begin 15 = .ok (.aload_n 0, 1) := by decide +kernel
theorem dX6_begin_16 : decode cX6_begin 16 = .ok (.iconst (-1), 1) := by decide +kernel
theorem dX6_begin_17 : decode cX6_begin 17 = .ok (.putfield 30, 3) := by decide +kernel
theorem dX6_begin_20 : decode cX6_begin 20 = .ok (.aload_n 0, 1) := by decide +kernel
theorem dX6_begin_21 : decode cX6_begin 21 = .ok (.iconst (-1), 1) := by decide +kernel
theorem dX6_begin_22 : decode cX6_begin 22 = .ok (.putfield 21, 3) := by decide +kernel
theorem dX6_begin_25 : decode cX6_begin 25 = .ok (.aload_n 0, 1) := by decide +kernel
theorem dX6_begin_26 : decode cX6_begin 26 = .ok (.invokevirtual 37, 3) := by decide +kernel
theorem dX6_begin_29 : decode cX6_begin 29 = .ok (.return_, 1) := by decide +kernel
theorem w_1_59 : (Cond.fieldLink RX6 18 "SameKeeper$Reader" "open" "I") ∈ wsL_law := sk_mem (ck_1 _ (List.mem_of_getElem? (i := 59) rfl)) rfl
theorem w_2_225 : (Cond.methodLink RX6 37 yX6_step) ∈ wsL_law := sk_mem (ck_2 _ (List.mem_of_getElem? (i := 225) rfl)) rfl
theorem w_2_226 : (Cond.instanceMethod yX6_step) ∈ wsL_law := sk_mem (ck_2 _ (List.mem_of_getElem? (i := 226) rfl)) rfl
theorem w_2_227 : (Cond.selects RX6 yX6_step yX6_step) ∈ wsL_law := sk_mem (ck_2 _ (List.mem_of_getElem? (i := 227) rfl)) rfl
theorem w_2_224 : (Cond.code yX6_begin cX6_begin 1 none) ∈ wsL_law := sk_mem (ck_2 _ (List.mem_of_getElem? (i := 224) rfl)) rfl
set_option maxHeartbeats 4000000 in
set_option maxRecDepth 100000 in
theorem c_rd_begin (l : Launch) (D : va_G) (cI cJ cC cZ cS : ClassId) (zk zv : Nat) (zf : Value) (q : Nat → Nat) (xa : Nat) (xv : Int32) (xo : Nat) (xt : Int32) (xz : Nat) (xf : Int32) (xp : Int32) (tl : Nat) (tb : Nat → Nat) (hxa : xa ≤ 1600) (hxz : xz ≤ 1600) (htl : tl ≤ 1600) (htb : ∀ j, tb j ≤ 255) : skMZ zk zv zf l yX6_begin cX6_begin 1 none 6 131 0 0 D (skT cI cJ cC cZ cS) [.ref (q 2)] [(q 2, .inr (6, [.ref (q 0), .int (nI xa), .int xv, .int (nI xo), .int xt, .int (nI xz), .int xf, .int xp])), (q 0, .inr (10, [.ref (q 20), .int (nI tl)])), (q 20, .inl (cI, 1600, .inl (fun j => nI (tb j))))] (skV D (skT cI cJ cC cZ cS) (fun (u : va_W) => ∃ (xa2 : Nat), ∃ (xv2 : Int32), ∃ (xt2 : Int32), ∃ (xz2 : Nat), xa2 ≤ 1600 ∧ xz2 ≤ 1600 ∧ u = [(q 2, .inr (6, [.ref (q 0), .int (nI xa2), .int xv2, .int 0, .int xt2, .int (nI xz2), .int 0, .int (-1)])), (q 0, .inr (10, [.ref (q 20), .int (nI tl)])), (q 20, .inl (cI, 1600, .inl (fun j => nI (tb j))))])) := by
  refine skMZ_of (by decide +kernel) (Nat.le_of_ble_eq_true rfl) ?_
  intro p e s m below meth c A ls E hP hD hZ hl
  obtain ⟨hx, hb, hr, hml, hlocks, hin, hown, hts, hK, hA⟩ := E
  have hown : s.vm.findClass RX6 = some m.cls := hown
  have hS : va_S A s.heap s.heap [] := va_S.rf
  have hl : lv_has ls 1 [(0, .ref (q 2))] := hl
  refine lv_aload_n hx hb dX6_begin_0 rfl (lv_at hl 0 rfl) ?_
  refine lv_iconst (v := 0) hx hb dX6_begin_1 (by decide) ?_
  refine sk_put (ws' := [(q 2, .inr (6, [.ref (q 0), .int 0, .int xv, .int (nI xo), .int xt, .int (nI xz), .int xf, .int xp])), (q 0, .inr (10, [.ref (q 20), .int (nI tl)])), (q 20, .inl (cI, 1600, .inl (fun j => nI (tb j))))]) (C := RX6) (T := TX6) (N := 8) (v := .int 0) hx hb hts inlX6 tyX6 tyX6_ok nmX6 hown hK hP hD hS 0 rfl rfl 1 (by decide) w_1_57 rfl rfl rfl (Nat.le_of_ble_eq_true rfl) rfl dX6_begin_2 (fun H locs hP hD hS => ?_)
  refine lv_aload_n hx hb dX6_begin_5 rfl (lv_at hl 0 rfl) ?_
  refine lv_iconst (v := 0) hx hb dX6_begin_6 (by decide) ?_
  refine sk_put (ws' := [(q 2, .inr (6, [.ref (q 0), .int 0, .int xv, .int 0, .int xt, .int (nI xz), .int xf, .int xp])), (q 0, .inr (10, [.ref (q 20), .int (nI tl)])), (q 20, .inl (cI, 1600, .inl (fun j => nI (tb j))))]) (C := RX6) (T := TX6) (N := 8) (v := .int 0) hx hb hts inlX6 tyX6 tyX6_ok nmX6 hown hK hP hD hS 0 rfl rfl 3 (by decide) w_1_59 rfl rfl rfl (Nat.le_of_ble_eq_true rfl) rfl dX6_begin_7 (fun H locs hP hD hS => ?_)
  refine lv_aload_n hx hb dX6_begin_10 rfl (lv_at hl 0 rfl) ?_
  refine lv_iconst (v := 0) hx hb dX6_begin_11 (by decide) ?_
  refine sk_put (ws' := [(q 2, .inr (6, [.ref (q 0), .int 0, .int xv, .int 0, .int xt, .int (nI xz), .int 0, .int xp])), (q 0, .inr (10, [.ref (q 20), .int (nI tl)])), (q 20, .inl (cI, 1600, .inl (fun j => nI (tb j))))]) (C := RX6) (T := TX6) (N := 8) (v := .int 0) hx hb hts inlX6 tyX6 tyX6_ok nmX6 hown hK hP hD hS 0 rfl rfl 6 (by decide) w_1_66 rfl rfl rfl (Nat.le_of_ble_eq_true rfl) rfl dX6_begin_12 (fun H locs hP hD hS => ?_)
  refine lv_aload_n hx hb dX6_begin_15 rfl (lv_at hl 0 rfl) ?_
  refine lv_iconst (v := (-1)) hx hb dX6_begin_16 (by decide) ?_
  refine sk_put (ws' := [(q 2, .inr (6, [.ref (q 0), .int 0, .int xv, .int 0, .int xt, .int (nI xz), .int 0, .int (-1)])), (q 0, .inr (10, [.ref (q 20), .int (nI tl)])), (q 20, .inl (cI, 1600, .inl (fun j => nI (tb j))))]) (C := RX6) (T := TX6) (N := 8) (v := .int (-1)) hx hb hts inlX6 tyX6 tyX6_ok nmX6 hown hK hP hD hS 0 rfl rfl 7 (by decide) w_1_69 rfl rfl rfl (Nat.le_of_ble_eq_true rfl) rfl dX6_begin_17 (fun H locs hP hD hS => ?_)
  refine lv_aload_n hx hb dX6_begin_20 rfl (lv_at hl 0 rfl) ?_
  refine lv_iconst (v := (-1)) hx hb dX6_begin_21 (by decide) ?_
  refine sk_put (ws' := [(q 2, .inr (6, [.ref (q 0), .int 0, .int xv, .int 0, .int (-1), .int (nI xz), .int 0, .int (-1)])), (q 0, .inr (10, [.ref (q 20), .int (nI tl)])), (q 20, .inl (cI, 1600, .inl (fun j => nI (tb j))))]) (C := RX6) (T := TX6) (N := 8) (v := .int (-1)) hx hb hts inlX6 tyX6 tyX6_ok nmX6 hown hK hP hD hS 0 rfl rfl 4 (by decide) w_1_60 rfl rfl rfl (Nat.le_of_ble_eq_true rfl) rfl dX6_begin_22 (fun H locs hP hD hS => ?_)
  refine lv_aload_n hx hb dX6_begin_25 rfl (lv_at hl 0 rfl) ?_
  refine sk_VvZ (q0 := 0) (n := 0) (rest := []) (wr := []) ⟨hx, hb, hml, hown, hts⟩ hl.1 (c_rd_step l D cI cJ cC cZ cS zk zv zf q 0 xv 0 (-1) xz 0 (-1) tl tb (by omega) (by omega) (by omega) htb) w_2_225 w_2_226 w_2_227 w_1_4 w_2_228 (by decide +kernel) ⟨⟨(Nat.le_of_ble_eq_true rfl), (Nat.le_of_ble_eq_true rfl)⟩, (Nat.le_of_ble_eq_true rfl), (Nat.le_of_ble_eq_true rfl)⟩ hK hP hD hS hZ hA [0, 1, 2] [] rfl rfl (by decide +kernel) (by decide +kernel) (by decide +kernel) rfl rfl rfl rfl (Nat.le_of_ble_eq_true rfl) dX6_begin_26 (fun u H locs hw hP hD hS => ?_)
  obtain ⟨xa2_1, xv2_2, xt2_3, xz2_4, hxa2_5, hxz2_6, rfl⟩ := hw
  have hP : va_P D vwCl [(q 2, .inr (6, [.ref (q 0), .int (nI xa2_1), .int xv2_2, .int 0, .int xt2_3, .int (nI xz2_4), .int 0, .int (-1)])), (q 0, .inr (10, [.ref (q 20), .int (nI tl)])), (q 20, .inl (cI, 1600, .inl (fun j => nI (tb j))))] H := hP
  have hD : va_D A [(q 2, .inr (6, [.ref (q 0), .int (nI xa2_1), .int xv2_2, .int 0, .int xt2_3, .int (nI xz2_4), .int 0, .int (-1)])), (q 0, .inr (10, [.ref (q 20), .int (nI tl)])), (q 20, .inl (cI, 1600, .inl (fun j => nI (tb j))))] := hD
  exact sk_vret hx hb hr hlocks hK hP hD hS (⟨xa2_1, xv2_2, xt2_3, xz2_4, by omega, by omega, rfl⟩) (Nat.le_of_ble_eq_true rfl) (Nat.le_of_ble_eq_true rfl) dX6_begin_29
theorem dX6_needs_0 : decode cX6_needs 0 = .ok (.aload_n 0, 1) := by decide +kernel
theorem dX6_needs_1 : decode cX6_needs 1 = .ok (.getfield 21, 3) := by decide +kernel
theorem dX6_needs_4 : decode cX6_needs 4 = .ok (.iload_n 1, 1) := by decide +kernel
theorem dX6_needs_5 : decode cX6_needs 5 = .ok (.if_icmp .ne 10, 3) := by decide +kernel
theorem dX6_needs_15 : decode cX6_needs 15 = .ok (.aload_n 0, 1) := by decide +kernel
theorem dX6_needs_16 : decode cX6_needs 16 = .ok (.invokevirtual 70, 3) := by decide +kernel
theorem dX6_needs_19 : decode cX6_needs 19 = .ok (.return_, 1) := by decide +kernel
theorem dX6_needs_8 : decode cX6_needs 8 = .ok (.aload_n 0, 1) := by decide +kernel
theorem dX6_needs_9 : decode cX6_needs 9 = .ok (.invokevirtual 37, 3) := by decide +kernel
theorem dX6_needs_12 : decode cX6_needs 12 = .ok (.goto 7, 3) := by decide +kernel
theorem w_3_54 : (Cond.methodLink RX6 70 yX6_failHere) ∈ wsL_law := sk_mem (ck_3 _ (List.mem_of_getElem? (i := 54) rfl)) rfl
theorem w_3_55 : (Cond.instanceMethod yX6_failHere) ∈ wsL_law := sk_mem (ck_3 _ (List.mem_of_getElem? (i := 55) rfl)) rfl
theorem w_3_56 : (Cond.selects RX6 yX6_failHere yX6_failHere) ∈ wsL_law := sk_mem (ck_3 _ (List.mem_of_getElem? (i := 56) rfl)) rfl
theorem w_3_53 : (Cond.code yX6_needs cX6_needs 2 none) ∈ wsL_law := sk_mem (ck_3 _ (List.mem_of_getElem? (i := 53) rfl)) rfl
set_option maxHeartbeats 4000000 in
set_option maxRecDepth 100000 in
theorem c_rd_needs (l : Launch) (D : va_G) (cI cJ cC cZ cS : ClassId) (zk zv : Nat) (zf : Value) (q : Nat → Nat) (xa : Nat) (xv : Int32) (xo : Nat) (xt : Int32) (xz : Nat) (xf : Int32) (xp : Int32) (tl : Nat) (tb : Nat → Nat) (w : Int32) (hxa : xa ≤ 1600) (hxz : xz ≤ 1600) (htl : tl ≤ 1600) (htb : ∀ j, tb j ≤ 255) : skMZ zk zv zf l yX6_needs cX6_needs 2 none 6 131 0 0 D (skT cI cJ cC cZ cS) [.ref (q 2), .int w] [(q 2, .inr (6, [.ref (q 0), .int (nI xa), .int xv, .int (nI xo), .int xt, .int (nI xz), .int xf, .int xp])), (q 0, .inr (10, [.ref (q 20), .int (nI tl)])), (q 20, .inl (cI, 1600, .inl (fun j => nI (tb j))))] (skV D (skT cI cJ cC cZ cS) (fun (u : va_W) => ∃ (xa2 : Nat), ∃ (xv2 : Int32), ∃ (xt2 : Int32), ∃ (xz2 : Nat), ∃ (xf2 : Int32), ∃ (xp2 : Int32), xa2 ≤ 1600 ∧ xz2 ≤ 1600 ∧ u = [(q 2, .inr (6, [.ref (q 0), .int (nI xa2), .int xv2, .int (nI xo), .int xt2, .int (nI xz2), .int xf2, .int xp2])), (q 0, .inr (10, [.ref (q 20), .int (nI tl)])), (q 20, .inl (cI, 1600, .inl (fun j => nI (tb j))))])) := by
  refine skMZ_of (by decide +kernel) (Nat.le_of_ble_eq_true rfl) ?_
  intro p e s m below meth c A ls E hP hD hZ hl
  obtain ⟨hx, hb, hr, hml, hlocks, hin, hown, hts, hK, hA⟩ := E
  have hown : s.vm.findClass RX6 = some m.cls := hown
  have hS : va_S A s.heap s.heap [] := va_S.rf
  have hl : lv_has ls 2 [(0, .ref (q 2)), (1, .int w)] := hl
  refine lv_aload_n hx hb dX6_needs_0 rfl (lv_at hl 0 rfl) ?_
  refine sk_get (v := .int xt) (C := RX6) (T := TX6) (N := 8) hx hb hts inlX6 hown hK hP 0 rfl rfl 4 (by decide) w_1_60 rfl dX6_needs_1 ?_
  refine lv_iload_n hx hb dX6_needs_4 rfl (lv_at hl 1 rfl) ?_
  refine lv_icmp_ne (tgt := 15) hx hb dX6_needs_5 (by decide) (fun c_1 => ?_) (fun c_1 => ?_)
  · skip
    refine lv_aload_n hx hb dX6_needs_15 rfl (lv_at hl 0 rfl) ?_
    refine sk_Vv (q0 := 0) (n := 0) (rest := []) (wr := [(q 0, .inr (10, [.ref (q 20), .int (nI tl)])), (q 20, .inl (cI, 1600, .inl (fun j => nI (tb j))))]) ⟨hx, hb, hml, hown, hts⟩ hl.1 (c_rd_failHere l D cI cJ cC cZ cS q xa xv xo xt xz xf xp) w_3_54 w_3_55 w_3_56 w_1_4 w_3_57 (by decide +kernel) ⟨⟨(Nat.le_of_ble_eq_true rfl), (Nat.le_of_ble_eq_true rfl)⟩, (Nat.le_of_ble_eq_true rfl), (Nat.le_of_ble_eq_true rfl)⟩ hK hP hD hS hA [0] [1, 2] rfl rfl (by decide +kernel) (by decide +kernel) (by decide +kernel) rfl rfl rfl rfl (Nat.le_of_ble_eq_true rfl) dX6_needs_16 (fun u H locs hw hP hD hS => ?_)
    obtain ⟨xf2_2, xp2_3, rfl⟩ := hw
    have hP : va_P D vwCl [(q 0, .inr (10, [.ref (q 20), .int (nI tl)])), (q 20, .inl (cI, 1600, .inl (fun j => nI (tb j)))), (q 2, .inr (6, [.ref (q 0), .int (nI xa), .int xv, .int (nI xo), .int (-2), .int (nI xz), .int xf2_2, .int xp2_3]))] H := hP
    have hD : va_D A [(q 0, .inr (10, [.ref (q 20), .int (nI tl)])), (q 20, .inl (cI, 1600, .inl (fun j => nI (tb j)))), (q 2, .inr (6, [.ref (q 0), .int (nI xa), .int xv, .int (nI xo), .int (-2), .int (nI xz), .int xf2_2, .int xp2_3]))] := hD
    have hP := hP.sub (ws' := [(q 2, .inr (6, [.ref (q 0), .int (nI xa), .int xv, .int (nI xo), .int (-2), .int (nI xz), .int xf2_2, .int xp2_3])), (q 0, .inr (10, [.ref (q 20), .int (nI tl)])), (q 20, .inl (cI, 1600, .inl (fun j => nI (tb j))))]) [2, 0, 1] rfl
    have hD := hD.sub (ws' := [(q 2, .inr (6, [.ref (q 0), .int (nI xa), .int xv, .int (nI xo), .int (-2), .int (nI xz), .int xf2_2, .int xp2_3])), (q 0, .inr (10, [.ref (q 20), .int (nI tl)])), (q 20, .inl (cI, 1600, .inl (fun j => nI (tb j))))]) [2, 0, 1] (by decide +kernel) rfl
    exact sk_vret hx hb hr hlocks hK hP hD hS (⟨xa, xv, (-2), xz, xf2_2, xp2_3, by omega, by omega, rfl⟩) (Nat.le_of_ble_eq_true rfl) (Nat.le_of_ble_eq_true rfl) dX6_needs_19
  · skip
    refine lv_aload_n hx hb dX6_needs_8 rfl (lv_at hl 0 rfl) ?_
    refine sk_VvZ (q0 := 0) (n := 0) (rest := []) (wr := []) ⟨hx, hb, hml, hown, hts⟩ hl.1 (c_rd_step l D cI cJ cC cZ cS zk zv zf q xa xv xo xt xz xf xp tl tb (by omega) (by omega) (by omega) htb) w_2_225 w_2_226 w_2_227 w_1_4 w_2_228 (by decide +kernel) ⟨⟨(Nat.le_of_ble_eq_true rfl), (Nat.le_of_ble_eq_true rfl)⟩, (Nat.le_of_ble_eq_true rfl), (Nat.le_of_ble_eq_true rfl)⟩ hK hP hD hS hZ hA [0, 1, 2] [] rfl rfl (by decide +kernel) (by decide +kernel) (by decide +kernel) rfl rfl rfl rfl (Nat.le_of_ble_eq_true rfl) dX6_needs_9 (fun u H locs hw hP hD hS => ?_)
    obtain ⟨xa2_4, xv2_5, xt2_6, xz2_7, hxa2_8, hxz2_9, rfl⟩ := hw
    have hP : va_P D vwCl [(q 2, .inr (6, [.ref (q 0), .int (nI xa2_4), .int xv2_5, .int (nI xo), .int xt2_6, .int (nI xz2_7), .int xf, .int xp])), (q 0, .inr (10, [.ref (q 20), .int (nI tl)])), (q 20, .inl (cI, 1600, .inl (fun j => nI (tb j))))] H := hP
    have hD : va_D A [(q 2, .inr (6, [.ref (q 0), .int (nI xa2_4), .int xv2_5, .int (nI xo), .int xt2_6, .int (nI xz2_7), .int xf, .int xp])), (q 0, .inr (10, [.ref (q 20), .int (nI tl)])), (q 20, .inl (cI, 1600, .inl (fun j => nI (tb j))))] := hD
    refine lv_goto (tgt := 19) hx hb dX6_needs_12 (by decide) ?_
    exact sk_vret hx hb hr hlocks hK hP hD hS (⟨xa2_4, xv2_5, xt2_6, xz2_7, xf, xp, by omega, by omega, rfl⟩) (Nat.le_of_ble_eq_true rfl) (Nat.le_of_ble_eq_true rfl) dX6_needs_19
theorem dX6_takes_0 : decode cX6_takes 0 = .ok (.aload_n 0, 1) := by decide +kernel
theorem dX6_takes_1 : decode cX6_takes 1 = .ok (.getfield 21, 3) := by decide +kernel
theorem dX6_takes_4 : decode cX6_takes 4 = .ok (.iload_n 1, 1) := by decide +kernel
theorem dX6_takes_5 : decode cX6_takes 5 = .ok (.if_icmp .eq 5, 3) := by decide +kernel
theorem dX6_takes_10 : decode cX6_takes 10 = .ok (.aload_n 0, 1) := by decide +kernel
theorem dX6_takes_11 : decode cX6_takes 11 = .ok (.invokevirtual 37, 3) := by decide +kernel
theorem dX6_takes_14 : decode cX6_takes 14 = .ok (.iconst 1, 1) := by decide +kernel
theorem dX6_takes_15 : decode cX6_takes 15 = .ok (.ireturn, 1) := by decide +kernel
theorem dX6_takes_8 : decode cX6_takes 8 = .ok (.iconst 0, 1) := by decide +kernel
theorem dX6_takes_9 : decode cX6_takes 9 = .ok (.ireturn, 1) := by decide +kernel
theorem w_5_89 : (Cond.code yX6_takes cX6_takes 2 (some .boolean)) ∈ wsL_law := sk_mem (ck_5 _ (List.mem_of_getElem? (i := 89) rfl)) rfl
set_option maxHeartbeats 4000000 in
set_option maxRecDepth 100000 in
theorem c_rd_takes (l : Launch) (D : va_G) (cI cJ cC cZ cS : ClassId) (zk zv : Nat) (zf : Value) (q : Nat → Nat) (xa : Nat) (xv : Int32) (xo : Nat) (xt : Int32) (xz : Nat) (xf : Int32) (xp : Int32) (tl : Nat) (tb : Nat → Nat) (w : Int32) (hxa : xa ≤ 1600) (hxz : xz ≤ 1600) (htl : tl ≤ 1600) (htb : ∀ j, tb j ≤ 255) : skMZ zk zv zf l yX6_takes cX6_takes 2 (some .boolean) 6 131 0 0 D (skT cI cJ cC cZ cS) [.ref (q 2), .int w] [(q 2, .inr (6, [.ref (q 0), .int (nI xa), .int xv, .int (nI xo), .int xt, .int (nI xz), .int xf, .int xp])), (q 0, .inr (10, [.ref (q 20), .int (nI tl)])), (q 20, .inl (cI, 1600, .inl (fun j => nI (tb j))))] (skI D (skT cI cJ cC cZ cS) (fun (r : Int32) (u : va_W) => ∃ (xa2 : Nat), ∃ (xv2 : Int32), ∃ (xt2 : Int32), ∃ (xz2 : Nat), ∃ (xf2 : Int32), ∃ (xp2 : Int32), ∃ (b : Nat), xa2 ≤ 1600 ∧ xz2 ≤ 1600 ∧ b ≤ 1 ∧ r = nI b ∧ u = [(q 2, .inr (6, [.ref (q 0), .int (nI xa2), .int xv2, .int (nI xo), .int xt2, .int (nI xz2), .int xf2, .int xp2])), (q 0, .inr (10, [.ref (q 20), .int (nI tl)])), (q 20, .inl (cI, 1600, .inl (fun j => nI (tb j))))])) := by
  refine skMZ_of (by decide +kernel) (Nat.le_of_ble_eq_true rfl) ?_
  intro p e s m below meth c A ls E hP hD hZ hl
  obtain ⟨hx, hb, hr, hml, hlocks, hin, hown, hts, hK, hA⟩ := E
  have hown : s.vm.findClass RX6 = some m.cls := hown
  have hS : va_S A s.heap s.heap [] := va_S.rf
  have hl : lv_has ls 2 [(0, .ref (q 2)), (1, .int w)] := hl
  refine lv_aload_n hx hb dX6_takes_0 rfl (lv_at hl 0 rfl) ?_
  refine sk_get (v := .int xt) (C := RX6) (T := TX6) (N := 8) hx hb hts inlX6 hown hK hP 0 rfl rfl 4 (by decide) w_1_60 rfl dX6_takes_1 ?_
  refine lv_iload_n hx hb dX6_takes_4 rfl (lv_at hl 1 rfl) ?_
  refine lv_icmp_eq (tgt := 10) hx hb dX6_takes_5 (by decide) (fun c_1 => ?_) (fun c_1 => ?_)
  · skip
    refine lv_aload_n hx hb dX6_takes_10 rfl (lv_at hl 0 rfl) ?_
    refine sk_VvZ (q0 := 0) (n := 0) (rest := []) (wr := []) ⟨hx, hb, hml, hown, hts⟩ hl.1 (c_rd_step l D cI cJ cC cZ cS zk zv zf q xa xv xo xt xz xf xp tl tb (by omega) (by omega) (by omega) htb) w_2_225 w_2_226 w_2_227 w_1_4 w_2_228 (by decide +kernel) ⟨⟨(Nat.le_of_ble_eq_true rfl), (Nat.le_of_ble_eq_true rfl)⟩, (Nat.le_of_ble_eq_true rfl), (Nat.le_of_ble_eq_true rfl)⟩ hK hP hD hS hZ hA [0, 1, 2] [] rfl rfl (by decide +kernel) (by decide +kernel) (by decide +kernel) rfl rfl rfl rfl (Nat.le_of_ble_eq_true rfl) dX6_takes_11 (fun u H locs hw hP hD hS => ?_)
    obtain ⟨xa2_2, xv2_3, xt2_4, xz2_5, hxa2_6, hxz2_7, rfl⟩ := hw
    have hP : va_P D vwCl [(q 2, .inr (6, [.ref (q 0), .int (nI xa2_2), .int xv2_3, .int (nI xo), .int xt2_4, .int (nI xz2_5), .int xf, .int xp])), (q 0, .inr (10, [.ref (q 20), .int (nI tl)])), (q 20, .inl (cI, 1600, .inl (fun j => nI (tb j))))] H := hP
    have hD : va_D A [(q 2, .inr (6, [.ref (q 0), .int (nI xa2_2), .int xv2_3, .int (nI xo), .int xt2_4, .int (nI xz2_5), .int xf, .int xp])), (q 0, .inr (10, [.ref (q 20), .int (nI tl)])), (q 20, .inl (cI, 1600, .inl (fun j => nI (tb j))))] := hD
    refine lv_iconst (v := 1) hx hb dX6_takes_14 (by decide) ?_
    exact sk_iret hx hb hr rfl hlocks hK hP hD hS (⟨xa2_2, xv2_3, xt2_4, xz2_5, xf, xp, 1, by omega, by omega, by omega, rfl, rfl⟩) (Nat.le_of_ble_eq_true rfl) (Nat.le_of_ble_eq_true rfl) dX6_takes_15
  · skip
    refine lv_iconst (v := 0) hx hb dX6_takes_8 (by decide) ?_
    exact sk_iret hx hb hr rfl hlocks hK hP hD hS (⟨xa, xv, xt, xz, xf, xp, 0, by omega, by omega, by omega, rfl, rfl⟩) (Nat.le_of_ble_eq_true rfl) (Nat.le_of_ble_eq_true rfl) dX6_takes_9
theorem dX6_takeNumber_0 : decode cX6_takeNumber 0 = .ok (.aload_n 0, 1) := by decide +kernel
theorem dX6_takeNumber_1 : decode cX6_takeNumber 1 = .ok (.getfield 15, 3) := by decide +kernel
theorem dX6_takeNumber_4 : decode cX6_takeNumber 4 = .ok (.istore_n 3, 1) := by decide +kernel
theorem dX6_takeNumber_5 : decode cX6_takeNumber 5 = .ok (.aload_n 0, 1) := by decide +kernel
theorem dX6_takeNumber_6 : decode cX6_takeNumber 6 = .ok (.getfield 21, 3) := by decide +kernel
theorem dX6_takeNumber_9 : decode cX6_takeNumber 9 = .ok (.bipush (-3), 2) := by decide +kernel
theorem dX6_takeNumber_11 : decode cX6_takeNumber 11 = .ok (.if_icmp .eq 9, 3) := by decide +kernel
theorem dX6_takeNumber_20 : decode cX6_takeNumber 20 = .ok (.aload_n 0, 1) := by decide +kernel
theorem dX6_takeNumber_21 : decode cX6_takeNumber 21 = .ok (.getfield 9, 3) := by decide +kernel
theorem dX6_takeNumber_24 : decode cX6_takeNumber 24 = .ok (.aload_n 0, 1) := by decide +kernel
theorem dX6_takeNumber_25 : decode cX6_takeNumber 25 = .ok (.getfield 24, 3) := by decide +kernel
theorem dX6_takeNumber_28 : decode cX6_takeNumber 28 = .ok (.isub, 1) := by decide +kernel
theorem dX6_takeNumber_29 : decode cX6_takeNumber 29 = .ok (.iconst 4, 1) := by decide +kernel
theorem dX6_takeNumber_30 : decode cX6_takeNumber 30 = .ok (.if_icmp .le 16, 3) := by decide +kernel
theorem dX6_takeNumber_46 : decode cX6_takeNumber 46 = .ok (.iload_n 3, 1) := by decide +kernel
theorem dX6_takeNumber_47 : decode cX6_takeNumber 47 = .ok (.iload_n 1, 1) := by decide +kernel
theorem dX6_takeNumber_48 : decode cX6_takeNumber 48 = .ok (.if_icmp .lt 8, 3) := by decide +kernel
theorem dX6_takeNumber_56 : decode cX6_takeNumber 56 = .ok (.aload_n 0, 1) := by decide +kernel
theorem dX6_takeNumber_57 : decode cX6_takeNumber 57 = .ok (.iconst 2, 1) := by decide +kernel
theorem dX6_takeNumber_58 : decode cX6_takeNumber 58 = .ok (.aload_n 0, 1) := by decide +kernel
theorem dX6_takeNumber_59 : decode cX6_takeNumber 59 = .ok (.getfield 24, 3) := by decide +kernel
theorem dX6_takeNumber_62 : decode cX6_takeNumber 62 = .ok (.invokevirtual 40, 3) := by decide +kernel
theorem dX6_takeNumber_65 : decode cX6_takeNumber 65 = .ok (.iload_n 1, 1) := by decide +kernel
theorem dX6_takeNumber_66 : decode cX6_takeNumber 66 = .ok (.ireturn, 1) := by decide +kernel
theorem dX6_takeNumber_51 : decode cX6_takeNumber 51 = .ok (.iload_n 3, 1) := by decide +kernel
theorem dX6_takeNumber_52 : decode cX6_takeNumber 52 = .ok (.iload_n 2, 1) := by decide +kernel
theorem dX6_takeNumber_53 : decode cX6_takeNumber 53 = .ok (.if_icmp .le 14, 3) := by decide +kernel
theorem dX6_takeNumber_67 : decode cX6_takeNumber 67 = .ok (.aload_n 0, 1) := by decide +kernel
theorem dX6_takeNumber_68 : decode cX6_takeNumber 68 = .ok (.invokevirtual 37, 3) := by decide +kernel
theorem dX6_takeNumber_71 : decode cX6_takeNumber 71 = .ok (.iload_n 3, 1) := by decide +kernel
theorem dX6_takeNumber_72 : decode cX6_takeNumber 72 = .ok (.ireturn, 1) := by decide +kernel
theorem dX6_takeNumber_33 : decode cX6_takeNumber 33 = .ok (.aload_n 0, 1) := by decide +kernel
theorem dX6_takeNumber_34 : decode cX6_takeNumber 34 = .ok (.iconst 1, 1) := by decide +kernel
theorem dX6_takeNumber_35 : decode cX6_takeNumber 35 = .ok (.aload_n 0, 1) := by decide +kernel
theorem dX6_takeNumber_36 : decode cX6_takeNumber 36 = .ok (.getfield 24, 3) := by decide +kernel
theorem dX6_takeNumber_39 : decode cX6_takeNumber 39 = .ok (.iconst 4, 1) := by decide +kernel
theorem dX6_takeNumber_40 : decode cX6_takeNumber 40 = .ok (.iadd, 1) := by decide +kernel
theorem dX6_takeNumber_41 : decode cX6_takeNumber 41 = .ok (.invokevirtual 40, 3) := by decide +kernel
theorem dX6_takeNumber_44 : decode cX6_takeNumber 44 = .ok (.iload_n 1, 1) := by decide +kernel
theorem dX6_takeNumber_45 : decode cX6_takeNumber 45 = .ok (.ireturn, 1) := by decide +kernel
theorem dX6_takeNumber_14 : decode cX6_takeNumber 14 = .ok (.aload_n 0, 1) := by decide +kernel
theorem dX6_takeNumber_15 : decode cX6_takeNumber 15 = .ok (.invokevirtual 70, 3) := by decide +kernel
theorem dX6_takeNumber_18 : decode cX6_takeNumber 18 = .ok (.iload_n 1, 1) := by decide +kernel
theorem dX6_takeNumber_19 : decode cX6_takeNumber 19 = .ok (.ireturn, 1) := by decide +kernel
theorem w_3_65 : (Cond.code yX6_takeNumber cX6_takeNumber 4 (some .int)) ∈ wsL_law := sk_mem (ck_3 _ (List.mem_of_getElem? (i := 65) rfl)) rfl
set_option maxHeartbeats 4000000 in
set_option maxRecDepth 100000 in
theorem c_rd_takeNumber (l : Launch) (D : va_G) (cI cJ cC cZ cS : ClassId) (zk zv : Nat) (zf : Value) (q : Nat → Nat) (xa : Nat) (xv : Int32) (xo : Nat) (xt : Int32) (xz : Nat) (xf : Int32) (xp : Int32) (tl : Nat) (tb : Nat → Nat) (lo : Nat) (hi : Nat) (hxa : xa ≤ 1600) (hxz : xz ≤ 1600) (htl : tl ≤ 1600) (htb : ∀ j, tb j ≤ 255) (hlo : lo ≤ hi) (hhi : hi ≤ 9999) : skMZ zk zv zf l yX6_takeNumber cX6_takeNumber 4 (some .int) 6 131 0 0 D (skT cI cJ cC cZ cS) [.ref (q 2), .int (nI lo), .int (nI hi)] [(q 2, .inr (6, [.ref (q 0), .int (nI xa), .int xv, .int (nI xo), .int xt, .int (nI xz), .int xf, .int xp])), (q 0, .inr (10, [.ref (q 20), .int (nI tl)])), (q 20, .inl (cI, 1600, .inl (fun j => nI (tb j))))] (skI D (skT cI cJ cC cZ cS) (fun (r : Int32) (u : va_W) => ∃ (xa2 : Nat), ∃ (xv2 : Int32), ∃ (xt2 : Int32), ∃ (xz2 : Nat), ∃ (xf2 : Int32), ∃ (xp2 : Int32), ∃ (v : Nat), xa2 ≤ 1600 ∧ xz2 ≤ 1600 ∧ lo ≤ v ∧ v ≤ hi ∧ r = nI v ∧ u = [(q 2, .inr (6, [.ref (q 0), .int (nI xa2), .int xv2, .int (nI xo), .int xt2, .int (nI xz2), .int xf2, .int xp2])), (q 0, .inr (10, [.ref (q 20), .int (nI tl)])), (q 20, .inl (cI, 1600, .inl (fun j => nI (tb j))))])) := by
  refine skMZ_of (by decide +kernel) (Nat.le_of_ble_eq_true rfl) ?_
  intro p e s m below meth c A ls E hP hD hZ hl
  obtain ⟨hx, hb, hr, hml, hlocks, hin, hown, hts, hK, hA⟩ := E
  have hown : s.vm.findClass RX6 = some m.cls := hown
  have hS : va_S A s.heap s.heap [] := va_S.rf
  have hl : lv_has ls 4 [(0, .ref (q 2)), (1, .int (nI lo)), (2, .int (nI hi))] := hl
  refine lv_aload_n hx hb dX6_takeNumber_0 rfl (lv_at hl 0 rfl) ?_
  refine sk_get (v := .int xv) (C := RX6) (T := TX6) (N := 8) hx hb hts inlX6 hown hK hP 0 rfl rfl 2 (by decide) w_1_58 rfl dX6_takeNumber_1 ?_
  refine lv_istore_n (lv' := [(3, .int xv), (0, .ref (q 2)), (1, .int (nI lo)), (2, .int (nI hi))]) hx hb dX6_takeNumber_4 rfl hl (by decide) rfl (fun ls hl => ?_)
  refine lv_aload_n hx hb dX6_takeNumber_5 rfl (lv_at hl 1 rfl) ?_
  refine sk_get (v := .int xt) (C := RX6) (T := TX6) (N := 8) hx hb hts inlX6 hown hK hP 0 rfl rfl 4 (by decide) w_1_60 rfl dX6_takeNumber_6 ?_
  refine lv_bipush (v := (-3)) hx hb dX6_takeNumber_9 (by decide) ?_
  refine lv_icmp_eq (tgt := 20) hx hb dX6_takeNumber_11 (by decide) (fun c_1 => ?_) (fun c_1 => ?_)
  · skip
    refine lv_aload_n hx hb dX6_takeNumber_20 rfl (lv_at hl 1 rfl) ?_
    refine sk_get (v := .int (nI xa)) (C := RX6) (T := TX6) (N := 8) hx hb hts inlX6 hown hK hP 0 rfl rfl 1 (by decide) w_1_57 rfl dX6_takeNumber_21 ?_
    refine lv_aload_n hx hb dX6_takeNumber_24 rfl (lv_at hl 1 rfl) ?_
    refine sk_get (v := .int (nI xz)) (C := RX6) (T := TX6) (N := 8) hx hb hts inlX6 hown hK hP 0 rfl rfl 5 (by decide) w_1_64 rfl dX6_takeNumber_25 ?_
    refine lv_isub hx hb dX6_takeNumber_28 ?_
    refine lv_topi (fun v_2 ev_2 => ?_)
    refine lv_iconst (v := 4) hx hb dX6_takeNumber_29 (by decide) ?_
    refine lv_icmp_le (tgt := 46) hx hb dX6_takeNumber_30 (by decide) (fun c_3 => ?_) (fun c_3 => ?_)
    · skip
      refine lv_iload_n hx hb dX6_takeNumber_46 rfl (lv_at hl 0 rfl) ?_
      refine lv_iload_n hx hb dX6_takeNumber_47 rfl (lv_at hl 2 rfl) ?_
      refine lv_icmp_lt (tgt := 56) hx hb dX6_takeNumber_48 (by decide) (fun c_4 => ?_) (fun c_4 => ?_)
      · skip
        refine lv_aload_n hx hb dX6_takeNumber_56 rfl (lv_at hl 1 rfl) ?_
        refine lv_iconst (v := 2) hx hb dX6_takeNumber_57 (by decide) ?_
        refine lv_aload_n hx hb dX6_takeNumber_58 rfl (lv_at hl 1 rfl) ?_
        refine sk_get (v := .int (nI xz)) (C := RX6) (T := TX6) (N := 8) hx hb hts inlX6 hown hK hP 0 rfl rfl 5 (by decide) w_1_64 rfl dX6_takeNumber_59 ?_
        refine sk_Vv (q0 := 0) (n := 2) (rest := []) (wr := [(q 0, .inr (10, [.ref (q 20), .int (nI tl)])), (q 20, .inl (cI, 1600, .inl (fun j => nI (tb j))))]) ⟨hx, hb, hml, hown, hts⟩ hl.1 (c_rd_fail l D cI cJ cC cZ cS q xa xv xo xt xz xf xp 2 (nI xz)) w_3_58 w_3_59 w_3_60 w_1_4 w_3_61 (by decide +kernel) ⟨⟨(Nat.le_of_ble_eq_true rfl), (Nat.le_of_ble_eq_true rfl)⟩, (Nat.le_of_ble_eq_true rfl), (Nat.le_of_ble_eq_true rfl)⟩ hK hP hD hS hA [0] [1, 2] rfl rfl (by decide +kernel) (by decide +kernel) (by decide +kernel) rfl rfl rfl rfl (Nat.le_of_ble_eq_true rfl) dX6_takeNumber_62 (fun u H locs hw hP hD hS => ?_)
        obtain ⟨xf2_5, xp2_6, rfl⟩ := hw
        have hP : va_P D vwCl [(q 0, .inr (10, [.ref (q 20), .int (nI tl)])), (q 20, .inl (cI, 1600, .inl (fun j => nI (tb j)))), (q 2, .inr (6, [.ref (q 0), .int (nI xa), .int xv, .int (nI xo), .int (-2), .int (nI xz), .int xf2_5, .int xp2_6]))] H := hP
        have hD : va_D A [(q 0, .inr (10, [.ref (q 20), .int (nI tl)])), (q 20, .inl (cI, 1600, .inl (fun j => nI (tb j)))), (q 2, .inr (6, [.ref (q 0), .int (nI xa), .int xv, .int (nI xo), .int (-2), .int (nI xz), .int xf2_5, .int xp2_6]))] := hD
        refine lv_iload_n hx hb dX6_takeNumber_65 rfl (lv_at hl 2 rfl) ?_
        have hP := hP.sub (ws' := [(q 2, .inr (6, [.ref (q 0), .int (nI xa), .int xv, .int (nI xo), .int (-2), .int (nI xz), .int xf2_5, .int xp2_6])), (q 0, .inr (10, [.ref (q 20), .int (nI tl)])), (q 20, .inl (cI, 1600, .inl (fun j => nI (tb j))))]) [2, 0, 1] rfl
        have hD := hD.sub (ws' := [(q 2, .inr (6, [.ref (q 0), .int (nI xa), .int xv, .int (nI xo), .int (-2), .int (nI xz), .int xf2_5, .int xp2_6])), (q 0, .inr (10, [.ref (q 20), .int (nI tl)])), (q 20, .inl (cI, 1600, .inl (fun j => nI (tb j))))]) [2, 0, 1] (by decide +kernel) rfl
        exact sk_iret hx hb hr rfl hlocks hK hP hD hS (⟨xa, xv, (-2), xz, xf2_5, xp2_6, lo, by omega, by omega, by omega, by omega, rfl, rfl⟩) (Nat.le_of_ble_eq_true rfl) (Nat.le_of_ble_eq_true rfl) dX6_takeNumber_66
      · obtain ⟨k_7, hk_7, h1k_7, rfl⟩ := nofge xv lo (by omega) c_4
        refine lv_iload_n hx hb dX6_takeNumber_51 rfl (lv_at hl 0 rfl) ?_
        refine lv_iload_n hx hb dX6_takeNumber_52 rfl (lv_at hl 3 rfl) ?_
        refine lv_icmp_le (tgt := 67) hx hb dX6_takeNumber_53 (by decide) (fun c_8 => ?_) (fun c_8 => ?_)
        · have c_8 : k_7 ≤ hi := (nle k_7 hi (by omega) (by omega)).mp c_8
          refine lv_aload_n hx hb dX6_takeNumber_67 rfl (lv_at hl 1 rfl) ?_
          refine sk_VvZ (q0 := 0) (n := 0) (rest := []) (wr := []) ⟨hx, hb, hml, hown, hts⟩ hl.1 (c_rd_step l D cI cJ cC cZ cS zk zv zf q xa (nI k_7) xo xt xz xf xp tl tb (by omega) (by omega) (by omega) htb) w_2_225 w_2_226 w_2_227 w_1_4 w_2_228 (by decide +kernel) ⟨⟨(Nat.le_of_ble_eq_true rfl), (Nat.le_of_ble_eq_true rfl)⟩, (Nat.le_of_ble_eq_true rfl), (Nat.le_of_ble_eq_true rfl)⟩ hK hP hD hS hZ hA [0, 1, 2] [] rfl rfl (by decide +kernel) (by decide +kernel) (by decide +kernel) rfl rfl rfl rfl (Nat.le_of_ble_eq_true rfl) dX6_takeNumber_68 (fun u H locs hw hP hD hS => ?_)
          obtain ⟨xa2_9, xv2_10, xt2_11, xz2_12, hxa2_13, hxz2_14, rfl⟩ := hw
          have hP : va_P D vwCl [(q 2, .inr (6, [.ref (q 0), .int (nI xa2_9), .int xv2_10, .int (nI xo), .int xt2_11, .int (nI xz2_12), .int xf, .int xp])), (q 0, .inr (10, [.ref (q 20), .int (nI tl)])), (q 20, .inl (cI, 1600, .inl (fun j => nI (tb j))))] H := hP
          have hD : va_D A [(q 2, .inr (6, [.ref (q 0), .int (nI xa2_9), .int xv2_10, .int (nI xo), .int xt2_11, .int (nI xz2_12), .int xf, .int xp])), (q 0, .inr (10, [.ref (q 20), .int (nI tl)])), (q 20, .inl (cI, 1600, .inl (fun j => nI (tb j))))] := hD
          refine lv_iload_n hx hb dX6_takeNumber_71 rfl (lv_at hl 0 rfl) ?_
          exact sk_iret hx hb hr rfl hlocks hK hP hD hS (⟨xa2_9, xv2_10, xt2_11, xz2_12, xf, xp, k_7, by omega, by omega, by omega, by omega, rfl, rfl⟩) (Nat.le_of_ble_eq_true rfl) (Nat.le_of_ble_eq_true rfl) dX6_takeNumber_72
        · have c_8 : ¬ (k_7 ≤ hi) := fun h => c_8 ((nle k_7 hi (by omega) (by omega)).mpr h)
          refine lv_aload_n hx hb dX6_takeNumber_56 rfl (lv_at hl 1 rfl) ?_
          refine lv_iconst (v := 2) hx hb dX6_takeNumber_57 (by decide) ?_
          refine lv_aload_n hx hb dX6_takeNumber_58 rfl (lv_at hl 1 rfl) ?_
          refine sk_get (v := .int (nI xz)) (C := RX6) (T := TX6) (N := 8) hx hb hts inlX6 hown hK hP 0 rfl rfl 5 (by decide) w_1_64 rfl dX6_takeNumber_59 ?_
          refine sk_Vv (q0 := 0) (n := 2) (rest := []) (wr := [(q 0, .inr (10, [.ref (q 20), .int (nI tl)])), (q 20, .inl (cI, 1600, .inl (fun j => nI (tb j))))]) ⟨hx, hb, hml, hown, hts⟩ hl.1 (c_rd_fail l D cI cJ cC cZ cS q xa (nI k_7) xo xt xz xf xp 2 (nI xz)) w_3_58 w_3_59 w_3_60 w_1_4 w_3_61 (by decide +kernel) ⟨⟨(Nat.le_of_ble_eq_true rfl), (Nat.le_of_ble_eq_true rfl)⟩, (Nat.le_of_ble_eq_true rfl), (Nat.le_of_ble_eq_true rfl)⟩ hK hP hD hS hA [0] [1, 2] rfl rfl (by decide +kernel) (by decide +kernel) (by decide +kernel) rfl rfl rfl rfl (Nat.le_of_ble_eq_true rfl) dX6_takeNumber_62 (fun u H locs hw hP hD hS => ?_)
          obtain ⟨xf2_15, xp2_16, rfl⟩ := hw
          have hP : va_P D vwCl [(q 0, .inr (10, [.ref (q 20), .int (nI tl)])), (q 20, .inl (cI, 1600, .inl (fun j => nI (tb j)))), (q 2, .inr (6, [.ref (q 0), .int (nI xa), .int (nI k_7), .int (nI xo), .int (-2), .int (nI xz), .int xf2_15, .int xp2_16]))] H := hP
          have hD : va_D A [(q 0, .inr (10, [.ref (q 20), .int (nI tl)])), (q 20, .inl (cI, 1600, .inl (fun j => nI (tb j)))), (q 2, .inr (6, [.ref (q 0), .int (nI xa), .int (nI k_7), .int (nI xo), .int (-2), .int (nI xz), .int xf2_15, .int xp2_16]))] := hD
          refine lv_iload_n hx hb dX6_takeNumber_65 rfl (lv_at hl 2 rfl) ?_
          have hP := hP.sub (ws' := [(q 2, .inr (6, [.ref (q 0), .int (nI xa), .int (nI k_7), .int (nI xo), .int (-2), .int (nI xz), .int xf2_15, .int xp2_16])), (q 0, .inr (10, [.ref (q 20), .int (nI tl)])), (q 20, .inl (cI, 1600, .inl (fun j => nI (tb j))))]) [2, 0, 1] rfl
          have hD := hD.sub (ws' := [(q 2, .inr (6, [.ref (q 0), .int (nI xa), .int (nI k_7), .int (nI xo), .int (-2), .int (nI xz), .int xf2_15, .int xp2_16])), (q 0, .inr (10, [.ref (q 20), .int (nI tl)])), (q 20, .inl (cI, 1600, .inl (fun j => nI (tb j))))]) [2, 0, 1] (by decide +kernel) rfl
          exact sk_iret hx hb hr rfl hlocks hK hP hD hS (⟨xa, nI k_7, (-2), xz, xf2_15, xp2_16, lo, by omega, by omega, by omega, by omega, rfl, rfl⟩) (Nat.le_of_ble_eq_true rfl) (Nat.le_of_ble_eq_true rfl) dX6_takeNumber_66
    · skip
      refine lv_aload_n hx hb dX6_takeNumber_33 rfl (lv_at hl 1 rfl) ?_
      refine lv_iconst (v := 1) hx hb dX6_takeNumber_34 (by decide) ?_
      refine lv_aload_n hx hb dX6_takeNumber_35 rfl (lv_at hl 1 rfl) ?_
      refine sk_get (v := .int (nI xz)) (C := RX6) (T := TX6) (N := 8) hx hb hts inlX6 hown hK hP 0 rfl rfl 5 (by decide) w_1_64 rfl dX6_takeNumber_36 ?_
      refine lv_iconst (v := 4) hx hb dX6_takeNumber_39 (by decide) ?_
      refine lv_iadd hx hb dX6_takeNumber_40 ?_
      refine sk_top (nI (xz + 4)) (nI_add xz 4) ?_
      refine sk_Vv (q0 := 0) (n := 2) (rest := []) (wr := [(q 0, .inr (10, [.ref (q 20), .int (nI tl)])), (q 20, .inl (cI, 1600, .inl (fun j => nI (tb j))))]) ⟨hx, hb, hml, hown, hts⟩ hl.1 (c_rd_fail l D cI cJ cC cZ cS q xa xv xo xt xz xf xp 1 (nI (xz + 4))) w_3_58 w_3_59 w_3_60 w_1_4 w_3_61 (by decide +kernel) ⟨⟨(Nat.le_of_ble_eq_true rfl), (Nat.le_of_ble_eq_true rfl)⟩, (Nat.le_of_ble_eq_true rfl), (Nat.le_of_ble_eq_true rfl)⟩ hK hP hD hS hA [0] [1, 2] rfl rfl (by decide +kernel) (by decide +kernel) (by decide +kernel) rfl rfl rfl rfl (Nat.le_of_ble_eq_true rfl) dX6_takeNumber_41 (fun u H locs hw hP hD hS => ?_)
      obtain ⟨xf2_17, xp2_18, rfl⟩ := hw
      have hP : va_P D vwCl [(q 0, .inr (10, [.ref (q 20), .int (nI tl)])), (q 20, .inl (cI, 1600, .inl (fun j => nI (tb j)))), (q 2, .inr (6, [.ref (q 0), .int (nI xa), .int xv, .int (nI xo), .int (-2), .int (nI xz), .int xf2_17, .int xp2_18]))] H := hP
      have hD : va_D A [(q 0, .inr (10, [.ref (q 20), .int (nI tl)])), (q 20, .inl (cI, 1600, .inl (fun j => nI (tb j)))), (q 2, .inr (6, [.ref (q 0), .int (nI xa), .int xv, .int (nI xo), .int (-2), .int (nI xz), .int xf2_17, .int xp2_18]))] := hD
      refine lv_iload_n hx hb dX6_takeNumber_44 rfl (lv_at hl 2 rfl) ?_
      have hP := hP.sub (ws' := [(q 2, .inr (6, [.ref (q 0), .int (nI xa), .int xv, .int (nI xo), .int (-2), .int (nI xz), .int xf2_17, .int xp2_18])), (q 0, .inr (10, [.ref (q 20), .int (nI tl)])), (q 20, .inl (cI, 1600, .inl (fun j => nI (tb j))))]) [2, 0, 1] rfl
      have hD := hD.sub (ws' := [(q 2, .inr (6, [.ref (q 0), .int (nI xa), .int xv, .int (nI xo), .int (-2), .int (nI xz), .int xf2_17, .int xp2_18])), (q 0, .inr (10, [.ref (q 20), .int (nI tl)])), (q 20, .inl (cI, 1600, .inl (fun j => nI (tb j))))]) [2, 0, 1] (by decide +kernel) rfl
      exact sk_iret hx hb hr rfl hlocks hK hP hD hS (⟨xa, xv, (-2), xz, xf2_17, xp2_18, lo, by omega, by omega, by omega, by omega, rfl, rfl⟩) (Nat.le_of_ble_eq_true rfl) (Nat.le_of_ble_eq_true rfl) dX6_takeNumber_45
  · skip
    refine lv_aload_n hx hb dX6_takeNumber_14 rfl (lv_at hl 1 rfl) ?_
    refine sk_Vv (q0 := 0) (n := 0) (rest := []) (wr := [(q 0, .inr (10, [.ref (q 20), .int (nI tl)])), (q 20, .inl (cI, 1600, .inl (fun j => nI (tb j))))]) ⟨hx, hb, hml, hown, hts⟩ hl.1 (c_rd_failHere l D cI cJ cC cZ cS q xa xv xo xt xz xf xp) w_3_54 w_3_55 w_3_56 w_1_4 w_3_57 (by decide +kernel) ⟨⟨(Nat.le_of_ble_eq_true rfl), (Nat.le_of_ble_eq_true rfl)⟩, (Nat.le_of_ble_eq_true rfl), (Nat.le_of_ble_eq_true rfl)⟩ hK hP hD hS hA [0] [1, 2] rfl rfl (by decide +kernel) (by decide +kernel) (by decide +kernel) rfl rfl rfl rfl (Nat.le_of_ble_eq_true rfl) dX6_takeNumber_15 (fun u H locs hw hP hD hS => ?_)
    obtain ⟨xf2_19, xp2_20, rfl⟩ := hw
    have hP : va_P D vwCl [(q 0, .inr (10, [.ref (q 20), .int (nI tl)])), (q 20, .inl (cI, 1600, .inl (fun j => nI (tb j)))), (q 2, .inr (6, [.ref (q 0), .int (nI xa), .int xv, .int (nI xo), .int (-2), .int (nI xz), .int xf2_19, .int xp2_20]))] H := hP
    have hD : va_D A [(q 0, .inr (10, [.ref (q 20), .int (nI tl)])), (q 20, .inl (cI, 1600, .inl (fun j => nI (tb j)))), (q 2, .inr (6, [.ref (q 0), .int (nI xa), .int xv, .int (nI xo), .int (-2), .int (nI xz), .int xf2_19, .int xp2_20]))] := hD
    refine lv_iload_n hx hb dX6_takeNumber_18 rfl (lv_at hl 2 rfl) ?_
    have hP := hP.sub (ws' := [(q 2, .inr (6, [.ref (q 0), .int (nI xa), .int xv, .int (nI xo), .int (-2), .int (nI xz), .int xf2_19, .int xp2_20])), (q 0, .inr (10, [.ref (q 20), .int (nI tl)])), (q 20, .inl (cI, 1600, .inl (fun j => nI (tb j))))]) [2, 0, 1] rfl
    have hD := hD.sub (ws' := [(q 2, .inr (6, [.ref (q 0), .int (nI xa), .int xv, .int (nI xo), .int (-2), .int (nI xz), .int xf2_19, .int xp2_20])), (q 0, .inr (10, [.ref (q 20), .int (nI tl)])), (q 20, .inl (cI, 1600, .inl (fun j => nI (tb j))))]) [2, 0, 1] (by decide +kernel) rfl
    exact sk_iret hx hb hr rfl hlocks hK hP hD hS (⟨xa, xv, (-2), xz, xf2_19, xp2_20, lo, by omega, by omega, by omega, by omega, rfl, rfl⟩) (Nat.le_of_ble_eq_true rfl) (Nat.le_of_ble_eq_true rfl) dX6_takeNumber_19
theorem dX6_opens_0 : decode cX6_opens 0 = .ok (.aload_n 0, 1) := by decide +kernel
theorem dX6_opens_1 : decode cX6_opens 1 = .ok (.getfield 21, 3) := by decide +kernel
theorem dX6_opens_4 : decode cX6_opens 4 = .ok (.iload_n 1, 1) := by decide +kernel
theorem dX6_opens_5 : decode cX6_opens 5 = .ok (.if_icmp .eq 9, 3) := by decide +kernel
theorem dX6_opens_14 : decode cX6_opens 14 = .ok (.aload_n 0, 1) := by decide +kernel
theorem dX6_opens_15 : decode cX6_opens 15 = .ok (.getfield 18, 3) := by decide +kernel
theorem dX6_opens_18 : decode cX6_opens 18 = .ok (.bipush 6, 2) := by decide +kernel
theorem dX6_opens_20 : decode cX6_opens 20 = .ok (.if_icmp .lt 14, 3) := by decide +kernel
theorem dX6_opens_34 : decode cX6_opens 34 = .ok (.aload_n 0, 1) := by decide +kernel
theorem dX6_opens_35 : decode cX6_opens 35 = .ok (.dup, 1) := by decide +kernel
theorem dX6_opens_36 : decode cX6_opens 36 = .ok (.getfield 18, 3) := by decide +kernel
theorem dX6_opens_39 : decode cX6_opens 39 = .ok (.iconst 1, 1) := by decide +kernel
theorem dX6_opens_40 : decode cX6_opens 40 = .ok (.iadd, 1) := by decide +kernel
theorem dX6_opens_41 : decode cX6_opens 41 = .ok (.putfield 18, 3) := by decide +kernel
theorem dX6_opens_44 : decode cX6_opens 44 = .ok (.aload_n 0, 1) := by decide +kernel
theorem dX6_opens_45 : decode cX6_opens 45 = .ok (.invokevirtual 37, 3) := by decide +kernel
theorem dX6_opens_48 : decode cX6_opens 48 = .ok (.iconst 1, 1) := by decide +kernel
theorem dX6_opens_49 : decode cX6_opens 49 = .ok (.ireturn, 1) := by decide +kernel
theorem dX6_opens_23 : decode cX6_opens 23 = .ok (.aload_n 0, 1) := by decide +kernel
theorem dX6_opens_24 : decode cX6_opens 24 = .ok (.iconst 4, 1) := by decide +kernel
theorem dX6_opens_25 : decode cX6_opens 25 = .ok (.aload_n 0, 1) := by decide +kernel
theorem dX6_opens_26 : decode cX6_opens 26 = .ok (.getfield 24, 3) := by decide +kernel
theorem dX6_opens_29 : decode cX6_opens 29 = .ok (.invokevirtual 40, 3) := by decide +kernel
theorem dX6_opens_32 : decode cX6_opens 32 = .ok (.iconst 0, 1) := by decide +kernel
theorem dX6_opens_33 : decode cX6_opens 33 = .ok (.ireturn, 1) := by decide +kernel
theorem dX6_opens_8 : decode cX6_opens 8 = .ok (.aload_n 0, 1) := by decide +kernel
theorem dX6_opens_9 : decode cX6_opens 9 = .ok (.invokevirtual 70, 3) := by decide +kernel
theorem dX6_opens_12 : decode cX6_opens 12 = .ok (.iconst 0, 1) := by decide +kernel
theorem dX6_opens_13 : decode cX6_opens 13 = .ok (.ireturn, 1) := by decide +kernel
theorem w_3_104 : (Cond.code yX6_opens cX6_opens 2 (some .boolean)) ∈ wsL_law := sk_mem (ck_3 _ (List.mem_of_getElem? (i := 104) rfl)) rfl
set_option maxHeartbeats 4000000 in
set_option maxRecDepth 100000 in
theorem c_rd_opens (l : Launch) (D : va_G) (cI cJ cC cZ cS : ClassId) (zk zv : Nat) (zf : Value) (q : Nat → Nat) (xa : Nat) (xv : Int32) (xo : Nat) (xt : Int32) (xz : Nat) (xf : Int32) (xp : Int32) (tl : Nat) (tb : Nat → Nat) (w : Int32) (hxa : xa ≤ 1600) (hxz : xz ≤ 1600) (htl : tl ≤ 1600) (htb : ∀ j, tb j ≤ 255) (hxo : xo ≤ 6) : skMZ zk zv zf l yX6_opens cX6_opens 2 (some .boolean) 6 131 0 0 D (skT cI cJ cC cZ cS) [.ref (q 2), .int w] [(q 2, .inr (6, [.ref (q 0), .int (nI xa), .int xv, .int (nI xo), .int xt, .int (nI xz), .int xf, .int xp])), (q 0, .inr (10, [.ref (q 20), .int (nI tl)])), (q 20, .inl (cI, 1600, .inl (fun j => nI (tb j))))] (skI D (skT cI cJ cC cZ cS) (fun (r : Int32) (u : va_W) => ∃ (xa2 : Nat), ∃ (xv2 : Int32), ∃ (xt2 : Int32), ∃ (xz2 : Nat), ∃ (xf2 : Int32), ∃ (xp2 : Int32), ∃ (b : Nat), xa2 ≤ 1600 ∧ xz2 ≤ 1600 ∧ ((b = 1 ∧ xo + 1 ≤ 6) ∨ b = 0) ∧ r = nI b ∧ u = [(q 2, .inr (6, [.ref (q 0), .int (nI xa2), .int xv2, .int (nI (xo + b)), .int xt2, .int (nI xz2), .int xf2, .int xp2])), (q 0, .inr (10, [.ref (q 20), .int (nI tl)])), (q 20, .inl (cI, 1600, .inl (fun j => nI (tb j))))])) := by
  refine skMZ_of (by decide +kernel) (Nat.le_of_ble_eq_true rfl) ?_
  intro p e s m below meth c A ls E hP hD hZ hl
  obtain ⟨hx, hb, hr, hml, hlocks, hin, hown, hts, hK, hA⟩ := E
  have hown : s.vm.findClass RX6 = some m.cls := hown
  have hS : va_S A s.heap s.heap [] := va_S.rf
  have hl : lv_has ls 2 [(0, .ref (q 2)), (1, .int w)] := hl
  refine lv_aload_n hx hb dX6_opens_0 rfl (lv_at hl 0 rfl) ?_
  refine sk_get (v := .int xt) (C := RX6) (T := TX6) (N := 8) hx hb hts inlX6 hown hK hP 0 rfl rfl 4 (by decide) w_1_60 rfl dX6_opens_1 ?_
  refine lv_iload_n hx hb dX6_opens_4 rfl (lv_at hl 1 rfl) ?_
  refine lv_icmp_eq (tgt := 14) hx hb dX6_opens_5 (by decide) (fun c_1 => ?_) (fun c_1 => ?_)
  · skip
    refine lv_aload_n hx hb dX6_opens_14 rfl (lv_at hl 0 rfl) ?_
    refine sk_get (v := .int (nI xo)) (C := RX6) (T := TX6) (N := 8) hx hb hts inlX6 hown hK hP 0 rfl rfl 3 (by decide) w_1_59 rfl dX6_opens_15 ?_
    refine lv_bipush (v := 6) hx hb dX6_opens_18 (by decide) ?_
    refine lv_icmp_lt (tgt := 34) hx hb dX6_opens_20 (by decide) (fun c_2 => ?_) (fun c_2 => ?_)
    · have c_2 : xo < 6 := (nlt xo 6 (by omega) (by omega)).mp c_2
      refine lv_aload_n hx hb dX6_opens_34 rfl (lv_at hl 0 rfl) ?_
      refine lv_dup hx hb dX6_opens_35 rfl ?_
      refine sk_get (v := .int (nI xo)) (C := RX6) (T := TX6) (N := 8) hx hb hts inlX6 hown hK hP 0 rfl rfl 3 (by decide) w_1_59 rfl dX6_opens_36 ?_
      refine lv_iconst (v := 1) hx hb dX6_opens_39 (by decide) ?_
      refine lv_iadd hx hb dX6_opens_40 ?_
      refine sk_top (nI (xo + 1)) (nI_add xo 1) ?_
      refine sk_put (ws' := [(q 2, .inr (6, [.ref (q 0), .int (nI xa), .int xv, .int (nI (xo + 1)), .int xt, .int (nI xz), .int xf, .int xp])), (q 0, .inr (10, [.ref (q 20), .int (nI tl)])), (q 20, .inl (cI, 1600, .inl (fun j => nI (tb j))))]) (C := RX6) (T := TX6) (N := 8) (v := .int (nI (xo + 1))) hx hb hts inlX6 tyX6 tyX6_ok nmX6 hown hK hP hD hS 0 rfl rfl 3 (by decide) w_1_59 rfl rfl rfl (Nat.le_of_ble_eq_true rfl) rfl dX6_opens_41 (fun H locs hP hD hS => ?_)
      refine lv_aload_n hx hb dX6_opens_44 rfl (lv_at hl 0 rfl) ?_
      refine sk_VvZ (q0 := 0) (n := 0) (rest := []) (wr := []) ⟨hx, hb, hml, hown, hts⟩ hl.1 (c_rd_step l D cI cJ cC cZ cS zk zv zf q xa xv (xo + 1) xt xz xf xp tl tb (by omega) (by omega) (by omega) htb) w_2_225 w_2_226 w_2_227 w_1_4 w_2_228 (by decide +kernel) ⟨⟨(Nat.le_of_ble_eq_true rfl), (Nat.le_of_ble_eq_true rfl)⟩, (Nat.le_of_ble_eq_true rfl), (Nat.le_of_ble_eq_true rfl)⟩ hK hP hD hS hZ hA [0, 1, 2] [] rfl rfl (by decide +kernel) (by decide +kernel) (by decide +kernel) rfl rfl rfl rfl (Nat.le_of_ble_eq_true rfl) dX6_opens_45 (fun u H locs hw hP hD hS => ?_)
      obtain ⟨xa2_3, xv2_4, xt2_5, xz2_6, hxa2_7, hxz2_8, rfl⟩ := hw
      have hP : va_P D vwCl [(q 2, .inr (6, [.ref (q 0), .int (nI xa2_3), .int xv2_4, .int (nI (xo + 1)), .int xt2_5, .int (nI xz2_6), .int xf, .int xp])), (q 0, .inr (10, [.ref (q 20), .int (nI tl)])), (q 20, .inl (cI, 1600, .inl (fun j => nI (tb j))))] H := hP
      have hD : va_D A [(q 2, .inr (6, [.ref (q 0), .int (nI xa2_3), .int xv2_4, .int (nI (xo + 1)), .int xt2_5, .int (nI xz2_6), .int xf, .int xp])), (q 0, .inr (10, [.ref (q 20), .int (nI tl)])), (q 20, .inl (cI, 1600, .inl (fun j => nI (tb j))))] := hD
      refine lv_iconst (v := 1) hx hb dX6_opens_48 (by decide) ?_
      exact sk_iret hx hb hr rfl hlocks hK hP hD hS (⟨xa2_3, xv2_4, xt2_5, xz2_6, xf, xp, 1, by omega, by omega, by omega, rfl, rfl⟩) (Nat.le_of_ble_eq_true rfl) (Nat.le_of_ble_eq_true rfl) dX6_opens_49
    · have c_2 : ¬ (xo < 6) := fun h => c_2 ((nlt xo 6 (by omega) (by omega)).mpr h)
      refine lv_aload_n hx hb dX6_opens_23 rfl (lv_at hl 0 rfl) ?_
      refine lv_iconst (v := 4) hx hb dX6_opens_24 (by decide) ?_
      refine lv_aload_n hx hb dX6_opens_25 rfl (lv_at hl 0 rfl) ?_
      refine sk_get (v := .int (nI xz)) (C := RX6) (T := TX6) (N := 8) hx hb hts inlX6 hown hK hP 0 rfl rfl 5 (by decide) w_1_64 rfl dX6_opens_26 ?_
      refine sk_Vv (q0 := 0) (n := 2) (rest := []) (wr := [(q 0, .inr (10, [.ref (q 20), .int (nI tl)])), (q 20, .inl (cI, 1600, .inl (fun j => nI (tb j))))]) ⟨hx, hb, hml, hown, hts⟩ hl.1 (c_rd_fail l D cI cJ cC cZ cS q xa xv xo xt xz xf xp 4 (nI xz)) w_3_58 w_3_59 w_3_60 w_1_4 w_3_61 (by decide +kernel) ⟨⟨(Nat.le_of_ble_eq_true rfl), (Nat.le_of_ble_eq_true rfl)⟩, (Nat.le_of_ble_eq_true rfl), (Nat.le_of_ble_eq_true rfl)⟩ hK hP hD hS hA [0] [1, 2] rfl rfl (by decide +kernel) (by decide +kernel) (by decide +kernel) rfl rfl rfl rfl (Nat.le_of_ble_eq_true rfl) dX6_opens_29 (fun u H locs hw hP hD hS => ?_)
      obtain ⟨xf2_9, xp2_10, rfl⟩ := hw
      have hP : va_P D vwCl [(q 0, .inr (10, [.ref (q 20), .int (nI tl)])), (q 20, .inl (cI, 1600, .inl (fun j => nI (tb j)))), (q 2, .inr (6, [.ref (q 0), .int (nI xa), .int xv, .int (nI xo), .int (-2), .int (nI xz), .int xf2_9, .int xp2_10]))] H := hP
      have hD : va_D A [(q 0, .inr (10, [.ref (q 20), .int (nI tl)])), (q 20, .inl (cI, 1600, .inl (fun j => nI (tb j)))), (q 2, .inr (6, [.ref (q 0), .int (nI xa), .int xv, .int (nI xo), .int (-2), .int (nI xz), .int xf2_9, .int xp2_10]))] := hD
      refine lv_iconst (v := 0) hx hb dX6_opens_32 (by decide) ?_
      have hP := hP.sub (ws' := [(q 2, .inr (6, [.ref (q 0), .int (nI xa), .int xv, .int (nI xo), .int (-2), .int (nI xz), .int xf2_9, .int xp2_10])), (q 0, .inr (10, [.ref (q 20), .int (nI tl)])), (q 20, .inl (cI, 1600, .inl (fun j => nI (tb j))))]) [2, 0, 1] rfl
      have hD := hD.sub (ws' := [(q 2, .inr (6, [.ref (q 0), .int (nI xa), .int xv, .int (nI xo), .int (-2), .int (nI xz), .int xf2_9, .int xp2_10])), (q 0, .inr (10, [.ref (q 20), .int (nI tl)])), (q 20, .inl (cI, 1600, .inl (fun j => nI (tb j))))]) [2, 0, 1] (by decide +kernel) rfl
      exact sk_iret hx hb hr rfl hlocks hK hP hD hS (⟨xa, xv, (-2), xz, xf2_9, xp2_10, 0, by omega, by omega, by omega, rfl, rfl⟩) (Nat.le_of_ble_eq_true rfl) (Nat.le_of_ble_eq_true rfl) dX6_opens_33
  · skip
    refine lv_aload_n hx hb dX6_opens_8 rfl (lv_at hl 0 rfl) ?_
    refine sk_Vv (q0 := 0) (n := 0) (rest := []) (wr := [(q 0, .inr (10, [.ref (q 20), .int (nI tl)])), (q 20, .inl (cI, 1600, .inl (fun j => nI (tb j))))]) ⟨hx, hb, hml, hown, hts⟩ hl.1 (c_rd_failHere l D cI cJ cC cZ cS q xa xv xo xt xz xf xp) w_3_54 w_3_55 w_3_56 w_1_4 w_3_57 (by decide +kernel) ⟨⟨(Nat.le_of_ble_eq_true rfl), (Nat.le_of_ble_eq_true rfl)⟩, (Nat.le_of_ble_eq_true rfl), (Nat.le_of_ble_eq_true rfl)⟩ hK hP hD hS hA [0] [1, 2] rfl rfl (by decide +kernel) (by decide +kernel) (by decide +kernel) rfl rfl rfl rfl (Nat.le_of_ble_eq_true rfl) dX6_opens_9 (fun u H locs hw hP hD hS => ?_)
    obtain ⟨xf2_11, xp2_12, rfl⟩ := hw
    have hP : va_P D vwCl [(q 0, .inr (10, [.ref (q 20), .int (nI tl)])), (q 20, .inl (cI, 1600, .inl (fun j => nI (tb j)))), (q 2, .inr (6, [.ref (q 0), .int (nI xa), .int xv, .int (nI xo), .int (-2), .int (nI xz), .int xf2_11, .int xp2_12]))] H := hP
    have hD : va_D A [(q 0, .inr (10, [.ref (q 20), .int (nI tl)])), (q 20, .inl (cI, 1600, .inl (fun j => nI (tb j)))), (q 2, .inr (6, [.ref (q 0), .int (nI xa), .int xv, .int (nI xo), .int (-2), .int (nI xz), .int xf2_11, .int xp2_12]))] := hD
    refine lv_iconst (v := 0) hx hb dX6_opens_12 (by decide) ?_
    have hP := hP.sub (ws' := [(q 2, .inr (6, [.ref (q 0), .int (nI xa), .int xv, .int (nI xo), .int (-2), .int (nI xz), .int xf2_11, .int xp2_12])), (q 0, .inr (10, [.ref (q 20), .int (nI tl)])), (q 20, .inl (cI, 1600, .inl (fun j => nI (tb j))))]) [2, 0, 1] rfl
    have hD := hD.sub (ws' := [(q 2, .inr (6, [.ref (q 0), .int (nI xa), .int xv, .int (nI xo), .int (-2), .int (nI xz), .int xf2_11, .int xp2_12])), (q 0, .inr (10, [.ref (q 20), .int (nI tl)])), (q 20, .inl (cI, 1600, .inl (fun j => nI (tb j))))]) [2, 0, 1] (by decide +kernel) rfl
    exact sk_iret hx hb hr rfl hlocks hK hP hD hS (⟨xa, xv, (-2), xz, xf2_11, xp2_12, 0, by omega, by omega, by omega, rfl, rfl⟩) (Nat.le_of_ble_eq_true rfl) (Nat.le_of_ble_eq_true rfl) dX6_opens_13
theorem dX6_shuts_0 : decode cX6_shuts 0 = .ok (.aload_n 0, 1) := by decide +kernel
theorem dX6_shuts_1 : decode cX6_shuts 1 = .ok (.dup, 1) := by decide +kernel
theorem dX6_shuts_2 : decode cX6_shuts 2 = .ok (.getfield 18, 3) := by decide +kernel
theorem dX6_shuts_5 : decode cX6_shuts 5 = .ok (.iconst 1, 1) := by decide +kernel
theorem dX6_shuts_6 : decode cX6_shuts 6 = .ok (.isub, 1) := by decide +kernel
theorem dX6_shuts_7 : decode cX6_shuts 7 = .ok (.putfield 18, 3) := by decide +kernel
theorem dX6_shuts_10 : decode cX6_shuts 10 = .ok (.return_, 1) := by decide +kernel
theorem w_3_108 : (Cond.code yX6_shuts cX6_shuts 1 none) ∈ wsL_law := sk_mem (ck_3 _ (List.mem_of_getElem? (i := 108) rfl)) rfl
set_option maxHeartbeats 4000000 in
set_option maxRecDepth 100000 in
theorem c_rd_shuts (l : Launch) (D : va_G) (cI cJ cC cZ cS : ClassId) (q : Nat → Nat) (xa : Nat) (xv : Int32) (xo : Nat) (xt : Int32) (xz : Nat) (xf : Int32) (xp : Int32) (hxo : 1 ≤ xo) (hxo6 : xo ≤ 6) : skM l yX6_shuts cX6_shuts 1 none 0 0 0 0 D (skT cI cJ cC cZ cS) [.ref (q 2)] [(q 2, .inr (6, [.ref (q 0), .int (nI xa), .int xv, .int (nI xo), .int xt, .int (nI xz), .int xf, .int xp]))] (skV D (skT cI cJ cC cZ cS) (fun (u : va_W) => u = [(q 2, .inr (6, [.ref (q 0), .int (nI xa), .int xv, .int (nI (xo - 1)), .int xt, .int (nI xz), .int xf, .int xp]))])) := by
  refine skM_of (by decide +kernel) (Nat.le_of_ble_eq_true rfl) ?_
  intro p e s m below meth c A ls E hP hD hl
  obtain ⟨hx, hb, hr, hml, hlocks, hin, hown, hts, hK, hA⟩ := E
  have hown : s.vm.findClass RX6 = some m.cls := hown
  have hS : va_S A s.heap s.heap [] := va_S.rf
  have hl : lv_has ls 1 [(0, .ref (q 2))] := hl
  refine lv_aload_n hx hb dX6_shuts_0 rfl (lv_at hl 0 rfl) ?_
  refine lv_dup hx hb dX6_shuts_1 rfl ?_
  refine sk_get (v := .int (nI xo)) (C := RX6) (T := TX6) (N := 8) hx hb hts inlX6 hown hK hP 0 rfl rfl 3 (by decide) w_1_59 rfl dX6_shuts_2 ?_
  refine lv_iconst (v := 1) hx hb dX6_shuts_5 (by decide) ?_
  refine lv_isub hx hb dX6_shuts_6 ?_
  refine sk_top (nI (xo - 1)) (nsub xo 1 (by omega)) ?_
  refine sk_put (ws' := [(q 2, .inr (6, [.ref (q 0), .int (nI xa), .int xv, .int (nI (xo - 1)), .int xt, .int (nI xz), .int xf, .int xp]))]) (C := RX6) (T := TX6) (N := 8) (v := .int (nI (xo - 1))) hx hb hts inlX6 tyX6 tyX6_ok nmX6 hown hK hP hD hS 0 rfl rfl 3 (by decide) w_1_59 rfl rfl rfl (Nat.le_of_ble_eq_true rfl) rfl dX6_shuts_7 (fun H locs hP hD hS => ?_)
  exact sk_vret hx hb hr hlocks hK hP hD hS rfl (Nat.le_of_ble_eq_true rfl) (Nat.le_of_ble_eq_true rfl) dX6_shuts_10
