theorem dg_X11_pass_0_0 : bqL cX11_pass 0 [(0, [42]), (1, [180, 0, 89]), (4, [42]), (5, [180, 0, 59]), (8, [180, 0, 144]), (11, [4]), (12, [100]), (13, [46]), (14, [62]), (15, [42]), (16, [180, 0, 69]), (19, [42]), (20, [180, 0, 59]), (23, [31]), (24, [29]), (25, [182, 1, 85]), (28, [42]), (29, [180, 0, 59]), (32, [29]), (33, [181, 0, 150]), (36, [42]), (37, [180, 0, 59]), (40, [89]), (41, [180, 0, 147]), (44, [4]), (45, [96]), (46, [181, 0, 147]), (49, [177])] = true := by decide +kernel
theorem dX11_pass_0 : decode cX11_pass 0 = .ok (.aload_n 0, 1) := q_aload_n0 (bat_get dg_X11_pass_0_0 0 rfl rfl)
theorem dX11_pass_1 : decode cX11_pass 1 = .ok (.getfield 89, 3) := q_getfield (bat_get dg_X11_pass_0_0 1 rfl rfl) rfl
theorem dX11_pass_4 : decode cX11_pass 4 = .ok (.aload_n 0, 1) := q_aload_n0 (bat_get dg_X11_pass_0_0 2 rfl rfl)
theorem dX11_pass_5 : decode cX11_pass 5 = .ok (.getfield 59, 3) := q_getfield (bat_get dg_X11_pass_0_0 3 rfl rfl) rfl
theorem dX11_pass_8 : decode cX11_pass 8 = .ok (.getfield 144, 3) := q_getfield (bat_get dg_X11_pass_0_0 4 rfl rfl) rfl
theorem dX11_pass_11 : decode cX11_pass 11 = .ok (.iconst 1, 1) := q_iconst1 (bat_get dg_X11_pass_0_0 5 rfl rfl)
theorem dX11_pass_12 : decode cX11_pass 12 = .ok (.isub, 1) := q_isub (bat_get dg_X11_pass_0_0 6 rfl rfl)
theorem dX11_pass_13 : decode cX11_pass 13 = .ok (.iaload, 1) := q_iaload (bat_get dg_X11_pass_0_0 7 rfl rfl)
theorem dX11_pass_14 : decode cX11_pass 14 = .ok (.istore_n 3, 1) := q_istore_n3 (bat_get dg_X11_pass_0_0 8 rfl rfl)
theorem dX11_pass_15 : decode cX11_pass 15 = .ok (.aload_n 0, 1) := q_aload_n0 (bat_get dg_X11_pass_0_0 9 rfl rfl)
theorem dX11_pass_16 : decode cX11_pass 16 = .ok (.getfield 69, 3) := q_getfield (bat_get dg_X11_pass_0_0 10 rfl rfl) rfl
theorem dX11_pass_19 : decode cX11_pass 19 = .ok (.aload_n 0, 1) := q_aload_n0 (bat_get dg_X11_pass_0_0 11 rfl rfl)
theorem dX11_pass_20 : decode cX11_pass 20 = .ok (.getfield 59, 3) := q_getfield (bat_get dg_X11_pass_0_0 12 rfl rfl) rfl
theorem dX11_pass_23 : decode cX11_pass 23 = .ok (.lload_n 1, 1) := q_lload_n1 (bat_get dg_X11_pass_0_0 13 rfl rfl)
theorem dX11_pass_24 : decode cX11_pass 24 = .ok (.iload_n 3, 1) := q_iload_n3 (bat_get dg_X11_pass_0_0 14 rfl rfl)
theorem dX11_pass_25 : decode cX11_pass 25 = .ok (.invokevirtual 341, 3) := q_invokevirtual (bat_get dg_X11_pass_0_0 15 rfl rfl) rfl
theorem dX11_pass_28 : decode cX11_pass 28 = .ok (.aload_n 0, 1) := q_aload_n0 (bat_get dg_X11_pass_0_0 16 rfl rfl)
theorem dX11_pass_29 : decode cX11_pass 29 = .ok (.getfield 59, 3) := q_getfield (bat_get dg_X11_pass_0_0 17 rfl rfl) rfl
theorem dX11_pass_32 : decode cX11_pass 32 = .ok (.iload_n 3, 1) := q_iload_n3 (bat_get dg_X11_pass_0_0 18 rfl rfl)
theorem dX11_pass_33 : decode cX11_pass 33 = .ok (.putfield 150, 3) := q_putfield (bat_get dg_X11_pass_0_0 19 rfl rfl) rfl
theorem dX11_pass_36 : decode cX11_pass 36 = .ok (.aload_n 0, 1) := q_aload_n0 (bat_get dg_X11_pass_0_0 20 rfl rfl)
theorem dX11_pass_37 : decode cX11_pass 37 = .ok (.getfield 59, 3) := q_getfield (bat_get dg_X11_pass_0_0 21 rfl rfl) rfl
theorem dX11_pass_40 : decode cX11_pass 40 = .ok (.dup, 1) := q_dup (bat_get dg_X11_pass_0_0 22 rfl rfl)
theorem dX11_pass_41 : decode cX11_pass 41 = .ok (.getfield 147, 3) := q_getfield (bat_get dg_X11_pass_0_0 23 rfl rfl) rfl
theorem dX11_pass_44 : decode cX11_pass 44 = .ok (.iconst 1, 1) := q_iconst1 (bat_get dg_X11_pass_0_0 24 rfl rfl)
theorem dX11_pass_45 : decode cX11_pass 45 = .ok (.iadd, 1) := q_iadd (bat_get dg_X11_pass_0_0 25 rfl rfl)
theorem dX11_pass_46 : decode cX11_pass 46 = .ok (.putfield 147, 3) := q_putfield (bat_get dg_X11_pass_0_0 26 rfl rfl) rfl
theorem dX11_pass_49 : decode cX11_pass 49 = .ok (.return_, 1) := q_return_ (bat_get dg_X11_pass_0_0 27 rfl rfl)
theorem w_2_132 : (Cond.fieldLink RX11 69 "SameKeeper" "past" "LSameKeeper$Past;") ∈ wsL_law := sk_mem (ck_2 _ (List.mem_of_getElem? (i := 132) rfl)) rfl
theorem w_5_24 : (Cond.methodLink RX11 341 yX4_keep) ∈ wsL_law := sk_mem (ck_5 _ (List.mem_of_getElem? (i := 24) rfl)) rfl
theorem w_5_25 : (Cond.instanceMethod yX4_keep) ∈ wsL_law := sk_mem (ck_5 _ (List.mem_of_getElem? (i := 25) rfl)) rfl
theorem w_5_26 : (Cond.selects RX4 yX4_keep yX4_keep) ∈ wsL_law := sk_mem (ck_5 _ (List.mem_of_getElem? (i := 26) rfl)) rfl
theorem w_1_11 : (Cond.initialized RX4) ∈ wsL_law := sk_mem (ck_1 _ (List.mem_of_getElem? (i := 11) rfl)) rfl
theorem w_2_10 : (Cond.fieldLink RX11 150 "SameKeeper$State" "mood" "I") ∈ wsL_law := sk_mem (ck_2 _ (List.mem_of_getElem? (i := 10) rfl)) rfl
theorem w_2_6 : (Cond.fieldLink RX11 147 "SameKeeper$State" "week" "I") ∈ wsL_law := sk_mem (ck_2 _ (List.mem_of_getElem? (i := 6) rfl)) rfl
theorem w_5_23 : (Cond.code yX11_pass cX11_pass 4 none) ∈ wsL_law := sk_mem (ck_5 _ (List.mem_of_getElem? (i := 23) rfl)) rfl
def om_7_3e : List Bool := false :: true :: true :: true :: true :: true :: false :: []
theorem hd_X4_keep_3 : skD yX4_keep 3 := by decide +kernel
set_option maxHeartbeats 4000000 in
set_option maxRecDepth 100000 in
theorem c_kx_pass (l : Launch) (D : va_G) (cI cJ cC cZ cS : ClassId) (x0 : Nat) (q : Nat → Nat) (hc : Int32) (dr : Int64) (dy : Nat) (wn : Nat) (mo : Nat) (ke : Nat) (mu : Int32) (fb : Nat → Int32) (fw : Nat → Int32) (ac : Nat) (lst : Nat) (p1 : Nat → Int32) (p2 : Nat → Int64) (p3 : Nat → Int32) (ra : Nat → Int32) (x : Int64) (hdy : dy ≤ 9) (hdy1 : 1 ≤ dy) (hls : ra (dy - 1) = nI lst) (hls9 : lst ≤ 9) (hke : ke < 1000) (hwn : wn ≤ 999) : skM l yX11_pass cX11_pass 4 none 1 25 0 0 D (skT cI cJ cC cZ cS) [.ref x0, .long x] [(x0, .inr (11, [.ref (q 0), .ref (q 1), .ref (q 2), .ref (q 3), .ref (q 4), .ref (q 5), .ref (q 6), .ref (q 7), .ref (q 8), .ref (q 9), .ref (q 10), .ref (q 11), .ref (q 12), .ref (q 13), .ref (q 14), .int hc, .ref (q 16), .long dr])), (q 7, .inr (7, [.ref (q 33), .ref (q 34), .int (nI dy), .int (nI wn), .int (nI mo), .int mu, .int (nI ke)])), (q 9, .inr (4, [.ref (q 35), .int (nI ac), .ref (q 36), .ref (q 37), .ref (q 38)])), (q 36, .inl (cI, 1000, .inl p1)), (q 37, .inl (cJ, 1000, .inr (.inl p2))), (q 38, .inl (cI, 1000, .inl p3)), (q 12, .inl (cI, 9, .inl ra))] (skV D (skT cI cJ cC cZ cS) (fun (u : va_W) => ∃ (p1_ : Nat → Int32), ∃ (p2_ : Nat → Int64), ∃ (p3_ : Nat → Int32), p1_ = upd p1 ke (nI wn) ∧ p2_ = vp_updL p2 ke x ∧ p3_ = upd p3 ke (nI lst) ∧ u = [(x0, .inr (11, [.ref (q 0), .ref (q 1), .ref (q 2), .ref (q 3), .ref (q 4), .ref (q 5), .ref (q 6), .ref (q 7), .ref (q 8), .ref (q 9), .ref (q 10), .ref (q 11), .ref (q 12), .ref (q 13), .ref (q 14), .int hc, .ref (q 16), .long dr])), (q 7, .inr (7, [.ref (q 33), .ref (q 34), .int (nI dy), .int (nI (wn + 1)), .int (nI lst), .int mu, .int (nI (ke + 1))])), (q 9, .inr (4, [.ref (q 35), .int (nI ac), .ref (q 36), .ref (q 37), .ref (q 38)])), (q 36, .inl (cI, 1000, .inl p1_)), (q 37, .inl (cJ, 1000, .inr (.inl p2_))), (q 38, .inl (cI, 1000, .inl p3_)), (q 12, .inl (cI, 9, .inl ra))])) := by
  refine skM_of pf_X11_pass (Nat.le_of_ble_eq_true rfl) ?_
  intro p e s m below meth c A ls E hP hD hl
  refine skE_el E (fun hx hb hr hml hlocks hin hown hts hK hA => ?_)
  have hown : s.vm.findClass RX11 = some m.cls := hown
  have hS : va_S A s.heap s.heap [] := va_S.rf
  have hl : lv_has ls 4 [(0, .ref x0), (1, .long x)] := hl
  refine lv_aload_n hx hb dX11_pass_0 rfl (lv_at hl 0 rfl) ?_
  refine sk_get (v := .ref (q 12)) (C := RX11) (T := TX11) (N := 18) hx hb hts inlX11 hown hK hP 0 rfl rfl 12 (by decide) w_2_135 rfl dX11_pass_1 ?_
  refine lv_aload_n hx hb dX11_pass_4 rfl (lv_at hl 0 rfl) ?_
  refine sk_get (v := .ref (q 7)) (C := RX11) (T := TX11) (N := 18) hx hb hts inlX11 hown hK hP 0 rfl rfl 7 (by decide) w_2_130 rfl dX11_pass_5 ?_
  refine sk_get (v := .int (nI dy)) (C := RX7) (T := TX7) (N := 7) hx hb hts inlX7 hown hK hP 1 rfl rfl 2 (by decide) w_2_1 rfl dX11_pass_8 ?_
  refine lv_iconst (v := 1) hx hb dX11_pass_11 (by decide) ?_
  refine lv_isub hx hb dX11_pass_12 ?_
  refine sk_top (nI (dy - 1)) (nsub dy 1 (by omega)) ?_
  refine va_iald hx hb hK.1 hP 6 0 rfl rfl (vin (dy - 1) 9 (by omega) (by omega)) dX11_pass_13 ?_
  refine sk_top (nI lst) (by rw [nI_clamp (by omega)]; exact hls) ?_
  refine lv_istore_n (lv' := [(3, .int (nI lst)), (0, .ref x0), (1, .long x)]) hx hb dX11_pass_14 rfl hl (by decide) rfl (fun ls hl => ?_)
  refine lv_aload_n hx hb dX11_pass_15 rfl (lv_at hl 1 rfl) ?_
  refine sk_get (v := .ref (q 9)) (C := RX11) (T := TX11) (N := 18) hx hb hts inlX11 hown hK hP 0 rfl rfl 9 (by decide) w_2_132 rfl dX11_pass_16 ?_
  refine lv_aload_n hx hb dX11_pass_19 rfl (lv_at hl 1 rfl) ?_
  refine sk_get (v := .ref (q 7)) (C := RX11) (T := TX11) (N := 18) hx hb hts inlX11 hown hK hP 0 rfl rfl 7 (by decide) w_2_130 rfl dX11_pass_20 ?_
  refine lv_lload_n hx hb dX11_pass_23 rfl (lv_at hl 2 rfl) ?_
  refine lv_iload_n hx hb dX11_pass_24 rfl (lv_at hl 0 rfl) ?_
  refine sk_Vv (q0 := 0) (n := 3) (rest := []) (wr := fmR om_7_3e _) ⟨hx, hb, hml, hown, hts⟩ hl.1 (c_kpast_keep l D cI cJ cC cZ cS q ac p1 p2 p3 dy wn mo ke mu fb fw x (nI lst) (by omega)) w_5_24 w_5_25 w_5_26 w_1_11 w_5_27 hd_X4_keep_3 ⟨⟨(Nat.le_of_ble_eq_true rfl), (Nat.le_of_ble_eq_true rfl)⟩, (Nat.le_of_ble_eq_true rfl), (Nat.le_of_ble_eq_true rfl)⟩ hK hP hD hS hA [2, 3, 4, 5, 1] (fmF om_7_3e 0) rfl (fm_R rfl rfl) (by decide +kernel) (fm_nF om_7_3e 0) (by decide +kernel) rfl rfl rfl rfl (Nat.le_of_ble_eq_true rfl) dX11_pass_25 (fun u H locs hw hP hD hS => ?_)
  refine exE hw (fun p1__1 hw1 => exE hw1 (fun p2__2 hw2 => exE hw2 (fun p3__3 hw3 => anE hw3 (fun hp1_4 hw4 => anE hw4 (fun hp2_5 hw5 => anE hw5 (fun hp3_6 eu_7 => ?_))))))
  clear hw hw1 hw2 hw3 hw4 hw5
  refine o_mgqE (ux := [(q 7, .inr (7, [.ref (q 33), .ref (q 34), .int (nI dy), .int (nI wn), .int (nI mo), .int mu, .int (nI (ke + 1))])), (q 9, .inr (4, [.ref (q 35), .int (nI ac), .ref (q 36), .ref (q 37), .ref (q 38)])), (q 36, .inl (cI, 1000, .inl p1__1)), (q 37, .inl (cJ, 1000, .inr (.inl p2__2))), (q 38, .inl (cI, 1000, .inl p3__3))]) (ws' := [(x0, .inr (11, [.ref (q 0), .ref (q 1), .ref (q 2), .ref (q 3), .ref (q 4), .ref (q 5), .ref (q 6), .ref (q 7), .ref (q 8), .ref (q 9), .ref (q 10), .ref (q 11), .ref (q 12), .ref (q 13), .ref (q 14), .int hc, .ref (q 16), .long dr])), (q 7, .inr (7, [.ref (q 33), .ref (q 34), .int (nI dy), .int (nI wn), .int (nI mo), .int mu, .int (nI (ke + 1))])), (q 9, .inr (4, [.ref (q 35), .int (nI ac), .ref (q 36), .ref (q 37), .ref (q 38)])), (q 36, .inl (cI, 1000, .inl p1__1)), (q 37, .inl (cJ, 1000, .inr (.inl p2__2))), (q 38, .inl (cI, 1000, .inl p3__3)), (q 12, .inl (cI, 9, .inl ra))]) eu_7 [4, 0, 1, 2, 3] (by decide +kernel) rfl hP hD rfl (fun hP hD => ?_)
  refine lv_aload_n hx hb dX11_pass_28 rfl (lv_at hl 1 rfl) ?_
  refine sk_get (v := .ref (q 7)) (C := RX11) (T := TX11) (N := 18) hx hb hts inlX11 hown hK hP 0 rfl rfl 7 (by decide) w_2_130 rfl dX11_pass_29 ?_
  refine lv_iload_n hx hb dX11_pass_32 rfl (lv_at hl 0 rfl) ?_
  refine sk_put (ws' := [(x0, .inr (11, [.ref (q 0), .ref (q 1), .ref (q 2), .ref (q 3), .ref (q 4), .ref (q 5), .ref (q 6), .ref (q 7), .ref (q 8), .ref (q 9), .ref (q 10), .ref (q 11), .ref (q 12), .ref (q 13), .ref (q 14), .int hc, .ref (q 16), .long dr])), (q 7, .inr (7, [.ref (q 33), .ref (q 34), .int (nI dy), .int (nI wn), .int (nI lst), .int mu, .int (nI (ke + 1))])), (q 9, .inr (4, [.ref (q 35), .int (nI ac), .ref (q 36), .ref (q 37), .ref (q 38)])), (q 36, .inl (cI, 1000, .inl p1__1)), (q 37, .inl (cJ, 1000, .inr (.inl p2__2))), (q 38, .inl (cI, 1000, .inl p3__3)), (q 12, .inl (cI, 9, .inl ra))]) (C := RX7) (T := TX7) (N := 7) (v := .int (nI lst)) hx hb hts inlX7 tyX7 tyX7_ok nmX7 hown hK hP hD hS 1 rfl rfl 4 (by decide) w_2_10 rfl rfl rfl (Nat.le_of_ble_eq_true rfl) rfl dX11_pass_33 (fun H locs hP hD hS => ?_)
  refine lv_aload_n hx hb dX11_pass_36 rfl (lv_at hl 1 rfl) ?_
  refine sk_get (v := .ref (q 7)) (C := RX11) (T := TX11) (N := 18) hx hb hts inlX11 hown hK hP 0 rfl rfl 7 (by decide) w_2_130 rfl dX11_pass_37 ?_
  refine lv_dup hx hb dX11_pass_40 rfl ?_
  refine sk_get (v := .int (nI wn)) (C := RX7) (T := TX7) (N := 7) hx hb hts inlX7 hown hK hP 1 rfl rfl 3 (by decide) w_2_6 rfl dX11_pass_41 ?_
  refine lv_iconst (v := 1) hx hb dX11_pass_44 (by decide) ?_
  refine lv_iadd hx hb dX11_pass_45 ?_
  refine sk_top (nI (wn + 1)) (nI_add wn 1) ?_
  refine sk_put (ws' := [(x0, .inr (11, [.ref (q 0), .ref (q 1), .ref (q 2), .ref (q 3), .ref (q 4), .ref (q 5), .ref (q 6), .ref (q 7), .ref (q 8), .ref (q 9), .ref (q 10), .ref (q 11), .ref (q 12), .ref (q 13), .ref (q 14), .int hc, .ref (q 16), .long dr])), (q 7, .inr (7, [.ref (q 33), .ref (q 34), .int (nI dy), .int (nI (wn + 1)), .int (nI lst), .int mu, .int (nI (ke + 1))])), (q 9, .inr (4, [.ref (q 35), .int (nI ac), .ref (q 36), .ref (q 37), .ref (q 38)])), (q 36, .inl (cI, 1000, .inl p1__1)), (q 37, .inl (cJ, 1000, .inr (.inl p2__2))), (q 38, .inl (cI, 1000, .inl p3__3)), (q 12, .inl (cI, 9, .inl ra))]) (C := RX7) (T := TX7) (N := 7) (v := .int (nI (wn + 1))) hx hb hts inlX7 tyX7 tyX7_ok nmX7 hown hK hP hD hS 1 rfl rfl 3 (by decide) w_2_6 rfl rfl rfl (Nat.le_of_ble_eq_true rfl) rfl dX11_pass_46 (fun H locs hP hD hS => ?_)
  exact sk_vret hx hb hr hlocks hK hP hD hS (⟨p1__1, p2__2, p3__3, hp1_4, hp2_5, hp3_6, rfl⟩) (Nat.le_of_ble_eq_true rfl) (Nat.le_of_ble_eq_true rfl) dX11_pass_49

