theorem dX11_set_0 : decode cX11_set 0 = .ok (.aload_n 0, 1) := by decide +kernel
theorem dX11_set_1 : decode cX11_set 1 = .ok (.iload_n 1, 1) := by decide +kernel
theorem dX11_set_2 : decode cX11_set 2 = .ok (.invokevirtual 170, 3) := by decide +kernel
theorem dX11_set_5 : decode cX11_set 5 = .ok (.ifCond .eq 32, 3) := by decide +kernel
theorem dX11_set_37 : decode cX11_set 37 = .ok (.aload_n 0, 1) := by decide +kernel
theorem dX11_set_38 : decode cX11_set 38 = .ok (.iconst 2, 1) := by decide +kernel
theorem dX11_set_39 : decode cX11_set 39 = .ok (.invokevirtual 120, 3) := by decide +kernel
theorem dX11_set_42 : decode cX11_set 42 = .ok (.ireturn, 1) := by decide +kernel
theorem w_5_2 : (Cond.code yX11_set cX11_set 4 (some .boolean)) ∈ wsL_law := sk_mem (ck_5 _ (List.mem_of_getElem? (i := 2) rfl)) rfl
set_option maxHeartbeats 4000000 in
set_option maxRecDepth 100000 in
theorem c_x_set (l : Launch) (D : va_G) (cI cJ cC cZ cS : ClassId) (x0 : Nat) (q : Nat → Nat) (d : Int32) (w : Int32) (o : Int32)  : skM l yX11_set cX11_set 4 (some .boolean) 1 21 0 0 D (skT cI cJ cC cZ cS) [.ref x0, .int d, .int w, .int o] [(x0, .inr (11, [.ref (q 0), .ref (q 1), .ref (q 2), .ref (q 3), .ref (q 4), .ref (q 5), .ref (q 6), .ref (q 7), .ref (q 8), .ref (q 9), .ref (q 10), .ref (q 11), .ref (q 12), .ref (q 13), .ref (q 14), .int 0, .ref (q 16), .long 1])), (q 7, .inr (7, [.ref (q 33), .ref (q 34), .int 0, .int 0, .int 0, .int 0, .int 0])), (q 16, .inl (cI, 6, .inl (fun _ => 0)))] (skI D (skT cI cJ cC cZ cS) (fun (r : Int32) (u : va_W) => r = 0 ∧ u = [])) := by
  refine skM_of (by decide) (Nat.le_of_ble_eq_true rfl) ?_
  intro p e s m below meth c A ls E hP hD hl
  obtain ⟨hx, hb, hr, hml, hlocks, hin, hown, hts, hK, hA⟩ := E
  have hown : s.vm.findClass RX11 = some m.cls := hown
  have hS : va_S A s.heap s.heap [] := va_S.rf
  have hl : lv_has ls 4 [(0, .ref x0), (1, .int d), (2, .int w), (3, .int o)] := hl
  refine lv_aload_n hx hb dX11_set_0 rfl (lv_at hl 0 rfl) ?_
  refine lv_iload_n hx hb dX11_set_1 rfl (lv_at hl 1 rfl) ?_
  refine sk_Vi (q0 := 0) (n := 1) (rest := []) (wr := [(q 16, .inl (cI, 6, .inl (fun _ => 0)))]) ⟨hx, hb, hml, hown, hts⟩ hl.1 (c_x_isDay l D cI cJ cC cZ cS x0 q d) w_3_190 w_3_192 w_0_14 w_1_1 w_3_193 (by decide +kernel) ⟨⟨(Nat.le_of_ble_eq_true rfl), (Nat.le_of_ble_eq_true rfl)⟩, (Nat.le_of_ble_eq_true rfl), (Nat.le_of_ble_eq_true rfl)⟩ hK hP hD hS hA [0, 1] [2] rfl rfl (by decide) (by decide) (by decide) rfl rfl rfl rfl (Nat.le_of_ble_eq_true rfl) dX11_set_2 (fun r_1 u H locs hw hP hD hS => ?_)
  obtain ⟨rfl, rfl⟩ := hw
  have hP : va_P D vwCl [(q 16, .inl (cI, 6, .inl (fun _ => 0))), (x0, .inr (11, [.ref (q 0), .ref (q 1), .ref (q 2), .ref (q 3), .ref (q 4), .ref (q 5), .ref (q 6), .ref (q 7), .ref (q 8), .ref (q 9), .ref (q 10), .ref (q 11), .ref (q 12), .ref (q 13), .ref (q 14), .int 0, .ref (q 16), .long 1])), (q 7, .inr (7, [.ref (q 33), .ref (q 34), .int 0, .int 0, .int 0, .int 0, .int 0]))] H := hP
  have hD : va_D A [(q 16, .inl (cI, 6, .inl (fun _ => 0))), (x0, .inr (11, [.ref (q 0), .ref (q 1), .ref (q 2), .ref (q 3), .ref (q 4), .ref (q 5), .ref (q 6), .ref (q 7), .ref (q 8), .ref (q 9), .ref (q 10), .ref (q 11), .ref (q 12), .ref (q 13), .ref (q 14), .int 0, .ref (q 16), .long 1])), (q 7, .inr (7, [.ref (q 33), .ref (q 34), .int 0, .int 0, .int 0, .int 0, .int 0]))] := hD
  refine W.widen (k := 0) (n := 0) (Nat.le_of_ble_eq_true rfl) (Nat.le_of_ble_eq_true rfl) ?_
  refine lv_if_eq (tgt := 37) hx hb dX11_set_5 (by decide) (fun c_2 => ?_) (fun c => absurd c (by decide))
  refine lv_aload_n hx hb dX11_set_37 rfl (lv_at hl 0 rfl) ?_
  refine lv_iconst (v := 2) hx hb dX11_set_38 (by decide) ?_
  refine sk_Vi (q0 := 0) (n := 1) (rest := []) (wr := [(q 7, .inr (7, [.ref (q 33), .ref (q 34), .int 0, .int 0, .int 0, .int 0, .int 0]))]) ⟨hx, hb, hml, hown, hts⟩ hl.1 (c_x_refuseIt l D cI cJ cC cZ cS x0 q 2 (fun _ => 0) (by unfold vp_in; decide)) w_2_198 w_2_200 w_0_1 w_1_1 w_2_201 (by decide +kernel) ⟨⟨(Nat.le_of_ble_eq_true rfl), (Nat.le_of_ble_eq_true rfl)⟩, (Nat.le_of_ble_eq_true rfl), (Nat.le_of_ble_eq_true rfl)⟩ hK hP hD hS hA [1, 0] [2] rfl rfl (by decide) (by decide) (by decide) rfl rfl rfl rfl (Nat.le_of_ble_eq_true rfl) dX11_set_39 (fun r_4 u H locs hw hP hD hS => ?_)
  obtain ⟨f2_3, rfl, rfl⟩ := hw
  have hP : va_P D vwCl [(q 7, .inr (7, [.ref (q 33), .ref (q 34), .int 0, .int 0, .int 0, .int 0, .int 0])), (x0, .inr (11, [.ref (q 0), .ref (q 1), .ref (q 2), .ref (q 3), .ref (q 4), .ref (q 5), .ref (q 6), .ref (q 7), .ref (q 8), .ref (q 9), .ref (q 10), .ref (q 11), .ref (q 12), .ref (q 13), .ref (q 14), .int 0, .ref (q 16), .long 1])), (q 16, .inl (cI, 6, .inl f2_3))] H := hP
  have hD : va_D A [(q 7, .inr (7, [.ref (q 33), .ref (q 34), .int 0, .int 0, .int 0, .int 0, .int 0])), (x0, .inr (11, [.ref (q 0), .ref (q 1), .ref (q 2), .ref (q 3), .ref (q 4), .ref (q 5), .ref (q 6), .ref (q 7), .ref (q 8), .ref (q 9), .ref (q 10), .ref (q 11), .ref (q 12), .ref (q 13), .ref (q 14), .int 0, .ref (q 16), .long 1])), (q 16, .inl (cI, 6, .inl f2_3))] := hD
  refine W.widen (k := 0) (n := 0) (Nat.le_of_ble_eq_true rfl) (Nat.le_of_ble_eq_true rfl) ?_
  have hP := hP.sub (ws' := []) [] rfl
  have hD := hD.sub (ws' := []) [] (by decide) rfl
  exact sk_iret hx hb hr rfl hlocks hK hP hD hS (⟨rfl, rfl⟩) (Nat.le_of_ble_eq_true rfl) (Nat.le_of_ble_eq_true rfl) dX11_set_42
theorem dX11_mute_0 : decode cX11_mute 0 = .ok (.aload_n 0, 1) := by decide +kernel
theorem dX11_mute_1 : decode cX11_mute 1 = .ok (.iload_n 1, 1) := by decide +kernel
theorem dX11_mute_2 : decode cX11_mute 2 = .ok (.invokevirtual 170, 3) := by decide +kernel
theorem dX11_mute_5 : decode cX11_mute 5 = .ok (.ifCond .eq 33, 3) := by decide +kernel
theorem dX11_mute_38 : decode cX11_mute 38 = .ok (.aload_n 0, 1) := by decide +kernel
theorem dX11_mute_39 : decode cX11_mute 39 = .ok (.iconst 2, 1) := by decide +kernel
theorem dX11_mute_40 : decode cX11_mute 40 = .ok (.invokevirtual 120, 3) := by decide +kernel
theorem dX11_mute_43 : decode cX11_mute 43 = .ok (.ireturn, 1) := by decide +kernel
theorem w_5_15 : (Cond.code yX11_mute cX11_mute 3 (some .boolean)) ∈ wsL_law := sk_mem (ck_5 _ (List.mem_of_getElem? (i := 15) rfl)) rfl
set_option maxHeartbeats 4000000 in
set_option maxRecDepth 100000 in
theorem c_x_mute (l : Launch) (D : va_G) (cI cJ cC cZ cS : ClassId) (x0 : Nat) (q : Nat → Nat) (d : Int32) (w : Int32)  : skM l yX11_mute cX11_mute 3 (some .boolean) 1 21 0 0 D (skT cI cJ cC cZ cS) [.ref x0, .int d, .int w] [(x0, .inr (11, [.ref (q 0), .ref (q 1), .ref (q 2), .ref (q 3), .ref (q 4), .ref (q 5), .ref (q 6), .ref (q 7), .ref (q 8), .ref (q 9), .ref (q 10), .ref (q 11), .ref (q 12), .ref (q 13), .ref (q 14), .int 0, .ref (q 16), .long 1])), (q 7, .inr (7, [.ref (q 33), .ref (q 34), .int 0, .int 0, .int 0, .int 0, .int 0])), (q 16, .inl (cI, 6, .inl (fun _ => 0)))] (skI D (skT cI cJ cC cZ cS) (fun (r : Int32) (u : va_W) => r = 0 ∧ u = [])) := by
  refine skM_of (by decide) (Nat.le_of_ble_eq_true rfl) ?_
  intro p e s m below meth c A ls E hP hD hl
  obtain ⟨hx, hb, hr, hml, hlocks, hin, hown, hts, hK, hA⟩ := E
  have hown : s.vm.findClass RX11 = some m.cls := hown
  have hS : va_S A s.heap s.heap [] := va_S.rf
  have hl : lv_has ls 3 [(0, .ref x0), (1, .int d), (2, .int w)] := hl
  refine lv_aload_n hx hb dX11_mute_0 rfl (lv_at hl 0 rfl) ?_
  refine lv_iload_n hx hb dX11_mute_1 rfl (lv_at hl 1 rfl) ?_
  refine sk_Vi (q0 := 0) (n := 1) (rest := []) (wr := [(q 16, .inl (cI, 6, .inl (fun _ => 0)))]) ⟨hx, hb, hml, hown, hts⟩ hl.1 (c_x_isDay l D cI cJ cC cZ cS x0 q d) w_3_190 w_3_192 w_0_14 w_1_1 w_3_193 (by decide +kernel) ⟨⟨(Nat.le_of_ble_eq_true rfl), (Nat.le_of_ble_eq_true rfl)⟩, (Nat.le_of_ble_eq_true rfl), (Nat.le_of_ble_eq_true rfl)⟩ hK hP hD hS hA [0, 1] [2] rfl rfl (by decide) (by decide) (by decide) rfl rfl rfl rfl (Nat.le_of_ble_eq_true rfl) dX11_mute_2 (fun r_1 u H locs hw hP hD hS => ?_)
  obtain ⟨rfl, rfl⟩ := hw
  have hP : va_P D vwCl [(q 16, .inl (cI, 6, .inl (fun _ => 0))), (x0, .inr (11, [.ref (q 0), .ref (q 1), .ref (q 2), .ref (q 3), .ref (q 4), .ref (q 5), .ref (q 6), .ref (q 7), .ref (q 8), .ref (q 9), .ref (q 10), .ref (q 11), .ref (q 12), .ref (q 13), .ref (q 14), .int 0, .ref (q 16), .long 1])), (q 7, .inr (7, [.ref (q 33), .ref (q 34), .int 0, .int 0, .int 0, .int 0, .int 0]))] H := hP
  have hD : va_D A [(q 16, .inl (cI, 6, .inl (fun _ => 0))), (x0, .inr (11, [.ref (q 0), .ref (q 1), .ref (q 2), .ref (q 3), .ref (q 4), .ref (q 5), .ref (q 6), .ref (q 7), .ref (q 8), .ref (q 9), .ref (q 10), .ref (q 11), .ref (q 12), .ref (q 13), .ref (q 14), .int 0, .ref (q 16), .long 1])), (q 7, .inr (7, [.ref (q 33), .ref (q 34), .int 0, .int 0, .int 0, .int 0, .int 0]))] := hD
  refine W.widen (k := 0) (n := 0) (Nat.le_of_ble_eq_true rfl) (Nat.le_of_ble_eq_true rfl) ?_
  refine lv_if_eq (tgt := 38) hx hb dX11_mute_5 (by decide) (fun c_2 => ?_) (fun c => absurd c (by decide))
  refine lv_aload_n hx hb dX11_mute_38 rfl (lv_at hl 0 rfl) ?_
  refine lv_iconst (v := 2) hx hb dX11_mute_39 (by decide) ?_
  refine sk_Vi (q0 := 0) (n := 1) (rest := []) (wr := [(q 7, .inr (7, [.ref (q 33), .ref (q 34), .int 0, .int 0, .int 0, .int 0, .int 0]))]) ⟨hx, hb, hml, hown, hts⟩ hl.1 (c_x_refuseIt l D cI cJ cC cZ cS x0 q 2 (fun _ => 0) (by unfold vp_in; decide)) w_2_198 w_2_200 w_0_1 w_1_1 w_2_201 (by decide +kernel) ⟨⟨(Nat.le_of_ble_eq_true rfl), (Nat.le_of_ble_eq_true rfl)⟩, (Nat.le_of_ble_eq_true rfl), (Nat.le_of_ble_eq_true rfl)⟩ hK hP hD hS hA [1, 0] [2] rfl rfl (by decide) (by decide) (by decide) rfl rfl rfl rfl (Nat.le_of_ble_eq_true rfl) dX11_mute_40 (fun r_4 u H locs hw hP hD hS => ?_)
  obtain ⟨f2_3, rfl, rfl⟩ := hw
  have hP : va_P D vwCl [(q 7, .inr (7, [.ref (q 33), .ref (q 34), .int 0, .int 0, .int 0, .int 0, .int 0])), (x0, .inr (11, [.ref (q 0), .ref (q 1), .ref (q 2), .ref (q 3), .ref (q 4), .ref (q 5), .ref (q 6), .ref (q 7), .ref (q 8), .ref (q 9), .ref (q 10), .ref (q 11), .ref (q 12), .ref (q 13), .ref (q 14), .int 0, .ref (q 16), .long 1])), (q 16, .inl (cI, 6, .inl f2_3))] H := hP
  have hD : va_D A [(q 7, .inr (7, [.ref (q 33), .ref (q 34), .int 0, .int 0, .int 0, .int 0, .int 0])), (x0, .inr (11, [.ref (q 0), .ref (q 1), .ref (q 2), .ref (q 3), .ref (q 4), .ref (q 5), .ref (q 6), .ref (q 7), .ref (q 8), .ref (q 9), .ref (q 10), .ref (q 11), .ref (q 12), .ref (q 13), .ref (q 14), .int 0, .ref (q 16), .long 1])), (q 16, .inl (cI, 6, .inl f2_3))] := hD
  refine W.widen (k := 0) (n := 0) (Nat.le_of_ble_eq_true rfl) (Nat.le_of_ble_eq_true rfl) ?_
  have hP := hP.sub (ws' := []) [] rfl
  have hD := hD.sub (ws' := []) [] (by decide) rfl
  exact sk_iret hx hb hr rfl hlocks hK hP hD hS (⟨rfl, rfl⟩) (Nat.le_of_ble_eq_true rfl) (Nat.le_of_ble_eq_true rfl) dX11_mute_43
theorem dX11_go_0 : decode cX11_go 0 = .ok (.aload_n 0, 1) := by decide +kernel
theorem dX11_go_1 : decode cX11_go 1 = .ok (.invokevirtual 204, 3) := by decide +kernel
theorem dX11_go_4 : decode cX11_go 4 = .ok (.ifCond .eq 27, 3) := by decide +kernel
theorem dX11_go_31 : decode cX11_go 31 = .ok (.aload_n 0, 1) := by decide +kernel
theorem dX11_go_32 : decode cX11_go 32 = .ok (.iconst 3, 1) := by decide +kernel
theorem dX11_go_33 : decode cX11_go 33 = .ok (.invokevirtual 113, 3) := by decide +kernel
theorem dX11_go_36 : decode cX11_go 36 = .ok (.ireturn, 1) := by decide +kernel
theorem w_5_19 : (Cond.code yX11_go cX11_go 3 (some .int)) ∈ wsL_law := sk_mem (ck_5 _ (List.mem_of_getElem? (i := 19) rfl)) rfl
set_option maxHeartbeats 4000000 in
set_option maxRecDepth 100000 in
theorem c_x_go (l : Launch) (D : va_G) (cI cJ cC cZ cS : ClassId) (x0 : Nat) (q : Nat → Nat)  : skM l yX11_go cX11_go 3 (some .int) 1 21 0 0 D (skT cI cJ cC cZ cS) [.ref x0] [(x0, .inr (11, [.ref (q 0), .ref (q 1), .ref (q 2), .ref (q 3), .ref (q 4), .ref (q 5), .ref (q 6), .ref (q 7), .ref (q 8), .ref (q 9), .ref (q 10), .ref (q 11), .ref (q 12), .ref (q 13), .ref (q 14), .int 0, .ref (q 16), .long 1])), (q 7, .inr (7, [.ref (q 33), .ref (q 34), .int 0, .int 0, .int 0, .int 0, .int 0])), (q 16, .inl (cI, 6, .inl (fun _ => 0)))] (skI D (skT cI cJ cC cZ cS) (fun (r : Int32) (u : va_W) => r = -1 ∧ u = [])) := by
  refine skM_of (by decide) (Nat.le_of_ble_eq_true rfl) ?_
  intro p e s m below meth c A ls E hP hD hl
  obtain ⟨hx, hb, hr, hml, hlocks, hin, hown, hts, hK, hA⟩ := E
  have hown : s.vm.findClass RX11 = some m.cls := hown
  have hS : va_S A s.heap s.heap [] := va_S.rf
  have hl : lv_has ls 3 [(0, .ref x0)] := hl
  refine lv_aload_n hx hb dX11_go_0 rfl (lv_at hl 0 rfl) ?_
  refine sk_Vi (q0 := 0) (n := 0) (rest := []) (wr := [(q 16, .inl (cI, 6, .inl (fun _ => 0)))]) ⟨hx, hb, hml, hown, hts⟩ hl.1 (c_x_isLocked l D cI cJ cC cZ cS x0 q) w_4_39 w_4_41 w_0_18 w_1_1 w_4_42 (by decide +kernel) ⟨⟨(Nat.le_of_ble_eq_true rfl), (Nat.le_of_ble_eq_true rfl)⟩, (Nat.le_of_ble_eq_true rfl), (Nat.le_of_ble_eq_true rfl)⟩ hK hP hD hS hA [0, 1] [2] rfl rfl (by decide) (by decide) (by decide) rfl rfl rfl rfl (Nat.le_of_ble_eq_true rfl) dX11_go_1 (fun r_1 u H locs hw hP hD hS => ?_)
  obtain ⟨rfl, rfl⟩ := hw
  have hP : va_P D vwCl [(q 16, .inl (cI, 6, .inl (fun _ => 0))), (x0, .inr (11, [.ref (q 0), .ref (q 1), .ref (q 2), .ref (q 3), .ref (q 4), .ref (q 5), .ref (q 6), .ref (q 7), .ref (q 8), .ref (q 9), .ref (q 10), .ref (q 11), .ref (q 12), .ref (q 13), .ref (q 14), .int 0, .ref (q 16), .long 1])), (q 7, .inr (7, [.ref (q 33), .ref (q 34), .int 0, .int 0, .int 0, .int 0, .int 0]))] H := hP
  have hD : va_D A [(q 16, .inl (cI, 6, .inl (fun _ => 0))), (x0, .inr (11, [.ref (q 0), .ref (q 1), .ref (q 2), .ref (q 3), .ref (q 4), .ref (q 5), .ref (q 6), .ref (q 7), .ref (q 8), .ref (q 9), .ref (q 10), .ref (q 11), .ref (q 12), .ref (q 13), .ref (q 14), .int 0, .ref (q 16), .long 1])), (q 7, .inr (7, [.ref (q 33), .ref (q 34), .int 0, .int 0, .int 0, .int 0, .int 0]))] := hD
  refine W.widen (k := 0) (n := 0) (Nat.le_of_ble_eq_true rfl) (Nat.le_of_ble_eq_true rfl) ?_
  refine lv_if_eq (tgt := 31) hx hb dX11_go_4 (by decide) (fun c_2 => ?_) (fun c => absurd c (by decide))
  refine lv_aload_n hx hb dX11_go_31 rfl (lv_at hl 0 rfl) ?_
  refine lv_iconst (v := 3) hx hb dX11_go_32 (by decide) ?_
  refine sk_Vi (q0 := 0) (n := 1) (rest := []) (wr := [(q 7, .inr (7, [.ref (q 33), .ref (q 34), .int 0, .int 0, .int 0, .int 0, .int 0]))]) ⟨hx, hb, hml, hown, hts⟩ hl.1 (c_x_refuse l D cI cJ cC cZ cS x0 q 3 (fun _ => 0) (by unfold vp_in; decide)) w_2_182 w_2_184 w_0_0 w_1_1 w_2_185 (by decide +kernel) ⟨⟨(Nat.le_of_ble_eq_true rfl), (Nat.le_of_ble_eq_true rfl)⟩, (Nat.le_of_ble_eq_true rfl), (Nat.le_of_ble_eq_true rfl)⟩ hK hP hD hS hA [1, 0] [2] rfl rfl (by decide) (by decide) (by decide) rfl rfl rfl rfl (Nat.le_of_ble_eq_true rfl) dX11_go_33 (fun r_4 u H locs hw hP hD hS => ?_)
  obtain ⟨f2_3, rfl, rfl⟩ := hw
  have hP : va_P D vwCl [(q 7, .inr (7, [.ref (q 33), .ref (q 34), .int 0, .int 0, .int 0, .int 0, .int 0])), (x0, .inr (11, [.ref (q 0), .ref (q 1), .ref (q 2), .ref (q 3), .ref (q 4), .ref (q 5), .ref (q 6), .ref (q 7), .ref (q 8), .ref (q 9), .ref (q 10), .ref (q 11), .ref (q 12), .ref (q 13), .ref (q 14), .int 0, .ref (q 16), .long 1])), (q 16, .inl (cI, 6, .inl f2_3))] H := hP
  have hD : va_D A [(q 7, .inr (7, [.ref (q 33), .ref (q 34), .int 0, .int 0, .int 0, .int 0, .int 0])), (x0, .inr (11, [.ref (q 0), .ref (q 1), .ref (q 2), .ref (q 3), .ref (q 4), .ref (q 5), .ref (q 6), .ref (q 7), .ref (q 8), .ref (q 9), .ref (q 10), .ref (q 11), .ref (q 12), .ref (q 13), .ref (q 14), .int 0, .ref (q 16), .long 1])), (q 16, .inl (cI, 6, .inl f2_3))] := hD
  refine W.widen (k := 0) (n := 0) (Nat.le_of_ble_eq_true rfl) (Nat.le_of_ble_eq_true rfl) ?_
  have hP := hP.sub (ws' := []) [] rfl
  have hD := hD.sub (ws' := []) [] (by decide) rfl
  exact sk_iret hx hb hr rfl hlocks hK hP hD hS (⟨rfl, rfl⟩) (Nat.le_of_ble_eq_true rfl) (Nat.le_of_ble_eq_true rfl) dX11_go_36
theorem dX11_chance_0 : decode cX11_chance 0 = .ok (.aload_n 0, 1) := by decide +kernel
theorem dX11_chance_1 : decode cX11_chance 1 = .ok (.invokevirtual 204, 3) := by decide +kernel
theorem dX11_chance_4 : decode cX11_chance 4 = .ok (.ifCond .eq 29, 3) := by decide +kernel
theorem dX11_chance_33 : decode cX11_chance 33 = .ok (.aload_n 0, 1) := by decide +kernel
theorem dX11_chance_34 : decode cX11_chance 34 = .ok (.iconst 3, 1) := by decide +kernel
theorem dX11_chance_35 : decode cX11_chance 35 = .ok (.invokevirtual 113, 3) := by decide +kernel
theorem dX11_chance_38 : decode cX11_chance 38 = .ok (.ireturn, 1) := by decide +kernel
theorem w_5_31 : (Cond.code yX11_chance cX11_chance 4 (some .int)) ∈ wsL_law := sk_mem (ck_5 _ (List.mem_of_getElem? (i := 31) rfl)) rfl
set_option maxHeartbeats 4000000 in
set_option maxRecDepth 100000 in
theorem c_x_chance (l : Launch) (D : va_G) (cI cJ cC cZ cS : ClassId) (x0 : Nat) (q : Nat → Nat) (n : Int32)  : skM l yX11_chance cX11_chance 4 (some .int) 1 21 0 0 D (skT cI cJ cC cZ cS) [.ref x0, .int n] [(x0, .inr (11, [.ref (q 0), .ref (q 1), .ref (q 2), .ref (q 3), .ref (q 4), .ref (q 5), .ref (q 6), .ref (q 7), .ref (q 8), .ref (q 9), .ref (q 10), .ref (q 11), .ref (q 12), .ref (q 13), .ref (q 14), .int 0, .ref (q 16), .long 1])), (q 7, .inr (7, [.ref (q 33), .ref (q 34), .int 0, .int 0, .int 0, .int 0, .int 0])), (q 16, .inl (cI, 6, .inl (fun _ => 0)))] (skI D (skT cI cJ cC cZ cS) (fun (r : Int32) (u : va_W) => r = -1 ∧ u = [])) := by
  refine skM_of (by decide) (Nat.le_of_ble_eq_true rfl) ?_
  intro p e s m below meth c A ls E hP hD hl
  obtain ⟨hx, hb, hr, hml, hlocks, hin, hown, hts, hK, hA⟩ := E
  have hown : s.vm.findClass RX11 = some m.cls := hown
  have hS : va_S A s.heap s.heap [] := va_S.rf
  have hl : lv_has ls 4 [(0, .ref x0), (1, .int n)] := hl
  refine lv_aload_n hx hb dX11_chance_0 rfl (lv_at hl 0 rfl) ?_
  refine sk_Vi (q0 := 0) (n := 0) (rest := []) (wr := [(q 16, .inl (cI, 6, .inl (fun _ => 0)))]) ⟨hx, hb, hml, hown, hts⟩ hl.1 (c_x_isLocked l D cI cJ cC cZ cS x0 q) w_4_39 w_4_41 w_0_18 w_1_1 w_4_42 (by decide +kernel) ⟨⟨(Nat.le_of_ble_eq_true rfl), (Nat.le_of_ble_eq_true rfl)⟩, (Nat.le_of_ble_eq_true rfl), (Nat.le_of_ble_eq_true rfl)⟩ hK hP hD hS hA [0, 1] [2] rfl rfl (by decide) (by decide) (by decide) rfl rfl rfl rfl (Nat.le_of_ble_eq_true rfl) dX11_chance_1 (fun r_1 u H locs hw hP hD hS => ?_)
  obtain ⟨rfl, rfl⟩ := hw
  have hP : va_P D vwCl [(q 16, .inl (cI, 6, .inl (fun _ => 0))), (x0, .inr (11, [.ref (q 0), .ref (q 1), .ref (q 2), .ref (q 3), .ref (q 4), .ref (q 5), .ref (q 6), .ref (q 7), .ref (q 8), .ref (q 9), .ref (q 10), .ref (q 11), .ref (q 12), .ref (q 13), .ref (q 14), .int 0, .ref (q 16), .long 1])), (q 7, .inr (7, [.ref (q 33), .ref (q 34), .int 0, .int 0, .int 0, .int 0, .int 0]))] H := hP
  have hD : va_D A [(q 16, .inl (cI, 6, .inl (fun _ => 0))), (x0, .inr (11, [.ref (q 0), .ref (q 1), .ref (q 2), .ref (q 3), .ref (q 4), .ref (q 5), .ref (q 6), .ref (q 7), .ref (q 8), .ref (q 9), .ref (q 10), .ref (q 11), .ref (q 12), .ref (q 13), .ref (q 14), .int 0, .ref (q 16), .long 1])), (q 7, .inr (7, [.ref (q 33), .ref (q 34), .int 0, .int 0, .int 0, .int 0, .int 0]))] := hD
  refine W.widen (k := 0) (n := 0) (Nat.le_of_ble_eq_true rfl) (Nat.le_of_ble_eq_true rfl) ?_
  refine lv_if_eq (tgt := 33) hx hb dX11_chance_4 (by decide) (fun c_2 => ?_) (fun c => absurd c (by decide))
  refine lv_aload_n hx hb dX11_chance_33 rfl (lv_at hl 0 rfl) ?_
  refine lv_iconst (v := 3) hx hb dX11_chance_34 (by decide) ?_
  refine sk_Vi (q0 := 0) (n := 1) (rest := []) (wr := [(q 7, .inr (7, [.ref (q 33), .ref (q 34), .int 0, .int 0, .int 0, .int 0, .int 0]))]) ⟨hx, hb, hml, hown, hts⟩ hl.1 (c_x_refuse l D cI cJ cC cZ cS x0 q 3 (fun _ => 0) (by unfold vp_in; decide)) w_2_182 w_2_184 w_0_0 w_1_1 w_2_185 (by decide +kernel) ⟨⟨(Nat.le_of_ble_eq_true rfl), (Nat.le_of_ble_eq_true rfl)⟩, (Nat.le_of_ble_eq_true rfl), (Nat.le_of_ble_eq_true rfl)⟩ hK hP hD hS hA [1, 0] [2] rfl rfl (by decide) (by decide) (by decide) rfl rfl rfl rfl (Nat.le_of_ble_eq_true rfl) dX11_chance_35 (fun r_4 u H locs hw hP hD hS => ?_)
  obtain ⟨f2_3, rfl, rfl⟩ := hw
  have hP : va_P D vwCl [(q 7, .inr (7, [.ref (q 33), .ref (q 34), .int 0, .int 0, .int 0, .int 0, .int 0])), (x0, .inr (11, [.ref (q 0), .ref (q 1), .ref (q 2), .ref (q 3), .ref (q 4), .ref (q 5), .ref (q 6), .ref (q 7), .ref (q 8), .ref (q 9), .ref (q 10), .ref (q 11), .ref (q 12), .ref (q 13), .ref (q 14), .int 0, .ref (q 16), .long 1])), (q 16, .inl (cI, 6, .inl f2_3))] H := hP
  have hD : va_D A [(q 7, .inr (7, [.ref (q 33), .ref (q 34), .int 0, .int 0, .int 0, .int 0, .int 0])), (x0, .inr (11, [.ref (q 0), .ref (q 1), .ref (q 2), .ref (q 3), .ref (q 4), .ref (q 5), .ref (q 6), .ref (q 7), .ref (q 8), .ref (q 9), .ref (q 10), .ref (q 11), .ref (q 12), .ref (q 13), .ref (q 14), .int 0, .ref (q 16), .long 1])), (q 16, .inl (cI, 6, .inl f2_3))] := hD
  refine W.widen (k := 0) (n := 0) (Nat.le_of_ble_eq_true rfl) (Nat.le_of_ble_eq_true rfl) ?_
  have hP := hP.sub (ws' := []) [] rfl
  have hD := hD.sub (ws' := []) [] (by decide) rfl
  exact sk_iret hx hb hr rfl hlocks hK hP hD hS (⟨rfl, rfl⟩) (Nat.le_of_ble_eq_true rfl) (Nat.le_of_ble_eq_true rfl) dX11_chance_38
theorem dX4_restore_0 : decode cX4_restore 0 = .ok (.aload_n 0, 1) := by decide +kernel
theorem dX4_restore_1 : decode cX4_restore 1 = .ok (.getfield 17, 3) := by decide +kernel
theorem dX4_restore_4 : decode cX4_restore 4 = .ok (.ifCond .gt 5, 3) := by decide +kernel
theorem dX4_restore_7 : decode cX4_restore 7 = .ok (.iconst 0, 1) := by decide +kernel
theorem dX4_restore_8 : decode cX4_restore 8 = .ok (.ireturn, 1) := by decide +kernel
theorem w_5_54 : (Cond.code yX4_restore cX4_restore 2 (some .boolean)) ∈ wsL_law := sk_mem (ck_5 _ (List.mem_of_getElem? (i := 54) rfl)) rfl
set_option maxHeartbeats 4000000 in
set_option maxRecDepth 100000 in
theorem c_past_restore (l : Launch) (D : va_G) (cI cJ cC cZ cS : ClassId) (q : Nat → Nat)  : skM l yX4_restore cX4_restore 2 (some .boolean) 0 0 0 0 D (skT cI cJ cC cZ cS) [.ref (q 9), .ref (q 7)] [(q 9, .inr (4, [.ref (q 35), .int 0, .ref (q 36), .ref (q 37), .ref (q 38)]))] (skI D (skT cI cJ cC cZ cS) (fun (r : Int32) (u : va_W) => r = 0 ∧ u = [(q 9, .inr (4, [.ref (q 35), .int 0, .ref (q 36), .ref (q 37), .ref (q 38)]))])) := by
  refine skM_of (by decide) (Nat.le_of_ble_eq_true rfl) ?_
  intro p e s m below meth c A ls E hP hD hl
  obtain ⟨hx, hb, hr, hml, hlocks, hin, hown, hts, hK, hA⟩ := E
  have hown : s.vm.findClass RX4 = some m.cls := hown
  have hS : va_S A s.heap s.heap [] := va_S.rf
  have hl : lv_has ls 2 [(0, .ref (q 9)), (1, .ref (q 7))] := hl
  refine lv_aload_n hx hb dX4_restore_0 rfl (lv_at hl 0 rfl) ?_
  refine sk_get (v := .int 0) (C := RX4) (T := TX4) (N := 5) hx hb hts inlX4 hown hK hP 0 rfl rfl 1 (by decide) w_2_41 rfl dX4_restore_1 ?_
  refine lv_if_gt (tgt := 9) hx hb dX4_restore_4 (by decide) (fun c => absurd c (by decide)) (fun c_1 => ?_)
  refine lv_iconst (v := 0) hx hb dX4_restore_7 (by decide) ?_
  exact sk_iret hx hb hr rfl hlocks hK hP hD hS (⟨rfl, rfl⟩) (Nat.le_of_ble_eq_true rfl) (Nat.le_of_ble_eq_true rfl) dX4_restore_8
theorem dX11_undo_0 : decode cX11_undo 0 = .ok (.aload_n 0, 1) := by decide +kernel
theorem dX11_undo_1 : decode cX11_undo 1 = .ok (.getfield 69, 3) := by decide +kernel
theorem dX11_undo_4 : decode cX11_undo 4 = .ok (.aload_n 0, 1) := by decide +kernel
theorem dX11_undo_5 : decode cX11_undo 5 = .ok (.getfield 59, 3) := by decide +kernel
theorem dX11_undo_8 : decode cX11_undo 8 = .ok (.invokevirtual 295, 3) := by decide +kernel
theorem dX11_undo_11 : decode cX11_undo 11 = .ok (.ifCond .ne 9, 3) := by decide +kernel
theorem dX11_undo_14 : decode cX11_undo 14 = .ok (.aload_n 0, 1) := by decide +kernel
theorem dX11_undo_15 : decode cX11_undo 15 = .ok (.iconst 4, 1) := by decide +kernel
theorem dX11_undo_16 : decode cX11_undo 16 = .ok (.invokevirtual 120, 3) := by decide +kernel
theorem dX11_undo_19 : decode cX11_undo 19 = .ok (.ireturn, 1) := by decide +kernel
theorem w_5_51 : (Cond.methodLink RX11 295 yX4_restore) ∈ wsL_law := sk_mem (ck_5 _ (List.mem_of_getElem? (i := 51) rfl)) rfl
theorem w_5_52 : (Cond.instanceMethod yX4_restore) ∈ wsL_law := sk_mem (ck_5 _ (List.mem_of_getElem? (i := 52) rfl)) rfl
theorem w_5_53 : (Cond.selects RX4 yX4_restore yX4_restore) ∈ wsL_law := sk_mem (ck_5 _ (List.mem_of_getElem? (i := 53) rfl)) rfl
theorem w_5_50 : (Cond.code yX11_undo cX11_undo 1 (some .boolean)) ∈ wsL_law := sk_mem (ck_5 _ (List.mem_of_getElem? (i := 50) rfl)) rfl
set_option maxHeartbeats 4000000 in
set_option maxRecDepth 100000 in
theorem c_x_undo (l : Launch) (D : va_G) (cI cJ cC cZ cS : ClassId) (x0 : Nat) (q : Nat → Nat)  : skM l yX11_undo cX11_undo 1 (some .boolean) 1 21 0 0 D (skT cI cJ cC cZ cS) [.ref x0] [(x0, .inr (11, [.ref (q 0), .ref (q 1), .ref (q 2), .ref (q 3), .ref (q 4), .ref (q 5), .ref (q 6), .ref (q 7), .ref (q 8), .ref (q 9), .ref (q 10), .ref (q 11), .ref (q 12), .ref (q 13), .ref (q 14), .int 0, .ref (q 16), .long 1])), (q 9, .inr (4, [.ref (q 35), .int 0, .ref (q 36), .ref (q 37), .ref (q 38)])), (q 16, .inl (cI, 6, .inl (fun _ => 0)))] (skI D (skT cI cJ cC cZ cS) (fun (r : Int32) (u : va_W) => r = 0 ∧ u = [])) := by
  refine skM_of (by decide) (Nat.le_of_ble_eq_true rfl) ?_
  intro p e s m below meth c A ls E hP hD hl
  obtain ⟨hx, hb, hr, hml, hlocks, hin, hown, hts, hK, hA⟩ := E
  have hown : s.vm.findClass RX11 = some m.cls := hown
  have hS : va_S A s.heap s.heap [] := va_S.rf
  have hl : lv_has ls 1 [(0, .ref x0)] := hl
  refine lv_aload_n hx hb dX11_undo_0 rfl (lv_at hl 0 rfl) ?_
  refine sk_get (v := .ref (q 9)) (C := RX11) (T := TX11) (N := 18) hx hb hts inlX11 hown hK hP 0 rfl rfl 9 (by decide) w_2_132 rfl dX11_undo_1 ?_
  refine lv_aload_n hx hb dX11_undo_4 rfl (lv_at hl 0 rfl) ?_
  refine sk_get (v := .ref (q 7)) (C := RX11) (T := TX11) (N := 18) hx hb hts inlX11 hown hK hP 0 rfl rfl 7 (by decide) w_2_130 rfl dX11_undo_5 ?_
  refine sk_Vi (q0 := 0) (n := 1) (rest := []) (wr := [(x0, .inr (11, [.ref (q 0), .ref (q 1), .ref (q 2), .ref (q 3), .ref (q 4), .ref (q 5), .ref (q 6), .ref (q 7), .ref (q 8), .ref (q 9), .ref (q 10), .ref (q 11), .ref (q 12), .ref (q 13), .ref (q 14), .int 0, .ref (q 16), .long 1])), (q 16, .inl (cI, 6, .inl (fun _ => 0)))]) ⟨hx, hb, hml, hown, hts⟩ hl.1 (c_past_restore l D cI cJ cC cZ cS q) w_5_51 w_5_52 w_5_53 w_1_11 w_5_54 (by decide +kernel) ⟨⟨(Nat.le_of_ble_eq_true rfl), (Nat.le_of_ble_eq_true rfl)⟩, (Nat.le_of_ble_eq_true rfl), (Nat.le_of_ble_eq_true rfl)⟩ hK hP hD hS hA [1] [0, 2] rfl rfl (by decide) (by decide) (by decide) rfl rfl rfl rfl (Nat.le_of_ble_eq_true rfl) dX11_undo_8 (fun r_1 u H locs hw hP hD hS => ?_)
  obtain ⟨rfl, rfl⟩ := hw
  have hP : va_P D vwCl [(x0, .inr (11, [.ref (q 0), .ref (q 1), .ref (q 2), .ref (q 3), .ref (q 4), .ref (q 5), .ref (q 6), .ref (q 7), .ref (q 8), .ref (q 9), .ref (q 10), .ref (q 11), .ref (q 12), .ref (q 13), .ref (q 14), .int 0, .ref (q 16), .long 1])), (q 16, .inl (cI, 6, .inl (fun _ => 0))), (q 9, .inr (4, [.ref (q 35), .int 0, .ref (q 36), .ref (q 37), .ref (q 38)]))] H := hP
  have hD : va_D A [(x0, .inr (11, [.ref (q 0), .ref (q 1), .ref (q 2), .ref (q 3), .ref (q 4), .ref (q 5), .ref (q 6), .ref (q 7), .ref (q 8), .ref (q 9), .ref (q 10), .ref (q 11), .ref (q 12), .ref (q 13), .ref (q 14), .int 0, .ref (q 16), .long 1])), (q 16, .inl (cI, 6, .inl (fun _ => 0))), (q 9, .inr (4, [.ref (q 35), .int 0, .ref (q 36), .ref (q 37), .ref (q 38)]))] := hD
  refine W.widen (k := 0) (n := 0) (Nat.le_of_ble_eq_true rfl) (Nat.le_of_ble_eq_true rfl) ?_
  refine lv_if_ne (tgt := 20) hx hb dX11_undo_11 (by decide) (fun c => absurd c (by decide)) (fun c_2 => ?_)
  refine lv_aload_n hx hb dX11_undo_14 rfl (lv_at hl 0 rfl) ?_
  refine lv_iconst (v := 4) hx hb dX11_undo_15 (by decide) ?_
  refine sk_Vi (q0 := 0) (n := 1) (rest := []) (wr := [(q 9, .inr (4, [.ref (q 35), .int 0, .ref (q 36), .ref (q 37), .ref (q 38)]))]) ⟨hx, hb, hml, hown, hts⟩ hl.1 (c_x_refuseIt l D cI cJ cC cZ cS x0 q 4 (fun _ => 0) (by unfold vp_in; decide)) w_2_198 w_2_200 w_0_1 w_1_1 w_2_201 (by decide +kernel) ⟨⟨(Nat.le_of_ble_eq_true rfl), (Nat.le_of_ble_eq_true rfl)⟩, (Nat.le_of_ble_eq_true rfl), (Nat.le_of_ble_eq_true rfl)⟩ hK hP hD hS hA [0, 1] [2] rfl rfl (by decide) (by decide) (by decide) rfl rfl rfl rfl (Nat.le_of_ble_eq_true rfl) dX11_undo_16 (fun r_4 u H locs hw hP hD hS => ?_)
  obtain ⟨f2_3, rfl, rfl⟩ := hw
  have hP : va_P D vwCl [(q 9, .inr (4, [.ref (q 35), .int 0, .ref (q 36), .ref (q 37), .ref (q 38)])), (x0, .inr (11, [.ref (q 0), .ref (q 1), .ref (q 2), .ref (q 3), .ref (q 4), .ref (q 5), .ref (q 6), .ref (q 7), .ref (q 8), .ref (q 9), .ref (q 10), .ref (q 11), .ref (q 12), .ref (q 13), .ref (q 14), .int 0, .ref (q 16), .long 1])), (q 16, .inl (cI, 6, .inl f2_3))] H := hP
  have hD : va_D A [(q 9, .inr (4, [.ref (q 35), .int 0, .ref (q 36), .ref (q 37), .ref (q 38)])), (x0, .inr (11, [.ref (q 0), .ref (q 1), .ref (q 2), .ref (q 3), .ref (q 4), .ref (q 5), .ref (q 6), .ref (q 7), .ref (q 8), .ref (q 9), .ref (q 10), .ref (q 11), .ref (q 12), .ref (q 13), .ref (q 14), .int 0, .ref (q 16), .long 1])), (q 16, .inl (cI, 6, .inl f2_3))] := hD
  refine W.widen (k := 0) (n := 0) (Nat.le_of_ble_eq_true rfl) (Nat.le_of_ble_eq_true rfl) ?_
  have hP := hP.sub (ws' := []) [] rfl
  have hD := hD.sub (ws' := []) [] (by decide) rfl
  exact sk_iret hx hb hr rfl hlocks hK hP hD hS (⟨rfl, rfl⟩) (Nat.le_of_ble_eq_true rfl) (Nat.le_of_ble_eq_true rfl) dX11_undo_19
theorem dX11_seed_0 : decode cX11_seed 0 = .ok (.iload_n 1, 1) := by decide +kernel
theorem dX11_seed_1 : decode cX11_seed 1 = .ok (.ifCond .ge 9, 3) := by decide +kernel
theorem dX11_seed_10 : decode cX11_seed 10 = .ok (.aload_n 0, 1) := by decide +kernel
theorem dX11_seed_11 : decode cX11_seed 11 = .ok (.iload_n 1, 1) := by decide +kernel
theorem dX11_seed_12 : decode cX11_seed 12 = .ok (.i2l, 1) := by decide +kernel
theorem dX11_seed_13 : decode cX11_seed 13 = .ok (.putfield 106, 3) := by decide +kernel
theorem dX11_seed_16 : decode cX11_seed 16 = .ok (.iconst 1, 1) := by decide +kernel
theorem dX11_seed_17 : decode cX11_seed 17 = .ok (.ireturn, 1) := by decide +kernel
theorem dX11_seed_4 : decode cX11_seed 4 = .ok (.aload_n 0, 1) := by decide +kernel
theorem dX11_seed_5 : decode cX11_seed 5 = .ok (.iconst 5, 1) := by decide +kernel
theorem dX11_seed_6 : decode cX11_seed 6 = .ok (.invokevirtual 120, 3) := by decide +kernel
theorem dX11_seed_9 : decode cX11_seed 9 = .ok (.ireturn, 1) := by decide +kernel
theorem w_5_58 : (Cond.code yX11_seed cX11_seed 2 (some .boolean)) ∈ wsL_law := sk_mem (ck_5 _ (List.mem_of_getElem? (i := 58) rfl)) rfl
set_option maxHeartbeats 4000000 in
set_option maxRecDepth 100000 in
theorem c_x_seed (l : Launch) (D : va_G) (cI cJ cC cZ cS : ClassId) (x0 : Nat) (q : Nat → Nat) (n : Int32)  : skM l yX11_seed cX11_seed 2 (some .boolean) 1 21 0 0 D (skT cI cJ cC cZ cS) [.ref x0, .int n] [(x0, .inr (11, [.ref (q 0), .ref (q 1), .ref (q 2), .ref (q 3), .ref (q 4), .ref (q 5), .ref (q 6), .ref (q 7), .ref (q 8), .ref (q 9), .ref (q 10), .ref (q 11), .ref (q 12), .ref (q 13), .ref (q 14), .int 0, .ref (q 16), .long 1])), (q 16, .inl (cI, 6, .inl (fun _ => 0)))] (skI D (skT cI cJ cC cZ cS) (fun (r : Int32) (u : va_W) => r = sp_seed n ∧ u = [])) := by
  refine skM_of (by decide) (Nat.le_of_ble_eq_true rfl) ?_
  intro p e s m below meth c A ls E hP hD hl
  obtain ⟨hx, hb, hr, hml, hlocks, hin, hown, hts, hK, hA⟩ := E
  have hown : s.vm.findClass RX11 = some m.cls := hown
  have hS : va_S A s.heap s.heap [] := va_S.rf
  have hl : lv_has ls 2 [(0, .ref x0), (1, .int n)] := hl
  refine lv_iload_n hx hb dX11_seed_0 rfl (lv_at hl 1 rfl) ?_
  refine lv_if_ge (tgt := 10) hx hb dX11_seed_1 (by decide) (fun c_1 => ?_) (fun c_1 => ?_)
  · refine lv_aload_n hx hb dX11_seed_10 rfl (lv_at hl 0 rfl) ?_
    refine lv_iload_n hx hb dX11_seed_11 rfl (lv_at hl 1 rfl) ?_
    refine lv_i2l hx hb dX11_seed_12 rfl ?_
    refine sk_put (ws' := [(x0, .inr (11, [.ref (q 0), .ref (q 1), .ref (q 2), .ref (q 3), .ref (q 4), .ref (q 5), .ref (q 6), .ref (q 7), .ref (q 8), .ref (q 9), .ref (q 10), .ref (q 11), .ref (q 12), .ref (q 13), .ref (q 14), .int 0, .ref (q 16), .long (Int32.toInt64 n)])), (q 16, .inl (cI, 6, .inl (fun _ => 0)))]) (C := RX11) (T := TX11) (N := 18) (v := .long (Int32.toInt64 n)) hx hb hts inlX11 tyX11 tyX11_ok nmX11 hown hK hP hD hS 0 rfl rfl 17 (by decide) w_2_140 rfl rfl rfl (Nat.le_of_ble_eq_true rfl) rfl dX11_seed_13 (fun H locs hP hD hS => ?_)
    refine lv_iconst (v := 1) hx hb dX11_seed_16 (by decide) ?_
    have hP := hP.sub (ws' := []) [] rfl
    have hD := hD.sub (ws' := []) [] (by decide) rfl
    exact sk_iret hx hb hr rfl hlocks hK hP hD hS (⟨by simp only [sp_seed, if_pos c_1], rfl⟩) (Nat.le_of_ble_eq_true rfl) (Nat.le_of_ble_eq_true rfl) dX11_seed_17
  · refine lv_aload_n hx hb dX11_seed_4 rfl (lv_at hl 0 rfl) ?_
    refine lv_iconst (v := 5) hx hb dX11_seed_5 (by decide) ?_
    refine sk_Vi (q0 := 0) (n := 1) (rest := []) (wr := []) ⟨hx, hb, hml, hown, hts⟩ hl.1 (c_x_refuseIt l D cI cJ cC cZ cS x0 q 5 (fun _ => 0) (by unfold vp_in; decide)) w_2_198 w_2_200 w_0_1 w_1_1 w_2_201 (by decide +kernel) ⟨⟨(Nat.le_of_ble_eq_true rfl), (Nat.le_of_ble_eq_true rfl)⟩, (Nat.le_of_ble_eq_true rfl), (Nat.le_of_ble_eq_true rfl)⟩ hK hP hD hS hA [0, 1] [] rfl rfl (by decide) (by decide) (by decide) rfl rfl rfl rfl (Nat.le_of_ble_eq_true rfl) dX11_seed_6 (fun r_3 u H locs hw hP hD hS => ?_)
    obtain ⟨f2_2, rfl, rfl⟩ := hw
    have hP : va_P D vwCl [(x0, .inr (11, [.ref (q 0), .ref (q 1), .ref (q 2), .ref (q 3), .ref (q 4), .ref (q 5), .ref (q 6), .ref (q 7), .ref (q 8), .ref (q 9), .ref (q 10), .ref (q 11), .ref (q 12), .ref (q 13), .ref (q 14), .int 0, .ref (q 16), .long 1])), (q 16, .inl (cI, 6, .inl f2_2))] H := hP
    have hD : va_D A [(x0, .inr (11, [.ref (q 0), .ref (q 1), .ref (q 2), .ref (q 3), .ref (q 4), .ref (q 5), .ref (q 6), .ref (q 7), .ref (q 8), .ref (q 9), .ref (q 10), .ref (q 11), .ref (q 12), .ref (q 13), .ref (q 14), .int 0, .ref (q 16), .long 1])), (q 16, .inl (cI, 6, .inl f2_2))] := hD
    refine W.widen (k := 0) (n := 0) (Nat.le_of_ble_eq_true rfl) (Nat.le_of_ble_eq_true rfl) ?_
    have hP := hP.sub (ws' := []) [] rfl
    have hD := hD.sub (ws' := []) [] (by decide) rfl
    exact sk_iret hx hb hr rfl hlocks hK hP hD hS (⟨by simp only [sp_seed, if_neg c_1], rfl⟩) (Nat.le_of_ble_eq_true rfl) (Nat.le_of_ble_eq_true rfl) dX11_seed_9
theorem dX11_ask_0 : decode cX11_ask 0 = .ok (.aload_n 0, 1) := by decide +kernel
theorem dX11_ask_1 : decode cX11_ask 1 = .ok (.invokevirtual 204, 3) := by decide +kernel
theorem dX11_ask_4 : decode cX11_ask 4 = .ok (.ifCond .ne 15, 3) := by decide +kernel
theorem dX11_ask_7 : decode cX11_ask 7 = .ok (.aload_n 0, 1) := by decide +kernel
theorem dX11_ask_8 : decode cX11_ask 8 = .ok (.getfield 12, 3) := by decide +kernel
theorem dX11_ask_11 : decode cX11_ask 11 = .ok (.iconst 0, 1) := by decide +kernel
theorem dX11_ask_12 : decode cX11_ask 12 = .ok (.putfield 110, 3) := by decide +kernel
theorem dX11_ask_15 : decode cX11_ask 15 = .ok (.ldc2_w 198, 3) := by decide +kernel
theorem dX11_ask_18 : decode cX11_ask 18 = .ok (.lreturn, 1) := by decide +kernel
theorem w_5_62 : (Cond.code yX11_ask cX11_ask 1 (some .long)) ∈ wsL_law := sk_mem (ck_5 _ (List.mem_of_getElem? (i := 62) rfl)) rfl
set_option maxHeartbeats 4000000 in
set_option maxRecDepth 100000 in
theorem c_x_ask (l : Launch) (D : va_G) (cI cJ cC cZ cS : ClassId) (x0 : Nat) (q : Nat → Nat)  : skM l yX11_ask cX11_ask 1 (some .long) 1 20 0 0 D (skT cI cJ cC cZ cS) [.ref x0] [(x0, .inr (11, [.ref (q 0), .ref (q 1), .ref (q 2), .ref (q 3), .ref (q 4), .ref (q 5), .ref (q 6), .ref (q 7), .ref (q 8), .ref (q 9), .ref (q 10), .ref (q 11), .ref (q 12), .ref (q 13), .ref (q 14), .int 0, .ref (q 16), .long 1])), (q 7, .inr (7, [.ref (q 33), .ref (q 34), .int 0, .int 0, .int 0, .int 0, .int 0])), (q 0, .inr (10, [.ref (q 20), .int 0]))] (skL D (skT cI cJ cC cZ cS) (fun (r : Int64) (u : va_W) => r = -1000000000000000 ∧ u = [])) := by
  refine skM_of (by decide) (Nat.le_of_ble_eq_true rfl) ?_
  intro p e s m below meth c A ls E hP hD hl
  obtain ⟨hx, hb, hr, hml, hlocks, hin, hown, hts, hK, hA⟩ := E
  have hown : s.vm.findClass RX11 = some m.cls := hown
  have hS : va_S A s.heap s.heap [] := va_S.rf
  have hl : lv_has ls 1 [(0, .ref x0)] := hl
  refine lv_aload_n hx hb dX11_ask_0 rfl (lv_at hl 0 rfl) ?_
  refine sk_Vi (q0 := 0) (n := 0) (rest := []) (wr := [(q 0, .inr (10, [.ref (q 20), .int 0]))]) ⟨hx, hb, hml, hown, hts⟩ hl.1 (c_x_isLocked l D cI cJ cC cZ cS x0 q) w_4_39 w_4_41 w_0_18 w_1_1 w_4_42 (by decide +kernel) ⟨⟨(Nat.le_of_ble_eq_true rfl), (Nat.le_of_ble_eq_true rfl)⟩, (Nat.le_of_ble_eq_true rfl), (Nat.le_of_ble_eq_true rfl)⟩ hK hP hD hS hA [0, 1] [2] rfl rfl (by decide) (by decide) (by decide) rfl rfl rfl rfl (Nat.le_of_ble_eq_true rfl) dX11_ask_1 (fun r_1 u H locs hw hP hD hS => ?_)
  obtain ⟨rfl, rfl⟩ := hw
  have hP : va_P D vwCl [(q 0, .inr (10, [.ref (q 20), .int 0])), (x0, .inr (11, [.ref (q 0), .ref (q 1), .ref (q 2), .ref (q 3), .ref (q 4), .ref (q 5), .ref (q 6), .ref (q 7), .ref (q 8), .ref (q 9), .ref (q 10), .ref (q 11), .ref (q 12), .ref (q 13), .ref (q 14), .int 0, .ref (q 16), .long 1])), (q 7, .inr (7, [.ref (q 33), .ref (q 34), .int 0, .int 0, .int 0, .int 0, .int 0]))] H := hP
  have hD : va_D A [(q 0, .inr (10, [.ref (q 20), .int 0])), (x0, .inr (11, [.ref (q 0), .ref (q 1), .ref (q 2), .ref (q 3), .ref (q 4), .ref (q 5), .ref (q 6), .ref (q 7), .ref (q 8), .ref (q 9), .ref (q 10), .ref (q 11), .ref (q 12), .ref (q 13), .ref (q 14), .int 0, .ref (q 16), .long 1])), (q 7, .inr (7, [.ref (q 33), .ref (q 34), .int 0, .int 0, .int 0, .int 0, .int 0]))] := hD
  refine W.widen (k := 0) (n := 0) (Nat.le_of_ble_eq_true rfl) (Nat.le_of_ble_eq_true rfl) ?_
  refine lv_if_ne (tgt := 19) hx hb dX11_ask_4 (by decide) (fun c => absurd c (by decide)) (fun c_2 => ?_)
  refine lv_aload_n hx hb dX11_ask_7 rfl (lv_at hl 0 rfl) ?_
  refine sk_get (v := .ref (q 0)) (C := RX11) (T := TX11) (N := 18) hx hb hts inlX11 hown hK hP 1 rfl rfl 0 (by decide) w_2_123 rfl dX11_ask_8 ?_
  refine lv_iconst (v := 0) hx hb dX11_ask_11 (by decide) ?_
  refine sk_put (ws' := [(q 0, .inr (10, [.ref (q 20), .int 0])), (x0, .inr (11, [.ref (q 0), .ref (q 1), .ref (q 2), .ref (q 3), .ref (q 4), .ref (q 5), .ref (q 6), .ref (q 7), .ref (q 8), .ref (q 9), .ref (q 10), .ref (q 11), .ref (q 12), .ref (q 13), .ref (q 14), .int 0, .ref (q 16), .long 1])), (q 7, .inr (7, [.ref (q 33), .ref (q 34), .int 0, .int 0, .int 0, .int 0, .int 0]))]) (C := RX10) (T := TX10) (N := 2) (v := .int 0) hx hb hts inlX10 tyX10 tyX10_ok nmX10 hown hK hP hD hS 0 rfl rfl 1 (by decide) w_1_42 rfl rfl rfl (Nat.le_of_ble_eq_true rfl) rfl dX11_ask_12 (fun H locs hP hD hS => ?_)
  refine lv_ldc2 (v := (-1000000000000000)) hx hb hown (hts _ w_4_29) dX11_ask_15 ?_
  have hP := hP.sub (ws' := []) [] rfl
  have hD := hD.sub (ws' := []) [] (by decide) rfl
  exact sk_lret hx hb hr hlocks hK hP hD hS (⟨rfl, rfl⟩) (Nat.le_of_ble_eq_true rfl) (Nat.le_of_ble_eq_true rfl) dX11_ask_18
theorem dX10_left_0 : decode cX10_left 0 = .ok (.iload_n 1, 1) := by decide +kernel
theorem dX10_left_1 : decode cX10_left 1 = .ok (.ifCond .lt 21, 3) := by decide +kernel
theorem dX10_left_4 : decode cX10_left 4 = .ok (.iload_n 1, 1) := by decide +kernel
theorem dX10_left_5 : decode cX10_left 5 = .ok (.aload_n 0, 1) := by decide +kernel
theorem dX10_left_6 : decode cX10_left 6 = .ok (.getfield 19, 3) := by decide +kernel
theorem dX10_left_9 : decode cX10_left 9 = .ok (.arraylength, 1) := by decide +kernel
theorem dX10_left_10 : decode cX10_left 10 = .ok (.if_icmp .ge 12, 3) := by decide +kernel
theorem dX10_left_13 : decode cX10_left 13 = .ok (.aload_n 0, 1) := by decide +kernel
theorem dX10_left_14 : decode cX10_left 14 = .ok (.getfield 19, 3) := by decide +kernel
theorem dX10_left_17 : decode cX10_left 17 = .ok (.iload_n 1, 1) := by decide +kernel
theorem dX10_left_18 : decode cX10_left 18 = .ok (.iaload, 1) := by decide +kernel
theorem dX10_left_19 : decode cX10_left 19 = .ok (.goto 4, 3) := by decide +kernel
theorem dX10_left_23 : decode cX10_left 23 = .ok (.ireturn, 1) := by decide +kernel
theorem w_4_217 : (Cond.code yX10_left cX10_left 2 (some .int)) ∈ wsL_law := sk_mem (ck_4 _ (List.mem_of_getElem? (i := 217) rfl)) rfl
set_option maxHeartbeats 4000000 in
set_option maxRecDepth 100000 in
theorem c_tp_left (l : Launch) (D : va_G) (cI cJ cC cZ cS : ClassId) (q : Nat → Nat) (ln : Int32) (f : Nat → Int32) (i : Int32) (h0 : ¬ i < 0) (h1 : ¬ (31 : Int32) ≤ i) (hv : vp_in i 31) : skM l yX10_left cX10_left 2 (some .int) 0 0 0 0 D (skT cI cJ cC cZ cS) [.ref (q 1), .int i] [(q 1, .inr (10, [.ref (q 21), .int ln])), (q 21, .inl (cI, 31, .inl f))] (skI D (skT cI cJ cC cZ cS) (fun (r : Int32) (u : va_W) => u = [(q 1, .inr (10, [.ref (q 21), .int ln])), (q 21, .inl (cI, 31, .inl f))])) := by
  refine skM_of (by decide) (Nat.le_of_ble_eq_true rfl) ?_
  intro p e s m below meth c A ls E hP hD hl
  obtain ⟨hx, hb, hr, hml, hlocks, hin, hown, hts, hK, hA⟩ := E
  have hown : s.vm.findClass RX10 = some m.cls := hown
  have hS : va_S A s.heap s.heap [] := va_S.rf
  have hl : lv_has ls 2 [(0, .ref (q 1)), (1, .int i)] := hl
  refine lv_iload_n hx hb dX10_left_0 rfl (lv_at hl 1 rfl) ?_
  refine lv_if_lt (tgt := 22) hx hb dX10_left_1 (by decide) (fun c => absurd c (h0)) (fun c_1 => ?_)
  refine lv_iload_n hx hb dX10_left_4 rfl (lv_at hl 1 rfl) ?_
  refine lv_aload_n hx hb dX10_left_5 rfl (lv_at hl 0 rfl) ?_
  refine sk_get (v := .ref (q 21)) (C := RX10) (T := TX10) (N := 2) hx hb hts inlX10 hown hK hP 0 rfl rfl 0 (by decide) w_1_39 rfl dX10_left_6 ?_
  refine va_alen (v := 31) hx hb hK.1 hP 1 0 rfl rfl rfl dX10_left_9 ?_
  refine lv_icmp_ge (tgt := 22) hx hb dX10_left_10 (by decide) (fun c => absurd c (h1)) (fun c_2 => ?_)
  refine lv_aload_n hx hb dX10_left_13 rfl (lv_at hl 0 rfl) ?_
  refine sk_get (v := .ref (q 21)) (C := RX10) (T := TX10) (N := 2) hx hb hts inlX10 hown hK hP 0 rfl rfl 0 (by decide) w_1_39 rfl dX10_left_14 ?_
  refine lv_iload_n hx hb dX10_left_17 rfl (lv_at hl 1 rfl) ?_
  refine va_iald hx hb hK.1 hP 1 0 rfl rfl hv dX10_left_18 ?_
  refine lv_topi (fun v_3 ev_3 => ?_)
  refine lv_goto (tgt := 23) hx hb dX10_left_19 (by decide) ?_
  exact sk_iret hx hb hr rfl hlocks hK hP hD hS rfl (Nat.le_of_ble_eq_true rfl) (Nat.le_of_ble_eq_true rfl) dX10_left_23
theorem dX10_checkOf_0 : decode cX10_checkOf 0 = .ok (.sipush 139, 3) := by decide +kernel
theorem dX10_checkOf_3 : decode cX10_checkOf 3 = .ok (.istore_n 2, 1) := by decide +kernel
theorem dX10_checkOf_4 : decode cX10_checkOf 4 = .ok (.iconst 0, 1) := by decide +kernel
theorem dX10_checkOf_5 : decode cX10_checkOf 5 = .ok (.istore_n 3, 1) := by decide +kernel
theorem dX10_checkOf_6 : decode cX10_checkOf 6 = .ok (.iload_n 3, 1) := by decide +kernel
theorem dX10_checkOf_7 : decode cX10_checkOf 7 = .ok (.iload_n 1, 1) := by decide +kernel
theorem dX10_checkOf_8 : decode cX10_checkOf 8 = .ok (.if_icmp .ge 23, 3) := by decide +kernel
theorem dX10_checkOf_11 : decode cX10_checkOf 11 = .ok (.iconst 3, 1) := by decide +kernel
theorem dX10_checkOf_12 : decode cX10_checkOf 12 = .ok (.iload_n 2, 1) := by decide +kernel
theorem dX10_checkOf_13 : decode cX10_checkOf 13 = .ok (.imul, 1) := by decide +kernel
theorem dX10_checkOf_14 : decode cX10_checkOf 14 = .ok (.aload_n 0, 1) := by decide +kernel
theorem dX10_checkOf_15 : decode cX10_checkOf 15 = .ok (.iload_n 3, 1) := by decide +kernel
theorem dX10_checkOf_16 : decode cX10_checkOf 16 = .ok (.invokevirtual 27, 3) := by decide +kernel
theorem dX10_checkOf_19 : decode cX10_checkOf 19 = .ok (.iadd, 1) := by decide +kernel
theorem dX10_checkOf_20 : decode cX10_checkOf 20 = .ok (.sipush 251, 3) := by decide +kernel
theorem dX10_checkOf_23 : decode cX10_checkOf 23 = .ok (.irem, 1) := by decide +kernel
theorem dX10_checkOf_24 : decode cX10_checkOf 24 = .ok (.istore_n 2, 1) := by decide +kernel
theorem dX10_checkOf_25 : decode cX10_checkOf 25 = .ok (.iinc 3 1, 3) := by decide +kernel
theorem dX10_checkOf_28 : decode cX10_checkOf 28 = .ok (.goto (-22), 3) := by decide +kernel
theorem dX10_checkOf_31 : decode cX10_checkOf 31 = .ok (.iload_n 2, 1) := by decide +kernel
theorem dX10_checkOf_32 : decode cX10_checkOf 32 = .ok (.ireturn, 1) := by decide +kernel
theorem w_5_132 : (Cond.methodLink RX10 27 yX10_left) ∈ wsL_law := sk_mem (ck_5 _ (List.mem_of_getElem? (i := 132) rfl)) rfl
theorem w_4_215 : (Cond.instanceMethod yX10_left) ∈ wsL_law := sk_mem (ck_4 _ (List.mem_of_getElem? (i := 215) rfl)) rfl
theorem w_4_216 : (Cond.selects RX10 yX10_left yX10_left) ∈ wsL_law := sk_mem (ck_4 _ (List.mem_of_getElem? (i := 216) rfl)) rfl
theorem w_5_131 : (Cond.code yX10_checkOf cX10_checkOf 4 (some .int)) ∈ wsL_law := sk_mem (ck_5 _ (List.mem_of_getElem? (i := 131) rfl)) rfl
set_option maxHeartbeats 4000000 in
set_option maxRecDepth 100000 in
theorem c_tp_checkOf (l : Launch) (D : va_G) (cI cJ cC cZ cS : ClassId) (q : Nat → Nat) (ln : Int32) (f : Nat → Int32)  : skM l yX10_checkOf cX10_checkOf 4 (some .int) 1 21 0 0 D (skT cI cJ cC cZ cS) [.ref (q 1), .int 3] [(q 1, .inr (10, [.ref (q 21), .int ln])), (q 21, .inl (cI, 31, .inl f))] (skI D (skT cI cJ cC cZ cS) (fun (r : Int32) (u : va_W) => u = [(q 1, .inr (10, [.ref (q 21), .int ln])), (q 21, .inl (cI, 31, .inl f))])) := by
  refine skM_of (by decide) (Nat.le_of_ble_eq_true rfl) ?_
  intro p e s m below meth c A ls E hP hD hl
  obtain ⟨hx, hb, hr, hml, hlocks, hin, hown, hts, hK, hA⟩ := E
  have hown : s.vm.findClass RX10 = some m.cls := hown
  have hS : va_S A s.heap s.heap [] := va_S.rf
  have hl : lv_has ls 4 [(0, .ref (q 1)), (1, .int 3)] := hl
  refine lv_sipush (v := 139) hx hb dX10_checkOf_0 (by decide) ?_
  refine lv_istore_n (lv' := [(2, .int 139), (0, .ref (q 1)), (1, .int 3)]) hx hb dX10_checkOf_3 rfl hl (by decide) rfl (fun ls hl => ?_)
  refine lv_iconst (v := 0) hx hb dX10_checkOf_4 (by decide) ?_
  refine lv_istore_n (lv' := [(3, .int 0), (2, .int 139), (0, .ref (q 1)), (1, .int 3)]) hx hb dX10_checkOf_5 rfl hl (by decide) rfl (fun ls hl => ?_)
  refine lv_iload_n hx hb dX10_checkOf_6 rfl (lv_at hl 0 rfl) ?_
  refine lv_iload_n hx hb dX10_checkOf_7 rfl (lv_at hl 3 rfl) ?_
  refine lv_icmp_ge (tgt := 31) hx hb dX10_checkOf_8 (by decide) (fun c => absurd c (by decide)) (fun c_1 => ?_)
  refine lv_iconst (v := 3) hx hb dX10_checkOf_11 (by decide) ?_
  refine lv_iload_n hx hb dX10_checkOf_12 rfl (lv_at hl 1 rfl) ?_
  refine lv_imul hx hb dX10_checkOf_13 ?_
  refine sk_top 417 (by decide) ?_
  refine lv_aload_n hx hb dX10_checkOf_14 rfl (lv_at hl 2 rfl) ?_
  refine lv_iload_n hx hb dX10_checkOf_15 rfl (lv_at hl 0 rfl) ?_
  refine sk_Vi (q0 := 0) (n := 1) (rest := [.int 417]) (wr := []) ⟨hx, hb, hml, hown, hts⟩ hl.1 (c_tp_left l D cI cJ cC cZ cS q ln f 0 (by decide) (by decide) (by unfold vp_in; decide)) w_5_132 w_4_215 w_4_216 w_1_2 w_4_217 (by decide +kernel) ⟨⟨(Nat.le_of_ble_eq_true rfl), (Nat.le_of_ble_eq_true rfl)⟩, (Nat.le_of_ble_eq_true rfl), (Nat.le_of_ble_eq_true rfl)⟩ hK hP hD hS hA [0, 1] [] rfl rfl (by decide) (by decide) (by decide) rfl rfl rfl rfl (Nat.le_of_ble_eq_true rfl) dX10_checkOf_16 (fun r_2 u H locs hw hP hD hS => ?_)
  obtain rfl := hw
  have hP : va_P D vwCl [(q 1, .inr (10, [.ref (q 21), .int ln])), (q 21, .inl (cI, 31, .inl f))] H := hP
  have hD : va_D A [(q 1, .inr (10, [.ref (q 21), .int ln])), (q 21, .inl (cI, 31, .inl f))] := hD
  refine W.widen (k := 0) (n := 0) (Nat.le_of_ble_eq_true rfl) (Nat.le_of_ble_eq_true rfl) ?_
  refine lv_iadd hx hb dX10_checkOf_19 ?_
  refine lv_topi (fun v_3 ev_3 => ?_)
  refine lv_sipush (v := 251) hx hb dX10_checkOf_20 (by decide) ?_
  refine lv_irem hx hb dX10_checkOf_23 (by decide) ?_
  refine lv_topi (fun v_4 ev_4 => ?_)
  refine lv_istore_n (lv' := [(2, .int v_4), (3, .int 0), (0, .ref (q 1)), (1, .int 3)]) hx hb dX10_checkOf_24 rfl hl (by decide) rfl (fun ls hl => ?_)
  refine lv_iinc (v := 1) (lv' := [(3, .int 1), (2, .int v_4), (0, .ref (q 1)), (1, .int 3)]) hx hb dX10_checkOf_25 hl (k := 1) rfl (by decide) (by decide) rfl (fun ls hl => ?_)
  refine lv_goto (tgt := 6) hx hb dX10_checkOf_28 (by decide) ?_
  refine lv_iload_n hx hb dX10_checkOf_6 rfl (lv_at hl 0 rfl) ?_
  refine lv_iload_n hx hb dX10_checkOf_7 rfl (lv_at hl 3 rfl) ?_
  refine lv_icmp_ge (tgt := 31) hx hb dX10_checkOf_8 (by decide) (fun c => absurd c (by decide)) (fun c_5 => ?_)
  refine lv_iconst (v := 3) hx hb dX10_checkOf_11 (by decide) ?_
  refine lv_iload_n hx hb dX10_checkOf_12 rfl (lv_at hl 1 rfl) ?_
  refine lv_imul hx hb dX10_checkOf_13 ?_
  refine lv_topi (fun v_6 ev_6 => ?_)
  refine lv_aload_n hx hb dX10_checkOf_14 rfl (lv_at hl 2 rfl) ?_
  refine lv_iload_n hx hb dX10_checkOf_15 rfl (lv_at hl 0 rfl) ?_
  refine sk_Vi (q0 := 0) (n := 1) (rest := [.int v_6]) (wr := []) ⟨hx, hb, hml, hown, hts⟩ hl.1 (c_tp_left l D cI cJ cC cZ cS q ln f 1 (by decide) (by decide) (by unfold vp_in; decide)) w_5_132 w_4_215 w_4_216 w_1_2 w_4_217 (by decide +kernel) ⟨⟨(Nat.le_of_ble_eq_true rfl), (Nat.le_of_ble_eq_true rfl)⟩, (Nat.le_of_ble_eq_true rfl), (Nat.le_of_ble_eq_true rfl)⟩ hK hP hD hS hA [0, 1] [] rfl rfl (by decide) (by decide) (by decide) rfl rfl rfl rfl (Nat.le_of_ble_eq_true rfl) dX10_checkOf_16 (fun r_7 u H locs hw hP hD hS => ?_)
  obtain rfl := hw
  have hP : va_P D vwCl [(q 1, .inr (10, [.ref (q 21), .int ln])), (q 21, .inl (cI, 31, .inl f))] H := hP
  have hD : va_D A [(q 1, .inr (10, [.ref (q 21), .int ln])), (q 21, .inl (cI, 31, .inl f))] := hD
  refine W.widen (k := 0) (n := 0) (Nat.le_of_ble_eq_true rfl) (Nat.le_of_ble_eq_true rfl) ?_
  refine lv_iadd hx hb dX10_checkOf_19 ?_
  refine lv_topi (fun v_8 ev_8 => ?_)
  refine lv_sipush (v := 251) hx hb dX10_checkOf_20 (by decide) ?_
  refine lv_irem hx hb dX10_checkOf_23 (by decide) ?_
  refine lv_topi (fun v_9 ev_9 => ?_)
  refine lv_istore_n (lv' := [(2, .int v_9), (3, .int 1), (0, .ref (q 1)), (1, .int 3)]) hx hb dX10_checkOf_24 rfl hl (by decide) rfl (fun ls hl => ?_)
  refine lv_iinc (v := 2) (lv' := [(3, .int 2), (2, .int v_9), (0, .ref (q 1)), (1, .int 3)]) hx hb dX10_checkOf_25 hl (k := 1) rfl (by decide) (by decide) rfl (fun ls hl => ?_)
  refine lv_goto (tgt := 6) hx hb dX10_checkOf_28 (by decide) ?_
  refine lv_iload_n hx hb dX10_checkOf_6 rfl (lv_at hl 0 rfl) ?_
  refine lv_iload_n hx hb dX10_checkOf_7 rfl (lv_at hl 3 rfl) ?_
  refine lv_icmp_ge (tgt := 31) hx hb dX10_checkOf_8 (by decide) (fun c => absurd c (by decide)) (fun c_10 => ?_)
  refine lv_iconst (v := 3) hx hb dX10_checkOf_11 (by decide) ?_
  refine lv_iload_n hx hb dX10_checkOf_12 rfl (lv_at hl 1 rfl) ?_
  refine lv_imul hx hb dX10_checkOf_13 ?_
  refine lv_topi (fun v_11 ev_11 => ?_)
  refine lv_aload_n hx hb dX10_checkOf_14 rfl (lv_at hl 2 rfl) ?_
  refine lv_iload_n hx hb dX10_checkOf_15 rfl (lv_at hl 0 rfl) ?_
  refine sk_Vi (q0 := 0) (n := 1) (rest := [.int v_11]) (wr := []) ⟨hx, hb, hml, hown, hts⟩ hl.1 (c_tp_left l D cI cJ cC cZ cS q ln f 2 (by decide) (by decide) (by unfold vp_in; decide)) w_5_132 w_4_215 w_4_216 w_1_2 w_4_217 (by decide +kernel) ⟨⟨(Nat.le_of_ble_eq_true rfl), (Nat.le_of_ble_eq_true rfl)⟩, (Nat.le_of_ble_eq_true rfl), (Nat.le_of_ble_eq_true rfl)⟩ hK hP hD hS hA [0, 1] [] rfl rfl (by decide) (by decide) (by decide) rfl rfl rfl rfl (Nat.le_of_ble_eq_true rfl) dX10_checkOf_16 (fun r_12 u H locs hw hP hD hS => ?_)
  obtain rfl := hw
  have hP : va_P D vwCl [(q 1, .inr (10, [.ref (q 21), .int ln])), (q 21, .inl (cI, 31, .inl f))] H := hP
  have hD : va_D A [(q 1, .inr (10, [.ref (q 21), .int ln])), (q 21, .inl (cI, 31, .inl f))] := hD
  refine W.widen (k := 0) (n := 0) (Nat.le_of_ble_eq_true rfl) (Nat.le_of_ble_eq_true rfl) ?_
  refine lv_iadd hx hb dX10_checkOf_19 ?_
  refine lv_topi (fun v_13 ev_13 => ?_)
  refine lv_sipush (v := 251) hx hb dX10_checkOf_20 (by decide) ?_
  refine lv_irem hx hb dX10_checkOf_23 (by decide) ?_
  refine lv_topi (fun v_14 ev_14 => ?_)
  refine lv_istore_n (lv' := [(2, .int v_14), (3, .int 2), (0, .ref (q 1)), (1, .int 3)]) hx hb dX10_checkOf_24 rfl hl (by decide) rfl (fun ls hl => ?_)
  refine lv_iinc (v := 3) (lv' := [(3, .int 3), (2, .int v_14), (0, .ref (q 1)), (1, .int 3)]) hx hb dX10_checkOf_25 hl (k := 1) rfl (by decide) (by decide) rfl (fun ls hl => ?_)
  refine lv_goto (tgt := 6) hx hb dX10_checkOf_28 (by decide) ?_
  refine lv_iload_n hx hb dX10_checkOf_6 rfl (lv_at hl 0 rfl) ?_
  refine lv_iload_n hx hb dX10_checkOf_7 rfl (lv_at hl 3 rfl) ?_
  refine lv_icmp_ge (tgt := 31) hx hb dX10_checkOf_8 (by decide) (fun c_15 => ?_) (fun c => absurd c (by decide))
  refine lv_iload_n hx hb dX10_checkOf_31 rfl (lv_at hl 1 rfl) ?_
  exact sk_iret hx hb hr rfl hlocks hK hP hD hS rfl (Nat.le_of_ble_eq_true rfl) (Nat.le_of_ble_eq_true rfl) dX10_checkOf_32
theorem dX11_image_0 : decode cX11_image 0 = .ok (.aload_n 0, 1) := by decide +kernel
theorem dX11_image_1 : decode cX11_image 1 = .ok (.getfield 18, 3) := by decide +kernel
theorem dX11_image_4 : decode cX11_image 4 = .ok (.iconst 0, 1) := by decide +kernel
theorem dX11_image_5 : decode cX11_image 5 = .ok (.putfield 110, 3) := by decide +kernel
theorem dX11_image_8 : decode cX11_image 8 = .ok (.aload_n 0, 1) := by decide +kernel
theorem dX11_image_9 : decode cX11_image 9 = .ok (.getfield 18, 3) := by decide +kernel
theorem dX11_image_12 : decode cX11_image 12 = .ok (.aload_n 0, 1) := by decide +kernel
theorem dX11_image_13 : decode cX11_image 13 = .ok (.getfield 59, 3) := by decide +kernel
theorem dX11_image_16 : decode cX11_image 16 = .ok (.getfield 147, 3) := by decide +kernel
theorem dX11_image_19 : decode cX11_image 19 = .ok (.bipush 8, 2) := by decide +kernel
theorem dX11_image_21 : decode cX11_image 21 = .ok (.ishr, 1) := by decide +kernel
theorem dX11_image_22 : decode cX11_image 22 = .ok (.invokevirtual 310, 3) := by decide +kernel
theorem dX11_image_25 : decode cX11_image 25 = .ok (.aload_n 0, 1) := by decide +kernel
theorem dX11_image_26 : decode cX11_image 26 = .ok (.getfield 18, 3) := by decide +kernel
theorem dX11_image_29 : decode cX11_image 29 = .ok (.aload_n 0, 1) := by decide +kernel
theorem dX11_image_30 : decode cX11_image 30 = .ok (.getfield 59, 3) := by decide +kernel
theorem dX11_image_33 : decode cX11_image 33 = .ok (.getfield 147, 3) := by decide +kernel
theorem dX11_image_36 : decode cX11_image 36 = .ok (.sipush 255, 3) := by decide +kernel
theorem dX11_image_39 : decode cX11_image 39 = .ok (.iand, 1) := by decide +kernel
theorem dX11_image_40 : decode cX11_image 40 = .ok (.invokevirtual 310, 3) := by decide +kernel
theorem dX11_image_43 : decode cX11_image 43 = .ok (.aload_n 0, 1) := by decide +kernel
theorem dX11_image_44 : decode cX11_image 44 = .ok (.getfield 18, 3) := by decide +kernel
theorem dX11_image_47 : decode cX11_image 47 = .ok (.aload_n 0, 1) := by decide +kernel
theorem dX11_image_48 : decode cX11_image 48 = .ok (.getfield 59, 3) := by decide +kernel
theorem dX11_image_51 : decode cX11_image 51 = .ok (.getfield 150, 3) := by decide +kernel
theorem dX11_image_54 : decode cX11_image 54 = .ok (.invokevirtual 310, 3) := by decide +kernel
theorem dX11_image_57 : decode cX11_image 57 = .ok (.iconst 0, 1) := by decide +kernel
theorem dX11_image_58 : decode cX11_image 58 = .ok (.istore_n 1, 1) := by decide +kernel
theorem dX11_image_59 : decode cX11_image 59 = .ok (.iload_n 1, 1) := by decide +kernel
theorem dX11_image_60 : decode cX11_image 60 = .ok (.aload_n 0, 1) := by decide +kernel
theorem dX11_image_61 : decode cX11_image 61 = .ok (.getfield 59, 3) := by decide +kernel
theorem dX11_image_64 : decode cX11_image 64 = .ok (.getfield 144, 3) := by decide +kernel
theorem dX11_image_67 : decode cX11_image 67 = .ok (.if_icmp .ge 64, 3) := by decide +kernel
theorem dX11_image_131 : decode cX11_image 131 = .ok (.aload_n 0, 1) := by decide +kernel
theorem dX11_image_132 : decode cX11_image 132 = .ok (.getfield 18, 3) := by decide +kernel
theorem dX11_image_135 : decode cX11_image 135 = .ok (.aload_n 0, 1) := by decide +kernel
theorem dX11_image_136 : decode cX11_image 136 = .ok (.getfield 18, 3) := by decide +kernel
theorem dX11_image_139 : decode cX11_image 139 = .ok (.aload_n 0, 1) := by decide +kernel
theorem dX11_image_140 : decode cX11_image 140 = .ok (.getfield 18, 3) := by decide +kernel
theorem dX11_image_143 : decode cX11_image 143 = .ok (.getfield 110, 3) := by decide +kernel
theorem dX11_image_146 : decode cX11_image 146 = .ok (.invokevirtual 313, 3) := by decide +kernel
theorem dX11_image_149 : decode cX11_image 149 = .ok (.invokevirtual 310, 3) := by decide +kernel
theorem dX11_image_152 : decode cX11_image 152 = .ok (.aload_n 0, 1) := by decide +kernel
theorem dX11_image_153 : decode cX11_image 153 = .ok (.getfield 18, 3) := by decide +kernel
theorem dX11_image_156 : decode cX11_image 156 = .ok (.getfield 110, 3) := by decide +kernel
theorem dX11_image_159 : decode cX11_image 159 = .ok (.ireturn, 1) := by decide +kernel
theorem w_5_127 : (Cond.methodLink RX11 310 yX10_add) ∈ wsL_law := sk_mem (ck_5 _ (List.mem_of_getElem? (i := 127) rfl)) rfl
theorem w_5_128 : (Cond.methodLink RX11 313 yX10_checkOf) ∈ wsL_law := sk_mem (ck_5 _ (List.mem_of_getElem? (i := 128) rfl)) rfl
theorem w_5_129 : (Cond.instanceMethod yX10_checkOf) ∈ wsL_law := sk_mem (ck_5 _ (List.mem_of_getElem? (i := 129) rfl)) rfl
theorem w_5_130 : (Cond.selects RX10 yX10_checkOf yX10_checkOf) ∈ wsL_law := sk_mem (ck_5 _ (List.mem_of_getElem? (i := 130) rfl)) rfl
theorem w_5_126 : (Cond.code yX11_image cX11_image 2 (some .int)) ∈ wsL_law := sk_mem (ck_5 _ (List.mem_of_getElem? (i := 126) rfl)) rfl
set_option maxHeartbeats 4000000 in
set_option maxRecDepth 100000 in
theorem c_x_image (l : Launch) (D : va_G) (cI cJ cC cZ cS : ClassId) (x0 : Nat) (q : Nat → Nat)  : skM l yX11_image cX11_image 2 (some .int) 2 44 0 0 D (skT cI cJ cC cZ cS) [.ref x0] [(x0, .inr (11, [.ref (q 0), .ref (q 1), .ref (q 2), .ref (q 3), .ref (q 4), .ref (q 5), .ref (q 6), .ref (q 7), .ref (q 8), .ref (q 9), .ref (q 10), .ref (q 11), .ref (q 12), .ref (q 13), .ref (q 14), .int 0, .ref (q 16), .long 1])), (q 1, .inr (10, [.ref (q 21), .int 0])), (q 21, .inl (cI, 31, .inl (fun _ => 0))), (q 7, .inr (7, [.ref (q 33), .ref (q 34), .int 0, .int 0, .int 0, .int 0, .int 0]))] (skI D (skT cI cJ cC cZ cS) (fun (r : Int32) (u : va_W) => r = 4 ∧ u = [])) := by
  refine skM_of (by decide) (Nat.le_of_ble_eq_true rfl) ?_
  intro p e s m below meth c A ls E hP hD hl
  obtain ⟨hx, hb, hr, hml, hlocks, hin, hown, hts, hK, hA⟩ := E
  have hown : s.vm.findClass RX11 = some m.cls := hown
  have hS : va_S A s.heap s.heap [] := va_S.rf
  have hl : lv_has ls 2 [(0, .ref x0)] := hl
  refine lv_aload_n hx hb dX11_image_0 rfl (lv_at hl 0 rfl) ?_
  refine sk_get (v := .ref (q 1)) (C := RX11) (T := TX11) (N := 18) hx hb hts inlX11 hown hK hP 0 rfl rfl 1 (by decide) w_2_124 rfl dX11_image_1 ?_
  refine lv_iconst (v := 0) hx hb dX11_image_4 (by decide) ?_
  refine sk_put (ws' := [(x0, .inr (11, [.ref (q 0), .ref (q 1), .ref (q 2), .ref (q 3), .ref (q 4), .ref (q 5), .ref (q 6), .ref (q 7), .ref (q 8), .ref (q 9), .ref (q 10), .ref (q 11), .ref (q 12), .ref (q 13), .ref (q 14), .int 0, .ref (q 16), .long 1])), (q 1, .inr (10, [.ref (q 21), .int 0])), (q 21, .inl (cI, 31, .inl (fun _ => 0))), (q 7, .inr (7, [.ref (q 33), .ref (q 34), .int 0, .int 0, .int 0, .int 0, .int 0]))]) (C := RX10) (T := TX10) (N := 2) (v := .int 0) hx hb hts inlX10 tyX10 tyX10_ok nmX10 hown hK hP hD hS 1 rfl rfl 1 (by decide) w_1_42 rfl rfl rfl (Nat.le_of_ble_eq_true rfl) rfl dX11_image_5 (fun H locs hP hD hS => ?_)
  refine lv_aload_n hx hb dX11_image_8 rfl (lv_at hl 0 rfl) ?_
  refine sk_get (v := .ref (q 1)) (C := RX11) (T := TX11) (N := 18) hx hb hts inlX11 hown hK hP 0 rfl rfl 1 (by decide) w_2_124 rfl dX11_image_9 ?_
  refine lv_aload_n hx hb dX11_image_12 rfl (lv_at hl 0 rfl) ?_
  refine sk_get (v := .ref (q 7)) (C := RX11) (T := TX11) (N := 18) hx hb hts inlX11 hown hK hP 0 rfl rfl 7 (by decide) w_2_130 rfl dX11_image_13 ?_
  refine sk_get (v := .int 0) (C := RX7) (T := TX7) (N := 7) hx hb hts inlX7 hown hK hP 3 rfl rfl 3 (by decide) w_2_6 rfl dX11_image_16 ?_
  refine lv_bipush (v := 8) hx hb dX11_image_19 (by decide) ?_
  refine lv_ishr hx hb dX11_image_21 ?_
  refine sk_top 0 (by decide) ?_
  refine sk_Vv (q0 := 0) (n := 1) (rest := []) (wr := [(x0, .inr (11, [.ref (q 0), .ref (q 1), .ref (q 2), .ref (q 3), .ref (q 4), .ref (q 5), .ref (q 6), .ref (q 7), .ref (q 8), .ref (q 9), .ref (q 10), .ref (q 11), .ref (q 12), .ref (q 13), .ref (q 14), .int 0, .ref (q 16), .long 1])), (q 7, .inr (7, [.ref (q 33), .ref (q 34), .int 0, .int 0, .int 0, .int 0, .int 0]))]) ⟨hx, hb, hml, hown, hts⟩ hl.1 (c_Tape_add_31 l D cI cJ cC cZ cS (q 1) (q 21) 0 0 (fun _ => 0) (by decide) (by unfold vp_in; decide)) w_5_127 w_2_191 w_2_192 w_1_2 w_2_193 (by decide +kernel) ⟨⟨(Nat.le_of_ble_eq_true rfl), (Nat.le_of_ble_eq_true rfl)⟩, (Nat.le_of_ble_eq_true rfl), (Nat.le_of_ble_eq_true rfl)⟩ hK hP hD hS hA [1, 2] [0, 3] rfl rfl (by decide) (by decide) (by decide) rfl rfl rfl rfl (Nat.le_of_ble_eq_true rfl) dX11_image_22 (fun u H locs hw hP hD hS => ?_)
  obtain ⟨f2_1, rfl⟩ := hw
  have hP : va_P D vwCl [(x0, .inr (11, [.ref (q 0), .ref (q 1), .ref (q 2), .ref (q 3), .ref (q 4), .ref (q 5), .ref (q 6), .ref (q 7), .ref (q 8), .ref (q 9), .ref (q 10), .ref (q 11), .ref (q 12), .ref (q 13), .ref (q 14), .int 0, .ref (q 16), .long 1])), (q 7, .inr (7, [.ref (q 33), .ref (q 34), .int 0, .int 0, .int 0, .int 0, .int 0])), (q 1, .inr (10, [.ref (q 21), .int 1])), (q 21, .inl (cI, 31, .inl f2_1))] H := hP
  have hD : va_D A [(x0, .inr (11, [.ref (q 0), .ref (q 1), .ref (q 2), .ref (q 3), .ref (q 4), .ref (q 5), .ref (q 6), .ref (q 7), .ref (q 8), .ref (q 9), .ref (q 10), .ref (q 11), .ref (q 12), .ref (q 13), .ref (q 14), .int 0, .ref (q 16), .long 1])), (q 7, .inr (7, [.ref (q 33), .ref (q 34), .int 0, .int 0, .int 0, .int 0, .int 0])), (q 1, .inr (10, [.ref (q 21), .int 1])), (q 21, .inl (cI, 31, .inl f2_1))] := hD
  refine W.widen (k := 0) (n := 0) (Nat.le_of_ble_eq_true rfl) (Nat.le_of_ble_eq_true rfl) ?_
  refine lv_aload_n hx hb dX11_image_25 rfl (lv_at hl 0 rfl) ?_
  refine sk_get (v := .ref (q 1)) (C := RX11) (T := TX11) (N := 18) hx hb hts inlX11 hown hK hP 0 rfl rfl 1 (by decide) w_2_124 rfl dX11_image_26 ?_
  refine lv_aload_n hx hb dX11_image_29 rfl (lv_at hl 0 rfl) ?_
  refine sk_get (v := .ref (q 7)) (C := RX11) (T := TX11) (N := 18) hx hb hts inlX11 hown hK hP 0 rfl rfl 7 (by decide) w_2_130 rfl dX11_image_30 ?_
  refine sk_get (v := .int 0) (C := RX7) (T := TX7) (N := 7) hx hb hts inlX7 hown hK hP 1 rfl rfl 3 (by decide) w_2_6 rfl dX11_image_33 ?_
  refine lv_sipush (v := 255) hx hb dX11_image_36 (by decide) ?_
  refine lv_iand hx hb dX11_image_39 ?_
  refine sk_top 0 (by decide) ?_
  refine sk_Vv (q0 := 0) (n := 1) (rest := []) (wr := [(x0, .inr (11, [.ref (q 0), .ref (q 1), .ref (q 2), .ref (q 3), .ref (q 4), .ref (q 5), .ref (q 6), .ref (q 7), .ref (q 8), .ref (q 9), .ref (q 10), .ref (q 11), .ref (q 12), .ref (q 13), .ref (q 14), .int 0, .ref (q 16), .long 1])), (q 7, .inr (7, [.ref (q 33), .ref (q 34), .int 0, .int 0, .int 0, .int 0, .int 0]))]) ⟨hx, hb, hml, hown, hts⟩ hl.1 (c_Tape_add_31 l D cI cJ cC cZ cS (q 1) (q 21) 1 0 f2_1 (by decide) (by unfold vp_in; decide)) w_5_127 w_2_191 w_2_192 w_1_2 w_2_193 (by decide +kernel) ⟨⟨(Nat.le_of_ble_eq_true rfl), (Nat.le_of_ble_eq_true rfl)⟩, (Nat.le_of_ble_eq_true rfl), (Nat.le_of_ble_eq_true rfl)⟩ hK hP hD hS hA [2, 3] [0, 1] rfl rfl (by decide) (by decide) (by decide) rfl rfl rfl rfl (Nat.le_of_ble_eq_true rfl) dX11_image_40 (fun u H locs hw hP hD hS => ?_)
  obtain ⟨f2_2, rfl⟩ := hw
  have hP : va_P D vwCl [(x0, .inr (11, [.ref (q 0), .ref (q 1), .ref (q 2), .ref (q 3), .ref (q 4), .ref (q 5), .ref (q 6), .ref (q 7), .ref (q 8), .ref (q 9), .ref (q 10), .ref (q 11), .ref (q 12), .ref (q 13), .ref (q 14), .int 0, .ref (q 16), .long 1])), (q 7, .inr (7, [.ref (q 33), .ref (q 34), .int 0, .int 0, .int 0, .int 0, .int 0])), (q 1, .inr (10, [.ref (q 21), .int 2])), (q 21, .inl (cI, 31, .inl f2_2))] H := hP
  have hD : va_D A [(x0, .inr (11, [.ref (q 0), .ref (q 1), .ref (q 2), .ref (q 3), .ref (q 4), .ref (q 5), .ref (q 6), .ref (q 7), .ref (q 8), .ref (q 9), .ref (q 10), .ref (q 11), .ref (q 12), .ref (q 13), .ref (q 14), .int 0, .ref (q 16), .long 1])), (q 7, .inr (7, [.ref (q 33), .ref (q 34), .int 0, .int 0, .int 0, .int 0, .int 0])), (q 1, .inr (10, [.ref (q 21), .int 2])), (q 21, .inl (cI, 31, .inl f2_2))] := hD
  refine W.widen (k := 0) (n := 0) (Nat.le_of_ble_eq_true rfl) (Nat.le_of_ble_eq_true rfl) ?_
  refine lv_aload_n hx hb dX11_image_43 rfl (lv_at hl 0 rfl) ?_
  refine sk_get (v := .ref (q 1)) (C := RX11) (T := TX11) (N := 18) hx hb hts inlX11 hown hK hP 0 rfl rfl 1 (by decide) w_2_124 rfl dX11_image_44 ?_
  refine lv_aload_n hx hb dX11_image_47 rfl (lv_at hl 0 rfl) ?_
  refine sk_get (v := .ref (q 7)) (C := RX11) (T := TX11) (N := 18) hx hb hts inlX11 hown hK hP 0 rfl rfl 7 (by decide) w_2_130 rfl dX11_image_48 ?_
  refine sk_get (v := .int 0) (C := RX7) (T := TX7) (N := 7) hx hb hts inlX7 hown hK hP 1 rfl rfl 4 (by decide) w_2_10 rfl dX11_image_51 ?_
  refine sk_Vv (q0 := 0) (n := 1) (rest := []) (wr := [(x0, .inr (11, [.ref (q 0), .ref (q 1), .ref (q 2), .ref (q 3), .ref (q 4), .ref (q 5), .ref (q 6), .ref (q 7), .ref (q 8), .ref (q 9), .ref (q 10), .ref (q 11), .ref (q 12), .ref (q 13), .ref (q 14), .int 0, .ref (q 16), .long 1])), (q 7, .inr (7, [.ref (q 33), .ref (q 34), .int 0, .int 0, .int 0, .int 0, .int 0]))]) ⟨hx, hb, hml, hown, hts⟩ hl.1 (c_Tape_add_31 l D cI cJ cC cZ cS (q 1) (q 21) 2 0 f2_2 (by decide) (by unfold vp_in; decide)) w_5_127 w_2_191 w_2_192 w_1_2 w_2_193 (by decide +kernel) ⟨⟨(Nat.le_of_ble_eq_true rfl), (Nat.le_of_ble_eq_true rfl)⟩, (Nat.le_of_ble_eq_true rfl), (Nat.le_of_ble_eq_true rfl)⟩ hK hP hD hS hA [2, 3] [0, 1] rfl rfl (by decide) (by decide) (by decide) rfl rfl rfl rfl (Nat.le_of_ble_eq_true rfl) dX11_image_54 (fun u H locs hw hP hD hS => ?_)
  obtain ⟨f2_3, rfl⟩ := hw
  have hP : va_P D vwCl [(x0, .inr (11, [.ref (q 0), .ref (q 1), .ref (q 2), .ref (q 3), .ref (q 4), .ref (q 5), .ref (q 6), .ref (q 7), .ref (q 8), .ref (q 9), .ref (q 10), .ref (q 11), .ref (q 12), .ref (q 13), .ref (q 14), .int 0, .ref (q 16), .long 1])), (q 7, .inr (7, [.ref (q 33), .ref (q 34), .int 0, .int 0, .int 0, .int 0, .int 0])), (q 1, .inr (10, [.ref (q 21), .int 3])), (q 21, .inl (cI, 31, .inl f2_3))] H := hP
  have hD : va_D A [(x0, .inr (11, [.ref (q 0), .ref (q 1), .ref (q 2), .ref (q 3), .ref (q 4), .ref (q 5), .ref (q 6), .ref (q 7), .ref (q 8), .ref (q 9), .ref (q 10), .ref (q 11), .ref (q 12), .ref (q 13), .ref (q 14), .int 0, .ref (q 16), .long 1])), (q 7, .inr (7, [.ref (q 33), .ref (q 34), .int 0, .int 0, .int 0, .int 0, .int 0])), (q 1, .inr (10, [.ref (q 21), .int 3])), (q 21, .inl (cI, 31, .inl f2_3))] := hD
  refine W.widen (k := 0) (n := 0) (Nat.le_of_ble_eq_true rfl) (Nat.le_of_ble_eq_true rfl) ?_
  refine lv_iconst (v := 0) hx hb dX11_image_57 (by decide) ?_
  refine lv_istore_n (lv' := [(1, .int 0), (0, .ref x0)]) hx hb dX11_image_58 rfl hl (by decide) rfl (fun ls hl => ?_)
  refine lv_iload_n hx hb dX11_image_59 rfl (lv_at hl 0 rfl) ?_
  refine lv_aload_n hx hb dX11_image_60 rfl (lv_at hl 1 rfl) ?_
  refine sk_get (v := .ref (q 7)) (C := RX11) (T := TX11) (N := 18) hx hb hts inlX11 hown hK hP 0 rfl rfl 7 (by decide) w_2_130 rfl dX11_image_61 ?_
  refine sk_get (v := .int 0) (C := RX7) (T := TX7) (N := 7) hx hb hts inlX7 hown hK hP 1 rfl rfl 2 (by decide) w_2_1 rfl dX11_image_64 ?_
  refine lv_icmp_ge (tgt := 131) hx hb dX11_image_67 (by decide) (fun c_4 => ?_) (fun c => absurd c (by decide))
  refine lv_aload_n hx hb dX11_image_131 rfl (lv_at hl 1 rfl) ?_
  refine sk_get (v := .ref (q 1)) (C := RX11) (T := TX11) (N := 18) hx hb hts inlX11 hown hK hP 0 rfl rfl 1 (by decide) w_2_124 rfl dX11_image_132 ?_
  refine lv_aload_n hx hb dX11_image_135 rfl (lv_at hl 1 rfl) ?_
  refine sk_get (v := .ref (q 1)) (C := RX11) (T := TX11) (N := 18) hx hb hts inlX11 hown hK hP 0 rfl rfl 1 (by decide) w_2_124 rfl dX11_image_136 ?_
  refine lv_aload_n hx hb dX11_image_139 rfl (lv_at hl 1 rfl) ?_
  refine sk_get (v := .ref (q 1)) (C := RX11) (T := TX11) (N := 18) hx hb hts inlX11 hown hK hP 0 rfl rfl 1 (by decide) w_2_124 rfl dX11_image_140 ?_
  refine sk_get (v := .int 3) (C := RX10) (T := TX10) (N := 2) hx hb hts inlX10 hown hK hP 2 rfl rfl 1 (by decide) w_1_42 rfl dX11_image_143 ?_
  refine sk_Vi (q0 := 0) (n := 1) (rest := [.ref (q 1)]) (wr := [(x0, .inr (11, [.ref (q 0), .ref (q 1), .ref (q 2), .ref (q 3), .ref (q 4), .ref (q 5), .ref (q 6), .ref (q 7), .ref (q 8), .ref (q 9), .ref (q 10), .ref (q 11), .ref (q 12), .ref (q 13), .ref (q 14), .int 0, .ref (q 16), .long 1])), (q 7, .inr (7, [.ref (q 33), .ref (q 34), .int 0, .int 0, .int 0, .int 0, .int 0]))]) ⟨hx, hb, hml, hown, hts⟩ hl.1 (c_tp_checkOf l D cI cJ cC cZ cS q 3 f2_3) w_5_128 w_5_129 w_5_130 w_1_2 w_5_131 (by decide +kernel) ⟨⟨(Nat.le_of_ble_eq_true rfl), (Nat.le_of_ble_eq_true rfl)⟩, (Nat.le_of_ble_eq_true rfl), (Nat.le_of_ble_eq_true rfl)⟩ hK hP hD hS hA [2, 3] [0, 1] rfl rfl (by decide) (by decide) (by decide) rfl rfl rfl rfl (Nat.le_of_ble_eq_true rfl) dX11_image_146 (fun r_5 u H locs hw hP hD hS => ?_)
  obtain rfl := hw
  have hP : va_P D vwCl [(x0, .inr (11, [.ref (q 0), .ref (q 1), .ref (q 2), .ref (q 3), .ref (q 4), .ref (q 5), .ref (q 6), .ref (q 7), .ref (q 8), .ref (q 9), .ref (q 10), .ref (q 11), .ref (q 12), .ref (q 13), .ref (q 14), .int 0, .ref (q 16), .long 1])), (q 7, .inr (7, [.ref (q 33), .ref (q 34), .int 0, .int 0, .int 0, .int 0, .int 0])), (q 1, .inr (10, [.ref (q 21), .int 3])), (q 21, .inl (cI, 31, .inl f2_3))] H := hP
  have hD : va_D A [(x0, .inr (11, [.ref (q 0), .ref (q 1), .ref (q 2), .ref (q 3), .ref (q 4), .ref (q 5), .ref (q 6), .ref (q 7), .ref (q 8), .ref (q 9), .ref (q 10), .ref (q 11), .ref (q 12), .ref (q 13), .ref (q 14), .int 0, .ref (q 16), .long 1])), (q 7, .inr (7, [.ref (q 33), .ref (q 34), .int 0, .int 0, .int 0, .int 0, .int 0])), (q 1, .inr (10, [.ref (q 21), .int 3])), (q 21, .inl (cI, 31, .inl f2_3))] := hD
  refine W.widen (k := 0) (n := 0) (Nat.le_of_ble_eq_true rfl) (Nat.le_of_ble_eq_true rfl) ?_
  refine sk_Vv (q0 := 0) (n := 1) (rest := []) (wr := [(x0, .inr (11, [.ref (q 0), .ref (q 1), .ref (q 2), .ref (q 3), .ref (q 4), .ref (q 5), .ref (q 6), .ref (q 7), .ref (q 8), .ref (q 9), .ref (q 10), .ref (q 11), .ref (q 12), .ref (q 13), .ref (q 14), .int 0, .ref (q 16), .long 1])), (q 7, .inr (7, [.ref (q 33), .ref (q 34), .int 0, .int 0, .int 0, .int 0, .int 0]))]) ⟨hx, hb, hml, hown, hts⟩ hl.1 (c_Tape_add_31 l D cI cJ cC cZ cS (q 1) (q 21) 3 r_5 f2_3 (by decide) (by unfold vp_in; decide)) w_5_127 w_2_191 w_2_192 w_1_2 w_2_193 (by decide +kernel) ⟨⟨(Nat.le_of_ble_eq_true rfl), (Nat.le_of_ble_eq_true rfl)⟩, (Nat.le_of_ble_eq_true rfl), (Nat.le_of_ble_eq_true rfl)⟩ hK hP hD hS hA [2, 3] [0, 1] rfl rfl (by decide) (by decide) (by decide) rfl rfl rfl rfl (Nat.le_of_ble_eq_true rfl) dX11_image_149 (fun u H locs hw hP hD hS => ?_)
  obtain ⟨f2_6, rfl⟩ := hw
  have hP : va_P D vwCl [(x0, .inr (11, [.ref (q 0), .ref (q 1), .ref (q 2), .ref (q 3), .ref (q 4), .ref (q 5), .ref (q 6), .ref (q 7), .ref (q 8), .ref (q 9), .ref (q 10), .ref (q 11), .ref (q 12), .ref (q 13), .ref (q 14), .int 0, .ref (q 16), .long 1])), (q 7, .inr (7, [.ref (q 33), .ref (q 34), .int 0, .int 0, .int 0, .int 0, .int 0])), (q 1, .inr (10, [.ref (q 21), .int 4])), (q 21, .inl (cI, 31, .inl f2_6))] H := hP
  have hD : va_D A [(x0, .inr (11, [.ref (q 0), .ref (q 1), .ref (q 2), .ref (q 3), .ref (q 4), .ref (q 5), .ref (q 6), .ref (q 7), .ref (q 8), .ref (q 9), .ref (q 10), .ref (q 11), .ref (q 12), .ref (q 13), .ref (q 14), .int 0, .ref (q 16), .long 1])), (q 7, .inr (7, [.ref (q 33), .ref (q 34), .int 0, .int 0, .int 0, .int 0, .int 0])), (q 1, .inr (10, [.ref (q 21), .int 4])), (q 21, .inl (cI, 31, .inl f2_6))] := hD
  refine W.widen (k := 0) (n := 0) (Nat.le_of_ble_eq_true rfl) (Nat.le_of_ble_eq_true rfl) ?_
  refine lv_aload_n hx hb dX11_image_152 rfl (lv_at hl 1 rfl) ?_
  refine sk_get (v := .ref (q 1)) (C := RX11) (T := TX11) (N := 18) hx hb hts inlX11 hown hK hP 0 rfl rfl 1 (by decide) w_2_124 rfl dX11_image_153 ?_
  refine sk_get (v := .int 4) (C := RX10) (T := TX10) (N := 2) hx hb hts inlX10 hown hK hP 2 rfl rfl 1 (by decide) w_1_42 rfl dX11_image_156 ?_
  have hP := hP.sub (ws' := []) [] rfl
  have hD := hD.sub (ws' := []) [] (by decide) rfl
  exact sk_iret hx hb hr rfl hlocks hK hP hD hS (⟨rfl, rfl⟩) (Nat.le_of_ble_eq_true rfl) (Nat.le_of_ble_eq_true rfl) dX11_image_159
theorem dX11_octet_0 : decode cX11_octet 0 = .ok (.iload_n 1, 1) := by decide +kernel
theorem dX11_octet_1 : decode cX11_octet 1 = .ok (.ifCond .lt 25, 3) := by decide +kernel
theorem dX11_octet_26 : decode cX11_octet 26 = .ok (.iconst (-1), 1) := by decide +kernel
theorem dX11_octet_27 : decode cX11_octet 27 = .ok (.ireturn, 1) := by decide +kernel
theorem dX11_octet_4 : decode cX11_octet 4 = .ok (.iload_n 1, 1) := by decide +kernel
theorem dX11_octet_5 : decode cX11_octet 5 = .ok (.aload_n 0, 1) := by decide +kernel
theorem dX11_octet_6 : decode cX11_octet 6 = .ok (.getfield 18, 3) := by decide +kernel
theorem dX11_octet_9 : decode cX11_octet 9 = .ok (.getfield 110, 3) := by decide +kernel
theorem dX11_octet_12 : decode cX11_octet 12 = .ok (.if_icmp .ge 14, 3) := by decide +kernel
theorem w_5_136 : (Cond.code yX11_octet cX11_octet 2 (some .int)) ∈ wsL_law := sk_mem (ck_5 _ (List.mem_of_getElem? (i := 136) rfl)) rfl
set_option maxHeartbeats 4000000 in
set_option maxRecDepth 100000 in
theorem c_x_octet (l : Launch) (D : va_G) (cI cJ cC cZ cS : ClassId) (x0 : Nat) (q : Nat → Nat) (k : Int32)  : skM l yX11_octet cX11_octet 2 (some .int) 0 0 0 0 D (skT cI cJ cC cZ cS) [.ref x0, .int k] [(x0, .inr (11, [.ref (q 0), .ref (q 1), .ref (q 2), .ref (q 3), .ref (q 4), .ref (q 5), .ref (q 6), .ref (q 7), .ref (q 8), .ref (q 9), .ref (q 10), .ref (q 11), .ref (q 12), .ref (q 13), .ref (q 14), .int 0, .ref (q 16), .long 1])), (q 1, .inr (10, [.ref (q 21), .int 0]))] (skI D (skT cI cJ cC cZ cS) (fun (r : Int32) (u : va_W) => r = -1 ∧ u = [])) := by
  refine skM_of (by decide) (Nat.le_of_ble_eq_true rfl) ?_
  intro p e s m below meth c A ls E hP hD hl
  obtain ⟨hx, hb, hr, hml, hlocks, hin, hown, hts, hK, hA⟩ := E
  have hown : s.vm.findClass RX11 = some m.cls := hown
  have hS : va_S A s.heap s.heap [] := va_S.rf
  have hl : lv_has ls 2 [(0, .ref x0), (1, .int k)] := hl
  refine lv_iload_n hx hb dX11_octet_0 rfl (lv_at hl 1 rfl) ?_
  refine lv_if_lt (tgt := 26) hx hb dX11_octet_1 (by decide) (fun c_1 => ?_) (fun c_1 => ?_)
  · refine lv_iconst (v := (-1)) hx hb dX11_octet_26 (by decide) ?_
    have hP := hP.sub (ws' := []) [] rfl
    have hD := hD.sub (ws' := []) [] (by decide) rfl
    exact sk_iret hx hb hr rfl hlocks hK hP hD hS (⟨rfl, rfl⟩) (Nat.le_of_ble_eq_true rfl) (Nat.le_of_ble_eq_true rfl) dX11_octet_27
  · refine lv_iload_n hx hb dX11_octet_4 rfl (lv_at hl 1 rfl) ?_
    refine lv_aload_n hx hb dX11_octet_5 rfl (lv_at hl 0 rfl) ?_
    refine sk_get (v := .ref (q 1)) (C := RX11) (T := TX11) (N := 18) hx hb hts inlX11 hown hK hP 0 rfl rfl 1 (by decide) w_2_124 rfl dX11_octet_6 ?_
    refine sk_get (v := .int 0) (C := RX10) (T := TX10) (N := 2) hx hb hts inlX10 hown hK hP 1 rfl rfl 1 (by decide) w_1_42 rfl dX11_octet_9 ?_
    refine lv_icmp_ge (tgt := 26) hx hb dX11_octet_12 (by decide) (fun c_2 => ?_) (fun c => absurd (Int32.not_lt.mp c_1) c)
    refine lv_iconst (v := (-1)) hx hb dX11_octet_26 (by decide) ?_
    have hP := hP.sub (ws' := []) [] rfl
    have hD := hD.sub (ws' := []) [] (by decide) rfl
    exact sk_iret hx hb hr rfl hlocks hK hP hD hS (⟨rfl, rfl⟩) (Nat.le_of_ble_eq_true rfl) (Nat.le_of_ble_eq_true rfl) dX11_octet_27
theorem dX11_on_0 : decode cX11_on 0 = .ok (.aload_n 0, 1) := by decide +kernel
theorem dX11_on_1 : decode cX11_on 1 = .ok (.invokevirtual 204, 3) := by decide +kernel
theorem dX11_on_4 : decode cX11_on 4 = .ok (.ifCond .eq 14, 3) := by decide +kernel
theorem dX11_on_18 : decode cX11_on 18 = .ok (.iconst 0, 1) := by decide +kernel
theorem dX11_on_19 : decode cX11_on 19 = .ok (.istore_n 1, 1) := by decide +kernel
theorem dX11_on_20 : decode cX11_on 20 = .ok (.aload_n 0, 1) := by decide +kernel
theorem dX11_on_21 : decode cX11_on 21 = .ok (.getfield 12, 3) := by decide +kernel
theorem dX11_on_24 : decode cX11_on 24 = .ok (.iconst 0, 1) := by decide +kernel
theorem dX11_on_25 : decode cX11_on 25 = .ok (.putfield 110, 3) := by decide +kernel
theorem dX11_on_28 : decode cX11_on 28 = .ok (.iload_n 1, 1) := by decide +kernel
theorem dX11_on_29 : decode cX11_on 29 = .ok (.ifCond .ne 9, 3) := by decide +kernel
theorem dX11_on_32 : decode cX11_on 32 = .ok (.aload_n 0, 1) := by decide +kernel
theorem dX11_on_33 : decode cX11_on 33 = .ok (.iconst 5, 1) := by decide +kernel
theorem dX11_on_34 : decode cX11_on 34 = .ok (.invokevirtual 120, 3) := by decide +kernel
theorem dX11_on_37 : decode cX11_on 37 = .ok (.ireturn, 1) := by decide +kernel
theorem w_5_140 : (Cond.code yX11_on cX11_on 3 (some .boolean)) ∈ wsL_law := sk_mem (ck_5 _ (List.mem_of_getElem? (i := 140) rfl)) rfl
set_option maxHeartbeats 4000000 in
set_option maxRecDepth 100000 in
theorem c_x_on (l : Launch) (D : va_G) (cI cJ cC cZ cS : ClassId) (x0 : Nat) (q : Nat → Nat)  : skM l yX11_on cX11_on 3 (some .boolean) 1 21 0 0 D (skT cI cJ cC cZ cS) [.ref x0] [(x0, .inr (11, [.ref (q 0), .ref (q 1), .ref (q 2), .ref (q 3), .ref (q 4), .ref (q 5), .ref (q 6), .ref (q 7), .ref (q 8), .ref (q 9), .ref (q 10), .ref (q 11), .ref (q 12), .ref (q 13), .ref (q 14), .int 0, .ref (q 16), .long 1])), (q 7, .inr (7, [.ref (q 33), .ref (q 34), .int 0, .int 0, .int 0, .int 0, .int 0])), (q 0, .inr (10, [.ref (q 20), .int 0])), (q 16, .inl (cI, 6, .inl (fun _ => 0)))] (skI D (skT cI cJ cC cZ cS) (fun (r : Int32) (u : va_W) => r = 0 ∧ u = [])) := by
  refine skM_of (by decide) (Nat.le_of_ble_eq_true rfl) ?_
  intro p e s m below meth c A ls E hP hD hl
  obtain ⟨hx, hb, hr, hml, hlocks, hin, hown, hts, hK, hA⟩ := E
  have hown : s.vm.findClass RX11 = some m.cls := hown
  have hS : va_S A s.heap s.heap [] := va_S.rf
  have hl : lv_has ls 3 [(0, .ref x0)] := hl
  refine lv_aload_n hx hb dX11_on_0 rfl (lv_at hl 0 rfl) ?_
  refine sk_Vi (q0 := 0) (n := 0) (rest := []) (wr := [(q 0, .inr (10, [.ref (q 20), .int 0])), (q 16, .inl (cI, 6, .inl (fun _ => 0)))]) ⟨hx, hb, hml, hown, hts⟩ hl.1 (c_x_isLocked l D cI cJ cC cZ cS x0 q) w_4_39 w_4_41 w_0_18 w_1_1 w_4_42 (by decide +kernel) ⟨⟨(Nat.le_of_ble_eq_true rfl), (Nat.le_of_ble_eq_true rfl)⟩, (Nat.le_of_ble_eq_true rfl), (Nat.le_of_ble_eq_true rfl)⟩ hK hP hD hS hA [0, 1] [2, 3] rfl rfl (by decide) (by decide) (by decide) rfl rfl rfl rfl (Nat.le_of_ble_eq_true rfl) dX11_on_1 (fun r_1 u H locs hw hP hD hS => ?_)
  obtain ⟨rfl, rfl⟩ := hw
  have hP : va_P D vwCl [(q 0, .inr (10, [.ref (q 20), .int 0])), (q 16, .inl (cI, 6, .inl (fun _ => 0))), (x0, .inr (11, [.ref (q 0), .ref (q 1), .ref (q 2), .ref (q 3), .ref (q 4), .ref (q 5), .ref (q 6), .ref (q 7), .ref (q 8), .ref (q 9), .ref (q 10), .ref (q 11), .ref (q 12), .ref (q 13), .ref (q 14), .int 0, .ref (q 16), .long 1])), (q 7, .inr (7, [.ref (q 33), .ref (q 34), .int 0, .int 0, .int 0, .int 0, .int 0]))] H := hP
  have hD : va_D A [(q 0, .inr (10, [.ref (q 20), .int 0])), (q 16, .inl (cI, 6, .inl (fun _ => 0))), (x0, .inr (11, [.ref (q 0), .ref (q 1), .ref (q 2), .ref (q 3), .ref (q 4), .ref (q 5), .ref (q 6), .ref (q 7), .ref (q 8), .ref (q 9), .ref (q 10), .ref (q 11), .ref (q 12), .ref (q 13), .ref (q 14), .int 0, .ref (q 16), .long 1])), (q 7, .inr (7, [.ref (q 33), .ref (q 34), .int 0, .int 0, .int 0, .int 0, .int 0]))] := hD
  refine W.widen (k := 0) (n := 0) (Nat.le_of_ble_eq_true rfl) (Nat.le_of_ble_eq_true rfl) ?_
  refine lv_if_eq (tgt := 18) hx hb dX11_on_4 (by decide) (fun c_2 => ?_) (fun c => absurd c (by decide))
  refine lv_iconst (v := 0) hx hb dX11_on_18 (by decide) ?_
  refine lv_istore_n (lv' := [(1, .int 0), (0, .ref x0)]) hx hb dX11_on_19 rfl hl (by decide) rfl (fun ls hl => ?_)
  refine lv_aload_n hx hb dX11_on_20 rfl (lv_at hl 1 rfl) ?_
  refine sk_get (v := .ref (q 0)) (C := RX11) (T := TX11) (N := 18) hx hb hts inlX11 hown hK hP 2 rfl rfl 0 (by decide) w_2_123 rfl dX11_on_21 ?_
  refine lv_iconst (v := 0) hx hb dX11_on_24 (by decide) ?_
  refine sk_put (ws' := [(q 0, .inr (10, [.ref (q 20), .int 0])), (q 16, .inl (cI, 6, .inl (fun _ => 0))), (x0, .inr (11, [.ref (q 0), .ref (q 1), .ref (q 2), .ref (q 3), .ref (q 4), .ref (q 5), .ref (q 6), .ref (q 7), .ref (q 8), .ref (q 9), .ref (q 10), .ref (q 11), .ref (q 12), .ref (q 13), .ref (q 14), .int 0, .ref (q 16), .long 1])), (q 7, .inr (7, [.ref (q 33), .ref (q 34), .int 0, .int 0, .int 0, .int 0, .int 0]))]) (C := RX10) (T := TX10) (N := 2) (v := .int 0) hx hb hts inlX10 tyX10 tyX10_ok nmX10 hown hK hP hD hS 0 rfl rfl 1 (by decide) w_1_42 rfl rfl rfl (Nat.le_of_ble_eq_true rfl) rfl dX11_on_25 (fun H locs hP hD hS => ?_)
  refine lv_iload_n hx hb dX11_on_28 rfl (lv_at hl 0 rfl) ?_
  refine lv_if_ne (tgt := 38) hx hb dX11_on_29 (by decide) (fun c => absurd c (by decide)) (fun c_3 => ?_)
  refine lv_aload_n hx hb dX11_on_32 rfl (lv_at hl 1 rfl) ?_
  refine lv_iconst (v := 5) hx hb dX11_on_33 (by decide) ?_
  refine sk_Vi (q0 := 0) (n := 1) (rest := []) (wr := [(q 0, .inr (10, [.ref (q 20), .int 0])), (q 7, .inr (7, [.ref (q 33), .ref (q 34), .int 0, .int 0, .int 0, .int 0, .int 0]))]) ⟨hx, hb, hml, hown, hts⟩ hl.1 (c_x_refuseIt l D cI cJ cC cZ cS x0 q 5 (fun _ => 0) (by unfold vp_in; decide)) w_2_198 w_2_200 w_0_1 w_1_1 w_2_201 (by decide +kernel) ⟨⟨(Nat.le_of_ble_eq_true rfl), (Nat.le_of_ble_eq_true rfl)⟩, (Nat.le_of_ble_eq_true rfl), (Nat.le_of_ble_eq_true rfl)⟩ hK hP hD hS hA [2, 1] [0, 3] rfl rfl (by decide) (by decide) (by decide) rfl rfl rfl rfl (Nat.le_of_ble_eq_true rfl) dX11_on_34 (fun r_5 u H locs hw hP hD hS => ?_)
  obtain ⟨f2_4, rfl, rfl⟩ := hw
  have hP : va_P D vwCl [(q 0, .inr (10, [.ref (q 20), .int 0])), (q 7, .inr (7, [.ref (q 33), .ref (q 34), .int 0, .int 0, .int 0, .int 0, .int 0])), (x0, .inr (11, [.ref (q 0), .ref (q 1), .ref (q 2), .ref (q 3), .ref (q 4), .ref (q 5), .ref (q 6), .ref (q 7), .ref (q 8), .ref (q 9), .ref (q 10), .ref (q 11), .ref (q 12), .ref (q 13), .ref (q 14), .int 0, .ref (q 16), .long 1])), (q 16, .inl (cI, 6, .inl f2_4))] H := hP
  have hD : va_D A [(q 0, .inr (10, [.ref (q 20), .int 0])), (q 7, .inr (7, [.ref (q 33), .ref (q 34), .int 0, .int 0, .int 0, .int 0, .int 0])), (x0, .inr (11, [.ref (q 0), .ref (q 1), .ref (q 2), .ref (q 3), .ref (q 4), .ref (q 5), .ref (q 6), .ref (q 7), .ref (q 8), .ref (q 9), .ref (q 10), .ref (q 11), .ref (q 12), .ref (q 13), .ref (q 14), .int 0, .ref (q 16), .long 1])), (q 16, .inl (cI, 6, .inl f2_4))] := hD
  refine W.widen (k := 0) (n := 0) (Nat.le_of_ble_eq_true rfl) (Nat.le_of_ble_eq_true rfl) ?_
  have hP := hP.sub (ws' := []) [] rfl
  have hD := hD.sub (ws' := []) [] (by decide) rfl
  exact sk_iret hx hb hr rfl hlocks hK hP hD hS (⟨rfl, rfl⟩) (Nat.le_of_ble_eq_true rfl) (Nat.le_of_ble_eq_true rfl) dX11_on_37
theorem sk_in6 {w : Int32} (h1 : ¬ w < 0) (h2 : ¬ (6 : Int32) ≤ w) : vp_in w 6 := by
  unfold vp_in
  rintro (h | h)
  · exact h1 h
  · have h3 := Int32.not_le.mp h2
    rw [Int32.lt_iff_toInt_lt] at h1 h3
    have e6 : (6 : Int32).toInt = 6 := rfl
    have e0 : (0 : Int32).toInt = 0 := rfl
    rw [e6] at h3
    have h4 : w.toNatClampNeg = w.toInt.toNat := rfl
    omega
theorem dX11_status_0 : decode cX11_status 0 = .ok (.iload_n 1, 1) := by decide +kernel
theorem dX11_status_1 : decode cX11_status 1 = .ok (.ifCond .lt 18, 3) := by decide +kernel
theorem dX11_status_19 : decode cX11_status 19 = .ok (.iconst (-1), 1) := by decide +kernel
theorem dX11_status_20 : decode cX11_status 20 = .ok (.ireturn, 1) := by decide +kernel
theorem dX11_status_4 : decode cX11_status 4 = .ok (.iload_n 1, 1) := by decide +kernel
theorem dX11_status_5 : decode cX11_status 5 = .ok (.bipush 6, 2) := by decide +kernel
theorem dX11_status_7 : decode cX11_status 7 = .ok (.if_icmp .ge 12, 3) := by decide +kernel
theorem dX11_status_10 : decode cX11_status 10 = .ok (.aload_n 0, 1) := by decide +kernel
theorem dX11_status_11 : decode cX11_status 11 = .ok (.getfield 103, 3) := by decide +kernel
theorem dX11_status_14 : decode cX11_status 14 = .ok (.iload_n 1, 1) := by decide +kernel
theorem dX11_status_15 : decode cX11_status 15 = .ok (.iaload, 1) := by decide +kernel
theorem dX11_status_16 : decode cX11_status 16 = .ok (.goto 4, 3) := by decide +kernel
theorem w_5_148 : (Cond.code yX11_status cX11_status 2 (some .int)) ∈ wsL_law := sk_mem (ck_5 _ (List.mem_of_getElem? (i := 148) rfl)) rfl
set_option maxHeartbeats 4000000 in
set_option maxRecDepth 100000 in
theorem c_x_status (l : Launch) (D : va_G) (cI cJ cC cZ cS : ClassId) (x0 : Nat) (q : Nat → Nat) (w : Int32)  : skM l yX11_status cX11_status 2 (some .int) 0 0 0 0 D (skT cI cJ cC cZ cS) [.ref x0, .int w] [(x0, .inr (11, [.ref (q 0), .ref (q 1), .ref (q 2), .ref (q 3), .ref (q 4), .ref (q 5), .ref (q 6), .ref (q 7), .ref (q 8), .ref (q 9), .ref (q 10), .ref (q 11), .ref (q 12), .ref (q 13), .ref (q 14), .int 0, .ref (q 16), .long 1])), (q 16, .inl (cI, 6, .inl (fun _ => 0)))] (skI D (skT cI cJ cC cZ cS) (fun (r : Int32) (u : va_W) => r = sp_status w ∧ u = [])) := by
  refine skM_of (by decide) (Nat.le_of_ble_eq_true rfl) ?_
  intro p e s m below meth c A ls E hP hD hl
  obtain ⟨hx, hb, hr, hml, hlocks, hin, hown, hts, hK, hA⟩ := E
  have hown : s.vm.findClass RX11 = some m.cls := hown
  have hS : va_S A s.heap s.heap [] := va_S.rf
  have hl : lv_has ls 2 [(0, .ref x0), (1, .int w)] := hl
  refine lv_iload_n hx hb dX11_status_0 rfl (lv_at hl 1 rfl) ?_
  refine lv_if_lt (tgt := 19) hx hb dX11_status_1 (by decide) (fun c_1 => ?_) (fun c_1 => ?_)
  · refine lv_iconst (v := (-1)) hx hb dX11_status_19 (by decide) ?_
    have hP := hP.sub (ws' := []) [] rfl
    have hD := hD.sub (ws' := []) [] (by decide) rfl
    exact sk_iret hx hb hr rfl hlocks hK hP hD hS (⟨by simp only [sp_status, if_pos c_1], rfl⟩) (Nat.le_of_ble_eq_true rfl) (Nat.le_of_ble_eq_true rfl) dX11_status_20
  · refine lv_iload_n hx hb dX11_status_4 rfl (lv_at hl 1 rfl) ?_
    refine lv_bipush (v := 6) hx hb dX11_status_5 (by decide) ?_
    refine lv_icmp_ge (tgt := 19) hx hb dX11_status_7 (by decide) (fun c_2 => ?_) (fun c_2 => ?_)
    · refine lv_iconst (v := (-1)) hx hb dX11_status_19 (by decide) ?_
      have hP := hP.sub (ws' := []) [] rfl
      have hD := hD.sub (ws' := []) [] (by decide) rfl
      exact sk_iret hx hb hr rfl hlocks hK hP hD hS (⟨by simp only [sp_status, if_neg c_1, if_pos c_2], rfl⟩) (Nat.le_of_ble_eq_true rfl) (Nat.le_of_ble_eq_true rfl) dX11_status_20
    · refine lv_aload_n hx hb dX11_status_10 rfl (lv_at hl 0 rfl) ?_
      refine sk_get (v := .ref (q 16)) (C := RX11) (T := TX11) (N := 18) hx hb hts inlX11 hown hK hP 0 rfl rfl 16 (by decide) w_2_139 rfl dX11_status_11 ?_
      refine lv_iload_n hx hb dX11_status_14 rfl (lv_at hl 1 rfl) ?_
      refine va_iald hx hb hK.1 hP 1 0 rfl rfl (sk_in6 c_1 c_2) dX11_status_15 ?_
      refine sk_top 0 rfl ?_
      refine lv_goto (tgt := 20) hx hb dX11_status_16 (by decide) ?_
      have hP := hP.sub (ws' := []) [] rfl
      have hD := hD.sub (ws' := []) [] (by decide) rfl
      exact sk_iret hx hb hr rfl hlocks hK hP hD hS (⟨by simp only [sp_status, if_neg c_1, if_neg c_2], rfl⟩) (Nat.le_of_ble_eq_true rfl) (Nat.le_of_ble_eq_true rfl) dX11_status_20
