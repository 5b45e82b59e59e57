set_option maxHeartbeats 4000000 in
set_option maxRecDepth 100000 in
theorem c_m_refusesT (l : Launch) (D : va_G) (cI cJ cC cZ cS : ClassId) (m0 : Nat) (g : Nat → Nat) (F : Nat → Value) (w : Int32) (f : Nat → Int32) (h9 : F 9 = .ref (g 9)) (hw : vp_in w 6) : skM l yX12_refuses cX12_refuses 2 (some .int) 0 0 0 0 D (skT cI cJ cC cZ cS) [.ref m0, .int w] [(m0, .inr (12, mF F)), (g 9, .inl (cI, 6, .inl f))] (skI D (skT cI cJ cC cZ cS) (fun (r : Int32) (u : va_W) => r = -1 ∧ u = [])) := by
  refine skM_of (by decide) (Nat.le_of_ble_eq_true rfl) ?_
  intro p e s m below meth c A ls E hP hD hl
  obtain ⟨hx, hb, hr, hml, hlocks, hin, hown, hts, hK, hA⟩ := E
  have hown : s.vm.findClass RX12 = some m.cls := hown
  have hS : va_S A s.heap s.heap [] := va_S.rf
  have hl : lv_has ls 2 [(0, .ref m0), (1, .int w)] := hl
  refine lv_aload_n hx hb dX12_refuses_0 rfl (lv_at hl 0 rfl) ?_
  refine sk_get (v := .ref (g 9)) (C := RX12) (T := TX12) (N := 92) hx hb hts inlX12 hown hK hP 0 rfl rfl 9 (by decide) w_5_164 (mF_get (k := 9) (by decide) h9) dX12_refuses_1 ?_
  refine lv_iload_n hx hb dX12_refuses_4 rfl (lv_at hl 1 rfl) ?_
  refine lv_dup2_11 hx hb dX12_refuses_5 rfl rfl ?_
  refine va_iald hx hb hK.1 hP 1 0 rfl rfl hw dX12_refuses_6 ?_
  refine lv_topi (fun v_1 ev_1 => ?_)
  refine lv_iconst (v := 1) hx hb dX12_refuses_7 (by decide) ?_
  refine lv_iadd hx hb dX12_refuses_8 ?_
  refine lv_topi (fun v_2 ev_2 => ?_)
  refine sk_iastO (ws' := fun f_3 => [(m0, .inr (12, mF F)), (g 9, .inl (cI, 6, .inl f_3))]) hx hb hK hP hD hS 1 0 rfl rfl hw (fun _ => rfl) dX12_refuses_9 (fun f_3 H locs hP hD hS => ?_)
  refine lv_iconst (v := (-1)) hx hb dX12_refuses_10 (by decide) ?_
  have hP := hP.sub (ws' := []) [] rfl
  have hD := hD.sub (ws' := []) [] (by decide) rfl
  exact sk_iret hx hb hr rfl hlocks hK hP hD hS (⟨rfl, rfl⟩) (Nat.le_of_ble_eq_true rfl) (Nat.le_of_ble_eq_true rfl) dX12_refuses_11
theorem dX12_hear_0 : decode cX12_hear 0 = .ok (.aload_n 0, 1) := by decide +kernel
theorem dX12_hear_1 : decode cX12_hear 1 = .ok (.getfield 192, 3) := by decide +kernel
theorem dX12_hear_4 : decode cX12_hear 4 = .ok (.istore_n 1, 1) := by decide +kernel
theorem dX12_hear_5 : decode cX12_hear 5 = .ok (.aload_n 0, 1) := by decide +kernel
theorem dX12_hear_6 : decode cX12_hear 6 = .ok (.iconst 0, 1) := by decide +kernel
theorem dX12_hear_7 : decode cX12_hear 7 = .ok (.putfield 192, 3) := by decide +kernel
theorem dX12_hear_10 : decode cX12_hear 10 = .ok (.aload_n 0, 1) := by decide +kernel
theorem dX12_hear_11 : decode cX12_hear 11 = .ok (.getfield 302, 3) := by decide +kernel
theorem dX12_hear_14 : decode cX12_hear 14 = .ok (.ifCond .eq 25, 3) := by decide +kernel
theorem dX12_hear_39 : decode cX12_hear 39 = .ok (.iconst 0, 1) := by decide +kernel
theorem dX12_hear_40 : decode cX12_hear 40 = .ok (.istore_n 2, 1) := by decide +kernel
theorem dX12_hear_41 : decode cX12_hear 41 = .ok (.iconst 0, 1) := by decide +kernel
theorem dX12_hear_42 : decode cX12_hear 42 = .ok (.istore_n 3, 1) := by decide +kernel
theorem dX12_hear_43 : decode cX12_hear 43 = .ok (.iload_n 3, 1) := by decide +kernel
theorem dX12_hear_44 : decode cX12_hear 44 = .ok (.iload_n 1, 1) := by decide +kernel
theorem dX12_hear_45 : decode cX12_hear 45 = .ok (.if_icmp .ge 32, 3) := by decide +kernel
theorem dX12_hear_77 : decode cX12_hear 77 = .ok (.iload_n 2, 1) := by decide +kernel
theorem dX12_hear_78 : decode cX12_hear 78 = .ok (.ifCond .ne 9, 3) := by decide +kernel
theorem dX12_hear_81 : decode cX12_hear 81 = .ok (.aload_n 0, 1) := by decide +kernel
theorem dX12_hear_82 : decode cX12_hear 82 = .ok (.iconst 1, 1) := by decide +kernel
theorem dX12_hear_83 : decode cX12_hear 83 = .ok (.invokevirtual 463, 3) := by decide +kernel
theorem dX12_hear_86 : decode cX12_hear 86 = .ok (.ireturn, 1) := by decide +kernel
theorem w_8_97 : (Cond.methodLink RX12 463 yX12_refuses) ∈ wsL_law := sk_mem (ck_8 _ (List.mem_of_getElem? (i := 97) rfl)) rfl
theorem w_8_99 : (Cond.instanceMethod yX12_refuses) ∈ wsL_law := sk_mem (ck_8 _ (List.mem_of_getElem? (i := 99) rfl)) rfl
theorem w_0_104 : (Cond.selects RX12 yX12_refuses yX12_refuses) ∈ wsL_law := sk_mem (ck_0 _ (List.mem_of_getElem? (i := 104) rfl)) rfl
theorem w_8_96 : (Cond.code yX12_hear cX12_hear 4 (some .int)) ∈ wsL_law := sk_mem (ck_8 _ (List.mem_of_getElem? (i := 96) rfl)) rfl
set_option maxHeartbeats 4000000 in
set_option maxRecDepth 100000 in
theorem c_m_hear (l : Launch) (D : va_G) (cI cJ cC cZ cS : ClassId) (m0 : Nat) (g : Nat → Nat)  : skM l yX12_hear cX12_hear 4 (some .int) 1 21 0 0 D (skT cI cJ cC cZ cS) [.ref m0] [(m0, .inr (12, mF (mV g))), (g 9, .inl (cI, 6, .inl (fun _ => 0)))] (skI D (skT cI cJ cC cZ cS) (fun (r : Int32) (u : va_W) => r = -1 ∧ u = [])) := by
  refine skM_of (by decide) (Nat.le_of_ble_eq_true rfl) ?_
  intro p e s m below meth c A ls E hP hD hl
  obtain ⟨hx, hb, hr, hml, hlocks, hin, hown, hts, hK, hA⟩ := E
  have hown : s.vm.findClass RX12 = some m.cls := hown
  have hS : va_S A s.heap s.heap [] := va_S.rf
  have hl : lv_has ls 4 [(0, .ref m0)] := hl
  refine lv_aload_n hx hb dX12_hear_0 rfl (lv_at hl 0 rfl) ?_
  refine sk_get (v := .int 0) (C := RX12) (T := TX12) (N := 92) hx hb hts inlX12 hown hK hP 0 rfl rfl 1 (by decide) w_5_156 (mF_get (k := 1) (by decide) rfl) dX12_hear_1 ?_
  refine lv_istore_n (lv' := [(1, .int 0), (0, .ref m0)]) hx hb dX12_hear_4 rfl hl (by decide) rfl (fun ls hl => ?_)
  refine lv_aload_n hx hb dX12_hear_5 rfl (lv_at hl 1 rfl) ?_
  refine lv_iconst (v := 0) hx hb dX12_hear_6 (by decide) ?_
  refine sk_put (ws' := [(m0, .inr (12, mF (updV (mV g) 1 (.int 0)))), (g 9, .inl (cI, 6, .inl (fun _ => 0)))]) (C := RX12) (T := TX12) (N := 92) (v := .int 0) hx hb hts inlX12 tyX12 tyX12_ok nmX12 hown hK hP hD hS 0 rfl rfl 1 (by decide) w_5_156 rfl rfl rfl (mF_len (by decide)) (mF_w (by decide) rfl) dX12_hear_7 (fun H locs hP hD hS => ?_)
  refine lv_aload_n hx hb dX12_hear_10 rfl (lv_at hl 1 rfl) ?_
  refine sk_get (v := .int 0) (C := RX12) (T := TX12) (N := 92) hx hb hts inlX12 hown hK hP 0 rfl rfl 29 (by decide) w_5_184 (mF_get (k := 29) (by decide) rfl) dX12_hear_11 ?_
  refine lv_if_eq (tgt := 39) hx hb dX12_hear_14 (by decide) (fun c_1 => ?_) (fun c => absurd c (by decide))
  refine lv_iconst (v := 0) hx hb dX12_hear_39 (by decide) ?_
  refine lv_istore_n (lv' := [(2, .int 0), (1, .int 0), (0, .ref m0)]) hx hb dX12_hear_40 rfl hl (by decide) rfl (fun ls hl => ?_)
  refine lv_iconst (v := 0) hx hb dX12_hear_41 (by decide) ?_
  refine lv_istore_n (lv' := [(3, .int 0), (2, .int 0), (1, .int 0), (0, .ref m0)]) hx hb dX12_hear_42 rfl hl (by decide) rfl (fun ls hl => ?_)
  refine lv_iload_n hx hb dX12_hear_43 rfl (lv_at hl 0 rfl) ?_
  refine lv_iload_n hx hb dX12_hear_44 rfl (lv_at hl 2 rfl) ?_
  refine lv_icmp_ge (tgt := 77) hx hb dX12_hear_45 (by decide) (fun c_2 => ?_) (fun c => absurd c (by decide))
  refine lv_iload_n hx hb dX12_hear_77 rfl (lv_at hl 1 rfl) ?_
  refine lv_if_ne (tgt := 87) hx hb dX12_hear_78 (by decide) (fun c => absurd c (by decide)) (fun c_3 => ?_)
  refine lv_aload_n hx hb dX12_hear_81 rfl (lv_at hl 3 rfl) ?_
  refine lv_iconst (v := 1) hx hb dX12_hear_82 (by decide) ?_
  refine sk_Vi (q0 := 0) (n := 1) (rest := []) (wr := []) ⟨hx, hb, hml, hown, hts⟩ hl.1 (c_m_refusesT l D cI cJ cC cZ cS m0 g (updV (mV g) 1 (.int 0)) 1 (fun _ => 0) rfl (by unfold vp_in; decide)) w_8_97 w_8_99 w_0_104 w_1_14 w_8_100 (by decide +kernel) ⟨⟨(Nat.le_of_ble_eq_true rfl), (Nat.le_of_ble_eq_true rfl)⟩, (Nat.le_of_ble_eq_true rfl), (Nat.le_of_ble_eq_true rfl)⟩ hK hP hD hS hA [0, 1] [] rfl rfl (by decide) (by decide) (by decide) rfl rfl rfl rfl (Nat.le_of_ble_eq_true rfl) dX12_hear_83 (fun r_4 u H locs hw hP hD hS => ?_)
  obtain ⟨rfl, rfl⟩ := hw
  have hP : va_P D vwCl [] H := hP
  have hD : va_D A [] := hD
  refine W.widen (k := 0) (n := 0) (Nat.le_of_ble_eq_true rfl) (Nat.le_of_ble_eq_true rfl) ?_
  exact sk_iret hx hb hr rfl hlocks hK hP hD hS (⟨rfl, rfl⟩) (Nat.le_of_ble_eq_true rfl) (Nat.le_of_ble_eq_true rfl) dX12_hear_86
theorem dX12_heard_0 : decode cX12_heard 0 = .ok (.aload_n 0, 1) := by decide +kernel
theorem dX12_heard_1 : decode cX12_heard 1 = .ok (.getfield 302, 3) := by decide +kernel
theorem dX12_heard_4 : decode cX12_heard 4 = .ok (.ifCond .ne 7, 3) := by decide +kernel
theorem dX12_heard_7 : decode cX12_heard 7 = .ok (.ldc2_w 421, 3) := by decide +kernel
theorem dX12_heard_10 : decode cX12_heard 10 = .ok (.lreturn, 1) := by decide +kernel
theorem w_8_104 : (Cond.code yX12_heard cX12_heard 1 (some .long)) ∈ wsL_law := sk_mem (ck_8 _ (List.mem_of_getElem? (i := 104) rfl)) rfl
set_option maxHeartbeats 4000000 in
set_option maxRecDepth 100000 in
theorem c_m_heard (l : Launch) (D : va_G) (cI cJ cC cZ cS : ClassId) (m0 : Nat) (g : Nat → Nat)  : skM l yX12_heard cX12_heard 1 (some .long) 0 0 0 0 D (skT cI cJ cC cZ cS) [.ref m0] [(m0, .inr (12, mF (mV g)))] (skL D (skT cI cJ cC cZ cS) (fun (r : Int64) (u : va_W) => r = -1000000000000000 ∧ u = [])) := by
  refine skM_of (by decide) (Nat.le_of_ble_eq_true rfl) ?_
  intro p e s m below meth c A ls E hP hD hl
  obtain ⟨hx, hb, hr, hml, hlocks, hin, hown, hts, hK, hA⟩ := E
  have hown : s.vm.findClass RX12 = some m.cls := hown
  have hS : va_S A s.heap s.heap [] := va_S.rf
  have hl : lv_has ls 1 [(0, .ref m0)] := hl
  refine lv_aload_n hx hb dX12_heard_0 rfl (lv_at hl 0 rfl) ?_
  refine sk_get (v := .int 0) (C := RX12) (T := TX12) (N := 92) hx hb hts inlX12 hown hK hP 0 rfl rfl 29 (by decide) w_5_184 (mF_get (k := 29) (by decide) rfl) dX12_heard_1 ?_
  refine lv_if_ne (tgt := 11) hx hb dX12_heard_4 (by decide) (fun c => absurd c (by decide)) (fun c_1 => ?_)
  refine lv_ldc2 (v := (-1000000000000000)) hx hb hown (hts _ w_7_184) dX12_heard_7 ?_
  have hP := hP.sub (ws' := []) [] rfl
  have hD := hD.sub (ws' := []) [] (by decide) rfl
  exact sk_lret hx hb hr hlocks hK hP hD hS (⟨rfl, rfl⟩) (Nat.le_of_ble_eq_true rfl) (Nat.le_of_ble_eq_true rfl) dX12_heard_10
theorem dX12_tells_0 : decode cX12_tells 0 = .ok (.aload_n 0, 1) := by decide +kernel
theorem dX12_tells_1 : decode cX12_tells 1 = .ok (.getfield 302, 3) := by decide +kernel
theorem dX12_tells_4 : decode cX12_tells 4 = .ok (.ifCond .eq 13, 3) := by decide +kernel
theorem dX12_tells_17 : decode cX12_tells 17 = .ok (.ldc2_w 421, 3) := by decide +kernel
theorem dX12_tells_20 : decode cX12_tells 20 = .ok (.lreturn, 1) := by decide +kernel
theorem w_8_112 : (Cond.code yX12_tells cX12_tells 11 (some .long)) ∈ wsL_law := sk_mem (ck_8 _ (List.mem_of_getElem? (i := 112) rfl)) rfl
set_option maxHeartbeats 4000000 in
set_option maxRecDepth 100000 in
theorem c_m_tells (l : Launch) (D : va_G) (cI cJ cC cZ cS : ClassId) (m0 : Nat) (g : Nat → Nat) (w : Int32)  : skM l yX12_tells cX12_tells 11 (some .long) 0 0 0 0 D (skT cI cJ cC cZ cS) [.ref m0, .int w] [(m0, .inr (12, mF (mV g)))] (skL D (skT cI cJ cC cZ cS) (fun (r : Int64) (u : va_W) => r = -1000000000000000 ∧ u = [])) := by
  refine skM_of (by decide) (Nat.le_of_ble_eq_true rfl) ?_
  intro p e s m below meth c A ls E hP hD hl
  obtain ⟨hx, hb, hr, hml, hlocks, hin, hown, hts, hK, hA⟩ := E
  have hown : s.vm.findClass RX12 = some m.cls := hown
  have hS : va_S A s.heap s.heap [] := va_S.rf
  have hl : lv_has ls 11 [(0, .ref m0), (1, .int w)] := hl
  refine lv_aload_n hx hb dX12_tells_0 rfl (lv_at hl 0 rfl) ?_
  refine sk_get (v := .int 0) (C := RX12) (T := TX12) (N := 92) hx hb hts inlX12 hown hK hP 0 rfl rfl 29 (by decide) w_5_184 (mF_get (k := 29) (by decide) rfl) dX12_tells_1 ?_
  refine lv_if_eq (tgt := 17) hx hb dX12_tells_4 (by decide) (fun c_1 => ?_) (fun c => absurd c (by decide))
  refine lv_ldc2 (v := (-1000000000000000)) hx hb hown (hts _ w_7_184) dX12_tells_17 ?_
  have hP := hP.sub (ws' := []) [] rfl
  have hD := hD.sub (ws' := []) [] (by decide) rfl
  exact sk_lret hx hb hr hlocks hK hP hD hS (⟨rfl, rfl⟩) (Nat.le_of_ble_eq_true rfl) (Nat.le_of_ble_eq_true rfl) dX12_tells_20
theorem dX12_undo_0 : decode cX12_undo 0 = .ok (.aload_n 0, 1) := by decide +kernel
theorem dX12_undo_1 : decode cX12_undo 1 = .ok (.getfield 309, 3) := by decide +kernel
theorem dX12_undo_4 : decode cX12_undo 4 = .ok (.ifCond .ne 15, 3) := by decide +kernel
theorem dX12_undo_7 : decode cX12_undo 7 = .ok (.aload_n 0, 1) := by decide +kernel
theorem dX12_undo_8 : decode cX12_undo 8 = .ok (.getfield 17, 3) := by decide +kernel
theorem dX12_undo_11 : decode cX12_undo 11 = .ok (.iconst 4, 1) := by decide +kernel
theorem dX12_undo_12 : decode cX12_undo 12 = .ok (.dup2, 1) := by decide +kernel
theorem dX12_undo_13 : decode cX12_undo 13 = .ok (.iaload, 1) := by decide +kernel
theorem dX12_undo_14 : decode cX12_undo 14 = .ok (.iconst 1, 1) := by decide +kernel
theorem dX12_undo_15 : decode cX12_undo 15 = .ok (.iadd, 1) := by decide +kernel
theorem dX12_undo_16 : decode cX12_undo 16 = .ok (.iastore, 1) := by decide +kernel
theorem dX12_undo_17 : decode cX12_undo 17 = .ok (.iconst 0, 1) := by decide +kernel
theorem dX12_undo_18 : decode cX12_undo 18 = .ok (.ireturn, 1) := by decide +kernel
theorem w_8_121 : (Cond.code yX12_undo cX12_undo 2 (some .boolean)) ∈ wsL_law := sk_mem (ck_8 _ (List.mem_of_getElem? (i := 121) rfl)) rfl
set_option maxHeartbeats 4000000 in
set_option maxRecDepth 100000 in
theorem c_m_undo (l : Launch) (D : va_G) (cI cJ cC cZ cS : ClassId) (m0 : Nat) (g : Nat → Nat)  : skM l yX12_undo cX12_undo 2 (some .boolean) 0 0 0 0 D (skT cI cJ cC cZ cS) [.ref m0] [(m0, .inr (12, mF (mV g))), (g 9, .inl (cI, 6, .inl (fun _ => 0)))] (skI D (skT cI cJ cC cZ cS) (fun (r : Int32) (u : va_W) => r = 0 ∧ u = [])) := by
  refine skM_of (by decide) (Nat.le_of_ble_eq_true rfl) ?_
  intro p e s m below meth c A ls E hP hD hl
  obtain ⟨hx, hb, hr, hml, hlocks, hin, hown, hts, hK, hA⟩ := E
  have hown : s.vm.findClass RX12 = some m.cls := hown
  have hS : va_S A s.heap s.heap [] := va_S.rf
  have hl : lv_has ls 2 [(0, .ref m0)] := hl
  refine lv_aload_n hx hb dX12_undo_0 rfl (lv_at hl 0 rfl) ?_
  refine sk_get (v := .int 0) (C := RX12) (T := TX12) (N := 92) hx hb hts inlX12 hown hK hP 0 rfl rfl 55 (by decide) w_5_210 (mF_get (k := 55) (by decide) rfl) dX12_undo_1 ?_
  refine lv_if_ne (tgt := 19) hx hb dX12_undo_4 (by decide) (fun c => absurd c (by decide)) (fun c_1 => ?_)
  refine lv_aload_n hx hb dX12_undo_7 rfl (lv_at hl 0 rfl) ?_
  refine sk_get (v := .ref (g 9)) (C := RX12) (T := TX12) (N := 92) hx hb hts inlX12 hown hK hP 0 rfl rfl 9 (by decide) w_5_164 (mF_get (k := 9) (by decide) rfl) dX12_undo_8 ?_
  refine lv_iconst (v := 4) hx hb dX12_undo_11 (by decide) ?_
  refine lv_dup2_11 hx hb dX12_undo_12 rfl rfl ?_
  refine va_iald hx hb hK.1 hP 1 0 rfl rfl (by unfold vp_in; decide) dX12_undo_13 ?_
  refine sk_top 0 rfl ?_
  refine lv_iconst (v := 1) hx hb dX12_undo_14 (by decide) ?_
  refine lv_iadd hx hb dX12_undo_15 ?_
  refine sk_top 1 (by decide) ?_
  refine sk_iast (ws' := [(m0, .inr (12, mF (mV g))), (g 9, .inl (cI, 6, .inl (upd (fun _ => 0) 4 1)))]) hx hb hK hP hD hS 1 0 rfl rfl (by unfold vp_in; decide) rfl dX12_undo_16 (fun H locs hP hD hS => ?_)
  refine lv_iconst (v := 0) hx hb dX12_undo_17 (by decide) ?_
  have hP := hP.sub (ws' := []) [] rfl
  have hD := hD.sub (ws' := []) [] (by decide) rfl
  exact sk_iret hx hb hr rfl hlocks hK hP hD hS (⟨rfl, rfl⟩) (Nat.le_of_ble_eq_true rfl) (Nat.le_of_ble_eq_true rfl) dX12_undo_18
theorem dX12_becomes_0 : decode cX12_becomes 0 = .ok (.aload_n 0, 1) := by decide +kernel
theorem dX12_becomes_1 : decode cX12_becomes 1 = .ok (.iload_n 1, 1) := by decide +kernel
theorem dX12_becomes_2 : decode cX12_becomes 2 = .ok (.invokevirtual 413, 3) := by decide +kernel
theorem dX12_becomes_5 : decode cX12_becomes 5 = .ok (.ifCond .eq 24, 3) := by decide +kernel
theorem dX12_becomes_29 : decode cX12_becomes 29 = .ok (.aload_n 0, 1) := by decide +kernel
theorem dX12_becomes_30 : decode cX12_becomes 30 = .ok (.getfield 17, 3) := by decide +kernel
theorem dX12_becomes_33 : decode cX12_becomes 33 = .ok (.iconst 2, 1) := by decide +kernel
theorem dX12_becomes_34 : decode cX12_becomes 34 = .ok (.dup2, 1) := by decide +kernel
theorem dX12_becomes_35 : decode cX12_becomes 35 = .ok (.iaload, 1) := by decide +kernel
theorem dX12_becomes_36 : decode cX12_becomes 36 = .ok (.iconst 1, 1) := by decide +kernel
theorem dX12_becomes_37 : decode cX12_becomes 37 = .ok (.iadd, 1) := by decide +kernel
theorem dX12_becomes_38 : decode cX12_becomes 38 = .ok (.iastore, 1) := by decide +kernel
theorem dX12_becomes_39 : decode cX12_becomes 39 = .ok (.iconst 0, 1) := by decide +kernel
theorem dX12_becomes_40 : decode cX12_becomes 40 = .ok (.ireturn, 1) := by decide +kernel
theorem w_8_129 : (Cond.code yX12_becomes cX12_becomes 5 (some .boolean)) ∈ wsL_law := sk_mem (ck_8 _ (List.mem_of_getElem? (i := 129) rfl)) rfl
set_option maxHeartbeats 4000000 in
set_option maxRecDepth 100000 in
theorem c_m_becomes (l : Launch) (D : va_G) (cI cJ cC cZ cS : ClassId) (m0 : Nat) (g : Nat → Nat) (d : Int32) (w : Int32) (o : Int32) (b1 : Int32)  : skM l yX12_becomes cX12_becomes 5 (some .boolean) 2 46 0 0 D (skT cI cJ cC cZ cS) [.ref m0, .int d, .int w, .int o, .int b1] [(m0, .inr (12, mF (mV g))), (g 20, .inl (cI, 4, .inl (fun _ => 0))), (g 9, .inl (cI, 6, .inl (fun _ => 0)))] (skI D (skT cI cJ cC cZ cS) (fun (r : Int32) (u : va_W) => r = 0 ∧ u = [])) := by
  refine skM_of (by decide) (Nat.le_of_ble_eq_true rfl) ?_
  intro p e s m below meth c A ls E hP hD hl
  obtain ⟨hx, hb, hr, hml, hlocks, hin, hown, hts, hK, hA⟩ := E
  have hown : s.vm.findClass RX12 = some m.cls := hown
  have hS : va_S A s.heap s.heap [] := va_S.rf
  have hl : lv_has ls 5 [(0, .ref m0), (1, .int d), (2, .int w), (3, .int o), (4, .int b1)] := hl
  refine lv_aload_n hx hb dX12_becomes_0 rfl (lv_at hl 0 rfl) ?_
  refine lv_iload_n hx hb dX12_becomes_1 rfl (lv_at hl 1 rfl) ?_
  refine sk_Vi (q0 := 0) (n := 1) (rest := []) (wr := [(g 9, .inl (cI, 6, .inl (fun _ => 0)))]) ⟨hx, hb, hml, hown, hts⟩ hl.1 (c_m_isDay l D cI cJ cC cZ cS m0 g d) w_7_117 w_7_119 w_0_72 w_1_14 w_7_120 (by decide +kernel) ⟨⟨(Nat.le_of_ble_eq_true rfl), (Nat.le_of_ble_eq_true rfl)⟩, (Nat.le_of_ble_eq_true rfl), (Nat.le_of_ble_eq_true rfl)⟩ hK hP hD hS hA [0, 1] [2] rfl rfl (by decide) (by decide) (by decide) rfl rfl rfl rfl (Nat.le_of_ble_eq_true rfl) dX12_becomes_2 (fun r_1 u H locs hw hP hD hS => ?_)
  obtain ⟨rfl, rfl⟩ := hw
  have hP : va_P D vwCl [(g 9, .inl (cI, 6, .inl (fun _ => 0))), (m0, .inr (12, mF (mV g))), (g 20, .inl (cI, 4, .inl (fun _ => 0)))] H := hP
  have hD : va_D A [(g 9, .inl (cI, 6, .inl (fun _ => 0))), (m0, .inr (12, mF (mV g))), (g 20, .inl (cI, 4, .inl (fun _ => 0)))] := hD
  refine W.widen (k := 0) (n := 0) (Nat.le_of_ble_eq_true rfl) (Nat.le_of_ble_eq_true rfl) ?_
  refine lv_if_eq (tgt := 29) hx hb dX12_becomes_5 (by decide) (fun c_2 => ?_) (fun c => absurd c (by decide))
  refine lv_aload_n hx hb dX12_becomes_29 rfl (lv_at hl 0 rfl) ?_
  refine sk_get (v := .ref (g 9)) (C := RX12) (T := TX12) (N := 92) hx hb hts inlX12 hown hK hP 1 rfl rfl 9 (by decide) w_5_164 (mF_get (k := 9) (by decide) rfl) dX12_becomes_30 ?_
  refine lv_iconst (v := 2) hx hb dX12_becomes_33 (by decide) ?_
  refine lv_dup2_11 hx hb dX12_becomes_34 rfl rfl ?_
  refine va_iald hx hb hK.1 hP 0 0 rfl rfl (by unfold vp_in; decide) dX12_becomes_35 ?_
  refine sk_top 0 rfl ?_
  refine lv_iconst (v := 1) hx hb dX12_becomes_36 (by decide) ?_
  refine lv_iadd hx hb dX12_becomes_37 ?_
  refine sk_top 1 (by decide) ?_
  refine sk_iast (ws' := [(g 9, .inl (cI, 6, .inl (upd (fun _ => 0) 2 1))), (m0, .inr (12, mF (mV g))), (g 20, .inl (cI, 4, .inl (fun _ => 0)))]) hx hb hK hP hD hS 0 0 rfl rfl (by unfold vp_in; decide) rfl dX12_becomes_38 (fun H locs hP hD hS => ?_)
  refine lv_iconst (v := 0) hx hb dX12_becomes_39 (by decide) ?_
  have hP := hP.sub (ws' := []) [] rfl
  have hD := hD.sub (ws' := []) [] (by decide) rfl
  exact sk_iret hx hb hr rfl hlocks hK hP hD hS (⟨rfl, rfl⟩) (Nat.le_of_ble_eq_true rfl) (Nat.le_of_ble_eq_true rfl) dX12_becomes_40
theorem dX12_set_0 : decode cX12_set 0 = .ok (.aload_n 0, 1) := by decide +kernel
theorem dX12_set_1 : decode cX12_set 1 = .ok (.iload_n 1, 1) := by decide +kernel
theorem dX12_set_2 : decode cX12_set 2 = .ok (.iload_n 2, 1) := by decide +kernel
theorem dX12_set_3 : decode cX12_set 3 = .ok (.iconst 1, 1) := by decide +kernel
theorem dX12_set_4 : decode cX12_set 4 = .ok (.if_icmp .ne 7, 3) := by decide +kernel
theorem dX12_set_11 : decode cX12_set 11 = .ok (.iconst 0, 1) := by decide +kernel
theorem dX12_set_12 : decode cX12_set 12 = .ok (.iload_n 3, 1) := by decide +kernel
theorem dX12_set_13 : decode cX12_set 13 = .ok (.iload_n 2, 1) := by decide +kernel
theorem dX12_set_14 : decode cX12_set 14 = .ok (.i2l, 1) := by decide +kernel
theorem dX12_set_15 : decode cX12_set 15 = .ok (.lconst 0, 1) := by decide +kernel
theorem dX12_set_16 : decode cX12_set 16 = .ok (.lconst 1, 1) := by decide +kernel
theorem dX12_set_17 : decode cX12_set 17 = .ok (.invokestatic 238, 3) := by decide +kernel
theorem dX12_set_20 : decode cX12_set 20 = .ok (.ifCond .eq 19, 3) := by decide +kernel
theorem dX12_set_39 : decode cX12_set 39 = .ok (.iconst 0, 1) := by decide +kernel
theorem dX12_set_40 : decode cX12_set 40 = .ok (.invokevirtual 477, 3) := by decide +kernel
theorem dX12_set_43 : decode cX12_set 43 = .ok (.ireturn, 1) := by decide +kernel
theorem dX12_set_23 : decode cX12_set 23 = .ok (.iload_n 3, 1) := by decide +kernel
theorem dX12_set_24 : decode cX12_set 24 = .ok (.i2l, 1) := by decide +kernel
theorem dX12_set_25 : decode cX12_set 25 = .ok (.lconst 0, 1) := by decide +kernel
theorem dX12_set_26 : decode cX12_set 26 = .ok (.ldc2_w 318, 3) := by decide +kernel
theorem dX12_set_29 : decode cX12_set 29 = .ok (.invokestatic 238, 3) := by decide +kernel
theorem dX12_set_32 : decode cX12_set 32 = .ok (.ifCond .eq 7, 3) := by decide +kernel
theorem dX12_set_35 : decode cX12_set 35 = .ok (.iconst 1, 1) := by decide +kernel
theorem dX12_set_36 : decode cX12_set 36 = .ok (.goto 4, 3) := by decide +kernel
theorem dX12_set_7 : decode cX12_set 7 = .ok (.iconst 1, 1) := by decide +kernel
theorem dX12_set_8 : decode cX12_set 8 = .ok (.goto 4, 3) := by decide +kernel
theorem w_8_126 : (Cond.methodLink RX12 477 yX12_becomes) ∈ wsL_law := sk_mem (ck_8 _ (List.mem_of_getElem? (i := 126) rfl)) rfl
theorem w_8_128 : (Cond.instanceMethod yX12_becomes) ∈ wsL_law := sk_mem (ck_8 _ (List.mem_of_getElem? (i := 128) rfl)) rfl
theorem w_0_106 : (Cond.selects RX12 yX12_becomes yX12_becomes) ∈ wsL_law := sk_mem (ck_0 _ (List.mem_of_getElem? (i := 106) rfl)) rfl
theorem w_7_130 : (Cond.constantLong RX12 318 (9)) ∈ wsL_law := sk_mem (ck_7 _ (List.mem_of_getElem? (i := 130) rfl)) rfl
theorem w_8_125 : (Cond.code yX12_set cX12_set 4 (some .boolean)) ∈ wsL_law := sk_mem (ck_8 _ (List.mem_of_getElem? (i := 125) rfl)) rfl
set_option maxHeartbeats 4000000 in
set_option maxRecDepth 100000 in
theorem c_m_set (l : Launch) (D : va_G) (cI cJ cC cZ cS : ClassId) (m0 : Nat) (g : Nat → Nat) (d : Int32) (w : Int32) (o : Int32)  : skM l yX12_set cX12_set 4 (some .boolean) 3 70 0 0 D (skT cI cJ cC cZ cS) [.ref m0, .int d, .int w, .int o] [(m0, .inr (12, mF (mV g))), (g 20, .inl (cI, 4, .inl (fun _ => 0))), (g 9, .inl (cI, 6, .inl (fun _ => 0)))] (skI D (skT cI cJ cC cZ cS) (fun (r : Int32) (u : va_W) => r = 0 ∧ u = [])) := by
  refine skM_of (by decide) (Nat.le_of_ble_eq_true rfl) ?_
  intro p e s m below meth c A ls E hP hD hl
  obtain ⟨hx, hb, hr, hml, hlocks, hin, hown, hts, hK, hA⟩ := E
  have hown : s.vm.findClass RX12 = some m.cls := hown
  have hS : va_S A s.heap s.heap [] := va_S.rf
  have hl : lv_has ls 4 [(0, .ref m0), (1, .int d), (2, .int w), (3, .int o)] := hl
  refine lv_aload_n hx hb dX12_set_0 rfl (lv_at hl 0 rfl) ?_
  refine lv_iload_n hx hb dX12_set_1 rfl (lv_at hl 1 rfl) ?_
  refine lv_iload_n hx hb dX12_set_2 rfl (lv_at hl 2 rfl) ?_
  refine lv_iconst (v := 1) hx hb dX12_set_3 (by decide) ?_
  refine lv_icmp_ne (tgt := 11) hx hb dX12_set_4 (by decide) (fun c_1 => ?_) (fun c_1 => ?_)
  · refine lv_iconst (v := 0) hx hb dX12_set_11 (by decide) ?_
    refine lv_iload_n hx hb dX12_set_12 rfl (lv_at hl 3 rfl) ?_
    refine lv_iload_n hx hb dX12_set_13 rfl (lv_at hl 2 rfl) ?_
    refine lv_i2l hx hb dX12_set_14 rfl ?_
    refine lv_lconst (v := 0) hx hb dX12_set_15 (by decide) ?_
    refine lv_lconst (v := 1) hx hb dX12_set_16 (by decide) ?_
    refine sk_Si (n := 3) (rest := [.int o, .int 0, .int d, .ref m0]) (wr := [(m0, .inr (12, mF (mV g))), (g 20, .inl (cI, 4, .inl (fun _ => 0))), (g 9, .inl (cI, 6, .inl (fun _ => 0)))]) ⟨hx, hb, hml, hown, hts⟩ hl.1 (c_m_isIn l D cI cJ cC cZ cS (Int32.toInt64 w) 0 1) w_7_0 w_7_1 w_1_14 w_7_2 (by decide +kernel) ⟨⟨(Nat.le_of_ble_eq_true rfl), (Nat.le_of_ble_eq_true rfl)⟩, (Nat.le_of_ble_eq_true rfl), (Nat.le_of_ble_eq_true rfl)⟩ hK hP hD hS hA [] [0, 1, 2] rfl rfl (by decide) (by decide) (by decide) rfl rfl (Nat.le_of_ble_eq_true rfl) dX12_set_17 (fun r_2 u H locs hw hP hD hS => ?_)
    obtain ⟨hf_3, rfl⟩ := hw
    have hP : va_P D vwCl [(m0, .inr (12, mF (mV g))), (g 20, .inl (cI, 4, .inl (fun _ => 0))), (g 9, .inl (cI, 6, .inl (fun _ => 0)))] H := hP
    have hD : va_D A [(m0, .inr (12, mF (mV g))), (g 20, .inl (cI, 4, .inl (fun _ => 0))), (g 9, .inl (cI, 6, .inl (fun _ => 0)))] := hD
    refine W.widen (k := 0) (n := 0) (Nat.le_of_ble_eq_true rfl) (Nat.le_of_ble_eq_true rfl) ?_
    refine lv_if_eq (tgt := 39) hx hb dX12_set_20 (by decide) (fun c_4 => ?_) (fun c_4 => ?_)
    · refine lv_iconst (v := 0) hx hb dX12_set_39 (by decide) ?_
      refine sk_Vi (q0 := 0) (n := 4) (rest := []) (wr := []) ⟨hx, hb, hml, hown, hts⟩ hl.1 (c_m_becomes l D cI cJ cC cZ cS m0 g d 0 o 0) w_8_126 w_8_128 w_0_106 w_1_14 w_8_129 (by decide +kernel) ⟨⟨(Nat.le_of_ble_eq_true rfl), (Nat.le_of_ble_eq_true rfl)⟩, (Nat.le_of_ble_eq_true rfl), (Nat.le_of_ble_eq_true rfl)⟩ hK hP hD hS hA [0, 1, 2] [] rfl rfl (by decide) (by decide) (by decide) rfl rfl rfl rfl (Nat.le_of_ble_eq_true rfl) dX12_set_40 (fun r_5 u H locs hw hP hD hS => ?_)
      obtain ⟨rfl, rfl⟩ := hw
      have hP : va_P D vwCl [] H := hP
      have hD : va_D A [] := hD
      refine W.widen (k := 0) (n := 0) (Nat.le_of_ble_eq_true rfl) (Nat.le_of_ble_eq_true rfl) ?_
      exact sk_iret hx hb hr rfl hlocks hK hP hD hS (⟨rfl, rfl⟩) (Nat.le_of_ble_eq_true rfl) (Nat.le_of_ble_eq_true rfl) dX12_set_43
    · refine lv_iload_n hx hb dX12_set_23 rfl (lv_at hl 3 rfl) ?_
      refine lv_i2l hx hb dX12_set_24 rfl ?_
      refine lv_lconst (v := 0) hx hb dX12_set_25 (by decide) ?_
      refine lv_ldc2 (v := 9) hx hb hown (hts _ w_7_130) dX12_set_26 ?_
      refine sk_Si (n := 3) (rest := [.int o, .int 0, .int d, .ref m0]) (wr := [(m0, .inr (12, mF (mV g))), (g 20, .inl (cI, 4, .inl (fun _ => 0))), (g 9, .inl (cI, 6, .inl (fun _ => 0)))]) ⟨hx, hb, hml, hown, hts⟩ hl.1 (c_m_isIn l D cI cJ cC cZ cS (Int32.toInt64 o) 0 9) w_7_0 w_7_1 w_1_14 w_7_2 (by decide +kernel) ⟨⟨(Nat.le_of_ble_eq_true rfl), (Nat.le_of_ble_eq_true rfl)⟩, (Nat.le_of_ble_eq_true rfl), (Nat.le_of_ble_eq_true rfl)⟩ hK hP hD hS hA [] [0, 1, 2] rfl rfl (by decide) (by decide) (by decide) rfl rfl (Nat.le_of_ble_eq_true rfl) dX12_set_29 (fun r_6 u H locs hw hP hD hS => ?_)
      obtain ⟨hf_7, rfl⟩ := hw
      have hP : va_P D vwCl [(m0, .inr (12, mF (mV g))), (g 20, .inl (cI, 4, .inl (fun _ => 0))), (g 9, .inl (cI, 6, .inl (fun _ => 0)))] H := hP
      have hD : va_D A [(m0, .inr (12, mF (mV g))), (g 20, .inl (cI, 4, .inl (fun _ => 0))), (g 9, .inl (cI, 6, .inl (fun _ => 0)))] := hD
      refine W.widen (k := 0) (n := 0) (Nat.le_of_ble_eq_true rfl) (Nat.le_of_ble_eq_true rfl) ?_
      refine lv_if_eq (tgt := 39) hx hb dX12_set_32 (by decide) (fun c_8 => ?_) (fun c_8 => ?_)
      · refine lv_iconst (v := 0) hx hb dX12_set_39 (by decide) ?_
        refine sk_Vi (q0 := 0) (n := 4) (rest := []) (wr := []) ⟨hx, hb, hml, hown, hts⟩ hl.1 (c_m_becomes l D cI cJ cC cZ cS m0 g d 0 o 0) w_8_126 w_8_128 w_0_106 w_1_14 w_8_129 (by decide +kernel) ⟨⟨(Nat.le_of_ble_eq_true rfl), (Nat.le_of_ble_eq_true rfl)⟩, (Nat.le_of_ble_eq_true rfl), (Nat.le_of_ble_eq_true rfl)⟩ hK hP hD hS hA [0, 1, 2] [] rfl rfl (by decide) (by decide) (by decide) rfl rfl rfl rfl (Nat.le_of_ble_eq_true rfl) dX12_set_40 (fun r_9 u H locs hw hP hD hS => ?_)
        obtain ⟨rfl, rfl⟩ := hw
        have hP : va_P D vwCl [] H := hP
        have hD : va_D A [] := hD
        refine W.widen (k := 0) (n := 0) (Nat.le_of_ble_eq_true rfl) (Nat.le_of_ble_eq_true rfl) ?_
        exact sk_iret hx hb hr rfl hlocks hK hP hD hS (⟨rfl, rfl⟩) (Nat.le_of_ble_eq_true rfl) (Nat.le_of_ble_eq_true rfl) dX12_set_43
      · refine lv_iconst (v := 1) hx hb dX12_set_35 (by decide) ?_
        refine lv_goto (tgt := 40) hx hb dX12_set_36 (by decide) ?_
        refine sk_Vi (q0 := 0) (n := 4) (rest := []) (wr := []) ⟨hx, hb, hml, hown, hts⟩ hl.1 (c_m_becomes l D cI cJ cC cZ cS m0 g d 0 o 1) w_8_126 w_8_128 w_0_106 w_1_14 w_8_129 (by decide +kernel) ⟨⟨(Nat.le_of_ble_eq_true rfl), (Nat.le_of_ble_eq_true rfl)⟩, (Nat.le_of_ble_eq_true rfl), (Nat.le_of_ble_eq_true rfl)⟩ hK hP hD hS hA [0, 1, 2] [] rfl rfl (by decide) (by decide) (by decide) rfl rfl rfl rfl (Nat.le_of_ble_eq_true rfl) dX12_set_40 (fun r_10 u H locs hw hP hD hS => ?_)
        obtain ⟨rfl, rfl⟩ := hw
        have hP : va_P D vwCl [] H := hP
        have hD : va_D A [] := hD
        refine W.widen (k := 0) (n := 0) (Nat.le_of_ble_eq_true rfl) (Nat.le_of_ble_eq_true rfl) ?_
        exact sk_iret hx hb hr rfl hlocks hK hP hD hS (⟨rfl, rfl⟩) (Nat.le_of_ble_eq_true rfl) (Nat.le_of_ble_eq_true rfl) dX12_set_43
  · refine lv_iconst (v := 1) hx hb dX12_set_7 (by decide) ?_
    refine lv_goto (tgt := 12) hx hb dX12_set_8 (by decide) ?_
    refine lv_iload_n hx hb dX12_set_12 rfl (lv_at hl 3 rfl) ?_
    refine lv_iload_n hx hb dX12_set_13 rfl (lv_at hl 2 rfl) ?_
    refine lv_i2l hx hb dX12_set_14 rfl ?_
    refine lv_lconst (v := 0) hx hb dX12_set_15 (by decide) ?_
    refine lv_lconst (v := 1) hx hb dX12_set_16 (by decide) ?_
    refine sk_Si (n := 3) (rest := [.int o, .int 1, .int d, .ref m0]) (wr := [(m0, .inr (12, mF (mV g))), (g 20, .inl (cI, 4, .inl (fun _ => 0))), (g 9, .inl (cI, 6, .inl (fun _ => 0)))]) ⟨hx, hb, hml, hown, hts⟩ hl.1 (c_m_isIn l D cI cJ cC cZ cS (Int32.toInt64 w) 0 1) w_7_0 w_7_1 w_1_14 w_7_2 (by decide +kernel) ⟨⟨(Nat.le_of_ble_eq_true rfl), (Nat.le_of_ble_eq_true rfl)⟩, (Nat.le_of_ble_eq_true rfl), (Nat.le_of_ble_eq_true rfl)⟩ hK hP hD hS hA [] [0, 1, 2] rfl rfl (by decide) (by decide) (by decide) rfl rfl (Nat.le_of_ble_eq_true rfl) dX12_set_17 (fun r_11 u H locs hw hP hD hS => ?_)
    obtain ⟨hf_12, rfl⟩ := hw
    have hP : va_P D vwCl [(m0, .inr (12, mF (mV g))), (g 20, .inl (cI, 4, .inl (fun _ => 0))), (g 9, .inl (cI, 6, .inl (fun _ => 0)))] H := hP
    have hD : va_D A [(m0, .inr (12, mF (mV g))), (g 20, .inl (cI, 4, .inl (fun _ => 0))), (g 9, .inl (cI, 6, .inl (fun _ => 0)))] := hD
    refine W.widen (k := 0) (n := 0) (Nat.le_of_ble_eq_true rfl) (Nat.le_of_ble_eq_true rfl) ?_
    refine lv_if_eq (tgt := 39) hx hb dX12_set_20 (by decide) (fun c_13 => ?_) (fun c_13 => ?_)
    · refine lv_iconst (v := 0) hx hb dX12_set_39 (by decide) ?_
      refine sk_Vi (q0 := 0) (n := 4) (rest := []) (wr := []) ⟨hx, hb, hml, hown, hts⟩ hl.1 (c_m_becomes l D cI cJ cC cZ cS m0 g d 1 o 0) w_8_126 w_8_128 w_0_106 w_1_14 w_8_129 (by decide +kernel) ⟨⟨(Nat.le_of_ble_eq_true rfl), (Nat.le_of_ble_eq_true rfl)⟩, (Nat.le_of_ble_eq_true rfl), (Nat.le_of_ble_eq_true rfl)⟩ hK hP hD hS hA [0, 1, 2] [] rfl rfl (by decide) (by decide) (by decide) rfl rfl rfl rfl (Nat.le_of_ble_eq_true rfl) dX12_set_40 (fun r_14 u H locs hw hP hD hS => ?_)
      obtain ⟨rfl, rfl⟩ := hw
      have hP : va_P D vwCl [] H := hP
      have hD : va_D A [] := hD
      refine W.widen (k := 0) (n := 0) (Nat.le_of_ble_eq_true rfl) (Nat.le_of_ble_eq_true rfl) ?_
      exact sk_iret hx hb hr rfl hlocks hK hP hD hS (⟨rfl, rfl⟩) (Nat.le_of_ble_eq_true rfl) (Nat.le_of_ble_eq_true rfl) dX12_set_43
    · refine lv_iload_n hx hb dX12_set_23 rfl (lv_at hl 3 rfl) ?_
      refine lv_i2l hx hb dX12_set_24 rfl ?_
      refine lv_lconst (v := 0) hx hb dX12_set_25 (by decide) ?_
      refine lv_ldc2 (v := 9) hx hb hown (hts _ w_7_130) dX12_set_26 ?_
      refine sk_Si (n := 3) (rest := [.int o, .int 1, .int d, .ref m0]) (wr := [(m0, .inr (12, mF (mV g))), (g 20, .inl (cI, 4, .inl (fun _ => 0))), (g 9, .inl (cI, 6, .inl (fun _ => 0)))]) ⟨hx, hb, hml, hown, hts⟩ hl.1 (c_m_isIn l D cI cJ cC cZ cS (Int32.toInt64 o) 0 9) w_7_0 w_7_1 w_1_14 w_7_2 (by decide +kernel) ⟨⟨(Nat.le_of_ble_eq_true rfl), (Nat.le_of_ble_eq_true rfl)⟩, (Nat.le_of_ble_eq_true rfl), (Nat.le_of_ble_eq_true rfl)⟩ hK hP hD hS hA [] [0, 1, 2] rfl rfl (by decide) (by decide) (by decide) rfl rfl (Nat.le_of_ble_eq_true rfl) dX12_set_29 (fun r_15 u H locs hw hP hD hS => ?_)
      obtain ⟨hf_16, rfl⟩ := hw
      have hP : va_P D vwCl [(m0, .inr (12, mF (mV g))), (g 20, .inl (cI, 4, .inl (fun _ => 0))), (g 9, .inl (cI, 6, .inl (fun _ => 0)))] H := hP
      have hD : va_D A [(m0, .inr (12, mF (mV g))), (g 20, .inl (cI, 4, .inl (fun _ => 0))), (g 9, .inl (cI, 6, .inl (fun _ => 0)))] := hD
      refine W.widen (k := 0) (n := 0) (Nat.le_of_ble_eq_true rfl) (Nat.le_of_ble_eq_true rfl) ?_
      refine lv_if_eq (tgt := 39) hx hb dX12_set_32 (by decide) (fun c_17 => ?_) (fun c_17 => ?_)
      · refine lv_iconst (v := 0) hx hb dX12_set_39 (by decide) ?_
        refine sk_Vi (q0 := 0) (n := 4) (rest := []) (wr := []) ⟨hx, hb, hml, hown, hts⟩ hl.1 (c_m_becomes l D cI cJ cC cZ cS m0 g d 1 o 0) w_8_126 w_8_128 w_0_106 w_1_14 w_8_129 (by decide +kernel) ⟨⟨(Nat.le_of_ble_eq_true rfl), (Nat.le_of_ble_eq_true rfl)⟩, (Nat.le_of_ble_eq_true rfl), (Nat.le_of_ble_eq_true rfl)⟩ hK hP hD hS hA [0, 1, 2] [] rfl rfl (by decide) (by decide) (by decide) rfl rfl rfl rfl (Nat.le_of_ble_eq_true rfl) dX12_set_40 (fun r_18 u H locs hw hP hD hS => ?_)
        obtain ⟨rfl, rfl⟩ := hw
        have hP : va_P D vwCl [] H := hP
        have hD : va_D A [] := hD
        refine W.widen (k := 0) (n := 0) (Nat.le_of_ble_eq_true rfl) (Nat.le_of_ble_eq_true rfl) ?_
        exact sk_iret hx hb hr rfl hlocks hK hP hD hS (⟨rfl, rfl⟩) (Nat.le_of_ble_eq_true rfl) (Nat.le_of_ble_eq_true rfl) dX12_set_43
      · refine lv_iconst (v := 1) hx hb dX12_set_35 (by decide) ?_
        refine lv_goto (tgt := 40) hx hb dX12_set_36 (by decide) ?_
        refine sk_Vi (q0 := 0) (n := 4) (rest := []) (wr := []) ⟨hx, hb, hml, hown, hts⟩ hl.1 (c_m_becomes l D cI cJ cC cZ cS m0 g d 1 o 1) w_8_126 w_8_128 w_0_106 w_1_14 w_8_129 (by decide +kernel) ⟨⟨(Nat.le_of_ble_eq_true rfl), (Nat.le_of_ble_eq_true rfl)⟩, (Nat.le_of_ble_eq_true rfl), (Nat.le_of_ble_eq_true rfl)⟩ hK hP hD hS hA [0, 1, 2] [] rfl rfl (by decide) (by decide) (by decide) rfl rfl rfl rfl (Nat.le_of_ble_eq_true rfl) dX12_set_40 (fun r_19 u H locs hw hP hD hS => ?_)
        obtain ⟨rfl, rfl⟩ := hw
        have hP : va_P D vwCl [] H := hP
        have hD : va_D A [] := hD
        refine W.widen (k := 0) (n := 0) (Nat.le_of_ble_eq_true rfl) (Nat.le_of_ble_eq_true rfl) ?_
        exact sk_iret hx hb hr rfl hlocks hK hP hD hS (⟨rfl, rfl⟩) (Nat.le_of_ble_eq_true rfl) (Nat.le_of_ble_eq_true rfl) dX12_set_43
theorem dX12_mute_0 : decode cX12_mute 0 = .ok (.aload_n 0, 1) := by decide +kernel
theorem dX12_mute_1 : decode cX12_mute 1 = .ok (.iload_n 1, 1) := by decide +kernel
theorem dX12_mute_2 : decode cX12_mute 2 = .ok (.iconst 2, 1) := by decide +kernel
theorem dX12_mute_3 : decode cX12_mute 3 = .ok (.iload_n 2, 1) := by decide +kernel
theorem dX12_mute_4 : decode cX12_mute 4 = .ok (.iload_n 2, 1) := by decide +kernel
theorem dX12_mute_5 : decode cX12_mute 5 = .ok (.i2l, 1) := by decide +kernel
theorem dX12_mute_6 : decode cX12_mute 6 = .ok (.lconst 0, 1) := by decide +kernel
theorem dX12_mute_7 : decode cX12_mute 7 = .ok (.lconst 1, 1) := by decide +kernel
theorem dX12_mute_8 : decode cX12_mute 8 = .ok (.invokestatic 238, 3) := by decide +kernel
theorem dX12_mute_11 : decode cX12_mute 11 = .ok (.invokevirtual 477, 3) := by decide +kernel
theorem dX12_mute_14 : decode cX12_mute 14 = .ok (.ireturn, 1) := by decide +kernel
theorem w_8_137 : (Cond.code yX12_mute cX12_mute 3 (some .boolean)) ∈ wsL_law := sk_mem (ck_8 _ (List.mem_of_getElem? (i := 137) rfl)) rfl
set_option maxHeartbeats 4000000 in
set_option maxRecDepth 100000 in
theorem c_m_mute (l : Launch) (D : va_G) (cI cJ cC cZ cS : ClassId) (m0 : Nat) (g : Nat → Nat) (d : Int32) (w : Int32)  : skM l yX12_mute cX12_mute 3 (some .boolean) 3 70 0 0 D (skT cI cJ cC cZ cS) [.ref m0, .int d, .int w] [(m0, .inr (12, mF (mV g))), (g 20, .inl (cI, 4, .inl (fun _ => 0))), (g 9, .inl (cI, 6, .inl (fun _ => 0)))] (skI D (skT cI cJ cC cZ cS) (fun (r : Int32) (u : va_W) => r = 0 ∧ u = [])) := by
  refine skM_of (by decide) (Nat.le_of_ble_eq_true rfl) ?_
  intro p e s m below meth c A ls E hP hD hl
  obtain ⟨hx, hb, hr, hml, hlocks, hin, hown, hts, hK, hA⟩ := E
  have hown : s.vm.findClass RX12 = some m.cls := hown
  have hS : va_S A s.heap s.heap [] := va_S.rf
  have hl : lv_has ls 3 [(0, .ref m0), (1, .int d), (2, .int w)] := hl
  refine lv_aload_n hx hb dX12_mute_0 rfl (lv_at hl 0 rfl) ?_
  refine lv_iload_n hx hb dX12_mute_1 rfl (lv_at hl 1 rfl) ?_
  refine lv_iconst (v := 2) hx hb dX12_mute_2 (by decide) ?_
  refine lv_iload_n hx hb dX12_mute_3 rfl (lv_at hl 2 rfl) ?_
  refine lv_iload_n hx hb dX12_mute_4 rfl (lv_at hl 2 rfl) ?_
  refine lv_i2l hx hb dX12_mute_5 rfl ?_
  refine lv_lconst (v := 0) hx hb dX12_mute_6 (by decide) ?_
  refine lv_lconst (v := 1) hx hb dX12_mute_7 (by decide) ?_
  refine sk_Si (n := 3) (rest := [.int w, .int 2, .int d, .ref m0]) (wr := [(m0, .inr (12, mF (mV g))), (g 20, .inl (cI, 4, .inl (fun _ => 0))), (g 9, .inl (cI, 6, .inl (fun _ => 0)))]) ⟨hx, hb, hml, hown, hts⟩ hl.1 (c_m_isIn l D cI cJ cC cZ cS (Int32.toInt64 w) 0 1) w_7_0 w_7_1 w_1_14 w_7_2 (by decide +kernel) ⟨⟨(Nat.le_of_ble_eq_true rfl), (Nat.le_of_ble_eq_true rfl)⟩, (Nat.le_of_ble_eq_true rfl), (Nat.le_of_ble_eq_true rfl)⟩ hK hP hD hS hA [] [0, 1, 2] rfl rfl (by decide) (by decide) (by decide) rfl rfl (Nat.le_of_ble_eq_true rfl) dX12_mute_8 (fun r_1 u H locs hw hP hD hS => ?_)
  obtain ⟨hf_2, rfl⟩ := hw
  have hP : va_P D vwCl [(m0, .inr (12, mF (mV g))), (g 20, .inl (cI, 4, .inl (fun _ => 0))), (g 9, .inl (cI, 6, .inl (fun _ => 0)))] H := hP
  have hD : va_D A [(m0, .inr (12, mF (mV g))), (g 20, .inl (cI, 4, .inl (fun _ => 0))), (g 9, .inl (cI, 6, .inl (fun _ => 0)))] := hD
  refine W.widen (k := 0) (n := 0) (Nat.le_of_ble_eq_true rfl) (Nat.le_of_ble_eq_true rfl) ?_
  refine sk_Vi (q0 := 0) (n := 4) (rest := []) (wr := []) ⟨hx, hb, hml, hown, hts⟩ hl.1 (c_m_becomes l D cI cJ cC cZ cS m0 g d 2 w r_1) w_8_126 w_8_128 w_0_106 w_1_14 w_8_129 (by decide +kernel) ⟨⟨(Nat.le_of_ble_eq_true rfl), (Nat.le_of_ble_eq_true rfl)⟩, (Nat.le_of_ble_eq_true rfl), (Nat.le_of_ble_eq_true rfl)⟩ hK hP hD hS hA [0, 1, 2] [] rfl rfl (by decide) (by decide) (by decide) rfl rfl rfl rfl (Nat.le_of_ble_eq_true rfl) dX12_mute_11 (fun r_3 u H locs hw hP hD hS => ?_)
  obtain ⟨rfl, rfl⟩ := hw
  have hP : va_P D vwCl [] H := hP
  have hD : va_D A [] := hD
  refine W.widen (k := 0) (n := 0) (Nat.le_of_ble_eq_true rfl) (Nat.le_of_ble_eq_true rfl) ?_
  exact sk_iret hx hb hr rfl hlocks hK hP hD hS (⟨rfl, rfl⟩) (Nat.le_of_ble_eq_true rfl) (Nat.le_of_ble_eq_true rfl) dX12_mute_14
theorem dX12_go_0 : decode cX12_go 0 = .ok (.aload_n 0, 1) := by decide +kernel
theorem dX12_go_1 : decode cX12_go 1 = .ok (.iconst 1, 1) := by decide +kernel
theorem dX12_go_2 : decode cX12_go 2 = .ok (.iconst 1, 1) := by decide +kernel
theorem dX12_go_3 : decode cX12_go 3 = .ok (.iconst 1, 1) := by decide +kernel
theorem dX12_go_4 : decode cX12_go 4 = .ok (.invokevirtual 426, 3) := by decide +kernel
theorem dX12_go_7 : decode cX12_go 7 = .ok (.ifCond .ne 9, 3) := by decide +kernel
theorem dX12_go_10 : decode cX12_go 10 = .ok (.aload_n 0, 1) := by decide +kernel
theorem dX12_go_11 : decode cX12_go 11 = .ok (.iconst 3, 1) := by decide +kernel
theorem dX12_go_12 : decode cX12_go 12 = .ok (.invokevirtual 463, 3) := by decide +kernel
theorem dX12_go_15 : decode cX12_go 15 = .ok (.ireturn, 1) := by decide +kernel
theorem w_8_141 : (Cond.code yX12_go cX12_go 1 (some .int)) ∈ wsL_law := sk_mem (ck_8 _ (List.mem_of_getElem? (i := 141) rfl)) rfl
set_option maxHeartbeats 4000000 in
set_option maxRecDepth 100000 in
theorem c_m_go (l : Launch) (D : va_G) (cI cJ cC cZ cS : ClassId) (m0 : Nat) (g : Nat → Nat)  : skM l yX12_go cX12_go 1 (some .int) 1 23 0 0 D (skT cI cJ cC cZ cS) [.ref m0] [(m0, .inr (12, mF (mV g))), (g 9, .inl (cI, 6, .inl (fun _ => 0)))] (skI D (skT cI cJ cC cZ cS) (fun (r : Int32) (u : va_W) => r = -1 ∧ u = [])) := by
  refine skM_of (by decide) (Nat.le_of_ble_eq_true rfl) ?_
  intro p e s m below meth c A ls E hP hD hl
  obtain ⟨hx, hb, hr, hml, hlocks, hin, hown, hts, hK, hA⟩ := E
  have hown : s.vm.findClass RX12 = some m.cls := hown
  have hS : va_S A s.heap s.heap [] := va_S.rf
  have hl : lv_has ls 1 [(0, .ref m0)] := hl
  refine lv_aload_n hx hb dX12_go_0 rfl (lv_at hl 0 rfl) ?_
  refine lv_iconst (v := 1) hx hb dX12_go_1 (by decide) ?_
  refine lv_iconst (v := 1) hx hb dX12_go_2 (by decide) ?_
  refine lv_iconst (v := 1) hx hb dX12_go_3 (by decide) ?_
  refine sk_Vi (q0 := 0) (n := 3) (rest := []) (wr := [(g 9, .inl (cI, 6, .inl (fun _ => 0)))]) ⟨hx, hb, hml, hown, hts⟩ hl.1 (c_m_isAhead l D cI cJ cC cZ cS m0 g 1 1 1) w_8_5 w_8_7 w_0_90 w_1_14 w_8_8 (by decide +kernel) ⟨⟨(Nat.le_of_ble_eq_true rfl), (Nat.le_of_ble_eq_true rfl)⟩, (Nat.le_of_ble_eq_true rfl), (Nat.le_of_ble_eq_true rfl)⟩ hK hP hD hS hA [0] [1] rfl rfl (by decide) (by decide) (by decide) rfl rfl rfl rfl (Nat.le_of_ble_eq_true rfl) dX12_go_4 (fun r_1 u H locs hw hP hD hS => ?_)
  obtain ⟨rfl, rfl⟩ := hw
  have hP : va_P D vwCl [(g 9, .inl (cI, 6, .inl (fun _ => 0))), (m0, .inr (12, mF (mV g)))] H := hP
  have hD : va_D A [(g 9, .inl (cI, 6, .inl (fun _ => 0))), (m0, .inr (12, mF (mV g)))] := hD
  refine W.widen (k := 0) (n := 0) (Nat.le_of_ble_eq_true rfl) (Nat.le_of_ble_eq_true rfl) ?_
  refine lv_if_ne (tgt := 16) hx hb dX12_go_7 (by decide) (fun c => absurd c (by decide)) (fun c_2 => ?_)
  refine lv_aload_n hx hb dX12_go_10 rfl (lv_at hl 0 rfl) ?_
  refine lv_iconst (v := 3) hx hb dX12_go_11 (by decide) ?_
  refine sk_Vi (q0 := 0) (n := 1) (rest := []) (wr := []) ⟨hx, hb, hml, hown, hts⟩ hl.1 (c_m_refuses l D cI cJ cC cZ cS m0 g 3 (fun _ => 0) (by unfold vp_in; decide)) w_8_97 w_8_99 w_0_104 w_1_14 w_8_100 (by decide +kernel) ⟨⟨(Nat.le_of_ble_eq_true rfl), (Nat.le_of_ble_eq_true rfl)⟩, (Nat.le_of_ble_eq_true rfl), (Nat.le_of_ble_eq_true rfl)⟩ hK hP hD hS hA [1, 0] [] rfl rfl (by decide) (by decide) (by decide) rfl rfl rfl rfl (Nat.le_of_ble_eq_true rfl) dX12_go_12 (fun r_3 u H locs hw hP hD hS => ?_)
  obtain ⟨rfl, rfl⟩ := hw
  have hP : va_P D vwCl [] H := hP
  have hD : va_D A [] := hD
  refine W.widen (k := 0) (n := 0) (Nat.le_of_ble_eq_true rfl) (Nat.le_of_ble_eq_true rfl) ?_
  exact sk_iret hx hb hr rfl hlocks hK hP hD hS (⟨rfl, rfl⟩) (Nat.le_of_ble_eq_true rfl) (Nat.le_of_ble_eq_true rfl) dX12_go_15
theorem dX12_seed_0 : decode cX12_seed 0 = .ok (.iload_n 1, 1) := by decide +kernel
theorem dX12_seed_1 : decode cX12_seed 1 = .ok (.ifCond .ge 15, 3) := by decide +kernel
theorem dX12_seed_16 : decode cX12_seed 16 = .ok (.aload_n 0, 1) := by decide +kernel
theorem dX12_seed_17 : decode cX12_seed 17 = .ok (.iload_n 1, 1) := by decide +kernel
theorem dX12_seed_18 : decode cX12_seed 18 = .ok (.i2l, 1) := by decide +kernel
theorem dX12_seed_19 : decode cX12_seed 19 = .ok (.putfield 110, 3) := by decide +kernel
theorem dX12_seed_22 : decode cX12_seed 22 = .ok (.iconst 1, 1) := by decide +kernel
theorem dX12_seed_23 : decode cX12_seed 23 = .ok (.ireturn, 1) := by decide +kernel
theorem dX12_seed_4 : decode cX12_seed 4 = .ok (.aload_n 0, 1) := by decide +kernel
theorem dX12_seed_5 : decode cX12_seed 5 = .ok (.getfield 17, 3) := by decide +kernel
theorem dX12_seed_8 : decode cX12_seed 8 = .ok (.iconst 5, 1) := by decide +kernel
theorem dX12_seed_9 : decode cX12_seed 9 = .ok (.dup2, 1) := by decide +kernel
theorem dX12_seed_10 : decode cX12_seed 10 = .ok (.iaload, 1) := by decide +kernel
theorem dX12_seed_11 : decode cX12_seed 11 = .ok (.iconst 1, 1) := by decide +kernel
theorem dX12_seed_12 : decode cX12_seed 12 = .ok (.iadd, 1) := by decide +kernel
theorem dX12_seed_13 : decode cX12_seed 13 = .ok (.iastore, 1) := by decide +kernel
theorem dX12_seed_14 : decode cX12_seed 14 = .ok (.iconst 0, 1) := by decide +kernel
theorem dX12_seed_15 : decode cX12_seed 15 = .ok (.ireturn, 1) := by decide +kernel
theorem w_8_145 : (Cond.code yX12_seed cX12_seed 2 (some .boolean)) ∈ wsL_law := sk_mem (ck_8 _ (List.mem_of_getElem? (i := 145) rfl)) rfl
set_option maxHeartbeats 4000000 in
set_option maxRecDepth 100000 in
theorem c_m_seed (l : Launch) (D : va_G) (cI cJ cC cZ cS : ClassId) (m0 : Nat) (g : Nat → Nat) (n : Int32)  : skM l yX12_seed cX12_seed 2 (some .boolean) 0 0 0 0 D (skT cI cJ cC cZ cS) [.ref m0, .int n] [(m0, .inr (12, mF (mV g))), (g 9, .inl (cI, 6, .inl (fun _ => 0)))] (skI D (skT cI cJ cC cZ cS) (fun (r : Int32) (u : va_W) => r = sp_seed n ∧ u = [])) := by
  refine skM_of (by decide) (Nat.le_of_ble_eq_true rfl) ?_
  intro p e s m below meth c A ls E hP hD hl
  obtain ⟨hx, hb, hr, hml, hlocks, hin, hown, hts, hK, hA⟩ := E
  have hown : s.vm.findClass RX12 = some m.cls := hown
  have hS : va_S A s.heap s.heap [] := va_S.rf
  have hl : lv_has ls 2 [(0, .ref m0), (1, .int n)] := hl
  refine lv_iload_n hx hb dX12_seed_0 rfl (lv_at hl 1 rfl) ?_
  refine lv_if_ge (tgt := 16) hx hb dX12_seed_1 (by decide) (fun c_1 => ?_) (fun c_1 => ?_)
  · refine lv_aload_n hx hb dX12_seed_16 rfl (lv_at hl 0 rfl) ?_
    refine lv_iload_n hx hb dX12_seed_17 rfl (lv_at hl 1 rfl) ?_
    refine lv_i2l hx hb dX12_seed_18 rfl ?_
    refine sk_put (ws' := [(m0, .inr (12, mF (updV (mV g) 57 (.long (Int32.toInt64 n))))), (g 9, .inl (cI, 6, .inl (fun _ => 0)))]) (C := RX12) (T := TX12) (N := 92) (v := .long (Int32.toInt64 n)) hx hb hts inlX12 tyX12 tyX12_ok nmX12 hown hK hP hD hS 0 rfl rfl 57 (by decide) w_5_212 rfl rfl rfl (mF_len (by decide)) (mF_w (by decide) rfl) dX12_seed_19 (fun H locs hP hD hS => ?_)
    refine lv_iconst (v := 1) hx hb dX12_seed_22 (by decide) ?_
    have hP := hP.sub (ws' := []) [] rfl
    have hD := hD.sub (ws' := []) [] (by decide) rfl
    exact sk_iret hx hb hr rfl hlocks hK hP hD hS (⟨by simp only [sp_seed, if_pos c_1], rfl⟩) (Nat.le_of_ble_eq_true rfl) (Nat.le_of_ble_eq_true rfl) dX12_seed_23
  · refine lv_aload_n hx hb dX12_seed_4 rfl (lv_at hl 0 rfl) ?_
    refine sk_get (v := .ref (g 9)) (C := RX12) (T := TX12) (N := 92) hx hb hts inlX12 hown hK hP 0 rfl rfl 9 (by decide) w_5_164 (mF_get (k := 9) (by decide) rfl) dX12_seed_5 ?_
    refine lv_iconst (v := 5) hx hb dX12_seed_8 (by decide) ?_
    refine lv_dup2_11 hx hb dX12_seed_9 rfl rfl ?_
    refine va_iald hx hb hK.1 hP 1 0 rfl rfl (by unfold vp_in; decide) dX12_seed_10 ?_
    refine sk_top 0 rfl ?_
    refine lv_iconst (v := 1) hx hb dX12_seed_11 (by decide) ?_
    refine lv_iadd hx hb dX12_seed_12 ?_
    refine sk_top 1 (by decide) ?_
    refine sk_iast (ws' := [(m0, .inr (12, mF (mV g))), (g 9, .inl (cI, 6, .inl (upd (fun _ => 0) 5 1)))]) hx hb hK hP hD hS 1 0 rfl rfl (by unfold vp_in; decide) rfl dX12_seed_13 (fun H locs hP hD hS => ?_)
    refine lv_iconst (v := 0) hx hb dX12_seed_14 (by decide) ?_
    have hP := hP.sub (ws' := []) [] rfl
    have hD := hD.sub (ws' := []) [] (by decide) rfl
    exact sk_iret hx hb hr rfl hlocks hK hP hD hS (⟨by simp only [sp_seed, if_neg c_1], rfl⟩) (Nat.le_of_ble_eq_true rfl) (Nat.le_of_ble_eq_true rfl) dX12_seed_15
theorem dX12_chance_0 : decode cX12_chance 0 = .ok (.aload_n 0, 1) := by decide +kernel
theorem dX12_chance_1 : decode cX12_chance 1 = .ok (.iload_n 1, 1) := by decide +kernel
theorem dX12_chance_2 : decode cX12_chance 2 = .ok (.iconst 1, 1) := by decide +kernel
theorem dX12_chance_3 : decode cX12_chance 3 = .ok (.bipush 30, 2) := by decide +kernel
theorem dX12_chance_5 : decode cX12_chance 5 = .ok (.invokevirtual 426, 3) := by decide +kernel
theorem dX12_chance_8 : decode cX12_chance 8 = .ok (.ifCond .ne 9, 3) := by decide +kernel
theorem dX12_chance_11 : decode cX12_chance 11 = .ok (.aload_n 0, 1) := by decide +kernel
theorem dX12_chance_12 : decode cX12_chance 12 = .ok (.iconst 3, 1) := by decide +kernel
theorem dX12_chance_13 : decode cX12_chance 13 = .ok (.invokevirtual 463, 3) := by decide +kernel
theorem dX12_chance_16 : decode cX12_chance 16 = .ok (.ireturn, 1) := by decide +kernel
theorem w_8_149 : (Cond.code yX12_chance cX12_chance 5 (some .int)) ∈ wsL_law := sk_mem (ck_8 _ (List.mem_of_getElem? (i := 149) rfl)) rfl
set_option maxHeartbeats 4000000 in
set_option maxRecDepth 100000 in
theorem c_m_chance (l : Launch) (D : va_G) (cI cJ cC cZ cS : ClassId) (m0 : Nat) (g : Nat → Nat) (n : Int32)  : skM l yX12_chance cX12_chance 5 (some .int) 1 23 0 0 D (skT cI cJ cC cZ cS) [.ref m0, .int n] [(m0, .inr (12, mF (mV g))), (g 9, .inl (cI, 6, .inl (fun _ => 0)))] (skI D (skT cI cJ cC cZ cS) (fun (r : Int32) (u : va_W) => r = -1 ∧ u = [])) := by
  refine skM_of (by decide) (Nat.le_of_ble_eq_true rfl) ?_
  intro p e s m below meth c A ls E hP hD hl
  obtain ⟨hx, hb, hr, hml, hlocks, hin, hown, hts, hK, hA⟩ := E
  have hown : s.vm.findClass RX12 = some m.cls := hown
  have hS : va_S A s.heap s.heap [] := va_S.rf
  have hl : lv_has ls 5 [(0, .ref m0), (1, .int n)] := hl
  refine lv_aload_n hx hb dX12_chance_0 rfl (lv_at hl 0 rfl) ?_
  refine lv_iload_n hx hb dX12_chance_1 rfl (lv_at hl 1 rfl) ?_
  refine lv_iconst (v := 1) hx hb dX12_chance_2 (by decide) ?_
  refine lv_bipush (v := 30) hx hb dX12_chance_3 (by decide) ?_
  refine sk_Vi (q0 := 0) (n := 3) (rest := []) (wr := [(g 9, .inl (cI, 6, .inl (fun _ => 0)))]) ⟨hx, hb, hml, hown, hts⟩ hl.1 (c_m_isAhead l D cI cJ cC cZ cS m0 g n 1 30) w_8_5 w_8_7 w_0_90 w_1_14 w_8_8 (by decide +kernel) ⟨⟨(Nat.le_of_ble_eq_true rfl), (Nat.le_of_ble_eq_true rfl)⟩, (Nat.le_of_ble_eq_true rfl), (Nat.le_of_ble_eq_true rfl)⟩ hK hP hD hS hA [0] [1] rfl rfl (by decide) (by decide) (by decide) rfl rfl rfl rfl (Nat.le_of_ble_eq_true rfl) dX12_chance_5 (fun r_1 u H locs hw hP hD hS => ?_)
  obtain ⟨rfl, rfl⟩ := hw
  have hP : va_P D vwCl [(g 9, .inl (cI, 6, .inl (fun _ => 0))), (m0, .inr (12, mF (mV g)))] H := hP
  have hD : va_D A [(g 9, .inl (cI, 6, .inl (fun _ => 0))), (m0, .inr (12, mF (mV g)))] := hD
  refine W.widen (k := 0) (n := 0) (Nat.le_of_ble_eq_true rfl) (Nat.le_of_ble_eq_true rfl) ?_
  refine lv_if_ne (tgt := 17) hx hb dX12_chance_8 (by decide) (fun c => absurd c (by decide)) (fun c_2 => ?_)
  refine lv_aload_n hx hb dX12_chance_11 rfl (lv_at hl 0 rfl) ?_
  refine lv_iconst (v := 3) hx hb dX12_chance_12 (by decide) ?_
  refine sk_Vi (q0 := 0) (n := 1) (rest := []) (wr := []) ⟨hx, hb, hml, hown, hts⟩ hl.1 (c_m_refuses l D cI cJ cC cZ cS m0 g 3 (fun _ => 0) (by unfold vp_in; decide)) w_8_97 w_8_99 w_0_104 w_1_14 w_8_100 (by decide +kernel) ⟨⟨(Nat.le_of_ble_eq_true rfl), (Nat.le_of_ble_eq_true rfl)⟩, (Nat.le_of_ble_eq_true rfl), (Nat.le_of_ble_eq_true rfl)⟩ hK hP hD hS hA [1, 0] [] rfl rfl (by decide) (by decide) (by decide) rfl rfl rfl rfl (Nat.le_of_ble_eq_true rfl) dX12_chance_13 (fun r_3 u H locs hw hP hD hS => ?_)
  obtain ⟨rfl, rfl⟩ := hw
  have hP : va_P D vwCl [] H := hP
  have hD : va_D A [] := hD
  refine W.widen (k := 0) (n := 0) (Nat.le_of_ble_eq_true rfl) (Nat.le_of_ble_eq_true rfl) ?_
  exact sk_iret hx hb hr rfl hlocks hK hP hD hS (⟨rfl, rfl⟩) (Nat.le_of_ble_eq_true rfl) (Nat.le_of_ble_eq_true rfl) dX12_chance_16
theorem dX12_ask_0 : decode cX12_ask 0 = .ok (.aload_n 0, 1) := by decide +kernel
theorem dX12_ask_1 : decode cX12_ask 1 = .ok (.getfield 302, 3) := by decide +kernel
theorem dX12_ask_4 : decode cX12_ask 4 = .ok (.ifCond .ne 12, 3) := by decide +kernel
theorem dX12_ask_7 : decode cX12_ask 7 = .ok (.aload_n 0, 1) := by decide +kernel
theorem dX12_ask_8 : decode cX12_ask 8 = .ok (.iconst 0, 1) := by decide +kernel
theorem dX12_ask_9 : decode cX12_ask 9 = .ok (.putfield 192, 3) := by decide +kernel
theorem dX12_ask_12 : decode cX12_ask 12 = .ok (.ldc2_w 421, 3) := by decide +kernel
theorem dX12_ask_15 : decode cX12_ask 15 = .ok (.lreturn, 1) := by decide +kernel
theorem w_8_166 : (Cond.code yX12_ask cX12_ask 3 (some .long)) ∈ wsL_law := sk_mem (ck_8 _ (List.mem_of_getElem? (i := 166) rfl)) rfl
set_option maxHeartbeats 4000000 in
set_option maxRecDepth 100000 in
theorem c_m_ask (l : Launch) (D : va_G) (cI cJ cC cZ cS : ClassId) (m0 : Nat) (g : Nat → Nat)  : skM l yX12_ask cX12_ask 3 (some .long) 0 0 0 0 D (skT cI cJ cC cZ cS) [.ref m0] [(m0, .inr (12, mF (mV g)))] (skL D (skT cI cJ cC cZ cS) (fun (r : Int64) (u : va_W) => r = -1000000000000000 ∧ u = [])) := by
  refine skM_of (by decide) (Nat.le_of_ble_eq_true rfl) ?_
  intro p e s m below meth c A ls E hP hD hl
  obtain ⟨hx, hb, hr, hml, hlocks, hin, hown, hts, hK, hA⟩ := E
  have hown : s.vm.findClass RX12 = some m.cls := hown
  have hS : va_S A s.heap s.heap [] := va_S.rf
  have hl : lv_has ls 3 [(0, .ref m0)] := hl
  refine lv_aload_n hx hb dX12_ask_0 rfl (lv_at hl 0 rfl) ?_
  refine sk_get (v := .int 0) (C := RX12) (T := TX12) (N := 92) hx hb hts inlX12 hown hK hP 0 rfl rfl 29 (by decide) w_5_184 (mF_get (k := 29) (by decide) rfl) dX12_ask_1 ?_
  refine lv_if_ne (tgt := 16) hx hb dX12_ask_4 (by decide) (fun c => absurd c (by decide)) (fun c_1 => ?_)
  refine lv_aload_n hx hb dX12_ask_7 rfl (lv_at hl 0 rfl) ?_
  refine lv_iconst (v := 0) hx hb dX12_ask_8 (by decide) ?_
  refine sk_put (ws' := [(m0, .inr (12, mF (updV (mV g) 1 (.int 0))))]) (C := RX12) (T := TX12) (N := 92) (v := .int 0) hx hb hts inlX12 tyX12 tyX12_ok nmX12 hown hK hP hD hS 0 rfl rfl 1 (by decide) w_5_156 rfl rfl rfl (mF_len (by decide)) (mF_w (by decide) rfl) dX12_ask_9 (fun H locs hP hD hS => ?_)
  refine lv_ldc2 (v := (-1000000000000000)) hx hb hown (hts _ w_7_184) dX12_ask_12 ?_
  have hP := hP.sub (ws' := []) [] rfl
  have hD := hD.sub (ws' := []) [] (by decide) rfl
  exact sk_lret hx hb hr hlocks hK hP hD hS (⟨rfl, rfl⟩) (Nat.le_of_ble_eq_true rfl) (Nat.le_of_ble_eq_true rfl) dX12_ask_15
theorem dX12_writes_0 : decode cX12_writes 0 = .ok (.aload_n 0, 1) := by decide +kernel
theorem dX12_writes_1 : decode cX12_writes 1 = .ok (.getfield 189, 3) := by decide +kernel
theorem dX12_writes_4 : decode cX12_writes 4 = .ok (.aload_n 0, 1) := by decide +kernel
theorem dX12_writes_5 : decode cX12_writes 5 = .ok (.getfield 595, 3) := by decide +kernel
theorem dX12_writes_8 : decode cX12_writes 8 = .ok (.iload_n 1, 1) := by decide +kernel
theorem dX12_writes_9 : decode cX12_writes 9 = .ok (.iastore, 1) := by decide +kernel
theorem dX12_writes_10 : decode cX12_writes 10 = .ok (.aload_n 0, 1) := by decide +kernel
theorem dX12_writes_11 : decode cX12_writes 11 = .ok (.dup, 1) := by decide +kernel
theorem dX12_writes_12 : decode cX12_writes 12 = .ok (.getfield 595, 3) := by decide +kernel
theorem dX12_writes_15 : decode cX12_writes 15 = .ok (.iconst 1, 1) := by decide +kernel
theorem dX12_writes_16 : decode cX12_writes 16 = .ok (.iadd, 1) := by decide +kernel
theorem dX12_writes_17 : decode cX12_writes 17 = .ok (.putfield 595, 3) := by decide +kernel
theorem dX12_writes_20 : decode cX12_writes 20 = .ok (.return_, 1) := by decide +kernel
theorem w_6_6 : (Cond.fieldLink RX12 595 "SameKeeperModel" "octets" "I") ∈ wsL_law := sk_mem (ck_6 _ (List.mem_of_getElem? (i := 6) rfl)) rfl
theorem w_8_210 : (Cond.code yX12_writes cX12_writes 2 none) ∈ wsL_law := sk_mem (ck_8 _ (List.mem_of_getElem? (i := 210) rfl)) rfl
set_option maxHeartbeats 4000000 in
set_option maxRecDepth 100000 in
theorem c_m_writes (l : Launch) (D : va_G) (cI cJ cC cZ cS : ClassId) (m0 : Nat) (g : Nat → Nat) (F : Nat → Value) (n : Int32) (o : Int32) (f : Nat → Int32) (h90 : F 90 = .ref (g 90)) (h91 : F 91 = .int n) (hv : vp_in n 31) : skM l yX12_writes cX12_writes 2 none 0 0 0 0 D (skT cI cJ cC cZ cS) [.ref m0, .int o] [(m0, .inr (12, mF F)), (g 90, .inl (cI, 31, .inl f))] (skV D (skT cI cJ cC cZ cS) (fun (u : va_W) => ∃ (f2 : Nat → Int32), u = [(m0, .inr (12, mF (updV F 91 (.int (n + 1))))), (g 90, .inl (cI, 31, .inl f2))])) := by
  refine skM_of (by decide) (Nat.le_of_ble_eq_true rfl) ?_
  intro p e s m below meth c A ls E hP hD hl
  obtain ⟨hx, hb, hr, hml, hlocks, hin, hown, hts, hK, hA⟩ := E
  have hown : s.vm.findClass RX12 = some m.cls := hown
  have hS : va_S A s.heap s.heap [] := va_S.rf
  have hl : lv_has ls 2 [(0, .ref m0), (1, .int o)] := hl
  refine lv_aload_n hx hb dX12_writes_0 rfl (lv_at hl 0 rfl) ?_
  refine sk_get (v := .ref (g 90)) (C := RX12) (T := TX12) (N := 92) hx hb hts inlX12 hown hK hP 0 rfl rfl 90 (by decide) w_6_5 (mF_get (k := 90) (by decide) h90) dX12_writes_1 ?_
  refine lv_aload_n hx hb dX12_writes_4 rfl (lv_at hl 0 rfl) ?_
  refine sk_get (v := .int n) (C := RX12) (T := TX12) (N := 92) hx hb hts inlX12 hown hK hP 0 rfl rfl 91 (by decide) w_6_6 (mF_get (k := 91) (by decide) h91) dX12_writes_5 ?_
  refine lv_iload_n hx hb dX12_writes_8 rfl (lv_at hl 1 rfl) ?_
  refine sk_iastO (ws' := fun f_1 => [(m0, .inr (12, mF F)), (g 90, .inl (cI, 31, .inl f_1))]) hx hb hK hP hD hS 1 0 rfl rfl hv (fun _ => rfl) dX12_writes_9 (fun f_1 H locs hP hD hS => ?_)
  refine lv_aload_n hx hb dX12_writes_10 rfl (lv_at hl 0 rfl) ?_
  refine lv_dup hx hb dX12_writes_11 rfl ?_
  refine sk_get (v := .int n) (C := RX12) (T := TX12) (N := 92) hx hb hts inlX12 hown hK hP 0 rfl rfl 91 (by decide) w_6_6 (mF_get (k := 91) (by decide) h91) dX12_writes_12 ?_
  refine lv_iconst (v := 1) hx hb dX12_writes_15 (by decide) ?_
  refine lv_iadd hx hb dX12_writes_16 ?_
  refine lv_topi (fun v_2 ev_2 => ?_)
  refine sk_put (ws' := [(m0, .inr (12, mF (updV F 91 (.int v_2)))), (g 90, .inl (cI, 31, .inl f_1))]) (C := RX12) (T := TX12) (N := 92) (v := .int v_2) hx hb hts inlX12 tyX12 tyX12_ok nmX12 hown hK hP hD hS 0 rfl rfl 91 (by decide) w_6_6 rfl rfl rfl (mF_len (by decide)) (mF_w (by decide) rfl) dX12_writes_17 (fun H locs hP hD hS => ?_)
  subst ev_2
  exact sk_vret hx hb hr hlocks hK hP hD hS (⟨f_1, rfl⟩) (Nat.le_of_ble_eq_true rfl) (Nat.le_of_ble_eq_true rfl) dX12_writes_20
theorem dX12_checked_0 : decode cX12_checked 0 = .ok (.sipush 139, 3) := by decide +kernel
theorem dX12_checked_3 : decode cX12_checked 3 = .ok (.istore_n 2, 1) := by decide +kernel
theorem dX12_checked_4 : decode cX12_checked 4 = .ok (.iconst 0, 1) := by decide +kernel
theorem dX12_checked_5 : decode cX12_checked 5 = .ok (.istore_n 3, 1) := by decide +kernel
theorem dX12_checked_6 : decode cX12_checked 6 = .ok (.iload_n 3, 1) := by decide +kernel
theorem dX12_checked_7 : decode cX12_checked 7 = .ok (.iload_n 1, 1) := by decide +kernel
theorem dX12_checked_8 : decode cX12_checked 8 = .ok (.if_icmp .ge 21, 3) := by decide +kernel
theorem dX12_checked_11 : decode cX12_checked 11 = .ok (.iconst 3, 1) := by decide +kernel
theorem dX12_checked_12 : decode cX12_checked 12 = .ok (.iload_n 2, 1) := by decide +kernel
theorem dX12_checked_13 : decode cX12_checked 13 = .ok (.imul, 1) := by decide +kernel
theorem dX12_checked_14 : decode cX12_checked 14 = .ok (.aload_n 0, 1) := by decide +kernel
theorem dX12_checked_15 : decode cX12_checked 15 = .ok (.iload_n 3, 1) := by decide +kernel
theorem dX12_checked_16 : decode cX12_checked 16 = .ok (.iaload, 1) := by decide +kernel
theorem dX12_checked_17 : decode cX12_checked 17 = .ok (.iadd, 1) := by decide +kernel
theorem dX12_checked_18 : decode cX12_checked 18 = .ok (.sipush 251, 3) := by decide +kernel
theorem dX12_checked_21 : decode cX12_checked 21 = .ok (.irem, 1) := by decide +kernel
theorem dX12_checked_22 : decode cX12_checked 22 = .ok (.istore_n 2, 1) := by decide +kernel
theorem dX12_checked_23 : decode cX12_checked 23 = .ok (.iinc 3 1, 3) := by decide +kernel
theorem dX12_checked_26 : decode cX12_checked 26 = .ok (.goto (-20), 3) := by decide +kernel
theorem dX12_checked_29 : decode cX12_checked 29 = .ok (.iload_n 2, 1) := by decide +kernel
theorem dX12_checked_30 : decode cX12_checked 30 = .ok (.ireturn, 1) := by decide +kernel
theorem w_8_213 : (Cond.code yX12_checked cX12_checked 4 (some .int)) ∈ wsL_law := sk_mem (ck_8 _ (List.mem_of_getElem? (i := 213) rfl)) rfl
set_option maxHeartbeats 4000000 in
set_option maxRecDepth 100000 in
theorem c_m_checked (l : Launch) (D : va_G) (cI cJ cC cZ cS : ClassId) (ar : Nat) (f : Nat → Int32)  : skM l yX12_checked cX12_checked 4 (some .int) 0 0 0 0 D (skT cI cJ cC cZ cS) [.ref ar, .int 3] [(ar, .inl (cI, 31, .inl f))] (skI D (skT cI cJ cC cZ cS) (fun (r : Int32) (u : va_W) => u = [(ar, .inl (cI, 31, .inl f))])) := by
  refine skM_of (by decide) (Nat.le_of_ble_eq_true rfl) ?_
  intro p e s m below meth c A ls E hP hD hl
  obtain ⟨hx, hb, hr, hml, hlocks, hin, hown, hts, hK, hA⟩ := E
  have hown : s.vm.findClass RX12 = some m.cls := hown
  have hS : va_S A s.heap s.heap [] := va_S.rf
  have hl : lv_has ls 4 [(0, .ref ar), (1, .int 3)] := hl
  refine lv_sipush (v := 139) hx hb dX12_checked_0 (by decide) ?_
  refine lv_istore_n (lv' := [(2, .int 139), (0, .ref ar), (1, .int 3)]) hx hb dX12_checked_3 rfl hl (by decide) rfl (fun ls hl => ?_)
  refine lv_iconst (v := 0) hx hb dX12_checked_4 (by decide) ?_
  refine lv_istore_n (lv' := [(3, .int 0), (2, .int 139), (0, .ref ar), (1, .int 3)]) hx hb dX12_checked_5 rfl hl (by decide) rfl (fun ls hl => ?_)
  refine lv_iload_n hx hb dX12_checked_6 rfl (lv_at hl 0 rfl) ?_
  refine lv_iload_n hx hb dX12_checked_7 rfl (lv_at hl 3 rfl) ?_
  refine lv_icmp_ge (tgt := 29) hx hb dX12_checked_8 (by decide) (fun c => absurd c (by decide)) (fun c_1 => ?_)
  refine lv_iconst (v := 3) hx hb dX12_checked_11 (by decide) ?_
  refine lv_iload_n hx hb dX12_checked_12 rfl (lv_at hl 1 rfl) ?_
  refine lv_imul hx hb dX12_checked_13 ?_
  refine sk_top 417 (by decide) ?_
  refine lv_aload_n hx hb dX12_checked_14 rfl (lv_at hl 2 rfl) ?_
  refine lv_iload_n hx hb dX12_checked_15 rfl (lv_at hl 0 rfl) ?_
  refine va_iald hx hb hK.1 hP 0 0 rfl rfl (by unfold vp_in; decide) dX12_checked_16 ?_
  refine lv_topi (fun v_2 ev_2 => ?_)
  refine lv_iadd hx hb dX12_checked_17 ?_
  refine lv_topi (fun v_3 ev_3 => ?_)
  refine lv_sipush (v := 251) hx hb dX12_checked_18 (by decide) ?_
  refine lv_irem hx hb dX12_checked_21 (by decide) ?_
  refine lv_topi (fun v_4 ev_4 => ?_)
  refine lv_istore_n (lv' := [(2, .int v_4), (3, .int 0), (0, .ref ar), (1, .int 3)]) hx hb dX12_checked_22 rfl hl (by decide) rfl (fun ls hl => ?_)
  refine lv_iinc (v := 1) (lv' := [(3, .int 1), (2, .int v_4), (0, .ref ar), (1, .int 3)]) hx hb dX12_checked_23 hl (k := 1) rfl (by decide) (by decide) rfl (fun ls hl => ?_)
  refine lv_goto (tgt := 6) hx hb dX12_checked_26 (by decide) ?_
  refine lv_iload_n hx hb dX12_checked_6 rfl (lv_at hl 0 rfl) ?_
  refine lv_iload_n hx hb dX12_checked_7 rfl (lv_at hl 3 rfl) ?_
  refine lv_icmp_ge (tgt := 29) hx hb dX12_checked_8 (by decide) (fun c => absurd c (by decide)) (fun c_5 => ?_)
  refine lv_iconst (v := 3) hx hb dX12_checked_11 (by decide) ?_
  refine lv_iload_n hx hb dX12_checked_12 rfl (lv_at hl 1 rfl) ?_
  refine lv_imul hx hb dX12_checked_13 ?_
  refine lv_topi (fun v_6 ev_6 => ?_)
  refine lv_aload_n hx hb dX12_checked_14 rfl (lv_at hl 2 rfl) ?_
  refine lv_iload_n hx hb dX12_checked_15 rfl (lv_at hl 0 rfl) ?_
  refine va_iald hx hb hK.1 hP 0 0 rfl rfl (by unfold vp_in; decide) dX12_checked_16 ?_
  refine lv_topi (fun v_7 ev_7 => ?_)
  refine lv_iadd hx hb dX12_checked_17 ?_
  refine lv_topi (fun v_8 ev_8 => ?_)
  refine lv_sipush (v := 251) hx hb dX12_checked_18 (by decide) ?_
  refine lv_irem hx hb dX12_checked_21 (by decide) ?_
  refine lv_topi (fun v_9 ev_9 => ?_)
  refine lv_istore_n (lv' := [(2, .int v_9), (3, .int 1), (0, .ref ar), (1, .int 3)]) hx hb dX12_checked_22 rfl hl (by decide) rfl (fun ls hl => ?_)
  refine lv_iinc (v := 2) (lv' := [(3, .int 2), (2, .int v_9), (0, .ref ar), (1, .int 3)]) hx hb dX12_checked_23 hl (k := 1) rfl (by decide) (by decide) rfl (fun ls hl => ?_)
  refine lv_goto (tgt := 6) hx hb dX12_checked_26 (by decide) ?_
  refine lv_iload_n hx hb dX12_checked_6 rfl (lv_at hl 0 rfl) ?_
  refine lv_iload_n hx hb dX12_checked_7 rfl (lv_at hl 3 rfl) ?_
  refine lv_icmp_ge (tgt := 29) hx hb dX12_checked_8 (by decide) (fun c => absurd c (by decide)) (fun c_10 => ?_)
  refine lv_iconst (v := 3) hx hb dX12_checked_11 (by decide) ?_
  refine lv_iload_n hx hb dX12_checked_12 rfl (lv_at hl 1 rfl) ?_
  refine lv_imul hx hb dX12_checked_13 ?_
  refine lv_topi (fun v_11 ev_11 => ?_)
  refine lv_aload_n hx hb dX12_checked_14 rfl (lv_at hl 2 rfl) ?_
  refine lv_iload_n hx hb dX12_checked_15 rfl (lv_at hl 0 rfl) ?_
  refine va_iald hx hb hK.1 hP 0 0 rfl rfl (by unfold vp_in; decide) dX12_checked_16 ?_
  refine lv_topi (fun v_12 ev_12 => ?_)
  refine lv_iadd hx hb dX12_checked_17 ?_
  refine lv_topi (fun v_13 ev_13 => ?_)
  refine lv_sipush (v := 251) hx hb dX12_checked_18 (by decide) ?_
  refine lv_irem hx hb dX12_checked_21 (by decide) ?_
  refine lv_topi (fun v_14 ev_14 => ?_)
  refine lv_istore_n (lv' := [(2, .int v_14), (3, .int 2), (0, .ref ar), (1, .int 3)]) hx hb dX12_checked_22 rfl hl (by decide) rfl (fun ls hl => ?_)
  refine lv_iinc (v := 3) (lv' := [(3, .int 3), (2, .int v_14), (0, .ref ar), (1, .int 3)]) hx hb dX12_checked_23 hl (k := 1) rfl (by decide) (by decide) rfl (fun ls hl => ?_)
  refine lv_goto (tgt := 6) hx hb dX12_checked_26 (by decide) ?_
  refine lv_iload_n hx hb dX12_checked_6 rfl (lv_at hl 0 rfl) ?_
  refine lv_iload_n hx hb dX12_checked_7 rfl (lv_at hl 3 rfl) ?_
  refine lv_icmp_ge (tgt := 29) hx hb dX12_checked_8 (by decide) (fun c_15 => ?_) (fun c => absurd c (by decide))
  refine lv_iload_n hx hb dX12_checked_29 rfl (lv_at hl 1 rfl) ?_
  exact sk_iret hx hb hr rfl hlocks hK hP hD hS rfl (Nat.le_of_ble_eq_true rfl) (Nat.le_of_ble_eq_true rfl) dX12_checked_30
set_option maxHeartbeats 4000000 in
set_option maxRecDepth 100000 in
theorem c_m_dayManyF (l : Launch) (D : va_G) (cI cJ cC cZ cS : ClassId) (m0 : Nat) (g : Nat → Nat) (F : Nat → Value) (h20 : F 20 = .ref (g 20)) : skM l yX12_dayMany cX12_dayMany 1 (some .int) 0 0 0 0 D (skT cI cJ cC cZ cS) [.ref m0] [(m0, .inr (12, mF F)), (g 20, .inl (cI, 4, .inl (fun _ => 0)))] (skI D (skT cI cJ cC cZ cS) (fun (r : Int32) (u : va_W) => r = 0 ∧ u = [(m0, .inr (12, mF F)), (g 20, .inl (cI, 4, .inl (fun _ => 0)))])) := by
  refine skM_of (by decide) (Nat.le_of_ble_eq_true rfl) ?_
  intro p e s m below meth c A ls E hP hD hl
  obtain ⟨hx, hb, hr, hml, hlocks, hin, hown, hts, hK, hA⟩ := E
  have hown : s.vm.findClass RX12 = some m.cls := hown
  have hS : va_S A s.heap s.heap [] := va_S.rf
  have hl : lv_has ls 1 [(0, .ref m0)] := hl
  refine lv_aload_n hx hb dX12_dayMany_0 rfl (lv_at hl 0 rfl) ?_
  refine sk_get (v := .ref (g 20)) (C := RX12) (T := TX12) (N := 92) hx hb hts inlX12 hown hK hP 0 rfl rfl 20 (by decide) w_5_175 (mF_get (k := 20) (by decide) h20) dX12_dayMany_1 ?_
  refine lv_iconst (v := 2) hx hb dX12_dayMany_4 (by decide) ?_
  refine va_iald hx hb hK.1 hP 1 0 rfl rfl (by unfold vp_in; decide) dX12_dayMany_5 ?_
  refine sk_top 0 rfl ?_
  exact sk_iret hx hb hr rfl hlocks hK hP hD hS (⟨rfl, rfl⟩) (Nat.le_of_ble_eq_true rfl) (Nat.le_of_ble_eq_true rfl) dX12_dayMany_6
theorem dX12_image_0 : decode cX12_image 0 = .ok (.aload_n 0, 1) := by decide +kernel
theorem dX12_image_1 : decode cX12_image 1 = .ok (.iconst 0, 1) := by decide +kernel
theorem dX12_image_2 : decode cX12_image 2 = .ok (.putfield 595, 3) := by decide +kernel
theorem dX12_image_5 : decode cX12_image 5 = .ok (.aload_n 0, 1) := by decide +kernel
theorem dX12_image_6 : decode cX12_image 6 = .ok (.aload_n 0, 1) := by decide +kernel
theorem dX12_image_7 : decode cX12_image 7 = .ok (.getfield 63, 3) := by decide +kernel
theorem dX12_image_10 : decode cX12_image 10 = .ok (.iconst 0, 1) := by decide +kernel
theorem dX12_image_11 : decode cX12_image 11 = .ok (.iaload, 1) := by decide +kernel
theorem dX12_image_12 : decode cX12_image 12 = .ok (.sipush 256, 3) := by decide +kernel
theorem dX12_image_15 : decode cX12_image 15 = .ok (.idiv, 1) := by decide +kernel
theorem dX12_image_16 : decode cX12_image 16 = .ok (.invokevirtual 598, 3) := by decide +kernel
theorem dX12_image_19 : decode cX12_image 19 = .ok (.aload_n 0, 1) := by decide +kernel
theorem dX12_image_20 : decode cX12_image 20 = .ok (.aload_n 0, 1) := by decide +kernel
theorem dX12_image_21 : decode cX12_image 21 = .ok (.getfield 63, 3) := by decide +kernel
theorem dX12_image_24 : decode cX12_image 24 = .ok (.iconst 0, 1) := by decide +kernel
theorem dX12_image_25 : decode cX12_image 25 = .ok (.iaload, 1) := by decide +kernel
theorem dX12_image_26 : decode cX12_image 26 = .ok (.sipush 256, 3) := by decide +kernel
theorem dX12_image_29 : decode cX12_image 29 = .ok (.irem, 1) := by decide +kernel
theorem dX12_image_30 : decode cX12_image 30 = .ok (.invokevirtual 598, 3) := by decide +kernel
theorem dX12_image_33 : decode cX12_image 33 = .ok (.aload_n 0, 1) := by decide +kernel
theorem dX12_image_34 : decode cX12_image 34 = .ok (.aload_n 0, 1) := by decide +kernel
theorem dX12_image_35 : decode cX12_image 35 = .ok (.getfield 63, 3) := by decide +kernel
theorem dX12_image_38 : decode cX12_image 38 = .ok (.iconst 1, 1) := by decide +kernel
theorem dX12_image_39 : decode cX12_image 39 = .ok (.iaload, 1) := by decide +kernel
theorem dX12_image_40 : decode cX12_image 40 = .ok (.invokevirtual 598, 3) := by decide +kernel
theorem dX12_image_43 : decode cX12_image 43 = .ok (.iconst 0, 1) := by decide +kernel
theorem dX12_image_44 : decode cX12_image 44 = .ok (.istore_n 1, 1) := by decide +kernel
theorem dX12_image_45 : decode cX12_image 45 = .ok (.iload_n 1, 1) := by decide +kernel
theorem dX12_image_46 : decode cX12_image 46 = .ok (.iconst 3, 1) := by decide +kernel
theorem dX12_image_47 : decode cX12_image 47 = .ok (.aload_n 0, 1) := by decide +kernel
theorem dX12_image_48 : decode cX12_image 48 = .ok (.invokevirtual 315, 3) := by decide +kernel
theorem dX12_image_51 : decode cX12_image 51 = .ok (.imul, 1) := by decide +kernel
theorem dX12_image_52 : decode cX12_image 52 = .ok (.if_icmp .ge 21, 3) := by decide +kernel
theorem dX12_image_73 : decode cX12_image 73 = .ok (.aload_n 0, 1) := by decide +kernel
theorem dX12_image_74 : decode cX12_image 74 = .ok (.aload_n 0, 1) := by decide +kernel
theorem dX12_image_75 : decode cX12_image 75 = .ok (.getfield 189, 3) := by decide +kernel
theorem dX12_image_78 : decode cX12_image 78 = .ok (.aload_n 0, 1) := by decide +kernel
theorem dX12_image_79 : decode cX12_image 79 = .ok (.getfield 595, 3) := by decide +kernel
theorem dX12_image_82 : decode cX12_image 82 = .ok (.invokestatic 601, 3) := by decide +kernel
theorem dX12_image_85 : decode cX12_image 85 = .ok (.invokevirtual 598, 3) := by decide +kernel
theorem dX12_image_88 : decode cX12_image 88 = .ok (.aload_n 0, 1) := by decide +kernel
theorem dX12_image_89 : decode cX12_image 89 = .ok (.getfield 595, 3) := by decide +kernel
theorem dX12_image_92 : decode cX12_image 92 = .ok (.ireturn, 1) := by decide +kernel
theorem w_8_207 : (Cond.methodLink RX12 598 yX12_writes) ∈ wsL_law := sk_mem (ck_8 _ (List.mem_of_getElem? (i := 207) rfl)) rfl
theorem w_8_209 : (Cond.instanceMethod yX12_writes) ∈ wsL_law := sk_mem (ck_8 _ (List.mem_of_getElem? (i := 209) rfl)) rfl
theorem w_0_119 : (Cond.selects RX12 yX12_writes yX12_writes) ∈ wsL_law := sk_mem (ck_0 _ (List.mem_of_getElem? (i := 119) rfl)) rfl
theorem w_8_211 : (Cond.methodLink RX12 601 yX12_checked) ∈ wsL_law := sk_mem (ck_8 _ (List.mem_of_getElem? (i := 211) rfl)) rfl
theorem w_8_212 : (Cond.static yX12_checked) ∈ wsL_law := sk_mem (ck_8 _ (List.mem_of_getElem? (i := 212) rfl)) rfl
theorem w_8_206 : (Cond.code yX12_image cX12_image 2 (some .int)) ∈ wsL_law := sk_mem (ck_8 _ (List.mem_of_getElem? (i := 206) rfl)) rfl
set_option maxHeartbeats 4000000 in
set_option maxRecDepth 100000 in
theorem c_m_image (l : Launch) (D : va_G) (cI cJ cC cZ cS : ClassId) (m0 : Nat) (g : Nat → Nat)  : skM l yX12_image cX12_image 2 (some .int) 1 23 0 0 D (skT cI cJ cC cZ cS) [.ref m0] [(m0, .inr (12, mF (mV g))), (g 31, .inl (cI, 120, .inl (fun _ => 0))), (g 20, .inl (cI, 4, .inl (fun _ => 0))), (g 90, .inl (cI, 31, .inl (fun _ => 0)))] (skI D (skT cI cJ cC cZ cS) (fun (r : Int32) (u : va_W) => r = 4 ∧ u = [])) := by
  refine skM_of (by decide) (Nat.le_of_ble_eq_true rfl) ?_
  intro p e s m below meth c A ls E hP hD hl
  obtain ⟨hx, hb, hr, hml, hlocks, hin, hown, hts, hK, hA⟩ := E
  have hown : s.vm.findClass RX12 = some m.cls := hown
  have hS : va_S A s.heap s.heap [] := va_S.rf
  have hl : lv_has ls 2 [(0, .ref m0)] := hl
  refine lv_aload_n hx hb dX12_image_0 rfl (lv_at hl 0 rfl) ?_
  refine lv_iconst (v := 0) hx hb dX12_image_1 (by decide) ?_
  refine sk_put (ws' := [(m0, .inr (12, mF (updV (mV g) 91 (.int 0)))), (g 31, .inl (cI, 120, .inl (fun _ => 0))), (g 20, .inl (cI, 4, .inl (fun _ => 0))), (g 90, .inl (cI, 31, .inl (fun _ => 0)))]) (C := RX12) (T := TX12) (N := 92) (v := .int 0) hx hb hts inlX12 tyX12 tyX12_ok nmX12 hown hK hP hD hS 0 rfl rfl 91 (by decide) w_6_6 rfl rfl rfl (mF_len (by decide)) (mF_w (by decide) rfl) dX12_image_2 (fun H locs hP hD hS => ?_)
  refine lv_aload_n hx hb dX12_image_5 rfl (lv_at hl 0 rfl) ?_
  refine lv_aload_n hx hb dX12_image_6 rfl (lv_at hl 0 rfl) ?_
  refine sk_get (v := .ref (g 31)) (C := RX12) (T := TX12) (N := 92) hx hb hts inlX12 hown hK hP 0 rfl rfl 31 (by decide) w_5_186 (mF_get (k := 31) (by decide) rfl) dX12_image_7 ?_
  refine lv_iconst (v := 0) hx hb dX12_image_10 (by decide) ?_
  refine va_iald hx hb hK.1 hP 1 0 rfl rfl (by unfold vp_in; decide) dX12_image_11 ?_
  refine sk_top 0 rfl ?_
  refine lv_sipush (v := 256) hx hb dX12_image_12 (by decide) ?_
  refine lv_idiv hx hb dX12_image_15 (by decide) ?_
  refine sk_top 0 (by decide) ?_
  refine sk_Vv (q0 := 0) (n := 1) (rest := []) (wr := [(g 31, .inl (cI, 120, .inl (fun _ => 0))), (g 20, .inl (cI, 4, .inl (fun _ => 0)))]) ⟨hx, hb, hml, hown, hts⟩ hl.1 (c_m_writes l D cI cJ cC cZ cS m0 g (updV (mV g) 91 (.int 0)) 0 0 (fun _ => 0) rfl rfl (by unfold vp_in; decide)) w_8_207 w_8_209 w_0_119 w_1_14 w_8_210 (by decide +kernel) ⟨⟨(Nat.le_of_ble_eq_true rfl), (Nat.le_of_ble_eq_true rfl)⟩, (Nat.le_of_ble_eq_true rfl), (Nat.le_of_ble_eq_true rfl)⟩ hK hP hD hS hA [0, 3] [1, 2] rfl rfl (by decide) (by decide) (by decide) rfl rfl rfl rfl (Nat.le_of_ble_eq_true rfl) dX12_image_16 (fun u H locs hw hP hD hS => ?_)
  obtain ⟨f2_1, rfl⟩ := hw
  have hP : va_P D vwCl [(g 31, .inl (cI, 120, .inl (fun _ => 0))), (g 20, .inl (cI, 4, .inl (fun _ => 0))), (m0, .inr (12, mF (updV (updV (mV g) 91 (.int 0)) 91 (.int (0 + 1))))), (g 90, .inl (cI, 31, .inl f2_1))] H := hP
  have hD : va_D A [(g 31, .inl (cI, 120, .inl (fun _ => 0))), (g 20, .inl (cI, 4, .inl (fun _ => 0))), (m0, .inr (12, mF (updV (updV (mV g) 91 (.int 0)) 91 (.int (0 + 1))))), (g 90, .inl (cI, 31, .inl f2_1))] := hD
  refine W.widen (k := 0) (n := 0) (Nat.le_of_ble_eq_true rfl) (Nat.le_of_ble_eq_true rfl) ?_
  refine lv_aload_n hx hb dX12_image_19 rfl (lv_at hl 0 rfl) ?_
  refine lv_aload_n hx hb dX12_image_20 rfl (lv_at hl 0 rfl) ?_
  refine sk_get (v := .ref (g 31)) (C := RX12) (T := TX12) (N := 92) hx hb hts inlX12 hown hK hP 2 rfl rfl 31 (by decide) w_5_186 (mF_get (k := 31) (by decide) rfl) dX12_image_21 ?_
  refine lv_iconst (v := 0) hx hb dX12_image_24 (by decide) ?_
  refine va_iald hx hb hK.1 hP 0 0 rfl rfl (by unfold vp_in; decide) dX12_image_25 ?_
  refine sk_top 0 rfl ?_
  refine lv_sipush (v := 256) hx hb dX12_image_26 (by decide) ?_
  refine lv_irem hx hb dX12_image_29 (by decide) ?_
  refine sk_top 0 (by decide) ?_
  refine sk_Vv (q0 := 0) (n := 1) (rest := []) (wr := [(g 31, .inl (cI, 120, .inl (fun _ => 0))), (g 20, .inl (cI, 4, .inl (fun _ => 0)))]) ⟨hx, hb, hml, hown, hts⟩ hl.1 (c_m_writes l D cI cJ cC cZ cS m0 g (updV (updV (mV g) 91 (.int 0)) 91 (.int (0 + 1))) 1 0 f2_1 rfl rfl (by unfold vp_in; decide)) w_8_207 w_8_209 w_0_119 w_1_14 w_8_210 (by decide +kernel) ⟨⟨(Nat.le_of_ble_eq_true rfl), (Nat.le_of_ble_eq_true rfl)⟩, (Nat.le_of_ble_eq_true rfl), (Nat.le_of_ble_eq_true rfl)⟩ hK hP hD hS hA [2, 3] [0, 1] rfl rfl (by decide) (by decide) (by decide) rfl rfl rfl rfl (Nat.le_of_ble_eq_true rfl) dX12_image_30 (fun u H locs hw hP hD hS => ?_)
  obtain ⟨f2_2, rfl⟩ := hw
  have hP : va_P D vwCl [(g 31, .inl (cI, 120, .inl (fun _ => 0))), (g 20, .inl (cI, 4, .inl (fun _ => 0))), (m0, .inr (12, mF (updV (updV (updV (mV g) 91 (.int 0)) 91 (.int (0 + 1))) 91 (.int (1 + 1))))), (g 90, .inl (cI, 31, .inl f2_2))] H := hP
  have hD : va_D A [(g 31, .inl (cI, 120, .inl (fun _ => 0))), (g 20, .inl (cI, 4, .inl (fun _ => 0))), (m0, .inr (12, mF (updV (updV (updV (mV g) 91 (.int 0)) 91 (.int (0 + 1))) 91 (.int (1 + 1))))), (g 90, .inl (cI, 31, .inl f2_2))] := hD
  refine W.widen (k := 0) (n := 0) (Nat.le_of_ble_eq_true rfl) (Nat.le_of_ble_eq_true rfl) ?_
  refine lv_aload_n hx hb dX12_image_33 rfl (lv_at hl 0 rfl) ?_
  refine lv_aload_n hx hb dX12_image_34 rfl (lv_at hl 0 rfl) ?_
  refine sk_get (v := .ref (g 31)) (C := RX12) (T := TX12) (N := 92) hx hb hts inlX12 hown hK hP 2 rfl rfl 31 (by decide) w_5_186 (mF_get (k := 31) (by decide) rfl) dX12_image_35 ?_
  refine lv_iconst (v := 1) hx hb dX12_image_38 (by decide) ?_
  refine va_iald hx hb hK.1 hP 0 0 rfl rfl (by unfold vp_in; decide) dX12_image_39 ?_
  refine sk_top 0 rfl ?_
  refine sk_Vv (q0 := 0) (n := 1) (rest := []) (wr := [(g 31, .inl (cI, 120, .inl (fun _ => 0))), (g 20, .inl (cI, 4, .inl (fun _ => 0)))]) ⟨hx, hb, hml, hown, hts⟩ hl.1 (c_m_writes l D cI cJ cC cZ cS m0 g (updV (updV (updV (mV g) 91 (.int 0)) 91 (.int (0 + 1))) 91 (.int (1 + 1))) 2 0 f2_2 rfl rfl (by unfold vp_in; decide)) w_8_207 w_8_209 w_0_119 w_1_14 w_8_210 (by decide +kernel) ⟨⟨(Nat.le_of_ble_eq_true rfl), (Nat.le_of_ble_eq_true rfl)⟩, (Nat.le_of_ble_eq_true rfl), (Nat.le_of_ble_eq_true rfl)⟩ hK hP hD hS hA [2, 3] [0, 1] rfl rfl (by decide) (by decide) (by decide) rfl rfl rfl rfl (Nat.le_of_ble_eq_true rfl) dX12_image_40 (fun u H locs hw hP hD hS => ?_)
  obtain ⟨f2_3, rfl⟩ := hw
  have hP : va_P D vwCl [(g 31, .inl (cI, 120, .inl (fun _ => 0))), (g 20, .inl (cI, 4, .inl (fun _ => 0))), (m0, .inr (12, mF (updV (updV (updV (updV (mV g) 91 (.int 0)) 91 (.int (0 + 1))) 91 (.int (1 + 1))) 91 (.int (2 + 1))))), (g 90, .inl (cI, 31, .inl f2_3))] H := hP
  have hD : va_D A [(g 31, .inl (cI, 120, .inl (fun _ => 0))), (g 20, .inl (cI, 4, .inl (fun _ => 0))), (m0, .inr (12, mF (updV (updV (updV (updV (mV g) 91 (.int 0)) 91 (.int (0 + 1))) 91 (.int (1 + 1))) 91 (.int (2 + 1))))), (g 90, .inl (cI, 31, .inl f2_3))] := hD
  refine W.widen (k := 0) (n := 0) (Nat.le_of_ble_eq_true rfl) (Nat.le_of_ble_eq_true rfl) ?_
  refine lv_iconst (v := 0) hx hb dX12_image_43 (by decide) ?_
  refine lv_istore_n (lv' := [(1, .int 0), (0, .ref m0)]) hx hb dX12_image_44 rfl hl (by decide) rfl (fun ls hl => ?_)
  refine lv_iload_n hx hb dX12_image_45 rfl (lv_at hl 0 rfl) ?_
  refine lv_iconst (v := 3) hx hb dX12_image_46 (by decide) ?_
  refine lv_aload_n hx hb dX12_image_47 rfl (lv_at hl 1 rfl) ?_
  refine sk_Vi (q0 := 0) (n := 0) (rest := [.int 3, .int 0]) (wr := [(g 31, .inl (cI, 120, .inl (fun _ => 0))), (g 90, .inl (cI, 31, .inl f2_3))]) ⟨hx, hb, hml, hown, hts⟩ hl.1 (c_m_dayManyF l D cI cJ cC cZ cS m0 g (updV (updV (updV (updV (mV g) 91 (.int 0)) 91 (.int (0 + 1))) 91 (.int (1 + 1))) 91 (.int (2 + 1))) rfl) w_7_98 w_7_100 w_0_69 w_1_14 w_7_101 (by decide +kernel) ⟨⟨(Nat.le_of_ble_eq_true rfl), (Nat.le_of_ble_eq_true rfl)⟩, (Nat.le_of_ble_eq_true rfl), (Nat.le_of_ble_eq_true rfl)⟩ hK hP hD hS hA [2, 1] [0, 3] rfl rfl (by decide) (by decide) (by decide) rfl rfl rfl rfl (Nat.le_of_ble_eq_true rfl) dX12_image_48 (fun r_4 u H locs hw hP hD hS => ?_)
  obtain ⟨rfl, rfl⟩ := hw
  have hP : va_P D vwCl [(g 31, .inl (cI, 120, .inl (fun _ => 0))), (g 90, .inl (cI, 31, .inl f2_3)), (m0, .inr (12, mF (updV (updV (updV (updV (mV g) 91 (.int 0)) 91 (.int (0 + 1))) 91 (.int (1 + 1))) 91 (.int (2 + 1))))), (g 20, .inl (cI, 4, .inl (fun _ => 0)))] H := hP
  have hD : va_D A [(g 31, .inl (cI, 120, .inl (fun _ => 0))), (g 90, .inl (cI, 31, .inl f2_3)), (m0, .inr (12, mF (updV (updV (updV (updV (mV g) 91 (.int 0)) 91 (.int (0 + 1))) 91 (.int (1 + 1))) 91 (.int (2 + 1))))), (g 20, .inl (cI, 4, .inl (fun _ => 0)))] := hD
  refine W.widen (k := 0) (n := 0) (Nat.le_of_ble_eq_true rfl) (Nat.le_of_ble_eq_true rfl) ?_
  refine lv_imul hx hb dX12_image_51 ?_
  refine sk_top 0 (by decide) ?_
  refine lv_icmp_ge (tgt := 73) hx hb dX12_image_52 (by decide) (fun c_5 => ?_) (fun c => absurd c (by decide))
  refine lv_aload_n hx hb dX12_image_73 rfl (lv_at hl 1 rfl) ?_
  refine lv_aload_n hx hb dX12_image_74 rfl (lv_at hl 1 rfl) ?_
  refine sk_get (v := .ref (g 90)) (C := RX12) (T := TX12) (N := 92) hx hb hts inlX12 hown hK hP 2 rfl rfl 90 (by decide) w_6_5 (mF_get (k := 90) (by decide) rfl) dX12_image_75 ?_
  refine lv_aload_n hx hb dX12_image_78 rfl (lv_at hl 1 rfl) ?_
  refine sk_get (v := .int 3) (C := RX12) (T := TX12) (N := 92) hx hb hts inlX12 hown hK hP 2 rfl rfl 91 (by decide) w_6_6 (mF_get (k := 91) (by decide) rfl) dX12_image_79 ?_
  refine sk_Si (n := 2) (rest := [.ref m0]) (wr := [(g 31, .inl (cI, 120, .inl (fun _ => 0))), (m0, .inr (12, mF (updV (updV (updV (updV (mV g) 91 (.int 0)) 91 (.int (0 + 1))) 91 (.int (1 + 1))) 91 (.int (2 + 1))))), (g 20, .inl (cI, 4, .inl (fun _ => 0)))]) ⟨hx, hb, hml, hown, hts⟩ hl.1 (c_m_checked l D cI cJ cC cZ cS (g 90) f2_3) w_8_211 w_8_212 w_1_14 w_8_213 (by decide +kernel) ⟨⟨(Nat.le_of_ble_eq_true rfl), (Nat.le_of_ble_eq_true rfl)⟩, (Nat.le_of_ble_eq_true rfl), (Nat.le_of_ble_eq_true rfl)⟩ hK hP hD hS hA [1] [0, 2, 3] rfl rfl (by decide) (by decide) (by decide) rfl rfl (Nat.le_of_ble_eq_true rfl) dX12_image_82 (fun r_6 u H locs hw hP hD hS => ?_)
  obtain rfl := hw
  have hP : va_P D vwCl [(g 31, .inl (cI, 120, .inl (fun _ => 0))), (m0, .inr (12, mF (updV (updV (updV (updV (mV g) 91 (.int 0)) 91 (.int (0 + 1))) 91 (.int (1 + 1))) 91 (.int (2 + 1))))), (g 20, .inl (cI, 4, .inl (fun _ => 0))), (g 90, .inl (cI, 31, .inl f2_3))] H := hP
  have hD : va_D A [(g 31, .inl (cI, 120, .inl (fun _ => 0))), (m0, .inr (12, mF (updV (updV (updV (updV (mV g) 91 (.int 0)) 91 (.int (0 + 1))) 91 (.int (1 + 1))) 91 (.int (2 + 1))))), (g 20, .inl (cI, 4, .inl (fun _ => 0))), (g 90, .inl (cI, 31, .inl f2_3))] := hD
  refine W.widen (k := 0) (n := 0) (Nat.le_of_ble_eq_true rfl) (Nat.le_of_ble_eq_true rfl) ?_
  refine sk_Vv (q0 := 0) (n := 1) (rest := []) (wr := [(g 31, .inl (cI, 120, .inl (fun _ => 0))), (g 20, .inl (cI, 4, .inl (fun _ => 0)))]) ⟨hx, hb, hml, hown, hts⟩ hl.1 (c_m_writes l D cI cJ cC cZ cS m0 g (updV (updV (updV (updV (mV g) 91 (.int 0)) 91 (.int (0 + 1))) 91 (.int (1 + 1))) 91 (.int (2 + 1))) 3 r_6 f2_3 rfl rfl (by unfold vp_in; decide)) w_8_207 w_8_209 w_0_119 w_1_14 w_8_210 (by decide +kernel) ⟨⟨(Nat.le_of_ble_eq_true rfl), (Nat.le_of_ble_eq_true rfl)⟩, (Nat.le_of_ble_eq_true rfl), (Nat.le_of_ble_eq_true rfl)⟩ hK hP hD hS hA [1, 3] [0, 2] rfl rfl (by decide) (by decide) (by decide) rfl rfl rfl rfl (Nat.le_of_ble_eq_true rfl) dX12_image_85 (fun u H locs hw hP hD hS => ?_)
  obtain ⟨f2_7, rfl⟩ := hw
  have hP : va_P D vwCl [(g 31, .inl (cI, 120, .inl (fun _ => 0))), (g 20, .inl (cI, 4, .inl (fun _ => 0))), (m0, .inr (12, mF (updV (updV (updV (updV (updV (mV g) 91 (.int 0)) 91 (.int (0 + 1))) 91 (.int (1 + 1))) 91 (.int (2 + 1))) 91 (.int (3 + 1))))), (g 90, .inl (cI, 31, .inl f2_7))] H := hP
  have hD : va_D A [(g 31, .inl (cI, 120, .inl (fun _ => 0))), (g 20, .inl (cI, 4, .inl (fun _ => 0))), (m0, .inr (12, mF (updV (updV (updV (updV (updV (mV g) 91 (.int 0)) 91 (.int (0 + 1))) 91 (.int (1 + 1))) 91 (.int (2 + 1))) 91 (.int (3 + 1))))), (g 90, .inl (cI, 31, .inl f2_7))] := hD
  refine W.widen (k := 0) (n := 0) (Nat.le_of_ble_eq_true rfl) (Nat.le_of_ble_eq_true rfl) ?_
  refine lv_aload_n hx hb dX12_image_88 rfl (lv_at hl 1 rfl) ?_
  refine sk_get (v := .int 4) (C := RX12) (T := TX12) (N := 92) hx hb hts inlX12 hown hK hP 2 rfl rfl 91 (by decide) w_6_6 (mF_get (k := 91) (by decide) rfl) dX12_image_89 ?_
  have hP := hP.sub (ws' := []) [] rfl
  have hD := hD.sub (ws' := []) [] (by decide) rfl
  exact sk_iret hx hb hr rfl hlocks hK hP hD hS (⟨rfl, rfl⟩) (Nat.le_of_ble_eq_true rfl) (Nat.le_of_ble_eq_true rfl) dX12_image_92
theorem dX12_octet_0 : decode cX12_octet 0 = .ok (.iload_n 1, 1) := by decide +kernel
theorem dX12_octet_1 : decode cX12_octet 1 = .ok (.ifCond .lt 20, 3) := by decide +kernel
theorem dX12_octet_21 : decode cX12_octet 21 = .ok (.iconst (-1), 1) := by decide +kernel
theorem dX12_octet_22 : decode cX12_octet 22 = .ok (.ireturn, 1) := by decide +kernel
theorem dX12_octet_4 : decode cX12_octet 4 = .ok (.iload_n 1, 1) := by decide +kernel
theorem dX12_octet_5 : decode cX12_octet 5 = .ok (.aload_n 0, 1) := by decide +kernel
theorem dX12_octet_6 : decode cX12_octet 6 = .ok (.getfield 595, 3) := by decide +kernel
theorem dX12_octet_9 : decode cX12_octet 9 = .ok (.if_icmp .ge 12, 3) := by decide +kernel
theorem w_8_217 : (Cond.code yX12_octet cX12_octet 2 (some .int)) ∈ wsL_law := sk_mem (ck_8 _ (List.mem_of_getElem? (i := 217) rfl)) rfl
set_option maxHeartbeats 4000000 in
set_option maxRecDepth 100000 in
theorem c_m_octet (l : Launch) (D : va_G) (cI cJ cC cZ cS : ClassId) (m0 : Nat) (g : Nat → Nat) (k : Int32)  : skM l yX12_octet cX12_octet 2 (some .int) 0 0 0 0 D (skT cI cJ cC cZ cS) [.ref m0, .int k] [(m0, .inr (12, mF (mV g)))] (skI D (skT cI cJ cC cZ cS) (fun (r : Int32) (u : va_W) => r = -1 ∧ u = [])) := by
  refine skM_of (by decide) (Nat.le_of_ble_eq_true rfl) ?_
  intro p e s m below meth c A ls E hP hD hl
  obtain ⟨hx, hb, hr, hml, hlocks, hin, hown, hts, hK, hA⟩ := E
  have hown : s.vm.findClass RX12 = some m.cls := hown
  have hS : va_S A s.heap s.heap [] := va_S.rf
  have hl : lv_has ls 2 [(0, .ref m0), (1, .int k)] := hl
  refine lv_iload_n hx hb dX12_octet_0 rfl (lv_at hl 1 rfl) ?_
  refine lv_if_lt (tgt := 21) hx hb dX12_octet_1 (by decide) (fun c_1 => ?_) (fun c_1 => ?_)
  · refine lv_iconst (v := (-1)) hx hb dX12_octet_21 (by decide) ?_
    have hP := hP.sub (ws' := []) [] rfl
    have hD := hD.sub (ws' := []) [] (by decide) rfl
    exact sk_iret hx hb hr rfl hlocks hK hP hD hS (⟨rfl, rfl⟩) (Nat.le_of_ble_eq_true rfl) (Nat.le_of_ble_eq_true rfl) dX12_octet_22
  · refine lv_iload_n hx hb dX12_octet_4 rfl (lv_at hl 1 rfl) ?_
    refine lv_aload_n hx hb dX12_octet_5 rfl (lv_at hl 0 rfl) ?_
    refine sk_get (v := .int 0) (C := RX12) (T := TX12) (N := 92) hx hb hts inlX12 hown hK hP 0 rfl rfl 91 (by decide) w_6_6 (mF_get (k := 91) (by decide) rfl) dX12_octet_6 ?_
    refine lv_icmp_ge (tgt := 21) hx hb dX12_octet_9 (by decide) (fun c_2 => ?_) (fun c => absurd (Int32.not_lt.mp c_1) c)
    refine lv_iconst (v := (-1)) hx hb dX12_octet_21 (by decide) ?_
    have hP := hP.sub (ws' := []) [] rfl
    have hD := hD.sub (ws' := []) [] (by decide) rfl
    exact sk_iret hx hb hr rfl hlocks hK hP hD hS (⟨rfl, rfl⟩) (Nat.le_of_ble_eq_true rfl) (Nat.le_of_ble_eq_true rfl) dX12_octet_22
theorem dX12_isImage_0 : decode cX12_isImage 0 = .ok (.aload_n 0, 1) := by decide +kernel
theorem dX12_isImage_1 : decode cX12_isImage 1 = .ok (.getfield 302, 3) := by decide +kernel
theorem dX12_isImage_4 : decode cX12_isImage 4 = .ok (.ifCond .eq 59, 3) := by decide +kernel
theorem dX12_isImage_63 : decode cX12_isImage 63 = .ok (.iconst 0, 1) := by decide +kernel
theorem dX12_isImage_64 : decode cX12_isImage 64 = .ok (.ireturn, 1) := by decide +kernel
theorem w_8_225 : (Cond.code yX12_isImage cX12_isImage 3 (some .boolean)) ∈ wsL_law := sk_mem (ck_8 _ (List.mem_of_getElem? (i := 225) rfl)) rfl
set_option maxHeartbeats 4000000 in
set_option maxRecDepth 100000 in
theorem c_m_isImageF (l : Launch) (D : va_G) (cI cJ cC cZ cS : ClassId) (m0 : Nat) (g : Nat → Nat) (F : Nat → Value) (n : Int32) (h29 : F 29 = .int 0) : skM l yX12_isImage cX12_isImage 3 (some .boolean) 0 0 0 0 D (skT cI cJ cC cZ cS) [.ref m0, .int n] [(m0, .inr (12, mF F))] (skI D (skT cI cJ cC cZ cS) (fun (r : Int32) (u : va_W) => r = 0 ∧ u = [(m0, .inr (12, mF F))])) := by
  refine skM_of (by decide) (Nat.le_of_ble_eq_true rfl) ?_
  intro p e s m below meth c A ls E hP hD hl
  obtain ⟨hx, hb, hr, hml, hlocks, hin, hown, hts, hK, hA⟩ := E
  have hown : s.vm.findClass RX12 = some m.cls := hown
  have hS : va_S A s.heap s.heap [] := va_S.rf
  have hl : lv_has ls 3 [(0, .ref m0), (1, .int n)] := hl
  refine lv_aload_n hx hb dX12_isImage_0 rfl (lv_at hl 0 rfl) ?_
  refine sk_get (v := .int 0) (C := RX12) (T := TX12) (N := 92) hx hb hts inlX12 hown hK hP 0 rfl rfl 29 (by decide) w_5_184 (mF_get (k := 29) (by decide) h29) dX12_isImage_1 ?_
  refine lv_if_eq (tgt := 63) hx hb dX12_isImage_4 (by decide) (fun c_1 => ?_) (fun c => absurd c (by decide))
  refine lv_iconst (v := 0) hx hb dX12_isImage_63 (by decide) ?_
  exact sk_iret hx hb hr rfl hlocks hK hP hD hS (⟨rfl, rfl⟩) (Nat.le_of_ble_eq_true rfl) (Nat.le_of_ble_eq_true rfl) dX12_isImage_64
theorem dX12_on_0 : decode cX12_on 0 = .ok (.aload_n 0, 1) := by decide +kernel
theorem dX12_on_1 : decode cX12_on 1 = .ok (.getfield 192, 3) := by decide +kernel
theorem dX12_on_4 : decode cX12_on 4 = .ok (.istore_n 1, 1) := by decide +kernel
theorem dX12_on_5 : decode cX12_on 5 = .ok (.aload_n 0, 1) := by decide +kernel
theorem dX12_on_6 : decode cX12_on 6 = .ok (.iconst 0, 1) := by decide +kernel
theorem dX12_on_7 : decode cX12_on 7 = .ok (.putfield 192, 3) := by decide +kernel
theorem dX12_on_10 : decode cX12_on 10 = .ok (.aload_n 0, 1) := by decide +kernel
theorem dX12_on_11 : decode cX12_on 11 = .ok (.iload_n 1, 1) := by decide +kernel
theorem dX12_on_12 : decode cX12_on 12 = .ok (.invokevirtual 605, 3) := by decide +kernel
theorem dX12_on_15 : decode cX12_on 15 = .ok (.ifCond .ne 15, 3) := by decide +kernel
theorem dX12_on_18 : decode cX12_on 18 = .ok (.aload_n 0, 1) := by decide +kernel
theorem dX12_on_19 : decode cX12_on 19 = .ok (.getfield 17, 3) := by decide +kernel
theorem dX12_on_22 : decode cX12_on 22 = .ok (.iconst 5, 1) := by decide +kernel
theorem dX12_on_23 : decode cX12_on 23 = .ok (.dup2, 1) := by decide +kernel
theorem dX12_on_24 : decode cX12_on 24 = .ok (.iaload, 1) := by decide +kernel
theorem dX12_on_25 : decode cX12_on 25 = .ok (.iconst 1, 1) := by decide +kernel
theorem dX12_on_26 : decode cX12_on 26 = .ok (.iadd, 1) := by decide +kernel
theorem dX12_on_27 : decode cX12_on 27 = .ok (.iastore, 1) := by decide +kernel
theorem dX12_on_28 : decode cX12_on 28 = .ok (.iconst 0, 1) := by decide +kernel
theorem dX12_on_29 : decode cX12_on 29 = .ok (.ireturn, 1) := by decide +kernel
theorem w_8_222 : (Cond.methodLink RX12 605 yX12_isImage) ∈ wsL_law := sk_mem (ck_8 _ (List.mem_of_getElem? (i := 222) rfl)) rfl
theorem w_8_224 : (Cond.instanceMethod yX12_isImage) ∈ wsL_law := sk_mem (ck_8 _ (List.mem_of_getElem? (i := 224) rfl)) rfl
theorem w_0_120 : (Cond.selects RX12 yX12_isImage yX12_isImage) ∈ wsL_law := sk_mem (ck_0 _ (List.mem_of_getElem? (i := 120) rfl)) rfl
theorem w_8_221 : (Cond.code yX12_on cX12_on 3 (some .boolean)) ∈ wsL_law := sk_mem (ck_8 _ (List.mem_of_getElem? (i := 221) rfl)) rfl
set_option maxHeartbeats 4000000 in
set_option maxRecDepth 100000 in
theorem c_m_on (l : Launch) (D : va_G) (cI cJ cC cZ cS : ClassId) (m0 : Nat) (g : Nat → Nat)  : skM l yX12_on cX12_on 3 (some .boolean) 1 22 0 0 D (skT cI cJ cC cZ cS) [.ref m0] [(m0, .inr (12, mF (mV g))), (g 9, .inl (cI, 6, .inl (fun _ => 0)))] (skI D (skT cI cJ cC cZ cS) (fun (r : Int32) (u : va_W) => r = 0 ∧ u = [])) := by
  refine skM_of (by decide) (Nat.le_of_ble_eq_true rfl) ?_
  intro p e s m below meth c A ls E hP hD hl
  obtain ⟨hx, hb, hr, hml, hlocks, hin, hown, hts, hK, hA⟩ := E
  have hown : s.vm.findClass RX12 = some m.cls := hown
  have hS : va_S A s.heap s.heap [] := va_S.rf
  have hl : lv_has ls 3 [(0, .ref m0)] := hl
  refine lv_aload_n hx hb dX12_on_0 rfl (lv_at hl 0 rfl) ?_
  refine sk_get (v := .int 0) (C := RX12) (T := TX12) (N := 92) hx hb hts inlX12 hown hK hP 0 rfl rfl 1 (by decide) w_5_156 (mF_get (k := 1) (by decide) rfl) dX12_on_1 ?_
  refine lv_istore_n (lv' := [(1, .int 0), (0, .ref m0)]) hx hb dX12_on_4 rfl hl (by decide) rfl (fun ls hl => ?_)
  refine lv_aload_n hx hb dX12_on_5 rfl (lv_at hl 1 rfl) ?_
  refine lv_iconst (v := 0) hx hb dX12_on_6 (by decide) ?_
  refine sk_put (ws' := [(m0, .inr (12, mF (updV (mV g) 1 (.int 0)))), (g 9, .inl (cI, 6, .inl (fun _ => 0)))]) (C := RX12) (T := TX12) (N := 92) (v := .int 0) hx hb hts inlX12 tyX12 tyX12_ok nmX12 hown hK hP hD hS 0 rfl rfl 1 (by decide) w_5_156 rfl rfl rfl (mF_len (by decide)) (mF_w (by decide) rfl) dX12_on_7 (fun H locs hP hD hS => ?_)
  refine lv_aload_n hx hb dX12_on_10 rfl (lv_at hl 1 rfl) ?_
  refine lv_iload_n hx hb dX12_on_11 rfl (lv_at hl 0 rfl) ?_
  refine sk_Vi (q0 := 0) (n := 1) (rest := []) (wr := [(g 9, .inl (cI, 6, .inl (fun _ => 0)))]) ⟨hx, hb, hml, hown, hts⟩ hl.1 (c_m_isImageF l D cI cJ cC cZ cS m0 g (updV (mV g) 1 (.int 0)) 0 rfl) w_8_222 w_8_224 w_0_120 w_1_14 w_8_225 (by decide +kernel) ⟨⟨(Nat.le_of_ble_eq_true rfl), (Nat.le_of_ble_eq_true rfl)⟩, (Nat.le_of_ble_eq_true rfl), (Nat.le_of_ble_eq_true rfl)⟩ hK hP hD hS hA [0] [1] rfl rfl (by decide) (by decide) (by decide) rfl rfl rfl rfl (Nat.le_of_ble_eq_true rfl) dX12_on_12 (fun r_1 u H locs hw hP hD hS => ?_)
  obtain ⟨rfl, rfl⟩ := hw
  have hP : va_P D vwCl [(g 9, .inl (cI, 6, .inl (fun _ => 0))), (m0, .inr (12, mF (updV (mV g) 1 (.int 0))))] H := hP
  have hD : va_D A [(g 9, .inl (cI, 6, .inl (fun _ => 0))), (m0, .inr (12, mF (updV (mV g) 1 (.int 0))))] := hD
  refine W.widen (k := 0) (n := 0) (Nat.le_of_ble_eq_true rfl) (Nat.le_of_ble_eq_true rfl) ?_
  refine lv_if_ne (tgt := 30) hx hb dX12_on_15 (by decide) (fun c => absurd c (by decide)) (fun c_2 => ?_)
  refine lv_aload_n hx hb dX12_on_18 rfl (lv_at hl 1 rfl) ?_
  refine sk_get (v := .ref (g 9)) (C := RX12) (T := TX12) (N := 92) hx hb hts inlX12 hown hK hP 1 rfl rfl 9 (by decide) w_5_164 (mF_get (k := 9) (by decide) rfl) dX12_on_19 ?_
  refine lv_iconst (v := 5) hx hb dX12_on_22 (by decide) ?_
  refine lv_dup2_11 hx hb dX12_on_23 rfl rfl ?_
  refine va_iald hx hb hK.1 hP 0 0 rfl rfl (by unfold vp_in; decide) dX12_on_24 ?_
  refine sk_top 0 rfl ?_
  refine lv_iconst (v := 1) hx hb dX12_on_25 (by decide) ?_
  refine lv_iadd hx hb dX12_on_26 ?_
  refine sk_top 1 (by decide) ?_
  refine sk_iast (ws' := [(g 9, .inl (cI, 6, .inl (upd (fun _ => 0) 5 1))), (m0, .inr (12, mF (updV (mV g) 1 (.int 0))))]) hx hb hK hP hD hS 0 0 rfl rfl (by unfold vp_in; decide) rfl dX12_on_27 (fun H locs hP hD hS => ?_)
  refine lv_iconst (v := 0) hx hb dX12_on_28 (by decide) ?_
  have hP := hP.sub (ws' := []) [] rfl
  have hD := hD.sub (ws' := []) [] (by decide) rfl
  exact sk_iret hx hb hr rfl hlocks hK hP hD hS (⟨rfl, rfl⟩) (Nat.le_of_ble_eq_true rfl) (Nat.le_of_ble_eq_true rfl) dX12_on_29
theorem dX12_status_0 : decode cX12_status 0 = .ok (.iload_n 1, 1) := by decide +kernel
theorem dX12_status_1 : decode cX12_status 1 = .ok (.i2l, 1) := by decide +kernel
theorem dX12_status_2 : decode cX12_status 2 = .ok (.lconst 0, 1) := by decide +kernel
theorem dX12_status_3 : decode cX12_status 3 = .ok (.ldc2_w 608, 3) := by decide +kernel
theorem dX12_status_6 : decode cX12_status 6 = .ok (.invokestatic 238, 3) := by decide +kernel
theorem dX12_status_9 : decode cX12_status 9 = .ok (.ifCond .eq 12, 3) := by decide +kernel
theorem dX12_status_21 : decode cX12_status 21 = .ok (.iconst (-1), 1) := by decide +kernel
theorem dX12_status_22 : decode cX12_status 22 = .ok (.ireturn, 1) := by decide +kernel
theorem dX12_status_12 : decode cX12_status 12 = .ok (.aload_n 0, 1) := by decide +kernel
theorem dX12_status_13 : decode cX12_status 13 = .ok (.getfield 17, 3) := by decide +kernel
theorem dX12_status_16 : decode cX12_status 16 = .ok (.iload_n 1, 1) := by decide +kernel
theorem dX12_status_17 : decode cX12_status 17 = .ok (.iaload, 1) := by decide +kernel
theorem dX12_status_18 : decode cX12_status 18 = .ok (.goto 4, 3) := by decide +kernel
theorem w_8_230 : (Cond.constantLong RX12 608 (5)) ∈ wsL_law := sk_mem (ck_8 _ (List.mem_of_getElem? (i := 230) rfl)) rfl
theorem w_8_229 : (Cond.code yX12_status cX12_status 2 (some .int)) ∈ wsL_law := sk_mem (ck_8 _ (List.mem_of_getElem? (i := 229) rfl)) rfl
set_option maxHeartbeats 4000000 in
set_option maxRecDepth 100000 in
theorem c_m_status (l : Launch) (D : va_G) (cI cJ cC cZ cS : ClassId) (m0 : Nat) (g : Nat → Nat) (w : Int32)  : skM l yX12_status cX12_status 2 (some .int) 1 25 0 0 D (skT cI cJ cC cZ cS) [.ref m0, .int w] [(m0, .inr (12, mF (mV g))), (g 9, .inl (cI, 6, .inl (fun _ => 0)))] (skI D (skT cI cJ cC cZ cS) (fun (r : Int32) (u : va_W) => r = sp_status w ∧ u = [])) := by
  refine skM_of (by decide) (Nat.le_of_ble_eq_true rfl) ?_
  intro p e s m below meth c A ls E hP hD hl
  obtain ⟨hx, hb, hr, hml, hlocks, hin, hown, hts, hK, hA⟩ := E
  have hown : s.vm.findClass RX12 = some m.cls := hown
  have hS : va_S A s.heap s.heap [] := va_S.rf
  have hl : lv_has ls 2 [(0, .ref m0), (1, .int w)] := hl
  refine lv_iload_n hx hb dX12_status_0 rfl (lv_at hl 1 rfl) ?_
  refine lv_i2l hx hb dX12_status_1 rfl ?_
  refine lv_lconst (v := 0) hx hb dX12_status_2 (by decide) ?_
  refine lv_ldc2 (v := 5) hx hb hown (hts _ w_8_230) dX12_status_3 ?_
  refine sk_Si (n := 3) (rest := []) (wr := [(m0, .inr (12, mF (mV g))), (g 9, .inl (cI, 6, .inl (fun _ => 0)))]) ⟨hx, hb, hml, hown, hts⟩ hl.1 (c_m_isIn l D cI cJ cC cZ cS (Int32.toInt64 w) 0 5) w_7_0 w_7_1 w_1_14 w_7_2 (by decide +kernel) ⟨⟨(Nat.le_of_ble_eq_true rfl), (Nat.le_of_ble_eq_true rfl)⟩, (Nat.le_of_ble_eq_true rfl), (Nat.le_of_ble_eq_true rfl)⟩ hK hP hD hS hA [] [0, 1] rfl rfl (by decide) (by decide) (by decide) rfl rfl (Nat.le_of_ble_eq_true rfl) dX12_status_6 (fun r_1 u H locs hw hP hD hS => ?_)
  obtain ⟨hf_2, rfl⟩ := hw
  have hP : va_P D vwCl [(m0, .inr (12, mF (mV g))), (g 9, .inl (cI, 6, .inl (fun _ => 0)))] H := hP
  have hD : va_D A [(m0, .inr (12, mF (mV g))), (g 9, .inl (cI, 6, .inl (fun _ => 0)))] := hD
  refine W.widen (k := 0) (n := 0) (Nat.le_of_ble_eq_true rfl) (Nat.le_of_ble_eq_true rfl) ?_
  refine lv_if_eq (tgt := 21) hx hb dX12_status_9 (by decide) (fun c_3 => ?_) (fun c_3 => ?_)
  · refine lv_iconst (v := (-1)) hx hb dX12_status_21 (by decide) ?_
    have hP := hP.sub (ws' := []) [] rfl
    have hD := hD.sub (ws' := []) [] (by decide) rfl
    exact sk_iret hx hb hr rfl hlocks hK hP hD hS (⟨(sk_st_zero (hf_2.symm.trans c_3)).symm, rfl⟩) (Nat.le_of_ble_eq_true rfl) (Nat.le_of_ble_eq_true rfl) dX12_status_22
  · refine lv_aload_n hx hb dX12_status_12 rfl (lv_at hl 0 rfl) ?_
    refine sk_get (v := .ref (g 9)) (C := RX12) (T := TX12) (N := 92) hx hb hts inlX12 hown hK hP 0 rfl rfl 9 (by decide) w_5_164 (mF_get (k := 9) (by decide) rfl) dX12_status_13 ?_
    refine lv_iload_n hx hb dX12_status_16 rfl (lv_at hl 1 rfl) ?_
    refine va_iald hx hb hK.1 hP 1 0 rfl rfl ((sk_st_one (fun h => c_3 (hf_2.trans h))).1) dX12_status_17 ?_
    refine sk_top 0 rfl ?_
    refine lv_goto (tgt := 22) hx hb dX12_status_18 (by decide) ?_
    have hP := hP.sub (ws' := []) [] rfl
    have hD := hD.sub (ws' := []) [] (by decide) rfl
    exact sk_iret hx hb hr rfl hlocks hK hP hD hS (⟨((sk_st_one (fun h => c_3 (hf_2.trans h))).2).symm, rfl⟩) (Nat.le_of_ble_eq_true rfl) (Nat.le_of_ble_eq_true rfl) dX12_status_22
