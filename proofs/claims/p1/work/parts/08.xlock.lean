theorem dJ7_fill_53178_0 : decode cJ7_fill_53178 0 = .ok (.iconst 0, 1) := by decide +kernel
theorem dJ7_fill_53178_1 : decode cJ7_fill_53178 1 = .ok (.istore_n 2, 1) := by decide +kernel
theorem dJ7_fill_53178_2 : decode cJ7_fill_53178 2 = .ok (.aload_n 0, 1) := by decide +kernel
theorem dJ7_fill_53178_3 : decode cJ7_fill_53178 3 = .ok (.arraylength, 1) := by decide +kernel
theorem dJ7_fill_53178_4 : decode cJ7_fill_53178 4 = .ok (.istore_n 3, 1) := by decide +kernel
theorem dJ7_fill_53178_5 : decode cJ7_fill_53178 5 = .ok (.iload_n 2, 1) := by decide +kernel
theorem dJ7_fill_53178_6 : decode cJ7_fill_53178 6 = .ok (.iload_n 3, 1) := by decide +kernel
theorem dJ7_fill_53178_7 : decode cJ7_fill_53178 7 = .ok (.if_icmp .ge 13, 3) := by decide +kernel
theorem dJ7_fill_53178_10 : decode cJ7_fill_53178 10 = .ok (.aload_n 0, 1) := by decide +kernel
theorem dJ7_fill_53178_11 : decode cJ7_fill_53178 11 = .ok (.iload_n 2, 1) := by decide +kernel
theorem dJ7_fill_53178_12 : decode cJ7_fill_53178 12 = .ok (.iload_n 1, 1) := by decide +kernel
theorem dJ7_fill_53178_13 : decode cJ7_fill_53178 13 = .ok (.iastore, 1) := by decide +kernel
theorem dJ7_fill_53178_14 : decode cJ7_fill_53178 14 = .ok (.iinc 2 1, 3) := by decide +kernel
theorem dJ7_fill_53178_17 : decode cJ7_fill_53178 17 = .ok (.goto (-12), 3) := by decide +kernel
theorem dJ7_fill_53178_20 : decode cJ7_fill_53178 20 = .ok (.return_, 1) := by decide +kernel
theorem w_2_220 : (Cond.code yJ7_fill_53178 cJ7_fill_53178 4 none) ∈ wsL_law := sk_mem (ck_2 _ (List.mem_of_getElem? (i := 220) rfl)) rfl
set_option maxHeartbeats 4000000 in
set_option maxRecDepth 100000 in
theorem c_fill_9 (l : Launch) (D : va_G) (cI cJ cC cZ cS : ClassId) (ar : Nat)  : skM l yJ7_fill_53178 cJ7_fill_53178 4 none 0 0 0 0 D (skT cI cJ cC cZ cS) [.ref ar, .int 0] [(ar, .inl (cI, 9, .inl (fun _ => 0)))] (skV D (skT cI cJ cC cZ cS) (fun (u : va_W) => u = [(ar, .inl (cI, 9, .inl (fun _ => 0)))])) := by
  refine skM_of (by decide) (Nat.le_of_ble_eq_true rfl) ?_
  intro p e s m below meth c A ls E hP hD hl
  obtain ⟨hx, hb, hr, hml, hlocks, hin, hown, hts, hK, hA⟩ := E
  have hown : s.vm.findClass RJ7 = some m.cls := hown
  have hS : va_S A s.heap s.heap [] := va_S.rf
  have hl : lv_has ls 4 [(0, .ref ar), (1, .int 0)] := hl
  refine lv_iconst (v := 0) hx hb dJ7_fill_53178_0 (by decide) ?_
  refine lv_istore_n (lv' := [(2, .int 0), (0, .ref ar), (1, .int 0)]) hx hb dJ7_fill_53178_1 rfl hl (by decide) rfl (fun ls hl => ?_)
  refine lv_aload_n hx hb dJ7_fill_53178_2 rfl (lv_at hl 1 rfl) ?_
  refine va_alen (v := 9) hx hb hK.1 hP 0 0 rfl rfl rfl dJ7_fill_53178_3 ?_
  refine lv_istore_n (lv' := [(3, .int 9), (2, .int 0), (0, .ref ar), (1, .int 0)]) hx hb dJ7_fill_53178_4 rfl hl (by decide) rfl (fun ls hl => ?_)
  refine lv_iload_n hx hb dJ7_fill_53178_5 rfl (lv_at hl 1 rfl) ?_
  refine lv_iload_n hx hb dJ7_fill_53178_6 rfl (lv_at hl 0 rfl) ?_
  refine lv_icmp_ge (tgt := 20) hx hb dJ7_fill_53178_7 (by decide) (fun c => absurd c (by decide)) (fun c_1 => ?_)
  refine lv_aload_n hx hb dJ7_fill_53178_10 rfl (lv_at hl 2 rfl) ?_
  refine lv_iload_n hx hb dJ7_fill_53178_11 rfl (lv_at hl 1 rfl) ?_
  refine lv_iload_n hx hb dJ7_fill_53178_12 rfl (lv_at hl 3 rfl) ?_
  refine sk_iast0 hx hb hK hP hD hS 0 0 rfl rfl (by unfold vp_in; decide) dJ7_fill_53178_13 (fun H locs hP hD hS => ?_)
  refine lv_iinc (v := 1) (lv' := [(2, .int 1), (3, .int 9), (0, .ref ar), (1, .int 0)]) hx hb dJ7_fill_53178_14 hl (k := 1) rfl (by decide) (by decide) rfl (fun ls hl => ?_)
  refine lv_goto (tgt := 5) hx hb dJ7_fill_53178_17 (by decide) ?_
  refine lv_iload_n hx hb dJ7_fill_53178_5 rfl (lv_at hl 0 rfl) ?_
  refine lv_iload_n hx hb dJ7_fill_53178_6 rfl (lv_at hl 1 rfl) ?_
  refine lv_icmp_ge (tgt := 20) hx hb dJ7_fill_53178_7 (by decide) (fun c => absurd c (by decide)) (fun c_3 => ?_)
  refine lv_aload_n hx hb dJ7_fill_53178_10 rfl (lv_at hl 2 rfl) ?_
  refine lv_iload_n hx hb dJ7_fill_53178_11 rfl (lv_at hl 0 rfl) ?_
  refine lv_iload_n hx hb dJ7_fill_53178_12 rfl (lv_at hl 3 rfl) ?_
  refine sk_iast0 hx hb hK hP hD hS 0 0 rfl rfl (by unfold vp_in; decide) dJ7_fill_53178_13 (fun H locs hP hD hS => ?_)
  refine lv_iinc (v := 2) (lv' := [(2, .int 2), (3, .int 9), (0, .ref ar), (1, .int 0)]) hx hb dJ7_fill_53178_14 hl (k := 0) rfl (by decide) (by decide) rfl (fun ls hl => ?_)
  refine lv_goto (tgt := 5) hx hb dJ7_fill_53178_17 (by decide) ?_
  refine lv_iload_n hx hb dJ7_fill_53178_5 rfl (lv_at hl 0 rfl) ?_
  refine lv_iload_n hx hb dJ7_fill_53178_6 rfl (lv_at hl 1 rfl) ?_
  refine lv_icmp_ge (tgt := 20) hx hb dJ7_fill_53178_7 (by decide) (fun c => absurd c (by decide)) (fun c_5 => ?_)
  refine lv_aload_n hx hb dJ7_fill_53178_10 rfl (lv_at hl 2 rfl) ?_
  refine lv_iload_n hx hb dJ7_fill_53178_11 rfl (lv_at hl 0 rfl) ?_
  refine lv_iload_n hx hb dJ7_fill_53178_12 rfl (lv_at hl 3 rfl) ?_
  refine sk_iast0 hx hb hK hP hD hS 0 0 rfl rfl (by unfold vp_in; decide) dJ7_fill_53178_13 (fun H locs hP hD hS => ?_)
  refine lv_iinc (v := 3) (lv' := [(2, .int 3), (3, .int 9), (0, .ref ar), (1, .int 0)]) hx hb dJ7_fill_53178_14 hl (k := 0) rfl (by decide) (by decide) rfl (fun ls hl => ?_)
  refine lv_goto (tgt := 5) hx hb dJ7_fill_53178_17 (by decide) ?_
  refine lv_iload_n hx hb dJ7_fill_53178_5 rfl (lv_at hl 0 rfl) ?_
  refine lv_iload_n hx hb dJ7_fill_53178_6 rfl (lv_at hl 1 rfl) ?_
  refine lv_icmp_ge (tgt := 20) hx hb dJ7_fill_53178_7 (by decide) (fun c => absurd c (by decide)) (fun c_7 => ?_)
  refine lv_aload_n hx hb dJ7_fill_53178_10 rfl (lv_at hl 2 rfl) ?_
  refine lv_iload_n hx hb dJ7_fill_53178_11 rfl (lv_at hl 0 rfl) ?_
  refine lv_iload_n hx hb dJ7_fill_53178_12 rfl (lv_at hl 3 rfl) ?_
  refine sk_iast0 hx hb hK hP hD hS 0 0 rfl rfl (by unfold vp_in; decide) dJ7_fill_53178_13 (fun H locs hP hD hS => ?_)
  refine lv_iinc (v := 4) (lv' := [(2, .int 4), (3, .int 9), (0, .ref ar), (1, .int 0)]) hx hb dJ7_fill_53178_14 hl (k := 0) rfl (by decide) (by decide) rfl (fun ls hl => ?_)
  refine lv_goto (tgt := 5) hx hb dJ7_fill_53178_17 (by decide) ?_
  refine lv_iload_n hx hb dJ7_fill_53178_5 rfl (lv_at hl 0 rfl) ?_
  refine lv_iload_n hx hb dJ7_fill_53178_6 rfl (lv_at hl 1 rfl) ?_
  refine lv_icmp_ge (tgt := 20) hx hb dJ7_fill_53178_7 (by decide) (fun c => absurd c (by decide)) (fun c_9 => ?_)
  refine lv_aload_n hx hb dJ7_fill_53178_10 rfl (lv_at hl 2 rfl) ?_
  refine lv_iload_n hx hb dJ7_fill_53178_11 rfl (lv_at hl 0 rfl) ?_
  refine lv_iload_n hx hb dJ7_fill_53178_12 rfl (lv_at hl 3 rfl) ?_
  refine sk_iast0 hx hb hK hP hD hS 0 0 rfl rfl (by unfold vp_in; decide) dJ7_fill_53178_13 (fun H locs hP hD hS => ?_)
  refine lv_iinc (v := 5) (lv' := [(2, .int 5), (3, .int 9), (0, .ref ar), (1, .int 0)]) hx hb dJ7_fill_53178_14 hl (k := 0) rfl (by decide) (by decide) rfl (fun ls hl => ?_)
  refine lv_goto (tgt := 5) hx hb dJ7_fill_53178_17 (by decide) ?_
  refine lv_iload_n hx hb dJ7_fill_53178_5 rfl (lv_at hl 0 rfl) ?_
  refine lv_iload_n hx hb dJ7_fill_53178_6 rfl (lv_at hl 1 rfl) ?_
  refine lv_icmp_ge (tgt := 20) hx hb dJ7_fill_53178_7 (by decide) (fun c => absurd c (by decide)) (fun c_11 => ?_)
  refine lv_aload_n hx hb dJ7_fill_53178_10 rfl (lv_at hl 2 rfl) ?_
  refine lv_iload_n hx hb dJ7_fill_53178_11 rfl (lv_at hl 0 rfl) ?_
  refine lv_iload_n hx hb dJ7_fill_53178_12 rfl (lv_at hl 3 rfl) ?_
  refine sk_iast0 hx hb hK hP hD hS 0 0 rfl rfl (by unfold vp_in; decide) dJ7_fill_53178_13 (fun H locs hP hD hS => ?_)
  refine lv_iinc (v := 6) (lv' := [(2, .int 6), (3, .int 9), (0, .ref ar), (1, .int 0)]) hx hb dJ7_fill_53178_14 hl (k := 0) rfl (by decide) (by decide) rfl (fun ls hl => ?_)
  refine lv_goto (tgt := 5) hx hb dJ7_fill_53178_17 (by decide) ?_
  refine lv_iload_n hx hb dJ7_fill_53178_5 rfl (lv_at hl 0 rfl) ?_
  refine lv_iload_n hx hb dJ7_fill_53178_6 rfl (lv_at hl 1 rfl) ?_
  refine lv_icmp_ge (tgt := 20) hx hb dJ7_fill_53178_7 (by decide) (fun c => absurd c (by decide)) (fun c_13 => ?_)
  refine lv_aload_n hx hb dJ7_fill_53178_10 rfl (lv_at hl 2 rfl) ?_
  refine lv_iload_n hx hb dJ7_fill_53178_11 rfl (lv_at hl 0 rfl) ?_
  refine lv_iload_n hx hb dJ7_fill_53178_12 rfl (lv_at hl 3 rfl) ?_
  refine sk_iast0 hx hb hK hP hD hS 0 0 rfl rfl (by unfold vp_in; decide) dJ7_fill_53178_13 (fun H locs hP hD hS => ?_)
  refine lv_iinc (v := 7) (lv' := [(2, .int 7), (3, .int 9), (0, .ref ar), (1, .int 0)]) hx hb dJ7_fill_53178_14 hl (k := 0) rfl (by decide) (by decide) rfl (fun ls hl => ?_)
  refine lv_goto (tgt := 5) hx hb dJ7_fill_53178_17 (by decide) ?_
  refine lv_iload_n hx hb dJ7_fill_53178_5 rfl (lv_at hl 0 rfl) ?_
  refine lv_iload_n hx hb dJ7_fill_53178_6 rfl (lv_at hl 1 rfl) ?_
  refine lv_icmp_ge (tgt := 20) hx hb dJ7_fill_53178_7 (by decide) (fun c => absurd c (by decide)) (fun c_15 => ?_)
  refine lv_aload_n hx hb dJ7_fill_53178_10 rfl (lv_at hl 2 rfl) ?_
  refine lv_iload_n hx hb dJ7_fill_53178_11 rfl (lv_at hl 0 rfl) ?_
  refine lv_iload_n hx hb dJ7_fill_53178_12 rfl (lv_at hl 3 rfl) ?_
  refine sk_iast0 hx hb hK hP hD hS 0 0 rfl rfl (by unfold vp_in; decide) dJ7_fill_53178_13 (fun H locs hP hD hS => ?_)
  refine lv_iinc (v := 8) (lv' := [(2, .int 8), (3, .int 9), (0, .ref ar), (1, .int 0)]) hx hb dJ7_fill_53178_14 hl (k := 0) rfl (by decide) (by decide) rfl (fun ls hl => ?_)
  refine lv_goto (tgt := 5) hx hb dJ7_fill_53178_17 (by decide) ?_
  refine lv_iload_n hx hb dJ7_fill_53178_5 rfl (lv_at hl 0 rfl) ?_
  refine lv_iload_n hx hb dJ7_fill_53178_6 rfl (lv_at hl 1 rfl) ?_
  refine lv_icmp_ge (tgt := 20) hx hb dJ7_fill_53178_7 (by decide) (fun c => absurd c (by decide)) (fun c_17 => ?_)
  refine lv_aload_n hx hb dJ7_fill_53178_10 rfl (lv_at hl 2 rfl) ?_
  refine lv_iload_n hx hb dJ7_fill_53178_11 rfl (lv_at hl 0 rfl) ?_
  refine lv_iload_n hx hb dJ7_fill_53178_12 rfl (lv_at hl 3 rfl) ?_
  refine sk_iast0 hx hb hK hP hD hS 0 0 rfl rfl (by unfold vp_in; decide) dJ7_fill_53178_13 (fun H locs hP hD hS => ?_)
  refine lv_iinc (v := 9) (lv' := [(2, .int 9), (3, .int 9), (0, .ref ar), (1, .int 0)]) hx hb dJ7_fill_53178_14 hl (k := 0) rfl (by decide) (by decide) rfl (fun ls hl => ?_)
  refine lv_goto (tgt := 5) hx hb dJ7_fill_53178_17 (by decide) ?_
  refine lv_iload_n hx hb dJ7_fill_53178_5 rfl (lv_at hl 0 rfl) ?_
  refine lv_iload_n hx hb dJ7_fill_53178_6 rfl (lv_at hl 1 rfl) ?_
  refine lv_icmp_ge (tgt := 20) hx hb dJ7_fill_53178_7 (by decide) (fun c_19 => ?_) (fun c => absurd c (by decide))
  exact sk_vret hx hb hr hlocks hK hP hD hS rfl (Nat.le_of_ble_eq_true rfl) (Nat.le_of_ble_eq_true rfl) dJ7_fill_53178_20
set_option maxHeartbeats 4000000 in
set_option maxRecDepth 100000 in
theorem c_fill_3 (l : Launch) (D : va_G) (cI cJ cC cZ cS : ClassId) (ar : Nat)  : skM l yJ7_fill_53178 cJ7_fill_53178 4 none 0 0 0 0 D (skT cI cJ cC cZ cS) [.ref ar, .int 0] [(ar, .inl (cI, 3, .inl (fun _ => 0)))] (skV D (skT cI cJ cC cZ cS) (fun (u : va_W) => u = [(ar, .inl (cI, 3, .inl (fun _ => 0)))])) := by
  refine skM_of (by decide) (Nat.le_of_ble_eq_true rfl) ?_
  intro p e s m below meth c A ls E hP hD hl
  obtain ⟨hx, hb, hr, hml, hlocks, hin, hown, hts, hK, hA⟩ := E
  have hown : s.vm.findClass RJ7 = some m.cls := hown
  have hS : va_S A s.heap s.heap [] := va_S.rf
  have hl : lv_has ls 4 [(0, .ref ar), (1, .int 0)] := hl
  refine lv_iconst (v := 0) hx hb dJ7_fill_53178_0 (by decide) ?_
  refine lv_istore_n (lv' := [(2, .int 0), (0, .ref ar), (1, .int 0)]) hx hb dJ7_fill_53178_1 rfl hl (by decide) rfl (fun ls hl => ?_)
  refine lv_aload_n hx hb dJ7_fill_53178_2 rfl (lv_at hl 1 rfl) ?_
  refine va_alen (v := 3) hx hb hK.1 hP 0 0 rfl rfl rfl dJ7_fill_53178_3 ?_
  refine lv_istore_n (lv' := [(3, .int 3), (2, .int 0), (0, .ref ar), (1, .int 0)]) hx hb dJ7_fill_53178_4 rfl hl (by decide) rfl (fun ls hl => ?_)
  refine lv_iload_n hx hb dJ7_fill_53178_5 rfl (lv_at hl 1 rfl) ?_
  refine lv_iload_n hx hb dJ7_fill_53178_6 rfl (lv_at hl 0 rfl) ?_
  refine lv_icmp_ge (tgt := 20) hx hb dJ7_fill_53178_7 (by decide) (fun c => absurd c (by decide)) (fun c_1 => ?_)
  refine lv_aload_n hx hb dJ7_fill_53178_10 rfl (lv_at hl 2 rfl) ?_
  refine lv_iload_n hx hb dJ7_fill_53178_11 rfl (lv_at hl 1 rfl) ?_
  refine lv_iload_n hx hb dJ7_fill_53178_12 rfl (lv_at hl 3 rfl) ?_
  refine sk_iast0 hx hb hK hP hD hS 0 0 rfl rfl (by unfold vp_in; decide) dJ7_fill_53178_13 (fun H locs hP hD hS => ?_)
  refine lv_iinc (v := 1) (lv' := [(2, .int 1), (3, .int 3), (0, .ref ar), (1, .int 0)]) hx hb dJ7_fill_53178_14 hl (k := 1) rfl (by decide) (by decide) rfl (fun ls hl => ?_)
  refine lv_goto (tgt := 5) hx hb dJ7_fill_53178_17 (by decide) ?_
  refine lv_iload_n hx hb dJ7_fill_53178_5 rfl (lv_at hl 0 rfl) ?_
  refine lv_iload_n hx hb dJ7_fill_53178_6 rfl (lv_at hl 1 rfl) ?_
  refine lv_icmp_ge (tgt := 20) hx hb dJ7_fill_53178_7 (by decide) (fun c => absurd c (by decide)) (fun c_3 => ?_)
  refine lv_aload_n hx hb dJ7_fill_53178_10 rfl (lv_at hl 2 rfl) ?_
  refine lv_iload_n hx hb dJ7_fill_53178_11 rfl (lv_at hl 0 rfl) ?_
  refine lv_iload_n hx hb dJ7_fill_53178_12 rfl (lv_at hl 3 rfl) ?_
  refine sk_iast0 hx hb hK hP hD hS 0 0 rfl rfl (by unfold vp_in; decide) dJ7_fill_53178_13 (fun H locs hP hD hS => ?_)
  refine lv_iinc (v := 2) (lv' := [(2, .int 2), (3, .int 3), (0, .ref ar), (1, .int 0)]) hx hb dJ7_fill_53178_14 hl (k := 0) rfl (by decide) (by decide) rfl (fun ls hl => ?_)
  refine lv_goto (tgt := 5) hx hb dJ7_fill_53178_17 (by decide) ?_
  refine lv_iload_n hx hb dJ7_fill_53178_5 rfl (lv_at hl 0 rfl) ?_
  refine lv_iload_n hx hb dJ7_fill_53178_6 rfl (lv_at hl 1 rfl) ?_
  refine lv_icmp_ge (tgt := 20) hx hb dJ7_fill_53178_7 (by decide) (fun c => absurd c (by decide)) (fun c_5 => ?_)
  refine lv_aload_n hx hb dJ7_fill_53178_10 rfl (lv_at hl 2 rfl) ?_
  refine lv_iload_n hx hb dJ7_fill_53178_11 rfl (lv_at hl 0 rfl) ?_
  refine lv_iload_n hx hb dJ7_fill_53178_12 rfl (lv_at hl 3 rfl) ?_
  refine sk_iast0 hx hb hK hP hD hS 0 0 rfl rfl (by unfold vp_in; decide) dJ7_fill_53178_13 (fun H locs hP hD hS => ?_)
  refine lv_iinc (v := 3) (lv' := [(2, .int 3), (3, .int 3), (0, .ref ar), (1, .int 0)]) hx hb dJ7_fill_53178_14 hl (k := 0) rfl (by decide) (by decide) rfl (fun ls hl => ?_)
  refine lv_goto (tgt := 5) hx hb dJ7_fill_53178_17 (by decide) ?_
  refine lv_iload_n hx hb dJ7_fill_53178_5 rfl (lv_at hl 0 rfl) ?_
  refine lv_iload_n hx hb dJ7_fill_53178_6 rfl (lv_at hl 1 rfl) ?_
  refine lv_icmp_ge (tgt := 20) hx hb dJ7_fill_53178_7 (by decide) (fun c_7 => ?_) (fun c => absurd c (by decide))
  exact sk_vret hx hb hr hlocks hK hP hD hS rfl (Nat.le_of_ble_eq_true rfl) (Nat.le_of_ble_eq_true rfl) dJ7_fill_53178_20
theorem dX0_clear_0 : decode cX0_clear 0 = .ok (.aload_n 0, 1) := by decide +kernel
theorem dX0_clear_1 : decode cX0_clear 1 = .ok (.iconst 0, 1) := by decide +kernel
theorem dX0_clear_2 : decode cX0_clear 2 = .ok (.putfield 27, 3) := by decide +kernel
theorem dX0_clear_5 : decode cX0_clear 5 = .ok (.aload_n 0, 1) := by decide +kernel
theorem dX0_clear_6 : decode cX0_clear 6 = .ok (.iconst 0, 1) := by decide +kernel
theorem dX0_clear_7 : decode cX0_clear 7 = .ok (.putfield 31, 3) := by decide +kernel
theorem dX0_clear_10 : decode cX0_clear 10 = .ok (.return_, 1) := by decide +kernel
theorem w_2_217 : (Cond.code yX0_clear cX0_clear 1 none) ∈ wsL_law := sk_mem (ck_2 _ (List.mem_of_getElem? (i := 217) rfl)) rfl
set_option maxHeartbeats 4000000 in
set_option maxRecDepth 100000 in
theorem c_code_clear (l : Launch) (D : va_G) (cI cJ cC cZ cS : ClassId) (q : Nat → Nat)  : skM l yX0_clear cX0_clear 1 none 0 0 0 0 D (skT cI cJ cC cZ cS) [.ref (q 24)] [(q 24, .inr (0, [.ref (q 29), .ref (q 30), .ref (q 31), .ref (q 32), .int 0, .int 0]))] (skV D (skT cI cJ cC cZ cS) (fun (u : va_W) => u = [(q 24, .inr (0, [.ref (q 29), .ref (q 30), .ref (q 31), .ref (q 32), .int 0, .int 0]))])) := by
  refine skM_of (by decide) (Nat.le_of_ble_eq_true rfl) ?_
  intro p e s m below meth c A ls E hP hD hl
  obtain ⟨hx, hb, hr, hml, hlocks, hin, hown, hts, hK, hA⟩ := E
  have hown : s.vm.findClass RX0 = some m.cls := hown
  have hS : va_S A s.heap s.heap [] := va_S.rf
  have hl : lv_has ls 1 [(0, .ref (q 24))] := hl
  refine lv_aload_n hx hb dX0_clear_0 rfl (lv_at hl 0 rfl) ?_
  refine lv_iconst (v := 0) hx hb dX0_clear_1 (by decide) ?_
  refine sk_put (ws' := [(q 24, .inr (0, [.ref (q 29), .ref (q 30), .ref (q 31), .ref (q 32), .int 0, .int 0]))]) (C := RX0) (T := TX0) (N := 6) (v := .int 0) hx hb hts inlX0 tyX0 tyX0_ok nmX0 hown hK hP hD hS 0 rfl rfl 4 (by decide) w_1_133 rfl rfl rfl (Nat.le_of_ble_eq_true rfl) rfl dX0_clear_2 (fun H locs hP hD hS => ?_)
  refine lv_aload_n hx hb dX0_clear_5 rfl (lv_at hl 0 rfl) ?_
  refine lv_iconst (v := 0) hx hb dX0_clear_6 (by decide) ?_
  refine sk_put (ws' := [(q 24, .inr (0, [.ref (q 29), .ref (q 30), .ref (q 31), .ref (q 32), .int 0, .int 0]))]) (C := RX0) (T := TX0) (N := 6) (v := .int 0) hx hb hts inlX0 tyX0 tyX0_ok nmX0 hown hK hP hD hS 0 rfl rfl 5 (by decide) w_1_136 rfl rfl rfl (Nat.le_of_ble_eq_true rfl) rfl dX0_clear_7 (fun H locs hP hD hS => ?_)
  exact sk_vret hx hb hr hlocks hK hP hD hS rfl (Nat.le_of_ble_eq_true rfl) (Nat.le_of_ble_eq_true rfl) dX0_clear_10
theorem dX2_clear_0 : decode cX2_clear 0 = .ok (.aload_n 0, 1) := by decide +kernel
theorem dX2_clear_1 : decode cX2_clear 1 = .ok (.getfield 12, 3) := by decide +kernel
theorem dX2_clear_4 : decode cX2_clear 4 = .ok (.invokevirtual 47, 3) := by decide +kernel
theorem dX2_clear_7 : decode cX2_clear 7 = .ok (.aload_n 0, 1) := by decide +kernel
theorem dX2_clear_8 : decode cX2_clear 8 = .ok (.getfield 18, 3) := by decide +kernel
theorem dX2_clear_11 : decode cX2_clear 11 = .ok (.iconst 0, 1) := by decide +kernel
theorem dX2_clear_12 : decode cX2_clear 12 = .ok (.invokestatic 50, 3) := by decide +kernel
theorem dX2_clear_15 : decode cX2_clear 15 = .ok (.aload_n 0, 1) := by decide +kernel
theorem dX2_clear_16 : decode cX2_clear 16 = .ok (.getfield 22, 3) := by decide +kernel
theorem dX2_clear_19 : decode cX2_clear 19 = .ok (.iconst 0, 1) := by decide +kernel
theorem dX2_clear_20 : decode cX2_clear 20 = .ok (.invokestatic 50, 3) := by decide +kernel
theorem dX2_clear_23 : decode cX2_clear 23 = .ok (.aload_n 0, 1) := by decide +kernel
theorem dX2_clear_24 : decode cX2_clear 24 = .ok (.getfield 25, 3) := by decide +kernel
theorem dX2_clear_27 : decode cX2_clear 27 = .ok (.iconst 0, 1) := by decide +kernel
theorem dX2_clear_28 : decode cX2_clear 28 = .ok (.invokestatic 50, 3) := by decide +kernel
theorem dX2_clear_31 : decode cX2_clear 31 = .ok (.aload_n 0, 1) := by decide +kernel
theorem dX2_clear_32 : decode cX2_clear 32 = .ok (.getfield 28, 3) := by decide +kernel
theorem dX2_clear_35 : decode cX2_clear 35 = .ok (.iconst 0, 1) := by decide +kernel
theorem dX2_clear_36 : decode cX2_clear 36 = .ok (.invokestatic 50, 3) := by decide +kernel
theorem dX2_clear_39 : decode cX2_clear 39 = .ok (.aload_n 0, 1) := by decide +kernel
theorem dX2_clear_40 : decode cX2_clear 40 = .ok (.iconst 0, 1) := by decide +kernel
theorem dX2_clear_41 : decode cX2_clear 41 = .ok (.putfield 38, 3) := by decide +kernel
theorem dX2_clear_44 : decode cX2_clear 44 = .ok (.aload_n 0, 1) := by decide +kernel
theorem dX2_clear_45 : decode cX2_clear 45 = .ok (.iconst 0, 1) := by decide +kernel
theorem dX2_clear_46 : decode cX2_clear 46 = .ok (.putfield 41, 3) := by decide +kernel
theorem dX2_clear_49 : decode cX2_clear 49 = .ok (.aload_n 0, 1) := by decide +kernel
theorem dX2_clear_50 : decode cX2_clear 50 = .ok (.iconst 0, 1) := by decide +kernel
theorem dX2_clear_51 : decode cX2_clear 51 = .ok (.putfield 44, 3) := by decide +kernel
theorem dX2_clear_54 : decode cX2_clear 54 = .ok (.return_, 1) := by decide +kernel
theorem w_2_214 : (Cond.methodLink RX2 47 yX0_clear) ∈ wsL_law := sk_mem (ck_2 _ (List.mem_of_getElem? (i := 214) rfl)) rfl
theorem w_2_215 : (Cond.instanceMethod yX0_clear) ∈ wsL_law := sk_mem (ck_2 _ (List.mem_of_getElem? (i := 215) rfl)) rfl
theorem w_2_216 : (Cond.selects RX0 yX0_clear yX0_clear) ∈ wsL_law := sk_mem (ck_2 _ (List.mem_of_getElem? (i := 216) rfl)) rfl
theorem w_2_218 : (Cond.methodLink RX2 50 yJ7_fill_53178) ∈ wsL_law := sk_mem (ck_2 _ (List.mem_of_getElem? (i := 218) rfl)) rfl
theorem w_2_219 : (Cond.static yJ7_fill_53178) ∈ wsL_law := sk_mem (ck_2 _ (List.mem_of_getElem? (i := 219) rfl)) rfl
theorem w_1_15 : (Cond.initialized RJ7) ∈ wsL_law := sk_mem (ck_1 _ (List.mem_of_getElem? (i := 15) rfl)) rfl
theorem w_2_213 : (Cond.code yX2_clear cX2_clear 1 none) ∈ wsL_law := sk_mem (ck_2 _ (List.mem_of_getElem? (i := 213) rfl)) rfl
set_option maxHeartbeats 4000000 in
set_option maxRecDepth 100000 in
theorem c_lock_clear (l : Launch) (D : va_G) (cI cJ cC cZ cS : ClassId) (q : Nat → Nat)  : skM l yX2_clear cX2_clear 1 none 1 23 0 0 D (skT cI cJ cC cZ cS) [.ref (q 6)] [(q 6, .inr (2, [.ref (q 24), .ref (q 25), .ref (q 26), .ref (q 27), .ref (q 28), .int 0, .int 0, .int 0, .int 0, .int 0])), (q 24, .inr (0, [.ref (q 29), .ref (q 30), .ref (q 31), .ref (q 32), .int 0, .int 0])), (q 25, .inl (cI, 9, .inl (fun _ => 0))), (q 26, .inl (cI, 9, .inl (fun _ => 0))), (q 27, .inl (cI, 3, .inl (fun _ => 0))), (q 28, .inl (cI, 3, .inl (fun _ => 0)))] (skV D (skT cI cJ cC cZ cS) (fun (u : va_W) => u = [(q 6, .inr (2, [.ref (q 24), .ref (q 25), .ref (q 26), .ref (q 27), .ref (q 28), .int 0, .int 0, .int 0, .int 0, .int 0])), (q 24, .inr (0, [.ref (q 29), .ref (q 30), .ref (q 31), .ref (q 32), .int 0, .int 0])), (q 25, .inl (cI, 9, .inl (fun _ => 0))), (q 26, .inl (cI, 9, .inl (fun _ => 0))), (q 27, .inl (cI, 3, .inl (fun _ => 0))), (q 28, .inl (cI, 3, .inl (fun _ => 0)))])) := by
  refine skM_of (by decide) (Nat.le_of_ble_eq_true rfl) ?_
  intro p e s m below meth c A ls E hP hD hl
  obtain ⟨hx, hb, hr, hml, hlocks, hin, hown, hts, hK, hA⟩ := E
  have hown : s.vm.findClass RX2 = some m.cls := hown
  have hS : va_S A s.heap s.heap [] := va_S.rf
  have hl : lv_has ls 1 [(0, .ref (q 6))] := hl
  refine lv_aload_n hx hb dX2_clear_0 rfl (lv_at hl 0 rfl) ?_
  refine sk_get (v := .ref (q 24)) (C := RX2) (T := TX2) (N := 10) hx hb hts inlX2 hown hK hP 0 rfl rfl 0 (by decide) w_1_175 rfl dX2_clear_1 ?_
  refine sk_Vv (q0 := 0) (n := 0) (rest := []) (wr := [(q 6, .inr (2, [.ref (q 24), .ref (q 25), .ref (q 26), .ref (q 27), .ref (q 28), .int 0, .int 0, .int 0, .int 0, .int 0])), (q 25, .inl (cI, 9, .inl (fun _ => 0))), (q 26, .inl (cI, 9, .inl (fun _ => 0))), (q 27, .inl (cI, 3, .inl (fun _ => 0))), (q 28, .inl (cI, 3, .inl (fun _ => 0)))]) ⟨hx, hb, hml, hown, hts⟩ hl.1 (c_code_clear l D cI cJ cC cZ cS q) w_2_214 w_2_215 w_2_216 w_1_8 w_2_217 (by decide +kernel) ⟨⟨(Nat.le_of_ble_eq_true rfl), (Nat.le_of_ble_eq_true rfl)⟩, (Nat.le_of_ble_eq_true rfl), (Nat.le_of_ble_eq_true rfl)⟩ hK hP hD hS hA [1] [0, 2, 3, 4, 5] rfl rfl (by decide) (by decide) (by decide) rfl rfl rfl rfl (Nat.le_of_ble_eq_true rfl) dX2_clear_4 (fun u H locs hw hP hD hS => ?_)
  obtain rfl := hw
  have hP : va_P D vwCl [(q 6, .inr (2, [.ref (q 24), .ref (q 25), .ref (q 26), .ref (q 27), .ref (q 28), .int 0, .int 0, .int 0, .int 0, .int 0])), (q 25, .inl (cI, 9, .inl (fun _ => 0))), (q 26, .inl (cI, 9, .inl (fun _ => 0))), (q 27, .inl (cI, 3, .inl (fun _ => 0))), (q 28, .inl (cI, 3, .inl (fun _ => 0))), (q 24, .inr (0, [.ref (q 29), .ref (q 30), .ref (q 31), .ref (q 32), .int 0, .int 0]))] H := hP
  have hD : va_D A [(q 6, .inr (2, [.ref (q 24), .ref (q 25), .ref (q 26), .ref (q 27), .ref (q 28), .int 0, .int 0, .int 0, .int 0, .int 0])), (q 25, .inl (cI, 9, .inl (fun _ => 0))), (q 26, .inl (cI, 9, .inl (fun _ => 0))), (q 27, .inl (cI, 3, .inl (fun _ => 0))), (q 28, .inl (cI, 3, .inl (fun _ => 0))), (q 24, .inr (0, [.ref (q 29), .ref (q 30), .ref (q 31), .ref (q 32), .int 0, .int 0]))] := hD
  refine W.widen (k := 0) (n := 0) (Nat.le_of_ble_eq_true rfl) (Nat.le_of_ble_eq_true rfl) ?_
  refine lv_aload_n hx hb dX2_clear_7 rfl (lv_at hl 0 rfl) ?_
  refine sk_get (v := .ref (q 25)) (C := RX2) (T := TX2) (N := 10) hx hb hts inlX2 hown hK hP 0 rfl rfl 1 (by decide) w_1_178 rfl dX2_clear_8 ?_
  refine lv_iconst (v := 0) hx hb dX2_clear_11 (by decide) ?_
  refine sk_Sv (n := 2) (rest := []) (wr := [(q 6, .inr (2, [.ref (q 24), .ref (q 25), .ref (q 26), .ref (q 27), .ref (q 28), .int 0, .int 0, .int 0, .int 0, .int 0])), (q 26, .inl (cI, 9, .inl (fun _ => 0))), (q 27, .inl (cI, 3, .inl (fun _ => 0))), (q 28, .inl (cI, 3, .inl (fun _ => 0))), (q 24, .inr (0, [.ref (q 29), .ref (q 30), .ref (q 31), .ref (q 32), .int 0, .int 0]))]) ⟨hx, hb, hml, hown, hts⟩ hl.1 (c_fill_9 l D cI cJ cC cZ cS (q 25)) w_2_218 w_2_219 w_1_15 w_2_220 (by decide +kernel) ⟨⟨(Nat.le_of_ble_eq_true rfl), (Nat.le_of_ble_eq_true rfl)⟩, (Nat.le_of_ble_eq_true rfl), (Nat.le_of_ble_eq_true rfl)⟩ hK hP hD hS hA [1] [0, 2, 3, 4, 5] rfl rfl (by decide) (by decide) (by decide) rfl rfl (Nat.le_of_ble_eq_true rfl) dX2_clear_12 (fun u H locs hw hP hD hS => ?_)
  obtain rfl := hw
  have hP : va_P D vwCl [(q 6, .inr (2, [.ref (q 24), .ref (q 25), .ref (q 26), .ref (q 27), .ref (q 28), .int 0, .int 0, .int 0, .int 0, .int 0])), (q 26, .inl (cI, 9, .inl (fun _ => 0))), (q 27, .inl (cI, 3, .inl (fun _ => 0))), (q 28, .inl (cI, 3, .inl (fun _ => 0))), (q 24, .inr (0, [.ref (q 29), .ref (q 30), .ref (q 31), .ref (q 32), .int 0, .int 0])), (q 25, .inl (cI, 9, .inl (fun _ => 0)))] H := hP
  have hD : va_D A [(q 6, .inr (2, [.ref (q 24), .ref (q 25), .ref (q 26), .ref (q 27), .ref (q 28), .int 0, .int 0, .int 0, .int 0, .int 0])), (q 26, .inl (cI, 9, .inl (fun _ => 0))), (q 27, .inl (cI, 3, .inl (fun _ => 0))), (q 28, .inl (cI, 3, .inl (fun _ => 0))), (q 24, .inr (0, [.ref (q 29), .ref (q 30), .ref (q 31), .ref (q 32), .int 0, .int 0])), (q 25, .inl (cI, 9, .inl (fun _ => 0)))] := hD
  refine W.widen (k := 0) (n := 0) (Nat.le_of_ble_eq_true rfl) (Nat.le_of_ble_eq_true rfl) ?_
  refine lv_aload_n hx hb dX2_clear_15 rfl (lv_at hl 0 rfl) ?_
  refine sk_get (v := .ref (q 26)) (C := RX2) (T := TX2) (N := 10) hx hb hts inlX2 hown hK hP 0 rfl rfl 2 (by decide) w_1_181 rfl dX2_clear_16 ?_
  refine lv_iconst (v := 0) hx hb dX2_clear_19 (by decide) ?_
  refine sk_Sv (n := 2) (rest := []) (wr := [(q 6, .inr (2, [.ref (q 24), .ref (q 25), .ref (q 26), .ref (q 27), .ref (q 28), .int 0, .int 0, .int 0, .int 0, .int 0])), (q 27, .inl (cI, 3, .inl (fun _ => 0))), (q 28, .inl (cI, 3, .inl (fun _ => 0))), (q 24, .inr (0, [.ref (q 29), .ref (q 30), .ref (q 31), .ref (q 32), .int 0, .int 0])), (q 25, .inl (cI, 9, .inl (fun _ => 0)))]) ⟨hx, hb, hml, hown, hts⟩ hl.1 (c_fill_9 l D cI cJ cC cZ cS (q 26)) w_2_218 w_2_219 w_1_15 w_2_220 (by decide +kernel) ⟨⟨(Nat.le_of_ble_eq_true rfl), (Nat.le_of_ble_eq_true rfl)⟩, (Nat.le_of_ble_eq_true rfl), (Nat.le_of_ble_eq_true rfl)⟩ hK hP hD hS hA [1] [0, 2, 3, 4, 5] rfl rfl (by decide) (by decide) (by decide) rfl rfl (Nat.le_of_ble_eq_true rfl) dX2_clear_20 (fun u H locs hw hP hD hS => ?_)
  obtain rfl := hw
  have hP : va_P D vwCl [(q 6, .inr (2, [.ref (q 24), .ref (q 25), .ref (q 26), .ref (q 27), .ref (q 28), .int 0, .int 0, .int 0, .int 0, .int 0])), (q 27, .inl (cI, 3, .inl (fun _ => 0))), (q 28, .inl (cI, 3, .inl (fun _ => 0))), (q 24, .inr (0, [.ref (q 29), .ref (q 30), .ref (q 31), .ref (q 32), .int 0, .int 0])), (q 25, .inl (cI, 9, .inl (fun _ => 0))), (q 26, .inl (cI, 9, .inl (fun _ => 0)))] H := hP
  have hD : va_D A [(q 6, .inr (2, [.ref (q 24), .ref (q 25), .ref (q 26), .ref (q 27), .ref (q 28), .int 0, .int 0, .int 0, .int 0, .int 0])), (q 27, .inl (cI, 3, .inl (fun _ => 0))), (q 28, .inl (cI, 3, .inl (fun _ => 0))), (q 24, .inr (0, [.ref (q 29), .ref (q 30), .ref (q 31), .ref (q 32), .int 0, .int 0])), (q 25, .inl (cI, 9, .inl (fun _ => 0))), (q 26, .inl (cI, 9, .inl (fun _ => 0)))] := hD
  refine W.widen (k := 0) (n := 0) (Nat.le_of_ble_eq_true rfl) (Nat.le_of_ble_eq_true rfl) ?_
  refine lv_aload_n hx hb dX2_clear_23 rfl (lv_at hl 0 rfl) ?_
  refine sk_get (v := .ref (q 27)) (C := RX2) (T := TX2) (N := 10) hx hb hts inlX2 hown hK hP 0 rfl rfl 3 (by decide) w_1_184 rfl dX2_clear_24 ?_
  refine lv_iconst (v := 0) hx hb dX2_clear_27 (by decide) ?_
  refine sk_Sv (n := 2) (rest := []) (wr := [(q 6, .inr (2, [.ref (q 24), .ref (q 25), .ref (q 26), .ref (q 27), .ref (q 28), .int 0, .int 0, .int 0, .int 0, .int 0])), (q 28, .inl (cI, 3, .inl (fun _ => 0))), (q 24, .inr (0, [.ref (q 29), .ref (q 30), .ref (q 31), .ref (q 32), .int 0, .int 0])), (q 25, .inl (cI, 9, .inl (fun _ => 0))), (q 26, .inl (cI, 9, .inl (fun _ => 0)))]) ⟨hx, hb, hml, hown, hts⟩ hl.1 (c_fill_3 l D cI cJ cC cZ cS (q 27)) w_2_218 w_2_219 w_1_15 w_2_220 (by decide +kernel) ⟨⟨(Nat.le_of_ble_eq_true rfl), (Nat.le_of_ble_eq_true rfl)⟩, (Nat.le_of_ble_eq_true rfl), (Nat.le_of_ble_eq_true rfl)⟩ hK hP hD hS hA [1] [0, 2, 3, 4, 5] rfl rfl (by decide) (by decide) (by decide) rfl rfl (Nat.le_of_ble_eq_true rfl) dX2_clear_28 (fun u H locs hw hP hD hS => ?_)
  obtain rfl := hw
  have hP : va_P D vwCl [(q 6, .inr (2, [.ref (q 24), .ref (q 25), .ref (q 26), .ref (q 27), .ref (q 28), .int 0, .int 0, .int 0, .int 0, .int 0])), (q 28, .inl (cI, 3, .inl (fun _ => 0))), (q 24, .inr (0, [.ref (q 29), .ref (q 30), .ref (q 31), .ref (q 32), .int 0, .int 0])), (q 25, .inl (cI, 9, .inl (fun _ => 0))), (q 26, .inl (cI, 9, .inl (fun _ => 0))), (q 27, .inl (cI, 3, .inl (fun _ => 0)))] H := hP
  have hD : va_D A [(q 6, .inr (2, [.ref (q 24), .ref (q 25), .ref (q 26), .ref (q 27), .ref (q 28), .int 0, .int 0, .int 0, .int 0, .int 0])), (q 28, .inl (cI, 3, .inl (fun _ => 0))), (q 24, .inr (0, [.ref (q 29), .ref (q 30), .ref (q 31), .ref (q 32), .int 0, .int 0])), (q 25, .inl (cI, 9, .inl (fun _ => 0))), (q 26, .inl (cI, 9, .inl (fun _ => 0))), (q 27, .inl (cI, 3, .inl (fun _ => 0)))] := hD
  refine W.widen (k := 0) (n := 0) (Nat.le_of_ble_eq_true rfl) (Nat.le_of_ble_eq_true rfl) ?_
  refine lv_aload_n hx hb dX2_clear_31 rfl (lv_at hl 0 rfl) ?_
  refine sk_get (v := .ref (q 28)) (C := RX2) (T := TX2) (N := 10) hx hb hts inlX2 hown hK hP 0 rfl rfl 4 (by decide) w_1_186 rfl dX2_clear_32 ?_
  refine lv_iconst (v := 0) hx hb dX2_clear_35 (by decide) ?_
  refine sk_Sv (n := 2) (rest := []) (wr := [(q 6, .inr (2, [.ref (q 24), .ref (q 25), .ref (q 26), .ref (q 27), .ref (q 28), .int 0, .int 0, .int 0, .int 0, .int 0])), (q 24, .inr (0, [.ref (q 29), .ref (q 30), .ref (q 31), .ref (q 32), .int 0, .int 0])), (q 25, .inl (cI, 9, .inl (fun _ => 0))), (q 26, .inl (cI, 9, .inl (fun _ => 0))), (q 27, .inl (cI, 3, .inl (fun _ => 0)))]) ⟨hx, hb, hml, hown, hts⟩ hl.1 (c_fill_3 l D cI cJ cC cZ cS (q 28)) w_2_218 w_2_219 w_1_15 w_2_220 (by decide +kernel) ⟨⟨(Nat.le_of_ble_eq_true rfl), (Nat.le_of_ble_eq_true rfl)⟩, (Nat.le_of_ble_eq_true rfl), (Nat.le_of_ble_eq_true rfl)⟩ hK hP hD hS hA [1] [0, 2, 3, 4, 5] rfl rfl (by decide) (by decide) (by decide) rfl rfl (Nat.le_of_ble_eq_true rfl) dX2_clear_36 (fun u H locs hw hP hD hS => ?_)
  obtain rfl := hw
  have hP : va_P D vwCl [(q 6, .inr (2, [.ref (q 24), .ref (q 25), .ref (q 26), .ref (q 27), .ref (q 28), .int 0, .int 0, .int 0, .int 0, .int 0])), (q 24, .inr (0, [.ref (q 29), .ref (q 30), .ref (q 31), .ref (q 32), .int 0, .int 0])), (q 25, .inl (cI, 9, .inl (fun _ => 0))), (q 26, .inl (cI, 9, .inl (fun _ => 0))), (q 27, .inl (cI, 3, .inl (fun _ => 0))), (q 28, .inl (cI, 3, .inl (fun _ => 0)))] H := hP
  have hD : va_D A [(q 6, .inr (2, [.ref (q 24), .ref (q 25), .ref (q 26), .ref (q 27), .ref (q 28), .int 0, .int 0, .int 0, .int 0, .int 0])), (q 24, .inr (0, [.ref (q 29), .ref (q 30), .ref (q 31), .ref (q 32), .int 0, .int 0])), (q 25, .inl (cI, 9, .inl (fun _ => 0))), (q 26, .inl (cI, 9, .inl (fun _ => 0))), (q 27, .inl (cI, 3, .inl (fun _ => 0))), (q 28, .inl (cI, 3, .inl (fun _ => 0)))] := hD
  refine W.widen (k := 0) (n := 0) (Nat.le_of_ble_eq_true rfl) (Nat.le_of_ble_eq_true rfl) ?_
  refine lv_aload_n hx hb dX2_clear_39 rfl (lv_at hl 0 rfl) ?_
  refine lv_iconst (v := 0) hx hb dX2_clear_40 (by decide) ?_
  refine sk_put (ws' := [(q 6, .inr (2, [.ref (q 24), .ref (q 25), .ref (q 26), .ref (q 27), .ref (q 28), .int 0, .int 0, .int 0, .int 0, .int 0])), (q 24, .inr (0, [.ref (q 29), .ref (q 30), .ref (q 31), .ref (q 32), .int 0, .int 0])), (q 25, .inl (cI, 9, .inl (fun _ => 0))), (q 26, .inl (cI, 9, .inl (fun _ => 0))), (q 27, .inl (cI, 3, .inl (fun _ => 0))), (q 28, .inl (cI, 3, .inl (fun _ => 0)))]) (C := RX2) (T := TX2) (N := 10) (v := .int 0) hx hb hts inlX2 tyX2 tyX2_ok nmX2 hown hK hP hD hS 0 rfl rfl 7 (by decide) w_1_194 rfl rfl rfl (Nat.le_of_ble_eq_true rfl) rfl dX2_clear_41 (fun H locs hP hD hS => ?_)
  refine lv_aload_n hx hb dX2_clear_44 rfl (lv_at hl 0 rfl) ?_
  refine lv_iconst (v := 0) hx hb dX2_clear_45 (by decide) ?_
  refine sk_put (ws' := [(q 6, .inr (2, [.ref (q 24), .ref (q 25), .ref (q 26), .ref (q 27), .ref (q 28), .int 0, .int 0, .int 0, .int 0, .int 0])), (q 24, .inr (0, [.ref (q 29), .ref (q 30), .ref (q 31), .ref (q 32), .int 0, .int 0])), (q 25, .inl (cI, 9, .inl (fun _ => 0))), (q 26, .inl (cI, 9, .inl (fun _ => 0))), (q 27, .inl (cI, 3, .inl (fun _ => 0))), (q 28, .inl (cI, 3, .inl (fun _ => 0)))]) (C := RX2) (T := TX2) (N := 10) (v := .int 0) hx hb hts inlX2 tyX2 tyX2_ok nmX2 hown hK hP hD hS 0 rfl rfl 8 (by decide) w_1_197 rfl rfl rfl (Nat.le_of_ble_eq_true rfl) rfl dX2_clear_46 (fun H locs hP hD hS => ?_)
  refine lv_aload_n hx hb dX2_clear_49 rfl (lv_at hl 0 rfl) ?_
  refine lv_iconst (v := 0) hx hb dX2_clear_50 (by decide) ?_
  refine sk_put (ws' := [(q 6, .inr (2, [.ref (q 24), .ref (q 25), .ref (q 26), .ref (q 27), .ref (q 28), .int 0, .int 0, .int 0, .int 0, .int 0])), (q 24, .inr (0, [.ref (q 29), .ref (q 30), .ref (q 31), .ref (q 32), .int 0, .int 0])), (q 25, .inl (cI, 9, .inl (fun _ => 0))), (q 26, .inl (cI, 9, .inl (fun _ => 0))), (q 27, .inl (cI, 3, .inl (fun _ => 0))), (q 28, .inl (cI, 3, .inl (fun _ => 0)))]) (C := RX2) (T := TX2) (N := 10) (v := .int 0) hx hb hts inlX2 tyX2 tyX2_ok nmX2 hown hK hP hD hS 0 rfl rfl 9 (by decide) w_1_200 rfl rfl rfl (Nat.le_of_ble_eq_true rfl) rfl dX2_clear_51 (fun H locs hP hD hS => ?_)
  exact sk_vret hx hb hr hlocks hK hP hD hS rfl (Nat.le_of_ble_eq_true rfl) (Nat.le_of_ble_eq_true rfl) dX2_clear_54
theorem dX6_step_0 : decode cX6_step 0 = .ok (.aload_n 0, 1) := by decide +kernel
theorem dX6_step_1 : decode cX6_step 1 = .ok (.getfield 27, 3) := by decide +kernel
theorem dX6_step_4 : decode cX6_step 4 = .ok (.ifCond .eq 4, 3) := by decide +kernel
theorem dX6_step_8 : decode cX6_step 8 = .ok (.aload_n 0, 1) := by decide +kernel
theorem dX6_step_9 : decode cX6_step 9 = .ok (.getfield 21, 3) := by decide +kernel
theorem dX6_step_12 : decode cX6_step 12 = .ok (.bipush (-3), 2) := by decide +kernel
theorem dX6_step_14 : decode cX6_step 14 = .ok (.if_icmp .eq 13, 3) := by decide +kernel
theorem dX6_step_17 : decode cX6_step 17 = .ok (.aload_n 0, 1) := by decide +kernel
theorem dX6_step_18 : decode cX6_step 18 = .ok (.getfield 21, 3) := by decide +kernel
theorem dX6_step_21 : decode cX6_step 21 = .ok (.sipush 256, 3) := by decide +kernel
theorem dX6_step_24 : decode cX6_step 24 = .ok (.if_icmp .lt 10, 3) := by decide +kernel
theorem dX6_step_34 : decode cX6_step 34 = .ok (.iconst (-1), 1) := by decide +kernel
theorem dX6_step_35 : decode cX6_step 35 = .ok (.istore_n 1, 1) := by decide +kernel
theorem dX6_step_36 : decode cX6_step 36 = .ok (.aload_n 0, 1) := by decide +kernel
theorem dX6_step_37 : decode cX6_step 37 = .ok (.getfield 9, 3) := by decide +kernel
theorem dX6_step_40 : decode cX6_step 40 = .ok (.aload_n 0, 1) := by decide +kernel
theorem dX6_step_41 : decode cX6_step 41 = .ok (.getfield 33, 3) := by decide +kernel
theorem dX6_step_44 : decode cX6_step 44 = .ok (.getfield 44, 3) := by decide +kernel
theorem dX6_step_47 : decode cX6_step 47 = .ok (.if_icmp .ge 50, 3) := by decide +kernel
theorem dX6_step_97 : decode cX6_step 97 = .ok (.aload_n 0, 1) := by decide +kernel
theorem dX6_step_98 : decode cX6_step 98 = .ok (.aload_n 0, 1) := by decide +kernel
theorem dX6_step_99 : decode cX6_step 99 = .ok (.getfield 9, 3) := by decide +kernel
theorem dX6_step_102 : decode cX6_step 102 = .ok (.putfield 24, 3) := by decide +kernel
theorem dX6_step_105 : decode cX6_step 105 = .ok (.aload_n 0, 1) := by decide +kernel
theorem dX6_step_106 : decode cX6_step 106 = .ok (.getfield 9, 3) := by decide +kernel
theorem dX6_step_109 : decode cX6_step 109 = .ok (.aload_n 0, 1) := by decide +kernel
theorem dX6_step_110 : decode cX6_step 110 = .ok (.getfield 33, 3) := by decide +kernel
theorem dX6_step_113 : decode cX6_step 113 = .ok (.getfield 44, 3) := by decide +kernel
theorem dX6_step_116 : decode cX6_step 116 = .ok (.if_icmp .lt 9, 3) := by decide +kernel
theorem dX6_step_119 : decode cX6_step 119 = .ok (.aload_n 0, 1) := by decide +kernel
theorem dX6_step_120 : decode cX6_step 120 = .ok (.iconst (-1), 1) := by decide +kernel
theorem dX6_step_121 : decode cX6_step 121 = .ok (.putfield 21, 3) := by decide +kernel
theorem dX6_step_124 : decode cX6_step 124 = .ok (.return_, 1) := by decide +kernel
theorem w_1_43 : (Cond.fieldLink RX6 44 "SameKeeper$Tape" "length" "I") ∈ wsL_law := sk_mem (ck_1 _ (List.mem_of_getElem? (i := 43) rfl)) rfl
theorem w_2_228 : (Cond.code yX6_step cX6_step 3 none) ∈ wsL_law := sk_mem (ck_2 _ (List.mem_of_getElem? (i := 228) rfl)) rfl
set_option maxHeartbeats 4000000 in
set_option maxRecDepth 100000 in
theorem c_rd_step (l : Launch) (D : va_G) (cI cJ cC cZ cS : ClassId) (q : Nat → Nat)  : skM l yX6_step cX6_step 3 none 0 0 0 0 D (skT cI cJ cC cZ cS) [.ref (q 2)] [(q 2, .inr (6, [.ref (q 0), .int 0, .int 0, .int 0, .int (-1), .int 0, .int 0, .int (-1)])), (q 0, .inr (10, [.ref (q 20), .int 0]))] (skV D (skT cI cJ cC cZ cS) (fun (u : va_W) => u = [(q 2, .inr (6, [.ref (q 0), .int 0, .int 0, .int 0, .int (-1), .int 0, .int 0, .int (-1)])), (q 0, .inr (10, [.ref (q 20), .int 0]))])) := by
  refine skM_of (by decide) (Nat.le_of_ble_eq_true rfl) ?_
  intro p e s m below meth c A ls E hP hD hl
  obtain ⟨hx, hb, hr, hml, hlocks, hin, hown, hts, hK, hA⟩ := E
  have hown : s.vm.findClass RX6 = some m.cls := hown
  have hS : va_S A s.heap s.heap [] := va_S.rf
  have hl : lv_has ls 3 [(0, .ref (q 2))] := hl
  refine lv_aload_n hx hb dX6_step_0 rfl (lv_at hl 0 rfl) ?_
  refine sk_get (v := .int 0) (C := RX6) (T := TX6) (N := 8) hx hb hts inlX6 hown hK hP 0 rfl rfl 6 (by decide) w_1_66 rfl dX6_step_1 ?_
  refine lv_if_eq (tgt := 8) hx hb dX6_step_4 (by decide) (fun c_1 => ?_) (fun c => absurd c (by decide))
  refine lv_aload_n hx hb dX6_step_8 rfl (lv_at hl 0 rfl) ?_
  refine sk_get (v := .int (-1)) (C := RX6) (T := TX6) (N := 8) hx hb hts inlX6 hown hK hP 0 rfl rfl 4 (by decide) w_1_60 rfl dX6_step_9 ?_
  refine lv_bipush (v := (-3)) hx hb dX6_step_12 (by decide) ?_
  refine lv_icmp_eq (tgt := 27) hx hb dX6_step_14 (by decide) (fun c => absurd c (by decide)) (fun c_2 => ?_)
  refine lv_aload_n hx hb dX6_step_17 rfl (lv_at hl 0 rfl) ?_
  refine sk_get (v := .int (-1)) (C := RX6) (T := TX6) (N := 8) hx hb hts inlX6 hown hK hP 0 rfl rfl 4 (by decide) w_1_60 rfl dX6_step_18 ?_
  refine lv_sipush (v := 256) hx hb dX6_step_21 (by decide) ?_
  refine lv_icmp_lt (tgt := 34) hx hb dX6_step_24 (by decide) (fun c_3 => ?_) (fun c => absurd c (by decide))
  refine lv_iconst (v := (-1)) hx hb dX6_step_34 (by decide) ?_
  refine lv_istore_n (lv' := [(1, .int (-1)), (0, .ref (q 2))]) hx hb dX6_step_35 rfl hl (by decide) rfl (fun ls hl => ?_)
  refine lv_aload_n hx hb dX6_step_36 rfl (lv_at hl 1 rfl) ?_
  refine sk_get (v := .int 0) (C := RX6) (T := TX6) (N := 8) hx hb hts inlX6 hown hK hP 0 rfl rfl 1 (by decide) w_1_57 rfl dX6_step_37 ?_
  refine lv_aload_n hx hb dX6_step_40 rfl (lv_at hl 1 rfl) ?_
  refine sk_get (v := .ref (q 0)) (C := RX6) (T := TX6) (N := 8) hx hb hts inlX6 hown hK hP 0 rfl rfl 0 (by decide) w_1_56 rfl dX6_step_41 ?_
  refine sk_get (v := .int 0) (C := RX10) (T := TX10) (N := 2) hx hb hts inlX10 hown hK hP 1 rfl rfl 1 (by decide) w_1_43 rfl dX6_step_44 ?_
  refine lv_icmp_ge (tgt := 97) hx hb dX6_step_47 (by decide) (fun c_4 => ?_) (fun c => absurd c (by decide))
  refine lv_aload_n hx hb dX6_step_97 rfl (lv_at hl 1 rfl) ?_
  refine lv_aload_n hx hb dX6_step_98 rfl (lv_at hl 1 rfl) ?_
  refine sk_get (v := .int 0) (C := RX6) (T := TX6) (N := 8) hx hb hts inlX6 hown hK hP 0 rfl rfl 1 (by decide) w_1_57 rfl dX6_step_99 ?_
  refine sk_put (ws' := [(q 2, .inr (6, [.ref (q 0), .int 0, .int 0, .int 0, .int (-1), .int 0, .int 0, .int (-1)])), (q 0, .inr (10, [.ref (q 20), .int 0]))]) (C := RX6) (T := TX6) (N := 8) (v := .int 0) hx hb hts inlX6 tyX6 tyX6_ok nmX6 hown hK hP hD hS 0 rfl rfl 5 (by decide) w_1_64 rfl rfl rfl (Nat.le_of_ble_eq_true rfl) rfl dX6_step_102 (fun H locs hP hD hS => ?_)
  refine lv_aload_n hx hb dX6_step_105 rfl (lv_at hl 1 rfl) ?_
  refine sk_get (v := .int 0) (C := RX6) (T := TX6) (N := 8) hx hb hts inlX6 hown hK hP 0 rfl rfl 1 (by decide) w_1_57 rfl dX6_step_106 ?_
  refine lv_aload_n hx hb dX6_step_109 rfl (lv_at hl 1 rfl) ?_
  refine sk_get (v := .ref (q 0)) (C := RX6) (T := TX6) (N := 8) hx hb hts inlX6 hown hK hP 0 rfl rfl 0 (by decide) w_1_56 rfl dX6_step_110 ?_
  refine sk_get (v := .int 0) (C := RX10) (T := TX10) (N := 2) hx hb hts inlX10 hown hK hP 1 rfl rfl 1 (by decide) w_1_43 rfl dX6_step_113 ?_
  refine lv_icmp_lt (tgt := 125) hx hb dX6_step_116 (by decide) (fun c => absurd c (by decide)) (fun c_5 => ?_)
  refine lv_aload_n hx hb dX6_step_119 rfl (lv_at hl 1 rfl) ?_
  refine lv_iconst (v := (-1)) hx hb dX6_step_120 (by decide) ?_
  refine sk_put (ws' := [(q 2, .inr (6, [.ref (q 0), .int 0, .int 0, .int 0, .int (-1), .int 0, .int 0, .int (-1)])), (q 0, .inr (10, [.ref (q 20), .int 0]))]) (C := RX6) (T := TX6) (N := 8) (v := .int (-1)) hx hb hts inlX6 tyX6 tyX6_ok nmX6 hown hK hP hD hS 0 rfl rfl 4 (by decide) w_1_60 rfl rfl rfl (Nat.le_of_ble_eq_true rfl) rfl dX6_step_121 (fun H locs hP hD hS => ?_)
  exact sk_vret hx hb hr hlocks hK hP hD hS rfl (Nat.le_of_ble_eq_true rfl) (Nat.le_of_ble_eq_true rfl) dX6_step_124
theorem dX6_begin_0 : decode cX6_begin 0 = .ok (.aload_n 0, 1) := by decide +kernel
theorem dX6_begin_1 : decode cX6_begin 1 = .ok (.iconst 0, 1) := by decide +kernel
theorem dX6_begin_2 : decode cX6_begin 2 = .ok (.putfield 9, 3) := by decide +kernel
theorem dX6_begin_5 : decode cX6_begin 5 = .ok (.aload_n 0, 1) := by decide +kernel
theorem dX6_begin_6 : decode cX6_begin 6 = .ok (.iconst 0, 1) := by decide +kernel
theorem dX6_begin_7 : decode cX6_begin 7 = .ok (.putfield 18, 3) := by decide +kernel
theorem dX6_begin_10 : decode cX6_begin 10 = .ok (.aload_n 0, 1) := by decide +kernel
theorem dX6_begin_11 : decode cX6_begin 11 = .ok (.iconst 0, 1) := by decide +kernel
theorem dX6_begin_12 : decode cX6_begin 12 = .ok (.putfield 27, 3) := by decide +kernel
theorem dX6_begin_15 : decode cX6_begin 15 = .ok (.aload_n 0, 1) := by decide +kernel
theorem dX6_begin_16 : decode cX6_begin 16 = .ok (.iconst (-1), 1) := by decide +kernel
theorem dX6_begin_17 : decode cX6_begin 17 = .ok (.putfield 30, 3) := by decide +kernel
theorem dX6_begin_20 : decode cX6_begin 20 = .ok (.aload_n 0, 1) := by decide +kernel
theorem dX6_begin_21 : decode cX6_begin 21 = .ok (.iconst (-1), 1) := by decide +kernel
theorem dX6_begin_22 : decode cX6_begin 22 = .ok (.putfield 21, 3) := by decide +kernel
theorem dX6_begin_25 : decode cX6_begin 25 = .ok (.aload_n 0, 1) := by decide +kernel
theorem dX6_begin_26 : decode cX6_begin 26 = .ok (.invokevirtual 37, 3) := by decide +kernel
theorem dX6_begin_29 : decode cX6_begin 29 = .ok (.return_, 1) := by decide +kernel
theorem w_2_225 : (Cond.methodLink RX6 37 yX6_step) ∈ wsL_law := sk_mem (ck_2 _ (List.mem_of_getElem? (i := 225) rfl)) rfl
theorem w_2_226 : (Cond.instanceMethod yX6_step) ∈ wsL_law := sk_mem (ck_2 _ (List.mem_of_getElem? (i := 226) rfl)) rfl
theorem w_2_227 : (Cond.selects RX6 yX6_step yX6_step) ∈ wsL_law := sk_mem (ck_2 _ (List.mem_of_getElem? (i := 227) rfl)) rfl
theorem w_2_224 : (Cond.code yX6_begin cX6_begin 1 none) ∈ wsL_law := sk_mem (ck_2 _ (List.mem_of_getElem? (i := 224) rfl)) rfl
set_option maxHeartbeats 4000000 in
set_option maxRecDepth 100000 in
theorem c_rd_begin (l : Launch) (D : va_G) (cI cJ cC cZ cS : ClassId) (q : Nat → Nat)  : skM l yX6_begin cX6_begin 1 none 1 22 0 0 D (skT cI cJ cC cZ cS) [.ref (q 2)] [(q 2, .inr (6, [.ref (q 0), .int 0, .int 0, .int 0, .int (-1), .int 0, .int 0, .int (-1)])), (q 0, .inr (10, [.ref (q 20), .int 0]))] (skV D (skT cI cJ cC cZ cS) (fun (u : va_W) => u = [(q 2, .inr (6, [.ref (q 0), .int 0, .int 0, .int 0, .int (-1), .int 0, .int 0, .int (-1)])), (q 0, .inr (10, [.ref (q 20), .int 0]))])) := by
  refine skM_of (by decide) (Nat.le_of_ble_eq_true rfl) ?_
  intro p e s m below meth c A ls E hP hD hl
  obtain ⟨hx, hb, hr, hml, hlocks, hin, hown, hts, hK, hA⟩ := E
  have hown : s.vm.findClass RX6 = some m.cls := hown
  have hS : va_S A s.heap s.heap [] := va_S.rf
  have hl : lv_has ls 1 [(0, .ref (q 2))] := hl
  refine lv_aload_n hx hb dX6_begin_0 rfl (lv_at hl 0 rfl) ?_
  refine lv_iconst (v := 0) hx hb dX6_begin_1 (by decide) ?_
  refine sk_put (ws' := [(q 2, .inr (6, [.ref (q 0), .int 0, .int 0, .int 0, .int (-1), .int 0, .int 0, .int (-1)])), (q 0, .inr (10, [.ref (q 20), .int 0]))]) (C := RX6) (T := TX6) (N := 8) (v := .int 0) hx hb hts inlX6 tyX6 tyX6_ok nmX6 hown hK hP hD hS 0 rfl rfl 1 (by decide) w_1_57 rfl rfl rfl (Nat.le_of_ble_eq_true rfl) rfl dX6_begin_2 (fun H locs hP hD hS => ?_)
  refine lv_aload_n hx hb dX6_begin_5 rfl (lv_at hl 0 rfl) ?_
  refine lv_iconst (v := 0) hx hb dX6_begin_6 (by decide) ?_
  refine sk_put (ws' := [(q 2, .inr (6, [.ref (q 0), .int 0, .int 0, .int 0, .int (-1), .int 0, .int 0, .int (-1)])), (q 0, .inr (10, [.ref (q 20), .int 0]))]) (C := RX6) (T := TX6) (N := 8) (v := .int 0) hx hb hts inlX6 tyX6 tyX6_ok nmX6 hown hK hP hD hS 0 rfl rfl 3 (by decide) w_1_59 rfl rfl rfl (Nat.le_of_ble_eq_true rfl) rfl dX6_begin_7 (fun H locs hP hD hS => ?_)
  refine lv_aload_n hx hb dX6_begin_10 rfl (lv_at hl 0 rfl) ?_
  refine lv_iconst (v := 0) hx hb dX6_begin_11 (by decide) ?_
  refine sk_put (ws' := [(q 2, .inr (6, [.ref (q 0), .int 0, .int 0, .int 0, .int (-1), .int 0, .int 0, .int (-1)])), (q 0, .inr (10, [.ref (q 20), .int 0]))]) (C := RX6) (T := TX6) (N := 8) (v := .int 0) hx hb hts inlX6 tyX6 tyX6_ok nmX6 hown hK hP hD hS 0 rfl rfl 6 (by decide) w_1_66 rfl rfl rfl (Nat.le_of_ble_eq_true rfl) rfl dX6_begin_12 (fun H locs hP hD hS => ?_)
  refine lv_aload_n hx hb dX6_begin_15 rfl (lv_at hl 0 rfl) ?_
  refine lv_iconst (v := (-1)) hx hb dX6_begin_16 (by decide) ?_
  refine sk_put (ws' := [(q 2, .inr (6, [.ref (q 0), .int 0, .int 0, .int 0, .int (-1), .int 0, .int 0, .int (-1)])), (q 0, .inr (10, [.ref (q 20), .int 0]))]) (C := RX6) (T := TX6) (N := 8) (v := .int (-1)) hx hb hts inlX6 tyX6 tyX6_ok nmX6 hown hK hP hD hS 0 rfl rfl 7 (by decide) w_1_69 rfl rfl rfl (Nat.le_of_ble_eq_true rfl) rfl dX6_begin_17 (fun H locs hP hD hS => ?_)
  refine lv_aload_n hx hb dX6_begin_20 rfl (lv_at hl 0 rfl) ?_
  refine lv_iconst (v := (-1)) hx hb dX6_begin_21 (by decide) ?_
  refine sk_put (ws' := [(q 2, .inr (6, [.ref (q 0), .int 0, .int 0, .int 0, .int (-1), .int 0, .int 0, .int (-1)])), (q 0, .inr (10, [.ref (q 20), .int 0]))]) (C := RX6) (T := TX6) (N := 8) (v := .int (-1)) hx hb hts inlX6 tyX6 tyX6_ok nmX6 hown hK hP hD hS 0 rfl rfl 4 (by decide) w_1_60 rfl rfl rfl (Nat.le_of_ble_eq_true rfl) rfl dX6_begin_22 (fun H locs hP hD hS => ?_)
  refine lv_aload_n hx hb dX6_begin_25 rfl (lv_at hl 0 rfl) ?_
  refine sk_Vv (q0 := 0) (n := 0) (rest := []) (wr := []) ⟨hx, hb, hml, hown, hts⟩ hl.1 (c_rd_step l D cI cJ cC cZ cS q) w_2_225 w_2_226 w_2_227 w_1_4 w_2_228 (by decide +kernel) ⟨⟨(Nat.le_of_ble_eq_true rfl), (Nat.le_of_ble_eq_true rfl)⟩, (Nat.le_of_ble_eq_true rfl), (Nat.le_of_ble_eq_true rfl)⟩ hK hP hD hS hA [0, 1] [] rfl rfl (by decide) (by decide) (by decide) rfl rfl rfl rfl (Nat.le_of_ble_eq_true rfl) dX6_begin_26 (fun u H locs hw hP hD hS => ?_)
  obtain rfl := hw
  have hP : va_P D vwCl [(q 2, .inr (6, [.ref (q 0), .int 0, .int 0, .int 0, .int (-1), .int 0, .int 0, .int (-1)])), (q 0, .inr (10, [.ref (q 20), .int 0]))] H := hP
  have hD : va_D A [(q 2, .inr (6, [.ref (q 0), .int 0, .int 0, .int 0, .int (-1), .int 0, .int 0, .int (-1)])), (q 0, .inr (10, [.ref (q 20), .int 0]))] := hD
  refine W.widen (k := 0) (n := 0) (Nat.le_of_ble_eq_true rfl) (Nat.le_of_ble_eq_true rfl) ?_
  exact sk_vret hx hb hr hlocks hK hP hD hS rfl (Nat.le_of_ble_eq_true rfl) (Nat.le_of_ble_eq_true rfl) dX6_begin_29
theorem dX6_fail_0 : decode cX6_fail 0 = .ok (.aload_n 0, 1) := by decide +kernel
theorem dX6_fail_1 : decode cX6_fail 1 = .ok (.getfield 27, 3) := by decide +kernel
theorem dX6_fail_4 : decode cX6_fail 4 = .ok (.ifCond .ne 13, 3) := by decide +kernel
theorem dX6_fail_7 : decode cX6_fail 7 = .ok (.aload_n 0, 1) := by decide +kernel
theorem dX6_fail_8 : decode cX6_fail 8 = .ok (.iload_n 1, 1) := by decide +kernel
theorem dX6_fail_9 : decode cX6_fail 9 = .ok (.putfield 27, 3) := by decide +kernel
theorem dX6_fail_12 : decode cX6_fail 12 = .ok (.aload_n 0, 1) := by decide +kernel
theorem dX6_fail_13 : decode cX6_fail 13 = .ok (.iload_n 2, 1) := by decide +kernel
theorem dX6_fail_14 : decode cX6_fail 14 = .ok (.putfield 30, 3) := by decide +kernel
theorem dX6_fail_17 : decode cX6_fail 17 = .ok (.aload_n 0, 1) := by decide +kernel
theorem dX6_fail_18 : decode cX6_fail 18 = .ok (.bipush (-2), 2) := by decide +kernel
theorem dX6_fail_20 : decode cX6_fail 20 = .ok (.putfield 21, 3) := by decide +kernel
theorem dX6_fail_23 : decode cX6_fail 23 = .ok (.return_, 1) := by decide +kernel
theorem w_3_61 : (Cond.code yX6_fail cX6_fail 3 none) ∈ wsL_law := sk_mem (ck_3 _ (List.mem_of_getElem? (i := 61) rfl)) rfl
set_option maxHeartbeats 4000000 in
set_option maxRecDepth 100000 in
theorem c_rd_fail_a (l : Launch) (D : va_G) (cI cJ cC cZ cS : ClassId) (q : Nat → Nat)  : skM l yX6_fail cX6_fail 3 none 0 0 0 0 D (skT cI cJ cC cZ cS) [.ref (q 2), .int 1, .int 0] [(q 2, .inr (6, [.ref (q 0), .int 0, .int 0, .int 0, .int (-1), .int 0, .int 0, .int (-1)]))] (skV D (skT cI cJ cC cZ cS) (fun (u : va_W) => u = [(q 2, .inr (6, [.ref (q 0), .int 0, .int 0, .int 0, .int (-2), .int 0, .int 1, .int 0]))])) := by
  refine skM_of (by decide) (Nat.le_of_ble_eq_true rfl) ?_
  intro p e s m below meth c A ls E hP hD hl
  obtain ⟨hx, hb, hr, hml, hlocks, hin, hown, hts, hK, hA⟩ := E
  have hown : s.vm.findClass RX6 = some m.cls := hown
  have hS : va_S A s.heap s.heap [] := va_S.rf
  have hl : lv_has ls 3 [(0, .ref (q 2)), (1, .int 1), (2, .int 0)] := hl
  refine lv_aload_n hx hb dX6_fail_0 rfl (lv_at hl 0 rfl) ?_
  refine sk_get (v := .int 0) (C := RX6) (T := TX6) (N := 8) hx hb hts inlX6 hown hK hP 0 rfl rfl 6 (by decide) w_1_66 rfl dX6_fail_1 ?_
  refine lv_if_ne (tgt := 17) hx hb dX6_fail_4 (by decide) (fun c => absurd c (by decide)) (fun c_1 => ?_)
  refine lv_aload_n hx hb dX6_fail_7 rfl (lv_at hl 0 rfl) ?_
  refine lv_iload_n hx hb dX6_fail_8 rfl (lv_at hl 1 rfl) ?_
  refine sk_put (ws' := [(q 2, .inr (6, [.ref (q 0), .int 0, .int 0, .int 0, .int (-1), .int 0, .int 1, .int (-1)]))]) (C := RX6) (T := TX6) (N := 8) (v := .int 1) hx hb hts inlX6 tyX6 tyX6_ok nmX6 hown hK hP hD hS 0 rfl rfl 6 (by decide) w_1_66 rfl rfl rfl (Nat.le_of_ble_eq_true rfl) rfl dX6_fail_9 (fun H locs hP hD hS => ?_)
  refine lv_aload_n hx hb dX6_fail_12 rfl (lv_at hl 0 rfl) ?_
  refine lv_iload_n hx hb dX6_fail_13 rfl (lv_at hl 2 rfl) ?_
  refine sk_put (ws' := [(q 2, .inr (6, [.ref (q 0), .int 0, .int 0, .int 0, .int (-1), .int 0, .int 1, .int 0]))]) (C := RX6) (T := TX6) (N := 8) (v := .int 0) hx hb hts inlX6 tyX6 tyX6_ok nmX6 hown hK hP hD hS 0 rfl rfl 7 (by decide) w_1_69 rfl rfl rfl (Nat.le_of_ble_eq_true rfl) rfl dX6_fail_14 (fun H locs hP hD hS => ?_)
  refine lv_aload_n hx hb dX6_fail_17 rfl (lv_at hl 0 rfl) ?_
  refine lv_bipush (v := (-2)) hx hb dX6_fail_18 (by decide) ?_
  refine sk_put (ws' := [(q 2, .inr (6, [.ref (q 0), .int 0, .int 0, .int 0, .int (-2), .int 0, .int 1, .int 0]))]) (C := RX6) (T := TX6) (N := 8) (v := .int (-2)) hx hb hts inlX6 tyX6 tyX6_ok nmX6 hown hK hP hD hS 0 rfl rfl 4 (by decide) w_1_60 rfl rfl rfl (Nat.le_of_ble_eq_true rfl) rfl dX6_fail_20 (fun H locs hP hD hS => ?_)
  exact sk_vret hx hb hr hlocks hK hP hD hS rfl (Nat.le_of_ble_eq_true rfl) (Nat.le_of_ble_eq_true rfl) dX6_fail_23
set_option maxHeartbeats 4000000 in
set_option maxRecDepth 100000 in
theorem c_rd_fail_b (l : Launch) (D : va_G) (cI cJ cC cZ cS : ClassId) (q : Nat → Nat) (k : Int32) (wh : Int32)  : skM l yX6_fail cX6_fail 3 none 0 0 0 0 D (skT cI cJ cC cZ cS) [.ref (q 2), .int k, .int wh] [(q 2, .inr (6, [.ref (q 0), .int 0, .int 0, .int 0, .int (-2), .int 0, .int 1, .int 0]))] (skV D (skT cI cJ cC cZ cS) (fun (u : va_W) => u = [(q 2, .inr (6, [.ref (q 0), .int 0, .int 0, .int 0, .int (-2), .int 0, .int 1, .int 0]))])) := by
  refine skM_of (by decide) (Nat.le_of_ble_eq_true rfl) ?_
  intro p e s m below meth c A ls E hP hD hl
  obtain ⟨hx, hb, hr, hml, hlocks, hin, hown, hts, hK, hA⟩ := E
  have hown : s.vm.findClass RX6 = some m.cls := hown
  have hS : va_S A s.heap s.heap [] := va_S.rf
  have hl : lv_has ls 3 [(0, .ref (q 2)), (1, .int k), (2, .int wh)] := hl
  refine lv_aload_n hx hb dX6_fail_0 rfl (lv_at hl 0 rfl) ?_
  refine sk_get (v := .int 1) (C := RX6) (T := TX6) (N := 8) hx hb hts inlX6 hown hK hP 0 rfl rfl 6 (by decide) w_1_66 rfl dX6_fail_1 ?_
  refine lv_if_ne (tgt := 17) hx hb dX6_fail_4 (by decide) (fun c_1 => ?_) (fun c => absurd c (by decide))
  refine lv_aload_n hx hb dX6_fail_17 rfl (lv_at hl 0 rfl) ?_
  refine lv_bipush (v := (-2)) hx hb dX6_fail_18 (by decide) ?_
  refine sk_put (ws' := [(q 2, .inr (6, [.ref (q 0), .int 0, .int 0, .int 0, .int (-2), .int 0, .int 1, .int 0]))]) (C := RX6) (T := TX6) (N := 8) (v := .int (-2)) hx hb hts inlX6 tyX6 tyX6_ok nmX6 hown hK hP hD hS 0 rfl rfl 4 (by decide) w_1_60 rfl rfl rfl (Nat.le_of_ble_eq_true rfl) rfl dX6_fail_20 (fun H locs hP hD hS => ?_)
  exact sk_vret hx hb hr hlocks hK hP hD hS rfl (Nat.le_of_ble_eq_true rfl) (Nat.le_of_ble_eq_true rfl) dX6_fail_23
theorem dX6_failHere_0 : decode cX6_failHere 0 = .ok (.aload_n 0, 1) := by decide +kernel
theorem dX6_failHere_1 : decode cX6_failHere 1 = .ok (.iconst 1, 1) := by decide +kernel
theorem dX6_failHere_2 : decode cX6_failHere 2 = .ok (.aload_n 0, 1) := by decide +kernel
theorem dX6_failHere_3 : decode cX6_failHere 3 = .ok (.getfield 24, 3) := by decide +kernel
theorem dX6_failHere_6 : decode cX6_failHere 6 = .ok (.invokevirtual 40, 3) := by decide +kernel
theorem dX6_failHere_9 : decode cX6_failHere 9 = .ok (.return_, 1) := by decide +kernel
theorem w_3_58 : (Cond.methodLink RX6 40 yX6_fail) ∈ wsL_law := sk_mem (ck_3 _ (List.mem_of_getElem? (i := 58) rfl)) rfl
theorem w_3_59 : (Cond.instanceMethod yX6_fail) ∈ wsL_law := sk_mem (ck_3 _ (List.mem_of_getElem? (i := 59) rfl)) rfl
theorem w_3_60 : (Cond.selects RX6 yX6_fail yX6_fail) ∈ wsL_law := sk_mem (ck_3 _ (List.mem_of_getElem? (i := 60) rfl)) rfl
theorem w_3_57 : (Cond.code yX6_failHere cX6_failHere 1 none) ∈ wsL_law := sk_mem (ck_3 _ (List.mem_of_getElem? (i := 57) rfl)) rfl
set_option maxHeartbeats 4000000 in
set_option maxRecDepth 100000 in
theorem c_rd_failHere_a (l : Launch) (D : va_G) (cI cJ cC cZ cS : ClassId) (q : Nat → Nat)  : skM l yX6_failHere cX6_failHere 1 none 1 22 0 0 D (skT cI cJ cC cZ cS) [.ref (q 2)] [(q 2, .inr (6, [.ref (q 0), .int 0, .int 0, .int 0, .int (-1), .int 0, .int 0, .int (-1)]))] (skV D (skT cI cJ cC cZ cS) (fun (u : va_W) => u = [(q 2, .inr (6, [.ref (q 0), .int 0, .int 0, .int 0, .int (-2), .int 0, .int 1, .int 0]))])) := by
  refine skM_of (by decide) (Nat.le_of_ble_eq_true rfl) ?_
  intro p e s m below meth c A ls E hP hD hl
  obtain ⟨hx, hb, hr, hml, hlocks, hin, hown, hts, hK, hA⟩ := E
  have hown : s.vm.findClass RX6 = some m.cls := hown
  have hS : va_S A s.heap s.heap [] := va_S.rf
  have hl : lv_has ls 1 [(0, .ref (q 2))] := hl
  refine lv_aload_n hx hb dX6_failHere_0 rfl (lv_at hl 0 rfl) ?_
  refine lv_iconst (v := 1) hx hb dX6_failHere_1 (by decide) ?_
  refine lv_aload_n hx hb dX6_failHere_2 rfl (lv_at hl 0 rfl) ?_
  refine sk_get (v := .int 0) (C := RX6) (T := TX6) (N := 8) hx hb hts inlX6 hown hK hP 0 rfl rfl 5 (by decide) w_1_64 rfl dX6_failHere_3 ?_
  refine sk_Vv (q0 := 0) (n := 2) (rest := []) (wr := []) ⟨hx, hb, hml, hown, hts⟩ hl.1 (c_rd_fail_a l D cI cJ cC cZ cS q) w_3_58 w_3_59 w_3_60 w_1_4 w_3_61 (by decide +kernel) ⟨⟨(Nat.le_of_ble_eq_true rfl), (Nat.le_of_ble_eq_true rfl)⟩, (Nat.le_of_ble_eq_true rfl), (Nat.le_of_ble_eq_true rfl)⟩ hK hP hD hS hA [0] [] rfl rfl (by decide) (by decide) (by decide) rfl rfl rfl rfl (Nat.le_of_ble_eq_true rfl) dX6_failHere_6 (fun u H locs hw hP hD hS => ?_)
  obtain rfl := hw
  have hP : va_P D vwCl [(q 2, .inr (6, [.ref (q 0), .int 0, .int 0, .int 0, .int (-2), .int 0, .int 1, .int 0]))] H := hP
  have hD : va_D A [(q 2, .inr (6, [.ref (q 0), .int 0, .int 0, .int 0, .int (-2), .int 0, .int 1, .int 0]))] := hD
  refine W.widen (k := 0) (n := 0) (Nat.le_of_ble_eq_true rfl) (Nat.le_of_ble_eq_true rfl) ?_
  exact sk_vret hx hb hr hlocks hK hP hD hS rfl (Nat.le_of_ble_eq_true rfl) (Nat.le_of_ble_eq_true rfl) dX6_failHere_9
set_option maxHeartbeats 4000000 in
set_option maxRecDepth 100000 in
theorem c_rd_failHere_b (l : Launch) (D : va_G) (cI cJ cC cZ cS : ClassId) (q : Nat → Nat)  : skM l yX6_failHere cX6_failHere 1 none 1 22 0 0 D (skT cI cJ cC cZ cS) [.ref (q 2)] [(q 2, .inr (6, [.ref (q 0), .int 0, .int 0, .int 0, .int (-2), .int 0, .int 1, .int 0]))] (skV D (skT cI cJ cC cZ cS) (fun (u : va_W) => u = [(q 2, .inr (6, [.ref (q 0), .int 0, .int 0, .int 0, .int (-2), .int 0, .int 1, .int 0]))])) := by
  refine skM_of (by decide) (Nat.le_of_ble_eq_true rfl) ?_
  intro p e s m below meth c A ls E hP hD hl
  obtain ⟨hx, hb, hr, hml, hlocks, hin, hown, hts, hK, hA⟩ := E
  have hown : s.vm.findClass RX6 = some m.cls := hown
  have hS : va_S A s.heap s.heap [] := va_S.rf
  have hl : lv_has ls 1 [(0, .ref (q 2))] := hl
  refine lv_aload_n hx hb dX6_failHere_0 rfl (lv_at hl 0 rfl) ?_
  refine lv_iconst (v := 1) hx hb dX6_failHere_1 (by decide) ?_
  refine lv_aload_n hx hb dX6_failHere_2 rfl (lv_at hl 0 rfl) ?_
  refine sk_get (v := .int 0) (C := RX6) (T := TX6) (N := 8) hx hb hts inlX6 hown hK hP 0 rfl rfl 5 (by decide) w_1_64 rfl dX6_failHere_3 ?_
  refine sk_Vv (q0 := 0) (n := 2) (rest := []) (wr := []) ⟨hx, hb, hml, hown, hts⟩ hl.1 (c_rd_fail_b l D cI cJ cC cZ cS q 1 0) w_3_58 w_3_59 w_3_60 w_1_4 w_3_61 (by decide +kernel) ⟨⟨(Nat.le_of_ble_eq_true rfl), (Nat.le_of_ble_eq_true rfl)⟩, (Nat.le_of_ble_eq_true rfl), (Nat.le_of_ble_eq_true rfl)⟩ hK hP hD hS hA [0] [] rfl rfl (by decide) (by decide) (by decide) rfl rfl rfl rfl (Nat.le_of_ble_eq_true rfl) dX6_failHere_6 (fun u H locs hw hP hD hS => ?_)
  obtain rfl := hw
  have hP : va_P D vwCl [(q 2, .inr (6, [.ref (q 0), .int 0, .int 0, .int 0, .int (-2), .int 0, .int 1, .int 0]))] H := hP
  have hD : va_D A [(q 2, .inr (6, [.ref (q 0), .int 0, .int 0, .int 0, .int (-2), .int 0, .int 1, .int 0]))] := hD
  refine W.widen (k := 0) (n := 0) (Nat.le_of_ble_eq_true rfl) (Nat.le_of_ble_eq_true rfl) ?_
  exact sk_vret hx hb hr hlocks hK hP hD hS rfl (Nat.le_of_ble_eq_true rfl) (Nat.le_of_ble_eq_true rfl) dX6_failHere_9
theorem dX6_needs_0 : decode cX6_needs 0 = .ok (.aload_n 0, 1) := by decide +kernel
theorem dX6_needs_1 : decode cX6_needs 1 = .ok (.getfield 21, 3) := by decide +kernel
theorem dX6_needs_4 : decode cX6_needs 4 = .ok (.iload_n 1, 1) := by decide +kernel
theorem dX6_needs_5 : decode cX6_needs 5 = .ok (.if_icmp .ne 10, 3) := by decide +kernel
theorem dX6_needs_15 : decode cX6_needs 15 = .ok (.aload_n 0, 1) := by decide +kernel
theorem dX6_needs_16 : decode cX6_needs 16 = .ok (.invokevirtual 70, 3) := by decide +kernel
theorem dX6_needs_19 : decode cX6_needs 19 = .ok (.return_, 1) := by decide +kernel
theorem w_3_54 : (Cond.methodLink RX6 70 yX6_failHere) ∈ wsL_law := sk_mem (ck_3 _ (List.mem_of_getElem? (i := 54) rfl)) rfl
theorem w_3_55 : (Cond.instanceMethod yX6_failHere) ∈ wsL_law := sk_mem (ck_3 _ (List.mem_of_getElem? (i := 55) rfl)) rfl
theorem w_3_56 : (Cond.selects RX6 yX6_failHere yX6_failHere) ∈ wsL_law := sk_mem (ck_3 _ (List.mem_of_getElem? (i := 56) rfl)) rfl
theorem w_3_53 : (Cond.code yX6_needs cX6_needs 2 none) ∈ wsL_law := sk_mem (ck_3 _ (List.mem_of_getElem? (i := 53) rfl)) rfl
set_option maxHeartbeats 4000000 in
set_option maxRecDepth 100000 in
theorem c_rd_needs_a (l : Launch) (D : va_G) (cI cJ cC cZ cS : ClassId) (q : Nat → Nat)  : skM l yX6_needs cX6_needs 2 none 2 42 0 0 D (skT cI cJ cC cZ cS) [.ref (q 2), .int 256] [(q 2, .inr (6, [.ref (q 0), .int 0, .int 0, .int 0, .int (-1), .int 0, .int 0, .int (-1)]))] (skV D (skT cI cJ cC cZ cS) (fun (u : va_W) => u = [(q 2, .inr (6, [.ref (q 0), .int 0, .int 0, .int 0, .int (-2), .int 0, .int 1, .int 0]))])) := by
  refine skM_of (by decide) (Nat.le_of_ble_eq_true rfl) ?_
  intro p e s m below meth c A ls E hP hD hl
  obtain ⟨hx, hb, hr, hml, hlocks, hin, hown, hts, hK, hA⟩ := E
  have hown : s.vm.findClass RX6 = some m.cls := hown
  have hS : va_S A s.heap s.heap [] := va_S.rf
  have hl : lv_has ls 2 [(0, .ref (q 2)), (1, .int 256)] := hl
  refine lv_aload_n hx hb dX6_needs_0 rfl (lv_at hl 0 rfl) ?_
  refine sk_get (v := .int (-1)) (C := RX6) (T := TX6) (N := 8) hx hb hts inlX6 hown hK hP 0 rfl rfl 4 (by decide) w_1_60 rfl dX6_needs_1 ?_
  refine lv_iload_n hx hb dX6_needs_4 rfl (lv_at hl 1 rfl) ?_
  refine lv_icmp_ne (tgt := 15) hx hb dX6_needs_5 (by decide) (fun c_1 => ?_) (fun c => absurd c (by decide))
  refine lv_aload_n hx hb dX6_needs_15 rfl (lv_at hl 0 rfl) ?_
  refine sk_Vv (q0 := 0) (n := 0) (rest := []) (wr := []) ⟨hx, hb, hml, hown, hts⟩ hl.1 (c_rd_failHere_a l D cI cJ cC cZ cS q) w_3_54 w_3_55 w_3_56 w_1_4 w_3_57 (by decide +kernel) ⟨⟨(Nat.le_of_ble_eq_true rfl), (Nat.le_of_ble_eq_true rfl)⟩, (Nat.le_of_ble_eq_true rfl), (Nat.le_of_ble_eq_true rfl)⟩ hK hP hD hS hA [0] [] rfl rfl (by decide) (by decide) (by decide) rfl rfl rfl rfl (Nat.le_of_ble_eq_true rfl) dX6_needs_16 (fun u H locs hw hP hD hS => ?_)
  obtain rfl := hw
  have hP : va_P D vwCl [(q 2, .inr (6, [.ref (q 0), .int 0, .int 0, .int 0, .int (-2), .int 0, .int 1, .int 0]))] H := hP
  have hD : va_D A [(q 2, .inr (6, [.ref (q 0), .int 0, .int 0, .int 0, .int (-2), .int 0, .int 1, .int 0]))] := hD
  refine W.widen (k := 0) (n := 0) (Nat.le_of_ble_eq_true rfl) (Nat.le_of_ble_eq_true rfl) ?_
  exact sk_vret hx hb hr hlocks hK hP hD hS rfl (Nat.le_of_ble_eq_true rfl) (Nat.le_of_ble_eq_true rfl) dX6_needs_19
set_option maxHeartbeats 4000000 in
set_option maxRecDepth 100000 in
theorem c_rd_needs_b (l : Launch) (D : va_G) (cI cJ cC cZ cS : ClassId) (q : Nat → Nat) (w : Int32) (hne : ¬ (-2 : Int32) = w) : skM l yX6_needs cX6_needs 2 none 2 42 0 0 D (skT cI cJ cC cZ cS) [.ref (q 2), .int w] [(q 2, .inr (6, [.ref (q 0), .int 0, .int 0, .int 0, .int (-2), .int 0, .int 1, .int 0]))] (skV D (skT cI cJ cC cZ cS) (fun (u : va_W) => u = [(q 2, .inr (6, [.ref (q 0), .int 0, .int 0, .int 0, .int (-2), .int 0, .int 1, .int 0]))])) := by
  refine skM_of (by decide) (Nat.le_of_ble_eq_true rfl) ?_
  intro p e s m below meth c A ls E hP hD hl
  obtain ⟨hx, hb, hr, hml, hlocks, hin, hown, hts, hK, hA⟩ := E
  have hown : s.vm.findClass RX6 = some m.cls := hown
  have hS : va_S A s.heap s.heap [] := va_S.rf
  have hl : lv_has ls 2 [(0, .ref (q 2)), (1, .int w)] := hl
  refine lv_aload_n hx hb dX6_needs_0 rfl (lv_at hl 0 rfl) ?_
  refine sk_get (v := .int (-2)) (C := RX6) (T := TX6) (N := 8) hx hb hts inlX6 hown hK hP 0 rfl rfl 4 (by decide) w_1_60 rfl dX6_needs_1 ?_
  refine lv_iload_n hx hb dX6_needs_4 rfl (lv_at hl 1 rfl) ?_
  refine lv_icmp_ne (tgt := 15) hx hb dX6_needs_5 (by decide) (fun c_1 => ?_) (fun c => absurd c (hne))
  refine lv_aload_n hx hb dX6_needs_15 rfl (lv_at hl 0 rfl) ?_
  refine sk_Vv (q0 := 0) (n := 0) (rest := []) (wr := []) ⟨hx, hb, hml, hown, hts⟩ hl.1 (c_rd_failHere_b l D cI cJ cC cZ cS q) w_3_54 w_3_55 w_3_56 w_1_4 w_3_57 (by decide +kernel) ⟨⟨(Nat.le_of_ble_eq_true rfl), (Nat.le_of_ble_eq_true rfl)⟩, (Nat.le_of_ble_eq_true rfl), (Nat.le_of_ble_eq_true rfl)⟩ hK hP hD hS hA [0] [] rfl rfl (by decide) (by decide) (by decide) rfl rfl rfl rfl (Nat.le_of_ble_eq_true rfl) dX6_needs_16 (fun u H locs hw hP hD hS => ?_)
  obtain rfl := hw
  have hP : va_P D vwCl [(q 2, .inr (6, [.ref (q 0), .int 0, .int 0, .int 0, .int (-2), .int 0, .int 1, .int 0]))] H := hP
  have hD : va_D A [(q 2, .inr (6, [.ref (q 0), .int 0, .int 0, .int 0, .int (-2), .int 0, .int 1, .int 0]))] := hD
  refine W.widen (k := 0) (n := 0) (Nat.le_of_ble_eq_true rfl) (Nat.le_of_ble_eq_true rfl) ?_
  exact sk_vret hx hb hr hlocks hK hP hD hS rfl (Nat.le_of_ble_eq_true rfl) (Nat.le_of_ble_eq_true rfl) dX6_needs_19
theorem dX6_takeNumber_0 : decode cX6_takeNumber 0 = .ok (.aload_n 0, 1) := by decide +kernel
theorem dX6_takeNumber_1 : decode cX6_takeNumber 1 = .ok (.getfield 15, 3) := by decide +kernel
theorem dX6_takeNumber_4 : decode cX6_takeNumber 4 = .ok (.istore_n 3, 1) := by decide +kernel
theorem dX6_takeNumber_5 : decode cX6_takeNumber 5 = .ok (.aload_n 0, 1) := by decide +kernel
theorem dX6_takeNumber_6 : decode cX6_takeNumber 6 = .ok (.getfield 21, 3) := by decide +kernel
theorem dX6_takeNumber_9 : decode cX6_takeNumber 9 = .ok (.bipush (-3), 2) := by decide +kernel
theorem dX6_takeNumber_11 : decode cX6_takeNumber 11 = .ok (.if_icmp .eq 9, 3) := by decide +kernel
theorem dX6_takeNumber_14 : decode cX6_takeNumber 14 = .ok (.aload_n 0, 1) := by decide +kernel
theorem dX6_takeNumber_15 : decode cX6_takeNumber 15 = .ok (.invokevirtual 70, 3) := by decide +kernel
theorem dX6_takeNumber_18 : decode cX6_takeNumber 18 = .ok (.iload_n 1, 1) := by decide +kernel
theorem dX6_takeNumber_19 : decode cX6_takeNumber 19 = .ok (.ireturn, 1) := by decide +kernel
theorem w_3_65 : (Cond.code yX6_takeNumber cX6_takeNumber 4 (some .int)) ∈ wsL_law := sk_mem (ck_3 _ (List.mem_of_getElem? (i := 65) rfl)) rfl
set_option maxHeartbeats 4000000 in
set_option maxRecDepth 100000 in
theorem c_rd_takeNumber_b (l : Launch) (D : va_G) (cI cJ cC cZ cS : ClassId) (q : Nat → Nat) (lo : Int32) (hi : Int32)  : skM l yX6_takeNumber cX6_takeNumber 4 (some .int) 2 42 0 0 D (skT cI cJ cC cZ cS) [.ref (q 2), .int lo, .int hi] [(q 2, .inr (6, [.ref (q 0), .int 0, .int 0, .int 0, .int (-2), .int 0, .int 1, .int 0]))] (skI D (skT cI cJ cC cZ cS) (fun (r : Int32) (u : va_W) => r = lo ∧ u = [(q 2, .inr (6, [.ref (q 0), .int 0, .int 0, .int 0, .int (-2), .int 0, .int 1, .int 0]))])) := by
  refine skM_of (by decide) (Nat.le_of_ble_eq_true rfl) ?_
  intro p e s m below meth c A ls E hP hD hl
  obtain ⟨hx, hb, hr, hml, hlocks, hin, hown, hts, hK, hA⟩ := E
  have hown : s.vm.findClass RX6 = some m.cls := hown
  have hS : va_S A s.heap s.heap [] := va_S.rf
  have hl : lv_has ls 4 [(0, .ref (q 2)), (1, .int lo), (2, .int hi)] := hl
  refine lv_aload_n hx hb dX6_takeNumber_0 rfl (lv_at hl 0 rfl) ?_
  refine sk_get (v := .int 0) (C := RX6) (T := TX6) (N := 8) hx hb hts inlX6 hown hK hP 0 rfl rfl 2 (by decide) w_1_58 rfl dX6_takeNumber_1 ?_
  refine lv_istore_n (lv' := [(3, .int 0), (0, .ref (q 2)), (1, .int lo), (2, .int hi)]) hx hb dX6_takeNumber_4 rfl hl (by decide) rfl (fun ls hl => ?_)
  refine lv_aload_n hx hb dX6_takeNumber_5 rfl (lv_at hl 1 rfl) ?_
  refine sk_get (v := .int (-2)) (C := RX6) (T := TX6) (N := 8) hx hb hts inlX6 hown hK hP 0 rfl rfl 4 (by decide) w_1_60 rfl dX6_takeNumber_6 ?_
  refine lv_bipush (v := (-3)) hx hb dX6_takeNumber_9 (by decide) ?_
  refine lv_icmp_eq (tgt := 20) hx hb dX6_takeNumber_11 (by decide) (fun c => absurd c (by decide)) (fun c_1 => ?_)
  refine lv_aload_n hx hb dX6_takeNumber_14 rfl (lv_at hl 1 rfl) ?_
  refine sk_Vv (q0 := 0) (n := 0) (rest := []) (wr := []) ⟨hx, hb, hml, hown, hts⟩ hl.1 (c_rd_failHere_b l D cI cJ cC cZ cS q) w_3_54 w_3_55 w_3_56 w_1_4 w_3_57 (by decide +kernel) ⟨⟨(Nat.le_of_ble_eq_true rfl), (Nat.le_of_ble_eq_true rfl)⟩, (Nat.le_of_ble_eq_true rfl), (Nat.le_of_ble_eq_true rfl)⟩ hK hP hD hS hA [0] [] rfl rfl (by decide) (by decide) (by decide) rfl rfl rfl rfl (Nat.le_of_ble_eq_true rfl) dX6_takeNumber_15 (fun u H locs hw hP hD hS => ?_)
  obtain rfl := hw
  have hP : va_P D vwCl [(q 2, .inr (6, [.ref (q 0), .int 0, .int 0, .int 0, .int (-2), .int 0, .int 1, .int 0]))] H := hP
  have hD : va_D A [(q 2, .inr (6, [.ref (q 0), .int 0, .int 0, .int 0, .int (-2), .int 0, .int 1, .int 0]))] := hD
  refine W.widen (k := 0) (n := 0) (Nat.le_of_ble_eq_true rfl) (Nat.le_of_ble_eq_true rfl) ?_
  refine lv_iload_n hx hb dX6_takeNumber_18 rfl (lv_at hl 2 rfl) ?_
  exact sk_iret hx hb hr rfl hlocks hK hP hD hS (⟨rfl, rfl⟩) (Nat.le_of_ble_eq_true rfl) (Nat.le_of_ble_eq_true rfl) dX6_takeNumber_19
theorem dX3_readOpening_0 : decode cX3_readOpening 0 = .ok (.aload_n 0, 1) := by decide +kernel
theorem dX3_readOpening_1 : decode cX3_readOpening 1 = .ok (.getfield 9, 3) := by decide +kernel
theorem dX3_readOpening_4 : decode cX3_readOpening 4 = .ok (.sipush 256, 3) := by decide +kernel
theorem dX3_readOpening_7 : decode cX3_readOpening 7 = .ok (.invokevirtual 58, 3) := by decide +kernel
theorem dX3_readOpening_10 : decode cX3_readOpening 10 = .ok (.aload_n 1, 1) := by decide +kernel
theorem dX3_readOpening_11 : decode cX3_readOpening 11 = .ok (.aload_n 0, 1) := by decide +kernel
theorem dX3_readOpening_12 : decode cX3_readOpening 12 = .ok (.getfield 9, 3) := by decide +kernel
theorem dX3_readOpening_15 : decode cX3_readOpening 15 = .ok (.iconst 2, 1) := by decide +kernel
theorem dX3_readOpening_16 : decode cX3_readOpening 16 = .ok (.bipush 9, 2) := by decide +kernel
theorem dX3_readOpening_18 : decode cX3_readOpening 18 = .ok (.invokevirtual 72, 3) := by decide +kernel
theorem dX3_readOpening_21 : decode cX3_readOpening 21 = .ok (.putfield 76, 3) := by decide +kernel
theorem dX3_readOpening_24 : decode cX3_readOpening 24 = .ok (.aload_n 0, 1) := by decide +kernel
theorem dX3_readOpening_25 : decode cX3_readOpening 25 = .ok (.getfield 9, 3) := by decide +kernel
theorem dX3_readOpening_28 : decode cX3_readOpening 28 = .ok (.sipush 257, 3) := by decide +kernel
theorem dX3_readOpening_31 : decode cX3_readOpening 31 = .ok (.invokevirtual 58, 3) := by decide +kernel
theorem dX3_readOpening_34 : decode cX3_readOpening 34 = .ok (.aload_n 1, 1) := by decide +kernel
theorem dX3_readOpening_35 : decode cX3_readOpening 35 = .ok (.aload_n 0, 1) := by decide +kernel
theorem dX3_readOpening_36 : decode cX3_readOpening 36 = .ok (.getfield 9, 3) := by decide +kernel
theorem dX3_readOpening_39 : decode cX3_readOpening 39 = .ok (.iconst 0, 1) := by decide +kernel
theorem dX3_readOpening_40 : decode cX3_readOpening 40 = .ok (.bipush 9, 2) := by decide +kernel
theorem dX3_readOpening_42 : decode cX3_readOpening 42 = .ok (.invokevirtual 72, 3) := by decide +kernel
theorem dX3_readOpening_45 : decode cX3_readOpening 45 = .ok (.putfield 79, 3) := by decide +kernel
theorem dX3_readOpening_48 : decode cX3_readOpening 48 = .ok (.aload_n 0, 1) := by decide +kernel
theorem dX3_readOpening_49 : decode cX3_readOpening 49 = .ok (.getfield 9, 3) := by decide +kernel
theorem dX3_readOpening_52 : decode cX3_readOpening 52 = .ok (.bipush 59, 2) := by decide +kernel
theorem dX3_readOpening_54 : decode cX3_readOpening 54 = .ok (.invokevirtual 58, 3) := by decide +kernel
theorem dX3_readOpening_57 : decode cX3_readOpening 57 = .ok (.aload_n 1, 1) := by decide +kernel
theorem dX3_readOpening_58 : decode cX3_readOpening 58 = .ok (.iconst 1, 1) := by decide +kernel
theorem dX3_readOpening_59 : decode cX3_readOpening 59 = .ok (.putfield 41, 3) := by decide +kernel
theorem dX3_readOpening_62 : decode cX3_readOpening 62 = .ok (.return_, 1) := by decide +kernel
theorem w_3_50 : (Cond.methodLink RX3 58 yX6_needs) ∈ wsL_law := sk_mem (ck_3 _ (List.mem_of_getElem? (i := 50) rfl)) rfl
theorem w_3_51 : (Cond.instanceMethod yX6_needs) ∈ wsL_law := sk_mem (ck_3 _ (List.mem_of_getElem? (i := 51) rfl)) rfl
theorem w_3_52 : (Cond.selects RX6 yX6_needs yX6_needs) ∈ wsL_law := sk_mem (ck_3 _ (List.mem_of_getElem? (i := 52) rfl)) rfl
theorem w_3_62 : (Cond.methodLink RX3 72 yX6_takeNumber) ∈ wsL_law := sk_mem (ck_3 _ (List.mem_of_getElem? (i := 62) rfl)) rfl
theorem w_3_63 : (Cond.instanceMethod yX6_takeNumber) ∈ wsL_law := sk_mem (ck_3 _ (List.mem_of_getElem? (i := 63) rfl)) rfl
theorem w_3_64 : (Cond.selects RX6 yX6_takeNumber yX6_takeNumber) ∈ wsL_law := sk_mem (ck_3 _ (List.mem_of_getElem? (i := 64) rfl)) rfl
theorem w_1_190 : (Cond.fieldLink RX3 76 "SameKeeper$Lock" "days" "I") ∈ wsL_law := sk_mem (ck_1 _ (List.mem_of_getElem? (i := 190) rfl)) rfl
theorem w_1_193 : (Cond.fieldLink RX3 79 "SameKeeper$Lock" "mood" "I") ∈ wsL_law := sk_mem (ck_1 _ (List.mem_of_getElem? (i := 193) rfl)) rfl
theorem w_1_201 : (Cond.fieldLink RX3 41 "SameKeeper$Lock" "statements" "I") ∈ wsL_law := sk_mem (ck_1 _ (List.mem_of_getElem? (i := 201) rfl)) rfl
theorem w_3_49 : (Cond.code yX3_readOpening cX3_readOpening 2 none) ∈ wsL_law := sk_mem (ck_3 _ (List.mem_of_getElem? (i := 49) rfl)) rfl
set_option maxHeartbeats 4000000 in
set_option maxRecDepth 100000 in
theorem c_lt_opening (l : Launch) (D : va_G) (cI cJ cC cZ cS : ClassId) (q : Nat → Nat)  : skM l yX3_readOpening cX3_readOpening 2 none 3 65 0 0 D (skT cI cJ cC cZ cS) [.ref (q 3), .ref (q 6)] [(q 3, .inr (3, [.ref (q 2), .ref (q 22), .ref (q 23)])), (q 2, .inr (6, [.ref (q 0), .int 0, .int 0, .int 0, .int (-1), .int 0, .int 0, .int (-1)])), (q 6, .inr (2, [.ref (q 24), .ref (q 25), .ref (q 26), .ref (q 27), .ref (q 28), .int 0, .int 0, .int 0, .int 0, .int 0]))] (skV D (skT cI cJ cC cZ cS) (fun (u : va_W) => u = [(q 3, .inr (3, [.ref (q 2), .ref (q 22), .ref (q 23)])), (q 2, .inr (6, [.ref (q 0), .int 0, .int 0, .int 0, .int (-2), .int 0, .int 1, .int 0])), (q 6, .inr (2, [.ref (q 24), .ref (q 25), .ref (q 26), .ref (q 27), .ref (q 28), .int 2, .int 0, .int 0, .int 0, .int 1]))])) := by
  refine skM_of (by decide) (Nat.le_of_ble_eq_true rfl) ?_
  intro p e s m below meth c A ls E hP hD hl
  obtain ⟨hx, hb, hr, hml, hlocks, hin, hown, hts, hK, hA⟩ := E
  have hown : s.vm.findClass RX3 = some m.cls := hown
  have hS : va_S A s.heap s.heap [] := va_S.rf
  have hl : lv_has ls 2 [(0, .ref (q 3)), (1, .ref (q 6))] := hl
  refine lv_aload_n hx hb dX3_readOpening_0 rfl (lv_at hl 0 rfl) ?_
  refine sk_get (v := .ref (q 2)) (C := RX3) (T := TX3) (N := 3) hx hb hts inlX3 hown hK hP 0 rfl rfl 0 (by decide) w_1_107 rfl dX3_readOpening_1 ?_
  refine lv_sipush (v := 256) hx hb dX3_readOpening_4 (by decide) ?_
  refine sk_Vv (q0 := 0) (n := 1) (rest := []) (wr := [(q 3, .inr (3, [.ref (q 2), .ref (q 22), .ref (q 23)])), (q 6, .inr (2, [.ref (q 24), .ref (q 25), .ref (q 26), .ref (q 27), .ref (q 28), .int 0, .int 0, .int 0, .int 0, .int 0]))]) ⟨hx, hb, hml, hown, hts⟩ hl.1 (c_rd_needs_a l D cI cJ cC cZ cS q) w_3_50 w_3_51 w_3_52 w_1_4 w_3_53 (by decide +kernel) ⟨⟨(Nat.le_of_ble_eq_true rfl), (Nat.le_of_ble_eq_true rfl)⟩, (Nat.le_of_ble_eq_true rfl), (Nat.le_of_ble_eq_true rfl)⟩ hK hP hD hS hA [1] [0, 2] rfl rfl (by decide) (by decide) (by decide) rfl rfl rfl rfl (Nat.le_of_ble_eq_true rfl) dX3_readOpening_7 (fun u H locs hw hP hD hS => ?_)
  obtain rfl := hw
  have hP : va_P D vwCl [(q 3, .inr (3, [.ref (q 2), .ref (q 22), .ref (q 23)])), (q 6, .inr (2, [.ref (q 24), .ref (q 25), .ref (q 26), .ref (q 27), .ref (q 28), .int 0, .int 0, .int 0, .int 0, .int 0])), (q 2, .inr (6, [.ref (q 0), .int 0, .int 0, .int 0, .int (-2), .int 0, .int 1, .int 0]))] H := hP
  have hD : va_D A [(q 3, .inr (3, [.ref (q 2), .ref (q 22), .ref (q 23)])), (q 6, .inr (2, [.ref (q 24), .ref (q 25), .ref (q 26), .ref (q 27), .ref (q 28), .int 0, .int 0, .int 0, .int 0, .int 0])), (q 2, .inr (6, [.ref (q 0), .int 0, .int 0, .int 0, .int (-2), .int 0, .int 1, .int 0]))] := hD
  refine W.widen (k := 0) (n := 0) (Nat.le_of_ble_eq_true rfl) (Nat.le_of_ble_eq_true rfl) ?_
  refine lv_aload_n hx hb dX3_readOpening_10 rfl (lv_at hl 1 rfl) ?_
  refine lv_aload_n hx hb dX3_readOpening_11 rfl (lv_at hl 0 rfl) ?_
  refine sk_get (v := .ref (q 2)) (C := RX3) (T := TX3) (N := 3) hx hb hts inlX3 hown hK hP 0 rfl rfl 0 (by decide) w_1_107 rfl dX3_readOpening_12 ?_
  refine lv_iconst (v := 2) hx hb dX3_readOpening_15 (by decide) ?_
  refine lv_bipush (v := 9) hx hb dX3_readOpening_16 (by decide) ?_
  refine sk_Vi (q0 := 0) (n := 2) (rest := [.ref (q 6)]) (wr := [(q 3, .inr (3, [.ref (q 2), .ref (q 22), .ref (q 23)])), (q 6, .inr (2, [.ref (q 24), .ref (q 25), .ref (q 26), .ref (q 27), .ref (q 28), .int 0, .int 0, .int 0, .int 0, .int 0]))]) ⟨hx, hb, hml, hown, hts⟩ hl.1 (c_rd_takeNumber_b l D cI cJ cC cZ cS q 2 9) w_3_62 w_3_63 w_3_64 w_1_4 w_3_65 (by decide +kernel) ⟨⟨(Nat.le_of_ble_eq_true rfl), (Nat.le_of_ble_eq_true rfl)⟩, (Nat.le_of_ble_eq_true rfl), (Nat.le_of_ble_eq_true rfl)⟩ hK hP hD hS hA [2] [0, 1] rfl rfl (by decide) (by decide) (by decide) rfl rfl rfl rfl (Nat.le_of_ble_eq_true rfl) dX3_readOpening_18 (fun r_1 u H locs hw hP hD hS => ?_)
  obtain ⟨rfl, rfl⟩ := hw
  have hP : va_P D vwCl [(q 3, .inr (3, [.ref (q 2), .ref (q 22), .ref (q 23)])), (q 6, .inr (2, [.ref (q 24), .ref (q 25), .ref (q 26), .ref (q 27), .ref (q 28), .int 0, .int 0, .int 0, .int 0, .int 0])), (q 2, .inr (6, [.ref (q 0), .int 0, .int 0, .int 0, .int (-2), .int 0, .int 1, .int 0]))] H := hP
  have hD : va_D A [(q 3, .inr (3, [.ref (q 2), .ref (q 22), .ref (q 23)])), (q 6, .inr (2, [.ref (q 24), .ref (q 25), .ref (q 26), .ref (q 27), .ref (q 28), .int 0, .int 0, .int 0, .int 0, .int 0])), (q 2, .inr (6, [.ref (q 0), .int 0, .int 0, .int 0, .int (-2), .int 0, .int 1, .int 0]))] := hD
  refine W.widen (k := 0) (n := 0) (Nat.le_of_ble_eq_true rfl) (Nat.le_of_ble_eq_true rfl) ?_
  refine sk_top 2 rfl ?_
  refine sk_put (ws' := [(q 3, .inr (3, [.ref (q 2), .ref (q 22), .ref (q 23)])), (q 6, .inr (2, [.ref (q 24), .ref (q 25), .ref (q 26), .ref (q 27), .ref (q 28), .int 2, .int 0, .int 0, .int 0, .int 0])), (q 2, .inr (6, [.ref (q 0), .int 0, .int 0, .int 0, .int (-2), .int 0, .int 1, .int 0]))]) (C := RX2) (T := TX2) (N := 10) (v := .int 2) hx hb hts inlX2 tyX2 tyX2_ok nmX2 hown hK hP hD hS 1 rfl rfl 5 (by decide) w_1_190 rfl rfl rfl (Nat.le_of_ble_eq_true rfl) rfl dX3_readOpening_21 (fun H locs hP hD hS => ?_)
  refine lv_aload_n hx hb dX3_readOpening_24 rfl (lv_at hl 0 rfl) ?_
  refine sk_get (v := .ref (q 2)) (C := RX3) (T := TX3) (N := 3) hx hb hts inlX3 hown hK hP 0 rfl rfl 0 (by decide) w_1_107 rfl dX3_readOpening_25 ?_
  refine lv_sipush (v := 257) hx hb dX3_readOpening_28 (by decide) ?_
  refine sk_Vv (q0 := 0) (n := 1) (rest := []) (wr := [(q 3, .inr (3, [.ref (q 2), .ref (q 22), .ref (q 23)])), (q 6, .inr (2, [.ref (q 24), .ref (q 25), .ref (q 26), .ref (q 27), .ref (q 28), .int 2, .int 0, .int 0, .int 0, .int 0]))]) ⟨hx, hb, hml, hown, hts⟩ hl.1 (c_rd_needs_b l D cI cJ cC cZ cS q 257 (by decide)) w_3_50 w_3_51 w_3_52 w_1_4 w_3_53 (by decide +kernel) ⟨⟨(Nat.le_of_ble_eq_true rfl), (Nat.le_of_ble_eq_true rfl)⟩, (Nat.le_of_ble_eq_true rfl), (Nat.le_of_ble_eq_true rfl)⟩ hK hP hD hS hA [2] [0, 1] rfl rfl (by decide) (by decide) (by decide) rfl rfl rfl rfl (Nat.le_of_ble_eq_true rfl) dX3_readOpening_31 (fun u H locs hw hP hD hS => ?_)
  obtain rfl := hw
  have hP : va_P D vwCl [(q 3, .inr (3, [.ref (q 2), .ref (q 22), .ref (q 23)])), (q 6, .inr (2, [.ref (q 24), .ref (q 25), .ref (q 26), .ref (q 27), .ref (q 28), .int 2, .int 0, .int 0, .int 0, .int 0])), (q 2, .inr (6, [.ref (q 0), .int 0, .int 0, .int 0, .int (-2), .int 0, .int 1, .int 0]))] H := hP
  have hD : va_D A [(q 3, .inr (3, [.ref (q 2), .ref (q 22), .ref (q 23)])), (q 6, .inr (2, [.ref (q 24), .ref (q 25), .ref (q 26), .ref (q 27), .ref (q 28), .int 2, .int 0, .int 0, .int 0, .int 0])), (q 2, .inr (6, [.ref (q 0), .int 0, .int 0, .int 0, .int (-2), .int 0, .int 1, .int 0]))] := hD
  refine W.widen (k := 0) (n := 0) (Nat.le_of_ble_eq_true rfl) (Nat.le_of_ble_eq_true rfl) ?_
  refine lv_aload_n hx hb dX3_readOpening_34 rfl (lv_at hl 1 rfl) ?_
  refine lv_aload_n hx hb dX3_readOpening_35 rfl (lv_at hl 0 rfl) ?_
  refine sk_get (v := .ref (q 2)) (C := RX3) (T := TX3) (N := 3) hx hb hts inlX3 hown hK hP 0 rfl rfl 0 (by decide) w_1_107 rfl dX3_readOpening_36 ?_
  refine lv_iconst (v := 0) hx hb dX3_readOpening_39 (by decide) ?_
  refine lv_bipush (v := 9) hx hb dX3_readOpening_40 (by decide) ?_
  refine sk_Vi (q0 := 0) (n := 2) (rest := [.ref (q 6)]) (wr := [(q 3, .inr (3, [.ref (q 2), .ref (q 22), .ref (q 23)])), (q 6, .inr (2, [.ref (q 24), .ref (q 25), .ref (q 26), .ref (q 27), .ref (q 28), .int 2, .int 0, .int 0, .int 0, .int 0]))]) ⟨hx, hb, hml, hown, hts⟩ hl.1 (c_rd_takeNumber_b l D cI cJ cC cZ cS q 0 9) w_3_62 w_3_63 w_3_64 w_1_4 w_3_65 (by decide +kernel) ⟨⟨(Nat.le_of_ble_eq_true rfl), (Nat.le_of_ble_eq_true rfl)⟩, (Nat.le_of_ble_eq_true rfl), (Nat.le_of_ble_eq_true rfl)⟩ hK hP hD hS hA [2] [0, 1] rfl rfl (by decide) (by decide) (by decide) rfl rfl rfl rfl (Nat.le_of_ble_eq_true rfl) dX3_readOpening_42 (fun r_2 u H locs hw hP hD hS => ?_)
  obtain ⟨rfl, rfl⟩ := hw
  have hP : va_P D vwCl [(q 3, .inr (3, [.ref (q 2), .ref (q 22), .ref (q 23)])), (q 6, .inr (2, [.ref (q 24), .ref (q 25), .ref (q 26), .ref (q 27), .ref (q 28), .int 2, .int 0, .int 0, .int 0, .int 0])), (q 2, .inr (6, [.ref (q 0), .int 0, .int 0, .int 0, .int (-2), .int 0, .int 1, .int 0]))] H := hP
  have hD : va_D A [(q 3, .inr (3, [.ref (q 2), .ref (q 22), .ref (q 23)])), (q 6, .inr (2, [.ref (q 24), .ref (q 25), .ref (q 26), .ref (q 27), .ref (q 28), .int 2, .int 0, .int 0, .int 0, .int 0])), (q 2, .inr (6, [.ref (q 0), .int 0, .int 0, .int 0, .int (-2), .int 0, .int 1, .int 0]))] := hD
  refine W.widen (k := 0) (n := 0) (Nat.le_of_ble_eq_true rfl) (Nat.le_of_ble_eq_true rfl) ?_
  refine sk_top 0 rfl ?_
  refine sk_put (ws' := [(q 3, .inr (3, [.ref (q 2), .ref (q 22), .ref (q 23)])), (q 6, .inr (2, [.ref (q 24), .ref (q 25), .ref (q 26), .ref (q 27), .ref (q 28), .int 2, .int 0, .int 0, .int 0, .int 0])), (q 2, .inr (6, [.ref (q 0), .int 0, .int 0, .int 0, .int (-2), .int 0, .int 1, .int 0]))]) (C := RX2) (T := TX2) (N := 10) (v := .int 0) hx hb hts inlX2 tyX2 tyX2_ok nmX2 hown hK hP hD hS 1 rfl rfl 6 (by decide) w_1_193 rfl rfl rfl (Nat.le_of_ble_eq_true rfl) rfl dX3_readOpening_45 (fun H locs hP hD hS => ?_)
  refine lv_aload_n hx hb dX3_readOpening_48 rfl (lv_at hl 0 rfl) ?_
  refine sk_get (v := .ref (q 2)) (C := RX3) (T := TX3) (N := 3) hx hb hts inlX3 hown hK hP 0 rfl rfl 0 (by decide) w_1_107 rfl dX3_readOpening_49 ?_
  refine lv_bipush (v := 59) hx hb dX3_readOpening_52 (by decide) ?_
  refine sk_Vv (q0 := 0) (n := 1) (rest := []) (wr := [(q 3, .inr (3, [.ref (q 2), .ref (q 22), .ref (q 23)])), (q 6, .inr (2, [.ref (q 24), .ref (q 25), .ref (q 26), .ref (q 27), .ref (q 28), .int 2, .int 0, .int 0, .int 0, .int 0]))]) ⟨hx, hb, hml, hown, hts⟩ hl.1 (c_rd_needs_b l D cI cJ cC cZ cS q 59 (by decide)) w_3_50 w_3_51 w_3_52 w_1_4 w_3_53 (by decide +kernel) ⟨⟨(Nat.le_of_ble_eq_true rfl), (Nat.le_of_ble_eq_true rfl)⟩, (Nat.le_of_ble_eq_true rfl), (Nat.le_of_ble_eq_true rfl)⟩ hK hP hD hS hA [2] [0, 1] rfl rfl (by decide) (by decide) (by decide) rfl rfl rfl rfl (Nat.le_of_ble_eq_true rfl) dX3_readOpening_54 (fun u H locs hw hP hD hS => ?_)
  obtain rfl := hw
  have hP : va_P D vwCl [(q 3, .inr (3, [.ref (q 2), .ref (q 22), .ref (q 23)])), (q 6, .inr (2, [.ref (q 24), .ref (q 25), .ref (q 26), .ref (q 27), .ref (q 28), .int 2, .int 0, .int 0, .int 0, .int 0])), (q 2, .inr (6, [.ref (q 0), .int 0, .int 0, .int 0, .int (-2), .int 0, .int 1, .int 0]))] H := hP
  have hD : va_D A [(q 3, .inr (3, [.ref (q 2), .ref (q 22), .ref (q 23)])), (q 6, .inr (2, [.ref (q 24), .ref (q 25), .ref (q 26), .ref (q 27), .ref (q 28), .int 2, .int 0, .int 0, .int 0, .int 0])), (q 2, .inr (6, [.ref (q 0), .int 0, .int 0, .int 0, .int (-2), .int 0, .int 1, .int 0]))] := hD
  refine W.widen (k := 0) (n := 0) (Nat.le_of_ble_eq_true rfl) (Nat.le_of_ble_eq_true rfl) ?_
  refine lv_aload_n hx hb dX3_readOpening_57 rfl (lv_at hl 1 rfl) ?_
  refine lv_iconst (v := 1) hx hb dX3_readOpening_58 (by decide) ?_
  refine sk_put (ws' := [(q 3, .inr (3, [.ref (q 2), .ref (q 22), .ref (q 23)])), (q 6, .inr (2, [.ref (q 24), .ref (q 25), .ref (q 26), .ref (q 27), .ref (q 28), .int 2, .int 0, .int 0, .int 0, .int 1])), (q 2, .inr (6, [.ref (q 0), .int 0, .int 0, .int 0, .int (-2), .int 0, .int 1, .int 0]))]) (C := RX2) (T := TX2) (N := 10) (v := .int 1) hx hb hts inlX2 tyX2 tyX2_ok nmX2 hown hK hP hD hS 1 rfl rfl 9 (by decide) w_1_201 rfl rfl rfl (Nat.le_of_ble_eq_true rfl) rfl dX3_readOpening_59 (fun H locs hP hD hS => ?_)
  have hP := hP.sub (ws' := [(q 3, .inr (3, [.ref (q 2), .ref (q 22), .ref (q 23)])), (q 2, .inr (6, [.ref (q 0), .int 0, .int 0, .int 0, .int (-2), .int 0, .int 1, .int 0])), (q 6, .inr (2, [.ref (q 24), .ref (q 25), .ref (q 26), .ref (q 27), .ref (q 28), .int 2, .int 0, .int 0, .int 0, .int 1]))]) [0, 2, 1] rfl
  have hD := hD.sub (ws' := [(q 3, .inr (3, [.ref (q 2), .ref (q 22), .ref (q 23)])), (q 2, .inr (6, [.ref (q 0), .int 0, .int 0, .int 0, .int (-2), .int 0, .int 1, .int 0])), (q 6, .inr (2, [.ref (q 24), .ref (q 25), .ref (q 26), .ref (q 27), .ref (q 28), .int 2, .int 0, .int 0, .int 0, .int 1]))]) [0, 2, 1] (by decide) rfl
  exact sk_vret hx hb hr hlocks hK hP hD hS rfl (Nat.le_of_ble_eq_true rfl) (Nat.le_of_ble_eq_true rfl) dX3_readOpening_62
theorem dX2_hasSum_0 : decode cX2_hasSum 0 = .ok (.aload_n 0, 1) := by decide +kernel
theorem dX2_hasSum_1 : decode cX2_hasSum 1 = .ok (.getfield 28, 3) := by decide +kernel
theorem dX2_hasSum_4 : decode cX2_hasSum 4 = .ok (.iload_n 1, 1) := by decide +kernel
theorem dX2_hasSum_5 : decode cX2_hasSum 5 = .ok (.iaload, 1) := by decide +kernel
theorem dX2_hasSum_6 : decode cX2_hasSum 6 = .ok (.aload_n 0, 1) := by decide +kernel
theorem dX2_hasSum_7 : decode cX2_hasSum 7 = .ok (.getfield 25, 3) := by decide +kernel
theorem dX2_hasSum_10 : decode cX2_hasSum 10 = .ok (.iload_n 1, 1) := by decide +kernel
theorem dX2_hasSum_11 : decode cX2_hasSum 11 = .ok (.iaload, 1) := by decide +kernel
theorem dX2_hasSum_12 : decode cX2_hasSum 12 = .ok (.if_icmp .le 7, 3) := by decide +kernel
theorem dX2_hasSum_19 : decode cX2_hasSum 19 = .ok (.iconst 0, 1) := by decide +kernel
theorem dX2_hasSum_20 : decode cX2_hasSum 20 = .ok (.ireturn, 1) := by decide +kernel
theorem w_3_73 : (Cond.code yX2_hasSum cX2_hasSum 2 (some .boolean)) ∈ wsL_law := sk_mem (ck_3 _ (List.mem_of_getElem? (i := 73) rfl)) rfl
set_option maxHeartbeats 4000000 in
set_option maxRecDepth 100000 in
theorem c_lk_hasSum (l : Launch) (D : va_G) (cI cJ cC cZ cS : ClassId) (q : Nat → Nat) (ff : Nat → Int32) (ft : Nat → Int32) (w : Int32) (hv : vp_in w 3) (hle : ft w.toNatClampNeg ≤ ff w.toNatClampNeg) : skM l yX2_hasSum cX2_hasSum 2 (some .boolean) 0 0 0 0 D (skT cI cJ cC cZ cS) [.ref (q 6), .int w] [(q 6, .inr (2, [.ref (q 24), .ref (q 25), .ref (q 26), .ref (q 27), .ref (q 28), .int 2, .int 0, .int 0, .int 0, .int 1])), (q 27, .inl (cI, 3, .inl ff)), (q 28, .inl (cI, 3, .inl ft))] (skI D (skT cI cJ cC cZ cS) (fun (r : Int32) (u : va_W) => r = 0 ∧ u = [(q 6, .inr (2, [.ref (q 24), .ref (q 25), .ref (q 26), .ref (q 27), .ref (q 28), .int 2, .int 0, .int 0, .int 0, .int 1])), (q 27, .inl (cI, 3, .inl ff)), (q 28, .inl (cI, 3, .inl ft))])) := by
  refine skM_of (by decide) (Nat.le_of_ble_eq_true rfl) ?_
  intro p e s m below meth c A ls E hP hD hl
  obtain ⟨hx, hb, hr, hml, hlocks, hin, hown, hts, hK, hA⟩ := E
  have hown : s.vm.findClass RX2 = some m.cls := hown
  have hS : va_S A s.heap s.heap [] := va_S.rf
  have hl : lv_has ls 2 [(0, .ref (q 6)), (1, .int w)] := hl
  refine lv_aload_n hx hb dX2_hasSum_0 rfl (lv_at hl 0 rfl) ?_
  refine sk_get (v := .ref (q 28)) (C := RX2) (T := TX2) (N := 10) hx hb hts inlX2 hown hK hP 0 rfl rfl 4 (by decide) w_1_186 rfl dX2_hasSum_1 ?_
  refine lv_iload_n hx hb dX2_hasSum_4 rfl (lv_at hl 1 rfl) ?_
  refine va_iald hx hb hK.1 hP 2 0 rfl rfl hv dX2_hasSum_5 ?_
  refine lv_topi (fun v_1 ev_1 => ?_)
  refine lv_aload_n hx hb dX2_hasSum_6 rfl (lv_at hl 0 rfl) ?_
  refine sk_get (v := .ref (q 27)) (C := RX2) (T := TX2) (N := 10) hx hb hts inlX2 hown hK hP 0 rfl rfl 3 (by decide) w_1_184 rfl dX2_hasSum_7 ?_
  refine lv_iload_n hx hb dX2_hasSum_10 rfl (lv_at hl 1 rfl) ?_
  refine va_iald hx hb hK.1 hP 1 0 rfl rfl hv dX2_hasSum_11 ?_
  refine lv_topi (fun v_2 ev_2 => ?_)
  refine lv_icmp_le (tgt := 19) hx hb dX2_hasSum_12 (by decide) (fun c_3 => ?_) (fun c => absurd (by rw [ev_1, ev_2]; exact hle) c)
  refine lv_iconst (v := 0) hx hb dX2_hasSum_19 (by decide) ?_
  exact sk_iret hx hb hr rfl hlocks hK hP hD hS (⟨rfl, rfl⟩) (Nat.le_of_ble_eq_true rfl) (Nat.le_of_ble_eq_true rfl) dX2_hasSum_20
theorem dX2_beginSum_0 : decode cX2_beginSum 0 = .ok (.aload_n 0, 1) := by decide +kernel
theorem dX2_beginSum_1 : decode cX2_beginSum 1 = .ok (.getfield 25, 3) := by decide +kernel
theorem dX2_beginSum_4 : decode cX2_beginSum 4 = .ok (.iload_n 1, 1) := by decide +kernel
theorem dX2_beginSum_5 : decode cX2_beginSum 5 = .ok (.aload_n 0, 1) := by decide +kernel
theorem dX2_beginSum_6 : decode cX2_beginSum 6 = .ok (.getfield 12, 3) := by decide +kernel
theorem dX2_beginSum_9 : decode cX2_beginSum 9 = .ok (.getfield 56, 3) := by decide +kernel
theorem dX2_beginSum_12 : decode cX2_beginSum 12 = .ok (.iastore, 1) := by decide +kernel
theorem dX2_beginSum_13 : decode cX2_beginSum 13 = .ok (.return_, 1) := by decide +kernel
theorem w_1_134 : (Cond.fieldLink RX2 56 "SameKeeper$Code" "length" "I") ∈ wsL_law := sk_mem (ck_1 _ (List.mem_of_getElem? (i := 134) rfl)) rfl
theorem w_3_79 : (Cond.code yX2_beginSum cX2_beginSum 2 none) ∈ wsL_law := sk_mem (ck_3 _ (List.mem_of_getElem? (i := 79) rfl)) rfl
set_option maxHeartbeats 4000000 in
set_option maxRecDepth 100000 in
theorem c_lk_begin (l : Launch) (D : va_G) (cI cJ cC cZ cS : ClassId) (q : Nat → Nat) (ff : Nat → Int32) (w : Int32) (ln : Int32) (hv : vp_in w 3) : skM l yX2_beginSum cX2_beginSum 2 none 0 0 0 0 D (skT cI cJ cC cZ cS) [.ref (q 6), .int w] [(q 6, .inr (2, [.ref (q 24), .ref (q 25), .ref (q 26), .ref (q 27), .ref (q 28), .int 2, .int 0, .int 0, .int 0, .int 1])), (q 24, .inr (0, [.ref (q 29), .ref (q 30), .ref (q 31), .ref (q 32), .int ln, .int 0])), (q 27, .inl (cI, 3, .inl ff))] (skV D (skT cI cJ cC cZ cS) (fun (u : va_W) => u = [(q 6, .inr (2, [.ref (q 24), .ref (q 25), .ref (q 26), .ref (q 27), .ref (q 28), .int 2, .int 0, .int 0, .int 0, .int 1])), (q 24, .inr (0, [.ref (q 29), .ref (q 30), .ref (q 31), .ref (q 32), .int ln, .int 0])), (q 27, .inl (cI, 3, .inl (upd ff (Int32.toNatClampNeg w) ln)))])) := by
  refine skM_of (by decide) (Nat.le_of_ble_eq_true rfl) ?_
  intro p e s m below meth c A ls E hP hD hl
  obtain ⟨hx, hb, hr, hml, hlocks, hin, hown, hts, hK, hA⟩ := E
  have hown : s.vm.findClass RX2 = some m.cls := hown
  have hS : va_S A s.heap s.heap [] := va_S.rf
  have hl : lv_has ls 2 [(0, .ref (q 6)), (1, .int w)] := hl
  refine lv_aload_n hx hb dX2_beginSum_0 rfl (lv_at hl 0 rfl) ?_
  refine sk_get (v := .ref (q 27)) (C := RX2) (T := TX2) (N := 10) hx hb hts inlX2 hown hK hP 0 rfl rfl 3 (by decide) w_1_184 rfl dX2_beginSum_1 ?_
  refine lv_iload_n hx hb dX2_beginSum_4 rfl (lv_at hl 1 rfl) ?_
  refine lv_aload_n hx hb dX2_beginSum_5 rfl (lv_at hl 0 rfl) ?_
  refine sk_get (v := .ref (q 24)) (C := RX2) (T := TX2) (N := 10) hx hb hts inlX2 hown hK hP 0 rfl rfl 0 (by decide) w_1_175 rfl dX2_beginSum_6 ?_
  refine sk_get (v := .int ln) (C := RX0) (T := TX0) (N := 6) hx hb hts inlX0 hown hK hP 1 rfl rfl 4 (by decide) w_1_134 rfl dX2_beginSum_9 ?_
  refine sk_iast (ws' := [(q 6, .inr (2, [.ref (q 24), .ref (q 25), .ref (q 26), .ref (q 27), .ref (q 28), .int 2, .int 0, .int 0, .int 0, .int 1])), (q 24, .inr (0, [.ref (q 29), .ref (q 30), .ref (q 31), .ref (q 32), .int ln, .int 0])), (q 27, .inl (cI, 3, .inl (upd ff (Int32.toNatClampNeg w) ln)))]) hx hb hK hP hD hS 2 0 rfl rfl hv rfl dX2_beginSum_12 (fun H locs hP hD hS => ?_)
  exact sk_vret hx hb hr hlocks hK hP hD hS rfl (Nat.le_of_ble_eq_true rfl) (Nat.le_of_ble_eq_true rfl) dX2_beginSum_13
theorem dX2_endSum_0 : decode cX2_endSum 0 = .ok (.aload_n 0, 1) := by decide +kernel
theorem dX2_endSum_1 : decode cX2_endSum 1 = .ok (.getfield 28, 3) := by decide +kernel
theorem dX2_endSum_4 : decode cX2_endSum 4 = .ok (.iload_n 1, 1) := by decide +kernel
theorem dX2_endSum_5 : decode cX2_endSum 5 = .ok (.aload_n 0, 1) := by decide +kernel
theorem dX2_endSum_6 : decode cX2_endSum 6 = .ok (.getfield 12, 3) := by decide +kernel
theorem dX2_endSum_9 : decode cX2_endSum 9 = .ok (.getfield 56, 3) := by decide +kernel
theorem dX2_endSum_12 : decode cX2_endSum 12 = .ok (.iastore, 1) := by decide +kernel
theorem dX2_endSum_13 : decode cX2_endSum 13 = .ok (.return_, 1) := by decide +kernel
theorem w_3_126 : (Cond.code yX2_endSum cX2_endSum 2 none) ∈ wsL_law := sk_mem (ck_3 _ (List.mem_of_getElem? (i := 126) rfl)) rfl
set_option maxHeartbeats 4000000 in
set_option maxRecDepth 100000 in
theorem c_lk_end (l : Launch) (D : va_G) (cI cJ cC cZ cS : ClassId) (q : Nat → Nat) (ft : Nat → Int32) (w : Int32) (ln : Int32) (hv : vp_in w 3) : skM l yX2_endSum cX2_endSum 2 none 0 0 0 0 D (skT cI cJ cC cZ cS) [.ref (q 6), .int w] [(q 6, .inr (2, [.ref (q 24), .ref (q 25), .ref (q 26), .ref (q 27), .ref (q 28), .int 2, .int 0, .int 0, .int 0, .int 1])), (q 24, .inr (0, [.ref (q 29), .ref (q 30), .ref (q 31), .ref (q 32), .int ln, .int 0])), (q 28, .inl (cI, 3, .inl ft))] (skV D (skT cI cJ cC cZ cS) (fun (u : va_W) => u = [(q 6, .inr (2, [.ref (q 24), .ref (q 25), .ref (q 26), .ref (q 27), .ref (q 28), .int 2, .int 0, .int 0, .int 0, .int 1])), (q 24, .inr (0, [.ref (q 29), .ref (q 30), .ref (q 31), .ref (q 32), .int ln, .int 0])), (q 28, .inl (cI, 3, .inl (upd ft (Int32.toNatClampNeg w) ln)))])) := by
  refine skM_of (by decide) (Nat.le_of_ble_eq_true rfl) ?_
  intro p e s m below meth c A ls E hP hD hl
  obtain ⟨hx, hb, hr, hml, hlocks, hin, hown, hts, hK, hA⟩ := E
  have hown : s.vm.findClass RX2 = some m.cls := hown
  have hS : va_S A s.heap s.heap [] := va_S.rf
  have hl : lv_has ls 2 [(0, .ref (q 6)), (1, .int w)] := hl
  refine lv_aload_n hx hb dX2_endSum_0 rfl (lv_at hl 0 rfl) ?_
  refine sk_get (v := .ref (q 28)) (C := RX2) (T := TX2) (N := 10) hx hb hts inlX2 hown hK hP 0 rfl rfl 4 (by decide) w_1_186 rfl dX2_endSum_1 ?_
  refine lv_iload_n hx hb dX2_endSum_4 rfl (lv_at hl 1 rfl) ?_
  refine lv_aload_n hx hb dX2_endSum_5 rfl (lv_at hl 0 rfl) ?_
  refine sk_get (v := .ref (q 24)) (C := RX2) (T := TX2) (N := 10) hx hb hts inlX2 hown hK hP 0 rfl rfl 0 (by decide) w_1_175 rfl dX2_endSum_6 ?_
  refine sk_get (v := .int ln) (C := RX0) (T := TX0) (N := 6) hx hb hts inlX0 hown hK hP 1 rfl rfl 4 (by decide) w_1_134 rfl dX2_endSum_9 ?_
  refine sk_iast (ws' := [(q 6, .inr (2, [.ref (q 24), .ref (q 25), .ref (q 26), .ref (q 27), .ref (q 28), .int 2, .int 0, .int 0, .int 0, .int 1])), (q 24, .inr (0, [.ref (q 29), .ref (q 30), .ref (q 31), .ref (q 32), .int ln, .int 0])), (q 28, .inl (cI, 3, .inl (upd ft (Int32.toNatClampNeg w) ln)))]) hx hb hK hP hD hS 2 0 rfl rfl hv rfl dX2_endSum_12 (fun H locs hP hD hS => ?_)
  exact sk_vret hx hb hr hlocks hK hP hD hS rfl (Nat.le_of_ble_eq_true rfl) (Nat.le_of_ble_eq_true rfl) dX2_endSum_13
theorem dX0_add_0 : decode cX0_add 0 = .ok (.aload_n 0, 1) := by decide +kernel
theorem dX0_add_1 : decode cX0_add 1 = .ok (.getfield 27, 3) := by decide +kernel
theorem dX0_add_4 : decode cX0_add 4 = .ok (.aload_n 0, 1) := by decide +kernel
theorem dX0_add_5 : decode cX0_add 5 = .ok (.getfield 11, 3) := by decide +kernel
theorem dX0_add_8 : decode cX0_add 8 = .ok (.arraylength, 1) := by decide +kernel
theorem dX0_add_9 : decode cX0_add 9 = .ok (.if_icmp .ge 23, 3) := by decide +kernel
theorem dX0_add_12 : decode cX0_add 12 = .ok (.aload_n 0, 1) := by decide +kernel
theorem dX0_add_13 : decode cX0_add 13 = .ok (.getfield 11, 3) := by decide +kernel
theorem dX0_add_16 : decode cX0_add 16 = .ok (.aload_n 0, 1) := by decide +kernel
theorem dX0_add_17 : decode cX0_add 17 = .ok (.getfield 27, 3) := by decide +kernel
theorem dX0_add_20 : decode cX0_add 20 = .ok (.iload_n 1, 1) := by decide +kernel
theorem dX0_add_21 : decode cX0_add 21 = .ok (.iastore, 1) := by decide +kernel
theorem dX0_add_22 : decode cX0_add 22 = .ok (.aload_n 0, 1) := by decide +kernel
theorem dX0_add_23 : decode cX0_add 23 = .ok (.dup, 1) := by decide +kernel
theorem dX0_add_24 : decode cX0_add 24 = .ok (.getfield 27, 3) := by decide +kernel
theorem dX0_add_27 : decode cX0_add 27 = .ok (.iconst 1, 1) := by decide +kernel
theorem dX0_add_28 : decode cX0_add 28 = .ok (.iadd, 1) := by decide +kernel
theorem dX0_add_29 : decode cX0_add 29 = .ok (.putfield 27, 3) := by decide +kernel
theorem dX0_add_32 : decode cX0_add 32 = .ok (.aload_n 0, 1) := by decide +kernel
theorem dX0_add_33 : decode cX0_add 33 = .ok (.dup, 1) := by decide +kernel
theorem dX0_add_34 : decode cX0_add 34 = .ok (.getfield 31, 3) := by decide +kernel
theorem dX0_add_37 : decode cX0_add 37 = .ok (.iload_n 1, 1) := by decide +kernel
theorem dX0_add_38 : decode cX0_add 38 = .ok (.sipush 10004, 3) := by decide +kernel
theorem dX0_add_41 : decode cX0_add 41 = .ok (.if_icmp .ne 7, 3) := by decide +kernel
theorem dX0_add_48 : decode cX0_add 48 = .ok (.iconst 0, 1) := by decide +kernel
theorem dX0_add_49 : decode cX0_add 49 = .ok (.ior, 1) := by decide +kernel
theorem dX0_add_50 : decode cX0_add 50 = .ok (.putfield 31, 3) := by decide +kernel
theorem dX0_add_53 : decode cX0_add 53 = .ok (.return_, 1) := by decide +kernel
theorem w_3_100 : (Cond.code yX0_add cX0_add 2 none) ∈ wsL_law := sk_mem (ck_3 _ (List.mem_of_getElem? (i := 100) rfl)) rfl
set_option maxHeartbeats 4000000 in
set_option maxRecDepth 100000 in
theorem c_code_add (l : Launch) (D : va_G) (cI cJ cC cZ cS : ClassId) (q : Nat → Nat) (ln : Int32) (o : Int32) (f : Nat → Int32) (hl1 : ¬ (1600 : Int32) ≤ ln) (hv1 : vp_in ln 1600) (hno : ¬ o = 10004) : skM l yX0_add cX0_add 2 none 0 0 0 0 D (skT cI cJ cC cZ cS) [.ref (q 24), .int o] [(q 24, .inr (0, [.ref (q 29), .ref (q 30), .ref (q 31), .ref (q 32), .int ln, .int 0])), (q 29, .inl (cI, 1600, .inl f))] (skV D (skT cI cJ cC cZ cS) (fun (u : va_W) => ∃ (f2 : Nat → Int32), u = [(q 24, .inr (0, [.ref (q 29), .ref (q 30), .ref (q 31), .ref (q 32), .int (ln + 1), .int 0])), (q 29, .inl (cI, 1600, .inl f2))])) := by
  refine skM_of (by decide) (Nat.le_of_ble_eq_true rfl) ?_
  intro p e s m below meth c A ls E hP hD hl
  obtain ⟨hx, hb, hr, hml, hlocks, hin, hown, hts, hK, hA⟩ := E
  have hown : s.vm.findClass RX0 = some m.cls := hown
  have hS : va_S A s.heap s.heap [] := va_S.rf
  have hl : lv_has ls 2 [(0, .ref (q 24)), (1, .int o)] := hl
  refine lv_aload_n hx hb dX0_add_0 rfl (lv_at hl 0 rfl) ?_
  refine sk_get (v := .int ln) (C := RX0) (T := TX0) (N := 6) hx hb hts inlX0 hown hK hP 0 rfl rfl 4 (by decide) w_1_133 rfl dX0_add_1 ?_
  refine lv_aload_n hx hb dX0_add_4 rfl (lv_at hl 0 rfl) ?_
  refine sk_get (v := .ref (q 29)) (C := RX0) (T := TX0) (N := 6) hx hb hts inlX0 hown hK hP 0 rfl rfl 0 (by decide) w_1_129 rfl dX0_add_5 ?_
  refine va_alen (v := 1600) hx hb hK.1 hP 1 0 rfl rfl rfl dX0_add_8 ?_
  refine lv_icmp_ge (tgt := 32) hx hb dX0_add_9 (by decide) (fun c => absurd c (hl1)) (fun c_1 => ?_)
  refine lv_aload_n hx hb dX0_add_12 rfl (lv_at hl 0 rfl) ?_
  refine sk_get (v := .ref (q 29)) (C := RX0) (T := TX0) (N := 6) hx hb hts inlX0 hown hK hP 0 rfl rfl 0 (by decide) w_1_129 rfl dX0_add_13 ?_
  refine lv_aload_n hx hb dX0_add_16 rfl (lv_at hl 0 rfl) ?_
  refine sk_get (v := .int ln) (C := RX0) (T := TX0) (N := 6) hx hb hts inlX0 hown hK hP 0 rfl rfl 4 (by decide) w_1_133 rfl dX0_add_17 ?_
  refine lv_iload_n hx hb dX0_add_20 rfl (lv_at hl 1 rfl) ?_
  refine sk_iastO (ws' := fun f_2 => [(q 24, .inr (0, [.ref (q 29), .ref (q 30), .ref (q 31), .ref (q 32), .int ln, .int 0])), (q 29, .inl (cI, 1600, .inl f_2))]) hx hb hK hP hD hS 1 0 rfl rfl hv1 (fun _ => rfl) dX0_add_21 (fun f_2 H locs hP hD hS => ?_)
  refine lv_aload_n hx hb dX0_add_22 rfl (lv_at hl 0 rfl) ?_
  refine lv_dup hx hb dX0_add_23 rfl ?_
  refine sk_get (v := .int ln) (C := RX0) (T := TX0) (N := 6) hx hb hts inlX0 hown hK hP 0 rfl rfl 4 (by decide) w_1_133 rfl dX0_add_24 ?_
  refine lv_iconst (v := 1) hx hb dX0_add_27 (by decide) ?_
  refine lv_iadd hx hb dX0_add_28 ?_
  refine lv_topi (fun v_3 ev_3 => ?_)
  refine sk_put (ws' := [(q 24, .inr (0, [.ref (q 29), .ref (q 30), .ref (q 31), .ref (q 32), .int v_3, .int 0])), (q 29, .inl (cI, 1600, .inl f_2))]) (C := RX0) (T := TX0) (N := 6) (v := .int v_3) hx hb hts inlX0 tyX0 tyX0_ok nmX0 hown hK hP hD hS 0 rfl rfl 4 (by decide) w_1_133 rfl rfl rfl (Nat.le_of_ble_eq_true rfl) rfl dX0_add_29 (fun H locs hP hD hS => ?_)
  refine lv_aload_n hx hb dX0_add_32 rfl (lv_at hl 0 rfl) ?_
  refine lv_dup hx hb dX0_add_33 rfl ?_
  refine sk_get (v := .int 0) (C := RX0) (T := TX0) (N := 6) hx hb hts inlX0 hown hK hP 0 rfl rfl 5 (by decide) w_1_136 rfl dX0_add_34 ?_
  refine lv_iload_n hx hb dX0_add_37 rfl (lv_at hl 1 rfl) ?_
  refine lv_sipush (v := 10004) hx hb dX0_add_38 (by decide) ?_
  refine lv_icmp_ne (tgt := 48) hx hb dX0_add_41 (by decide) (fun c_4 => ?_) (fun c => absurd c (hno))
  refine lv_iconst (v := 0) hx hb dX0_add_48 (by decide) ?_
  refine lv_ior hx hb dX0_add_49 ?_
  refine sk_top 0 (by decide) ?_
  refine sk_put (ws' := [(q 24, .inr (0, [.ref (q 29), .ref (q 30), .ref (q 31), .ref (q 32), .int v_3, .int 0])), (q 29, .inl (cI, 1600, .inl f_2))]) (C := RX0) (T := TX0) (N := 6) (v := .int 0) hx hb hts inlX0 tyX0 tyX0_ok nmX0 hown hK hP hD hS 0 rfl rfl 5 (by decide) w_1_136 rfl rfl rfl (Nat.le_of_ble_eq_true rfl) rfl dX0_add_50 (fun H locs hP hD hS => ?_)
  subst ev_3
  exact sk_vret hx hb hr hlocks hK hP hD hS (⟨f_2, rfl⟩) (Nat.le_of_ble_eq_true rfl) (Nat.le_of_ble_eq_true rfl) dX0_add_53
theorem dX2_addUntold_0 : decode cX2_addUntold 0 = .ok (.iconst 0, 1) := by decide +kernel
theorem dX2_addUntold_1 : decode cX2_addUntold 1 = .ok (.istore_n 1, 1) := by decide +kernel
theorem dX2_addUntold_2 : decode cX2_addUntold 2 = .ok (.iload_n 1, 1) := by decide +kernel
theorem dX2_addUntold_3 : decode cX2_addUntold 3 = .ok (.iconst 2, 1) := by decide +kernel
theorem dX2_addUntold_4 : decode cX2_addUntold 4 = .ok (.if_icmp .gt 48, 3) := by decide +kernel
theorem dX2_addUntold_7 : decode cX2_addUntold 7 = .ok (.aload_n 0, 1) := by decide +kernel
theorem dX2_addUntold_8 : decode cX2_addUntold 8 = .ok (.iload_n 1, 1) := by decide +kernel
theorem dX2_addUntold_9 : decode cX2_addUntold 9 = .ok (.invokevirtual 59, 3) := by decide +kernel
theorem dX2_addUntold_12 : decode cX2_addUntold 12 = .ok (.ifCond .ne 34, 3) := by decide +kernel
theorem dX2_addUntold_15 : decode cX2_addUntold 15 = .ok (.aload_n 0, 1) := by decide +kernel
theorem dX2_addUntold_16 : decode cX2_addUntold 16 = .ok (.iload_n 1, 1) := by decide +kernel
theorem dX2_addUntold_17 : decode cX2_addUntold 17 = .ok (.invokevirtual 63, 3) := by decide +kernel
theorem dX2_addUntold_20 : decode cX2_addUntold 20 = .ok (.aload_n 0, 1) := by decide +kernel
theorem dX2_addUntold_21 : decode cX2_addUntold 21 = .ok (.getfield 12, 3) := by decide +kernel
theorem dX2_addUntold_24 : decode cX2_addUntold 24 = .ok (.iload_n 1, 1) := by decide +kernel
theorem dX2_addUntold_25 : decode cX2_addUntold 25 = .ok (.iconst 1, 1) := by decide +kernel
theorem dX2_addUntold_26 : decode cX2_addUntold 26 = .ok (.if_icmp .ne 9, 3) := by decide +kernel
theorem dX2_addUntold_35 : decode cX2_addUntold 35 = .ok (.sipush 10000, 3) := by decide +kernel
theorem dX2_addUntold_38 : decode cX2_addUntold 38 = .ok (.invokevirtual 67, 3) := by decide +kernel
theorem dX2_addUntold_41 : decode cX2_addUntold 41 = .ok (.aload_n 0, 1) := by decide +kernel
theorem dX2_addUntold_42 : decode cX2_addUntold 42 = .ok (.iload_n 1, 1) := by decide +kernel
theorem dX2_addUntold_43 : decode cX2_addUntold 43 = .ok (.invokevirtual 70, 3) := by decide +kernel
theorem dX2_addUntold_46 : decode cX2_addUntold 46 = .ok (.iinc 1 1, 3) := by decide +kernel
theorem dX2_addUntold_49 : decode cX2_addUntold 49 = .ok (.goto (-47), 3) := by decide +kernel
theorem dX2_addUntold_29 : decode cX2_addUntold 29 = .ok (.sipush 10005, 3) := by decide +kernel
theorem dX2_addUntold_32 : decode cX2_addUntold 32 = .ok (.goto 6, 3) := by decide +kernel
theorem dX2_addUntold_52 : decode cX2_addUntold 52 = .ok (.return_, 1) := by decide +kernel
theorem w_3_144 : (Cond.methodLink RX2 59 yX2_hasSum) ∈ wsL_law := sk_mem (ck_3 _ (List.mem_of_getElem? (i := 144) rfl)) rfl
theorem w_3_71 : (Cond.instanceMethod yX2_hasSum) ∈ wsL_law := sk_mem (ck_3 _ (List.mem_of_getElem? (i := 71) rfl)) rfl
theorem w_3_72 : (Cond.selects RX2 yX2_hasSum yX2_hasSum) ∈ wsL_law := sk_mem (ck_3 _ (List.mem_of_getElem? (i := 72) rfl)) rfl
theorem w_3_145 : (Cond.methodLink RX2 63 yX2_beginSum) ∈ wsL_law := sk_mem (ck_3 _ (List.mem_of_getElem? (i := 145) rfl)) rfl
theorem w_3_77 : (Cond.instanceMethod yX2_beginSum) ∈ wsL_law := sk_mem (ck_3 _ (List.mem_of_getElem? (i := 77) rfl)) rfl
theorem w_3_78 : (Cond.selects RX2 yX2_beginSum yX2_beginSum) ∈ wsL_law := sk_mem (ck_3 _ (List.mem_of_getElem? (i := 78) rfl)) rfl
theorem w_3_146 : (Cond.methodLink RX2 67 yX0_add) ∈ wsL_law := sk_mem (ck_3 _ (List.mem_of_getElem? (i := 146) rfl)) rfl
theorem w_3_98 : (Cond.instanceMethod yX0_add) ∈ wsL_law := sk_mem (ck_3 _ (List.mem_of_getElem? (i := 98) rfl)) rfl
theorem w_3_99 : (Cond.selects RX0 yX0_add yX0_add) ∈ wsL_law := sk_mem (ck_3 _ (List.mem_of_getElem? (i := 99) rfl)) rfl
theorem w_3_147 : (Cond.methodLink RX2 70 yX2_endSum) ∈ wsL_law := sk_mem (ck_3 _ (List.mem_of_getElem? (i := 147) rfl)) rfl
theorem w_3_124 : (Cond.instanceMethod yX2_endSum) ∈ wsL_law := sk_mem (ck_3 _ (List.mem_of_getElem? (i := 124) rfl)) rfl
theorem w_3_125 : (Cond.selects RX2 yX2_endSum yX2_endSum) ∈ wsL_law := sk_mem (ck_3 _ (List.mem_of_getElem? (i := 125) rfl)) rfl
theorem w_3_143 : (Cond.code yX2_addUntold cX2_addUntold 2 none) ∈ wsL_law := sk_mem (ck_3 _ (List.mem_of_getElem? (i := 143) rfl)) rfl
set_option maxHeartbeats 4000000 in
set_option maxRecDepth 100000 in
theorem c_lk_addUntold (l : Launch) (D : va_G) (cI cJ cC cZ cS : ClassId) (q : Nat → Nat)  : skM l yX2_addUntold cX2_addUntold 2 none 1 21 0 0 D (skT cI cJ cC cZ cS) [.ref (q 6)] [(q 6, .inr (2, [.ref (q 24), .ref (q 25), .ref (q 26), .ref (q 27), .ref (q 28), .int 2, .int 0, .int 0, .int 0, .int 1])), (q 24, .inr (0, [.ref (q 29), .ref (q 30), .ref (q 31), .ref (q 32), .int 0, .int 0])), (q 29, .inl (cI, 1600, .inl (fun _ => 0))), (q 27, .inl (cI, 3, .inl (fun _ => 0))), (q 28, .inl (cI, 3, .inl (fun _ => 0)))] (skV D (skT cI cJ cC cZ cS) (fun (u : va_W) => u = [])) := by
  refine skM_of (by decide) (Nat.le_of_ble_eq_true rfl) ?_
  intro p e s m below meth c A ls E hP hD hl
  obtain ⟨hx, hb, hr, hml, hlocks, hin, hown, hts, hK, hA⟩ := E
  have hown : s.vm.findClass RX2 = some m.cls := hown
  have hS : va_S A s.heap s.heap [] := va_S.rf
  have hl : lv_has ls 2 [(0, .ref (q 6))] := hl
  refine lv_iconst (v := 0) hx hb dX2_addUntold_0 (by decide) ?_
  refine lv_istore_n (lv' := [(1, .int 0), (0, .ref (q 6))]) hx hb dX2_addUntold_1 rfl hl (by decide) rfl (fun ls hl => ?_)
  refine lv_iload_n hx hb dX2_addUntold_2 rfl (lv_at hl 0 rfl) ?_
  refine lv_iconst (v := 2) hx hb dX2_addUntold_3 (by decide) ?_
  refine lv_icmp_gt (tgt := 52) hx hb dX2_addUntold_4 (by decide) (fun c => absurd c (by decide)) (fun c_1 => ?_)
  refine lv_aload_n hx hb dX2_addUntold_7 rfl (lv_at hl 1 rfl) ?_
  refine lv_iload_n hx hb dX2_addUntold_8 rfl (lv_at hl 0 rfl) ?_
  refine sk_Vi (q0 := 0) (n := 1) (rest := []) (wr := [(q 24, .inr (0, [.ref (q 29), .ref (q 30), .ref (q 31), .ref (q 32), .int 0, .int 0])), (q 29, .inl (cI, 1600, .inl (fun _ => 0)))]) ⟨hx, hb, hml, hown, hts⟩ hl.1 (c_lk_hasSum l D cI cJ cC cZ cS q (fun _ => 0) (fun _ => 0) 0 (by unfold vp_in; decide) (by decide)) w_3_144 w_3_71 w_3_72 w_1_9 w_3_73 (by decide +kernel) ⟨⟨(Nat.le_of_ble_eq_true rfl), (Nat.le_of_ble_eq_true rfl)⟩, (Nat.le_of_ble_eq_true rfl), (Nat.le_of_ble_eq_true rfl)⟩ hK hP hD hS hA [0, 3, 4] [1, 2] rfl rfl (by decide) (by decide) (by decide) rfl rfl rfl rfl (Nat.le_of_ble_eq_true rfl) dX2_addUntold_9 (fun r_2 u H locs hw hP hD hS => ?_)
  obtain ⟨rfl, rfl⟩ := hw
  have hP : va_P D vwCl [(q 24, .inr (0, [.ref (q 29), .ref (q 30), .ref (q 31), .ref (q 32), .int 0, .int 0])), (q 29, .inl (cI, 1600, .inl (fun _ => 0))), (q 6, .inr (2, [.ref (q 24), .ref (q 25), .ref (q 26), .ref (q 27), .ref (q 28), .int 2, .int 0, .int 0, .int 0, .int 1])), (q 27, .inl (cI, 3, .inl (fun _ => 0))), (q 28, .inl (cI, 3, .inl (fun _ => 0)))] H := hP
  have hD : va_D A [(q 24, .inr (0, [.ref (q 29), .ref (q 30), .ref (q 31), .ref (q 32), .int 0, .int 0])), (q 29, .inl (cI, 1600, .inl (fun _ => 0))), (q 6, .inr (2, [.ref (q 24), .ref (q 25), .ref (q 26), .ref (q 27), .ref (q 28), .int 2, .int 0, .int 0, .int 0, .int 1])), (q 27, .inl (cI, 3, .inl (fun _ => 0))), (q 28, .inl (cI, 3, .inl (fun _ => 0)))] := hD
  refine W.widen (k := 0) (n := 0) (Nat.le_of_ble_eq_true rfl) (Nat.le_of_ble_eq_true rfl) ?_
  refine lv_if_ne (tgt := 46) hx hb dX2_addUntold_12 (by decide) (fun c => absurd c (by decide)) (fun c_3 => ?_)
  refine lv_aload_n hx hb dX2_addUntold_15 rfl (lv_at hl 1 rfl) ?_
  refine lv_iload_n hx hb dX2_addUntold_16 rfl (lv_at hl 0 rfl) ?_
  refine sk_Vv (q0 := 0) (n := 1) (rest := []) (wr := [(q 29, .inl (cI, 1600, .inl (fun _ => 0))), (q 28, .inl (cI, 3, .inl (fun _ => 0)))]) ⟨hx, hb, hml, hown, hts⟩ hl.1 (c_lk_begin l D cI cJ cC cZ cS q (fun _ => 0) 0 0 (by unfold vp_in; decide)) w_3_145 w_3_77 w_3_78 w_1_9 w_3_79 (by decide +kernel) ⟨⟨(Nat.le_of_ble_eq_true rfl), (Nat.le_of_ble_eq_true rfl)⟩, (Nat.le_of_ble_eq_true rfl), (Nat.le_of_ble_eq_true rfl)⟩ hK hP hD hS hA [2, 0, 3] [1, 4] rfl rfl (by decide) (by decide) (by decide) rfl rfl rfl rfl (Nat.le_of_ble_eq_true rfl) dX2_addUntold_17 (fun u H locs hw hP hD hS => ?_)
  obtain rfl := hw
  have hP : va_P D vwCl [(q 29, .inl (cI, 1600, .inl (fun _ => 0))), (q 28, .inl (cI, 3, .inl (fun _ => 0))), (q 6, .inr (2, [.ref (q 24), .ref (q 25), .ref (q 26), .ref (q 27), .ref (q 28), .int 2, .int 0, .int 0, .int 0, .int 1])), (q 24, .inr (0, [.ref (q 29), .ref (q 30), .ref (q 31), .ref (q 32), .int 0, .int 0])), (q 27, .inl (cI, 3, .inl (upd (fun _ => 0) (Int32.toNatClampNeg 0) 0)))] H := hP
  have hD : va_D A [(q 29, .inl (cI, 1600, .inl (fun _ => 0))), (q 28, .inl (cI, 3, .inl (fun _ => 0))), (q 6, .inr (2, [.ref (q 24), .ref (q 25), .ref (q 26), .ref (q 27), .ref (q 28), .int 2, .int 0, .int 0, .int 0, .int 1])), (q 24, .inr (0, [.ref (q 29), .ref (q 30), .ref (q 31), .ref (q 32), .int 0, .int 0])), (q 27, .inl (cI, 3, .inl (upd (fun _ => 0) (Int32.toNatClampNeg 0) 0)))] := hD
  refine W.widen (k := 0) (n := 0) (Nat.le_of_ble_eq_true rfl) (Nat.le_of_ble_eq_true rfl) ?_
  refine lv_aload_n hx hb dX2_addUntold_20 rfl (lv_at hl 1 rfl) ?_
  refine sk_get (v := .ref (q 24)) (C := RX2) (T := TX2) (N := 10) hx hb hts inlX2 hown hK hP 2 rfl rfl 0 (by decide) w_1_175 rfl dX2_addUntold_21 ?_
  refine lv_iload_n hx hb dX2_addUntold_24 rfl (lv_at hl 0 rfl) ?_
  refine lv_iconst (v := 1) hx hb dX2_addUntold_25 (by decide) ?_
  refine lv_icmp_ne (tgt := 35) hx hb dX2_addUntold_26 (by decide) (fun c_4 => ?_) (fun c => absurd c (by decide))
  refine lv_sipush (v := 10000) hx hb dX2_addUntold_35 (by decide) ?_
  refine sk_Vv (q0 := 0) (n := 1) (rest := []) (wr := [(q 28, .inl (cI, 3, .inl (fun _ => 0))), (q 6, .inr (2, [.ref (q 24), .ref (q 25), .ref (q 26), .ref (q 27), .ref (q 28), .int 2, .int 0, .int 0, .int 0, .int 1])), (q 27, .inl (cI, 3, .inl (upd (fun _ => 0) (Int32.toNatClampNeg 0) 0)))]) ⟨hx, hb, hml, hown, hts⟩ hl.1 (c_code_add l D cI cJ cC cZ cS q 0 10000 (fun _ => 0) (by decide) (by unfold vp_in; decide) (by decide)) w_3_146 w_3_98 w_3_99 w_1_8 w_3_100 (by decide +kernel) ⟨⟨(Nat.le_of_ble_eq_true rfl), (Nat.le_of_ble_eq_true rfl)⟩, (Nat.le_of_ble_eq_true rfl), (Nat.le_of_ble_eq_true rfl)⟩ hK hP hD hS hA [3, 0] [1, 2, 4] rfl rfl (by decide) (by decide) (by decide) rfl rfl rfl rfl (Nat.le_of_ble_eq_true rfl) dX2_addUntold_38 (fun u H locs hw hP hD hS => ?_)
  obtain ⟨f2_5, rfl⟩ := hw
  have hP : va_P D vwCl [(q 28, .inl (cI, 3, .inl (fun _ => 0))), (q 6, .inr (2, [.ref (q 24), .ref (q 25), .ref (q 26), .ref (q 27), .ref (q 28), .int 2, .int 0, .int 0, .int 0, .int 1])), (q 27, .inl (cI, 3, .inl (upd (fun _ => 0) (Int32.toNatClampNeg 0) 0))), (q 24, .inr (0, [.ref (q 29), .ref (q 30), .ref (q 31), .ref (q 32), .int 1, .int 0])), (q 29, .inl (cI, 1600, .inl f2_5))] H := hP
  have hD : va_D A [(q 28, .inl (cI, 3, .inl (fun _ => 0))), (q 6, .inr (2, [.ref (q 24), .ref (q 25), .ref (q 26), .ref (q 27), .ref (q 28), .int 2, .int 0, .int 0, .int 0, .int 1])), (q 27, .inl (cI, 3, .inl (upd (fun _ => 0) (Int32.toNatClampNeg 0) 0))), (q 24, .inr (0, [.ref (q 29), .ref (q 30), .ref (q 31), .ref (q 32), .int 1, .int 0])), (q 29, .inl (cI, 1600, .inl f2_5))] := hD
  refine W.widen (k := 0) (n := 0) (Nat.le_of_ble_eq_true rfl) (Nat.le_of_ble_eq_true rfl) ?_
  refine lv_aload_n hx hb dX2_addUntold_41 rfl (lv_at hl 1 rfl) ?_
  refine lv_iload_n hx hb dX2_addUntold_42 rfl (lv_at hl 0 rfl) ?_
  refine sk_Vv (q0 := 0) (n := 1) (rest := []) (wr := [(q 27, .inl (cI, 3, .inl (upd (fun _ => 0) (Int32.toNatClampNeg 0) 0))), (q 29, .inl (cI, 1600, .inl f2_5))]) ⟨hx, hb, hml, hown, hts⟩ hl.1 (c_lk_end l D cI cJ cC cZ cS q (fun _ => 0) 0 1 (by unfold vp_in; decide)) w_3_147 w_3_124 w_3_125 w_1_9 w_3_126 (by decide +kernel) ⟨⟨(Nat.le_of_ble_eq_true rfl), (Nat.le_of_ble_eq_true rfl)⟩, (Nat.le_of_ble_eq_true rfl), (Nat.le_of_ble_eq_true rfl)⟩ hK hP hD hS hA [1, 3, 0] [2, 4] rfl rfl (by decide) (by decide) (by decide) rfl rfl rfl rfl (Nat.le_of_ble_eq_true rfl) dX2_addUntold_43 (fun u H locs hw hP hD hS => ?_)
  obtain rfl := hw
  have hP : va_P D vwCl [(q 27, .inl (cI, 3, .inl (upd (fun _ => 0) (Int32.toNatClampNeg 0) 0))), (q 29, .inl (cI, 1600, .inl f2_5)), (q 6, .inr (2, [.ref (q 24), .ref (q 25), .ref (q 26), .ref (q 27), .ref (q 28), .int 2, .int 0, .int 0, .int 0, .int 1])), (q 24, .inr (0, [.ref (q 29), .ref (q 30), .ref (q 31), .ref (q 32), .int 1, .int 0])), (q 28, .inl (cI, 3, .inl (upd (fun _ => 0) (Int32.toNatClampNeg 0) 1)))] H := hP
  have hD : va_D A [(q 27, .inl (cI, 3, .inl (upd (fun _ => 0) (Int32.toNatClampNeg 0) 0))), (q 29, .inl (cI, 1600, .inl f2_5)), (q 6, .inr (2, [.ref (q 24), .ref (q 25), .ref (q 26), .ref (q 27), .ref (q 28), .int 2, .int 0, .int 0, .int 0, .int 1])), (q 24, .inr (0, [.ref (q 29), .ref (q 30), .ref (q 31), .ref (q 32), .int 1, .int 0])), (q 28, .inl (cI, 3, .inl (upd (fun _ => 0) (Int32.toNatClampNeg 0) 1)))] := hD
  refine W.widen (k := 0) (n := 0) (Nat.le_of_ble_eq_true rfl) (Nat.le_of_ble_eq_true rfl) ?_
  refine lv_iinc (v := 1) (lv' := [(1, .int 1), (0, .ref (q 6))]) hx hb dX2_addUntold_46 hl (k := 0) rfl (by decide) (by decide) rfl (fun ls hl => ?_)
  refine lv_goto (tgt := 2) hx hb dX2_addUntold_49 (by decide) ?_
  refine lv_iload_n hx hb dX2_addUntold_2 rfl (lv_at hl 0 rfl) ?_
  refine lv_iconst (v := 2) hx hb dX2_addUntold_3 (by decide) ?_
  refine lv_icmp_gt (tgt := 52) hx hb dX2_addUntold_4 (by decide) (fun c => absurd c (by decide)) (fun c_6 => ?_)
  refine lv_aload_n hx hb dX2_addUntold_7 rfl (lv_at hl 1 rfl) ?_
  refine lv_iload_n hx hb dX2_addUntold_8 rfl (lv_at hl 0 rfl) ?_
  refine sk_Vi (q0 := 0) (n := 1) (rest := []) (wr := [(q 29, .inl (cI, 1600, .inl f2_5)), (q 24, .inr (0, [.ref (q 29), .ref (q 30), .ref (q 31), .ref (q 32), .int 1, .int 0]))]) ⟨hx, hb, hml, hown, hts⟩ hl.1 (c_lk_hasSum l D cI cJ cC cZ cS q (upd (fun _ => 0) (Int32.toNatClampNeg 0) 0) (upd (fun _ => 0) (Int32.toNatClampNeg 0) 1) 1 (by unfold vp_in; decide) (by decide)) w_3_144 w_3_71 w_3_72 w_1_9 w_3_73 (by decide +kernel) ⟨⟨(Nat.le_of_ble_eq_true rfl), (Nat.le_of_ble_eq_true rfl)⟩, (Nat.le_of_ble_eq_true rfl), (Nat.le_of_ble_eq_true rfl)⟩ hK hP hD hS hA [2, 0, 4] [1, 3] rfl rfl (by decide) (by decide) (by decide) rfl rfl rfl rfl (Nat.le_of_ble_eq_true rfl) dX2_addUntold_9 (fun r_7 u H locs hw hP hD hS => ?_)
  obtain ⟨rfl, rfl⟩ := hw
  have hP : va_P D vwCl [(q 29, .inl (cI, 1600, .inl f2_5)), (q 24, .inr (0, [.ref (q 29), .ref (q 30), .ref (q 31), .ref (q 32), .int 1, .int 0])), (q 6, .inr (2, [.ref (q 24), .ref (q 25), .ref (q 26), .ref (q 27), .ref (q 28), .int 2, .int 0, .int 0, .int 0, .int 1])), (q 27, .inl (cI, 3, .inl (upd (fun _ => 0) (Int32.toNatClampNeg 0) 0))), (q 28, .inl (cI, 3, .inl (upd (fun _ => 0) (Int32.toNatClampNeg 0) 1)))] H := hP
  have hD : va_D A [(q 29, .inl (cI, 1600, .inl f2_5)), (q 24, .inr (0, [.ref (q 29), .ref (q 30), .ref (q 31), .ref (q 32), .int 1, .int 0])), (q 6, .inr (2, [.ref (q 24), .ref (q 25), .ref (q 26), .ref (q 27), .ref (q 28), .int 2, .int 0, .int 0, .int 0, .int 1])), (q 27, .inl (cI, 3, .inl (upd (fun _ => 0) (Int32.toNatClampNeg 0) 0))), (q 28, .inl (cI, 3, .inl (upd (fun _ => 0) (Int32.toNatClampNeg 0) 1)))] := hD
  refine W.widen (k := 0) (n := 0) (Nat.le_of_ble_eq_true rfl) (Nat.le_of_ble_eq_true rfl) ?_
  refine lv_if_ne (tgt := 46) hx hb dX2_addUntold_12 (by decide) (fun c => absurd c (by decide)) (fun c_8 => ?_)
  refine lv_aload_n hx hb dX2_addUntold_15 rfl (lv_at hl 1 rfl) ?_
  refine lv_iload_n hx hb dX2_addUntold_16 rfl (lv_at hl 0 rfl) ?_
  refine sk_Vv (q0 := 0) (n := 1) (rest := []) (wr := [(q 29, .inl (cI, 1600, .inl f2_5)), (q 28, .inl (cI, 3, .inl (upd (fun _ => 0) (Int32.toNatClampNeg 0) 1)))]) ⟨hx, hb, hml, hown, hts⟩ hl.1 (c_lk_begin l D cI cJ cC cZ cS q (upd (fun _ => 0) (Int32.toNatClampNeg 0) 0) 1 1 (by unfold vp_in; decide)) w_3_145 w_3_77 w_3_78 w_1_9 w_3_79 (by decide +kernel) ⟨⟨(Nat.le_of_ble_eq_true rfl), (Nat.le_of_ble_eq_true rfl)⟩, (Nat.le_of_ble_eq_true rfl), (Nat.le_of_ble_eq_true rfl)⟩ hK hP hD hS hA [2, 1, 3] [0, 4] rfl rfl (by decide) (by decide) (by decide) rfl rfl rfl rfl (Nat.le_of_ble_eq_true rfl) dX2_addUntold_17 (fun u H locs hw hP hD hS => ?_)
  obtain rfl := hw
  have hP : va_P D vwCl [(q 29, .inl (cI, 1600, .inl f2_5)), (q 28, .inl (cI, 3, .inl (upd (fun _ => 0) (Int32.toNatClampNeg 0) 1))), (q 6, .inr (2, [.ref (q 24), .ref (q 25), .ref (q 26), .ref (q 27), .ref (q 28), .int 2, .int 0, .int 0, .int 0, .int 1])), (q 24, .inr (0, [.ref (q 29), .ref (q 30), .ref (q 31), .ref (q 32), .int 1, .int 0])), (q 27, .inl (cI, 3, .inl (upd (upd (fun _ => 0) (Int32.toNatClampNeg 0) 0) (Int32.toNatClampNeg 1) 1)))] H := hP
  have hD : va_D A [(q 29, .inl (cI, 1600, .inl f2_5)), (q 28, .inl (cI, 3, .inl (upd (fun _ => 0) (Int32.toNatClampNeg 0) 1))), (q 6, .inr (2, [.ref (q 24), .ref (q 25), .ref (q 26), .ref (q 27), .ref (q 28), .int 2, .int 0, .int 0, .int 0, .int 1])), (q 24, .inr (0, [.ref (q 29), .ref (q 30), .ref (q 31), .ref (q 32), .int 1, .int 0])), (q 27, .inl (cI, 3, .inl (upd (upd (fun _ => 0) (Int32.toNatClampNeg 0) 0) (Int32.toNatClampNeg 1) 1)))] := hD
  refine W.widen (k := 0) (n := 0) (Nat.le_of_ble_eq_true rfl) (Nat.le_of_ble_eq_true rfl) ?_
  refine lv_aload_n hx hb dX2_addUntold_20 rfl (lv_at hl 1 rfl) ?_
  refine sk_get (v := .ref (q 24)) (C := RX2) (T := TX2) (N := 10) hx hb hts inlX2 hown hK hP 2 rfl rfl 0 (by decide) w_1_175 rfl dX2_addUntold_21 ?_
  refine lv_iload_n hx hb dX2_addUntold_24 rfl (lv_at hl 0 rfl) ?_
  refine lv_iconst (v := 1) hx hb dX2_addUntold_25 (by decide) ?_
  refine lv_icmp_ne (tgt := 35) hx hb dX2_addUntold_26 (by decide) (fun c => absurd c (by decide)) (fun c_9 => ?_)
  refine lv_sipush (v := 10005) hx hb dX2_addUntold_29 (by decide) ?_
  refine lv_goto (tgt := 38) hx hb dX2_addUntold_32 (by decide) ?_
  refine sk_Vv (q0 := 0) (n := 1) (rest := []) (wr := [(q 28, .inl (cI, 3, .inl (upd (fun _ => 0) (Int32.toNatClampNeg 0) 1))), (q 6, .inr (2, [.ref (q 24), .ref (q 25), .ref (q 26), .ref (q 27), .ref (q 28), .int 2, .int 0, .int 0, .int 0, .int 1])), (q 27, .inl (cI, 3, .inl (upd (upd (fun _ => 0) (Int32.toNatClampNeg 0) 0) (Int32.toNatClampNeg 1) 1)))]) ⟨hx, hb, hml, hown, hts⟩ hl.1 (c_code_add l D cI cJ cC cZ cS q 1 10005 f2_5 (by decide) (by unfold vp_in; decide) (by decide)) w_3_146 w_3_98 w_3_99 w_1_8 w_3_100 (by decide +kernel) ⟨⟨(Nat.le_of_ble_eq_true rfl), (Nat.le_of_ble_eq_true rfl)⟩, (Nat.le_of_ble_eq_true rfl), (Nat.le_of_ble_eq_true rfl)⟩ hK hP hD hS hA [3, 0] [1, 2, 4] rfl rfl (by decide) (by decide) (by decide) rfl rfl rfl rfl (Nat.le_of_ble_eq_true rfl) dX2_addUntold_38 (fun u H locs hw hP hD hS => ?_)
  obtain ⟨f2_10, rfl⟩ := hw
  have hP : va_P D vwCl [(q 28, .inl (cI, 3, .inl (upd (fun _ => 0) (Int32.toNatClampNeg 0) 1))), (q 6, .inr (2, [.ref (q 24), .ref (q 25), .ref (q 26), .ref (q 27), .ref (q 28), .int 2, .int 0, .int 0, .int 0, .int 1])), (q 27, .inl (cI, 3, .inl (upd (upd (fun _ => 0) (Int32.toNatClampNeg 0) 0) (Int32.toNatClampNeg 1) 1))), (q 24, .inr (0, [.ref (q 29), .ref (q 30), .ref (q 31), .ref (q 32), .int 2, .int 0])), (q 29, .inl (cI, 1600, .inl f2_10))] H := hP
  have hD : va_D A [(q 28, .inl (cI, 3, .inl (upd (fun _ => 0) (Int32.toNatClampNeg 0) 1))), (q 6, .inr (2, [.ref (q 24), .ref (q 25), .ref (q 26), .ref (q 27), .ref (q 28), .int 2, .int 0, .int 0, .int 0, .int 1])), (q 27, .inl (cI, 3, .inl (upd (upd (fun _ => 0) (Int32.toNatClampNeg 0) 0) (Int32.toNatClampNeg 1) 1))), (q 24, .inr (0, [.ref (q 29), .ref (q 30), .ref (q 31), .ref (q 32), .int 2, .int 0])), (q 29, .inl (cI, 1600, .inl f2_10))] := hD
  refine W.widen (k := 0) (n := 0) (Nat.le_of_ble_eq_true rfl) (Nat.le_of_ble_eq_true rfl) ?_
  refine lv_aload_n hx hb dX2_addUntold_41 rfl (lv_at hl 1 rfl) ?_
  refine lv_iload_n hx hb dX2_addUntold_42 rfl (lv_at hl 0 rfl) ?_
  refine sk_Vv (q0 := 0) (n := 1) (rest := []) (wr := [(q 27, .inl (cI, 3, .inl (upd (upd (fun _ => 0) (Int32.toNatClampNeg 0) 0) (Int32.toNatClampNeg 1) 1))), (q 29, .inl (cI, 1600, .inl f2_10))]) ⟨hx, hb, hml, hown, hts⟩ hl.1 (c_lk_end l D cI cJ cC cZ cS q (upd (fun _ => 0) (Int32.toNatClampNeg 0) 1) 1 2 (by unfold vp_in; decide)) w_3_147 w_3_124 w_3_125 w_1_9 w_3_126 (by decide +kernel) ⟨⟨(Nat.le_of_ble_eq_true rfl), (Nat.le_of_ble_eq_true rfl)⟩, (Nat.le_of_ble_eq_true rfl), (Nat.le_of_ble_eq_true rfl)⟩ hK hP hD hS hA [1, 3, 0] [2, 4] rfl rfl (by decide) (by decide) (by decide) rfl rfl rfl rfl (Nat.le_of_ble_eq_true rfl) dX2_addUntold_43 (fun u H locs hw hP hD hS => ?_)
  obtain rfl := hw
  have hP : va_P D vwCl [(q 27, .inl (cI, 3, .inl (upd (upd (fun _ => 0) (Int32.toNatClampNeg 0) 0) (Int32.toNatClampNeg 1) 1))), (q 29, .inl (cI, 1600, .inl f2_10)), (q 6, .inr (2, [.ref (q 24), .ref (q 25), .ref (q 26), .ref (q 27), .ref (q 28), .int 2, .int 0, .int 0, .int 0, .int 1])), (q 24, .inr (0, [.ref (q 29), .ref (q 30), .ref (q 31), .ref (q 32), .int 2, .int 0])), (q 28, .inl (cI, 3, .inl (upd (upd (fun _ => 0) (Int32.toNatClampNeg 0) 1) (Int32.toNatClampNeg 1) 2)))] H := hP
  have hD : va_D A [(q 27, .inl (cI, 3, .inl (upd (upd (fun _ => 0) (Int32.toNatClampNeg 0) 0) (Int32.toNatClampNeg 1) 1))), (q 29, .inl (cI, 1600, .inl f2_10)), (q 6, .inr (2, [.ref (q 24), .ref (q 25), .ref (q 26), .ref (q 27), .ref (q 28), .int 2, .int 0, .int 0, .int 0, .int 1])), (q 24, .inr (0, [.ref (q 29), .ref (q 30), .ref (q 31), .ref (q 32), .int 2, .int 0])), (q 28, .inl (cI, 3, .inl (upd (upd (fun _ => 0) (Int32.toNatClampNeg 0) 1) (Int32.toNatClampNeg 1) 2)))] := hD
  refine W.widen (k := 0) (n := 0) (Nat.le_of_ble_eq_true rfl) (Nat.le_of_ble_eq_true rfl) ?_
  refine lv_iinc (v := 2) (lv' := [(1, .int 2), (0, .ref (q 6))]) hx hb dX2_addUntold_46 hl (k := 0) rfl (by decide) (by decide) rfl (fun ls hl => ?_)
  refine lv_goto (tgt := 2) hx hb dX2_addUntold_49 (by decide) ?_
  refine lv_iload_n hx hb dX2_addUntold_2 rfl (lv_at hl 0 rfl) ?_
  refine lv_iconst (v := 2) hx hb dX2_addUntold_3 (by decide) ?_
  refine lv_icmp_gt (tgt := 52) hx hb dX2_addUntold_4 (by decide) (fun c => absurd c (by decide)) (fun c_11 => ?_)
  refine lv_aload_n hx hb dX2_addUntold_7 rfl (lv_at hl 1 rfl) ?_
  refine lv_iload_n hx hb dX2_addUntold_8 rfl (lv_at hl 0 rfl) ?_
  refine sk_Vi (q0 := 0) (n := 1) (rest := []) (wr := [(q 29, .inl (cI, 1600, .inl f2_10)), (q 24, .inr (0, [.ref (q 29), .ref (q 30), .ref (q 31), .ref (q 32), .int 2, .int 0]))]) ⟨hx, hb, hml, hown, hts⟩ hl.1 (c_lk_hasSum l D cI cJ cC cZ cS q (upd (upd (fun _ => 0) (Int32.toNatClampNeg 0) 0) (Int32.toNatClampNeg 1) 1) (upd (upd (fun _ => 0) (Int32.toNatClampNeg 0) 1) (Int32.toNatClampNeg 1) 2) 2 (by unfold vp_in; decide) (by decide)) w_3_144 w_3_71 w_3_72 w_1_9 w_3_73 (by decide +kernel) ⟨⟨(Nat.le_of_ble_eq_true rfl), (Nat.le_of_ble_eq_true rfl)⟩, (Nat.le_of_ble_eq_true rfl), (Nat.le_of_ble_eq_true rfl)⟩ hK hP hD hS hA [2, 0, 4] [1, 3] rfl rfl (by decide) (by decide) (by decide) rfl rfl rfl rfl (Nat.le_of_ble_eq_true rfl) dX2_addUntold_9 (fun r_12 u H locs hw hP hD hS => ?_)
  obtain ⟨rfl, rfl⟩ := hw
  have hP : va_P D vwCl [(q 29, .inl (cI, 1600, .inl f2_10)), (q 24, .inr (0, [.ref (q 29), .ref (q 30), .ref (q 31), .ref (q 32), .int 2, .int 0])), (q 6, .inr (2, [.ref (q 24), .ref (q 25), .ref (q 26), .ref (q 27), .ref (q 28), .int 2, .int 0, .int 0, .int 0, .int 1])), (q 27, .inl (cI, 3, .inl (upd (upd (fun _ => 0) (Int32.toNatClampNeg 0) 0) (Int32.toNatClampNeg 1) 1))), (q 28, .inl (cI, 3, .inl (upd (upd (fun _ => 0) (Int32.toNatClampNeg 0) 1) (Int32.toNatClampNeg 1) 2)))] H := hP
  have hD : va_D A [(q 29, .inl (cI, 1600, .inl f2_10)), (q 24, .inr (0, [.ref (q 29), .ref (q 30), .ref (q 31), .ref (q 32), .int 2, .int 0])), (q 6, .inr (2, [.ref (q 24), .ref (q 25), .ref (q 26), .ref (q 27), .ref (q 28), .int 2, .int 0, .int 0, .int 0, .int 1])), (q 27, .inl (cI, 3, .inl (upd (upd (fun _ => 0) (Int32.toNatClampNeg 0) 0) (Int32.toNatClampNeg 1) 1))), (q 28, .inl (cI, 3, .inl (upd (upd (fun _ => 0) (Int32.toNatClampNeg 0) 1) (Int32.toNatClampNeg 1) 2)))] := hD
  refine W.widen (k := 0) (n := 0) (Nat.le_of_ble_eq_true rfl) (Nat.le_of_ble_eq_true rfl) ?_
  refine lv_if_ne (tgt := 46) hx hb dX2_addUntold_12 (by decide) (fun c => absurd c (by decide)) (fun c_13 => ?_)
  refine lv_aload_n hx hb dX2_addUntold_15 rfl (lv_at hl 1 rfl) ?_
  refine lv_iload_n hx hb dX2_addUntold_16 rfl (lv_at hl 0 rfl) ?_
  refine sk_Vv (q0 := 0) (n := 1) (rest := []) (wr := [(q 29, .inl (cI, 1600, .inl f2_10)), (q 28, .inl (cI, 3, .inl (upd (upd (fun _ => 0) (Int32.toNatClampNeg 0) 1) (Int32.toNatClampNeg 1) 2)))]) ⟨hx, hb, hml, hown, hts⟩ hl.1 (c_lk_begin l D cI cJ cC cZ cS q (upd (upd (fun _ => 0) (Int32.toNatClampNeg 0) 0) (Int32.toNatClampNeg 1) 1) 2 2 (by unfold vp_in; decide)) w_3_145 w_3_77 w_3_78 w_1_9 w_3_79 (by decide +kernel) ⟨⟨(Nat.le_of_ble_eq_true rfl), (Nat.le_of_ble_eq_true rfl)⟩, (Nat.le_of_ble_eq_true rfl), (Nat.le_of_ble_eq_true rfl)⟩ hK hP hD hS hA [2, 1, 3] [0, 4] rfl rfl (by decide) (by decide) (by decide) rfl rfl rfl rfl (Nat.le_of_ble_eq_true rfl) dX2_addUntold_17 (fun u H locs hw hP hD hS => ?_)
  obtain rfl := hw
  have hP : va_P D vwCl [(q 29, .inl (cI, 1600, .inl f2_10)), (q 28, .inl (cI, 3, .inl (upd (upd (fun _ => 0) (Int32.toNatClampNeg 0) 1) (Int32.toNatClampNeg 1) 2))), (q 6, .inr (2, [.ref (q 24), .ref (q 25), .ref (q 26), .ref (q 27), .ref (q 28), .int 2, .int 0, .int 0, .int 0, .int 1])), (q 24, .inr (0, [.ref (q 29), .ref (q 30), .ref (q 31), .ref (q 32), .int 2, .int 0])), (q 27, .inl (cI, 3, .inl (upd (upd (upd (fun _ => 0) (Int32.toNatClampNeg 0) 0) (Int32.toNatClampNeg 1) 1) (Int32.toNatClampNeg 2) 2)))] H := hP
  have hD : va_D A [(q 29, .inl (cI, 1600, .inl f2_10)), (q 28, .inl (cI, 3, .inl (upd (upd (fun _ => 0) (Int32.toNatClampNeg 0) 1) (Int32.toNatClampNeg 1) 2))), (q 6, .inr (2, [.ref (q 24), .ref (q 25), .ref (q 26), .ref (q 27), .ref (q 28), .int 2, .int 0, .int 0, .int 0, .int 1])), (q 24, .inr (0, [.ref (q 29), .ref (q 30), .ref (q 31), .ref (q 32), .int 2, .int 0])), (q 27, .inl (cI, 3, .inl (upd (upd (upd (fun _ => 0) (Int32.toNatClampNeg 0) 0) (Int32.toNatClampNeg 1) 1) (Int32.toNatClampNeg 2) 2)))] := hD
  refine W.widen (k := 0) (n := 0) (Nat.le_of_ble_eq_true rfl) (Nat.le_of_ble_eq_true rfl) ?_
  refine lv_aload_n hx hb dX2_addUntold_20 rfl (lv_at hl 1 rfl) ?_
  refine sk_get (v := .ref (q 24)) (C := RX2) (T := TX2) (N := 10) hx hb hts inlX2 hown hK hP 2 rfl rfl 0 (by decide) w_1_175 rfl dX2_addUntold_21 ?_
  refine lv_iload_n hx hb dX2_addUntold_24 rfl (lv_at hl 0 rfl) ?_
  refine lv_iconst (v := 1) hx hb dX2_addUntold_25 (by decide) ?_
  refine lv_icmp_ne (tgt := 35) hx hb dX2_addUntold_26 (by decide) (fun c_14 => ?_) (fun c => absurd c (by decide))
  refine lv_sipush (v := 10000) hx hb dX2_addUntold_35 (by decide) ?_
  refine sk_Vv (q0 := 0) (n := 1) (rest := []) (wr := [(q 28, .inl (cI, 3, .inl (upd (upd (fun _ => 0) (Int32.toNatClampNeg 0) 1) (Int32.toNatClampNeg 1) 2))), (q 6, .inr (2, [.ref (q 24), .ref (q 25), .ref (q 26), .ref (q 27), .ref (q 28), .int 2, .int 0, .int 0, .int 0, .int 1])), (q 27, .inl (cI, 3, .inl (upd (upd (upd (fun _ => 0) (Int32.toNatClampNeg 0) 0) (Int32.toNatClampNeg 1) 1) (Int32.toNatClampNeg 2) 2)))]) ⟨hx, hb, hml, hown, hts⟩ hl.1 (c_code_add l D cI cJ cC cZ cS q 2 10000 f2_10 (by decide) (by unfold vp_in; decide) (by decide)) w_3_146 w_3_98 w_3_99 w_1_8 w_3_100 (by decide +kernel) ⟨⟨(Nat.le_of_ble_eq_true rfl), (Nat.le_of_ble_eq_true rfl)⟩, (Nat.le_of_ble_eq_true rfl), (Nat.le_of_ble_eq_true rfl)⟩ hK hP hD hS hA [3, 0] [1, 2, 4] rfl rfl (by decide) (by decide) (by decide) rfl rfl rfl rfl (Nat.le_of_ble_eq_true rfl) dX2_addUntold_38 (fun u H locs hw hP hD hS => ?_)
  obtain ⟨f2_15, rfl⟩ := hw
  have hP : va_P D vwCl [(q 28, .inl (cI, 3, .inl (upd (upd (fun _ => 0) (Int32.toNatClampNeg 0) 1) (Int32.toNatClampNeg 1) 2))), (q 6, .inr (2, [.ref (q 24), .ref (q 25), .ref (q 26), .ref (q 27), .ref (q 28), .int 2, .int 0, .int 0, .int 0, .int 1])), (q 27, .inl (cI, 3, .inl (upd (upd (upd (fun _ => 0) (Int32.toNatClampNeg 0) 0) (Int32.toNatClampNeg 1) 1) (Int32.toNatClampNeg 2) 2))), (q 24, .inr (0, [.ref (q 29), .ref (q 30), .ref (q 31), .ref (q 32), .int 3, .int 0])), (q 29, .inl (cI, 1600, .inl f2_15))] H := hP
  have hD : va_D A [(q 28, .inl (cI, 3, .inl (upd (upd (fun _ => 0) (Int32.toNatClampNeg 0) 1) (Int32.toNatClampNeg 1) 2))), (q 6, .inr (2, [.ref (q 24), .ref (q 25), .ref (q 26), .ref (q 27), .ref (q 28), .int 2, .int 0, .int 0, .int 0, .int 1])), (q 27, .inl (cI, 3, .inl (upd (upd (upd (fun _ => 0) (Int32.toNatClampNeg 0) 0) (Int32.toNatClampNeg 1) 1) (Int32.toNatClampNeg 2) 2))), (q 24, .inr (0, [.ref (q 29), .ref (q 30), .ref (q 31), .ref (q 32), .int 3, .int 0])), (q 29, .inl (cI, 1600, .inl f2_15))] := hD
  refine W.widen (k := 0) (n := 0) (Nat.le_of_ble_eq_true rfl) (Nat.le_of_ble_eq_true rfl) ?_
  refine lv_aload_n hx hb dX2_addUntold_41 rfl (lv_at hl 1 rfl) ?_
  refine lv_iload_n hx hb dX2_addUntold_42 rfl (lv_at hl 0 rfl) ?_
  refine sk_Vv (q0 := 0) (n := 1) (rest := []) (wr := [(q 27, .inl (cI, 3, .inl (upd (upd (upd (fun _ => 0) (Int32.toNatClampNeg 0) 0) (Int32.toNatClampNeg 1) 1) (Int32.toNatClampNeg 2) 2))), (q 29, .inl (cI, 1600, .inl f2_15))]) ⟨hx, hb, hml, hown, hts⟩ hl.1 (c_lk_end l D cI cJ cC cZ cS q (upd (upd (fun _ => 0) (Int32.toNatClampNeg 0) 1) (Int32.toNatClampNeg 1) 2) 2 3 (by unfold vp_in; decide)) w_3_147 w_3_124 w_3_125 w_1_9 w_3_126 (by decide +kernel) ⟨⟨(Nat.le_of_ble_eq_true rfl), (Nat.le_of_ble_eq_true rfl)⟩, (Nat.le_of_ble_eq_true rfl), (Nat.le_of_ble_eq_true rfl)⟩ hK hP hD hS hA [1, 3, 0] [2, 4] rfl rfl (by decide) (by decide) (by decide) rfl rfl rfl rfl (Nat.le_of_ble_eq_true rfl) dX2_addUntold_43 (fun u H locs hw hP hD hS => ?_)
  obtain rfl := hw
  have hP : va_P D vwCl [(q 27, .inl (cI, 3, .inl (upd (upd (upd (fun _ => 0) (Int32.toNatClampNeg 0) 0) (Int32.toNatClampNeg 1) 1) (Int32.toNatClampNeg 2) 2))), (q 29, .inl (cI, 1600, .inl f2_15)), (q 6, .inr (2, [.ref (q 24), .ref (q 25), .ref (q 26), .ref (q 27), .ref (q 28), .int 2, .int 0, .int 0, .int 0, .int 1])), (q 24, .inr (0, [.ref (q 29), .ref (q 30), .ref (q 31), .ref (q 32), .int 3, .int 0])), (q 28, .inl (cI, 3, .inl (upd (upd (upd (fun _ => 0) (Int32.toNatClampNeg 0) 1) (Int32.toNatClampNeg 1) 2) (Int32.toNatClampNeg 2) 3)))] H := hP
  have hD : va_D A [(q 27, .inl (cI, 3, .inl (upd (upd (upd (fun _ => 0) (Int32.toNatClampNeg 0) 0) (Int32.toNatClampNeg 1) 1) (Int32.toNatClampNeg 2) 2))), (q 29, .inl (cI, 1600, .inl f2_15)), (q 6, .inr (2, [.ref (q 24), .ref (q 25), .ref (q 26), .ref (q 27), .ref (q 28), .int 2, .int 0, .int 0, .int 0, .int 1])), (q 24, .inr (0, [.ref (q 29), .ref (q 30), .ref (q 31), .ref (q 32), .int 3, .int 0])), (q 28, .inl (cI, 3, .inl (upd (upd (upd (fun _ => 0) (Int32.toNatClampNeg 0) 1) (Int32.toNatClampNeg 1) 2) (Int32.toNatClampNeg 2) 3)))] := hD
  refine W.widen (k := 0) (n := 0) (Nat.le_of_ble_eq_true rfl) (Nat.le_of_ble_eq_true rfl) ?_
  refine lv_iinc (v := 3) (lv' := [(1, .int 3), (0, .ref (q 6))]) hx hb dX2_addUntold_46 hl (k := 0) rfl (by decide) (by decide) rfl (fun ls hl => ?_)
  refine lv_goto (tgt := 2) hx hb dX2_addUntold_49 (by decide) ?_
  refine lv_iload_n hx hb dX2_addUntold_2 rfl (lv_at hl 0 rfl) ?_
  refine lv_iconst (v := 2) hx hb dX2_addUntold_3 (by decide) ?_
  refine lv_icmp_gt (tgt := 52) hx hb dX2_addUntold_4 (by decide) (fun c_16 => ?_) (fun c => absurd c (by decide))
  have hP := hP.sub (ws' := []) [] rfl
  have hD := hD.sub (ws' := []) [] (by decide) rfl
  exact sk_vret hx hb hr hlocks hK hP hD hS rfl (Nat.le_of_ble_eq_true rfl) (Nat.le_of_ble_eq_true rfl) dX2_addUntold_52
theorem dX3_read_0 : decode cX3_read 0 = .ok (.aload_n 1, 1) := by decide +kernel
theorem dX3_read_1 : decode cX3_read 1 = .ok (.invokevirtual 27, 3) := by decide +kernel
theorem dX3_read_4 : decode cX3_read 4 = .ok (.aload_n 0, 1) := by decide +kernel
theorem dX3_read_5 : decode cX3_read 5 = .ok (.getfield 9, 3) := by decide +kernel
theorem dX3_read_8 : decode cX3_read 8 = .ok (.invokevirtual 32, 3) := by decide +kernel
theorem dX3_read_11 : decode cX3_read 11 = .ok (.aload_n 0, 1) := by decide +kernel
theorem dX3_read_12 : decode cX3_read 12 = .ok (.aload_n 1, 1) := by decide +kernel
theorem dX3_read_13 : decode cX3_read 13 = .ok (.invokevirtual 37, 3) := by decide +kernel
theorem dX3_read_16 : decode cX3_read 16 = .ok (.aload_n 1, 1) := by decide +kernel
theorem dX3_read_17 : decode cX3_read 17 = .ok (.getfield 41, 3) := by decide +kernel
theorem dX3_read_20 : decode cX3_read 20 = .ok (.bipush 60, 2) := by decide +kernel
theorem dX3_read_22 : decode cX3_read 22 = .ok (.if_icmp .ge 124, 3) := by decide +kernel
theorem dX3_read_25 : decode cX3_read 25 = .ok (.aload_n 0, 1) := by decide +kernel
theorem dX3_read_26 : decode cX3_read 26 = .ok (.getfield 9, 3) := by decide +kernel
theorem dX3_read_29 : decode cX3_read 29 = .ok (.getfield 45, 3) := by decide +kernel
theorem dX3_read_32 : decode cX3_read 32 = .ok (.ifCond .ne 114, 3) := by decide +kernel
theorem dX3_read_146 : decode cX3_read 146 = .ok (.aload_n 0, 1) := by decide +kernel
theorem dX3_read_147 : decode cX3_read 147 = .ok (.getfield 9, 3) := by decide +kernel
theorem dX3_read_150 : decode cX3_read 150 = .ok (.getfield 45, 3) := by decide +kernel
theorem dX3_read_153 : decode cX3_read 153 = .ok (.ifCond .ne 29, 3) := by decide +kernel
theorem dX3_read_182 : decode cX3_read 182 = .ok (.aload_n 1, 1) := by decide +kernel
theorem dX3_read_183 : decode cX3_read 183 = .ok (.invokevirtual 69, 3) := by decide +kernel
theorem dX3_read_186 : decode cX3_read 186 = .ok (.return_, 1) := by decide +kernel
theorem w_2_210 : (Cond.methodLink RX3 27 yX2_clear) ∈ wsL_law := sk_mem (ck_2 _ (List.mem_of_getElem? (i := 210) rfl)) rfl
theorem w_2_211 : (Cond.instanceMethod yX2_clear) ∈ wsL_law := sk_mem (ck_2 _ (List.mem_of_getElem? (i := 211) rfl)) rfl
theorem w_2_212 : (Cond.selects RX2 yX2_clear yX2_clear) ∈ wsL_law := sk_mem (ck_2 _ (List.mem_of_getElem? (i := 212) rfl)) rfl
theorem w_2_221 : (Cond.methodLink RX3 32 yX6_begin) ∈ wsL_law := sk_mem (ck_2 _ (List.mem_of_getElem? (i := 221) rfl)) rfl
theorem w_2_222 : (Cond.instanceMethod yX6_begin) ∈ wsL_law := sk_mem (ck_2 _ (List.mem_of_getElem? (i := 222) rfl)) rfl
theorem w_2_223 : (Cond.selects RX6 yX6_begin yX6_begin) ∈ wsL_law := sk_mem (ck_2 _ (List.mem_of_getElem? (i := 223) rfl)) rfl
theorem w_3_46 : (Cond.methodLink RX3 37 yX3_readOpening) ∈ wsL_law := sk_mem (ck_3 _ (List.mem_of_getElem? (i := 46) rfl)) rfl
theorem w_3_48 : (Cond.instanceMethod yX3_readOpening) ∈ wsL_law := sk_mem (ck_3 _ (List.mem_of_getElem? (i := 48) rfl)) rfl
theorem w_0_4 : (Cond.selects RX3 yX3_readOpening yX3_readOpening) ∈ wsL_law := sk_mem (ck_0 _ (List.mem_of_getElem? (i := 4) rfl)) rfl
theorem w_1_67 : (Cond.fieldLink RX3 45 "SameKeeper$Reader" "fault" "I") ∈ wsL_law := sk_mem (ck_1 _ (List.mem_of_getElem? (i := 67) rfl)) rfl
theorem w_3_140 : (Cond.methodLink RX3 69 yX2_addUntold) ∈ wsL_law := sk_mem (ck_3 _ (List.mem_of_getElem? (i := 140) rfl)) rfl
theorem w_3_141 : (Cond.instanceMethod yX2_addUntold) ∈ wsL_law := sk_mem (ck_3 _ (List.mem_of_getElem? (i := 141) rfl)) rfl
theorem w_3_142 : (Cond.selects RX2 yX2_addUntold yX2_addUntold) ∈ wsL_law := sk_mem (ck_3 _ (List.mem_of_getElem? (i := 142) rfl)) rfl
theorem w_2_209 : (Cond.code yX3_read cX3_read 2 none) ∈ wsL_law := sk_mem (ck_2 _ (List.mem_of_getElem? (i := 209) rfl)) rfl
set_option maxHeartbeats 4000000 in
set_option maxRecDepth 100000 in
theorem c_lt_read (l : Launch) (D : va_G) (cI cJ cC cZ cS : ClassId) (q : Nat → Nat)  : skM l yX3_read cX3_read 2 none 4 86 0 0 D (skT cI cJ cC cZ cS) [.ref (q 3), .ref (q 6)] [(q 3, .inr (3, [.ref (q 2), .ref (q 22), .ref (q 23)])), (q 2, .inr (6, [.ref (q 0), .int 0, .int 0, .int 0, .int (-1), .int 0, .int 0, .int (-1)])), (q 0, .inr (10, [.ref (q 20), .int 0])), (q 6, .inr (2, [.ref (q 24), .ref (q 25), .ref (q 26), .ref (q 27), .ref (q 28), .int 0, .int 0, .int 0, .int 0, .int 0])), (q 24, .inr (0, [.ref (q 29), .ref (q 30), .ref (q 31), .ref (q 32), .int 0, .int 0])), (q 29, .inl (cI, 1600, .inl (fun _ => 0))), (q 25, .inl (cI, 9, .inl (fun _ => 0))), (q 26, .inl (cI, 9, .inl (fun _ => 0))), (q 27, .inl (cI, 3, .inl (fun _ => 0))), (q 28, .inl (cI, 3, .inl (fun _ => 0)))] (skV D (skT cI cJ cC cZ cS) (fun (u : va_W) => u = [(q 0, .inr (10, [.ref (q 20), .int 0])), (q 2, .inr (6, [.ref (q 0), .int 0, .int 0, .int 0, .int (-2), .int 0, .int 1, .int 0]))])) := by
  refine skM_of (by decide) (Nat.le_of_ble_eq_true rfl) ?_
  intro p e s m below meth c A ls E hP hD hl
  obtain ⟨hx, hb, hr, hml, hlocks, hin, hown, hts, hK, hA⟩ := E
  have hown : s.vm.findClass RX3 = some m.cls := hown
  have hS : va_S A s.heap s.heap [] := va_S.rf
  have hl : lv_has ls 2 [(0, .ref (q 3)), (1, .ref (q 6))] := hl
  refine lv_aload_n hx hb dX3_read_0 rfl (lv_at hl 1 rfl) ?_
  refine sk_Vv (q0 := 0) (n := 0) (rest := []) (wr := [(q 3, .inr (3, [.ref (q 2), .ref (q 22), .ref (q 23)])), (q 2, .inr (6, [.ref (q 0), .int 0, .int 0, .int 0, .int (-1), .int 0, .int 0, .int (-1)])), (q 0, .inr (10, [.ref (q 20), .int 0])), (q 29, .inl (cI, 1600, .inl (fun _ => 0)))]) ⟨hx, hb, hml, hown, hts⟩ hl.1 (c_lock_clear l D cI cJ cC cZ cS q) w_2_210 w_2_211 w_2_212 w_1_9 w_2_213 (by decide +kernel) ⟨⟨(Nat.le_of_ble_eq_true rfl), (Nat.le_of_ble_eq_true rfl)⟩, (Nat.le_of_ble_eq_true rfl), (Nat.le_of_ble_eq_true rfl)⟩ hK hP hD hS hA [3, 4, 6, 7, 8, 9] [0, 1, 2, 5] rfl rfl (by decide) (by decide) (by decide) rfl rfl rfl rfl (Nat.le_of_ble_eq_true rfl) dX3_read_1 (fun u H locs hw hP hD hS => ?_)
  obtain rfl := hw
  have hP : va_P D vwCl [(q 3, .inr (3, [.ref (q 2), .ref (q 22), .ref (q 23)])), (q 2, .inr (6, [.ref (q 0), .int 0, .int 0, .int 0, .int (-1), .int 0, .int 0, .int (-1)])), (q 0, .inr (10, [.ref (q 20), .int 0])), (q 29, .inl (cI, 1600, .inl (fun _ => 0))), (q 6, .inr (2, [.ref (q 24), .ref (q 25), .ref (q 26), .ref (q 27), .ref (q 28), .int 0, .int 0, .int 0, .int 0, .int 0])), (q 24, .inr (0, [.ref (q 29), .ref (q 30), .ref (q 31), .ref (q 32), .int 0, .int 0])), (q 25, .inl (cI, 9, .inl (fun _ => 0))), (q 26, .inl (cI, 9, .inl (fun _ => 0))), (q 27, .inl (cI, 3, .inl (fun _ => 0))), (q 28, .inl (cI, 3, .inl (fun _ => 0)))] H := hP
  have hD : va_D A [(q 3, .inr (3, [.ref (q 2), .ref (q 22), .ref (q 23)])), (q 2, .inr (6, [.ref (q 0), .int 0, .int 0, .int 0, .int (-1), .int 0, .int 0, .int (-1)])), (q 0, .inr (10, [.ref (q 20), .int 0])), (q 29, .inl (cI, 1600, .inl (fun _ => 0))), (q 6, .inr (2, [.ref (q 24), .ref (q 25), .ref (q 26), .ref (q 27), .ref (q 28), .int 0, .int 0, .int 0, .int 0, .int 0])), (q 24, .inr (0, [.ref (q 29), .ref (q 30), .ref (q 31), .ref (q 32), .int 0, .int 0])), (q 25, .inl (cI, 9, .inl (fun _ => 0))), (q 26, .inl (cI, 9, .inl (fun _ => 0))), (q 27, .inl (cI, 3, .inl (fun _ => 0))), (q 28, .inl (cI, 3, .inl (fun _ => 0)))] := hD
  refine W.widen (k := 0) (n := 0) (Nat.le_of_ble_eq_true rfl) (Nat.le_of_ble_eq_true rfl) ?_
  refine lv_aload_n hx hb dX3_read_4 rfl (lv_at hl 0 rfl) ?_
  refine sk_get (v := .ref (q 2)) (C := RX3) (T := TX3) (N := 3) hx hb hts inlX3 hown hK hP 0 rfl rfl 0 (by decide) w_1_107 rfl dX3_read_5 ?_
  refine sk_Vv (q0 := 0) (n := 0) (rest := []) (wr := [(q 3, .inr (3, [.ref (q 2), .ref (q 22), .ref (q 23)])), (q 29, .inl (cI, 1600, .inl (fun _ => 0))), (q 6, .inr (2, [.ref (q 24), .ref (q 25), .ref (q 26), .ref (q 27), .ref (q 28), .int 0, .int 0, .int 0, .int 0, .int 0])), (q 24, .inr (0, [.ref (q 29), .ref (q 30), .ref (q 31), .ref (q 32), .int 0, .int 0])), (q 25, .inl (cI, 9, .inl (fun _ => 0))), (q 26, .inl (cI, 9, .inl (fun _ => 0))), (q 27, .inl (cI, 3, .inl (fun _ => 0))), (q 28, .inl (cI, 3, .inl (fun _ => 0)))]) ⟨hx, hb, hml, hown, hts⟩ hl.1 (c_rd_begin l D cI cJ cC cZ cS q) w_2_221 w_2_222 w_2_223 w_1_4 w_2_224 (by decide +kernel) ⟨⟨(Nat.le_of_ble_eq_true rfl), (Nat.le_of_ble_eq_true rfl)⟩, (Nat.le_of_ble_eq_true rfl), (Nat.le_of_ble_eq_true rfl)⟩ hK hP hD hS hA [1, 2] [0, 3, 4, 5, 6, 7, 8, 9] rfl rfl (by decide) (by decide) (by decide) rfl rfl rfl rfl (Nat.le_of_ble_eq_true rfl) dX3_read_8 (fun u H locs hw hP hD hS => ?_)
  obtain rfl := hw
  have hP : va_P D vwCl [(q 3, .inr (3, [.ref (q 2), .ref (q 22), .ref (q 23)])), (q 29, .inl (cI, 1600, .inl (fun _ => 0))), (q 6, .inr (2, [.ref (q 24), .ref (q 25), .ref (q 26), .ref (q 27), .ref (q 28), .int 0, .int 0, .int 0, .int 0, .int 0])), (q 24, .inr (0, [.ref (q 29), .ref (q 30), .ref (q 31), .ref (q 32), .int 0, .int 0])), (q 25, .inl (cI, 9, .inl (fun _ => 0))), (q 26, .inl (cI, 9, .inl (fun _ => 0))), (q 27, .inl (cI, 3, .inl (fun _ => 0))), (q 28, .inl (cI, 3, .inl (fun _ => 0))), (q 2, .inr (6, [.ref (q 0), .int 0, .int 0, .int 0, .int (-1), .int 0, .int 0, .int (-1)])), (q 0, .inr (10, [.ref (q 20), .int 0]))] H := hP
  have hD : va_D A [(q 3, .inr (3, [.ref (q 2), .ref (q 22), .ref (q 23)])), (q 29, .inl (cI, 1600, .inl (fun _ => 0))), (q 6, .inr (2, [.ref (q 24), .ref (q 25), .ref (q 26), .ref (q 27), .ref (q 28), .int 0, .int 0, .int 0, .int 0, .int 0])), (q 24, .inr (0, [.ref (q 29), .ref (q 30), .ref (q 31), .ref (q 32), .int 0, .int 0])), (q 25, .inl (cI, 9, .inl (fun _ => 0))), (q 26, .inl (cI, 9, .inl (fun _ => 0))), (q 27, .inl (cI, 3, .inl (fun _ => 0))), (q 28, .inl (cI, 3, .inl (fun _ => 0))), (q 2, .inr (6, [.ref (q 0), .int 0, .int 0, .int 0, .int (-1), .int 0, .int 0, .int (-1)])), (q 0, .inr (10, [.ref (q 20), .int 0]))] := hD
  refine W.widen (k := 0) (n := 0) (Nat.le_of_ble_eq_true rfl) (Nat.le_of_ble_eq_true rfl) ?_
  refine lv_aload_n hx hb dX3_read_11 rfl (lv_at hl 0 rfl) ?_
  refine lv_aload_n hx hb dX3_read_12 rfl (lv_at hl 1 rfl) ?_
  refine sk_Vv (q0 := 0) (n := 1) (rest := []) (wr := [(q 29, .inl (cI, 1600, .inl (fun _ => 0))), (q 24, .inr (0, [.ref (q 29), .ref (q 30), .ref (q 31), .ref (q 32), .int 0, .int 0])), (q 25, .inl (cI, 9, .inl (fun _ => 0))), (q 26, .inl (cI, 9, .inl (fun _ => 0))), (q 27, .inl (cI, 3, .inl (fun _ => 0))), (q 28, .inl (cI, 3, .inl (fun _ => 0))), (q 0, .inr (10, [.ref (q 20), .int 0]))]) ⟨hx, hb, hml, hown, hts⟩ hl.1 (c_lt_opening l D cI cJ cC cZ cS q) w_3_46 w_3_48 w_0_4 w_1_5 w_3_49 (by decide +kernel) ⟨⟨(Nat.le_of_ble_eq_true rfl), (Nat.le_of_ble_eq_true rfl)⟩, (Nat.le_of_ble_eq_true rfl), (Nat.le_of_ble_eq_true rfl)⟩ hK hP hD hS hA [0, 8, 2] [1, 3, 4, 5, 6, 7, 9] rfl rfl (by decide) (by decide) (by decide) rfl rfl rfl rfl (Nat.le_of_ble_eq_true rfl) dX3_read_13 (fun u H locs hw hP hD hS => ?_)
  obtain rfl := hw
  have hP : va_P D vwCl [(q 29, .inl (cI, 1600, .inl (fun _ => 0))), (q 24, .inr (0, [.ref (q 29), .ref (q 30), .ref (q 31), .ref (q 32), .int 0, .int 0])), (q 25, .inl (cI, 9, .inl (fun _ => 0))), (q 26, .inl (cI, 9, .inl (fun _ => 0))), (q 27, .inl (cI, 3, .inl (fun _ => 0))), (q 28, .inl (cI, 3, .inl (fun _ => 0))), (q 0, .inr (10, [.ref (q 20), .int 0])), (q 3, .inr (3, [.ref (q 2), .ref (q 22), .ref (q 23)])), (q 2, .inr (6, [.ref (q 0), .int 0, .int 0, .int 0, .int (-2), .int 0, .int 1, .int 0])), (q 6, .inr (2, [.ref (q 24), .ref (q 25), .ref (q 26), .ref (q 27), .ref (q 28), .int 2, .int 0, .int 0, .int 0, .int 1]))] H := hP
  have hD : va_D A [(q 29, .inl (cI, 1600, .inl (fun _ => 0))), (q 24, .inr (0, [.ref (q 29), .ref (q 30), .ref (q 31), .ref (q 32), .int 0, .int 0])), (q 25, .inl (cI, 9, .inl (fun _ => 0))), (q 26, .inl (cI, 9, .inl (fun _ => 0))), (q 27, .inl (cI, 3, .inl (fun _ => 0))), (q 28, .inl (cI, 3, .inl (fun _ => 0))), (q 0, .inr (10, [.ref (q 20), .int 0])), (q 3, .inr (3, [.ref (q 2), .ref (q 22), .ref (q 23)])), (q 2, .inr (6, [.ref (q 0), .int 0, .int 0, .int 0, .int (-2), .int 0, .int 1, .int 0])), (q 6, .inr (2, [.ref (q 24), .ref (q 25), .ref (q 26), .ref (q 27), .ref (q 28), .int 2, .int 0, .int 0, .int 0, .int 1]))] := hD
  refine W.widen (k := 0) (n := 0) (Nat.le_of_ble_eq_true rfl) (Nat.le_of_ble_eq_true rfl) ?_
  refine lv_aload_n hx hb dX3_read_16 rfl (lv_at hl 1 rfl) ?_
  refine sk_get (v := .int 1) (C := RX2) (T := TX2) (N := 10) hx hb hts inlX2 hown hK hP 9 rfl rfl 9 (by decide) w_1_201 rfl dX3_read_17 ?_
  refine lv_bipush (v := 60) hx hb dX3_read_20 (by decide) ?_
  refine lv_icmp_ge (tgt := 146) hx hb dX3_read_22 (by decide) (fun c => absurd c (by decide)) (fun c_1 => ?_)
  refine lv_aload_n hx hb dX3_read_25 rfl (lv_at hl 0 rfl) ?_
  refine sk_get (v := .ref (q 2)) (C := RX3) (T := TX3) (N := 3) hx hb hts inlX3 hown hK hP 7 rfl rfl 0 (by decide) w_1_107 rfl dX3_read_26 ?_
  refine sk_get (v := .int 1) (C := RX6) (T := TX6) (N := 8) hx hb hts inlX6 hown hK hP 8 rfl rfl 6 (by decide) w_1_67 rfl dX3_read_29 ?_
  refine lv_if_ne (tgt := 146) hx hb dX3_read_32 (by decide) (fun c_2 => ?_) (fun c => absurd c (by decide))
  refine lv_aload_n hx hb dX3_read_146 rfl (lv_at hl 0 rfl) ?_
  refine sk_get (v := .ref (q 2)) (C := RX3) (T := TX3) (N := 3) hx hb hts inlX3 hown hK hP 7 rfl rfl 0 (by decide) w_1_107 rfl dX3_read_147 ?_
  refine sk_get (v := .int 1) (C := RX6) (T := TX6) (N := 8) hx hb hts inlX6 hown hK hP 8 rfl rfl 6 (by decide) w_1_67 rfl dX3_read_150 ?_
  refine lv_if_ne (tgt := 182) hx hb dX3_read_153 (by decide) (fun c_3 => ?_) (fun c => absurd c (by decide))
  refine lv_aload_n hx hb dX3_read_182 rfl (lv_at hl 1 rfl) ?_
  refine sk_Vv (q0 := 0) (n := 0) (rest := []) (wr := [(q 25, .inl (cI, 9, .inl (fun _ => 0))), (q 26, .inl (cI, 9, .inl (fun _ => 0))), (q 0, .inr (10, [.ref (q 20), .int 0])), (q 3, .inr (3, [.ref (q 2), .ref (q 22), .ref (q 23)])), (q 2, .inr (6, [.ref (q 0), .int 0, .int 0, .int 0, .int (-2), .int 0, .int 1, .int 0]))]) ⟨hx, hb, hml, hown, hts⟩ hl.1 (c_lk_addUntold l D cI cJ cC cZ cS q) w_3_140 w_3_141 w_3_142 w_1_9 w_3_143 (by decide +kernel) ⟨⟨(Nat.le_of_ble_eq_true rfl), (Nat.le_of_ble_eq_true rfl)⟩, (Nat.le_of_ble_eq_true rfl), (Nat.le_of_ble_eq_true rfl)⟩ hK hP hD hS hA [9, 1, 0, 4, 5] [2, 3, 6, 7, 8] rfl rfl (by decide) (by decide) (by decide) rfl rfl rfl rfl (Nat.le_of_ble_eq_true rfl) dX3_read_183 (fun u H locs hw hP hD hS => ?_)
  obtain rfl := hw
  have hP : va_P D vwCl [(q 25, .inl (cI, 9, .inl (fun _ => 0))), (q 26, .inl (cI, 9, .inl (fun _ => 0))), (q 0, .inr (10, [.ref (q 20), .int 0])), (q 3, .inr (3, [.ref (q 2), .ref (q 22), .ref (q 23)])), (q 2, .inr (6, [.ref (q 0), .int 0, .int 0, .int 0, .int (-2), .int 0, .int 1, .int 0]))] H := hP
  have hD : va_D A [(q 25, .inl (cI, 9, .inl (fun _ => 0))), (q 26, .inl (cI, 9, .inl (fun _ => 0))), (q 0, .inr (10, [.ref (q 20), .int 0])), (q 3, .inr (3, [.ref (q 2), .ref (q 22), .ref (q 23)])), (q 2, .inr (6, [.ref (q 0), .int 0, .int 0, .int 0, .int (-2), .int 0, .int 1, .int 0]))] := hD
  refine W.widen (k := 0) (n := 0) (Nat.le_of_ble_eq_true rfl) (Nat.le_of_ble_eq_true rfl) ?_
  have hP := hP.sub (ws' := [(q 0, .inr (10, [.ref (q 20), .int 0])), (q 2, .inr (6, [.ref (q 0), .int 0, .int 0, .int 0, .int (-2), .int 0, .int 1, .int 0]))]) [2, 4] rfl
  have hD := hD.sub (ws' := [(q 0, .inr (10, [.ref (q 20), .int 0])), (q 2, .inr (6, [.ref (q 0), .int 0, .int 0, .int 0, .int (-2), .int 0, .int 1, .int 0]))]) [2, 4] (by decide) rfl
  exact sk_vret hx hb hr hlocks hK hP hD hS rfl (Nat.le_of_ble_eq_true rfl) (Nat.le_of_ble_eq_true rfl) dX3_read_186
theorem dX11_lock_0 : decode cX11_lock 0 = .ok (.aload_n 0, 1) := by decide +kernel
theorem dX11_lock_1 : decode cX11_lock 1 = .ok (.getfield 35, 3) := by decide +kernel
theorem dX11_lock_4 : decode cX11_lock 4 = .ok (.aload_n 0, 1) := by decide +kernel
theorem dX11_lock_5 : decode cX11_lock 5 = .ok (.getfield 53, 3) := by decide +kernel
theorem dX11_lock_8 : decode cX11_lock 8 = .ok (.invokevirtual 124, 3) := by decide +kernel
theorem dX11_lock_11 : decode cX11_lock 11 = .ok (.aload_n 0, 1) := by decide +kernel
theorem dX11_lock_12 : decode cX11_lock 12 = .ok (.getfield 12, 3) := by decide +kernel
theorem dX11_lock_15 : decode cX11_lock 15 = .ok (.iconst 0, 1) := by decide +kernel
theorem dX11_lock_16 : decode cX11_lock 16 = .ok (.putfield 110, 3) := by decide +kernel
theorem dX11_lock_19 : decode cX11_lock 19 = .ok (.aload_n 0, 1) := by decide +kernel
theorem dX11_lock_20 : decode cX11_lock 20 = .ok (.getfield 26, 3) := by decide +kernel
theorem dX11_lock_23 : decode cX11_lock 23 = .ok (.getfield 128, 3) := by decide +kernel
theorem dX11_lock_26 : decode cX11_lock 26 = .ok (.ifCond .eq 9, 3) := by decide +kernel
theorem dX11_lock_29 : decode cX11_lock 29 = .ok (.aload_n 0, 1) := by decide +kernel
theorem dX11_lock_30 : decode cX11_lock 30 = .ok (.iconst 1, 1) := by decide +kernel
theorem dX11_lock_31 : decode cX11_lock 31 = .ok (.invokevirtual 113, 3) := by decide +kernel
theorem dX11_lock_34 : decode cX11_lock 34 = .ok (.ireturn, 1) := by decide +kernel
theorem w_2_206 : (Cond.methodLink RX11 124 yX3_read) ∈ wsL_law := sk_mem (ck_2 _ (List.mem_of_getElem? (i := 206) rfl)) rfl
theorem w_2_207 : (Cond.instanceMethod yX3_read) ∈ wsL_law := sk_mem (ck_2 _ (List.mem_of_getElem? (i := 207) rfl)) rfl
theorem w_2_208 : (Cond.selects RX3 yX3_read yX3_read) ∈ wsL_law := sk_mem (ck_2 _ (List.mem_of_getElem? (i := 208) rfl)) rfl
theorem w_1_68 : (Cond.fieldLink RX11 128 "SameKeeper$Reader" "fault" "I") ∈ wsL_law := sk_mem (ck_1 _ (List.mem_of_getElem? (i := 68) rfl)) rfl
theorem w_2_182 : (Cond.methodLink RX11 113 yX11_refuse) ∈ wsL_law := sk_mem (ck_2 _ (List.mem_of_getElem? (i := 182) rfl)) rfl
theorem w_2_184 : (Cond.instanceMethod yX11_refuse) ∈ wsL_law := sk_mem (ck_2 _ (List.mem_of_getElem? (i := 184) rfl)) rfl
theorem w_0_0 : (Cond.selects RX11 yX11_refuse yX11_refuse) ∈ wsL_law := sk_mem (ck_0 _ (List.mem_of_getElem? (i := 0) rfl)) rfl
theorem w_2_205 : (Cond.code yX11_lock cX11_lock 2 (some .int)) ∈ wsL_law := sk_mem (ck_2 _ (List.mem_of_getElem? (i := 205) rfl)) rfl
set_option maxHeartbeats 4000000 in
set_option maxRecDepth 100000 in
theorem c_x_lock (l : Launch) (D : va_G) (cI cJ cC cZ cS : ClassId) (x0 : Nat) (q : Nat → Nat)  : skM l yX11_lock cX11_lock 2 (some .int) 5 107 0 0 D (skT cI cJ cC cZ cS) [.ref x0] [(x0, .inr (11, [.ref (q 0), .ref (q 1), .ref (q 2), .ref (q 3), .ref (q 4), .ref (q 5), .ref (q 6), .ref (q 7), .ref (q 8), .ref (q 9), .ref (q 10), .ref (q 11), .ref (q 12), .ref (q 13), .ref (q 14), .int 0, .ref (q 16), .long 1])), (q 16, .inl (cI, 6, .inl (fun _ => 0))), (q 3, .inr (3, [.ref (q 2), .ref (q 22), .ref (q 23)])), (q 2, .inr (6, [.ref (q 0), .int 0, .int 0, .int 0, .int (-1), .int 0, .int 0, .int (-1)])), (q 0, .inr (10, [.ref (q 20), .int 0])), (q 6, .inr (2, [.ref (q 24), .ref (q 25), .ref (q 26), .ref (q 27), .ref (q 28), .int 0, .int 0, .int 0, .int 0, .int 0])), (q 24, .inr (0, [.ref (q 29), .ref (q 30), .ref (q 31), .ref (q 32), .int 0, .int 0])), (q 29, .inl (cI, 1600, .inl (fun _ => 0))), (q 25, .inl (cI, 9, .inl (fun _ => 0))), (q 26, .inl (cI, 9, .inl (fun _ => 0))), (q 27, .inl (cI, 3, .inl (fun _ => 0))), (q 28, .inl (cI, 3, .inl (fun _ => 0)))] (skI D (skT cI cJ cC cZ cS) (fun (r : Int32) (u : va_W) => r = -1 ∧ u = [])) := by
  refine skM_of (by decide) (Nat.le_of_ble_eq_true rfl) ?_
  intro p e s m below meth c A ls E hP hD hl
  obtain ⟨hx, hb, hr, hml, hlocks, hin, hown, hts, hK, hA⟩ := E
  have hown : s.vm.findClass RX11 = some m.cls := hown
  have hS : va_S A s.heap s.heap [] := va_S.rf
  have hl : lv_has ls 2 [(0, .ref x0)] := hl
  refine lv_aload_n hx hb dX11_lock_0 rfl (lv_at hl 0 rfl) ?_
  refine sk_get (v := .ref (q 3)) (C := RX11) (T := TX11) (N := 18) hx hb hts inlX11 hown hK hP 0 rfl rfl 3 (by decide) w_2_126 rfl dX11_lock_1 ?_
  refine lv_aload_n hx hb dX11_lock_4 rfl (lv_at hl 0 rfl) ?_
  refine sk_get (v := .ref (q 6)) (C := RX11) (T := TX11) (N := 18) hx hb hts inlX11 hown hK hP 0 rfl rfl 6 (by decide) w_2_129 rfl dX11_lock_5 ?_
  refine sk_Vv (q0 := 0) (n := 1) (rest := []) (wr := [(x0, .inr (11, [.ref (q 0), .ref (q 1), .ref (q 2), .ref (q 3), .ref (q 4), .ref (q 5), .ref (q 6), .ref (q 7), .ref (q 8), .ref (q 9), .ref (q 10), .ref (q 11), .ref (q 12), .ref (q 13), .ref (q 14), .int 0, .ref (q 16), .long 1])), (q 16, .inl (cI, 6, .inl (fun _ => 0)))]) ⟨hx, hb, hml, hown, hts⟩ hl.1 (c_lt_read l D cI cJ cC cZ cS q) w_2_206 w_2_207 w_2_208 w_1_5 w_2_209 (by decide +kernel) ⟨⟨(Nat.le_of_ble_eq_true rfl), (Nat.le_of_ble_eq_true rfl)⟩, (Nat.le_of_ble_eq_true rfl), (Nat.le_of_ble_eq_true rfl)⟩ hK hP hD hS hA [2, 3, 4, 5, 6, 7, 8, 9, 10, 11] [0, 1] rfl rfl (by decide) (by decide) (by decide) rfl rfl rfl rfl (Nat.le_of_ble_eq_true rfl) dX11_lock_8 (fun u H locs hw hP hD hS => ?_)
  obtain rfl := hw
  have hP : va_P D vwCl [(x0, .inr (11, [.ref (q 0), .ref (q 1), .ref (q 2), .ref (q 3), .ref (q 4), .ref (q 5), .ref (q 6), .ref (q 7), .ref (q 8), .ref (q 9), .ref (q 10), .ref (q 11), .ref (q 12), .ref (q 13), .ref (q 14), .int 0, .ref (q 16), .long 1])), (q 16, .inl (cI, 6, .inl (fun _ => 0))), (q 0, .inr (10, [.ref (q 20), .int 0])), (q 2, .inr (6, [.ref (q 0), .int 0, .int 0, .int 0, .int (-2), .int 0, .int 1, .int 0]))] H := hP
  have hD : va_D A [(x0, .inr (11, [.ref (q 0), .ref (q 1), .ref (q 2), .ref (q 3), .ref (q 4), .ref (q 5), .ref (q 6), .ref (q 7), .ref (q 8), .ref (q 9), .ref (q 10), .ref (q 11), .ref (q 12), .ref (q 13), .ref (q 14), .int 0, .ref (q 16), .long 1])), (q 16, .inl (cI, 6, .inl (fun _ => 0))), (q 0, .inr (10, [.ref (q 20), .int 0])), (q 2, .inr (6, [.ref (q 0), .int 0, .int 0, .int 0, .int (-2), .int 0, .int 1, .int 0]))] := hD
  refine W.widen (k := 0) (n := 0) (Nat.le_of_ble_eq_true rfl) (Nat.le_of_ble_eq_true rfl) ?_
  refine lv_aload_n hx hb dX11_lock_11 rfl (lv_at hl 0 rfl) ?_
  refine sk_get (v := .ref (q 0)) (C := RX11) (T := TX11) (N := 18) hx hb hts inlX11 hown hK hP 0 rfl rfl 0 (by decide) w_2_123 rfl dX11_lock_12 ?_
  refine lv_iconst (v := 0) hx hb dX11_lock_15 (by decide) ?_
  refine sk_put (ws' := [(x0, .inr (11, [.ref (q 0), .ref (q 1), .ref (q 2), .ref (q 3), .ref (q 4), .ref (q 5), .ref (q 6), .ref (q 7), .ref (q 8), .ref (q 9), .ref (q 10), .ref (q 11), .ref (q 12), .ref (q 13), .ref (q 14), .int 0, .ref (q 16), .long 1])), (q 16, .inl (cI, 6, .inl (fun _ => 0))), (q 0, .inr (10, [.ref (q 20), .int 0])), (q 2, .inr (6, [.ref (q 0), .int 0, .int 0, .int 0, .int (-2), .int 0, .int 1, .int 0]))]) (C := RX10) (T := TX10) (N := 2) (v := .int 0) hx hb hts inlX10 tyX10 tyX10_ok nmX10 hown hK hP hD hS 2 rfl rfl 1 (by decide) w_1_42 rfl rfl rfl (Nat.le_of_ble_eq_true rfl) rfl dX11_lock_16 (fun H locs hP hD hS => ?_)
  refine lv_aload_n hx hb dX11_lock_19 rfl (lv_at hl 0 rfl) ?_
  refine sk_get (v := .ref (q 2)) (C := RX11) (T := TX11) (N := 18) hx hb hts inlX11 hown hK hP 0 rfl rfl 2 (by decide) w_2_125 rfl dX11_lock_20 ?_
  refine sk_get (v := .int 1) (C := RX6) (T := TX6) (N := 8) hx hb hts inlX6 hown hK hP 3 rfl rfl 6 (by decide) w_1_68 rfl dX11_lock_23 ?_
  refine lv_if_eq (tgt := 35) hx hb dX11_lock_26 (by decide) (fun c => absurd c (by decide)) (fun c_1 => ?_)
  refine lv_aload_n hx hb dX11_lock_29 rfl (lv_at hl 0 rfl) ?_
  refine lv_iconst (v := 1) hx hb dX11_lock_30 (by decide) ?_
  refine sk_Vi (q0 := 0) (n := 1) (rest := []) (wr := [(q 0, .inr (10, [.ref (q 20), .int 0])), (q 2, .inr (6, [.ref (q 0), .int 0, .int 0, .int 0, .int (-2), .int 0, .int 1, .int 0]))]) ⟨hx, hb, hml, hown, hts⟩ hl.1 (c_x_refuse l D cI cJ cC cZ cS x0 q 1 (fun _ => 0) (by unfold vp_in; decide)) w_2_182 w_2_184 w_0_0 w_1_1 w_2_185 (by decide +kernel) ⟨⟨(Nat.le_of_ble_eq_true rfl), (Nat.le_of_ble_eq_true rfl)⟩, (Nat.le_of_ble_eq_true rfl), (Nat.le_of_ble_eq_true rfl)⟩ hK hP hD hS hA [0, 1] [2, 3] rfl rfl (by decide) (by decide) (by decide) rfl rfl rfl rfl (Nat.le_of_ble_eq_true rfl) dX11_lock_31 (fun r_3 u H locs hw hP hD hS => ?_)
  obtain ⟨f2_2, rfl, rfl⟩ := hw
  have hP : va_P D vwCl [(q 0, .inr (10, [.ref (q 20), .int 0])), (q 2, .inr (6, [.ref (q 0), .int 0, .int 0, .int 0, .int (-2), .int 0, .int 1, .int 0])), (x0, .inr (11, [.ref (q 0), .ref (q 1), .ref (q 2), .ref (q 3), .ref (q 4), .ref (q 5), .ref (q 6), .ref (q 7), .ref (q 8), .ref (q 9), .ref (q 10), .ref (q 11), .ref (q 12), .ref (q 13), .ref (q 14), .int 0, .ref (q 16), .long 1])), (q 16, .inl (cI, 6, .inl f2_2))] H := hP
  have hD : va_D A [(q 0, .inr (10, [.ref (q 20), .int 0])), (q 2, .inr (6, [.ref (q 0), .int 0, .int 0, .int 0, .int (-2), .int 0, .int 1, .int 0])), (x0, .inr (11, [.ref (q 0), .ref (q 1), .ref (q 2), .ref (q 3), .ref (q 4), .ref (q 5), .ref (q 6), .ref (q 7), .ref (q 8), .ref (q 9), .ref (q 10), .ref (q 11), .ref (q 12), .ref (q 13), .ref (q 14), .int 0, .ref (q 16), .long 1])), (q 16, .inl (cI, 6, .inl f2_2))] := hD
  refine W.widen (k := 0) (n := 0) (Nat.le_of_ble_eq_true rfl) (Nat.le_of_ble_eq_true rfl) ?_
  have hP := hP.sub (ws' := []) [] rfl
  have hD := hD.sub (ws' := []) [] (by decide) rfl
  exact sk_iret hx hb hr rfl hlocks hK hP hD hS (⟨rfl, rfl⟩) (Nat.le_of_ble_eq_true rfl) (Nat.le_of_ble_eq_true rfl) dX11_lock_34
