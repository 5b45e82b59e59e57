def sp_end (n : Int32) : Int32 := if n < 0 then 0 else if n ≤ 0 then 1 else 0
def sp_fault (w : Int32) : Int32 := if w = 0 then 0 else -1
def sp_has (w : Int32) : Int32 := if w = 0 then 0 else if w = 1 then 0 else if w = 2 then 0 else if w = 3 then 0 else if w = 4 then 0 else if w = 5 then 0 else if w = 6 then 0 else -1
def sp_seed (n : Int32) : Int32 := if 0 ≤ n then 1 else 0
def sp_status (w : Int32) : Int32 := if w < 0 then -1 else if 6 ≤ w then -1 else 0
theorem dX11_isDay_0 : decode cX11_isDay 0 = .ok (.iload_n 1, 1) := by decide +kernel
theorem dX11_isDay_1 : decode cX11_isDay 1 = .ok (.ifCond .lt 18, 3) := by decide +kernel
theorem dX11_isDay_19 : decode cX11_isDay 19 = .ok (.iconst 0, 1) := by decide +kernel
theorem dX11_isDay_20 : decode cX11_isDay 20 = .ok (.ireturn, 1) := by decide +kernel
theorem dX11_isDay_4 : decode cX11_isDay 4 = .ok (.iload_n 1, 1) := by decide +kernel
theorem dX11_isDay_5 : decode cX11_isDay 5 = .ok (.aload_n 0, 1) := by decide +kernel
theorem dX11_isDay_6 : decode cX11_isDay 6 = .ok (.getfield 59, 3) := by decide +kernel
theorem dX11_isDay_9 : decode cX11_isDay 9 = .ok (.getfield 144, 3) := by decide +kernel
theorem dX11_isDay_12 : decode cX11_isDay 12 = .ok (.if_icmp .ge 7, 3) := by decide +kernel
theorem w_2_1 : (Cond.fieldLink RX11 144 "SameKeeper$State" "days" "I") ∈ wsL_law := sk_mem (ck_2 _ (List.mem_of_getElem? (i := 1) rfl)) rfl
theorem w_3_193 : (Cond.code yX11_isDay cX11_isDay 2 (some .boolean)) ∈ wsL_law := sk_mem (ck_3 _ (List.mem_of_getElem? (i := 193) rfl)) rfl
set_option maxHeartbeats 4000000 in
set_option maxRecDepth 100000 in
theorem c_x_isDay (l : Launch) (D : va_G) (cI cJ cC cZ cS : ClassId) (x0 : Nat) (q : Nat → Nat) (d : Int32)  : skM l yX11_isDay cX11_isDay 2 (some .boolean) 0 0 0 0 D (skT cI cJ cC cZ cS) [.ref x0, .int d] [(x0, .inr (11, [.ref (q 0), .ref (q 1), .ref (q 2), .ref (q 3), .ref (q 4), .ref (q 5), .ref (q 6), .ref (q 7), .ref (q 8), .ref (q 9), .ref (q 10), .ref (q 11), .ref (q 12), .ref (q 13), .ref (q 14), .int 0, .ref (q 16), .long 1])), (q 7, .inr (7, [.ref (q 33), .ref (q 34), .int 0, .int 0, .int 0, .int 0, .int 0]))] (skI D (skT cI cJ cC cZ cS) (fun (r : Int32) (u : va_W) => r = 0 ∧ u = [(x0, .inr (11, [.ref (q 0), .ref (q 1), .ref (q 2), .ref (q 3), .ref (q 4), .ref (q 5), .ref (q 6), .ref (q 7), .ref (q 8), .ref (q 9), .ref (q 10), .ref (q 11), .ref (q 12), .ref (q 13), .ref (q 14), .int 0, .ref (q 16), .long 1])), (q 7, .inr (7, [.ref (q 33), .ref (q 34), .int 0, .int 0, .int 0, .int 0, .int 0]))])) := by
  refine skM_of (by decide) (Nat.le_of_ble_eq_true rfl) ?_
  intro p e s m below meth c A ls E hP hD hl
  obtain ⟨hx, hb, hr, hml, hlocks, hin, hown, hts, hK, hA⟩ := E
  have hown : s.vm.findClass RX11 = some m.cls := hown
  have hS : va_S A s.heap s.heap [] := va_S.rf
  have hl : lv_has ls 2 [(0, .ref x0), (1, .int d)] := hl
  refine lv_iload_n hx hb dX11_isDay_0 rfl (lv_at hl 1 rfl) ?_
  refine lv_if_lt (tgt := 19) hx hb dX11_isDay_1 (by decide) (fun c_1 => ?_) (fun c_1 => ?_)
  · refine lv_iconst (v := 0) hx hb dX11_isDay_19 (by decide) ?_
    exact sk_iret hx hb hr rfl hlocks hK hP hD hS (⟨rfl, rfl⟩) (Nat.le_of_ble_eq_true rfl) (Nat.le_of_ble_eq_true rfl) dX11_isDay_20
  · refine lv_iload_n hx hb dX11_isDay_4 rfl (lv_at hl 1 rfl) ?_
    refine lv_aload_n hx hb dX11_isDay_5 rfl (lv_at hl 0 rfl) ?_
    refine sk_get (v := .ref (q 7)) (C := RX11) (T := TX11) (N := 18) hx hb hts inlX11 hown hK hP 0 rfl rfl 7 (by decide) w_2_130 rfl dX11_isDay_6 ?_
    refine sk_get (v := .int 0) (C := RX7) (T := TX7) (N := 7) hx hb hts inlX7 hown hK hP 1 rfl rfl 2 (by decide) w_2_1 rfl dX11_isDay_9 ?_
    refine lv_icmp_ge (tgt := 19) hx hb dX11_isDay_12 (by decide) (fun c_2 => ?_) (fun c => absurd (Int32.not_lt.mp c_1) c)
    refine lv_iconst (v := 0) hx hb dX11_isDay_19 (by decide) ?_
    exact sk_iret hx hb hr rfl hlocks hK hP hD hS (⟨rfl, rfl⟩) (Nat.le_of_ble_eq_true rfl) (Nat.le_of_ble_eq_true rfl) dX11_isDay_20
theorem dX11_isLocked_0 : decode cX11_isLocked 0 = .ok (.aload_n 0, 1) := by decide +kernel
theorem dX11_isLocked_1 : decode cX11_isLocked 1 = .ok (.getfield 59, 3) := by decide +kernel
theorem dX11_isLocked_4 : decode cX11_isLocked 4 = .ok (.getfield 144, 3) := by decide +kernel
theorem dX11_isLocked_7 : decode cX11_isLocked 7 = .ok (.ifCond .le 7, 3) := by decide +kernel
theorem dX11_isLocked_14 : decode cX11_isLocked 14 = .ok (.iconst 0, 1) := by decide +kernel
theorem dX11_isLocked_15 : decode cX11_isLocked 15 = .ok (.ireturn, 1) := by decide +kernel
theorem w_4_42 : (Cond.code yX11_isLocked cX11_isLocked 1 (some .boolean)) ∈ wsL_law := sk_mem (ck_4 _ (List.mem_of_getElem? (i := 42) rfl)) rfl
set_option maxHeartbeats 4000000 in
set_option maxRecDepth 100000 in
theorem c_x_isLocked (l : Launch) (D : va_G) (cI cJ cC cZ cS : ClassId) (x0 : Nat) (q : Nat → Nat)  : skM l yX11_isLocked cX11_isLocked 1 (some .boolean) 0 0 0 0 D (skT cI cJ cC cZ cS) [.ref x0] [(x0, .inr (11, [.ref (q 0), .ref (q 1), .ref (q 2), .ref (q 3), .ref (q 4), .ref (q 5), .ref (q 6), .ref (q 7), .ref (q 8), .ref (q 9), .ref (q 10), .ref (q 11), .ref (q 12), .ref (q 13), .ref (q 14), .int 0, .ref (q 16), .long 1])), (q 7, .inr (7, [.ref (q 33), .ref (q 34), .int 0, .int 0, .int 0, .int 0, .int 0]))] (skI D (skT cI cJ cC cZ cS) (fun (r : Int32) (u : va_W) => r = 0 ∧ u = [(x0, .inr (11, [.ref (q 0), .ref (q 1), .ref (q 2), .ref (q 3), .ref (q 4), .ref (q 5), .ref (q 6), .ref (q 7), .ref (q 8), .ref (q 9), .ref (q 10), .ref (q 11), .ref (q 12), .ref (q 13), .ref (q 14), .int 0, .ref (q 16), .long 1])), (q 7, .inr (7, [.ref (q 33), .ref (q 34), .int 0, .int 0, .int 0, .int 0, .int 0]))])) := by
  refine skM_of (by decide) (Nat.le_of_ble_eq_true rfl) ?_
  intro p e s m below meth c A ls E hP hD hl
  obtain ⟨hx, hb, hr, hml, hlocks, hin, hown, hts, hK, hA⟩ := E
  have hown : s.vm.findClass RX11 = some m.cls := hown
  have hS : va_S A s.heap s.heap [] := va_S.rf
  have hl : lv_has ls 1 [(0, .ref x0)] := hl
  refine lv_aload_n hx hb dX11_isLocked_0 rfl (lv_at hl 0 rfl) ?_
  refine sk_get (v := .ref (q 7)) (C := RX11) (T := TX11) (N := 18) hx hb hts inlX11 hown hK hP 0 rfl rfl 7 (by decide) w_2_130 rfl dX11_isLocked_1 ?_
  refine sk_get (v := .int 0) (C := RX7) (T := TX7) (N := 7) hx hb hts inlX7 hown hK hP 1 rfl rfl 2 (by decide) w_2_1 rfl dX11_isLocked_4 ?_
  refine lv_if_le (tgt := 14) hx hb dX11_isLocked_7 (by decide) (fun c_1 => ?_) (fun c => absurd c (by decide))
  refine lv_iconst (v := 0) hx hb dX11_isLocked_14 (by decide) ?_
  exact sk_iret hx hb hr rfl hlocks hK hP hD hS (⟨rfl, rfl⟩) (Nat.le_of_ble_eq_true rfl) (Nat.le_of_ble_eq_true rfl) dX11_isLocked_15
theorem dX11_refuse_0 : decode cX11_refuse 0 = .ok (.aload_n 0, 1) := by decide +kernel
theorem dX11_refuse_1 : decode cX11_refuse 1 = .ok (.getfield 103, 3) := by decide +kernel
theorem dX11_refuse_4 : decode cX11_refuse 4 = .ok (.iload_n 1, 1) := by decide +kernel
theorem dX11_refuse_5 : decode cX11_refuse 5 = .ok (.dup2, 1) := by decide +kernel
theorem dX11_refuse_6 : decode cX11_refuse 6 = .ok (.iaload, 1) := by decide +kernel
theorem dX11_refuse_7 : decode cX11_refuse 7 = .ok (.iconst 1, 1) := by decide +kernel
theorem dX11_refuse_8 : decode cX11_refuse 8 = .ok (.iadd, 1) := by decide +kernel
theorem dX11_refuse_9 : decode cX11_refuse 9 = .ok (.iastore, 1) := by decide +kernel
theorem dX11_refuse_10 : decode cX11_refuse 10 = .ok (.iconst (-1), 1) := by decide +kernel
theorem dX11_refuse_11 : decode cX11_refuse 11 = .ok (.ireturn, 1) := by decide +kernel
theorem w_2_185 : (Cond.code yX11_refuse cX11_refuse 2 (some .int)) ∈ wsL_law := sk_mem (ck_2 _ (List.mem_of_getElem? (i := 185) rfl)) rfl
set_option maxHeartbeats 4000000 in
set_option maxRecDepth 100000 in
theorem c_x_refuse (l : Launch) (D : va_G) (cI cJ cC cZ cS : ClassId) (x0 : Nat) (q : Nat → Nat) (w : Int32) (f : Nat → Int32) (hw : vp_in w 6) : skM l yX11_refuse cX11_refuse 2 (some .int) 0 0 0 0 D (skT cI cJ cC cZ cS) [.ref x0, .int w] [(x0, .inr (11, [.ref (q 0), .ref (q 1), .ref (q 2), .ref (q 3), .ref (q 4), .ref (q 5), .ref (q 6), .ref (q 7), .ref (q 8), .ref (q 9), .ref (q 10), .ref (q 11), .ref (q 12), .ref (q 13), .ref (q 14), .int 0, .ref (q 16), .long 1])), (q 16, .inl (cI, 6, .inl f))] (skI D (skT cI cJ cC cZ cS) (fun (r : Int32) (u : va_W) => ∃ (f2 : Nat → Int32), r = -1 ∧ u = [(x0, .inr (11, [.ref (q 0), .ref (q 1), .ref (q 2), .ref (q 3), .ref (q 4), .ref (q 5), .ref (q 6), .ref (q 7), .ref (q 8), .ref (q 9), .ref (q 10), .ref (q 11), .ref (q 12), .ref (q 13), .ref (q 14), .int 0, .ref (q 16), .long 1])), (q 16, .inl (cI, 6, .inl f2))])) := by
  refine skM_of (by decide) (Nat.le_of_ble_eq_true rfl) ?_
  intro p e s m below meth c A ls E hP hD hl
  obtain ⟨hx, hb, hr, hml, hlocks, hin, hown, hts, hK, hA⟩ := E
  have hown : s.vm.findClass RX11 = some m.cls := hown
  have hS : va_S A s.heap s.heap [] := va_S.rf
  have hl : lv_has ls 2 [(0, .ref x0), (1, .int w)] := hl
  refine lv_aload_n hx hb dX11_refuse_0 rfl (lv_at hl 0 rfl) ?_
  refine sk_get (v := .ref (q 16)) (C := RX11) (T := TX11) (N := 18) hx hb hts inlX11 hown hK hP 0 rfl rfl 16 (by decide) w_2_139 rfl dX11_refuse_1 ?_
  refine lv_iload_n hx hb dX11_refuse_4 rfl (lv_at hl 1 rfl) ?_
  refine lv_dup2_11 hx hb dX11_refuse_5 rfl rfl ?_
  refine va_iald hx hb hK.1 hP 1 0 rfl rfl hw dX11_refuse_6 ?_
  refine lv_topi (fun v_1 ev_1 => ?_)
  refine lv_iconst (v := 1) hx hb dX11_refuse_7 (by decide) ?_
  refine lv_iadd hx hb dX11_refuse_8 ?_
  refine lv_topi (fun v_2 ev_2 => ?_)
  refine sk_iastO (ws' := fun f_3 => [(x0, .inr (11, [.ref (q 0), .ref (q 1), .ref (q 2), .ref (q 3), .ref (q 4), .ref (q 5), .ref (q 6), .ref (q 7), .ref (q 8), .ref (q 9), .ref (q 10), .ref (q 11), .ref (q 12), .ref (q 13), .ref (q 14), .int 0, .ref (q 16), .long 1])), (q 16, .inl (cI, 6, .inl f_3))]) hx hb hK hP hD hS 1 0 rfl rfl hw (fun _ => rfl) dX11_refuse_9 (fun f_3 H locs hP hD hS => ?_)
  refine lv_iconst (v := (-1)) hx hb dX11_refuse_10 (by decide) ?_
  exact sk_iret hx hb hr rfl hlocks hK hP hD hS (⟨f_3, rfl, rfl⟩) (Nat.le_of_ble_eq_true rfl) (Nat.le_of_ble_eq_true rfl) dX11_refuse_11
theorem dX11_refuseIt_0 : decode cX11_refuseIt 0 = .ok (.aload_n 0, 1) := by decide +kernel
theorem dX11_refuseIt_1 : decode cX11_refuseIt 1 = .ok (.getfield 103, 3) := by decide +kernel
theorem dX11_refuseIt_4 : decode cX11_refuseIt 4 = .ok (.iload_n 1, 1) := by decide +kernel
theorem dX11_refuseIt_5 : decode cX11_refuseIt 5 = .ok (.dup2, 1) := by decide +kernel
theorem dX11_refuseIt_6 : decode cX11_refuseIt 6 = .ok (.iaload, 1) := by decide +kernel
theorem dX11_refuseIt_7 : decode cX11_refuseIt 7 = .ok (.iconst 1, 1) := by decide +kernel
theorem dX11_refuseIt_8 : decode cX11_refuseIt 8 = .ok (.iadd, 1) := by decide +kernel
theorem dX11_refuseIt_9 : decode cX11_refuseIt 9 = .ok (.iastore, 1) := by decide +kernel
theorem dX11_refuseIt_10 : decode cX11_refuseIt 10 = .ok (.iconst 0, 1) := by decide +kernel
theorem dX11_refuseIt_11 : decode cX11_refuseIt 11 = .ok (.ireturn, 1) := by decide +kernel
theorem w_2_201 : (Cond.code yX11_refuseIt cX11_refuseIt 2 (some .boolean)) ∈ wsL_law := sk_mem (ck_2 _ (List.mem_of_getElem? (i := 201) rfl)) rfl
set_option maxHeartbeats 4000000 in
set_option maxRecDepth 100000 in
theorem c_x_refuseIt (l : Launch) (D : va_G) (cI cJ cC cZ cS : ClassId) (x0 : Nat) (q : Nat → Nat) (w : Int32) (f : Nat → Int32) (hw : vp_in w 6) : skM l yX11_refuseIt cX11_refuseIt 2 (some .boolean) 0 0 0 0 D (skT cI cJ cC cZ cS) [.ref x0, .int w] [(x0, .inr (11, [.ref (q 0), .ref (q 1), .ref (q 2), .ref (q 3), .ref (q 4), .ref (q 5), .ref (q 6), .ref (q 7), .ref (q 8), .ref (q 9), .ref (q 10), .ref (q 11), .ref (q 12), .ref (q 13), .ref (q 14), .int 0, .ref (q 16), .long 1])), (q 16, .inl (cI, 6, .inl f))] (skI D (skT cI cJ cC cZ cS) (fun (r : Int32) (u : va_W) => ∃ (f2 : Nat → Int32), r = 0 ∧ u = [(x0, .inr (11, [.ref (q 0), .ref (q 1), .ref (q 2), .ref (q 3), .ref (q 4), .ref (q 5), .ref (q 6), .ref (q 7), .ref (q 8), .ref (q 9), .ref (q 10), .ref (q 11), .ref (q 12), .ref (q 13), .ref (q 14), .int 0, .ref (q 16), .long 1])), (q 16, .inl (cI, 6, .inl f2))])) := by
  refine skM_of (by decide) (Nat.le_of_ble_eq_true rfl) ?_
  intro p e s m below meth c A ls E hP hD hl
  obtain ⟨hx, hb, hr, hml, hlocks, hin, hown, hts, hK, hA⟩ := E
  have hown : s.vm.findClass RX11 = some m.cls := hown
  have hS : va_S A s.heap s.heap [] := va_S.rf
  have hl : lv_has ls 2 [(0, .ref x0), (1, .int w)] := hl
  refine lv_aload_n hx hb dX11_refuseIt_0 rfl (lv_at hl 0 rfl) ?_
  refine sk_get (v := .ref (q 16)) (C := RX11) (T := TX11) (N := 18) hx hb hts inlX11 hown hK hP 0 rfl rfl 16 (by decide) w_2_139 rfl dX11_refuseIt_1 ?_
  refine lv_iload_n hx hb dX11_refuseIt_4 rfl (lv_at hl 1 rfl) ?_
  refine lv_dup2_11 hx hb dX11_refuseIt_5 rfl rfl ?_
  refine va_iald hx hb hK.1 hP 1 0 rfl rfl hw dX11_refuseIt_6 ?_
  refine lv_topi (fun v_1 ev_1 => ?_)
  refine lv_iconst (v := 1) hx hb dX11_refuseIt_7 (by decide) ?_
  refine lv_iadd hx hb dX11_refuseIt_8 ?_
  refine lv_topi (fun v_2 ev_2 => ?_)
  refine sk_iastO (ws' := fun f_3 => [(x0, .inr (11, [.ref (q 0), .ref (q 1), .ref (q 2), .ref (q 3), .ref (q 4), .ref (q 5), .ref (q 6), .ref (q 7), .ref (q 8), .ref (q 9), .ref (q 10), .ref (q 11), .ref (q 12), .ref (q 13), .ref (q 14), .int 0, .ref (q 16), .long 1])), (q 16, .inl (cI, 6, .inl f_3))]) hx hb hK hP hD hS 1 0 rfl rfl hw (fun _ => rfl) dX11_refuseIt_9 (fun f_3 H locs hP hD hS => ?_)
  refine lv_iconst (v := 0) hx hb dX11_refuseIt_10 (by decide) ?_
  exact sk_iret hx hb hr rfl hlocks hK hP hD hS (⟨f_3, rfl, rfl⟩) (Nat.le_of_ble_eq_true rfl) (Nat.le_of_ble_eq_true rfl) dX11_refuseIt_11
theorem dX10_add_0 : decode cX10_add 0 = .ok (.aload_n 0, 1) := by decide +kernel
theorem dX10_add_1 : decode cX10_add 1 = .ok (.getfield 7, 3) := by decide +kernel
theorem dX10_add_4 : decode cX10_add 4 = .ok (.aload_n 0, 1) := by decide +kernel
theorem dX10_add_5 : decode cX10_add 5 = .ok (.getfield 19, 3) := by decide +kernel
theorem dX10_add_8 : decode cX10_add 8 = .ok (.arraylength, 1) := by decide +kernel
theorem dX10_add_9 : decode cX10_add 9 = .ok (.if_icmp .ge 27, 3) := by decide +kernel
theorem dX10_add_12 : decode cX10_add 12 = .ok (.aload_n 0, 1) := by decide +kernel
theorem dX10_add_13 : decode cX10_add 13 = .ok (.getfield 19, 3) := by decide +kernel
theorem dX10_add_16 : decode cX10_add 16 = .ok (.aload_n 0, 1) := by decide +kernel
theorem dX10_add_17 : decode cX10_add 17 = .ok (.getfield 7, 3) := by decide +kernel
theorem dX10_add_20 : decode cX10_add 20 = .ok (.iload_n 1, 1) := by decide +kernel
theorem dX10_add_21 : decode cX10_add 21 = .ok (.sipush 255, 3) := by decide +kernel
theorem dX10_add_24 : decode cX10_add 24 = .ok (.iand, 1) := by decide +kernel
theorem dX10_add_25 : decode cX10_add 25 = .ok (.iastore, 1) := by decide +kernel
theorem dX10_add_26 : decode cX10_add 26 = .ok (.aload_n 0, 1) := by decide +kernel
theorem dX10_add_27 : decode cX10_add 27 = .ok (.dup, 1) := by decide +kernel
theorem dX10_add_28 : decode cX10_add 28 = .ok (.getfield 7, 3) := by decide +kernel
theorem dX10_add_31 : decode cX10_add 31 = .ok (.iconst 1, 1) := by decide +kernel
theorem dX10_add_32 : decode cX10_add 32 = .ok (.iadd, 1) := by decide +kernel
theorem dX10_add_33 : decode cX10_add 33 = .ok (.putfield 7, 3) := by decide +kernel
theorem dX10_add_36 : decode cX10_add 36 = .ok (.return_, 1) := by decide +kernel
theorem w_2_193 : (Cond.code yX10_add cX10_add 2 none) ∈ wsL_law := sk_mem (ck_2 _ (List.mem_of_getElem? (i := 193) rfl)) rfl
set_option maxHeartbeats 4000000 in
set_option maxRecDepth 100000 in
theorem c_Tape_add_1600 (l : Launch) (D : va_G) (cI cJ cC cZ cS : ClassId) (h0 : Nat) (k1 : Nat) (ln : Int32) (o : Int32) (f : Nat → Int32) (hl1 : ¬ (1600 : Int32) ≤ ln) (hv1 : vp_in ln 1600) : skM l yX10_add cX10_add 2 none 0 0 0 0 D (skT cI cJ cC cZ cS) [.ref h0, .int o] [(h0, .inr (10, [.ref k1, .int ln])), (k1, .inl (cI, 1600, .inl f))] (skV D (skT cI cJ cC cZ cS) (fun (u : va_W) => ∃ (f2 : Nat → Int32), u = [(h0, .inr (10, [.ref k1, .int (ln + 1)])), (k1, .inl (cI, 1600, .inl f2))])) := by
  refine skM_of (by decide) (Nat.le_of_ble_eq_true rfl) ?_
  intro p e s m below meth c A ls E hP hD hl
  obtain ⟨hx, hb, hr, hml, hlocks, hin, hown, hts, hK, hA⟩ := E
  have hown : s.vm.findClass RX10 = some m.cls := hown
  have hS : va_S A s.heap s.heap [] := va_S.rf
  have hl : lv_has ls 2 [(0, .ref h0), (1, .int o)] := hl
  refine lv_aload_n hx hb dX10_add_0 rfl (lv_at hl 0 rfl) ?_
  refine sk_get (v := .int ln) (C := RX10) (T := TX10) (N := 2) hx hb hts inlX10 hown hK hP 0 rfl rfl 1 (by decide) w_1_41 rfl dX10_add_1 ?_
  refine lv_aload_n hx hb dX10_add_4 rfl (lv_at hl 0 rfl) ?_
  refine sk_get (v := .ref k1) (C := RX10) (T := TX10) (N := 2) hx hb hts inlX10 hown hK hP 0 rfl rfl 0 (by decide) w_1_39 rfl dX10_add_5 ?_
  refine va_alen (v := 1600) hx hb hK.1 hP 1 0 rfl rfl rfl dX10_add_8 ?_
  refine lv_icmp_ge (tgt := 36) hx hb dX10_add_9 (by decide) (fun c => absurd c (hl1)) (fun c_1 => ?_)
  refine lv_aload_n hx hb dX10_add_12 rfl (lv_at hl 0 rfl) ?_
  refine sk_get (v := .ref k1) (C := RX10) (T := TX10) (N := 2) hx hb hts inlX10 hown hK hP 0 rfl rfl 0 (by decide) w_1_39 rfl dX10_add_13 ?_
  refine lv_aload_n hx hb dX10_add_16 rfl (lv_at hl 0 rfl) ?_
  refine sk_get (v := .int ln) (C := RX10) (T := TX10) (N := 2) hx hb hts inlX10 hown hK hP 0 rfl rfl 1 (by decide) w_1_41 rfl dX10_add_17 ?_
  refine lv_iload_n hx hb dX10_add_20 rfl (lv_at hl 1 rfl) ?_
  refine lv_sipush (v := 255) hx hb dX10_add_21 (by decide) ?_
  refine lv_iand hx hb dX10_add_24 ?_
  refine lv_topi (fun v_2 ev_2 => ?_)
  refine sk_iastO (ws' := fun f_3 => [(h0, .inr (10, [.ref k1, .int ln])), (k1, .inl (cI, 1600, .inl f_3))]) hx hb hK hP hD hS 1 0 rfl rfl hv1 (fun _ => rfl) dX10_add_25 (fun f_3 H locs hP hD hS => ?_)
  refine lv_aload_n hx hb dX10_add_26 rfl (lv_at hl 0 rfl) ?_
  refine lv_dup hx hb dX10_add_27 rfl ?_
  refine sk_get (v := .int ln) (C := RX10) (T := TX10) (N := 2) hx hb hts inlX10 hown hK hP 0 rfl rfl 1 (by decide) w_1_41 rfl dX10_add_28 ?_
  refine lv_iconst (v := 1) hx hb dX10_add_31 (by decide) ?_
  refine lv_iadd hx hb dX10_add_32 ?_
  refine lv_topi (fun v_4 ev_4 => ?_)
  refine sk_put (ws' := [(h0, .inr (10, [.ref k1, .int v_4])), (k1, .inl (cI, 1600, .inl f_3))]) (C := RX10) (T := TX10) (N := 2) (v := .int v_4) hx hb hts inlX10 tyX10 tyX10_ok nmX10 hown hK hP hD hS 0 rfl rfl 1 (by decide) w_1_41 rfl rfl rfl (Nat.le_of_ble_eq_true rfl) rfl dX10_add_33 (fun H locs hP hD hS => ?_)
  subst ev_4
  exact sk_vret hx hb hr hlocks hK hP hD hS (⟨f_3, rfl⟩) (Nat.le_of_ble_eq_true rfl) (Nat.le_of_ble_eq_true rfl) dX10_add_36
set_option maxHeartbeats 4000000 in
set_option maxRecDepth 100000 in
theorem c_Tape_add_31 (l : Launch) (D : va_G) (cI cJ cC cZ cS : ClassId) (h0 : Nat) (k1 : Nat) (ln : Int32) (o : Int32) (f : Nat → Int32) (hl1 : ¬ (31 : Int32) ≤ ln) (hv1 : vp_in ln 31) : skM l yX10_add cX10_add 2 none 0 0 0 0 D (skT cI cJ cC cZ cS) [.ref h0, .int o] [(h0, .inr (10, [.ref k1, .int ln])), (k1, .inl (cI, 31, .inl f))] (skV D (skT cI cJ cC cZ cS) (fun (u : va_W) => ∃ (f2 : Nat → Int32), u = [(h0, .inr (10, [.ref k1, .int (ln + 1)])), (k1, .inl (cI, 31, .inl f2))])) := by
  refine skM_of (by decide) (Nat.le_of_ble_eq_true rfl) ?_
  intro p e s m below meth c A ls E hP hD hl
  obtain ⟨hx, hb, hr, hml, hlocks, hin, hown, hts, hK, hA⟩ := E
  have hown : s.vm.findClass RX10 = some m.cls := hown
  have hS : va_S A s.heap s.heap [] := va_S.rf
  have hl : lv_has ls 2 [(0, .ref h0), (1, .int o)] := hl
  refine lv_aload_n hx hb dX10_add_0 rfl (lv_at hl 0 rfl) ?_
  refine sk_get (v := .int ln) (C := RX10) (T := TX10) (N := 2) hx hb hts inlX10 hown hK hP 0 rfl rfl 1 (by decide) w_1_41 rfl dX10_add_1 ?_
  refine lv_aload_n hx hb dX10_add_4 rfl (lv_at hl 0 rfl) ?_
  refine sk_get (v := .ref k1) (C := RX10) (T := TX10) (N := 2) hx hb hts inlX10 hown hK hP 0 rfl rfl 0 (by decide) w_1_39 rfl dX10_add_5 ?_
  refine va_alen (v := 31) hx hb hK.1 hP 1 0 rfl rfl rfl dX10_add_8 ?_
  refine lv_icmp_ge (tgt := 36) hx hb dX10_add_9 (by decide) (fun c => absurd c (hl1)) (fun c_1 => ?_)
  refine lv_aload_n hx hb dX10_add_12 rfl (lv_at hl 0 rfl) ?_
  refine sk_get (v := .ref k1) (C := RX10) (T := TX10) (N := 2) hx hb hts inlX10 hown hK hP 0 rfl rfl 0 (by decide) w_1_39 rfl dX10_add_13 ?_
  refine lv_aload_n hx hb dX10_add_16 rfl (lv_at hl 0 rfl) ?_
  refine sk_get (v := .int ln) (C := RX10) (T := TX10) (N := 2) hx hb hts inlX10 hown hK hP 0 rfl rfl 1 (by decide) w_1_41 rfl dX10_add_17 ?_
  refine lv_iload_n hx hb dX10_add_20 rfl (lv_at hl 1 rfl) ?_
  refine lv_sipush (v := 255) hx hb dX10_add_21 (by decide) ?_
  refine lv_iand hx hb dX10_add_24 ?_
  refine lv_topi (fun v_2 ev_2 => ?_)
  refine sk_iastO (ws' := fun f_3 => [(h0, .inr (10, [.ref k1, .int ln])), (k1, .inl (cI, 31, .inl f_3))]) hx hb hK hP hD hS 1 0 rfl rfl hv1 (fun _ => rfl) dX10_add_25 (fun f_3 H locs hP hD hS => ?_)
  refine lv_aload_n hx hb dX10_add_26 rfl (lv_at hl 0 rfl) ?_
  refine lv_dup hx hb dX10_add_27 rfl ?_
  refine sk_get (v := .int ln) (C := RX10) (T := TX10) (N := 2) hx hb hts inlX10 hown hK hP 0 rfl rfl 1 (by decide) w_1_41 rfl dX10_add_28 ?_
  refine lv_iconst (v := 1) hx hb dX10_add_31 (by decide) ?_
  refine lv_iadd hx hb dX10_add_32 ?_
  refine lv_topi (fun v_4 ev_4 => ?_)
  refine sk_put (ws' := [(h0, .inr (10, [.ref k1, .int v_4])), (k1, .inl (cI, 31, .inl f_3))]) (C := RX10) (T := TX10) (N := 2) (v := .int v_4) hx hb hts inlX10 tyX10 tyX10_ok nmX10 hown hK hP hD hS 0 rfl rfl 1 (by decide) w_1_41 rfl rfl rfl (Nat.le_of_ble_eq_true rfl) rfl dX10_add_33 (fun H locs hP hD hS => ?_)
  subst ev_4
  exact sk_vret hx hb hr hlocks hK hP hD hS (⟨f_3, rfl⟩) (Nat.le_of_ble_eq_true rfl) (Nat.le_of_ble_eq_true rfl) dX10_add_36
theorem dX10_addNumber_0 : decode cX10_addNumber 0 = .ok (.aload_n 0, 1) := by decide +kernel
theorem dX10_addNumber_1 : decode cX10_addNumber 1 = .ok (.iload_n 1, 1) := by decide +kernel
theorem dX10_addNumber_2 : decode cX10_addNumber 2 = .ok (.bipush 24, 2) := by decide +kernel
theorem dX10_addNumber_4 : decode cX10_addNumber 4 = .ok (.iushr, 1) := by decide +kernel
theorem dX10_addNumber_5 : decode cX10_addNumber 5 = .ok (.invokevirtual 23, 3) := by decide +kernel
theorem dX10_addNumber_8 : decode cX10_addNumber 8 = .ok (.aload_n 0, 1) := by decide +kernel
theorem dX10_addNumber_9 : decode cX10_addNumber 9 = .ok (.iload_n 1, 1) := by decide +kernel
theorem dX10_addNumber_10 : decode cX10_addNumber 10 = .ok (.bipush 16, 2) := by decide +kernel
theorem dX10_addNumber_12 : decode cX10_addNumber 12 = .ok (.iushr, 1) := by decide +kernel
theorem dX10_addNumber_13 : decode cX10_addNumber 13 = .ok (.invokevirtual 23, 3) := by decide +kernel
theorem dX10_addNumber_16 : decode cX10_addNumber 16 = .ok (.aload_n 0, 1) := by decide +kernel
theorem dX10_addNumber_17 : decode cX10_addNumber 17 = .ok (.iload_n 1, 1) := by decide +kernel
theorem dX10_addNumber_18 : decode cX10_addNumber 18 = .ok (.bipush 8, 2) := by decide +kernel
theorem dX10_addNumber_20 : decode cX10_addNumber 20 = .ok (.iushr, 1) := by decide +kernel
theorem dX10_addNumber_21 : decode cX10_addNumber 21 = .ok (.invokevirtual 23, 3) := by decide +kernel
theorem dX10_addNumber_24 : decode cX10_addNumber 24 = .ok (.aload_n 0, 1) := by decide +kernel
theorem dX10_addNumber_25 : decode cX10_addNumber 25 = .ok (.iload_n 1, 1) := by decide +kernel
theorem dX10_addNumber_26 : decode cX10_addNumber 26 = .ok (.invokevirtual 23, 3) := by decide +kernel
theorem dX10_addNumber_29 : decode cX10_addNumber 29 = .ok (.return_, 1) := by decide +kernel
theorem w_2_190 : (Cond.methodLink RX10 23 yX10_add) ∈ wsL_law := sk_mem (ck_2 _ (List.mem_of_getElem? (i := 190) rfl)) rfl
theorem w_2_191 : (Cond.instanceMethod yX10_add) ∈ wsL_law := sk_mem (ck_2 _ (List.mem_of_getElem? (i := 191) rfl)) rfl
theorem w_2_192 : (Cond.selects RX10 yX10_add yX10_add) ∈ wsL_law := sk_mem (ck_2 _ (List.mem_of_getElem? (i := 192) rfl)) rfl
theorem w_2_189 : (Cond.code yX10_addNumber cX10_addNumber 2 none) ∈ wsL_law := sk_mem (ck_2 _ (List.mem_of_getElem? (i := 189) rfl)) rfl
set_option maxHeartbeats 4000000 in
set_option maxRecDepth 100000 in
theorem c_Tape_addNumber (l : Launch) (D : va_G) (cI cJ cC cZ cS : ClassId) (h0 : Nat) (k1 : Nat) (ln : Int32) (o : Int32) (f : Nat → Int32) (ha0 : ¬ (1600 : Int32) ≤ ln) (hb0 : vp_in (ln) 1600) (ha1 : ¬ (1600 : Int32) ≤ ln + 1) (hb1 : vp_in (ln + 1) 1600) (ha2 : ¬ (1600 : Int32) ≤ ln + 1 + 1) (hb2 : vp_in (ln + 1 + 1) 1600) (ha3 : ¬ (1600 : Int32) ≤ ln + 1 + 1 + 1) (hb3 : vp_in (ln + 1 + 1 + 1) 1600) : skM l yX10_addNumber cX10_addNumber 2 none 1 21 0 0 D (skT cI cJ cC cZ cS) [.ref h0, .int o] [(h0, .inr (10, [.ref k1, .int ln])), (k1, .inl (cI, 1600, .inl f))] (skV D (skT cI cJ cC cZ cS) (fun (u : va_W) => ∃ (f2 : Nat → Int32), u = [(h0, .inr (10, [.ref k1, .int (ln + 1 + 1 + 1 + 1)])), (k1, .inl (cI, 1600, .inl f2))])) := by
  refine skM_of (by decide) (Nat.le_of_ble_eq_true rfl) ?_
  intro p e s m below meth c A ls E hP hD hl
  obtain ⟨hx, hb, hr, hml, hlocks, hin, hown, hts, hK, hA⟩ := E
  have hown : s.vm.findClass RX10 = some m.cls := hown
  have hS : va_S A s.heap s.heap [] := va_S.rf
  have hl : lv_has ls 2 [(0, .ref h0), (1, .int o)] := hl
  refine lv_aload_n hx hb dX10_addNumber_0 rfl (lv_at hl 0 rfl) ?_
  refine lv_iload_n hx hb dX10_addNumber_1 rfl (lv_at hl 1 rfl) ?_
  refine lv_bipush (v := 24) hx hb dX10_addNumber_2 (by decide) ?_
  refine lv_iushr hx hb dX10_addNumber_4 rfl ?_
  refine lv_topi (fun v_1 ev_1 => ?_)
  refine sk_Vv (q0 := 0) (n := 1) (rest := []) (wr := []) ⟨hx, hb, hml, hown, hts⟩ hl.1 (c_Tape_add_1600 l D cI cJ cC cZ cS h0 k1 ln v_1 f ha0 hb0) w_2_190 w_2_191 w_2_192 w_1_2 w_2_193 (by decide +kernel) ⟨⟨(Nat.le_of_ble_eq_true rfl), (Nat.le_of_ble_eq_true rfl)⟩, (Nat.le_of_ble_eq_true rfl), (Nat.le_of_ble_eq_true rfl)⟩ hK hP hD hS hA [0, 1] [] rfl rfl (by decide) (by decide) (by decide) rfl rfl rfl rfl (Nat.le_of_ble_eq_true rfl) dX10_addNumber_5 (fun u H locs hw hP hD hS => ?_)
  obtain ⟨f2_2, rfl⟩ := hw
  have hP : va_P D vwCl [(h0, .inr (10, [.ref k1, .int (ln + 1)])), (k1, .inl (cI, 1600, .inl f2_2))] H := hP
  have hD : va_D A [(h0, .inr (10, [.ref k1, .int (ln + 1)])), (k1, .inl (cI, 1600, .inl f2_2))] := hD
  refine W.widen (k := 0) (n := 0) (Nat.le_of_ble_eq_true rfl) (Nat.le_of_ble_eq_true rfl) ?_
  refine lv_aload_n hx hb dX10_addNumber_8 rfl (lv_at hl 0 rfl) ?_
  refine lv_iload_n hx hb dX10_addNumber_9 rfl (lv_at hl 1 rfl) ?_
  refine lv_bipush (v := 16) hx hb dX10_addNumber_10 (by decide) ?_
  refine lv_iushr hx hb dX10_addNumber_12 rfl ?_
  refine lv_topi (fun v_3 ev_3 => ?_)
  refine sk_Vv (q0 := 0) (n := 1) (rest := []) (wr := []) ⟨hx, hb, hml, hown, hts⟩ hl.1 (c_Tape_add_1600 l D cI cJ cC cZ cS h0 k1 (ln + 1) v_3 f2_2 ha1 hb1) w_2_190 w_2_191 w_2_192 w_1_2 w_2_193 (by decide +kernel) ⟨⟨(Nat.le_of_ble_eq_true rfl), (Nat.le_of_ble_eq_true rfl)⟩, (Nat.le_of_ble_eq_true rfl), (Nat.le_of_ble_eq_true rfl)⟩ hK hP hD hS hA [0, 1] [] rfl rfl (by decide) (by decide) (by decide) rfl rfl rfl rfl (Nat.le_of_ble_eq_true rfl) dX10_addNumber_13 (fun u H locs hw hP hD hS => ?_)
  obtain ⟨f2_4, rfl⟩ := hw
  have hP : va_P D vwCl [(h0, .inr (10, [.ref k1, .int ((ln + 1) + 1)])), (k1, .inl (cI, 1600, .inl f2_4))] H := hP
  have hD : va_D A [(h0, .inr (10, [.ref k1, .int ((ln + 1) + 1)])), (k1, .inl (cI, 1600, .inl f2_4))] := hD
  refine W.widen (k := 0) (n := 0) (Nat.le_of_ble_eq_true rfl) (Nat.le_of_ble_eq_true rfl) ?_
  refine lv_aload_n hx hb dX10_addNumber_16 rfl (lv_at hl 0 rfl) ?_
  refine lv_iload_n hx hb dX10_addNumber_17 rfl (lv_at hl 1 rfl) ?_
  refine lv_bipush (v := 8) hx hb dX10_addNumber_18 (by decide) ?_
  refine lv_iushr hx hb dX10_addNumber_20 rfl ?_
  refine lv_topi (fun v_5 ev_5 => ?_)
  refine sk_Vv (q0 := 0) (n := 1) (rest := []) (wr := []) ⟨hx, hb, hml, hown, hts⟩ hl.1 (c_Tape_add_1600 l D cI cJ cC cZ cS h0 k1 ((ln + 1) + 1) v_5 f2_4 ha2 hb2) w_2_190 w_2_191 w_2_192 w_1_2 w_2_193 (by decide +kernel) ⟨⟨(Nat.le_of_ble_eq_true rfl), (Nat.le_of_ble_eq_true rfl)⟩, (Nat.le_of_ble_eq_true rfl), (Nat.le_of_ble_eq_true rfl)⟩ hK hP hD hS hA [0, 1] [] rfl rfl (by decide) (by decide) (by decide) rfl rfl rfl rfl (Nat.le_of_ble_eq_true rfl) dX10_addNumber_21 (fun u H locs hw hP hD hS => ?_)
  obtain ⟨f2_6, rfl⟩ := hw
  have hP : va_P D vwCl [(h0, .inr (10, [.ref k1, .int (((ln + 1) + 1) + 1)])), (k1, .inl (cI, 1600, .inl f2_6))] H := hP
  have hD : va_D A [(h0, .inr (10, [.ref k1, .int (((ln + 1) + 1) + 1)])), (k1, .inl (cI, 1600, .inl f2_6))] := hD
  refine W.widen (k := 0) (n := 0) (Nat.le_of_ble_eq_true rfl) (Nat.le_of_ble_eq_true rfl) ?_
  refine lv_aload_n hx hb dX10_addNumber_24 rfl (lv_at hl 0 rfl) ?_
  refine lv_iload_n hx hb dX10_addNumber_25 rfl (lv_at hl 1 rfl) ?_
  refine sk_Vv (q0 := 0) (n := 1) (rest := []) (wr := []) ⟨hx, hb, hml, hown, hts⟩ hl.1 (c_Tape_add_1600 l D cI cJ cC cZ cS h0 k1 (((ln + 1) + 1) + 1) o f2_6 ha3 hb3) w_2_190 w_2_191 w_2_192 w_1_2 w_2_193 (by decide +kernel) ⟨⟨(Nat.le_of_ble_eq_true rfl), (Nat.le_of_ble_eq_true rfl)⟩, (Nat.le_of_ble_eq_true rfl), (Nat.le_of_ble_eq_true rfl)⟩ hK hP hD hS hA [0, 1] [] rfl rfl (by decide) (by decide) (by decide) rfl rfl rfl rfl (Nat.le_of_ble_eq_true rfl) dX10_addNumber_26 (fun u H locs hw hP hD hS => ?_)
  obtain ⟨f2_7, rfl⟩ := hw
  have hP : va_P D vwCl [(h0, .inr (10, [.ref k1, .int ((((ln + 1) + 1) + 1) + 1)])), (k1, .inl (cI, 1600, .inl f2_7))] H := hP
  have hD : va_D A [(h0, .inr (10, [.ref k1, .int ((((ln + 1) + 1) + 1) + 1)])), (k1, .inl (cI, 1600, .inl f2_7))] := hD
  refine W.widen (k := 0) (n := 0) (Nat.le_of_ble_eq_true rfl) (Nat.le_of_ble_eq_true rfl) ?_
  exact sk_vret hx hb hr hlocks hK hP hD hS (⟨f2_7, rfl⟩) (Nat.le_of_ble_eq_true rfl) (Nat.le_of_ble_eq_true rfl) dX10_addNumber_29
theorem dX11_feed_0 : decode cX11_feed 0 = .ok (.aload_n 0, 1) := by decide +kernel
theorem dX11_feed_1 : decode cX11_feed 1 = .ok (.getfield 12, 3) := by decide +kernel
theorem dX11_feed_4 : decode cX11_feed 4 = .ok (.getfield 110, 3) := by decide +kernel
theorem dX11_feed_7 : decode cX11_feed 7 = .ok (.bipush 20, 2) := by decide +kernel
theorem dX11_feed_9 : decode cX11_feed 9 = .ok (.iadd, 1) := by decide +kernel
theorem dX11_feed_10 : decode cX11_feed 10 = .ok (.sipush 1600, 3) := by decide +kernel
theorem dX11_feed_13 : decode cX11_feed 13 = .ok (.if_icmp .le 9, 3) := by decide +kernel
theorem dX11_feed_22 : decode cX11_feed 22 = .ok (.aload_n 0, 1) := by decide +kernel
theorem dX11_feed_23 : decode cX11_feed 23 = .ok (.getfield 12, 3) := by decide +kernel
theorem dX11_feed_26 : decode cX11_feed 26 = .ok (.iload_n 1, 1) := by decide +kernel
theorem dX11_feed_27 : decode cX11_feed 27 = .ok (.invokevirtual 117, 3) := by decide +kernel
theorem dX11_feed_30 : decode cX11_feed 30 = .ok (.aload_n 0, 1) := by decide +kernel
theorem dX11_feed_31 : decode cX11_feed 31 = .ok (.getfield 12, 3) := by decide +kernel
theorem dX11_feed_34 : decode cX11_feed 34 = .ok (.iload_n 2, 1) := by decide +kernel
theorem dX11_feed_35 : decode cX11_feed 35 = .ok (.invokevirtual 117, 3) := by decide +kernel
theorem dX11_feed_38 : decode cX11_feed 38 = .ok (.aload_n 0, 1) := by decide +kernel
theorem dX11_feed_39 : decode cX11_feed 39 = .ok (.getfield 12, 3) := by decide +kernel
theorem dX11_feed_42 : decode cX11_feed 42 = .ok (.iload_n 3, 1) := by decide +kernel
theorem dX11_feed_43 : decode cX11_feed 43 = .ok (.invokevirtual 117, 3) := by decide +kernel
theorem dX11_feed_46 : decode cX11_feed 46 = .ok (.aload_n 0, 1) := by decide +kernel
theorem dX11_feed_47 : decode cX11_feed 47 = .ok (.getfield 12, 3) := by decide +kernel
theorem dX11_feed_50 : decode cX11_feed 50 = .ok (.iload 4, 2) := by decide +kernel
theorem dX11_feed_52 : decode cX11_feed 52 = .ok (.invokevirtual 117, 3) := by decide +kernel
theorem dX11_feed_55 : decode cX11_feed 55 = .ok (.aload_n 0, 1) := by decide +kernel
theorem dX11_feed_56 : decode cX11_feed 56 = .ok (.getfield 12, 3) := by decide +kernel
theorem dX11_feed_59 : decode cX11_feed 59 = .ok (.iload 5, 2) := by decide +kernel
theorem dX11_feed_61 : decode cX11_feed 61 = .ok (.invokevirtual 117, 3) := by decide +kernel
theorem dX11_feed_64 : decode cX11_feed 64 = .ok (.aload_n 0, 1) := by decide +kernel
theorem dX11_feed_65 : decode cX11_feed 65 = .ok (.getfield 12, 3) := by decide +kernel
theorem dX11_feed_68 : decode cX11_feed 68 = .ok (.getfield 110, 3) := by decide +kernel
theorem dX11_feed_71 : decode cX11_feed 71 = .ok (.ireturn, 1) := by decide +kernel
theorem w_1_42 : (Cond.fieldLink RX11 110 "SameKeeper$Tape" "length" "I") ∈ wsL_law := sk_mem (ck_1 _ (List.mem_of_getElem? (i := 42) rfl)) rfl
theorem w_2_186 : (Cond.methodLink RX11 117 yX10_addNumber) ∈ wsL_law := sk_mem (ck_2 _ (List.mem_of_getElem? (i := 186) rfl)) rfl
theorem w_2_187 : (Cond.instanceMethod yX10_addNumber) ∈ wsL_law := sk_mem (ck_2 _ (List.mem_of_getElem? (i := 187) rfl)) rfl
theorem w_2_188 : (Cond.selects RX10 yX10_addNumber yX10_addNumber) ∈ wsL_law := sk_mem (ck_2 _ (List.mem_of_getElem? (i := 188) rfl)) rfl
theorem w_2_181 : (Cond.code yX11_feed cX11_feed 6 (some .int)) ∈ wsL_law := sk_mem (ck_2 _ (List.mem_of_getElem? (i := 181) rfl)) rfl
set_option maxHeartbeats 4000000 in
set_option maxRecDepth 100000 in
theorem c_x_feed (l : Launch) (D : va_G) (cI cJ cC cZ cS : ClassId) (x0 : Nat) (q : Nat → Nat) (a1 : Int32) (a2 : Int32) (a3 : Int32) (a4 : Int32) (a5 : Int32)  : skM l yX11_feed cX11_feed 6 (some .int) 2 42 0 0 D (skT cI cJ cC cZ cS) [.ref x0, .int a1, .int a2, .int a3, .int a4, .int a5] [(x0, .inr (11, [.ref (q 0), .ref (q 1), .ref (q 2), .ref (q 3), .ref (q 4), .ref (q 5), .ref (q 6), .ref (q 7), .ref (q 8), .ref (q 9), .ref (q 10), .ref (q 11), .ref (q 12), .ref (q 13), .ref (q 14), .int 0, .ref (q 16), .long 1])), (q 0, .inr (10, [.ref (q 20), .int 0])), (q 20, .inl (cI, 1600, .inl (fun _ => 0)))] (skI D (skT cI cJ cC cZ cS) (fun (r : Int32) (u : va_W) => r = 20 ∧ u = [])) := by
  refine skM_of (by decide) (Nat.le_of_ble_eq_true rfl) ?_
  intro p e s m below meth c A ls E hP hD hl
  obtain ⟨hx, hb, hr, hml, hlocks, hin, hown, hts, hK, hA⟩ := E
  have hown : s.vm.findClass RX11 = some m.cls := hown
  have hS : va_S A s.heap s.heap [] := va_S.rf
  have hl : lv_has ls 6 [(0, .ref x0), (1, .int a1), (2, .int a2), (3, .int a3), (4, .int a4), (5, .int a5)] := hl
  refine lv_aload_n hx hb dX11_feed_0 rfl (lv_at hl 0 rfl) ?_
  refine sk_get (v := .ref (q 0)) (C := RX11) (T := TX11) (N := 18) hx hb hts inlX11 hown hK hP 0 rfl rfl 0 (by decide) w_2_123 rfl dX11_feed_1 ?_
  refine sk_get (v := .int 0) (C := RX10) (T := TX10) (N := 2) hx hb hts inlX10 hown hK hP 1 rfl rfl 1 (by decide) w_1_42 rfl dX11_feed_4 ?_
  refine lv_bipush (v := 20) hx hb dX11_feed_7 (by decide) ?_
  refine lv_iadd hx hb dX11_feed_9 ?_
  refine sk_top 20 (by decide) ?_
  refine lv_sipush (v := 1600) hx hb dX11_feed_10 (by decide) ?_
  refine lv_icmp_le (tgt := 22) hx hb dX11_feed_13 (by decide) (fun c_1 => ?_) (fun c => absurd c (by decide))
  refine lv_aload_n hx hb dX11_feed_22 rfl (lv_at hl 0 rfl) ?_
  refine sk_get (v := .ref (q 0)) (C := RX11) (T := TX11) (N := 18) hx hb hts inlX11 hown hK hP 0 rfl rfl 0 (by decide) w_2_123 rfl dX11_feed_23 ?_
  refine lv_iload_n hx hb dX11_feed_26 rfl (lv_at hl 1 rfl) ?_
  refine sk_Vv (q0 := 0) (n := 1) (rest := []) (wr := [(x0, .inr (11, [.ref (q 0), .ref (q 1), .ref (q 2), .ref (q 3), .ref (q 4), .ref (q 5), .ref (q 6), .ref (q 7), .ref (q 8), .ref (q 9), .ref (q 10), .ref (q 11), .ref (q 12), .ref (q 13), .ref (q 14), .int 0, .ref (q 16), .long 1]))]) ⟨hx, hb, hml, hown, hts⟩ hl.1 (c_Tape_addNumber l D cI cJ cC cZ cS (q 0) (q 20) 0 a1 (fun _ => 0) (by decide) (by unfold vp_in; decide) (by decide) (by unfold vp_in; decide) (by decide) (by unfold vp_in; decide) (by decide) (by unfold vp_in; decide)) w_2_186 w_2_187 w_2_188 w_1_2 w_2_189 (by decide +kernel) ⟨⟨(Nat.le_of_ble_eq_true rfl), (Nat.le_of_ble_eq_true rfl)⟩, (Nat.le_of_ble_eq_true rfl), (Nat.le_of_ble_eq_true rfl)⟩ hK hP hD hS hA [1, 2] [0] rfl rfl (by decide) (by decide) (by decide) rfl rfl rfl rfl (Nat.le_of_ble_eq_true rfl) dX11_feed_27 (fun u H locs hw hP hD hS => ?_)
  obtain ⟨f2_2, rfl⟩ := hw
  have hP : va_P D vwCl [(x0, .inr (11, [.ref (q 0), .ref (q 1), .ref (q 2), .ref (q 3), .ref (q 4), .ref (q 5), .ref (q 6), .ref (q 7), .ref (q 8), .ref (q 9), .ref (q 10), .ref (q 11), .ref (q 12), .ref (q 13), .ref (q 14), .int 0, .ref (q 16), .long 1])), (q 0, .inr (10, [.ref (q 20), .int 4])), (q 20, .inl (cI, 1600, .inl f2_2))] H := hP
  have hD : va_D A [(x0, .inr (11, [.ref (q 0), .ref (q 1), .ref (q 2), .ref (q 3), .ref (q 4), .ref (q 5), .ref (q 6), .ref (q 7), .ref (q 8), .ref (q 9), .ref (q 10), .ref (q 11), .ref (q 12), .ref (q 13), .ref (q 14), .int 0, .ref (q 16), .long 1])), (q 0, .inr (10, [.ref (q 20), .int 4])), (q 20, .inl (cI, 1600, .inl f2_2))] := hD
  refine W.widen (k := 0) (n := 0) (Nat.le_of_ble_eq_true rfl) (Nat.le_of_ble_eq_true rfl) ?_
  refine lv_aload_n hx hb dX11_feed_30 rfl (lv_at hl 0 rfl) ?_
  refine sk_get (v := .ref (q 0)) (C := RX11) (T := TX11) (N := 18) hx hb hts inlX11 hown hK hP 0 rfl rfl 0 (by decide) w_2_123 rfl dX11_feed_31 ?_
  refine lv_iload_n hx hb dX11_feed_34 rfl (lv_at hl 2 rfl) ?_
  refine sk_Vv (q0 := 0) (n := 1) (rest := []) (wr := [(x0, .inr (11, [.ref (q 0), .ref (q 1), .ref (q 2), .ref (q 3), .ref (q 4), .ref (q 5), .ref (q 6), .ref (q 7), .ref (q 8), .ref (q 9), .ref (q 10), .ref (q 11), .ref (q 12), .ref (q 13), .ref (q 14), .int 0, .ref (q 16), .long 1]))]) ⟨hx, hb, hml, hown, hts⟩ hl.1 (c_Tape_addNumber l D cI cJ cC cZ cS (q 0) (q 20) 4 a2 f2_2 (by decide) (by unfold vp_in; decide) (by decide) (by unfold vp_in; decide) (by decide) (by unfold vp_in; decide) (by decide) (by unfold vp_in; decide)) w_2_186 w_2_187 w_2_188 w_1_2 w_2_189 (by decide +kernel) ⟨⟨(Nat.le_of_ble_eq_true rfl), (Nat.le_of_ble_eq_true rfl)⟩, (Nat.le_of_ble_eq_true rfl), (Nat.le_of_ble_eq_true rfl)⟩ hK hP hD hS hA [1, 2] [0] rfl rfl (by decide) (by decide) (by decide) rfl rfl rfl rfl (Nat.le_of_ble_eq_true rfl) dX11_feed_35 (fun u H locs hw hP hD hS => ?_)
  obtain ⟨f2_3, rfl⟩ := hw
  have hP : va_P D vwCl [(x0, .inr (11, [.ref (q 0), .ref (q 1), .ref (q 2), .ref (q 3), .ref (q 4), .ref (q 5), .ref (q 6), .ref (q 7), .ref (q 8), .ref (q 9), .ref (q 10), .ref (q 11), .ref (q 12), .ref (q 13), .ref (q 14), .int 0, .ref (q 16), .long 1])), (q 0, .inr (10, [.ref (q 20), .int 8])), (q 20, .inl (cI, 1600, .inl f2_3))] H := hP
  have hD : va_D A [(x0, .inr (11, [.ref (q 0), .ref (q 1), .ref (q 2), .ref (q 3), .ref (q 4), .ref (q 5), .ref (q 6), .ref (q 7), .ref (q 8), .ref (q 9), .ref (q 10), .ref (q 11), .ref (q 12), .ref (q 13), .ref (q 14), .int 0, .ref (q 16), .long 1])), (q 0, .inr (10, [.ref (q 20), .int 8])), (q 20, .inl (cI, 1600, .inl f2_3))] := hD
  refine W.widen (k := 0) (n := 0) (Nat.le_of_ble_eq_true rfl) (Nat.le_of_ble_eq_true rfl) ?_
  refine lv_aload_n hx hb dX11_feed_38 rfl (lv_at hl 0 rfl) ?_
  refine sk_get (v := .ref (q 0)) (C := RX11) (T := TX11) (N := 18) hx hb hts inlX11 hown hK hP 0 rfl rfl 0 (by decide) w_2_123 rfl dX11_feed_39 ?_
  refine lv_iload_n hx hb dX11_feed_42 rfl (lv_at hl 3 rfl) ?_
  refine sk_Vv (q0 := 0) (n := 1) (rest := []) (wr := [(x0, .inr (11, [.ref (q 0), .ref (q 1), .ref (q 2), .ref (q 3), .ref (q 4), .ref (q 5), .ref (q 6), .ref (q 7), .ref (q 8), .ref (q 9), .ref (q 10), .ref (q 11), .ref (q 12), .ref (q 13), .ref (q 14), .int 0, .ref (q 16), .long 1]))]) ⟨hx, hb, hml, hown, hts⟩ hl.1 (c_Tape_addNumber l D cI cJ cC cZ cS (q 0) (q 20) 8 a3 f2_3 (by decide) (by unfold vp_in; decide) (by decide) (by unfold vp_in; decide) (by decide) (by unfold vp_in; decide) (by decide) (by unfold vp_in; decide)) w_2_186 w_2_187 w_2_188 w_1_2 w_2_189 (by decide +kernel) ⟨⟨(Nat.le_of_ble_eq_true rfl), (Nat.le_of_ble_eq_true rfl)⟩, (Nat.le_of_ble_eq_true rfl), (Nat.le_of_ble_eq_true rfl)⟩ hK hP hD hS hA [1, 2] [0] rfl rfl (by decide) (by decide) (by decide) rfl rfl rfl rfl (Nat.le_of_ble_eq_true rfl) dX11_feed_43 (fun u H locs hw hP hD hS => ?_)
  obtain ⟨f2_4, rfl⟩ := hw
  have hP : va_P D vwCl [(x0, .inr (11, [.ref (q 0), .ref (q 1), .ref (q 2), .ref (q 3), .ref (q 4), .ref (q 5), .ref (q 6), .ref (q 7), .ref (q 8), .ref (q 9), .ref (q 10), .ref (q 11), .ref (q 12), .ref (q 13), .ref (q 14), .int 0, .ref (q 16), .long 1])), (q 0, .inr (10, [.ref (q 20), .int 12])), (q 20, .inl (cI, 1600, .inl f2_4))] H := hP
  have hD : va_D A [(x0, .inr (11, [.ref (q 0), .ref (q 1), .ref (q 2), .ref (q 3), .ref (q 4), .ref (q 5), .ref (q 6), .ref (q 7), .ref (q 8), .ref (q 9), .ref (q 10), .ref (q 11), .ref (q 12), .ref (q 13), .ref (q 14), .int 0, .ref (q 16), .long 1])), (q 0, .inr (10, [.ref (q 20), .int 12])), (q 20, .inl (cI, 1600, .inl f2_4))] := hD
  refine W.widen (k := 0) (n := 0) (Nat.le_of_ble_eq_true rfl) (Nat.le_of_ble_eq_true rfl) ?_
  refine lv_aload_n hx hb dX11_feed_46 rfl (lv_at hl 0 rfl) ?_
  refine sk_get (v := .ref (q 0)) (C := RX11) (T := TX11) (N := 18) hx hb hts inlX11 hown hK hP 0 rfl rfl 0 (by decide) w_2_123 rfl dX11_feed_47 ?_
  refine lv_iload hx hb dX11_feed_50 (lv_at hl 4 rfl) ?_
  refine sk_Vv (q0 := 0) (n := 1) (rest := []) (wr := [(x0, .inr (11, [.ref (q 0), .ref (q 1), .ref (q 2), .ref (q 3), .ref (q 4), .ref (q 5), .ref (q 6), .ref (q 7), .ref (q 8), .ref (q 9), .ref (q 10), .ref (q 11), .ref (q 12), .ref (q 13), .ref (q 14), .int 0, .ref (q 16), .long 1]))]) ⟨hx, hb, hml, hown, hts⟩ hl.1 (c_Tape_addNumber l D cI cJ cC cZ cS (q 0) (q 20) 12 a4 f2_4 (by decide) (by unfold vp_in; decide) (by decide) (by unfold vp_in; decide) (by decide) (by unfold vp_in; decide) (by decide) (by unfold vp_in; decide)) w_2_186 w_2_187 w_2_188 w_1_2 w_2_189 (by decide +kernel) ⟨⟨(Nat.le_of_ble_eq_true rfl), (Nat.le_of_ble_eq_true rfl)⟩, (Nat.le_of_ble_eq_true rfl), (Nat.le_of_ble_eq_true rfl)⟩ hK hP hD hS hA [1, 2] [0] rfl rfl (by decide) (by decide) (by decide) rfl rfl rfl rfl (Nat.le_of_ble_eq_true rfl) dX11_feed_52 (fun u H locs hw hP hD hS => ?_)
  obtain ⟨f2_5, rfl⟩ := hw
  have hP : va_P D vwCl [(x0, .inr (11, [.ref (q 0), .ref (q 1), .ref (q 2), .ref (q 3), .ref (q 4), .ref (q 5), .ref (q 6), .ref (q 7), .ref (q 8), .ref (q 9), .ref (q 10), .ref (q 11), .ref (q 12), .ref (q 13), .ref (q 14), .int 0, .ref (q 16), .long 1])), (q 0, .inr (10, [.ref (q 20), .int 16])), (q 20, .inl (cI, 1600, .inl f2_5))] H := hP
  have hD : va_D A [(x0, .inr (11, [.ref (q 0), .ref (q 1), .ref (q 2), .ref (q 3), .ref (q 4), .ref (q 5), .ref (q 6), .ref (q 7), .ref (q 8), .ref (q 9), .ref (q 10), .ref (q 11), .ref (q 12), .ref (q 13), .ref (q 14), .int 0, .ref (q 16), .long 1])), (q 0, .inr (10, [.ref (q 20), .int 16])), (q 20, .inl (cI, 1600, .inl f2_5))] := hD
  refine W.widen (k := 0) (n := 0) (Nat.le_of_ble_eq_true rfl) (Nat.le_of_ble_eq_true rfl) ?_
  refine lv_aload_n hx hb dX11_feed_55 rfl (lv_at hl 0 rfl) ?_
  refine sk_get (v := .ref (q 0)) (C := RX11) (T := TX11) (N := 18) hx hb hts inlX11 hown hK hP 0 rfl rfl 0 (by decide) w_2_123 rfl dX11_feed_56 ?_
  refine lv_iload hx hb dX11_feed_59 (lv_at hl 5 rfl) ?_
  refine sk_Vv (q0 := 0) (n := 1) (rest := []) (wr := [(x0, .inr (11, [.ref (q 0), .ref (q 1), .ref (q 2), .ref (q 3), .ref (q 4), .ref (q 5), .ref (q 6), .ref (q 7), .ref (q 8), .ref (q 9), .ref (q 10), .ref (q 11), .ref (q 12), .ref (q 13), .ref (q 14), .int 0, .ref (q 16), .long 1]))]) ⟨hx, hb, hml, hown, hts⟩ hl.1 (c_Tape_addNumber l D cI cJ cC cZ cS (q 0) (q 20) 16 a5 f2_5 (by decide) (by unfold vp_in; decide) (by decide) (by unfold vp_in; decide) (by decide) (by unfold vp_in; decide) (by decide) (by unfold vp_in; decide)) w_2_186 w_2_187 w_2_188 w_1_2 w_2_189 (by decide +kernel) ⟨⟨(Nat.le_of_ble_eq_true rfl), (Nat.le_of_ble_eq_true rfl)⟩, (Nat.le_of_ble_eq_true rfl), (Nat.le_of_ble_eq_true rfl)⟩ hK hP hD hS hA [1, 2] [0] rfl rfl (by decide) (by decide) (by decide) rfl rfl rfl rfl (Nat.le_of_ble_eq_true rfl) dX11_feed_61 (fun u H locs hw hP hD hS => ?_)
  obtain ⟨f2_6, rfl⟩ := hw
  have hP : va_P D vwCl [(x0, .inr (11, [.ref (q 0), .ref (q 1), .ref (q 2), .ref (q 3), .ref (q 4), .ref (q 5), .ref (q 6), .ref (q 7), .ref (q 8), .ref (q 9), .ref (q 10), .ref (q 11), .ref (q 12), .ref (q 13), .ref (q 14), .int 0, .ref (q 16), .long 1])), (q 0, .inr (10, [.ref (q 20), .int 20])), (q 20, .inl (cI, 1600, .inl f2_6))] H := hP
  have hD : va_D A [(x0, .inr (11, [.ref (q 0), .ref (q 1), .ref (q 2), .ref (q 3), .ref (q 4), .ref (q 5), .ref (q 6), .ref (q 7), .ref (q 8), .ref (q 9), .ref (q 10), .ref (q 11), .ref (q 12), .ref (q 13), .ref (q 14), .int 0, .ref (q 16), .long 1])), (q 0, .inr (10, [.ref (q 20), .int 20])), (q 20, .inl (cI, 1600, .inl f2_6))] := hD
  refine W.widen (k := 0) (n := 0) (Nat.le_of_ble_eq_true rfl) (Nat.le_of_ble_eq_true rfl) ?_
  refine lv_aload_n hx hb dX11_feed_64 rfl (lv_at hl 0 rfl) ?_
  refine sk_get (v := .ref (q 0)) (C := RX11) (T := TX11) (N := 18) hx hb hts inlX11 hown hK hP 0 rfl rfl 0 (by decide) w_2_123 rfl dX11_feed_65 ?_
  refine sk_get (v := .int 20) (C := RX10) (T := TX10) (N := 2) hx hb hts inlX10 hown hK hP 1 rfl rfl 1 (by decide) w_1_42 rfl dX11_feed_68 ?_
  have hP := hP.sub (ws' := []) [] rfl
  have hD := hD.sub (ws' := []) [] (by decide) rfl
  exact sk_iret hx hb hr rfl hlocks hK hP hD hS (⟨rfl, rfl⟩) (Nat.le_of_ble_eq_true rfl) (Nat.le_of_ble_eq_true rfl) dX11_feed_71
theorem dX11_end_0 : decode cX11_end 0 = .ok (.iload_n 1, 1) := by decide +kernel
theorem dX11_end_1 : decode cX11_end 1 = .ok (.ifCond .lt 14, 3) := by decide +kernel
theorem dX11_end_15 : decode cX11_end 15 = .ok (.aload_n 0, 1) := by decide +kernel
theorem dX11_end_16 : decode cX11_end 16 = .ok (.iconst 0, 1) := by decide +kernel
theorem dX11_end_17 : decode cX11_end 17 = .ok (.invokevirtual 120, 3) := by decide +kernel
theorem dX11_end_20 : decode cX11_end 20 = .ok (.ireturn, 1) := by decide +kernel
theorem dX11_end_4 : decode cX11_end 4 = .ok (.iload_n 1, 1) := by decide +kernel
theorem dX11_end_5 : decode cX11_end 5 = .ok (.aload_n 0, 1) := by decide +kernel
theorem dX11_end_6 : decode cX11_end 6 = .ok (.getfield 12, 3) := by decide +kernel
theorem dX11_end_9 : decode cX11_end 9 = .ok (.getfield 110, 3) := by decide +kernel
theorem dX11_end_12 : decode cX11_end 12 = .ok (.if_icmp .le 9, 3) := by decide +kernel
theorem dX11_end_21 : decode cX11_end 21 = .ok (.aload_n 0, 1) := by decide +kernel
theorem dX11_end_22 : decode cX11_end 22 = .ok (.getfield 12, 3) := by decide +kernel
theorem dX11_end_25 : decode cX11_end 25 = .ok (.iload_n 1, 1) := by decide +kernel
theorem dX11_end_26 : decode cX11_end 26 = .ok (.putfield 110, 3) := by decide +kernel
theorem dX11_end_29 : decode cX11_end 29 = .ok (.iconst 1, 1) := by decide +kernel
theorem dX11_end_30 : decode cX11_end 30 = .ok (.ireturn, 1) := by decide +kernel
theorem w_2_198 : (Cond.methodLink RX11 120 yX11_refuseIt) ∈ wsL_law := sk_mem (ck_2 _ (List.mem_of_getElem? (i := 198) rfl)) rfl
theorem w_2_200 : (Cond.instanceMethod yX11_refuseIt) ∈ wsL_law := sk_mem (ck_2 _ (List.mem_of_getElem? (i := 200) rfl)) rfl
theorem w_0_1 : (Cond.selects RX11 yX11_refuseIt yX11_refuseIt) ∈ wsL_law := sk_mem (ck_0 _ (List.mem_of_getElem? (i := 1) rfl)) rfl
theorem w_1_1 : (Cond.initialized RX11) ∈ wsL_law := sk_mem (ck_1 _ (List.mem_of_getElem? (i := 1) rfl)) rfl
theorem w_2_197 : (Cond.code yX11_end cX11_end 2 (some .boolean)) ∈ wsL_law := sk_mem (ck_2 _ (List.mem_of_getElem? (i := 197) rfl)) rfl
set_option maxHeartbeats 4000000 in
set_option maxRecDepth 100000 in
theorem c_x_end (l : Launch) (D : va_G) (cI cJ cC cZ cS : ClassId) (x0 : Nat) (q : Nat → Nat) (n : Int32)  : skM l yX11_end cX11_end 2 (some .boolean) 1 21 0 0 D (skT cI cJ cC cZ cS) [.ref x0, .int n] [(x0, .inr (11, [.ref (q 0), .ref (q 1), .ref (q 2), .ref (q 3), .ref (q 4), .ref (q 5), .ref (q 6), .ref (q 7), .ref (q 8), .ref (q 9), .ref (q 10), .ref (q 11), .ref (q 12), .ref (q 13), .ref (q 14), .int 0, .ref (q 16), .long 1])), (q 0, .inr (10, [.ref (q 20), .int 0])), (q 16, .inl (cI, 6, .inl (fun _ => 0)))] (skI D (skT cI cJ cC cZ cS) (fun (r : Int32) (u : va_W) => r = sp_end n ∧ u = [])) := by
  refine skM_of (by decide) (Nat.le_of_ble_eq_true rfl) ?_
  intro p e s m below meth c A ls E hP hD hl
  obtain ⟨hx, hb, hr, hml, hlocks, hin, hown, hts, hK, hA⟩ := E
  have hown : s.vm.findClass RX11 = some m.cls := hown
  have hS : va_S A s.heap s.heap [] := va_S.rf
  have hl : lv_has ls 2 [(0, .ref x0), (1, .int n)] := hl
  refine lv_iload_n hx hb dX11_end_0 rfl (lv_at hl 1 rfl) ?_
  refine lv_if_lt (tgt := 15) hx hb dX11_end_1 (by decide) (fun c_1 => ?_) (fun c_1 => ?_)
  · refine lv_aload_n hx hb dX11_end_15 rfl (lv_at hl 0 rfl) ?_
    refine lv_iconst (v := 0) hx hb dX11_end_16 (by decide) ?_
    refine sk_Vi (q0 := 0) (n := 1) (rest := []) (wr := [(q 0, .inr (10, [.ref (q 20), .int 0]))]) ⟨hx, hb, hml, hown, hts⟩ hl.1 (c_x_refuseIt l D cI cJ cC cZ cS x0 q 0 (fun _ => 0) (by unfold vp_in; decide)) w_2_198 w_2_200 w_0_1 w_1_1 w_2_201 (by decide +kernel) ⟨⟨(Nat.le_of_ble_eq_true rfl), (Nat.le_of_ble_eq_true rfl)⟩, (Nat.le_of_ble_eq_true rfl), (Nat.le_of_ble_eq_true rfl)⟩ hK hP hD hS hA [0, 2] [1] rfl rfl (by decide) (by decide) (by decide) rfl rfl rfl rfl (Nat.le_of_ble_eq_true rfl) dX11_end_17 (fun r_3 u H locs hw hP hD hS => ?_)
    obtain ⟨f2_2, rfl, rfl⟩ := hw
    have hP : va_P D vwCl [(q 0, .inr (10, [.ref (q 20), .int 0])), (x0, .inr (11, [.ref (q 0), .ref (q 1), .ref (q 2), .ref (q 3), .ref (q 4), .ref (q 5), .ref (q 6), .ref (q 7), .ref (q 8), .ref (q 9), .ref (q 10), .ref (q 11), .ref (q 12), .ref (q 13), .ref (q 14), .int 0, .ref (q 16), .long 1])), (q 16, .inl (cI, 6, .inl f2_2))] H := hP
    have hD : va_D A [(q 0, .inr (10, [.ref (q 20), .int 0])), (x0, .inr (11, [.ref (q 0), .ref (q 1), .ref (q 2), .ref (q 3), .ref (q 4), .ref (q 5), .ref (q 6), .ref (q 7), .ref (q 8), .ref (q 9), .ref (q 10), .ref (q 11), .ref (q 12), .ref (q 13), .ref (q 14), .int 0, .ref (q 16), .long 1])), (q 16, .inl (cI, 6, .inl f2_2))] := hD
    refine W.widen (k := 0) (n := 0) (Nat.le_of_ble_eq_true rfl) (Nat.le_of_ble_eq_true rfl) ?_
    have hP := hP.sub (ws' := []) [] rfl
    have hD := hD.sub (ws' := []) [] (by decide) rfl
    exact sk_iret hx hb hr rfl hlocks hK hP hD hS (⟨by first | decide | simp [sp_end, c_1], rfl⟩) (Nat.le_of_ble_eq_true rfl) (Nat.le_of_ble_eq_true rfl) dX11_end_20
  · refine lv_iload_n hx hb dX11_end_4 rfl (lv_at hl 1 rfl) ?_
    refine lv_aload_n hx hb dX11_end_5 rfl (lv_at hl 0 rfl) ?_
    refine sk_get (v := .ref (q 0)) (C := RX11) (T := TX11) (N := 18) hx hb hts inlX11 hown hK hP 0 rfl rfl 0 (by decide) w_2_123 rfl dX11_end_6 ?_
    refine sk_get (v := .int 0) (C := RX10) (T := TX10) (N := 2) hx hb hts inlX10 hown hK hP 1 rfl rfl 1 (by decide) w_1_42 rfl dX11_end_9 ?_
    refine lv_icmp_le (tgt := 21) hx hb dX11_end_12 (by decide) (fun c_4 => ?_) (fun c_4 => ?_)
    · refine lv_aload_n hx hb dX11_end_21 rfl (lv_at hl 0 rfl) ?_
      refine sk_get (v := .ref (q 0)) (C := RX11) (T := TX11) (N := 18) hx hb hts inlX11 hown hK hP 0 rfl rfl 0 (by decide) w_2_123 rfl dX11_end_22 ?_
      refine lv_iload_n hx hb dX11_end_25 rfl (lv_at hl 1 rfl) ?_
      refine sk_put (ws' := [(x0, .inr (11, [.ref (q 0), .ref (q 1), .ref (q 2), .ref (q 3), .ref (q 4), .ref (q 5), .ref (q 6), .ref (q 7), .ref (q 8), .ref (q 9), .ref (q 10), .ref (q 11), .ref (q 12), .ref (q 13), .ref (q 14), .int 0, .ref (q 16), .long 1])), (q 0, .inr (10, [.ref (q 20), .int n])), (q 16, .inl (cI, 6, .inl (fun _ => 0)))]) (C := RX10) (T := TX10) (N := 2) (v := .int n) hx hb hts inlX10 tyX10 tyX10_ok nmX10 hown hK hP hD hS 1 rfl rfl 1 (by decide) w_1_42 rfl rfl rfl (Nat.le_of_ble_eq_true rfl) rfl dX11_end_26 (fun H locs hP hD hS => ?_)
      refine lv_iconst (v := 1) hx hb dX11_end_29 (by decide) ?_
      have hP := hP.sub (ws' := []) [] rfl
      have hD := hD.sub (ws' := []) [] (by decide) rfl
      exact sk_iret hx hb hr rfl hlocks hK hP hD hS (⟨by first | decide | simp [sp_end, c_1, c_4], rfl⟩) (Nat.le_of_ble_eq_true rfl) (Nat.le_of_ble_eq_true rfl) dX11_end_30
    · refine lv_aload_n hx hb dX11_end_15 rfl (lv_at hl 0 rfl) ?_
      refine lv_iconst (v := 0) hx hb dX11_end_16 (by decide) ?_
      refine sk_Vi (q0 := 0) (n := 1) (rest := []) (wr := [(q 0, .inr (10, [.ref (q 20), .int 0]))]) ⟨hx, hb, hml, hown, hts⟩ hl.1 (c_x_refuseIt l D cI cJ cC cZ cS x0 q 0 (fun _ => 0) (by unfold vp_in; decide)) w_2_198 w_2_200 w_0_1 w_1_1 w_2_201 (by decide +kernel) ⟨⟨(Nat.le_of_ble_eq_true rfl), (Nat.le_of_ble_eq_true rfl)⟩, (Nat.le_of_ble_eq_true rfl), (Nat.le_of_ble_eq_true rfl)⟩ hK hP hD hS hA [0, 2] [1] rfl rfl (by decide) (by decide) (by decide) rfl rfl rfl rfl (Nat.le_of_ble_eq_true rfl) dX11_end_17 (fun r_6 u H locs hw hP hD hS => ?_)
      obtain ⟨f2_5, rfl, rfl⟩ := hw
      have hP : va_P D vwCl [(q 0, .inr (10, [.ref (q 20), .int 0])), (x0, .inr (11, [.ref (q 0), .ref (q 1), .ref (q 2), .ref (q 3), .ref (q 4), .ref (q 5), .ref (q 6), .ref (q 7), .ref (q 8), .ref (q 9), .ref (q 10), .ref (q 11), .ref (q 12), .ref (q 13), .ref (q 14), .int 0, .ref (q 16), .long 1])), (q 16, .inl (cI, 6, .inl f2_5))] H := hP
      have hD : va_D A [(q 0, .inr (10, [.ref (q 20), .int 0])), (x0, .inr (11, [.ref (q 0), .ref (q 1), .ref (q 2), .ref (q 3), .ref (q 4), .ref (q 5), .ref (q 6), .ref (q 7), .ref (q 8), .ref (q 9), .ref (q 10), .ref (q 11), .ref (q 12), .ref (q 13), .ref (q 14), .int 0, .ref (q 16), .long 1])), (q 16, .inl (cI, 6, .inl f2_5))] := hD
      refine W.widen (k := 0) (n := 0) (Nat.le_of_ble_eq_true rfl) (Nat.le_of_ble_eq_true rfl) ?_
      have hP := hP.sub (ws' := []) [] rfl
      have hD := hD.sub (ws' := []) [] (by decide) rfl
      exact sk_iret hx hb hr rfl hlocks hK hP hD hS (⟨by first | decide | simp [sp_end, c_1, c_4], rfl⟩) (Nat.le_of_ble_eq_true rfl) (Nat.le_of_ble_eq_true rfl) dX11_end_20
