theorem dX12_look_0 : decode cX12_look 0 = .ok (.aload_n 0, 1) := by decide +kernel
theorem dX12_look_1 : decode cX12_look 1 = .ok (.getfield 201, 3) := by decide +kernel
theorem dX12_look_4 : decode cX12_look 4 = .ok (.aload_n 0, 1) := by decide +kernel
theorem dX12_look_5 : decode cX12_look 5 = .ok (.getfield 204, 3) := by decide +kernel
theorem dX12_look_8 : decode cX12_look 8 = .ok (.if_icmp .ge 44, 3) := by decide +kernel
theorem dX12_look_52 : decode cX12_look 52 = .ok (.aload_n 0, 1) := by decide +kernel
theorem dX12_look_53 : decode cX12_look 53 = .ok (.getfield 201, 3) := by decide +kernel
theorem dX12_look_56 : decode cX12_look 56 = .ok (.aload_n 0, 1) := by decide +kernel
theorem dX12_look_57 : decode cX12_look 57 = .ok (.getfield 204, 3) := by decide +kernel
theorem dX12_look_60 : decode cX12_look 60 = .ok (.if_icmp .ge 15, 3) := by decide +kernel
theorem dX12_look_75 : decode cX12_look 75 = .ok (.iconst (-1), 1) := by decide +kernel
theorem dX12_look_76 : decode cX12_look 76 = .ok (.ireturn, 1) := by decide +kernel
theorem w_5_157 : (Cond.fieldLink RX12 201 "SameKeeperModel" "at" "I") ∈ wsL_law := sk_mem (ck_5 _ (List.mem_of_getElem? (i := 157) rfl)) rfl
theorem w_5_158 : (Cond.fieldLink RX12 204 "SameKeeperModel" "end" "I") ∈ wsL_law := sk_mem (ck_5 _ (List.mem_of_getElem? (i := 158) rfl)) rfl
theorem w_6_225 : (Cond.code yX12_look cX12_look 1 (some .int)) ∈ wsL_law := sk_mem (ck_6 _ (List.mem_of_getElem? (i := 225) rfl)) rfl
set_option maxHeartbeats 4000000 in
set_option maxRecDepth 100000 in
theorem c_m_look_e (l : Launch) (D : va_G) (cI cJ cC cZ cS : ClassId) (m0 : Nat) (F : Nat → Value) (h2 : F 2 = .int 0) (h3 : F 3 = .int 0) : skM l yX12_look cX12_look 1 (some .int) 0 0 0 0 D (skT cI cJ cC cZ cS) [.ref m0] [(m0, .inr (12, mF F))] (skI D (skT cI cJ cC cZ cS) (fun (r : Int32) (u : va_W) => r = -1 ∧ u = [(m0, .inr (12, mF F))])) := by
  refine skM_of (by decide) (Nat.le_of_ble_eq_true rfl) ?_
  intro p e s m below meth c A ls E hP hD hl
  obtain ⟨hx, hb, hr, hml, hlocks, hin, hown, hts, hK, hA⟩ := E
  have hown : s.vm.findClass RX12 = some m.cls := hown
  have hS : va_S A s.heap s.heap [] := va_S.rf
  have hl : lv_has ls 1 [(0, .ref m0)] := hl
  refine lv_aload_n hx hb dX12_look_0 rfl (lv_at hl 0 rfl) ?_
  refine sk_get (v := .int 0) (C := RX12) (T := TX12) (N := 92) hx hb hts inlX12 hown hK hP 0 rfl rfl 2 (by decide) w_5_157 (mF_get (k := 2) (by decide) h2) dX12_look_1 ?_
  refine lv_aload_n hx hb dX12_look_4 rfl (lv_at hl 0 rfl) ?_
  refine sk_get (v := .int 0) (C := RX12) (T := TX12) (N := 92) hx hb hts inlX12 hown hK hP 0 rfl rfl 3 (by decide) w_5_158 (mF_get (k := 3) (by decide) h3) dX12_look_5 ?_
  refine lv_icmp_ge (tgt := 52) hx hb dX12_look_8 (by decide) (fun c_1 => ?_) (fun c => absurd c (by decide))
  refine lv_aload_n hx hb dX12_look_52 rfl (lv_at hl 0 rfl) ?_
  refine sk_get (v := .int 0) (C := RX12) (T := TX12) (N := 92) hx hb hts inlX12 hown hK hP 0 rfl rfl 2 (by decide) w_5_157 (mF_get (k := 2) (by decide) h2) dX12_look_53 ?_
  refine lv_aload_n hx hb dX12_look_56 rfl (lv_at hl 0 rfl) ?_
  refine sk_get (v := .int 0) (C := RX12) (T := TX12) (N := 92) hx hb hts inlX12 hown hK hP 0 rfl rfl 3 (by decide) w_5_158 (mF_get (k := 3) (by decide) h3) dX12_look_57 ?_
  refine lv_icmp_ge (tgt := 75) hx hb dX12_look_60 (by decide) (fun c_2 => ?_) (fun c => absurd c (by decide))
  refine lv_iconst (v := (-1)) hx hb dX12_look_75 (by decide) ?_
  exact sk_iret hx hb hr rfl hlocks hK hP hD hS (⟨rfl, rfl⟩) (Nat.le_of_ble_eq_true rfl) (Nat.le_of_ble_eq_true rfl) dX12_look_76
theorem dX12_isLetter_0 : decode cX12_isLetter 0 = .ok (.iload_n 0, 1) := by decide +kernel
theorem dX12_isLetter_1 : decode cX12_isLetter 1 = .ok (.bipush 97, 2) := by decide +kernel
theorem dX12_isLetter_3 : decode cX12_isLetter 3 = .ok (.if_icmp .lt 13, 3) := by decide +kernel
theorem dX12_isLetter_16 : decode cX12_isLetter 16 = .ok (.iconst 0, 1) := by decide +kernel
theorem dX12_isLetter_17 : decode cX12_isLetter 17 = .ok (.ireturn, 1) := by decide +kernel
theorem w_6_228 : (Cond.code yX12_isLetter cX12_isLetter 1 (some .boolean)) ∈ wsL_law := sk_mem (ck_6 _ (List.mem_of_getElem? (i := 228) rfl)) rfl
set_option maxHeartbeats 4000000 in
set_option maxRecDepth 100000 in
theorem c_m_isLetter_e (l : Launch) (D : va_G) (cI cJ cC cZ cS : ClassId)  : skM l yX12_isLetter cX12_isLetter 1 (some .boolean) 0 0 0 0 D (skT cI cJ cC cZ cS) [.int (-1)] [] (skI D (skT cI cJ cC cZ cS) (fun (r : Int32) (u : va_W) => r = 0 ∧ u = [])) := by
  refine skM_of (by decide) (Nat.le_of_ble_eq_true rfl) ?_
  intro p e s m below meth c A ls E hP hD hl
  obtain ⟨hx, hb, hr, hml, hlocks, hin, hown, hts, hK, hA⟩ := E
  have hown : s.vm.findClass RX12 = some m.cls := hown
  have hS : va_S A s.heap s.heap [] := va_S.rf
  have hl : lv_has ls 1 [(0, .int (-1))] := hl
  refine lv_iload_n hx hb dX12_isLetter_0 rfl (lv_at hl 0 rfl) ?_
  refine lv_bipush (v := 97) hx hb dX12_isLetter_1 (by decide) ?_
  refine lv_icmp_lt (tgt := 16) hx hb dX12_isLetter_3 (by decide) (fun c_1 => ?_) (fun c => absurd c (by decide))
  refine lv_iconst (v := 0) hx hb dX12_isLetter_16 (by decide) ?_
  exact sk_iret hx hb hr rfl hlocks hK hP hD hS (⟨rfl, rfl⟩) (Nat.le_of_ble_eq_true rfl) (Nat.le_of_ble_eq_true rfl) dX12_isLetter_17
theorem dX12_isHere_0 : decode cX12_isHere 0 = .ok (.aload_n 0, 1) := by decide +kernel
theorem dX12_isHere_1 : decode cX12_isHere 1 = .ok (.getfield 195, 3) := by decide +kernel
theorem dX12_isHere_4 : decode cX12_isHere 4 = .ok (.ifCond .ne 24, 3) := by decide +kernel
theorem dX12_isHere_7 : decode cX12_isHere 7 = .ok (.aload_n 0, 1) := by decide +kernel
theorem dX12_isHere_8 : decode cX12_isHere 8 = .ok (.invokevirtual 207, 3) := by decide +kernel
theorem dX12_isHere_11 : decode cX12_isHere 11 = .ok (.invokestatic 211, 3) := by decide +kernel
theorem dX12_isHere_14 : decode cX12_isHere 14 = .ok (.ifCond .eq 14, 3) := by decide +kernel
theorem dX12_isHere_28 : decode cX12_isHere 28 = .ok (.iconst 0, 1) := by decide +kernel
theorem dX12_isHere_29 : decode cX12_isHere 29 = .ok (.ireturn, 1) := by decide +kernel
theorem w_5_160 : (Cond.fieldLink RX12 195 "SameKeeperModel" "bad" "I") ∈ wsL_law := sk_mem (ck_5 _ (List.mem_of_getElem? (i := 160) rfl)) rfl
theorem w_6_222 : (Cond.methodLink RX12 207 yX12_look) ∈ wsL_law := sk_mem (ck_6 _ (List.mem_of_getElem? (i := 222) rfl)) rfl
theorem w_6_224 : (Cond.instanceMethod yX12_look) ∈ wsL_law := sk_mem (ck_6 _ (List.mem_of_getElem? (i := 224) rfl)) rfl
theorem w_0_45 : (Cond.selects RX12 yX12_look yX12_look) ∈ wsL_law := sk_mem (ck_0 _ (List.mem_of_getElem? (i := 45) rfl)) rfl
theorem w_6_226 : (Cond.methodLink RX12 211 yX12_isLetter) ∈ wsL_law := sk_mem (ck_6 _ (List.mem_of_getElem? (i := 226) rfl)) rfl
theorem w_6_227 : (Cond.static yX12_isLetter) ∈ wsL_law := sk_mem (ck_6 _ (List.mem_of_getElem? (i := 227) rfl)) rfl
theorem w_6_221 : (Cond.code yX12_isHere cX12_isHere 4 (some .boolean)) ∈ wsL_law := sk_mem (ck_6 _ (List.mem_of_getElem? (i := 221) rfl)) rfl
set_option maxHeartbeats 4000000 in
set_option maxRecDepth 100000 in
theorem c_m_isHere_e (l : Launch) (D : va_G) (cI cJ cC cZ cS : ClassId) (m0 : Nat) (F : Nat → Value) (wd : Nat) (h5 : F 5 = .int 0) (h2 : F 2 = .int 0) (h3 : F 3 = .int 0) : skM l yX12_isHere cX12_isHere 4 (some .boolean) 1 20 0 0 D (skT cI cJ cC cZ cS) [.ref m0, .ref wd] [(m0, .inr (12, mF F))] (skI D (skT cI cJ cC cZ cS) (fun (r : Int32) (u : va_W) => r = 0 ∧ u = [(m0, .inr (12, mF F))])) := by
  refine skM_of (by decide) (Nat.le_of_ble_eq_true rfl) ?_
  intro p e s m below meth c A ls E hP hD hl
  obtain ⟨hx, hb, hr, hml, hlocks, hin, hown, hts, hK, hA⟩ := E
  have hown : s.vm.findClass RX12 = some m.cls := hown
  have hS : va_S A s.heap s.heap [] := va_S.rf
  have hl : lv_has ls 4 [(0, .ref m0), (1, .ref wd)] := hl
  refine lv_aload_n hx hb dX12_isHere_0 rfl (lv_at hl 0 rfl) ?_
  refine sk_get (v := .int 0) (C := RX12) (T := TX12) (N := 92) hx hb hts inlX12 hown hK hP 0 rfl rfl 5 (by decide) w_5_160 (mF_get (k := 5) (by decide) h5) dX12_isHere_1 ?_
  refine lv_if_ne (tgt := 28) hx hb dX12_isHere_4 (by decide) (fun c => absurd c (by decide)) (fun c_1 => ?_)
  refine lv_aload_n hx hb dX12_isHere_7 rfl (lv_at hl 0 rfl) ?_
  refine sk_Vi (q0 := 0) (n := 0) (rest := []) (wr := []) ⟨hx, hb, hml, hown, hts⟩ hl.1 (c_m_look_e l D cI cJ cC cZ cS m0 F h2 h3) w_6_222 w_6_224 w_0_45 w_1_14 w_6_225 (by decide +kernel) ⟨⟨(Nat.le_of_ble_eq_true rfl), (Nat.le_of_ble_eq_true rfl)⟩, (Nat.le_of_ble_eq_true rfl), (Nat.le_of_ble_eq_true rfl)⟩ hK hP hD hS hA [0] [] rfl rfl (by decide) (by decide) (by decide) rfl rfl rfl rfl (Nat.le_of_ble_eq_true rfl) dX12_isHere_8 (fun r_2 u H locs hw hP hD hS => ?_)
  obtain ⟨rfl, rfl⟩ := hw
  have hP : va_P D vwCl [(m0, .inr (12, mF F))] H := hP
  have hD : va_D A [(m0, .inr (12, mF F))] := hD
  refine W.widen (k := 0) (n := 0) (Nat.le_of_ble_eq_true rfl) (Nat.le_of_ble_eq_true rfl) ?_
  refine sk_Si (n := 1) (rest := []) (wr := [(m0, .inr (12, mF F))]) ⟨hx, hb, hml, hown, hts⟩ hl.1 (c_m_isLetter_e l D cI cJ cC cZ cS) w_6_226 w_6_227 w_1_14 w_6_228 (by decide +kernel) ⟨⟨(Nat.le_of_ble_eq_true rfl), (Nat.le_of_ble_eq_true rfl)⟩, (Nat.le_of_ble_eq_true rfl), (Nat.le_of_ble_eq_true rfl)⟩ hK hP hD hS hA [] [0] rfl rfl (by decide) (by decide) (by decide) rfl rfl (Nat.le_of_ble_eq_true rfl) dX12_isHere_11 (fun r_3 u H locs hw hP hD hS => ?_)
  obtain ⟨rfl, rfl⟩ := hw
  have hP : va_P D vwCl [(m0, .inr (12, mF F))] H := hP
  have hD : va_D A [(m0, .inr (12, mF F))] := hD
  refine W.widen (k := 0) (n := 0) (Nat.le_of_ble_eq_true rfl) (Nat.le_of_ble_eq_true rfl) ?_
  refine lv_if_eq (tgt := 28) hx hb dX12_isHere_14 (by decide) (fun c_4 => ?_) (fun c => absurd c (by decide))
  refine lv_iconst (v := 0) hx hb dX12_isHere_28 (by decide) ?_
  exact sk_iret hx hb hr rfl hlocks hK hP hD hS (⟨rfl, rfl⟩) (Nat.le_of_ble_eq_true rfl) (Nat.le_of_ble_eq_true rfl) dX12_isHere_29
theorem dX12_takes_0 : decode cX12_takes 0 = .ok (.aload_n 0, 1) := by decide +kernel
theorem dX12_takes_1 : decode cX12_takes 1 = .ok (.aload_n 1, 1) := by decide +kernel
theorem dX12_takes_2 : decode cX12_takes 2 = .ok (.invokevirtual 218, 3) := by decide +kernel
theorem dX12_takes_5 : decode cX12_takes 5 = .ok (.ifCond .ne 5, 3) := by decide +kernel
theorem dX12_takes_8 : decode cX12_takes 8 = .ok (.iconst 0, 1) := by decide +kernel
theorem dX12_takes_9 : decode cX12_takes 9 = .ok (.ireturn, 1) := by decide +kernel
theorem w_6_218 : (Cond.methodLink RX12 218 yX12_isHere) ∈ wsL_law := sk_mem (ck_6 _ (List.mem_of_getElem? (i := 218) rfl)) rfl
theorem w_6_220 : (Cond.instanceMethod yX12_isHere) ∈ wsL_law := sk_mem (ck_6 _ (List.mem_of_getElem? (i := 220) rfl)) rfl
theorem w_0_44 : (Cond.selects RX12 yX12_isHere yX12_isHere) ∈ wsL_law := sk_mem (ck_0 _ (List.mem_of_getElem? (i := 44) rfl)) rfl
theorem w_6_217 : (Cond.code yX12_takes cX12_takes 2 (some .boolean)) ∈ wsL_law := sk_mem (ck_6 _ (List.mem_of_getElem? (i := 217) rfl)) rfl
set_option maxHeartbeats 4000000 in
set_option maxRecDepth 100000 in
theorem c_m_takes_e (l : Launch) (D : va_G) (cI cJ cC cZ cS : ClassId) (m0 : Nat) (F : Nat → Value) (wd : Nat) (h5 : F 5 = .int 0) (h2 : F 2 = .int 0) (h3 : F 3 = .int 0) : skM l yX12_takes cX12_takes 2 (some .boolean) 2 43 0 0 D (skT cI cJ cC cZ cS) [.ref m0, .ref wd] [(m0, .inr (12, mF F))] (skI D (skT cI cJ cC cZ cS) (fun (r : Int32) (u : va_W) => r = 0 ∧ u = [(m0, .inr (12, mF F))])) := by
  refine skM_of (by decide) (Nat.le_of_ble_eq_true rfl) ?_
  intro p e s m below meth c A ls E hP hD hl
  obtain ⟨hx, hb, hr, hml, hlocks, hin, hown, hts, hK, hA⟩ := E
  have hown : s.vm.findClass RX12 = some m.cls := hown
  have hS : va_S A s.heap s.heap [] := va_S.rf
  have hl : lv_has ls 2 [(0, .ref m0), (1, .ref wd)] := hl
  refine lv_aload_n hx hb dX12_takes_0 rfl (lv_at hl 0 rfl) ?_
  refine lv_aload_n hx hb dX12_takes_1 rfl (lv_at hl 1 rfl) ?_
  refine sk_Vi (q0 := 0) (n := 1) (rest := []) (wr := []) ⟨hx, hb, hml, hown, hts⟩ hl.1 (c_m_isHere_e l D cI cJ cC cZ cS m0 F wd h5 h2 h3) w_6_218 w_6_220 w_0_44 w_1_14 w_6_221 (by decide +kernel) ⟨⟨(Nat.le_of_ble_eq_true rfl), (Nat.le_of_ble_eq_true rfl)⟩, (Nat.le_of_ble_eq_true rfl), (Nat.le_of_ble_eq_true rfl)⟩ hK hP hD hS hA [0] [] rfl rfl (by decide) (by decide) (by decide) rfl rfl rfl rfl (Nat.le_of_ble_eq_true rfl) dX12_takes_2 (fun r_1 u H locs hw hP hD hS => ?_)
  obtain ⟨rfl, rfl⟩ := hw
  have hP : va_P D vwCl [(m0, .inr (12, mF F))] H := hP
  have hD : va_D A [(m0, .inr (12, mF F))] := hD
  refine W.widen (k := 0) (n := 0) (Nat.le_of_ble_eq_true rfl) (Nat.le_of_ble_eq_true rfl) ?_
  refine lv_if_ne (tgt := 10) hx hb dX12_takes_5 (by decide) (fun c => absurd c (by decide)) (fun c_2 => ?_)
  refine lv_iconst (v := 0) hx hb dX12_takes_8 (by decide) ?_
  exact sk_iret hx hb hr rfl hlocks hK hP hD hS (⟨rfl, rfl⟩) (Nat.le_of_ble_eq_true rfl) (Nat.le_of_ble_eq_true rfl) dX12_takes_9
theorem dX12_fail_0 : decode cX12_fail 0 = .ok (.aload_n 0, 1) := by decide +kernel
theorem dX12_fail_1 : decode cX12_fail 1 = .ok (.getfield 195, 3) := by decide +kernel
theorem dX12_fail_4 : decode cX12_fail 4 = .ok (.ifCond .eq 4, 3) := by decide +kernel
theorem dX12_fail_8 : decode cX12_fail 8 = .ok (.aload_n 0, 1) := by decide +kernel
theorem dX12_fail_9 : decode cX12_fail 9 = .ok (.iload_n 1, 1) := by decide +kernel
theorem dX12_fail_10 : decode cX12_fail 10 = .ok (.putfield 195, 3) := by decide +kernel
theorem dX12_fail_13 : decode cX12_fail 13 = .ok (.aload_n 0, 1) := by decide +kernel
theorem dX12_fail_14 : decode cX12_fail 14 = .ok (.iload_n 2, 1) := by decide +kernel
theorem dX12_fail_15 : decode cX12_fail 15 = .ok (.putfield 198, 3) := by decide +kernel
theorem dX12_fail_18 : decode cX12_fail 18 = .ok (.return_, 1) := by decide +kernel
theorem w_5_161 : (Cond.fieldLink RX12 198 "SameKeeperModel" "badPlace" "I") ∈ wsL_law := sk_mem (ck_5 _ (List.mem_of_getElem? (i := 161) rfl)) rfl
theorem w_6_232 : (Cond.code yX12_fail cX12_fail 3 none) ∈ wsL_law := sk_mem (ck_6 _ (List.mem_of_getElem? (i := 232) rfl)) rfl
set_option maxHeartbeats 4000000 in
set_option maxRecDepth 100000 in
theorem c_m_fail_e (l : Launch) (D : va_G) (cI cJ cC cZ cS : ClassId) (m0 : Nat) (F : Nat → Value) (k : Int32) (wh : Int32) (h5 : F 5 = .int 0) : skM l yX12_fail cX12_fail 3 none 0 0 0 0 D (skT cI cJ cC cZ cS) [.ref m0, .int k, .int wh] [(m0, .inr (12, mF F))] (skV D (skT cI cJ cC cZ cS) (fun (u : va_W) => u = [(m0, .inr (12, mF (updV (updV F 5 (.int k)) 6 (.int wh))))])) := by
  refine skM_of (by decide) (Nat.le_of_ble_eq_true rfl) ?_
  intro p e s m below meth c A ls E hP hD hl
  obtain ⟨hx, hb, hr, hml, hlocks, hin, hown, hts, hK, hA⟩ := E
  have hown : s.vm.findClass RX12 = some m.cls := hown
  have hS : va_S A s.heap s.heap [] := va_S.rf
  have hl : lv_has ls 3 [(0, .ref m0), (1, .int k), (2, .int wh)] := hl
  refine lv_aload_n hx hb dX12_fail_0 rfl (lv_at hl 0 rfl) ?_
  refine sk_get (v := .int 0) (C := RX12) (T := TX12) (N := 92) hx hb hts inlX12 hown hK hP 0 rfl rfl 5 (by decide) w_5_160 (mF_get (k := 5) (by decide) h5) dX12_fail_1 ?_
  refine lv_if_eq (tgt := 8) hx hb dX12_fail_4 (by decide) (fun c_1 => ?_) (fun c => absurd c (by decide))
  refine lv_aload_n hx hb dX12_fail_8 rfl (lv_at hl 0 rfl) ?_
  refine lv_iload_n hx hb dX12_fail_9 rfl (lv_at hl 1 rfl) ?_
  refine sk_put (ws' := [(m0, .inr (12, mF (updV F 5 (.int k))))]) (C := RX12) (T := TX12) (N := 92) (v := .int k) hx hb hts inlX12 tyX12 tyX12_ok nmX12 hown hK hP hD hS 0 rfl rfl 5 (by decide) w_5_160 rfl rfl rfl (mF_len (by decide)) (mF_w (by decide) rfl) dX12_fail_10 (fun H locs hP hD hS => ?_)
  refine lv_aload_n hx hb dX12_fail_13 rfl (lv_at hl 0 rfl) ?_
  refine lv_iload_n hx hb dX12_fail_14 rfl (lv_at hl 2 rfl) ?_
  refine sk_put (ws' := [(m0, .inr (12, mF (updV (updV F 5 (.int k)) 6 (.int wh))))]) (C := RX12) (T := TX12) (N := 92) (v := .int wh) hx hb hts inlX12 tyX12 tyX12_ok nmX12 hown hK hP hD hS 0 rfl rfl 6 (by decide) w_5_161 rfl rfl rfl (mF_len (by decide)) (mF_w (by decide) rfl) dX12_fail_15 (fun H locs hP hD hS => ?_)
  exact sk_vret hx hb hr hlocks hK hP hD hS rfl (Nat.le_of_ble_eq_true rfl) (Nat.le_of_ble_eq_true rfl) dX12_fail_18
theorem dX12_asks_0 : decode cX12_asks 0 = .ok (.aload_n 0, 1) := by decide +kernel
theorem dX12_asks_1 : decode cX12_asks 1 = .ok (.getfield 195, 3) := by decide +kernel
theorem dX12_asks_4 : decode cX12_asks 4 = .ok (.ifCond .ne 20, 3) := by decide +kernel
theorem dX12_asks_7 : decode cX12_asks 7 = .ok (.aload_n 0, 1) := by decide +kernel
theorem dX12_asks_8 : decode cX12_asks 8 = .ok (.aload_n 1, 1) := by decide +kernel
theorem dX12_asks_9 : decode cX12_asks 9 = .ok (.invokevirtual 222, 3) := by decide +kernel
theorem dX12_asks_12 : decode cX12_asks 12 = .ok (.ifCond .ne 12, 3) := by decide +kernel
theorem dX12_asks_15 : decode cX12_asks 15 = .ok (.aload_n 0, 1) := by decide +kernel
theorem dX12_asks_16 : decode cX12_asks 16 = .ok (.iconst 1, 1) := by decide +kernel
theorem dX12_asks_17 : decode cX12_asks 17 = .ok (.aload_n 0, 1) := by decide +kernel
theorem dX12_asks_18 : decode cX12_asks 18 = .ok (.getfield 201, 3) := by decide +kernel
theorem dX12_asks_21 : decode cX12_asks 21 = .ok (.invokevirtual 225, 3) := by decide +kernel
theorem dX12_asks_24 : decode cX12_asks 24 = .ok (.return_, 1) := by decide +kernel
theorem w_6_214 : (Cond.methodLink RX12 222 yX12_takes) ∈ wsL_law := sk_mem (ck_6 _ (List.mem_of_getElem? (i := 214) rfl)) rfl
theorem w_6_216 : (Cond.instanceMethod yX12_takes) ∈ wsL_law := sk_mem (ck_6 _ (List.mem_of_getElem? (i := 216) rfl)) rfl
theorem w_0_43 : (Cond.selects RX12 yX12_takes yX12_takes) ∈ wsL_law := sk_mem (ck_0 _ (List.mem_of_getElem? (i := 43) rfl)) rfl
theorem w_6_229 : (Cond.methodLink RX12 225 yX12_fail) ∈ wsL_law := sk_mem (ck_6 _ (List.mem_of_getElem? (i := 229) rfl)) rfl
theorem w_6_231 : (Cond.instanceMethod yX12_fail) ∈ wsL_law := sk_mem (ck_6 _ (List.mem_of_getElem? (i := 231) rfl)) rfl
theorem w_0_46 : (Cond.selects RX12 yX12_fail yX12_fail) ∈ wsL_law := sk_mem (ck_0 _ (List.mem_of_getElem? (i := 46) rfl)) rfl
theorem w_6_213 : (Cond.code yX12_asks cX12_asks 2 none) ∈ wsL_law := sk_mem (ck_6 _ (List.mem_of_getElem? (i := 213) rfl)) rfl
set_option maxHeartbeats 4000000 in
set_option maxRecDepth 100000 in
theorem c_m_asks_a (l : Launch) (D : va_G) (cI cJ cC cZ cS : ClassId) (m0 : Nat) (F : Nat → Value) (wd : Nat) (h5 : F 5 = .int 0) (h2 : F 2 = .int 0) (h3 : F 3 = .int 0) : skM l yX12_asks cX12_asks 2 none 3 64 0 0 D (skT cI cJ cC cZ cS) [.ref m0, .ref wd] [(m0, .inr (12, mF F))] (skV D (skT cI cJ cC cZ cS) (fun (u : va_W) => u = [(m0, .inr (12, mF (updV (updV F 5 (.int 1)) 6 (.int 0))))])) := by
  refine skM_of (by decide) (Nat.le_of_ble_eq_true rfl) ?_
  intro p e s m below meth c A ls E hP hD hl
  obtain ⟨hx, hb, hr, hml, hlocks, hin, hown, hts, hK, hA⟩ := E
  have hown : s.vm.findClass RX12 = some m.cls := hown
  have hS : va_S A s.heap s.heap [] := va_S.rf
  have hl : lv_has ls 2 [(0, .ref m0), (1, .ref wd)] := hl
  refine lv_aload_n hx hb dX12_asks_0 rfl (lv_at hl 0 rfl) ?_
  refine sk_get (v := .int 0) (C := RX12) (T := TX12) (N := 92) hx hb hts inlX12 hown hK hP 0 rfl rfl 5 (by decide) w_5_160 (mF_get (k := 5) (by decide) h5) dX12_asks_1 ?_
  refine lv_if_ne (tgt := 24) hx hb dX12_asks_4 (by decide) (fun c => absurd c (by decide)) (fun c_1 => ?_)
  refine lv_aload_n hx hb dX12_asks_7 rfl (lv_at hl 0 rfl) ?_
  refine lv_aload_n hx hb dX12_asks_8 rfl (lv_at hl 1 rfl) ?_
  refine sk_Vi (q0 := 0) (n := 1) (rest := []) (wr := []) ⟨hx, hb, hml, hown, hts⟩ hl.1 (c_m_takes_e l D cI cJ cC cZ cS m0 F wd h5 h2 h3) w_6_214 w_6_216 w_0_43 w_1_14 w_6_217 (by decide +kernel) ⟨⟨(Nat.le_of_ble_eq_true rfl), (Nat.le_of_ble_eq_true rfl)⟩, (Nat.le_of_ble_eq_true rfl), (Nat.le_of_ble_eq_true rfl)⟩ hK hP hD hS hA [0] [] rfl rfl (by decide) (by decide) (by decide) rfl rfl rfl rfl (Nat.le_of_ble_eq_true rfl) dX12_asks_9 (fun r_2 u H locs hw hP hD hS => ?_)
  obtain ⟨rfl, rfl⟩ := hw
  have hP : va_P D vwCl [(m0, .inr (12, mF F))] H := hP
  have hD : va_D A [(m0, .inr (12, mF F))] := hD
  refine W.widen (k := 0) (n := 0) (Nat.le_of_ble_eq_true rfl) (Nat.le_of_ble_eq_true rfl) ?_
  refine lv_if_ne (tgt := 24) hx hb dX12_asks_12 (by decide) (fun c => absurd c (by decide)) (fun c_3 => ?_)
  refine lv_aload_n hx hb dX12_asks_15 rfl (lv_at hl 0 rfl) ?_
  refine lv_iconst (v := 1) hx hb dX12_asks_16 (by decide) ?_
  refine lv_aload_n hx hb dX12_asks_17 rfl (lv_at hl 0 rfl) ?_
  refine sk_get (v := .int 0) (C := RX12) (T := TX12) (N := 92) hx hb hts inlX12 hown hK hP 0 rfl rfl 2 (by decide) w_5_157 (mF_get (k := 2) (by decide) h2) dX12_asks_18 ?_
  refine sk_Vv (q0 := 0) (n := 2) (rest := []) (wr := []) ⟨hx, hb, hml, hown, hts⟩ hl.1 (c_m_fail_e l D cI cJ cC cZ cS m0 F 1 0 h5) w_6_229 w_6_231 w_0_46 w_1_14 w_6_232 (by decide +kernel) ⟨⟨(Nat.le_of_ble_eq_true rfl), (Nat.le_of_ble_eq_true rfl)⟩, (Nat.le_of_ble_eq_true rfl), (Nat.le_of_ble_eq_true rfl)⟩ hK hP hD hS hA [0] [] rfl rfl (by decide) (by decide) (by decide) rfl rfl rfl rfl (Nat.le_of_ble_eq_true rfl) dX12_asks_21 (fun u H locs hw hP hD hS => ?_)
  obtain rfl := hw
  have hP : va_P D vwCl [(m0, .inr (12, mF (updV (updV F 5 (.int 1)) 6 (.int 0))))] H := hP
  have hD : va_D A [(m0, .inr (12, mF (updV (updV F 5 (.int 1)) 6 (.int 0))))] := hD
  refine W.widen (k := 0) (n := 0) (Nat.le_of_ble_eq_true rfl) (Nat.le_of_ble_eq_true rfl) ?_
  exact sk_vret hx hb hr hlocks hK hP hD hS rfl (Nat.le_of_ble_eq_true rfl) (Nat.le_of_ble_eq_true rfl) dX12_asks_24
set_option maxHeartbeats 4000000 in
set_option maxRecDepth 100000 in
theorem c_m_asks_b (l : Launch) (D : va_G) (cI cJ cC cZ cS : ClassId) (m0 : Nat) (F : Nat → Value) (wd : Nat) (h5 : F 5 = .int 1) : skM l yX12_asks cX12_asks 2 none 0 0 0 0 D (skT cI cJ cC cZ cS) [.ref m0, .ref wd] [(m0, .inr (12, mF F))] (skV D (skT cI cJ cC cZ cS) (fun (u : va_W) => u = [(m0, .inr (12, mF F))])) := by
  refine skM_of (by decide) (Nat.le_of_ble_eq_true rfl) ?_
  intro p e s m below meth c A ls E hP hD hl
  obtain ⟨hx, hb, hr, hml, hlocks, hin, hown, hts, hK, hA⟩ := E
  have hown : s.vm.findClass RX12 = some m.cls := hown
  have hS : va_S A s.heap s.heap [] := va_S.rf
  have hl : lv_has ls 2 [(0, .ref m0), (1, .ref wd)] := hl
  refine lv_aload_n hx hb dX12_asks_0 rfl (lv_at hl 0 rfl) ?_
  refine sk_get (v := .int 1) (C := RX12) (T := TX12) (N := 92) hx hb hts inlX12 hown hK hP 0 rfl rfl 5 (by decide) w_5_160 (mF_get (k := 5) (by decide) h5) dX12_asks_1 ?_
  refine lv_if_ne (tgt := 24) hx hb dX12_asks_4 (by decide) (fun c_1 => ?_) (fun c => absurd c (by decide))
  exact sk_vret hx hb hr hlocks hK hP hD hS rfl (Nat.le_of_ble_eq_true rfl) (Nat.le_of_ble_eq_true rfl) dX12_asks_24
theorem dX12_number_0 : decode cX12_number 0 = .ok (.aload_n 0, 1) := by decide +kernel
theorem dX12_number_1 : decode cX12_number 1 = .ok (.getfield 195, 3) := by decide +kernel
theorem dX12_number_4 : decode cX12_number 4 = .ok (.ifCond .eq 5, 3) := by decide +kernel
theorem dX12_number_7 : decode cX12_number 7 = .ok (.iconst 0, 1) := by decide +kernel
theorem dX12_number_8 : decode cX12_number 8 = .ok (.ireturn, 1) := by decide +kernel
theorem w_6_236 : (Cond.code yX12_number cX12_number 5 (some .int)) ∈ wsL_law := sk_mem (ck_6 _ (List.mem_of_getElem? (i := 236) rfl)) rfl
set_option maxHeartbeats 4000000 in
set_option maxRecDepth 100000 in
theorem c_m_number_b (l : Launch) (D : va_G) (cI cJ cC cZ cS : ClassId) (m0 : Nat) (F : Nat → Value) (lo : Int32) (hi : Int32) (h5 : F 5 = .int 1) : skM l yX12_number cX12_number 5 (some .int) 0 0 0 0 D (skT cI cJ cC cZ cS) [.ref m0, .int lo, .int hi] [(m0, .inr (12, mF F))] (skI D (skT cI cJ cC cZ cS) (fun (r : Int32) (u : va_W) => r = 0 ∧ u = [(m0, .inr (12, mF F))])) := by
  refine skM_of (by decide) (Nat.le_of_ble_eq_true rfl) ?_
  intro p e s m below meth c A ls E hP hD hl
  obtain ⟨hx, hb, hr, hml, hlocks, hin, hown, hts, hK, hA⟩ := E
  have hown : s.vm.findClass RX12 = some m.cls := hown
  have hS : va_S A s.heap s.heap [] := va_S.rf
  have hl : lv_has ls 5 [(0, .ref m0), (1, .int lo), (2, .int hi)] := hl
  refine lv_aload_n hx hb dX12_number_0 rfl (lv_at hl 0 rfl) ?_
  refine sk_get (v := .int 1) (C := RX12) (T := TX12) (N := 92) hx hb hts inlX12 hown hK hP 0 rfl rfl 5 (by decide) w_5_160 (mF_get (k := 5) (by decide) h5) dX12_number_1 ?_
  refine lv_if_eq (tgt := 9) hx hb dX12_number_4 (by decide) (fun c => absurd c (by decide)) (fun c_1 => ?_)
  refine lv_iconst (v := 0) hx hb dX12_number_7 (by decide) ?_
  exact sk_iret hx hb hr rfl hlocks hK hP hD hS (⟨rfl, rfl⟩) (Nat.le_of_ble_eq_true rfl) (Nat.le_of_ble_eq_true rfl) dX12_number_8
theorem dX12_asksSign_0 : decode cX12_asksSign 0 = .ok (.aload_n 0, 1) := by decide +kernel
theorem dX12_asksSign_1 : decode cX12_asksSign 1 = .ok (.getfield 195, 3) := by decide +kernel
theorem dX12_asksSign_4 : decode cX12_asksSign 4 = .ok (.ifCond .ne 20, 3) := by decide +kernel
theorem dX12_asksSign_24 : decode cX12_asksSign 24 = .ok (.return_, 1) := by decide +kernel
theorem w_7_6 : (Cond.code yX12_asksSign cX12_asksSign 2 none) ∈ wsL_law := sk_mem (ck_7 _ (List.mem_of_getElem? (i := 6) rfl)) rfl
set_option maxHeartbeats 4000000 in
set_option maxRecDepth 100000 in
theorem c_m_asksSign_b (l : Launch) (D : va_G) (cI cJ cC cZ cS : ClassId) (m0 : Nat) (F : Nat → Value) (w : Int32) (h5 : F 5 = .int 1) : skM l yX12_asksSign cX12_asksSign 2 none 0 0 0 0 D (skT cI cJ cC cZ cS) [.ref m0, .int w] [(m0, .inr (12, mF F))] (skV D (skT cI cJ cC cZ cS) (fun (u : va_W) => u = [(m0, .inr (12, mF F))])) := by
  refine skM_of (by decide) (Nat.le_of_ble_eq_true rfl) ?_
  intro p e s m below meth c A ls E hP hD hl
  obtain ⟨hx, hb, hr, hml, hlocks, hin, hown, hts, hK, hA⟩ := E
  have hown : s.vm.findClass RX12 = some m.cls := hown
  have hS : va_S A s.heap s.heap [] := va_S.rf
  have hl : lv_has ls 2 [(0, .ref m0), (1, .int w)] := hl
  refine lv_aload_n hx hb dX12_asksSign_0 rfl (lv_at hl 0 rfl) ?_
  refine sk_get (v := .int 1) (C := RX12) (T := TX12) (N := 92) hx hb hts inlX12 hown hK hP 0 rfl rfl 5 (by decide) w_5_160 (mF_get (k := 5) (by decide) h5) dX12_asksSign_1 ?_
  refine lv_if_ne (tgt := 24) hx hb dX12_asksSign_4 (by decide) (fun c_1 => ?_) (fun c => absurd c (by decide))
  exact sk_vret hx hb hr hlocks hK hP hD hS rfl (Nat.le_of_ble_eq_true rfl) (Nat.le_of_ble_eq_true rfl) dX12_asksSign_24
theorem dX12_lockTold_0 : decode cX12_lockTold 0 = .ok (.aload_n 0, 1) := by decide +kernel
theorem dX12_lockTold_1 : decode cX12_lockTold 1 = .ok (.aload_n 0, 1) := by decide +kernel
theorem dX12_lockTold_2 : decode cX12_lockTold 2 = .ok (.getfield 20, 3) := by decide +kernel
theorem dX12_lockTold_5 : decode cX12_lockTold 5 = .ok (.invokevirtual 245, 3) := by decide +kernel
theorem dX12_lockTold_8 : decode cX12_lockTold 8 = .ok (.aload_n 0, 1) := by decide +kernel
theorem dX12_lockTold_9 : decode cX12_lockTold 9 = .ok (.getfield 48, 3) := by decide +kernel
theorem dX12_lockTold_12 : decode cX12_lockTold 12 = .ok (.iconst 0, 1) := by decide +kernel
theorem dX12_lockTold_13 : decode cX12_lockTold 13 = .ok (.aload_n 0, 1) := by decide +kernel
theorem dX12_lockTold_14 : decode cX12_lockTold 14 = .ok (.iconst 2, 1) := by decide +kernel
theorem dX12_lockTold_15 : decode cX12_lockTold 15 = .ok (.bipush 9, 2) := by decide +kernel
theorem dX12_lockTold_17 : decode cX12_lockTold 17 = .ok (.invokevirtual 249, 3) := by decide +kernel
theorem dX12_lockTold_20 : decode cX12_lockTold 20 = .ok (.iastore, 1) := by decide +kernel
theorem dX12_lockTold_21 : decode cX12_lockTold 21 = .ok (.aload_n 0, 1) := by decide +kernel
theorem dX12_lockTold_22 : decode cX12_lockTold 22 = .ok (.aload_n 0, 1) := by decide +kernel
theorem dX12_lockTold_23 : decode cX12_lockTold 23 = .ok (.getfield 24, 3) := by decide +kernel
theorem dX12_lockTold_26 : decode cX12_lockTold 26 = .ok (.invokevirtual 245, 3) := by decide +kernel
theorem dX12_lockTold_29 : decode cX12_lockTold 29 = .ok (.aload_n 0, 1) := by decide +kernel
theorem dX12_lockTold_30 : decode cX12_lockTold 30 = .ok (.getfield 48, 3) := by decide +kernel
theorem dX12_lockTold_33 : decode cX12_lockTold 33 = .ok (.iconst 1, 1) := by decide +kernel
theorem dX12_lockTold_34 : decode cX12_lockTold 34 = .ok (.aload_n 0, 1) := by decide +kernel
theorem dX12_lockTold_35 : decode cX12_lockTold 35 = .ok (.iconst 0, 1) := by decide +kernel
theorem dX12_lockTold_36 : decode cX12_lockTold 36 = .ok (.bipush 9, 2) := by decide +kernel
theorem dX12_lockTold_38 : decode cX12_lockTold 38 = .ok (.invokevirtual 249, 3) := by decide +kernel
theorem dX12_lockTold_41 : decode cX12_lockTold 41 = .ok (.iastore, 1) := by decide +kernel
theorem dX12_lockTold_42 : decode cX12_lockTold 42 = .ok (.aload_n 0, 1) := by decide +kernel
theorem dX12_lockTold_43 : decode cX12_lockTold 43 = .ok (.bipush 59, 2) := by decide +kernel
theorem dX12_lockTold_45 : decode cX12_lockTold 45 = .ok (.invokevirtual 253, 3) := by decide +kernel
theorem dX12_lockTold_48 : decode cX12_lockTold 48 = .ok (.return_, 1) := by decide +kernel
theorem w_6_210 : (Cond.methodLink RX12 245 yX12_asks) ∈ wsL_law := sk_mem (ck_6 _ (List.mem_of_getElem? (i := 210) rfl)) rfl
theorem w_6_212 : (Cond.instanceMethod yX12_asks) ∈ wsL_law := sk_mem (ck_6 _ (List.mem_of_getElem? (i := 212) rfl)) rfl
theorem w_0_42 : (Cond.selects RX12 yX12_asks yX12_asks) ∈ wsL_law := sk_mem (ck_0 _ (List.mem_of_getElem? (i := 42) rfl)) rfl
theorem w_6_233 : (Cond.methodLink RX12 249 yX12_number) ∈ wsL_law := sk_mem (ck_6 _ (List.mem_of_getElem? (i := 233) rfl)) rfl
theorem w_6_235 : (Cond.instanceMethod yX12_number) ∈ wsL_law := sk_mem (ck_6 _ (List.mem_of_getElem? (i := 235) rfl)) rfl
theorem w_0_47 : (Cond.selects RX12 yX12_number yX12_number) ∈ wsL_law := sk_mem (ck_0 _ (List.mem_of_getElem? (i := 47) rfl)) rfl
theorem w_7_3 : (Cond.methodLink RX12 253 yX12_asksSign) ∈ wsL_law := sk_mem (ck_7 _ (List.mem_of_getElem? (i := 3) rfl)) rfl
theorem w_7_5 : (Cond.instanceMethod yX12_asksSign) ∈ wsL_law := sk_mem (ck_7 _ (List.mem_of_getElem? (i := 5) rfl)) rfl
theorem w_0_48 : (Cond.selects RX12 yX12_asksSign yX12_asksSign) ∈ wsL_law := sk_mem (ck_0 _ (List.mem_of_getElem? (i := 48) rfl)) rfl
theorem w_6_209 : (Cond.code yX12_lockTold cX12_lockTold 1 none) ∈ wsL_law := sk_mem (ck_6 _ (List.mem_of_getElem? (i := 209) rfl)) rfl
set_option maxHeartbeats 4000000 in
set_option maxRecDepth 100000 in
theorem c_m_lockTold_e (l : Launch) (D : va_G) (cI cJ cC cZ cS : ClassId) (m0 : Nat) (F : Nat → Value) (lw : Nat) (fw : Nat) (l0 : Nat) (f : Nat → Int32) (h5 : F 5 = .int 0) (h2 : F 2 = .int 0) (h3 : F 3 = .int 0) (h11 : F 11 = .ref lw) (h12 : F 12 = .ref fw) (h20 : F 20 = .ref l0) : skM l yX12_lockTold cX12_lockTold 1 none 4 85 0 0 D (skT cI cJ cC cZ cS) [.ref m0] [(m0, .inr (12, mF F)), (l0, .inl (cI, 4, .inl f))] (skV D (skT cI cJ cC cZ cS) (fun (u : va_W) => u = [(m0, .inr (12, mF (updV (updV F 5 (.int 1)) 6 (.int 0))))])) := by
  refine skM_of (by decide) (Nat.le_of_ble_eq_true rfl) ?_
  intro p e s m below meth c A ls E hP hD hl
  obtain ⟨hx, hb, hr, hml, hlocks, hin, hown, hts, hK, hA⟩ := E
  have hown : s.vm.findClass RX12 = some m.cls := hown
  have hS : va_S A s.heap s.heap [] := va_S.rf
  have hl : lv_has ls 1 [(0, .ref m0)] := hl
  refine lv_aload_n hx hb dX12_lockTold_0 rfl (lv_at hl 0 rfl) ?_
  refine lv_aload_n hx hb dX12_lockTold_1 rfl (lv_at hl 0 rfl) ?_
  refine sk_get (v := .ref lw) (C := RX12) (T := TX12) (N := 92) hx hb hts inlX12 hown hK hP 0 rfl rfl 11 (by decide) w_5_166 (mF_get (k := 11) (by decide) h11) dX12_lockTold_2 ?_
  refine sk_Vv (q0 := 0) (n := 1) (rest := []) (wr := [(l0, .inl (cI, 4, .inl f))]) ⟨hx, hb, hml, hown, hts⟩ hl.1 (c_m_asks_a l D cI cJ cC cZ cS m0 F lw h5 h2 h3) w_6_210 w_6_212 w_0_42 w_1_14 w_6_213 (by decide +kernel) ⟨⟨(Nat.le_of_ble_eq_true rfl), (Nat.le_of_ble_eq_true rfl)⟩, (Nat.le_of_ble_eq_true rfl), (Nat.le_of_ble_eq_true rfl)⟩ hK hP hD hS hA [0] [1] rfl rfl (by decide) (by decide) (by decide) rfl rfl rfl rfl (Nat.le_of_ble_eq_true rfl) dX12_lockTold_5 (fun u H locs hw hP hD hS => ?_)
  obtain rfl := hw
  have hP : va_P D vwCl [(l0, .inl (cI, 4, .inl f)), (m0, .inr (12, mF (updV (updV F 5 (.int 1)) 6 (.int 0))))] H := hP
  have hD : va_D A [(l0, .inl (cI, 4, .inl f)), (m0, .inr (12, mF (updV (updV F 5 (.int 1)) 6 (.int 0))))] := hD
  refine W.widen (k := 0) (n := 0) (Nat.le_of_ble_eq_true rfl) (Nat.le_of_ble_eq_true rfl) ?_
  refine lv_aload_n hx hb dX12_lockTold_8 rfl (lv_at hl 0 rfl) ?_
  refine sk_get (v := .ref l0) (C := RX12) (T := TX12) (N := 92) hx hb hts inlX12 hown hK hP 1 rfl rfl 20 (by decide) w_5_175 (mF_get (k := 20) (by decide) h20) dX12_lockTold_9 ?_
  refine lv_iconst (v := 0) hx hb dX12_lockTold_12 (by decide) ?_
  refine lv_aload_n hx hb dX12_lockTold_13 rfl (lv_at hl 0 rfl) ?_
  refine lv_iconst (v := 2) hx hb dX12_lockTold_14 (by decide) ?_
  refine lv_bipush (v := 9) hx hb dX12_lockTold_15 (by decide) ?_
  refine sk_Vi (q0 := 0) (n := 2) (rest := [.int 0, .ref l0]) (wr := [(l0, .inl (cI, 4, .inl f))]) ⟨hx, hb, hml, hown, hts⟩ hl.1 (c_m_number_b l D cI cJ cC cZ cS m0 (updV (updV F 5 (.int 1)) 6 (.int 0)) 2 9 rfl) w_6_233 w_6_235 w_0_47 w_1_14 w_6_236 (by decide +kernel) ⟨⟨(Nat.le_of_ble_eq_true rfl), (Nat.le_of_ble_eq_true rfl)⟩, (Nat.le_of_ble_eq_true rfl), (Nat.le_of_ble_eq_true rfl)⟩ hK hP hD hS hA [1] [0] rfl rfl (by decide) (by decide) (by decide) rfl rfl rfl rfl (Nat.le_of_ble_eq_true rfl) dX12_lockTold_17 (fun r_1 u H locs hw hP hD hS => ?_)
  obtain ⟨rfl, rfl⟩ := hw
  have hP : va_P D vwCl [(l0, .inl (cI, 4, .inl f)), (m0, .inr (12, mF (updV (updV F 5 (.int 1)) 6 (.int 0))))] H := hP
  have hD : va_D A [(l0, .inl (cI, 4, .inl f)), (m0, .inr (12, mF (updV (updV F 5 (.int 1)) 6 (.int 0))))] := hD
  refine W.widen (k := 0) (n := 0) (Nat.le_of_ble_eq_true rfl) (Nat.le_of_ble_eq_true rfl) ?_
  refine sk_iastO (ws' := fun f_2 => [(l0, .inl (cI, 4, .inl f_2)), (m0, .inr (12, mF (updV (updV F 5 (.int 1)) 6 (.int 0))))]) hx hb hK hP hD hS 0 0 rfl rfl (by unfold vp_in; decide) (fun _ => rfl) dX12_lockTold_20 (fun f_2 H locs hP hD hS => ?_)
  refine lv_aload_n hx hb dX12_lockTold_21 rfl (lv_at hl 0 rfl) ?_
  refine lv_aload_n hx hb dX12_lockTold_22 rfl (lv_at hl 0 rfl) ?_
  refine sk_get (v := .ref fw) (C := RX12) (T := TX12) (N := 92) hx hb hts inlX12 hown hK hP 1 rfl rfl 12 (by decide) w_5_167 (mF_get (k := 12) (by decide) h12) dX12_lockTold_23 ?_
  refine sk_Vv (q0 := 0) (n := 1) (rest := []) (wr := [(l0, .inl (cI, 4, .inl f_2))]) ⟨hx, hb, hml, hown, hts⟩ hl.1 (c_m_asks_b l D cI cJ cC cZ cS m0 (updV (updV F 5 (.int 1)) 6 (.int 0)) fw rfl) w_6_210 w_6_212 w_0_42 w_1_14 w_6_213 (by decide +kernel) ⟨⟨(Nat.le_of_ble_eq_true rfl), (Nat.le_of_ble_eq_true rfl)⟩, (Nat.le_of_ble_eq_true rfl), (Nat.le_of_ble_eq_true rfl)⟩ hK hP hD hS hA [1] [0] rfl rfl (by decide) (by decide) (by decide) rfl rfl rfl rfl (Nat.le_of_ble_eq_true rfl) dX12_lockTold_26 (fun u H locs hw hP hD hS => ?_)
  obtain rfl := hw
  have hP : va_P D vwCl [(l0, .inl (cI, 4, .inl f_2)), (m0, .inr (12, mF (updV (updV F 5 (.int 1)) 6 (.int 0))))] H := hP
  have hD : va_D A [(l0, .inl (cI, 4, .inl f_2)), (m0, .inr (12, mF (updV (updV F 5 (.int 1)) 6 (.int 0))))] := hD
  refine W.widen (k := 0) (n := 0) (Nat.le_of_ble_eq_true rfl) (Nat.le_of_ble_eq_true rfl) ?_
  refine lv_aload_n hx hb dX12_lockTold_29 rfl (lv_at hl 0 rfl) ?_
  refine sk_get (v := .ref l0) (C := RX12) (T := TX12) (N := 92) hx hb hts inlX12 hown hK hP 1 rfl rfl 20 (by decide) w_5_175 (mF_get (k := 20) (by decide) h20) dX12_lockTold_30 ?_
  refine lv_iconst (v := 1) hx hb dX12_lockTold_33 (by decide) ?_
  refine lv_aload_n hx hb dX12_lockTold_34 rfl (lv_at hl 0 rfl) ?_
  refine lv_iconst (v := 0) hx hb dX12_lockTold_35 (by decide) ?_
  refine lv_bipush (v := 9) hx hb dX12_lockTold_36 (by decide) ?_
  refine sk_Vi (q0 := 0) (n := 2) (rest := [.int 1, .ref l0]) (wr := [(l0, .inl (cI, 4, .inl f_2))]) ⟨hx, hb, hml, hown, hts⟩ hl.1 (c_m_number_b l D cI cJ cC cZ cS m0 (updV (updV F 5 (.int 1)) 6 (.int 0)) 0 9 rfl) w_6_233 w_6_235 w_0_47 w_1_14 w_6_236 (by decide +kernel) ⟨⟨(Nat.le_of_ble_eq_true rfl), (Nat.le_of_ble_eq_true rfl)⟩, (Nat.le_of_ble_eq_true rfl), (Nat.le_of_ble_eq_true rfl)⟩ hK hP hD hS hA [1] [0] rfl rfl (by decide) (by decide) (by decide) rfl rfl rfl rfl (Nat.le_of_ble_eq_true rfl) dX12_lockTold_38 (fun r_3 u H locs hw hP hD hS => ?_)
  obtain ⟨rfl, rfl⟩ := hw
  have hP : va_P D vwCl [(l0, .inl (cI, 4, .inl f_2)), (m0, .inr (12, mF (updV (updV F 5 (.int 1)) 6 (.int 0))))] H := hP
  have hD : va_D A [(l0, .inl (cI, 4, .inl f_2)), (m0, .inr (12, mF (updV (updV F 5 (.int 1)) 6 (.int 0))))] := hD
  refine W.widen (k := 0) (n := 0) (Nat.le_of_ble_eq_true rfl) (Nat.le_of_ble_eq_true rfl) ?_
  refine sk_iastO (ws' := fun f_4 => [(l0, .inl (cI, 4, .inl f_4)), (m0, .inr (12, mF (updV (updV F 5 (.int 1)) 6 (.int 0))))]) hx hb hK hP hD hS 0 0 rfl rfl (by unfold vp_in; decide) (fun _ => rfl) dX12_lockTold_41 (fun f_4 H locs hP hD hS => ?_)
  refine lv_aload_n hx hb dX12_lockTold_42 rfl (lv_at hl 0 rfl) ?_
  refine lv_bipush (v := 59) hx hb dX12_lockTold_43 (by decide) ?_
  refine sk_Vv (q0 := 0) (n := 1) (rest := []) (wr := [(l0, .inl (cI, 4, .inl f_4))]) ⟨hx, hb, hml, hown, hts⟩ hl.1 (c_m_asksSign_b l D cI cJ cC cZ cS m0 (updV (updV F 5 (.int 1)) 6 (.int 0)) 59 rfl) w_7_3 w_7_5 w_0_48 w_1_14 w_7_6 (by decide +kernel) ⟨⟨(Nat.le_of_ble_eq_true rfl), (Nat.le_of_ble_eq_true rfl)⟩, (Nat.le_of_ble_eq_true rfl), (Nat.le_of_ble_eq_true rfl)⟩ hK hP hD hS hA [1] [0] rfl rfl (by decide) (by decide) (by decide) rfl rfl rfl rfl (Nat.le_of_ble_eq_true rfl) dX12_lockTold_45 (fun u H locs hw hP hD hS => ?_)
  obtain rfl := hw
  have hP : va_P D vwCl [(l0, .inl (cI, 4, .inl f_4)), (m0, .inr (12, mF (updV (updV F 5 (.int 1)) 6 (.int 0))))] H := hP
  have hD : va_D A [(l0, .inl (cI, 4, .inl f_4)), (m0, .inr (12, mF (updV (updV F 5 (.int 1)) 6 (.int 0))))] := hD
  refine W.widen (k := 0) (n := 0) (Nat.le_of_ble_eq_true rfl) (Nat.le_of_ble_eq_true rfl) ?_
  have hP := hP.sub (ws' := [(m0, .inr (12, mF (updV (updV F 5 (.int 1)) 6 (.int 0))))]) [1] rfl
  have hD := hD.sub (ws' := [(m0, .inr (12, mF (updV (updV F 5 (.int 1)) 6 (.int 0))))]) [1] (by decide) rfl
  exact sk_vret hx hb hr hlocks hK hP hD hS rfl (Nat.le_of_ble_eq_true rfl) (Nat.le_of_ble_eq_true rfl) dX12_lockTold_48
theorem dX12_lock_0 : decode cX12_lock 0 = .ok (.aload_n 0, 1) := by decide +kernel
theorem dX12_lock_1 : decode cX12_lock 1 = .ok (.aload_n 0, 1) := by decide +kernel
theorem dX12_lock_2 : decode cX12_lock 2 = .ok (.getfield 192, 3) := by decide +kernel
theorem dX12_lock_5 : decode cX12_lock 5 = .ok (.putfield 204, 3) := by decide +kernel
theorem dX12_lock_8 : decode cX12_lock 8 = .ok (.aload_n 0, 1) := by decide +kernel
theorem dX12_lock_9 : decode cX12_lock 9 = .ok (.iconst 0, 1) := by decide +kernel
theorem dX12_lock_10 : decode cX12_lock 10 = .ok (.putfield 192, 3) := by decide +kernel
theorem dX12_lock_13 : decode cX12_lock 13 = .ok (.aload_n 0, 1) := by decide +kernel
theorem dX12_lock_14 : decode cX12_lock 14 = .ok (.iconst 0, 1) := by decide +kernel
theorem dX12_lock_15 : decode cX12_lock 15 = .ok (.putfield 201, 3) := by decide +kernel
theorem dX12_lock_18 : decode cX12_lock 18 = .ok (.aload_n 0, 1) := by decide +kernel
theorem dX12_lock_19 : decode cX12_lock 19 = .ok (.iconst (-1), 1) := by decide +kernel
theorem dX12_lock_20 : decode cX12_lock 20 = .ok (.putfield 215, 3) := by decide +kernel
theorem dX12_lock_23 : decode cX12_lock 23 = .ok (.aload_n 0, 1) := by decide +kernel
theorem dX12_lock_24 : decode cX12_lock 24 = .ok (.iconst 0, 1) := by decide +kernel
theorem dX12_lock_25 : decode cX12_lock 25 = .ok (.putfield 195, 3) := by decide +kernel
theorem dX12_lock_28 : decode cX12_lock 28 = .ok (.aload_n 0, 1) := by decide +kernel
theorem dX12_lock_29 : decode cX12_lock 29 = .ok (.iconst (-1), 1) := by decide +kernel
theorem dX12_lock_30 : decode cX12_lock 30 = .ok (.putfield 198, 3) := by decide +kernel
theorem dX12_lock_33 : decode cX12_lock 33 = .ok (.aload_n 0, 1) := by decide +kernel
theorem dX12_lock_34 : decode cX12_lock 34 = .ok (.iconst 0, 1) := by decide +kernel
theorem dX12_lock_35 : decode cX12_lock 35 = .ok (.putfield 272, 3) := by decide +kernel
theorem dX12_lock_38 : decode cX12_lock 38 = .ok (.iconst 0, 1) := by decide +kernel
theorem dX12_lock_39 : decode cX12_lock 39 = .ok (.istore_n 1, 1) := by decide +kernel
theorem dX12_lock_40 : decode cX12_lock 40 = .ok (.iload_n 1, 1) := by decide +kernel
theorem dX12_lock_41 : decode cX12_lock 41 = .ok (.bipush 27, 2) := by decide +kernel
theorem dX12_lock_43 : decode cX12_lock 43 = .ok (.if_icmp .ge 16, 3) := by decide +kernel
theorem dX12_lock_46 : decode cX12_lock 46 = .ok (.aload_n 0, 1) := by decide +kernel
theorem dX12_lock_47 : decode cX12_lock 47 = .ok (.getfield 51, 3) := by decide +kernel
theorem dX12_lock_50 : decode cX12_lock 50 = .ok (.iload_n 1, 1) := by decide +kernel
theorem dX12_lock_51 : decode cX12_lock 51 = .ok (.iconst 0, 1) := by decide +kernel
theorem dX12_lock_52 : decode cX12_lock 52 = .ok (.iastore, 1) := by decide +kernel
theorem dX12_lock_53 : decode cX12_lock 53 = .ok (.iinc 1 1, 3) := by decide +kernel
theorem dX12_lock_56 : decode cX12_lock 56 = .ok (.goto (-16), 3) := by decide +kernel
theorem dX12_lock_59 : decode cX12_lock 59 = .ok (.iconst 0, 1) := by decide +kernel
theorem dX12_lock_60 : decode cX12_lock 60 = .ok (.istore_n 1, 1) := by decide +kernel
theorem dX12_lock_61 : decode cX12_lock 61 = .ok (.iload_n 1, 1) := by decide +kernel
theorem dX12_lock_62 : decode cX12_lock 62 = .ok (.iconst 3, 1) := by decide +kernel
theorem dX12_lock_63 : decode cX12_lock 63 = .ok (.if_icmp .ge 16, 3) := by decide +kernel
theorem dX12_lock_66 : decode cX12_lock 66 = .ok (.aload_n 0, 1) := by decide +kernel
theorem dX12_lock_67 : decode cX12_lock 67 = .ok (.getfield 54, 3) := by decide +kernel
theorem dX12_lock_70 : decode cX12_lock 70 = .ok (.iload_n 1, 1) := by decide +kernel
theorem dX12_lock_71 : decode cX12_lock 71 = .ok (.iconst (-1), 1) := by decide +kernel
theorem dX12_lock_72 : decode cX12_lock 72 = .ok (.iastore, 1) := by decide +kernel
theorem dX12_lock_73 : decode cX12_lock 73 = .ok (.iinc 1 1, 3) := by decide +kernel
theorem dX12_lock_76 : decode cX12_lock 76 = .ok (.goto (-15), 3) := by decide +kernel
theorem dX12_lock_79 : decode cX12_lock 79 = .ok (.aload_n 0, 1) := by decide +kernel
theorem dX12_lock_80 : decode cX12_lock 80 = .ok (.iconst 0, 1) := by decide +kernel
theorem dX12_lock_81 : decode cX12_lock 81 = .ok (.putfield 287, 3) := by decide +kernel
theorem dX12_lock_84 : decode cX12_lock 84 = .ok (.aload_n 0, 1) := by decide +kernel
theorem dX12_lock_85 : decode cX12_lock 85 = .ok (.invokevirtual 290, 3) := by decide +kernel
theorem dX12_lock_88 : decode cX12_lock 88 = .ok (.aload_n 0, 1) := by decide +kernel
theorem dX12_lock_89 : decode cX12_lock 89 = .ok (.iconst 1, 1) := by decide +kernel
theorem dX12_lock_90 : decode cX12_lock 90 = .ok (.putfield 275, 3) := by decide +kernel
theorem dX12_lock_93 : decode cX12_lock 93 = .ok (.aload_n 0, 1) := by decide +kernel
theorem dX12_lock_94 : decode cX12_lock 94 = .ok (.getfield 195, 3) := by decide +kernel
theorem dX12_lock_97 : decode cX12_lock 97 = .ok (.ifCond .ne 18, 3) := by decide +kernel
theorem dX12_lock_115 : decode cX12_lock 115 = .ok (.aload_n 0, 1) := by decide +kernel
theorem dX12_lock_116 : decode cX12_lock 116 = .ok (.aload_n 0, 1) := by decide +kernel
theorem dX12_lock_117 : decode cX12_lock 117 = .ok (.getfield 195, 3) := by decide +kernel
theorem dX12_lock_120 : decode cX12_lock 120 = .ok (.putfield 296, 3) := by decide +kernel
theorem dX12_lock_123 : decode cX12_lock 123 = .ok (.aload_n 0, 1) := by decide +kernel
theorem dX12_lock_124 : decode cX12_lock 124 = .ok (.aload_n 0, 1) := by decide +kernel
theorem dX12_lock_125 : decode cX12_lock 125 = .ok (.getfield 198, 3) := by decide +kernel
theorem dX12_lock_128 : decode cX12_lock 128 = .ok (.putfield 13, 3) := by decide +kernel
theorem dX12_lock_131 : decode cX12_lock 131 = .ok (.aload_n 0, 1) := by decide +kernel
theorem dX12_lock_132 : decode cX12_lock 132 = .ok (.getfield 195, 3) := by decide +kernel
theorem dX12_lock_135 : decode cX12_lock 135 = .ok (.ifCond .eq 15, 3) := by decide +kernel
theorem dX12_lock_138 : decode cX12_lock 138 = .ok (.aload_n 0, 1) := by decide +kernel
theorem dX12_lock_139 : decode cX12_lock 139 = .ok (.getfield 17, 3) := by decide +kernel
theorem dX12_lock_142 : decode cX12_lock 142 = .ok (.iconst 1, 1) := by decide +kernel
theorem dX12_lock_143 : decode cX12_lock 143 = .ok (.dup2, 1) := by decide +kernel
theorem dX12_lock_144 : decode cX12_lock 144 = .ok (.iaload, 1) := by decide +kernel
theorem dX12_lock_145 : decode cX12_lock 145 = .ok (.iconst 1, 1) := by decide +kernel
theorem dX12_lock_146 : decode cX12_lock 146 = .ok (.iadd, 1) := by decide +kernel
theorem dX12_lock_147 : decode cX12_lock 147 = .ok (.iastore, 1) := by decide +kernel
theorem dX12_lock_148 : decode cX12_lock 148 = .ok (.iconst (-1), 1) := by decide +kernel
theorem dX12_lock_149 : decode cX12_lock 149 = .ok (.ireturn, 1) := by decide +kernel
theorem w_5_159 : (Cond.fieldLink RX12 215 "SameKeeperModel" "ended" "I") ∈ wsL_law := sk_mem (ck_5 _ (List.mem_of_getElem? (i := 159) rfl)) rfl
theorem w_5_182 : (Cond.fieldLink RX12 272 "SameKeeperModel" "coded" "I") ∈ wsL_law := sk_mem (ck_5 _ (List.mem_of_getElem? (i := 182) rfl)) rfl
theorem w_5_177 : (Cond.fieldLink RX12 287 "SameKeeperModel" "rainTold" "I") ∈ wsL_law := sk_mem (ck_5 _ (List.mem_of_getElem? (i := 177) rfl)) rfl
theorem w_6_206 : (Cond.methodLink RX12 290 yX12_lockTold) ∈ wsL_law := sk_mem (ck_6 _ (List.mem_of_getElem? (i := 206) rfl)) rfl
theorem w_6_208 : (Cond.instanceMethod yX12_lockTold) ∈ wsL_law := sk_mem (ck_6 _ (List.mem_of_getElem? (i := 208) rfl)) rfl
theorem w_0_41 : (Cond.selects RX12 yX12_lockTold yX12_lockTold) ∈ wsL_law := sk_mem (ck_0 _ (List.mem_of_getElem? (i := 41) rfl)) rfl
theorem w_5_183 : (Cond.fieldLink RX12 275 "SameKeeperModel" "statements" "I") ∈ wsL_law := sk_mem (ck_5 _ (List.mem_of_getElem? (i := 183) rfl)) rfl
theorem w_6_205 : (Cond.code yX12_lock cX12_lock 2 (some .int)) ∈ wsL_law := sk_mem (ck_6 _ (List.mem_of_getElem? (i := 205) rfl)) rfl
set_option maxHeartbeats 4000000 in
set_option maxRecDepth 100000 in
theorem c_m_lock (l : Launch) (D : va_G) (cI cJ cC cZ cS : ClassId) (m0 : Nat) (g : Nat → Nat) (ff : Nat → Int32)  : skM l yX12_lock cX12_lock 2 (some .int) 5 105 0 0 D (skT cI cJ cC cZ cS) [.ref m0] [(m0, .inr (12, mF (mV g))), (g 9, .inl (cI, 6, .inl (fun _ => 0))), (g 20, .inl (cI, 4, .inl (fun _ => 0))), (g 21, .inl (cI, 27, .inl (fun _ => 0))), (g 24, .inl (cI, 6, .inl ff))] (skI D (skT cI cJ cC cZ cS) (fun (r : Int32) (u : va_W) => r = -1 ∧ u = [])) := by
  refine skM_of (by decide) (Nat.le_of_ble_eq_true rfl) ?_
  intro p e s m below meth c A ls E hP hD hl
  obtain ⟨hx, hb, hr, hml, hlocks, hin, hown, hts, hK, hA⟩ := E
  have hown : s.vm.findClass RX12 = some m.cls := hown
  have hS : va_S A s.heap s.heap [] := va_S.rf
  have hl : lv_has ls 2 [(0, .ref m0)] := hl
  refine lv_aload_n hx hb dX12_lock_0 rfl (lv_at hl 0 rfl) ?_
  refine lv_aload_n hx hb dX12_lock_1 rfl (lv_at hl 0 rfl) ?_
  refine sk_get (v := .int 0) (C := RX12) (T := TX12) (N := 92) hx hb hts inlX12 hown hK hP 0 rfl rfl 1 (by decide) w_5_156 (mF_get (k := 1) (by decide) rfl) dX12_lock_2 ?_
  refine sk_put (ws' := [(m0, .inr (12, mF (updV (mV g) 3 (.int 0)))), (g 9, .inl (cI, 6, .inl (fun _ => 0))), (g 20, .inl (cI, 4, .inl (fun _ => 0))), (g 21, .inl (cI, 27, .inl (fun _ => 0))), (g 24, .inl (cI, 6, .inl ff))]) (C := RX12) (T := TX12) (N := 92) (v := .int 0) hx hb hts inlX12 tyX12 tyX12_ok nmX12 hown hK hP hD hS 0 rfl rfl 3 (by decide) w_5_158 rfl rfl rfl (mF_len (by decide)) (mF_w (by decide) rfl) dX12_lock_5 (fun H locs hP hD hS => ?_)
  refine lv_aload_n hx hb dX12_lock_8 rfl (lv_at hl 0 rfl) ?_
  refine lv_iconst (v := 0) hx hb dX12_lock_9 (by decide) ?_
  refine sk_put (ws' := [(m0, .inr (12, mF (updV (updV (mV g) 3 (.int 0)) 1 (.int 0)))), (g 9, .inl (cI, 6, .inl (fun _ => 0))), (g 20, .inl (cI, 4, .inl (fun _ => 0))), (g 21, .inl (cI, 27, .inl (fun _ => 0))), (g 24, .inl (cI, 6, .inl ff))]) (C := RX12) (T := TX12) (N := 92) (v := .int 0) hx hb hts inlX12 tyX12 tyX12_ok nmX12 hown hK hP hD hS 0 rfl rfl 1 (by decide) w_5_156 rfl rfl rfl (mF_len (by decide)) (mF_w (by decide) rfl) dX12_lock_10 (fun H locs hP hD hS => ?_)
  refine lv_aload_n hx hb dX12_lock_13 rfl (lv_at hl 0 rfl) ?_
  refine lv_iconst (v := 0) hx hb dX12_lock_14 (by decide) ?_
  refine sk_put (ws' := [(m0, .inr (12, mF (updV (updV (updV (mV g) 3 (.int 0)) 1 (.int 0)) 2 (.int 0)))), (g 9, .inl (cI, 6, .inl (fun _ => 0))), (g 20, .inl (cI, 4, .inl (fun _ => 0))), (g 21, .inl (cI, 27, .inl (fun _ => 0))), (g 24, .inl (cI, 6, .inl ff))]) (C := RX12) (T := TX12) (N := 92) (v := .int 0) hx hb hts inlX12 tyX12 tyX12_ok nmX12 hown hK hP hD hS 0 rfl rfl 2 (by decide) w_5_157 rfl rfl rfl (mF_len (by decide)) (mF_w (by decide) rfl) dX12_lock_15 (fun H locs hP hD hS => ?_)
  refine lv_aload_n hx hb dX12_lock_18 rfl (lv_at hl 0 rfl) ?_
  refine lv_iconst (v := (-1)) hx hb dX12_lock_19 (by decide) ?_
  refine sk_put (ws' := [(m0, .inr (12, mF (updV (updV (updV (updV (mV g) 3 (.int 0)) 1 (.int 0)) 2 (.int 0)) 4 (.int (-1))))), (g 9, .inl (cI, 6, .inl (fun _ => 0))), (g 20, .inl (cI, 4, .inl (fun _ => 0))), (g 21, .inl (cI, 27, .inl (fun _ => 0))), (g 24, .inl (cI, 6, .inl ff))]) (C := RX12) (T := TX12) (N := 92) (v := .int (-1)) hx hb hts inlX12 tyX12 tyX12_ok nmX12 hown hK hP hD hS 0 rfl rfl 4 (by decide) w_5_159 rfl rfl rfl (mF_len (by decide)) (mF_w (by decide) rfl) dX12_lock_20 (fun H locs hP hD hS => ?_)
  refine lv_aload_n hx hb dX12_lock_23 rfl (lv_at hl 0 rfl) ?_
  refine lv_iconst (v := 0) hx hb dX12_lock_24 (by decide) ?_
  refine sk_put (ws' := [(m0, .inr (12, mF (updV (updV (updV (updV (updV (mV g) 3 (.int 0)) 1 (.int 0)) 2 (.int 0)) 4 (.int (-1))) 5 (.int 0)))), (g 9, .inl (cI, 6, .inl (fun _ => 0))), (g 20, .inl (cI, 4, .inl (fun _ => 0))), (g 21, .inl (cI, 27, .inl (fun _ => 0))), (g 24, .inl (cI, 6, .inl ff))]) (C := RX12) (T := TX12) (N := 92) (v := .int 0) hx hb hts inlX12 tyX12 tyX12_ok nmX12 hown hK hP hD hS 0 rfl rfl 5 (by decide) w_5_160 rfl rfl rfl (mF_len (by decide)) (mF_w (by decide) rfl) dX12_lock_25 (fun H locs hP hD hS => ?_)
  refine lv_aload_n hx hb dX12_lock_28 rfl (lv_at hl 0 rfl) ?_
  refine lv_iconst (v := (-1)) hx hb dX12_lock_29 (by decide) ?_
  refine sk_put (ws' := [(m0, .inr (12, mF (updV (updV (updV (updV (updV (updV (mV g) 3 (.int 0)) 1 (.int 0)) 2 (.int 0)) 4 (.int (-1))) 5 (.int 0)) 6 (.int (-1))))), (g 9, .inl (cI, 6, .inl (fun _ => 0))), (g 20, .inl (cI, 4, .inl (fun _ => 0))), (g 21, .inl (cI, 27, .inl (fun _ => 0))), (g 24, .inl (cI, 6, .inl ff))]) (C := RX12) (T := TX12) (N := 92) (v := .int (-1)) hx hb hts inlX12 tyX12 tyX12_ok nmX12 hown hK hP hD hS 0 rfl rfl 6 (by decide) w_5_161 rfl rfl rfl (mF_len (by decide)) (mF_w (by decide) rfl) dX12_lock_30 (fun H locs hP hD hS => ?_)
  refine lv_aload_n hx hb dX12_lock_33 rfl (lv_at hl 0 rfl) ?_
  refine lv_iconst (v := 0) hx hb dX12_lock_34 (by decide) ?_
  refine sk_put (ws' := [(m0, .inr (12, mF (updV (updV (updV (updV (updV (updV (updV (mV g) 3 (.int 0)) 1 (.int 0)) 2 (.int 0)) 4 (.int (-1))) 5 (.int 0)) 6 (.int (-1))) 27 (.int 0)))), (g 9, .inl (cI, 6, .inl (fun _ => 0))), (g 20, .inl (cI, 4, .inl (fun _ => 0))), (g 21, .inl (cI, 27, .inl (fun _ => 0))), (g 24, .inl (cI, 6, .inl ff))]) (C := RX12) (T := TX12) (N := 92) (v := .int 0) hx hb hts inlX12 tyX12 tyX12_ok nmX12 hown hK hP hD hS 0 rfl rfl 27 (by decide) w_5_182 rfl rfl rfl (mF_len (by decide)) (mF_w (by decide) rfl) dX12_lock_35 (fun H locs hP hD hS => ?_)
  refine lv_iconst (v := 0) hx hb dX12_lock_38 (by decide) ?_
  refine lv_istore_n (lv' := [(1, .int 0), (0, .ref m0)]) hx hb dX12_lock_39 rfl hl (by decide) rfl (fun ls hl => ?_)
  refine lv_iload_n hx hb dX12_lock_40 rfl (lv_at hl 0 rfl) ?_
  refine lv_bipush (v := 27) hx hb dX12_lock_41 (by decide) ?_
  refine lv_icmp_ge (tgt := 59) hx hb dX12_lock_43 (by decide) (fun c => absurd c (by decide)) (fun c_1 => ?_)
  refine lv_aload_n hx hb dX12_lock_46 rfl (lv_at hl 1 rfl) ?_
  refine sk_get (v := .ref (g 21)) (C := RX12) (T := TX12) (N := 92) hx hb hts inlX12 hown hK hP 0 rfl rfl 21 (by decide) w_5_176 (mF_get (k := 21) (by decide) rfl) dX12_lock_47 ?_
  refine lv_iload_n hx hb dX12_lock_50 rfl (lv_at hl 0 rfl) ?_
  refine lv_iconst (v := 0) hx hb dX12_lock_51 (by decide) ?_
  refine sk_iast0 hx hb hK hP hD hS 3 0 rfl rfl (by unfold vp_in; decide) dX12_lock_52 (fun H locs hP hD hS => ?_)
  refine lv_iinc (v := 1) (lv' := [(1, .int 1), (0, .ref m0)]) hx hb dX12_lock_53 hl (k := 0) rfl (by decide) (by decide) rfl (fun ls hl => ?_)
  refine lv_goto (tgt := 40) hx hb dX12_lock_56 (by decide) ?_
  refine lv_iload_n hx hb dX12_lock_40 rfl (lv_at hl 0 rfl) ?_
  refine lv_bipush (v := 27) hx hb dX12_lock_41 (by decide) ?_
  refine lv_icmp_ge (tgt := 59) hx hb dX12_lock_43 (by decide) (fun c => absurd c (by decide)) (fun c_3 => ?_)
  refine lv_aload_n hx hb dX12_lock_46 rfl (lv_at hl 1 rfl) ?_
  refine sk_get (v := .ref (g 21)) (C := RX12) (T := TX12) (N := 92) hx hb hts inlX12 hown hK hP 0 rfl rfl 21 (by decide) w_5_176 (mF_get (k := 21) (by decide) rfl) dX12_lock_47 ?_
  refine lv_iload_n hx hb dX12_lock_50 rfl (lv_at hl 0 rfl) ?_
  refine lv_iconst (v := 0) hx hb dX12_lock_51 (by decide) ?_
  refine sk_iast0 hx hb hK hP hD hS 3 0 rfl rfl (by unfold vp_in; decide) dX12_lock_52 (fun H locs hP hD hS => ?_)
  refine lv_iinc (v := 2) (lv' := [(1, .int 2), (0, .ref m0)]) hx hb dX12_lock_53 hl (k := 0) rfl (by decide) (by decide) rfl (fun ls hl => ?_)
  refine lv_goto (tgt := 40) hx hb dX12_lock_56 (by decide) ?_
  refine lv_iload_n hx hb dX12_lock_40 rfl (lv_at hl 0 rfl) ?_
  refine lv_bipush (v := 27) hx hb dX12_lock_41 (by decide) ?_
  refine lv_icmp_ge (tgt := 59) hx hb dX12_lock_43 (by decide) (fun c => absurd c (by decide)) (fun c_5 => ?_)
  refine lv_aload_n hx hb dX12_lock_46 rfl (lv_at hl 1 rfl) ?_
  refine sk_get (v := .ref (g 21)) (C := RX12) (T := TX12) (N := 92) hx hb hts inlX12 hown hK hP 0 rfl rfl 21 (by decide) w_5_176 (mF_get (k := 21) (by decide) rfl) dX12_lock_47 ?_
  refine lv_iload_n hx hb dX12_lock_50 rfl (lv_at hl 0 rfl) ?_
  refine lv_iconst (v := 0) hx hb dX12_lock_51 (by decide) ?_
  refine sk_iast0 hx hb hK hP hD hS 3 0 rfl rfl (by unfold vp_in; decide) dX12_lock_52 (fun H locs hP hD hS => ?_)
  refine lv_iinc (v := 3) (lv' := [(1, .int 3), (0, .ref m0)]) hx hb dX12_lock_53 hl (k := 0) rfl (by decide) (by decide) rfl (fun ls hl => ?_)
  refine lv_goto (tgt := 40) hx hb dX12_lock_56 (by decide) ?_
  refine lv_iload_n hx hb dX12_lock_40 rfl (lv_at hl 0 rfl) ?_
  refine lv_bipush (v := 27) hx hb dX12_lock_41 (by decide) ?_
  refine lv_icmp_ge (tgt := 59) hx hb dX12_lock_43 (by decide) (fun c => absurd c (by decide)) (fun c_7 => ?_)
  refine lv_aload_n hx hb dX12_lock_46 rfl (lv_at hl 1 rfl) ?_
  refine sk_get (v := .ref (g 21)) (C := RX12) (T := TX12) (N := 92) hx hb hts inlX12 hown hK hP 0 rfl rfl 21 (by decide) w_5_176 (mF_get (k := 21) (by decide) rfl) dX12_lock_47 ?_
  refine lv_iload_n hx hb dX12_lock_50 rfl (lv_at hl 0 rfl) ?_
  refine lv_iconst (v := 0) hx hb dX12_lock_51 (by decide) ?_
  refine sk_iast0 hx hb hK hP hD hS 3 0 rfl rfl (by unfold vp_in; decide) dX12_lock_52 (fun H locs hP hD hS => ?_)
  refine lv_iinc (v := 4) (lv' := [(1, .int 4), (0, .ref m0)]) hx hb dX12_lock_53 hl (k := 0) rfl (by decide) (by decide) rfl (fun ls hl => ?_)
  refine lv_goto (tgt := 40) hx hb dX12_lock_56 (by decide) ?_
  refine lv_iload_n hx hb dX12_lock_40 rfl (lv_at hl 0 rfl) ?_
  refine lv_bipush (v := 27) hx hb dX12_lock_41 (by decide) ?_
  refine lv_icmp_ge (tgt := 59) hx hb dX12_lock_43 (by decide) (fun c => absurd c (by decide)) (fun c_9 => ?_)
  refine lv_aload_n hx hb dX12_lock_46 rfl (lv_at hl 1 rfl) ?_
  refine sk_get (v := .ref (g 21)) (C := RX12) (T := TX12) (N := 92) hx hb hts inlX12 hown hK hP 0 rfl rfl 21 (by decide) w_5_176 (mF_get (k := 21) (by decide) rfl) dX12_lock_47 ?_
  refine lv_iload_n hx hb dX12_lock_50 rfl (lv_at hl 0 rfl) ?_
  refine lv_iconst (v := 0) hx hb dX12_lock_51 (by decide) ?_
  refine sk_iast0 hx hb hK hP hD hS 3 0 rfl rfl (by unfold vp_in; decide) dX12_lock_52 (fun H locs hP hD hS => ?_)
  refine lv_iinc (v := 5) (lv' := [(1, .int 5), (0, .ref m0)]) hx hb dX12_lock_53 hl (k := 0) rfl (by decide) (by decide) rfl (fun ls hl => ?_)
  refine lv_goto (tgt := 40) hx hb dX12_lock_56 (by decide) ?_
  refine lv_iload_n hx hb dX12_lock_40 rfl (lv_at hl 0 rfl) ?_
  refine lv_bipush (v := 27) hx hb dX12_lock_41 (by decide) ?_
  refine lv_icmp_ge (tgt := 59) hx hb dX12_lock_43 (by decide) (fun c => absurd c (by decide)) (fun c_11 => ?_)
  refine lv_aload_n hx hb dX12_lock_46 rfl (lv_at hl 1 rfl) ?_
  refine sk_get (v := .ref (g 21)) (C := RX12) (T := TX12) (N := 92) hx hb hts inlX12 hown hK hP 0 rfl rfl 21 (by decide) w_5_176 (mF_get (k := 21) (by decide) rfl) dX12_lock_47 ?_
  refine lv_iload_n hx hb dX12_lock_50 rfl (lv_at hl 0 rfl) ?_
  refine lv_iconst (v := 0) hx hb dX12_lock_51 (by decide) ?_
  refine sk_iast0 hx hb hK hP hD hS 3 0 rfl rfl (by unfold vp_in; decide) dX12_lock_52 (fun H locs hP hD hS => ?_)
  refine lv_iinc (v := 6) (lv' := [(1, .int 6), (0, .ref m0)]) hx hb dX12_lock_53 hl (k := 0) rfl (by decide) (by decide) rfl (fun ls hl => ?_)
  refine lv_goto (tgt := 40) hx hb dX12_lock_56 (by decide) ?_
  refine lv_iload_n hx hb dX12_lock_40 rfl (lv_at hl 0 rfl) ?_
  refine lv_bipush (v := 27) hx hb dX12_lock_41 (by decide) ?_
  refine lv_icmp_ge (tgt := 59) hx hb dX12_lock_43 (by decide) (fun c => absurd c (by decide)) (fun c_13 => ?_)
  refine lv_aload_n hx hb dX12_lock_46 rfl (lv_at hl 1 rfl) ?_
  refine sk_get (v := .ref (g 21)) (C := RX12) (T := TX12) (N := 92) hx hb hts inlX12 hown hK hP 0 rfl rfl 21 (by decide) w_5_176 (mF_get (k := 21) (by decide) rfl) dX12_lock_47 ?_
  refine lv_iload_n hx hb dX12_lock_50 rfl (lv_at hl 0 rfl) ?_
  refine lv_iconst (v := 0) hx hb dX12_lock_51 (by decide) ?_
  refine sk_iast0 hx hb hK hP hD hS 3 0 rfl rfl (by unfold vp_in; decide) dX12_lock_52 (fun H locs hP hD hS => ?_)
  refine lv_iinc (v := 7) (lv' := [(1, .int 7), (0, .ref m0)]) hx hb dX12_lock_53 hl (k := 0) rfl (by decide) (by decide) rfl (fun ls hl => ?_)
  refine lv_goto (tgt := 40) hx hb dX12_lock_56 (by decide) ?_
  refine lv_iload_n hx hb dX12_lock_40 rfl (lv_at hl 0 rfl) ?_
  refine lv_bipush (v := 27) hx hb dX12_lock_41 (by decide) ?_
  refine lv_icmp_ge (tgt := 59) hx hb dX12_lock_43 (by decide) (fun c => absurd c (by decide)) (fun c_15 => ?_)
  refine lv_aload_n hx hb dX12_lock_46 rfl (lv_at hl 1 rfl) ?_
  refine sk_get (v := .ref (g 21)) (C := RX12) (T := TX12) (N := 92) hx hb hts inlX12 hown hK hP 0 rfl rfl 21 (by decide) w_5_176 (mF_get (k := 21) (by decide) rfl) dX12_lock_47 ?_
  refine lv_iload_n hx hb dX12_lock_50 rfl (lv_at hl 0 rfl) ?_
  refine lv_iconst (v := 0) hx hb dX12_lock_51 (by decide) ?_
  refine sk_iast0 hx hb hK hP hD hS 3 0 rfl rfl (by unfold vp_in; decide) dX12_lock_52 (fun H locs hP hD hS => ?_)
  refine lv_iinc (v := 8) (lv' := [(1, .int 8), (0, .ref m0)]) hx hb dX12_lock_53 hl (k := 0) rfl (by decide) (by decide) rfl (fun ls hl => ?_)
  refine lv_goto (tgt := 40) hx hb dX12_lock_56 (by decide) ?_
  refine lv_iload_n hx hb dX12_lock_40 rfl (lv_at hl 0 rfl) ?_
  refine lv_bipush (v := 27) hx hb dX12_lock_41 (by decide) ?_
  refine lv_icmp_ge (tgt := 59) hx hb dX12_lock_43 (by decide) (fun c => absurd c (by decide)) (fun c_17 => ?_)
  refine lv_aload_n hx hb dX12_lock_46 rfl (lv_at hl 1 rfl) ?_
  refine sk_get (v := .ref (g 21)) (C := RX12) (T := TX12) (N := 92) hx hb hts inlX12 hown hK hP 0 rfl rfl 21 (by decide) w_5_176 (mF_get (k := 21) (by decide) rfl) dX12_lock_47 ?_
  refine lv_iload_n hx hb dX12_lock_50 rfl (lv_at hl 0 rfl) ?_
  refine lv_iconst (v := 0) hx hb dX12_lock_51 (by decide) ?_
  refine sk_iast0 hx hb hK hP hD hS 3 0 rfl rfl (by unfold vp_in; decide) dX12_lock_52 (fun H locs hP hD hS => ?_)
  refine lv_iinc (v := 9) (lv' := [(1, .int 9), (0, .ref m0)]) hx hb dX12_lock_53 hl (k := 0) rfl (by decide) (by decide) rfl (fun ls hl => ?_)
  refine lv_goto (tgt := 40) hx hb dX12_lock_56 (by decide) ?_
  refine lv_iload_n hx hb dX12_lock_40 rfl (lv_at hl 0 rfl) ?_
  refine lv_bipush (v := 27) hx hb dX12_lock_41 (by decide) ?_
  refine lv_icmp_ge (tgt := 59) hx hb dX12_lock_43 (by decide) (fun c => absurd c (by decide)) (fun c_19 => ?_)
  refine lv_aload_n hx hb dX12_lock_46 rfl (lv_at hl 1 rfl) ?_
  refine sk_get (v := .ref (g 21)) (C := RX12) (T := TX12) (N := 92) hx hb hts inlX12 hown hK hP 0 rfl rfl 21 (by decide) w_5_176 (mF_get (k := 21) (by decide) rfl) dX12_lock_47 ?_
  refine lv_iload_n hx hb dX12_lock_50 rfl (lv_at hl 0 rfl) ?_
  refine lv_iconst (v := 0) hx hb dX12_lock_51 (by decide) ?_
  refine sk_iast0 hx hb hK hP hD hS 3 0 rfl rfl (by unfold vp_in; decide) dX12_lock_52 (fun H locs hP hD hS => ?_)
  refine lv_iinc (v := 10) (lv' := [(1, .int 10), (0, .ref m0)]) hx hb dX12_lock_53 hl (k := 0) rfl (by decide) (by decide) rfl (fun ls hl => ?_)
  refine lv_goto (tgt := 40) hx hb dX12_lock_56 (by decide) ?_
  refine lv_iload_n hx hb dX12_lock_40 rfl (lv_at hl 0 rfl) ?_
  refine lv_bipush (v := 27) hx hb dX12_lock_41 (by decide) ?_
  refine lv_icmp_ge (tgt := 59) hx hb dX12_lock_43 (by decide) (fun c => absurd c (by decide)) (fun c_21 => ?_)
  refine lv_aload_n hx hb dX12_lock_46 rfl (lv_at hl 1 rfl) ?_
  refine sk_get (v := .ref (g 21)) (C := RX12) (T := TX12) (N := 92) hx hb hts inlX12 hown hK hP 0 rfl rfl 21 (by decide) w_5_176 (mF_get (k := 21) (by decide) rfl) dX12_lock_47 ?_
  refine lv_iload_n hx hb dX12_lock_50 rfl (lv_at hl 0 rfl) ?_
  refine lv_iconst (v := 0) hx hb dX12_lock_51 (by decide) ?_
  refine sk_iast0 hx hb hK hP hD hS 3 0 rfl rfl (by unfold vp_in; decide) dX12_lock_52 (fun H locs hP hD hS => ?_)
  refine lv_iinc (v := 11) (lv' := [(1, .int 11), (0, .ref m0)]) hx hb dX12_lock_53 hl (k := 0) rfl (by decide) (by decide) rfl (fun ls hl => ?_)
  refine lv_goto (tgt := 40) hx hb dX12_lock_56 (by decide) ?_
  refine lv_iload_n hx hb dX12_lock_40 rfl (lv_at hl 0 rfl) ?_
  refine lv_bipush (v := 27) hx hb dX12_lock_41 (by decide) ?_
  refine lv_icmp_ge (tgt := 59) hx hb dX12_lock_43 (by decide) (fun c => absurd c (by decide)) (fun c_23 => ?_)
  refine lv_aload_n hx hb dX12_lock_46 rfl (lv_at hl 1 rfl) ?_
  refine sk_get (v := .ref (g 21)) (C := RX12) (T := TX12) (N := 92) hx hb hts inlX12 hown hK hP 0 rfl rfl 21 (by decide) w_5_176 (mF_get (k := 21) (by decide) rfl) dX12_lock_47 ?_
  refine lv_iload_n hx hb dX12_lock_50 rfl (lv_at hl 0 rfl) ?_
  refine lv_iconst (v := 0) hx hb dX12_lock_51 (by decide) ?_
  refine sk_iast0 hx hb hK hP hD hS 3 0 rfl rfl (by unfold vp_in; decide) dX12_lock_52 (fun H locs hP hD hS => ?_)
  refine lv_iinc (v := 12) (lv' := [(1, .int 12), (0, .ref m0)]) hx hb dX12_lock_53 hl (k := 0) rfl (by decide) (by decide) rfl (fun ls hl => ?_)
  refine lv_goto (tgt := 40) hx hb dX12_lock_56 (by decide) ?_
  refine lv_iload_n hx hb dX12_lock_40 rfl (lv_at hl 0 rfl) ?_
  refine lv_bipush (v := 27) hx hb dX12_lock_41 (by decide) ?_
  refine lv_icmp_ge (tgt := 59) hx hb dX12_lock_43 (by decide) (fun c => absurd c (by decide)) (fun c_25 => ?_)
  refine lv_aload_n hx hb dX12_lock_46 rfl (lv_at hl 1 rfl) ?_
  refine sk_get (v := .ref (g 21)) (C := RX12) (T := TX12) (N := 92) hx hb hts inlX12 hown hK hP 0 rfl rfl 21 (by decide) w_5_176 (mF_get (k := 21) (by decide) rfl) dX12_lock_47 ?_
  refine lv_iload_n hx hb dX12_lock_50 rfl (lv_at hl 0 rfl) ?_
  refine lv_iconst (v := 0) hx hb dX12_lock_51 (by decide) ?_
  refine sk_iast0 hx hb hK hP hD hS 3 0 rfl rfl (by unfold vp_in; decide) dX12_lock_52 (fun H locs hP hD hS => ?_)
  refine lv_iinc (v := 13) (lv' := [(1, .int 13), (0, .ref m0)]) hx hb dX12_lock_53 hl (k := 0) rfl (by decide) (by decide) rfl (fun ls hl => ?_)
  refine lv_goto (tgt := 40) hx hb dX12_lock_56 (by decide) ?_
  refine lv_iload_n hx hb dX12_lock_40 rfl (lv_at hl 0 rfl) ?_
  refine lv_bipush (v := 27) hx hb dX12_lock_41 (by decide) ?_
  refine lv_icmp_ge (tgt := 59) hx hb dX12_lock_43 (by decide) (fun c => absurd c (by decide)) (fun c_27 => ?_)
  refine lv_aload_n hx hb dX12_lock_46 rfl (lv_at hl 1 rfl) ?_
  refine sk_get (v := .ref (g 21)) (C := RX12) (T := TX12) (N := 92) hx hb hts inlX12 hown hK hP 0 rfl rfl 21 (by decide) w_5_176 (mF_get (k := 21) (by decide) rfl) dX12_lock_47 ?_
  refine lv_iload_n hx hb dX12_lock_50 rfl (lv_at hl 0 rfl) ?_
  refine lv_iconst (v := 0) hx hb dX12_lock_51 (by decide) ?_
  refine sk_iast0 hx hb hK hP hD hS 3 0 rfl rfl (by unfold vp_in; decide) dX12_lock_52 (fun H locs hP hD hS => ?_)
  refine lv_iinc (v := 14) (lv' := [(1, .int 14), (0, .ref m0)]) hx hb dX12_lock_53 hl (k := 0) rfl (by decide) (by decide) rfl (fun ls hl => ?_)
  refine lv_goto (tgt := 40) hx hb dX12_lock_56 (by decide) ?_
  refine lv_iload_n hx hb dX12_lock_40 rfl (lv_at hl 0 rfl) ?_
  refine lv_bipush (v := 27) hx hb dX12_lock_41 (by decide) ?_
  refine lv_icmp_ge (tgt := 59) hx hb dX12_lock_43 (by decide) (fun c => absurd c (by decide)) (fun c_29 => ?_)
  refine lv_aload_n hx hb dX12_lock_46 rfl (lv_at hl 1 rfl) ?_
  refine sk_get (v := .ref (g 21)) (C := RX12) (T := TX12) (N := 92) hx hb hts inlX12 hown hK hP 0 rfl rfl 21 (by decide) w_5_176 (mF_get (k := 21) (by decide) rfl) dX12_lock_47 ?_
  refine lv_iload_n hx hb dX12_lock_50 rfl (lv_at hl 0 rfl) ?_
  refine lv_iconst (v := 0) hx hb dX12_lock_51 (by decide) ?_
  refine sk_iast0 hx hb hK hP hD hS 3 0 rfl rfl (by unfold vp_in; decide) dX12_lock_52 (fun H locs hP hD hS => ?_)
  refine lv_iinc (v := 15) (lv' := [(1, .int 15), (0, .ref m0)]) hx hb dX12_lock_53 hl (k := 0) rfl (by decide) (by decide) rfl (fun ls hl => ?_)
  refine lv_goto (tgt := 40) hx hb dX12_lock_56 (by decide) ?_
  refine lv_iload_n hx hb dX12_lock_40 rfl (lv_at hl 0 rfl) ?_
  refine lv_bipush (v := 27) hx hb dX12_lock_41 (by decide) ?_
  refine lv_icmp_ge (tgt := 59) hx hb dX12_lock_43 (by decide) (fun c => absurd c (by decide)) (fun c_31 => ?_)
  refine lv_aload_n hx hb dX12_lock_46 rfl (lv_at hl 1 rfl) ?_
  refine sk_get (v := .ref (g 21)) (C := RX12) (T := TX12) (N := 92) hx hb hts inlX12 hown hK hP 0 rfl rfl 21 (by decide) w_5_176 (mF_get (k := 21) (by decide) rfl) dX12_lock_47 ?_
  refine lv_iload_n hx hb dX12_lock_50 rfl (lv_at hl 0 rfl) ?_
  refine lv_iconst (v := 0) hx hb dX12_lock_51 (by decide) ?_
  refine sk_iast0 hx hb hK hP hD hS 3 0 rfl rfl (by unfold vp_in; decide) dX12_lock_52 (fun H locs hP hD hS => ?_)
  refine lv_iinc (v := 16) (lv' := [(1, .int 16), (0, .ref m0)]) hx hb dX12_lock_53 hl (k := 0) rfl (by decide) (by decide) rfl (fun ls hl => ?_)
  refine lv_goto (tgt := 40) hx hb dX12_lock_56 (by decide) ?_
  refine lv_iload_n hx hb dX12_lock_40 rfl (lv_at hl 0 rfl) ?_
  refine lv_bipush (v := 27) hx hb dX12_lock_41 (by decide) ?_
  refine lv_icmp_ge (tgt := 59) hx hb dX12_lock_43 (by decide) (fun c => absurd c (by decide)) (fun c_33 => ?_)
  refine lv_aload_n hx hb dX12_lock_46 rfl (lv_at hl 1 rfl) ?_
  refine sk_get (v := .ref (g 21)) (C := RX12) (T := TX12) (N := 92) hx hb hts inlX12 hown hK hP 0 rfl rfl 21 (by decide) w_5_176 (mF_get (k := 21) (by decide) rfl) dX12_lock_47 ?_
  refine lv_iload_n hx hb dX12_lock_50 rfl (lv_at hl 0 rfl) ?_
  refine lv_iconst (v := 0) hx hb dX12_lock_51 (by decide) ?_
  refine sk_iast0 hx hb hK hP hD hS 3 0 rfl rfl (by unfold vp_in; decide) dX12_lock_52 (fun H locs hP hD hS => ?_)
  refine lv_iinc (v := 17) (lv' := [(1, .int 17), (0, .ref m0)]) hx hb dX12_lock_53 hl (k := 0) rfl (by decide) (by decide) rfl (fun ls hl => ?_)
  refine lv_goto (tgt := 40) hx hb dX12_lock_56 (by decide) ?_
  refine lv_iload_n hx hb dX12_lock_40 rfl (lv_at hl 0 rfl) ?_
  refine lv_bipush (v := 27) hx hb dX12_lock_41 (by decide) ?_
  refine lv_icmp_ge (tgt := 59) hx hb dX12_lock_43 (by decide) (fun c => absurd c (by decide)) (fun c_35 => ?_)
  refine lv_aload_n hx hb dX12_lock_46 rfl (lv_at hl 1 rfl) ?_
  refine sk_get (v := .ref (g 21)) (C := RX12) (T := TX12) (N := 92) hx hb hts inlX12 hown hK hP 0 rfl rfl 21 (by decide) w_5_176 (mF_get (k := 21) (by decide) rfl) dX12_lock_47 ?_
  refine lv_iload_n hx hb dX12_lock_50 rfl (lv_at hl 0 rfl) ?_
  refine lv_iconst (v := 0) hx hb dX12_lock_51 (by decide) ?_
  refine sk_iast0 hx hb hK hP hD hS 3 0 rfl rfl (by unfold vp_in; decide) dX12_lock_52 (fun H locs hP hD hS => ?_)
  refine lv_iinc (v := 18) (lv' := [(1, .int 18), (0, .ref m0)]) hx hb dX12_lock_53 hl (k := 0) rfl (by decide) (by decide) rfl (fun ls hl => ?_)
  refine lv_goto (tgt := 40) hx hb dX12_lock_56 (by decide) ?_
  refine lv_iload_n hx hb dX12_lock_40 rfl (lv_at hl 0 rfl) ?_
  refine lv_bipush (v := 27) hx hb dX12_lock_41 (by decide) ?_
  refine lv_icmp_ge (tgt := 59) hx hb dX12_lock_43 (by decide) (fun c => absurd c (by decide)) (fun c_37 => ?_)
  refine lv_aload_n hx hb dX12_lock_46 rfl (lv_at hl 1 rfl) ?_
  refine sk_get (v := .ref (g 21)) (C := RX12) (T := TX12) (N := 92) hx hb hts inlX12 hown hK hP 0 rfl rfl 21 (by decide) w_5_176 (mF_get (k := 21) (by decide) rfl) dX12_lock_47 ?_
  refine lv_iload_n hx hb dX12_lock_50 rfl (lv_at hl 0 rfl) ?_
  refine lv_iconst (v := 0) hx hb dX12_lock_51 (by decide) ?_
  refine sk_iast0 hx hb hK hP hD hS 3 0 rfl rfl (by unfold vp_in; decide) dX12_lock_52 (fun H locs hP hD hS => ?_)
  refine lv_iinc (v := 19) (lv' := [(1, .int 19), (0, .ref m0)]) hx hb dX12_lock_53 hl (k := 0) rfl (by decide) (by decide) rfl (fun ls hl => ?_)
  refine lv_goto (tgt := 40) hx hb dX12_lock_56 (by decide) ?_
  refine lv_iload_n hx hb dX12_lock_40 rfl (lv_at hl 0 rfl) ?_
  refine lv_bipush (v := 27) hx hb dX12_lock_41 (by decide) ?_
  refine lv_icmp_ge (tgt := 59) hx hb dX12_lock_43 (by decide) (fun c => absurd c (by decide)) (fun c_39 => ?_)
  refine lv_aload_n hx hb dX12_lock_46 rfl (lv_at hl 1 rfl) ?_
  refine sk_get (v := .ref (g 21)) (C := RX12) (T := TX12) (N := 92) hx hb hts inlX12 hown hK hP 0 rfl rfl 21 (by decide) w_5_176 (mF_get (k := 21) (by decide) rfl) dX12_lock_47 ?_
  refine lv_iload_n hx hb dX12_lock_50 rfl (lv_at hl 0 rfl) ?_
  refine lv_iconst (v := 0) hx hb dX12_lock_51 (by decide) ?_
  refine sk_iast0 hx hb hK hP hD hS 3 0 rfl rfl (by unfold vp_in; decide) dX12_lock_52 (fun H locs hP hD hS => ?_)
  refine lv_iinc (v := 20) (lv' := [(1, .int 20), (0, .ref m0)]) hx hb dX12_lock_53 hl (k := 0) rfl (by decide) (by decide) rfl (fun ls hl => ?_)
  refine lv_goto (tgt := 40) hx hb dX12_lock_56 (by decide) ?_
  refine lv_iload_n hx hb dX12_lock_40 rfl (lv_at hl 0 rfl) ?_
  refine lv_bipush (v := 27) hx hb dX12_lock_41 (by decide) ?_
  refine lv_icmp_ge (tgt := 59) hx hb dX12_lock_43 (by decide) (fun c => absurd c (by decide)) (fun c_41 => ?_)
  refine lv_aload_n hx hb dX12_lock_46 rfl (lv_at hl 1 rfl) ?_
  refine sk_get (v := .ref (g 21)) (C := RX12) (T := TX12) (N := 92) hx hb hts inlX12 hown hK hP 0 rfl rfl 21 (by decide) w_5_176 (mF_get (k := 21) (by decide) rfl) dX12_lock_47 ?_
  refine lv_iload_n hx hb dX12_lock_50 rfl (lv_at hl 0 rfl) ?_
  refine lv_iconst (v := 0) hx hb dX12_lock_51 (by decide) ?_
  refine sk_iast0 hx hb hK hP hD hS 3 0 rfl rfl (by unfold vp_in; decide) dX12_lock_52 (fun H locs hP hD hS => ?_)
  refine lv_iinc (v := 21) (lv' := [(1, .int 21), (0, .ref m0)]) hx hb dX12_lock_53 hl (k := 0) rfl (by decide) (by decide) rfl (fun ls hl => ?_)
  refine lv_goto (tgt := 40) hx hb dX12_lock_56 (by decide) ?_
  refine lv_iload_n hx hb dX12_lock_40 rfl (lv_at hl 0 rfl) ?_
  refine lv_bipush (v := 27) hx hb dX12_lock_41 (by decide) ?_
  refine lv_icmp_ge (tgt := 59) hx hb dX12_lock_43 (by decide) (fun c => absurd c (by decide)) (fun c_43 => ?_)
  refine lv_aload_n hx hb dX12_lock_46 rfl (lv_at hl 1 rfl) ?_
  refine sk_get (v := .ref (g 21)) (C := RX12) (T := TX12) (N := 92) hx hb hts inlX12 hown hK hP 0 rfl rfl 21 (by decide) w_5_176 (mF_get (k := 21) (by decide) rfl) dX12_lock_47 ?_
  refine lv_iload_n hx hb dX12_lock_50 rfl (lv_at hl 0 rfl) ?_
  refine lv_iconst (v := 0) hx hb dX12_lock_51 (by decide) ?_
  refine sk_iast0 hx hb hK hP hD hS 3 0 rfl rfl (by unfold vp_in; decide) dX12_lock_52 (fun H locs hP hD hS => ?_)
  refine lv_iinc (v := 22) (lv' := [(1, .int 22), (0, .ref m0)]) hx hb dX12_lock_53 hl (k := 0) rfl (by decide) (by decide) rfl (fun ls hl => ?_)
  refine lv_goto (tgt := 40) hx hb dX12_lock_56 (by decide) ?_
  refine lv_iload_n hx hb dX12_lock_40 rfl (lv_at hl 0 rfl) ?_
  refine lv_bipush (v := 27) hx hb dX12_lock_41 (by decide) ?_
  refine lv_icmp_ge (tgt := 59) hx hb dX12_lock_43 (by decide) (fun c => absurd c (by decide)) (fun c_45 => ?_)
  refine lv_aload_n hx hb dX12_lock_46 rfl (lv_at hl 1 rfl) ?_
  refine sk_get (v := .ref (g 21)) (C := RX12) (T := TX12) (N := 92) hx hb hts inlX12 hown hK hP 0 rfl rfl 21 (by decide) w_5_176 (mF_get (k := 21) (by decide) rfl) dX12_lock_47 ?_
  refine lv_iload_n hx hb dX12_lock_50 rfl (lv_at hl 0 rfl) ?_
  refine lv_iconst (v := 0) hx hb dX12_lock_51 (by decide) ?_
  refine sk_iast0 hx hb hK hP hD hS 3 0 rfl rfl (by unfold vp_in; decide) dX12_lock_52 (fun H locs hP hD hS => ?_)
  refine lv_iinc (v := 23) (lv' := [(1, .int 23), (0, .ref m0)]) hx hb dX12_lock_53 hl (k := 0) rfl (by decide) (by decide) rfl (fun ls hl => ?_)
  refine lv_goto (tgt := 40) hx hb dX12_lock_56 (by decide) ?_
  refine lv_iload_n hx hb dX12_lock_40 rfl (lv_at hl 0 rfl) ?_
  refine lv_bipush (v := 27) hx hb dX12_lock_41 (by decide) ?_
  refine lv_icmp_ge (tgt := 59) hx hb dX12_lock_43 (by decide) (fun c => absurd c (by decide)) (fun c_47 => ?_)
  refine lv_aload_n hx hb dX12_lock_46 rfl (lv_at hl 1 rfl) ?_
  refine sk_get (v := .ref (g 21)) (C := RX12) (T := TX12) (N := 92) hx hb hts inlX12 hown hK hP 0 rfl rfl 21 (by decide) w_5_176 (mF_get (k := 21) (by decide) rfl) dX12_lock_47 ?_
  refine lv_iload_n hx hb dX12_lock_50 rfl (lv_at hl 0 rfl) ?_
  refine lv_iconst (v := 0) hx hb dX12_lock_51 (by decide) ?_
  refine sk_iast0 hx hb hK hP hD hS 3 0 rfl rfl (by unfold vp_in; decide) dX12_lock_52 (fun H locs hP hD hS => ?_)
  refine lv_iinc (v := 24) (lv' := [(1, .int 24), (0, .ref m0)]) hx hb dX12_lock_53 hl (k := 0) rfl (by decide) (by decide) rfl (fun ls hl => ?_)
  refine lv_goto (tgt := 40) hx hb dX12_lock_56 (by decide) ?_
  refine lv_iload_n hx hb dX12_lock_40 rfl (lv_at hl 0 rfl) ?_
  refine lv_bipush (v := 27) hx hb dX12_lock_41 (by decide) ?_
  refine lv_icmp_ge (tgt := 59) hx hb dX12_lock_43 (by decide) (fun c => absurd c (by decide)) (fun c_49 => ?_)
  refine lv_aload_n hx hb dX12_lock_46 rfl (lv_at hl 1 rfl) ?_
  refine sk_get (v := .ref (g 21)) (C := RX12) (T := TX12) (N := 92) hx hb hts inlX12 hown hK hP 0 rfl rfl 21 (by decide) w_5_176 (mF_get (k := 21) (by decide) rfl) dX12_lock_47 ?_
  refine lv_iload_n hx hb dX12_lock_50 rfl (lv_at hl 0 rfl) ?_
  refine lv_iconst (v := 0) hx hb dX12_lock_51 (by decide) ?_
  refine sk_iast0 hx hb hK hP hD hS 3 0 rfl rfl (by unfold vp_in; decide) dX12_lock_52 (fun H locs hP hD hS => ?_)
  refine lv_iinc (v := 25) (lv' := [(1, .int 25), (0, .ref m0)]) hx hb dX12_lock_53 hl (k := 0) rfl (by decide) (by decide) rfl (fun ls hl => ?_)
  refine lv_goto (tgt := 40) hx hb dX12_lock_56 (by decide) ?_
  refine lv_iload_n hx hb dX12_lock_40 rfl (lv_at hl 0 rfl) ?_
  refine lv_bipush (v := 27) hx hb dX12_lock_41 (by decide) ?_
  refine lv_icmp_ge (tgt := 59) hx hb dX12_lock_43 (by decide) (fun c => absurd c (by decide)) (fun c_51 => ?_)
  refine lv_aload_n hx hb dX12_lock_46 rfl (lv_at hl 1 rfl) ?_
  refine sk_get (v := .ref (g 21)) (C := RX12) (T := TX12) (N := 92) hx hb hts inlX12 hown hK hP 0 rfl rfl 21 (by decide) w_5_176 (mF_get (k := 21) (by decide) rfl) dX12_lock_47 ?_
  refine lv_iload_n hx hb dX12_lock_50 rfl (lv_at hl 0 rfl) ?_
  refine lv_iconst (v := 0) hx hb dX12_lock_51 (by decide) ?_
  refine sk_iast0 hx hb hK hP hD hS 3 0 rfl rfl (by unfold vp_in; decide) dX12_lock_52 (fun H locs hP hD hS => ?_)
  refine lv_iinc (v := 26) (lv' := [(1, .int 26), (0, .ref m0)]) hx hb dX12_lock_53 hl (k := 0) rfl (by decide) (by decide) rfl (fun ls hl => ?_)
  refine lv_goto (tgt := 40) hx hb dX12_lock_56 (by decide) ?_
  refine lv_iload_n hx hb dX12_lock_40 rfl (lv_at hl 0 rfl) ?_
  refine lv_bipush (v := 27) hx hb dX12_lock_41 (by decide) ?_
  refine lv_icmp_ge (tgt := 59) hx hb dX12_lock_43 (by decide) (fun c => absurd c (by decide)) (fun c_53 => ?_)
  refine lv_aload_n hx hb dX12_lock_46 rfl (lv_at hl 1 rfl) ?_
  refine sk_get (v := .ref (g 21)) (C := RX12) (T := TX12) (N := 92) hx hb hts inlX12 hown hK hP 0 rfl rfl 21 (by decide) w_5_176 (mF_get (k := 21) (by decide) rfl) dX12_lock_47 ?_
  refine lv_iload_n hx hb dX12_lock_50 rfl (lv_at hl 0 rfl) ?_
  refine lv_iconst (v := 0) hx hb dX12_lock_51 (by decide) ?_
  refine sk_iast0 hx hb hK hP hD hS 3 0 rfl rfl (by unfold vp_in; decide) dX12_lock_52 (fun H locs hP hD hS => ?_)
  refine lv_iinc (v := 27) (lv' := [(1, .int 27), (0, .ref m0)]) hx hb dX12_lock_53 hl (k := 0) rfl (by decide) (by decide) rfl (fun ls hl => ?_)
  refine lv_goto (tgt := 40) hx hb dX12_lock_56 (by decide) ?_
  refine lv_iload_n hx hb dX12_lock_40 rfl (lv_at hl 0 rfl) ?_
  refine lv_bipush (v := 27) hx hb dX12_lock_41 (by decide) ?_
  refine lv_icmp_ge (tgt := 59) hx hb dX12_lock_43 (by decide) (fun c_55 => ?_) (fun c => absurd c (by decide))
  refine lv_iconst (v := 0) hx hb dX12_lock_59 (by decide) ?_
  refine lv_istore_n (lv' := [(1, .int 0), (0, .ref m0)]) hx hb dX12_lock_60 rfl hl (by decide) rfl (fun ls hl => ?_)
  refine lv_iload_n hx hb dX12_lock_61 rfl (lv_at hl 0 rfl) ?_
  refine lv_iconst (v := 3) hx hb dX12_lock_62 (by decide) ?_
  refine lv_icmp_ge (tgt := 79) hx hb dX12_lock_63 (by decide) (fun c => absurd c (by decide)) (fun c_56 => ?_)
  refine lv_aload_n hx hb dX12_lock_66 rfl (lv_at hl 1 rfl) ?_
  refine sk_get (v := .ref (g 24)) (C := RX12) (T := TX12) (N := 92) hx hb hts inlX12 hown hK hP 0 rfl rfl 24 (by decide) w_5_179 (mF_get (k := 24) (by decide) rfl) dX12_lock_67 ?_
  refine lv_iload_n hx hb dX12_lock_70 rfl (lv_at hl 0 rfl) ?_
  refine lv_iconst (v := (-1)) hx hb dX12_lock_71 (by decide) ?_
  refine sk_iastO (ws' := fun f_57 => [(m0, .inr (12, mF (updV (updV (updV (updV (updV (updV (updV (mV g) 3 (.int 0)) 1 (.int 0)) 2 (.int 0)) 4 (.int (-1))) 5 (.int 0)) 6 (.int (-1))) 27 (.int 0)))), (g 9, .inl (cI, 6, .inl (fun _ => 0))), (g 20, .inl (cI, 4, .inl (fun _ => 0))), (g 21, .inl (cI, 27, .inl (fun _ => 0))), (g 24, .inl (cI, 6, .inl f_57))]) hx hb hK hP hD hS 4 0 rfl rfl (by unfold vp_in; decide) (fun _ => rfl) dX12_lock_72 (fun f_57 H locs hP hD hS => ?_)
  refine lv_iinc (v := 1) (lv' := [(1, .int 1), (0, .ref m0)]) hx hb dX12_lock_73 hl (k := 0) rfl (by decide) (by decide) rfl (fun ls hl => ?_)
  refine lv_goto (tgt := 61) hx hb dX12_lock_76 (by decide) ?_
  refine lv_iload_n hx hb dX12_lock_61 rfl (lv_at hl 0 rfl) ?_
  refine lv_iconst (v := 3) hx hb dX12_lock_62 (by decide) ?_
  refine lv_icmp_ge (tgt := 79) hx hb dX12_lock_63 (by decide) (fun c => absurd c (by decide)) (fun c_58 => ?_)
  refine lv_aload_n hx hb dX12_lock_66 rfl (lv_at hl 1 rfl) ?_
  refine sk_get (v := .ref (g 24)) (C := RX12) (T := TX12) (N := 92) hx hb hts inlX12 hown hK hP 0 rfl rfl 24 (by decide) w_5_179 (mF_get (k := 24) (by decide) rfl) dX12_lock_67 ?_
  refine lv_iload_n hx hb dX12_lock_70 rfl (lv_at hl 0 rfl) ?_
  refine lv_iconst (v := (-1)) hx hb dX12_lock_71 (by decide) ?_
  refine sk_iastO (ws' := fun f_59 => [(m0, .inr (12, mF (updV (updV (updV (updV (updV (updV (updV (mV g) 3 (.int 0)) 1 (.int 0)) 2 (.int 0)) 4 (.int (-1))) 5 (.int 0)) 6 (.int (-1))) 27 (.int 0)))), (g 9, .inl (cI, 6, .inl (fun _ => 0))), (g 20, .inl (cI, 4, .inl (fun _ => 0))), (g 21, .inl (cI, 27, .inl (fun _ => 0))), (g 24, .inl (cI, 6, .inl f_59))]) hx hb hK hP hD hS 4 0 rfl rfl (by unfold vp_in; decide) (fun _ => rfl) dX12_lock_72 (fun f_59 H locs hP hD hS => ?_)
  refine lv_iinc (v := 2) (lv' := [(1, .int 2), (0, .ref m0)]) hx hb dX12_lock_73 hl (k := 0) rfl (by decide) (by decide) rfl (fun ls hl => ?_)
  refine lv_goto (tgt := 61) hx hb dX12_lock_76 (by decide) ?_
  refine lv_iload_n hx hb dX12_lock_61 rfl (lv_at hl 0 rfl) ?_
  refine lv_iconst (v := 3) hx hb dX12_lock_62 (by decide) ?_
  refine lv_icmp_ge (tgt := 79) hx hb dX12_lock_63 (by decide) (fun c => absurd c (by decide)) (fun c_60 => ?_)
  refine lv_aload_n hx hb dX12_lock_66 rfl (lv_at hl 1 rfl) ?_
  refine sk_get (v := .ref (g 24)) (C := RX12) (T := TX12) (N := 92) hx hb hts inlX12 hown hK hP 0 rfl rfl 24 (by decide) w_5_179 (mF_get (k := 24) (by decide) rfl) dX12_lock_67 ?_
  refine lv_iload_n hx hb dX12_lock_70 rfl (lv_at hl 0 rfl) ?_
  refine lv_iconst (v := (-1)) hx hb dX12_lock_71 (by decide) ?_
  refine sk_iastO (ws' := fun f_61 => [(m0, .inr (12, mF (updV (updV (updV (updV (updV (updV (updV (mV g) 3 (.int 0)) 1 (.int 0)) 2 (.int 0)) 4 (.int (-1))) 5 (.int 0)) 6 (.int (-1))) 27 (.int 0)))), (g 9, .inl (cI, 6, .inl (fun _ => 0))), (g 20, .inl (cI, 4, .inl (fun _ => 0))), (g 21, .inl (cI, 27, .inl (fun _ => 0))), (g 24, .inl (cI, 6, .inl f_61))]) hx hb hK hP hD hS 4 0 rfl rfl (by unfold vp_in; decide) (fun _ => rfl) dX12_lock_72 (fun f_61 H locs hP hD hS => ?_)
  refine lv_iinc (v := 3) (lv' := [(1, .int 3), (0, .ref m0)]) hx hb dX12_lock_73 hl (k := 0) rfl (by decide) (by decide) rfl (fun ls hl => ?_)
  refine lv_goto (tgt := 61) hx hb dX12_lock_76 (by decide) ?_
  refine lv_iload_n hx hb dX12_lock_61 rfl (lv_at hl 0 rfl) ?_
  refine lv_iconst (v := 3) hx hb dX12_lock_62 (by decide) ?_
  refine lv_icmp_ge (tgt := 79) hx hb dX12_lock_63 (by decide) (fun c_62 => ?_) (fun c => absurd c (by decide))
  refine lv_aload_n hx hb dX12_lock_79 rfl (lv_at hl 1 rfl) ?_
  refine lv_iconst (v := 0) hx hb dX12_lock_80 (by decide) ?_
  refine sk_put (ws' := [(m0, .inr (12, mF (updV (updV (updV (updV (updV (updV (updV (updV (mV g) 3 (.int 0)) 1 (.int 0)) 2 (.int 0)) 4 (.int (-1))) 5 (.int 0)) 6 (.int (-1))) 27 (.int 0)) 22 (.int 0)))), (g 9, .inl (cI, 6, .inl (fun _ => 0))), (g 20, .inl (cI, 4, .inl (fun _ => 0))), (g 21, .inl (cI, 27, .inl (fun _ => 0))), (g 24, .inl (cI, 6, .inl f_61))]) (C := RX12) (T := TX12) (N := 92) (v := .int 0) hx hb hts inlX12 tyX12 tyX12_ok nmX12 hown hK hP hD hS 0 rfl rfl 22 (by decide) w_5_177 rfl rfl rfl (mF_len (by decide)) (mF_w (by decide) rfl) dX12_lock_81 (fun H locs hP hD hS => ?_)
  refine lv_aload_n hx hb dX12_lock_84 rfl (lv_at hl 1 rfl) ?_
  refine sk_Vv (q0 := 0) (n := 0) (rest := []) (wr := [(g 9, .inl (cI, 6, .inl (fun _ => 0))), (g 21, .inl (cI, 27, .inl (fun _ => 0))), (g 24, .inl (cI, 6, .inl f_61))]) ⟨hx, hb, hml, hown, hts⟩ hl.1 (c_m_lockTold_e l D cI cJ cC cZ cS m0 (updV (updV (updV (updV (updV (updV (updV (updV (mV g) 3 (.int 0)) 1 (.int 0)) 2 (.int 0)) 4 (.int (-1))) 5 (.int 0)) 6 (.int (-1))) 27 (.int 0)) 22 (.int 0)) (g 11) (g 12) (g 20) (fun _ => 0) rfl rfl rfl rfl rfl rfl) w_6_206 w_6_208 w_0_41 w_1_14 w_6_209 (by decide +kernel) ⟨⟨(Nat.le_of_ble_eq_true rfl), (Nat.le_of_ble_eq_true rfl)⟩, (Nat.le_of_ble_eq_true rfl), (Nat.le_of_ble_eq_true rfl)⟩ hK hP hD hS hA [0, 2] [1, 3, 4] rfl rfl (by decide) (by decide) (by decide) rfl rfl rfl rfl (Nat.le_of_ble_eq_true rfl) dX12_lock_85 (fun u H locs hw hP hD hS => ?_)
  obtain rfl := hw
  have hP : va_P D vwCl [(g 9, .inl (cI, 6, .inl (fun _ => 0))), (g 21, .inl (cI, 27, .inl (fun _ => 0))), (g 24, .inl (cI, 6, .inl f_61)), (m0, .inr (12, mF (updV (updV (updV (updV (updV (updV (updV (updV (updV (updV (mV g) 3 (.int 0)) 1 (.int 0)) 2 (.int 0)) 4 (.int (-1))) 5 (.int 0)) 6 (.int (-1))) 27 (.int 0)) 22 (.int 0)) 5 (.int 1)) 6 (.int 0))))] H := hP
  have hD : va_D A [(g 9, .inl (cI, 6, .inl (fun _ => 0))), (g 21, .inl (cI, 27, .inl (fun _ => 0))), (g 24, .inl (cI, 6, .inl f_61)), (m0, .inr (12, mF (updV (updV (updV (updV (updV (updV (updV (updV (updV (updV (mV g) 3 (.int 0)) 1 (.int 0)) 2 (.int 0)) 4 (.int (-1))) 5 (.int 0)) 6 (.int (-1))) 27 (.int 0)) 22 (.int 0)) 5 (.int 1)) 6 (.int 0))))] := hD
  refine W.widen (k := 0) (n := 0) (Nat.le_of_ble_eq_true rfl) (Nat.le_of_ble_eq_true rfl) ?_
  refine lv_aload_n hx hb dX12_lock_88 rfl (lv_at hl 1 rfl) ?_
  refine lv_iconst (v := 1) hx hb dX12_lock_89 (by decide) ?_
  refine sk_put (ws' := [(g 9, .inl (cI, 6, .inl (fun _ => 0))), (g 21, .inl (cI, 27, .inl (fun _ => 0))), (g 24, .inl (cI, 6, .inl f_61)), (m0, .inr (12, mF (updV (updV (updV (updV (updV (updV (updV (updV (updV (updV (updV (mV g) 3 (.int 0)) 1 (.int 0)) 2 (.int 0)) 4 (.int (-1))) 5 (.int 0)) 6 (.int (-1))) 27 (.int 0)) 22 (.int 0)) 5 (.int 1)) 6 (.int 0)) 28 (.int 1))))]) (C := RX12) (T := TX12) (N := 92) (v := .int 1) hx hb hts inlX12 tyX12 tyX12_ok nmX12 hown hK hP hD hS 3 rfl rfl 28 (by decide) w_5_183 rfl rfl rfl (mF_len (by decide)) (mF_w (by decide) rfl) dX12_lock_90 (fun H locs hP hD hS => ?_)
  refine lv_aload_n hx hb dX12_lock_93 rfl (lv_at hl 1 rfl) ?_
  refine sk_get (v := .int 1) (C := RX12) (T := TX12) (N := 92) hx hb hts inlX12 hown hK hP 3 rfl rfl 5 (by decide) w_5_160 (mF_get (k := 5) (by decide) rfl) dX12_lock_94 ?_
  refine lv_if_ne (tgt := 115) hx hb dX12_lock_97 (by decide) (fun c_63 => ?_) (fun c => absurd c (by decide))
  refine lv_aload_n hx hb dX12_lock_115 rfl (lv_at hl 1 rfl) ?_
  refine lv_aload_n hx hb dX12_lock_116 rfl (lv_at hl 1 rfl) ?_
  refine sk_get (v := .int 1) (C := RX12) (T := TX12) (N := 92) hx hb hts inlX12 hown hK hP 3 rfl rfl 5 (by decide) w_5_160 (mF_get (k := 5) (by decide) rfl) dX12_lock_117 ?_
  refine sk_put (ws' := [(g 9, .inl (cI, 6, .inl (fun _ => 0))), (g 21, .inl (cI, 27, .inl (fun _ => 0))), (g 24, .inl (cI, 6, .inl f_61)), (m0, .inr (12, mF (updV (updV (updV (updV (updV (updV (updV (updV (updV (updV (updV (updV (mV g) 3 (.int 0)) 1 (.int 0)) 2 (.int 0)) 4 (.int (-1))) 5 (.int 0)) 6 (.int (-1))) 27 (.int 0)) 22 (.int 0)) 5 (.int 1)) 6 (.int 0)) 28 (.int 1)) 7 (.int 1))))]) (C := RX12) (T := TX12) (N := 92) (v := .int 1) hx hb hts inlX12 tyX12 tyX12_ok nmX12 hown hK hP hD hS 3 rfl rfl 7 (by decide) w_5_162 rfl rfl rfl (mF_len (by decide)) (mF_w (by decide) rfl) dX12_lock_120 (fun H locs hP hD hS => ?_)
  refine lv_aload_n hx hb dX12_lock_123 rfl (lv_at hl 1 rfl) ?_
  refine lv_aload_n hx hb dX12_lock_124 rfl (lv_at hl 1 rfl) ?_
  refine sk_get (v := .int 0) (C := RX12) (T := TX12) (N := 92) hx hb hts inlX12 hown hK hP 3 rfl rfl 6 (by decide) w_5_161 (mF_get (k := 6) (by decide) rfl) dX12_lock_125 ?_
  refine sk_put (ws' := [(g 9, .inl (cI, 6, .inl (fun _ => 0))), (g 21, .inl (cI, 27, .inl (fun _ => 0))), (g 24, .inl (cI, 6, .inl f_61)), (m0, .inr (12, mF (updV (updV (updV (updV (updV (updV (updV (updV (updV (updV (updV (updV (updV (mV g) 3 (.int 0)) 1 (.int 0)) 2 (.int 0)) 4 (.int (-1))) 5 (.int 0)) 6 (.int (-1))) 27 (.int 0)) 22 (.int 0)) 5 (.int 1)) 6 (.int 0)) 28 (.int 1)) 7 (.int 1)) 8 (.int 0))))]) (C := RX12) (T := TX12) (N := 92) (v := .int 0) hx hb hts inlX12 tyX12 tyX12_ok nmX12 hown hK hP hD hS 3 rfl rfl 8 (by decide) w_5_163 rfl rfl rfl (mF_len (by decide)) (mF_w (by decide) rfl) dX12_lock_128 (fun H locs hP hD hS => ?_)
  refine lv_aload_n hx hb dX12_lock_131 rfl (lv_at hl 1 rfl) ?_
  refine sk_get (v := .int 1) (C := RX12) (T := TX12) (N := 92) hx hb hts inlX12 hown hK hP 3 rfl rfl 5 (by decide) w_5_160 (mF_get (k := 5) (by decide) rfl) dX12_lock_132 ?_
  refine lv_if_eq (tgt := 150) hx hb dX12_lock_135 (by decide) (fun c => absurd c (by decide)) (fun c_64 => ?_)
  refine lv_aload_n hx hb dX12_lock_138 rfl (lv_at hl 1 rfl) ?_
  refine sk_get (v := .ref (g 9)) (C := RX12) (T := TX12) (N := 92) hx hb hts inlX12 hown hK hP 3 rfl rfl 9 (by decide) w_5_164 (mF_get (k := 9) (by decide) rfl) dX12_lock_139 ?_
  refine lv_iconst (v := 1) hx hb dX12_lock_142 (by decide) ?_
  refine lv_dup2_11 hx hb dX12_lock_143 rfl rfl ?_
  refine va_iald hx hb hK.1 hP 0 0 rfl rfl (by unfold vp_in; decide) dX12_lock_144 ?_
  refine sk_top 0 rfl ?_
  refine lv_iconst (v := 1) hx hb dX12_lock_145 (by decide) ?_
  refine lv_iadd hx hb dX12_lock_146 ?_
  refine sk_top 1 (by decide) ?_
  refine sk_iast (ws' := [(g 9, .inl (cI, 6, .inl (upd (fun _ => 0) 1 1))), (g 21, .inl (cI, 27, .inl (fun _ => 0))), (g 24, .inl (cI, 6, .inl f_61)), (m0, .inr (12, mF (updV (updV (updV (updV (updV (updV (updV (updV (updV (updV (updV (updV (updV (mV g) 3 (.int 0)) 1 (.int 0)) 2 (.int 0)) 4 (.int (-1))) 5 (.int 0)) 6 (.int (-1))) 27 (.int 0)) 22 (.int 0)) 5 (.int 1)) 6 (.int 0)) 28 (.int 1)) 7 (.int 1)) 8 (.int 0))))]) hx hb hK hP hD hS 0 0 rfl rfl (by unfold vp_in; decide) rfl dX12_lock_147 (fun H locs hP hD hS => ?_)
  refine lv_iconst (v := (-1)) hx hb dX12_lock_148 (by decide) ?_
  have hP := hP.sub (ws' := []) [] rfl
  have hD := hD.sub (ws' := []) [] (by decide) rfl
  exact sk_iret hx hb hr rfl hlocks hK hP hD hS (⟨rfl, rfl⟩) (Nat.le_of_ble_eq_true rfl) (Nat.le_of_ble_eq_true rfl) dX12_lock_149
