theorem st_over : (Cond.arrayOver (.object skSt)) ∈ lw_tbl := ck_2 _ (List.mem_of_getElem? (i := 38) rfl)
theorem st_nest0 : (Cond.methodLinkNest RX11 48 yX2_init skHost) ∈ lw_tbl := ck_1 _ (List.mem_of_getElem? (i := 169) rfl)
theorem st_nest1 : (Cond.methodLinkNest RX11 58 yX7_init skHost) ∈ lw_tbl := ck_1 _ (List.mem_of_getElem? (i := 226) rfl)
theorem st_nest2 : (Cond.methodLinkNest RX11 75 yX9_init skHost) ∈ lw_tbl := ck_2 _ (List.mem_of_getElem? (i := 59) rfl)
theorem st_nest3 : (Cond.methodLinkNest RX2 11 yX0_init skHost) ∈ lw_tbl := ck_1 _ (List.mem_of_getElem? (i := 174) rfl)
theorem st_nest4 : (Cond.methodLinkNest RX4 32 yX7_init skHost) ∈ lw_tbl := ck_2 _ (List.mem_of_getElem? (i := 39) rfl)
theorem st_nest5 : (Cond.methodLinkNest RX5 11 yX0_init skHost) ∈ lw_tbl := ck_1 _ (List.mem_of_getElem? (i := 125) rfl)
theorem st_arr {args : Array Value} {s : State} {ty : FieldType} (h : (Cond.arrayClass ty).before args s = true) (hRA : ∀ cA, s.vm.findClass ("[" ++ ty.toString) = some cA → va_RA s cA ty) : ∃ cA : ClassId, ArrOfT s cA ty ∧ va_RA s cA ty := by
  obtain ⟨cA, kA, comp, h1, h2, h3⟩ := Cond.arrayClass_spec h
  exact ⟨cA, fun n z => ⟨fun k h => (by cases h), kA, h2, comp, h3⟩, hRA cA h1⟩
theorem st_arrS {args : Array Value} {s : State} (h : (Cond.arrayOver (.object skSt)).before args s = true) : ∃ cA : ClassId, ArrOfT s cA (.object skSt) ∧ va_RA s cA (.object skSt) := by
  obtain ⟨comp, cA, kA, h1, -, h2, h3, h4⟩ := Cond.arrayOver_spec h
  exact ⟨cA, fun n z => ⟨fun k h => (by cases h), kA, h2, comp, h3⟩, kA, comp, h2, h3, h1, h4⟩
theorem law_L {L : Nat} (hL : L ≤ 6) (h : ¬ Int32.ofNat L - 6 < 0) : L = 6 := by
  match L, hL with
  | 0, _ => exact absurd (by decide) h
  | 1, _ => exact absurd (by decide) h
  | 2, _ => exact absurd (by decide) h
  | 3, _ => exact absurd (by decide) h
  | 4, _ => exact absurd (by decide) h
  | 5, _ => exact absurd (by decide) h
  | 6, _ => rfl
  | n + 7, h7 => exact absurd h7 (by omega)
theorem dL_law_0 : decode cL_law 0 = .ok (.new 7, 3) := by decide +kernel
theorem dL_law_3 : decode cL_law 3 = .ok (.dup, 1) := by decide +kernel
theorem dL_law_4 : decode cL_law 4 = .ok (.invokespecial 9, 3) := by decide +kernel
theorem dL_law_7 : decode cL_law 7 = .ok (.astore_n 1, 1) := by decide +kernel
theorem dL_law_8 : decode cL_law 8 = .ok (.new 10, 3) := by decide +kernel
theorem dL_law_11 : decode cL_law 11 = .ok (.dup, 1) := by decide +kernel
theorem dL_law_12 : decode cL_law 12 = .ok (.invokespecial 12, 3) := by decide +kernel
theorem dL_law_15 : decode cL_law 15 = .ok (.astore_n 2, 1) := by decide +kernel
theorem dL_law_16 : decode cL_law 16 = .ok (.iconst 0, 1) := by decide +kernel
theorem dL_law_17 : decode cL_law 17 = .ok (.istore_n 3, 1) := by decide +kernel
theorem dL_law_27 : decode cL_law 27 = .ok (.aload_n 0, 1) := by decide +kernel
theorem dL_law_28 : decode cL_law 28 = .ok (.iload_n 3, 1) := by decide +kernel
theorem dL_law_29 : decode cL_law 29 = .ok (.iaload, 1) := by decide +kernel
theorem dL_law_30 : decode cL_law 30 = .ok (.bipush 63, 2) := by decide +kernel
theorem dL_law_32 : decode cL_law 32 = .ok (.iand, 1) := by decide +kernel
theorem dL_law_33 : decode cL_law 33 = .ok (.tableswitch 1145 0 38 #[171, 234, 257, 270, 293, 316, 349, 382, 425, 459, 473, 506, 540, 553, 586, 599, 622, 635, 668, 682, 705, 718, 751, 794, 827, 840, 854, 878, 911, 954, 987, 1000, 1023, 1036, 1059, 1073, 1086, 1109, 1122], 171) := by decide +kernel
theorem w_1_22 : (Cond.classLink RL 7 RX11) ∈ wsL_law := sk_mem (ck_1 _ (List.mem_of_getElem? (i := 22) rfl)) rfl
theorem w_1_23 : (Cond.instantiable RX11 18) ∈ wsL_law := sk_mem (ck_1 _ (List.mem_of_getElem? (i := 23) rfl)) rfl
theorem w_1_24 : (Cond.methodLink RL 9 yX11_init) ∈ wsL_law := sk_mem (ck_1 _ (List.mem_of_getElem? (i := 24) rfl)) rfl
theorem w_1_25 : (Cond.instanceMethod yX11_init) ∈ wsL_law := sk_mem (ck_1 _ (List.mem_of_getElem? (i := 25) rfl)) rfl
theorem w_5_149 : (Cond.classLink RL 10 RX12) ∈ wsL_law := sk_mem (ck_5 _ (List.mem_of_getElem? (i := 149) rfl)) rfl
theorem w_5_150 : (Cond.instantiable RX12 92) ∈ wsL_law := sk_mem (ck_5 _ (List.mem_of_getElem? (i := 150) rfl)) rfl
theorem w_5_151 : (Cond.methodLink RL 12 yX12_init) ∈ wsL_law := sk_mem (ck_5 _ (List.mem_of_getElem? (i := 151) rfl)) rfl
theorem w_5_152 : (Cond.instanceMethod yX12_init) ∈ wsL_law := sk_mem (ck_5 _ (List.mem_of_getElem? (i := 152) rfl)) rfl
set_option maxHeartbeats 4000000 in
set_option maxRecDepth 100000 in
theorem whole_start {p : Program} {e : Env} {s : State} {m : MethodId} {below : List Frame} {meth : Method} {c : Code} (l : Launch) (hflags : l.flags = flags0) {b L : Nat} {xs : Nat → Int32} (hL : L ≤ 6) (C0 : lw_At p s m meth c b L xs) : W p l e room_1 s m #[Value.ref b] below meth c s.heap [] 0 0 (lw_Z below #[Value.ref b] s) (entryFrame m ([Value.ref b] : List Value).toArray 4) := by
  obtain ⟨hx, hb, hr, hml, hown, hts0, hX, hbl, hlocks, hgv⟩ := id C0
  have hts : ∀ w ∈ wsL_law, w.before #[Value.ref b] s = true := fun w h => hts0 w (wsL_law_in w h)
  have hb : c.code = cL_law := hb
  have hown : s.vm.findClass RL = some m.cls := hown
  obtain ⟨A, eA⟩ : ∃ A : Nat → Prop, A = fun q : Nat => s.heap.size ≤ q := ⟨_, rfl⟩
  have hA : ∀ q : Nat, s.heap.size ≤ q → A q := fun q h => by rw [eA]; exact h
  have hAf : ∀ q : Nat, A q → s.heap.size ≤ q := fun q h => by rw [eA] at h; exact h
  have hbA : ¬ A b := fun h => absurd (hAf b h) (Nat.not_le.mpr hbl)
  obtain ⟨d0, t0, hKn0⟩ := u_known (C := RX0) (T := TX0) (N := 6) (n := 6) hts inlX0 (hts _ w_1_124)
  obtain ⟨d1, t1, hKn1⟩ := u_known (C := RX1) (T := TX1) (N := 9) (n := 9) hts inlX1 (hts _ w_2_90)
  obtain ⟨d2, t2, hKn2⟩ := u_known (C := RX2) (T := TX2) (N := 10) (n := 10) hts inlX2 (hts _ w_1_168)
  obtain ⟨d3, t3, hKn3⟩ := u_known (C := RX3) (T := TX3) (N := 3) (n := 3) hts inlX3 (hts _ w_1_89)
  obtain ⟨d4, t4, hKn4⟩ := u_known (C := RX4) (T := TX4) (N := 5) (n := 5) hts inlX4 (hts _ w_2_32)
  obtain ⟨d5, t5, hKn5⟩ := u_known (C := RX5) (T := TX5) (N := 4) (n := 4) hts inlX5 (hts _ w_1_118)
  obtain ⟨d6, t6, hKn6⟩ := u_known (C := RX6) (T := TX6) (N := 8) (n := 8) hts inlX6 (hts _ w_1_51)
  obtain ⟨d7, t7, hKn7⟩ := u_known (C := RX7) (T := TX7) (N := 7) (n := 7) hts inlX7 (hts _ w_1_225)
  obtain ⟨d8, t8, hKn8⟩ := u_known (C := RX8) (T := TX8) (N := 2) (n := 2) hts inlX8 (hts _ w_1_95)
  obtain ⟨d9, t9, hKn9⟩ := u_known (C := RX9) (T := TX9) (N := 6) (n := 6) hts inlX9 (hts _ w_2_58)
  obtain ⟨d10, t10, hKn10⟩ := u_known (C := RX10) (T := TX10) (N := 2) (n := 2) hts inlX10 (hts _ w_1_31)
  obtain ⟨d11, t11, hKn11⟩ := u_known (C := RX11) (T := TX11) (N := 18) (n := 18) hts inlX11 (hts _ w_1_23)
  obtain ⟨d12, t12, hKn12⟩ := u_known (C := RX12) (T := TX12) (N := 92) (n := 92) hts inlX12 (hts _ w_5_150)
  obtain ⟨D, hKc⟩ : ∃ D : va_G, ∀ (k : Nat) (q : vw_C), vwCl[k]? = some q → u_Kn s q.1 q.2.1 q.2.2 (D.1 k) (D.2 k) := by
    refine ⟨(fun k => match k with | 0 => d0 | 1 => d1 | 2 => d2 | 3 => d3 | 4 => d4 | 5 => d5 | 6 => d6 | 7 => d7 | 8 => d8 | 9 => d9 | 10 => d10 | 11 => d11 | _ => d12, fun k => match k with | 0 => t0 | 1 => t1 | 2 => t2 | 3 => t3 | 4 => t4 | 5 => t5 | 6 => t6 | 7 => t7 | 8 => t8 | 9 => t9 | 10 => t10 | 11 => t11 | _ => t12), ?_⟩
    intro k q hq
    match k, hq with
    | 0, hq => cases hq; exact hKn0
    | 1, hq => cases hq; exact hKn1
    | 2, hq => cases hq; exact hKn2
    | 3, hq => cases hq; exact hKn3
    | 4, hq => cases hq; exact hKn4
    | 5, hq => cases hq; exact hKn5
    | 6, hq => cases hq; exact hKn6
    | 7, hq => cases hq; exact hKn7
    | 8, hq => cases hq; exact hKn8
    | 9, hq => cases hq; exact hKn9
    | 10, hq => cases hq; exact hKn10
    | 11, hq => cases hq; exact hKn11
    | 12, hq => cases hq; exact hKn12
    | k + 13, hq => simp [vwCl] at hq
  obtain ⟨cI, a_cI, b_cI⟩ := st_arr (hts _ w_1_49) (fun _ h => h)
  obtain ⟨cJ, a_cJ, b_cJ⟩ := st_arr (hts _ w_1_151) (fun _ h => h)
  obtain ⟨cC, a_cC, b_cC⟩ := st_arr (hts _ w_6_192) (fun _ h => h)
  obtain ⟨cZ, a_cZ, b_cZ⟩ := st_arr (hts _ w_6_193) (fun _ h => h)
  obtain ⟨cS, a_cS, b_cS⟩ := st_arrS (hts0 _ st_over)
  have hK : skK D (skT cI cJ cC cZ cS) s := by
    refine ⟨⟨hKc, fun k q h => ?_⟩, va_AO.of (hts0 _ st_over), va_Nw.of rfl (hts0 _ st_nest0), va_Nw.of rfl (hts0 _ st_nest1), va_Nw.of rfl (hts0 _ st_nest2), va_Nw.of rfl (hts0 _ st_nest3), va_Nw.of rfl (hts0 _ st_nest4), va_Nw.of rfl (hts0 _ st_nest5)⟩
    match k, h with
    | 0, h => cases h; exact ⟨a_cI, b_cI⟩
    | 1, h => cases h; exact ⟨a_cJ, b_cJ⟩
    | 2, h => cases h; exact ⟨a_cC, b_cC⟩
    | 3, h => cases h; exact ⟨a_cZ, b_cZ⟩
    | 4, h => cases h; exact ⟨a_cS, b_cS⟩
    | k + 5, h => simp [skT] at h
  have hS : va_S A s.heap s.heap [] := va_S.rf
  have hP : va_P D vwCl [] s.heap := fun k q h => by simp at h
  have hD : va_D A [] := ⟨fun i j p q h => by simp at h, fun k q h => by simp at h⟩
  have hl := lv_entry ([.ref b]) (n := 4) (Nat.le_of_ble_eq_true rfl)
  rw [lg_entry_eq]
  generalize (lg_sl ([.ref b]) ++ List.replicate (4 - (lg_sl ([.ref b])).length) Slot.unset).toArray = ls at hl ⊢
  have hl : lv_has ls 4 [(0, .ref b)] := hl
  refine sk_new (ci := 11) (fs := [.null, .null, .null, .null, .null, .null, .null, .null, .null, .null, .null, .null, .null, .null, .null, .int 0, .null, .long 0]) (C := RX11) (T := TX11) (N := 18) (k1 := 1) (n1 := 18) hx hb hts inlX11 tyX11 tyX11_ok hown w_1_22 w_1_23 w_1_1 hK hP hD hS hA rfl (fun j hj => by rcases (show j = 0 ∨ j = 1 ∨ j = 2 ∨ j = 3 ∨ j = 4 ∨ j = 5 ∨ j = 6 ∨ j = 7 ∨ j = 8 ∨ j = 9 ∨ j = 10 ∨ j = 11 ∨ j = 12 ∨ j = 13 ∨ j = 14 ∨ j = 15 ∨ j = 16 ∨ j = 17 by omega) with rfl | rfl | rfl | rfl | rfl | rfl | rfl | rfl | rfl | rfl | rfl | rfl | rfl | rfl | rfl | rfl | rfl | rfl <;> rfl) (Nat.le_of_ble_eq_true rfl) (Nat.le_of_ble_eq_true rfl) (Nat.le_of_ble_eq_true rfl) (Nat.le_of_ble_eq_true rfl) dL_law_0 (fun q_1 H hP hD hS => ?_)
  have hP : va_P D vwCl [(q_1, .inr (11, [.null, .null, .null, .null, .null, .null, .null, .null, .null, .null, .null, .null, .null, .null, .null, .int 0, .null, .long 0]))] H := hP
  have hD : va_D A [(q_1, .inr (11, [.null, .null, .null, .null, .null, .null, .null, .null, .null, .null, .null, .null, .null, .null, .null, .int 0, .null, .long 0]))] := hD
  refine lv_dup hx hb dL_law_3 rfl ?_
  refine sk_Iv (n := 0) (rest := [.ref q_1]) (wr := []) ⟨hx, hb, hml, hown, hts⟩ hl.1 (c_X_init l D cI cJ cC cZ cS q_1) w_1_24 w_1_25 w_1_1 w_1_26 rfl (by decide +kernel) ⟨⟨(Nat.le_of_ble_eq_true rfl), (Nat.le_of_ble_eq_true rfl)⟩, (Nat.le_of_ble_eq_true rfl), (Nat.le_of_ble_eq_true rfl)⟩ hK hP hD hS hA [0] [] rfl rfl (by decide) (by decide) (by decide) rfl rfl (Nat.le_of_ble_eq_true rfl) dL_law_4 (fun u H locs hw hP hD hS => ?_)
  obtain ⟨q_2, rfl⟩ := hw
  have hP : va_P D vwCl [(q_1, .inr (11, [.ref (q_2 0), .ref (q_2 1), .ref (q_2 2), .ref (q_2 3), .ref (q_2 4), .ref (q_2 5), .ref (q_2 6), .ref (q_2 7), .ref (q_2 8), .ref (q_2 9), .ref (q_2 10), .ref (q_2 11), .ref (q_2 12), .ref (q_2 13), .ref (q_2 14), .int 0, .ref (q_2 16), .long 1])), (q_2 0, .inr (10, [.ref (q_2 20), .int 0])), (q_2 20, .inl (cI, 1600, .inl (fun _ => 0))), (q_2 1, .inr (10, [.ref (q_2 21), .int 0])), (q_2 21, .inl (cI, 31, .inl (fun _ => 0))), (q_2 2, .inr (6, [.ref (q_2 0), .int 0, .int 0, .int 0, .int (-1), .int 0, .int 0, .int (-1)])), (q_2 3, .inr (3, [.ref (q_2 2), .ref (q_2 22), .ref (q_2 23)])), (q_2 6, .inr (2, [.ref (q_2 24), .ref (q_2 25), .ref (q_2 26), .ref (q_2 27), .ref (q_2 28), .int 0, .int 0, .int 0, .int 0, .int 0])), (q_2 24, .inr (0, [.ref (q_2 29), .ref (q_2 30), .ref (q_2 31), .ref (q_2 32), .int 0, .int 0])), (q_2 29, .inl (cI, 1600, .inl (fun _ => 0))), (q_2 25, .inl (cI, 9, .inl (fun _ => 0))), (q_2 26, .inl (cI, 9, .inl (fun _ => 0))), (q_2 27, .inl (cI, 3, .inl (fun _ => 0))), (q_2 28, .inl (cI, 3, .inl (fun _ => 0))), (q_2 7, .inr (7, [.ref (q_2 33), .ref (q_2 34), .int 0, .int 0, .int 0, .int 0, .int 0])), (q_2 9, .inr (4, [.ref (q_2 35), .int 0, .ref (q_2 36), .ref (q_2 37), .ref (q_2 38)])), (q_2 16, .inl (cI, 6, .inl (fun _ => 0)))] H := hP
  have hD : va_D A [(q_1, .inr (11, [.ref (q_2 0), .ref (q_2 1), .ref (q_2 2), .ref (q_2 3), .ref (q_2 4), .ref (q_2 5), .ref (q_2 6), .ref (q_2 7), .ref (q_2 8), .ref (q_2 9), .ref (q_2 10), .ref (q_2 11), .ref (q_2 12), .ref (q_2 13), .ref (q_2 14), .int 0, .ref (q_2 16), .long 1])), (q_2 0, .inr (10, [.ref (q_2 20), .int 0])), (q_2 20, .inl (cI, 1600, .inl (fun _ => 0))), (q_2 1, .inr (10, [.ref (q_2 21), .int 0])), (q_2 21, .inl (cI, 31, .inl (fun _ => 0))), (q_2 2, .inr (6, [.ref (q_2 0), .int 0, .int 0, .int 0, .int (-1), .int 0, .int 0, .int (-1)])), (q_2 3, .inr (3, [.ref (q_2 2), .ref (q_2 22), .ref (q_2 23)])), (q_2 6, .inr (2, [.ref (q_2 24), .ref (q_2 25), .ref (q_2 26), .ref (q_2 27), .ref (q_2 28), .int 0, .int 0, .int 0, .int 0, .int 0])), (q_2 24, .inr (0, [.ref (q_2 29), .ref (q_2 30), .ref (q_2 31), .ref (q_2 32), .int 0, .int 0])), (q_2 29, .inl (cI, 1600, .inl (fun _ => 0))), (q_2 25, .inl (cI, 9, .inl (fun _ => 0))), (q_2 26, .inl (cI, 9, .inl (fun _ => 0))), (q_2 27, .inl (cI, 3, .inl (fun _ => 0))), (q_2 28, .inl (cI, 3, .inl (fun _ => 0))), (q_2 7, .inr (7, [.ref (q_2 33), .ref (q_2 34), .int 0, .int 0, .int 0, .int 0, .int 0])), (q_2 9, .inr (4, [.ref (q_2 35), .int 0, .ref (q_2 36), .ref (q_2 37), .ref (q_2 38)])), (q_2 16, .inl (cI, 6, .inl (fun _ => 0)))] := hD
  refine W.widen (k := 125) (n := 12117) (Nat.le_of_ble_eq_true rfl) (Nat.le_of_ble_eq_true rfl) ?_
  refine lv_astore_n (lv' := [(1, .ref q_1), (0, .ref b)]) hx hb dL_law_7 rfl hl (by decide) rfl (fun ls hl => ?_)
  refine sk_new (ci := 12) (fs := mF mD) (C := RX12) (T := TX12) (N := 92) (k1 := 126) (n1 := 12209) hx hb hts inlX12 tyX12 tyX12_ok hown w_5_149 w_5_150 w_1_14 hK hP hD hS hA rfl mD_ok (Nat.le_of_ble_eq_true rfl) (Nat.le_of_ble_eq_true rfl) (Nat.le_of_ble_eq_true rfl) (Nat.le_of_ble_eq_true rfl) dL_law_8 (fun q_3 H hP hD hS => ?_)
  have hP : va_P D vwCl [(q_1, .inr (11, [.ref (q_2 0), .ref (q_2 1), .ref (q_2 2), .ref (q_2 3), .ref (q_2 4), .ref (q_2 5), .ref (q_2 6), .ref (q_2 7), .ref (q_2 8), .ref (q_2 9), .ref (q_2 10), .ref (q_2 11), .ref (q_2 12), .ref (q_2 13), .ref (q_2 14), .int 0, .ref (q_2 16), .long 1])), (q_2 0, .inr (10, [.ref (q_2 20), .int 0])), (q_2 20, .inl (cI, 1600, .inl (fun _ => 0))), (q_2 1, .inr (10, [.ref (q_2 21), .int 0])), (q_2 21, .inl (cI, 31, .inl (fun _ => 0))), (q_2 2, .inr (6, [.ref (q_2 0), .int 0, .int 0, .int 0, .int (-1), .int 0, .int 0, .int (-1)])), (q_2 3, .inr (3, [.ref (q_2 2), .ref (q_2 22), .ref (q_2 23)])), (q_2 6, .inr (2, [.ref (q_2 24), .ref (q_2 25), .ref (q_2 26), .ref (q_2 27), .ref (q_2 28), .int 0, .int 0, .int 0, .int 0, .int 0])), (q_2 24, .inr (0, [.ref (q_2 29), .ref (q_2 30), .ref (q_2 31), .ref (q_2 32), .int 0, .int 0])), (q_2 29, .inl (cI, 1600, .inl (fun _ => 0))), (q_2 25, .inl (cI, 9, .inl (fun _ => 0))), (q_2 26, .inl (cI, 9, .inl (fun _ => 0))), (q_2 27, .inl (cI, 3, .inl (fun _ => 0))), (q_2 28, .inl (cI, 3, .inl (fun _ => 0))), (q_2 7, .inr (7, [.ref (q_2 33), .ref (q_2 34), .int 0, .int 0, .int 0, .int 0, .int 0])), (q_2 9, .inr (4, [.ref (q_2 35), .int 0, .ref (q_2 36), .ref (q_2 37), .ref (q_2 38)])), (q_2 16, .inl (cI, 6, .inl (fun _ => 0))), (q_3, .inr (12, mF mD))] H := hP
  have hD : va_D A [(q_1, .inr (11, [.ref (q_2 0), .ref (q_2 1), .ref (q_2 2), .ref (q_2 3), .ref (q_2 4), .ref (q_2 5), .ref (q_2 6), .ref (q_2 7), .ref (q_2 8), .ref (q_2 9), .ref (q_2 10), .ref (q_2 11), .ref (q_2 12), .ref (q_2 13), .ref (q_2 14), .int 0, .ref (q_2 16), .long 1])), (q_2 0, .inr (10, [.ref (q_2 20), .int 0])), (q_2 20, .inl (cI, 1600, .inl (fun _ => 0))), (q_2 1, .inr (10, [.ref (q_2 21), .int 0])), (q_2 21, .inl (cI, 31, .inl (fun _ => 0))), (q_2 2, .inr (6, [.ref (q_2 0), .int 0, .int 0, .int 0, .int (-1), .int 0, .int 0, .int (-1)])), (q_2 3, .inr (3, [.ref (q_2 2), .ref (q_2 22), .ref (q_2 23)])), (q_2 6, .inr (2, [.ref (q_2 24), .ref (q_2 25), .ref (q_2 26), .ref (q_2 27), .ref (q_2 28), .int 0, .int 0, .int 0, .int 0, .int 0])), (q_2 24, .inr (0, [.ref (q_2 29), .ref (q_2 30), .ref (q_2 31), .ref (q_2 32), .int 0, .int 0])), (q_2 29, .inl (cI, 1600, .inl (fun _ => 0))), (q_2 25, .inl (cI, 9, .inl (fun _ => 0))), (q_2 26, .inl (cI, 9, .inl (fun _ => 0))), (q_2 27, .inl (cI, 3, .inl (fun _ => 0))), (q_2 28, .inl (cI, 3, .inl (fun _ => 0))), (q_2 7, .inr (7, [.ref (q_2 33), .ref (q_2 34), .int 0, .int 0, .int 0, .int 0, .int 0])), (q_2 9, .inr (4, [.ref (q_2 35), .int 0, .ref (q_2 36), .ref (q_2 37), .ref (q_2 38)])), (q_2 16, .inl (cI, 6, .inl (fun _ => 0))), (q_3, .inr (12, mF mD))] := hD
  refine lv_dup hx hb dL_law_11 rfl ?_
  refine sk_Iv (n := 0) (rest := [.ref q_3]) (wr := [(q_1, .inr (11, [.ref (q_2 0), .ref (q_2 1), .ref (q_2 2), .ref (q_2 3), .ref (q_2 4), .ref (q_2 5), .ref (q_2 6), .ref (q_2 7), .ref (q_2 8), .ref (q_2 9), .ref (q_2 10), .ref (q_2 11), .ref (q_2 12), .ref (q_2 13), .ref (q_2 14), .int 0, .ref (q_2 16), .long 1])), (q_2 0, .inr (10, [.ref (q_2 20), .int 0])), (q_2 20, .inl (cI, 1600, .inl (fun _ => 0))), (q_2 1, .inr (10, [.ref (q_2 21), .int 0])), (q_2 21, .inl (cI, 31, .inl (fun _ => 0))), (q_2 2, .inr (6, [.ref (q_2 0), .int 0, .int 0, .int 0, .int (-1), .int 0, .int 0, .int (-1)])), (q_2 3, .inr (3, [.ref (q_2 2), .ref (q_2 22), .ref (q_2 23)])), (q_2 6, .inr (2, [.ref (q_2 24), .ref (q_2 25), .ref (q_2 26), .ref (q_2 27), .ref (q_2 28), .int 0, .int 0, .int 0, .int 0, .int 0])), (q_2 24, .inr (0, [.ref (q_2 29), .ref (q_2 30), .ref (q_2 31), .ref (q_2 32), .int 0, .int 0])), (q_2 29, .inl (cI, 1600, .inl (fun _ => 0))), (q_2 25, .inl (cI, 9, .inl (fun _ => 0))), (q_2 26, .inl (cI, 9, .inl (fun _ => 0))), (q_2 27, .inl (cI, 3, .inl (fun _ => 0))), (q_2 28, .inl (cI, 3, .inl (fun _ => 0))), (q_2 7, .inr (7, [.ref (q_2 33), .ref (q_2 34), .int 0, .int 0, .int 0, .int 0, .int 0])), (q_2 9, .inr (4, [.ref (q_2 35), .int 0, .ref (q_2 36), .ref (q_2 37), .ref (q_2 38)])), (q_2 16, .inl (cI, 6, .inl (fun _ => 0)))]) ⟨hx, hb, hml, hown, hts⟩ hl.1 (c_M_init l D cI cJ cC cZ cS q_3) w_5_151 w_5_152 w_1_14 w_5_153 rfl (by decide +kernel) ⟨⟨(Nat.le_of_ble_eq_true rfl), (Nat.le_of_ble_eq_true rfl)⟩, (Nat.le_of_ble_eq_true rfl), (Nat.le_of_ble_eq_true rfl)⟩ hK hP hD hS hA [17] [0, 1, 2, 3, 4, 5, 6, 7, 8, 9, 10, 11, 12, 13, 14, 15, 16] rfl rfl (by decide) (by decide) (by decide) rfl rfl (Nat.le_of_ble_eq_true rfl) dL_law_12 (fun u H locs hw hP hD hS => ?_)
  obtain ⟨g_4, ff_5, rfl⟩ := hw
  have hP : va_P D vwCl [(q_1, .inr (11, [.ref (q_2 0), .ref (q_2 1), .ref (q_2 2), .ref (q_2 3), .ref (q_2 4), .ref (q_2 5), .ref (q_2 6), .ref (q_2 7), .ref (q_2 8), .ref (q_2 9), .ref (q_2 10), .ref (q_2 11), .ref (q_2 12), .ref (q_2 13), .ref (q_2 14), .int 0, .ref (q_2 16), .long 1])), (q_2 0, .inr (10, [.ref (q_2 20), .int 0])), (q_2 20, .inl (cI, 1600, .inl (fun _ => 0))), (q_2 1, .inr (10, [.ref (q_2 21), .int 0])), (q_2 21, .inl (cI, 31, .inl (fun _ => 0))), (q_2 2, .inr (6, [.ref (q_2 0), .int 0, .int 0, .int 0, .int (-1), .int 0, .int 0, .int (-1)])), (q_2 3, .inr (3, [.ref (q_2 2), .ref (q_2 22), .ref (q_2 23)])), (q_2 6, .inr (2, [.ref (q_2 24), .ref (q_2 25), .ref (q_2 26), .ref (q_2 27), .ref (q_2 28), .int 0, .int 0, .int 0, .int 0, .int 0])), (q_2 24, .inr (0, [.ref (q_2 29), .ref (q_2 30), .ref (q_2 31), .ref (q_2 32), .int 0, .int 0])), (q_2 29, .inl (cI, 1600, .inl (fun _ => 0))), (q_2 25, .inl (cI, 9, .inl (fun _ => 0))), (q_2 26, .inl (cI, 9, .inl (fun _ => 0))), (q_2 27, .inl (cI, 3, .inl (fun _ => 0))), (q_2 28, .inl (cI, 3, .inl (fun _ => 0))), (q_2 7, .inr (7, [.ref (q_2 33), .ref (q_2 34), .int 0, .int 0, .int 0, .int 0, .int 0])), (q_2 9, .inr (4, [.ref (q_2 35), .int 0, .ref (q_2 36), .ref (q_2 37), .ref (q_2 38)])), (q_2 16, .inl (cI, 6, .inl (fun _ => 0))), (q_3, .inr (12, mF (mV g_4))), (g_4 0, .inl (cI, 1600, .inl (fun _ => 0))), (g_4 9, .inl (cI, 6, .inl (fun _ => 0))), (g_4 20, .inl (cI, 4, .inl (fun _ => 0))), (g_4 21, .inl (cI, 27, .inl (fun _ => 0))), (g_4 24, .inl (cI, 6, .inl ff_5)), (g_4 31, .inl (cI, 120, .inl (fun _ => 0))), (g_4 90, .inl (cI, 31, .inl (fun _ => 0)))] H := hP
  have hD : va_D A [(q_1, .inr (11, [.ref (q_2 0), .ref (q_2 1), .ref (q_2 2), .ref (q_2 3), .ref (q_2 4), .ref (q_2 5), .ref (q_2 6), .ref (q_2 7), .ref (q_2 8), .ref (q_2 9), .ref (q_2 10), .ref (q_2 11), .ref (q_2 12), .ref (q_2 13), .ref (q_2 14), .int 0, .ref (q_2 16), .long 1])), (q_2 0, .inr (10, [.ref (q_2 20), .int 0])), (q_2 20, .inl (cI, 1600, .inl (fun _ => 0))), (q_2 1, .inr (10, [.ref (q_2 21), .int 0])), (q_2 21, .inl (cI, 31, .inl (fun _ => 0))), (q_2 2, .inr (6, [.ref (q_2 0), .int 0, .int 0, .int 0, .int (-1), .int 0, .int 0, .int (-1)])), (q_2 3, .inr (3, [.ref (q_2 2), .ref (q_2 22), .ref (q_2 23)])), (q_2 6, .inr (2, [.ref (q_2 24), .ref (q_2 25), .ref (q_2 26), .ref (q_2 27), .ref (q_2 28), .int 0, .int 0, .int 0, .int 0, .int 0])), (q_2 24, .inr (0, [.ref (q_2 29), .ref (q_2 30), .ref (q_2 31), .ref (q_2 32), .int 0, .int 0])), (q_2 29, .inl (cI, 1600, .inl (fun _ => 0))), (q_2 25, .inl (cI, 9, .inl (fun _ => 0))), (q_2 26, .inl (cI, 9, .inl (fun _ => 0))), (q_2 27, .inl (cI, 3, .inl (fun _ => 0))), (q_2 28, .inl (cI, 3, .inl (fun _ => 0))), (q_2 7, .inr (7, [.ref (q_2 33), .ref (q_2 34), .int 0, .int 0, .int 0, .int 0, .int 0])), (q_2 9, .inr (4, [.ref (q_2 35), .int 0, .ref (q_2 36), .ref (q_2 37), .ref (q_2 38)])), (q_2 16, .inl (cI, 6, .inl (fun _ => 0))), (q_3, .inr (12, mF (mV g_4))), (g_4 0, .inl (cI, 1600, .inl (fun _ => 0))), (g_4 9, .inl (cI, 6, .inl (fun _ => 0))), (g_4 20, .inl (cI, 4, .inl (fun _ => 0))), (g_4 21, .inl (cI, 27, .inl (fun _ => 0))), (g_4 24, .inl (cI, 6, .inl ff_5)), (g_4 31, .inl (cI, 120, .inl (fun _ => 0))), (g_4 90, .inl (cI, 31, .inl (fun _ => 0)))] := hD
  refine W.widen (k := 182) (n := 32192) (Nat.le_of_ble_eq_true rfl) (Nat.le_of_ble_eq_true rfl) ?_
  refine lv_astore_n (lv' := [(2, .ref q_3), (1, .ref q_1), (0, .ref b)]) hx hb dL_law_15 rfl hl (by decide) rfl (fun ls hl => ?_)
  refine lv_iconst (v := 0) hx hb dL_law_16 (by decide) ?_
  refine lv_istore_n (lv' := [(3, .int 0), (2, .ref q_3), (1, .ref q_1), (0, .ref b)]) hx hb dL_law_17 rfl hl (by decide) rfl (fun ls hl => ?_)
  refine lv_iload_n hx hb dL_law_18 rfl (lv_at hl 0 rfl) ?_
  refine lv_aload_n hx hb dL_law_19 rfl (lv_at hl 3 rfl) ?_
  refine va_slen hx hb hX hbl hbA hS dL_law_20 ?_
  refine lv_bipush (v := 6) hx hb dL_law_21 (by decide) ?_
  refine lv_isub hx hb dL_law_23 ?_
  refine lv_topi (fun v_6 ev_6 => ?_)
  refine lv_icmp_gt (tgt := 1184) hx hb dL_law_24 (by decide) (fun c_7 => ?_) (fun c_7 => ?_)
  · refine lv_iconst (v := 1) hx hb dL_law_1184 (by decide) ?_
    refine va_forget (fun q hq => hAf _ (hS.2.2 q hq)) ?_
    refine W.widen (k := 600000) (n := 7302250) (Nat.le_of_ble_eq_true rfl) (Nat.le_of_ble_eq_true rfl) ?_
    exact lw_ret hx hb hr hlocks dL_law_1185
  · have hL6 : L = 6 := law_L hL (by rw [← ev_6]; exact c_7)
    subst hL6
    refine lv_aload_n hx hb dL_law_27 rfl (lv_at hl 3 rfl) ?_
    refine lv_iload_n hx hb dL_law_28 rfl (lv_at hl 0 rfl) ?_
    refine va_sld hx hb hX hbl hbA hS (by unfold vp_in; decide) dL_law_29 ?_
    refine sk_top (xs 0) rfl ?_
    refine lv_bipush (v := 63) hx hb dL_law_30 (by decide) ?_
    refine lv_iand hx hb dL_law_32 ?_
    refine lv_topi (fun v_9 ev_9 => ?_)
    by_cases g_10 : v_9 = 0
    · subst g_10
      refine lv_tableIn (off := 171) (tgt := 204) hx hb dL_law_33 (by decide) (by decide) rfl (by decide) ?_
      have hE : lwE p s m meth c b xs D (skT cI cJ cC cZ cS) A := ⟨hx, hb, hr, hml, hlocks, hown, hts, hX, hbl, hA, hbA, hAf, hK⟩
      exact law_0 l D cI cJ cC cZ cS q_1 q_2 q_3 g_4 ff_5 hE hP hD hS (lv_sub hl [0, 1, 2, 3] rfl)
    by_cases g_11 : v_9 = 1
    · subst g_11
      refine lv_tableIn (off := 234) (tgt := 267) hx hb dL_law_33 (by decide) (by decide) rfl (by decide) ?_
      have hE : lwE p s m meth c b xs D (skT cI cJ cC cZ cS) A := ⟨hx, hb, hr, hml, hlocks, hown, hts, hX, hbl, hA, hbA, hAf, hK⟩
      exact law_1 l D cI cJ cC cZ cS q_1 q_2 q_3 g_4 ff_5 hE hP hD hS (lv_sub hl [0, 1, 2, 3] rfl)
    by_cases g_12 : v_9 = 2
    · subst g_12
      refine lv_tableIn (off := 257) (tgt := 290) hx hb dL_law_33 (by decide) (by decide) rfl (by decide) ?_
      have hE : lwE p s m meth c b xs D (skT cI cJ cC cZ cS) A := ⟨hx, hb, hr, hml, hlocks, hown, hts, hX, hbl, hA, hbA, hAf, hK⟩
      exact law_2 l D cI cJ cC cZ cS q_1 q_2 q_3 g_4 ff_5 hE hP hD hS (lv_sub hl [0, 1, 2, 3] rfl)
    by_cases g_13 : v_9 = 3
    · subst g_13
      refine lv_tableIn (off := 270) (tgt := 303) hx hb dL_law_33 (by decide) (by decide) rfl (by decide) ?_
      have hE : lwE p s m meth c b xs D (skT cI cJ cC cZ cS) A := ⟨hx, hb, hr, hml, hlocks, hown, hts, hX, hbl, hA, hbA, hAf, hK⟩
      exact law_3 l D cI cJ cC cZ cS q_1 q_2 q_3 g_4 ff_5 hE hP hD hS (lv_sub hl [0, 1, 2, 3] rfl)
    by_cases g_14 : v_9 = 4
    · subst g_14
      refine lv_tableIn (off := 293) (tgt := 326) hx hb dL_law_33 (by decide) (by decide) rfl (by decide) ?_
      have hE : lwE p s m meth c b xs D (skT cI cJ cC cZ cS) A := ⟨hx, hb, hr, hml, hlocks, hown, hts, hX, hbl, hA, hbA, hAf, hK⟩
      exact law_4 l D cI cJ cC cZ cS q_1 q_2 q_3 g_4 ff_5 hE hP hD hS (lv_sub hl [0, 1, 2, 3] rfl)
    by_cases g_15 : v_9 = 5
    · subst g_15
      refine lv_tableIn (off := 316) (tgt := 349) hx hb dL_law_33 (by decide) (by decide) rfl (by decide) ?_
      have hE : lwE p s m meth c b xs D (skT cI cJ cC cZ cS) A := ⟨hx, hb, hr, hml, hlocks, hown, hts, hX, hbl, hA, hbA, hAf, hK⟩
      exact law_5 l D cI cJ cC cZ cS q_1 q_2 q_3 g_4 ff_5 hE hP hD hS (lv_sub hl [0, 1, 2, 3] rfl)
    by_cases g_16 : v_9 = 6
    · subst g_16
      refine lv_tableIn (off := 349) (tgt := 382) hx hb dL_law_33 (by decide) (by decide) rfl (by decide) ?_
      have hE : lwE p s m meth c b xs D (skT cI cJ cC cZ cS) A := ⟨hx, hb, hr, hml, hlocks, hown, hts, hX, hbl, hA, hbA, hAf, hK⟩
      exact law_6 l D cI cJ cC cZ cS q_1 q_2 q_3 g_4 ff_5 hE hP hD hS (lv_sub hl [0, 1, 2, 3] rfl)
    by_cases g_17 : v_9 = 7
    · subst g_17
      refine lv_tableIn (off := 382) (tgt := 415) hx hb dL_law_33 (by decide) (by decide) rfl (by decide) ?_
      have hE : lwE p s m meth c b xs D (skT cI cJ cC cZ cS) A := ⟨hx, hb, hr, hml, hlocks, hown, hts, hX, hbl, hA, hbA, hAf, hK⟩
      exact law_7 l D cI cJ cC cZ cS q_1 q_2 q_3 g_4 ff_5 hE hP hD hS (lv_sub hl [0, 1, 2, 3] rfl)
    by_cases g_18 : v_9 = 8
    · subst g_18
      refine lv_tableIn (off := 425) (tgt := 458) hx hb dL_law_33 (by decide) (by decide) rfl (by decide) ?_
      have hE : lwE p s m meth c b xs D (skT cI cJ cC cZ cS) A := ⟨hx, hb, hr, hml, hlocks, hown, hts, hX, hbl, hA, hbA, hAf, hK⟩
      exact law_8 l D cI cJ cC cZ cS q_1 q_2 q_3 g_4 ff_5 hE hP hD hS (lv_sub hl [0, 1, 2, 3] rfl)
    by_cases g_19 : v_9 = 9
    · subst g_19
      refine lv_tableIn (off := 459) (tgt := 492) hx hb dL_law_33 (by decide) (by decide) rfl (by decide) ?_
      have hE : lwE p s m meth c b xs D (skT cI cJ cC cZ cS) A := ⟨hx, hb, hr, hml, hlocks, hown, hts, hX, hbl, hA, hbA, hAf, hK⟩
      exact law_9 l D cI cJ cC cZ cS q_1 q_2 q_3 g_4 ff_5 hE hP hD hS (lv_sub hl [0, 1, 2, 3] rfl)
    by_cases g_20 : v_9 = 10
    · subst g_20
      refine lv_tableIn (off := 473) (tgt := 506) hx hb dL_law_33 (by decide) (by decide) rfl (by decide) ?_
      have hE : lwE p s m meth c b xs D (skT cI cJ cC cZ cS) A := ⟨hx, hb, hr, hml, hlocks, hown, hts, hX, hbl, hA, hbA, hAf, hK⟩
      exact law_10 l D cI cJ cC cZ cS q_1 q_2 q_3 g_4 ff_5 hE hP hD hS (lv_sub hl [0, 1, 2, 3] rfl)
    by_cases g_21 : v_9 = 11
    · subst g_21
      refine lv_tableIn (off := 506) (tgt := 539) hx hb dL_law_33 (by decide) (by decide) rfl (by decide) ?_
      have hE : lwE p s m meth c b xs D (skT cI cJ cC cZ cS) A := ⟨hx, hb, hr, hml, hlocks, hown, hts, hX, hbl, hA, hbA, hAf, hK⟩
      exact law_11 l D cI cJ cC cZ cS q_1 q_2 q_3 g_4 ff_5 hE hP hD hS (lv_sub hl [0, 1, 2, 3] rfl)
    by_cases g_22 : v_9 = 12
    · subst g_22
      refine lv_tableIn (off := 540) (tgt := 573) hx hb dL_law_33 (by decide) (by decide) rfl (by decide) ?_
      have hE : lwE p s m meth c b xs D (skT cI cJ cC cZ cS) A := ⟨hx, hb, hr, hml, hlocks, hown, hts, hX, hbl, hA, hbA, hAf, hK⟩
      exact law_12 l D cI cJ cC cZ cS q_1 q_2 q_3 g_4 ff_5 hE hP hD hS (lv_sub hl [0, 1, 2, 3] rfl)
    by_cases g_23 : v_9 = 13
    · subst g_23
      refine lv_tableIn (off := 553) (tgt := 586) hx hb dL_law_33 (by decide) (by decide) rfl (by decide) ?_
      have hE : lwE p s m meth c b xs D (skT cI cJ cC cZ cS) A := ⟨hx, hb, hr, hml, hlocks, hown, hts, hX, hbl, hA, hbA, hAf, hK⟩
      exact law_13 l D cI cJ cC cZ cS q_1 q_2 q_3 g_4 ff_5 hE hP hD hS (lv_sub hl [0, 1, 2, 3] rfl)
    by_cases g_24 : v_9 = 14
    · subst g_24
      refine lv_tableIn (off := 586) (tgt := 619) hx hb dL_law_33 (by decide) (by decide) rfl (by decide) ?_
      have hE : lwE p s m meth c b xs D (skT cI cJ cC cZ cS) A := ⟨hx, hb, hr, hml, hlocks, hown, hts, hX, hbl, hA, hbA, hAf, hK⟩
      exact law_14 l D cI cJ cC cZ cS q_1 q_2 q_3 g_4 ff_5 hE hP hD hS (lv_sub hl [0, 1, 2, 3] rfl)
    by_cases g_25 : v_9 = 15
    · subst g_25
      refine lv_tableIn (off := 599) (tgt := 632) hx hb dL_law_33 (by decide) (by decide) rfl (by decide) ?_
      have hE : lwE p s m meth c b xs D (skT cI cJ cC cZ cS) A := ⟨hx, hb, hr, hml, hlocks, hown, hts, hX, hbl, hA, hbA, hAf, hK⟩
      exact law_15 l D cI cJ cC cZ cS q_1 q_2 q_3 g_4 ff_5 hE hP hD hS (lv_sub hl [0, 1, 2, 3] rfl)
    by_cases g_26 : v_9 = 16
    · subst g_26
      refine lv_tableIn (off := 622) (tgt := 655) hx hb dL_law_33 (by decide) (by decide) rfl (by decide) ?_
      have hE : lwE p s m meth c b xs D (skT cI cJ cC cZ cS) A := ⟨hx, hb, hr, hml, hlocks, hown, hts, hX, hbl, hA, hbA, hAf, hK⟩
      exact law_16 l D cI cJ cC cZ cS q_1 q_2 q_3 g_4 ff_5 hE hP hD hS (lv_sub hl [0, 1, 2, 3] rfl)
    by_cases g_27 : v_9 = 17
    · subst g_27
      refine lv_tableIn (off := 635) (tgt := 668) hx hb dL_law_33 (by decide) (by decide) rfl (by decide) ?_
      have hE : lwE p s m meth c b xs D (skT cI cJ cC cZ cS) A := ⟨hx, hb, hr, hml, hlocks, hown, hts, hX, hbl, hA, hbA, hAf, hK⟩
      exact law_17 l D cI cJ cC cZ cS q_1 q_2 q_3 g_4 ff_5 hE hP hD hS (lv_sub hl [0, 1, 2, 3] rfl)
    by_cases g_28 : v_9 = 18
    · subst g_28
      refine lv_tableIn (off := 668) (tgt := 701) hx hb dL_law_33 (by decide) (by decide) rfl (by decide) ?_
      have hE : lwE p s m meth c b xs D (skT cI cJ cC cZ cS) A := ⟨hx, hb, hr, hml, hlocks, hown, hts, hX, hbl, hA, hbA, hAf, hK⟩
      exact law_18 l D cI cJ cC cZ cS q_1 q_2 q_3 g_4 ff_5 hE hP hD hS (lv_sub hl [0, 1, 2, 3] rfl)
    by_cases g_29 : v_9 = 19
    · subst g_29
      refine lv_tableIn (off := 682) (tgt := 715) hx hb dL_law_33 (by decide) (by decide) rfl (by decide) ?_
      have hE : lwE p s m meth c b xs D (skT cI cJ cC cZ cS) A := ⟨hx, hb, hr, hml, hlocks, hown, hts, hX, hbl, hA, hbA, hAf, hK⟩
      exact law_19 l D cI cJ cC cZ cS q_1 q_2 q_3 g_4 ff_5 hE hP hD hS (lv_sub hl [0, 1, 2, 3] rfl)
    by_cases g_30 : v_9 = 20
    · subst g_30
      refine lv_tableIn (off := 705) (tgt := 738) hx hb dL_law_33 (by decide) (by decide) rfl (by decide) ?_
      have hE : lwE p s m meth c b xs D (skT cI cJ cC cZ cS) A := ⟨hx, hb, hr, hml, hlocks, hown, hts, hX, hbl, hA, hbA, hAf, hK⟩
      exact law_20 l D cI cJ cC cZ cS q_1 q_2 q_3 g_4 ff_5 hE hP hD hS (lv_sub hl [0, 1, 2, 3] rfl)
    by_cases g_31 : v_9 = 21
    · subst g_31
      refine lv_tableIn (off := 718) (tgt := 751) hx hb dL_law_33 (by decide) (by decide) rfl (by decide) ?_
      have hE : lwE p s m meth c b xs D (skT cI cJ cC cZ cS) A := ⟨hx, hb, hr, hml, hlocks, hown, hts, hX, hbl, hA, hbA, hAf, hK⟩
      exact law_21 l D cI cJ cC cZ cS q_1 q_2 q_3 g_4 ff_5 hE hP hD hS (lv_sub hl [0, 1, 2, 3] rfl)
    by_cases g_32 : v_9 = 22
    · subst g_32
      refine lv_tableIn (off := 751) (tgt := 784) hx hb dL_law_33 (by decide) (by decide) rfl (by decide) ?_
      have hE : lwE p s m meth c b xs D (skT cI cJ cC cZ cS) A := ⟨hx, hb, hr, hml, hlocks, hown, hts, hX, hbl, hA, hbA, hAf, hK⟩
      exact law_22 l D cI cJ cC cZ cS q_1 q_2 q_3 g_4 ff_5 hE hP hD hS (lv_sub hl [0, 1, 2, 3] rfl)
    by_cases g_33 : v_9 = 23
    · subst g_33
      refine lv_tableIn (off := 794) (tgt := 827) hx hb dL_law_33 (by decide) (by decide) rfl (by decide) ?_
      have hE : lwE p s m meth c b xs D (skT cI cJ cC cZ cS) A := ⟨hx, hb, hr, hml, hlocks, hown, hts, hX, hbl, hA, hbA, hAf, hK⟩
      exact law_23 l D cI cJ cC cZ cS q_1 q_2 q_3 g_4 ff_5 hE hP hD hS (lv_sub hl [0, 1, 2, 3] rfl)
    by_cases g_34 : v_9 = 24
    · subst g_34
      refine lv_tableIn (off := 827) (tgt := 860) hx hb dL_law_33 (by decide) (by decide) rfl (by decide) ?_
      have hE : lwE p s m meth c b xs D (skT cI cJ cC cZ cS) A := ⟨hx, hb, hr, hml, hlocks, hown, hts, hX, hbl, hA, hbA, hAf, hK⟩
      exact law_24 l D cI cJ cC cZ cS q_1 q_2 q_3 g_4 ff_5 hE hP hD hS (lv_sub hl [0, 1, 2, 3] rfl)
    by_cases g_35 : v_9 = 25
    · subst g_35
      refine lv_tableIn (off := 840) (tgt := 873) hx hb dL_law_33 (by decide) (by decide) rfl (by decide) ?_
      have hE : lwE p s m meth c b xs D (skT cI cJ cC cZ cS) A := ⟨hx, hb, hr, hml, hlocks, hown, hts, hX, hbl, hA, hbA, hAf, hK⟩
      exact law_25 l D cI cJ cC cZ cS q_1 q_2 q_3 g_4 ff_5 hE hP hD hS (lv_sub hl [0, 1, 2, 3] rfl)
    by_cases g_36 : v_9 = 26
    · subst g_36
      refine lv_tableIn (off := 854) (tgt := 887) hx hb dL_law_33 (by decide) (by decide) rfl (by decide) ?_
      have hE : lwE p s m meth c b xs D (skT cI cJ cC cZ cS) A := ⟨hx, hb, hr, hml, hlocks, hown, hts, hX, hbl, hA, hbA, hAf, hK⟩
      exact law_26 l D cI cJ cC cZ cS q_1 q_2 q_3 g_4 ff_5 hE hP hD hS (lv_sub hl [0, 1, 2, 3] rfl)
    by_cases g_37 : v_9 = 27
    · subst g_37
      refine lv_tableIn (off := 878) (tgt := 911) hx hb dL_law_33 (by decide) (by decide) rfl (by decide) ?_
      have hE : lwE p s m meth c b xs D (skT cI cJ cC cZ cS) A := ⟨hx, hb, hr, hml, hlocks, hown, hts, hX, hbl, hA, hbA, hAf, hK⟩
      exact law_27 l D cI cJ cC cZ cS q_1 q_2 q_3 g_4 ff_5 hE hP hD hS (lv_sub hl [0, 1, 2, 3] rfl)
    by_cases g_38 : v_9 = 28
    · subst g_38
      refine lv_tableIn (off := 911) (tgt := 944) hx hb dL_law_33 (by decide) (by decide) rfl (by decide) ?_
      have hE : lwE p s m meth c b xs D (skT cI cJ cC cZ cS) A := ⟨hx, hb, hr, hml, hlocks, hown, hts, hX, hbl, hA, hbA, hAf, hK⟩
      exact law_28 l D cI cJ cC cZ cS q_1 q_2 q_3 g_4 ff_5 hE hP hD hS (lv_sub hl [0, 1, 2, 3] rfl)
    by_cases g_39 : v_9 = 29
    · subst g_39
      refine lv_tableIn (off := 954) (tgt := 987) hx hb dL_law_33 (by decide) (by decide) rfl (by decide) ?_
      have hE : lwE p s m meth c b xs D (skT cI cJ cC cZ cS) A := ⟨hx, hb, hr, hml, hlocks, hown, hts, hX, hbl, hA, hbA, hAf, hK⟩
      exact law_29 l D cI cJ cC cZ cS q_1 q_2 q_3 g_4 ff_5 hE hP hD hS (lv_sub hl [0, 1, 2, 3] rfl)
    by_cases g_40 : v_9 = 30
    · subst g_40
      refine lv_tableIn (off := 987) (tgt := 1020) hx hb dL_law_33 (by decide) (by decide) rfl (by decide) ?_
      have hE : lwE p s m meth c b xs D (skT cI cJ cC cZ cS) A := ⟨hx, hb, hr, hml, hlocks, hown, hts, hX, hbl, hA, hbA, hAf, hK⟩
      exact law_30 l D cI cJ cC cZ cS q_1 q_2 q_3 g_4 ff_5 hE hP hD hS (lv_sub hl [0, 1, 2, 3] rfl)
    by_cases g_41 : v_9 = 31
    · subst g_41
      refine lv_tableIn (off := 1000) (tgt := 1033) hx hb dL_law_33 (by decide) (by decide) rfl (by decide) ?_
      have hE : lwE p s m meth c b xs D (skT cI cJ cC cZ cS) A := ⟨hx, hb, hr, hml, hlocks, hown, hts, hX, hbl, hA, hbA, hAf, hK⟩
      exact law_31 l D cI cJ cC cZ cS q_1 q_2 q_3 g_4 ff_5 hE hP hD hS (lv_sub hl [0, 1, 2, 3] rfl)
    by_cases g_42 : v_9 = 32
    · subst g_42
      refine lv_tableIn (off := 1023) (tgt := 1056) hx hb dL_law_33 (by decide) (by decide) rfl (by decide) ?_
      have hE : lwE p s m meth c b xs D (skT cI cJ cC cZ cS) A := ⟨hx, hb, hr, hml, hlocks, hown, hts, hX, hbl, hA, hbA, hAf, hK⟩
      exact law_32 l D cI cJ cC cZ cS q_1 q_2 q_3 g_4 ff_5 hE hP hD hS (lv_sub hl [0, 1, 2, 3] rfl)
    by_cases g_43 : v_9 = 33
    · subst g_43
      refine lv_tableIn (off := 1036) (tgt := 1069) hx hb dL_law_33 (by decide) (by decide) rfl (by decide) ?_
      have hE : lwE p s m meth c b xs D (skT cI cJ cC cZ cS) A := ⟨hx, hb, hr, hml, hlocks, hown, hts, hX, hbl, hA, hbA, hAf, hK⟩
      exact law_33 l D cI cJ cC cZ cS q_1 q_2 q_3 g_4 ff_5 hE hP hD hS (lv_sub hl [0, 1, 2, 3] rfl)
    by_cases g_44 : v_9 = 34
    · subst g_44
      refine lv_tableIn (off := 1059) (tgt := 1092) hx hb dL_law_33 (by decide) (by decide) rfl (by decide) ?_
      have hE : lwE p s m meth c b xs D (skT cI cJ cC cZ cS) A := ⟨hx, hb, hr, hml, hlocks, hown, hts, hX, hbl, hA, hbA, hAf, hK⟩
      exact law_34 l D cI cJ cC cZ cS q_1 q_2 q_3 g_4 ff_5 hE hP hD hS (lv_sub hl [0, 1, 2, 3] rfl)
    by_cases g_45 : v_9 = 35
    · subst g_45
      refine lv_tableIn (off := 1073) (tgt := 1106) hx hb dL_law_33 (by decide) (by decide) rfl (by decide) ?_
      have hE : lwE p s m meth c b xs D (skT cI cJ cC cZ cS) A := ⟨hx, hb, hr, hml, hlocks, hown, hts, hX, hbl, hA, hbA, hAf, hK⟩
      exact law_35 l D cI cJ cC cZ cS q_1 q_2 q_3 g_4 ff_5 hE hP hD hS (lv_sub hl [0, 1, 2, 3] rfl)
    by_cases g_46 : v_9 = 36
    · subst g_46
      refine lv_tableIn (off := 1086) (tgt := 1119) hx hb dL_law_33 (by decide) (by decide) rfl (by decide) ?_
      have hE : lwE p s m meth c b xs D (skT cI cJ cC cZ cS) A := ⟨hx, hb, hr, hml, hlocks, hown, hts, hX, hbl, hA, hbA, hAf, hK⟩
      exact law_36 l D cI cJ cC cZ cS q_1 q_2 q_3 g_4 ff_5 hE hP hD hS (lv_sub hl [0, 1, 2, 3] rfl)
    by_cases g_47 : v_9 = 37
    · subst g_47
      refine lv_tableIn (off := 1109) (tgt := 1142) hx hb dL_law_33 (by decide) (by decide) rfl (by decide) ?_
      have hE : lwE p s m meth c b xs D (skT cI cJ cC cZ cS) A := ⟨hx, hb, hr, hml, hlocks, hown, hts, hX, hbl, hA, hbA, hAf, hK⟩
      exact law_37 l D cI cJ cC cZ cS q_1 q_2 q_3 g_4 ff_5 hE hP hD hS (lv_sub hl [0, 1, 2, 3] rfl)
    by_cases g_48 : v_9 = 38
    · subst g_48
      refine lv_tableIn (off := 1122) (tgt := 1155) hx hb dL_law_33 (by decide) (by decide) rfl (by decide) ?_
      have hE : lwE p s m meth c b xs D (skT cI cJ cC cZ cS) A := ⟨hx, hb, hr, hml, hlocks, hown, hts, hX, hbl, hA, hbA, hAf, hK⟩
      exact law_38 l D cI cJ cC cZ cS q_1 q_2 q_3 g_4 ff_5 hE hP hD hS (lv_sub hl [0, 1, 2, 3] rfl)
    refine lv_tableOut (tgt := 1178) hx hb dL_law_33 (sk_out (n := 38) (by intro k hk; rcases (show k = 0 ∨ k = 1 ∨ k = 2 ∨ k = 3 ∨ k = 4 ∨ k = 5 ∨ k = 6 ∨ k = 7 ∨ k = 8 ∨ k = 9 ∨ k = 10 ∨ k = 11 ∨ k = 12 ∨ k = 13 ∨ k = 14 ∨ k = 15 ∨ k = 16 ∨ k = 17 ∨ k = 18 ∨ k = 19 ∨ k = 20 ∨ k = 21 ∨ k = 22 ∨ k = 23 ∨ k = 24 ∨ k = 25 ∨ k = 26 ∨ k = 27 ∨ k = 28 ∨ k = 29 ∨ k = 30 ∨ k = 31 ∨ k = 32 ∨ k = 33 ∨ k = 34 ∨ k = 35 ∨ k = 36 ∨ k = 37 ∨ k = 38 by omega) with rfl | rfl | rfl | rfl | rfl | rfl | rfl | rfl | rfl | rfl | rfl | rfl | rfl | rfl | rfl | rfl | rfl | rfl | rfl | rfl | rfl | rfl | rfl | rfl | rfl | rfl | rfl | rfl | rfl | rfl | rfl | rfl | rfl | rfl | rfl | rfl | rfl | rfl | rfl <;> assumption)) (by decide) ?_
    have hE : lwE p s m meth c b xs D (skT cI cJ cC cZ cS) A := ⟨hx, hb, hr, hml, hlocks, hown, hts, hX, hbl, hA, hbA, hAf, hK⟩
    exact law_tail l D cI cJ cC cZ cS hE (hP.sub [] rfl) (hD.sub [] (by decide) rfl) hS (lv_sub hl [0, 3] rfl)
