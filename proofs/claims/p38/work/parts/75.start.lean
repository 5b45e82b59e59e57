theorem dg_L_law_0_0 : bqL cL_law 0 [(0, [187, 0, 7]), (3, [89]), (4, [183, 0, 9]), (7, [76]), (8, [187, 0, 10]), (11, [89]), (12, [183, 0, 12]), (15, [77]), (16, [3]), (17, [62])] = true := by decide +kernel
theorem dL_law_0 : decode cL_law 0 = .ok (.new 7, 3) := q_new (bat_get dg_L_law_0_0 0 rfl rfl) rfl
theorem dL_law_3 : decode cL_law 3 = .ok (.dup, 1) := q_dup (bat_get dg_L_law_0_0 1 rfl rfl)
theorem dL_law_4 : decode cL_law 4 = .ok (.invokespecial 9, 3) := q_invokespecial (bat_get dg_L_law_0_0 2 rfl rfl) rfl
theorem dL_law_7 : decode cL_law 7 = .ok (.astore_n 1, 1) := q_astore_n1 (bat_get dg_L_law_0_0 3 rfl rfl)
theorem dL_law_8 : decode cL_law 8 = .ok (.new 10, 3) := q_new (bat_get dg_L_law_0_0 4 rfl rfl) rfl
theorem dL_law_11 : decode cL_law 11 = .ok (.dup, 1) := q_dup (bat_get dg_L_law_0_0 5 rfl rfl)
theorem dL_law_12 : decode cL_law 12 = .ok (.invokespecial 12, 3) := q_invokespecial (bat_get dg_L_law_0_0 6 rfl rfl) rfl
theorem dL_law_15 : decode cL_law 15 = .ok (.astore_n 2, 1) := q_astore_n2 (bat_get dg_L_law_0_0 7 rfl rfl)
theorem dL_law_16 : decode cL_law 16 = .ok (.iconst 0, 1) := q_iconst0 (bat_get dg_L_law_0_0 8 rfl rfl)
theorem dL_law_17 : decode cL_law 17 = .ok (.istore_n 3, 1) := q_istore_n3 (bat_get dg_L_law_0_0 9 rfl rfl)
theorem w_1_23 : (Cond.instantiable RX11 18) ∈ wsL_law := sk_mem (ck_1 _ (List.mem_of_getElem? (i := 23) rfl)) rfl
theorem w_5_150 : (Cond.instantiable RX12 92) ∈ wsL_law := sk_mem (ck_5 _ (List.mem_of_getElem? (i := 150) rfl)) rfl
theorem w_1_22 : (Cond.classLink RL 7 RX11) ∈ wsL_law := sk_mem (ck_1 _ (List.mem_of_getElem? (i := 22) rfl)) rfl
theorem w_1_24 : (Cond.methodLink RL 9 yX11_init) ∈ wsL_law := sk_mem (ck_1 _ (List.mem_of_getElem? (i := 24) rfl)) rfl
theorem w_1_25 : (Cond.instanceMethod yX11_init) ∈ wsL_law := sk_mem (ck_1 _ (List.mem_of_getElem? (i := 25) rfl)) rfl
theorem w_5_149 : (Cond.classLink RL 10 RX12) ∈ wsL_law := sk_mem (ck_5 _ (List.mem_of_getElem? (i := 149) rfl)) rfl
theorem w_5_151 : (Cond.methodLink RL 12 yX12_init) ∈ wsL_law := sk_mem (ck_5 _ (List.mem_of_getElem? (i := 151) rfl)) rfl
theorem w_5_152 : (Cond.instanceMethod yX12_init) ∈ wsL_law := sk_mem (ck_5 _ (List.mem_of_getElem? (i := 152) rfl)) rfl
set_option maxHeartbeats 4000000 in
set_option maxRecDepth 100000 in
theorem whole_start {p : Program} {e : Env} {s : State} {m : MethodId} {below : List Frame} {meth : Method} {c : Code} (l : Launch) (hflags : l.flags = flags0) {b L : Nat} {xs : Nat → Int32} (hL : L ≤ 3072) (C0 : lw_At p s m meth c b L xs) : W p l e room_1 s m #[Value.ref b] below meth c s.heap [] 0 0 (lw_Z below #[Value.ref b] s) (entryFrame m ([Value.ref b] : List Value).toArray 4) := by
  obtain ⟨hx, hb, hr, hml, hown, hts0, hX, hbl, hlocks, hgv⟩ := id C0
  have hts : ∀ w ∈ wsL_law, w.before #[Value.ref b] s = true := fun w h => hts0 w (wsL_law_in w h)
  have hb : c.code = cL_law := hb
  have hown : s.vm.findClass RL = some m.cls := hown
  obtain ⟨A, eA⟩ : ∃ A : Nat → Prop, A = fun q : Nat => s.heap.size ≤ q := ⟨_, rfl⟩
  have hA : ∀ q : Nat, s.heap.size ≤ q → A q := fun q h => by rw [eA]; exact h
  have hAf : ∀ q : Nat, A q → s.heap.size ≤ q := fun q h => by rw [eA] at h; exact h
  have hbA : ¬ A b := fun h => absurd (hAf b h) (Nat.not_le.mpr hbl)
  obtain ⟨zk, zv, zf, hZ⟩ := skStr_start (A := A) hts0 hgv (fun a h h2 => absurd (hAf a h2) (Nat.not_le.mpr h))
  obtain ⟨d0, t0, hKn0⟩ := u_known (C := RX0) (T := TX0) (N := 6) (n := 6) hts inlX0 (hts _ w_1_124)
  obtain ⟨d1, t1, hKn1⟩ := u_known (C := RX1) (T := TX1) (N := 9) (n := 9) hts inlX1 (hts _ w_2_90)
  obtain ⟨d2, t2, hKn2⟩ := u_known (C := RX2) (T := TX2) (N := 10) (n := 10) hts inlX2 (hts _ w_1_168)
  obtain ⟨d3, t3, hKn3⟩ := u_known (C := RX3) (T := TX3) (N := 3) (n := 3) hts inlX3 (hts _ w_1_89)
  obtain ⟨d4, t4, hKn4⟩ := u_known (C := RX4) (T := TX4) (N := 5) (n := 5) hts inlX4 (hts _ w_2_32)
  obtain ⟨d5, t5, hKn5⟩ := u_known (C := RX5) (T := TX5) (N := 4) (n := 4) hts inlX5 (hts _ w_1_118)
  obtain ⟨d6, t6, hKn6⟩ := u_known (C := RX6) (T := TX6) (N := 8) (n := 8) hts inlX6 (hts _ w_1_51)
  obtain ⟨d7, t7, hKn7⟩ := u_known (C := RX7) (T := TX7) (N := 7) (n := 7) hts inlX7 (hts _ w_1_225)
  obtain ⟨d8, t8, hKn8⟩ := u_known (C := RX8) (T := TX8) (N := 2) (n := 2) hts inlX8 (hts _ w_1_95)
  obtain ⟨d9, t9, hKn9⟩ := u_known (C := RX9) (T := TX9) (N := 6) (n := 6) hts inlX9 (hts _ w_2_58)
  obtain ⟨d10, t10, hKn10⟩ := u_known (C := RX10) (T := TX10) (N := 2) (n := 2) hts inlX10 (hts _ w_1_31)
  obtain ⟨d11, t11, hKn11⟩ := u_known (C := RX11) (T := TX11) (N := 18) (n := 18) hts inlX11 (hts _ w_1_23)
  obtain ⟨d12, t12, hKn12⟩ := u_known (C := RX12) (T := TX12) (N := 92) (n := 92) hts inlX12 (hts _ w_5_150)
  obtain ⟨D, hKc⟩ : ∃ D : va_G, ∀ (k : Nat) (q : vw_C), vwCl[k]? = some q → u_Kn s q.1 q.2.1 q.2.2 (D.1 k) (D.2 k) := by
    refine ⟨(fun k => match k with | 0 => d0 | 1 => d1 | 2 => d2 | 3 => d3 | 4 => d4 | 5 => d5 | 6 => d6 | 7 => d7 | 8 => d8 | 9 => d9 | 10 => d10 | 11 => d11 | _ => d12, fun k => match k with | 0 => t0 | 1 => t1 | 2 => t2 | 3 => t3 | 4 => t4 | 5 => t5 | 6 => t6 | 7 => t7 | 8 => t8 | 9 => t9 | 10 => t10 | 11 => t11 | _ => t12), ?_⟩
    intro k q hq
    match k, hq with
    | 0, hq => cases hq; exact hKn0
    | 1, hq => cases hq; exact hKn1
    | 2, hq => cases hq; exact hKn2
    | 3, hq => cases hq; exact hKn3
    | 4, hq => cases hq; exact hKn4
    | 5, hq => cases hq; exact hKn5
    | 6, hq => cases hq; exact hKn6
    | 7, hq => cases hq; exact hKn7
    | 8, hq => cases hq; exact hKn8
    | 9, hq => cases hq; exact hKn9
    | 10, hq => cases hq; exact hKn10
    | 11, hq => cases hq; exact hKn11
    | 12, hq => cases hq; exact hKn12
    | k + 13, hq => simp [vwCl] at hq
  obtain ⟨cI, a_cI, b_cI⟩ := st_arr (hts _ w_1_49) (fun _ h => h)
  obtain ⟨cJ, a_cJ, b_cJ⟩ := st_arr (hts _ w_1_151) (fun _ h => h)
  obtain ⟨cC, a_cC, b_cC⟩ := st_arr (hts _ w_6_192) (fun _ h => h)
  obtain ⟨cZ, a_cZ, b_cZ⟩ := st_arr (hts _ w_6_193) (fun _ h => h)
  obtain ⟨cS, a_cS, b_cS⟩ := st_arrS (hts0 _ st_over)
  have hK : skK D (skT cI cJ cC cZ cS) s := by
    refine ⟨⟨hKc, fun k q h => ?_⟩, va_AO.of (hts0 _ st_over), va_Nw.of rfl (hts0 _ st_nest0), va_Nw.of rfl (hts0 _ st_nest1), va_Nw.of rfl (hts0 _ st_nest2), va_Nw.of rfl (hts0 _ st_nest3), va_Nw.of rfl (hts0 _ st_nest4), va_Nw.of rfl (hts0 _ st_nest5)⟩
    match k, h with
    | 0, h => cases h; exact ⟨a_cI, b_cI⟩
    | 1, h => cases h; exact ⟨a_cJ, b_cJ⟩
    | 2, h => cases h; exact ⟨a_cC, b_cC⟩
    | 3, h => cases h; exact ⟨a_cZ, b_cZ⟩
    | 4, h => cases h; exact ⟨a_cS, b_cS⟩
    | k + 5, h => simp [skT] at h
  have hS : va_S A s.heap s.heap [] := va_S.rf
  have hP : va_P D vwCl [] s.heap := fun k q h => by simp at h
  have hD : va_D A [] := ⟨fun i j p q h => by simp at h, fun k q h => by simp at h⟩
  have hl := lv_entry ([.ref b]) (n := 4) (Nat.le_of_ble_eq_true rfl)
  rw [lg_entry_eq]
  generalize (lg_sl ([.ref b]) ++ List.replicate (4 - (lg_sl ([.ref b])).length) Slot.unset).toArray = ls at hl ⊢
  have hl : lv_has ls 4 [(0, .ref b)] := hl
  refine sk_new (ci := 11) (fs := [.null, .null, .null, .null, .null, .null, .null, .null, .null, .null, .null, .null, .null, .null, .null, .int 0, .null, .long 0]) (C := RX11) (T := TX11) (N := 18) (k1 := 1) (n1 := 18) hx hb hts inlX11 tyX11 tyX11_ok hown w_1_22 w_1_23 w_1_1 hK hP hD hS hA rfl (fun j hj => by rcases (show j = 0 ∨ j = 1 ∨ j = 2 ∨ j = 3 ∨ j = 4 ∨ j = 5 ∨ j = 6 ∨ j = 7 ∨ j = 8 ∨ j = 9 ∨ j = 10 ∨ j = 11 ∨ j = 12 ∨ j = 13 ∨ j = 14 ∨ j = 15 ∨ j = 16 ∨ j = 17 by omega) with rfl | rfl | rfl | rfl | rfl | rfl | rfl | rfl | rfl | rfl | rfl | rfl | rfl | rfl | rfl | rfl | rfl | rfl <;> rfl) (Nat.le_of_ble_eq_true rfl) (Nat.le_of_ble_eq_true rfl) (Nat.le_of_ble_eq_true rfl) (Nat.le_of_ble_eq_true rfl) dL_law_0 (fun x0 H hP hD hS => ?_)
  refine lv_dup hx hb dL_law_3 rfl ?_
  refine sk_Iv (n := 0) (rest := [.ref x0]) (wr := []) ⟨hx, hb, hml, hown, hts⟩ hl.1 (c_X_init l D cI cJ cC cZ cS x0) w_1_24 w_1_25 w_1_1 w_1_26 rfl (by decide +kernel) ⟨⟨(Nat.le_of_ble_eq_true rfl), (Nat.le_of_ble_eq_true rfl)⟩, (Nat.le_of_ble_eq_true rfl), (Nat.le_of_ble_eq_true rfl)⟩ hK hP hD hS hA [0] [] rfl rfl (by decide) (by decide) (by decide) rfl rfl (Nat.le_of_ble_eq_true rfl) dL_law_4 (fun xw H locs hw1 hP hD hS => ?_)
  refine W.widen (k := 125) (n := 12117) (Nat.le_of_ble_eq_true rfl) (Nat.le_of_ble_eq_true rfl) ?_
  have hI : xI cI cJ cC cZ cS x0 0 (fun _ => 0) 0 (L0 0 0) ((0, 0, (fun _ => 0), (fun _ => 0), (fun _ => false), 0) : KN) (fun _ => (0, 0, 0)) 0 (fun _ => (0, 0, (fun _ => 0), (fun _ => 0), (fun _ => false), 0)) 0 (fun _ => 0) 1 (fun _ => 0) 0 (fun _ => 0) 0 (-1) xw := xI_start hw1
  refine lv_astore_n (lv' := [(1, .ref x0), (0, .ref b)]) hx hb dL_law_7 rfl hl (by decide) rfl (fun ls hl => ?_)
  have hP : va_P D vwCl xw H := hP
  have hD : va_D A xw := hD
  refine sk_new (ci := 12) (fs := (.null :: .int 0 :: .int 0 :: .int 0 :: .int 0 :: .int 0 :: .int 0 :: .int 0 :: .int 0 :: .null :: .int 0 :: .null :: .null :: .null :: .null :: .null :: .null :: .null :: .null :: .null :: .null :: .null :: .int 0 :: .int 0 :: .null :: .null :: .null :: .int 0 :: .int 0 :: .int 0 :: .int 0 :: .null :: .null :: .int 0 :: .int 0 :: .int 0 :: .null :: .null :: .null :: .int 0 :: .int 0 :: .int 0 :: .int 0 :: .null :: .null :: .long 0 :: .null :: .int 0 :: .null :: .null :: .null :: .null :: .int 0 :: .null :: .null :: .int 0 :: .int 0 :: .long 0 :: .null :: .null :: .null :: .null :: .null :: .null :: .null :: .null :: .null :: .null :: .null :: .null :: .null :: .null :: .null :: .null :: .null :: .null :: .null :: .null :: .null :: .null :: .null :: .int 0 :: .null :: .int 0 :: .int 0 :: .int 0 :: .null :: .int 0 :: .long 0 :: .int 0 :: .null :: .int 0 :: [])) (C := RX12) (T := TX12) (N := 92) (k1 := 126) (n1 := 12209) hx hb hts inlX12 tyX12 tyX12_ok hown w_5_149 w_5_150 w_1_14 hK hP hD hS hA rfl (fun j hj => by rcases (show j = 0 ∨ j = 1 ∨ j = 2 ∨ j = 3 ∨ j = 4 ∨ j = 5 ∨ j = 6 ∨ j = 7 ∨ j = 8 ∨ j = 9 ∨ j = 10 ∨ j = 11 ∨ j = 12 ∨ j = 13 ∨ j = 14 ∨ j = 15 ∨ j = 16 ∨ j = 17 ∨ j = 18 ∨ j = 19 ∨ j = 20 ∨ j = 21 ∨ j = 22 ∨ j = 23 ∨ j = 24 ∨ j = 25 ∨ j = 26 ∨ j = 27 ∨ j = 28 ∨ j = 29 ∨ j = 30 ∨ j = 31 ∨ j = 32 ∨ j = 33 ∨ j = 34 ∨ j = 35 ∨ j = 36 ∨ j = 37 ∨ j = 38 ∨ j = 39 ∨ j = 40 ∨ j = 41 ∨ j = 42 ∨ j = 43 ∨ j = 44 ∨ j = 45 ∨ j = 46 ∨ j = 47 ∨ j = 48 ∨ j = 49 ∨ j = 50 ∨ j = 51 ∨ j = 52 ∨ j = 53 ∨ j = 54 ∨ j = 55 ∨ j = 56 ∨ j = 57 ∨ j = 58 ∨ j = 59 ∨ j = 60 ∨ j = 61 ∨ j = 62 ∨ j = 63 ∨ j = 64 ∨ j = 65 ∨ j = 66 ∨ j = 67 ∨ j = 68 ∨ j = 69 ∨ j = 70 ∨ j = 71 ∨ j = 72 ∨ j = 73 ∨ j = 74 ∨ j = 75 ∨ j = 76 ∨ j = 77 ∨ j = 78 ∨ j = 79 ∨ j = 80 ∨ j = 81 ∨ j = 82 ∨ j = 83 ∨ j = 84 ∨ j = 85 ∨ j = 86 ∨ j = 87 ∨ j = 88 ∨ j = 89 ∨ j = 90 ∨ j = 91 by omega) with rfl | rfl | rfl | rfl | rfl | rfl | rfl | rfl | rfl | rfl | rfl | rfl | rfl | rfl | rfl | rfl | rfl | rfl | rfl | rfl | rfl | rfl | rfl | rfl | rfl | rfl | rfl | rfl | rfl | rfl | rfl | rfl | rfl | rfl | rfl | rfl | rfl | rfl | rfl | rfl | rfl | rfl | rfl | rfl | rfl | rfl | rfl | rfl | rfl | rfl | rfl | rfl | rfl | rfl | rfl | rfl | rfl | rfl | rfl | rfl | rfl | rfl | rfl | rfl | rfl | rfl | rfl | rfl | rfl | rfl | rfl | rfl | rfl | rfl | rfl | rfl | rfl | rfl | rfl | rfl | rfl | rfl | rfl | rfl | rfl | rfl | rfl | rfl | rfl | rfl | rfl | rfl <;> rfl) (Nat.le_of_ble_eq_true rfl) (Nat.le_of_ble_eq_true rfl) (Nat.le_of_ble_eq_true rfl) (Nat.le_of_ble_eq_true rfl) dL_law_8 (fun mm H hP hD hS => ?_)
  refine lv_dup hx hb dL_law_11 rfl ?_
  refine sk_Iv (n := 0) (rest := [.ref mm]) (wr := xw) ⟨hx, hb, hml, hown, hts⟩ hl.1 (c_M_init l D cI cJ cC cZ cS mm) w_5_151 w_5_152 w_1_14 w_5_153 rfl (by decide +kernel) ⟨⟨(Nat.le_of_ble_eq_true rfl), (Nat.le_of_ble_eq_true rfl)⟩, (Nat.le_of_ble_eq_true rfl), (Nat.le_of_ble_eq_true rfl)⟩ hK hP hD hS hA (idx xw.length [(mm, .inr (12, (.null :: .int 0 :: .int 0 :: .int 0 :: .int 0 :: .int 0 :: .int 0 :: .int 0 :: .int 0 :: .null :: .int 0 :: .null :: .null :: .null :: .null :: .null :: .null :: .null :: .null :: .null :: .null :: .null :: .int 0 :: .int 0 :: .null :: .null :: .null :: .int 0 :: .int 0 :: .int 0 :: .int 0 :: .null :: .null :: .int 0 :: .int 0 :: .int 0 :: .null :: .null :: .null :: .int 0 :: .int 0 :: .int 0 :: .int 0 :: .null :: .null :: .long 0 :: .null :: .int 0 :: .null :: .null :: .null :: .null :: .int 0 :: .null :: .null :: .int 0 :: .int 0 :: .long 0 :: .null :: .null :: .null :: .null :: .null :: .null :: .null :: .null :: .null :: .null :: .null :: .null :: .null :: .null :: .null :: .null :: .null :: .null :: .null :: .null :: .null :: .null :: .null :: .int 0 :: .null :: .int 0 :: .int 0 :: .int 0 :: .null :: .int 0 :: .long 0 :: .int 0 :: .null :: .int 0 :: [])))]) (idx 0 xw) (idx_R xw [(mm, .inr (12, (.null :: .int 0 :: .int 0 :: .int 0 :: .int 0 :: .int 0 :: .int 0 :: .int 0 :: .int 0 :: .null :: .int 0 :: .null :: .null :: .null :: .null :: .null :: .null :: .null :: .null :: .null :: .null :: .null :: .int 0 :: .int 0 :: .null :: .null :: .null :: .int 0 :: .int 0 :: .int 0 :: .int 0 :: .null :: .null :: .int 0 :: .int 0 :: .int 0 :: .null :: .null :: .null :: .int 0 :: .int 0 :: .int 0 :: .int 0 :: .null :: .null :: .long 0 :: .null :: .int 0 :: .null :: .null :: .null :: .null :: .int 0 :: .null :: .null :: .int 0 :: .int 0 :: .long 0 :: .null :: .null :: .null :: .null :: .null :: .null :: .null :: .null :: .null :: .null :: .null :: .null :: .null :: .null :: .null :: .null :: .null :: .null :: .null :: .null :: .null :: .null :: .null :: .int 0 :: .null :: .int 0 :: .int 0 :: .int 0 :: .null :: .int 0 :: .long 0 :: .int 0 :: .null :: .int 0 :: [])))]) (idx_C xw [(mm, .inr (12, (.null :: .int 0 :: .int 0 :: .int 0 :: .int 0 :: .int 0 :: .int 0 :: .int 0 :: .int 0 :: .null :: .int 0 :: .null :: .null :: .null :: .null :: .null :: .null :: .null :: .null :: .null :: .null :: .null :: .int 0 :: .int 0 :: .null :: .null :: .null :: .int 0 :: .int 0 :: .int 0 :: .int 0 :: .null :: .null :: .int 0 :: .int 0 :: .int 0 :: .null :: .null :: .null :: .int 0 :: .int 0 :: .int 0 :: .int 0 :: .null :: .null :: .long 0 :: .null :: .int 0 :: .null :: .null :: .null :: .null :: .int 0 :: .null :: .null :: .int 0 :: .int 0 :: .long 0 :: .null :: .null :: .null :: .null :: .null :: .null :: .null :: .null :: .null :: .null :: .null :: .null :: .null :: .null :: .null :: .null :: .null :: .null :: .null :: .null :: .null :: .null :: .null :: .int 0 :: .null :: .int 0 :: .int 0 :: .int 0 :: .null :: .int 0 :: .long 0 :: .int 0 :: .null :: .int 0 :: [])))]) (idx_nd _ _) (idx_nd _ _) (idx_dis2 xw [(mm, .inr (12, (.null :: .int 0 :: .int 0 :: .int 0 :: .int 0 :: .int 0 :: .int 0 :: .int 0 :: .int 0 :: .null :: .int 0 :: .null :: .null :: .null :: .null :: .null :: .null :: .null :: .null :: .null :: .null :: .null :: .int 0 :: .int 0 :: .null :: .null :: .null :: .int 0 :: .int 0 :: .int 0 :: .int 0 :: .null :: .null :: .int 0 :: .int 0 :: .int 0 :: .null :: .null :: .null :: .int 0 :: .int 0 :: .int 0 :: .int 0 :: .null :: .null :: .long 0 :: .null :: .int 0 :: .null :: .null :: .null :: .null :: .int 0 :: .null :: .null :: .int 0 :: .int 0 :: .long 0 :: .null :: .null :: .null :: .null :: .null :: .null :: .null :: .null :: .null :: .null :: .null :: .null :: .null :: .null :: .null :: .null :: .null :: .null :: .null :: .null :: .null :: .null :: .null :: .int 0 :: .null :: .int 0 :: .int 0 :: .int 0 :: .null :: .int 0 :: .long 0 :: .int 0 :: .null :: .int 0 :: [])))]) rfl rfl (Nat.le_of_ble_eq_true rfl) dL_law_12 (fun mw H locs hw2 hP hD hS => ?_)
  refine W.widen (k := 182) (n := 32192) (Nat.le_of_ble_eq_true rfl) (Nat.le_of_ble_eq_true rfl) ?_
  have hJ : mI cI cJ cC cZ cS mm 0 (fun _ => 0) 0 (L0 0 0) ((0, 0, (fun _ => 0), (fun _ => 0), (fun _ => false), 0) : KN) (fun _ => (0, 0, 0)) 0 (fun _ => (0, 0, (fun _ => 0), (fun _ => 0), (fun _ => false), 0)) 0 (fun _ => 0) 1 (fun _ => 0) 0 (fun _ => 0) 0 (-1) mw := mI_start hw2
  refine lv_astore_n (lv' := [(2, .ref mm), (1, .ref x0), (0, .ref b)]) hx hb dL_law_15 rfl hl (by decide) rfl (fun ls hl => ?_)
  refine lv_iconst (v := 0) hx hb dL_law_16 (by decide) ?_
  refine lv_istore_n (lv' := [(3, .int 0), (2, .ref mm), (1, .ref x0), (0, .ref b)]) hx hb dL_law_17 rfl hl (by decide) rfl (fun ls hl => ?_)
  exact law_loop l D cI cJ cC cZ cS zk zv zf x0 mm ⟨hx, hb, hr, hml, hlocks, hown, hts, hX, hbl, hA, hbA, hAf, hK, hZ, hL⟩ (L + 7) 0 0 (fun _ => 0) 0 (L0 0 0) ((0, 0, (fun _ => 0), (fun _ => 0), (fun _ => false), 0) : KN) (fun _ => (0, 0, 0)) 0 (fun _ => (0, 0, (fun _ => 0), (fun _ => 0), (fun _ => false), 0)) 0 (fun _ => 0) 1 (fun _ => 0) 0 (fun _ => 0) 0 (-1) xw mw _ _ _ (by omega) (by omega) kOk_0 hI hJ hP hD hS hl
