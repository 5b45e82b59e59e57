set_option maxHeartbeats 4000000 in
set_option maxRecDepth 100000 in
theorem c_em_isLetterX (l : Launch) (D : va_G) (cI cJ cC cZ cS : ClassId) (o : Int32)  : skM l yX12_isLetter cX12_isLetter 1 (some .boolean) 0 0 0 0 D (skT cI cJ cC cZ cS) [.int o] [] (skI D (skT cI cJ cC cZ cS) (fun (r : Int32) (u : va_W) => ∃ (b : Nat), ((b = 0 ∧ ¬ ((97 : Int32) ≤ o ∧ o ≤ 122)) ∨ (b = 1 ∧ (97 : Int32) ≤ o ∧ o ≤ 122)) ∧ r = nI b ∧ u = [])) := by
  refine skM_of pf_X12_isLetter (Nat.le_of_ble_eq_true rfl) ?_
  intro p e s m below meth c A ls E hP hD hl
  refine skE_el E (fun hx hb hr hml hlocks hin hown hts hK hA => ?_)
  have hown : s.vm.findClass RX12 = some m.cls := hown
  have hS : va_S A s.heap s.heap [] := va_S.rf
  have hl : lv_has ls 1 [(0, .int o)] := hl
  refine lv_iload_n hx hb dX12_isLetter_0 rfl (lv_at hl 0 rfl) ?_
  refine lv_bipush (v := 97) hx hb dX12_isLetter_1 (by decide) ?_
  refine lv_icmp_lt (tgt := 16) hx hb dX12_isLetter_3 (by decide) (fun c_1 => ?_) (fun c_1 => ?_)
  · skip
    refine lv_iconst (v := 0) hx hb dX12_isLetter_16 (by decide) ?_
    exact sk_iret hx hb hr rfl hlocks hK hP hD hS (⟨0, Or.inl ⟨rfl, fun hq => absurd c_1 (Int32.not_lt.mpr hq.1)⟩, rfl, rfl⟩) (Nat.le_of_ble_eq_true rfl) (Nat.le_of_ble_eq_true rfl) dX12_isLetter_17
  · obtain ⟨k_2, hk_2, h1k_2, rfl⟩ := nofge o 97 (by omega) c_1
    refine lv_iload_n hx hb dX12_isLetter_6 rfl (lv_at hl 0 rfl) ?_
    refine lv_bipush (v := 122) hx hb dX12_isLetter_7 (by decide) ?_
    refine lv_icmp_gt (tgt := 16) hx hb dX12_isLetter_9 (by decide) (fun c_3 => ?_) (fun c_3 => ?_)
    · have c_3 : 122 < k_2 := (nlt 122 k_2 (by omega) (by omega)).mp c_3
      refine lv_iconst (v := 0) hx hb dX12_isLetter_16 (by decide) ?_
      exact sk_iret hx hb hr rfl hlocks hK hP hD hS (⟨0, Or.inl ⟨rfl, fun hq => absurd ((nle k_2 122 (by omega) (by omega)).mp hq.2) (by omega)⟩, rfl, rfl⟩) (Nat.le_of_ble_eq_true rfl) (Nat.le_of_ble_eq_true rfl) dX12_isLetter_17
    · have c_3 : ¬ (122 < k_2) := fun h => c_3 ((nlt 122 k_2 (by omega) (by omega)).mpr h)
      refine lv_iconst (v := 1) hx hb dX12_isLetter_12 (by decide) ?_
      refine lv_goto (tgt := 17) hx hb dX12_isLetter_13 (by decide) ?_
      exact sk_iret hx hb hr rfl hlocks hK hP hD hS (⟨1, Or.inr ⟨rfl, (nle 97 k_2 (by omega) (by omega)).mpr (by omega), (nle k_2 122 (by omega) (by omega)).mpr (by omega)⟩, rfl, rfl⟩) (Nat.le_of_ble_eq_true rfl) (Nat.le_of_ble_eq_true rfl) dX12_isLetter_17
set_option maxHeartbeats 4000000 in
set_option maxRecDepth 100000 in
theorem c_em_isLetterN (l : Launch) (D : va_G) (cI cJ cC cZ cS : ClassId) (o : Nat) (ho : o ≤ 255) : skM l yX12_isLetter cX12_isLetter 1 (some .boolean) 0 0 0 0 D (skT cI cJ cC cZ cS) [.int (nI o)] [] (skI D (skT cI cJ cC cZ cS) (fun (r : Int32) (u : va_W) => ∃ (b : Nat), ((b = 0 ∧ (o < 97 ∨ 122 < o)) ∨ (b = 1 ∧ 97 ≤ o ∧ o ≤ 122)) ∧ r = nI b ∧ u = [])) := by
  refine skM_of pf_X12_isLetter (Nat.le_of_ble_eq_true rfl) ?_
  intro p e s m below meth c A ls E hP hD hl
  refine skE_el E (fun hx hb hr hml hlocks hin hown hts hK hA => ?_)
  have hown : s.vm.findClass RX12 = some m.cls := hown
  have hS : va_S A s.heap s.heap [] := va_S.rf
  have hl : lv_has ls 1 [(0, .int (nI o))] := hl
  refine lv_iload_n hx hb dX12_isLetter_0 rfl (lv_at hl 0 rfl) ?_
  refine lv_bipush (v := 97) hx hb dX12_isLetter_1 (by decide) ?_
  refine lv_icmp_lt (tgt := 16) hx hb dX12_isLetter_3 (by decide) (fun c_1 => ?_) (fun c_1 => ?_)
  · have c_1 : o < 97 := (nlt o 97 (by omega) (by omega)).mp c_1
    refine lv_iconst (v := 0) hx hb dX12_isLetter_16 (by decide) ?_
    exact sk_iret hx hb hr rfl hlocks hK hP hD hS (⟨0, by omega, rfl, rfl⟩) (Nat.le_of_ble_eq_true rfl) (Nat.le_of_ble_eq_true rfl) dX12_isLetter_17
  · have c_1 : ¬ (o < 97) := fun h => c_1 ((nlt o 97 (by omega) (by omega)).mpr h)
    refine lv_iload_n hx hb dX12_isLetter_6 rfl (lv_at hl 0 rfl) ?_
    refine lv_bipush (v := 122) hx hb dX12_isLetter_7 (by decide) ?_
    refine lv_icmp_gt (tgt := 16) hx hb dX12_isLetter_9 (by decide) (fun c_2 => ?_) (fun c_2 => ?_)
    · have c_2 : 122 < o := (nlt 122 o (by omega) (by omega)).mp c_2
      refine lv_iconst (v := 0) hx hb dX12_isLetter_16 (by decide) ?_
      exact sk_iret hx hb hr rfl hlocks hK hP hD hS (⟨0, by omega, rfl, rfl⟩) (Nat.le_of_ble_eq_true rfl) (Nat.le_of_ble_eq_true rfl) dX12_isLetter_17
    · have c_2 : ¬ (122 < o) := fun h => c_2 ((nlt 122 o (by omega) (by omega)).mpr h)
      refine lv_iconst (v := 1) hx hb dX12_isLetter_12 (by decide) ?_
      refine lv_goto (tgt := 17) hx hb dX12_isLetter_13 (by decide) ?_
      exact sk_iret hx hb hr rfl hlocks hK hP hD hS (⟨1, by omega, rfl, rfl⟩) (Nat.le_of_ble_eq_true rfl) (Nat.le_of_ble_eq_true rfl) dX12_isLetter_17
set_option maxHeartbeats 4000000 in
set_option maxRecDepth 100000 in
theorem c_em_isDigitX (l : Launch) (D : va_G) (cI cJ cC cZ cS : ClassId) (o : Int32)  : skM l yX12_isDigit cX12_isDigit 1 (some .boolean) 0 0 0 0 D (skT cI cJ cC cZ cS) [.int o] [] (skI D (skT cI cJ cC cZ cS) (fun (r : Int32) (u : va_W) => ∃ (b : Nat), ((b = 0 ∧ ¬ ((48 : Int32) ≤ o ∧ o ≤ 57)) ∨ (b = 1 ∧ (48 : Int32) ≤ o ∧ o ≤ 57)) ∧ r = nI b ∧ u = [])) := by
  refine skM_of pf_X12_isDigit (Nat.le_of_ble_eq_true rfl) ?_
  intro p e s m below meth c A ls E hP hD hl
  refine skE_el E (fun hx hb hr hml hlocks hin hown hts hK hA => ?_)
  have hown : s.vm.findClass RX12 = some m.cls := hown
  have hS : va_S A s.heap s.heap [] := va_S.rf
  have hl : lv_has ls 1 [(0, .int o)] := hl
  refine lv_iload_n hx hb dX12_isDigit_0 rfl (lv_at hl 0 rfl) ?_
  refine lv_bipush (v := 48) hx hb dX12_isDigit_1 (by decide) ?_
  refine lv_icmp_lt (tgt := 16) hx hb dX12_isDigit_3 (by decide) (fun c_1 => ?_) (fun c_1 => ?_)
  · skip
    refine lv_iconst (v := 0) hx hb dX12_isDigit_16 (by decide) ?_
    exact sk_iret hx hb hr rfl hlocks hK hP hD hS (⟨0, Or.inl ⟨rfl, fun hq => absurd c_1 (Int32.not_lt.mpr hq.1)⟩, rfl, rfl⟩) (Nat.le_of_ble_eq_true rfl) (Nat.le_of_ble_eq_true rfl) dX12_isDigit_17
  · obtain ⟨k_2, hk_2, h1k_2, rfl⟩ := nofge o 48 (by omega) c_1
    refine lv_iload_n hx hb dX12_isDigit_6 rfl (lv_at hl 0 rfl) ?_
    refine lv_bipush (v := 57) hx hb dX12_isDigit_7 (by decide) ?_
    refine lv_icmp_gt (tgt := 16) hx hb dX12_isDigit_9 (by decide) (fun c_3 => ?_) (fun c_3 => ?_)
    · have c_3 : 57 < k_2 := (nlt 57 k_2 (by omega) (by omega)).mp c_3
      refine lv_iconst (v := 0) hx hb dX12_isDigit_16 (by decide) ?_
      exact sk_iret hx hb hr rfl hlocks hK hP hD hS (⟨0, Or.inl ⟨rfl, fun hq => absurd ((nle k_2 57 (by omega) (by omega)).mp hq.2) (by omega)⟩, rfl, rfl⟩) (Nat.le_of_ble_eq_true rfl) (Nat.le_of_ble_eq_true rfl) dX12_isDigit_17
    · have c_3 : ¬ (57 < k_2) := fun h => c_3 ((nlt 57 k_2 (by omega) (by omega)).mpr h)
      refine lv_iconst (v := 1) hx hb dX12_isDigit_12 (by decide) ?_
      refine lv_goto (tgt := 17) hx hb dX12_isDigit_13 (by decide) ?_
      exact sk_iret hx hb hr rfl hlocks hK hP hD hS (⟨1, Or.inr ⟨rfl, (nle 48 k_2 (by omega) (by omega)).mpr (by omega), (nle k_2 57 (by omega) (by omega)).mpr (by omega)⟩, rfl, rfl⟩) (Nat.le_of_ble_eq_true rfl) (Nat.le_of_ble_eq_true rfl) dX12_isDigit_17
set_option maxHeartbeats 4000000 in
set_option maxRecDepth 100000 in
theorem c_em_isDigitN (l : Launch) (D : va_G) (cI cJ cC cZ cS : ClassId) (o : Nat) (ho : o ≤ 255) : skM l yX12_isDigit cX12_isDigit 1 (some .boolean) 0 0 0 0 D (skT cI cJ cC cZ cS) [.int (nI o)] [] (skI D (skT cI cJ cC cZ cS) (fun (r : Int32) (u : va_W) => ∃ (b : Nat), ((b = 0 ∧ (o < 48 ∨ 57 < o)) ∨ (b = 1 ∧ 48 ≤ o ∧ o ≤ 57)) ∧ r = nI b ∧ u = [])) := by
  refine skM_of pf_X12_isDigit (Nat.le_of_ble_eq_true rfl) ?_
  intro p e s m below meth c A ls E hP hD hl
  refine skE_el E (fun hx hb hr hml hlocks hin hown hts hK hA => ?_)
  have hown : s.vm.findClass RX12 = some m.cls := hown
  have hS : va_S A s.heap s.heap [] := va_S.rf
  have hl : lv_has ls 1 [(0, .int (nI o))] := hl
  refine lv_iload_n hx hb dX12_isDigit_0 rfl (lv_at hl 0 rfl) ?_
  refine lv_bipush (v := 48) hx hb dX12_isDigit_1 (by decide) ?_
  refine lv_icmp_lt (tgt := 16) hx hb dX12_isDigit_3 (by decide) (fun c_1 => ?_) (fun c_1 => ?_)
  · have c_1 : o < 48 := (nlt o 48 (by omega) (by omega)).mp c_1
    refine lv_iconst (v := 0) hx hb dX12_isDigit_16 (by decide) ?_
    exact sk_iret hx hb hr rfl hlocks hK hP hD hS (⟨0, by omega, rfl, rfl⟩) (Nat.le_of_ble_eq_true rfl) (Nat.le_of_ble_eq_true rfl) dX12_isDigit_17
  · have c_1 : ¬ (o < 48) := fun h => c_1 ((nlt o 48 (by omega) (by omega)).mpr h)
    refine lv_iload_n hx hb dX12_isDigit_6 rfl (lv_at hl 0 rfl) ?_
    refine lv_bipush (v := 57) hx hb dX12_isDigit_7 (by decide) ?_
    refine lv_icmp_gt (tgt := 16) hx hb dX12_isDigit_9 (by decide) (fun c_2 => ?_) (fun c_2 => ?_)
    · have c_2 : 57 < o := (nlt 57 o (by omega) (by omega)).mp c_2
      refine lv_iconst (v := 0) hx hb dX12_isDigit_16 (by decide) ?_
      exact sk_iret hx hb hr rfl hlocks hK hP hD hS (⟨0, by omega, rfl, rfl⟩) (Nat.le_of_ble_eq_true rfl) (Nat.le_of_ble_eq_true rfl) dX12_isDigit_17
    · have c_2 : ¬ (57 < o) := fun h => c_2 ((nlt 57 o (by omega) (by omega)).mpr h)
      refine lv_iconst (v := 1) hx hb dX12_isDigit_12 (by decide) ?_
      refine lv_goto (tgt := 17) hx hb dX12_isDigit_13 (by decide) ?_
      exact sk_iret hx hb hr rfl hlocks hK hP hD hS (⟨1, by omega, rfl, rfl⟩) (Nat.le_of_ble_eq_true rfl) (Nat.le_of_ble_eq_true rfl) dX12_isDigit_17
theorem al_s {tb : Nat → Nat} {a i : Nat} {w : List Nat} (h : ∀ j, j < i → tb (a + j) = w.getD j 0) (h1 : tb (a + i) = w.getD i 0) : ∀ j, j < i + 1 → tb (a + j) = w.getD j 0 := fun j hj => by
  by_cases e : j = i
  · subst e; exact h1
  · exact h j (by omega)
theorem cw_eq {x i : Nat} {w : List Nat} {v : Int32} (ev : v = cw w (nI i).toNatClampNeg) (hi : i < 2147483648) (hw : ∀ j, w.getD j 0 ≤ 255) (hx : x ≤ 255) : nI x = v ↔ x = w.getD i 0 := by
  rw [ev, nclamp i hi]
  have := hw i
  exact nI_eq (by omega) (by omega)
theorem wb_of {w : List Nat} (h : ∀ x ∈ w, x ≤ 255) : ∀ j, w.getD j 0 ≤ 255 := fun j => by
  rw [List.getD_eq_getElem?_getD]
  by_cases q : j < w.length
  · rw [List.getElem?_eq_getElem q]; exact h _ (List.getElem_mem q)
  · rw [List.getElem?_eq_none (by omega)]; exact Nat.zero_le _
set_option maxHeartbeats 4000000 in
set_option maxRecDepth 100000 in
theorem c_em_isHere (l : Launch) (D : va_G) (cI cJ cC cZ cS : ClassId) (mm : Nat) (g : Nat → Nat) (ta : Nat) (pa : Nat) (pe : Nat) (pd : Int32) (pb : Nat) (pp : Int32) (pf : Int32) (pg : Int32) (pn : Int32) (rt : Int32) (rn : Int32) (cd : Nat) (sn : Int32) (il : Nat) (tk : Int32) (am : Int32) (at_ : Int32) (aa : Int32) (wt : Int32) (wy : Int64) (rm : Nat) (ud : Nat) (nu : Nat) (sd : Int64) (qn : Nat) (qw : Nat) (qo : Int32) (qb : Nat) (qp : Nat) (qa : Int64) (qi : Nat) (oc : Nat) (tb : Nat → Nat) (h1 : Nat) (L : Nat) (wv : List Nat) (hpa : pa ≤ pe) (hpe : pe ≤ 1600) (hpb : pb ≤ 5) (hL : 1 ≤ L) (hL2 : L ≤ 10) (hwl : wv.length = L) (hwb : ∀ j, wv.getD j 0 ≤ 255) (htb : ∀ j, tb j ≤ 255) : skM l yX12_isHere cX12_isHere 4 (some .boolean) 1 20 0 0 D (skT cI cJ cC cZ cS) [.ref mm, .ref h1] [(mm, .inr (12, mo g (nI ta) (nI pa) (nI pe) pd (nI pb) pp pf pg pn rt rn (nI cd) sn (nI il) tk am at_ aa 0 0 (-1) wt wy 0 (nI rm) (nI ud) (nI nu) sd (nI qn) (nI qw) qo (nI qb) (nI qp) qa (nI qi) (nI oc))), (g 0, .inl (cI, 1600, .inl (fun j => nI (tb j)))), (h1, .inl (cC, L, .inl (cw wv)))] (skI D (skT cI cJ cC cZ cS) (fun (r : Int32) (u : va_W) => ∃ (b : Nat), ∃ (pa2 : Nat), pa ≤ pa2 ∧ pa2 ≤ pe ∧ stay tb pe pa pa2 ∧ (b = 0 ∨ (b = 1 ∧ pb = 0 ∧ pa2 + L ≤ pe)) ∧ ((pb = 0 ∧ pa2 = sk tb pe pa) ∨ (¬ pb = 0 ∧ pa2 = pa)) ∧ ((b = 0 ∧ (pb = 0 → isW tb pe wv (cuO tb pe pa pd) = false)) ∨ (b = 1 ∧ pb = 0 ∧ isW tb pe wv (cuO tb pe pa pd) = true)) ∧ r = nI b ∧ u = [(mm, .inr (12, mo g (nI ta) (nI pa2) (nI pe) pd (nI pb) pp pf pg pn rt rn (nI cd) sn (nI il) tk am at_ aa 0 0 (-1) wt wy 0 (nI rm) (nI ud) (nI nu) sd (nI qn) (nI qw) qo (nI qb) (nI qp) qa (nI qi) (nI oc))), (g 0, .inl (cI, 1600, .inl (fun j => nI (tb j)))), (h1, .inl (cC, L, .inl (cw wv)))])) := by
  refine skM_of pf_X12_isHere (Nat.le_of_ble_eq_true rfl) ?_
  intro p e s m below meth c A ls E hP hD hl
  refine skE_el E (fun hx hb hr hml hlocks hin hown hts hK hA => ?_)
  have hown : s.vm.findClass RX12 = some m.cls := hown
  have hS : va_S A s.heap s.heap [] := va_S.rf
  have hl : lv_has ls 4 [(0, .ref mm), (1, .ref h1)] := hl
  refine lv_aload_n hx hb dX12_isHere_0 rfl (lv_at hl 0 rfl) ?_
  refine sk_get (v := .int (nI pb)) (C := RX12) (T := TX12) (N := 92) hx hb hts inlX12 hown hK hP 0 rfl rfl 5 (by decide) w_5_160 rfl dX12_isHere_1 ?_
  refine lv_if_ne (tgt := 28) hx hb dX12_isHere_4 (by decide) (fun c_1 => ?_) (fun c_1 => ?_)
  · have c_1 : ¬ (pb = 0) := fun h => c_1 ((neq pb 0 (by omega) (by omega)).mpr h)
    refine lv_iconst (v := 0) hx hb dX12_isHere_28 (by decide) ?_
    exact sk_iret hx hb hr rfl hlocks hK hP hD hS (⟨0, pa, by omega, by omega, stay_rf, by omega, (Or.inr ⟨by omega, rfl⟩), (Or.inl ⟨rfl, fun hq => absurd hq c_1⟩), rfl, rfl⟩) (Nat.le_of_ble_eq_true rfl) (Nat.le_of_ble_eq_true rfl) dX12_isHere_29
  · have c_1 : pb = 0 := (neq pb 0 (by omega) (by omega)).mp c_1
    refine lv_aload_n hx hb dX12_isHere_7 rfl (lv_at hl 0 rfl) ?_
    refine sk_Vi (q0 := 0) (n := 0) (rest := []) (wr := fmR om_3_6 _) ⟨hx, hb, hml, hown, hts⟩ hl.1 (c_em_look l D cI cJ cC cZ cS mm g ta pa pe pd pb pp pf pg pn rt rn cd sn il tk am at_ aa wt wy rm ud nu sd qn qw qo qb qp qa qi oc tb (by omega) (by omega) htb) w_6_222 w_6_224 w_0_45 w_1_14 w_6_225 hd_X12_look_0 ⟨⟨(Nat.le_of_ble_eq_true rfl), (Nat.le_of_ble_eq_true rfl)⟩, (Nat.le_of_ble_eq_true rfl), (Nat.le_of_ble_eq_true rfl)⟩ hK hP hD hS hA (fmT om_3_6 0) (fmF om_3_6 0) (fm_C1 rfl rfl) (fm_R rfl rfl) (fm_nT om_3_6 0) (fm_nF om_3_6 0) (fm_di om_3_6 0) rfl rfl rfl rfl (Nat.le_of_ble_eq_true rfl) dX12_isHere_8 (fun r_3 u H locs hw hP hD hS => ?_)
    refine exE hw (fun pa2_2 hw1 => anE hw1 (fun hpa2_4 hw2 => anE hw2 (fun hpa3_5 hw3 => anE hw3 (fun hlk_6 hw4 => anE hw4 (fun hst_7 hw5 => anE hw5 (fun hsk_8 eu_9 => ?_))))))
    clear hw hw1 hw2 hw3 hw4 hw5
    refine o_mgE (ws' := [(mm, .inr (12, mo g (nI ta) (nI pa2_2) (nI pe) pd (nI pb) pp pf pg pn rt rn (nI cd) sn (nI il) tk am at_ aa 0 0 (-1) wt wy 0 (nI rm) (nI ud) (nI nu) sd (nI qn) (nI qw) qo (nI qb) (nI qp) qa (nI qi) (nI oc))), (g 0, .inl (cI, 1600, .inl (fun j => nI (tb j)))), (h1, .inl (cC, L, .inl (cw wv)))]) eu_9 hP hD rfl (fun hP hD => ?_)
    refine sk_Si (n := 1) (rest := []) (wr := [(mm, .inr (12, mo g (nI ta) (nI pa2_2) (nI pe) pd (nI pb) pp pf pg pn rt rn (nI cd) sn (nI il) tk am at_ aa 0 0 (-1) wt wy 0 (nI rm) (nI ud) (nI nu) sd (nI qn) (nI qw) qo (nI qb) (nI qp) qa (nI qi) (nI oc))), (g 0, .inl (cI, 1600, .inl (fun j => nI (tb j)))), (h1, .inl (cC, L, .inl (cw wv)))]) ⟨hx, hb, hml, hown, hts⟩ hl.1 (c_em_isLetterX l D cI cJ cC cZ cS r_3) w_6_226 w_6_227 w_1_14 w_6_228 hd_X12_isLetter_1 ⟨⟨(Nat.le_of_ble_eq_true rfl), (Nat.le_of_ble_eq_true rfl)⟩, (Nat.le_of_ble_eq_true rfl), (Nat.le_of_ble_eq_true rfl)⟩ hK hP hD hS hA [] [0, 1, 2] rfl rfl (by decide +kernel) (by decide +kernel) (by decide +kernel) rfl rfl (Nat.le_of_ble_eq_true rfl) dX12_isHere_11 (fun r_11 u H locs hw hP hD hS => ?_)
    obtain ⟨b_10, hb1_12, rfl, rfl⟩ := hw
    refine o_re (ws' := [(mm, .inr (12, mo g (nI ta) (nI pa2_2) (nI pe) pd (nI pb) pp pf pg pn rt rn (nI cd) sn (nI il) tk am at_ aa 0 0 (-1) wt wy 0 (nI rm) (nI ud) (nI nu) sd (nI qn) (nI qw) qo (nI qb) (nI qp) qa (nI qi) (nI oc))), (g 0, .inl (cI, 1600, .inl (fun j => nI (tb j)))), (h1, .inl (cC, L, .inl (cw wv)))]) hP hD rfl (fun hP hD => ?_)
    refine lv_if_eq (tgt := 28) hx hb dX12_isHere_14 (by decide) (fun c_13 => ?_) (fun c_13 => ?_)
    · have c_13 : b_10 = 0 := (neq b_10 0 (by omega) (by omega)).mp c_13
      refine lv_iconst (v := 0) hx hb dX12_isHere_28 (by decide) ?_
      exact sk_iret hx hb hr rfl hlocks hK hP hD hS (⟨0, pa2_2, by omega, by omega, hst_7, by omega, (Or.inl ⟨by omega, hsk_8⟩), (Or.inl ⟨rfl, fun _ => isW_no (fun hq => rr_0 hb1_12 (by omega) ((lk_L htb hlk_6).mpr (by rw [hsk_8]; exact hq)))⟩), rfl, rfl⟩) (Nat.le_of_ble_eq_true rfl) (Nat.le_of_ble_eq_true rfl) dX12_isHere_29
    · have c_13 : ¬ (b_10 = 0) := fun h => c_13 ((neq b_10 0 (by omega) (by omega)).mpr h)
      refine lv_aload_n hx hb dX12_isHere_17 rfl (lv_at hl 0 rfl) ?_
      refine sk_get (v := .int (nI pa2_2)) (C := RX12) (T := TX12) (N := 92) hx hb hts inlX12 hown hK hP 0 rfl rfl 2 (by decide) w_5_157 rfl dX12_isHere_18 ?_
      refine lv_aload_n hx hb dX12_isHere_21 rfl (lv_at hl 0 rfl) ?_
      refine sk_get (v := .int pd) (C := RX12) (T := TX12) (N := 92) hx hb hts inlX12 hown hK hP 0 rfl rfl 4 (by decide) w_5_159 rfl dX12_isHere_22 ?_
      refine lv_icmp_ne (tgt := 30) hx hb dX12_isHere_25 (by decide) (fun c_14 => ?_) (fun c_14 => ?_)
      · have hlq := (lk_L htb hlk_6).mp (rr_1 hb1_12 (by omega))
        have hlt : sk tb pe pa < pe := by rw [← hsk_8]; exact hlq.1
        have hql : qL (tb (sk tb pe pa)) = true := by rw [← hsk_8]; exact hlq.2
        have hnd : ¬ pd = nI (sk tb pe pa) := by rw [← hsk_8]; exact fun hq => c_14 hq.symm
        refine lv_aload_n hx hb dX12_isHere_30 rfl (lv_at hl 0 rfl) ?_
        refine sk_get (v := .int (nI pa2_2)) (C := RX12) (T := TX12) (N := 92) hx hb hts inlX12 hown hK hP 0 rfl rfl 2 (by decide) w_5_157 rfl dX12_isHere_31 ?_
        refine lv_istore_n (lv' := [(2, .int (nI pa2_2)), (0, .ref mm), (1, .ref h1)]) hx hb dX12_isHere_34 rfl hl (by decide) rfl (fun ls hl => ?_)
        have lp_15 : ∀ (n_16 : Nat) (kk : Nat) (H : Heap) (locs : List Loc) (ls : Array Slot), pe - kk < n_16 → (pa2_2 ≤ kk) → (kk ≤ pe) → (ext qL tb pe kk = ext qL tb pe pa2_2) → va_P D vwCl [(mm, .inr (12, mo g (nI ta) (nI pa2_2) (nI pe) pd (nI pb) pp pf pg pn rt rn (nI cd) sn (nI il) tk am at_ aa 0 0 (-1) wt wy 0 (nI rm) (nI ud) (nI nu) sd (nI qn) (nI qw) qo (nI qb) (nI qp) qa (nI qi) (nI oc))), (g 0, .inl (cI, 1600, .inl (fun j => nI (tb j)))), (h1, .inl (cC, L, .inl (cw wv)))] H → va_D A [(mm, .inr (12, mo g (nI ta) (nI pa2_2) (nI pe) pd (nI pb) pp pf pg pn rt rn (nI cd) sn (nI il) tk am at_ aa 0 0 (-1) wt wy 0 (nI rm) (nI ud) (nI nu) sd (nI qn) (nI qw) qo (nI qb) (nI qp) qa (nI qi) (nI oc))), (g 0, .inl (cI, 1600, .inl (fun j => nI (tb j)))), (h1, .inl (cC, L, .inl (cw wv)))] → va_S A s.heap H locs → lv_has ls 4 [(2, .int (nI kk)), (0, .ref mm), (1, .ref h1)] → W p l e { frames := 1, cells := 0, slots := 0, locals := 20 } s m ([.ref mm, .ref h1] : List Value).toArray below meth c H locs 0 0 (MQ below (skI D (skT cI cJ cC cZ cS) (fun (r : Int32) (u : va_W) => ∃ (b : Nat), ∃ (pa2 : Nat), pa ≤ pa2 ∧ pa2 ≤ pe ∧ stay tb pe pa pa2 ∧ (b = 0 ∨ (b = 1 ∧ pb = 0 ∧ pa2 + L ≤ pe)) ∧ ((pb = 0 ∧ pa2 = sk tb pe pa) ∨ (¬ pb = 0 ∧ pa2 = pa)) ∧ ((b = 0 ∧ (pb = 0 → isW tb pe wv (cuO tb pe pa pd) = false)) ∨ (b = 1 ∧ pb = 0 ∧ isW tb pe wv (cuO tb pe pa pd) = true)) ∧ r = nI b ∧ u = [(mm, .inr (12, mo g (nI ta) (nI pa2) (nI pe) pd (nI pb) pp pf pg pn rt rn (nI cd) sn (nI il) tk am at_ aa 0 0 (-1) wt wy 0 (nI rm) (nI ud) (nI nu) sd (nI qn) (nI qw) qo (nI qb) (nI qp) qa (nI qi) (nI oc))), (g 0, .inl (cI, 1600, .inl (fun j => nI (tb j)))), (h1, .inl (cC, L, .inl (cw wv)))]) A) ([.ref mm, .ref h1] : List Value).toArray s 0 0 A) (F0 m 35 ls []) := by
          intro n_16
          induction n_16 with
          | zero => intro kk H locs ls hm; exact absurd hm (Nat.not_lt_zero _)
          | succ n_16 ih_lp_15 =>
            intro kk H locs ls hm hkk1 hkk2 hkx hP hD hS hl
            refine lv_iload_n hx hb dX12_isHere_35 rfl (lv_at hl 0 rfl) ?_
            refine lv_aload_n hx hb dX12_isHere_36 rfl (lv_at hl 1 rfl) ?_
            refine sk_get (v := .int (nI pe)) (C := RX12) (T := TX12) (N := 92) hx hb hts inlX12 hown hK hP 0 rfl rfl 3 (by decide) w_5_158 rfl dX12_isHere_37 ?_
            refine lv_icmp_ge (tgt := 61) hx hb dX12_isHere_40 (by decide) (fun c_17 => ?_) (fun c_17 => ?_)
            · have c_17 : pe ≤ kk := (nle pe kk (by omega) (by omega)).mp c_17
              have hke2 : kk = ext qL tb pe (sk tb pe pa) := by rw [← hsk_8]; exact ext_fin hkx (by rw [qL_t]; omega)
              refine lv_iload_n hx hb dX12_isHere_61 rfl (lv_at hl 0 rfl) ?_
              refine lv_aload_n hx hb dX12_isHere_62 rfl (lv_at hl 1 rfl) ?_
              refine sk_get (v := .int (nI pa2_2)) (C := RX12) (T := TX12) (N := 92) hx hb hts inlX12 hown hK hP 0 rfl rfl 2 (by decide) w_5_157 rfl dX12_isHere_63 ?_
              refine lv_isub hx hb dX12_isHere_66 ?_
              refine sk_top (nI (kk - pa2_2)) (nsub kk pa2_2 (by omega)) ?_
              refine lv_aload_n hx hb dX12_isHere_67 rfl (lv_at hl 2 rfl) ?_
              refine va_alen (v := nI L) hx hb hK.1 hP 2 2 rfl rfl rfl dX12_isHere_68 ?_
              refine lv_icmp_eq (tgt := 74) hx hb dX12_isHere_69 (by decide) (fun c_18 => ?_) (fun c_18 => ?_)
              · have c_18 : kk - pa2_2 = L := (neq (kk - pa2_2) L (by omega) (by omega)).mp c_18
                refine lv_iconst (v := 0) hx hb dX12_isHere_74 (by decide) ?_
                refine lv_istore_n (lv' := [(3, .int 0), (2, .int (nI kk)), (0, .ref mm), (1, .ref h1)]) hx hb dX12_isHere_75 rfl hl (by decide) rfl (fun ls hl => ?_)
                have lp_19 : ∀ (n_20 : Nat) (i : Nat) (H : Heap) (locs : List Loc) (ls : Array Slot), L - i < n_20 → (i ≤ L) → (∀ j, j < i → tb (pa2_2 + j) = wv.getD j 0) → va_P D vwCl [(mm, .inr (12, mo g (nI ta) (nI pa2_2) (nI pe) pd (nI pb) pp pf pg pn rt rn (nI cd) sn (nI il) tk am at_ aa 0 0 (-1) wt wy 0 (nI rm) (nI ud) (nI nu) sd (nI qn) (nI qw) qo (nI qb) (nI qp) qa (nI qi) (nI oc))), (g 0, .inl (cI, 1600, .inl (fun j => nI (tb j)))), (h1, .inl (cC, L, .inl (cw wv)))] H → va_D A [(mm, .inr (12, mo g (nI ta) (nI pa2_2) (nI pe) pd (nI pb) pp pf pg pn rt rn (nI cd) sn (nI il) tk am at_ aa 0 0 (-1) wt wy 0 (nI rm) (nI ud) (nI nu) sd (nI qn) (nI qw) qo (nI qb) (nI qp) qa (nI qi) (nI oc))), (g 0, .inl (cI, 1600, .inl (fun j => nI (tb j)))), (h1, .inl (cC, L, .inl (cw wv)))] → va_S A s.heap H locs → lv_has ls 4 [(3, .int (nI i)), (2, .int (nI kk)), (0, .ref mm), (1, .ref h1)] → W p l e { frames := 1, cells := 0, slots := 0, locals := 20 } s m ([.ref mm, .ref h1] : List Value).toArray below meth c H locs 0 0 (MQ below (skI D (skT cI cJ cC cZ cS) (fun (r : Int32) (u : va_W) => ∃ (b : Nat), ∃ (pa2 : Nat), pa ≤ pa2 ∧ pa2 ≤ pe ∧ stay tb pe pa pa2 ∧ (b = 0 ∨ (b = 1 ∧ pb = 0 ∧ pa2 + L ≤ pe)) ∧ ((pb = 0 ∧ pa2 = sk tb pe pa) ∨ (¬ pb = 0 ∧ pa2 = pa)) ∧ ((b = 0 ∧ (pb = 0 → isW tb pe wv (cuO tb pe pa pd) = false)) ∨ (b = 1 ∧ pb = 0 ∧ isW tb pe wv (cuO tb pe pa pd) = true)) ∧ r = nI b ∧ u = [(mm, .inr (12, mo g (nI ta) (nI pa2) (nI pe) pd (nI pb) pp pf pg pn rt rn (nI cd) sn (nI il) tk am at_ aa 0 0 (-1) wt wy 0 (nI rm) (nI ud) (nI nu) sd (nI qn) (nI qw) qo (nI qb) (nI qp) qa (nI qi) (nI oc))), (g 0, .inl (cI, 1600, .inl (fun j => nI (tb j)))), (h1, .inl (cC, L, .inl (cw wv)))]) A) ([.ref mm, .ref h1] : List Value).toArray s 0 0 A) (F0 m 76 ls []) := by
                  intro n_20
                  induction n_20 with
                  | zero => intro i H locs ls hm; exact absurd hm (Nat.not_lt_zero _)
                  | succ n_20 ih_lp_19 =>
                    intro i H locs ls hm hi hal hP hD hS hl
                    refine lv_iload_n hx hb dX12_isHere_76 rfl (lv_at hl 0 rfl) ?_
                    refine lv_aload_n hx hb dX12_isHere_77 rfl (lv_at hl 3 rfl) ?_
                    refine va_alen (v := nI L) hx hb hK.1 hP 2 2 rfl rfl rfl dX12_isHere_78 ?_
                    refine lv_icmp_ge (tgt := 107) hx hb dX12_isHere_79 (by decide) (fun c_21 => ?_) (fun c_21 => ?_)
                    · have c_21 : L ≤ i := (nle L i (by omega) (by omega)).mp c_21
                      refine lv_iconst (v := 1) hx hb dX12_isHere_107 (by decide) ?_
                      exact sk_iret hx hb hr rfl hlocks hK hP hD hS (⟨1, pa2_2, by omega, by omega, hst_7, by omega, (Or.inl ⟨by omega, hsk_8⟩), (Or.inr ⟨rfl, by omega, isW_yes (c := (cuO tb pe pa pd)) hlt hql (cu_f hnd) hke2 (by show kk - sk tb pe pa = wv.length; rw [← hsk_8]; omega) (fun j hj => by show tb (sk tb pe pa + j) = wv.getD j 0; rw [← hsk_8]; exact hal j (by omega))⟩), rfl, rfl⟩) (Nat.le_of_ble_eq_true rfl) (Nat.le_of_ble_eq_true rfl) dX12_isHere_108
                    · have c_21 : ¬ (L ≤ i) := fun h => c_21 ((nle L i (by omega) (by omega)).mpr h)
                      refine lv_aload_n hx hb dX12_isHere_82 rfl (lv_at hl 2 rfl) ?_
                      refine sk_get (v := .ref (g 0)) (C := RX12) (T := TX12) (N := 92) hx hb hts inlX12 hown hK hP 0 rfl rfl 0 (by decide) w_5_155 rfl dX12_isHere_83 ?_
                      refine lv_aload_n hx hb dX12_isHere_86 rfl (lv_at hl 2 rfl) ?_
                      refine sk_get (v := .int (nI pa2_2)) (C := RX12) (T := TX12) (N := 92) hx hb hts inlX12 hown hK hP 0 rfl rfl 2 (by decide) w_5_157 rfl dX12_isHere_87 ?_
                      refine lv_iload_n hx hb dX12_isHere_90 rfl (lv_at hl 0 rfl) ?_
                      refine lv_iadd hx hb dX12_isHere_91 ?_
                      refine sk_top (nI (pa2_2 + i)) (nI_add pa2_2 i) ?_
                      refine va_iald hx hb hK.1 hP 1 0 rfl rfl (vin (pa2_2 + i) 1600 (by omega) (by omega)) dX12_isHere_92 ?_
                      refine sk_top (nI (tb (pa2_2 + i))) (nrd tb (pa2_2 + i) (by omega)) ?_
                      have hb_22 := htb (pa2_2 + i)
                      refine lv_aload_n hx hb dX12_isHere_93 rfl (lv_at hl 3 rfl) ?_
                      refine lv_iload_n hx hb dX12_isHere_94 rfl (lv_at hl 0 rfl) ?_
                      refine va_cald hx hb hK.1 hP 2 2 rfl rfl (vin i L (by omega) (by omega)) dX12_isHere_95 ?_
                      refine lv_topi (fun v_23 ev_23 => ?_)
                      refine lv_icmp_eq (tgt := 101) hx hb dX12_isHere_96 (by decide) (fun c_24 => ?_) (fun c_24 => ?_)
                      · skip
                        refine lv_iinc (v := nI (i + 1)) (lv' := [(3, .int (nI (i + 1))), (2, .int (nI kk)), (0, .ref mm), (1, .ref h1)]) hx hb dX12_isHere_101 hl (k := 0) rfl (ninc i 1 (by decide)) (by decide) rfl (fun ls hl => ?_)
                        refine lv_goto (tgt := 76) hx hb dX12_isHere_104 (by decide) ?_
                        exact ih_lp_19 (i + 1) _ _ _ (by omega) (by omega) (al_s hal ((cw_eq ev_23 (by omega) hwb (by omega)).mp c_24)) hP hD hS (lv_sub hl [0, 1, 2, 3] rfl)
                      · have hne := fun hq => c_24 ((cw_eq ev_23 (by omega) hwb (by omega)).mpr hq)
                        refine lv_iconst (v := 0) hx hb dX12_isHere_99 (by decide) ?_
                        exact sk_iret hx hb hr rfl hlocks hK hP hD hS (⟨0, pa2_2, by omega, by omega, hst_7, by omega, (Or.inl ⟨by omega, hsk_8⟩), (Or.inl ⟨rfl, fun _ => isW_ne (c := (cuO tb pe pa pd)) (i := i) hke2 (by show kk - sk tb pe pa = wv.length; rw [← hsk_8]; omega) (by omega) (by show ¬ tb (sk tb pe pa + i) = wv.getD i 0; rw [← hsk_8]; exact hne)⟩), rfl, rfl⟩) (Nat.le_of_ble_eq_true rfl) (Nat.le_of_ble_eq_true rfl) dX12_isHere_100
                exact lp_19 (L - 0 + 1) 0 _ _ _ (Nat.lt_succ_self _) (by omega) (fun j hj => absurd hj (by omega)) hP hD hS (lv_sub hl [0, 1, 2, 3] rfl)
              · have c_18 : ¬ (kk - pa2_2 = L) := fun h => c_18 ((neq (kk - pa2_2) L (by omega) (by omega)).mpr h)
                refine lv_iconst (v := 0) hx hb dX12_isHere_72 (by decide) ?_
                exact sk_iret hx hb hr rfl hlocks hK hP hD hS (⟨0, pa2_2, by omega, by omega, hst_7, by omega, (Or.inl ⟨by omega, hsk_8⟩), (Or.inl ⟨rfl, fun _ => isW_len (c := (cuO tb pe pa pd)) hke2 (by show ¬ kk - sk tb pe pa = wv.length; rw [← hsk_8]; omega)⟩), rfl, rfl⟩) (Nat.le_of_ble_eq_true rfl) (Nat.le_of_ble_eq_true rfl) dX12_isHere_73
            · have c_17 : ¬ (pe ≤ kk) := fun h => c_17 ((nle pe kk (by omega) (by omega)).mpr h)
              refine lv_aload_n hx hb dX12_isHere_43 rfl (lv_at hl 1 rfl) ?_
              refine sk_get (v := .ref (g 0)) (C := RX12) (T := TX12) (N := 92) hx hb hts inlX12 hown hK hP 0 rfl rfl 0 (by decide) w_5_155 rfl dX12_isHere_44 ?_
              refine lv_iload_n hx hb dX12_isHere_47 rfl (lv_at hl 0 rfl) ?_
              refine va_iald hx hb hK.1 hP 1 0 rfl rfl (vin kk 1600 (by omega) (by omega)) dX12_isHere_48 ?_
              refine sk_top (nI (tb kk)) (nrd tb kk (by omega)) ?_
              have hb_25 := htb kk
              refine sk_Si (n := 1) (rest := []) (wr := [(mm, .inr (12, mo g (nI ta) (nI pa2_2) (nI pe) pd (nI pb) pp pf pg pn rt rn (nI cd) sn (nI il) tk am at_ aa 0 0 (-1) wt wy 0 (nI rm) (nI ud) (nI nu) sd (nI qn) (nI qw) qo (nI qb) (nI qp) qa (nI qi) (nI oc))), (g 0, .inl (cI, 1600, .inl (fun j => nI (tb j)))), (h1, .inl (cC, L, .inl (cw wv)))]) ⟨hx, hb, hml, hown, hts⟩ hl.1 (c_em_isLetterN l D cI cJ cC cZ cS (tb kk) (by omega)) w_6_226 w_6_227 w_1_14 w_6_228 hd_X12_isLetter_1 ⟨⟨(Nat.le_of_ble_eq_true rfl), (Nat.le_of_ble_eq_true rfl)⟩, (Nat.le_of_ble_eq_true rfl), (Nat.le_of_ble_eq_true rfl)⟩ hK hP hD hS hA [] [0, 1, 2] rfl rfl (by decide +kernel) (by decide +kernel) (by decide +kernel) rfl rfl (Nat.le_of_ble_eq_true rfl) dX12_isHere_49 (fun r_27 u H locs hw hP hD hS => ?_)
              obtain ⟨b_26, hb1_28, rfl, rfl⟩ := hw
              refine o_re (ws' := [(mm, .inr (12, mo g (nI ta) (nI pa2_2) (nI pe) pd (nI pb) pp pf pg pn rt rn (nI cd) sn (nI il) tk am at_ aa 0 0 (-1) wt wy 0 (nI rm) (nI ud) (nI nu) sd (nI qn) (nI qw) qo (nI qb) (nI qp) qa (nI qi) (nI oc))), (g 0, .inl (cI, 1600, .inl (fun j => nI (tb j)))), (h1, .inl (cC, L, .inl (cw wv)))]) hP hD rfl (fun hP hD => ?_)
              refine lv_if_eq (tgt := 61) hx hb dX12_isHere_52 (by decide) (fun c_29 => ?_) (fun c_29 => ?_)
              · have c_29 : b_26 = 0 := (neq b_26 0 (by omega) (by omega)).mp c_29
                have hke2 : kk = ext qL tb pe (sk tb pe pa) := by rw [← hsk_8]; exact ext_fin hkx (by rw [qL_t]; omega)
                refine lv_iload_n hx hb dX12_isHere_61 rfl (lv_at hl 0 rfl) ?_
                refine lv_aload_n hx hb dX12_isHere_62 rfl (lv_at hl 1 rfl) ?_
                refine sk_get (v := .int (nI pa2_2)) (C := RX12) (T := TX12) (N := 92) hx hb hts inlX12 hown hK hP 0 rfl rfl 2 (by decide) w_5_157 rfl dX12_isHere_63 ?_
                refine lv_isub hx hb dX12_isHere_66 ?_
                refine sk_top (nI (kk - pa2_2)) (nsub kk pa2_2 (by omega)) ?_
                refine lv_aload_n hx hb dX12_isHere_67 rfl (lv_at hl 2 rfl) ?_
                refine va_alen (v := nI L) hx hb hK.1 hP 2 2 rfl rfl rfl dX12_isHere_68 ?_
                refine lv_icmp_eq (tgt := 74) hx hb dX12_isHere_69 (by decide) (fun c_30 => ?_) (fun c_30 => ?_)
                · have c_30 : kk - pa2_2 = L := (neq (kk - pa2_2) L (by omega) (by omega)).mp c_30
                  refine lv_iconst (v := 0) hx hb dX12_isHere_74 (by decide) ?_
                  refine lv_istore_n (lv' := [(3, .int 0), (2, .int (nI kk)), (0, .ref mm), (1, .ref h1)]) hx hb dX12_isHere_75 rfl hl (by decide) rfl (fun ls hl => ?_)
                  have lp_31 : ∀ (n_32 : Nat) (i : Nat) (H : Heap) (locs : List Loc) (ls : Array Slot), L - i < n_32 → (i ≤ L) → (∀ j, j < i → tb (pa2_2 + j) = wv.getD j 0) → va_P D vwCl [(mm, .inr (12, mo g (nI ta) (nI pa2_2) (nI pe) pd (nI pb) pp pf pg pn rt rn (nI cd) sn (nI il) tk am at_ aa 0 0 (-1) wt wy 0 (nI rm) (nI ud) (nI nu) sd (nI qn) (nI qw) qo (nI qb) (nI qp) qa (nI qi) (nI oc))), (g 0, .inl (cI, 1600, .inl (fun j => nI (tb j)))), (h1, .inl (cC, L, .inl (cw wv)))] H → va_D A [(mm, .inr (12, mo g (nI ta) (nI pa2_2) (nI pe) pd (nI pb) pp pf pg pn rt rn (nI cd) sn (nI il) tk am at_ aa 0 0 (-1) wt wy 0 (nI rm) (nI ud) (nI nu) sd (nI qn) (nI qw) qo (nI qb) (nI qp) qa (nI qi) (nI oc))), (g 0, .inl (cI, 1600, .inl (fun j => nI (tb j)))), (h1, .inl (cC, L, .inl (cw wv)))] → va_S A s.heap H locs → lv_has ls 4 [(3, .int (nI i)), (2, .int (nI kk)), (0, .ref mm), (1, .ref h1)] → W p l e { frames := 1, cells := 0, slots := 0, locals := 20 } s m ([.ref mm, .ref h1] : List Value).toArray below meth c H locs 0 0 (MQ below (skI D (skT cI cJ cC cZ cS) (fun (r : Int32) (u : va_W) => ∃ (b : Nat), ∃ (pa2 : Nat), pa ≤ pa2 ∧ pa2 ≤ pe ∧ stay tb pe pa pa2 ∧ (b = 0 ∨ (b = 1 ∧ pb = 0 ∧ pa2 + L ≤ pe)) ∧ ((pb = 0 ∧ pa2 = sk tb pe pa) ∨ (¬ pb = 0 ∧ pa2 = pa)) ∧ ((b = 0 ∧ (pb = 0 → isW tb pe wv (cuO tb pe pa pd) = false)) ∨ (b = 1 ∧ pb = 0 ∧ isW tb pe wv (cuO tb pe pa pd) = true)) ∧ r = nI b ∧ u = [(mm, .inr (12, mo g (nI ta) (nI pa2) (nI pe) pd (nI pb) pp pf pg pn rt rn (nI cd) sn (nI il) tk am at_ aa 0 0 (-1) wt wy 0 (nI rm) (nI ud) (nI nu) sd (nI qn) (nI qw) qo (nI qb) (nI qp) qa (nI qi) (nI oc))), (g 0, .inl (cI, 1600, .inl (fun j => nI (tb j)))), (h1, .inl (cC, L, .inl (cw wv)))]) A) ([.ref mm, .ref h1] : List Value).toArray s 0 0 A) (F0 m 76 ls []) := by
                    intro n_32
                    induction n_32 with
                    | zero => intro i H locs ls hm; exact absurd hm (Nat.not_lt_zero _)
                    | succ n_32 ih_lp_31 =>
                      intro i H locs ls hm hi hal hP hD hS hl
                      refine lv_iload_n hx hb dX12_isHere_76 rfl (lv_at hl 0 rfl) ?_
                      refine lv_aload_n hx hb dX12_isHere_77 rfl (lv_at hl 3 rfl) ?_
                      refine va_alen (v := nI L) hx hb hK.1 hP 2 2 rfl rfl rfl dX12_isHere_78 ?_
                      refine lv_icmp_ge (tgt := 107) hx hb dX12_isHere_79 (by decide) (fun c_33 => ?_) (fun c_33 => ?_)
                      · have c_33 : L ≤ i := (nle L i (by omega) (by omega)).mp c_33
                        refine lv_iconst (v := 1) hx hb dX12_isHere_107 (by decide) ?_
                        exact sk_iret hx hb hr rfl hlocks hK hP hD hS (⟨1, pa2_2, by omega, by omega, hst_7, by omega, (Or.inl ⟨by omega, hsk_8⟩), (Or.inr ⟨rfl, by omega, isW_yes (c := (cuO tb pe pa pd)) hlt hql (cu_f hnd) hke2 (by show kk - sk tb pe pa = wv.length; rw [← hsk_8]; omega) (fun j hj => by show tb (sk tb pe pa + j) = wv.getD j 0; rw [← hsk_8]; exact hal j (by omega))⟩), rfl, rfl⟩) (Nat.le_of_ble_eq_true rfl) (Nat.le_of_ble_eq_true rfl) dX12_isHere_108
                      · have c_33 : ¬ (L ≤ i) := fun h => c_33 ((nle L i (by omega) (by omega)).mpr h)
                        refine lv_aload_n hx hb dX12_isHere_82 rfl (lv_at hl 2 rfl) ?_
                        refine sk_get (v := .ref (g 0)) (C := RX12) (T := TX12) (N := 92) hx hb hts inlX12 hown hK hP 0 rfl rfl 0 (by decide) w_5_155 rfl dX12_isHere_83 ?_
                        refine lv_aload_n hx hb dX12_isHere_86 rfl (lv_at hl 2 rfl) ?_
                        refine sk_get (v := .int (nI pa2_2)) (C := RX12) (T := TX12) (N := 92) hx hb hts inlX12 hown hK hP 0 rfl rfl 2 (by decide) w_5_157 rfl dX12_isHere_87 ?_
                        refine lv_iload_n hx hb dX12_isHere_90 rfl (lv_at hl 0 rfl) ?_
                        refine lv_iadd hx hb dX12_isHere_91 ?_
                        refine sk_top (nI (pa2_2 + i)) (nI_add pa2_2 i) ?_
                        refine va_iald hx hb hK.1 hP 1 0 rfl rfl (vin (pa2_2 + i) 1600 (by omega) (by omega)) dX12_isHere_92 ?_
                        refine sk_top (nI (tb (pa2_2 + i))) (nrd tb (pa2_2 + i) (by omega)) ?_
                        have hb_34 := htb (pa2_2 + i)
                        refine lv_aload_n hx hb dX12_isHere_93 rfl (lv_at hl 3 rfl) ?_
                        refine lv_iload_n hx hb dX12_isHere_94 rfl (lv_at hl 0 rfl) ?_
                        refine va_cald hx hb hK.1 hP 2 2 rfl rfl (vin i L (by omega) (by omega)) dX12_isHere_95 ?_
                        refine lv_topi (fun v_35 ev_35 => ?_)
                        refine lv_icmp_eq (tgt := 101) hx hb dX12_isHere_96 (by decide) (fun c_36 => ?_) (fun c_36 => ?_)
                        · skip
                          refine lv_iinc (v := nI (i + 1)) (lv' := [(3, .int (nI (i + 1))), (2, .int (nI kk)), (0, .ref mm), (1, .ref h1)]) hx hb dX12_isHere_101 hl (k := 0) rfl (ninc i 1 (by decide)) (by decide) rfl (fun ls hl => ?_)
                          refine lv_goto (tgt := 76) hx hb dX12_isHere_104 (by decide) ?_
                          exact ih_lp_31 (i + 1) _ _ _ (by omega) (by omega) (al_s hal ((cw_eq ev_35 (by omega) hwb (by omega)).mp c_36)) hP hD hS (lv_sub hl [0, 1, 2, 3] rfl)
                        · have hne := fun hq => c_36 ((cw_eq ev_35 (by omega) hwb (by omega)).mpr hq)
                          refine lv_iconst (v := 0) hx hb dX12_isHere_99 (by decide) ?_
                          exact sk_iret hx hb hr rfl hlocks hK hP hD hS (⟨0, pa2_2, by omega, by omega, hst_7, by omega, (Or.inl ⟨by omega, hsk_8⟩), (Or.inl ⟨rfl, fun _ => isW_ne (c := (cuO tb pe pa pd)) (i := i) hke2 (by show kk - sk tb pe pa = wv.length; rw [← hsk_8]; omega) (by omega) (by show ¬ tb (sk tb pe pa + i) = wv.getD i 0; rw [← hsk_8]; exact hne)⟩), rfl, rfl⟩) (Nat.le_of_ble_eq_true rfl) (Nat.le_of_ble_eq_true rfl) dX12_isHere_100
                  exact lp_31 (L - 0 + 1) 0 _ _ _ (Nat.lt_succ_self _) (by omega) (fun j hj => absurd hj (by omega)) hP hD hS (lv_sub hl [0, 1, 2, 3] rfl)
                · have c_30 : ¬ (kk - pa2_2 = L) := fun h => c_30 ((neq (kk - pa2_2) L (by omega) (by omega)).mpr h)
                  refine lv_iconst (v := 0) hx hb dX12_isHere_72 (by decide) ?_
                  exact sk_iret hx hb hr rfl hlocks hK hP hD hS (⟨0, pa2_2, by omega, by omega, hst_7, by omega, (Or.inl ⟨by omega, hsk_8⟩), (Or.inl ⟨rfl, fun _ => isW_len (c := (cuO tb pe pa pd)) hke2 (by show ¬ kk - sk tb pe pa = wv.length; rw [← hsk_8]; omega)⟩), rfl, rfl⟩) (Nat.le_of_ble_eq_true rfl) (Nat.le_of_ble_eq_true rfl) dX12_isHere_73
              · have c_29 : ¬ (b_26 = 0) := fun h => c_29 ((neq b_26 0 (by omega) (by omega)).mpr h)
                refine lv_iinc (v := nI (kk + 1)) (lv' := [(2, .int (nI (kk + 1))), (0, .ref mm), (1, .ref h1)]) hx hb dX12_isHere_55 hl (k := 0) rfl (ninc kk 1 (by decide)) (by decide) rfl (fun ls hl => ?_)
                refine lv_goto (tgt := 35) hx hb dX12_isHere_58 (by decide) ?_
                exact ih_lp_15 (kk + 1) _ _ _ (by omega) (by omega) (by omega) (ext_nxt hkx (by omega) (qL_t.mpr (by omega))) hP hD hS (lv_sub hl [0, 1, 2] rfl)
        exact lp_15 (pe - pa2_2 + 1) pa2_2 _ _ _ (Nat.lt_succ_self _) (by omega) (by omega) rfl hP hD hS (lv_sub hl [0, 1, 2] rfl)
      · skip
        refine lv_iconst (v := 0) hx hb dX12_isHere_28 (by decide) ?_
        exact sk_iret hx hb hr rfl hlocks hK hP hD hS (⟨0, pa2_2, by omega, by omega, hst_7, by omega, (Or.inl ⟨by omega, hsk_8⟩), (Or.inl ⟨rfl, fun _ => isW_fl (by rw [← hsk_8]; exact c_14.symm)⟩), rfl, rfl⟩) (Nat.le_of_ble_eq_true rfl) (Nat.le_of_ble_eq_true rfl) dX12_isHere_29

