theorem dX12_octet_0 : decode cX12_octet 0 = .ok (.iload_n 1, 1) := by decide +kernel
theorem dX12_octet_1 : decode cX12_octet 1 = .ok (.ifCond .lt 20, 3) := by decide +kernel
theorem dX12_octet_21 : decode cX12_octet 21 = .ok (.iconst (-1), 1) := by decide +kernel
theorem dX12_octet_22 : decode cX12_octet 22 = .ok (.ireturn, 1) := by decide +kernel
theorem dX12_octet_4 : decode cX12_octet 4 = .ok (.iload_n 1, 1) := by decide +kernel
theorem dX12_octet_5 : decode cX12_octet 5 = .ok (.aload_n 0, 1) := by decide +kernel
theorem dX12_octet_6 : decode cX12_octet 6 = .ok (.getfield 595, 3) := by decide +kernel
theorem dX12_octet_9 : decode cX12_octet 9 = .ok (.if_icmp .ge 12, 3) := by decide +kernel
theorem dX12_octet_12 : decode cX12_octet 12 = .ok (.aload_n 0, 1) := by decide +kernel
theorem dX12_octet_13 : decode cX12_octet 13 = .ok (.getfield 189, 3) := by decide +kernel
theorem dX12_octet_16 : decode cX12_octet 16 = .ok (.iload_n 1, 1) := by decide +kernel
theorem dX12_octet_17 : decode cX12_octet 17 = .ok (.iaload, 1) := by decide +kernel
theorem dX12_octet_18 : decode cX12_octet 18 = .ok (.goto 4, 3) := by decide +kernel
theorem w_6_6 : (Cond.fieldLink RX12 595 "SameKeeperModel" "octets" "I") ∈ wsL_law := sk_mem (ck_6 _ (List.mem_of_getElem? (i := 6) rfl)) rfl
theorem w_6_5 : (Cond.fieldLink RX12 189 "SameKeeperModel" "octet" "[I") ∈ wsL_law := sk_mem (ck_6 _ (List.mem_of_getElem? (i := 5) rfl)) rfl
theorem w_8_217 : (Cond.code yX12_octet cX12_octet 2 (some .int)) ∈ wsL_law := sk_mem (ck_8 _ (List.mem_of_getElem? (i := 217) rfl)) rfl
set_option maxHeartbeats 4000000 in
set_option maxRecDepth 100000 in
theorem c_nm_octet (l : Launch) (D : va_G) (cI cJ cC cZ cS : ClassId) (mm : Nat) (g : Nat → Nat) (ta : Nat) (pa : Nat) (pe : Nat) (pd : Int32) (pb : Nat) (pp : Int32) (pf : Int32) (pg : Int32) (pn : Int32) (rt : Int32) (rn : Int32) (cd : Nat) (sn : Int32) (il : Nat) (tk : Int32) (am : Int32) (at_ : Int32) (aa : Int32) (wt : Int32) (wy : Int64) (rm : Nat) (ud : Nat) (nu : Nat) (sd : Int64) (qn : Nat) (qw : Nat) (qo : Int32) (qb : Nat) (qp : Nat) (qa : Int64) (qi : Nat) (oc : Nat) (k : Int32) (oc_ : Nat → Int32) (pB : Nat → Nat) (hoc : oc ≤ 31) (hpo : ∀ j, j < oc → oc_ j = nI (pB j)) : skM l yX12_octet cX12_octet 2 (some .int) 0 0 0 0 D (skT cI cJ cC cZ cS) [.ref mm, .int k] [(mm, .inr (12, mo g (nI ta) (nI pa) (nI pe) pd (nI pb) pp pf pg pn rt rn (nI cd) sn (nI il) tk am at_ aa 0 0 (-1) wt wy 0 (nI rm) (nI ud) (nI nu) sd (nI qn) (nI qw) qo (nI qb) (nI qp) qa (nI qi) (nI oc))), (g 90, .inl (cI, 31, .inl oc_))] (skI D (skT cI cJ cC cZ cS) (fun (r : Int32) (u : va_W) => octR oc pB k r ∧ u = [(mm, .inr (12, mo g (nI ta) (nI pa) (nI pe) pd (nI pb) pp pf pg pn rt rn (nI cd) sn (nI il) tk am at_ aa 0 0 (-1) wt wy 0 (nI rm) (nI ud) (nI nu) sd (nI qn) (nI qw) qo (nI qb) (nI qp) qa (nI qi) (nI oc))), (g 90, .inl (cI, 31, .inl oc_))])) := by
  refine skM_of (by decide +kernel) (Nat.le_of_ble_eq_true rfl) ?_
  intro p e s m below meth c A ls E hP hD hl
  obtain ⟨hx, hb, hr, hml, hlocks, hin, hown, hts, hK, hA⟩ := E
  have hown : s.vm.findClass RX12 = some m.cls := hown
  have hS : va_S A s.heap s.heap [] := va_S.rf
  have hl : lv_has ls 2 [(0, .ref mm), (1, .int k)] := hl
  refine lv_iload_n hx hb dX12_octet_0 rfl (lv_at hl 1 rfl) ?_
  refine lv_if_lt (tgt := 21) hx hb dX12_octet_1 (by decide) (fun c_1 => ?_) (fun c_1 => ?_)
  · skip
    refine lv_iconst (v := (-1)) hx hb dX12_octet_21 (by decide) ?_
    exact sk_iret hx hb hr rfl hlocks hK hP hD hS (⟨kR_0 (fun x hq => absurd c_1 (by rw [hq.2]; exact nI_pos (by omega))) rfl, rfl⟩) (Nat.le_of_ble_eq_true rfl) (Nat.le_of_ble_eq_true rfl) dX12_octet_22
  · obtain ⟨k_2, hk_2, rfl⟩ := nof k c_1
    refine lv_iload_n hx hb dX12_octet_4 rfl (lv_at hl 1 rfl) ?_
    refine lv_aload_n hx hb dX12_octet_5 rfl (lv_at hl 0 rfl) ?_
    refine sk_get (v := .int (nI oc)) (C := RX12) (T := TX12) (N := 92) hx hb hts inlX12 hown hK hP 0 rfl rfl 91 (by decide) w_6_6 rfl dX12_octet_6 ?_
    refine lv_icmp_ge (tgt := 21) hx hb dX12_octet_9 (by decide) (fun c_3 => ?_) (fun c_3 => ?_)
    · have c_3 : oc ≤ k_2 := (nle oc k_2 (by omega) (by omega)).mp c_3
      refine lv_iconst (v := (-1)) hx hb dX12_octet_21 (by decide) ?_
      exact sk_iret hx hb hr rfl hlocks hK hP hD hS (⟨kR_0 (fun x hq => (by have := (neq k_2 x (by omega) (by omega)).mp hq.2; omega)) rfl, rfl⟩) (Nat.le_of_ble_eq_true rfl) (Nat.le_of_ble_eq_true rfl) dX12_octet_22
    · have c_3 : ¬ (oc ≤ k_2) := fun h => c_3 ((nle oc k_2 (by omega) (by omega)).mpr h)
      refine lv_aload_n hx hb dX12_octet_12 rfl (lv_at hl 0 rfl) ?_
      refine sk_get (v := .ref (g 90)) (C := RX12) (T := TX12) (N := 92) hx hb hts inlX12 hown hK hP 0 rfl rfl 90 (by decide) w_6_5 rfl dX12_octet_13 ?_
      refine lv_iload_n hx hb dX12_octet_16 rfl (lv_at hl 1 rfl) ?_
      refine va_iald hx hb hK.1 hP 1 0 rfl rfl (vin k_2 31 (by omega) (by omega)) dX12_octet_17 ?_
      refine sk_top (oc_ k_2) (by rw [nI_clamp (by omega)]) ?_
      refine lv_goto (tgt := 22) hx hb dX12_octet_18 (by decide) ?_
      exact sk_iret hx hb hr rfl hlocks hK hP hD hS (⟨kR_1 k_2 ⟨by omega, rfl⟩ (hpo k_2 (by omega)), rfl⟩) (Nat.le_of_ble_eq_true rfl) (Nat.le_of_ble_eq_true rfl) dX12_octet_22
theorem dX12_writes_0 : decode cX12_writes 0 = .ok (.aload_n 0, 1) := by decide +kernel
theorem dX12_writes_1 : decode cX12_writes 1 = .ok (.getfield 189, 3) := by decide +kernel
theorem dX12_writes_4 : decode cX12_writes 4 = .ok (.aload_n 0, 1) := by decide +kernel
theorem dX12_writes_5 : decode cX12_writes 5 = .ok (.getfield 595, 3) := by decide +kernel
theorem dX12_writes_8 : decode cX12_writes 8 = .ok (.iload_n 1, 1) := by decide +kernel
theorem dX12_writes_9 : decode cX12_writes 9 = .ok (.iastore, 1) := by decide +kernel
theorem dX12_writes_10 : decode cX12_writes 10 = .ok (.aload_n 0, 1) := by decide +kernel
theorem dX12_writes_11 : decode cX12_writes 11 = .ok (.dup, 1) := by decide +kernel
theorem dX12_writes_12 : decode cX12_writes 12 = .ok (.getfield 595, 3) := by decide +kernel
theorem dX12_writes_15 : decode cX12_writes 15 = .ok (.iconst 1, 1) := by decide +kernel
theorem dX12_writes_16 : decode cX12_writes 16 = .ok (.iadd, 1) := by decide +kernel
theorem dX12_writes_17 : decode cX12_writes 17 = .ok (.putfield 595, 3) := by decide +kernel
theorem dX12_writes_20 : decode cX12_writes 20 = .ok (.return_, 1) := by decide +kernel
theorem w_8_210 : (Cond.code yX12_writes cX12_writes 2 none) ∈ wsL_law := sk_mem (ck_8 _ (List.mem_of_getElem? (i := 210) rfl)) rfl
set_option maxHeartbeats 4000000 in
set_option maxRecDepth 100000 in
theorem c_nm_writes (l : Launch) (D : va_G) (cI cJ cC cZ cS : ClassId) (mm : Nat) (g : Nat → Nat) (ta : Nat) (pa : Nat) (pe : Nat) (pd : Int32) (pb : Nat) (pp : Int32) (pf : Int32) (pg : Int32) (pn : Int32) (rt : Int32) (rn : Int32) (cd : Nat) (sn : Int32) (il : Nat) (tk : Int32) (am : Int32) (at_ : Int32) (aa : Int32) (wt : Int32) (wy : Int64) (rm : Nat) (ud : Nat) (nu : Nat) (sd : Int64) (qn : Nat) (qw : Nat) (qo : Int32) (qb : Nat) (qp : Nat) (qa : Int64) (qi : Nat) (oc : Nat) (v : Int32) (oc_ : Nat → Int32) (hoc : oc < 31) : skM l yX12_writes cX12_writes 2 none 0 0 0 0 D (skT cI cJ cC cZ cS) [.ref mm, .int v] [(mm, .inr (12, mo g (nI ta) (nI pa) (nI pe) pd (nI pb) pp pf pg pn rt rn (nI cd) sn (nI il) tk am at_ aa 0 0 (-1) wt wy 0 (nI rm) (nI ud) (nI nu) sd (nI qn) (nI qw) qo (nI qb) (nI qp) qa (nI qi) (nI oc))), (g 90, .inl (cI, 31, .inl oc_))] (skV D (skT cI cJ cC cZ cS) (fun (u : va_W) => ∃ (oc_2 : Nat → Int32), oc_2 = upd oc_ oc v ∧ u = [(mm, .inr (12, mo g (nI ta) (nI pa) (nI pe) pd (nI pb) pp pf pg pn rt rn (nI cd) sn (nI il) tk am at_ aa 0 0 (-1) wt wy 0 (nI rm) (nI ud) (nI nu) sd (nI qn) (nI qw) qo (nI qb) (nI qp) qa (nI qi) (nI (oc + 1)))), (g 90, .inl (cI, 31, .inl oc_2))])) := by
  refine skM_of (by decide +kernel) (Nat.le_of_ble_eq_true rfl) ?_
  intro p e s m below meth c A ls E hP hD hl
  obtain ⟨hx, hb, hr, hml, hlocks, hin, hown, hts, hK, hA⟩ := E
  have hown : s.vm.findClass RX12 = some m.cls := hown
  have hS : va_S A s.heap s.heap [] := va_S.rf
  have hl : lv_has ls 2 [(0, .ref mm), (1, .int v)] := hl
  refine lv_aload_n hx hb dX12_writes_0 rfl (lv_at hl 0 rfl) ?_
  refine sk_get (v := .ref (g 90)) (C := RX12) (T := TX12) (N := 92) hx hb hts inlX12 hown hK hP 0 rfl rfl 90 (by decide) w_6_5 rfl dX12_writes_1 ?_
  refine lv_aload_n hx hb dX12_writes_4 rfl (lv_at hl 0 rfl) ?_
  refine sk_get (v := .int (nI oc)) (C := RX12) (T := TX12) (N := 92) hx hb hts inlX12 hown hK hP 0 rfl rfl 91 (by decide) w_6_6 rfl dX12_writes_5 ?_
  refine lv_iload_n hx hb dX12_writes_8 rfl (lv_at hl 1 rfl) ?_
  refine sk_iastE (k := oc) (ws' := fun f_1 => [(mm, .inr (12, mo g (nI ta) (nI pa) (nI pe) pd (nI pb) pp pf pg pn rt rn (nI cd) sn (nI il) tk am at_ aa 0 0 (-1) wt wy 0 (nI rm) (nI ud) (nI nu) sd (nI qn) (nI qw) qo (nI qb) (nI qp) qa (nI qi) (nI oc))), (g 90, .inl (cI, 31, .inl f_1))]) hx hb hK hP hD hS 1 0 rfl rfl (by omega) (by omega) (fun _ => rfl) dX12_writes_9 (fun f_1 H locs ef_2 hP hD hS => ?_)
  refine lv_aload_n hx hb dX12_writes_10 rfl (lv_at hl 0 rfl) ?_
  refine lv_dup hx hb dX12_writes_11 rfl ?_
  refine sk_get (v := .int (nI oc)) (C := RX12) (T := TX12) (N := 92) hx hb hts inlX12 hown hK hP 0 rfl rfl 91 (by decide) w_6_6 rfl dX12_writes_12 ?_
  refine lv_iconst (v := 1) hx hb dX12_writes_15 (by decide) ?_
  refine lv_iadd hx hb dX12_writes_16 ?_
  refine sk_top (nI (oc + 1)) (nI_add oc 1) ?_
  refine sk_put (ws' := [(mm, .inr (12, mo g (nI ta) (nI pa) (nI pe) pd (nI pb) pp pf pg pn rt rn (nI cd) sn (nI il) tk am at_ aa 0 0 (-1) wt wy 0 (nI rm) (nI ud) (nI nu) sd (nI qn) (nI qw) qo (nI qb) (nI qp) qa (nI qi) (nI (oc + 1)))), (g 90, .inl (cI, 31, .inl f_1))]) (C := RX12) (T := TX12) (N := 92) (v := .int (nI (oc + 1))) hx hb hts inlX12 tyX12 tyX12_ok nmX12 hown hK hP hD hS 0 rfl rfl 91 (by decide) w_6_6 rfl rfl rfl (Nat.le_of_ble_eq_true rfl) rfl dX12_writes_17 (fun H locs hP hD hS => ?_)
  exact sk_vret hx hb hr hlocks hK hP hD hS (⟨f_1, ef_2, rfl⟩) (Nat.le_of_ble_eq_true rfl) (Nat.le_of_ble_eq_true rfl) dX12_writes_20
set_option maxHeartbeats 4000000 in
set_option maxRecDepth 100000 in
theorem c_nm_checkedI (l : Launch) (D : va_G) (cI cJ cC cZ cS : ClassId) (h0 : Nat) (ff : Nat → Int32) (n : Nat) (gg : Nat → Nat) (hn : n ≤ 31) (hgg : ∀ j, j < n → ff j = nI (gg j)) (hg9 : ∀ j, gg j ≤ 255) : skM l yX12_checked cX12_checked 4 (some .int) 0 0 0 0 D (skT cI cJ cC cZ cS) [.ref h0, .int (nI n)] [(h0, .inl (cI, 31, .inl ff))] (skI D (skT cI cJ cC cZ cS) (fun (r : Int32) (u : va_W) => ∃ (ck2 : Nat), ck2 = chkN gg n ∧ ck2 < 251 ∧ r = nI ck2 ∧ u = [(h0, .inl (cI, 31, .inl ff))])) := by
  refine skM_of (by decide +kernel) (Nat.le_of_ble_eq_true rfl) ?_
  intro p e s m below meth c A ls E hP hD hl
  obtain ⟨hx, hb, hr, hml, hlocks, hin, hown, hts, hK, hA⟩ := E
  have hown : s.vm.findClass RX12 = some m.cls := hown
  have hS : va_S A s.heap s.heap [] := va_S.rf
  have hl : lv_has ls 4 [(0, .ref h0), (1, .int (nI n))] := hl
  refine lv_sipush (v := 139) hx hb dX12_checked_0 (by decide) ?_
  refine lv_istore_n (lv' := [(2, .int 139), (0, .ref h0), (1, .int (nI n))]) hx hb dX12_checked_3 rfl hl (by decide) rfl (fun ls hl => ?_)
  refine lv_iconst (v := 0) hx hb dX12_checked_4 (by decide) ?_
  refine lv_istore_n (lv' := [(3, .int 0), (2, .int 139), (0, .ref h0), (1, .int (nI n))]) hx hb dX12_checked_5 rfl hl (by decide) rfl (fun ls hl => ?_)
  have lp_1 : ∀ (n_2 : Nat) (i : Nat) (ck : Nat) (H : Heap) (locs : List Loc) (ls : Array Slot), n - i < n_2 → (i ≤ n) → (ck < 251) → (ck = chkN gg i) → va_P D vwCl [(h0, .inl (cI, 31, .inl ff))] H → va_D A [(h0, .inl (cI, 31, .inl ff))] → va_S A s.heap H locs → lv_has ls 4 [(3, .int (nI i)), (2, .int (nI ck)), (0, .ref h0), (1, .int (nI n))] → W p l e { frames := 0, cells := 0, slots := 0, locals := 0 } s m ([.ref h0, .int (nI n)] : List Value).toArray below meth c H locs 0 0 (MQ below (skI D (skT cI cJ cC cZ cS) (fun (r : Int32) (u : va_W) => ∃ (ck2 : Nat), ck2 = chkN gg n ∧ ck2 < 251 ∧ r = nI ck2 ∧ u = [(h0, .inl (cI, 31, .inl ff))]) A) ([.ref h0, .int (nI n)] : List Value).toArray s 0 0 A) (F0 m 6 ls []) := by
    intro n_2
    induction n_2 with
    | zero => intro i ck H locs ls hm; exact absurd hm (Nat.not_lt_zero _)
    | succ n_2 ih_lp_1 =>
      intro i ck H locs ls hm hi hc9 hci hP hD hS hl
      refine lv_iload_n hx hb dX12_checked_6 rfl (lv_at hl 0 rfl) ?_
      refine lv_iload_n hx hb dX12_checked_7 rfl (lv_at hl 3 rfl) ?_
      refine lv_icmp_ge (tgt := 29) hx hb dX12_checked_8 (by decide) (fun c_3 => ?_) (fun c_3 => ?_)
      · have c_3 : n ≤ i := (nle n i (by omega) (by omega)).mp c_3
        refine lv_iload_n hx hb dX12_checked_29 rfl (lv_at hl 1 rfl) ?_
        exact sk_iret hx hb hr rfl hlocks hK hP hD hS (⟨ck, (by rw [show n = i by omega]; exact hci), by omega, rfl, rfl⟩) (Nat.le_of_ble_eq_true rfl) (Nat.le_of_ble_eq_true rfl) dX12_checked_30
      · have c_3 : ¬ (n ≤ i) := fun h => c_3 ((nle n i (by omega) (by omega)).mpr h)
        refine lv_iconst (v := 3) hx hb dX12_checked_11 (by decide) ?_
        refine lv_iload_n hx hb dX12_checked_12 rfl (lv_at hl 1 rfl) ?_
        refine lv_imul hx hb dX12_checked_13 ?_
        refine sk_top (nI (3 * ck)) (nmul 3 ck) ?_
        refine lv_aload_n hx hb dX12_checked_14 rfl (lv_at hl 2 rfl) ?_
        refine lv_iload_n hx hb dX12_checked_15 rfl (lv_at hl 0 rfl) ?_
        refine va_iald hx hb hK.1 hP 0 0 rfl rfl (vin i 31 (by omega) (by omega)) dX12_checked_16 ?_
        have hg9i := hg9 i
        refine sk_top (nI (gg i)) (by rw [nI_clamp (by omega)]; exact hgg i (by omega)) ?_
        refine lv_iadd hx hb dX12_checked_17 ?_
        refine sk_top (nI (3 * ck + (gg i))) (nI_add (3 * ck) (gg i)) ?_
        refine lv_sipush (v := 251) hx hb dX12_checked_18 (by decide) ?_
        refine lv_irem hx hb dX12_checked_21 (by decide) ?_
        refine sk_top (nI ((3 * ck + (gg i)) % 251)) (nrem (3 * ck + (gg i)) 251 (by omega) (by omega) (by omega)) ?_
        refine lv_istore_n (lv' := [(2, .int (nI ((3 * ck + (gg i)) % 251))), (3, .int (nI i)), (0, .ref h0), (1, .int (nI n))]) hx hb dX12_checked_22 rfl hl (by decide) rfl (fun ls hl => ?_)
        refine lv_iinc (v := nI (i + 1)) (lv' := [(3, .int (nI (i + 1))), (2, .int (nI ((3 * ck + (gg i)) % 251))), (0, .ref h0), (1, .int (nI n))]) hx hb dX12_checked_23 hl (k := 1) rfl (ninc i 1 (by decide)) (by decide) rfl (fun ls hl => ?_)
        refine lv_goto (tgt := 6) hx hb dX12_checked_26 (by decide) ?_
        exact ih_lp_1 (i + 1) ((3 * ck + (gg i)) % 251) _ _ _ (by omega) (by omega) (by omega) (by rw [chkN, ← hci]) hP hD hS (lv_sub hl [0, 1, 2, 3] rfl)
  exact lp_1 (n - 0 + 1) 0 139 _ _ _ (Nat.lt_succ_self _) (by omega) (by omega) rfl hP hD hS (lv_sub hl [0, 1, 2, 3] rfl)
theorem dX12_image_0 : decode cX12_image 0 = .ok (.aload_n 0, 1) := by decide +kernel
theorem dX12_image_1 : decode cX12_image 1 = .ok (.iconst 0, 1) := by decide +kernel
theorem dX12_image_2 : decode cX12_image 2 = .ok (.putfield 595, 3) := by decide +kernel
theorem dX12_image_5 : decode cX12_image 5 = .ok (.aload_n 0, 1) := by decide +kernel
theorem dX12_image_6 : decode cX12_image 6 = .ok (.aload_n 0, 1) := by decide +kernel
theorem dX12_image_7 : decode cX12_image 7 = .ok (.getfield 63, 3) := by decide +kernel
theorem dX12_image_10 : decode cX12_image 10 = .ok (.iconst 0, 1) := by decide +kernel
theorem dX12_image_11 : decode cX12_image 11 = .ok (.iaload, 1) := by decide +kernel
theorem dX12_image_12 : decode cX12_image 12 = .ok (.sipush 256, 3) := by decide +kernel
theorem dX12_image_15 : decode cX12_image 15 = .ok (.idiv, 1) := by decide +kernel
theorem dX12_image_16 : decode cX12_image 16 = .ok (.invokevirtual 598, 3) := by decide +kernel
theorem dX12_image_19 : decode cX12_image 19 = .ok (.aload_n 0, 1) := by decide +kernel
theorem dX12_image_20 : decode cX12_image 20 = .ok (.aload_n 0, 1) := by decide +kernel
theorem dX12_image_21 : decode cX12_image 21 = .ok (.getfield 63, 3) := by decide +kernel
theorem dX12_image_24 : decode cX12_image 24 = .ok (.iconst 0, 1) := by decide +kernel
theorem dX12_image_25 : decode cX12_image 25 = .ok (.iaload, 1) := by decide +kernel
theorem dX12_image_26 : decode cX12_image 26 = .ok (.sipush 256, 3) := by decide +kernel
theorem dX12_image_29 : decode cX12_image 29 = .ok (.irem, 1) := by decide +kernel
theorem dX12_image_30 : decode cX12_image 30 = .ok (.invokevirtual 598, 3) := by decide +kernel
theorem dX12_image_33 : decode cX12_image 33 = .ok (.aload_n 0, 1) := by decide +kernel
theorem dX12_image_34 : decode cX12_image 34 = .ok (.aload_n 0, 1) := by decide +kernel
theorem dX12_image_35 : decode cX12_image 35 = .ok (.getfield 63, 3) := by decide +kernel
theorem dX12_image_38 : decode cX12_image 38 = .ok (.iconst 1, 1) := by decide +kernel
theorem dX12_image_39 : decode cX12_image 39 = .ok (.iaload, 1) := by decide +kernel
theorem dX12_image_40 : decode cX12_image 40 = .ok (.invokevirtual 598, 3) := by decide +kernel
theorem dX12_image_43 : decode cX12_image 43 = .ok (.iconst 0, 1) := by decide +kernel
theorem dX12_image_44 : decode cX12_image 44 = .ok (.istore_n 1, 1) := by decide +kernel
theorem dX12_image_45 : decode cX12_image 45 = .ok (.iload_n 1, 1) := by decide +kernel
theorem dX12_image_46 : decode cX12_image 46 = .ok (.iconst 3, 1) := by decide +kernel
theorem dX12_image_47 : decode cX12_image 47 = .ok (.aload_n 0, 1) := by decide +kernel
theorem dX12_image_48 : decode cX12_image 48 = .ok (.invokevirtual 315, 3) := by decide +kernel
theorem dX12_image_51 : decode cX12_image 51 = .ok (.imul, 1) := by decide +kernel
theorem dX12_image_52 : decode cX12_image 52 = .ok (.if_icmp .ge 21, 3) := by decide +kernel
theorem dX12_image_73 : decode cX12_image 73 = .ok (.aload_n 0, 1) := by decide +kernel
theorem dX12_image_74 : decode cX12_image 74 = .ok (.aload_n 0, 1) := by decide +kernel
theorem dX12_image_75 : decode cX12_image 75 = .ok (.getfield 189, 3) := by decide +kernel
theorem dX12_image_78 : decode cX12_image 78 = .ok (.aload_n 0, 1) := by decide +kernel
theorem dX12_image_79 : decode cX12_image 79 = .ok (.getfield 595, 3) := by decide +kernel
theorem dX12_image_82 : decode cX12_image 82 = .ok (.invokestatic 601, 3) := by decide +kernel
theorem dX12_image_85 : decode cX12_image 85 = .ok (.invokevirtual 598, 3) := by decide +kernel
theorem dX12_image_88 : decode cX12_image 88 = .ok (.aload_n 0, 1) := by decide +kernel
theorem dX12_image_89 : decode cX12_image 89 = .ok (.getfield 595, 3) := by decide +kernel
theorem dX12_image_92 : decode cX12_image 92 = .ok (.ireturn, 1) := by decide +kernel
theorem dX12_image_55 : decode cX12_image 55 = .ok (.aload_n 0, 1) := by decide +kernel
theorem dX12_image_56 : decode cX12_image 56 = .ok (.aload_n 0, 1) := by decide +kernel
theorem dX12_image_57 : decode cX12_image 57 = .ok (.getfield 63, 3) := by decide +kernel
theorem dX12_image_60 : decode cX12_image 60 = .ok (.iconst 2, 1) := by decide +kernel
theorem dX12_image_61 : decode cX12_image 61 = .ok (.iload_n 1, 1) := by decide +kernel
theorem dX12_image_62 : decode cX12_image 62 = .ok (.iadd, 1) := by decide +kernel
theorem dX12_image_63 : decode cX12_image 63 = .ok (.iaload, 1) := by decide +kernel
theorem dX12_image_64 : decode cX12_image 64 = .ok (.invokevirtual 598, 3) := by decide +kernel
theorem dX12_image_67 : decode cX12_image 67 = .ok (.iinc 1 1, 3) := by decide +kernel
theorem dX12_image_70 : decode cX12_image 70 = .ok (.goto (-25), 3) := by decide +kernel
theorem w_8_207 : (Cond.methodLink RX12 598 yX12_writes) ∈ wsL_law := sk_mem (ck_8 _ (List.mem_of_getElem? (i := 207) rfl)) rfl
theorem w_8_209 : (Cond.instanceMethod yX12_writes) ∈ wsL_law := sk_mem (ck_8 _ (List.mem_of_getElem? (i := 209) rfl)) rfl
theorem w_0_119 : (Cond.selects RX12 yX12_writes yX12_writes) ∈ wsL_law := sk_mem (ck_0 _ (List.mem_of_getElem? (i := 119) rfl)) rfl
theorem w_8_206 : (Cond.code yX12_image cX12_image 2 (some .int)) ∈ wsL_law := sk_mem (ck_8 _ (List.mem_of_getElem? (i := 206) rfl)) rfl
set_option maxHeartbeats 4000000 in
set_option maxRecDepth 100000 in
theorem c_nm_image (l : Launch) (D : va_G) (cI cJ cC cZ cS : ClassId) (mm : Nat) (g : Nat → Nat) (ta : Nat) (pa : Nat) (pe : Nat) (pd : Int32) (pb : Nat) (pp : Int32) (pf : Int32) (pg : Int32) (pn : Int32) (rt : Int32) (rn : Int32) (cd : Nat) (sn : Int32) (il : Nat) (tk : Int32) (am : Int32) (at_ : Int32) (aa : Int32) (wt : Int32) (wy : Int64) (rm : Nat) (ud : Nat) (nu : Nat) (sd : Int64) (qn : Nat) (qw : Nat) (qo : Int32) (qb : Nat) (qp : Nat) (qa : Int64) (qi : Nat) (oc : Nat) (l0 : Nat) (l1 : Nat) (dm : Nat) (l3 : Nat) (nw : Nat → Int32) (oc_ : Nat → Int32) (wn : Nat) (mN : Nat) (Ba : Nat → Nat) (We : Nat → Nat) (U : Nat → Bool) (ke : Nat) (lg : KLg) (hdm : dm ≤ 9) (hB9 : ∀ j, Ba j ≤ 9) (hW9 : ∀ j, We j ≤ 9) (hwk : wn ≤ 999) (hnw : nwX wn mN Ba We U ke lg nw) : skM l yX12_image cX12_image 2 (some .int) 1 23 0 0 D (skT cI cJ cC cZ cS) [.ref mm] [(mm, .inr (12, mo g (nI ta) (nI pa) (nI pe) pd (nI pb) pp pf pg pn rt rn (nI cd) sn (nI il) tk am at_ aa 0 0 (-1) wt wy 0 (nI rm) (nI ud) (nI nu) sd (nI qn) (nI qw) qo (nI qb) (nI qp) qa (nI qi) (nI oc))), (g 20, .inl (cI, 4, .inl (l4 (nI l0) (nI l1) (nI dm) (nI l3)))), (g 31, .inl (cI, 120, .inl nw)), (g 90, .inl (cI, 31, .inl oc_))] (skI D (skT cI cJ cC cZ cS) (fun (r : Int32) (u : va_W) => ∃ (oc2 : Nat), ∃ (oc_2 : Nat → Int32), oc2 = 4 + 3 * dm ∧ (∀ j, j < 4 + 3 * dm → oc_2 j = nI (imgB (wn, mN, Ba, We, U, ke) dm j)) ∧ r = nI (4 + 3 * dm) ∧ u = [(mm, .inr (12, mo g (nI ta) (nI pa) (nI pe) pd (nI pb) pp pf pg pn rt rn (nI cd) sn (nI il) tk am at_ aa 0 0 (-1) wt wy 0 (nI rm) (nI ud) (nI nu) sd (nI qn) (nI qw) qo (nI qb) (nI qp) qa (nI qi) (nI oc2))), (g 20, .inl (cI, 4, .inl (l4 (nI l0) (nI l1) (nI dm) (nI l3)))), (g 31, .inl (cI, 120, .inl nw)), (g 90, .inl (cI, 31, .inl oc_2))])) := by
  refine skM_of (by decide +kernel) (Nat.le_of_ble_eq_true rfl) ?_
  intro p e s m below meth c A ls E hP hD hl
  obtain ⟨hx, hb, hr, hml, hlocks, hin, hown, hts, hK, hA⟩ := E
  have hown : s.vm.findClass RX12 = some m.cls := hown
  have hS : va_S A s.heap s.heap [] := va_S.rf
  have hl : lv_has ls 2 [(0, .ref mm)] := hl
  refine lv_aload_n hx hb dX12_image_0 rfl (lv_at hl 0 rfl) ?_
  refine lv_iconst (v := 0) hx hb dX12_image_1 (by decide) ?_
  refine sk_put (ws' := [(mm, .inr (12, mo g (nI ta) (nI pa) (nI pe) pd (nI pb) pp pf pg pn rt rn (nI cd) sn (nI il) tk am at_ aa 0 0 (-1) wt wy 0 (nI rm) (nI ud) (nI nu) sd (nI qn) (nI qw) qo (nI qb) (nI qp) qa (nI qi) 0)), (g 20, .inl (cI, 4, .inl (l4 (nI l0) (nI l1) (nI dm) (nI l3)))), (g 31, .inl (cI, 120, .inl nw)), (g 90, .inl (cI, 31, .inl oc_))]) (C := RX12) (T := TX12) (N := 92) (v := .int 0) hx hb hts inlX12 tyX12 tyX12_ok nmX12 hown hK hP hD hS 0 rfl rfl 91 (by decide) w_6_6 rfl rfl rfl (Nat.le_of_ble_eq_true rfl) rfl dX12_image_2 (fun H locs hP hD hS => ?_)
  have hi0 := imR_0 (wn, mN, Ba, We, U, ke) oc_
  refine lv_aload_n hx hb dX12_image_5 rfl (lv_at hl 0 rfl) ?_
  refine lv_aload_n hx hb dX12_image_6 rfl (lv_at hl 0 rfl) ?_
  refine sk_get (v := .ref (g 31)) (C := RX12) (T := TX12) (N := 92) hx hb hts inlX12 hown hK hP 0 rfl rfl 31 (by decide) w_5_186 rfl dX12_image_7 ?_
  refine lv_iconst (v := 0) hx hb dX12_image_10 (by decide) ?_
  refine va_iald hx hb hK.1 hP 2 0 rfl rfl (by unfold vp_in; decide) dX12_image_11 ?_
  refine sk_top (nI wn) (nwX_0 hnw) ?_
  refine lv_sipush (v := 256) hx hb dX12_image_12 (by decide) ?_
  refine lv_idiv hx hb dX12_image_15 (by decide) ?_
  refine sk_top (nI (wn / 256)) (ndiv wn 256 (by omega) (by omega) (by omega)) ?_
  refine sk_Vv (q0 := 0) (n := 1) (rest := []) (wr := [(g 20, .inl (cI, 4, .inl (l4 (nI l0) (nI l1) (nI dm) (nI l3)))), (g 31, .inl (cI, 120, .inl nw))]) ⟨hx, hb, hml, hown, hts⟩ hl.1 (c_nm_writes l D cI cJ cC cZ cS mm g ta pa pe pd pb pp pf pg pn rt rn cd sn il tk am at_ aa wt wy rm ud nu sd qn qw qo qb qp qa qi 0 (nI (wn / 256)) oc_ (by omega)) w_8_207 w_8_209 w_0_119 w_1_14 w_8_210 (by decide +kernel) ⟨⟨(Nat.le_of_ble_eq_true rfl), (Nat.le_of_ble_eq_true rfl)⟩, (Nat.le_of_ble_eq_true rfl), (Nat.le_of_ble_eq_true rfl)⟩ hK hP hD hS hA [0, 3] [1, 2] rfl rfl (by decide +kernel) (by decide +kernel) (by decide +kernel) rfl rfl rfl rfl (Nat.le_of_ble_eq_true rfl) dX12_image_16 (fun u H locs hw hP hD hS => ?_)
  obtain ⟨oc_2_1, hoe_2, rfl⟩ := hw
  have hP : va_P D vwCl [(g 20, .inl (cI, 4, .inl (l4 (nI l0) (nI l1) (nI dm) (nI l3)))), (g 31, .inl (cI, 120, .inl nw)), (mm, .inr (12, mo g (nI ta) (nI pa) (nI pe) pd (nI pb) pp pf pg pn rt rn (nI cd) sn (nI il) tk am at_ aa 0 0 (-1) wt wy 0 (nI rm) (nI ud) (nI nu) sd (nI qn) (nI qw) qo (nI qb) (nI qp) qa (nI qi) 1)), (g 90, .inl (cI, 31, .inl oc_2_1))] H := hP
  have hD : va_D A [(g 20, .inl (cI, 4, .inl (l4 (nI l0) (nI l1) (nI dm) (nI l3)))), (g 31, .inl (cI, 120, .inl nw)), (mm, .inr (12, mo g (nI ta) (nI pa) (nI pe) pd (nI pb) pp pf pg pn rt rn (nI cd) sn (nI il) tk am at_ aa 0 0 (-1) wt wy 0 (nI rm) (nI ud) (nI nu) sd (nI qn) (nI qw) qo (nI qb) (nI qp) qa (nI qi) 1)), (g 90, .inl (cI, 31, .inl oc_2_1))] := hD
  have hi_3 : imR (wn, mN, Ba, We, U, ke) (0 + 1) oc_2_1 := imR_s hi0 hoe_2 rfl
  refine lv_aload_n hx hb dX12_image_19 rfl (lv_at hl 0 rfl) ?_
  refine lv_aload_n hx hb dX12_image_20 rfl (lv_at hl 0 rfl) ?_
  refine sk_get (v := .ref (g 31)) (C := RX12) (T := TX12) (N := 92) hx hb hts inlX12 hown hK hP 2 rfl rfl 31 (by decide) w_5_186 rfl dX12_image_21 ?_
  refine lv_iconst (v := 0) hx hb dX12_image_24 (by decide) ?_
  refine va_iald hx hb hK.1 hP 1 0 rfl rfl (by unfold vp_in; decide) dX12_image_25 ?_
  refine sk_top (nI wn) (nwX_0 hnw) ?_
  refine lv_sipush (v := 256) hx hb dX12_image_26 (by decide) ?_
  refine lv_irem hx hb dX12_image_29 (by decide) ?_
  refine sk_top (nI (wn % 256)) (nrem wn 256 (by omega) (by omega) (by omega)) ?_
  refine sk_Vv (q0 := 0) (n := 1) (rest := []) (wr := [(g 20, .inl (cI, 4, .inl (l4 (nI l0) (nI l1) (nI dm) (nI l3)))), (g 31, .inl (cI, 120, .inl nw))]) ⟨hx, hb, hml, hown, hts⟩ hl.1 (c_nm_writes l D cI cJ cC cZ cS mm g ta pa pe pd pb pp pf pg pn rt rn cd sn il tk am at_ aa wt wy rm ud nu sd qn qw qo qb qp qa qi 1 (nI (wn % 256)) oc_2_1 (by omega)) w_8_207 w_8_209 w_0_119 w_1_14 w_8_210 (by decide +kernel) ⟨⟨(Nat.le_of_ble_eq_true rfl), (Nat.le_of_ble_eq_true rfl)⟩, (Nat.le_of_ble_eq_true rfl), (Nat.le_of_ble_eq_true rfl)⟩ hK hP hD hS hA [2, 3] [0, 1] rfl rfl (by decide +kernel) (by decide +kernel) (by decide +kernel) rfl rfl rfl rfl (Nat.le_of_ble_eq_true rfl) dX12_image_30 (fun u H locs hw hP hD hS => ?_)
  obtain ⟨oc_2_4, hoe_5, rfl⟩ := hw
  have hP : va_P D vwCl [(g 20, .inl (cI, 4, .inl (l4 (nI l0) (nI l1) (nI dm) (nI l3)))), (g 31, .inl (cI, 120, .inl nw)), (mm, .inr (12, mo g (nI ta) (nI pa) (nI pe) pd (nI pb) pp pf pg pn rt rn (nI cd) sn (nI il) tk am at_ aa 0 0 (-1) wt wy 0 (nI rm) (nI ud) (nI nu) sd (nI qn) (nI qw) qo (nI qb) (nI qp) qa (nI qi) 2)), (g 90, .inl (cI, 31, .inl oc_2_4))] H := hP
  have hD : va_D A [(g 20, .inl (cI, 4, .inl (l4 (nI l0) (nI l1) (nI dm) (nI l3)))), (g 31, .inl (cI, 120, .inl nw)), (mm, .inr (12, mo g (nI ta) (nI pa) (nI pe) pd (nI pb) pp pf pg pn rt rn (nI cd) sn (nI il) tk am at_ aa 0 0 (-1) wt wy 0 (nI rm) (nI ud) (nI nu) sd (nI qn) (nI qw) qo (nI qb) (nI qp) qa (nI qi) 2)), (g 90, .inl (cI, 31, .inl oc_2_4))] := hD
  have hi_6 : imR (wn, mN, Ba, We, U, ke) (1 + 1) oc_2_4 := imR_s hi_3 hoe_5 rfl
  refine lv_aload_n hx hb dX12_image_33 rfl (lv_at hl 0 rfl) ?_
  refine lv_aload_n hx hb dX12_image_34 rfl (lv_at hl 0 rfl) ?_
  refine sk_get (v := .ref (g 31)) (C := RX12) (T := TX12) (N := 92) hx hb hts inlX12 hown hK hP 2 rfl rfl 31 (by decide) w_5_186 rfl dX12_image_35 ?_
  refine lv_iconst (v := 1) hx hb dX12_image_38 (by decide) ?_
  refine va_iald hx hb hK.1 hP 1 0 rfl rfl (by unfold vp_in; decide) dX12_image_39 ?_
  refine sk_top (nI mN) (nwX_1 hnw) ?_
  refine sk_Vv (q0 := 0) (n := 1) (rest := []) (wr := [(g 20, .inl (cI, 4, .inl (l4 (nI l0) (nI l1) (nI dm) (nI l3)))), (g 31, .inl (cI, 120, .inl nw))]) ⟨hx, hb, hml, hown, hts⟩ hl.1 (c_nm_writes l D cI cJ cC cZ cS mm g ta pa pe pd pb pp pf pg pn rt rn cd sn il tk am at_ aa wt wy rm ud nu sd qn qw qo qb qp qa qi 2 (nI mN) oc_2_4 (by omega)) w_8_207 w_8_209 w_0_119 w_1_14 w_8_210 (by decide +kernel) ⟨⟨(Nat.le_of_ble_eq_true rfl), (Nat.le_of_ble_eq_true rfl)⟩, (Nat.le_of_ble_eq_true rfl), (Nat.le_of_ble_eq_true rfl)⟩ hK hP hD hS hA [2, 3] [0, 1] rfl rfl (by decide +kernel) (by decide +kernel) (by decide +kernel) rfl rfl rfl rfl (Nat.le_of_ble_eq_true rfl) dX12_image_40 (fun u H locs hw hP hD hS => ?_)
  obtain ⟨oc_2_7, hoe_8, rfl⟩ := hw
  have hP : va_P D vwCl [(g 20, .inl (cI, 4, .inl (l4 (nI l0) (nI l1) (nI dm) (nI l3)))), (g 31, .inl (cI, 120, .inl nw)), (mm, .inr (12, mo g (nI ta) (nI pa) (nI pe) pd (nI pb) pp pf pg pn rt rn (nI cd) sn (nI il) tk am at_ aa 0 0 (-1) wt wy 0 (nI rm) (nI ud) (nI nu) sd (nI qn) (nI qw) qo (nI qb) (nI qp) qa (nI qi) 3)), (g 90, .inl (cI, 31, .inl oc_2_7))] H := hP
  have hD : va_D A [(g 20, .inl (cI, 4, .inl (l4 (nI l0) (nI l1) (nI dm) (nI l3)))), (g 31, .inl (cI, 120, .inl nw)), (mm, .inr (12, mo g (nI ta) (nI pa) (nI pe) pd (nI pb) pp pf pg pn rt rn (nI cd) sn (nI il) tk am at_ aa 0 0 (-1) wt wy 0 (nI rm) (nI ud) (nI nu) sd (nI qn) (nI qw) qo (nI qb) (nI qp) qa (nI qi) 3)), (g 90, .inl (cI, 31, .inl oc_2_7))] := hD
  have hi_9 : imR (wn, mN, Ba, We, U, ke) (2 + 1) oc_2_7 := imR_s hi_6 hoe_8 rfl
  refine lv_iconst (v := 0) hx hb dX12_image_43 (by decide) ?_
  refine lv_istore_n (lv' := [(1, .int 0), (0, .ref mm)]) hx hb dX12_image_44 rfl hl (by decide) rfl (fun ls hl => ?_)
  have lp_10 : ∀ (n_11 : Nat) (i : Nat) (zo : Nat) (zf : Nat → Int32) (H : Heap) (locs : List Loc) (ls : Array Slot), 3 * dm - i < n_11 → (i ≤ 3 * dm) → (zo = 3 + i) → (imR (wn, mN, Ba, We, U, ke) (3 + i) zf) → va_P D vwCl [(g 20, .inl (cI, 4, .inl (l4 (nI l0) (nI l1) (nI dm) (nI l3)))), (g 31, .inl (cI, 120, .inl nw)), (mm, .inr (12, mo g (nI ta) (nI pa) (nI pe) pd (nI pb) pp pf pg pn rt rn (nI cd) sn (nI il) tk am at_ aa 0 0 (-1) wt wy 0 (nI rm) (nI ud) (nI nu) sd (nI qn) (nI qw) qo (nI qb) (nI qp) qa (nI qi) (nI zo))), (g 90, .inl (cI, 31, .inl zf))] H → va_D A [(g 20, .inl (cI, 4, .inl (l4 (nI l0) (nI l1) (nI dm) (nI l3)))), (g 31, .inl (cI, 120, .inl nw)), (mm, .inr (12, mo g (nI ta) (nI pa) (nI pe) pd (nI pb) pp pf pg pn rt rn (nI cd) sn (nI il) tk am at_ aa 0 0 (-1) wt wy 0 (nI rm) (nI ud) (nI nu) sd (nI qn) (nI qw) qo (nI qb) (nI qp) qa (nI qi) (nI zo))), (g 90, .inl (cI, 31, .inl zf))] → va_S A s.heap H locs → lv_has ls 2 [(1, .int (nI i)), (0, .ref mm)] → W p l e { frames := 1, cells := 0, slots := 0, locals := 23 } s m ([.ref mm] : List Value).toArray below meth c H locs 0 0 (MQ below (skI D (skT cI cJ cC cZ cS) (fun (r : Int32) (u : va_W) => ∃ (oc2 : Nat), ∃ (oc_2 : Nat → Int32), oc2 = 4 + 3 * dm ∧ (∀ j, j < 4 + 3 * dm → oc_2 j = nI (imgB (wn, mN, Ba, We, U, ke) dm j)) ∧ r = nI (4 + 3 * dm) ∧ u = [(mm, .inr (12, mo g (nI ta) (nI pa) (nI pe) pd (nI pb) pp pf pg pn rt rn (nI cd) sn (nI il) tk am at_ aa 0 0 (-1) wt wy 0 (nI rm) (nI ud) (nI nu) sd (nI qn) (nI qw) qo (nI qb) (nI qp) qa (nI qi) (nI oc2))), (g 20, .inl (cI, 4, .inl (l4 (nI l0) (nI l1) (nI dm) (nI l3)))), (g 31, .inl (cI, 120, .inl nw)), (g 90, .inl (cI, 31, .inl oc_2))]) A) ([.ref mm] : List Value).toArray s 0 0 A) (F0 m 45 ls []) := by
    intro n_11
    induction n_11 with
    | zero => intro i zo zf H locs ls hm; exact absurd hm (Nat.not_lt_zero _)
    | succ n_11 ih_lp_10 =>
      intro i zo zf H locs ls hm hi hzo hip hP hD hS hl
      refine lv_iload_n hx hb dX12_image_45 rfl (lv_at hl 0 rfl) ?_
      refine lv_iconst (v := 3) hx hb dX12_image_46 (by decide) ?_
      refine lv_aload_n hx hb dX12_image_47 rfl (lv_at hl 1 rfl) ?_
      refine sk_Vi (q0 := 0) (n := 0) (rest := [.int 3, .int (nI i)]) (wr := [(g 31, .inl (cI, 120, .inl nw)), (g 90, .inl (cI, 31, .inl zf))]) ⟨hx, hb, hml, hown, hts⟩ hl.1 (c_m_dayMany l D cI cJ cC cZ cS mm g ta pa pe pd pb pp pf pg pn rt rn cd sn il tk am at_ aa 0 0 (-1) wt wy 0 rm ud nu sd qn qw qo qb qp qa qi zo l0 l1 dm l3) w_7_98 w_7_100 w_0_69 w_1_14 w_7_101 (by decide +kernel) ⟨⟨(Nat.le_of_ble_eq_true rfl), (Nat.le_of_ble_eq_true rfl)⟩, (Nat.le_of_ble_eq_true rfl), (Nat.le_of_ble_eq_true rfl)⟩ hK hP hD hS hA [2, 0] [1, 3] rfl rfl (by decide +kernel) (by decide +kernel) (by decide +kernel) rfl rfl rfl rfl (Nat.le_of_ble_eq_true rfl) dX12_image_48 (fun r_12 u H locs hw hP hD hS => ?_)
      obtain ⟨rfl, rfl⟩ := hw
      have hP : va_P D vwCl [(g 31, .inl (cI, 120, .inl nw)), (g 90, .inl (cI, 31, .inl zf)), (mm, .inr (12, mo g (nI ta) (nI pa) (nI pe) pd (nI pb) pp pf pg pn rt rn (nI cd) sn (nI il) tk am at_ aa 0 0 (-1) wt wy 0 (nI rm) (nI ud) (nI nu) sd (nI qn) (nI qw) qo (nI qb) (nI qp) qa (nI qi) (nI zo))), (g 20, .inl (cI, 4, .inl (l4 (nI l0) (nI l1) (nI dm) (nI l3))))] H := hP
      have hD : va_D A [(g 31, .inl (cI, 120, .inl nw)), (g 90, .inl (cI, 31, .inl zf)), (mm, .inr (12, mo g (nI ta) (nI pa) (nI pe) pd (nI pb) pp pf pg pn rt rn (nI cd) sn (nI il) tk am at_ aa 0 0 (-1) wt wy 0 (nI rm) (nI ud) (nI nu) sd (nI qn) (nI qw) qo (nI qb) (nI qp) qa (nI qi) (nI zo))), (g 20, .inl (cI, 4, .inl (l4 (nI l0) (nI l1) (nI dm) (nI l3))))] := hD
      refine lv_imul hx hb dX12_image_51 ?_
      refine sk_top (nI (3 * dm)) (nmul 3 dm) ?_
      refine lv_icmp_ge (tgt := 73) hx hb dX12_image_52 (by decide) (fun c_13 => ?_) (fun c_13 => ?_)
      · have c_13 : 3 * dm ≤ i := (nle (3 * dm) i (by omega) (by omega)).mp c_13
        have him3 : imR (wn, mN, Ba, We, U, ke) (3 + 3 * dm) zf := (by rw [show 3 * dm = i by omega]; exact hip)
        refine lv_aload_n hx hb dX12_image_73 rfl (lv_at hl 1 rfl) ?_
        refine lv_aload_n hx hb dX12_image_74 rfl (lv_at hl 1 rfl) ?_
        refine sk_get (v := .ref (g 90)) (C := RX12) (T := TX12) (N := 92) hx hb hts inlX12 hown hK hP 2 rfl rfl 90 (by decide) w_6_5 rfl dX12_image_75 ?_
        refine lv_aload_n hx hb dX12_image_78 rfl (lv_at hl 1 rfl) ?_
        refine sk_get (v := .int (nI zo)) (C := RX12) (T := TX12) (N := 92) hx hb hts inlX12 hown hK hP 2 rfl rfl 91 (by decide) w_6_6 rfl dX12_image_79 ?_
        refine sk_Si (n := 2) (rest := [.ref mm]) (wr := [(g 31, .inl (cI, 120, .inl nw)), (mm, .inr (12, mo g (nI ta) (nI pa) (nI pe) pd (nI pb) pp pf pg pn rt rn (nI cd) sn (nI il) tk am at_ aa 0 0 (-1) wt wy 0 (nI rm) (nI ud) (nI nu) sd (nI qn) (nI qw) qo (nI qb) (nI qp) qa (nI qi) (nI zo))), (g 20, .inl (cI, 4, .inl (l4 (nI l0) (nI l1) (nI dm) (nI l3))))]) ⟨hx, hb, hml, hown, hts⟩ hl.1 (c_nm_checkedI l D cI cJ cC cZ cS (g 90) zf zo (imgA (wn, mN, Ba, We, U, ke)) (by omega) (fun j hj => him3 j (by omega)) (imA_9 (ke := ke) (U := U) hwk hnw.1 hB9 hW9)) w_8_211 w_8_212 w_1_14 w_8_213 (by decide +kernel) ⟨⟨(Nat.le_of_ble_eq_true rfl), (Nat.le_of_ble_eq_true rfl)⟩, (Nat.le_of_ble_eq_true rfl), (Nat.le_of_ble_eq_true rfl)⟩ hK hP hD hS hA [1] [0, 2, 3] rfl rfl (by decide +kernel) (by decide +kernel) (by decide +kernel) rfl rfl (Nat.le_of_ble_eq_true rfl) dX12_image_82 (fun r_15 u H locs hw hP hD hS => ?_)
        obtain ⟨ck2_14, hck_16, hck9_17, rfl, rfl⟩ := hw
        have hP : va_P D vwCl [(g 31, .inl (cI, 120, .inl nw)), (mm, .inr (12, mo g (nI ta) (nI pa) (nI pe) pd (nI pb) pp pf pg pn rt rn (nI cd) sn (nI il) tk am at_ aa 0 0 (-1) wt wy 0 (nI rm) (nI ud) (nI nu) sd (nI qn) (nI qw) qo (nI qb) (nI qp) qa (nI qi) (nI zo))), (g 20, .inl (cI, 4, .inl (l4 (nI l0) (nI l1) (nI dm) (nI l3)))), (g 90, .inl (cI, 31, .inl zf))] H := hP
        have hD : va_D A [(g 31, .inl (cI, 120, .inl nw)), (mm, .inr (12, mo g (nI ta) (nI pa) (nI pe) pd (nI pb) pp pf pg pn rt rn (nI cd) sn (nI il) tk am at_ aa 0 0 (-1) wt wy 0 (nI rm) (nI ud) (nI nu) sd (nI qn) (nI qw) qo (nI qb) (nI qp) qa (nI qi) (nI zo))), (g 20, .inl (cI, 4, .inl (l4 (nI l0) (nI l1) (nI dm) (nI l3)))), (g 90, .inl (cI, 31, .inl zf))] := hD
        refine sk_Vv (q0 := 0) (n := 1) (rest := []) (wr := [(g 31, .inl (cI, 120, .inl nw)), (g 20, .inl (cI, 4, .inl (l4 (nI l0) (nI l1) (nI dm) (nI l3))))]) ⟨hx, hb, hml, hown, hts⟩ hl.1 (c_nm_writes l D cI cJ cC cZ cS mm g ta pa pe pd pb pp pf pg pn rt rn cd sn il tk am at_ aa wt wy rm ud nu sd qn qw qo qb qp qa qi zo (nI ck2_14) zf (by omega)) w_8_207 w_8_209 w_0_119 w_1_14 w_8_210 (by decide +kernel) ⟨⟨(Nat.le_of_ble_eq_true rfl), (Nat.le_of_ble_eq_true rfl)⟩, (Nat.le_of_ble_eq_true rfl), (Nat.le_of_ble_eq_true rfl)⟩ hK hP hD hS hA [1, 3] [0, 2] rfl rfl (by decide +kernel) (by decide +kernel) (by decide +kernel) rfl rfl rfl rfl (Nat.le_of_ble_eq_true rfl) dX12_image_85 (fun u H locs hw hP hD hS => ?_)
        obtain ⟨oc_2_18, hoe_19, rfl⟩ := hw
        have hP : va_P D vwCl [(g 31, .inl (cI, 120, .inl nw)), (g 20, .inl (cI, 4, .inl (l4 (nI l0) (nI l1) (nI dm) (nI l3)))), (mm, .inr (12, mo g (nI ta) (nI pa) (nI pe) pd (nI pb) pp pf pg pn rt rn (nI cd) sn (nI il) tk am at_ aa 0 0 (-1) wt wy 0 (nI rm) (nI ud) (nI nu) sd (nI qn) (nI qw) qo (nI qb) (nI qp) qa (nI qi) (nI (zo + 1)))), (g 90, .inl (cI, 31, .inl oc_2_18))] H := hP
        have hD : va_D A [(g 31, .inl (cI, 120, .inl nw)), (g 20, .inl (cI, 4, .inl (l4 (nI l0) (nI l1) (nI dm) (nI l3)))), (mm, .inr (12, mo g (nI ta) (nI pa) (nI pe) pd (nI pb) pp pf pg pn rt rn (nI cd) sn (nI il) tk am at_ aa 0 0 (-1) wt wy 0 (nI rm) (nI ud) (nI nu) sd (nI qn) (nI qw) qo (nI qb) (nI qp) qa (nI qi) (nI (zo + 1)))), (g 90, .inl (cI, 31, .inl oc_2_18))] := hD
        refine lv_aload_n hx hb dX12_image_88 rfl (lv_at hl 1 rfl) ?_
        refine sk_get (v := .int (nI (zo + 1))) (C := RX12) (T := TX12) (N := 92) hx hb hts inlX12 hown hK hP 2 rfl rfl 91 (by decide) w_6_6 rfl dX12_image_89 ?_
        have hP := hP.sub (ws' := [(mm, .inr (12, mo g (nI ta) (nI pa) (nI pe) pd (nI pb) pp pf pg pn rt rn (nI cd) sn (nI il) tk am at_ aa 0 0 (-1) wt wy 0 (nI rm) (nI ud) (nI nu) sd (nI qn) (nI qw) qo (nI qb) (nI qp) qa (nI qi) (nI (zo + 1)))), (g 20, .inl (cI, 4, .inl (l4 (nI l0) (nI l1) (nI dm) (nI l3)))), (g 31, .inl (cI, 120, .inl nw)), (g 90, .inl (cI, 31, .inl oc_2_18))]) [2, 1, 0, 3] rfl
        have hD := hD.sub (ws' := [(mm, .inr (12, mo g (nI ta) (nI pa) (nI pe) pd (nI pb) pp pf pg pn rt rn (nI cd) sn (nI il) tk am at_ aa 0 0 (-1) wt wy 0 (nI rm) (nI ud) (nI nu) sd (nI qn) (nI qw) qo (nI qb) (nI qp) qa (nI qi) (nI (zo + 1)))), (g 20, .inl (cI, 4, .inl (l4 (nI l0) (nI l1) (nI dm) (nI l3)))), (g 31, .inl (cI, 120, .inl nw)), (g 90, .inl (cI, 31, .inl oc_2_18))]) [2, 1, 0, 3] (by decide +kernel) rfl
        exact sk_iret hx hb hr rfl hlocks hK hP hD hS (⟨zo + 1, oc_2_18, by omega, imR_e him3 (by rw [show 3 + 3 * dm = zo by omega]; exact hoe_19) (congrArg nI (by rw [hck_16, show zo = 3 + 3 * dm by omega])), (congrArg nI (by omega)), rfl⟩) (Nat.le_of_ble_eq_true rfl) (Nat.le_of_ble_eq_true rfl) dX12_image_92
      · have c_13 : ¬ (3 * dm ≤ i) := fun h => c_13 ((nle (3 * dm) i (by omega) (by omega)).mpr h)
        refine lv_aload_n hx hb dX12_image_55 rfl (lv_at hl 1 rfl) ?_
        refine lv_aload_n hx hb dX12_image_56 rfl (lv_at hl 1 rfl) ?_
        refine sk_get (v := .ref (g 31)) (C := RX12) (T := TX12) (N := 92) hx hb hts inlX12 hown hK hP 2 rfl rfl 31 (by decide) w_5_186 rfl dX12_image_57 ?_
        refine lv_iconst (v := 2) hx hb dX12_image_60 (by decide) ?_
        refine lv_iload_n hx hb dX12_image_61 rfl (lv_at hl 0 rfl) ?_
        refine lv_iadd hx hb dX12_image_62 ?_
        refine sk_top (nI (2 + i)) (nI_add 2 i) ?_
        refine va_iald hx hb hK.1 hP 0 0 rfl rfl (vin (2 + i) 120 (by omega) (by omega)) dX12_image_63 ?_
        refine sk_top (nw (2 + i)) (by rw [nI_clamp (by omega)]) ?_
        refine sk_Vv (q0 := 0) (n := 1) (rest := []) (wr := [(g 31, .inl (cI, 120, .inl nw)), (g 20, .inl (cI, 4, .inl (l4 (nI l0) (nI l1) (nI dm) (nI l3))))]) ⟨hx, hb, hml, hown, hts⟩ hl.1 (c_nm_writes l D cI cJ cC cZ cS mm g ta pa pe pd pb pp pf pg pn rt rn cd sn il tk am at_ aa wt wy rm ud nu sd qn qw qo qb qp qa qi zo (nw (2 + i)) zf (by omega)) w_8_207 w_8_209 w_0_119 w_1_14 w_8_210 (by decide +kernel) ⟨⟨(Nat.le_of_ble_eq_true rfl), (Nat.le_of_ble_eq_true rfl)⟩, (Nat.le_of_ble_eq_true rfl), (Nat.le_of_ble_eq_true rfl)⟩ hK hP hD hS hA [2, 1] [0, 3] rfl rfl (by decide +kernel) (by decide +kernel) (by decide +kernel) rfl rfl rfl rfl (Nat.le_of_ble_eq_true rfl) dX12_image_64 (fun u H locs hw hP hD hS => ?_)
        obtain ⟨oc_2_20, hoe_21, rfl⟩ := hw
        have hP : va_P D vwCl [(g 31, .inl (cI, 120, .inl nw)), (g 20, .inl (cI, 4, .inl (l4 (nI l0) (nI l1) (nI dm) (nI l3)))), (mm, .inr (12, mo g (nI ta) (nI pa) (nI pe) pd (nI pb) pp pf pg pn rt rn (nI cd) sn (nI il) tk am at_ aa 0 0 (-1) wt wy 0 (nI rm) (nI ud) (nI nu) sd (nI qn) (nI qw) qo (nI qb) (nI qp) qa (nI qi) (nI (zo + 1)))), (g 90, .inl (cI, 31, .inl oc_2_20))] H := hP
        have hD : va_D A [(g 31, .inl (cI, 120, .inl nw)), (g 20, .inl (cI, 4, .inl (l4 (nI l0) (nI l1) (nI dm) (nI l3)))), (mm, .inr (12, mo g (nI ta) (nI pa) (nI pe) pd (nI pb) pp pf pg pn rt rn (nI cd) sn (nI il) tk am at_ aa 0 0 (-1) wt wy 0 (nI rm) (nI ud) (nI nu) sd (nI qn) (nI qw) qo (nI qb) (nI qp) qa (nI qi) (nI (zo + 1)))), (g 90, .inl (cI, 31, .inl oc_2_20))] := hD
        have he9 := hoe_21
        rw [hzo] at he9
        have hi_22 : imR (wn, mN, Ba, We, U, ke) (3 + i + 1) oc_2_20 := imR_s hip he9 (imD_at hnw (by omega))
        refine lv_iinc (v := nI (i + 1)) (lv' := [(1, .int (nI (i + 1))), (0, .ref mm)]) hx hb dX12_image_67 hl (k := 0) rfl (ninc i 1 (by decide)) (by decide) rfl (fun ls hl => ?_)
        refine lv_goto (tgt := 45) hx hb dX12_image_70 (by decide) ?_
        have hP := hP.sub (ws' := [(g 20, .inl (cI, 4, .inl (l4 (nI l0) (nI l1) (nI dm) (nI l3)))), (g 31, .inl (cI, 120, .inl nw)), (mm, .inr (12, mo g (nI ta) (nI pa) (nI pe) pd (nI pb) pp pf pg pn rt rn (nI cd) sn (nI il) tk am at_ aa 0 0 (-1) wt wy 0 (nI rm) (nI ud) (nI nu) sd (nI qn) (nI qw) qo (nI qb) (nI qp) qa (nI qi) (nI (zo + 1)))), (g 90, .inl (cI, 31, .inl oc_2_20))]) [1, 0, 2, 3] rfl
        have hD := hD.sub (ws' := [(g 20, .inl (cI, 4, .inl (l4 (nI l0) (nI l1) (nI dm) (nI l3)))), (g 31, .inl (cI, 120, .inl nw)), (mm, .inr (12, mo g (nI ta) (nI pa) (nI pe) pd (nI pb) pp pf pg pn rt rn (nI cd) sn (nI il) tk am at_ aa 0 0 (-1) wt wy 0 (nI rm) (nI ud) (nI nu) sd (nI qn) (nI qw) qo (nI qb) (nI qp) qa (nI qi) (nI (zo + 1)))), (g 90, .inl (cI, 31, .inl oc_2_20))]) [1, 0, 2, 3] (by decide +kernel) rfl
        exact ih_lp_10 (i + 1) (zo + 1) oc_2_20 _ _ _ (by omega) (by omega) (by omega) (by rw [show 3 + (i + 1) = 3 + i + 1 by omega]; exact hi_22) hP hD hS (lv_sub hl [0, 1] rfl)
  exact lp_10 (3 * dm - 0 + 1) 0 3 oc_2_7 _ _ _ (Nat.lt_succ_self _) (by omega) (by omega) (show imR (wn, mN, Ba, We, U, ke) (2 + 1) _ from hi_9) hP hD hS (lv_sub hl [0, 1] rfl)
