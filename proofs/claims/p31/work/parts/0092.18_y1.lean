set_option maxHeartbeats 4000000 in
set_option maxRecDepth 100000 in
theorem c_eTape_add_1600 (l : Launch) (D : va_G) (cI cJ cC cZ cS : ClassId) (h0 : Nat) (k1 : Nat) (tl : Nat) (tb : Nat → Nat) (o : Int32) (htl : tl ≤ 1600) (htb : ∀ j, tb j ≤ 255) : skM l yX10_add cX10_add 2 none 0 0 0 0 D (skT cI cJ cC cZ cS) [.ref h0, .int o] [(h0, .inr (10, [.ref k1, .int (nI tl)])), (k1, .inl (cI, 1600, .inl (fun j => nI (tb j))))] (skV D (skT cI cJ cC cZ cS) (fun (u : va_W) => ∃ (t2 : Nat), ∃ (tb2 : Nat → Nat), ((tl < 1600 ∧ t2 = tl + 1) ∨ (1600 ≤ tl ∧ t2 = tl)) ∧ (∀ j, tb2 j ≤ 255) ∧ (tl < 1600 → tb2 = updN tb tl (lo8 o)) ∧ u = [(h0, .inr (10, [.ref k1, .int (nI t2)])), (k1, .inl (cI, 1600, .inl (fun j => nI (tb2 j))))])) := by
  refine skM_of pf_X10_add (Nat.le_of_ble_eq_true rfl) ?_
  intro p e s m below meth c A ls E hP hD hl
  refine skE_el E (fun hx hb hr hml hlocks hin hown hts hK hA => ?_)
  have hown : s.vm.findClass RX10 = some m.cls := hown
  have hS : va_S A s.heap s.heap [] := va_S.rf
  have hl : lv_has ls 2 [(0, .ref h0), (1, .int o)] := hl
  refine lv_aload_n hx hb dX10_add_0 rfl (lv_at hl 0 rfl) ?_
  refine sk_get (v := .int (nI tl)) (C := RX10) (T := TX10) (N := 2) hx hb hts inlX10 hown hK hP 0 rfl rfl 1 (by decide) w_1_41 rfl dX10_add_1 ?_
  refine lv_aload_n hx hb dX10_add_4 rfl (lv_at hl 0 rfl) ?_
  refine sk_get (v := .ref k1) (C := RX10) (T := TX10) (N := 2) hx hb hts inlX10 hown hK hP 0 rfl rfl 0 (by decide) w_1_39 rfl dX10_add_5 ?_
  refine va_alen (v := 1600) hx hb hK.1 hP 1 0 rfl rfl rfl dX10_add_8 ?_
  refine lv_icmp_ge (tgt := 36) hx hb dX10_add_9 (by decide) (fun c_1 => ?_) (fun c_1 => ?_)
  · have c_1 : 1600 ≤ tl := (nle 1600 tl (by omega) (by omega)).mp c_1
    exact sk_vret hx hb hr hlocks hK hP hD hS (⟨tl, tb, by omega, htb, (fun hq => absurd hq (by omega)), rfl⟩) (Nat.le_of_ble_eq_true rfl) (Nat.le_of_ble_eq_true rfl) dX10_add_36
  · have c_1 : ¬ (1600 ≤ tl) := fun h => c_1 ((nle 1600 tl (by omega) (by omega)).mpr h)
    refine lv_aload_n hx hb dX10_add_12 rfl (lv_at hl 0 rfl) ?_
    refine sk_get (v := .ref k1) (C := RX10) (T := TX10) (N := 2) hx hb hts inlX10 hown hK hP 0 rfl rfl 0 (by decide) w_1_39 rfl dX10_add_13 ?_
    refine lv_aload_n hx hb dX10_add_16 rfl (lv_at hl 0 rfl) ?_
    refine sk_get (v := .int (nI tl)) (C := RX10) (T := TX10) (N := 2) hx hb hts inlX10 hown hK hP 0 rfl rfl 1 (by decide) w_1_41 rfl dX10_add_17 ?_
    refine lv_iload_n hx hb dX10_add_20 rfl (lv_at hl 1 rfl) ?_
    refine lv_sipush (v := 255) hx hb dX10_add_21 (by decide) ?_
    refine lv_iand hx hb dX10_add_24 ?_
    have hlo_2 := lo8_le o
    refine sk_top (nI (lo8 o)) (lo8_eq o) ?_
    refine sk_iastX (k := tl) (v := (lo8 o)) (B := 255) (ws' := fun f_3 => [(h0, .inr (10, [.ref k1, .int (nI tl)])), (k1, .inl (cI, 1600, .inl (fun j => nI (f_3 j))))]) hx hb hK hP hD hS 1 0 rfl rfl (by omega) (by omega) htb (by omega) (fun _ => rfl) dX10_add_25 (fun f_3 H locs hf_4 ef_5 hP hD hS => ?_)
    refine lv_aload_n hx hb dX10_add_26 rfl (lv_at hl 0 rfl) ?_
    refine lv_dup hx hb dX10_add_27 rfl ?_
    refine sk_get (v := .int (nI tl)) (C := RX10) (T := TX10) (N := 2) hx hb hts inlX10 hown hK hP 0 rfl rfl 1 (by decide) w_1_41 rfl dX10_add_28 ?_
    refine lv_iconst (v := 1) hx hb dX10_add_31 (by decide) ?_
    refine lv_iadd hx hb dX10_add_32 ?_
    refine sk_top (nI (tl + 1)) (nI_add tl 1) ?_
    refine sk_put (ws' := [(h0, .inr (10, [.ref k1, .int (nI (tl + 1))])), (k1, .inl (cI, 1600, .inl (fun j => nI (f_3 j))))]) (C := RX10) (T := TX10) (N := 2) (v := .int (nI (tl + 1))) hx hb hts inlX10 tyX10 tyX10_ok nmX10 hown hK hP hD hS 0 rfl rfl 1 (by decide) w_1_41 rfl rfl rfl (Nat.le_of_ble_eq_true rfl) rfl dX10_add_33 (fun H locs hP hD hS => ?_)
    exact sk_vret hx hb hr hlocks hK hP hD hS (⟨tl + 1, f_3, by omega, hf_4, (fun _ => ef_5), rfl⟩) (Nat.le_of_ble_eq_true rfl) (Nat.le_of_ble_eq_true rfl) dX10_add_36
set_option maxHeartbeats 4000000 in
set_option maxRecDepth 100000 in
theorem c_eTape_left_1600 (l : Launch) (D : va_G) (cI cJ cC cZ cS : ClassId) (h0 : Nat) (k1 : Nat) (tl : Nat) (tb : Nat → Nat) (k : Nat) (htl : tl ≤ 1600) (htb : ∀ j, tb j ≤ 255) (hk : k < 1600) : skM l yX10_left cX10_left 2 (some .int) 0 0 0 0 D (skT cI cJ cC cZ cS) [.ref h0, .int (nI k)] [(h0, .inr (10, [.ref k1, .int (nI tl)])), (k1, .inl (cI, 1600, .inl (fun j => nI (tb j))))] (skI D (skT cI cJ cC cZ cS) (fun (r : Int32) (u : va_W) => tb k ≤ 255 ∧ r = nI (tb k) ∧ u = [(h0, .inr (10, [.ref k1, .int (nI tl)])), (k1, .inl (cI, 1600, .inl (fun j => nI (tb j))))])) := by
  refine skM_of pf_X10_left (Nat.le_of_ble_eq_true rfl) ?_
  intro p e s m below meth c A ls E hP hD hl
  refine skE_el E (fun hx hb hr hml hlocks hin hown hts hK hA => ?_)
  have hown : s.vm.findClass RX10 = some m.cls := hown
  have hS : va_S A s.heap s.heap [] := va_S.rf
  have hl : lv_has ls 2 [(0, .ref h0), (1, .int (nI k))] := hl
  refine lv_iload_n hx hb dX10_left_0 rfl (lv_at hl 1 rfl) ?_
  refine lv_if_lt (tgt := 22) hx hb dX10_left_1 (by decide) (fun c => absurd c (nI_pos (by omega))) (fun c_1 => ?_)
  refine lv_iload_n hx hb dX10_left_4 rfl (lv_at hl 1 rfl) ?_
  refine lv_aload_n hx hb dX10_left_5 rfl (lv_at hl 0 rfl) ?_
  refine sk_get (v := .ref k1) (C := RX10) (T := TX10) (N := 2) hx hb hts inlX10 hown hK hP 0 rfl rfl 0 (by decide) w_1_39 rfl dX10_left_6 ?_
  refine va_alen (v := 1600) hx hb hK.1 hP 1 0 rfl rfl rfl dX10_left_9 ?_
  refine lv_icmp_ge (tgt := 22) hx hb dX10_left_10 (by decide) (fun c => absurd c (fun h9 => absurd ((nle 1600 k (by omega) (by omega)).mp h9) (by omega))) (fun c_2 => ?_)
  refine lv_aload_n hx hb dX10_left_13 rfl (lv_at hl 0 rfl) ?_
  refine sk_get (v := .ref k1) (C := RX10) (T := TX10) (N := 2) hx hb hts inlX10 hown hK hP 0 rfl rfl 0 (by decide) w_1_39 rfl dX10_left_14 ?_
  refine lv_iload_n hx hb dX10_left_17 rfl (lv_at hl 1 rfl) ?_
  refine va_iald hx hb hK.1 hP 1 0 rfl rfl (vin k 1600 (by omega) (by omega)) dX10_left_18 ?_
  refine sk_top (nI (tb k)) (nrd tb k (by omega)) ?_
  have hb_3 := htb k
  refine lv_goto (tgt := 23) hx hb dX10_left_19 (by decide) ?_
  exact sk_iret hx hb hr rfl hlocks hK hP hD hS (⟨htb k, rfl, rfl⟩) (Nat.le_of_ble_eq_true rfl) (Nat.le_of_ble_eq_true rfl) dX10_left_23
set_option maxHeartbeats 4000000 in
set_option maxRecDepth 100000 in
theorem c_eTape_checkOf_1600 (l : Launch) (D : va_G) (cI cJ cC cZ cS : ClassId) (h0 : Nat) (k1 : Nat) (tl : Nat) (tb : Nat → Nat) (cn : Nat) (htl : tl ≤ 1600) (htb : ∀ j, tb j ≤ 255) (hcn : cn ≤ 1600) : skM l yX10_checkOf cX10_checkOf 4 (some .int) 1 21 0 0 D (skT cI cJ cC cZ cS) [.ref h0, .int (nI cn)] [(h0, .inr (10, [.ref k1, .int (nI tl)])), (k1, .inl (cI, 1600, .inl (fun j => nI (tb j))))] (skI D (skT cI cJ cC cZ cS) (fun (r : Int32) (u : va_W) => ∃ (ck2 : Nat), ck2 = chkN tb cn ∧ ck2 < 251 ∧ r = nI ck2 ∧ u = [(h0, .inr (10, [.ref k1, .int (nI tl)])), (k1, .inl (cI, 1600, .inl (fun j => nI (tb j))))])) := by
  refine skM_of pf_X10_checkOf (Nat.le_of_ble_eq_true rfl) ?_
  intro p e s m below meth c A ls E hP hD hl
  refine skE_el E (fun hx hb hr hml hlocks hin hown hts hK hA => ?_)
  have hown : s.vm.findClass RX10 = some m.cls := hown
  have hS : va_S A s.heap s.heap [] := va_S.rf
  have hl : lv_has ls 4 [(0, .ref h0), (1, .int (nI cn))] := hl
  refine lv_sipush (v := 139) hx hb dX10_checkOf_0 (by decide) ?_
  refine lv_istore_n (lv' := [(2, .int 139), (0, .ref h0), (1, .int (nI cn))]) hx hb dX10_checkOf_3 rfl hl (by decide) rfl (fun ls hl => ?_)
  refine lv_iconst (v := 0) hx hb dX10_checkOf_4 (by decide) ?_
  refine lv_istore_n (lv' := [(3, .int 0), (2, .int 139), (0, .ref h0), (1, .int (nI cn))]) hx hb dX10_checkOf_5 rfl hl (by decide) rfl (fun ls hl => ?_)
  have lp_1 : ∀ (n_2 : Nat) (i : Nat) (ck : Nat) (H : Heap) (locs : List Loc) (ls : Array Slot), cn - i < n_2 → (i ≤ cn) → (ck < 251) → (ck = chkN tb i) → va_P D vwCl [(h0, .inr (10, [.ref k1, .int (nI tl)])), (k1, .inl (cI, 1600, .inl (fun j => nI (tb j))))] H → va_D A [(h0, .inr (10, [.ref k1, .int (nI tl)])), (k1, .inl (cI, 1600, .inl (fun j => nI (tb j))))] → va_S A s.heap H locs → lv_has ls 4 [(3, .int (nI i)), (2, .int (nI ck)), (0, .ref h0), (1, .int (nI cn))] → W p l e { frames := 1, cells := 0, slots := 0, locals := 21 } s m ([.ref h0, .int (nI cn)] : List Value).toArray below meth c H locs 0 0 (MQ below (skI D (skT cI cJ cC cZ cS) (fun (r : Int32) (u : va_W) => ∃ (ck2 : Nat), ck2 = chkN tb cn ∧ ck2 < 251 ∧ r = nI ck2 ∧ u = [(h0, .inr (10, [.ref k1, .int (nI tl)])), (k1, .inl (cI, 1600, .inl (fun j => nI (tb j))))]) A) ([.ref h0, .int (nI cn)] : List Value).toArray s 0 0 A) (F0 m 6 ls []) := by
    intro n_2
    induction n_2 with
    | zero => intro i ck H locs ls hm; exact absurd hm (Nat.not_lt_zero _)
    | succ n_2 ih_lp_1 =>
      intro i ck H locs ls hm hi hc9 hci hP hD hS hl
      refine lv_iload_n hx hb dX10_checkOf_6 rfl (lv_at hl 0 rfl) ?_
      refine lv_iload_n hx hb dX10_checkOf_7 rfl (lv_at hl 3 rfl) ?_
      refine lv_icmp_ge (tgt := 31) hx hb dX10_checkOf_8 (by decide) (fun c_3 => ?_) (fun c_3 => ?_)
      · have c_3 : cn ≤ i := (nle cn i (by omega) (by omega)).mp c_3
        refine lv_iload_n hx hb dX10_checkOf_31 rfl (lv_at hl 1 rfl) ?_
        exact sk_iret hx hb hr rfl hlocks hK hP hD hS (⟨ck, (by rw [show cn = i by omega]; exact hci), by omega, rfl, rfl⟩) (Nat.le_of_ble_eq_true rfl) (Nat.le_of_ble_eq_true rfl) dX10_checkOf_32
      · have c_3 : ¬ (cn ≤ i) := fun h => c_3 ((nle cn i (by omega) (by omega)).mpr h)
        refine lv_iconst (v := 3) hx hb dX10_checkOf_11 (by decide) ?_
        refine lv_iload_n hx hb dX10_checkOf_12 rfl (lv_at hl 1 rfl) ?_
        refine lv_imul hx hb dX10_checkOf_13 ?_
        refine sk_top (nI (3 * ck)) (nmul 3 ck) ?_
        refine lv_aload_n hx hb dX10_checkOf_14 rfl (lv_at hl 2 rfl) ?_
        refine lv_iload_n hx hb dX10_checkOf_15 rfl (lv_at hl 0 rfl) ?_
        refine sk_Vi (q0 := 0) (n := 1) (rest := [.int (nI (3 * ck))]) (wr := fmR om_2_3 _) ⟨hx, hb, hml, hown, hts⟩ hl.1 (c_eTape_left_1600 l D cI cJ cC cZ cS h0 k1 tl tb i (by omega) htb (by omega)) w_5_132 w_4_215 w_4_216 w_1_2 w_4_217 hd_X10_left_1 ⟨⟨(Nat.le_of_ble_eq_true rfl), (Nat.le_of_ble_eq_true rfl)⟩, (Nat.le_of_ble_eq_true rfl), (Nat.le_of_ble_eq_true rfl)⟩ hK hP hD hS hA (fmT om_2_3 0) (fmF om_2_3 0) (fm_C1 rfl rfl) (fm_R rfl rfl) (fm_nT om_2_3 0) (fm_nF om_2_3 0) (fm_di om_2_3 0) rfl rfl rfl rfl (Nat.le_of_ble_eq_true rfl) dX10_checkOf_16 (fun r_4 u H locs hw hP hD hS => ?_)
        refine anE hw (fun hv_5 hw1 => anE hw1 (fun er_7 eu_6 => ?_))
        clear hw hw1
        subst er_7
        refine o_mgE (ws' := [(h0, .inr (10, [.ref k1, .int (nI tl)])), (k1, .inl (cI, 1600, .inl (fun j => nI (tb j))))]) eu_6 hP hD rfl (fun hP hD => ?_)
        refine lv_iadd hx hb dX10_checkOf_19 ?_
        refine sk_top (nI (3 * ck + (tb i))) (nI_add (3 * ck) (tb i)) ?_
        refine lv_sipush (v := 251) hx hb dX10_checkOf_20 (by decide) ?_
        refine lv_irem hx hb dX10_checkOf_23 (by decide) ?_
        refine sk_top (nI ((3 * ck + (tb i)) % 251)) (nrem (3 * ck + (tb i)) 251 (by omega) (by omega) (by omega)) ?_
        refine lv_istore_n (lv' := [(2, .int (nI ((3 * ck + (tb i)) % 251))), (3, .int (nI i)), (0, .ref h0), (1, .int (nI cn))]) hx hb dX10_checkOf_24 rfl hl (by decide) rfl (fun ls hl => ?_)
        refine lv_iinc (v := nI (i + 1)) (lv' := [(3, .int (nI (i + 1))), (2, .int (nI ((3 * ck + (tb i)) % 251))), (0, .ref h0), (1, .int (nI cn))]) hx hb dX10_checkOf_25 hl (k := 1) rfl (ninc i 1 (by decide)) (by decide) rfl (fun ls hl => ?_)
        refine lv_goto (tgt := 6) hx hb dX10_checkOf_28 (by decide) ?_
        exact ih_lp_1 (i + 1) ((3 * ck + (tb i)) % 251) _ _ _ (by omega) (by omega) (by omega) (by rw [chkN, ← hci]) hP hD hS (lv_sub hl [0, 1, 2, 3] rfl)
  exact lp_1 (cn - 0 + 1) 0 139 _ _ _ (Nat.lt_succ_self _) (by omega) (by omega) rfl hP hD hS (lv_sub hl [0, 1, 2, 3] rfl)
set_option maxHeartbeats 4000000 in
set_option maxRecDepth 100000 in
theorem c_eTape_add_31 (l : Launch) (D : va_G) (cI cJ cC cZ cS : ClassId) (h0 : Nat) (k1 : Nat) (tl : Nat) (tb : Nat → Nat) (o : Int32) (htl : tl ≤ 31) (htb : ∀ j, tb j ≤ 255) : skM l yX10_add cX10_add 2 none 0 0 0 0 D (skT cI cJ cC cZ cS) [.ref h0, .int o] [(h0, .inr (10, [.ref k1, .int (nI tl)])), (k1, .inl (cI, 31, .inl (fun j => nI (tb j))))] (skV D (skT cI cJ cC cZ cS) (fun (u : va_W) => ∃ (t2 : Nat), ∃ (tb2 : Nat → Nat), ((tl < 31 ∧ t2 = tl + 1) ∨ (31 ≤ tl ∧ t2 = tl)) ∧ (∀ j, tb2 j ≤ 255) ∧ (tl < 31 → tb2 = updN tb tl (lo8 o)) ∧ u = [(h0, .inr (10, [.ref k1, .int (nI t2)])), (k1, .inl (cI, 31, .inl (fun j => nI (tb2 j))))])) := by
  refine skM_of pf_X10_add (Nat.le_of_ble_eq_true rfl) ?_
  intro p e s m below meth c A ls E hP hD hl
  refine skE_el E (fun hx hb hr hml hlocks hin hown hts hK hA => ?_)
  have hown : s.vm.findClass RX10 = some m.cls := hown
  have hS : va_S A s.heap s.heap [] := va_S.rf
  have hl : lv_has ls 2 [(0, .ref h0), (1, .int o)] := hl
  refine lv_aload_n hx hb dX10_add_0 rfl (lv_at hl 0 rfl) ?_
  refine sk_get (v := .int (nI tl)) (C := RX10) (T := TX10) (N := 2) hx hb hts inlX10 hown hK hP 0 rfl rfl 1 (by decide) w_1_41 rfl dX10_add_1 ?_
  refine lv_aload_n hx hb dX10_add_4 rfl (lv_at hl 0 rfl) ?_
  refine sk_get (v := .ref k1) (C := RX10) (T := TX10) (N := 2) hx hb hts inlX10 hown hK hP 0 rfl rfl 0 (by decide) w_1_39 rfl dX10_add_5 ?_
  refine va_alen (v := 31) hx hb hK.1 hP 1 0 rfl rfl rfl dX10_add_8 ?_
  refine lv_icmp_ge (tgt := 36) hx hb dX10_add_9 (by decide) (fun c_1 => ?_) (fun c_1 => ?_)
  · have c_1 : 31 ≤ tl := (nle 31 tl (by omega) (by omega)).mp c_1
    exact sk_vret hx hb hr hlocks hK hP hD hS (⟨tl, tb, by omega, htb, (fun hq => absurd hq (by omega)), rfl⟩) (Nat.le_of_ble_eq_true rfl) (Nat.le_of_ble_eq_true rfl) dX10_add_36
  · have c_1 : ¬ (31 ≤ tl) := fun h => c_1 ((nle 31 tl (by omega) (by omega)).mpr h)
    refine lv_aload_n hx hb dX10_add_12 rfl (lv_at hl 0 rfl) ?_
    refine sk_get (v := .ref k1) (C := RX10) (T := TX10) (N := 2) hx hb hts inlX10 hown hK hP 0 rfl rfl 0 (by decide) w_1_39 rfl dX10_add_13 ?_
    refine lv_aload_n hx hb dX10_add_16 rfl (lv_at hl 0 rfl) ?_
    refine sk_get (v := .int (nI tl)) (C := RX10) (T := TX10) (N := 2) hx hb hts inlX10 hown hK hP 0 rfl rfl 1 (by decide) w_1_41 rfl dX10_add_17 ?_
    refine lv_iload_n hx hb dX10_add_20 rfl (lv_at hl 1 rfl) ?_
    refine lv_sipush (v := 255) hx hb dX10_add_21 (by decide) ?_
    refine lv_iand hx hb dX10_add_24 ?_
    have hlo_2 := lo8_le o
    refine sk_top (nI (lo8 o)) (lo8_eq o) ?_
    refine sk_iastX (k := tl) (v := (lo8 o)) (B := 255) (ws' := fun f_3 => [(h0, .inr (10, [.ref k1, .int (nI tl)])), (k1, .inl (cI, 31, .inl (fun j => nI (f_3 j))))]) hx hb hK hP hD hS 1 0 rfl rfl (by omega) (by omega) htb (by omega) (fun _ => rfl) dX10_add_25 (fun f_3 H locs hf_4 ef_5 hP hD hS => ?_)
    refine lv_aload_n hx hb dX10_add_26 rfl (lv_at hl 0 rfl) ?_
    refine lv_dup hx hb dX10_add_27 rfl ?_
    refine sk_get (v := .int (nI tl)) (C := RX10) (T := TX10) (N := 2) hx hb hts inlX10 hown hK hP 0 rfl rfl 1 (by decide) w_1_41 rfl dX10_add_28 ?_
    refine lv_iconst (v := 1) hx hb dX10_add_31 (by decide) ?_
    refine lv_iadd hx hb dX10_add_32 ?_
    refine sk_top (nI (tl + 1)) (nI_add tl 1) ?_
    refine sk_put (ws' := [(h0, .inr (10, [.ref k1, .int (nI (tl + 1))])), (k1, .inl (cI, 31, .inl (fun j => nI (f_3 j))))]) (C := RX10) (T := TX10) (N := 2) (v := .int (nI (tl + 1))) hx hb hts inlX10 tyX10 tyX10_ok nmX10 hown hK hP hD hS 0 rfl rfl 1 (by decide) w_1_41 rfl rfl rfl (Nat.le_of_ble_eq_true rfl) rfl dX10_add_33 (fun H locs hP hD hS => ?_)
    exact sk_vret hx hb hr hlocks hK hP hD hS (⟨tl + 1, f_3, by omega, hf_4, (fun _ => ef_5), rfl⟩) (Nat.le_of_ble_eq_true rfl) (Nat.le_of_ble_eq_true rfl) dX10_add_36
set_option maxHeartbeats 4000000 in
set_option maxRecDepth 100000 in
theorem c_eTape_left_31 (l : Launch) (D : va_G) (cI cJ cC cZ cS : ClassId) (h0 : Nat) (k1 : Nat) (tl : Nat) (tb : Nat → Nat) (k : Nat) (htl : tl ≤ 31) (htb : ∀ j, tb j ≤ 255) (hk : k < 31) : skM l yX10_left cX10_left 2 (some .int) 0 0 0 0 D (skT cI cJ cC cZ cS) [.ref h0, .int (nI k)] [(h0, .inr (10, [.ref k1, .int (nI tl)])), (k1, .inl (cI, 31, .inl (fun j => nI (tb j))))] (skI D (skT cI cJ cC cZ cS) (fun (r : Int32) (u : va_W) => tb k ≤ 255 ∧ r = nI (tb k) ∧ u = [(h0, .inr (10, [.ref k1, .int (nI tl)])), (k1, .inl (cI, 31, .inl (fun j => nI (tb j))))])) := by
  refine skM_of pf_X10_left (Nat.le_of_ble_eq_true rfl) ?_
  intro p e s m below meth c A ls E hP hD hl
  refine skE_el E (fun hx hb hr hml hlocks hin hown hts hK hA => ?_)
  have hown : s.vm.findClass RX10 = some m.cls := hown
  have hS : va_S A s.heap s.heap [] := va_S.rf
  have hl : lv_has ls 2 [(0, .ref h0), (1, .int (nI k))] := hl
  refine lv_iload_n hx hb dX10_left_0 rfl (lv_at hl 1 rfl) ?_
  refine lv_if_lt (tgt := 22) hx hb dX10_left_1 (by decide) (fun c => absurd c (nI_pos (by omega))) (fun c_1 => ?_)
  refine lv_iload_n hx hb dX10_left_4 rfl (lv_at hl 1 rfl) ?_
  refine lv_aload_n hx hb dX10_left_5 rfl (lv_at hl 0 rfl) ?_
  refine sk_get (v := .ref k1) (C := RX10) (T := TX10) (N := 2) hx hb hts inlX10 hown hK hP 0 rfl rfl 0 (by decide) w_1_39 rfl dX10_left_6 ?_
  refine va_alen (v := 31) hx hb hK.1 hP 1 0 rfl rfl rfl dX10_left_9 ?_
  refine lv_icmp_ge (tgt := 22) hx hb dX10_left_10 (by decide) (fun c => absurd c (fun h9 => absurd ((nle 31 k (by omega) (by omega)).mp h9) (by omega))) (fun c_2 => ?_)
  refine lv_aload_n hx hb dX10_left_13 rfl (lv_at hl 0 rfl) ?_
  refine sk_get (v := .ref k1) (C := RX10) (T := TX10) (N := 2) hx hb hts inlX10 hown hK hP 0 rfl rfl 0 (by decide) w_1_39 rfl dX10_left_14 ?_
  refine lv_iload_n hx hb dX10_left_17 rfl (lv_at hl 1 rfl) ?_
  refine va_iald hx hb hK.1 hP 1 0 rfl rfl (vin k 31 (by omega) (by omega)) dX10_left_18 ?_
  refine sk_top (nI (tb k)) (nrd tb k (by omega)) ?_
  have hb_3 := htb k
  refine lv_goto (tgt := 23) hx hb dX10_left_19 (by decide) ?_
  exact sk_iret hx hb hr rfl hlocks hK hP hD hS (⟨htb k, rfl, rfl⟩) (Nat.le_of_ble_eq_true rfl) (Nat.le_of_ble_eq_true rfl) dX10_left_23
