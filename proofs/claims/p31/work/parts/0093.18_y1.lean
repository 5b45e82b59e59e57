set_option maxHeartbeats 4000000 in
set_option maxRecDepth 100000 in
theorem c_eTape_checkOf_31 (l : Launch) (D : va_G) (cI cJ cC cZ cS : ClassId) (h0 : Nat) (k1 : Nat) (tl : Nat) (tb : Nat → Nat) (cn : Nat) (htl : tl ≤ 31) (htb : ∀ j, tb j ≤ 255) (hcn : cn ≤ 31) : skM l yX10_checkOf cX10_checkOf 4 (some .int) 1 21 0 0 D (skT cI cJ cC cZ cS) [.ref h0, .int (nI cn)] [(h0, .inr (10, [.ref k1, .int (nI tl)])), (k1, .inl (cI, 31, .inl (fun j => nI (tb j))))] (skI D (skT cI cJ cC cZ cS) (fun (r : Int32) (u : va_W) => ∃ (ck2 : Nat), ck2 = chkN tb cn ∧ ck2 < 251 ∧ r = nI ck2 ∧ u = [(h0, .inr (10, [.ref k1, .int (nI tl)])), (k1, .inl (cI, 31, .inl (fun j => nI (tb j))))])) := by
  refine skM_of pf_X10_checkOf (Nat.le_of_ble_eq_true rfl) ?_
  intro p e s m below meth c A ls E hP hD hl
  refine skE_el E (fun hx hb hr hml hlocks hin hown hts hK hA => ?_)
  have hown : s.vm.findClass RX10 = some m.cls := hown
  have hS : va_S A s.heap s.heap [] := va_S.rf
  have hl : lv_has ls 4 [(0, .ref h0), (1, .int (nI cn))] := hl
  refine lv_sipush (v := 139) hx hb dX10_checkOf_0 (by decide) ?_
  refine lv_istore_n (lv' := [(2, .int 139), (0, .ref h0), (1, .int (nI cn))]) hx hb dX10_checkOf_3 rfl hl (by decide) rfl (fun ls hl => ?_)
  refine lv_iconst (v := 0) hx hb dX10_checkOf_4 (by decide) ?_
  refine lv_istore_n (lv' := [(3, .int 0), (2, .int 139), (0, .ref h0), (1, .int (nI cn))]) hx hb dX10_checkOf_5 rfl hl (by decide) rfl (fun ls hl => ?_)
  have lp_1 : ∀ (n_2 : Nat) (i : Nat) (ck : Nat) (H : Heap) (locs : List Loc) (ls : Array Slot), cn - i < n_2 → (i ≤ cn) → (ck < 251) → (ck = chkN tb i) → va_P D vwCl [(h0, .inr (10, [.ref k1, .int (nI tl)])), (k1, .inl (cI, 31, .inl (fun j => nI (tb j))))] H → va_D A [(h0, .inr (10, [.ref k1, .int (nI tl)])), (k1, .inl (cI, 31, .inl (fun j => nI (tb j))))] → va_S A s.heap H locs → lv_has ls 4 [(3, .int (nI i)), (2, .int (nI ck)), (0, .ref h0), (1, .int (nI cn))] → W p l e { frames := 1, cells := 0, slots := 0, locals := 21 } s m ([.ref h0, .int (nI cn)] : List Value).toArray below meth c H locs 0 0 (MQ below (skI D (skT cI cJ cC cZ cS) (fun (r : Int32) (u : va_W) => ∃ (ck2 : Nat), ck2 = chkN tb cn ∧ ck2 < 251 ∧ r = nI ck2 ∧ u = [(h0, .inr (10, [.ref k1, .int (nI tl)])), (k1, .inl (cI, 31, .inl (fun j => nI (tb j))))]) A) ([.ref h0, .int (nI cn)] : List Value).toArray s 0 0 A) (F0 m 6 ls []) := by
    intro n_2
    induction n_2 with
    | zero => intro i ck H locs ls hm; exact absurd hm (Nat.not_lt_zero _)
    | succ n_2 ih_lp_1 =>
      intro i ck H locs ls hm hi hc9 hci hP hD hS hl
      refine lv_iload_n hx hb dX10_checkOf_6 rfl (lv_at hl 0 rfl) ?_
      refine lv_iload_n hx hb dX10_checkOf_7 rfl (lv_at hl 3 rfl) ?_
      refine lv_icmp_ge (tgt := 31) hx hb dX10_checkOf_8 (by decide) (fun c_3 => ?_) (fun c_3 => ?_)
      · have c_3 : cn ≤ i := (nle cn i (by omega) (by omega)).mp c_3
        refine lv_iload_n hx hb dX10_checkOf_31 rfl (lv_at hl 1 rfl) ?_
        exact sk_iret hx hb hr rfl hlocks hK hP hD hS (⟨ck, (by rw [show cn = i by omega]; exact hci), by omega, rfl, rfl⟩) (Nat.le_of_ble_eq_true rfl) (Nat.le_of_ble_eq_true rfl) dX10_checkOf_32
      · have c_3 : ¬ (cn ≤ i) := fun h => c_3 ((nle cn i (by omega) (by omega)).mpr h)
        refine lv_iconst (v := 3) hx hb dX10_checkOf_11 (by decide) ?_
        refine lv_iload_n hx hb dX10_checkOf_12 rfl (lv_at hl 1 rfl) ?_
        refine lv_imul hx hb dX10_checkOf_13 ?_
        refine sk_top (nI (3 * ck)) (nmul 3 ck) ?_
        refine lv_aload_n hx hb dX10_checkOf_14 rfl (lv_at hl 2 rfl) ?_
        refine lv_iload_n hx hb dX10_checkOf_15 rfl (lv_at hl 0 rfl) ?_
        refine sk_Vi (q0 := 0) (n := 1) (rest := [.int (nI (3 * ck))]) (wr := fmR om_2_3 _) ⟨hx, hb, hml, hown, hts⟩ hl.1 (c_eTape_left_31 l D cI cJ cC cZ cS h0 k1 tl tb i (by omega) htb (by omega)) w_5_132 w_4_215 w_4_216 w_1_2 w_4_217 hd_X10_left_1 ⟨⟨(Nat.le_of_ble_eq_true rfl), (Nat.le_of_ble_eq_true rfl)⟩, (Nat.le_of_ble_eq_true rfl), (Nat.le_of_ble_eq_true rfl)⟩ hK hP hD hS hA (fmT om_2_3 0) (fmF om_2_3 0) (fm_C1 rfl rfl) (fm_R rfl rfl) (fm_nT om_2_3 0) (fm_nF om_2_3 0) (fm_di om_2_3 0) rfl rfl rfl rfl (Nat.le_of_ble_eq_true rfl) dX10_checkOf_16 (fun r_4 u H locs hw hP hD hS => ?_)
        refine anE hw (fun hv_5 hw1 => anE hw1 (fun er_7 eu_6 => ?_))
        clear hw hw1
        subst er_7
        refine o_mgE (ws' := [(h0, .inr (10, [.ref k1, .int (nI tl)])), (k1, .inl (cI, 31, .inl (fun j => nI (tb j))))]) eu_6 hP hD rfl (fun hP hD => ?_)
        refine lv_iadd hx hb dX10_checkOf_19 ?_
        refine sk_top (nI (3 * ck + (tb i))) (nI_add (3 * ck) (tb i)) ?_
        refine lv_sipush (v := 251) hx hb dX10_checkOf_20 (by decide) ?_
        refine lv_irem hx hb dX10_checkOf_23 (by decide) ?_
        refine sk_top (nI ((3 * ck + (tb i)) % 251)) (nrem (3 * ck + (tb i)) 251 (by omega) (by omega) (by omega)) ?_
        refine lv_istore_n (lv' := [(2, .int (nI ((3 * ck + (tb i)) % 251))), (3, .int (nI i)), (0, .ref h0), (1, .int (nI cn))]) hx hb dX10_checkOf_24 rfl hl (by decide) rfl (fun ls hl => ?_)
        refine lv_iinc (v := nI (i + 1)) (lv' := [(3, .int (nI (i + 1))), (2, .int (nI ((3 * ck + (tb i)) % 251))), (0, .ref h0), (1, .int (nI cn))]) hx hb dX10_checkOf_25 hl (k := 1) rfl (ninc i 1 (by decide)) (by decide) rfl (fun ls hl => ?_)
        refine lv_goto (tgt := 6) hx hb dX10_checkOf_28 (by decide) ?_
        exact ih_lp_1 (i + 1) ((3 * ck + (tb i)) % 251) _ _ _ (by omega) (by omega) (by omega) (by rw [chkN, ← hci]) hP hD hS (lv_sub hl [0, 1, 2, 3] rfl)
  exact lp_1 (cn - 0 + 1) 0 139 _ _ _ (Nat.lt_succ_self _) (by omega) (by omega) rfl hP hD hS (lv_sub hl [0, 1, 2, 3] rfl)
set_option maxHeartbeats 4000000 in
set_option maxRecDepth 100000 in
theorem c_eTape_addNumber (l : Launch) (D : va_G) (cI cJ cC cZ cS : ClassId) (h0 : Nat) (k1 : Nat) (tl : Nat) (tb : Nat → Nat) (o : Int32) (htl : tl ≤ 1600) (htb : ∀ j, tb j ≤ 255) : skM l yX10_addNumber cX10_addNumber 2 none 1 21 0 0 D (skT cI cJ cC cZ cS) [.ref h0, .int o] [(h0, .inr (10, [.ref k1, .int (nI tl)])), (k1, .inl (cI, 1600, .inl (fun j => nI (tb j))))] (skV D (skT cI cJ cC cZ cS) (fun (u : va_W) => ∃ (t2 : Nat), ∃ (tb2 : Nat → Nat), ((tl ≤ 1596 → t2 = tl + 4)) ∧ t2 ≤ 1600 ∧ (∀ j, tb2 j ≤ 255) ∧ (tl ≤ 1596 → tb2 = add4 tb tl o) ∧ u = [(h0, .inr (10, [.ref k1, .int (nI t2)])), (k1, .inl (cI, 1600, .inl (fun j => nI (tb2 j))))])) := by
  refine skM_of pf_X10_addNumber (Nat.le_of_ble_eq_true rfl) ?_
  intro p e s m below meth c A ls E hP hD hl
  refine skE_el E (fun hx hb hr hml hlocks hin hown hts hK hA => ?_)
  have hown : s.vm.findClass RX10 = some m.cls := hown
  have hS : va_S A s.heap s.heap [] := va_S.rf
  have hl : lv_has ls 2 [(0, .ref h0), (1, .int o)] := hl
  refine lv_aload_n hx hb dX10_addNumber_0 rfl (lv_at hl 0 rfl) ?_
  refine lv_iload_n hx hb dX10_addNumber_1 rfl (lv_at hl 1 rfl) ?_
  refine lv_bipush (v := 24) hx hb dX10_addNumber_2 (by decide) ?_
  refine lv_iushr hx hb dX10_addNumber_4 rfl ?_
  refine sk_Vv (q0 := 0) (n := 1) (rest := []) (wr := fmR om_2_3 _) ⟨hx, hb, hml, hown, hts⟩ hl.1 (c_eTape_add_1600 l D cI cJ cC cZ cS h0 k1 tl tb (((o).toUInt32 >>> ((24 : Int32).toUInt32 &&& Int32.toUInt32 31)).toInt32) (by omega) htb) w_2_190 w_2_191 w_2_192 w_1_2 w_2_193 hd_X10_add_1 ⟨⟨(Nat.le_of_ble_eq_true rfl), (Nat.le_of_ble_eq_true rfl)⟩, (Nat.le_of_ble_eq_true rfl), (Nat.le_of_ble_eq_true rfl)⟩ hK hP hD hS hA (fmT om_2_3 0) (fmF om_2_3 0) (fm_C1 rfl rfl) (fm_R rfl rfl) (fm_nT om_2_3 0) (fm_nF om_2_3 0) (fm_di om_2_3 0) rfl rfl rfl rfl (Nat.le_of_ble_eq_true rfl) dX10_addNumber_5 (fun u H locs hw hP hD hS => ?_)
  refine exE hw (fun t2_1 hw1 => exE hw1 (fun tb2_2 hw2 => anE hw2 (fun ht2_3 hw3 => anE hw3 (fun htb2_4 hw4 => anE hw4 (fun hup_5 eu_6 => ?_)))))
  clear hw hw1 hw2 hw3 hw4
  refine o_mgE (ws' := [(h0, .inr (10, [.ref k1, .int (nI t2_1)])), (k1, .inl (cI, 1600, .inl (fun j => nI (tb2_2 j))))]) eu_6 hP hD rfl (fun hP hD => ?_)
  refine lv_aload_n hx hb dX10_addNumber_8 rfl (lv_at hl 0 rfl) ?_
  refine lv_iload_n hx hb dX10_addNumber_9 rfl (lv_at hl 1 rfl) ?_
  refine lv_bipush (v := 16) hx hb dX10_addNumber_10 (by decide) ?_
  refine lv_iushr hx hb dX10_addNumber_12 rfl ?_
  refine sk_Vv (q0 := 0) (n := 1) (rest := []) (wr := fmR om_2_3 _) ⟨hx, hb, hml, hown, hts⟩ hl.1 (c_eTape_add_1600 l D cI cJ cC cZ cS h0 k1 t2_1 tb2_2 (((o).toUInt32 >>> ((16 : Int32).toUInt32 &&& Int32.toUInt32 31)).toInt32) (by omega) htb2_4) w_2_190 w_2_191 w_2_192 w_1_2 w_2_193 hd_X10_add_1 ⟨⟨(Nat.le_of_ble_eq_true rfl), (Nat.le_of_ble_eq_true rfl)⟩, (Nat.le_of_ble_eq_true rfl), (Nat.le_of_ble_eq_true rfl)⟩ hK hP hD hS hA (fmT om_2_3 0) (fmF om_2_3 0) (fm_C1 rfl rfl) (fm_R rfl rfl) (fm_nT om_2_3 0) (fm_nF om_2_3 0) (fm_di om_2_3 0) rfl rfl rfl rfl (Nat.le_of_ble_eq_true rfl) dX10_addNumber_13 (fun u H locs hw hP hD hS => ?_)
  refine exE hw (fun t2_7 hw1 => exE hw1 (fun tb2_8 hw2 => anE hw2 (fun ht2_9 hw3 => anE hw3 (fun htb2_10 hw4 => anE hw4 (fun hup_11 eu_12 => ?_)))))
  clear hw hw1 hw2 hw3 hw4
  refine o_mgE (ws' := [(h0, .inr (10, [.ref k1, .int (nI t2_7)])), (k1, .inl (cI, 1600, .inl (fun j => nI (tb2_8 j))))]) eu_12 hP hD rfl (fun hP hD => ?_)
  refine lv_aload_n hx hb dX10_addNumber_16 rfl (lv_at hl 0 rfl) ?_
  refine lv_iload_n hx hb dX10_addNumber_17 rfl (lv_at hl 1 rfl) ?_
  refine lv_bipush (v := 8) hx hb dX10_addNumber_18 (by decide) ?_
  refine lv_iushr hx hb dX10_addNumber_20 rfl ?_
  refine sk_Vv (q0 := 0) (n := 1) (rest := []) (wr := fmR om_2_3 _) ⟨hx, hb, hml, hown, hts⟩ hl.1 (c_eTape_add_1600 l D cI cJ cC cZ cS h0 k1 t2_7 tb2_8 (((o).toUInt32 >>> ((8 : Int32).toUInt32 &&& Int32.toUInt32 31)).toInt32) (by omega) htb2_10) w_2_190 w_2_191 w_2_192 w_1_2 w_2_193 hd_X10_add_1 ⟨⟨(Nat.le_of_ble_eq_true rfl), (Nat.le_of_ble_eq_true rfl)⟩, (Nat.le_of_ble_eq_true rfl), (Nat.le_of_ble_eq_true rfl)⟩ hK hP hD hS hA (fmT om_2_3 0) (fmF om_2_3 0) (fm_C1 rfl rfl) (fm_R rfl rfl) (fm_nT om_2_3 0) (fm_nF om_2_3 0) (fm_di om_2_3 0) rfl rfl rfl rfl (Nat.le_of_ble_eq_true rfl) dX10_addNumber_21 (fun u H locs hw hP hD hS => ?_)
  refine exE hw (fun t2_13 hw1 => exE hw1 (fun tb2_14 hw2 => anE hw2 (fun ht2_15 hw3 => anE hw3 (fun htb2_16 hw4 => anE hw4 (fun hup_17 eu_18 => ?_)))))
  clear hw hw1 hw2 hw3 hw4
  refine o_mgE (ws' := [(h0, .inr (10, [.ref k1, .int (nI t2_13)])), (k1, .inl (cI, 1600, .inl (fun j => nI (tb2_14 j))))]) eu_18 hP hD rfl (fun hP hD => ?_)
  refine lv_aload_n hx hb dX10_addNumber_24 rfl (lv_at hl 0 rfl) ?_
  refine lv_iload_n hx hb dX10_addNumber_25 rfl (lv_at hl 1 rfl) ?_
  refine sk_Vv (q0 := 0) (n := 1) (rest := []) (wr := fmR om_2_3 _) ⟨hx, hb, hml, hown, hts⟩ hl.1 (c_eTape_add_1600 l D cI cJ cC cZ cS h0 k1 t2_13 tb2_14 o (by omega) htb2_16) w_2_190 w_2_191 w_2_192 w_1_2 w_2_193 hd_X10_add_1 ⟨⟨(Nat.le_of_ble_eq_true rfl), (Nat.le_of_ble_eq_true rfl)⟩, (Nat.le_of_ble_eq_true rfl), (Nat.le_of_ble_eq_true rfl)⟩ hK hP hD hS hA (fmT om_2_3 0) (fmF om_2_3 0) (fm_C1 rfl rfl) (fm_R rfl rfl) (fm_nT om_2_3 0) (fm_nF om_2_3 0) (fm_di om_2_3 0) rfl rfl rfl rfl (Nat.le_of_ble_eq_true rfl) dX10_addNumber_26 (fun u H locs hw hP hD hS => ?_)
  refine exE hw (fun t2_19 hw1 => exE hw1 (fun tb2_20 hw2 => anE hw2 (fun ht2_21 hw3 => anE hw3 (fun htb2_22 hw4 => anE hw4 (fun hup_23 eu_24 => ?_)))))
  clear hw hw1 hw2 hw3 hw4
  refine o_mgE (ws' := [(h0, .inr (10, [.ref k1, .int (nI t2_19)])), (k1, .inl (cI, 1600, .inl (fun j => nI (tb2_20 j))))]) eu_24 hP hD rfl (fun hP hD => ?_)
  exact sk_vret hx hb hr hlocks hK hP hD hS (⟨t2_19, tb2_20, by omega, by omega, htb2_22, (fun hq => by rw [hup_23 (by omega), hup_17 (by omega), hup_11 (by omega), hup_5 (by omega), by_24, by_16, by_8, by_0 o, show t2_1 = tl + 1 by omega, show t2_7 = tl + 2 by omega, show t2_13 = tl + 3 by omega]; rfl), rfl⟩) (Nat.le_of_ble_eq_true rfl) (Nat.le_of_ble_eq_true rfl) dX10_addNumber_29

