set_option maxHeartbeats 4000000 in
set_option maxRecDepth 100000 in
theorem c_ktakeFirst (l : Launch) (D : va_G) (cI cJ cC cZ cS : ClassId) (q : Nat → Nat) (gd : Nat) (gs : Nat) (e1 : Nat → Int32) (e2 : Nat → Int32) (e3 : Nat → Int32) (rw : Nat) (ra : Nat → Int32) (Ed : Nat → Nat → Nat → Bool) (hgd : gd ≤ 9) (hgs : gs ≤ 9) (hld : kcLd Ed gd e1 e2) (hlv : kcLv Ed gd 0 e3) (hgo : 0 < kcC Ed gd 0 gs) : skM l yX1_takeFirst cX1_takeFirst 4 none 1 22 0 0 D (skT cI cJ cC cZ cS) [.ref (q 11), .ref rw] [(q 11, .inr (1, [.ref (q 10), .ref (q 67), .ref (q 68), .ref (q 69), .ref (q 70), .ref (q 71), .ref (q 72), .int (nI gd), .int (nI gs)])), (q 67, .inl (cI, 90, .inl e1)), (q 68, .inl (cI, 9, .inl e2)), (q 69, .inl (cI, 10, .inl e3)), (rw, .inl (cI, 9, .inl ra))] (skV D (skT cI cJ cC cZ cS) (fun (u : va_W) => ∃ (ra2 : Nat → Int32), kcRw Ed gd gs 0 gd ra2 ∧ u = [(q 11, .inr (1, [.ref (q 10), .ref (q 67), .ref (q 68), .ref (q 69), .ref (q 70), .ref (q 71), .ref (q 72), .int (nI gd), .int (nI gs)])), (q 67, .inl (cI, 90, .inl e1)), (q 68, .inl (cI, 9, .inl e2)), (q 69, .inl (cI, 10, .inl e3)), (rw, .inl (cI, 9, .inl ra2))])) := by
  refine skM_of pf_X1_takeFirst (Nat.le_of_ble_eq_true rfl) ?_
  intro p e s m below meth c A ls E hP hD hl
  refine skE_el E (fun hx hb hr hml hlocks hin hown hts hK hA => ?_)
  have hown : s.vm.findClass RX1 = some m.cls := hown
  have hS : va_S A s.heap s.heap [] := va_S.rf
  have hl : lv_has ls 4 [(0, .ref (q 11)), (1, .ref rw)] := hl
  refine lv_aload_n hx hb dX1_takeFirst_0 rfl (lv_at hl 0 rfl) ?_
  refine sk_get (v := .int (nI gs)) (C := RX1) (T := TX1) (N := 9) hx hb hts inlX1 hown hK hP 0 rfl rfl 8 (by decide) w_2_103 rfl dX1_takeFirst_1 ?_
  refine lv_istore_n (lv' := [(2, .int (nI gs)), (0, .ref (q 11)), (1, .ref rw)]) hx hb dX1_takeFirst_4 rfl hl (by decide) rfl (fun ls hl => ?_)
  refine lv_iconst (v := 0) hx hb dX1_takeFirst_5 (by decide) ?_
  refine lv_istore_n (lv' := [(3, .int 0), (2, .int (nI gs)), (0, .ref (q 11)), (1, .ref rw)]) hx hb dX1_takeFirst_6 rfl hl (by decide) rfl (fun ls hl => ?_)
  have lp_1 : ∀ (n_2 : Nat) (i : Nat) (ah : Nat) (rb : Nat → Int32) (H : Heap) (locs : List Loc) (ls : Array Slot), gd - i < n_2 → (i ≤ gd) → (ah < 10) → ((kcA Ed gd gs 0 i).1 = ah) → ((kcA Ed gd gs 0 i).2 = 0) → (kcRw Ed gd gs 0 i rb) → va_P D vwCl [(q 11, .inr (1, [.ref (q 10), .ref (q 67), .ref (q 68), .ref (q 69), .ref (q 70), .ref (q 71), .ref (q 72), .int (nI gd), .int (nI gs)])), (q 67, .inl (cI, 90, .inl e1)), (q 68, .inl (cI, 9, .inl e2)), (q 69, .inl (cI, 10, .inl e3)), (rw, .inl (cI, 9, .inl rb))] H → va_D A [(q 11, .inr (1, [.ref (q 10), .ref (q 67), .ref (q 68), .ref (q 69), .ref (q 70), .ref (q 71), .ref (q 72), .int (nI gd), .int (nI gs)])), (q 67, .inl (cI, 90, .inl e1)), (q 68, .inl (cI, 9, .inl e2)), (q 69, .inl (cI, 10, .inl e3)), (rw, .inl (cI, 9, .inl rb))] → va_S A s.heap H locs → lv_has ls 4 [(3, .int (nI i)), (2, .int (nI ah)), (0, .ref (q 11)), (1, .ref rw)] → W p l e { frames := 1, cells := 0, slots := 0, locals := 22 } s m ([.ref (q 11), .ref rw] : List Value).toArray below meth c H locs 0 0 (MQ below (skV D (skT cI cJ cC cZ cS) (fun (u : va_W) => ∃ (ra2 : Nat → Int32), kcRw Ed gd gs 0 gd ra2 ∧ u = [(q 11, .inr (1, [.ref (q 10), .ref (q 67), .ref (q 68), .ref (q 69), .ref (q 70), .ref (q 71), .ref (q 72), .int (nI gd), .int (nI gs)])), (q 67, .inl (cI, 90, .inl e1)), (q 68, .inl (cI, 9, .inl e2)), (q 69, .inl (cI, 10, .inl e3)), (rw, .inl (cI, 9, .inl ra2))]) A) ([.ref (q 11), .ref rw] : List Value).toArray s 0 0 A) (F0 m 7 ls []) := by
    intro n_2
    induction n_2 with
    | zero => intro i ah rb H locs ls hm; exact absurd hm (Nat.not_lt_zero _)
    | succ n_2 ih_lp_1 =>
      intro i ah rb H locs ls hm hi hah haa hzz hrr hP hD hS hl
      refine lv_iload_n hx hb dX1_takeFirst_7 rfl (lv_at hl 0 rfl) ?_
      refine lv_aload_n hx hb dX1_takeFirst_8 rfl (lv_at hl 2 rfl) ?_
      refine sk_get (v := .int (nI gd)) (C := RX1) (T := TX1) (N := 9) hx hb hts inlX1 hown hK hP 0 rfl rfl 7 (by decide) w_2_102 rfl dX1_takeFirst_9 ?_
      refine lv_icmp_ge (tgt := 38) hx hb dX1_takeFirst_12 (by decide) (fun c_3 => ?_) (fun c_3 => ?_)
      · have c_3 : gd ≤ i := (nle gd i (by omega) (by omega)).mp c_3
        exact sk_vret hx hb hr hlocks hK hP hD hS (⟨rb, krw_e hrr (by omega), rfl⟩) (Nat.le_of_ble_eq_true rfl) (Nat.le_of_ble_eq_true rfl) dX1_takeFirst_38
      · have c_3 : ¬ (gd ≤ i) := fun h => c_3 ((nle gd i (by omega) (by omega)).mpr h)
        refine lv_aload_n hx hb dX1_takeFirst_15 rfl (lv_at hl 2 rfl) ?_
        refine lv_iload_n hx hb dX1_takeFirst_16 rfl (lv_at hl 0 rfl) ?_
        refine lv_iload_n hx hb dX1_takeFirst_17 rfl (lv_at hl 1 rfl) ?_
        refine sk_Vi (q0 := 0) (n := 2) (rest := []) (wr := fmR om_5_1e _) ⟨hx, hb, hml, hown, hts⟩ hl.1 (c_knext l D cI cJ cC cZ cS q gd gs e1 e2 e3 i ah Ed (by omega) (by omega) (by omega) hld (klv_i hlv (by omega))) w_4_57 w_4_59 w_0_20 w_1_13 w_4_60 hd_X1_next_2 ⟨⟨(Nat.le_of_ble_eq_true rfl), (Nat.le_of_ble_eq_true rfl)⟩, (Nat.le_of_ble_eq_true rfl), (Nat.le_of_ble_eq_true rfl)⟩ hK hP hD hS hA (fmT om_5_1e 0) (fmF om_5_1e 0) (fm_C1 rfl rfl) (fm_R rfl rfl) (fm_nT om_5_1e 0) (fm_nF om_5_1e 0) (fm_di om_5_1e 0) rfl rfl rfl rfl (Nat.le_of_ble_eq_true rfl) dX1_takeFirst_18 (fun r_5 u H locs hw hP hD hS => ?_)
        refine exE hw (fun nq_4 hw1 => anE hw1 (fun hnx_6 hw2 => anE hw2 (fun er_8 eu_7 => ?_)))
        clear hw hw1 hw2
        subst er_8
        refine o_mgE (ws' := [(q 11, .inr (1, [.ref (q 10), .ref (q 67), .ref (q 68), .ref (q 69), .ref (q 70), .ref (q 71), .ref (q 72), .int (nI gd), .int (nI gs)])), (q 67, .inl (cI, 90, .inl e1)), (q 68, .inl (cI, 9, .inl e2)), (q 69, .inl (cI, 10, .inl e3)), (rw, .inl (cI, 9, .inl rb))]) eu_7 hP hD rfl (fun hP hD => ?_)
        have hp_9 := knx_pos (by omega) hgo haa hnx_6 (by omega)
        have hl_10 := hnx_6.1
        have hl_11 := hp_9.1
        refine sk_Si (n := 1) (rest := []) (wr := [(q 11, .inr (1, [.ref (q 10), .ref (q 67), .ref (q 68), .ref (q 69), .ref (q 70), .ref (q 71), .ref (q 72), .int (nI gd), .int (nI gs)])), (q 67, .inl (cI, 90, .inl e1)), (q 68, .inl (cI, 9, .inl e2)), (q 69, .inl (cI, 10, .inl e3)), (rw, .inl (cI, 9, .inl rb))]) ⟨hx, hb, hml, hown, hts⟩ hl.1 (c_kntz l D cI cJ cC cZ cS nq_4 (by omega) (by omega)) w_4_116 w_4_117 w_1_21 w_4_118 hd_J6_numberOfTrailingZeros_0f7a4_1 ⟨⟨(Nat.le_of_ble_eq_true rfl), (Nat.le_of_ble_eq_true rfl)⟩, (Nat.le_of_ble_eq_true rfl), (Nat.le_of_ble_eq_true rfl)⟩ hK hP hD hS hA [] [0, 1, 2, 3, 4] rfl rfl (by decide +kernel) (by decide +kernel) (by decide +kernel) rfl rfl (Nat.le_of_ble_eq_true rfl) dX1_takeFirst_21 (fun r_13 u H locs hw hP hD hS => ?_)
        obtain ⟨v_12, hlow_14, rfl, rfl⟩ := hw
        refine o_re (ws' := [(q 11, .inr (1, [.ref (q 10), .ref (q 67), .ref (q 68), .ref (q 69), .ref (q 70), .ref (q 71), .ref (q 72), .int (nI gd), .int (nI gs)])), (q 67, .inl (cI, 90, .inl e1)), (q 68, .inl (cI, 9, .inl e2)), (q 69, .inl (cI, 10, .inl e3)), (rw, .inl (cI, 9, .inl rb))]) hP hD rfl (fun hP hD => ?_)
        have hl_15 := hlow_14.1
        refine lv_bipush (v := 10) hx hb dX1_takeFirst_24 (by decide) ?_
        refine lv_irem hx hb dX1_takeFirst_26 (by decide) ?_
        refine sk_top (nI v_12) ((nrem v_12 10 (by omega) (by omega) (by omega)).trans (congrArg nI (Nat.mod_eq_of_lt (by omega)))) ?_
        refine lv_istore_n (lv' := [(2, .int (nI v_12)), (3, .int (nI i)), (0, .ref (q 11)), (1, .ref rw)]) hx hb dX1_takeFirst_27 rfl hl (by decide) rfl (fun ls hl => ?_)
        refine lv_aload_n hx hb dX1_takeFirst_28 rfl (lv_at hl 3 rfl) ?_
        refine lv_iload_n hx hb dX1_takeFirst_29 rfl (lv_at hl 1 rfl) ?_
        refine lv_iload_n hx hb dX1_takeFirst_30 rfl (lv_at hl 0 rfl) ?_
        refine sk_iastE (k := i) (ws' := fun f_16 => [(q 11, .inr (1, [.ref (q 10), .ref (q 67), .ref (q 68), .ref (q 69), .ref (q 70), .ref (q 71), .ref (q 72), .int (nI gd), .int (nI gs)])), (q 67, .inl (cI, 90, .inl e1)), (q 68, .inl (cI, 9, .inl e2)), (q 69, .inl (cI, 10, .inl e3)), (rw, .inl (cI, 9, .inl f_16))]) hx hb hK hP hD hS 4 0 rfl rfl (by omega) (by omega) (fun _ => rfl) dX1_takeFirst_31 (fun f_16 H locs ef_17 hP hD hS => ?_)
        have hk_18 := kfirst_s haa hzz hnx_6 hlow_14
        refine lv_iinc (v := nI (i + 1)) (lv' := [(3, .int (nI (i + 1))), (2, .int (nI v_12)), (0, .ref (q 11)), (1, .ref rw)]) hx hb dX1_takeFirst_32 hl (k := 1) rfl (ninc i 1 (by decide)) (by decide) rfl (fun ls hl => ?_)
        refine lv_goto (tgt := 7) hx hb dX1_takeFirst_35 (by decide) ?_
        exact ih_lp_1 (i + 1) v_12 f_16 _ _ _ (by omega) (by omega) (by omega) hk_18.1 hk_18.2 (krw_s hrr ef_17 hk_18.1) hP hD hS (lv_sub hl [0, 1, 2, 3] rfl)
  exact lp_1 (gd - 0 + 1) 0 gs ra _ _ _ (Nat.lt_succ_self _) (by omega) (by omega) rfl rfl (krw_0 _ _ _ _ _) hP hD hS (lv_sub hl [0, 1, 2, 3] rfl)
set_option maxHeartbeats 4000000 in
set_option maxRecDepth 100000 in
theorem c_kcountWays (l : Launch) (D : va_G) (cI cJ cC cZ cS : ClassId) (q : Nat → Nat) (gd : Nat) (gs : Nat) (e1 : Nat → Int32) (e2 : Nat → Int32) (e3 : Nat → Int32) (e4 : Nat → Int64) (Ed : Nat → Nat → Nat → Bool) (hgd : gd ≤ 9) (hgs : gs ≤ 9) (hld : kcLd Ed gd e1 e2) (hlv : kcLv Ed gd 0 e3) : skM l yX1_countWays cX1_countWays 7 (some .long) 1 22 0 0 D (skT cI cJ cC cZ cS) [.ref (q 11)] [(q 11, .inr (1, [.ref (q 10), .ref (q 67), .ref (q 68), .ref (q 69), .ref (q 70), .ref (q 71), .ref (q 72), .int (nI gd), .int (nI gs)])), (q 67, .inl (cI, 90, .inl e1)), (q 68, .inl (cI, 9, .inl e2)), (q 69, .inl (cI, 10, .inl e3)), (q 70, .inl (cJ, 100, .inr (.inl e4)))] (skL D (skT cI cJ cC cZ cS) (fun (r : Int64) (u : va_W) => ∃ (g4 : Nat → Int64), kcWy Ed gd 0 g4 ∧ r = Int64.ofNat (kcC Ed gd 0 gs) ∧ u = [(q 11, .inr (1, [.ref (q 10), .ref (q 67), .ref (q 68), .ref (q 69), .ref (q 70), .ref (q 71), .ref (q 72), .int (nI gd), .int (nI gs)])), (q 67, .inl (cI, 90, .inl e1)), (q 68, .inl (cI, 9, .inl e2)), (q 69, .inl (cI, 10, .inl e3)), (q 70, .inl (cJ, 100, .inr (.inl g4)))])) := by
  refine skM_of pf_X1_countWays (Nat.le_of_ble_eq_true rfl) ?_
  intro p e s m below meth c A ls E hP hD hl
  refine skE_el E (fun hx hb hr hml hlocks hin hown hts hK hA => ?_)
  have hown : s.vm.findClass RX1 = some m.cls := hown
  have hS : va_S A s.heap s.heap [] := va_S.rf
  have hl : lv_has ls 7 [(0, .ref (q 11))] := hl
  refine lv_iconst (v := 0) hx hb dX1_countWays_0 (by decide) ?_
  refine lv_istore_n (lv' := [(1, .int 0), (0, .ref (q 11))]) hx hb dX1_countWays_1 rfl hl (by decide) rfl (fun ls hl => ?_)
  have lp_1 : ∀ (n_2 : Nat) (i : Nat) (a4 : Nat → Int64) (H : Heap) (locs : List Loc) (ls : Array Slot), 10 - i < n_2 → (i ≤ 10) → (∀ m, m < i → a4 (gd * 10 + m) = 1) → va_P D vwCl [(q 11, .inr (1, [.ref (q 10), .ref (q 67), .ref (q 68), .ref (q 69), .ref (q 70), .ref (q 71), .ref (q 72), .int (nI gd), .int (nI gs)])), (q 67, .inl (cI, 90, .inl e1)), (q 68, .inl (cI, 9, .inl e2)), (q 69, .inl (cI, 10, .inl e3)), (q 70, .inl (cJ, 100, .inr (.inl a4)))] H → va_D A [(q 11, .inr (1, [.ref (q 10), .ref (q 67), .ref (q 68), .ref (q 69), .ref (q 70), .ref (q 71), .ref (q 72), .int (nI gd), .int (nI gs)])), (q 67, .inl (cI, 90, .inl e1)), (q 68, .inl (cI, 9, .inl e2)), (q 69, .inl (cI, 10, .inl e3)), (q 70, .inl (cJ, 100, .inr (.inl a4)))] → va_S A s.heap H locs → lv_has ls 7 [(1, .int (nI i)), (0, .ref (q 11))] → W p l e { frames := 1, cells := 0, slots := 0, locals := 22 } s m ([.ref (q 11)] : List Value).toArray below meth c H locs 0 0 (MQ below (skL D (skT cI cJ cC cZ cS) (fun (r : Int64) (u : va_W) => ∃ (g4 : Nat → Int64), kcWy Ed gd 0 g4 ∧ r = Int64.ofNat (kcC Ed gd 0 gs) ∧ u = [(q 11, .inr (1, [.ref (q 10), .ref (q 67), .ref (q 68), .ref (q 69), .ref (q 70), .ref (q 71), .ref (q 72), .int (nI gd), .int (nI gs)])), (q 67, .inl (cI, 90, .inl e1)), (q 68, .inl (cI, 9, .inl e2)), (q 69, .inl (cI, 10, .inl e3)), (q 70, .inl (cJ, 100, .inr (.inl g4)))]) A) ([.ref (q 11)] : List Value).toArray s 0 0 A) (F0 m 2 ls []) := by
    intro n_2
    induction n_2 with
    | zero => intro i a4 H locs ls hm; exact absurd hm (Nat.not_lt_zero _)
    | succ n_2 ih_lp_1 =>
      intro i a4 H locs ls hm hi hone hP hD hS hl
      refine lv_iload_n hx hb dX1_countWays_2 rfl (lv_at hl 0 rfl) ?_
      refine lv_bipush (v := 10) hx hb dX1_countWays_3 (by decide) ?_
      refine lv_icmp_ge (tgt := 29) hx hb dX1_countWays_5 (by decide) (fun c_3 => ?_) (fun c_3 => ?_)
      · have c_3 : 10 ≤ i := (nle 10 i (by omega) (by omega)).mp c_3
        refine lv_aload_n hx hb dX1_countWays_29 rfl (lv_at hl 1 rfl) ?_
        refine sk_get (v := .int (nI gd)) (C := RX1) (T := TX1) (N := 9) hx hb hts inlX1 hown hK hP 0 rfl rfl 7 (by decide) w_2_102 rfl dX1_countWays_30 ?_
        refine lv_iconst (v := 1) hx hb dX1_countWays_33 (by decide) ?_
        refine lv_isub hx hb dX1_countWays_34 ?_
        refine lv_istore_n (lv' := [(1, .int (nI gd - 1)), (0, .ref (q 11))]) hx hb dX1_countWays_35 rfl hl (by decide) rfl (fun ls hl => ?_)
        have lp_4 : ∀ (n_5 : Nat) (dd : Nat) (b4 : Nat → Int64) (H : Heap) (locs : List Loc) (ls : Array Slot), dd < n_5 → (dd ≤ gd) → (kcWy Ed gd dd b4) → va_P D vwCl [(q 11, .inr (1, [.ref (q 10), .ref (q 67), .ref (q 68), .ref (q 69), .ref (q 70), .ref (q 71), .ref (q 72), .int (nI gd), .int (nI gs)])), (q 67, .inl (cI, 90, .inl e1)), (q 68, .inl (cI, 9, .inl e2)), (q 69, .inl (cI, 10, .inl e3)), (q 70, .inl (cJ, 100, .inr (.inl b4)))] H → va_D A [(q 11, .inr (1, [.ref (q 10), .ref (q 67), .ref (q 68), .ref (q 69), .ref (q 70), .ref (q 71), .ref (q 72), .int (nI gd), .int (nI gs)])), (q 67, .inl (cI, 90, .inl e1)), (q 68, .inl (cI, 9, .inl e2)), (q 69, .inl (cI, 10, .inl e3)), (q 70, .inl (cJ, 100, .inr (.inl b4)))] → va_S A s.heap H locs → lv_has ls 7 [(1, .int (nI dd - 1)), (0, .ref (q 11))] → W p l e { frames := 1, cells := 0, slots := 0, locals := 22 } s m ([.ref (q 11)] : List Value).toArray below meth c H locs 0 0 (MQ below (skL D (skT cI cJ cC cZ cS) (fun (r : Int64) (u : va_W) => ∃ (g4 : Nat → Int64), kcWy Ed gd 0 g4 ∧ r = Int64.ofNat (kcC Ed gd 0 gs) ∧ u = [(q 11, .inr (1, [.ref (q 10), .ref (q 67), .ref (q 68), .ref (q 69), .ref (q 70), .ref (q 71), .ref (q 72), .int (nI gd), .int (nI gs)])), (q 67, .inl (cI, 90, .inl e1)), (q 68, .inl (cI, 9, .inl e2)), (q 69, .inl (cI, 10, .inl e3)), (q 70, .inl (cJ, 100, .inr (.inl g4)))]) A) ([.ref (q 11)] : List Value).toArray s 0 0 A) (F0 m 36 ls []) := by
          intro n_5
          induction n_5 with
          | zero => intro dd b4 H locs ls hm; exact absurd hm (Nat.not_lt_zero _)
          | succ n_5 ih_lp_4 =>
            intro dd b4 H locs ls hm hdd hwy_ hP hD hS hl
            refine lv_iload_n hx hb dX1_countWays_36 rfl (lv_at hl 0 rfl) ?_
            refine lv_if_lt (tgt := 132) hx hb dX1_countWays_37 (by decide) (fun c_6 => ?_) (fun c_6 => ?_)
            · have c_6 : dd = 0 := npm0 dd (by omega) c_6
              refine lv_aload_n hx hb dX1_countWays_132 rfl (lv_at hl 1 rfl) ?_
              refine sk_get (v := .ref (q 70)) (C := RX1) (T := TX1) (N := 9) hx hb hts inlX1 hown hK hP 0 rfl rfl 4 (by decide) w_2_99 rfl dX1_countWays_133 ?_
              refine lv_aload_n hx hb dX1_countWays_136 rfl (lv_at hl 1 rfl) ?_
              refine sk_get (v := .int (nI gs)) (C := RX1) (T := TX1) (N := 9) hx hb hts inlX1 hown hK hP 0 rfl rfl 8 (by decide) w_2_103 rfl dX1_countWays_137 ?_
              refine va_lald hx hb hK.1 hP 4 1 rfl rfl (vin gs 100 (by omega) (by omega)) dX1_countWays_140 ?_
              have hfin := hwy_ 0 (by omega) (by omega) gs (by omega)
              rw [Nat.zero_mul, Nat.zero_add, Nat.sub_zero] at hfin
              refine sk_topl (Int64.ofNat (kcC Ed gd 0 gs)) (by rw [nI_clamp (by omega)]; exact hfin) ?_
              exact sk_lret hx hb hr hlocks hK hP hD hS (⟨b4, (fun d h1 h2 => hwy_ d (by omega) h2), rfl, rfl⟩) (Nat.le_of_ble_eq_true rfl) (Nat.le_of_ble_eq_true rfl) dX1_countWays_141
            · have c_6 : 1 ≤ dd := npm1 dd c_6
              rw [npred dd (by omega)] at hl
              refine lv_iconst (v := 0) hx hb dX1_countWays_40 (by decide) ?_
              refine lv_istore_n (lv' := [(2, .int 0), (1, .int (nI (dd - 1))), (0, .ref (q 11))]) hx hb dX1_countWays_41 rfl hl (by decide) rfl (fun ls hl => ?_)
              have lp_7 : ∀ (n_8 : Nat) (jj : Nat) (c4 : Nat → Int64) (H : Heap) (locs : List Loc) (ls : Array Slot), 10 - jj < n_8 → (jj ≤ 10) → (kcWj Ed gd (dd - 1) jj c4) → va_P D vwCl [(q 11, .inr (1, [.ref (q 10), .ref (q 67), .ref (q 68), .ref (q 69), .ref (q 70), .ref (q 71), .ref (q 72), .int (nI gd), .int (nI gs)])), (q 67, .inl (cI, 90, .inl e1)), (q 68, .inl (cI, 9, .inl e2)), (q 69, .inl (cI, 10, .inl e3)), (q 70, .inl (cJ, 100, .inr (.inl c4)))] H → va_D A [(q 11, .inr (1, [.ref (q 10), .ref (q 67), .ref (q 68), .ref (q 69), .ref (q 70), .ref (q 71), .ref (q 72), .int (nI gd), .int (nI gs)])), (q 67, .inl (cI, 90, .inl e1)), (q 68, .inl (cI, 9, .inl e2)), (q 69, .inl (cI, 10, .inl e3)), (q 70, .inl (cJ, 100, .inr (.inl c4)))] → va_S A s.heap H locs → lv_has ls 7 [(2, .int (nI jj)), (1, .int (nI (dd - 1))), (0, .ref (q 11))] → W p l e { frames := 1, cells := 0, slots := 0, locals := 22 } s m ([.ref (q 11)] : List Value).toArray below meth c H locs 0 0 (MQ below (skL D (skT cI cJ cC cZ cS) (fun (r : Int64) (u : va_W) => ∃ (g4 : Nat → Int64), kcWy Ed gd 0 g4 ∧ r = Int64.ofNat (kcC Ed gd 0 gs) ∧ u = [(q 11, .inr (1, [.ref (q 10), .ref (q 67), .ref (q 68), .ref (q 69), .ref (q 70), .ref (q 71), .ref (q 72), .int (nI gd), .int (nI gs)])), (q 67, .inl (cI, 90, .inl e1)), (q 68, .inl (cI, 9, .inl e2)), (q 69, .inl (cI, 10, .inl e3)), (q 70, .inl (cJ, 100, .inr (.inl g4)))]) A) ([.ref (q 11)] : List Value).toArray s 0 0 A) (F0 m 42 ls []) := by
                intro n_8
                induction n_8 with
                | zero => intro jj c4 H locs ls hm; exact absurd hm (Nat.not_lt_zero _)
                | succ n_8 ih_lp_7 =>
                  intro jj c4 H locs ls hm hjj hwj hP hD hS hl
                  refine lv_iload_n hx hb dX1_countWays_42 rfl (lv_at hl 0 rfl) ?_
                  refine lv_bipush (v := 10) hx hb dX1_countWays_43 (by decide) ?_
                  refine lv_icmp_ge (tgt := 126) hx hb dX1_countWays_45 (by decide) (fun c_9 => ?_) (fun c_9 => ?_)
                  · have c_9 : 10 ≤ jj := (nle 10 jj (by omega) (by omega)).mp c_9
                    refine lv_iinc (v := nI (dd - 1) - 1) (lv' := [(1, .int (nI (dd - 1) - 1)), (2, .int (nI jj)), (0, .ref (q 11))]) hx hb dX1_countWays_126 hl (k := 1) rfl (ndn _) (by decide) rfl (fun ls hl => ?_)
                    refine lv_goto (tgt := 36) hx hb dX1_countWays_129 (by decide) ?_
                    exact ih_lp_4 (dd - 1) c4 _ _ _ (by omega) (by omega) (kwj_10 (show kcWj Ed gd (dd - 1) 10 c4 by rw [show 10 = jj by omega]; exact hwj)) hP hD hS (lv_sub hl [0, 2] rfl)
                  · have c_9 : ¬ (10 ≤ jj) := fun h => c_9 ((nle 10 jj (by omega) (by omega)).mpr h)
                    refine lv_aload_n hx hb dX1_countWays_48 rfl (lv_at hl 2 rfl) ?_
                    refine lv_iload_n hx hb dX1_countWays_49 rfl (lv_at hl 1 rfl) ?_
                    refine lv_iload_n hx hb dX1_countWays_50 rfl (lv_at hl 0 rfl) ?_
                    refine sk_Vi (q0 := 0) (n := 2) (rest := []) (wr := fmR om_5_1e _) ⟨hx, hb, hml, hown, hts⟩ hl.1 (c_knext l D cI cJ cC cZ cS q gd gs e1 e2 e3 (dd - 1) jj Ed (by omega) (by omega) (by omega) hld (klv_i hlv (by omega))) w_4_57 w_4_59 w_0_20 w_1_13 w_4_60 hd_X1_next_2 ⟨⟨(Nat.le_of_ble_eq_true rfl), (Nat.le_of_ble_eq_true rfl)⟩, (Nat.le_of_ble_eq_true rfl), (Nat.le_of_ble_eq_true rfl)⟩ hK hP hD hS hA (fmT om_5_1e 0) (fmF om_5_1e 0) (fm_C1 rfl rfl) (fm_R rfl rfl) (fm_nT om_5_1e 0) (fm_nF om_5_1e 0) (fm_di om_5_1e 0) rfl rfl rfl rfl (Nat.le_of_ble_eq_true rfl) dX1_countWays_51 (fun r_11 u H locs hw hP hD hS => ?_)
                    refine exE hw (fun nq_10 hw1 => anE hw1 (fun hnx_12 hw2 => anE hw2 (fun er_14 eu_13 => ?_)))
                    clear hw hw1 hw2
                    subst er_14
                    refine o_mgE (ws' := [(q 11, .inr (1, [.ref (q 10), .ref (q 67), .ref (q 68), .ref (q 69), .ref (q 70), .ref (q 71), .ref (q 72), .int (nI gd), .int (nI gs)])), (q 67, .inl (cI, 90, .inl e1)), (q 68, .inl (cI, 9, .inl e2)), (q 69, .inl (cI, 10, .inl e3)), (q 70, .inl (cJ, 100, .inr (.inl c4)))]) eu_13 hP hD rfl (fun hP hD => ?_)
                    have hl_15 := hnx_12.1
                    refine lv_istore_n (lv' := [(3, .int (nI nq_10)), (2, .int (nI jj)), (1, .int (nI (dd - 1))), (0, .ref (q 11))]) hx hb dX1_countWays_54 rfl hl (by decide) rfl (fun ls hl => ?_)
                    refine lv_lconst (v := 0) hx hb dX1_countWays_55 (by decide) ?_
                    refine lv_lstore (lv' := [(4, .long 0), (3, .int (nI nq_10)), (2, .int (nI jj)), (1, .int (nI (dd - 1))), (0, .ref (q 11))]) hx hb dX1_countWays_56 hl (by decide) rfl (fun ls hl => ?_)
                    refine lv_iconst (v := 0) hx hb dX1_countWays_58 (by decide) ?_
                    refine lv_istore (lv' := [(6, .int 0), (4, .long 0), (3, .int (nI nq_10)), (2, .int (nI jj)), (1, .int (nI (dd - 1))), (0, .ref (q 11))]) hx hb dX1_countWays_59 hl (by decide) rfl (fun ls hl => ?_)
                    have lp_16 : ∀ (n_17 : Nat) (kk : Nat) (sm : Int64) (H : Heap) (locs : List Loc) (ls : Array Slot), 10 - kk < n_17 → (kk ≤ 10) → (sm = Int64.ofNat (kcS (kcW Ed gd (dd - 1) jj) kk)) → va_P D vwCl [(q 11, .inr (1, [.ref (q 10), .ref (q 67), .ref (q 68), .ref (q 69), .ref (q 70), .ref (q 71), .ref (q 72), .int (nI gd), .int (nI gs)])), (q 67, .inl (cI, 90, .inl e1)), (q 68, .inl (cI, 9, .inl e2)), (q 69, .inl (cI, 10, .inl e3)), (q 70, .inl (cJ, 100, .inr (.inl c4)))] H → va_D A [(q 11, .inr (1, [.ref (q 10), .ref (q 67), .ref (q 68), .ref (q 69), .ref (q 70), .ref (q 71), .ref (q 72), .int (nI gd), .int (nI gs)])), (q 67, .inl (cI, 90, .inl e1)), (q 68, .inl (cI, 9, .inl e2)), (q 69, .inl (cI, 10, .inl e3)), (q 70, .inl (cJ, 100, .inr (.inl c4)))] → va_S A s.heap H locs → lv_has ls 7 [(6, .int (nI kk)), (4, .long sm), (3, .int (nI nq_10)), (2, .int (nI jj)), (1, .int (nI (dd - 1))), (0, .ref (q 11))] → W p l e { frames := 1, cells := 0, slots := 0, locals := 22 } s m ([.ref (q 11)] : List Value).toArray below meth c H locs 0 0 (MQ below (skL D (skT cI cJ cC cZ cS) (fun (r : Int64) (u : va_W) => ∃ (g4 : Nat → Int64), kcWy Ed gd 0 g4 ∧ r = Int64.ofNat (kcC Ed gd 0 gs) ∧ u = [(q 11, .inr (1, [.ref (q 10), .ref (q 67), .ref (q 68), .ref (q 69), .ref (q 70), .ref (q 71), .ref (q 72), .int (nI gd), .int (nI gs)])), (q 67, .inl (cI, 90, .inl e1)), (q 68, .inl (cI, 9, .inl e2)), (q 69, .inl (cI, 10, .inl e3)), (q 70, .inl (cJ, 100, .inr (.inl g4)))]) A) ([.ref (q 11)] : List Value).toArray s 0 0 A) (F0 m 61 ls []) := by
                      intro n_17
                      induction n_17 with
                      | zero => intro kk sm H locs ls hm; exact absurd hm (Nat.not_lt_zero _)
                      | succ n_17 ih_lp_16 =>
                        intro kk sm H locs ls hm hkk hsm hP hD hS hl
                        refine lv_iload hx hb dX1_countWays_61 (lv_at hl 0 rfl) ?_
                        refine lv_bipush (v := 10) hx hb dX1_countWays_63 (by decide) ?_
                        refine lv_icmp_ge (tgt := 107) hx hb dX1_countWays_65 (by decide) (fun c_18 => ?_) (fun c_18 => ?_)
                        · have c_18 : 10 ≤ kk := (nle 10 kk (by omega) (by omega)).mp c_18
                          refine lv_aload_n hx hb dX1_countWays_107 rfl (lv_at hl 5 rfl) ?_
                          refine sk_get (v := .ref (q 70)) (C := RX1) (T := TX1) (N := 9) hx hb hts inlX1 hown hK hP 0 rfl rfl 4 (by decide) w_2_99 rfl dX1_countWays_108 ?_
                          refine lv_iload_n hx hb dX1_countWays_111 rfl (lv_at hl 4 rfl) ?_
                          refine lv_bipush (v := 10) hx hb dX1_countWays_112 (by decide) ?_
                          refine lv_imul hx hb dX1_countWays_114 ?_
                          refine sk_top (nI ((dd - 1) * 10)) (nmul (dd - 1) 10) ?_
                          refine lv_iload_n hx hb dX1_countWays_115 rfl (lv_at hl 3 rfl) ?_
                          refine lv_iadd hx hb dX1_countWays_116 ?_
                          refine sk_top (nI ((dd - 1) * 10 + jj)) (nI_add ((dd - 1) * 10) jj) ?_
                          refine lv_lload hx hb dX1_countWays_117 (lv_at hl 1 rfl) ?_
                          refine sk_lastE (k := ((dd - 1) * 10 + jj)) (ws' := fun f_19 => [(q 11, .inr (1, [.ref (q 10), .ref (q 67), .ref (q 68), .ref (q 69), .ref (q 70), .ref (q 71), .ref (q 72), .int (nI gd), .int (nI gs)])), (q 67, .inl (cI, 90, .inl e1)), (q 68, .inl (cI, 9, .inl e2)), (q 69, .inl (cI, 10, .inl e3)), (q 70, .inl (cJ, 100, .inr (.inl f_19)))]) hx hb hK hP hD hS 4 1 rfl rfl (by omega) (by omega) (fun _ => rfl) dX1_countWays_119 (fun f_19 H locs ef_20 hP hD hS => ?_)
                          refine lv_iinc (v := nI (jj + 1)) (lv' := [(2, .int (nI (jj + 1))), (6, .int (nI kk)), (4, .long sm), (3, .int (nI nq_10)), (1, .int (nI (dd - 1))), (0, .ref (q 11))]) hx hb dX1_countWays_120 hl (k := 3) rfl (ninc jj 1 (by decide)) (by decide) rfl (fun ls hl => ?_)
                          refine lv_goto (tgt := 42) hx hb dX1_countWays_123 (by decide) ?_
                          exact ih_lp_7 (jj + 1) f_19 _ _ _ (by omega) (by omega) (kwj_s hwj ef_20 (by omega) (by omega) (by rw [hsm, show kk = 10 by omega])) hP hD hS (lv_sub hl [0, 4, 5] rfl)
                        · have c_18 : ¬ (10 ≤ kk) := fun h => c_18 ((nle 10 kk (by omega) (by omega)).mpr h)
                          refine lv_lload hx hb dX1_countWays_68 (lv_at hl 1 rfl) ?_
                          refine lv_iload_n hx hb dX1_countWays_70 rfl (lv_at hl 2 rfl) ?_
                          refine lv_iload hx hb dX1_countWays_71 (lv_at hl 0 rfl) ?_
                          refine lv_ishr hx hb dX1_countWays_73 ?_
                          refine lv_iconst (v := 1) hx hb dX1_countWays_74 (by decide) ?_
                          refine lv_iand hx hb dX1_countWays_75 ?_
                          refine lv_iconst (v := 1) hx hb dX1_countWays_76 (by decide) ?_
                          refine lv_icmp_ne (tgt := 97) hx hb dX1_countWays_77 (by decide) (fun c_21 => ?_) (fun c_21 => ?_)
                          · skip
                            refine lv_lconst (v := 0) hx hb dX1_countWays_97 (by decide) ?_
                            refine lv_ladd hx hb dX1_countWays_98 ?_
                            refine lv_lstore (lv' := [(4, .long (sm + 0)), (6, .int (nI kk)), (3, .int (nI nq_10)), (2, .int (nI jj)), (1, .int (nI (dd - 1))), (0, .ref (q 11))]) hx hb dX1_countWays_99 hl (by decide) rfl (fun ls hl => ?_)
                            refine lv_iinc (v := nI (kk + 1)) (lv' := [(6, .int (nI (kk + 1))), (4, .long (sm + 0)), (3, .int (nI nq_10)), (2, .int (nI jj)), (1, .int (nI (dd - 1))), (0, .ref (q 11))]) hx hb dX1_countWays_101 hl (k := 1) rfl (ninc kk 1 (by decide)) (by decide) rfl (fun ls hl => ?_)
                            refine lv_goto (tgt := 61) hx hb dX1_countWays_104 (by decide) ?_
                            exact ih_lp_16 (kk + 1) (sm + 0) _ _ _ (by omega) (by omega) (ksm_n hnx_12 (by omega) (fun hq => c_21 ((ktb hnx_12.1 (by omega)).mpr hq)) hsm) hP hD hS (lv_sub hl [0, 1, 2, 3, 4, 5] rfl)
                          · skip
                            refine lv_aload_n hx hb dX1_countWays_80 rfl (lv_at hl 5 rfl) ?_
                            refine sk_get (v := .ref (q 70)) (C := RX1) (T := TX1) (N := 9) hx hb hts inlX1 hown hK hP 0 rfl rfl 4 (by decide) w_2_99 rfl dX1_countWays_81 ?_
                            refine lv_iload_n hx hb dX1_countWays_84 rfl (lv_at hl 4 rfl) ?_
                            refine lv_iconst (v := 1) hx hb dX1_countWays_85 (by decide) ?_
                            refine lv_iadd hx hb dX1_countWays_86 ?_
                            refine sk_top (nI (dd - 1 + 1)) (nI_add (dd - 1) 1) ?_
                            refine lv_bipush (v := 10) hx hb dX1_countWays_87 (by decide) ?_
                            refine lv_imul hx hb dX1_countWays_89 ?_
                            refine sk_top (nI ((dd - 1 + 1) * 10)) (nmul (dd - 1 + 1) 10) ?_
                            refine lv_iload hx hb dX1_countWays_90 (lv_at hl 0 rfl) ?_
                            refine lv_iadd hx hb dX1_countWays_92 ?_
                            refine sk_top (nI ((dd - 1 + 1) * 10 + kk)) (nI_add ((dd - 1 + 1) * 10) kk) ?_
                            refine va_lald hx hb hK.1 hP 4 1 rfl rfl (vin ((dd - 1 + 1) * 10 + kk) 100 (by omega) (by omega)) dX1_countWays_93 ?_
                            refine sk_topl (c4 ((dd - 1 + 1) * 10 + kk)) (by rw [nI_clamp (by omega)]) ?_
                            refine lv_goto (tgt := 98) hx hb dX1_countWays_94 (by decide) ?_
                            refine lv_ladd hx hb dX1_countWays_98 ?_
                            refine lv_lstore (lv' := [(4, .long (sm + (c4 ((dd - 1 + 1) * 10 + kk)))), (6, .int (nI kk)), (3, .int (nI nq_10)), (2, .int (nI jj)), (1, .int (nI (dd - 1))), (0, .ref (q 11))]) hx hb dX1_countWays_99 hl (by decide) rfl (fun ls hl => ?_)
                            refine lv_iinc (v := nI (kk + 1)) (lv' := [(6, .int (nI (kk + 1))), (4, .long (sm + (c4 ((dd - 1 + 1) * 10 + kk)))), (3, .int (nI nq_10)), (2, .int (nI jj)), (1, .int (nI (dd - 1))), (0, .ref (q 11))]) hx hb dX1_countWays_101 hl (k := 1) rfl (ninc kk 1 (by decide)) (by decide) rfl (fun ls hl => ?_)
                            refine lv_goto (tgt := 61) hx hb dX1_countWays_104 (by decide) ?_
                            exact ih_lp_16 (kk + 1) (sm + (c4 ((dd - 1 + 1) * 10 + kk))) _ _ _ (by omega) (by omega) (ksm_y hnx_12 hwj.1 (by omega) (by omega) ((ktb hnx_12.1 (by omega)).mp c_21) hsm) hP hD hS (lv_sub hl [0, 1, 2, 3, 4, 5] rfl)
                    exact lp_16 (10 - 0 + 1) 0 0 _ _ _ (Nat.lt_succ_self _) (by omega) rfl hP hD hS (lv_sub hl [0, 1, 2, 3, 4, 5] rfl)
              exact lp_7 (10 - 0 + 1) 0 b4 _ _ _ (Nat.lt_succ_self _) (by omega) (kwj_0 hwy_ (by omega)) hP hD hS (lv_sub hl [0, 1, 2] rfl)
        exact lp_4 (gd + 1) gd a4 _ _ _ (Nat.lt_succ_self _) (by omega) (kwy_top (fun m hm => hone m (by omega))) hP hD hS (lv_sub hl [0, 1] rfl)
      · have c_3 : ¬ (10 ≤ i) := fun h => c_3 ((nle 10 i (by omega) (by omega)).mpr h)
        refine lv_aload_n hx hb dX1_countWays_8 rfl (lv_at hl 1 rfl) ?_
        refine sk_get (v := .ref (q 70)) (C := RX1) (T := TX1) (N := 9) hx hb hts inlX1 hown hK hP 0 rfl rfl 4 (by decide) w_2_99 rfl dX1_countWays_9 ?_
        refine lv_aload_n hx hb dX1_countWays_12 rfl (lv_at hl 1 rfl) ?_
        refine sk_get (v := .int (nI gd)) (C := RX1) (T := TX1) (N := 9) hx hb hts inlX1 hown hK hP 0 rfl rfl 7 (by decide) w_2_102 rfl dX1_countWays_13 ?_
        refine lv_bipush (v := 10) hx hb dX1_countWays_16 (by decide) ?_
        refine lv_imul hx hb dX1_countWays_18 ?_
        refine sk_top (nI (gd * 10)) (nmul gd 10) ?_
        refine lv_iload_n hx hb dX1_countWays_19 rfl (lv_at hl 0 rfl) ?_
        refine lv_iadd hx hb dX1_countWays_20 ?_
        refine sk_top (nI (gd * 10 + i)) (nI_add (gd * 10) i) ?_
        refine lv_lconst (v := 1) hx hb dX1_countWays_21 (by decide) ?_
        refine sk_lastE (k := (gd * 10 + i)) (ws' := fun f_22 => [(q 11, .inr (1, [.ref (q 10), .ref (q 67), .ref (q 68), .ref (q 69), .ref (q 70), .ref (q 71), .ref (q 72), .int (nI gd), .int (nI gs)])), (q 67, .inl (cI, 90, .inl e1)), (q 68, .inl (cI, 9, .inl e2)), (q 69, .inl (cI, 10, .inl e3)), (q 70, .inl (cJ, 100, .inr (.inl f_22)))]) hx hb hK hP hD hS 4 1 rfl rfl (by omega) (by omega) (fun _ => rfl) dX1_countWays_22 (fun f_22 H locs ef_23 hP hD hS => ?_)
        refine lv_iinc (v := nI (i + 1)) (lv' := [(1, .int (nI (i + 1))), (0, .ref (q 11))]) hx hb dX1_countWays_23 hl (k := 0) rfl (ninc i 1 (by decide)) (by decide) rfl (fun ls hl => ?_)
        refine lv_goto (tgt := 2) hx hb dX1_countWays_26 (by decide) ?_
        exact ih_lp_1 (i + 1) f_22 _ _ _ (by omega) (by omega) (kone_s hone ef_23) hP hD hS (lv_sub hl [0, 1] rfl)
  exact lp_1 (10 - 0 + 1) 0 e4 _ _ _ (Nat.lt_succ_self _) (by omega) (fun m hm => absurd hm (Nat.not_lt_zero m)) hP hD hS (lv_sub hl [0, 1] rfl)

