theorem kx_k (k : Nat) : nI (10000 + k) - 10000 = nI k := by
  have h : nI (10000 + k) - nI 10000 = nI (10000 + k - 10000) := nsub (10000 + k) 10000 (by omega)
  rw [Nat.add_sub_cancel_left] at h
  exact h
set_option maxHeartbeats 4000000 in
set_option maxRecDepth 100000 in
theorem c_kCode_name (l : Launch) (D : va_G) (cI cJ cC cZ cS : ClassId) (h0 : Nat) (k1 : Nat) (k2 : Nat) (k3 : Nat) (k4 : Nat) (cl : Nat) (mw : Nat) (f3 : Nat → Int64) (o : Int32) (k : Nat) (x : Int64) (ho : o = nI (10000 + k)) (hk : k < 9) : skM l yX0_name cX0_name 5 none 0 0 0 0 D (skT cI cJ cC cZ cS) [.ref h0, .int o, .long x] [(h0, .inr (0, [.ref k1, .ref k2, .ref k3, .ref k4, .int (nI cl), .int (nI mw)])), (k3, .inl (cJ, 9, .inr (.inl f3)))] (skV D (skT cI cJ cC cZ cS) (fun (u : va_W) => ∃ (g3 : Nat → Int64), g3 = vp_updL f3 k x ∧ u = [(h0, .inr (0, [.ref k1, .ref k2, .ref k3, .ref k4, .int (nI cl), .int (nI mw)])), (k3, .inl (cJ, 9, .inr (.inl g3)))])) := by
  refine skM_of pf_X0_name (Nat.le_of_ble_eq_true rfl) ?_
  intro p e s m below meth c A ls E hP hD hl
  refine skE_el E (fun hx hb hr hml hlocks hin hown hts hK hA => ?_)
  have hown : s.vm.findClass RX0 = some m.cls := hown
  have hS : va_S A s.heap s.heap [] := va_S.rf
  have hl : lv_has ls 5 [(0, .ref h0), (1, .int o), (2, .long x)] := hl
  refine lv_iload_n hx hb dX0_name_0 rfl (lv_at hl 1 rfl) ?_
  refine lv_sipush (v := 10000) hx hb dX0_name_1 (by decide) ?_
  refine lv_isub hx hb dX0_name_4 ?_
  refine sk_top (nI k) (by rw [ho]; exact kx_k k) ?_
  refine lv_istore (lv' := [(4, .int (nI k)), (0, .ref h0), (1, .int o), (2, .long x)]) hx hb dX0_name_5 hl (by decide) rfl (fun ls hl => ?_)
  refine lv_iload hx hb dX0_name_7 (lv_at hl 0 rfl) ?_
  refine lv_if_lt (tgt := 27) hx hb dX0_name_9 (by decide) (fun c => absurd c (nI_pos (by omega))) (fun c_1 => ?_)
  refine lv_iload hx hb dX0_name_12 (lv_at hl 0 rfl) ?_
  refine lv_bipush (v := 9) hx hb dX0_name_14 (by decide) ?_
  refine lv_icmp_ge (tgt := 27) hx hb dX0_name_16 (by decide) (fun c => absurd ((nle 9 k (by omega) (by omega)).mp c) (by omega)) (fun c_2 => ?_)
  refine lv_aload_n hx hb dX0_name_19 rfl (lv_at hl 1 rfl) ?_
  refine sk_get (v := .ref k3) (C := RX0) (T := TX0) (N := 6) hx hb hts inlX0 hown hK hP 0 rfl rfl 2 (by decide) w_1_131 rfl dX0_name_20 ?_
  refine lv_iload hx hb dX0_name_23 (lv_at hl 0 rfl) ?_
  refine lv_lload_n hx hb dX0_name_25 rfl (lv_at hl 3 rfl) ?_
  refine sk_lastE (k := k) (ws' := fun f_3 => [(h0, .inr (0, [.ref k1, .ref k2, .ref k3, .ref k4, .int (nI cl), .int (nI mw)])), (k3, .inl (cJ, 9, .inr (.inl f_3)))]) hx hb hK hP hD hS 1 1 rfl rfl (by omega) (by omega) (fun _ => rfl) dX0_name_26 (fun f_3 H locs ef_4 hP hD hS => ?_)
  exact sk_vret hx hb hr hlocks hK hP hD hS (⟨f_3, ef_4, rfl⟩) (Nat.le_of_ble_eq_true rfl) (Nat.le_of_ble_eq_true rfl) dX0_name_27
theorem kx_max (a : Nat) (h : a < 2147483648) : (if nI a < 0 then 0 else nI a) = nI a := if_neg (nI_pos h)
set_option maxHeartbeats 4000000 in
set_option maxRecDepth 100000 in
theorem c_kCode_run (l : Launch) (D : va_G) (cI cJ cC cZ cS : ClassId) (h0 : Nat) (k1 : Nat) (k2 : Nat) (k3 : Nat) (k4 : Nat) (cl : Nat) (mw : Nat) (f1 : Nat → Int32) (f2 : Nat → Int64) (f3 : Nat → Int64) (f4 : Nat → Int64) (a : Nat) (b : Nat) (K : List Nat) (nm : Nat → Int64) (v : Int64) (kn : Nat) (hcl : cl ≤ 1600) (hmw : mw ≤ 1) (hkl : cl = K.length) (hcd : cdK K cl mw f1) (hab : a ≤ b) (hbk : b ≤ K.length) (hkn : kn < 2) (hns : kcNs kn (kcSub K (a, b))) (hnm : ∀ j, j < 7 → f3 j = nm j) (hex : kcEx nm 64 (kcSub K (a, b)) [] = some [v]) : skM l yX0_run cX0_run 7 (some .long) 2 49 0 0 D (skT cI cJ cC cZ cS) [.ref h0, .int (nI a), .int (nI b)] [(h0, .inr (0, [.ref k1, .ref k2, .ref k3, .ref k4, .int (nI cl), .int (nI mw)])), (k1, .inl (cI, 1600, .inl f1)), (k2, .inl (cJ, 64, .inr (.inl f2))), (k3, .inl (cJ, 9, .inr (.inl f3))), (k4, .inl (cJ, 10, .inr (.inl f4)))] (skL D (skT cI cJ cC cZ cS) (fun (r : Int64) (u : va_W) => ∃ (g2 : Nat → Int64), r = v ∧ u = [(h0, .inr (0, [.ref k1, .ref k2, .ref k3, .ref k4, .int (nI cl), .int (nI mw)])), (k1, .inl (cI, 1600, .inl f1)), (k2, .inl (cJ, 64, .inr (.inl g2))), (k3, .inl (cJ, 9, .inr (.inl f3))), (k4, .inl (cJ, 10, .inr (.inl f4)))])) := by
  refine skM_of pf_X0_run (Nat.le_of_ble_eq_true rfl) ?_
  intro p e s m below meth c A ls E hP hD hl
  refine skE_el E (fun hx hb hr hml hlocks hin hown hts hK hA => ?_)
  have hown : s.vm.findClass RX0 = some m.cls := hown
  have hS : va_S A s.heap s.heap [] := va_S.rf
  have hl : lv_has ls 7 [(0, .ref h0), (1, .int (nI a)), (2, .int (nI b))] := hl
  refine lv_iconst (v := 0) hx hb dX0_run_0 (by decide) ?_
  refine lv_istore_n (lv' := [(3, .int 0), (0, .ref h0), (1, .int (nI a)), (2, .int (nI b))]) hx hb dX0_run_1 rfl hl (by decide) rfl (fun ls hl => ?_)
  refine lv_iload_n hx hb dX0_run_2 rfl (lv_at hl 2 rfl) ?_
  refine lv_iconst (v := 0) hx hb dX0_run_3 (by decide) ?_
  refine va_mmax hx hb (by rw [hml]; exact hl.1.symm) hown (hts _ w_3_224) (hts _ w_1_37) (hts _ w_1_3) (hts _ w_1_38) (Nat.le_of_ble_eq_true rfl) (Nat.le_of_ble_eq_true rfl) (Nat.le_of_ble_eq_true rfl) (Nat.le_of_ble_eq_true rfl) dX0_run_4 ?_
  refine sk_top (nI a) (kx_max a (by omega)) ?_
  refine lv_istore (lv' := [(4, .int (nI a)), (3, .int 0), (0, .ref h0), (1, .int (nI a)), (2, .int (nI b))]) hx hb dX0_run_7 hl (by decide) rfl (fun ls hl => ?_)
  have lp_1 : ∀ (n_2 : Nat) (i : Nat) (tp : Nat) (fs : Nat → Int64) (SS : List Int64) (H : Heap) (locs : List Loc) (ls : Array Slot), cl - i < n_2 → (i ≤ 1600) → (a ≤ i) → (i ≤ b) → (tp = SS.length) → (tp ≤ 64) → (stkO fs SS) → (kcNs kn (kcSub K (i, b))) → (kcEx nm 64 (kcSub K (i, b)) SS = some [v]) → va_P D vwCl [(h0, .inr (0, [.ref k1, .ref k2, .ref k3, .ref k4, .int (nI cl), .int (nI mw)])), (k1, .inl (cI, 1600, .inl f1)), (k2, .inl (cJ, 64, .inr (.inl fs))), (k3, .inl (cJ, 9, .inr (.inl f3))), (k4, .inl (cJ, 10, .inr (.inl f4)))] H → va_D A [(h0, .inr (0, [.ref k1, .ref k2, .ref k3, .ref k4, .int (nI cl), .int (nI mw)])), (k1, .inl (cI, 1600, .inl f1)), (k2, .inl (cJ, 64, .inr (.inl fs))), (k3, .inl (cJ, 9, .inr (.inl f3))), (k4, .inl (cJ, 10, .inr (.inl f4)))] → va_S A s.heap H locs → lv_has ls 7 [(4, .int (nI i)), (3, .int (nI tp)), (0, .ref h0), (1, .int (nI a)), (2, .int (nI b))] → W p l e { frames := 2, cells := 0, slots := 0, locals := 49 } s m ([.ref h0, .int (nI a), .int (nI b)] : List Value).toArray below meth c H locs 0 0 (MQ below (skL D (skT cI cJ cC cZ cS) (fun (r : Int64) (u : va_W) => ∃ (g2 : Nat → Int64), r = v ∧ u = [(h0, .inr (0, [.ref k1, .ref k2, .ref k3, .ref k4, .int (nI cl), .int (nI mw)])), (k1, .inl (cI, 1600, .inl f1)), (k2, .inl (cJ, 64, .inr (.inl g2))), (k3, .inl (cJ, 9, .inr (.inl f3))), (k4, .inl (cJ, 10, .inr (.inl f4)))]) A) ([.ref h0, .int (nI a), .int (nI b)] : List Value).toArray s 0 0 A) (F0 m 9 ls []) := by
    intro n_2
    induction n_2 with
    | zero => intro i tp fs SS H locs ls hm; exact absurd hm (Nat.not_lt_zero _)
    | succ n_2 ih_lp_1 =>
      intro i tp fs SS H locs ls hm hi hai hib0 htp htp64 hst hns2 hex2 hP hD hS hl
      refine lv_iload hx hb dX0_run_9 (lv_at hl 0 rfl) ?_
      refine lv_iload_n hx hb dX0_run_11 rfl (lv_at hl 4 rfl) ?_
      refine lv_icmp_ge (tgt := 173) hx hb dX0_run_12 (by decide) (fun c_3 => ?_) (fun c_3 => ?_)
      · have c_3 : b ≤ i := (nle b i (by omega) (by omega)).mp c_3
        obtain rfl := kx_end hex2 (by omega)
        have htp3 : tp = 1 := htp
        refine lv_iload_n hx hb dX0_run_173 rfl (lv_at hl 1 rfl) ?_
        refine lv_if_le (tgt := 186) hx hb dX0_run_174 (by decide) (fun c => absurd c (npos_le (by omega) (by omega))) (fun c_4 => ?_)
        refine lv_aload_n hx hb dX0_run_177 rfl (lv_at hl 2 rfl) ?_
        refine sk_get (v := .ref k2) (C := RX0) (T := TX0) (N := 6) hx hb hts inlX0 hown hK hP 0 rfl rfl 1 (by decide) w_1_130 rfl dX0_run_178 ?_
        refine lv_iconst (v := 0) hx hb dX0_run_181 (by decide) ?_
        refine va_lald hx hb hK.1 hP 2 1 rfl rfl (by unfold vp_in; decide) dX0_run_182 ?_
        refine sk_topl v (hst.1) ?_
        refine lv_goto (tgt := 187) hx hb dX0_run_183 (by decide) ?_
        exact sk_lret hx hb hr hlocks hK hP hD hS (⟨fs, rfl, rfl⟩) (Nat.le_of_ble_eq_true rfl) (Nat.le_of_ble_eq_true rfl) dX0_run_187
      · have c_3 : ¬ (b ≤ i) := fun h => c_3 ((nle b i (by omega) (by omega)).mpr h)
        refine lv_iload hx hb dX0_run_15 (lv_at hl 0 rfl) ?_
        refine lv_aload_n hx hb dX0_run_17 rfl (lv_at hl 2 rfl) ?_
        refine sk_get (v := .int (nI cl)) (C := RX0) (T := TX0) (N := 6) hx hb hts inlX0 hown hK hP 0 rfl rfl 4 (by decide) w_1_133 rfl dX0_run_18 ?_
        refine lv_icmp_ge (tgt := 173) hx hb dX0_run_21 (by decide) (fun c => absurd ((nle cl i (by omega) (by omega)).mp c) (by omega)) (fun c_5 => ?_)
        have hib : i < b := by omega
        have hld : f1 (nI i).toNatClampNeg = cm (K.getD i 0) := by rw [nI_clamp (by omega)]; exact hcd.2.2 i (by omega)
        rw [kcSub_c hib (by omega)] at hex2 hns2
        generalize K.getD i 0 = cq at hex2 hns2 hld
        have hns3 : kcNs kn (kcSub K (i + 1, b)) := fun x hx => hns2 x (List.mem_cons_of_mem _ hx)
        obtain ⟨T, hT1, hT2, hT3⟩ := kcEx_c hex2
        rcases kx_cls hkn (hns2 cq (List.mem_cons_self ..)) with ⟨hc1, hc2, hcm⟩ | ⟨hc1, hc2, hcm⟩ | ⟨hc1, hc2, hcm⟩
        · obtain ⟨b1, a1, R1, rfl, rfl⟩ := kcSt_two (by omega) hT1
          have htp2 : tp = R1.length + 2 := htp
          refine lv_aload_n hx hb dX0_run_24 rfl (lv_at hl 2 rfl) ?_
          refine sk_get (v := .ref k1) (C := RX0) (T := TX0) (N := 6) hx hb hts inlX0 hown hK hP 0 rfl rfl 0 (by decide) w_1_129 rfl dX0_run_25 ?_
          refine lv_iload hx hb dX0_run_28 (lv_at hl 0 rfl) ?_
          refine va_iald hx hb hK.1 hP 1 0 rfl rfl (vin i 1600 (by omega) (by omega)) dX0_run_30 ?_
          refine sk_top (nI (29999 + cq)) (by rw [hld]; exact hcm) ?_
          refine lv_istore (lv' := [(5, .int (nI (29999 + cq))), (4, .int (nI i)), (3, .int (nI tp)), (0, .ref h0), (1, .int (nI a)), (2, .int (nI b))]) hx hb dX0_run_31 hl (by decide) rfl (fun ls hl => ?_)
          refine lv_iload hx hb dX0_run_33 (lv_at hl 0 rfl) ?_
          refine lv_sipush (v := 30000) hx hb dX0_run_35 (by decide) ?_
          refine lv_icmp_lt (tgt := 79) hx hb dX0_run_38 (by decide) (fun c => absurd ((nlt (29999 + cq) 30000 (by omega) (by omega)).mp c) (by omega)) (fun c_6 => ?_)
          refine lv_iload_n hx hb dX0_run_41 rfl (lv_at hl 2 rfl) ?_
          refine lv_iconst (v := 1) hx hb dX0_run_42 (by decide) ?_
          refine lv_icmp_le (tgt := 167) hx hb dX0_run_43 (by decide) (fun c => absurd ((nle tp 1 (by omega) (by omega)).mp c) (by omega)) (fun c_7 => ?_)
          refine lv_iinc (v := nI (tp - 1)) (lv' := [(3, .int (nI (tp - 1))), (5, .int (nI (29999 + cq))), (4, .int (nI i)), (0, .ref h0), (1, .int (nI a)), (2, .int (nI b))]) hx hb dX0_run_46 hl (k := 2) rfl (ndec1 tp (by omega)) (by decide) rfl (fun ls hl => ?_)
          refine lv_aload_n hx hb dX0_run_49 rfl (lv_at hl 3 rfl) ?_
          refine sk_get (v := .ref k2) (C := RX0) (T := TX0) (N := 6) hx hb hts inlX0 hown hK hP 0 rfl rfl 1 (by decide) w_1_130 rfl dX0_run_50 ?_
          refine lv_iload_n hx hb dX0_run_53 rfl (lv_at hl 0 rfl) ?_
          refine lv_iconst (v := 1) hx hb dX0_run_54 (by decide) ?_
          refine lv_isub hx hb dX0_run_55 ?_
          refine sk_top (nI (tp - 1 - 1)) (nsub (tp - 1) 1 (by omega)) ?_
          refine lv_iload hx hb dX0_run_56 (lv_at hl 1 rfl) ?_
          refine lv_aload_n hx hb dX0_run_58 rfl (lv_at hl 3 rfl) ?_
          refine sk_get (v := .ref k2) (C := RX0) (T := TX0) (N := 6) hx hb hts inlX0 hown hK hP 0 rfl rfl 1 (by decide) w_1_130 rfl dX0_run_59 ?_
          refine lv_iload_n hx hb dX0_run_62 rfl (lv_at hl 0 rfl) ?_
          refine lv_iconst (v := 1) hx hb dX0_run_63 (by decide) ?_
          refine lv_isub hx hb dX0_run_64 ?_
          refine sk_top (nI (tp - 1 - 1)) (nsub (tp - 1) 1 (by omega)) ?_
          refine va_lald hx hb hK.1 hP 2 1 rfl rfl (vin (tp - 1 - 1) 64 (by omega) (by omega)) dX0_run_65 ?_
          refine sk_topl a1 (stk_a hst (by omega) (by omega)) ?_
          refine lv_aload_n hx hb dX0_run_66 rfl (lv_at hl 3 rfl) ?_
          refine sk_get (v := .ref k2) (C := RX0) (T := TX0) (N := 6) hx hb hts inlX0 hown hK hP 0 rfl rfl 1 (by decide) w_1_130 rfl dX0_run_67 ?_
          refine lv_iload_n hx hb dX0_run_70 rfl (lv_at hl 0 rfl) ?_
          refine va_lald hx hb hK.1 hP 2 1 rfl rfl (vin (tp - 1) 64 (by omega) (by omega)) dX0_run_71 ?_
          refine sk_topl b1 (stk_b hst (by omega) (by omega)) ?_
          refine sk_Sl (n := 3) (rest := [.int (nI (tp - 1 - 1)), .ref k2]) (wr := [(h0, .inr (0, [.ref k1, .ref k2, .ref k3, .ref k4, .int (nI cl), .int (nI mw)])), (k1, .inl (cI, 1600, .inl f1)), (k2, .inl (cJ, 64, .inr (.inl fs))), (k3, .inl (cJ, 9, .inr (.inl f3))), (k4, .inl (cJ, 10, .inr (.inl f4)))]) ⟨hx, hb, hml, hown, hts⟩ hl.1 (c_kofTwo l D cI cJ cC cZ cS cq a1 b1 (by omega) (by omega)) w_3_225 w_3_226 w_1_8 w_3_227 hd_X0_ofTwo_3 ⟨⟨(Nat.le_of_ble_eq_true rfl), (Nat.le_of_ble_eq_true rfl)⟩, (Nat.le_of_ble_eq_true rfl), (Nat.le_of_ble_eq_true rfl)⟩ hK hP hD hS hA [] [0, 1, 2, 3, 4] rfl rfl (by decide +kernel) (by decide +kernel) (by decide +kernel) rfl rfl (Nat.le_of_ble_eq_true rfl) dX0_run_72 (fun r_8 u H locs hw hP hD hS => ?_)
          obtain ⟨hr_9, rfl⟩ := hw
          refine o_re (ws' := [(h0, .inr (0, [.ref k1, .ref k2, .ref k3, .ref k4, .int (nI cl), .int (nI mw)])), (k1, .inl (cI, 1600, .inl f1)), (k2, .inl (cJ, 64, .inr (.inl fs))), (k3, .inl (cJ, 9, .inr (.inl f3))), (k4, .inl (cJ, 10, .inr (.inl f4)))]) hP hD rfl (fun hP hD => ?_)
          subst hr_9
          refine sk_lastE (k := (tp - 1 - 1)) (ws' := fun f_10 => [(h0, .inr (0, [.ref k1, .ref k2, .ref k3, .ref k4, .int (nI cl), .int (nI mw)])), (k1, .inl (cI, 1600, .inl f1)), (k2, .inl (cJ, 64, .inr (.inl f_10))), (k3, .inl (cJ, 9, .inr (.inl f3))), (k4, .inl (cJ, 10, .inr (.inl f4)))]) hx hb hK hP hD hS 2 1 rfl rfl (by omega) (by omega) (fun _ => rfl) dX0_run_75 (fun f_10 H locs ef_11 hP hD hS => ?_)
          have hs_12 := stk_op hst (by omega) ef_11
          refine lv_goto (tgt := 167) hx hb dX0_run_76 (by decide) ?_
          refine lv_iinc (v := nI (i + 1)) (lv' := [(4, .int (nI (i + 1))), (3, .int (nI (tp - 1))), (5, .int (nI (29999 + cq))), (0, .ref h0), (1, .int (nI a)), (2, .int (nI b))]) hx hb dX0_run_167 hl (k := 2) rfl (ninc i 1 (by decide)) (by decide) rfl (fun ls hl => ?_)
          refine lv_goto (tgt := 9) hx hb dX0_run_170 (by decide) ?_
          exact ih_lp_1 (i + 1) (tp - 1) f_10 (kcOp cq a1 b1 :: R1) _ _ _ (by omega) (by omega) (by omega) (by omega) (show _ = R1.length + 1 by omega) (by omega) hs_12 hns3 hT3 hP hD hS (lv_sub hl [0, 1, 3, 4, 5] rfl)
        · rw [kcSt_num (by omega)] at hT1
          obtain rfl := Option.some.inj hT1
          have htp2 : SS.length + 1 ≤ 64 := hT2
          refine lv_aload_n hx hb dX0_run_24 rfl (lv_at hl 2 rfl) ?_
          refine sk_get (v := .ref k1) (C := RX0) (T := TX0) (N := 6) hx hb hts inlX0 hown hK hP 0 rfl rfl 0 (by decide) w_1_129 rfl dX0_run_25 ?_
          refine lv_iload hx hb dX0_run_28 (lv_at hl 0 rfl) ?_
          refine va_iald hx hb hK.1 hP 1 0 rfl rfl (vin i 1600 (by omega) (by omega)) dX0_run_30 ?_
          refine sk_top (nI (cq - 1000)) (by rw [hld]; exact hcm) ?_
          refine lv_istore (lv' := [(5, .int (nI (cq - 1000))), (4, .int (nI i)), (3, .int (nI tp)), (0, .ref h0), (1, .int (nI a)), (2, .int (nI b))]) hx hb dX0_run_31 hl (by decide) rfl (fun ls hl => ?_)
          refine lv_iload hx hb dX0_run_33 (lv_at hl 0 rfl) ?_
          refine lv_sipush (v := 30000) hx hb dX0_run_35 (by decide) ?_
          refine lv_icmp_lt (tgt := 79) hx hb dX0_run_38 (by decide) (fun c_13 => ?_) (fun c => absurd ((nlt (cq - 1000) 30000 (by omega) (by omega)).mpr (by omega)) c)
          refine lv_iload hx hb dX0_run_79 (lv_at hl 0 rfl) ?_
          refine lv_sipush (v := 20000) hx hb dX0_run_81 (by decide) ?_
          refine lv_icmp_lt (tgt := 116) hx hb dX0_run_84 (by decide) (fun c_14 => ?_) (fun c => absurd ((nlt (cq - 1000) 20000 (by omega) (by omega)).mpr (by omega)) c)
          refine lv_iload_n hx hb dX0_run_116 rfl (lv_at hl 2 rfl) ?_
          refine lv_aload_n hx hb dX0_run_117 rfl (lv_at hl 3 rfl) ?_
          refine sk_get (v := .ref k2) (C := RX0) (T := TX0) (N := 6) hx hb hts inlX0 hown hK hP 0 rfl rfl 1 (by decide) w_1_130 rfl dX0_run_118 ?_
          refine va_alen (v := 64) hx hb hK.1 hP 2 1 rfl rfl rfl dX0_run_121 ?_
          refine lv_icmp_ge (tgt := 167) hx hb dX0_run_122 (by decide) (fun c => absurd ((nle 64 tp (by omega) (by omega)).mp c) (by omega)) (fun c_15 => ?_)
          refine lv_iload hx hb dX0_run_125 (lv_at hl 0 rfl) ?_
          refine lv_sipush (v := 10000) hx hb dX0_run_127 (by decide) ?_
          refine lv_isub hx hb dX0_run_130 ?_
          refine lv_istore (lv' := [(6, .int (nI (cq - 1000) - 10000)), (5, .int (nI (cq - 1000))), (4, .int (nI i)), (3, .int (nI tp)), (0, .ref h0), (1, .int (nI a)), (2, .int (nI b))]) hx hb dX0_run_131 hl (by decide) rfl (fun ls hl => ?_)
          refine lv_aload_n hx hb dX0_run_133 rfl (lv_at hl 4 rfl) ?_
          refine sk_get (v := .ref k2) (C := RX0) (T := TX0) (N := 6) hx hb hts inlX0 hown hK hP 0 rfl rfl 1 (by decide) w_1_130 rfl dX0_run_134 ?_
          refine lv_iload_n hx hb dX0_run_137 rfl (lv_at hl 3 rfl) ?_
          refine lv_iload hx hb dX0_run_138 (lv_at hl 0 rfl) ?_
          refine lv_if_lt (tgt := 160) hx hb dX0_run_140 (by decide) (fun c_16 => ?_) (fun c => absurd (kx_neg (by omega)) c)
          refine lv_iload hx hb dX0_run_160 (lv_at hl 1 rfl) ?_
          refine lv_i2l hx hb dX0_run_162 rfl ?_
          refine sk_lastE (k := tp) (ws' := fun f_17 => [(h0, .inr (0, [.ref k1, .ref k2, .ref k3, .ref k4, .int (nI cl), .int (nI mw)])), (k1, .inl (cI, 1600, .inl f1)), (k2, .inl (cJ, 64, .inr (.inl f_17))), (k3, .inl (cJ, 9, .inr (.inl f3))), (k4, .inl (cJ, 10, .inr (.inl f4)))]) hx hb hK hP hD hS 2 1 rfl rfl (by omega) (by omega) (fun _ => rfl) dX0_run_163 (fun f_17 H locs ef_18 hP hD hS => ?_)
          have hs_19 := stk_push hst htp ef_18 (kx_i2l (by omega))
          refine lv_iinc (v := nI (tp + 1)) (lv' := [(3, .int (nI (tp + 1))), (6, .int (nI (cq - 1000) - 10000)), (5, .int (nI (cq - 1000))), (4, .int (nI i)), (0, .ref h0), (1, .int (nI a)), (2, .int (nI b))]) hx hb dX0_run_164 hl (k := 3) rfl (ninc tp 1 (by decide)) (by decide) rfl (fun ls hl => ?_)
          refine lv_iinc (v := nI (i + 1)) (lv' := [(4, .int (nI (i + 1))), (3, .int (nI (tp + 1))), (6, .int (nI (cq - 1000) - 10000)), (5, .int (nI (cq - 1000))), (0, .ref h0), (1, .int (nI a)), (2, .int (nI b))]) hx hb dX0_run_167 hl (k := 3) rfl (ninc i 1 (by decide)) (by decide) rfl (fun ls hl => ?_)
          refine lv_goto (tgt := 9) hx hb dX0_run_170 (by decide) ?_
          exact ih_lp_1 (i + 1) (tp + 1) f_17 (Int64.ofNat (cq - 1000) :: SS) _ _ _ (by omega) (by omega) (by omega) (by omega) (show _ = SS.length + 1 by omega) (by omega) hs_19 hns3 hT3 hP hD hS (lv_sub hl [0, 1, 4, 5, 6] rfl)
        · rw [kcSt_nm (by omega) (by omega)] at hT1
          obtain rfl := Option.some.inj hT1
          have htp2 : SS.length + 1 ≤ 64 := hT2
          refine lv_aload_n hx hb dX0_run_24 rfl (lv_at hl 2 rfl) ?_
          refine sk_get (v := .ref k1) (C := RX0) (T := TX0) (N := 6) hx hb hts inlX0 hown hK hP 0 rfl rfl 0 (by decide) w_1_129 rfl dX0_run_25 ?_
          refine lv_iload hx hb dX0_run_28 (lv_at hl 0 rfl) ?_
          refine va_iald hx hb hK.1 hP 1 0 rfl rfl (vin i 1600 (by omega) (by omega)) dX0_run_30 ?_
          refine sk_top (nI (9960 + cq)) (by rw [hld]; exact hcm) ?_
          refine lv_istore (lv' := [(5, .int (nI (9960 + cq))), (4, .int (nI i)), (3, .int (nI tp)), (0, .ref h0), (1, .int (nI a)), (2, .int (nI b))]) hx hb dX0_run_31 hl (by decide) rfl (fun ls hl => ?_)
          refine lv_iload hx hb dX0_run_33 (lv_at hl 0 rfl) ?_
          refine lv_sipush (v := 30000) hx hb dX0_run_35 (by decide) ?_
          refine lv_icmp_lt (tgt := 79) hx hb dX0_run_38 (by decide) (fun c_20 => ?_) (fun c => absurd ((nlt (9960 + cq) 30000 (by omega) (by omega)).mpr (by omega)) c)
          refine lv_iload hx hb dX0_run_79 (lv_at hl 0 rfl) ?_
          refine lv_sipush (v := 20000) hx hb dX0_run_81 (by decide) ?_
          refine lv_icmp_lt (tgt := 116) hx hb dX0_run_84 (by decide) (fun c_21 => ?_) (fun c => absurd ((nlt (9960 + cq) 20000 (by omega) (by omega)).mpr (by omega)) c)
          refine lv_iload_n hx hb dX0_run_116 rfl (lv_at hl 2 rfl) ?_
          refine lv_aload_n hx hb dX0_run_117 rfl (lv_at hl 3 rfl) ?_
          refine sk_get (v := .ref k2) (C := RX0) (T := TX0) (N := 6) hx hb hts inlX0 hown hK hP 0 rfl rfl 1 (by decide) w_1_130 rfl dX0_run_118 ?_
          refine va_alen (v := 64) hx hb hK.1 hP 2 1 rfl rfl rfl dX0_run_121 ?_
          refine lv_icmp_ge (tgt := 167) hx hb dX0_run_122 (by decide) (fun c => absurd ((nle 64 tp (by omega) (by omega)).mp c) (by omega)) (fun c_22 => ?_)
          refine lv_iload hx hb dX0_run_125 (lv_at hl 0 rfl) ?_
          refine lv_sipush (v := 10000) hx hb dX0_run_127 (by decide) ?_
          refine lv_isub hx hb dX0_run_130 ?_
          refine sk_top (nI (9960 + cq - 10000)) (nsub (9960 + cq) 10000 (by omega)) ?_
          refine lv_istore (lv' := [(6, .int (nI (9960 + cq - 10000))), (5, .int (nI (9960 + cq))), (4, .int (nI i)), (3, .int (nI tp)), (0, .ref h0), (1, .int (nI a)), (2, .int (nI b))]) hx hb dX0_run_131 hl (by decide) rfl (fun ls hl => ?_)
          refine lv_aload_n hx hb dX0_run_133 rfl (lv_at hl 4 rfl) ?_
          refine sk_get (v := .ref k2) (C := RX0) (T := TX0) (N := 6) hx hb hts inlX0 hown hK hP 0 rfl rfl 1 (by decide) w_1_130 rfl dX0_run_134 ?_
          refine lv_iload_n hx hb dX0_run_137 rfl (lv_at hl 3 rfl) ?_
          refine lv_iload hx hb dX0_run_138 (lv_at hl 0 rfl) ?_
          refine lv_if_lt (tgt := 160) hx hb dX0_run_140 (by decide) (fun c => absurd c (nI_pos (by omega))) (fun c_23 => ?_)
          refine lv_iload hx hb dX0_run_143 (lv_at hl 0 rfl) ?_
          refine lv_bipush (v := 9) hx hb dX0_run_145 (by decide) ?_
          refine lv_icmp_ge (tgt := 160) hx hb dX0_run_147 (by decide) (fun c => absurd ((nle 9 (9960 + cq - 10000) (by omega) (by omega)).mp c) (by omega)) (fun c_24 => ?_)
          refine lv_aload_n hx hb dX0_run_150 rfl (lv_at hl 4 rfl) ?_
          refine sk_get (v := .ref k3) (C := RX0) (T := TX0) (N := 6) hx hb hts inlX0 hown hK hP 0 rfl rfl 2 (by decide) w_1_131 rfl dX0_run_151 ?_
          refine lv_iload hx hb dX0_run_154 (lv_at hl 0 rfl) ?_
          refine va_lald hx hb hK.1 hP 3 1 rfl rfl (vin (9960 + cq - 10000) 9 (by omega) (by omega)) dX0_run_156 ?_
          refine sk_topl (nm (cq - 40)) (by rw [nI_clamp (by omega), show 9960 + cq - 10000 = cq - 40 by omega]; exact hnm _ (by omega)) ?_
          refine lv_goto (tgt := 163) hx hb dX0_run_157 (by decide) ?_
          refine sk_lastE (k := tp) (ws' := fun f_25 => [(h0, .inr (0, [.ref k1, .ref k2, .ref k3, .ref k4, .int (nI cl), .int (nI mw)])), (k1, .inl (cI, 1600, .inl f1)), (k2, .inl (cJ, 64, .inr (.inl f_25))), (k3, .inl (cJ, 9, .inr (.inl f3))), (k4, .inl (cJ, 10, .inr (.inl f4)))]) hx hb hK hP hD hS 2 1 rfl rfl (by omega) (by omega) (fun _ => rfl) dX0_run_163 (fun f_25 H locs ef_26 hP hD hS => ?_)
          have hs_27 := stk_push hst htp ef_26 rfl
          refine lv_iinc (v := nI (tp + 1)) (lv' := [(3, .int (nI (tp + 1))), (6, .int (nI (9960 + cq - 10000))), (5, .int (nI (9960 + cq))), (4, .int (nI i)), (0, .ref h0), (1, .int (nI a)), (2, .int (nI b))]) hx hb dX0_run_164 hl (k := 3) rfl (ninc tp 1 (by decide)) (by decide) rfl (fun ls hl => ?_)
          refine lv_iinc (v := nI (i + 1)) (lv' := [(4, .int (nI (i + 1))), (3, .int (nI (tp + 1))), (6, .int (nI (9960 + cq - 10000))), (5, .int (nI (9960 + cq))), (0, .ref h0), (1, .int (nI a)), (2, .int (nI b))]) hx hb dX0_run_167 hl (k := 3) rfl (ninc i 1 (by decide)) (by decide) rfl (fun ls hl => ?_)
          refine lv_goto (tgt := 9) hx hb dX0_run_170 (by decide) ?_
          exact ih_lp_1 (i + 1) (tp + 1) f_25 (nm (cq - 40) :: SS) _ _ _ (by omega) (by omega) (by omega) (by omega) (show _ = SS.length + 1 by omega) (by omega) hs_27 hns3 hT3 hP hD hS (lv_sub hl [0, 1, 4, 5, 6] rfl)
  exact lp_1 (cl - a + 1) a 0 f2 ([]) _ _ _ (Nat.lt_succ_self _) (by omega) (by omega) (by omega) rfl (by omega) True.intro hns hex hP hD hS (lv_sub hl [0, 1, 2, 3, 4] rfl)

