theorem dX0_run_53 : decode cX0_run 53 = .ok (.iload_n 3, 1) := q_iload_n3 (bat_get dg_X0_run_42_42 5 rfl rfl)
theorem dX0_run_54 : decode cX0_run 54 = .ok (.iconst 1, 1) := q_iconst1 (bat_get dg_X0_run_42_42 6 rfl rfl)
theorem dX0_run_55 : decode cX0_run 55 = .ok (.isub, 1) := q_isub (bat_get dg_X0_run_42_42 7 rfl rfl)
theorem dX0_run_56 : decode cX0_run 56 = .ok (.iload 5, 2) := q_iload (bat_get dg_X0_run_42_42 8 rfl rfl)
theorem dX0_run_58 : decode cX0_run 58 = .ok (.aload_n 0, 1) := q_aload_n0 (bat_get dg_X0_run_42_42 9 rfl rfl)
theorem dX0_run_59 : decode cX0_run 59 = .ok (.getfield 17, 3) := q_getfield (bat_get dg_X0_run_42_42 10 rfl rfl) rfl
theorem dX0_run_62 : decode cX0_run 62 = .ok (.iload_n 3, 1) := q_iload_n3 (bat_get dg_X0_run_42_42 11 rfl rfl)
theorem dX0_run_63 : decode cX0_run 63 = .ok (.iconst 1, 1) := q_iconst1 (bat_get dg_X0_run_42_42 12 rfl rfl)
theorem dX0_run_64 : decode cX0_run 64 = .ok (.isub, 1) := q_isub (bat_get dg_X0_run_42_42 13 rfl rfl)
theorem dX0_run_65 : decode cX0_run 65 = .ok (.laload, 1) := q_laload (bat_get dg_X0_run_42_42 14 rfl rfl)
theorem dX0_run_66 : decode cX0_run 66 = .ok (.aload_n 0, 1) := q_aload_n0 (bat_get dg_X0_run_42_42 15 rfl rfl)
theorem dX0_run_67 : decode cX0_run 67 = .ok (.getfield 17, 3) := q_getfield (bat_get dg_X0_run_42_42 16 rfl rfl) rfl
theorem dX0_run_70 : decode cX0_run 70 = .ok (.iload_n 3, 1) := q_iload_n3 (bat_get dg_X0_run_42_42 17 rfl rfl)
theorem dX0_run_71 : decode cX0_run 71 = .ok (.laload, 1) := q_laload (bat_get dg_X0_run_42_42 18 rfl rfl)
theorem dX0_run_72 : decode cX0_run 72 = .ok (.invokestatic 41, 3) := q_invokestatic (bat_get dg_X0_run_42_42 19 rfl rfl) rfl
theorem dX0_run_75 : decode cX0_run 75 = .ok (.lastore, 1) := q_lastore (bat_get dg_X0_run_42_42 20 rfl rfl)
theorem dX0_run_76 : decode cX0_run 76 = .ok (.goto 91, 3) := q_goto (bat_get dg_X0_run_42_42 21 rfl rfl) rfl
theorem w_3_224 : (Cond.methodLink RX0 35 Lib.Math.max.name) ∈ wsL_law := sk_mem (ck_3 _ (List.mem_of_getElem? (i := 224) rfl)) rfl
theorem w_1_37 : (Cond.static Lib.Math.max.name) ∈ wsL_law := sk_mem (ck_1 _ (List.mem_of_getElem? (i := 37) rfl)) rfl
theorem w_1_38 : (Cond.code Lib.Math.max.name Lib.Math.max.code 2 (some .int)) ∈ wsL_law := sk_mem (ck_1 _ (List.mem_of_getElem? (i := 38) rfl)) rfl
theorem w_1_130 : (Cond.fieldLink RX0 17 "SameKeeper$Code" "stack" "[J") ∈ wsL_law := sk_mem (ck_1 _ (List.mem_of_getElem? (i := 130) rfl)) rfl
theorem w_4_2 : (Cond.methodLink RX0 45 yX0_ofOne) ∈ wsL_law := sk_mem (ck_4 _ (List.mem_of_getElem? (i := 2) rfl)) rfl
theorem w_4_4 : (Cond.instanceMethod yX0_ofOne) ∈ wsL_law := sk_mem (ck_4 _ (List.mem_of_getElem? (i := 4) rfl)) rfl
theorem w_0_16 : (Cond.selects RX0 yX0_ofOne yX0_ofOne) ∈ wsL_law := sk_mem (ck_0 _ (List.mem_of_getElem? (i := 16) rfl)) rfl
theorem w_3_225 : (Cond.methodLink RX0 41 yX0_ofTwo) ∈ wsL_law := sk_mem (ck_3 _ (List.mem_of_getElem? (i := 225) rfl)) rfl
theorem w_3_226 : (Cond.static yX0_ofTwo) ∈ wsL_law := sk_mem (ck_3 _ (List.mem_of_getElem? (i := 226) rfl)) rfl
theorem w_3_223 : (Cond.code yX0_run cX0_run 7 (some .long)) ∈ wsL_law := sk_mem (ck_3 _ (List.mem_of_getElem? (i := 223) rfl)) rfl
def om_5_11 : List Bool := true :: false :: false :: false :: true :: []
theorem hd_X0_ofOne_2 : skD yX0_ofOne 2 := by decide +kernel
theorem hd_X0_ofTwo_3 : skD yX0_ofTwo 3 := by decide +kernel
set_option maxHeartbeats 4000000 in
set_option maxRecDepth 100000 in
theorem c_Code_run (l : Launch) (D : va_G) (cI cJ cC cZ cS : ClassId) (h0 : Nat) (k1 : Nat) (k2 : Nat) (k3 : Nat) (k4 : Nat) (cl : Nat) (mw : Nat) (f1 : Nat → Int32) (f2 : Nat → Int64) (f3 : Nat → Int64) (f4 : Nat → Int64) (a1 : Int32) (b1 : Int32) (hcl : cl ≤ 1600) (hmw : mw ≤ 1) : skM l yX0_run cX0_run 7 (some .long) 2 49 0 0 D (skT cI cJ cC cZ cS) [.ref h0, .int a1, .int b1] [(h0, .inr (0, [.ref k1, .ref k2, .ref k3, .ref k4, .int (nI cl), .int (nI mw)])), (k1, .inl (cI, 1600, .inl f1)), (k2, .inl (cJ, 64, .inr (.inl f2))), (k3, .inl (cJ, 9, .inr (.inl f3))), (k4, .inl (cJ, 10, .inr (.inl f4)))] (skL D (skT cI cJ cC cZ cS) (fun (r : Int64) (u : va_W) => ∃ (g2 : Nat → Int64), u = [(h0, .inr (0, [.ref k1, .ref k2, .ref k3, .ref k4, .int (nI cl), .int (nI mw)])), (k1, .inl (cI, 1600, .inl f1)), (k2, .inl (cJ, 64, .inr (.inl g2))), (k3, .inl (cJ, 9, .inr (.inl f3))), (k4, .inl (cJ, 10, .inr (.inl f4)))])) := by
  refine skM_of pf_X0_run (Nat.le_of_ble_eq_true rfl) ?_
  intro p e s m below meth c A ls E hP hD hl
  refine skE_el E (fun hx hb hr hml hlocks hin hown hts hK hA => ?_)
  have hown : s.vm.findClass RX0 = some m.cls := hown
  have hS : va_S A s.heap s.heap [] := va_S.rf
  have hl : lv_has ls 7 [(0, .ref h0), (1, .int a1), (2, .int b1)] := hl
  refine lv_iconst (v := 0) hx hb dX0_run_0 (by decide) ?_
  refine lv_istore_n (lv' := [(3, .int 0), (0, .ref h0), (1, .int a1), (2, .int b1)]) hx hb dX0_run_1 rfl hl (by decide) rfl (fun ls hl => ?_)
  refine lv_iload_n hx hb dX0_run_2 rfl (lv_at hl 2 rfl) ?_
  refine lv_iconst (v := 0) hx hb dX0_run_3 (by decide) ?_
  refine va_mmax hx hb (by rw [hml]; exact hl.1.symm) hown (hts _ w_3_224) (hts _ w_1_37) (hts _ w_1_3) (hts _ w_1_38) (Nat.le_of_ble_eq_true rfl) (Nat.le_of_ble_eq_true rfl) (Nat.le_of_ble_eq_true rfl) (Nat.le_of_ble_eq_true rfl) dX0_run_4 ?_
  obtain ⟨k_1, hk_1, ek_1⟩ := nmax0 a1
  refine sk_top (nI k_1) ek_1 ?_
  refine lv_istore (lv' := [(4, .int (nI k_1)), (3, .int 0), (0, .ref h0), (1, .int a1), (2, .int b1)]) hx hb dX0_run_7 hl (by decide) rfl (fun ls hl => ?_)
  have lp_2 : ∀ (n_3 : Nat) (i : Nat) (tp : Nat) (fs : Nat → Int64) (H : Heap) (locs : List Loc) (ls : Array Slot), cl - i < n_3 → (tp ≤ 64) → (i < 2147483648) → va_P D vwCl [(h0, .inr (0, [.ref k1, .ref k2, .ref k3, .ref k4, .int (nI cl), .int (nI mw)])), (k1, .inl (cI, 1600, .inl f1)), (k2, .inl (cJ, 64, .inr (.inl fs))), (k3, .inl (cJ, 9, .inr (.inl f3))), (k4, .inl (cJ, 10, .inr (.inl f4)))] H → va_D A [(h0, .inr (0, [.ref k1, .ref k2, .ref k3, .ref k4, .int (nI cl), .int (nI mw)])), (k1, .inl (cI, 1600, .inl f1)), (k2, .inl (cJ, 64, .inr (.inl fs))), (k3, .inl (cJ, 9, .inr (.inl f3))), (k4, .inl (cJ, 10, .inr (.inl f4)))] → va_S A s.heap H locs → lv_has ls 7 [(4, .int (nI i)), (3, .int (nI tp)), (0, .ref h0), (1, .int a1), (2, .int b1)] → W p l e { frames := 2, cells := 0, slots := 0, locals := 49 } s m ([.ref h0, .int a1, .int b1] : List Value).toArray below meth c H locs 0 0 (MQ below (skL D (skT cI cJ cC cZ cS) (fun (r : Int64) (u : va_W) => ∃ (g2 : Nat → Int64), u = [(h0, .inr (0, [.ref k1, .ref k2, .ref k3, .ref k4, .int (nI cl), .int (nI mw)])), (k1, .inl (cI, 1600, .inl f1)), (k2, .inl (cJ, 64, .inr (.inl g2))), (k3, .inl (cJ, 9, .inr (.inl f3))), (k4, .inl (cJ, 10, .inr (.inl f4)))]) A) ([.ref h0, .int a1, .int b1] : List Value).toArray s 0 0 A) (F0 m 9 ls []) := by
    intro n_3
    induction n_3 with
    | zero => intro i tp fs H locs ls hm; exact absurd hm (Nat.not_lt_zero _)
    | succ n_3 ih_lp_2 =>
      intro i tp fs H locs ls hm htp hi hP hD hS hl
      refine lv_iload hx hb dX0_run_9 (lv_at hl 0 rfl) ?_
      refine lv_iload_n hx hb dX0_run_11 rfl (lv_at hl 4 rfl) ?_
      refine lv_icmp_ge (tgt := 173) hx hb dX0_run_12 (by decide) (fun c_4 => ?_) (fun c_4 => ?_)
      · skip
        refine lv_iload_n hx hb dX0_run_173 rfl (lv_at hl 1 rfl) ?_
        refine lv_if_le (tgt := 186) hx hb dX0_run_174 (by decide) (fun c_5 => ?_) (fun c_5 => ?_)
        · have c_5 : tp ≤ 0 := (nle tp 0 (by omega) (by omega)).mp c_5
          refine lv_lconst (v := 0) hx hb dX0_run_186 (by decide) ?_
          exact sk_lret hx hb hr hlocks hK hP hD hS (⟨fs, rfl⟩) (Nat.le_of_ble_eq_true rfl) (Nat.le_of_ble_eq_true rfl) dX0_run_187
        · have c_5 : ¬ (tp ≤ 0) := fun h => c_5 ((nle tp 0 (by omega) (by omega)).mpr h)
          refine lv_aload_n hx hb dX0_run_177 rfl (lv_at hl 2 rfl) ?_
          refine sk_get (v := .ref k2) (C := RX0) (T := TX0) (N := 6) hx hb hts inlX0 hown hK hP 0 rfl rfl 1 (by decide) w_1_130 rfl dX0_run_178 ?_
          refine lv_iconst (v := 0) hx hb dX0_run_181 (by decide) ?_
          refine va_lald hx hb hK.1 hP 2 1 rfl rfl (by unfold vp_in; decide) dX0_run_182 ?_
          refine lv_topl (fun v_6 ev_6 => ?_)
          refine lv_goto (tgt := 187) hx hb dX0_run_183 (by decide) ?_
          exact sk_lret hx hb hr hlocks hK hP hD hS (⟨fs, rfl⟩) (Nat.le_of_ble_eq_true rfl) (Nat.le_of_ble_eq_true rfl) dX0_run_187
      · skip
        refine lv_iload hx hb dX0_run_15 (lv_at hl 0 rfl) ?_
        refine lv_aload_n hx hb dX0_run_17 rfl (lv_at hl 2 rfl) ?_
        refine sk_get (v := .int (nI cl)) (C := RX0) (T := TX0) (N := 6) hx hb hts inlX0 hown hK hP 0 rfl rfl 4 (by decide) w_1_133 rfl dX0_run_18 ?_
        refine lv_icmp_ge (tgt := 173) hx hb dX0_run_21 (by decide) (fun c_7 => ?_) (fun c_7 => ?_)
        · have c_7 : cl ≤ i := (nle cl i (by omega) (by omega)).mp c_7
          refine lv_iload_n hx hb dX0_run_173 rfl (lv_at hl 1 rfl) ?_
          refine lv_if_le (tgt := 186) hx hb dX0_run_174 (by decide) (fun c_8 => ?_) (fun c_8 => ?_)
          · have c_8 : tp ≤ 0 := (nle tp 0 (by omega) (by omega)).mp c_8
            refine lv_lconst (v := 0) hx hb dX0_run_186 (by decide) ?_
            exact sk_lret hx hb hr hlocks hK hP hD hS (⟨fs, rfl⟩) (Nat.le_of_ble_eq_true rfl) (Nat.le_of_ble_eq_true rfl) dX0_run_187
          · have c_8 : ¬ (tp ≤ 0) := fun h => c_8 ((nle tp 0 (by omega) (by omega)).mpr h)
            refine lv_aload_n hx hb dX0_run_177 rfl (lv_at hl 2 rfl) ?_
            refine sk_get (v := .ref k2) (C := RX0) (T := TX0) (N := 6) hx hb hts inlX0 hown hK hP 0 rfl rfl 1 (by decide) w_1_130 rfl dX0_run_178 ?_
            refine lv_iconst (v := 0) hx hb dX0_run_181 (by decide) ?_
            refine va_lald hx hb hK.1 hP 2 1 rfl rfl (by unfold vp_in; decide) dX0_run_182 ?_
            refine lv_topl (fun v_9 ev_9 => ?_)
            refine lv_goto (tgt := 187) hx hb dX0_run_183 (by decide) ?_
            exact sk_lret hx hb hr hlocks hK hP hD hS (⟨fs, rfl⟩) (Nat.le_of_ble_eq_true rfl) (Nat.le_of_ble_eq_true rfl) dX0_run_187
        · have c_7 : ¬ (cl ≤ i) := fun h => c_7 ((nle cl i (by omega) (by omega)).mpr h)
          refine lv_aload_n hx hb dX0_run_24 rfl (lv_at hl 2 rfl) ?_
          refine sk_get (v := .ref k1) (C := RX0) (T := TX0) (N := 6) hx hb hts inlX0 hown hK hP 0 rfl rfl 0 (by decide) w_1_129 rfl dX0_run_25 ?_
          refine lv_iload hx hb dX0_run_28 (lv_at hl 0 rfl) ?_
          refine va_iald hx hb hK.1 hP 1 0 rfl rfl (vin i 1600 (by omega) (by omega)) dX0_run_30 ?_
          refine lv_topi (fun v_10 ev_10 => ?_)
          refine lv_istore (lv' := [(5, .int v_10), (4, .int (nI i)), (3, .int (nI tp)), (0, .ref h0), (1, .int a1), (2, .int b1)]) hx hb dX0_run_31 hl (by decide) rfl (fun ls hl => ?_)
          refine lv_iload hx hb dX0_run_33 (lv_at hl 0 rfl) ?_
          refine lv_sipush (v := 30000) hx hb dX0_run_35 (by decide) ?_
          refine lv_icmp_lt (tgt := 79) hx hb dX0_run_38 (by decide) (fun c_11 => ?_) (fun c_11 => ?_)
          · skip
            refine lv_iload hx hb dX0_run_79 (lv_at hl 0 rfl) ?_
            refine lv_sipush (v := 20000) hx hb dX0_run_81 (by decide) ?_
            refine lv_icmp_lt (tgt := 116) hx hb dX0_run_84 (by decide) (fun c_12 => ?_) (fun c_12 => ?_)
            · skip
              refine lv_iload_n hx hb dX0_run_116 rfl (lv_at hl 2 rfl) ?_
              refine lv_aload_n hx hb dX0_run_117 rfl (lv_at hl 3 rfl) ?_
              refine sk_get (v := .ref k2) (C := RX0) (T := TX0) (N := 6) hx hb hts inlX0 hown hK hP 0 rfl rfl 1 (by decide) w_1_130 rfl dX0_run_118 ?_
              refine va_alen (v := 64) hx hb hK.1 hP 2 1 rfl rfl rfl dX0_run_121 ?_
              refine lv_icmp_ge (tgt := 167) hx hb dX0_run_122 (by decide) (fun c_13 => ?_) (fun c_13 => ?_)
              · have c_13 : 64 ≤ tp := (nle 64 tp (by omega) (by omega)).mp c_13
                refine lv_iinc (v := nI (i + 1)) (lv' := [(4, .int (nI (i + 1))), (5, .int v_10), (3, .int (nI tp)), (0, .ref h0), (1, .int a1), (2, .int b1)]) hx hb dX0_run_167 hl (k := 1) rfl (ninc i 1 (by decide)) (by decide) rfl (fun ls hl => ?_)
                refine lv_goto (tgt := 9) hx hb dX0_run_170 (by decide) ?_
                exact ih_lp_2 (i + 1) tp fs _ _ _ (by omega) (by omega) (by omega) hP hD hS (lv_sub hl [0, 2, 3, 4, 5] rfl)
              · have c_13 : ¬ (64 ≤ tp) := fun h => c_13 ((nle 64 tp (by omega) (by omega)).mpr h)
                refine lv_iload hx hb dX0_run_125 (lv_at hl 0 rfl) ?_
                refine lv_sipush (v := 10000) hx hb dX0_run_127 (by decide) ?_
                refine lv_isub hx hb dX0_run_130 ?_
                refine lv_topi (fun v_14 ev_14 => ?_)
                refine lv_istore (lv' := [(6, .int v_14), (5, .int v_10), (4, .int (nI i)), (3, .int (nI tp)), (0, .ref h0), (1, .int a1), (2, .int b1)]) hx hb dX0_run_131 hl (by decide) rfl (fun ls hl => ?_)
                refine lv_aload_n hx hb dX0_run_133 rfl (lv_at hl 4 rfl) ?_
                refine sk_get (v := .ref k2) (C := RX0) (T := TX0) (N := 6) hx hb hts inlX0 hown hK hP 0 rfl rfl 1 (by decide) w_1_130 rfl dX0_run_134 ?_
                refine lv_iload_n hx hb dX0_run_137 rfl (lv_at hl 3 rfl) ?_
                refine lv_iload hx hb dX0_run_138 (lv_at hl 0 rfl) ?_
                refine lv_if_lt (tgt := 160) hx hb dX0_run_140 (by decide) (fun c_15 => ?_) (fun c_15 => ?_)
                · skip
                  refine lv_iload hx hb dX0_run_160 (lv_at hl 1 rfl) ?_
                  refine lv_i2l hx hb dX0_run_162 rfl ?_
                  refine sk_lastO (ws' := fun f_16 => [(h0, .inr (0, [.ref k1, .ref k2, .ref k3, .ref k4, .int (nI cl), .int (nI mw)])), (k1, .inl (cI, 1600, .inl f1)), (k2, .inl (cJ, 64, .inr (.inl f_16))), (k3, .inl (cJ, 9, .inr (.inl f3))), (k4, .inl (cJ, 10, .inr (.inl f4)))]) hx hb hK hP hD hS 2 1 rfl rfl (vin tp 64 (by omega) (by omega)) (fun _ => rfl) dX0_run_163 (fun f_16 H locs hP hD hS => ?_)
                  refine lv_iinc (v := nI (tp + 1)) (lv' := [(3, .int (nI (tp + 1))), (6, .int v_14), (5, .int v_10), (4, .int (nI i)), (0, .ref h0), (1, .int a1), (2, .int b1)]) hx hb dX0_run_164 hl (k := 3) rfl (ninc tp 1 (by decide)) (by decide) rfl (fun ls hl => ?_)
                  refine lv_iinc (v := nI (i + 1)) (lv' := [(4, .int (nI (i + 1))), (3, .int (nI (tp + 1))), (6, .int v_14), (5, .int v_10), (0, .ref h0), (1, .int a1), (2, .int b1)]) hx hb dX0_run_167 hl (k := 3) rfl (ninc i 1 (by decide)) (by decide) rfl (fun ls hl => ?_)
                  refine lv_goto (tgt := 9) hx hb dX0_run_170 (by decide) ?_
                  exact ih_lp_2 (i + 1) (tp + 1) f_16 _ _ _ (by omega) (by omega) (by omega) hP hD hS (lv_sub hl [0, 1, 4, 5, 6] rfl)
                · obtain ⟨k_17, hk_17, rfl⟩ := nof v_14 c_15
                  refine lv_iload hx hb dX0_run_143 (lv_at hl 0 rfl) ?_
                  refine lv_bipush (v := 9) hx hb dX0_run_145 (by decide) ?_
                  refine lv_icmp_ge (tgt := 160) hx hb dX0_run_147 (by decide) (fun c_18 => ?_) (fun c_18 => ?_)
                  · have c_18 : 9 ≤ k_17 := (nle 9 k_17 (by omega) (by omega)).mp c_18
                    refine lv_iload hx hb dX0_run_160 (lv_at hl 1 rfl) ?_
                    refine lv_i2l hx hb dX0_run_162 rfl ?_
                    refine sk_lastO (ws' := fun f_19 => [(h0, .inr (0, [.ref k1, .ref k2, .ref k3, .ref k4, .int (nI cl), .int (nI mw)])), (k1, .inl (cI, 1600, .inl f1)), (k2, .inl (cJ, 64, .inr (.inl f_19))), (k3, .inl (cJ, 9, .inr (.inl f3))), (k4, .inl (cJ, 10, .inr (.inl f4)))]) hx hb hK hP hD hS 2 1 rfl rfl (vin tp 64 (by omega) (by omega)) (fun _ => rfl) dX0_run_163 (fun f_19 H locs hP hD hS => ?_)
                    refine lv_iinc (v := nI (tp + 1)) (lv' := [(3, .int (nI (tp + 1))), (6, .int (nI k_17)), (5, .int v_10), (4, .int (nI i)), (0, .ref h0), (1, .int a1), (2, .int b1)]) hx hb dX0_run_164 hl (k := 3) rfl (ninc tp 1 (by decide)) (by decide) rfl (fun ls hl => ?_)
                    refine lv_iinc (v := nI (i + 1)) (lv' := [(4, .int (nI (i + 1))), (3, .int (nI (tp + 1))), (6, .int (nI k_17)), (5, .int v_10), (0, .ref h0), (1, .int a1), (2, .int b1)]) hx hb dX0_run_167 hl (k := 3) rfl (ninc i 1 (by decide)) (by decide) rfl (fun ls hl => ?_)
                    refine lv_goto (tgt := 9) hx hb dX0_run_170 (by decide) ?_
                    exact ih_lp_2 (i + 1) (tp + 1) f_19 _ _ _ (by omega) (by omega) (by omega) hP hD hS (lv_sub hl [0, 1, 4, 5, 6] rfl)
                  · have c_18 : ¬ (9 ≤ k_17) := fun h => c_18 ((nle 9 k_17 (by omega) (by omega)).mpr h)
                    refine lv_aload_n hx hb dX0_run_150 rfl (lv_at hl 4 rfl) ?_
                    refine sk_get (v := .ref k3) (C := RX0) (T := TX0) (N := 6) hx hb hts inlX0 hown hK hP 0 rfl rfl 2 (by decide) w_1_131 rfl dX0_run_151 ?_
                    refine lv_iload hx hb dX0_run_154 (lv_at hl 0 rfl) ?_
                    refine va_lald hx hb hK.1 hP 3 1 rfl rfl (vin k_17 9 (by omega) (by omega)) dX0_run_156 ?_
                    refine lv_topl (fun v_20 ev_20 => ?_)
                    refine lv_goto (tgt := 163) hx hb dX0_run_157 (by decide) ?_
                    refine sk_lastO (ws' := fun f_21 => [(h0, .inr (0, [.ref k1, .ref k2, .ref k3, .ref k4, .int (nI cl), .int (nI mw)])), (k1, .inl (cI, 1600, .inl f1)), (k2, .inl (cJ, 64, .inr (.inl f_21))), (k3, .inl (cJ, 9, .inr (.inl f3))), (k4, .inl (cJ, 10, .inr (.inl f4)))]) hx hb hK hP hD hS 2 1 rfl rfl (vin tp 64 (by omega) (by omega)) (fun _ => rfl) dX0_run_163 (fun f_21 H locs hP hD hS => ?_)
                    refine lv_iinc (v := nI (tp + 1)) (lv' := [(3, .int (nI (tp + 1))), (6, .int (nI k_17)), (5, .int v_10), (4, .int (nI i)), (0, .ref h0), (1, .int a1), (2, .int b1)]) hx hb dX0_run_164 hl (k := 3) rfl (ninc tp 1 (by decide)) (by decide) rfl (fun ls hl => ?_)
                    refine lv_iinc (v := nI (i + 1)) (lv' := [(4, .int (nI (i + 1))), (3, .int (nI (tp + 1))), (6, .int (nI k_17)), (5, .int v_10), (0, .ref h0), (1, .int a1), (2, .int b1)]) hx hb dX0_run_167 hl (k := 3) rfl (ninc i 1 (by decide)) (by decide) rfl (fun ls hl => ?_)
                    refine lv_goto (tgt := 9) hx hb dX0_run_170 (by decide) ?_
                    exact ih_lp_2 (i + 1) (tp + 1) f_21 _ _ _ (by omega) (by omega) (by omega) hP hD hS (lv_sub hl [0, 1, 4, 5, 6] rfl)
            · obtain ⟨k_22, hk_22, h1k_22, rfl⟩ := nofge v_10 20000 (by omega) c_12
              refine lv_iload_n hx hb dX0_run_87 rfl (lv_at hl 2 rfl) ?_
              refine lv_if_le (tgt := 167) hx hb dX0_run_88 (by decide) (fun c_23 => ?_) (fun c_23 => ?_)
              · have c_23 : tp ≤ 0 := (nle tp 0 (by omega) (by omega)).mp c_23
                refine lv_iinc (v := nI (i + 1)) (lv' := [(4, .int (nI (i + 1))), (5, .int (nI k_22)), (3, .int (nI tp)), (0, .ref h0), (1, .int a1), (2, .int b1)]) hx hb dX0_run_167 hl (k := 1) rfl (ninc i 1 (by decide)) (by decide) rfl (fun ls hl => ?_)
                refine lv_goto (tgt := 9) hx hb dX0_run_170 (by decide) ?_
                exact ih_lp_2 (i + 1) tp fs _ _ _ (by omega) (by omega) (by omega) hP hD hS (lv_sub hl [0, 2, 3, 4, 5] rfl)
              · have c_23 : ¬ (tp ≤ 0) := fun h => c_23 ((nle tp 0 (by omega) (by omega)).mpr h)
                refine lv_aload_n hx hb dX0_run_91 rfl (lv_at hl 3 rfl) ?_
                refine sk_get (v := .ref k2) (C := RX0) (T := TX0) (N := 6) hx hb hts inlX0 hown hK hP 0 rfl rfl 1 (by decide) w_1_130 rfl dX0_run_92 ?_
                refine lv_iload_n hx hb dX0_run_95 rfl (lv_at hl 2 rfl) ?_
                refine lv_iconst (v := 1) hx hb dX0_run_96 (by decide) ?_
                refine lv_isub hx hb dX0_run_97 ?_
                refine sk_top (nI (tp - 1)) (nsub tp 1 (by omega)) ?_
                refine lv_aload_n hx hb dX0_run_98 rfl (lv_at hl 3 rfl) ?_
                refine lv_iload hx hb dX0_run_99 (lv_at hl 0 rfl) ?_
                refine lv_aload_n hx hb dX0_run_101 rfl (lv_at hl 3 rfl) ?_
                refine sk_get (v := .ref k2) (C := RX0) (T := TX0) (N := 6) hx hb hts inlX0 hown hK hP 0 rfl rfl 1 (by decide) w_1_130 rfl dX0_run_102 ?_
                refine lv_iload_n hx hb dX0_run_105 rfl (lv_at hl 2 rfl) ?_
                refine lv_iconst (v := 1) hx hb dX0_run_106 (by decide) ?_
                refine lv_isub hx hb dX0_run_107 ?_
                refine sk_top (nI (tp - 1)) (nsub tp 1 (by omega)) ?_
                refine va_lald hx hb hK.1 hP 2 1 rfl rfl (vin (tp - 1) 64 (by omega) (by omega)) dX0_run_108 ?_
                refine lv_topl (fun v_24 ev_24 => ?_)
                refine sk_Vl (q0 := 0) (n := 2) (rest := [.int (nI (tp - 1)), .ref k2]) (wr := fmR om_5_11 _) ⟨hx, hb, hml, hown, hts⟩ hl.1 (c_Code_ofOne l D cI cJ cC cZ cS h0 k1 k2 k3 k4 cl mw f4 (nI k_22) v_24) w_4_2 w_4_4 w_0_16 w_1_8 w_4_5 hd_X0_ofOne_2 ⟨⟨(Nat.le_of_ble_eq_true rfl), (Nat.le_of_ble_eq_true rfl)⟩, (Nat.le_of_ble_eq_true rfl), (Nat.le_of_ble_eq_true rfl)⟩ hK hP hD hS hA (fmT om_5_11 0) (fmF om_5_11 0) (fm_C1 rfl rfl) (fm_R rfl rfl) (fm_nT om_5_11 0) (fm_nF om_5_11 0) (fm_di om_5_11 0) rfl rfl rfl rfl (Nat.le_of_ble_eq_true rfl) dX0_run_109 (fun r_25 u H locs hw hP hD hS => ?_)
                refine o_mgE (ws' := [(h0, .inr (0, [.ref k1, .ref k2, .ref k3, .ref k4, .int (nI cl), .int (nI mw)])), (k1, .inl (cI, 1600, .inl f1)), (k2, .inl (cJ, 64, .inr (.inl fs))), (k3, .inl (cJ, 9, .inr (.inl f3))), (k4, .inl (cJ, 10, .inr (.inl f4)))]) hw hP hD rfl (fun hP hD => ?_)
                refine sk_lastO (ws' := fun f_26 => [(h0, .inr (0, [.ref k1, .ref k2, .ref k3, .ref k4, .int (nI cl), .int (nI mw)])), (k1, .inl (cI, 1600, .inl f1)), (k2, .inl (cJ, 64, .inr (.inl f_26))), (k3, .inl (cJ, 9, .inr (.inl f3))), (k4, .inl (cJ, 10, .inr (.inl f4)))]) hx hb hK hP hD hS 2 1 rfl rfl (vin (tp - 1) 64 (by omega) (by omega)) (fun _ => rfl) dX0_run_112 (fun f_26 H locs hP hD hS => ?_)
                refine lv_goto (tgt := 167) hx hb dX0_run_113 (by decide) ?_
                refine lv_iinc (v := nI (i + 1)) (lv' := [(4, .int (nI (i + 1))), (5, .int (nI k_22)), (3, .int (nI tp)), (0, .ref h0), (1, .int a1), (2, .int b1)]) hx hb dX0_run_167 hl (k := 1) rfl (ninc i 1 (by decide)) (by decide) rfl (fun ls hl => ?_)
                refine lv_goto (tgt := 9) hx hb dX0_run_170 (by decide) ?_
                exact ih_lp_2 (i + 1) tp f_26 _ _ _ (by omega) (by omega) (by omega) hP hD hS (lv_sub hl [0, 2, 3, 4, 5] rfl)
          · obtain ⟨k_27, hk_27, h1k_27, rfl⟩ := nofge v_10 30000 (by omega) c_11
            refine lv_iload_n hx hb dX0_run_41 rfl (lv_at hl 2 rfl) ?_
            refine lv_iconst (v := 1) hx hb dX0_run_42 (by decide) ?_
            refine lv_icmp_le (tgt := 167) hx hb dX0_run_43 (by decide) (fun c_28 => ?_) (fun c_28 => ?_)
            · have c_28 : tp ≤ 1 := (nle tp 1 (by omega) (by omega)).mp c_28
              refine lv_iinc (v := nI (i + 1)) (lv' := [(4, .int (nI (i + 1))), (5, .int (nI k_27)), (3, .int (nI tp)), (0, .ref h0), (1, .int a1), (2, .int b1)]) hx hb dX0_run_167 hl (k := 1) rfl (ninc i 1 (by decide)) (by decide) rfl (fun ls hl => ?_)
              refine lv_goto (tgt := 9) hx hb dX0_run_170 (by decide) ?_
              exact ih_lp_2 (i + 1) tp fs _ _ _ (by omega) (by omega) (by omega) hP hD hS (lv_sub hl [0, 2, 3, 4, 5] rfl)
            · have c_28 : ¬ (tp ≤ 1) := fun h => c_28 ((nle tp 1 (by omega) (by omega)).mpr h)
              refine lv_iinc (v := nI (tp - 1)) (lv' := [(3, .int (nI (tp - 1))), (5, .int (nI k_27)), (4, .int (nI i)), (0, .ref h0), (1, .int a1), (2, .int b1)]) hx hb dX0_run_46 hl (k := 2) rfl (ndec1 tp (by omega)) (by decide) rfl (fun ls hl => ?_)
              refine lv_aload_n hx hb dX0_run_49 rfl (lv_at hl 3 rfl) ?_
              refine sk_get (v := .ref k2) (C := RX0) (T := TX0) (N := 6) hx hb hts inlX0 hown hK hP 0 rfl rfl 1 (by decide) w_1_130 rfl dX0_run_50 ?_
              refine lv_iload_n hx hb dX0_run_53 rfl (lv_at hl 0 rfl) ?_
              refine lv_iconst (v := 1) hx hb dX0_run_54 (by decide) ?_
              refine lv_isub hx hb dX0_run_55 ?_
              refine sk_top (nI (tp - 1 - 1)) (nsub (tp - 1) 1 (by omega)) ?_
              refine lv_iload hx hb dX0_run_56 (lv_at hl 1 rfl) ?_
              refine lv_aload_n hx hb dX0_run_58 rfl (lv_at hl 3 rfl) ?_
              refine sk_get (v := .ref k2) (C := RX0) (T := TX0) (N := 6) hx hb hts inlX0 hown hK hP 0 rfl rfl 1 (by decide) w_1_130 rfl dX0_run_59 ?_
              refine lv_iload_n hx hb dX0_run_62 rfl (lv_at hl 0 rfl) ?_
              refine lv_iconst (v := 1) hx hb dX0_run_63 (by decide) ?_
              refine lv_isub hx hb dX0_run_64 ?_
              refine sk_top (nI (tp - 1 - 1)) (nsub (tp - 1) 1 (by omega)) ?_
              refine va_lald hx hb hK.1 hP 2 1 rfl rfl (vin (tp - 1 - 1) 64 (by omega) (by omega)) dX0_run_65 ?_
              refine lv_topl (fun v_29 ev_29 => ?_)
              refine lv_aload_n hx hb dX0_run_66 rfl (lv_at hl 3 rfl) ?_
              refine sk_get (v := .ref k2) (C := RX0) (T := TX0) (N := 6) hx hb hts inlX0 hown hK hP 0 rfl rfl 1 (by decide) w_1_130 rfl dX0_run_67 ?_
              refine lv_iload_n hx hb dX0_run_70 rfl (lv_at hl 0 rfl) ?_
              refine va_lald hx hb hK.1 hP 2 1 rfl rfl (vin (tp - 1) 64 (by omega) (by omega)) dX0_run_71 ?_
              refine lv_topl (fun v_30 ev_30 => ?_)
              refine sk_Sl (n := 3) (rest := [.int (nI (tp - 1 - 1)), .ref k2]) (wr := [(h0, .inr (0, [.ref k1, .ref k2, .ref k3, .ref k4, .int (nI cl), .int (nI mw)])), (k1, .inl (cI, 1600, .inl f1)), (k2, .inl (cJ, 64, .inr (.inl fs))), (k3, .inl (cJ, 9, .inr (.inl f3))), (k4, .inl (cJ, 10, .inr (.inl f4)))]) ⟨hx, hb, hml, hown, hts⟩ hl.1 (c_ofTwo l D cI cJ cC cZ cS (nI k_27) v_29 v_30) w_3_225 w_3_226 w_1_8 w_3_227 hd_X0_ofTwo_3 ⟨⟨(Nat.le_of_ble_eq_true rfl), (Nat.le_of_ble_eq_true rfl)⟩, (Nat.le_of_ble_eq_true rfl), (Nat.le_of_ble_eq_true rfl)⟩ hK hP hD hS hA [] [0, 1, 2, 3, 4] rfl rfl (by decide +kernel) (by decide +kernel) (by decide +kernel) rfl rfl (Nat.le_of_ble_eq_true rfl) dX0_run_72 (fun r_31 u H locs hw hP hD hS => ?_)
              obtain rfl := hw
              refine o_re (ws' := [(h0, .inr (0, [.ref k1, .ref k2, .ref k3, .ref k4, .int (nI cl), .int (nI mw)])), (k1, .inl (cI, 1600, .inl f1)), (k2, .inl (cJ, 64, .inr (.inl fs))), (k3, .inl (cJ, 9, .inr (.inl f3))), (k4, .inl (cJ, 10, .inr (.inl f4)))]) hP hD rfl (fun hP hD => ?_)
              refine sk_lastO (ws' := fun f_32 => [(h0, .inr (0, [.ref k1, .ref k2, .ref k3, .ref k4, .int (nI cl), .int (nI mw)])), (k1, .inl (cI, 1600, .inl f1)), (k2, .inl (cJ, 64, .inr (.inl f_32))), (k3, .inl (cJ, 9, .inr (.inl f3))), (k4, .inl (cJ, 10, .inr (.inl f4)))]) hx hb hK hP hD hS 2 1 rfl rfl (vin (tp - 1 - 1) 64 (by omega) (by omega)) (fun _ => rfl) dX0_run_75 (fun f_32 H locs hP hD hS => ?_)
              refine lv_goto (tgt := 167) hx hb dX0_run_76 (by decide) ?_
              refine lv_iinc (v := nI (i + 1)) (lv' := [(4, .int (nI (i + 1))), (3, .int (nI (tp - 1))), (5, .int (nI k_27)), (0, .ref h0), (1, .int a1), (2, .int b1)]) hx hb dX0_run_167 hl (k := 2) rfl (ninc i 1 (by decide)) (by decide) rfl (fun ls hl => ?_)
              refine lv_goto (tgt := 9) hx hb dX0_run_170 (by decide) ?_
              exact ih_lp_2 (i + 1) (tp - 1) f_32 _ _ _ (by omega) (by omega) (by omega) hP hD hS (lv_sub hl [0, 1, 3, 4, 5] rfl)
  exact lp_2 (cl - k_1 + 1) k_1 0 f2 _ _ _ (Nat.lt_succ_self _) (by omega) (by omega) hP hD hS (lv_sub hl [0, 1, 2, 3, 4] rfl)

