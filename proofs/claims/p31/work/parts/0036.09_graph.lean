theorem dg_X1_timesOf_0_0 : bqL cX1_timesOf 0 [(0, [27]), (1, [4]), (2, [96]), (3, [16, 10]), (5, [104]), (6, [28]), (7, [96]), (8, [62]), (9, [42]), (10, [180, 0, 25]), (13, [29]), (14, [47]), (15, [42]), (16, [180, 0, 21]), (19, [29]), (20, [47]), (21, [105]), (22, [173])] = true := by decide +kernel
theorem dX1_timesOf_0 : decode cX1_timesOf 0 = .ok (.iload_n 1, 1) := q_iload_n1 (bat_get dg_X1_timesOf_0_0 0 rfl rfl)
theorem dX1_timesOf_1 : decode cX1_timesOf 1 = .ok (.iconst 1, 1) := q_iconst1 (bat_get dg_X1_timesOf_0_0 1 rfl rfl)
theorem dX1_timesOf_2 : decode cX1_timesOf 2 = .ok (.iadd, 1) := q_iadd (bat_get dg_X1_timesOf_0_0 2 rfl rfl)
theorem dX1_timesOf_3 : decode cX1_timesOf 3 = .ok (.bipush 10, 2) := q_bipush (bat_get dg_X1_timesOf_0_0 3 rfl rfl) rfl
theorem dX1_timesOf_5 : decode cX1_timesOf 5 = .ok (.imul, 1) := q_imul (bat_get dg_X1_timesOf_0_0 4 rfl rfl)
theorem dX1_timesOf_6 : decode cX1_timesOf 6 = .ok (.iload_n 2, 1) := q_iload_n2 (bat_get dg_X1_timesOf_0_0 5 rfl rfl)
theorem dX1_timesOf_7 : decode cX1_timesOf 7 = .ok (.iadd, 1) := q_iadd (bat_get dg_X1_timesOf_0_0 6 rfl rfl)
theorem dX1_timesOf_8 : decode cX1_timesOf 8 = .ok (.istore_n 3, 1) := q_istore_n3 (bat_get dg_X1_timesOf_0_0 7 rfl rfl)
theorem dX1_timesOf_9 : decode cX1_timesOf 9 = .ok (.aload_n 0, 1) := q_aload_n0 (bat_get dg_X1_timesOf_0_0 8 rfl rfl)
theorem dX1_timesOf_10 : decode cX1_timesOf 10 = .ok (.getfield 25, 3) := q_getfield (bat_get dg_X1_timesOf_0_0 9 rfl rfl) rfl
theorem dX1_timesOf_13 : decode cX1_timesOf 13 = .ok (.iload_n 3, 1) := q_iload_n3 (bat_get dg_X1_timesOf_0_0 10 rfl rfl)
theorem dX1_timesOf_14 : decode cX1_timesOf 14 = .ok (.laload, 1) := q_laload (bat_get dg_X1_timesOf_0_0 11 rfl rfl)
theorem dX1_timesOf_15 : decode cX1_timesOf 15 = .ok (.aload_n 0, 1) := q_aload_n0 (bat_get dg_X1_timesOf_0_0 12 rfl rfl)
theorem dX1_timesOf_16 : decode cX1_timesOf 16 = .ok (.getfield 21, 3) := q_getfield (bat_get dg_X1_timesOf_0_0 13 rfl rfl) rfl
theorem dX1_timesOf_19 : decode cX1_timesOf 19 = .ok (.iload_n 3, 1) := q_iload_n3 (bat_get dg_X1_timesOf_0_0 14 rfl rfl)
theorem dX1_timesOf_20 : decode cX1_timesOf 20 = .ok (.laload, 1) := q_laload (bat_get dg_X1_timesOf_0_0 15 rfl rfl)
theorem dX1_timesOf_21 : decode cX1_timesOf 21 = .ok (.lmul, 1) := q_lmul (bat_get dg_X1_timesOf_0_0 16 rfl rfl)
theorem dX1_timesOf_22 : decode cX1_timesOf 22 = .ok (.lreturn, 1) := q_lreturn (bat_get dg_X1_timesOf_0_0 17 rfl rfl)
theorem w_4_91 : (Cond.code yX1_timesOf cX1_timesOf 4 (some .long)) ∈ wsL_law := sk_mem (ck_4 _ (List.mem_of_getElem? (i := 91) rfl)) rfl
set_option maxHeartbeats 4000000 in
set_option maxRecDepth 100000 in
theorem c_timesOf (l : Launch) (D : va_G) (cI cJ cC cZ cS : ClassId) (q : Nat → Nat) (gd : Nat) (gs : Nat) (e4 : Nat → Int64) (e5 : Nat → Int64) (d : Nat) (ah : Nat) (hd : d < 9) (hah : ah < 10) : skM l yX1_timesOf cX1_timesOf 4 (some .long) 0 0 0 0 D (skT cI cJ cC cZ cS) [.ref (q 11), .int (nI d), .int (nI ah)] [(q 11, .inr (1, [.ref (q 10), .ref (q 67), .ref (q 68), .ref (q 69), .ref (q 70), .ref (q 71), .ref (q 72), .int (nI gd), .int (nI gs)])), (q 70, .inl (cJ, 100, .inr (.inl e4))), (q 71, .inl (cJ, 100, .inr (.inl e5)))] (skL D (skT cI cJ cC cZ cS) (fun (r : Int64) (u : va_W) => u = [(q 11, .inr (1, [.ref (q 10), .ref (q 67), .ref (q 68), .ref (q 69), .ref (q 70), .ref (q 71), .ref (q 72), .int (nI gd), .int (nI gs)])), (q 70, .inl (cJ, 100, .inr (.inl e4))), (q 71, .inl (cJ, 100, .inr (.inl e5)))])) := by
  refine skM_of pf_X1_timesOf (Nat.le_of_ble_eq_true rfl) ?_
  intro p e s m below meth c A ls E hP hD hl
  refine skE_el E (fun hx hb hr hml hlocks hin hown hts hK hA => ?_)
  have hown : s.vm.findClass RX1 = some m.cls := hown
  have hS : va_S A s.heap s.heap [] := va_S.rf
  have hl : lv_has ls 4 [(0, .ref (q 11)), (1, .int (nI d)), (2, .int (nI ah))] := hl
  refine lv_iload_n hx hb dX1_timesOf_0 rfl (lv_at hl 1 rfl) ?_
  refine lv_iconst (v := 1) hx hb dX1_timesOf_1 (by decide) ?_
  refine lv_iadd hx hb dX1_timesOf_2 ?_
  refine sk_top (nI (d + 1)) (nI_add d 1) ?_
  refine lv_bipush (v := 10) hx hb dX1_timesOf_3 (by decide) ?_
  refine lv_imul hx hb dX1_timesOf_5 ?_
  refine sk_top (nI ((d + 1) * 10)) (nmul (d + 1) 10) ?_
  refine lv_iload_n hx hb dX1_timesOf_6 rfl (lv_at hl 2 rfl) ?_
  refine lv_iadd hx hb dX1_timesOf_7 ?_
  refine sk_top (nI ((d + 1) * 10 + ah)) (nI_add ((d + 1) * 10) ah) ?_
  refine lv_istore_n (lv' := [(3, .int (nI ((d + 1) * 10 + ah))), (0, .ref (q 11)), (1, .int (nI d)), (2, .int (nI ah))]) hx hb dX1_timesOf_8 rfl hl (by decide) rfl (fun ls hl => ?_)
  refine lv_aload_n hx hb dX1_timesOf_9 rfl (lv_at hl 1 rfl) ?_
  refine sk_get (v := .ref (q 71)) (C := RX1) (T := TX1) (N := 9) hx hb hts inlX1 hown hK hP 0 rfl rfl 5 (by decide) w_2_100 rfl dX1_timesOf_10 ?_
  refine lv_iload_n hx hb dX1_timesOf_13 rfl (lv_at hl 0 rfl) ?_
  refine va_lald hx hb hK.1 hP 2 1 rfl rfl (vin ((d + 1) * 10 + ah) 100 (by omega) (by omega)) dX1_timesOf_14 ?_
  refine lv_topl (fun v_1 ev_1 => ?_)
  refine lv_aload_n hx hb dX1_timesOf_15 rfl (lv_at hl 1 rfl) ?_
  refine sk_get (v := .ref (q 70)) (C := RX1) (T := TX1) (N := 9) hx hb hts inlX1 hown hK hP 0 rfl rfl 4 (by decide) w_2_99 rfl dX1_timesOf_16 ?_
  refine lv_iload_n hx hb dX1_timesOf_19 rfl (lv_at hl 0 rfl) ?_
  refine va_lald hx hb hK.1 hP 1 1 rfl rfl (vin ((d + 1) * 10 + ah) 100 (by omega) (by omega)) dX1_timesOf_20 ?_
  refine lv_topl (fun v_2 ev_2 => ?_)
  refine lv_lmul hx hb dX1_timesOf_21 ?_
  refine lv_topl (fun v_3 ev_3 => ?_)
  exact sk_lret hx hb hr hlocks hK hP hD hS rfl (Nat.le_of_ble_eq_true rfl) (Nat.le_of_ble_eq_true rfl) dX1_timesOf_22
theorem dg_X1_mostLeft_0_0 : bqL cX1_mostLeft 0 [(0, [9]), (1, [65]), (2, [3]), (3, [54, 4]), (5, [21, 4]), (7, [16, 10]), (9, [162, 0, 21]), (30, [32]), (31, [173]), (12, [32]), (13, [42]), (14, [27]), (15, [21, 4]), (17, [182, 0, 79]), (20, [184, 0, 83]), (23, [65]), (24, [132, 4, 1]), (27, [167, 255, 234])] = true := by decide +kernel
theorem dX1_mostLeft_0 : decode cX1_mostLeft 0 = .ok (.lconst 0, 1) := q_lconst0 (bat_get dg_X1_mostLeft_0_0 0 rfl rfl)
theorem dX1_mostLeft_1 : decode cX1_mostLeft 1 = .ok (.lstore_n 2, 1) := q_lstore_n2 (bat_get dg_X1_mostLeft_0_0 1 rfl rfl)
theorem dX1_mostLeft_2 : decode cX1_mostLeft 2 = .ok (.iconst 0, 1) := q_iconst0 (bat_get dg_X1_mostLeft_0_0 2 rfl rfl)
theorem dX1_mostLeft_3 : decode cX1_mostLeft 3 = .ok (.istore 4, 2) := q_istore (bat_get dg_X1_mostLeft_0_0 3 rfl rfl)
theorem dX1_mostLeft_5 : decode cX1_mostLeft 5 = .ok (.iload 4, 2) := q_iload (bat_get dg_X1_mostLeft_0_0 4 rfl rfl)
theorem dX1_mostLeft_7 : decode cX1_mostLeft 7 = .ok (.bipush 10, 2) := q_bipush (bat_get dg_X1_mostLeft_0_0 5 rfl rfl) rfl
theorem dX1_mostLeft_9 : decode cX1_mostLeft 9 = .ok (.if_icmp .ge 21, 3) := q_if_icmp_ge (bat_get dg_X1_mostLeft_0_0 6 rfl rfl) rfl
theorem dX1_mostLeft_30 : decode cX1_mostLeft 30 = .ok (.lload_n 2, 1) := q_lload_n2 (bat_get dg_X1_mostLeft_0_0 7 rfl rfl)
theorem dX1_mostLeft_31 : decode cX1_mostLeft 31 = .ok (.lreturn, 1) := q_lreturn (bat_get dg_X1_mostLeft_0_0 8 rfl rfl)
theorem dX1_mostLeft_12 : decode cX1_mostLeft 12 = .ok (.lload_n 2, 1) := q_lload_n2 (bat_get dg_X1_mostLeft_0_0 9 rfl rfl)
theorem dX1_mostLeft_13 : decode cX1_mostLeft 13 = .ok (.aload_n 0, 1) := q_aload_n0 (bat_get dg_X1_mostLeft_0_0 10 rfl rfl)
theorem dX1_mostLeft_14 : decode cX1_mostLeft 14 = .ok (.iload_n 1, 1) := q_iload_n1 (bat_get dg_X1_mostLeft_0_0 11 rfl rfl)
theorem dX1_mostLeft_15 : decode cX1_mostLeft 15 = .ok (.iload 4, 2) := q_iload (bat_get dg_X1_mostLeft_0_0 12 rfl rfl)
theorem dX1_mostLeft_17 : decode cX1_mostLeft 17 = .ok (.invokevirtual 79, 3) := q_invokevirtual (bat_get dg_X1_mostLeft_0_0 13 rfl rfl) rfl
theorem dX1_mostLeft_20 : decode cX1_mostLeft 20 = .ok (.invokestatic 83, 3) := q_invokestatic (bat_get dg_X1_mostLeft_0_0 14 rfl rfl) rfl
theorem dX1_mostLeft_23 : decode cX1_mostLeft 23 = .ok (.lstore_n 2, 1) := q_lstore_n2 (bat_get dg_X1_mostLeft_0_0 15 rfl rfl)
theorem dX1_mostLeft_24 : decode cX1_mostLeft 24 = .ok (.iinc 4 1, 3) := q_iinc (bat_get dg_X1_mostLeft_0_0 16 rfl rfl) rfl
theorem dX1_mostLeft_27 : decode cX1_mostLeft 27 = .ok (.goto (-22), 3) := q_goto (bat_get dg_X1_mostLeft_0_0 17 rfl rfl) rfl
theorem w_4_234 : (Cond.methodLink RX1 79 yX1_timesOf) ∈ wsL_law := sk_mem (ck_4 _ (List.mem_of_getElem? (i := 234) rfl)) rfl
theorem w_4_89 : (Cond.instanceMethod yX1_timesOf) ∈ wsL_law := sk_mem (ck_4 _ (List.mem_of_getElem? (i := 89) rfl)) rfl
theorem w_4_90 : (Cond.selects RX1 yX1_timesOf yX1_timesOf) ∈ wsL_law := sk_mem (ck_4 _ (List.mem_of_getElem? (i := 90) rfl)) rfl
theorem w_4_165 : (Cond.methodLink RX1 83 Lib.MathLoose.max_long.x) ∈ wsL_law := sk_mem (ck_4 _ (List.mem_of_getElem? (i := 165) rfl)) rfl
theorem w_4_233 : (Cond.code yX1_mostLeft cX1_mostLeft 5 (some .long)) ∈ wsL_law := sk_mem (ck_4 _ (List.mem_of_getElem? (i := 233) rfl)) rfl
def om_3_7 : List Bool := true :: true :: true :: []
theorem hd_X1_timesOf_2 : skD yX1_timesOf 2 := by decide +kernel
set_option maxHeartbeats 4000000 in
set_option maxRecDepth 100000 in
theorem c_mostLeft (l : Launch) (D : va_G) (cI cJ cC cZ cS : ClassId) (q : Nat → Nat) (gd : Nat) (gs : Nat) (e4 : Nat → Int64) (e5 : Nat → Int64) (d : Nat) (hd : d < 9) : skM l yX1_mostLeft cX1_mostLeft 5 (some .long) 1 23 0 0 D (skT cI cJ cC cZ cS) [.ref (q 11), .int (nI d)] [(q 11, .inr (1, [.ref (q 10), .ref (q 67), .ref (q 68), .ref (q 69), .ref (q 70), .ref (q 71), .ref (q 72), .int (nI gd), .int (nI gs)])), (q 70, .inl (cJ, 100, .inr (.inl e4))), (q 71, .inl (cJ, 100, .inr (.inl e5)))] (skL D (skT cI cJ cC cZ cS) (fun (r : Int64) (u : va_W) => u = [(q 11, .inr (1, [.ref (q 10), .ref (q 67), .ref (q 68), .ref (q 69), .ref (q 70), .ref (q 71), .ref (q 72), .int (nI gd), .int (nI gs)])), (q 70, .inl (cJ, 100, .inr (.inl e4))), (q 71, .inl (cJ, 100, .inr (.inl e5)))])) := by
  refine skM_of pf_X1_mostLeft (Nat.le_of_ble_eq_true rfl) ?_
  intro p e s m below meth c A ls E hP hD hl
  refine skE_el E (fun hx hb hr hml hlocks hin hown hts hK hA => ?_)
  have hown : s.vm.findClass RX1 = some m.cls := hown
  have hS : va_S A s.heap s.heap [] := va_S.rf
  have hl : lv_has ls 5 [(0, .ref (q 11)), (1, .int (nI d))] := hl
  refine lv_lconst (v := 0) hx hb dX1_mostLeft_0 (by decide) ?_
  refine lv_lstore_n (lv' := [(2, .long 0), (0, .ref (q 11)), (1, .int (nI d))]) hx hb dX1_mostLeft_1 rfl hl (by decide) rfl (fun ls hl => ?_)
  refine lv_iconst (v := 0) hx hb dX1_mostLeft_2 (by decide) ?_
  refine lv_istore (lv' := [(4, .int 0), (2, .long 0), (0, .ref (q 11)), (1, .int (nI d))]) hx hb dX1_mostLeft_3 hl (by decide) rfl (fun ls hl => ?_)
  have lp_1 : ∀ (n_2 : Nat) (i : Nat) (ml : Int64) (H : Heap) (locs : List Loc) (ls : Array Slot), 10 - i < n_2 → (i ≤ 10) → va_P D vwCl [(q 11, .inr (1, [.ref (q 10), .ref (q 67), .ref (q 68), .ref (q 69), .ref (q 70), .ref (q 71), .ref (q 72), .int (nI gd), .int (nI gs)])), (q 70, .inl (cJ, 100, .inr (.inl e4))), (q 71, .inl (cJ, 100, .inr (.inl e5)))] H → va_D A [(q 11, .inr (1, [.ref (q 10), .ref (q 67), .ref (q 68), .ref (q 69), .ref (q 70), .ref (q 71), .ref (q 72), .int (nI gd), .int (nI gs)])), (q 70, .inl (cJ, 100, .inr (.inl e4))), (q 71, .inl (cJ, 100, .inr (.inl e5)))] → va_S A s.heap H locs → lv_has ls 5 [(4, .int (nI i)), (2, .long ml), (0, .ref (q 11)), (1, .int (nI d))] → W p l e { frames := 1, cells := 0, slots := 0, locals := 23 } s m ([.ref (q 11), .int (nI d)] : List Value).toArray below meth c H locs 0 0 (MQ below (skL D (skT cI cJ cC cZ cS) (fun (r : Int64) (u : va_W) => u = [(q 11, .inr (1, [.ref (q 10), .ref (q 67), .ref (q 68), .ref (q 69), .ref (q 70), .ref (q 71), .ref (q 72), .int (nI gd), .int (nI gs)])), (q 70, .inl (cJ, 100, .inr (.inl e4))), (q 71, .inl (cJ, 100, .inr (.inl e5)))]) A) ([.ref (q 11), .int (nI d)] : List Value).toArray s 0 0 A) (F0 m 5 ls []) := by
    intro n_2
    induction n_2 with
    | zero => intro i ml H locs ls hm; exact absurd hm (Nat.not_lt_zero _)
    | succ n_2 ih_lp_1 =>
      intro i ml H locs ls hm hi hP hD hS hl
      refine lv_iload hx hb dX1_mostLeft_5 (lv_at hl 0 rfl) ?_
      refine lv_bipush (v := 10) hx hb dX1_mostLeft_7 (by decide) ?_
      refine lv_icmp_ge (tgt := 30) hx hb dX1_mostLeft_9 (by decide) (fun c_3 => ?_) (fun c_3 => ?_)
      · have c_3 : 10 ≤ i := (nle 10 i (by omega) (by omega)).mp c_3
        refine lv_lload_n hx hb dX1_mostLeft_30 rfl (lv_at hl 1 rfl) ?_
        exact sk_lret hx hb hr hlocks hK hP hD hS rfl (Nat.le_of_ble_eq_true rfl) (Nat.le_of_ble_eq_true rfl) dX1_mostLeft_31
      · have c_3 : ¬ (10 ≤ i) := fun h => c_3 ((nle 10 i (by omega) (by omega)).mpr h)
        refine lv_lload_n hx hb dX1_mostLeft_12 rfl (lv_at hl 1 rfl) ?_
        refine lv_aload_n hx hb dX1_mostLeft_13 rfl (lv_at hl 2 rfl) ?_
        refine lv_iload_n hx hb dX1_mostLeft_14 rfl (lv_at hl 3 rfl) ?_
        refine lv_iload hx hb dX1_mostLeft_15 (lv_at hl 0 rfl) ?_
        refine sk_Vl (q0 := 0) (n := 2) (rest := [.long ml]) (wr := fmR om_3_7 _) ⟨hx, hb, hml, hown, hts⟩ hl.1 (c_timesOf l D cI cJ cC cZ cS q gd gs e4 e5 d i (by omega) (by omega)) w_4_234 w_4_89 w_4_90 w_1_13 w_4_91 hd_X1_timesOf_2 ⟨⟨(Nat.le_of_ble_eq_true rfl), (Nat.le_of_ble_eq_true rfl)⟩, (Nat.le_of_ble_eq_true rfl), (Nat.le_of_ble_eq_true rfl)⟩ hK hP hD hS hA (fmT om_3_7 0) (fmF om_3_7 0) (fm_C1 rfl rfl) (fm_R rfl rfl) (fm_nT om_3_7 0) (fm_nF om_3_7 0) (fm_di om_3_7 0) rfl rfl rfl rfl (Nat.le_of_ble_eq_true rfl) dX1_mostLeft_17 (fun r_4 u H locs hw hP hD hS => ?_)
        refine o_mgE (ws' := [(q 11, .inr (1, [.ref (q 10), .ref (q 67), .ref (q 68), .ref (q 69), .ref (q 70), .ref (q 71), .ref (q 72), .int (nI gd), .int (nI gs)])), (q 70, .inl (cJ, 100, .inr (.inl e4))), (q 71, .inl (cJ, 100, .inr (.inl e5)))]) hw hP hD rfl (fun hP hD => ?_)
        refine va_mmax_long hx hb (by rw [hml]; exact hl.1.symm) hown (hts _ w_4_165) (hts _ w_4_0) (hts _ w_1_3) (hts _ w_4_1) (Nat.le_of_ble_eq_true rfl) (Nat.le_of_ble_eq_true rfl) (Nat.le_of_ble_eq_true rfl) (Nat.le_of_ble_eq_true rfl) dX1_mostLeft_20 ?_
        refine lv_topl (fun v_5 ev_5 => ?_)
        refine lv_lstore_n (lv' := [(2, .long v_5), (4, .int (nI i)), (0, .ref (q 11)), (1, .int (nI d))]) hx hb dX1_mostLeft_23 rfl hl (by decide) rfl (fun ls hl => ?_)
        refine lv_iinc (v := nI (i + 1)) (lv' := [(4, .int (nI (i + 1))), (2, .long v_5), (0, .ref (q 11)), (1, .int (nI d))]) hx hb dX1_mostLeft_24 hl (k := 1) rfl (ninc i 1 (by decide)) (by decide) rfl (fun ls hl => ?_)
        refine lv_goto (tgt := 5) hx hb dX1_mostLeft_27 (by decide) ?_
        exact ih_lp_1 (i + 1) v_5 _ _ _ (by omega) (by omega) hP hD hS (lv_sub hl [0, 1, 2, 3] rfl)
  exact lp_1 (10 - 0 + 1) 0 0 _ _ _ (Nat.lt_succ_self _) (by omega) hP hD hS (lv_sub hl [0, 1, 2, 3] rfl)
theorem dg_X1_takeNumbered_0_0 : bqL cX1_takeNumbered 0 [(0, [31]), (1, [55, 4]), (3, [42]), (4, [180, 0, 35]), (7, [54, 6]), (9, [3]), (10, [54, 7]), (12, [21, 7]), (14, [42]), (15, [180, 0, 31]), (18, [162, 0, 102]), (120, [177]), (21, [42]), (22, [21, 7]), (24, [21, 6]), (26, [182, 0, 66]), (29, [54, 8]), (31, [3]), (32, [54, 9]), (34, [3]), (35, [54, 10]), (37, [21, 10]), (39, [16, 10]), (41, [162, 0, 63]), (104, [45]), (105, [21, 7]), (107, [21, 9]), (109, [79]), (110, [21, 9]), (112, [54, 6]), (114, [132, 7, 1]), (117, [167, 255, 151]), (44, [21, 8]), (46, [21, 10]), (48, [122]), (49, [4]), (50, [126]), (51, [4]), (52, [160, 0, 21]), (73, [9])] = true := by decide +kernel
theorem dX1_takeNumbered_0 : decode cX1_takeNumbered 0 = .ok (.lload_n 1, 1) := q_lload_n1 (bat_get dg_X1_takeNumbered_0_0 0 rfl rfl)
theorem dX1_takeNumbered_1 : decode cX1_takeNumbered 1 = .ok (.lstore 4, 2) := q_lstore (bat_get dg_X1_takeNumbered_0_0 1 rfl rfl)
theorem dX1_takeNumbered_3 : decode cX1_takeNumbered 3 = .ok (.aload_n 0, 1) := q_aload_n0 (bat_get dg_X1_takeNumbered_0_0 2 rfl rfl)
theorem dX1_takeNumbered_4 : decode cX1_takeNumbered 4 = .ok (.getfield 35, 3) := q_getfield (bat_get dg_X1_takeNumbered_0_0 3 rfl rfl) rfl
theorem dX1_takeNumbered_7 : decode cX1_takeNumbered 7 = .ok (.istore 6, 2) := q_istore (bat_get dg_X1_takeNumbered_0_0 4 rfl rfl)
theorem dX1_takeNumbered_9 : decode cX1_takeNumbered 9 = .ok (.iconst 0, 1) := q_iconst0 (bat_get dg_X1_takeNumbered_0_0 5 rfl rfl)
