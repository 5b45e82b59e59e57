set_option maxHeartbeats 4000000 in
set_option maxRecDepth 100000 in
theorem c_elk_hasSum (l : Launch) (D : va_G) (cI cJ cC cZ cS : ClassId) (q : Nat → Nat) (jd : Nat) (jm : Nat) (ju : Int32) (jr : Int32) (jn : Nat) (jf : Nat → Int32) (jt : Nat → Int32) (w : Nat) (hw : w < 3) : skM l yX2_hasSum cX2_hasSum 2 (some .boolean) 0 0 0 0 D (skT cI cJ cC cZ cS) [.ref (q 6), .int (nI w)] [(q 6, .inr (2, [.ref (q 24), .ref (q 25), .ref (q 26), .ref (q 27), .ref (q 28), .int (nI jd), .int (nI jm), .int ju, .int jr, .int (nI jn)])), (q 27, .inl (cI, 3, .inl jf)), (q 28, .inl (cI, 3, .inl jt))] (skI D (skT cI cJ cC cZ cS) (fun (r : Int32) (u : va_W) => ∃ (b : Nat), b ≤ 1 ∧ ((b = 0 ∧ ¬ jf w < jt w) ∨ (b = 1 ∧ jf w < jt w)) ∧ r = nI b ∧ u = [(q 6, .inr (2, [.ref (q 24), .ref (q 25), .ref (q 26), .ref (q 27), .ref (q 28), .int (nI jd), .int (nI jm), .int ju, .int jr, .int (nI jn)])), (q 27, .inl (cI, 3, .inl jf)), (q 28, .inl (cI, 3, .inl jt))])) := by
  refine skM_of pf_X2_hasSum (Nat.le_of_ble_eq_true rfl) ?_
  intro p e s m below meth c A ls E hP hD hl
  refine skE_el E (fun hx hb hr hml hlocks hin hown hts hK hA => ?_)
  have hown : s.vm.findClass RX2 = some m.cls := hown
  have hS : va_S A s.heap s.heap [] := va_S.rf
  have hl : lv_has ls 2 [(0, .ref (q 6)), (1, .int (nI w))] := hl
  refine lv_aload_n hx hb dX2_hasSum_0 rfl (lv_at hl 0 rfl) ?_
  refine sk_get (v := .ref (q 28)) (C := RX2) (T := TX2) (N := 10) hx hb hts inlX2 hown hK hP 0 rfl rfl 4 (by decide) w_1_186 rfl dX2_hasSum_1 ?_
  refine lv_iload_n hx hb dX2_hasSum_4 rfl (lv_at hl 1 rfl) ?_
  refine va_iald hx hb hK.1 hP 2 0 rfl rfl (vin w 3 (by omega) (by omega)) dX2_hasSum_5 ?_
  refine lv_topi (fun v_1 ev_1 => ?_)
  refine lv_aload_n hx hb dX2_hasSum_6 rfl (lv_at hl 0 rfl) ?_
  refine sk_get (v := .ref (q 27)) (C := RX2) (T := TX2) (N := 10) hx hb hts inlX2 hown hK hP 0 rfl rfl 3 (by decide) w_1_184 rfl dX2_hasSum_7 ?_
  refine lv_iload_n hx hb dX2_hasSum_10 rfl (lv_at hl 1 rfl) ?_
  refine va_iald hx hb hK.1 hP 1 0 rfl rfl (vin w 3 (by omega) (by omega)) dX2_hasSum_11 ?_
  refine lv_topi (fun v_2 ev_2 => ?_)
  refine lv_icmp_le (tgt := 19) hx hb dX2_hasSum_12 (by decide) (fun c_3 => ?_) (fun c_3 => ?_)
  · skip
    refine lv_iconst (v := 0) hx hb dX2_hasSum_19 (by decide) ?_
    exact sk_iret hx hb hr rfl hlocks hK hP hD hS (⟨0, by omega, Or.inl ⟨rfl, Int32.not_lt.mpr (by rw [ev_1, ev_2, nI_clamp (by omega)] at c_3; exact c_3)⟩, rfl, rfl⟩) (Nat.le_of_ble_eq_true rfl) (Nat.le_of_ble_eq_true rfl) dX2_hasSum_20
  · skip
    refine lv_iconst (v := 1) hx hb dX2_hasSum_15 (by decide) ?_
    refine lv_goto (tgt := 20) hx hb dX2_hasSum_16 (by decide) ?_
    exact sk_iret hx hb hr rfl hlocks hK hP hD hS (⟨1, by omega, Or.inr ⟨rfl, Int32.not_le.mp (by rw [ev_1, ev_2, nI_clamp (by omega)] at c_3; exact c_3)⟩, rfl, rfl⟩) (Nat.le_of_ble_eq_true rfl) (Nat.le_of_ble_eq_true rfl) dX2_hasSum_20
set_option maxHeartbeats 4000000 in
set_option maxRecDepth 100000 in
theorem c_elk_beginSum (l : Launch) (D : va_G) (cI cJ cC cZ cS : ClassId) (q : Nat → Nat) (jd : Nat) (jm : Nat) (ju : Int32) (jr : Int32) (jn : Nat) (jc : Nat) (jx : Nat) (jf : Nat → Int32) (w : Nat) (hw : w < 3) : skM l yX2_beginSum cX2_beginSum 2 none 0 0 0 0 D (skT cI cJ cC cZ cS) [.ref (q 6), .int (nI w)] [(q 6, .inr (2, [.ref (q 24), .ref (q 25), .ref (q 26), .ref (q 27), .ref (q 28), .int (nI jd), .int (nI jm), .int ju, .int jr, .int (nI jn)])), (q 24, .inr (0, [.ref (q 29), .ref (q 30), .ref (q 31), .ref (q 32), .int (nI jc), .int (nI jx)])), (q 27, .inl (cI, 3, .inl jf))] (skV D (skT cI cJ cC cZ cS) (fun (u : va_W) => ∃ (gf : Nat → Int32), gf = upd jf w (nI jc) ∧ u = [(q 6, .inr (2, [.ref (q 24), .ref (q 25), .ref (q 26), .ref (q 27), .ref (q 28), .int (nI jd), .int (nI jm), .int ju, .int jr, .int (nI jn)])), (q 24, .inr (0, [.ref (q 29), .ref (q 30), .ref (q 31), .ref (q 32), .int (nI jc), .int (nI jx)])), (q 27, .inl (cI, 3, .inl gf))])) := by
  refine skM_of pf_X2_beginSum (Nat.le_of_ble_eq_true rfl) ?_
  intro p e s m below meth c A ls E hP hD hl
  refine skE_el E (fun hx hb hr hml hlocks hin hown hts hK hA => ?_)
  have hown : s.vm.findClass RX2 = some m.cls := hown
  have hS : va_S A s.heap s.heap [] := va_S.rf
  have hl : lv_has ls 2 [(0, .ref (q 6)), (1, .int (nI w))] := hl
  refine lv_aload_n hx hb dX2_beginSum_0 rfl (lv_at hl 0 rfl) ?_
  refine sk_get (v := .ref (q 27)) (C := RX2) (T := TX2) (N := 10) hx hb hts inlX2 hown hK hP 0 rfl rfl 3 (by decide) w_1_184 rfl dX2_beginSum_1 ?_
  refine lv_iload_n hx hb dX2_beginSum_4 rfl (lv_at hl 1 rfl) ?_
  refine lv_aload_n hx hb dX2_beginSum_5 rfl (lv_at hl 0 rfl) ?_
  refine sk_get (v := .ref (q 24)) (C := RX2) (T := TX2) (N := 10) hx hb hts inlX2 hown hK hP 0 rfl rfl 0 (by decide) w_1_175 rfl dX2_beginSum_6 ?_
  refine sk_get (v := .int (nI jc)) (C := RX0) (T := TX0) (N := 6) hx hb hts inlX0 hown hK hP 1 rfl rfl 4 (by decide) w_1_134 rfl dX2_beginSum_9 ?_
  refine sk_iast (ws' := [(q 6, .inr (2, [.ref (q 24), .ref (q 25), .ref (q 26), .ref (q 27), .ref (q 28), .int (nI jd), .int (nI jm), .int ju, .int jr, .int (nI jn)])), (q 24, .inr (0, [.ref (q 29), .ref (q 30), .ref (q 31), .ref (q 32), .int (nI jc), .int (nI jx)])), (q 27, .inl (cI, 3, .inl (upd jf w (nI jc))))]) hx hb hK hP hD hS 2 0 rfl rfl (vin w 3 (by omega) (by omega)) (by rw [nI_clamp (by omega)]; rfl) dX2_beginSum_12 (fun H locs hP hD hS => ?_)
  exact sk_vret hx hb hr hlocks hK hP hD hS (⟨upd jf w (nI jc), rfl, rfl⟩) (Nat.le_of_ble_eq_true rfl) (Nat.le_of_ble_eq_true rfl) dX2_beginSum_13
set_option maxHeartbeats 4000000 in
set_option maxRecDepth 100000 in
theorem c_elk_endSum (l : Launch) (D : va_G) (cI cJ cC cZ cS : ClassId) (q : Nat → Nat) (jd : Nat) (jm : Nat) (ju : Int32) (jr : Int32) (jn : Nat) (jc : Nat) (jx : Nat) (jt : Nat → Int32) (w : Nat) (hw : w < 3) : skM l yX2_endSum cX2_endSum 2 none 0 0 0 0 D (skT cI cJ cC cZ cS) [.ref (q 6), .int (nI w)] [(q 6, .inr (2, [.ref (q 24), .ref (q 25), .ref (q 26), .ref (q 27), .ref (q 28), .int (nI jd), .int (nI jm), .int ju, .int jr, .int (nI jn)])), (q 24, .inr (0, [.ref (q 29), .ref (q 30), .ref (q 31), .ref (q 32), .int (nI jc), .int (nI jx)])), (q 28, .inl (cI, 3, .inl jt))] (skV D (skT cI cJ cC cZ cS) (fun (u : va_W) => ∃ (gt : Nat → Int32), gt = upd jt w (nI jc) ∧ u = [(q 6, .inr (2, [.ref (q 24), .ref (q 25), .ref (q 26), .ref (q 27), .ref (q 28), .int (nI jd), .int (nI jm), .int ju, .int jr, .int (nI jn)])), (q 24, .inr (0, [.ref (q 29), .ref (q 30), .ref (q 31), .ref (q 32), .int (nI jc), .int (nI jx)])), (q 28, .inl (cI, 3, .inl gt))])) := by
  refine skM_of pf_X2_endSum (Nat.le_of_ble_eq_true rfl) ?_
  intro p e s m below meth c A ls E hP hD hl
  refine skE_el E (fun hx hb hr hml hlocks hin hown hts hK hA => ?_)
  have hown : s.vm.findClass RX2 = some m.cls := hown
  have hS : va_S A s.heap s.heap [] := va_S.rf
  have hl : lv_has ls 2 [(0, .ref (q 6)), (1, .int (nI w))] := hl
  refine lv_aload_n hx hb dX2_endSum_0 rfl (lv_at hl 0 rfl) ?_
  refine sk_get (v := .ref (q 28)) (C := RX2) (T := TX2) (N := 10) hx hb hts inlX2 hown hK hP 0 rfl rfl 4 (by decide) w_1_186 rfl dX2_endSum_1 ?_
  refine lv_iload_n hx hb dX2_endSum_4 rfl (lv_at hl 1 rfl) ?_
  refine lv_aload_n hx hb dX2_endSum_5 rfl (lv_at hl 0 rfl) ?_
  refine sk_get (v := .ref (q 24)) (C := RX2) (T := TX2) (N := 10) hx hb hts inlX2 hown hK hP 0 rfl rfl 0 (by decide) w_1_175 rfl dX2_endSum_6 ?_
  refine sk_get (v := .int (nI jc)) (C := RX0) (T := TX0) (N := 6) hx hb hts inlX0 hown hK hP 1 rfl rfl 4 (by decide) w_1_134 rfl dX2_endSum_9 ?_
  refine sk_iast (ws' := [(q 6, .inr (2, [.ref (q 24), .ref (q 25), .ref (q 26), .ref (q 27), .ref (q 28), .int (nI jd), .int (nI jm), .int ju, .int jr, .int (nI jn)])), (q 24, .inr (0, [.ref (q 29), .ref (q 30), .ref (q 31), .ref (q 32), .int (nI jc), .int (nI jx)])), (q 28, .inl (cI, 3, .inl (upd jt w (nI jc))))]) hx hb hK hP hD hS 2 0 rfl rfl (vin w 3 (by omega) (by omega)) (by rw [nI_clamp (by omega)]; rfl) dX2_endSum_12 (fun H locs hP hD hS => ?_)
  exact sk_vret hx hb hr hlocks hK hP hD hS (⟨upd jt w (nI jc), rfl, rfl⟩) (Nat.le_of_ble_eq_true rfl) (Nat.le_of_ble_eq_true rfl) dX2_endSum_13

