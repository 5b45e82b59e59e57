/-! a state -/
section KxCopy
variable {p : Program} {l : Launch} {e : Env} {R : Room} {s : State} {m : MethodId} {args : Array Value} {below : List Frame} {meth : Method} {c : Code} {H : Heap} {locs : List Loc} {cells slots : Nat} {Q : State → Prop}
variable {cc : ByteArray} {pc : Nat} {ls : Array Slot} {rest : List Value} {D : va_G} {tys : List (ClassId × FieldType)} {ws : va_W} {A : Nat → Prop} {H0 : Heap} {a : Nat}
theorem sk_copyE (hexec : p.tables.exec = Jvm.exec) (hb : c.code = cc) (hml : c.maxLocals = ls.size) {own : String} {index : Nat} (hts : ∀ w ∈ wsL_law, w.before args s = true) (hown : s.vm.findClass own = some m.cls) (hlink : Cond.methodLink own index arraycopyName ∈ wsL_law) (hnat : Cond.native arraycopyName ∈ wsL_law) (hstat : Cond.static arraycopyName ∈ wsL_law) (hini : Cond.initialized "java/lang/System" ∈ wsL_law)
    (hK : skK D tys s) (hP : va_P D vwCl ws H) (hD : va_D A ws) (hS : va_S A H0 H locs) (q0 q1 t0 : Nat) {a0 : Nat} {c0 : ClassId} {n0 n1 : Nat} {f g : Nat → Int32} {ws' : (Nat → Int32) → va_W} (ha0 : ws[q0]? = some (a0, .inl (c0, n0, .inl f))) (ha1 : ws[q1]? = some (a, .inl (c0, n1, .inl g))) (ht0 : tys[t0]? = some (c0, .int))
    {n : Int32} (h3 : ¬ n < 0) (h4 : n.toNatClampNeg ≤ n0) (h5 : n.toNatClampNeg ≤ n1) (hframes : 1 ≤ R.frames) (hlocals : (rest.map fun v => v.category).sum + (nativeFrameWords "java/lang/System" "arraycopy" 5 + 11) ≤ R.locals) (hw' : ∀ f', ws.set q1 (a, .inl (c0, n1, .inl f')) = ws' f') (hdg : decode cc pc = .ok (.invokestatic index, 3))
    (kk : ∀ (f' : Nat → Int32) (H1 : Heap) (locs1 : List Loc), f' = va_cpy f g 0 0 n.toNatClampNeg → va_P D vwCl (ws' f') H1 → va_D A (ws' f') → va_S A H0 H1 locs1 → W p l e R s m args below meth c H1 locs1 cells slots Q (F0 m (pc + 3) ls rest)) : W p l e R s m args below meth c H locs cells slots Q (F0 m pc ls (.int n :: .int 0 :: .ref a :: .int 0 :: .ref a0 :: rest)) :=
  va_copyi hexec hb hml hown (hts _ hlink) (hts _ hnat) (hts _ hstat) (hts _ hini) hK.1 hP hD hS q0 q1 t0 t0 ha0 ha1 ht0 ht0 rfl (by decide) (by decide) h3 (by rw [show (0 : Int32).toNatClampNeg = 0 from rfl, Nat.zero_add]; exact h4) (by rw [show (0 : Int32).toNatClampNeg = 0 from rfl, Nat.zero_add]; exact h5) (fun _ _ => rfl) hframes hlocals hdg (fun H1 locs1 h1 h2 h3 => kk _ H1 locs1 rfl ((hw' _) ▸ h1) ((hw' _) ▸ h2) h3)
end KxCopy
theorem cpy9 {f g h : Nat → Int32} (e : h = va_cpy f g 0 0 (9 : Int32).toNatClampNeg) : ∀ j, j < 9 → h j = f j := fun j hj => by
  rw [e, show (9 : Int32).toNatClampNeg = 9 from rfl]
  unfold va_cpy
  rw [if_pos ⟨by omega, by omega⟩, Nat.zero_add, Nat.sub_zero]
set_option maxHeartbeats 4000000 in
set_option maxRecDepth 100000 in
theorem c_kState_copy (l : Launch) (D : va_G) (cI cJ cC cZ cS : ClassId) (h0 : Nat) (k1 : Nat) (k2 : Nat) (dy : Nat) (mo : Nat) (wk : Int32) (mu : Int32) (ke : Int32) (fb : Nat → Int32) (fw : Nat → Int32) (o0 : Nat) (o1 : Nat) (o2 : Nat) (dy2 : Nat) (mo2 : Nat) (wk2 : Int32) (mu2 : Int32) (ke2 : Int32) (fb2 : Nat → Int32) (fw2 : Nat → Int32)  : skM l yX7_copy cX7_copy 2 none 1 80 0 0 D (skT cI cJ cC cZ cS) [.ref h0, .ref o0] [(h0, .inr (7, [.ref k1, .ref k2, .int (nI dy), .int wk, .int (nI mo), .int mu, .int ke])), (k1, .inl (cI, 9, .inl fb)), (k2, .inl (cI, 9, .inl fw)), (o0, .inr (7, [.ref o1, .ref o2, .int (nI dy2), .int wk2, .int (nI mo2), .int mu2, .int ke2])), (o1, .inl (cI, 9, .inl fb2)), (o2, .inl (cI, 9, .inl fw2))] (skV D (skT cI cJ cC cZ cS) (fun (u : va_W) => ∃ (g1 : Nat → Int32), ∃ (g2 : Nat → Int32), (∀ j, j < 9 → g1 j = fb2 j) ∧ (∀ j, j < 9 → g2 j = fw2 j) ∧ u = [(h0, .inr (7, [.ref k1, .ref k2, .int (nI dy2), .int wk2, .int (nI mo2), .int mu2, .int ke2])), (k1, .inl (cI, 9, .inl g1)), (k2, .inl (cI, 9, .inl g2)), (o0, .inr (7, [.ref o1, .ref o2, .int (nI dy2), .int wk2, .int (nI mo2), .int mu2, .int ke2])), (o1, .inl (cI, 9, .inl fb2)), (o2, .inl (cI, 9, .inl fw2))])) := by
  refine skM_of pf_X7_copy (Nat.le_of_ble_eq_true rfl) ?_
  intro p e s m below meth c A ls E hP hD hl
  refine skE_el E (fun hx hb hr hml hlocks hin hown hts hK hA => ?_)
  have hown : s.vm.findClass RX7 = some m.cls := hown
  have hS : va_S A s.heap s.heap [] := va_S.rf
  have hl : lv_has ls 2 [(0, .ref h0), (1, .ref o0)] := hl
  refine lv_aload_n hx hb dX7_copy_0 rfl (lv_at hl 0 rfl) ?_
  refine lv_aload_n hx hb dX7_copy_1 rfl (lv_at hl 1 rfl) ?_
  refine sk_get (v := .int (nI dy2)) (C := RX7) (T := TX7) (N := 7) hx hb hts inlX7 hown hK hP 3 rfl rfl 2 (by decide) w_1_238 rfl dX7_copy_2 ?_
  refine sk_put (ws' := [(h0, .inr (7, [.ref k1, .ref k2, .int (nI dy2), .int wk, .int (nI mo), .int mu, .int ke])), (k1, .inl (cI, 9, .inl fb)), (k2, .inl (cI, 9, .inl fw)), (o0, .inr (7, [.ref o1, .ref o2, .int (nI dy2), .int wk2, .int (nI mo2), .int mu2, .int ke2])), (o1, .inl (cI, 9, .inl fb2)), (o2, .inl (cI, 9, .inl fw2))]) (C := RX7) (T := TX7) (N := 7) (v := .int (nI dy2)) hx hb hts inlX7 tyX7 tyX7_ok nmX7 hown hK hP hD hS 0 rfl rfl 2 (by decide) w_1_238 rfl rfl rfl (Nat.le_of_ble_eq_true rfl) rfl dX7_copy_5 (fun H locs hP hD hS => ?_)
  refine lv_aload_n hx hb dX7_copy_8 rfl (lv_at hl 0 rfl) ?_
  refine lv_aload_n hx hb dX7_copy_9 rfl (lv_at hl 1 rfl) ?_
  refine sk_get (v := .int wk2) (C := RX7) (T := TX7) (N := 7) hx hb hts inlX7 hown hK hP 3 rfl rfl 3 (by decide) w_2_3 rfl dX7_copy_10 ?_
  refine sk_put (ws' := [(h0, .inr (7, [.ref k1, .ref k2, .int (nI dy2), .int wk2, .int (nI mo), .int mu, .int ke])), (k1, .inl (cI, 9, .inl fb)), (k2, .inl (cI, 9, .inl fw)), (o0, .inr (7, [.ref o1, .ref o2, .int (nI dy2), .int wk2, .int (nI mo2), .int mu2, .int ke2])), (o1, .inl (cI, 9, .inl fb2)), (o2, .inl (cI, 9, .inl fw2))]) (C := RX7) (T := TX7) (N := 7) (v := .int wk2) hx hb hts inlX7 tyX7 tyX7_ok nmX7 hown hK hP hD hS 0 rfl rfl 3 (by decide) w_2_3 rfl rfl rfl (Nat.le_of_ble_eq_true rfl) rfl dX7_copy_13 (fun H locs hP hD hS => ?_)
  refine lv_aload_n hx hb dX7_copy_16 rfl (lv_at hl 0 rfl) ?_
  refine lv_aload_n hx hb dX7_copy_17 rfl (lv_at hl 1 rfl) ?_
  refine sk_get (v := .int (nI mo2)) (C := RX7) (T := TX7) (N := 7) hx hb hts inlX7 hown hK hP 3 rfl rfl 4 (by decide) w_2_8 rfl dX7_copy_18 ?_
  refine sk_put (ws' := [(h0, .inr (7, [.ref k1, .ref k2, .int (nI dy2), .int wk2, .int (nI mo2), .int mu, .int ke])), (k1, .inl (cI, 9, .inl fb)), (k2, .inl (cI, 9, .inl fw)), (o0, .inr (7, [.ref o1, .ref o2, .int (nI dy2), .int wk2, .int (nI mo2), .int mu2, .int ke2])), (o1, .inl (cI, 9, .inl fb2)), (o2, .inl (cI, 9, .inl fw2))]) (C := RX7) (T := TX7) (N := 7) (v := .int (nI mo2)) hx hb hts inlX7 tyX7 tyX7_ok nmX7 hown hK hP hD hS 0 rfl rfl 4 (by decide) w_2_8 rfl rfl rfl (Nat.le_of_ble_eq_true rfl) rfl dX7_copy_21 (fun H locs hP hD hS => ?_)
  refine lv_aload_n hx hb dX7_copy_24 rfl (lv_at hl 0 rfl) ?_
  refine lv_aload_n hx hb dX7_copy_25 rfl (lv_at hl 1 rfl) ?_
  refine sk_get (v := .int mu2) (C := RX7) (T := TX7) (N := 7) hx hb hts inlX7 hown hK hP 3 rfl rfl 5 (by decide) w_2_11 rfl dX7_copy_26 ?_
  refine sk_put (ws' := [(h0, .inr (7, [.ref k1, .ref k2, .int (nI dy2), .int wk2, .int (nI mo2), .int mu2, .int ke])), (k1, .inl (cI, 9, .inl fb)), (k2, .inl (cI, 9, .inl fw)), (o0, .inr (7, [.ref o1, .ref o2, .int (nI dy2), .int wk2, .int (nI mo2), .int mu2, .int ke2])), (o1, .inl (cI, 9, .inl fb2)), (o2, .inl (cI, 9, .inl fw2))]) (C := RX7) (T := TX7) (N := 7) (v := .int mu2) hx hb hts inlX7 tyX7 tyX7_ok nmX7 hown hK hP hD hS 0 rfl rfl 5 (by decide) w_2_11 rfl rfl rfl (Nat.le_of_ble_eq_true rfl) rfl dX7_copy_29 (fun H locs hP hD hS => ?_)
  refine lv_aload_n hx hb dX7_copy_32 rfl (lv_at hl 0 rfl) ?_
  refine lv_aload_n hx hb dX7_copy_33 rfl (lv_at hl 1 rfl) ?_
  refine sk_get (v := .int ke2) (C := RX7) (T := TX7) (N := 7) hx hb hts inlX7 hown hK hP 3 rfl rfl 6 (by decide) w_2_13 rfl dX7_copy_34 ?_
  refine sk_put (ws' := [(h0, .inr (7, [.ref k1, .ref k2, .int (nI dy2), .int wk2, .int (nI mo2), .int mu2, .int ke2])), (k1, .inl (cI, 9, .inl fb)), (k2, .inl (cI, 9, .inl fw)), (o0, .inr (7, [.ref o1, .ref o2, .int (nI dy2), .int wk2, .int (nI mo2), .int mu2, .int ke2])), (o1, .inl (cI, 9, .inl fb2)), (o2, .inl (cI, 9, .inl fw2))]) (C := RX7) (T := TX7) (N := 7) (v := .int ke2) hx hb hts inlX7 tyX7 tyX7_ok nmX7 hown hK hP hD hS 0 rfl rfl 6 (by decide) w_2_13 rfl rfl rfl (Nat.le_of_ble_eq_true rfl) rfl dX7_copy_37 (fun H locs hP hD hS => ?_)
  refine lv_aload_n hx hb dX7_copy_40 rfl (lv_at hl 1 rfl) ?_
  refine sk_get (v := .ref o1) (C := RX7) (T := TX7) (N := 7) hx hb hts inlX7 hown hK hP 3 rfl rfl 0 (by decide) w_1_230 rfl dX7_copy_41 ?_
  refine lv_iconst (v := 0) hx hb dX7_copy_44 (by decide) ?_
  refine lv_aload_n hx hb dX7_copy_45 rfl (lv_at hl 0 rfl) ?_
  refine sk_get (v := .ref k1) (C := RX7) (T := TX7) (N := 7) hx hb hts inlX7 hown hK hP 0 rfl rfl 0 (by decide) w_1_230 rfl dX7_copy_46 ?_
  refine lv_iconst (v := 0) hx hb dX7_copy_49 (by decide) ?_
  refine lv_bipush (v := 9) hx hb dX7_copy_50 (by decide) ?_
  refine sk_copyE (ws' := fun f_1 => [(h0, .inr (7, [.ref k1, .ref k2, .int (nI dy2), .int wk2, .int (nI mo2), .int mu2, .int ke2])), (k1, .inl (cI, 9, .inl f_1)), (k2, .inl (cI, 9, .inl fw)), (o0, .inr (7, [.ref o1, .ref o2, .int (nI dy2), .int wk2, .int (nI mo2), .int mu2, .int ke2])), (o1, .inl (cI, 9, .inl fb2)), (o2, .inl (cI, 9, .inl fw2))]) hx hb (by rw [hml]; exact hl.1.symm) hts hown w_3_152 w_3_154 w_3_153 w_1_20 hK hP hD hS 4 1 0 rfl rfl rfl (by decide) (by decide) (by decide) (Nat.le_of_ble_eq_true rfl) (Nat.le_of_ble_eq_true rfl) (fun _ => rfl) dX7_copy_52 (fun f_1 H locs ec_2 hP hD hS => ?_)
  refine lv_aload_n hx hb dX7_copy_55 rfl (lv_at hl 1 rfl) ?_
  refine sk_get (v := .ref o2) (C := RX7) (T := TX7) (N := 7) hx hb hts inlX7 hown hK hP 3 rfl rfl 1 (by decide) w_1_234 rfl dX7_copy_56 ?_
  refine lv_iconst (v := 0) hx hb dX7_copy_59 (by decide) ?_
  refine lv_aload_n hx hb dX7_copy_60 rfl (lv_at hl 0 rfl) ?_
  refine sk_get (v := .ref k2) (C := RX7) (T := TX7) (N := 7) hx hb hts inlX7 hown hK hP 0 rfl rfl 1 (by decide) w_1_234 rfl dX7_copy_61 ?_
  refine lv_iconst (v := 0) hx hb dX7_copy_64 (by decide) ?_
  refine lv_bipush (v := 9) hx hb dX7_copy_65 (by decide) ?_
  refine sk_copyE (ws' := fun f_3 => [(h0, .inr (7, [.ref k1, .ref k2, .int (nI dy2), .int wk2, .int (nI mo2), .int mu2, .int ke2])), (k1, .inl (cI, 9, .inl f_1)), (k2, .inl (cI, 9, .inl f_3)), (o0, .inr (7, [.ref o1, .ref o2, .int (nI dy2), .int wk2, .int (nI mo2), .int mu2, .int ke2])), (o1, .inl (cI, 9, .inl fb2)), (o2, .inl (cI, 9, .inl fw2))]) hx hb (by rw [hml]; exact hl.1.symm) hts hown w_3_152 w_3_154 w_3_153 w_1_20 hK hP hD hS 5 2 0 rfl rfl rfl (by decide) (by decide) (by decide) (Nat.le_of_ble_eq_true rfl) (Nat.le_of_ble_eq_true rfl) (fun _ => rfl) dX7_copy_67 (fun f_3 H locs ec_4 hP hD hS => ?_)
  exact sk_vret hx hb hr hlocks hK hP hD hS (⟨f_1, f_3, cpy9 ec_2, cpy9 ec_4, rfl⟩) (Nat.le_of_ble_eq_true rfl) (Nat.le_of_ble_eq_true rfl) dX7_copy_70
set_option maxHeartbeats 4000000 in
set_option maxRecDepth 100000 in
theorem c_kState_begin (l : Launch) (D : va_G) (cI cJ cC cZ cS : ClassId) (h0 : Nat) (k1 : Nat) (k2 : Nat) (dy : Nat) (mo : Nat) (wk : Int32) (mu : Int32) (ke : Int32) (fb : Nat → Int32) (fw : Nat → Int32) (o0 : Nat) (o1 : Nat) (o2 : Nat) (o3 : Nat) (o4 : Nat) (o5 : Nat) (dl : Nat) (ml : Nat) (nl : Nat) (ul : Int32) (rl : Int32) (xb : Nat → Int32) (xw : Nat → Int32)  : skM l yX7_begin cX7_begin 2 none 1 80 0 0 D (skT cI cJ cC cZ cS) [.ref h0, .ref o0] [(h0, .inr (7, [.ref k1, .ref k2, .int (nI dy), .int wk, .int (nI mo), .int mu, .int ke])), (k1, .inl (cI, 9, .inl fb)), (k2, .inl (cI, 9, .inl fw)), (o0, .inr (2, [.ref o1, .ref o2, .ref o3, .ref o4, .ref o5, .int (nI dl), .int (nI ml), .int ul, .int rl, .int (nI nl)])), (o2, .inl (cI, 9, .inl xb)), (o3, .inl (cI, 9, .inl xw))] (skV D (skT cI cJ cC cZ cS) (fun (u : va_W) => ∃ (g1 : Nat → Int32), ∃ (g2 : Nat → Int32), (∀ j, j < 9 → g1 j = xb j) ∧ (∀ j, j < 9 → g2 j = xw j) ∧ u = [(h0, .inr (7, [.ref k1, .ref k2, .int (nI dl), .int 0, .int (nI ml), .int ul, .int 0])), (k1, .inl (cI, 9, .inl g1)), (k2, .inl (cI, 9, .inl g2)), (o0, .inr (2, [.ref o1, .ref o2, .ref o3, .ref o4, .ref o5, .int (nI dl), .int (nI ml), .int ul, .int rl, .int (nI nl)])), (o2, .inl (cI, 9, .inl xb)), (o3, .inl (cI, 9, .inl xw))])) := by
  refine skM_of pf_X7_begin (Nat.le_of_ble_eq_true rfl) ?_
  intro p e s m below meth c A ls E hP hD hl
  refine skE_el E (fun hx hb hr hml hlocks hin hown hts hK hA => ?_)
  have hown : s.vm.findClass RX7 = some m.cls := hown
  have hS : va_S A s.heap s.heap [] := va_S.rf
  have hl : lv_has ls 2 [(0, .ref h0), (1, .ref o0)] := hl
  refine lv_aload_n hx hb dX7_begin_0 rfl (lv_at hl 0 rfl) ?_
  refine lv_aload_n hx hb dX7_begin_1 rfl (lv_at hl 1 rfl) ?_
  refine sk_get (v := .int (nI dl)) (C := RX2) (T := TX2) (N := 10) hx hb hts inlX2 hown hK hP 3 rfl rfl 5 (by decide) w_1_189 rfl dX7_begin_2 ?_
  refine sk_put (ws' := [(h0, .inr (7, [.ref k1, .ref k2, .int (nI dl), .int wk, .int (nI mo), .int mu, .int ke])), (k1, .inl (cI, 9, .inl fb)), (k2, .inl (cI, 9, .inl fw)), (o0, .inr (2, [.ref o1, .ref o2, .ref o3, .ref o4, .ref o5, .int (nI dl), .int (nI ml), .int ul, .int rl, .int (nI nl)])), (o2, .inl (cI, 9, .inl xb)), (o3, .inl (cI, 9, .inl xw))]) (C := RX7) (T := TX7) (N := 7) (v := .int (nI dl)) hx hb hts inlX7 tyX7 tyX7_ok nmX7 hown hK hP hD hS 0 rfl rfl 2 (by decide) w_1_238 rfl rfl rfl (Nat.le_of_ble_eq_true rfl) rfl dX7_begin_5 (fun H locs hP hD hS => ?_)
  refine lv_aload_n hx hb dX7_begin_8 rfl (lv_at hl 0 rfl) ?_
  refine lv_iconst (v := 0) hx hb dX7_begin_9 (by decide) ?_
  refine sk_put (ws' := [(h0, .inr (7, [.ref k1, .ref k2, .int (nI dl), .int 0, .int (nI mo), .int mu, .int ke])), (k1, .inl (cI, 9, .inl fb)), (k2, .inl (cI, 9, .inl fw)), (o0, .inr (2, [.ref o1, .ref o2, .ref o3, .ref o4, .ref o5, .int (nI dl), .int (nI ml), .int ul, .int rl, .int (nI nl)])), (o2, .inl (cI, 9, .inl xb)), (o3, .inl (cI, 9, .inl xw))]) (C := RX7) (T := TX7) (N := 7) (v := .int 0) hx hb hts inlX7 tyX7 tyX7_ok nmX7 hown hK hP hD hS 0 rfl rfl 3 (by decide) w_2_3 rfl rfl rfl (Nat.le_of_ble_eq_true rfl) rfl dX7_begin_10 (fun H locs hP hD hS => ?_)
  refine lv_aload_n hx hb dX7_begin_13 rfl (lv_at hl 0 rfl) ?_
  refine lv_aload_n hx hb dX7_begin_14 rfl (lv_at hl 1 rfl) ?_
  refine sk_get (v := .int (nI ml)) (C := RX2) (T := TX2) (N := 10) hx hb hts inlX2 hown hK hP 3 rfl rfl 6 (by decide) w_1_192 rfl dX7_begin_15 ?_
  refine sk_put (ws' := [(h0, .inr (7, [.ref k1, .ref k2, .int (nI dl), .int 0, .int (nI ml), .int mu, .int ke])), (k1, .inl (cI, 9, .inl fb)), (k2, .inl (cI, 9, .inl fw)), (o0, .inr (2, [.ref o1, .ref o2, .ref o3, .ref o4, .ref o5, .int (nI dl), .int (nI ml), .int ul, .int rl, .int (nI nl)])), (o2, .inl (cI, 9, .inl xb)), (o3, .inl (cI, 9, .inl xw))]) (C := RX7) (T := TX7) (N := 7) (v := .int (nI ml)) hx hb hts inlX7 tyX7 tyX7_ok nmX7 hown hK hP hD hS 0 rfl rfl 4 (by decide) w_2_8 rfl rfl rfl (Nat.le_of_ble_eq_true rfl) rfl dX7_begin_18 (fun H locs hP hD hS => ?_)
  refine lv_aload_n hx hb dX7_begin_21 rfl (lv_at hl 0 rfl) ?_
  refine lv_aload_n hx hb dX7_begin_22 rfl (lv_at hl 1 rfl) ?_
  refine sk_get (v := .int ul) (C := RX2) (T := TX2) (N := 10) hx hb hts inlX2 hown hK hP 3 rfl rfl 7 (by decide) w_1_195 rfl dX7_begin_23 ?_
  refine sk_put (ws' := [(h0, .inr (7, [.ref k1, .ref k2, .int (nI dl), .int 0, .int (nI ml), .int ul, .int ke])), (k1, .inl (cI, 9, .inl fb)), (k2, .inl (cI, 9, .inl fw)), (o0, .inr (2, [.ref o1, .ref o2, .ref o3, .ref o4, .ref o5, .int (nI dl), .int (nI ml), .int ul, .int rl, .int (nI nl)])), (o2, .inl (cI, 9, .inl xb)), (o3, .inl (cI, 9, .inl xw))]) (C := RX7) (T := TX7) (N := 7) (v := .int ul) hx hb hts inlX7 tyX7 tyX7_ok nmX7 hown hK hP hD hS 0 rfl rfl 5 (by decide) w_2_11 rfl rfl rfl (Nat.le_of_ble_eq_true rfl) rfl dX7_begin_26 (fun H locs hP hD hS => ?_)
  refine lv_aload_n hx hb dX7_begin_29 rfl (lv_at hl 0 rfl) ?_
  refine lv_iconst (v := 0) hx hb dX7_begin_30 (by decide) ?_
  refine sk_put (ws' := [(h0, .inr (7, [.ref k1, .ref k2, .int (nI dl), .int 0, .int (nI ml), .int ul, .int 0])), (k1, .inl (cI, 9, .inl fb)), (k2, .inl (cI, 9, .inl fw)), (o0, .inr (2, [.ref o1, .ref o2, .ref o3, .ref o4, .ref o5, .int (nI dl), .int (nI ml), .int ul, .int rl, .int (nI nl)])), (o2, .inl (cI, 9, .inl xb)), (o3, .inl (cI, 9, .inl xw))]) (C := RX7) (T := TX7) (N := 7) (v := .int 0) hx hb hts inlX7 tyX7 tyX7_ok nmX7 hown hK hP hD hS 0 rfl rfl 6 (by decide) w_2_13 rfl rfl rfl (Nat.le_of_ble_eq_true rfl) rfl dX7_begin_31 (fun H locs hP hD hS => ?_)
  refine lv_aload_n hx hb dX7_begin_34 rfl (lv_at hl 1 rfl) ?_
  refine sk_get (v := .ref o2) (C := RX2) (T := TX2) (N := 10) hx hb hts inlX2 hown hK hP 3 rfl rfl 1 (by decide) w_1_179 rfl dX7_begin_35 ?_
  refine lv_iconst (v := 0) hx hb dX7_begin_38 (by decide) ?_
  refine lv_aload_n hx hb dX7_begin_39 rfl (lv_at hl 0 rfl) ?_
  refine sk_get (v := .ref k1) (C := RX7) (T := TX7) (N := 7) hx hb hts inlX7 hown hK hP 0 rfl rfl 0 (by decide) w_1_230 rfl dX7_begin_40 ?_
  refine lv_iconst (v := 0) hx hb dX7_begin_43 (by decide) ?_
  refine lv_bipush (v := 9) hx hb dX7_begin_44 (by decide) ?_
  refine sk_copyE (ws' := fun f_1 => [(h0, .inr (7, [.ref k1, .ref k2, .int (nI dl), .int 0, .int (nI ml), .int ul, .int 0])), (k1, .inl (cI, 9, .inl f_1)), (k2, .inl (cI, 9, .inl fw)), (o0, .inr (2, [.ref o1, .ref o2, .ref o3, .ref o4, .ref o5, .int (nI dl), .int (nI ml), .int ul, .int rl, .int (nI nl)])), (o2, .inl (cI, 9, .inl xb)), (o3, .inl (cI, 9, .inl xw))]) hx hb (by rw [hml]; exact hl.1.symm) hts hown w_3_152 w_3_154 w_3_153 w_1_20 hK hP hD hS 4 1 0 rfl rfl rfl (by decide) (by decide) (by decide) (Nat.le_of_ble_eq_true rfl) (Nat.le_of_ble_eq_true rfl) (fun _ => rfl) dX7_begin_46 (fun f_1 H locs ec_2 hP hD hS => ?_)
  refine lv_aload_n hx hb dX7_begin_49 rfl (lv_at hl 1 rfl) ?_
  refine sk_get (v := .ref o3) (C := RX2) (T := TX2) (N := 10) hx hb hts inlX2 hown hK hP 3 rfl rfl 2 (by decide) w_1_182 rfl dX7_begin_50 ?_
  refine lv_iconst (v := 0) hx hb dX7_begin_53 (by decide) ?_
  refine lv_aload_n hx hb dX7_begin_54 rfl (lv_at hl 0 rfl) ?_
  refine sk_get (v := .ref k2) (C := RX7) (T := TX7) (N := 7) hx hb hts inlX7 hown hK hP 0 rfl rfl 1 (by decide) w_1_234 rfl dX7_begin_55 ?_
  refine lv_iconst (v := 0) hx hb dX7_begin_58 (by decide) ?_
  refine lv_bipush (v := 9) hx hb dX7_begin_59 (by decide) ?_
  refine sk_copyE (ws' := fun f_3 => [(h0, .inr (7, [.ref k1, .ref k2, .int (nI dl), .int 0, .int (nI ml), .int ul, .int 0])), (k1, .inl (cI, 9, .inl f_1)), (k2, .inl (cI, 9, .inl f_3)), (o0, .inr (2, [.ref o1, .ref o2, .ref o3, .ref o4, .ref o5, .int (nI dl), .int (nI ml), .int ul, .int rl, .int (nI nl)])), (o2, .inl (cI, 9, .inl xb)), (o3, .inl (cI, 9, .inl xw))]) hx hb (by rw [hml]; exact hl.1.symm) hts hown w_3_152 w_3_154 w_3_153 w_1_20 hK hP hD hS 5 2 0 rfl rfl rfl (by decide) (by decide) (by decide) (Nat.le_of_ble_eq_true rfl) (Nat.le_of_ble_eq_true rfl) (fun _ => rfl) dX7_begin_61 (fun f_3 H locs ec_4 hP hD hS => ?_)
  exact sk_vret hx hb hr hlocks hK hP hD hS (⟨f_1, f_3, cpy9 ec_2, cpy9 ec_4, rfl⟩) (Nat.le_of_ble_eq_true rfl) (Nat.le_of_ble_eq_true rfl) dX7_begin_64
