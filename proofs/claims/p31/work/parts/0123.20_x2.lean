theorem dg_X4_forget_0_0 : bqL cX4_forget 0 [(0, [42]), (1, [3]), (2, [181, 0, 17]), (5, [177])] = true := by decide +kernel
theorem dX4_forget_0 : decode cX4_forget 0 = .ok (.aload_n 0, 1) := q_aload_n0 (bat_get dg_X4_forget_0_0 0 rfl rfl)
theorem dX4_forget_1 : decode cX4_forget 1 = .ok (.iconst 0, 1) := q_iconst0 (bat_get dg_X4_forget_0_0 1 rfl rfl)
theorem dX4_forget_2 : decode cX4_forget 2 = .ok (.putfield 17, 3) := q_putfield (bat_get dg_X4_forget_0_0 2 rfl rfl) rfl
theorem dX4_forget_5 : decode cX4_forget 5 = .ok (.return_, 1) := q_return_ (bat_get dg_X4_forget_0_0 3 rfl rfl)
theorem w_2_41 : (Cond.fieldLink RX4 17 "SameKeeper$Past" "acts" "I") ∈ wsL_law := sk_mem (ck_2 _ (List.mem_of_getElem? (i := 41) rfl)) rfl
theorem w_3_158 : (Cond.code yX4_forget cX4_forget 1 none) ∈ wsL_law := sk_mem (ck_3 _ (List.mem_of_getElem? (i := 158) rfl)) rfl
set_option maxHeartbeats 4000000 in
set_option maxRecDepth 100000 in
theorem c_past_forget (l : Launch) (D : va_G) (cI cJ cC cZ cS : ClassId) (q : Nat → Nat) (ac : Nat)  : skM l yX4_forget cX4_forget 1 none 0 0 0 0 D (skT cI cJ cC cZ cS) [.ref (q 9)] [(q 9, .inr (4, [.ref (q 35), .int (nI ac), .ref (q 36), .ref (q 37), .ref (q 38)]))] (skV D (skT cI cJ cC cZ cS) (fun (u : va_W) => u = [(q 9, .inr (4, [.ref (q 35), .int 0, .ref (q 36), .ref (q 37), .ref (q 38)]))])) := by
  refine skM_of pf_X4_forget (Nat.le_of_ble_eq_true rfl) ?_
  intro p e s m below meth c A ls E hP hD hl
  refine skE_el E (fun hx hb hr hml hlocks hin hown hts hK hA => ?_)
  have hown : s.vm.findClass RX4 = some m.cls := hown
  have hS : va_S A s.heap s.heap [] := va_S.rf
  have hl : lv_has ls 1 [(0, .ref (q 9))] := hl
  refine lv_aload_n hx hb dX4_forget_0 rfl (lv_at hl 0 rfl) ?_
  refine lv_iconst (v := 0) hx hb dX4_forget_1 (by decide) ?_
  refine sk_put (ws' := [(q 9, .inr (4, [.ref (q 35), .int 0, .ref (q 36), .ref (q 37), .ref (q 38)]))]) (C := RX4) (T := TX4) (N := 5) (v := .int 0) hx hb hts inlX4 tyX4 tyX4_ok nmX4 hown hK hP hD hS 0 rfl rfl 1 (by decide) w_2_41 rfl rfl rfl (Nat.le_of_ble_eq_true rfl) rfl dX4_forget_2 (fun H locs hP hD hS => ?_)
  exact sk_vret hx hb hr hlocks hK hP hD hS rfl (Nat.le_of_ble_eq_true rfl) (Nat.le_of_ble_eq_true rfl) dX4_forget_5

