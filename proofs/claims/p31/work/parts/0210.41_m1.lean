theorem dg_X12_bits_0_0 : bqL cX12_bits 0 [(0, [3]), (1, [60]), (2, [26]), (3, [61]), (4, [28]), (5, [153, 0, 15]), (20, [27]), (21, [172]), (8, [132, 1, 1]), (11, [28]), (12, [28]), (13, [4]), (14, [100]), (15, [126]), (16, [61]), (17, [167, 255, 243])] = true := by decide +kernel
theorem dX12_bits_0 : decode cX12_bits 0 = .ok (.iconst 0, 1) := q_iconst0 (bat_get dg_X12_bits_0_0 0 rfl rfl)
theorem dX12_bits_1 : decode cX12_bits 1 = .ok (.istore_n 1, 1) := q_istore_n1 (bat_get dg_X12_bits_0_0 1 rfl rfl)
theorem dX12_bits_2 : decode cX12_bits 2 = .ok (.iload_n 0, 1) := q_iload_n0 (bat_get dg_X12_bits_0_0 2 rfl rfl)
theorem dX12_bits_3 : decode cX12_bits 3 = .ok (.istore_n 2, 1) := q_istore_n2 (bat_get dg_X12_bits_0_0 3 rfl rfl)
theorem dX12_bits_4 : decode cX12_bits 4 = .ok (.iload_n 2, 1) := q_iload_n2 (bat_get dg_X12_bits_0_0 4 rfl rfl)
theorem dX12_bits_5 : decode cX12_bits 5 = .ok (.ifCond .eq 15, 3) := q_ifCond_eq (bat_get dg_X12_bits_0_0 5 rfl rfl) rfl
theorem dX12_bits_20 : decode cX12_bits 20 = .ok (.iload_n 1, 1) := q_iload_n1 (bat_get dg_X12_bits_0_0 6 rfl rfl)
theorem dX12_bits_21 : decode cX12_bits 21 = .ok (.ireturn, 1) := q_ireturn (bat_get dg_X12_bits_0_0 7 rfl rfl)
theorem dX12_bits_8 : decode cX12_bits 8 = .ok (.iinc 1 1, 3) := q_iinc (bat_get dg_X12_bits_0_0 8 rfl rfl) rfl
theorem dX12_bits_11 : decode cX12_bits 11 = .ok (.iload_n 2, 1) := q_iload_n2 (bat_get dg_X12_bits_0_0 9 rfl rfl)
theorem dX12_bits_12 : decode cX12_bits 12 = .ok (.iload_n 2, 1) := q_iload_n2 (bat_get dg_X12_bits_0_0 10 rfl rfl)
theorem dX12_bits_13 : decode cX12_bits 13 = .ok (.iconst 1, 1) := q_iconst1 (bat_get dg_X12_bits_0_0 11 rfl rfl)
theorem dX12_bits_14 : decode cX12_bits 14 = .ok (.isub, 1) := q_isub (bat_get dg_X12_bits_0_0 12 rfl rfl)
theorem dX12_bits_15 : decode cX12_bits 15 = .ok (.iand, 1) := q_iand (bat_get dg_X12_bits_0_0 13 rfl rfl)
theorem dX12_bits_16 : decode cX12_bits 16 = .ok (.istore_n 2, 1) := q_istore_n2 (bat_get dg_X12_bits_0_0 14 rfl rfl)
theorem dX12_bits_17 : decode cX12_bits 17 = .ok (.goto (-13), 3) := q_goto (bat_get dg_X12_bits_0_0 15 rfl rfl) rfl
theorem w_7_112 : (Cond.code yX12_bits cX12_bits 3 (some .int)) ∈ wsL_law := sk_mem (ck_7 _ (List.mem_of_getElem? (i := 112) rfl)) rfl
set_option maxHeartbeats 4000000 in
set_option maxRecDepth 100000 in
theorem c_m_bits (l : Launch) (D : va_G) (cI cJ cC cZ cS : ClassId) (o : Int32)  : skM l yX12_bits cX12_bits 3 (some .int) 0 0 0 0 D (skT cI cJ cC cZ cS) [.int o] [] (skI D (skT cI cJ cC cZ cS) (fun (r : Int32) (u : va_W) => u = [])) := by
  refine skM_of pf_X12_bits (Nat.le_of_ble_eq_true rfl) ?_
  intro p e s m below meth c A ls E hP hD hl
  refine skE_el E (fun hx hb hr hml hlocks hin hown hts hK hA => ?_)
  have hown : s.vm.findClass RX12 = some m.cls := hown
  have hS : va_S A s.heap s.heap [] := va_S.rf
  have hl : lv_has ls 3 [(0, .int o)] := hl
  refine lv_iconst (v := 0) hx hb dX12_bits_0 (by decide) ?_
  refine lv_istore_n (lv' := [(1, .int 0), (0, .int o)]) hx hb dX12_bits_1 rfl hl (by decide) rfl (fun ls hl => ?_)
  refine lv_iload_n hx hb dX12_bits_2 rfl (lv_at hl 1 rfl) ?_
  refine lv_istore_n (lv' := [(2, .int o), (1, .int 0), (0, .int o)]) hx hb dX12_bits_3 rfl hl (by decide) rfl (fun ls hl => ?_)
  have lp_1 : ∀ (n_2 : Nat) (bs : Int32) (bn : Int32) (H : Heap) (locs : List Loc) (ls : Array Slot), bs.toBitVec.toNat < n_2 → va_P D vwCl [] H → va_D A [] → va_S A s.heap H locs → lv_has ls 3 [(2, .int bs), (1, .int bn), (0, .int o)] → W p l e { frames := 0, cells := 0, slots := 0, locals := 0 } s m ([.int o] : List Value).toArray below meth c H locs 0 0 (MQ below (skI D (skT cI cJ cC cZ cS) (fun (r : Int32) (u : va_W) => u = []) A) ([.int o] : List Value).toArray s 0 0 A) (F0 m 4 ls []) := by
    intro n_2
    induction n_2 with
    | zero => intro bs bn H locs ls hm; exact absurd hm (Nat.not_lt_zero _)
    | succ n_2 ih_lp_1 =>
      intro bs bn H locs ls hm  hP hD hS hl
      refine lv_iload_n hx hb dX12_bits_4 rfl (lv_at hl 0 rfl) ?_
      refine lv_if_eq (tgt := 20) hx hb dX12_bits_5 (by decide) (fun c_3 => ?_) (fun c_3 => ?_)
      · skip
        refine lv_iload_n hx hb dX12_bits_20 rfl (lv_at hl 1 rfl) ?_
        exact sk_iret hx hb hr rfl hlocks hK hP hD hS rfl (Nat.le_of_ble_eq_true rfl) (Nat.le_of_ble_eq_true rfl) dX12_bits_21
      · skip
        refine lv_iinc (v := bn + 1) (lv' := [(1, .int (bn + 1)), (2, .int bs), (0, .int o)]) hx hb dX12_bits_8 hl (k := 1) rfl rfl (by decide) rfl (fun ls hl => ?_)
        refine lv_iload_n hx hb dX12_bits_11 rfl (lv_at hl 1 rfl) ?_
        refine lv_iload_n hx hb dX12_bits_12 rfl (lv_at hl 1 rfl) ?_
        refine lv_iconst (v := 1) hx hb dX12_bits_13 (by decide) ?_
        refine lv_isub hx hb dX12_bits_14 ?_
        refine lv_topi (fun v_4 ev_4 => ?_)
        refine lv_iand hx hb dX12_bits_15 ?_
        refine lv_topi (fun v_5 ev_5 => ?_)
        refine lv_istore_n (lv' := [(2, .int v_5), (1, .int (bn + 1)), (0, .int o)]) hx hb dX12_bits_16 rfl hl (by decide) rfl (fun ls hl => ?_)
        refine lv_goto (tgt := 4) hx hb dX12_bits_17 (by decide) ?_
        exact ih_lp_1 v_5 (bn + 1) _ _ _ (by subst ev_5; subst ev_4; have := bits_dec bs c_3; omega)  hP hD hS (lv_sub hl [0, 1, 2] rfl)
  exact lp_1 (o.toBitVec.toNat + 1) o 0 _ _ _ (Nat.lt_succ_self _)  hP hD hS (lv_sub hl [0, 1, 2] rfl)

