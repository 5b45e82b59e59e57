/-! the reference's sums -/
theorem kbt {x v w : Int64} (hv : v = x - x / 10 * 10) {u : Int64} (hu : u = v + 10) (hw : w = u - u / 10 * 10) : w.toInt32 = nI (kcTen x) := by
  have e10 : (10 : Int64).toInt = 10 := rfl
  have h4 : v.toInt = x.toInt.tmod 10 := by rw [hv, lrem10]
  have h5 := Int.mul_tdiv_add_tmod x.toInt 10
  have hb1 : x.toInt.tmod 10 < 10 := Int.tmod_lt_of_pos _ (by decide)
  have hb2 : -10 < x.toInt.tmod 10 := by
    have h3 := Int.tmod_lt_of_pos (-x.toInt) (by decide : (0 : Int) < 10)
    rw [Int.neg_tmod] at h3
    omega
  have h6 : u.toInt = x.toInt.tmod 10 + 10 := by
    rw [hu, Jvm.Kit.i64_add (by rw [e10]; omega) (by rw [e10]; omega), e10, h4]
  have h7 : w.toInt = u.toInt.tmod 10 := by rw [hw, lrem10]
  rw [Int.tmod_eq_emod_of_nonneg (by omega)] at h7
  refine kten_i ?_ (by have := kcTen_lt x; omega)
  unfold kcTen
  omega
theorem kflr_e {x y : Int64} (hy : ¬ y = 0) (h : lg_cmp (x - x / y * y) 0 = 0) : x / y = kcFl x y := by
  unfold kcFl
  rw [if_neg hy, if_neg (fun q => q.1 ((lg_cmp_eq _ _).mp h))]
theorem kflr_s {x y : Int64} (hy : ¬ y = 0) (hs : x < 0 ↔ y < 0) : x / y = kcFl x y := by
  unfold kcFl
  rw [if_neg hy, if_neg (fun q => q.2 hs)]
theorem kflr_d {x y : Int64} (hy : ¬ y = 0) (h : ¬ lg_cmp (x - x / y * y) 0 = 0) (hs : ¬ (x < 0 ↔ y < 0)) : x / y - 1 = kcFl x y := by
  unfold kcFl
  rw [if_neg hy, if_pos ⟨fun q => h ((lg_cmp_eq _ _).mpr q), hs⟩]
theorem klt0 {x : Int64} (h : ¬ 0 ≤ lg_cmp x 0) : x < 0 := Int64.not_le.mp (fun q => h ((lg_cmp_ge x 0).mpr q))
theorem kge0 {x : Int64} (h : 0 ≤ lg_cmp x 0) : ¬ x < 0 := Int64.not_lt.mpr ((lg_cmp_ge x 0).mp h)
theorem kjo_c {c k : Nat} (h : nI c = nI k) (hc : c ≤ 6) (hk : k < 2147483648) : c = k := (neq _ _ (by omega) hk).mp h
theorem kjo_f {c : Nat} (h1 : 1 ≤ c) (h6 : c ≤ 6) (g1 : ¬ nI c = 1) (g2 : ¬ nI c = 2) (g3 : ¬ nI c = 3) (g4 : ¬ nI c = 4) (g5 : ¬ nI c = 5) (g6 : ¬ nI c = 6) : False := by
  rcases (show c = 1 ∨ c = 2 ∨ c = 3 ∨ c = 4 ∨ c = 5 ∨ c = 6 by omega) with rfl | rfl | rfl | rfl | rfl | rfl
  · exact g1 rfl
  · exact g2 rfl
  · exact g3 rfl
  · exact g4 rfl
  · exact g5 rfl
  · exact g6 rfl
theorem kjo_min {x y : Int64} (h : 0 ≤ lg_cmp x y) : y = kcOp 5 x y := by
  have h1 := (lg_cmp_ge x y).mp h
  show y = if y < x then y else x
  by_cases q : y < x
  · rw [if_pos q]
  · rw [if_neg q]; exact Int64.le_antisymm h1 (Int64.not_lt.mp q)
theorem kjo_min2 {x y : Int64} (h : ¬ 0 ≤ lg_cmp x y) : x = kcOp 5 x y := by
  have h1 : x < y := Int64.not_le.mp (fun q => h ((lg_cmp_ge x y).mpr q))
  show x = if y < x then y else x
  rw [if_neg (fun q => Int64.lt_irrefl (Int64.lt_trans h1 q))]
theorem kjo_max {x y : Int64} (h : lg_cmp x y ≤ 0) : y = kcOp 6 x y := by
  have h1 := (lg_cmp_le x y).mp h
  show y = if x < y then y else x
  by_cases q : x < y
  · rw [if_pos q]
  · rw [if_neg q]; exact Int64.le_antisymm (Int64.not_lt.mp q) h1
theorem kjo_max2 {x y : Int64} (h : ¬ lg_cmp x y ≤ 0) : x = kcOp 6 x y := by
  have h1 : y < x := Int64.not_le.mp (fun q => h ((lg_cmp_le x y).mpr q))
  show x = if x < y then y else x
  rw [if_neg (fun q => Int64.lt_irrefl (Int64.lt_trans h1 q))]
/-- what a name is, by the reference's fields -/
def mnO (nm : Nat → Int64) (am at_ aa : Int32) (nw : Nat → Int32) (d : Nat) : Prop := Int32.toInt64 am = nm 0 ∧ Int32.toInt64 (nw (2 + 3 * d)) = nm 1 ∧ Int32.toInt64 (nw (2 + 3 * d + 1)) = nm 2 ∧ Int32.toInt64 (nI d) = nm 3 ∧ Int32.toInt64 (nw 0) = nm 4 ∧ Int32.toInt64 at_ = nm 5 ∧ Int32.toInt64 aa = nm 6
theorem mn_k {k j : Nat} (h : nI k = nI j) (hk : k < 7) (hj : j < 2147483648) : k = j := (neq _ _ (by omega) hj).mp h
theorem mn_x {k j : Nat} {P : Prop} (h : nI k = nI j) (hk : k < 7) (hj : j < 2147483648) (h7 : 7 ≤ j) : P := by
  have := mn_k h hk hj
  exact absurd h7 (by omega)
theorem mn_f {k : Nat} (hk : k < 7) (g0 : ¬ nI k = 0) (g1 : ¬ nI k = 1) (g2 : ¬ nI k = 2) (g3 : ¬ nI k = 3) (g4 : ¬ nI k = 4) (g5 : ¬ nI k = 5) (g6 : ¬ nI k = 6) : False := by
  rcases (show k = 0 ∨ k = 1 ∨ k = 2 ∨ k = 3 ∨ k = 4 ∨ k = 5 ∨ k = 6 by omega) with rfl | rfl | rfl | rfl | rfl | rfl | rfl
  · exact g0 rfl
  · exact g1 rfl
  · exact g2 rfl
  · exact g3 rfl
  · exact g4 rfl
  · exact g5 rfl
  · exact g6 rfl
/-! the two counts are one -/
theorem sm_S (f : Nat → Nat) : ∀ n, sm f n = kcS f n
  | 0 => rfl
  | n + 1 => by
    show sm f n + f n = kcS f n + f n
    rw [sm_S f n]
theorem bk_C (C : Nat → Nat → Nat → Bool) : ∀ j d m, bk C j d m = kcC C j (d + 1) m
  | 0, _, _ => rfl
  | j + 1, d, m => by
    show sm (fun k => if C (d + 1) m k then bk C j (d + 1) k else 0) 10 = kcS (fun k => if C (d + 1) m k = true then kcC C j (d + 1 + 1) k else 0) 10
    rw [sm_S]
    exact kcS_cg 10 (fun k _ => by rw [bk_C C j (d + 1) k])
theorem bfo_B (C : Nat → Nat → Nat → Bool) (a0 : Nat) : ∀ d m, bfo C a0 d m = kcB C a0 d m
  | 0, _ => rfl
  | d + 1, m => by
    show sm (fun a => if C (d + 1) a m then bfo C a0 d a else 0) 10 = kcS (fun a => if C (d + 1) a m = true then kcB C a0 d a else 0) 10
    rw [sm_S]
    exact kcS_cg 10 (fun a _ => by rw [bfo_B C a0 d a])
theorem wys_C (C : Nat → Nat → Nat → Bool) (a0 : Nat) {n : Nat} (h : 1 ≤ n) : wys C a0 (n - 1) = kcC C n 0 a0 := by
  unfold wys
  rw [sm_S, kcS_cg (g := kcB C a0 (n - 1)) 10 (fun m _ => bfo_B C a0 (n - 1) m), kcB_all, show n - 1 + 1 = n by omega]
theorem gA_W (C : Nat → Nat → Nat → Bool) (n d a m : Nat) : gA C n d a m = kcW C n d a m := by
  unfold gA kcW
  rw [bk_C, show n - 1 - d = n - (d + 1) by omega]
set_option maxHeartbeats 4000000 in
set_option maxRecDepth 100000 in
theorem c_nm_byTen (l : Launch) (D : va_G) (cI cJ cC cZ cS : ClassId) (x : Int64)  : skM l yX12_byTen cX12_byTen 2 (some .int) 0 0 0 0 D (skT cI cJ cC cZ cS) [.long x] [] (skI D (skT cI cJ cC cZ cS) (fun (r : Int32) (u : va_W) => r = nI (kcTen x) ∧ u = [])) := by
  refine skM_of pf_X12_byTen (Nat.le_of_ble_eq_true rfl) ?_
  intro p e s m below meth c A ls E hP hD hl
  refine skE_el E (fun hx hb hr hml hlocks hin hown hts hK hA => ?_)
  have hown : s.vm.findClass RX12 = some m.cls := hown
  have hS : va_S A s.heap s.heap [] := va_S.rf
  have hl : lv_has ls 2 [(0, .long x)] := hl
  refine lv_lload_n hx hb dX12_byTen_0 rfl (lv_at hl 0 rfl) ?_
  refine lv_ldc2 (v := 10) hx hb hown (hts _ w_7_171) dX12_byTen_1 ?_
  refine lv_lrem hx hb dX12_byTen_4 (by decide) ?_
  refine lv_topl (fun v_1 ev_1 => ?_)
  refine lv_ldc2 (v := 10) hx hb hown (hts _ w_7_171) dX12_byTen_5 ?_
  refine lv_ladd hx hb dX12_byTen_8 ?_
  refine lv_topl (fun v_2 ev_2 => ?_)
  refine lv_ldc2 (v := 10) hx hb hown (hts _ w_7_171) dX12_byTen_9 ?_
  refine lv_lrem hx hb dX12_byTen_12 (by decide) ?_
  refine lv_topl (fun v_3 ev_3 => ?_)
  refine lv_l2i hx hb dX12_byTen_13 rfl ?_
  refine sk_top (nI (kcTen x)) (kbt ev_1 ev_2 ev_3) ?_
  exact sk_iret hx hb hr rfl hlocks hK hP hD hS (⟨rfl, rfl⟩) (Nat.le_of_ble_eq_true rfl) (Nat.le_of_ble_eq_true rfl) dX12_byTen_14
set_option maxHeartbeats 4000000 in
set_option maxRecDepth 100000 in
theorem c_nm_qClip (l : Launch) (D : va_G) (cI cJ cC cZ cS : ClassId) (x : Int64)  : skM l yX12_qClip cX12_qClip 2 (some .long) 0 0 0 0 D (skT cI cJ cC cZ cS) [.long x] [] (skL D (skT cI cJ cC cZ cS) (fun (r : Int64) (u : va_W) => r = kcClip x ∧ u = [])) := by
  refine skM_of pf_X12_qClip (Nat.le_of_ble_eq_true rfl) ?_
  intro p e s m below meth c A ls E hP hD hl
  refine skE_el E (fun hx hb hr hml hlocks hin hown hts hK hA => ?_)
  have hown : s.vm.findClass RX12 = some m.cls := hown
  have hS : va_S A s.heap s.heap [] := va_S.rf
  have hl : lv_has ls 2 [(0, .long x)] := hl
  refine lv_lload_n hx hb dX12_qClip_0 rfl (lv_at hl 0 rfl) ?_
  refine lv_ldc2 (v := 1000000) hx hb hown (hts _ w_7_163) dX12_qClip_1 ?_
  refine W.lcmp hx hb dX12_qClip_4 ?_
  refine lv_if_le (tgt := 14) hx hb dX12_qClip_5 (by decide) (fun c_1 => ?_) (fun c_1 => ?_)
  · skip
    refine lv_lload_n hx hb dX12_qClip_14 rfl (lv_at hl 0 rfl) ?_
    refine lv_ldc2 (v := (-1000000)) hx hb hown (hts _ w_7_164) dX12_qClip_15 ?_
    refine W.lcmp hx hb dX12_qClip_18 ?_
    refine lv_if_ge (tgt := 28) hx hb dX12_qClip_19 (by decide) (fun c_2 => ?_) (fun c_2 => ?_)
    · skip
      refine lv_lload_n hx hb dX12_qClip_28 rfl (lv_at hl 0 rfl) ?_
      exact sk_lret hx hb hr hlocks hK hP hD hS (⟨kclip_c c_1 c_2, rfl⟩) (Nat.le_of_ble_eq_true rfl) (Nat.le_of_ble_eq_true rfl) dX12_qClip_29
    · skip
      refine lv_ldc2 (v := (-1000000)) hx hb hown (hts _ w_7_164) dX12_qClip_22 ?_
      refine lv_goto (tgt := 29) hx hb dX12_qClip_25 (by decide) ?_
      exact sk_lret hx hb hr hlocks hK hP hD hS (⟨kclip_b c_1 c_2, rfl⟩) (Nat.le_of_ble_eq_true rfl) (Nat.le_of_ble_eq_true rfl) dX12_qClip_29
  · skip
    refine lv_ldc2 (v := 1000000) hx hb hown (hts _ w_7_163) dX12_qClip_8 ?_
    refine lv_goto (tgt := 29) hx hb dX12_qClip_11 (by decide) ?_
    exact sk_lret hx hb hr hlocks hK hP hD hS (⟨kclip_a c_1, rfl⟩) (Nat.le_of_ble_eq_true rfl) (Nat.le_of_ble_eq_true rfl) dX12_qClip_29
set_option maxHeartbeats 4000000 in
set_option maxRecDepth 100000 in
theorem c_nm_qFloor (l : Launch) (D : va_G) (cI cJ cC cZ cS : ClassId) (x : Int64) (y : Int64)  : skM l yX12_qFloor cX12_qFloor 6 (some .long) 0 0 0 0 D (skT cI cJ cC cZ cS) [.long x, .long y] [] (skL D (skT cI cJ cC cZ cS) (fun (r : Int64) (u : va_W) => r = kcFl x y ∧ u = [])) := by
  refine skM_of pf_X12_qFloor (Nat.le_of_ble_eq_true rfl) ?_
  intro p e s m below meth c A ls E hP hD hl
  refine skE_el E (fun hx hb hr hml hlocks hin hown hts hK hA => ?_)
  have hown : s.vm.findClass RX12 = some m.cls := hown
  have hS : va_S A s.heap s.heap [] := va_S.rf
  have hl : lv_has ls 6 [(0, .long x), (2, .long y)] := hl
  refine lv_lload_n hx hb dX12_qFloor_0 rfl (lv_at hl 1 rfl) ?_
  refine lv_lconst (v := 0) hx hb dX12_qFloor_1 (by decide) ?_
  refine W.lcmp hx hb dX12_qFloor_2 ?_
  refine lv_if_ne (tgt := 8) hx hb dX12_qFloor_3 (by decide) (fun c_1 => ?_) (fun c_1 => ?_)
  · skip
    refine lv_lload_n hx hb dX12_qFloor_8 rfl (lv_at hl 0 rfl) ?_
    refine lv_lload_n hx hb dX12_qFloor_9 rfl (lv_at hl 1 rfl) ?_
    refine lv_ldiv hx hb dX12_qFloor_10 (lg_ne0 c_1) ?_
    refine lv_lstore (lv' := [(4, .long (x / y)), (0, .long x), (2, .long y)]) hx hb dX12_qFloor_11 hl (by decide) rfl (fun ls hl => ?_)
    refine lv_lload_n hx hb dX12_qFloor_13 rfl (lv_at hl 1 rfl) ?_
    refine lv_lload_n hx hb dX12_qFloor_14 rfl (lv_at hl 2 rfl) ?_
    refine lv_lrem hx hb dX12_qFloor_15 (lg_ne0 c_1) ?_
    refine lv_lconst (v := 0) hx hb dX12_qFloor_16 (by decide) ?_
    refine W.lcmp hx hb dX12_qFloor_17 ?_
    refine lv_if_eq (tgt := 53) hx hb dX12_qFloor_18 (by decide) (fun c_2 => ?_) (fun c_2 => ?_)
    · skip
      refine lv_lload hx hb dX12_qFloor_53 (lv_at hl 0 rfl) ?_
      exact sk_lret hx hb hr hlocks hK hP hD hS (⟨kflr_e (lg_ne0 c_1) c_2, rfl⟩) (Nat.le_of_ble_eq_true rfl) (Nat.le_of_ble_eq_true rfl) dX12_qFloor_55
    · skip
      refine lv_lload_n hx hb dX12_qFloor_21 rfl (lv_at hl 1 rfl) ?_
      refine lv_lconst (v := 0) hx hb dX12_qFloor_22 (by decide) ?_
      refine W.lcmp hx hb dX12_qFloor_23 ?_
      refine lv_if_ge (tgt := 31) hx hb dX12_qFloor_24 (by decide) (fun c_3 => ?_) (fun c_3 => ?_)
      · skip
        refine lv_iconst (v := 0) hx hb dX12_qFloor_31 (by decide) ?_
        refine lv_lload_n hx hb dX12_qFloor_32 rfl (lv_at hl 2 rfl) ?_
        refine lv_lconst (v := 0) hx hb dX12_qFloor_33 (by decide) ?_
        refine W.lcmp hx hb dX12_qFloor_34 ?_
        refine lv_if_ge (tgt := 42) hx hb dX12_qFloor_35 (by decide) (fun c_4 => ?_) (fun c_4 => ?_)
        · skip
          refine lv_iconst (v := 0) hx hb dX12_qFloor_42 (by decide) ?_
          refine lv_icmp_eq (tgt := 53) hx hb dX12_qFloor_43 (by decide) (fun c_5 => ?_) (fun c => absurd c (by decide))
          refine lv_lload hx hb dX12_qFloor_53 (lv_at hl 0 rfl) ?_
          exact sk_lret hx hb hr hlocks hK hP hD hS (⟨kflr_s (lg_ne0 c_1) ⟨fun q => absurd q (kge0 c_3), fun q => absurd q (kge0 c_4)⟩, rfl⟩) (Nat.le_of_ble_eq_true rfl) (Nat.le_of_ble_eq_true rfl) dX12_qFloor_55
        · skip
          refine lv_iconst (v := 1) hx hb dX12_qFloor_38 (by decide) ?_
          refine lv_goto (tgt := 43) hx hb dX12_qFloor_39 (by decide) ?_
          refine lv_icmp_eq (tgt := 53) hx hb dX12_qFloor_43 (by decide) (fun c => absurd c (by decide)) (fun c_6 => ?_)
          refine lv_lload hx hb dX12_qFloor_46 (lv_at hl 0 rfl) ?_
          refine lv_lconst (v := 1) hx hb dX12_qFloor_48 (by decide) ?_
          refine lv_lsub hx hb dX12_qFloor_49 ?_
          refine lv_goto (tgt := 55) hx hb dX12_qFloor_50 (by decide) ?_
          exact sk_lret hx hb hr hlocks hK hP hD hS (⟨kflr_d (lg_ne0 c_1) c_2 (fun q => absurd (q.mpr (klt0 c_4)) (kge0 c_3)), rfl⟩) (Nat.le_of_ble_eq_true rfl) (Nat.le_of_ble_eq_true rfl) dX12_qFloor_55
      · skip
        refine lv_iconst (v := 1) hx hb dX12_qFloor_27 (by decide) ?_
        refine lv_goto (tgt := 32) hx hb dX12_qFloor_28 (by decide) ?_
        refine lv_lload_n hx hb dX12_qFloor_32 rfl (lv_at hl 2 rfl) ?_
        refine lv_lconst (v := 0) hx hb dX12_qFloor_33 (by decide) ?_
        refine W.lcmp hx hb dX12_qFloor_34 ?_
        refine lv_if_ge (tgt := 42) hx hb dX12_qFloor_35 (by decide) (fun c_7 => ?_) (fun c_7 => ?_)
        · skip
          refine lv_iconst (v := 0) hx hb dX12_qFloor_42 (by decide) ?_
          refine lv_icmp_eq (tgt := 53) hx hb dX12_qFloor_43 (by decide) (fun c => absurd c (by decide)) (fun c_8 => ?_)
          refine lv_lload hx hb dX12_qFloor_46 (lv_at hl 0 rfl) ?_
          refine lv_lconst (v := 1) hx hb dX12_qFloor_48 (by decide) ?_
          refine lv_lsub hx hb dX12_qFloor_49 ?_
          refine lv_goto (tgt := 55) hx hb dX12_qFloor_50 (by decide) ?_
          exact sk_lret hx hb hr hlocks hK hP hD hS (⟨kflr_d (lg_ne0 c_1) c_2 (fun q => absurd (q.mp (klt0 c_3)) (kge0 c_7)), rfl⟩) (Nat.le_of_ble_eq_true rfl) (Nat.le_of_ble_eq_true rfl) dX12_qFloor_55
        · skip
          refine lv_iconst (v := 1) hx hb dX12_qFloor_38 (by decide) ?_
          refine lv_goto (tgt := 43) hx hb dX12_qFloor_39 (by decide) ?_
          refine lv_icmp_eq (tgt := 53) hx hb dX12_qFloor_43 (by decide) (fun c_9 => ?_) (fun c => absurd c (by decide))
          refine lv_lload hx hb dX12_qFloor_53 (lv_at hl 0 rfl) ?_
          exact sk_lret hx hb hr hlocks hK hP hD hS (⟨kflr_s (lg_ne0 c_1) ⟨fun _ => (klt0 c_7), fun _ => (klt0 c_3)⟩, rfl⟩) (Nat.le_of_ble_eq_true rfl) (Nat.le_of_ble_eq_true rfl) dX12_qFloor_55
  · skip
    refine lv_lconst (v := 0) hx hb dX12_qFloor_6 (by decide) ?_
    exact sk_lret hx hb hr hlocks hK hP hD hS (⟨kfl_0 ((lg_cmp_eq _ _).mp c_1), rfl⟩) (Nat.le_of_ble_eq_true rfl) (Nat.le_of_ble_eq_true rfl) dX12_qFloor_7
set_option maxHeartbeats 4000000 in
set_option maxRecDepth 100000 in
theorem c_nm_qPuts (l : Launch) (D : va_G) (cI cJ cC cZ cS : ClassId) (mm : Nat) (g : Nat → Nat) (ta : Nat) (pa : Nat) (pe : Nat) (pd : Int32) (pb : Nat) (pp : Int32) (pf : Int32) (pg : Int32) (pn : Int32) (rt : Int32) (rn : Int32) (cd : Nat) (sn : Int32) (il : Nat) (tk : Int32) (am : Int32) (at_ : Int32) (aa : Int32) (mt_ : Int32) (wt : Int32) (wy : Int64) (it_ : Nat) (rm : Nat) (ud : Nat) (nu : Nat) (sd : Int64) (qn : Nat) (qw : Nat) (qo : Int32) (qb : Nat) (qp : Nat) (qa : Int64) (qi : Nat) (oc : Nat) (x : Int64) (ql : Nat → Int64) (hqp : qp < 1700) : skM l yX12_qPuts cX12_qPuts 3 none 0 0 0 0 D (skT cI cJ cC cZ cS) [.ref mm, .long x] [(mm, .inr (12, mo g (nI ta) (nI pa) (nI pe) pd (nI pb) pp pf pg pn rt rn (nI cd) sn (nI il) tk am at_ aa mt_ 0 (-1) wt wy (nI it_) (nI rm) (nI ud) (nI nu) sd (nI qn) (nI qw) qo (nI qb) (nI qp) qa (nI qi) (nI oc))), (g 86, .inl (cJ, 1700, .inr (.inl ql)))] (skV D (skT cI cJ cC cZ cS) (fun (u : va_W) => ∃ (ql2 : Nat → Int64), ql2 = vp_updL ql qp x ∧ u = [(mm, .inr (12, mo g (nI ta) (nI pa) (nI pe) pd (nI pb) pp pf pg pn rt rn (nI cd) sn (nI il) tk am at_ aa mt_ 0 (-1) wt wy (nI it_) (nI rm) (nI ud) (nI nu) sd (nI qn) (nI qw) qo (nI qb) (nI (qp + 1)) qa (nI qi) (nI oc))), (g 86, .inl (cJ, 1700, .inr (.inl ql2)))])) := by
  refine skM_of pf_X12_qPuts (Nat.le_of_ble_eq_true rfl) ?_
  intro p e s m below meth c A ls E hP hD hl
  refine skE_el E (fun hx hb hr hml hlocks hin hown hts hK hA => ?_)
  have hown : s.vm.findClass RX12 = some m.cls := hown
  have hS : va_S A s.heap s.heap [] := va_S.rf
  have hl : lv_has ls 3 [(0, .ref mm), (1, .long x)] := hl
  refine lv_aload_n hx hb dX12_qPuts_0 rfl (lv_at hl 0 rfl) ?_
  refine sk_get (v := .ref (g 86)) (C := RX12) (T := TX12) (N := 92) hx hb hts inlX12 hown hK hP 0 rfl rfl 86 (by decide) w_6_1 rfl dX12_qPuts_1 ?_
  refine lv_aload_n hx hb dX12_qPuts_4 rfl (lv_at hl 0 rfl) ?_
  refine sk_get (v := .int (nI qp)) (C := RX12) (T := TX12) (N := 92) hx hb hts inlX12 hown hK hP 0 rfl rfl 87 (by decide) w_6_2 rfl dX12_qPuts_5 ?_
  refine lv_lload_n hx hb dX12_qPuts_8 rfl (lv_at hl 1 rfl) ?_
  refine sk_lastE (k := qp) (ws' := fun f_1 => [(mm, .inr (12, mo g (nI ta) (nI pa) (nI pe) pd (nI pb) pp pf pg pn rt rn (nI cd) sn (nI il) tk am at_ aa mt_ 0 (-1) wt wy (nI it_) (nI rm) (nI ud) (nI nu) sd (nI qn) (nI qw) qo (nI qb) (nI qp) qa (nI qi) (nI oc))), (g 86, .inl (cJ, 1700, .inr (.inl f_1)))]) hx hb hK hP hD hS 1 1 rfl rfl (by omega) (by omega) (fun _ => rfl) dX12_qPuts_9 (fun f_1 H locs ef_2 hP hD hS => ?_)
  refine lv_aload_n hx hb dX12_qPuts_10 rfl (lv_at hl 0 rfl) ?_
  refine lv_dup hx hb dX12_qPuts_11 rfl ?_
  refine sk_get (v := .int (nI qp)) (C := RX12) (T := TX12) (N := 92) hx hb hts inlX12 hown hK hP 0 rfl rfl 87 (by decide) w_6_2 rfl dX12_qPuts_12 ?_
  refine lv_iconst (v := 1) hx hb dX12_qPuts_15 (by decide) ?_
  refine lv_iadd hx hb dX12_qPuts_16 ?_
  refine sk_top (nI (qp + 1)) (nI_add qp 1) ?_
  refine sk_put (ws' := [(mm, .inr (12, mo g (nI ta) (nI pa) (nI pe) pd (nI pb) pp pf pg pn rt rn (nI cd) sn (nI il) tk am at_ aa mt_ 0 (-1) wt wy (nI it_) (nI rm) (nI ud) (nI nu) sd (nI qn) (nI qw) qo (nI qb) (nI (qp + 1)) qa (nI qi) (nI oc))), (g 86, .inl (cJ, 1700, .inr (.inl f_1)))]) (C := RX12) (T := TX12) (N := 92) (v := .int (nI (qp + 1))) hx hb hts inlX12 tyX12 tyX12_ok nmX12 hown hK hP hD hS 0 rfl rfl 87 (by decide) w_6_2 rfl rfl rfl (Nat.le_of_ble_eq_true rfl) rfl dX12_qPuts_17 (fun H locs hP hD hS => ?_)
  exact sk_vret hx hb hr hlocks hK hP hD hS (⟨f_1, ef_2, rfl⟩) (Nat.le_of_ble_eq_true rfl) (Nat.le_of_ble_eq_true rfl) dX12_qPuts_20
