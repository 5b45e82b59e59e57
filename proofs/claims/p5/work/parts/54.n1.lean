/-! the reference's sums -/
theorem kbt {x v w : Int64} (hv : v = x - x / 10 * 10) {u : Int64} (hu : u = v + 10) (hw : w = u - u / 10 * 10) : w.toInt32 = nI (kcTen x) := by
  have e10 : (10 : Int64).toInt = 10 := rfl
  have h4 : v.toInt = x.toInt.tmod 10 := by rw [hv, lrem10]
  have h5 := Int.mul_tdiv_add_tmod x.toInt 10
  have hb1 : x.toInt.tmod 10 < 10 := Int.tmod_lt_of_pos _ (by decide)
  have hb2 : -10 < x.toInt.tmod 10 := by
    have h3 := Int.tmod_lt_of_pos (-x.toInt) (by decide : (0 : Int) < 10)
    rw [Int.neg_tmod] at h3
    omega
  have h6 : u.toInt = x.toInt.tmod 10 + 10 := by
    rw [hu, Jvm.Kit.i64_add (by rw [e10]; omega) (by rw [e10]; omega), e10, h4]
  have h7 : w.toInt = u.toInt.tmod 10 := by rw [hw, lrem10]
  rw [Int.tmod_eq_emod_of_nonneg (by omega)] at h7
  refine kten_i ?_ (by have := kcTen_lt x; omega)
  unfold kcTen
  omega
theorem kflr_e {x y : Int64} (hy : ¬ y = 0) (h : lg_cmp (x - x / y * y) 0 = 0) : x / y = kcFl x y := by
  unfold kcFl
  rw [if_neg hy, if_neg (fun q => q.1 ((lg_cmp_eq _ _).mp h))]
theorem kflr_s {x y : Int64} (hy : ¬ y = 0) (hs : x < 0 ↔ y < 0) : x / y = kcFl x y := by
  unfold kcFl
  rw [if_neg hy, if_neg (fun q => q.2 hs)]
theorem kflr_d {x y : Int64} (hy : ¬ y = 0) (h : ¬ lg_cmp (x - x / y * y) 0 = 0) (hs : ¬ (x < 0 ↔ y < 0)) : x / y - 1 = kcFl x y := by
  unfold kcFl
  rw [if_neg hy, if_pos ⟨fun q => h ((lg_cmp_eq _ _).mpr q), hs⟩]
theorem klt0 {x : Int64} (h : ¬ 0 ≤ lg_cmp x 0) : x < 0 := Int64.not_le.mp (fun q => h ((lg_cmp_ge x 0).mpr q))
theorem kge0 {x : Int64} (h : 0 ≤ lg_cmp x 0) : ¬ x < 0 := Int64.not_lt.mpr ((lg_cmp_ge x 0).mp h)
theorem kjo_c {c k : Nat} (h : nI c = nI k) (hc : c ≤ 6) (hk : k < 2147483648) : c = k := (neq _ _ (by omega) hk).mp h
theorem kjo_f {c : Nat} (h1 : 1 ≤ c) (h6 : c ≤ 6) (g1 : ¬ nI c = 1) (g2 : ¬ nI c = 2) (g3 : ¬ nI c = 3) (g4 : ¬ nI c = 4) (g5 : ¬ nI c = 5) (g6 : ¬ nI c = 6) : False := by
  rcases (show c = 1 ∨ c = 2 ∨ c = 3 ∨ c = 4 ∨ c = 5 ∨ c = 6 by omega) with rfl | rfl | rfl | rfl | rfl | rfl
  · exact g1 rfl
  · exact g2 rfl
  · exact g3 rfl
  · exact g4 rfl
  · exact g5 rfl
  · exact g6 rfl
theorem kjo_min {x y : Int64} (h : 0 ≤ lg_cmp x y) : y = kcOp 5 x y := by
  have h1 := (lg_cmp_ge x y).mp h
  show y = if y < x then y else x
  by_cases q : y < x
  · rw [if_pos q]
  · rw [if_neg q]; exact Int64.le_antisymm h1 (Int64.not_lt.mp q)
theorem kjo_min2 {x y : Int64} (h : ¬ 0 ≤ lg_cmp x y) : x = kcOp 5 x y := by
  have h1 : x < y := Int64.not_le.mp (fun q => h ((lg_cmp_ge x y).mpr q))
  show x = if y < x then y else x
  rw [if_neg (fun q => Int64.lt_irrefl (Int64.lt_trans h1 q))]
theorem kjo_max {x y : Int64} (h : lg_cmp x y ≤ 0) : y = kcOp 6 x y := by
  have h1 := (lg_cmp_le x y).mp h
  show y = if x < y then y else x
  by_cases q : x < y
  · rw [if_pos q]
  · rw [if_neg q]; exact Int64.le_antisymm (Int64.not_lt.mp q) h1
theorem kjo_max2 {x y : Int64} (h : ¬ lg_cmp x y ≤ 0) : x = kcOp 6 x y := by
  have h1 : y < x := Int64.not_le.mp (fun q => h ((lg_cmp_le x y).mpr q))
  show x = if x < y then y else x
  rw [if_neg (fun q => Int64.lt_irrefl (Int64.lt_trans h1 q))]
/-- what a name is, by the reference's fields -/
def mnO (nm : Nat → Int64) (am at_ aa : Int32) (nw : Nat → Int32) (d : Nat) : Prop := Int32.toInt64 am = nm 0 ∧ Int32.toInt64 (nw (2 + 3 * d)) = nm 1 ∧ Int32.toInt64 (nw (2 + 3 * d + 1)) = nm 2 ∧ Int32.toInt64 (nI d) = nm 3 ∧ Int32.toInt64 (nw 0) = nm 4 ∧ Int32.toInt64 at_ = nm 5 ∧ Int32.toInt64 aa = nm 6
theorem mn_k {k j : Nat} (h : nI k = nI j) (hk : k < 7) (hj : j < 2147483648) : k = j := (neq _ _ (by omega) hj).mp h
theorem mn_x {k j : Nat} {P : Prop} (h : nI k = nI j) (hk : k < 7) (hj : j < 2147483648) (h7 : 7 ≤ j) : P := by
  have := mn_k h hk hj
  exact absurd h7 (by omega)
theorem mn_f {k : Nat} (hk : k < 7) (g0 : ¬ nI k = 0) (g1 : ¬ nI k = 1) (g2 : ¬ nI k = 2) (g3 : ¬ nI k = 3) (g4 : ¬ nI k = 4) (g5 : ¬ nI k = 5) (g6 : ¬ nI k = 6) : False := by
  rcases (show k = 0 ∨ k = 1 ∨ k = 2 ∨ k = 3 ∨ k = 4 ∨ k = 5 ∨ k = 6 by omega) with rfl | rfl | rfl | rfl | rfl | rfl | rfl
  · exact g0 rfl
  · exact g1 rfl
  · exact g2 rfl
  · exact g3 rfl
  · exact g4 rfl
  · exact g5 rfl
  · exact g6 rfl
/-! the two counts are one -/
theorem sm_S (f : Nat → Nat) : ∀ n, sm f n = kcS f n
  | 0 => rfl
  | n + 1 => by
    show sm f n + f n = kcS f n + f n
    rw [sm_S f n]
theorem bk_C (C : Nat → Nat → Nat → Bool) : ∀ j d m, bk C j d m = kcC C j (d + 1) m
  | 0, _, _ => rfl
  | j + 1, d, m => by
    show sm (fun k => if C (d + 1) m k then bk C j (d + 1) k else 0) 10 = kcS (fun k => if C (d + 1) m k = true then kcC C j (d + 1 + 1) k else 0) 10
    rw [sm_S]
    exact kcS_cg 10 (fun k _ => by rw [bk_C C j (d + 1) k])
theorem bfo_B (C : Nat → Nat → Nat → Bool) (a0 : Nat) : ∀ d m, bfo C a0 d m = kcB C a0 d m
  | 0, _ => rfl
  | d + 1, m => by
    show sm (fun a => if C (d + 1) a m then bfo C a0 d a else 0) 10 = kcS (fun a => if C (d + 1) a m = true then kcB C a0 d a else 0) 10
    rw [sm_S]
    exact kcS_cg 10 (fun a _ => by rw [bfo_B C a0 d a])
theorem wys_C (C : Nat → Nat → Nat → Bool) (a0 : Nat) {n : Nat} (h : 1 ≤ n) : wys C a0 (n - 1) = kcC C n 0 a0 := by
  unfold wys
  rw [sm_S, kcS_cg (g := kcB C a0 (n - 1)) 10 (fun m _ => bfo_B C a0 (n - 1) m), kcB_all, show n - 1 + 1 = n by omega]
theorem gA_W (C : Nat → Nat → Nat → Bool) (n d a m : Nat) : gA C n d a m = kcW C n d a m := by
  unfold gA kcW
  rw [bk_C, show n - 1 - d = n - (d + 1) by omega]
set_option maxHeartbeats 4000000 in
set_option maxRecDepth 100000 in
theorem c_nm_byTen (l : Launch) (D : va_G) (cI cJ cC cZ cS : ClassId) (x : Int64)  : skM l yX12_byTen cX12_byTen 2 (some .int) 0 0 0 0 D (skT cI cJ cC cZ cS) [.long x] [] (skI D (skT cI cJ cC cZ cS) (fun (r : Int32) (u : va_W) => r = nI (kcTen x) ∧ u = [])) := by
  refine skM_of (by decide +kernel) (Nat.le_of_ble_eq_true rfl) ?_
  intro p e s m below meth c A ls E hP hD hl
  obtain ⟨hx, hb, hr, hml, hlocks, hin, hown, hts, hK, hA⟩ := E
  have hown : s.vm.findClass RX12 = some m.cls := hown
  have hS : va_S A s.heap s.heap [] := va_S.rf
  have hl : lv_has ls 2 [(0, .long x)] := hl
  refine lv_lload_n hx hb dX12_byTen_0 rfl (lv_at hl 0 rfl) ?_
  refine lv_ldc2 (v := 10) hx hb hown (hts _ w_7_171) dX12_byTen_1 ?_
  refine lv_lrem hx hb dX12_byTen_4 (by decide) ?_
  refine lv_topl (fun v_1 ev_1 => ?_)
  refine lv_ldc2 (v := 10) hx hb hown (hts _ w_7_171) dX12_byTen_5 ?_
  refine lv_ladd hx hb dX12_byTen_8 ?_
  refine lv_topl (fun v_2 ev_2 => ?_)
  refine lv_ldc2 (v := 10) hx hb hown (hts _ w_7_171) dX12_byTen_9 ?_
  refine lv_lrem hx hb dX12_byTen_12 (by decide) ?_
  refine lv_topl (fun v_3 ev_3 => ?_)
  refine lv_l2i hx hb dX12_byTen_13 rfl ?_
  refine sk_top (nI (kcTen x)) (kbt ev_1 ev_2 ev_3) ?_
  exact sk_iret hx hb hr rfl hlocks hK hP hD hS (⟨rfl, rfl⟩) (Nat.le_of_ble_eq_true rfl) (Nat.le_of_ble_eq_true rfl) dX12_byTen_14
set_option maxHeartbeats 4000000 in
set_option maxRecDepth 100000 in
theorem c_nm_qClip (l : Launch) (D : va_G) (cI cJ cC cZ cS : ClassId) (x : Int64)  : skM l yX12_qClip cX12_qClip 2 (some .long) 0 0 0 0 D (skT cI cJ cC cZ cS) [.long x] [] (skL D (skT cI cJ cC cZ cS) (fun (r : Int64) (u : va_W) => r = kcClip x ∧ u = [])) := by
  refine skM_of (by decide +kernel) (Nat.le_of_ble_eq_true rfl) ?_
  intro p e s m below meth c A ls E hP hD hl
  obtain ⟨hx, hb, hr, hml, hlocks, hin, hown, hts, hK, hA⟩ := E
  have hown : s.vm.findClass RX12 = some m.cls := hown
  have hS : va_S A s.heap s.heap [] := va_S.rf
  have hl : lv_has ls 2 [(0, .long x)] := hl
  refine lv_lload_n hx hb dX12_qClip_0 rfl (lv_at hl 0 rfl) ?_
  refine lv_ldc2 (v := 1000000) hx hb hown (hts _ w_7_163) dX12_qClip_1 ?_
  refine W.lcmp hx hb dX12_qClip_4 ?_
  refine lv_if_le (tgt := 14) hx hb dX12_qClip_5 (by decide) (fun c_1 => ?_) (fun c_1 => ?_)
  · skip
    refine lv_lload_n hx hb dX12_qClip_14 rfl (lv_at hl 0 rfl) ?_
    refine lv_ldc2 (v := (-1000000)) hx hb hown (hts _ w_7_164) dX12_qClip_15 ?_
    refine W.lcmp hx hb dX12_qClip_18 ?_
    refine lv_if_ge (tgt := 28) hx hb dX12_qClip_19 (by decide) (fun c_2 => ?_) (fun c_2 => ?_)
    · skip
      refine lv_lload_n hx hb dX12_qClip_28 rfl (lv_at hl 0 rfl) ?_
      exact sk_lret hx hb hr hlocks hK hP hD hS (⟨kclip_c c_1 c_2, rfl⟩) (Nat.le_of_ble_eq_true rfl) (Nat.le_of_ble_eq_true rfl) dX12_qClip_29
    · skip
      refine lv_ldc2 (v := (-1000000)) hx hb hown (hts _ w_7_164) dX12_qClip_22 ?_
      refine lv_goto (tgt := 29) hx hb dX12_qClip_25 (by decide) ?_
      exact sk_lret hx hb hr hlocks hK hP hD hS (⟨kclip_b c_1 c_2, rfl⟩) (Nat.le_of_ble_eq_true rfl) (Nat.le_of_ble_eq_true rfl) dX12_qClip_29
  · skip
    refine lv_ldc2 (v := 1000000) hx hb hown (hts _ w_7_163) dX12_qClip_8 ?_
    refine lv_goto (tgt := 29) hx hb dX12_qClip_11 (by decide) ?_
    exact sk_lret hx hb hr hlocks hK hP hD hS (⟨kclip_a c_1, rfl⟩) (Nat.le_of_ble_eq_true rfl) (Nat.le_of_ble_eq_true rfl) dX12_qClip_29
set_option maxHeartbeats 4000000 in
set_option maxRecDepth 100000 in
theorem c_nm_qFloor (l : Launch) (D : va_G) (cI cJ cC cZ cS : ClassId) (x : Int64) (y : Int64)  : skM l yX12_qFloor cX12_qFloor 6 (some .long) 0 0 0 0 D (skT cI cJ cC cZ cS) [.long x, .long y] [] (skL D (skT cI cJ cC cZ cS) (fun (r : Int64) (u : va_W) => r = kcFl x y ∧ u = [])) := by
  refine skM_of (by decide +kernel) (Nat.le_of_ble_eq_true rfl) ?_
  intro p e s m below meth c A ls E hP hD hl
  obtain ⟨hx, hb, hr, hml, hlocks, hin, hown, hts, hK, hA⟩ := E
  have hown : s.vm.findClass RX12 = some m.cls := hown
  have hS : va_S A s.heap s.heap [] := va_S.rf
  have hl : lv_has ls 6 [(0, .long x), (2, .long y)] := hl
  refine lv_lload_n hx hb dX12_qFloor_0 rfl (lv_at hl 1 rfl) ?_
  refine lv_lconst (v := 0) hx hb dX12_qFloor_1 (by decide) ?_
  refine W.lcmp hx hb dX12_qFloor_2 ?_
  refine lv_if_ne (tgt := 8) hx hb dX12_qFloor_3 (by decide) (fun c_1 => ?_) (fun c_1 => ?_)
  · skip
    refine lv_lload_n hx hb dX12_qFloor_8 rfl (lv_at hl 0 rfl) ?_
    refine lv_lload_n hx hb dX12_qFloor_9 rfl (lv_at hl 1 rfl) ?_
    refine lv_ldiv hx hb dX12_qFloor_10 (lg_ne0 c_1) ?_
    refine lv_lstore (lv' := [(4, .long (x / y)), (0, .long x), (2, .long y)]) hx hb dX12_qFloor_11 hl (by decide) rfl (fun ls hl => ?_)
    refine lv_lload_n hx hb dX12_qFloor_13 rfl (lv_at hl 1 rfl) ?_
    refine lv_lload_n hx hb dX12_qFloor_14 rfl (lv_at hl 2 rfl) ?_
    refine lv_lrem hx hb dX12_qFloor_15 (lg_ne0 c_1) ?_
    refine lv_lconst (v := 0) hx hb dX12_qFloor_16 (by decide) ?_
    refine W.lcmp hx hb dX12_qFloor_17 ?_
    refine lv_if_eq (tgt := 53) hx hb dX12_qFloor_18 (by decide) (fun c_2 => ?_) (fun c_2 => ?_)
    · skip
      refine lv_lload hx hb dX12_qFloor_53 (lv_at hl 0 rfl) ?_
      exact sk_lret hx hb hr hlocks hK hP hD hS (⟨kflr_e (lg_ne0 c_1) c_2, rfl⟩) (Nat.le_of_ble_eq_true rfl) (Nat.le_of_ble_eq_true rfl) dX12_qFloor_55
    · skip
      refine lv_lload_n hx hb dX12_qFloor_21 rfl (lv_at hl 1 rfl) ?_
      refine lv_lconst (v := 0) hx hb dX12_qFloor_22 (by decide) ?_
      refine W.lcmp hx hb dX12_qFloor_23 ?_
      refine lv_if_ge (tgt := 31) hx hb dX12_qFloor_24 (by decide) (fun c_3 => ?_) (fun c_3 => ?_)
      · skip
        refine lv_iconst (v := 0) hx hb dX12_qFloor_31 (by decide) ?_
        refine lv_lload_n hx hb dX12_qFloor_32 rfl (lv_at hl 2 rfl) ?_
        refine lv_lconst (v := 0) hx hb dX12_qFloor_33 (by decide) ?_
        refine W.lcmp hx hb dX12_qFloor_34 ?_
        refine lv_if_ge (tgt := 42) hx hb dX12_qFloor_35 (by decide) (fun c_4 => ?_) (fun c_4 => ?_)
        · skip
          refine lv_iconst (v := 0) hx hb dX12_qFloor_42 (by decide) ?_
          refine lv_icmp_eq (tgt := 53) hx hb dX12_qFloor_43 (by decide) (fun c_5 => ?_) (fun c => absurd c (by decide))
          refine lv_lload hx hb dX12_qFloor_53 (lv_at hl 0 rfl) ?_
          exact sk_lret hx hb hr hlocks hK hP hD hS (⟨kflr_s (lg_ne0 c_1) ⟨fun q => absurd q (kge0 c_3), fun q => absurd q (kge0 c_4)⟩, rfl⟩) (Nat.le_of_ble_eq_true rfl) (Nat.le_of_ble_eq_true rfl) dX12_qFloor_55
        · skip
          refine lv_iconst (v := 1) hx hb dX12_qFloor_38 (by decide) ?_
          refine lv_goto (tgt := 43) hx hb dX12_qFloor_39 (by decide) ?_
          refine lv_icmp_eq (tgt := 53) hx hb dX12_qFloor_43 (by decide) (fun c => absurd c (by decide)) (fun c_6 => ?_)
          refine lv_lload hx hb dX12_qFloor_46 (lv_at hl 0 rfl) ?_
          refine lv_lconst (v := 1) hx hb dX12_qFloor_48 (by decide) ?_
          refine lv_lsub hx hb dX12_qFloor_49 ?_
          refine lv_goto (tgt := 55) hx hb dX12_qFloor_50 (by decide) ?_
          exact sk_lret hx hb hr hlocks hK hP hD hS (⟨kflr_d (lg_ne0 c_1) c_2 (fun q => absurd (q.mpr (klt0 c_4)) (kge0 c_3)), rfl⟩) (Nat.le_of_ble_eq_true rfl) (Nat.le_of_ble_eq_true rfl) dX12_qFloor_55
      · skip
        refine lv_iconst (v := 1) hx hb dX12_qFloor_27 (by decide) ?_
        refine lv_goto (tgt := 32) hx hb dX12_qFloor_28 (by decide) ?_
        refine lv_lload_n hx hb dX12_qFloor_32 rfl (lv_at hl 2 rfl) ?_
        refine lv_lconst (v := 0) hx hb dX12_qFloor_33 (by decide) ?_
        refine W.lcmp hx hb dX12_qFloor_34 ?_
        refine lv_if_ge (tgt := 42) hx hb dX12_qFloor_35 (by decide) (fun c_7 => ?_) (fun c_7 => ?_)
        · skip
          refine lv_iconst (v := 0) hx hb dX12_qFloor_42 (by decide) ?_
          refine lv_icmp_eq (tgt := 53) hx hb dX12_qFloor_43 (by decide) (fun c => absurd c (by decide)) (fun c_8 => ?_)
          refine lv_lload hx hb dX12_qFloor_46 (lv_at hl 0 rfl) ?_
          refine lv_lconst (v := 1) hx hb dX12_qFloor_48 (by decide) ?_
          refine lv_lsub hx hb dX12_qFloor_49 ?_
          refine lv_goto (tgt := 55) hx hb dX12_qFloor_50 (by decide) ?_
          exact sk_lret hx hb hr hlocks hK hP hD hS (⟨kflr_d (lg_ne0 c_1) c_2 (fun q => absurd (q.mp (klt0 c_3)) (kge0 c_7)), rfl⟩) (Nat.le_of_ble_eq_true rfl) (Nat.le_of_ble_eq_true rfl) dX12_qFloor_55
        · skip
          refine lv_iconst (v := 1) hx hb dX12_qFloor_38 (by decide) ?_
          refine lv_goto (tgt := 43) hx hb dX12_qFloor_39 (by decide) ?_
          refine lv_icmp_eq (tgt := 53) hx hb dX12_qFloor_43 (by decide) (fun c_9 => ?_) (fun c => absurd c (by decide))
          refine lv_lload hx hb dX12_qFloor_53 (lv_at hl 0 rfl) ?_
          exact sk_lret hx hb hr hlocks hK hP hD hS (⟨kflr_s (lg_ne0 c_1) ⟨fun _ => (klt0 c_7), fun _ => (klt0 c_3)⟩, rfl⟩) (Nat.le_of_ble_eq_true rfl) (Nat.le_of_ble_eq_true rfl) dX12_qFloor_55
  · skip
    refine lv_lconst (v := 0) hx hb dX12_qFloor_6 (by decide) ?_
    exact sk_lret hx hb hr hlocks hK hP hD hS (⟨kfl_0 ((lg_cmp_eq _ _).mp c_1), rfl⟩) (Nat.le_of_ble_eq_true rfl) (Nat.le_of_ble_eq_true rfl) dX12_qFloor_7
set_option maxHeartbeats 4000000 in
set_option maxRecDepth 100000 in
theorem c_nm_qPuts (l : Launch) (D : va_G) (cI cJ cC cZ cS : ClassId) (mm : Nat) (g : Nat → Nat) (ta : Nat) (pa : Nat) (pe : Nat) (pd : Int32) (pb : Nat) (pp : Int32) (pf : Int32) (pg : Int32) (pn : Int32) (rt : Int32) (rn : Int32) (cd : Nat) (sn : Int32) (il : Nat) (tk : Int32) (am : Int32) (at_ : Int32) (aa : Int32) (mt_ : Int32) (wt : Int32) (wy : Int64) (it_ : Nat) (rm : Nat) (ud : Nat) (nu : Nat) (sd : Int64) (qn : Nat) (qw : Nat) (qo : Int32) (qb : Nat) (qp : Nat) (qa : Int64) (qi : Nat) (oc : Nat) (x : Int64) (ql : Nat → Int64) (hqp : qp < 1700) : skM l yX12_qPuts cX12_qPuts 3 none 0 0 0 0 D (skT cI cJ cC cZ cS) [.ref mm, .long x] [(mm, .inr (12, mo g (nI ta) (nI pa) (nI pe) pd (nI pb) pp pf pg pn rt rn (nI cd) sn (nI il) tk am at_ aa mt_ 0 (-1) wt wy (nI it_) (nI rm) (nI ud) (nI nu) sd (nI qn) (nI qw) qo (nI qb) (nI qp) qa (nI qi) (nI oc))), (g 86, .inl (cJ, 1700, .inr (.inl ql)))] (skV D (skT cI cJ cC cZ cS) (fun (u : va_W) => ∃ (ql2 : Nat → Int64), ql2 = vp_updL ql qp x ∧ u = [(mm, .inr (12, mo g (nI ta) (nI pa) (nI pe) pd (nI pb) pp pf pg pn rt rn (nI cd) sn (nI il) tk am at_ aa mt_ 0 (-1) wt wy (nI it_) (nI rm) (nI ud) (nI nu) sd (nI qn) (nI qw) qo (nI qb) (nI (qp + 1)) qa (nI qi) (nI oc))), (g 86, .inl (cJ, 1700, .inr (.inl ql2)))])) := by
  refine skM_of (by decide +kernel) (Nat.le_of_ble_eq_true rfl) ?_
  intro p e s m below meth c A ls E hP hD hl
  obtain ⟨hx, hb, hr, hml, hlocks, hin, hown, hts, hK, hA⟩ := E
  have hown : s.vm.findClass RX12 = some m.cls := hown
  have hS : va_S A s.heap s.heap [] := va_S.rf
  have hl : lv_has ls 3 [(0, .ref mm), (1, .long x)] := hl
  refine lv_aload_n hx hb dX12_qPuts_0 rfl (lv_at hl 0 rfl) ?_
  refine sk_get (v := .ref (g 86)) (C := RX12) (T := TX12) (N := 92) hx hb hts inlX12 hown hK hP 0 rfl rfl 86 (by decide) w_6_1 rfl dX12_qPuts_1 ?_
  refine lv_aload_n hx hb dX12_qPuts_4 rfl (lv_at hl 0 rfl) ?_
  refine sk_get (v := .int (nI qp)) (C := RX12) (T := TX12) (N := 92) hx hb hts inlX12 hown hK hP 0 rfl rfl 87 (by decide) w_6_2 rfl dX12_qPuts_5 ?_
  refine lv_lload_n hx hb dX12_qPuts_8 rfl (lv_at hl 1 rfl) ?_
  refine sk_lastE (k := qp) (ws' := fun f_1 => [(mm, .inr (12, mo g (nI ta) (nI pa) (nI pe) pd (nI pb) pp pf pg pn rt rn (nI cd) sn (nI il) tk am at_ aa mt_ 0 (-1) wt wy (nI it_) (nI rm) (nI ud) (nI nu) sd (nI qn) (nI qw) qo (nI qb) (nI qp) qa (nI qi) (nI oc))), (g 86, .inl (cJ, 1700, .inr (.inl f_1)))]) hx hb hK hP hD hS 1 1 rfl rfl (by omega) (by omega) (fun _ => rfl) dX12_qPuts_9 (fun f_1 H locs ef_2 hP hD hS => ?_)
  refine lv_aload_n hx hb dX12_qPuts_10 rfl (lv_at hl 0 rfl) ?_
  refine lv_dup hx hb dX12_qPuts_11 rfl ?_
  refine sk_get (v := .int (nI qp)) (C := RX12) (T := TX12) (N := 92) hx hb hts inlX12 hown hK hP 0 rfl rfl 87 (by decide) w_6_2 rfl dX12_qPuts_12 ?_
  refine lv_iconst (v := 1) hx hb dX12_qPuts_15 (by decide) ?_
  refine lv_iadd hx hb dX12_qPuts_16 ?_
  refine sk_top (nI (qp + 1)) (nI_add qp 1) ?_
  refine sk_put (ws' := [(mm, .inr (12, mo g (nI ta) (nI pa) (nI pe) pd (nI pb) pp pf pg pn rt rn (nI cd) sn (nI il) tk am at_ aa mt_ 0 (-1) wt wy (nI it_) (nI rm) (nI ud) (nI nu) sd (nI qn) (nI qw) qo (nI qb) (nI (qp + 1)) qa (nI qi) (nI oc))), (g 86, .inl (cJ, 1700, .inr (.inl f_1)))]) (C := RX12) (T := TX12) (N := 92) (v := .int (nI (qp + 1))) hx hb hts inlX12 tyX12 tyX12_ok nmX12 hown hK hP hD hS 0 rfl rfl 87 (by decide) w_6_2 rfl rfl rfl (Nat.le_of_ble_eq_true rfl) rfl dX12_qPuts_17 (fun H locs hP hD hS => ?_)
  exact sk_vret hx hb hr hlocks hK hP hD hS (⟨f_1, ef_2, rfl⟩) (Nat.le_of_ble_eq_true rfl) (Nat.le_of_ble_eq_true rfl) dX12_qPuts_20
set_option maxHeartbeats 4000000 in
set_option maxRecDepth 100000 in
theorem c_nm_qJoins (l : Launch) (D : va_G) (cI cJ cC cZ cS : ClassId) (mm : Nat) (g : Nat → Nat) (ta : Nat) (pa : Nat) (pe : Nat) (pd : Int32) (pb : Nat) (pp : Int32) (pf : Int32) (pg : Int32) (pn : Int32) (rt : Int32) (rn : Int32) (cd : Nat) (sn : Int32) (il : Nat) (tk : Int32) (am : Int32) (at_ : Int32) (aa : Int32) (mt_ : Int32) (wt : Int32) (wy : Int64) (it_ : Nat) (rm : Nat) (ud : Nat) (nu : Nat) (sd : Int64) (qn : Nat) (qw : Nat) (qo : Int32) (qb : Nat) (qp : Nat) (qa : Int64) (qi : Nat) (oc : Nat) (jop : Nat) (ql : Nat → Int64) (a1 : Int64) (b1 : Int64) (R1 : List Int64) (hc1 : 1 ≤ jop) (hc6 : jop ≤ 6) (hst : stkO ql (b1 :: a1 :: R1)) (hqp2 : qp = R1.length + 2) (hqp : qp ≤ 1700) : skM l yX12_qJoins cX12_qJoins 6 none 1 25 0 0 D (skT cI cJ cC cZ cS) [.ref mm, .int (nI jop)] [(mm, .inr (12, mo g (nI ta) (nI pa) (nI pe) pd (nI pb) pp pf pg pn rt rn (nI cd) sn (nI il) tk am at_ aa mt_ 0 (-1) wt wy (nI it_) (nI rm) (nI ud) (nI nu) sd (nI qn) (nI qw) qo (nI qb) (nI qp) qa (nI qi) (nI oc))), (g 86, .inl (cJ, 1700, .inr (.inl ql)))] (skV D (skT cI cJ cC cZ cS) (fun (u : va_W) => ∃ (ql2 : Nat → Int64), stkO ql2 (kcOp jop a1 b1 :: R1) ∧ u = [(mm, .inr (12, mo g (nI ta) (nI pa) (nI pe) pd (nI pb) pp pf pg pn rt rn (nI cd) sn (nI il) tk am at_ aa mt_ 0 (-1) wt wy (nI it_) (nI rm) (nI ud) (nI nu) sd (nI qn) (nI qw) qo (nI qb) (nI (qp - 2 + 1)) qa (nI qi) (nI oc))), (g 86, .inl (cJ, 1700, .inr (.inl ql2)))])) := by
  refine skM_of (by decide +kernel) (Nat.le_of_ble_eq_true rfl) ?_
  intro p e s m below meth c A ls E hP hD hl
  obtain ⟨hx, hb, hr, hml, hlocks, hin, hown, hts, hK, hA⟩ := E
  have hown : s.vm.findClass RX12 = some m.cls := hown
  have hS : va_S A s.heap s.heap [] := va_S.rf
  have hl : lv_has ls 6 [(0, .ref mm), (1, .int (nI jop))] := hl
  refine lv_aload_n hx hb dX12_qJoins_0 rfl (lv_at hl 0 rfl) ?_
  refine sk_get (v := .ref (g 86)) (C := RX12) (T := TX12) (N := 92) hx hb hts inlX12 hown hK hP 0 rfl rfl 86 (by decide) w_6_1 rfl dX12_qJoins_1 ?_
  refine lv_aload_n hx hb dX12_qJoins_4 rfl (lv_at hl 0 rfl) ?_
  refine sk_get (v := .int (nI qp)) (C := RX12) (T := TX12) (N := 92) hx hb hts inlX12 hown hK hP 0 rfl rfl 87 (by decide) w_6_2 rfl dX12_qJoins_5 ?_
  refine lv_iconst (v := 1) hx hb dX12_qJoins_8 (by decide) ?_
  refine lv_isub hx hb dX12_qJoins_9 ?_
  refine sk_top (nI (qp - 1)) (nsub qp 1 (by omega)) ?_
  refine va_lald hx hb hK.1 hP 1 1 rfl rfl (vin (qp - 1) 1700 (by omega) (by omega)) dX12_qJoins_10 ?_
  refine sk_topl b1 (stk_b hst (by omega) (by omega)) ?_
  refine lv_lstore_n (lv' := [(2, .long b1), (0, .ref mm), (1, .int (nI jop))]) hx hb dX12_qJoins_11 rfl hl (by decide) rfl (fun ls hl => ?_)
  refine lv_aload_n hx hb dX12_qJoins_12 rfl (lv_at hl 1 rfl) ?_
  refine sk_get (v := .ref (g 86)) (C := RX12) (T := TX12) (N := 92) hx hb hts inlX12 hown hK hP 0 rfl rfl 86 (by decide) w_6_1 rfl dX12_qJoins_13 ?_
  refine lv_aload_n hx hb dX12_qJoins_16 rfl (lv_at hl 1 rfl) ?_
  refine sk_get (v := .int (nI qp)) (C := RX12) (T := TX12) (N := 92) hx hb hts inlX12 hown hK hP 0 rfl rfl 87 (by decide) w_6_2 rfl dX12_qJoins_17 ?_
  refine lv_iconst (v := 2) hx hb dX12_qJoins_20 (by decide) ?_
  refine lv_isub hx hb dX12_qJoins_21 ?_
  refine sk_top (nI (qp - 2)) (nsub qp 2 (by omega)) ?_
  refine va_lald hx hb hK.1 hP 1 1 rfl rfl (vin (qp - 2) 1700 (by omega) (by omega)) dX12_qJoins_22 ?_
  refine sk_topl a1 (stk_a hst (by omega) (by omega)) ?_
  refine lv_lstore (lv' := [(4, .long a1), (2, .long b1), (0, .ref mm), (1, .int (nI jop))]) hx hb dX12_qJoins_23 hl (by decide) rfl (fun ls hl => ?_)
  refine lv_aload_n hx hb dX12_qJoins_25 rfl (lv_at hl 2 rfl) ?_
  refine lv_dup hx hb dX12_qJoins_26 rfl ?_
  refine sk_get (v := .int (nI qp)) (C := RX12) (T := TX12) (N := 92) hx hb hts inlX12 hown hK hP 0 rfl rfl 87 (by decide) w_6_2 rfl dX12_qJoins_27 ?_
  refine lv_iconst (v := 2) hx hb dX12_qJoins_30 (by decide) ?_
  refine lv_isub hx hb dX12_qJoins_31 ?_
  refine sk_top (nI (qp - 2)) (nsub qp 2 (by omega)) ?_
  refine sk_put (ws' := [(mm, .inr (12, mo g (nI ta) (nI pa) (nI pe) pd (nI pb) pp pf pg pn rt rn (nI cd) sn (nI il) tk am at_ aa mt_ 0 (-1) wt wy (nI it_) (nI rm) (nI ud) (nI nu) sd (nI qn) (nI qw) qo (nI qb) (nI (qp - 2)) qa (nI qi) (nI oc))), (g 86, .inl (cJ, 1700, .inr (.inl ql)))]) (C := RX12) (T := TX12) (N := 92) (v := .int (nI (qp - 2))) hx hb hts inlX12 tyX12 tyX12_ok nmX12 hown hK hP hD hS 0 rfl rfl 87 (by decide) w_6_2 rfl rfl rfl (Nat.le_of_ble_eq_true rfl) rfl dX12_qJoins_32 (fun H locs hP hD hS => ?_)
  refine lv_iload_n hx hb dX12_qJoins_35 rfl (lv_at hl 3 rfl) ?_
  by_cases g_1 : nI jop = 1
  · refine lv_tableIn (off := 56) (tgt := 92) hx hb dX12_qJoins_36 (by rw [g_1]; decide) (by rw [g_1]; decide) (by rw [g_1]; rfl) (by decide) ?_
    refine lv_aload_n hx hb dX12_qJoins_92 rfl (lv_at hl 2 rfl) ?_
    refine lv_lload hx hb dX12_qJoins_93 (lv_at hl 0 rfl) ?_
    refine lv_lload_n hx hb dX12_qJoins_95 rfl (lv_at hl 1 rfl) ?_
    refine lv_ladd hx hb dX12_qJoins_96 ?_
    refine sk_Sl (n := 1) (rest := [.ref mm]) (wr := [(mm, .inr (12, mo g (nI ta) (nI pa) (nI pe) pd (nI pb) pp pf pg pn rt rn (nI cd) sn (nI il) tk am at_ aa mt_ 0 (-1) wt wy (nI it_) (nI rm) (nI ud) (nI nu) sd (nI qn) (nI qw) qo (nI qb) (nI (qp - 2)) qa (nI qi) (nI oc))), (g 86, .inl (cJ, 1700, .inr (.inl ql)))]) ⟨hx, hb, hml, hown, hts⟩ hl.1 (c_nm_qClip l D cI cJ cC cZ cS (a1 + b1)) w_7_160 w_7_161 w_1_14 w_7_162 (by decide +kernel) ⟨⟨(Nat.le_of_ble_eq_true rfl), (Nat.le_of_ble_eq_true rfl)⟩, (Nat.le_of_ble_eq_true rfl), (Nat.le_of_ble_eq_true rfl)⟩ hK hP hD hS hA [] [0, 1] rfl rfl (by decide +kernel) (by decide +kernel) (by decide +kernel) rfl rfl (Nat.le_of_ble_eq_true rfl) dX12_qJoins_97 (fun r_2 u H locs hw hP hD hS => ?_)
    obtain ⟨hr_3, rfl⟩ := hw
    have hP : va_P D vwCl [(mm, .inr (12, mo g (nI ta) (nI pa) (nI pe) pd (nI pb) pp pf pg pn rt rn (nI cd) sn (nI il) tk am at_ aa mt_ 0 (-1) wt wy (nI it_) (nI rm) (nI ud) (nI nu) sd (nI qn) (nI qw) qo (nI qb) (nI (qp - 2)) qa (nI qi) (nI oc))), (g 86, .inl (cJ, 1700, .inr (.inl ql)))] H := hP
    have hD : va_D A [(mm, .inr (12, mo g (nI ta) (nI pa) (nI pe) pd (nI pb) pp pf pg pn rt rn (nI cd) sn (nI il) tk am at_ aa mt_ 0 (-1) wt wy (nI it_) (nI rm) (nI ud) (nI nu) sd (nI qn) (nI qw) qo (nI qb) (nI (qp - 2)) qa (nI qi) (nI oc))), (g 86, .inl (cJ, 1700, .inr (.inl ql)))] := hD
    subst hr_3
    refine sk_Vv (q0 := 0) (n := 1) (rest := []) (wr := []) ⟨hx, hb, hml, hown, hts⟩ hl.1 (c_nm_qPuts l D cI cJ cC cZ cS mm g ta pa pe pd pb pp pf pg pn rt rn cd sn il tk am at_ aa mt_ wt wy it_ rm ud nu sd qn qw qo qb (qp - 2) qa qi oc (kcClip (a1 + b1)) ql (by omega)) w_7_139 w_7_141 w_0_76 w_1_14 w_7_142 (by decide +kernel) ⟨⟨(Nat.le_of_ble_eq_true rfl), (Nat.le_of_ble_eq_true rfl)⟩, (Nat.le_of_ble_eq_true rfl), (Nat.le_of_ble_eq_true rfl)⟩ hK hP hD hS hA [0, 1] [] rfl rfl (by decide +kernel) (by decide +kernel) (by decide +kernel) rfl rfl rfl rfl (Nat.le_of_ble_eq_true rfl) dX12_qJoins_100 (fun u H locs hw hP hD hS => ?_)
    obtain ⟨ql2_4, hql_5, rfl⟩ := hw
    have hP : va_P D vwCl [(mm, .inr (12, mo g (nI ta) (nI pa) (nI pe) pd (nI pb) pp pf pg pn rt rn (nI cd) sn (nI il) tk am at_ aa mt_ 0 (-1) wt wy (nI it_) (nI rm) (nI ud) (nI nu) sd (nI qn) (nI qw) qo (nI qb) (nI ((qp - 2) + 1)) qa (nI qi) (nI oc))), (g 86, .inl (cJ, 1700, .inr (.inl ql2_4)))] H := hP
    have hD : va_D A [(mm, .inr (12, mo g (nI ta) (nI pa) (nI pe) pd (nI pb) pp pf pg pn rt rn (nI cd) sn (nI il) tk am at_ aa mt_ 0 (-1) wt wy (nI it_) (nI rm) (nI ud) (nI nu) sd (nI qn) (nI qw) qo (nI qb) (nI ((qp - 2) + 1)) qa (nI qi) (nI oc))), (g 86, .inl (cJ, 1700, .inr (.inl ql2_4)))] := hD
    refine lv_goto (tgt := 273) hx hb dX12_qJoins_103 (by decide) ?_
    exact sk_vret hx hb hr hlocks hK hP hD hS (⟨ql2_4, stk_push hst.2.2 (by omega) hql_5 (by obtain rfl := kjo_c (k := 1) g_1 hc6 (by decide); exact kop_1 (c := 1) (by decide) (by decide)), rfl⟩) (Nat.le_of_ble_eq_true rfl) (Nat.le_of_ble_eq_true rfl) dX12_qJoins_273
  by_cases g_6 : nI jop = 2
  · refine lv_tableIn (off := 70) (tgt := 106) hx hb dX12_qJoins_36 (by rw [g_6]; decide) (by rw [g_6]; decide) (by rw [g_6]; rfl) (by decide) ?_
    refine lv_aload_n hx hb dX12_qJoins_106 rfl (lv_at hl 2 rfl) ?_
    refine lv_lload hx hb dX12_qJoins_107 (lv_at hl 0 rfl) ?_
    refine lv_lload_n hx hb dX12_qJoins_109 rfl (lv_at hl 1 rfl) ?_
    refine lv_lsub hx hb dX12_qJoins_110 ?_
    refine sk_Sl (n := 1) (rest := [.ref mm]) (wr := [(mm, .inr (12, mo g (nI ta) (nI pa) (nI pe) pd (nI pb) pp pf pg pn rt rn (nI cd) sn (nI il) tk am at_ aa mt_ 0 (-1) wt wy (nI it_) (nI rm) (nI ud) (nI nu) sd (nI qn) (nI qw) qo (nI qb) (nI (qp - 2)) qa (nI qi) (nI oc))), (g 86, .inl (cJ, 1700, .inr (.inl ql)))]) ⟨hx, hb, hml, hown, hts⟩ hl.1 (c_nm_qClip l D cI cJ cC cZ cS (a1 - b1)) w_7_160 w_7_161 w_1_14 w_7_162 (by decide +kernel) ⟨⟨(Nat.le_of_ble_eq_true rfl), (Nat.le_of_ble_eq_true rfl)⟩, (Nat.le_of_ble_eq_true rfl), (Nat.le_of_ble_eq_true rfl)⟩ hK hP hD hS hA [] [0, 1] rfl rfl (by decide +kernel) (by decide +kernel) (by decide +kernel) rfl rfl (Nat.le_of_ble_eq_true rfl) dX12_qJoins_111 (fun r_7 u H locs hw hP hD hS => ?_)
    obtain ⟨hr_8, rfl⟩ := hw
    have hP : va_P D vwCl [(mm, .inr (12, mo g (nI ta) (nI pa) (nI pe) pd (nI pb) pp pf pg pn rt rn (nI cd) sn (nI il) tk am at_ aa mt_ 0 (-1) wt wy (nI it_) (nI rm) (nI ud) (nI nu) sd (nI qn) (nI qw) qo (nI qb) (nI (qp - 2)) qa (nI qi) (nI oc))), (g 86, .inl (cJ, 1700, .inr (.inl ql)))] H := hP
    have hD : va_D A [(mm, .inr (12, mo g (nI ta) (nI pa) (nI pe) pd (nI pb) pp pf pg pn rt rn (nI cd) sn (nI il) tk am at_ aa mt_ 0 (-1) wt wy (nI it_) (nI rm) (nI ud) (nI nu) sd (nI qn) (nI qw) qo (nI qb) (nI (qp - 2)) qa (nI qi) (nI oc))), (g 86, .inl (cJ, 1700, .inr (.inl ql)))] := hD
    subst hr_8
    refine sk_Vv (q0 := 0) (n := 1) (rest := []) (wr := []) ⟨hx, hb, hml, hown, hts⟩ hl.1 (c_nm_qPuts l D cI cJ cC cZ cS mm g ta pa pe pd pb pp pf pg pn rt rn cd sn il tk am at_ aa mt_ wt wy it_ rm ud nu sd qn qw qo qb (qp - 2) qa qi oc (kcClip (a1 - b1)) ql (by omega)) w_7_139 w_7_141 w_0_76 w_1_14 w_7_142 (by decide +kernel) ⟨⟨(Nat.le_of_ble_eq_true rfl), (Nat.le_of_ble_eq_true rfl)⟩, (Nat.le_of_ble_eq_true rfl), (Nat.le_of_ble_eq_true rfl)⟩ hK hP hD hS hA [0, 1] [] rfl rfl (by decide +kernel) (by decide +kernel) (by decide +kernel) rfl rfl rfl rfl (Nat.le_of_ble_eq_true rfl) dX12_qJoins_114 (fun u H locs hw hP hD hS => ?_)
    obtain ⟨ql2_9, hql_10, rfl⟩ := hw
    have hP : va_P D vwCl [(mm, .inr (12, mo g (nI ta) (nI pa) (nI pe) pd (nI pb) pp pf pg pn rt rn (nI cd) sn (nI il) tk am at_ aa mt_ 0 (-1) wt wy (nI it_) (nI rm) (nI ud) (nI nu) sd (nI qn) (nI qw) qo (nI qb) (nI ((qp - 2) + 1)) qa (nI qi) (nI oc))), (g 86, .inl (cJ, 1700, .inr (.inl ql2_9)))] H := hP
    have hD : va_D A [(mm, .inr (12, mo g (nI ta) (nI pa) (nI pe) pd (nI pb) pp pf pg pn rt rn (nI cd) sn (nI il) tk am at_ aa mt_ 0 (-1) wt wy (nI it_) (nI rm) (nI ud) (nI nu) sd (nI qn) (nI qw) qo (nI qb) (nI ((qp - 2) + 1)) qa (nI qi) (nI oc))), (g 86, .inl (cJ, 1700, .inr (.inl ql2_9)))] := hD
    refine lv_goto (tgt := 273) hx hb dX12_qJoins_117 (by decide) ?_
    exact sk_vret hx hb hr hlocks hK hP hD hS (⟨ql2_9, stk_push hst.2.2 (by omega) hql_10 (by obtain rfl := kjo_c (k := 2) g_6 hc6 (by decide); exact kop_2 (c := 2) (by decide) (by decide)), rfl⟩) (Nat.le_of_ble_eq_true rfl) (Nat.le_of_ble_eq_true rfl) dX12_qJoins_273
  by_cases g_11 : nI jop = 3
  · refine lv_tableIn (off := 84) (tgt := 120) hx hb dX12_qJoins_36 (by rw [g_11]; decide) (by rw [g_11]; decide) (by rw [g_11]; rfl) (by decide) ?_
    refine lv_aload_n hx hb dX12_qJoins_120 rfl (lv_at hl 2 rfl) ?_
    refine lv_lload hx hb dX12_qJoins_121 (lv_at hl 0 rfl) ?_
    refine lv_lload_n hx hb dX12_qJoins_123 rfl (lv_at hl 1 rfl) ?_
    refine lv_lmul hx hb dX12_qJoins_124 ?_
    refine sk_Sl (n := 1) (rest := [.ref mm]) (wr := [(mm, .inr (12, mo g (nI ta) (nI pa) (nI pe) pd (nI pb) pp pf pg pn rt rn (nI cd) sn (nI il) tk am at_ aa mt_ 0 (-1) wt wy (nI it_) (nI rm) (nI ud) (nI nu) sd (nI qn) (nI qw) qo (nI qb) (nI (qp - 2)) qa (nI qi) (nI oc))), (g 86, .inl (cJ, 1700, .inr (.inl ql)))]) ⟨hx, hb, hml, hown, hts⟩ hl.1 (c_nm_qClip l D cI cJ cC cZ cS (a1 * b1)) w_7_160 w_7_161 w_1_14 w_7_162 (by decide +kernel) ⟨⟨(Nat.le_of_ble_eq_true rfl), (Nat.le_of_ble_eq_true rfl)⟩, (Nat.le_of_ble_eq_true rfl), (Nat.le_of_ble_eq_true rfl)⟩ hK hP hD hS hA [] [0, 1] rfl rfl (by decide +kernel) (by decide +kernel) (by decide +kernel) rfl rfl (Nat.le_of_ble_eq_true rfl) dX12_qJoins_125 (fun r_12 u H locs hw hP hD hS => ?_)
    obtain ⟨hr_13, rfl⟩ := hw
    have hP : va_P D vwCl [(mm, .inr (12, mo g (nI ta) (nI pa) (nI pe) pd (nI pb) pp pf pg pn rt rn (nI cd) sn (nI il) tk am at_ aa mt_ 0 (-1) wt wy (nI it_) (nI rm) (nI ud) (nI nu) sd (nI qn) (nI qw) qo (nI qb) (nI (qp - 2)) qa (nI qi) (nI oc))), (g 86, .inl (cJ, 1700, .inr (.inl ql)))] H := hP
    have hD : va_D A [(mm, .inr (12, mo g (nI ta) (nI pa) (nI pe) pd (nI pb) pp pf pg pn rt rn (nI cd) sn (nI il) tk am at_ aa mt_ 0 (-1) wt wy (nI it_) (nI rm) (nI ud) (nI nu) sd (nI qn) (nI qw) qo (nI qb) (nI (qp - 2)) qa (nI qi) (nI oc))), (g 86, .inl (cJ, 1700, .inr (.inl ql)))] := hD
    subst hr_13
    refine sk_Vv (q0 := 0) (n := 1) (rest := []) (wr := []) ⟨hx, hb, hml, hown, hts⟩ hl.1 (c_nm_qPuts l D cI cJ cC cZ cS mm g ta pa pe pd pb pp pf pg pn rt rn cd sn il tk am at_ aa mt_ wt wy it_ rm ud nu sd qn qw qo qb (qp - 2) qa qi oc (kcClip (a1 * b1)) ql (by omega)) w_7_139 w_7_141 w_0_76 w_1_14 w_7_142 (by decide +kernel) ⟨⟨(Nat.le_of_ble_eq_true rfl), (Nat.le_of_ble_eq_true rfl)⟩, (Nat.le_of_ble_eq_true rfl), (Nat.le_of_ble_eq_true rfl)⟩ hK hP hD hS hA [0, 1] [] rfl rfl (by decide +kernel) (by decide +kernel) (by decide +kernel) rfl rfl rfl rfl (Nat.le_of_ble_eq_true rfl) dX12_qJoins_128 (fun u H locs hw hP hD hS => ?_)
    obtain ⟨ql2_14, hql_15, rfl⟩ := hw
    have hP : va_P D vwCl [(mm, .inr (12, mo g (nI ta) (nI pa) (nI pe) pd (nI pb) pp pf pg pn rt rn (nI cd) sn (nI il) tk am at_ aa mt_ 0 (-1) wt wy (nI it_) (nI rm) (nI ud) (nI nu) sd (nI qn) (nI qw) qo (nI qb) (nI ((qp - 2) + 1)) qa (nI qi) (nI oc))), (g 86, .inl (cJ, 1700, .inr (.inl ql2_14)))] H := hP
    have hD : va_D A [(mm, .inr (12, mo g (nI ta) (nI pa) (nI pe) pd (nI pb) pp pf pg pn rt rn (nI cd) sn (nI il) tk am at_ aa mt_ 0 (-1) wt wy (nI it_) (nI rm) (nI ud) (nI nu) sd (nI qn) (nI qw) qo (nI qb) (nI ((qp - 2) + 1)) qa (nI qi) (nI oc))), (g 86, .inl (cJ, 1700, .inr (.inl ql2_14)))] := hD
    refine lv_goto (tgt := 273) hx hb dX12_qJoins_131 (by decide) ?_
    exact sk_vret hx hb hr hlocks hK hP hD hS (⟨ql2_14, stk_push hst.2.2 (by omega) hql_15 (by obtain rfl := kjo_c (k := 3) g_11 hc6 (by decide); exact kop_3 (c := 3) (by decide) (by decide)), rfl⟩) (Nat.le_of_ble_eq_true rfl) (Nat.le_of_ble_eq_true rfl) dX12_qJoins_273
  by_cases g_16 : nI jop = 4
  · refine lv_tableIn (off := 98) (tgt := 134) hx hb dX12_qJoins_36 (by rw [g_16]; decide) (by rw [g_16]; decide) (by rw [g_16]; rfl) (by decide) ?_
    refine lv_aload_n hx hb dX12_qJoins_134 rfl (lv_at hl 2 rfl) ?_
    refine lv_lload hx hb dX12_qJoins_135 (lv_at hl 0 rfl) ?_
    refine lv_lload_n hx hb dX12_qJoins_137 rfl (lv_at hl 1 rfl) ?_
    refine sk_Sl (n := 2) (rest := [.ref mm]) (wr := [(mm, .inr (12, mo g (nI ta) (nI pa) (nI pe) pd (nI pb) pp pf pg pn rt rn (nI cd) sn (nI il) tk am at_ aa mt_ 0 (-1) wt wy (nI it_) (nI rm) (nI ud) (nI nu) sd (nI qn) (nI qw) qo (nI qb) (nI (qp - 2)) qa (nI qi) (nI oc))), (g 86, .inl (cJ, 1700, .inr (.inl ql)))]) ⟨hx, hb, hml, hown, hts⟩ hl.1 (c_nm_qFloor l D cI cJ cC cZ cS a1 b1) w_7_165 w_7_166 w_1_14 w_7_167 (by decide +kernel) ⟨⟨(Nat.le_of_ble_eq_true rfl), (Nat.le_of_ble_eq_true rfl)⟩, (Nat.le_of_ble_eq_true rfl), (Nat.le_of_ble_eq_true rfl)⟩ hK hP hD hS hA [] [0, 1] rfl rfl (by decide +kernel) (by decide +kernel) (by decide +kernel) rfl rfl (Nat.le_of_ble_eq_true rfl) dX12_qJoins_138 (fun r_17 u H locs hw hP hD hS => ?_)
    obtain ⟨hr_18, rfl⟩ := hw
    have hP : va_P D vwCl [(mm, .inr (12, mo g (nI ta) (nI pa) (nI pe) pd (nI pb) pp pf pg pn rt rn (nI cd) sn (nI il) tk am at_ aa mt_ 0 (-1) wt wy (nI it_) (nI rm) (nI ud) (nI nu) sd (nI qn) (nI qw) qo (nI qb) (nI (qp - 2)) qa (nI qi) (nI oc))), (g 86, .inl (cJ, 1700, .inr (.inl ql)))] H := hP
    have hD : va_D A [(mm, .inr (12, mo g (nI ta) (nI pa) (nI pe) pd (nI pb) pp pf pg pn rt rn (nI cd) sn (nI il) tk am at_ aa mt_ 0 (-1) wt wy (nI it_) (nI rm) (nI ud) (nI nu) sd (nI qn) (nI qw) qo (nI qb) (nI (qp - 2)) qa (nI qi) (nI oc))), (g 86, .inl (cJ, 1700, .inr (.inl ql)))] := hD
    subst hr_18
    refine sk_Vv (q0 := 0) (n := 1) (rest := []) (wr := []) ⟨hx, hb, hml, hown, hts⟩ hl.1 (c_nm_qPuts l D cI cJ cC cZ cS mm g ta pa pe pd pb pp pf pg pn rt rn cd sn il tk am at_ aa mt_ wt wy it_ rm ud nu sd qn qw qo qb (qp - 2) qa qi oc (kcFl a1 b1) ql (by omega)) w_7_139 w_7_141 w_0_76 w_1_14 w_7_142 (by decide +kernel) ⟨⟨(Nat.le_of_ble_eq_true rfl), (Nat.le_of_ble_eq_true rfl)⟩, (Nat.le_of_ble_eq_true rfl), (Nat.le_of_ble_eq_true rfl)⟩ hK hP hD hS hA [0, 1] [] rfl rfl (by decide +kernel) (by decide +kernel) (by decide +kernel) rfl rfl rfl rfl (Nat.le_of_ble_eq_true rfl) dX12_qJoins_141 (fun u H locs hw hP hD hS => ?_)
    obtain ⟨ql2_19, hql_20, rfl⟩ := hw
    have hP : va_P D vwCl [(mm, .inr (12, mo g (nI ta) (nI pa) (nI pe) pd (nI pb) pp pf pg pn rt rn (nI cd) sn (nI il) tk am at_ aa mt_ 0 (-1) wt wy (nI it_) (nI rm) (nI ud) (nI nu) sd (nI qn) (nI qw) qo (nI qb) (nI ((qp - 2) + 1)) qa (nI qi) (nI oc))), (g 86, .inl (cJ, 1700, .inr (.inl ql2_19)))] H := hP
    have hD : va_D A [(mm, .inr (12, mo g (nI ta) (nI pa) (nI pe) pd (nI pb) pp pf pg pn rt rn (nI cd) sn (nI il) tk am at_ aa mt_ 0 (-1) wt wy (nI it_) (nI rm) (nI ud) (nI nu) sd (nI qn) (nI qw) qo (nI qb) (nI ((qp - 2) + 1)) qa (nI qi) (nI oc))), (g 86, .inl (cJ, 1700, .inr (.inl ql2_19)))] := hD
    refine lv_goto (tgt := 273) hx hb dX12_qJoins_144 (by decide) ?_
    exact sk_vret hx hb hr hlocks hK hP hD hS (⟨ql2_19, stk_push hst.2.2 (by omega) hql_20 (by obtain rfl := kjo_c (k := 4) g_16 hc6 (by decide); exact kop_4 (c := 4) (by decide) (by decide) rfl), rfl⟩) (Nat.le_of_ble_eq_true rfl) (Nat.le_of_ble_eq_true rfl) dX12_qJoins_273
  by_cases g_21 : nI jop = 5
  · refine lv_tableIn (off := 111) (tgt := 147) hx hb dX12_qJoins_36 (by rw [g_21]; decide) (by rw [g_21]; decide) (by rw [g_21]; rfl) (by decide) ?_
    refine lv_aload_n hx hb dX12_qJoins_147 rfl (lv_at hl 2 rfl) ?_
    refine lv_lload hx hb dX12_qJoins_148 (lv_at hl 0 rfl) ?_
    refine lv_lload_n hx hb dX12_qJoins_150 rfl (lv_at hl 1 rfl) ?_
    refine W.lcmp hx hb dX12_qJoins_151 ?_
    refine lv_if_ge (tgt := 160) hx hb dX12_qJoins_152 (by decide) (fun c_22 => ?_) (fun c_22 => ?_)
    · skip
      refine lv_lload_n hx hb dX12_qJoins_160 rfl (lv_at hl 1 rfl) ?_
      refine sk_Vv (q0 := 0) (n := 1) (rest := []) (wr := []) ⟨hx, hb, hml, hown, hts⟩ hl.1 (c_nm_qPuts l D cI cJ cC cZ cS mm g ta pa pe pd pb pp pf pg pn rt rn cd sn il tk am at_ aa mt_ wt wy it_ rm ud nu sd qn qw qo qb (qp - 2) qa qi oc b1 ql (by omega)) w_7_139 w_7_141 w_0_76 w_1_14 w_7_142 (by decide +kernel) ⟨⟨(Nat.le_of_ble_eq_true rfl), (Nat.le_of_ble_eq_true rfl)⟩, (Nat.le_of_ble_eq_true rfl), (Nat.le_of_ble_eq_true rfl)⟩ hK hP hD hS hA [0, 1] [] rfl rfl (by decide +kernel) (by decide +kernel) (by decide +kernel) rfl rfl rfl rfl (Nat.le_of_ble_eq_true rfl) dX12_qJoins_161 (fun u H locs hw hP hD hS => ?_)
      obtain ⟨ql2_23, hql_24, rfl⟩ := hw
      have hP : va_P D vwCl [(mm, .inr (12, mo g (nI ta) (nI pa) (nI pe) pd (nI pb) pp pf pg pn rt rn (nI cd) sn (nI il) tk am at_ aa mt_ 0 (-1) wt wy (nI it_) (nI rm) (nI ud) (nI nu) sd (nI qn) (nI qw) qo (nI qb) (nI ((qp - 2) + 1)) qa (nI qi) (nI oc))), (g 86, .inl (cJ, 1700, .inr (.inl ql2_23)))] H := hP
      have hD : va_D A [(mm, .inr (12, mo g (nI ta) (nI pa) (nI pe) pd (nI pb) pp pf pg pn rt rn (nI cd) sn (nI il) tk am at_ aa mt_ 0 (-1) wt wy (nI it_) (nI rm) (nI ud) (nI nu) sd (nI qn) (nI qw) qo (nI qb) (nI ((qp - 2) + 1)) qa (nI qi) (nI oc))), (g 86, .inl (cJ, 1700, .inr (.inl ql2_23)))] := hD
      refine lv_goto (tgt := 273) hx hb dX12_qJoins_164 (by decide) ?_
      exact sk_vret hx hb hr hlocks hK hP hD hS (⟨ql2_23, stk_push hst.2.2 (by omega) hql_24 (by obtain rfl := kjo_c (k := 5) g_21 hc6 (by decide); exact kjo_min c_22), rfl⟩) (Nat.le_of_ble_eq_true rfl) (Nat.le_of_ble_eq_true rfl) dX12_qJoins_273
    · skip
      refine lv_lload hx hb dX12_qJoins_155 (lv_at hl 0 rfl) ?_
      refine lv_goto (tgt := 161) hx hb dX12_qJoins_157 (by decide) ?_
      refine sk_Vv (q0 := 0) (n := 1) (rest := []) (wr := []) ⟨hx, hb, hml, hown, hts⟩ hl.1 (c_nm_qPuts l D cI cJ cC cZ cS mm g ta pa pe pd pb pp pf pg pn rt rn cd sn il tk am at_ aa mt_ wt wy it_ rm ud nu sd qn qw qo qb (qp - 2) qa qi oc a1 ql (by omega)) w_7_139 w_7_141 w_0_76 w_1_14 w_7_142 (by decide +kernel) ⟨⟨(Nat.le_of_ble_eq_true rfl), (Nat.le_of_ble_eq_true rfl)⟩, (Nat.le_of_ble_eq_true rfl), (Nat.le_of_ble_eq_true rfl)⟩ hK hP hD hS hA [0, 1] [] rfl rfl (by decide +kernel) (by decide +kernel) (by decide +kernel) rfl rfl rfl rfl (Nat.le_of_ble_eq_true rfl) dX12_qJoins_161 (fun u H locs hw hP hD hS => ?_)
      obtain ⟨ql2_25, hql_26, rfl⟩ := hw
      have hP : va_P D vwCl [(mm, .inr (12, mo g (nI ta) (nI pa) (nI pe) pd (nI pb) pp pf pg pn rt rn (nI cd) sn (nI il) tk am at_ aa mt_ 0 (-1) wt wy (nI it_) (nI rm) (nI ud) (nI nu) sd (nI qn) (nI qw) qo (nI qb) (nI ((qp - 2) + 1)) qa (nI qi) (nI oc))), (g 86, .inl (cJ, 1700, .inr (.inl ql2_25)))] H := hP
      have hD : va_D A [(mm, .inr (12, mo g (nI ta) (nI pa) (nI pe) pd (nI pb) pp pf pg pn rt rn (nI cd) sn (nI il) tk am at_ aa mt_ 0 (-1) wt wy (nI it_) (nI rm) (nI ud) (nI nu) sd (nI qn) (nI qw) qo (nI qb) (nI ((qp - 2) + 1)) qa (nI qi) (nI oc))), (g 86, .inl (cJ, 1700, .inr (.inl ql2_25)))] := hD
      refine lv_goto (tgt := 273) hx hb dX12_qJoins_164 (by decide) ?_
      exact sk_vret hx hb hr hlocks hK hP hD hS (⟨ql2_25, stk_push hst.2.2 (by omega) hql_26 (by obtain rfl := kjo_c (k := 5) g_21 hc6 (by decide); exact kjo_min2 c_22), rfl⟩) (Nat.le_of_ble_eq_true rfl) (Nat.le_of_ble_eq_true rfl) dX12_qJoins_273
  by_cases g_27 : nI jop = 6
  · refine lv_tableIn (off := 131) (tgt := 167) hx hb dX12_qJoins_36 (by rw [g_27]; decide) (by rw [g_27]; decide) (by rw [g_27]; rfl) (by decide) ?_
    refine lv_aload_n hx hb dX12_qJoins_167 rfl (lv_at hl 2 rfl) ?_
    refine lv_lload hx hb dX12_qJoins_168 (lv_at hl 0 rfl) ?_
    refine lv_lload_n hx hb dX12_qJoins_170 rfl (lv_at hl 1 rfl) ?_
    refine W.lcmp hx hb dX12_qJoins_171 ?_
    refine lv_if_le (tgt := 180) hx hb dX12_qJoins_172 (by decide) (fun c_28 => ?_) (fun c_28 => ?_)
    · skip
      refine lv_lload_n hx hb dX12_qJoins_180 rfl (lv_at hl 1 rfl) ?_
      refine sk_Vv (q0 := 0) (n := 1) (rest := []) (wr := []) ⟨hx, hb, hml, hown, hts⟩ hl.1 (c_nm_qPuts l D cI cJ cC cZ cS mm g ta pa pe pd pb pp pf pg pn rt rn cd sn il tk am at_ aa mt_ wt wy it_ rm ud nu sd qn qw qo qb (qp - 2) qa qi oc b1 ql (by omega)) w_7_139 w_7_141 w_0_76 w_1_14 w_7_142 (by decide +kernel) ⟨⟨(Nat.le_of_ble_eq_true rfl), (Nat.le_of_ble_eq_true rfl)⟩, (Nat.le_of_ble_eq_true rfl), (Nat.le_of_ble_eq_true rfl)⟩ hK hP hD hS hA [0, 1] [] rfl rfl (by decide +kernel) (by decide +kernel) (by decide +kernel) rfl rfl rfl rfl (Nat.le_of_ble_eq_true rfl) dX12_qJoins_181 (fun u H locs hw hP hD hS => ?_)
      obtain ⟨ql2_29, hql_30, rfl⟩ := hw
      have hP : va_P D vwCl [(mm, .inr (12, mo g (nI ta) (nI pa) (nI pe) pd (nI pb) pp pf pg pn rt rn (nI cd) sn (nI il) tk am at_ aa mt_ 0 (-1) wt wy (nI it_) (nI rm) (nI ud) (nI nu) sd (nI qn) (nI qw) qo (nI qb) (nI ((qp - 2) + 1)) qa (nI qi) (nI oc))), (g 86, .inl (cJ, 1700, .inr (.inl ql2_29)))] H := hP
      have hD : va_D A [(mm, .inr (12, mo g (nI ta) (nI pa) (nI pe) pd (nI pb) pp pf pg pn rt rn (nI cd) sn (nI il) tk am at_ aa mt_ 0 (-1) wt wy (nI it_) (nI rm) (nI ud) (nI nu) sd (nI qn) (nI qw) qo (nI qb) (nI ((qp - 2) + 1)) qa (nI qi) (nI oc))), (g 86, .inl (cJ, 1700, .inr (.inl ql2_29)))] := hD
      refine lv_goto (tgt := 273) hx hb dX12_qJoins_184 (by decide) ?_
      exact sk_vret hx hb hr hlocks hK hP hD hS (⟨ql2_29, stk_push hst.2.2 (by omega) hql_30 (by obtain rfl := kjo_c (k := 6) g_27 hc6 (by decide); exact kjo_max c_28), rfl⟩) (Nat.le_of_ble_eq_true rfl) (Nat.le_of_ble_eq_true rfl) dX12_qJoins_273
    · skip
      refine lv_lload hx hb dX12_qJoins_175 (lv_at hl 0 rfl) ?_
      refine lv_goto (tgt := 181) hx hb dX12_qJoins_177 (by decide) ?_
      refine sk_Vv (q0 := 0) (n := 1) (rest := []) (wr := []) ⟨hx, hb, hml, hown, hts⟩ hl.1 (c_nm_qPuts l D cI cJ cC cZ cS mm g ta pa pe pd pb pp pf pg pn rt rn cd sn il tk am at_ aa mt_ wt wy it_ rm ud nu sd qn qw qo qb (qp - 2) qa qi oc a1 ql (by omega)) w_7_139 w_7_141 w_0_76 w_1_14 w_7_142 (by decide +kernel) ⟨⟨(Nat.le_of_ble_eq_true rfl), (Nat.le_of_ble_eq_true rfl)⟩, (Nat.le_of_ble_eq_true rfl), (Nat.le_of_ble_eq_true rfl)⟩ hK hP hD hS hA [0, 1] [] rfl rfl (by decide +kernel) (by decide +kernel) (by decide +kernel) rfl rfl rfl rfl (Nat.le_of_ble_eq_true rfl) dX12_qJoins_181 (fun u H locs hw hP hD hS => ?_)
      obtain ⟨ql2_31, hql_32, rfl⟩ := hw
      have hP : va_P D vwCl [(mm, .inr (12, mo g (nI ta) (nI pa) (nI pe) pd (nI pb) pp pf pg pn rt rn (nI cd) sn (nI il) tk am at_ aa mt_ 0 (-1) wt wy (nI it_) (nI rm) (nI ud) (nI nu) sd (nI qn) (nI qw) qo (nI qb) (nI ((qp - 2) + 1)) qa (nI qi) (nI oc))), (g 86, .inl (cJ, 1700, .inr (.inl ql2_31)))] H := hP
      have hD : va_D A [(mm, .inr (12, mo g (nI ta) (nI pa) (nI pe) pd (nI pb) pp pf pg pn rt rn (nI cd) sn (nI il) tk am at_ aa mt_ 0 (-1) wt wy (nI it_) (nI rm) (nI ud) (nI nu) sd (nI qn) (nI qw) qo (nI qb) (nI ((qp - 2) + 1)) qa (nI qi) (nI oc))), (g 86, .inl (cJ, 1700, .inr (.inl ql2_31)))] := hD
      refine lv_goto (tgt := 273) hx hb dX12_qJoins_184 (by decide) ?_
      exact sk_vret hx hb hr hlocks hK hP hD hS (⟨ql2_31, stk_push hst.2.2 (by omega) hql_32 (by obtain rfl := kjo_c (k := 6) g_27 hc6 (by decide); exact kjo_max2 c_28), rfl⟩) (Nat.le_of_ble_eq_true rfl) (Nat.le_of_ble_eq_true rfl) dX12_qJoins_273
  by_cases g_33 : nI jop = 7
  · refine lv_tableIn (off := 151) (tgt := 187) hx hb dX12_qJoins_36 (by rw [g_33]; decide) (by rw [g_33]; decide) (by rw [g_33]; rfl) (by decide) ?_
    refine lv_aload_n hx hb dX12_qJoins_187 rfl (lv_at hl 2 rfl) ?_
    refine lv_lload hx hb dX12_qJoins_188 (lv_at hl 0 rfl) ?_
    refine lv_lload_n hx hb dX12_qJoins_190 rfl (lv_at hl 1 rfl) ?_
    refine W.lcmp hx hb dX12_qJoins_191 ?_
    refine lv_if_ge (tgt := 199) hx hb dX12_qJoins_192 (by decide) (fun c_34 => ?_) (fun c_34 => ?_)
    · skip
      refine lv_lconst (v := 0) hx hb dX12_qJoins_199 (by decide) ?_
      refine sk_Vv (q0 := 0) (n := 1) (rest := []) (wr := []) ⟨hx, hb, hml, hown, hts⟩ hl.1 (c_nm_qPuts l D cI cJ cC cZ cS mm g ta pa pe pd pb pp pf pg pn rt rn cd sn il tk am at_ aa mt_ wt wy it_ rm ud nu sd qn qw qo qb (qp - 2) qa qi oc 0 ql (by omega)) w_7_139 w_7_141 w_0_76 w_1_14 w_7_142 (by decide +kernel) ⟨⟨(Nat.le_of_ble_eq_true rfl), (Nat.le_of_ble_eq_true rfl)⟩, (Nat.le_of_ble_eq_true rfl), (Nat.le_of_ble_eq_true rfl)⟩ hK hP hD hS hA [0, 1] [] rfl rfl (by decide +kernel) (by decide +kernel) (by decide +kernel) rfl rfl rfl rfl (Nat.le_of_ble_eq_true rfl) dX12_qJoins_200 (fun u H locs hw hP hD hS => ?_)
      obtain ⟨ql2_35, hql_36, rfl⟩ := hw
      have hP : va_P D vwCl [(mm, .inr (12, mo g (nI ta) (nI pa) (nI pe) pd (nI pb) pp pf pg pn rt rn (nI cd) sn (nI il) tk am at_ aa mt_ 0 (-1) wt wy (nI it_) (nI rm) (nI ud) (nI nu) sd (nI qn) (nI qw) qo (nI qb) (nI ((qp - 2) + 1)) qa (nI qi) (nI oc))), (g 86, .inl (cJ, 1700, .inr (.inl ql2_35)))] H := hP
      have hD : va_D A [(mm, .inr (12, mo g (nI ta) (nI pa) (nI pe) pd (nI pb) pp pf pg pn rt rn (nI cd) sn (nI il) tk am at_ aa mt_ 0 (-1) wt wy (nI it_) (nI rm) (nI ud) (nI nu) sd (nI qn) (nI qw) qo (nI qb) (nI ((qp - 2) + 1)) qa (nI qi) (nI oc))), (g 86, .inl (cJ, 1700, .inr (.inl ql2_35)))] := hD
      refine lv_goto (tgt := 273) hx hb dX12_qJoins_203 (by decide) ?_
      exact sk_vret hx hb hr hlocks hK hP hD hS (⟨ql2_35, (show _ from absurd (kjo_c (k := 7) g_33 hc6 (by decide)) (by omega)), rfl⟩) (Nat.le_of_ble_eq_true rfl) (Nat.le_of_ble_eq_true rfl) dX12_qJoins_273
    · skip
      refine lv_lconst (v := 1) hx hb dX12_qJoins_195 (by decide) ?_
      refine lv_goto (tgt := 200) hx hb dX12_qJoins_196 (by decide) ?_
      refine sk_Vv (q0 := 0) (n := 1) (rest := []) (wr := []) ⟨hx, hb, hml, hown, hts⟩ hl.1 (c_nm_qPuts l D cI cJ cC cZ cS mm g ta pa pe pd pb pp pf pg pn rt rn cd sn il tk am at_ aa mt_ wt wy it_ rm ud nu sd qn qw qo qb (qp - 2) qa qi oc 1 ql (by omega)) w_7_139 w_7_141 w_0_76 w_1_14 w_7_142 (by decide +kernel) ⟨⟨(Nat.le_of_ble_eq_true rfl), (Nat.le_of_ble_eq_true rfl)⟩, (Nat.le_of_ble_eq_true rfl), (Nat.le_of_ble_eq_true rfl)⟩ hK hP hD hS hA [0, 1] [] rfl rfl (by decide +kernel) (by decide +kernel) (by decide +kernel) rfl rfl rfl rfl (Nat.le_of_ble_eq_true rfl) dX12_qJoins_200 (fun u H locs hw hP hD hS => ?_)
      obtain ⟨ql2_37, hql_38, rfl⟩ := hw
      have hP : va_P D vwCl [(mm, .inr (12, mo g (nI ta) (nI pa) (nI pe) pd (nI pb) pp pf pg pn rt rn (nI cd) sn (nI il) tk am at_ aa mt_ 0 (-1) wt wy (nI it_) (nI rm) (nI ud) (nI nu) sd (nI qn) (nI qw) qo (nI qb) (nI ((qp - 2) + 1)) qa (nI qi) (nI oc))), (g 86, .inl (cJ, 1700, .inr (.inl ql2_37)))] H := hP
      have hD : va_D A [(mm, .inr (12, mo g (nI ta) (nI pa) (nI pe) pd (nI pb) pp pf pg pn rt rn (nI cd) sn (nI il) tk am at_ aa mt_ 0 (-1) wt wy (nI it_) (nI rm) (nI ud) (nI nu) sd (nI qn) (nI qw) qo (nI qb) (nI ((qp - 2) + 1)) qa (nI qi) (nI oc))), (g 86, .inl (cJ, 1700, .inr (.inl ql2_37)))] := hD
      refine lv_goto (tgt := 273) hx hb dX12_qJoins_203 (by decide) ?_
      exact sk_vret hx hb hr hlocks hK hP hD hS (⟨ql2_37, (show _ from absurd (kjo_c (k := 7) g_33 hc6 (by decide)) (by omega)), rfl⟩) (Nat.le_of_ble_eq_true rfl) (Nat.le_of_ble_eq_true rfl) dX12_qJoins_273
  by_cases g_39 : nI jop = 8
  · refine lv_tableIn (off := 170) (tgt := 206) hx hb dX12_qJoins_36 (by rw [g_39]; decide) (by rw [g_39]; decide) (by rw [g_39]; rfl) (by decide) ?_
    refine lv_aload_n hx hb dX12_qJoins_206 rfl (lv_at hl 2 rfl) ?_
    refine lv_lload hx hb dX12_qJoins_207 (lv_at hl 0 rfl) ?_
    refine lv_lload_n hx hb dX12_qJoins_209 rfl (lv_at hl 1 rfl) ?_
    refine W.lcmp hx hb dX12_qJoins_210 ?_
    refine lv_if_le (tgt := 218) hx hb dX12_qJoins_211 (by decide) (fun c_40 => ?_) (fun c_40 => ?_)
    · skip
      refine lv_lconst (v := 0) hx hb dX12_qJoins_218 (by decide) ?_
      refine sk_Vv (q0 := 0) (n := 1) (rest := []) (wr := []) ⟨hx, hb, hml, hown, hts⟩ hl.1 (c_nm_qPuts l D cI cJ cC cZ cS mm g ta pa pe pd pb pp pf pg pn rt rn cd sn il tk am at_ aa mt_ wt wy it_ rm ud nu sd qn qw qo qb (qp - 2) qa qi oc 0 ql (by omega)) w_7_139 w_7_141 w_0_76 w_1_14 w_7_142 (by decide +kernel) ⟨⟨(Nat.le_of_ble_eq_true rfl), (Nat.le_of_ble_eq_true rfl)⟩, (Nat.le_of_ble_eq_true rfl), (Nat.le_of_ble_eq_true rfl)⟩ hK hP hD hS hA [0, 1] [] rfl rfl (by decide +kernel) (by decide +kernel) (by decide +kernel) rfl rfl rfl rfl (Nat.le_of_ble_eq_true rfl) dX12_qJoins_219 (fun u H locs hw hP hD hS => ?_)
      obtain ⟨ql2_41, hql_42, rfl⟩ := hw
      have hP : va_P D vwCl [(mm, .inr (12, mo g (nI ta) (nI pa) (nI pe) pd (nI pb) pp pf pg pn rt rn (nI cd) sn (nI il) tk am at_ aa mt_ 0 (-1) wt wy (nI it_) (nI rm) (nI ud) (nI nu) sd (nI qn) (nI qw) qo (nI qb) (nI ((qp - 2) + 1)) qa (nI qi) (nI oc))), (g 86, .inl (cJ, 1700, .inr (.inl ql2_41)))] H := hP
      have hD : va_D A [(mm, .inr (12, mo g (nI ta) (nI pa) (nI pe) pd (nI pb) pp pf pg pn rt rn (nI cd) sn (nI il) tk am at_ aa mt_ 0 (-1) wt wy (nI it_) (nI rm) (nI ud) (nI nu) sd (nI qn) (nI qw) qo (nI qb) (nI ((qp - 2) + 1)) qa (nI qi) (nI oc))), (g 86, .inl (cJ, 1700, .inr (.inl ql2_41)))] := hD
      refine lv_goto (tgt := 273) hx hb dX12_qJoins_222 (by decide) ?_
      exact sk_vret hx hb hr hlocks hK hP hD hS (⟨ql2_41, (show _ from absurd (kjo_c (k := 8) g_39 hc6 (by decide)) (by omega)), rfl⟩) (Nat.le_of_ble_eq_true rfl) (Nat.le_of_ble_eq_true rfl) dX12_qJoins_273
    · skip
      refine lv_lconst (v := 1) hx hb dX12_qJoins_214 (by decide) ?_
      refine lv_goto (tgt := 219) hx hb dX12_qJoins_215 (by decide) ?_
      refine sk_Vv (q0 := 0) (n := 1) (rest := []) (wr := []) ⟨hx, hb, hml, hown, hts⟩ hl.1 (c_nm_qPuts l D cI cJ cC cZ cS mm g ta pa pe pd pb pp pf pg pn rt rn cd sn il tk am at_ aa mt_ wt wy it_ rm ud nu sd qn qw qo qb (qp - 2) qa qi oc 1 ql (by omega)) w_7_139 w_7_141 w_0_76 w_1_14 w_7_142 (by decide +kernel) ⟨⟨(Nat.le_of_ble_eq_true rfl), (Nat.le_of_ble_eq_true rfl)⟩, (Nat.le_of_ble_eq_true rfl), (Nat.le_of_ble_eq_true rfl)⟩ hK hP hD hS hA [0, 1] [] rfl rfl (by decide +kernel) (by decide +kernel) (by decide +kernel) rfl rfl rfl rfl (Nat.le_of_ble_eq_true rfl) dX12_qJoins_219 (fun u H locs hw hP hD hS => ?_)
      obtain ⟨ql2_43, hql_44, rfl⟩ := hw
      have hP : va_P D vwCl [(mm, .inr (12, mo g (nI ta) (nI pa) (nI pe) pd (nI pb) pp pf pg pn rt rn (nI cd) sn (nI il) tk am at_ aa mt_ 0 (-1) wt wy (nI it_) (nI rm) (nI ud) (nI nu) sd (nI qn) (nI qw) qo (nI qb) (nI ((qp - 2) + 1)) qa (nI qi) (nI oc))), (g 86, .inl (cJ, 1700, .inr (.inl ql2_43)))] H := hP
      have hD : va_D A [(mm, .inr (12, mo g (nI ta) (nI pa) (nI pe) pd (nI pb) pp pf pg pn rt rn (nI cd) sn (nI il) tk am at_ aa mt_ 0 (-1) wt wy (nI it_) (nI rm) (nI ud) (nI nu) sd (nI qn) (nI qw) qo (nI qb) (nI ((qp - 2) + 1)) qa (nI qi) (nI oc))), (g 86, .inl (cJ, 1700, .inr (.inl ql2_43)))] := hD
      refine lv_goto (tgt := 273) hx hb dX12_qJoins_222 (by decide) ?_
      exact sk_vret hx hb hr hlocks hK hP hD hS (⟨ql2_43, (show _ from absurd (kjo_c (k := 8) g_39 hc6 (by decide)) (by omega)), rfl⟩) (Nat.le_of_ble_eq_true rfl) (Nat.le_of_ble_eq_true rfl) dX12_qJoins_273
  by_cases g_45 : nI jop = 9
  · refine lv_tableIn (off := 189) (tgt := 225) hx hb dX12_qJoins_36 (by rw [g_45]; decide) (by rw [g_45]; decide) (by rw [g_45]; rfl) (by decide) ?_
    refine lv_aload_n hx hb dX12_qJoins_225 rfl (lv_at hl 2 rfl) ?_
    refine lv_lload hx hb dX12_qJoins_226 (lv_at hl 0 rfl) ?_
    refine lv_lload_n hx hb dX12_qJoins_228 rfl (lv_at hl 1 rfl) ?_
    refine W.lcmp hx hb dX12_qJoins_229 ?_
    refine lv_if_ne (tgt := 237) hx hb dX12_qJoins_230 (by decide) (fun c_46 => ?_) (fun c_46 => ?_)
    · skip
      refine lv_lconst (v := 0) hx hb dX12_qJoins_237 (by decide) ?_
      refine sk_Vv (q0 := 0) (n := 1) (rest := []) (wr := []) ⟨hx, hb, hml, hown, hts⟩ hl.1 (c_nm_qPuts l D cI cJ cC cZ cS mm g ta pa pe pd pb pp pf pg pn rt rn cd sn il tk am at_ aa mt_ wt wy it_ rm ud nu sd qn qw qo qb (qp - 2) qa qi oc 0 ql (by omega)) w_7_139 w_7_141 w_0_76 w_1_14 w_7_142 (by decide +kernel) ⟨⟨(Nat.le_of_ble_eq_true rfl), (Nat.le_of_ble_eq_true rfl)⟩, (Nat.le_of_ble_eq_true rfl), (Nat.le_of_ble_eq_true rfl)⟩ hK hP hD hS hA [0, 1] [] rfl rfl (by decide +kernel) (by decide +kernel) (by decide +kernel) rfl rfl rfl rfl (Nat.le_of_ble_eq_true rfl) dX12_qJoins_238 (fun u H locs hw hP hD hS => ?_)
      obtain ⟨ql2_47, hql_48, rfl⟩ := hw
      have hP : va_P D vwCl [(mm, .inr (12, mo g (nI ta) (nI pa) (nI pe) pd (nI pb) pp pf pg pn rt rn (nI cd) sn (nI il) tk am at_ aa mt_ 0 (-1) wt wy (nI it_) (nI rm) (nI ud) (nI nu) sd (nI qn) (nI qw) qo (nI qb) (nI ((qp - 2) + 1)) qa (nI qi) (nI oc))), (g 86, .inl (cJ, 1700, .inr (.inl ql2_47)))] H := hP
      have hD : va_D A [(mm, .inr (12, mo g (nI ta) (nI pa) (nI pe) pd (nI pb) pp pf pg pn rt rn (nI cd) sn (nI il) tk am at_ aa mt_ 0 (-1) wt wy (nI it_) (nI rm) (nI ud) (nI nu) sd (nI qn) (nI qw) qo (nI qb) (nI ((qp - 2) + 1)) qa (nI qi) (nI oc))), (g 86, .inl (cJ, 1700, .inr (.inl ql2_47)))] := hD
      refine lv_goto (tgt := 273) hx hb dX12_qJoins_241 (by decide) ?_
      exact sk_vret hx hb hr hlocks hK hP hD hS (⟨ql2_47, (show _ from absurd (kjo_c (k := 9) g_45 hc6 (by decide)) (by omega)), rfl⟩) (Nat.le_of_ble_eq_true rfl) (Nat.le_of_ble_eq_true rfl) dX12_qJoins_273
    · skip
      refine lv_lconst (v := 1) hx hb dX12_qJoins_233 (by decide) ?_
      refine lv_goto (tgt := 238) hx hb dX12_qJoins_234 (by decide) ?_
      refine sk_Vv (q0 := 0) (n := 1) (rest := []) (wr := []) ⟨hx, hb, hml, hown, hts⟩ hl.1 (c_nm_qPuts l D cI cJ cC cZ cS mm g ta pa pe pd pb pp pf pg pn rt rn cd sn il tk am at_ aa mt_ wt wy it_ rm ud nu sd qn qw qo qb (qp - 2) qa qi oc 1 ql (by omega)) w_7_139 w_7_141 w_0_76 w_1_14 w_7_142 (by decide +kernel) ⟨⟨(Nat.le_of_ble_eq_true rfl), (Nat.le_of_ble_eq_true rfl)⟩, (Nat.le_of_ble_eq_true rfl), (Nat.le_of_ble_eq_true rfl)⟩ hK hP hD hS hA [0, 1] [] rfl rfl (by decide +kernel) (by decide +kernel) (by decide +kernel) rfl rfl rfl rfl (Nat.le_of_ble_eq_true rfl) dX12_qJoins_238 (fun u H locs hw hP hD hS => ?_)
      obtain ⟨ql2_49, hql_50, rfl⟩ := hw
      have hP : va_P D vwCl [(mm, .inr (12, mo g (nI ta) (nI pa) (nI pe) pd (nI pb) pp pf pg pn rt rn (nI cd) sn (nI il) tk am at_ aa mt_ 0 (-1) wt wy (nI it_) (nI rm) (nI ud) (nI nu) sd (nI qn) (nI qw) qo (nI qb) (nI ((qp - 2) + 1)) qa (nI qi) (nI oc))), (g 86, .inl (cJ, 1700, .inr (.inl ql2_49)))] H := hP
      have hD : va_D A [(mm, .inr (12, mo g (nI ta) (nI pa) (nI pe) pd (nI pb) pp pf pg pn rt rn (nI cd) sn (nI il) tk am at_ aa mt_ 0 (-1) wt wy (nI it_) (nI rm) (nI ud) (nI nu) sd (nI qn) (nI qw) qo (nI qb) (nI ((qp - 2) + 1)) qa (nI qi) (nI oc))), (g 86, .inl (cJ, 1700, .inr (.inl ql2_49)))] := hD
      refine lv_goto (tgt := 273) hx hb dX12_qJoins_241 (by decide) ?_
      exact sk_vret hx hb hr hlocks hK hP hD hS (⟨ql2_49, (show _ from absurd (kjo_c (k := 9) g_45 hc6 (by decide)) (by omega)), rfl⟩) (Nat.le_of_ble_eq_true rfl) (Nat.le_of_ble_eq_true rfl) dX12_qJoins_273
  by_cases g_51 : nI jop = 10
  · refine lv_tableIn (off := 208) (tgt := 244) hx hb dX12_qJoins_36 (by rw [g_51]; decide) (by rw [g_51]; decide) (by rw [g_51]; rfl) (by decide) ?_
    refine lv_aload_n hx hb dX12_qJoins_244 rfl (lv_at hl 2 rfl) ?_
    refine lv_lload hx hb dX12_qJoins_245 (lv_at hl 0 rfl) ?_
    refine lv_lload_n hx hb dX12_qJoins_247 rfl (lv_at hl 1 rfl) ?_
    refine lv_lmul hx hb dX12_qJoins_248 ?_
    refine lv_topl (fun v_52 ev_52 => ?_)
    refine sk_Vv (q0 := 0) (n := 1) (rest := []) (wr := []) ⟨hx, hb, hml, hown, hts⟩ hl.1 (c_nm_qPuts l D cI cJ cC cZ cS mm g ta pa pe pd pb pp pf pg pn rt rn cd sn il tk am at_ aa mt_ wt wy it_ rm ud nu sd qn qw qo qb (qp - 2) qa qi oc v_52 ql (by omega)) w_7_139 w_7_141 w_0_76 w_1_14 w_7_142 (by decide +kernel) ⟨⟨(Nat.le_of_ble_eq_true rfl), (Nat.le_of_ble_eq_true rfl)⟩, (Nat.le_of_ble_eq_true rfl), (Nat.le_of_ble_eq_true rfl)⟩ hK hP hD hS hA [0, 1] [] rfl rfl (by decide +kernel) (by decide +kernel) (by decide +kernel) rfl rfl rfl rfl (Nat.le_of_ble_eq_true rfl) dX12_qJoins_249 (fun u H locs hw hP hD hS => ?_)
    obtain ⟨ql2_53, hql_54, rfl⟩ := hw
    have hP : va_P D vwCl [(mm, .inr (12, mo g (nI ta) (nI pa) (nI pe) pd (nI pb) pp pf pg pn rt rn (nI cd) sn (nI il) tk am at_ aa mt_ 0 (-1) wt wy (nI it_) (nI rm) (nI ud) (nI nu) sd (nI qn) (nI qw) qo (nI qb) (nI ((qp - 2) + 1)) qa (nI qi) (nI oc))), (g 86, .inl (cJ, 1700, .inr (.inl ql2_53)))] H := hP
    have hD : va_D A [(mm, .inr (12, mo g (nI ta) (nI pa) (nI pe) pd (nI pb) pp pf pg pn rt rn (nI cd) sn (nI il) tk am at_ aa mt_ 0 (-1) wt wy (nI it_) (nI rm) (nI ud) (nI nu) sd (nI qn) (nI qw) qo (nI qb) (nI ((qp - 2) + 1)) qa (nI qi) (nI oc))), (g 86, .inl (cJ, 1700, .inr (.inl ql2_53)))] := hD
    refine lv_goto (tgt := 273) hx hb dX12_qJoins_252 (by decide) ?_
    exact sk_vret hx hb hr hlocks hK hP hD hS (⟨ql2_53, (show _ from absurd (kjo_c (k := 10) g_51 hc6 (by decide)) (by omega)), rfl⟩) (Nat.le_of_ble_eq_true rfl) (Nat.le_of_ble_eq_true rfl) dX12_qJoins_273
  refine lv_tableOut (tgt := 255) hx hb dX12_qJoins_36 (sk_out2 1 10 (by intro k hk1 hk2; rcases (show k = 1 ∨ k = 2 ∨ k = 3 ∨ k = 4 ∨ k = 5 ∨ k = 6 ∨ k = 7 ∨ k = 8 ∨ k = 9 ∨ k = 10 by omega) with rfl | rfl | rfl | rfl | rfl | rfl | rfl | rfl | rfl | rfl <;> assumption)) (by decide) ?_
  refine lv_aload_n hx hb dX12_qJoins_255 rfl (lv_at hl 2 rfl) ?_
  refine lv_lload hx hb dX12_qJoins_256 (lv_at hl 0 rfl) ?_
  refine lv_lload_n hx hb dX12_qJoins_258 rfl (lv_at hl 1 rfl) ?_
  refine lv_ladd hx hb dX12_qJoins_259 ?_
  refine lv_topl (fun v_55 ev_55 => ?_)
  refine lv_lconst (v := 0) hx hb dX12_qJoins_260 (by decide) ?_
  refine W.lcmp hx hb dX12_qJoins_261 ?_
  refine lv_if_le (tgt := 269) hx hb dX12_qJoins_262 (by decide) (fun c_56 => ?_) (fun c_56 => ?_)
  · skip
    refine lv_lconst (v := 0) hx hb dX12_qJoins_269 (by decide) ?_
    refine sk_Vv (q0 := 0) (n := 1) (rest := []) (wr := []) ⟨hx, hb, hml, hown, hts⟩ hl.1 (c_nm_qPuts l D cI cJ cC cZ cS mm g ta pa pe pd pb pp pf pg pn rt rn cd sn il tk am at_ aa mt_ wt wy it_ rm ud nu sd qn qw qo qb (qp - 2) qa qi oc 0 ql (by omega)) w_7_139 w_7_141 w_0_76 w_1_14 w_7_142 (by decide +kernel) ⟨⟨(Nat.le_of_ble_eq_true rfl), (Nat.le_of_ble_eq_true rfl)⟩, (Nat.le_of_ble_eq_true rfl), (Nat.le_of_ble_eq_true rfl)⟩ hK hP hD hS hA [0, 1] [] rfl rfl (by decide +kernel) (by decide +kernel) (by decide +kernel) rfl rfl rfl rfl (Nat.le_of_ble_eq_true rfl) dX12_qJoins_270 (fun u H locs hw hP hD hS => ?_)
    obtain ⟨ql2_57, hql_58, rfl⟩ := hw
    have hP : va_P D vwCl [(mm, .inr (12, mo g (nI ta) (nI pa) (nI pe) pd (nI pb) pp pf pg pn rt rn (nI cd) sn (nI il) tk am at_ aa mt_ 0 (-1) wt wy (nI it_) (nI rm) (nI ud) (nI nu) sd (nI qn) (nI qw) qo (nI qb) (nI ((qp - 2) + 1)) qa (nI qi) (nI oc))), (g 86, .inl (cJ, 1700, .inr (.inl ql2_57)))] H := hP
    have hD : va_D A [(mm, .inr (12, mo g (nI ta) (nI pa) (nI pe) pd (nI pb) pp pf pg pn rt rn (nI cd) sn (nI il) tk am at_ aa mt_ 0 (-1) wt wy (nI it_) (nI rm) (nI ud) (nI nu) sd (nI qn) (nI qw) qo (nI qb) (nI ((qp - 2) + 1)) qa (nI qi) (nI oc))), (g 86, .inl (cJ, 1700, .inr (.inl ql2_57)))] := hD
    exact sk_vret hx hb hr hlocks hK hP hD hS (⟨ql2_57, (kjo_f hc1 hc6 (by assumption) (by assumption) (by assumption) (by assumption) (by assumption) (by assumption)).elim, rfl⟩) (Nat.le_of_ble_eq_true rfl) (Nat.le_of_ble_eq_true rfl) dX12_qJoins_273
  · skip
    refine lv_lconst (v := 1) hx hb dX12_qJoins_265 (by decide) ?_
    refine lv_goto (tgt := 270) hx hb dX12_qJoins_266 (by decide) ?_
    refine sk_Vv (q0 := 0) (n := 1) (rest := []) (wr := []) ⟨hx, hb, hml, hown, hts⟩ hl.1 (c_nm_qPuts l D cI cJ cC cZ cS mm g ta pa pe pd pb pp pf pg pn rt rn cd sn il tk am at_ aa mt_ wt wy it_ rm ud nu sd qn qw qo qb (qp - 2) qa qi oc 1 ql (by omega)) w_7_139 w_7_141 w_0_76 w_1_14 w_7_142 (by decide +kernel) ⟨⟨(Nat.le_of_ble_eq_true rfl), (Nat.le_of_ble_eq_true rfl)⟩, (Nat.le_of_ble_eq_true rfl), (Nat.le_of_ble_eq_true rfl)⟩ hK hP hD hS hA [0, 1] [] rfl rfl (by decide +kernel) (by decide +kernel) (by decide +kernel) rfl rfl rfl rfl (Nat.le_of_ble_eq_true rfl) dX12_qJoins_270 (fun u H locs hw hP hD hS => ?_)
    obtain ⟨ql2_59, hql_60, rfl⟩ := hw
    have hP : va_P D vwCl [(mm, .inr (12, mo g (nI ta) (nI pa) (nI pe) pd (nI pb) pp pf pg pn rt rn (nI cd) sn (nI il) tk am at_ aa mt_ 0 (-1) wt wy (nI it_) (nI rm) (nI ud) (nI nu) sd (nI qn) (nI qw) qo (nI qb) (nI ((qp - 2) + 1)) qa (nI qi) (nI oc))), (g 86, .inl (cJ, 1700, .inr (.inl ql2_59)))] H := hP
    have hD : va_D A [(mm, .inr (12, mo g (nI ta) (nI pa) (nI pe) pd (nI pb) pp pf pg pn rt rn (nI cd) sn (nI il) tk am at_ aa mt_ 0 (-1) wt wy (nI it_) (nI rm) (nI ud) (nI nu) sd (nI qn) (nI qw) qo (nI qb) (nI ((qp - 2) + 1)) qa (nI qi) (nI oc))), (g 86, .inl (cJ, 1700, .inr (.inl ql2_59)))] := hD
    exact sk_vret hx hb hr hlocks hK hP hD hS (⟨ql2_59, (kjo_f hc1 hc6 (by assumption) (by assumption) (by assumption) (by assumption) (by assumption) (by assumption)).elim, rfl⟩) (Nat.le_of_ble_eq_true rfl) (Nat.le_of_ble_eq_true rfl) dX12_qJoins_273
/-! the reference's lock, words and deeds -/
theorem kx_c3 {kind c : Nat} (hk : kind < 2) (h : kcN1 kind c) : (1 ≤ c ∧ c ≤ 6) ∨ (1000 ≤ c ∧ c < 11000) ∨ (40 ≤ c ∧ c < 47) := by
  rcases kx_cls hk h with ⟨a, b, -⟩ | ⟨a, b, -⟩ | ⟨a, b, -⟩
  · exact Or.inl ⟨a, b⟩
  · exact Or.inr (Or.inl ⟨a, b⟩)
  · exact Or.inr (Or.inr ⟨a, b⟩)
def mwO (L : LkS) (w : Nat) (u v : Int32) (cs : Nat → Nat) : Prop := match lG L w with
  | none => u = -1
  | some p => u = nI p.1 ∧ v = nI p.2 ∧ ∀ j, j < (lK L).length → cs (1600 + j) = (lK L).getD j 0
theorem mw_none {L : LkS} {w : Nat} {u v : Int32} {cs : Nat → Nat} (hL : kcLk L) (hl : (lK L).length ≤ 1600) (h : mwO L w u v cs) (hu : u = -1) : lG L w = none := by
  cases hg : lG L w with
  | none => rfl
  | some p =>
    unfold mwO at h
    rw [hg] at h
    have h1 := (hL w p hg)
    have h2 : nI p.1 = -1 := h.1.symm.trans hu
    have h3 : (nI p.1).toInt = -1 := by rw [h2]; rfl
    rw [nI_toInt (by omega)] at h3
    omega
theorem mw_some {L : LkS} {w : Nat} {u v : Int32} {cs : Nat → Nat} (hL : kcLk L) (h : mwO L w u v cs) (hu : ¬ u = -1) : ∃ a b : Nat, u = nI a ∧ v = nI b ∧ a ≤ b ∧ b ≤ (lK L).length ∧ (∀ j, j < (lK L).length → cs (1600 + j) = (lK L).getD j 0) ∧ lG L w = some (a, b) := by
  cases hg : lG L w with
  | none =>
    unfold mwO at h
    rw [hg] at h
    exact absurd h hu
  | some p =>
    unfold mwO at h
    rw [hg] at h
    have h1 := (hL w p hg)
    exact ⟨p.1, p.2, h.1, h.2.1, Nat.le_of_lt h1.1, h1.2.1, h.2.2, rfl⟩
theorem kw_ex {L : LkS} {w a b : Nat} (h : kcLk L) (hw : w < 3) (hp : lG L w = some (a, b)) (nm : Nat → Int64) : kcEx nm 64 (kcSub (lK L) (a, b)) [] = some [kcV L w nm] := by
  have h1 := kcV_ex h hw nm
  rw [kcSeg_some h hp] at h1
  exact h1
theorem kw_ns {L : LkS} {w k a b : Nat} (h : kcLk L) (hk : k = if w = 1 then 1 else 0) (hp : lG L w = some (a, b)) : kcNs k (kcSub (lK L) (a, b)) := by
  rw [hk]; exact (h w (a, b) hp).2.2.2
theorem kten_n {m : Nat} (h : m < 10) : kcTen (Int64.ofNat m) = m := by
  unfold kcTen
  rw [Int64.toInt_ofNat_of_lt (by omega)]
  omega
/-- a day as the reference has it -/
def mdO (nw : Nat → Int32) (wk b w d : Nat) : Prop := nw 0 = nI wk ∧ nw (2 + 3 * d) = nI b ∧ nw (2 + 3 * d + 1) = nI w
theorem mn_of {nw : Nat → Int32} {wk b w d m t al : Nat} {am at_ aa : Int32} (h : mdO nw wk b w d) (hm : am = nI m) (ht : at_ = nI t) (ha : aa = nI al) (h1 : wk < 2147483648) (h2 : b < 2147483648) (h3 : w < 2147483648) (h4 : d < 2147483648) (h5 : m < 2147483648) (h6 : t < 2147483648) (h7 : al < 2147483648) : mnO (kcNm wk b w d m t al) am at_ aa nw d := by
  obtain ⟨a1, a2, a3⟩ := h
  refine ⟨?_, ?_, ?_, ?_, ?_, ?_, ?_⟩
  · rw [hm, kx_i2l h5]; rfl
  · rw [a2, kx_i2l h2]; rfl
  · rw [a3, kx_i2l h3]; rfl
  · rw [kx_i2l h4]; rfl
  · rw [a1, kx_i2l h1]; rfl
  · rw [ht, kx_i2l h6]; rfl
  · rw [ha, kx_i2l h7]; rfl
/-- words and wages do not ask what he is told -/
theorem mn_any {nw : Nat → Int32} {wk b w d m : Nat} {am at_ aa : Int32} (h : mdO nw wk b w d) (hm : am = nI m) (h1 : wk < 2147483648) (h2 : b < 2147483648) (h3 : w < 2147483648) (h4 : d < 2147483648) (h5 : m < 2147483648) : ∃ nm, mnO nm am at_ aa nw d ∧ ∀ j, j < 5 → nm j = kcNm wk b w d m 0 0 j := by
  obtain ⟨a1, a2, a3⟩ := h
  refine ⟨fun k => if k < 5 then kcNm wk b w d m 0 0 k else if k = 5 then Int32.toInt64 at_ else Int32.toInt64 aa, ⟨?_, ?_, ?_, ?_, ?_, rfl, rfl⟩, fun j hj => if_pos hj⟩
  · rw [hm, kx_i2l h5]; rfl
  · rw [a2, kx_i2l h2]; rfl
  · rw [a3, kx_i2l h3]; rfl
  · rw [kx_i2l h4]; rfl
  · rw [a1, kx_i2l h1]; rfl
set_option maxHeartbeats 4000000 in
set_option maxRecDepth 100000 in
theorem c_nm_bargeOf (l : Launch) (D : va_G) (cI cJ cC cZ cS : ClassId) (mm : Nat) (g : Nat → Nat) (ta : Nat) (pa : Nat) (pe : Nat) (pd : Int32) (pb : Nat) (pp : Int32) (pf : Int32) (pg : Int32) (pn : Int32) (rt : Int32) (rn : Int32) (cd : Nat) (sn : Int32) (il : Nat) (tk : Int32) (am : Int32) (at_ : Int32) (aa : Int32) (mt_ : Int32) (wt : Int32) (wy : Int64) (it_ : Nat) (rm : Nat) (ud : Nat) (nu : Nat) (sd : Int64) (qn : Nat) (qw : Nat) (qo : Int32) (qb : Nat) (qp : Nat) (qa : Int64) (qi : Nat) (oc : Nat) (d : Nat) (nw : Nat → Int32) (hd : d < 9) (hnw : nowOk nw) : skM l yX12_bargeOf cX12_bargeOf 2 (some .int) 0 0 0 0 D (skT cI cJ cC cZ cS) [.ref mm, .int (nI d)] [(mm, .inr (12, mo g (nI ta) (nI pa) (nI pe) pd (nI pb) pp pf pg pn rt rn (nI cd) sn (nI il) tk am at_ aa mt_ 0 (-1) wt wy (nI it_) (nI rm) (nI ud) (nI nu) sd (nI qn) (nI qw) qo (nI qb) (nI qp) qa (nI qi) (nI oc))), (g 31, .inl (cI, 120, .inl nw))] (skI D (skT cI cJ cC cZ cS) (fun (r : Int32) (u : va_W) => r = nw (2 + 3 * d) ∧ u = [(mm, .inr (12, mo g (nI ta) (nI pa) (nI pe) pd (nI pb) pp pf pg pn rt rn (nI cd) sn (nI il) tk am at_ aa mt_ 0 (-1) wt wy (nI it_) (nI rm) (nI ud) (nI nu) sd (nI qn) (nI qw) qo (nI qb) (nI qp) qa (nI qi) (nI oc))), (g 31, .inl (cI, 120, .inl nw))])) := by
  refine skM_of (by decide +kernel) (Nat.le_of_ble_eq_true rfl) ?_
  intro p e s m below meth c A ls E hP hD hl
  obtain ⟨hx, hb, hr, hml, hlocks, hin, hown, hts, hK, hA⟩ := E
  have hown : s.vm.findClass RX12 = some m.cls := hown
  have hS : va_S A s.heap s.heap [] := va_S.rf
  have hl : lv_has ls 2 [(0, .ref mm), (1, .int (nI d))] := hl
  refine lv_aload_n hx hb dX12_bargeOf_0 rfl (lv_at hl 0 rfl) ?_
  refine sk_get (v := .ref (g 31)) (C := RX12) (T := TX12) (N := 92) hx hb hts inlX12 hown hK hP 0 rfl rfl 31 (by decide) w_5_186 rfl dX12_bargeOf_1 ?_
  refine lv_iconst (v := 2) hx hb dX12_bargeOf_4 (by decide) ?_
  refine lv_iconst (v := 3) hx hb dX12_bargeOf_5 (by decide) ?_
  refine lv_iload_n hx hb dX12_bargeOf_6 rfl (lv_at hl 1 rfl) ?_
  refine lv_imul hx hb dX12_bargeOf_7 ?_
  refine sk_top (nI (3 * d)) (nmul 3 d) ?_
  refine lv_iadd hx hb dX12_bargeOf_8 ?_
  refine sk_top (nI (2 + (3 * d))) (nI_add 2 (3 * d)) ?_
  refine va_iald hx hb hK.1 hP 1 0 rfl rfl (vin (2 + (3 * d)) 120 (by omega) (by omega)) dX12_bargeOf_9 ?_
  refine sk_top (nw (2 + 3 * d)) (by rw [nI_clamp (by omega)]) ?_
  exact sk_iret hx hb hr rfl hlocks hK hP hD hS (⟨rfl, rfl⟩) (Nat.le_of_ble_eq_true rfl) (Nat.le_of_ble_eq_true rfl) dX12_bargeOf_10
set_option maxHeartbeats 4000000 in
set_option maxRecDepth 100000 in
theorem c_nm_wetOf (l : Launch) (D : va_G) (cI cJ cC cZ cS : ClassId) (mm : Nat) (g : Nat → Nat) (ta : Nat) (pa : Nat) (pe : Nat) (pd : Int32) (pb : Nat) (pp : Int32) (pf : Int32) (pg : Int32) (pn : Int32) (rt : Int32) (rn : Int32) (cd : Nat) (sn : Int32) (il : Nat) (tk : Int32) (am : Int32) (at_ : Int32) (aa : Int32) (mt_ : Int32) (wt : Int32) (wy : Int64) (it_ : Nat) (rm : Nat) (ud : Nat) (nu : Nat) (sd : Int64) (qn : Nat) (qw : Nat) (qo : Int32) (qb : Nat) (qp : Nat) (qa : Int64) (qi : Nat) (oc : Nat) (d : Nat) (nw : Nat → Int32) (hd : d < 9) (hnw : nowOk nw) : skM l yX12_wetOf cX12_wetOf 2 (some .int) 0 0 0 0 D (skT cI cJ cC cZ cS) [.ref mm, .int (nI d)] [(mm, .inr (12, mo g (nI ta) (nI pa) (nI pe) pd (nI pb) pp pf pg pn rt rn (nI cd) sn (nI il) tk am at_ aa mt_ 0 (-1) wt wy (nI it_) (nI rm) (nI ud) (nI nu) sd (nI qn) (nI qw) qo (nI qb) (nI qp) qa (nI qi) (nI oc))), (g 31, .inl (cI, 120, .inl nw))] (skI D (skT cI cJ cC cZ cS) (fun (r : Int32) (u : va_W) => r = nw (2 + 3 * d + 1) ∧ u = [(mm, .inr (12, mo g (nI ta) (nI pa) (nI pe) pd (nI pb) pp pf pg pn rt rn (nI cd) sn (nI il) tk am at_ aa mt_ 0 (-1) wt wy (nI it_) (nI rm) (nI ud) (nI nu) sd (nI qn) (nI qw) qo (nI qb) (nI qp) qa (nI qi) (nI oc))), (g 31, .inl (cI, 120, .inl nw))])) := by
  refine skM_of (by decide +kernel) (Nat.le_of_ble_eq_true rfl) ?_
  intro p e s m below meth c A ls E hP hD hl
  obtain ⟨hx, hb, hr, hml, hlocks, hin, hown, hts, hK, hA⟩ := E
  have hown : s.vm.findClass RX12 = some m.cls := hown
  have hS : va_S A s.heap s.heap [] := va_S.rf
  have hl : lv_has ls 2 [(0, .ref mm), (1, .int (nI d))] := hl
  refine lv_aload_n hx hb dX12_wetOf_0 rfl (lv_at hl 0 rfl) ?_
  refine sk_get (v := .ref (g 31)) (C := RX12) (T := TX12) (N := 92) hx hb hts inlX12 hown hK hP 0 rfl rfl 31 (by decide) w_5_186 rfl dX12_wetOf_1 ?_
  refine lv_iconst (v := 2) hx hb dX12_wetOf_4 (by decide) ?_
  refine lv_iconst (v := 3) hx hb dX12_wetOf_5 (by decide) ?_
  refine lv_iload_n hx hb dX12_wetOf_6 rfl (lv_at hl 1 rfl) ?_
  refine lv_imul hx hb dX12_wetOf_7 ?_
  refine sk_top (nI (3 * d)) (nmul 3 d) ?_
  refine lv_iadd hx hb dX12_wetOf_8 ?_
  refine sk_top (nI (2 + (3 * d))) (nI_add 2 (3 * d)) ?_
  refine lv_iconst (v := 1) hx hb dX12_wetOf_9 (by decide) ?_
  refine lv_iadd hx hb dX12_wetOf_10 ?_
  refine sk_top (nI (2 + (3 * d) + 1)) (nI_add (2 + (3 * d)) 1) ?_
  refine va_iald hx hb hK.1 hP 1 0 rfl rfl (vin (2 + (3 * d) + 1) 120 (by omega) (by omega)) dX12_wetOf_11 ?_
  refine sk_top (nw (2 + 3 * d + 1)) (by rw [nI_clamp (by omega)]) ?_
  exact sk_iret hx hb hr rfl hlocks hK hP hD hS (⟨rfl, rfl⟩) (Nat.le_of_ble_eq_true rfl) (Nat.le_of_ble_eq_true rfl) dX12_wetOf_12
set_option maxHeartbeats 4000000 in
set_option maxRecDepth 100000 in
theorem c_nm_qPartOf (l : Launch) (D : va_G) (cI cJ cC cZ cS : ClassId) (mm : Nat) (g : Nat → Nat) (ta : Nat) (pa : Nat) (pe : Nat) (pd : Int32) (pb : Nat) (pp : Int32) (pf : Int32) (pg : Int32) (pn : Int32) (rt : Int32) (rn : Int32) (cd : Nat) (sn : Int32) (il : Nat) (tk : Int32) (am : Int32) (at_ : Int32) (aa : Int32) (mt_ : Int32) (wt : Int32) (wy : Int64) (it_ : Nat) (rm : Nat) (ud : Nat) (nu : Nat) (sd : Int64) (qn : Nat) (qw : Nat) (qo : Int32) (qb : Nat) (qp : Nat) (qa : Int64) (qi : Nat) (oc : Nat) (k : Nat) (d : Nat) (nw : Nat → Int32) (pt : Nat → Nat) (nm : Nat → Int64) (hd : d < 9) (hk7 : k < 7) (hnm : mnO nm am at_ aa nw d) (hnw : nowOk nw) (hpt : ∀ j, pt j ≤ 9) : skM l yX12_qPartOf cX12_qPartOf 3 (some .long) 1 21 0 0 D (skT cI cJ cC cZ cS) [.ref mm, .int (nI k), .int (nI d)] [(mm, .inr (12, mo g (nI ta) (nI pa) (nI pe) pd (nI pb) pp pf pg pn rt rn (nI cd) sn (nI il) tk am at_ aa mt_ 0 (-1) wt wy (nI it_) (nI rm) (nI ud) (nI nu) sd (nI qn) (nI qw) qo (nI qb) (nI qp) qa (nI qi) (nI oc))), (g 31, .inl (cI, 120, .inl nw)), (g 46, .inl (cI, 9, .inl (fun j => nI (pt j))))] (skL D (skT cI cJ cC cZ cS) (fun (r : Int64) (u : va_W) => r = nm k ∧ u = [(mm, .inr (12, mo g (nI ta) (nI pa) (nI pe) pd (nI pb) pp pf pg pn rt rn (nI cd) sn (nI il) tk am at_ aa mt_ 0 (-1) wt wy (nI it_) (nI rm) (nI ud) (nI nu) sd (nI qn) (nI qw) qo (nI qb) (nI qp) qa (nI qi) (nI oc))), (g 31, .inl (cI, 120, .inl nw)), (g 46, .inl (cI, 9, .inl (fun j => nI (pt j))))])) := by
  refine skM_of (by decide +kernel) (Nat.le_of_ble_eq_true rfl) ?_
  intro p e s m below meth c A ls E hP hD hl
  obtain ⟨hx, hb, hr, hml, hlocks, hin, hown, hts, hK, hA⟩ := E
  have hown : s.vm.findClass RX12 = some m.cls := hown
  have hS : va_S A s.heap s.heap [] := va_S.rf
  have hl : lv_has ls 3 [(0, .ref mm), (1, .int (nI k)), (2, .int (nI d))] := hl
  refine lv_iload_n hx hb dX12_qPartOf_0 rfl (lv_at hl 1 rfl) ?_
  by_cases g_1 : nI k = 0
  · refine lv_tableIn (off := 51) (tgt := 52) hx hb dX12_qPartOf_1 (by rw [g_1]; decide) (by rw [g_1]; decide) (by rw [g_1]; rfl) (by decide) ?_
    refine lv_aload_n hx hb dX12_qPartOf_52 rfl (lv_at hl 0 rfl) ?_
    refine sk_get (v := .int am) (C := RX12) (T := TX12) (N := 92) hx hb hts inlX12 hown hK hP 0 rfl rfl 33 (by decide) w_5_188 rfl dX12_qPartOf_53 ?_
    refine lv_i2l hx hb dX12_qPartOf_56 rfl ?_
    exact sk_lret hx hb hr hlocks hK hP hD hS (⟨(by obtain rfl := mn_k (j := 0) g_1 hk7 (by decide); exact hnm.1), rfl⟩) (Nat.le_of_ble_eq_true rfl) (Nat.le_of_ble_eq_true rfl) dX12_qPartOf_57
  by_cases g_2 : nI k = 1
  · refine lv_tableIn (off := 57) (tgt := 58) hx hb dX12_qPartOf_1 (by rw [g_2]; decide) (by rw [g_2]; decide) (by rw [g_2]; rfl) (by decide) ?_
    refine lv_aload_n hx hb dX12_qPartOf_58 rfl (lv_at hl 0 rfl) ?_
    refine lv_iload_n hx hb dX12_qPartOf_59 rfl (lv_at hl 2 rfl) ?_
    refine sk_Vi (q0 := 0) (n := 1) (rest := []) (wr := [(g 46, .inl (cI, 9, .inl (fun j => nI (pt j))))]) ⟨hx, hb, hml, hown, hts⟩ hl.1 (c_nm_bargeOf l D cI cJ cC cZ cS mm g ta pa pe pd pb pp pf pg pn rt rn cd sn il tk am at_ aa mt_ wt wy it_ rm ud nu sd qn qw qo qb qp qa qi oc d nw (by omega) hnw) w_7_147 w_7_149 w_0_78 w_1_14 w_7_150 (by decide +kernel) ⟨⟨(Nat.le_of_ble_eq_true rfl), (Nat.le_of_ble_eq_true rfl)⟩, (Nat.le_of_ble_eq_true rfl), (Nat.le_of_ble_eq_true rfl)⟩ hK hP hD hS hA [0, 1] [2] rfl rfl (by decide +kernel) (by decide +kernel) (by decide +kernel) rfl rfl rfl rfl (Nat.le_of_ble_eq_true rfl) dX12_qPartOf_60 (fun r_3 u H locs hw hP hD hS => ?_)
    obtain ⟨hr_4, rfl⟩ := hw
    have hP : va_P D vwCl [(g 46, .inl (cI, 9, .inl (fun j => nI (pt j)))), (mm, .inr (12, mo g (nI ta) (nI pa) (nI pe) pd (nI pb) pp pf pg pn rt rn (nI cd) sn (nI il) tk am at_ aa mt_ 0 (-1) wt wy (nI it_) (nI rm) (nI ud) (nI nu) sd (nI qn) (nI qw) qo (nI qb) (nI qp) qa (nI qi) (nI oc))), (g 31, .inl (cI, 120, .inl nw))] H := hP
    have hD : va_D A [(g 46, .inl (cI, 9, .inl (fun j => nI (pt j)))), (mm, .inr (12, mo g (nI ta) (nI pa) (nI pe) pd (nI pb) pp pf pg pn rt rn (nI cd) sn (nI il) tk am at_ aa mt_ 0 (-1) wt wy (nI it_) (nI rm) (nI ud) (nI nu) sd (nI qn) (nI qw) qo (nI qb) (nI qp) qa (nI qi) (nI oc))), (g 31, .inl (cI, 120, .inl nw))] := hD
    subst hr_4
    refine lv_i2l hx hb dX12_qPartOf_63 rfl ?_
    have hP := hP.sub (ws' := [(mm, .inr (12, mo g (nI ta) (nI pa) (nI pe) pd (nI pb) pp pf pg pn rt rn (nI cd) sn (nI il) tk am at_ aa mt_ 0 (-1) wt wy (nI it_) (nI rm) (nI ud) (nI nu) sd (nI qn) (nI qw) qo (nI qb) (nI qp) qa (nI qi) (nI oc))), (g 31, .inl (cI, 120, .inl nw)), (g 46, .inl (cI, 9, .inl (fun j => nI (pt j))))]) [1, 2, 0] rfl
    have hD := hD.sub (ws' := [(mm, .inr (12, mo g (nI ta) (nI pa) (nI pe) pd (nI pb) pp pf pg pn rt rn (nI cd) sn (nI il) tk am at_ aa mt_ 0 (-1) wt wy (nI it_) (nI rm) (nI ud) (nI nu) sd (nI qn) (nI qw) qo (nI qb) (nI qp) qa (nI qi) (nI oc))), (g 31, .inl (cI, 120, .inl nw)), (g 46, .inl (cI, 9, .inl (fun j => nI (pt j))))]) [1, 2, 0] (by decide +kernel) rfl
    exact sk_lret hx hb hr hlocks hK hP hD hS (⟨(by obtain rfl := mn_k (j := 1) g_2 hk7 (by decide); exact hnm.2.1), rfl⟩) (Nat.le_of_ble_eq_true rfl) (Nat.le_of_ble_eq_true rfl) dX12_qPartOf_64
  by_cases g_5 : nI k = 2
  · refine lv_tableIn (off := 64) (tgt := 65) hx hb dX12_qPartOf_1 (by rw [g_5]; decide) (by rw [g_5]; decide) (by rw [g_5]; rfl) (by decide) ?_
    refine lv_aload_n hx hb dX12_qPartOf_65 rfl (lv_at hl 0 rfl) ?_
    refine lv_iload_n hx hb dX12_qPartOf_66 rfl (lv_at hl 2 rfl) ?_
    refine sk_Vi (q0 := 0) (n := 1) (rest := []) (wr := [(g 46, .inl (cI, 9, .inl (fun j => nI (pt j))))]) ⟨hx, hb, hml, hown, hts⟩ hl.1 (c_nm_wetOf l D cI cJ cC cZ cS mm g ta pa pe pd pb pp pf pg pn rt rn cd sn il tk am at_ aa mt_ wt wy it_ rm ud nu sd qn qw qo qb qp qa qi oc d nw (by omega) hnw) w_7_151 w_7_153 w_0_79 w_1_14 w_7_154 (by decide +kernel) ⟨⟨(Nat.le_of_ble_eq_true rfl), (Nat.le_of_ble_eq_true rfl)⟩, (Nat.le_of_ble_eq_true rfl), (Nat.le_of_ble_eq_true rfl)⟩ hK hP hD hS hA [0, 1] [2] rfl rfl (by decide +kernel) (by decide +kernel) (by decide +kernel) rfl rfl rfl rfl (Nat.le_of_ble_eq_true rfl) dX12_qPartOf_67 (fun r_6 u H locs hw hP hD hS => ?_)
    obtain ⟨hr_7, rfl⟩ := hw
    have hP : va_P D vwCl [(g 46, .inl (cI, 9, .inl (fun j => nI (pt j)))), (mm, .inr (12, mo g (nI ta) (nI pa) (nI pe) pd (nI pb) pp pf pg pn rt rn (nI cd) sn (nI il) tk am at_ aa mt_ 0 (-1) wt wy (nI it_) (nI rm) (nI ud) (nI nu) sd (nI qn) (nI qw) qo (nI qb) (nI qp) qa (nI qi) (nI oc))), (g 31, .inl (cI, 120, .inl nw))] H := hP
    have hD : va_D A [(g 46, .inl (cI, 9, .inl (fun j => nI (pt j)))), (mm, .inr (12, mo g (nI ta) (nI pa) (nI pe) pd (nI pb) pp pf pg pn rt rn (nI cd) sn (nI il) tk am at_ aa mt_ 0 (-1) wt wy (nI it_) (nI rm) (nI ud) (nI nu) sd (nI qn) (nI qw) qo (nI qb) (nI qp) qa (nI qi) (nI oc))), (g 31, .inl (cI, 120, .inl nw))] := hD
    subst hr_7
    refine lv_i2l hx hb dX12_qPartOf_70 rfl ?_
    have hP := hP.sub (ws' := [(mm, .inr (12, mo g (nI ta) (nI pa) (nI pe) pd (nI pb) pp pf pg pn rt rn (nI cd) sn (nI il) tk am at_ aa mt_ 0 (-1) wt wy (nI it_) (nI rm) (nI ud) (nI nu) sd (nI qn) (nI qw) qo (nI qb) (nI qp) qa (nI qi) (nI oc))), (g 31, .inl (cI, 120, .inl nw)), (g 46, .inl (cI, 9, .inl (fun j => nI (pt j))))]) [1, 2, 0] rfl
    have hD := hD.sub (ws' := [(mm, .inr (12, mo g (nI ta) (nI pa) (nI pe) pd (nI pb) pp pf pg pn rt rn (nI cd) sn (nI il) tk am at_ aa mt_ 0 (-1) wt wy (nI it_) (nI rm) (nI ud) (nI nu) sd (nI qn) (nI qw) qo (nI qb) (nI qp) qa (nI qi) (nI oc))), (g 31, .inl (cI, 120, .inl nw)), (g 46, .inl (cI, 9, .inl (fun j => nI (pt j))))]) [1, 2, 0] (by decide +kernel) rfl
    exact sk_lret hx hb hr hlocks hK hP hD hS (⟨(by obtain rfl := mn_k (j := 2) g_5 hk7 (by decide); exact hnm.2.2.1), rfl⟩) (Nat.le_of_ble_eq_true rfl) (Nat.le_of_ble_eq_true rfl) dX12_qPartOf_71
  by_cases g_8 : nI k = 3
  · refine lv_tableIn (off := 71) (tgt := 72) hx hb dX12_qPartOf_1 (by rw [g_8]; decide) (by rw [g_8]; decide) (by rw [g_8]; rfl) (by decide) ?_
    refine lv_iload_n hx hb dX12_qPartOf_72 rfl (lv_at hl 2 rfl) ?_
    refine lv_i2l hx hb dX12_qPartOf_73 rfl ?_
    exact sk_lret hx hb hr hlocks hK hP hD hS (⟨(by obtain rfl := mn_k (j := 3) g_8 hk7 (by decide); exact hnm.2.2.2.1), rfl⟩) (Nat.le_of_ble_eq_true rfl) (Nat.le_of_ble_eq_true rfl) dX12_qPartOf_74
  by_cases g_9 : nI k = 4
  · refine lv_tableIn (off := 74) (tgt := 75) hx hb dX12_qPartOf_1 (by rw [g_9]; decide) (by rw [g_9]; decide) (by rw [g_9]; rfl) (by decide) ?_
    refine lv_aload_n hx hb dX12_qPartOf_75 rfl (lv_at hl 0 rfl) ?_
    refine sk_get (v := .ref (g 31)) (C := RX12) (T := TX12) (N := 92) hx hb hts inlX12 hown hK hP 0 rfl rfl 31 (by decide) w_5_186 rfl dX12_qPartOf_76 ?_
    refine lv_iconst (v := 0) hx hb dX12_qPartOf_79 (by decide) ?_
    refine va_iald hx hb hK.1 hP 1 0 rfl rfl (by unfold vp_in; decide) dX12_qPartOf_80 ?_
    refine sk_top (nw 0) (rfl) ?_
    refine lv_i2l hx hb dX12_qPartOf_81 rfl ?_
    exact sk_lret hx hb hr hlocks hK hP hD hS (⟨(by obtain rfl := mn_k (j := 4) g_9 hk7 (by decide); exact hnm.2.2.2.2.1), rfl⟩) (Nat.le_of_ble_eq_true rfl) (Nat.le_of_ble_eq_true rfl) dX12_qPartOf_82
  by_cases g_10 : nI k = 5
  · refine lv_tableIn (off := 82) (tgt := 83) hx hb dX12_qPartOf_1 (by rw [g_10]; decide) (by rw [g_10]; decide) (by rw [g_10]; rfl) (by decide) ?_
    refine lv_aload_n hx hb dX12_qPartOf_83 rfl (lv_at hl 0 rfl) ?_
    refine sk_get (v := .int at_) (C := RX12) (T := TX12) (N := 92) hx hb hts inlX12 hown hK hP 0 rfl rfl 34 (by decide) w_5_189 rfl dX12_qPartOf_84 ?_
    refine lv_i2l hx hb dX12_qPartOf_87 rfl ?_
    exact sk_lret hx hb hr hlocks hK hP hD hS (⟨(by obtain rfl := mn_k (j := 5) g_10 hk7 (by decide); exact hnm.2.2.2.2.2.1), rfl⟩) (Nat.le_of_ble_eq_true rfl) (Nat.le_of_ble_eq_true rfl) dX12_qPartOf_88
  by_cases g_11 : nI k = 6
  · refine lv_tableIn (off := 88) (tgt := 89) hx hb dX12_qPartOf_1 (by rw [g_11]; decide) (by rw [g_11]; decide) (by rw [g_11]; rfl) (by decide) ?_
    refine lv_aload_n hx hb dX12_qPartOf_89 rfl (lv_at hl 0 rfl) ?_
    refine sk_get (v := .int aa) (C := RX12) (T := TX12) (N := 92) hx hb hts inlX12 hown hK hP 0 rfl rfl 35 (by decide) w_5_190 rfl dX12_qPartOf_90 ?_
    refine lv_i2l hx hb dX12_qPartOf_93 rfl ?_
    exact sk_lret hx hb hr hlocks hK hP hD hS (⟨(by obtain rfl := mn_k (j := 6) g_11 hk7 (by decide); exact hnm.2.2.2.2.2.2), rfl⟩) (Nat.le_of_ble_eq_true rfl) (Nat.le_of_ble_eq_true rfl) dX12_qPartOf_94
  by_cases g_12 : nI k = 7
  · refine lv_tableIn (off := 94) (tgt := 95) hx hb dX12_qPartOf_1 (by rw [g_12]; decide) (by rw [g_12]; decide) (by rw [g_12]; rfl) (by decide) ?_
    refine lv_iload_n hx hb dX12_qPartOf_95 rfl (lv_at hl 2 rfl) ?_
    refine lv_i2l hx hb dX12_qPartOf_96 rfl ?_
    exact sk_lret hx hb hr hlocks hK hP hD hS (⟨mn_x (j := 7) g_12 hk7 (by decide) (by decide), rfl⟩) (Nat.le_of_ble_eq_true rfl) (Nat.le_of_ble_eq_true rfl) dX12_qPartOf_97
  by_cases g_13 : nI k = 8
  · refine lv_tableIn (off := 97) (tgt := 98) hx hb dX12_qPartOf_1 (by rw [g_13]; decide) (by rw [g_13]; decide) (by rw [g_13]; rfl) (by decide) ?_
    refine lv_aload_n hx hb dX12_qPartOf_98 rfl (lv_at hl 0 rfl) ?_
    refine lv_iload_n hx hb dX12_qPartOf_99 rfl (lv_at hl 2 rfl) ?_
    refine sk_Vi (q0 := 0) (n := 1) (rest := []) (wr := [(g 46, .inl (cI, 9, .inl (fun j => nI (pt j))))]) ⟨hx, hb, hml, hown, hts⟩ hl.1 (c_m_isMute l D cI cJ cC cZ cS mm g ta pa pe pd pb pp pf pg pn rt rn cd sn il tk am at_ aa mt_ 0 (-1) wt wy it_ rm ud nu sd qn qw qo qb qp qa qi oc d nw (by omega) hnw) w_7_106 w_7_108 w_0_71 w_1_14 w_7_109 (by decide +kernel) ⟨⟨(Nat.le_of_ble_eq_true rfl), (Nat.le_of_ble_eq_true rfl)⟩, (Nat.le_of_ble_eq_true rfl), (Nat.le_of_ble_eq_true rfl)⟩ hK hP hD hS hA [0, 1] [2] rfl rfl (by decide +kernel) (by decide +kernel) (by decide +kernel) rfl rfl rfl rfl (Nat.le_of_ble_eq_true rfl) dX12_qPartOf_100 (fun r_15 u H locs hw hP hD hS => ?_)
    obtain ⟨b_14, hb1_16, hb2_17, rfl, rfl⟩ := hw
    have hP : va_P D vwCl [(g 46, .inl (cI, 9, .inl (fun j => nI (pt j)))), (mm, .inr (12, mo g (nI ta) (nI pa) (nI pe) pd (nI pb) pp pf pg pn rt rn (nI cd) sn (nI il) tk am at_ aa mt_ 0 (-1) wt wy (nI it_) (nI rm) (nI ud) (nI nu) sd (nI qn) (nI qw) qo (nI qb) (nI qp) qa (nI qi) (nI oc))), (g 31, .inl (cI, 120, .inl nw))] H := hP
    have hD : va_D A [(g 46, .inl (cI, 9, .inl (fun j => nI (pt j)))), (mm, .inr (12, mo g (nI ta) (nI pa) (nI pe) pd (nI pb) pp pf pg pn rt rn (nI cd) sn (nI il) tk am at_ aa mt_ 0 (-1) wt wy (nI it_) (nI rm) (nI ud) (nI nu) sd (nI qn) (nI qw) qo (nI qb) (nI qp) qa (nI qi) (nI oc))), (g 31, .inl (cI, 120, .inl nw))] := hD
    refine lv_if_eq (tgt := 110) hx hb dX12_qPartOf_103 (by decide) (fun c_18 => ?_) (fun c_18 => ?_)
    · have c_18 : b_14 = 0 := (neq b_14 0 (by omega) (by omega)).mp c_18
      refine lv_lconst (v := 0) hx hb dX12_qPartOf_110 (by decide) ?_
      have hP := hP.sub (ws' := [(mm, .inr (12, mo g (nI ta) (nI pa) (nI pe) pd (nI pb) pp pf pg pn rt rn (nI cd) sn (nI il) tk am at_ aa mt_ 0 (-1) wt wy (nI it_) (nI rm) (nI ud) (nI nu) sd (nI qn) (nI qw) qo (nI qb) (nI qp) qa (nI qi) (nI oc))), (g 31, .inl (cI, 120, .inl nw)), (g 46, .inl (cI, 9, .inl (fun j => nI (pt j))))]) [1, 2, 0] rfl
      have hD := hD.sub (ws' := [(mm, .inr (12, mo g (nI ta) (nI pa) (nI pe) pd (nI pb) pp pf pg pn rt rn (nI cd) sn (nI il) tk am at_ aa mt_ 0 (-1) wt wy (nI it_) (nI rm) (nI ud) (nI nu) sd (nI qn) (nI qw) qo (nI qb) (nI qp) qa (nI qi) (nI oc))), (g 31, .inl (cI, 120, .inl nw)), (g 46, .inl (cI, 9, .inl (fun j => nI (pt j))))]) [1, 2, 0] (by decide +kernel) rfl
      exact sk_lret hx hb hr hlocks hK hP hD hS (⟨mn_x (j := 8) g_13 hk7 (by decide) (by decide), rfl⟩) (Nat.le_of_ble_eq_true rfl) (Nat.le_of_ble_eq_true rfl) dX12_qPartOf_111
    · have c_18 : ¬ (b_14 = 0) := fun h => c_18 ((neq b_14 0 (by omega) (by omega)).mpr h)
      refine lv_lconst (v := 1) hx hb dX12_qPartOf_106 (by decide) ?_
      refine lv_goto (tgt := 111) hx hb dX12_qPartOf_107 (by decide) ?_
      have hP := hP.sub (ws' := [(mm, .inr (12, mo g (nI ta) (nI pa) (nI pe) pd (nI pb) pp pf pg pn rt rn (nI cd) sn (nI il) tk am at_ aa mt_ 0 (-1) wt wy (nI it_) (nI rm) (nI ud) (nI nu) sd (nI qn) (nI qw) qo (nI qb) (nI qp) qa (nI qi) (nI oc))), (g 31, .inl (cI, 120, .inl nw)), (g 46, .inl (cI, 9, .inl (fun j => nI (pt j))))]) [1, 2, 0] rfl
      have hD := hD.sub (ws' := [(mm, .inr (12, mo g (nI ta) (nI pa) (nI pe) pd (nI pb) pp pf pg pn rt rn (nI cd) sn (nI il) tk am at_ aa mt_ 0 (-1) wt wy (nI it_) (nI rm) (nI ud) (nI nu) sd (nI qn) (nI qw) qo (nI qb) (nI qp) qa (nI qi) (nI oc))), (g 31, .inl (cI, 120, .inl nw)), (g 46, .inl (cI, 9, .inl (fun j => nI (pt j))))]) [1, 2, 0] (by decide +kernel) rfl
      exact sk_lret hx hb hr hlocks hK hP hD hS (⟨mn_x (j := 8) g_13 hk7 (by decide) (by decide), rfl⟩) (Nat.le_of_ble_eq_true rfl) (Nat.le_of_ble_eq_true rfl) dX12_qPartOf_111
  refine lv_tableOut (tgt := 112) hx hb dX12_qPartOf_1 (sk_out (n := 8) (by intro k hk; rcases (show k = 0 ∨ k = 1 ∨ k = 2 ∨ k = 3 ∨ k = 4 ∨ k = 5 ∨ k = 6 ∨ k = 7 ∨ k = 8 by omega) with rfl | rfl | rfl | rfl | rfl | rfl | rfl | rfl | rfl <;> assumption)) (by decide) ?_
  refine lv_aload_n hx hb dX12_qPartOf_112 rfl (lv_at hl 0 rfl) ?_
  refine sk_get (v := .long wy) (C := RX12) (T := TX12) (N := 92) hx hb hts inlX12 hown hK hP 0 rfl rfl 45 (by decide) w_5_200 rfl dX12_qPartOf_113 ?_
  refine lv_lconst (v := 0) hx hb dX12_qPartOf_116 (by decide) ?_
  refine W.lcmp hx hb dX12_qPartOf_117 ?_
  refine lv_if_ne (tgt := 127) hx hb dX12_qPartOf_118 (by decide) (fun c_19 => ?_) (fun c_19 => ?_)
  · skip
    refine lv_aload_n hx hb dX12_qPartOf_127 rfl (lv_at hl 0 rfl) ?_
    refine sk_get (v := .ref (g 46)) (C := RX12) (T := TX12) (N := 92) hx hb hts inlX12 hown hK hP 0 rfl rfl 46 (by decide) w_5_201 rfl dX12_qPartOf_128 ?_
    refine lv_iload_n hx hb dX12_qPartOf_131 rfl (lv_at hl 2 rfl) ?_
    refine va_iald hx hb hK.1 hP 2 0 rfl rfl (vin d 9 (by omega) (by omega)) dX12_qPartOf_132 ?_
    refine sk_top (nI (pt d)) (nrd pt d (by omega)) ?_
    have hb_20 := hpt d
    refine lv_i2l hx hb dX12_qPartOf_133 rfl ?_
    exact sk_lret hx hb hr hlocks hK hP hD hS (⟨(mn_f hk7 (by assumption) (by assumption) (by assumption) (by assumption) (by assumption) (by assumption) (by assumption)).elim, rfl⟩) (Nat.le_of_ble_eq_true rfl) (Nat.le_of_ble_eq_true rfl) dX12_qPartOf_134
  · skip
    refine lv_ldc2 (v := (-1)) hx hb hown (hts _ w_7_155) dX12_qPartOf_121 ?_
    refine lv_goto (tgt := 134) hx hb dX12_qPartOf_124 (by decide) ?_
    exact sk_lret hx hb hr hlocks hK hP hD hS (⟨(mn_f hk7 (by assumption) (by assumption) (by assumption) (by assumption) (by assumption) (by assumption) (by assumption)).elim, rfl⟩) (Nat.le_of_ble_eq_true rfl) (Nat.le_of_ble_eq_true rfl) dX12_qPartOf_134
set_option maxHeartbeats 4000000 in
set_option maxRecDepth 100000 in
theorem c_nm_codesTell0 (l : Launch) (D : va_G) (cI cJ cC cZ cS : ClassId) (mm : Nat) (g : Nat → Nat) (ta : Nat) (pa : Nat) (pe : Nat) (pd : Int32) (pb : Nat) (pp : Int32) (pf : Int32) (pg : Int32) (pn : Int32) (rt : Int32) (rn : Int32) (cd : Nat) (sn : Int32) (il : Nat) (tk : Int32) (am : Int32) (at_ : Int32) (aa : Int32) (mt_ : Int32) (wt : Int32) (wy : Int64) (it_ : Nat) (rm : Nat) (ud : Nat) (nu : Nat) (sd : Int64) (qn : Nat) (qw : Nat) (qo : Int32) (qb : Nat) (qp : Nat) (qa : Int64) (qi : Nat) (oc : Nat) (d : Nat) (u0 : Int32) (u1 : Int32) (u2 : Int32) (u4 : Int32) (u5 : Int32) (ca : Nat) (v0 : Int32) (v1 : Int32) (v2 : Int32) (v4 : Int32) (v5 : Int32) (cb : Nat) (cs : Nat → Nat) (nw : Nat → Int32) (pt : Nat → Nat) (ql : Nat → Int64) (K : List Nat) (nm : Nat → Int64) (v : Int64) (kn : Nat) (hd : d < 9) (hab : ca ≤ cb) (hbk : cb ≤ K.length) (hkl : K.length ≤ 1600) (hKc : ∀ j, j < K.length → cs (1600 + j) = K.getD j 0) (hkn : kn < 2) (hns : kcNs kn (kcSub K (ca, cb))) (hnm : mnO nm am at_ aa nw d) (hex : kcEx nm 64 (kcSub K (ca, cb)) [] = some [v]) (hcs : ∀ j, cs j ≤ 20000) (hnw : nowOk nw) (hpt : ∀ j, pt j ≤ 9) : skM l yX12_codesTell cX12_codesTell 5 (some .long) 2 50 0 0 D (skT cI cJ cC cZ cS) [.ref mm, .int 0, .int (nI d)] [(mm, .inr (12, mo g (nI ta) (nI pa) (nI pe) pd (nI pb) pp pf pg pn rt rn (nI cd) sn (nI il) tk am at_ aa mt_ 0 (-1) wt wy (nI it_) (nI rm) (nI ud) (nI nu) sd (nI qn) (nI qw) qo (nI qb) (nI qp) qa (nI qi) (nI oc))), (g 24, .inl (cI, 6, .inl (l6 u0 u1 u2 (nI ca) u4 u5))), (g 25, .inl (cI, 6, .inl (l6 v0 v1 v2 (nI cb) v4 v5))), (g 26, .inl (cI, 3200, .inl (fun j => nI (cs j)))), (g 31, .inl (cI, 120, .inl nw)), (g 46, .inl (cI, 9, .inl (fun j => nI (pt j)))), (g 86, .inl (cJ, 1700, .inr (.inl ql)))] (skL D (skT cI cJ cC cZ cS) (fun (r : Int64) (u : va_W) => ∃ (qp2 : Nat), ∃ (ql2 : Nat → Int64), r = v ∧ u = [(mm, .inr (12, mo g (nI ta) (nI pa) (nI pe) pd (nI pb) pp pf pg pn rt rn (nI cd) sn (nI il) 0 am at_ aa mt_ 0 (-1) wt wy (nI it_) (nI rm) (nI ud) (nI nu) sd (nI qn) (nI qw) qo (nI qb) (nI qp2) qa (nI qi) (nI oc))), (g 24, .inl (cI, 6, .inl (l6 u0 u1 u2 (nI ca) u4 u5))), (g 25, .inl (cI, 6, .inl (l6 v0 v1 v2 (nI cb) v4 v5))), (g 26, .inl (cI, 3200, .inl (fun j => nI (cs j)))), (g 31, .inl (cI, 120, .inl nw)), (g 46, .inl (cI, 9, .inl (fun j => nI (pt j)))), (g 86, .inl (cJ, 1700, .inr (.inl ql2)))])) := by
  refine skM_of (by decide +kernel) (Nat.le_of_ble_eq_true rfl) ?_
  intro p e s m below meth c A ls E hP hD hl
  obtain ⟨hx, hb, hr, hml, hlocks, hin, hown, hts, hK, hA⟩ := E
  have hown : s.vm.findClass RX12 = some m.cls := hown
  have hS : va_S A s.heap s.heap [] := va_S.rf
  have hl : lv_has ls 5 [(0, .ref mm), (1, .int 0), (2, .int (nI d))] := hl
  refine lv_aload_n hx hb dX12_codesTell_0 rfl (lv_at hl 0 rfl) ?_
  refine lv_iload_n hx hb dX12_codesTell_1 rfl (lv_at hl 1 rfl) ?_
  refine lv_iconst (v := 1) hx hb dX12_codesTell_2 (by decide) ?_
  refine lv_icmp_ne (tgt := 10) hx hb dX12_codesTell_3 (by decide) (fun c_1 => ?_) (fun c => absurd c (by decide))
  refine lv_iconst (v := 0) hx hb dX12_codesTell_10 (by decide) ?_
  refine sk_put (ws' := [(mm, .inr (12, mo g (nI ta) (nI pa) (nI pe) pd (nI pb) pp pf pg pn rt rn (nI cd) sn (nI il) 0 am at_ aa mt_ 0 (-1) wt wy (nI it_) (nI rm) (nI ud) (nI nu) sd (nI qn) (nI qw) qo (nI qb) (nI qp) qa (nI qi) (nI oc))), (g 24, .inl (cI, 6, .inl (l6 u0 u1 u2 (nI ca) u4 u5))), (g 25, .inl (cI, 6, .inl (l6 v0 v1 v2 (nI cb) v4 v5))), (g 26, .inl (cI, 3200, .inl (fun j => nI (cs j)))), (g 31, .inl (cI, 120, .inl nw)), (g 46, .inl (cI, 9, .inl (fun j => nI (pt j)))), (g 86, .inl (cJ, 1700, .inr (.inl ql)))]) (C := RX12) (T := TX12) (N := 92) (v := .int 0) hx hb hts inlX12 tyX12 tyX12_ok nmX12 hown hK hP hD hS 0 rfl rfl 30 (by decide) w_5_185 rfl rfl rfl (Nat.le_of_ble_eq_true rfl) rfl dX12_codesTell_11 (fun H locs hP hD hS => ?_)
  refine lv_aload_n hx hb dX12_codesTell_14 rfl (lv_at hl 0 rfl) ?_
  refine lv_iconst (v := 0) hx hb dX12_codesTell_15 (by decide) ?_
  refine sk_put (ws' := [(mm, .inr (12, mo g (nI ta) (nI pa) (nI pe) pd (nI pb) pp pf pg pn rt rn (nI cd) sn (nI il) 0 am at_ aa mt_ 0 (-1) wt wy (nI it_) (nI rm) (nI ud) (nI nu) sd (nI qn) (nI qw) qo (nI qb) 0 qa (nI qi) (nI oc))), (g 24, .inl (cI, 6, .inl (l6 u0 u1 u2 (nI ca) u4 u5))), (g 25, .inl (cI, 6, .inl (l6 v0 v1 v2 (nI cb) v4 v5))), (g 26, .inl (cI, 3200, .inl (fun j => nI (cs j)))), (g 31, .inl (cI, 120, .inl nw)), (g 46, .inl (cI, 9, .inl (fun j => nI (pt j)))), (g 86, .inl (cJ, 1700, .inr (.inl ql)))]) (C := RX12) (T := TX12) (N := 92) (v := .int 0) hx hb hts inlX12 tyX12 tyX12_ok nmX12 hown hK hP hD hS 0 rfl rfl 87 (by decide) w_6_2 rfl rfl rfl (Nat.le_of_ble_eq_true rfl) rfl dX12_codesTell_16 (fun H locs hP hD hS => ?_)
  refine lv_aload_n hx hb dX12_codesTell_19 rfl (lv_at hl 0 rfl) ?_
  refine sk_get (v := .ref (g 24)) (C := RX12) (T := TX12) (N := 92) hx hb hts inlX12 hown hK hP 0 rfl rfl 24 (by decide) w_5_179 rfl dX12_codesTell_20 ?_
  refine lv_iconst (v := 3) hx hb dX12_codesTell_23 (by decide) ?_
  refine lv_iload_n hx hb dX12_codesTell_24 rfl (lv_at hl 1 rfl) ?_
  refine lv_iadd hx hb dX12_codesTell_25 ?_
  refine sk_top 3 (by decide) ?_
  refine va_iald hx hb hK.1 hP 1 0 rfl rfl (by unfold vp_in; decide) dX12_codesTell_26 ?_
  refine sk_top (nI ca) rfl ?_
  refine lv_istore_n (lv' := [(3, .int (nI ca)), (0, .ref mm), (1, .int 0), (2, .int (nI d))]) hx hb dX12_codesTell_27 rfl hl (by decide) rfl (fun ls hl => ?_)
  have lp_2 : ∀ (n_3 : Nat) (i : Nat) (zq : Nat) (zl : Nat → Int64) (SS : List Int64) (H : Heap) (locs : List Loc) (ls : Array Slot), cb - i < n_3 → (ca ≤ i) → (i ≤ cb) → (zq = SS.length) → (zq ≤ 64) → (stkO zl SS) → (kcNs kn (kcSub K (i, cb))) → (kcEx nm 64 (kcSub K (i, cb)) SS = some [v]) → va_P D vwCl [(mm, .inr (12, mo g (nI ta) (nI pa) (nI pe) pd (nI pb) pp pf pg pn rt rn (nI cd) sn (nI il) 0 am at_ aa mt_ 0 (-1) wt wy (nI it_) (nI rm) (nI ud) (nI nu) sd (nI qn) (nI qw) qo (nI qb) (nI zq) qa (nI qi) (nI oc))), (g 24, .inl (cI, 6, .inl (l6 u0 u1 u2 (nI ca) u4 u5))), (g 25, .inl (cI, 6, .inl (l6 v0 v1 v2 (nI cb) v4 v5))), (g 26, .inl (cI, 3200, .inl (fun j => nI (cs j)))), (g 31, .inl (cI, 120, .inl nw)), (g 46, .inl (cI, 9, .inl (fun j => nI (pt j)))), (g 86, .inl (cJ, 1700, .inr (.inl zl)))] H → va_D A [(mm, .inr (12, mo g (nI ta) (nI pa) (nI pe) pd (nI pb) pp pf pg pn rt rn (nI cd) sn (nI il) 0 am at_ aa mt_ 0 (-1) wt wy (nI it_) (nI rm) (nI ud) (nI nu) sd (nI qn) (nI qw) qo (nI qb) (nI zq) qa (nI qi) (nI oc))), (g 24, .inl (cI, 6, .inl (l6 u0 u1 u2 (nI ca) u4 u5))), (g 25, .inl (cI, 6, .inl (l6 v0 v1 v2 (nI cb) v4 v5))), (g 26, .inl (cI, 3200, .inl (fun j => nI (cs j)))), (g 31, .inl (cI, 120, .inl nw)), (g 46, .inl (cI, 9, .inl (fun j => nI (pt j)))), (g 86, .inl (cJ, 1700, .inr (.inl zl)))] → va_S A s.heap H locs → lv_has ls 5 [(3, .int (nI i)), (0, .ref mm), (1, .int 0), (2, .int (nI d))] → W p l e { frames := 2, cells := 0, slots := 0, locals := 50 } s m ([.ref mm, .int 0, .int (nI d)] : List Value).toArray below meth c H locs 0 0 (MQ below (skL D (skT cI cJ cC cZ cS) (fun (r : Int64) (u : va_W) => ∃ (qp2 : Nat), ∃ (ql2 : Nat → Int64), r = v ∧ u = [(mm, .inr (12, mo g (nI ta) (nI pa) (nI pe) pd (nI pb) pp pf pg pn rt rn (nI cd) sn (nI il) 0 am at_ aa mt_ 0 (-1) wt wy (nI it_) (nI rm) (nI ud) (nI nu) sd (nI qn) (nI qw) qo (nI qb) (nI qp2) qa (nI qi) (nI oc))), (g 24, .inl (cI, 6, .inl (l6 u0 u1 u2 (nI ca) u4 u5))), (g 25, .inl (cI, 6, .inl (l6 v0 v1 v2 (nI cb) v4 v5))), (g 26, .inl (cI, 3200, .inl (fun j => nI (cs j)))), (g 31, .inl (cI, 120, .inl nw)), (g 46, .inl (cI, 9, .inl (fun j => nI (pt j)))), (g 86, .inl (cJ, 1700, .inr (.inl ql2)))]) A) ([.ref mm, .int 0, .int (nI d)] : List Value).toArray s 0 0 A) (F0 m 28 ls []) := by
    intro n_3
    induction n_3 with
    | zero => intro i zq zl SS H locs ls hm; exact absurd hm (Nat.not_lt_zero _)
    | succ n_3 ih_lp_2 =>
      intro i zq zl SS H locs ls hm hi1 hi2 hzq0 hzq1 hst hns2 hex2 hP hD hS hl
      refine lv_iload_n hx hb dX12_codesTell_28 rfl (lv_at hl 0 rfl) ?_
      refine lv_aload_n hx hb dX12_codesTell_29 rfl (lv_at hl 1 rfl) ?_
      refine sk_get (v := .ref (g 25)) (C := RX12) (T := TX12) (N := 92) hx hb hts inlX12 hown hK hP 0 rfl rfl 25 (by decide) w_5_180 rfl dX12_codesTell_30 ?_
      refine lv_iconst (v := 3) hx hb dX12_codesTell_33 (by decide) ?_
      refine lv_iload_n hx hb dX12_codesTell_34 rfl (lv_at hl 2 rfl) ?_
      refine lv_iadd hx hb dX12_codesTell_35 ?_
      refine sk_top 3 (by decide) ?_
      refine va_iald hx hb hK.1 hP 2 0 rfl rfl (by unfold vp_in; decide) dX12_codesTell_36 ?_
      refine sk_top (nI cb) rfl ?_
      refine lv_icmp_ge (tgt := 110) hx hb dX12_codesTell_37 (by decide) (fun c_4 => ?_) (fun c_4 => ?_)
      · have c_4 : cb ≤ i := (nle cb i (by omega) (by omega)).mp c_4
        obtain rfl := kx_end hex2 (by omega)
        have htp3 : zq = 1 := hzq0
        refine lv_aload_n hx hb dX12_codesTell_110 rfl (lv_at hl 1 rfl) ?_
        refine sk_get (v := .ref (g 86)) (C := RX12) (T := TX12) (N := 92) hx hb hts inlX12 hown hK hP 0 rfl rfl 86 (by decide) w_6_1 rfl dX12_codesTell_111 ?_
        refine lv_iconst (v := 0) hx hb dX12_codesTell_114 (by decide) ?_
        refine va_lald hx hb hK.1 hP 6 1 rfl rfl (by unfold vp_in; decide) dX12_codesTell_115 ?_
        refine sk_topl v (hst.1) ?_
        exact sk_lret hx hb hr hlocks hK hP hD hS (⟨zq, zl, rfl, rfl⟩) (Nat.le_of_ble_eq_true rfl) (Nat.le_of_ble_eq_true rfl) dX12_codesTell_116
      · have c_4 : ¬ (cb ≤ i) := fun h => c_4 ((nle cb i (by omega) (by omega)).mpr h)
        have hib : i < cb := by omega
        rw [kcSub_c hib (by omega), ← hKc i (by omega)] at hex2 hns2
        have hns3 : kcNs kn (kcSub K (i + 1, cb)) := fun x hx => hns2 x (List.mem_cons_of_mem _ hx)
        obtain ⟨T, hT1, hT2, hT3⟩ := kcEx_c hex2
        rcases kx_c3 hkn (hns2 _ (List.mem_cons_self ..)) with ⟨hc1, hc2⟩ | ⟨hc1, hc2⟩ | ⟨hc1, hc2⟩
        · obtain ⟨b1, a1, R1, rfl, rfl⟩ := kcSt_two (by omega) hT1
          have htp2 : zq = R1.length + 2 := hzq0
          refine lv_aload_n hx hb dX12_codesTell_40 rfl (lv_at hl 1 rfl) ?_
          refine sk_get (v := .ref (g 26)) (C := RX12) (T := TX12) (N := 92) hx hb hts inlX12 hown hK hP 0 rfl rfl 26 (by decide) w_5_181 rfl dX12_codesTell_41 ?_
          refine lv_sipush (v := 1600) hx hb dX12_codesTell_44 (by decide) ?_
          refine lv_iload_n hx hb dX12_codesTell_47 rfl (lv_at hl 0 rfl) ?_
          refine lv_iadd hx hb dX12_codesTell_48 ?_
          refine sk_top (nI (1600 + i)) (nI_add 1600 i) ?_
          refine va_iald hx hb hK.1 hP 3 0 rfl rfl (vin (1600 + i) 3200 (by omega) (by omega)) dX12_codesTell_49 ?_
          refine sk_top (nI (cs (1600 + i))) (nrd cs (1600 + i) (by omega)) ?_
          have hb_5 := hcs (1600 + i)
          refine lv_istore (lv' := [(4, .int (nI (cs (1600 + i)))), (3, .int (nI i)), (0, .ref mm), (1, .int 0), (2, .int (nI d))]) hx hb dX12_codesTell_50 hl (by decide) rfl (fun ls hl => ?_)
          refine lv_iload hx hb dX12_codesTell_52 (lv_at hl 0 rfl) ?_
          refine lv_sipush (v := 1000) hx hb dX12_codesTell_54 (by decide) ?_
          refine lv_icmp_lt (tgt := 74) hx hb dX12_codesTell_57 (by decide) (fun c_6 => ?_) (fun c => absurd ((nlt (cs (1600 + i)) 1000 (by omega) (by omega)).mpr (by omega)) c)
          refine lv_iload hx hb dX12_codesTell_74 (lv_at hl 0 rfl) ?_
          refine lv_bipush (v := 40) hx hb dX12_codesTell_76 (by decide) ?_
          refine lv_icmp_lt (tgt := 98) hx hb dX12_codesTell_78 (by decide) (fun c_7 => ?_) (fun c => absurd ((nlt (cs (1600 + i)) 40 (by omega) (by omega)).mpr (by omega)) c)
          refine lv_aload_n hx hb dX12_codesTell_98 rfl (lv_at hl 2 rfl) ?_
          refine lv_iload hx hb dX12_codesTell_99 (lv_at hl 0 rfl) ?_
          refine sk_Vv (q0 := 0) (n := 1) (rest := []) (wr := [(g 24, .inl (cI, 6, .inl (l6 u0 u1 u2 (nI ca) u4 u5))), (g 25, .inl (cI, 6, .inl (l6 v0 v1 v2 (nI cb) v4 v5))), (g 26, .inl (cI, 3200, .inl (fun j => nI (cs j)))), (g 31, .inl (cI, 120, .inl nw)), (g 46, .inl (cI, 9, .inl (fun j => nI (pt j))))]) ⟨hx, hb, hml, hown, hts⟩ hl.1 (c_nm_qJoins l D cI cJ cC cZ cS mm g ta pa pe pd pb pp pf pg pn rt rn cd sn il 0 am at_ aa mt_ wt wy it_ rm ud nu sd qn qw qo qb zq qa qi oc (cs (1600 + i)) zl a1 b1 R1 (by omega) (by omega) hst (by omega) (by omega)) w_7_156 w_7_158 w_0_80 w_1_14 w_7_159 (by decide +kernel) ⟨⟨(Nat.le_of_ble_eq_true rfl), (Nat.le_of_ble_eq_true rfl)⟩, (Nat.le_of_ble_eq_true rfl), (Nat.le_of_ble_eq_true rfl)⟩ hK hP hD hS hA [0, 6] [1, 2, 3, 4, 5] rfl rfl (by decide +kernel) (by decide +kernel) (by decide +kernel) rfl rfl rfl rfl (Nat.le_of_ble_eq_true rfl) dX12_codesTell_101 (fun u H locs hw hP hD hS => ?_)
          obtain ⟨ql2_8, hst2_9, rfl⟩ := hw
          have hP : va_P D vwCl [(g 24, .inl (cI, 6, .inl (l6 u0 u1 u2 (nI ca) u4 u5))), (g 25, .inl (cI, 6, .inl (l6 v0 v1 v2 (nI cb) v4 v5))), (g 26, .inl (cI, 3200, .inl (fun j => nI (cs j)))), (g 31, .inl (cI, 120, .inl nw)), (g 46, .inl (cI, 9, .inl (fun j => nI (pt j)))), (mm, .inr (12, mo g (nI ta) (nI pa) (nI pe) pd (nI pb) pp pf pg pn rt rn (nI cd) sn (nI il) 0 am at_ aa mt_ 0 (-1) wt wy (nI it_) (nI rm) (nI ud) (nI nu) sd (nI qn) (nI qw) qo (nI qb) (nI (zq - 2 + 1)) qa (nI qi) (nI oc))), (g 86, .inl (cJ, 1700, .inr (.inl ql2_8)))] H := hP
          have hD : va_D A [(g 24, .inl (cI, 6, .inl (l6 u0 u1 u2 (nI ca) u4 u5))), (g 25, .inl (cI, 6, .inl (l6 v0 v1 v2 (nI cb) v4 v5))), (g 26, .inl (cI, 3200, .inl (fun j => nI (cs j)))), (g 31, .inl (cI, 120, .inl nw)), (g 46, .inl (cI, 9, .inl (fun j => nI (pt j)))), (mm, .inr (12, mo g (nI ta) (nI pa) (nI pe) pd (nI pb) pp pf pg pn rt rn (nI cd) sn (nI il) 0 am at_ aa mt_ 0 (-1) wt wy (nI it_) (nI rm) (nI ud) (nI nu) sd (nI qn) (nI qw) qo (nI qb) (nI (zq - 2 + 1)) qa (nI qi) (nI oc))), (g 86, .inl (cJ, 1700, .inr (.inl ql2_8)))] := hD
          refine lv_iinc (v := nI (i + 1)) (lv' := [(3, .int (nI (i + 1))), (4, .int (nI (cs (1600 + i)))), (0, .ref mm), (1, .int 0), (2, .int (nI d))]) hx hb dX12_codesTell_104 hl (k := 1) rfl (ninc i 1 (by decide)) (by decide) rfl (fun ls hl => ?_)
          refine lv_goto (tgt := 28) hx hb dX12_codesTell_107 (by decide) ?_
          have hP := hP.sub (ws' := [(mm, .inr (12, mo g (nI ta) (nI pa) (nI pe) pd (nI pb) pp pf pg pn rt rn (nI cd) sn (nI il) 0 am at_ aa mt_ 0 (-1) wt wy (nI it_) (nI rm) (nI ud) (nI nu) sd (nI qn) (nI qw) qo (nI qb) (nI (zq - 2 + 1)) qa (nI qi) (nI oc))), (g 24, .inl (cI, 6, .inl (l6 u0 u1 u2 (nI ca) u4 u5))), (g 25, .inl (cI, 6, .inl (l6 v0 v1 v2 (nI cb) v4 v5))), (g 26, .inl (cI, 3200, .inl (fun j => nI (cs j)))), (g 31, .inl (cI, 120, .inl nw)), (g 46, .inl (cI, 9, .inl (fun j => nI (pt j)))), (g 86, .inl (cJ, 1700, .inr (.inl ql2_8)))]) [5, 0, 1, 2, 3, 4, 6] rfl
          have hD := hD.sub (ws' := [(mm, .inr (12, mo g (nI ta) (nI pa) (nI pe) pd (nI pb) pp pf pg pn rt rn (nI cd) sn (nI il) 0 am at_ aa mt_ 0 (-1) wt wy (nI it_) (nI rm) (nI ud) (nI nu) sd (nI qn) (nI qw) qo (nI qb) (nI (zq - 2 + 1)) qa (nI qi) (nI oc))), (g 24, .inl (cI, 6, .inl (l6 u0 u1 u2 (nI ca) u4 u5))), (g 25, .inl (cI, 6, .inl (l6 v0 v1 v2 (nI cb) v4 v5))), (g 26, .inl (cI, 3200, .inl (fun j => nI (cs j)))), (g 31, .inl (cI, 120, .inl nw)), (g 46, .inl (cI, 9, .inl (fun j => nI (pt j)))), (g 86, .inl (cJ, 1700, .inr (.inl ql2_8)))]) [5, 0, 1, 2, 3, 4, 6] (by decide +kernel) rfl
          exact ih_lp_2 (i + 1) (zq - 2 + 1) ql2_8 (kcOp (cs (1600 + i)) a1 b1 :: R1) _ _ _ (by omega) (by omega) (by omega) (show _ = R1.length + 1 by omega) (by omega) hst2_9 hns3 hT3 hP hD hS (lv_sub hl [0, 2, 3, 4] rfl)
        · rw [kcSt_num (by omega)] at hT1
          obtain rfl := Option.some.inj hT1
          have htp2 : SS.length + 1 ≤ 64 := hT2
          refine lv_aload_n hx hb dX12_codesTell_40 rfl (lv_at hl 1 rfl) ?_
          refine sk_get (v := .ref (g 26)) (C := RX12) (T := TX12) (N := 92) hx hb hts inlX12 hown hK hP 0 rfl rfl 26 (by decide) w_5_181 rfl dX12_codesTell_41 ?_
          refine lv_sipush (v := 1600) hx hb dX12_codesTell_44 (by decide) ?_
          refine lv_iload_n hx hb dX12_codesTell_47 rfl (lv_at hl 0 rfl) ?_
          refine lv_iadd hx hb dX12_codesTell_48 ?_
          refine sk_top (nI (1600 + i)) (nI_add 1600 i) ?_
          refine va_iald hx hb hK.1 hP 3 0 rfl rfl (vin (1600 + i) 3200 (by omega) (by omega)) dX12_codesTell_49 ?_
          refine sk_top (nI (cs (1600 + i))) (nrd cs (1600 + i) (by omega)) ?_
          have hb_10 := hcs (1600 + i)
          refine lv_istore (lv' := [(4, .int (nI (cs (1600 + i)))), (3, .int (nI i)), (0, .ref mm), (1, .int 0), (2, .int (nI d))]) hx hb dX12_codesTell_50 hl (by decide) rfl (fun ls hl => ?_)
          refine lv_iload hx hb dX12_codesTell_52 (lv_at hl 0 rfl) ?_
          refine lv_sipush (v := 1000) hx hb dX12_codesTell_54 (by decide) ?_
          refine lv_icmp_lt (tgt := 74) hx hb dX12_codesTell_57 (by decide) (fun c => absurd ((nlt (cs (1600 + i)) 1000 (by omega) (by omega)).mp c) (by omega)) (fun c_11 => ?_)
          refine lv_aload_n hx hb dX12_codesTell_60 rfl (lv_at hl 2 rfl) ?_
          refine lv_iload hx hb dX12_codesTell_61 (lv_at hl 0 rfl) ?_
          refine lv_sipush (v := 1000) hx hb dX12_codesTell_63 (by decide) ?_
          refine lv_isub hx hb dX12_codesTell_66 ?_
          refine sk_top (nI (cs (1600 + i) - 1000)) (nsub (cs (1600 + i)) 1000 (by omega)) ?_
          refine lv_i2l hx hb dX12_codesTell_67 rfl ?_
          refine sk_Vv (q0 := 0) (n := 1) (rest := []) (wr := [(g 24, .inl (cI, 6, .inl (l6 u0 u1 u2 (nI ca) u4 u5))), (g 25, .inl (cI, 6, .inl (l6 v0 v1 v2 (nI cb) v4 v5))), (g 26, .inl (cI, 3200, .inl (fun j => nI (cs j)))), (g 31, .inl (cI, 120, .inl nw)), (g 46, .inl (cI, 9, .inl (fun j => nI (pt j))))]) ⟨hx, hb, hml, hown, hts⟩ hl.1 (c_nm_qPuts l D cI cJ cC cZ cS mm g ta pa pe pd pb pp pf pg pn rt rn cd sn il 0 am at_ aa mt_ wt wy it_ rm ud nu sd qn qw qo qb zq qa qi oc (Int32.toInt64 (nI (cs (1600 + i) - 1000))) zl (by omega)) w_7_139 w_7_141 w_0_76 w_1_14 w_7_142 (by decide +kernel) ⟨⟨(Nat.le_of_ble_eq_true rfl), (Nat.le_of_ble_eq_true rfl)⟩, (Nat.le_of_ble_eq_true rfl), (Nat.le_of_ble_eq_true rfl)⟩ hK hP hD hS hA [0, 6] [1, 2, 3, 4, 5] rfl rfl (by decide +kernel) (by decide +kernel) (by decide +kernel) rfl rfl rfl rfl (Nat.le_of_ble_eq_true rfl) dX12_codesTell_68 (fun u H locs hw hP hD hS => ?_)
          obtain ⟨ql2_12, hql_13, rfl⟩ := hw
          have hP : va_P D vwCl [(g 24, .inl (cI, 6, .inl (l6 u0 u1 u2 (nI ca) u4 u5))), (g 25, .inl (cI, 6, .inl (l6 v0 v1 v2 (nI cb) v4 v5))), (g 26, .inl (cI, 3200, .inl (fun j => nI (cs j)))), (g 31, .inl (cI, 120, .inl nw)), (g 46, .inl (cI, 9, .inl (fun j => nI (pt j)))), (mm, .inr (12, mo g (nI ta) (nI pa) (nI pe) pd (nI pb) pp pf pg pn rt rn (nI cd) sn (nI il) 0 am at_ aa mt_ 0 (-1) wt wy (nI it_) (nI rm) (nI ud) (nI nu) sd (nI qn) (nI qw) qo (nI qb) (nI (zq + 1)) qa (nI qi) (nI oc))), (g 86, .inl (cJ, 1700, .inr (.inl ql2_12)))] H := hP
          have hD : va_D A [(g 24, .inl (cI, 6, .inl (l6 u0 u1 u2 (nI ca) u4 u5))), (g 25, .inl (cI, 6, .inl (l6 v0 v1 v2 (nI cb) v4 v5))), (g 26, .inl (cI, 3200, .inl (fun j => nI (cs j)))), (g 31, .inl (cI, 120, .inl nw)), (g 46, .inl (cI, 9, .inl (fun j => nI (pt j)))), (mm, .inr (12, mo g (nI ta) (nI pa) (nI pe) pd (nI pb) pp pf pg pn rt rn (nI cd) sn (nI il) 0 am at_ aa mt_ 0 (-1) wt wy (nI it_) (nI rm) (nI ud) (nI nu) sd (nI qn) (nI qw) qo (nI qb) (nI (zq + 1)) qa (nI qi) (nI oc))), (g 86, .inl (cJ, 1700, .inr (.inl ql2_12)))] := hD
          have hs_14 := stk_push hst hzq0 hql_13 (kx_i2l (by omega))
          refine lv_goto (tgt := 104) hx hb dX12_codesTell_71 (by decide) ?_
          refine lv_iinc (v := nI (i + 1)) (lv' := [(3, .int (nI (i + 1))), (4, .int (nI (cs (1600 + i)))), (0, .ref mm), (1, .int 0), (2, .int (nI d))]) hx hb dX12_codesTell_104 hl (k := 1) rfl (ninc i 1 (by decide)) (by decide) rfl (fun ls hl => ?_)
          refine lv_goto (tgt := 28) hx hb dX12_codesTell_107 (by decide) ?_
          have hP := hP.sub (ws' := [(mm, .inr (12, mo g (nI ta) (nI pa) (nI pe) pd (nI pb) pp pf pg pn rt rn (nI cd) sn (nI il) 0 am at_ aa mt_ 0 (-1) wt wy (nI it_) (nI rm) (nI ud) (nI nu) sd (nI qn) (nI qw) qo (nI qb) (nI (zq + 1)) qa (nI qi) (nI oc))), (g 24, .inl (cI, 6, .inl (l6 u0 u1 u2 (nI ca) u4 u5))), (g 25, .inl (cI, 6, .inl (l6 v0 v1 v2 (nI cb) v4 v5))), (g 26, .inl (cI, 3200, .inl (fun j => nI (cs j)))), (g 31, .inl (cI, 120, .inl nw)), (g 46, .inl (cI, 9, .inl (fun j => nI (pt j)))), (g 86, .inl (cJ, 1700, .inr (.inl ql2_12)))]) [5, 0, 1, 2, 3, 4, 6] rfl
          have hD := hD.sub (ws' := [(mm, .inr (12, mo g (nI ta) (nI pa) (nI pe) pd (nI pb) pp pf pg pn rt rn (nI cd) sn (nI il) 0 am at_ aa mt_ 0 (-1) wt wy (nI it_) (nI rm) (nI ud) (nI nu) sd (nI qn) (nI qw) qo (nI qb) (nI (zq + 1)) qa (nI qi) (nI oc))), (g 24, .inl (cI, 6, .inl (l6 u0 u1 u2 (nI ca) u4 u5))), (g 25, .inl (cI, 6, .inl (l6 v0 v1 v2 (nI cb) v4 v5))), (g 26, .inl (cI, 3200, .inl (fun j => nI (cs j)))), (g 31, .inl (cI, 120, .inl nw)), (g 46, .inl (cI, 9, .inl (fun j => nI (pt j)))), (g 86, .inl (cJ, 1700, .inr (.inl ql2_12)))]) [5, 0, 1, 2, 3, 4, 6] (by decide +kernel) rfl
          exact ih_lp_2 (i + 1) (zq + 1) ql2_12 (Int64.ofNat (cs (1600 + i) - 1000) :: SS) _ _ _ (by omega) (by omega) (by omega) (show _ = SS.length + 1 by omega) (by omega) hs_14 hns3 hT3 hP hD hS (lv_sub hl [0, 2, 3, 4] rfl)
        · rw [kcSt_nm (by omega) (by omega)] at hT1
          obtain rfl := Option.some.inj hT1
          have htp2 : SS.length + 1 ≤ 64 := hT2
          refine lv_aload_n hx hb dX12_codesTell_40 rfl (lv_at hl 1 rfl) ?_
          refine sk_get (v := .ref (g 26)) (C := RX12) (T := TX12) (N := 92) hx hb hts inlX12 hown hK hP 0 rfl rfl 26 (by decide) w_5_181 rfl dX12_codesTell_41 ?_
          refine lv_sipush (v := 1600) hx hb dX12_codesTell_44 (by decide) ?_
          refine lv_iload_n hx hb dX12_codesTell_47 rfl (lv_at hl 0 rfl) ?_
          refine lv_iadd hx hb dX12_codesTell_48 ?_
          refine sk_top (nI (1600 + i)) (nI_add 1600 i) ?_
          refine va_iald hx hb hK.1 hP 3 0 rfl rfl (vin (1600 + i) 3200 (by omega) (by omega)) dX12_codesTell_49 ?_
          refine sk_top (nI (cs (1600 + i))) (nrd cs (1600 + i) (by omega)) ?_
          have hb_15 := hcs (1600 + i)
          refine lv_istore (lv' := [(4, .int (nI (cs (1600 + i)))), (3, .int (nI i)), (0, .ref mm), (1, .int 0), (2, .int (nI d))]) hx hb dX12_codesTell_50 hl (by decide) rfl (fun ls hl => ?_)
          refine lv_iload hx hb dX12_codesTell_52 (lv_at hl 0 rfl) ?_
          refine lv_sipush (v := 1000) hx hb dX12_codesTell_54 (by decide) ?_
          refine lv_icmp_lt (tgt := 74) hx hb dX12_codesTell_57 (by decide) (fun c_16 => ?_) (fun c => absurd ((nlt (cs (1600 + i)) 1000 (by omega) (by omega)).mpr (by omega)) c)
          refine lv_iload hx hb dX12_codesTell_74 (lv_at hl 0 rfl) ?_
          refine lv_bipush (v := 40) hx hb dX12_codesTell_76 (by decide) ?_
          refine lv_icmp_lt (tgt := 98) hx hb dX12_codesTell_78 (by decide) (fun c => absurd ((nlt (cs (1600 + i)) 40 (by omega) (by omega)).mp c) (by omega)) (fun c_17 => ?_)
          refine lv_aload_n hx hb dX12_codesTell_81 rfl (lv_at hl 2 rfl) ?_
          refine lv_aload_n hx hb dX12_codesTell_82 rfl (lv_at hl 2 rfl) ?_
          refine lv_iload hx hb dX12_codesTell_83 (lv_at hl 0 rfl) ?_
          refine lv_bipush (v := 40) hx hb dX12_codesTell_85 (by decide) ?_
          refine lv_isub hx hb dX12_codesTell_87 ?_
          refine sk_top (nI (cs (1600 + i) - 40)) (nsub (cs (1600 + i)) 40 (by omega)) ?_
          refine lv_iload_n hx hb dX12_codesTell_88 rfl (lv_at hl 4 rfl) ?_
          refine sk_Vl (q0 := 0) (n := 2) (rest := [.ref mm]) (wr := [(g 24, .inl (cI, 6, .inl (l6 u0 u1 u2 (nI ca) u4 u5))), (g 25, .inl (cI, 6, .inl (l6 v0 v1 v2 (nI cb) v4 v5))), (g 26, .inl (cI, 3200, .inl (fun j => nI (cs j)))), (g 86, .inl (cJ, 1700, .inr (.inl zl)))]) ⟨hx, hb, hml, hown, hts⟩ hl.1 (c_nm_qPartOf l D cI cJ cC cZ cS mm g ta pa pe pd pb pp pf pg pn rt rn cd sn il 0 am at_ aa mt_ wt wy it_ rm ud nu sd qn qw qo qb zq qa qi oc (cs (1600 + i) - 40) d nw pt nm (by omega) (by omega) hnm hnw hpt) w_7_143 w_7_145 w_0_77 w_1_14 w_7_146 (by decide +kernel) ⟨⟨(Nat.le_of_ble_eq_true rfl), (Nat.le_of_ble_eq_true rfl)⟩, (Nat.le_of_ble_eq_true rfl), (Nat.le_of_ble_eq_true rfl)⟩ hK hP hD hS hA [0, 4, 5] [1, 2, 3, 6] rfl rfl (by decide +kernel) (by decide +kernel) (by decide +kernel) rfl rfl rfl rfl (Nat.le_of_ble_eq_true rfl) dX12_codesTell_89 (fun r_18 u H locs hw hP hD hS => ?_)
          obtain ⟨hr_19, rfl⟩ := hw
          have hP : va_P D vwCl [(g 24, .inl (cI, 6, .inl (l6 u0 u1 u2 (nI ca) u4 u5))), (g 25, .inl (cI, 6, .inl (l6 v0 v1 v2 (nI cb) v4 v5))), (g 26, .inl (cI, 3200, .inl (fun j => nI (cs j)))), (g 86, .inl (cJ, 1700, .inr (.inl zl))), (mm, .inr (12, mo g (nI ta) (nI pa) (nI pe) pd (nI pb) pp pf pg pn rt rn (nI cd) sn (nI il) 0 am at_ aa mt_ 0 (-1) wt wy (nI it_) (nI rm) (nI ud) (nI nu) sd (nI qn) (nI qw) qo (nI qb) (nI zq) qa (nI qi) (nI oc))), (g 31, .inl (cI, 120, .inl nw)), (g 46, .inl (cI, 9, .inl (fun j => nI (pt j))))] H := hP
          have hD : va_D A [(g 24, .inl (cI, 6, .inl (l6 u0 u1 u2 (nI ca) u4 u5))), (g 25, .inl (cI, 6, .inl (l6 v0 v1 v2 (nI cb) v4 v5))), (g 26, .inl (cI, 3200, .inl (fun j => nI (cs j)))), (g 86, .inl (cJ, 1700, .inr (.inl zl))), (mm, .inr (12, mo g (nI ta) (nI pa) (nI pe) pd (nI pb) pp pf pg pn rt rn (nI cd) sn (nI il) 0 am at_ aa mt_ 0 (-1) wt wy (nI it_) (nI rm) (nI ud) (nI nu) sd (nI qn) (nI qw) qo (nI qb) (nI zq) qa (nI qi) (nI oc))), (g 31, .inl (cI, 120, .inl nw)), (g 46, .inl (cI, 9, .inl (fun j => nI (pt j))))] := hD
          subst hr_19
          refine sk_Vv (q0 := 0) (n := 1) (rest := []) (wr := [(g 24, .inl (cI, 6, .inl (l6 u0 u1 u2 (nI ca) u4 u5))), (g 25, .inl (cI, 6, .inl (l6 v0 v1 v2 (nI cb) v4 v5))), (g 26, .inl (cI, 3200, .inl (fun j => nI (cs j)))), (g 31, .inl (cI, 120, .inl nw)), (g 46, .inl (cI, 9, .inl (fun j => nI (pt j))))]) ⟨hx, hb, hml, hown, hts⟩ hl.1 (c_nm_qPuts l D cI cJ cC cZ cS mm g ta pa pe pd pb pp pf pg pn rt rn cd sn il 0 am at_ aa mt_ wt wy it_ rm ud nu sd qn qw qo qb zq qa qi oc (nm (cs (1600 + i) - 40)) zl (by omega)) w_7_139 w_7_141 w_0_76 w_1_14 w_7_142 (by decide +kernel) ⟨⟨(Nat.le_of_ble_eq_true rfl), (Nat.le_of_ble_eq_true rfl)⟩, (Nat.le_of_ble_eq_true rfl), (Nat.le_of_ble_eq_true rfl)⟩ hK hP hD hS hA [4, 3] [0, 1, 2, 5, 6] rfl rfl (by decide +kernel) (by decide +kernel) (by decide +kernel) rfl rfl rfl rfl (Nat.le_of_ble_eq_true rfl) dX12_codesTell_92 (fun u H locs hw hP hD hS => ?_)
          obtain ⟨ql2_20, hql_21, rfl⟩ := hw
          have hP : va_P D vwCl [(g 24, .inl (cI, 6, .inl (l6 u0 u1 u2 (nI ca) u4 u5))), (g 25, .inl (cI, 6, .inl (l6 v0 v1 v2 (nI cb) v4 v5))), (g 26, .inl (cI, 3200, .inl (fun j => nI (cs j)))), (g 31, .inl (cI, 120, .inl nw)), (g 46, .inl (cI, 9, .inl (fun j => nI (pt j)))), (mm, .inr (12, mo g (nI ta) (nI pa) (nI pe) pd (nI pb) pp pf pg pn rt rn (nI cd) sn (nI il) 0 am at_ aa mt_ 0 (-1) wt wy (nI it_) (nI rm) (nI ud) (nI nu) sd (nI qn) (nI qw) qo (nI qb) (nI (zq + 1)) qa (nI qi) (nI oc))), (g 86, .inl (cJ, 1700, .inr (.inl ql2_20)))] H := hP
          have hD : va_D A [(g 24, .inl (cI, 6, .inl (l6 u0 u1 u2 (nI ca) u4 u5))), (g 25, .inl (cI, 6, .inl (l6 v0 v1 v2 (nI cb) v4 v5))), (g 26, .inl (cI, 3200, .inl (fun j => nI (cs j)))), (g 31, .inl (cI, 120, .inl nw)), (g 46, .inl (cI, 9, .inl (fun j => nI (pt j)))), (mm, .inr (12, mo g (nI ta) (nI pa) (nI pe) pd (nI pb) pp pf pg pn rt rn (nI cd) sn (nI il) 0 am at_ aa mt_ 0 (-1) wt wy (nI it_) (nI rm) (nI ud) (nI nu) sd (nI qn) (nI qw) qo (nI qb) (nI (zq + 1)) qa (nI qi) (nI oc))), (g 86, .inl (cJ, 1700, .inr (.inl ql2_20)))] := hD
          have hs_22 := stk_push hst hzq0 hql_21 rfl
          refine lv_goto (tgt := 104) hx hb dX12_codesTell_95 (by decide) ?_
          refine lv_iinc (v := nI (i + 1)) (lv' := [(3, .int (nI (i + 1))), (4, .int (nI (cs (1600 + i)))), (0, .ref mm), (1, .int 0), (2, .int (nI d))]) hx hb dX12_codesTell_104 hl (k := 1) rfl (ninc i 1 (by decide)) (by decide) rfl (fun ls hl => ?_)
          refine lv_goto (tgt := 28) hx hb dX12_codesTell_107 (by decide) ?_
          have hP := hP.sub (ws' := [(mm, .inr (12, mo g (nI ta) (nI pa) (nI pe) pd (nI pb) pp pf pg pn rt rn (nI cd) sn (nI il) 0 am at_ aa mt_ 0 (-1) wt wy (nI it_) (nI rm) (nI ud) (nI nu) sd (nI qn) (nI qw) qo (nI qb) (nI (zq + 1)) qa (nI qi) (nI oc))), (g 24, .inl (cI, 6, .inl (l6 u0 u1 u2 (nI ca) u4 u5))), (g 25, .inl (cI, 6, .inl (l6 v0 v1 v2 (nI cb) v4 v5))), (g 26, .inl (cI, 3200, .inl (fun j => nI (cs j)))), (g 31, .inl (cI, 120, .inl nw)), (g 46, .inl (cI, 9, .inl (fun j => nI (pt j)))), (g 86, .inl (cJ, 1700, .inr (.inl ql2_20)))]) [5, 0, 1, 2, 3, 4, 6] rfl
          have hD := hD.sub (ws' := [(mm, .inr (12, mo g (nI ta) (nI pa) (nI pe) pd (nI pb) pp pf pg pn rt rn (nI cd) sn (nI il) 0 am at_ aa mt_ 0 (-1) wt wy (nI it_) (nI rm) (nI ud) (nI nu) sd (nI qn) (nI qw) qo (nI qb) (nI (zq + 1)) qa (nI qi) (nI oc))), (g 24, .inl (cI, 6, .inl (l6 u0 u1 u2 (nI ca) u4 u5))), (g 25, .inl (cI, 6, .inl (l6 v0 v1 v2 (nI cb) v4 v5))), (g 26, .inl (cI, 3200, .inl (fun j => nI (cs j)))), (g 31, .inl (cI, 120, .inl nw)), (g 46, .inl (cI, 9, .inl (fun j => nI (pt j)))), (g 86, .inl (cJ, 1700, .inr (.inl ql2_20)))]) [5, 0, 1, 2, 3, 4, 6] (by decide +kernel) rfl
          exact ih_lp_2 (i + 1) (zq + 1) ql2_20 (nm (cs (1600 + i) - 40) :: SS) _ _ _ (by omega) (by omega) (by omega) (show _ = SS.length + 1 by omega) (by omega) hs_22 hns3 hT3 hP hD hS (lv_sub hl [0, 2, 3, 4] rfl)
  exact lp_2 (cb - ca + 1) ca 0 ql ([]) _ _ _ (Nat.lt_succ_self _) (by omega) (by omega) rfl (by omega) True.intro hns hex hP hD hS (lv_sub hl [0, 1, 2, 3] rfl)
set_option maxHeartbeats 4000000 in
set_option maxRecDepth 100000 in
theorem c_nm_codesTell1 (l : Launch) (D : va_G) (cI cJ cC cZ cS : ClassId) (mm : Nat) (g : Nat → Nat) (ta : Nat) (pa : Nat) (pe : Nat) (pd : Int32) (pb : Nat) (pp : Int32) (pf : Int32) (pg : Int32) (pn : Int32) (rt : Int32) (rn : Int32) (cd : Nat) (sn : Int32) (il : Nat) (tk : Int32) (am : Int32) (at_ : Int32) (aa : Int32) (mt_ : Int32) (wt : Int32) (wy : Int64) (it_ : Nat) (rm : Nat) (ud : Nat) (nu : Nat) (sd : Int64) (qn : Nat) (qw : Nat) (qo : Int32) (qb : Nat) (qp : Nat) (qa : Int64) (qi : Nat) (oc : Nat) (d : Nat) (u0 : Int32) (u1 : Int32) (u2 : Int32) (u3 : Int32) (u5 : Int32) (ca : Nat) (v0 : Int32) (v1 : Int32) (v2 : Int32) (v3 : Int32) (v5 : Int32) (cb : Nat) (cs : Nat → Nat) (nw : Nat → Int32) (pt : Nat → Nat) (ql : Nat → Int64) (K : List Nat) (nm : Nat → Int64) (v : Int64) (kn : Nat) (hd : d < 9) (hab : ca ≤ cb) (hbk : cb ≤ K.length) (hkl : K.length ≤ 1600) (hKc : ∀ j, j < K.length → cs (1600 + j) = K.getD j 0) (hkn : kn < 2) (hns : kcNs kn (kcSub K (ca, cb))) (hnm : mnO nm am at_ aa nw d) (hex : kcEx nm 64 (kcSub K (ca, cb)) [] = some [v]) (hcs : ∀ j, cs j ≤ 20000) (hnw : nowOk nw) (hpt : ∀ j, pt j ≤ 9) : skM l yX12_codesTell cX12_codesTell 5 (some .long) 2 50 0 0 D (skT cI cJ cC cZ cS) [.ref mm, .int 1, .int (nI d)] [(mm, .inr (12, mo g (nI ta) (nI pa) (nI pe) pd (nI pb) pp pf pg pn rt rn (nI cd) sn (nI il) tk am at_ aa mt_ 0 (-1) wt wy (nI it_) (nI rm) (nI ud) (nI nu) sd (nI qn) (nI qw) qo (nI qb) (nI qp) qa (nI qi) (nI oc))), (g 24, .inl (cI, 6, .inl (l6 u0 u1 u2 u3 (nI ca) u5))), (g 25, .inl (cI, 6, .inl (l6 v0 v1 v2 v3 (nI cb) v5))), (g 26, .inl (cI, 3200, .inl (fun j => nI (cs j)))), (g 31, .inl (cI, 120, .inl nw)), (g 46, .inl (cI, 9, .inl (fun j => nI (pt j)))), (g 86, .inl (cJ, 1700, .inr (.inl ql)))] (skL D (skT cI cJ cC cZ cS) (fun (r : Int64) (u : va_W) => ∃ (qp2 : Nat), ∃ (ql2 : Nat → Int64), r = v ∧ u = [(mm, .inr (12, mo g (nI ta) (nI pa) (nI pe) pd (nI pb) pp pf pg pn rt rn (nI cd) sn (nI il) 1 am at_ aa mt_ 0 (-1) wt wy (nI it_) (nI rm) (nI ud) (nI nu) sd (nI qn) (nI qw) qo (nI qb) (nI qp2) qa (nI qi) (nI oc))), (g 24, .inl (cI, 6, .inl (l6 u0 u1 u2 u3 (nI ca) u5))), (g 25, .inl (cI, 6, .inl (l6 v0 v1 v2 v3 (nI cb) v5))), (g 26, .inl (cI, 3200, .inl (fun j => nI (cs j)))), (g 31, .inl (cI, 120, .inl nw)), (g 46, .inl (cI, 9, .inl (fun j => nI (pt j)))), (g 86, .inl (cJ, 1700, .inr (.inl ql2)))])) := by
  refine skM_of (by decide +kernel) (Nat.le_of_ble_eq_true rfl) ?_
  intro p e s m below meth c A ls E hP hD hl
  obtain ⟨hx, hb, hr, hml, hlocks, hin, hown, hts, hK, hA⟩ := E
  have hown : s.vm.findClass RX12 = some m.cls := hown
  have hS : va_S A s.heap s.heap [] := va_S.rf
  have hl : lv_has ls 5 [(0, .ref mm), (1, .int 1), (2, .int (nI d))] := hl
  refine lv_aload_n hx hb dX12_codesTell_0 rfl (lv_at hl 0 rfl) ?_
  refine lv_iload_n hx hb dX12_codesTell_1 rfl (lv_at hl 1 rfl) ?_
  refine lv_iconst (v := 1) hx hb dX12_codesTell_2 (by decide) ?_
  refine lv_icmp_ne (tgt := 10) hx hb dX12_codesTell_3 (by decide) (fun c => absurd c (by decide)) (fun c_1 => ?_)
  refine lv_iconst (v := 1) hx hb dX12_codesTell_6 (by decide) ?_
  refine lv_goto (tgt := 11) hx hb dX12_codesTell_7 (by decide) ?_
  refine sk_put (ws' := [(mm, .inr (12, mo g (nI ta) (nI pa) (nI pe) pd (nI pb) pp pf pg pn rt rn (nI cd) sn (nI il) 1 am at_ aa mt_ 0 (-1) wt wy (nI it_) (nI rm) (nI ud) (nI nu) sd (nI qn) (nI qw) qo (nI qb) (nI qp) qa (nI qi) (nI oc))), (g 24, .inl (cI, 6, .inl (l6 u0 u1 u2 u3 (nI ca) u5))), (g 25, .inl (cI, 6, .inl (l6 v0 v1 v2 v3 (nI cb) v5))), (g 26, .inl (cI, 3200, .inl (fun j => nI (cs j)))), (g 31, .inl (cI, 120, .inl nw)), (g 46, .inl (cI, 9, .inl (fun j => nI (pt j)))), (g 86, .inl (cJ, 1700, .inr (.inl ql)))]) (C := RX12) (T := TX12) (N := 92) (v := .int 1) hx hb hts inlX12 tyX12 tyX12_ok nmX12 hown hK hP hD hS 0 rfl rfl 30 (by decide) w_5_185 rfl rfl rfl (Nat.le_of_ble_eq_true rfl) rfl dX12_codesTell_11 (fun H locs hP hD hS => ?_)
  refine lv_aload_n hx hb dX12_codesTell_14 rfl (lv_at hl 0 rfl) ?_
  refine lv_iconst (v := 0) hx hb dX12_codesTell_15 (by decide) ?_
  refine sk_put (ws' := [(mm, .inr (12, mo g (nI ta) (nI pa) (nI pe) pd (nI pb) pp pf pg pn rt rn (nI cd) sn (nI il) 1 am at_ aa mt_ 0 (-1) wt wy (nI it_) (nI rm) (nI ud) (nI nu) sd (nI qn) (nI qw) qo (nI qb) 0 qa (nI qi) (nI oc))), (g 24, .inl (cI, 6, .inl (l6 u0 u1 u2 u3 (nI ca) u5))), (g 25, .inl (cI, 6, .inl (l6 v0 v1 v2 v3 (nI cb) v5))), (g 26, .inl (cI, 3200, .inl (fun j => nI (cs j)))), (g 31, .inl (cI, 120, .inl nw)), (g 46, .inl (cI, 9, .inl (fun j => nI (pt j)))), (g 86, .inl (cJ, 1700, .inr (.inl ql)))]) (C := RX12) (T := TX12) (N := 92) (v := .int 0) hx hb hts inlX12 tyX12 tyX12_ok nmX12 hown hK hP hD hS 0 rfl rfl 87 (by decide) w_6_2 rfl rfl rfl (Nat.le_of_ble_eq_true rfl) rfl dX12_codesTell_16 (fun H locs hP hD hS => ?_)
  refine lv_aload_n hx hb dX12_codesTell_19 rfl (lv_at hl 0 rfl) ?_
  refine sk_get (v := .ref (g 24)) (C := RX12) (T := TX12) (N := 92) hx hb hts inlX12 hown hK hP 0 rfl rfl 24 (by decide) w_5_179 rfl dX12_codesTell_20 ?_
  refine lv_iconst (v := 3) hx hb dX12_codesTell_23 (by decide) ?_
  refine lv_iload_n hx hb dX12_codesTell_24 rfl (lv_at hl 1 rfl) ?_
  refine lv_iadd hx hb dX12_codesTell_25 ?_
  refine sk_top 4 (by decide) ?_
  refine va_iald hx hb hK.1 hP 1 0 rfl rfl (by unfold vp_in; decide) dX12_codesTell_26 ?_
  refine sk_top (nI ca) rfl ?_
  refine lv_istore_n (lv' := [(3, .int (nI ca)), (0, .ref mm), (1, .int 1), (2, .int (nI d))]) hx hb dX12_codesTell_27 rfl hl (by decide) rfl (fun ls hl => ?_)
  have lp_2 : ∀ (n_3 : Nat) (i : Nat) (zq : Nat) (zl : Nat → Int64) (SS : List Int64) (H : Heap) (locs : List Loc) (ls : Array Slot), cb - i < n_3 → (ca ≤ i) → (i ≤ cb) → (zq = SS.length) → (zq ≤ 64) → (stkO zl SS) → (kcNs kn (kcSub K (i, cb))) → (kcEx nm 64 (kcSub K (i, cb)) SS = some [v]) → va_P D vwCl [(mm, .inr (12, mo g (nI ta) (nI pa) (nI pe) pd (nI pb) pp pf pg pn rt rn (nI cd) sn (nI il) 1 am at_ aa mt_ 0 (-1) wt wy (nI it_) (nI rm) (nI ud) (nI nu) sd (nI qn) (nI qw) qo (nI qb) (nI zq) qa (nI qi) (nI oc))), (g 24, .inl (cI, 6, .inl (l6 u0 u1 u2 u3 (nI ca) u5))), (g 25, .inl (cI, 6, .inl (l6 v0 v1 v2 v3 (nI cb) v5))), (g 26, .inl (cI, 3200, .inl (fun j => nI (cs j)))), (g 31, .inl (cI, 120, .inl nw)), (g 46, .inl (cI, 9, .inl (fun j => nI (pt j)))), (g 86, .inl (cJ, 1700, .inr (.inl zl)))] H → va_D A [(mm, .inr (12, mo g (nI ta) (nI pa) (nI pe) pd (nI pb) pp pf pg pn rt rn (nI cd) sn (nI il) 1 am at_ aa mt_ 0 (-1) wt wy (nI it_) (nI rm) (nI ud) (nI nu) sd (nI qn) (nI qw) qo (nI qb) (nI zq) qa (nI qi) (nI oc))), (g 24, .inl (cI, 6, .inl (l6 u0 u1 u2 u3 (nI ca) u5))), (g 25, .inl (cI, 6, .inl (l6 v0 v1 v2 v3 (nI cb) v5))), (g 26, .inl (cI, 3200, .inl (fun j => nI (cs j)))), (g 31, .inl (cI, 120, .inl nw)), (g 46, .inl (cI, 9, .inl (fun j => nI (pt j)))), (g 86, .inl (cJ, 1700, .inr (.inl zl)))] → va_S A s.heap H locs → lv_has ls 5 [(3, .int (nI i)), (0, .ref mm), (1, .int 1), (2, .int (nI d))] → W p l e { frames := 2, cells := 0, slots := 0, locals := 50 } s m ([.ref mm, .int 1, .int (nI d)] : List Value).toArray below meth c H locs 0 0 (MQ below (skL D (skT cI cJ cC cZ cS) (fun (r : Int64) (u : va_W) => ∃ (qp2 : Nat), ∃ (ql2 : Nat → Int64), r = v ∧ u = [(mm, .inr (12, mo g (nI ta) (nI pa) (nI pe) pd (nI pb) pp pf pg pn rt rn (nI cd) sn (nI il) 1 am at_ aa mt_ 0 (-1) wt wy (nI it_) (nI rm) (nI ud) (nI nu) sd (nI qn) (nI qw) qo (nI qb) (nI qp2) qa (nI qi) (nI oc))), (g 24, .inl (cI, 6, .inl (l6 u0 u1 u2 u3 (nI ca) u5))), (g 25, .inl (cI, 6, .inl (l6 v0 v1 v2 v3 (nI cb) v5))), (g 26, .inl (cI, 3200, .inl (fun j => nI (cs j)))), (g 31, .inl (cI, 120, .inl nw)), (g 46, .inl (cI, 9, .inl (fun j => nI (pt j)))), (g 86, .inl (cJ, 1700, .inr (.inl ql2)))]) A) ([.ref mm, .int 1, .int (nI d)] : List Value).toArray s 0 0 A) (F0 m 28 ls []) := by
    intro n_3
    induction n_3 with
    | zero => intro i zq zl SS H locs ls hm; exact absurd hm (Nat.not_lt_zero _)
    | succ n_3 ih_lp_2 =>
      intro i zq zl SS H locs ls hm hi1 hi2 hzq0 hzq1 hst hns2 hex2 hP hD hS hl
      refine lv_iload_n hx hb dX12_codesTell_28 rfl (lv_at hl 0 rfl) ?_
      refine lv_aload_n hx hb dX12_codesTell_29 rfl (lv_at hl 1 rfl) ?_
      refine sk_get (v := .ref (g 25)) (C := RX12) (T := TX12) (N := 92) hx hb hts inlX12 hown hK hP 0 rfl rfl 25 (by decide) w_5_180 rfl dX12_codesTell_30 ?_
      refine lv_iconst (v := 3) hx hb dX12_codesTell_33 (by decide) ?_
      refine lv_iload_n hx hb dX12_codesTell_34 rfl (lv_at hl 2 rfl) ?_
      refine lv_iadd hx hb dX12_codesTell_35 ?_
      refine sk_top 4 (by decide) ?_
      refine va_iald hx hb hK.1 hP 2 0 rfl rfl (by unfold vp_in; decide) dX12_codesTell_36 ?_
      refine sk_top (nI cb) rfl ?_
      refine lv_icmp_ge (tgt := 110) hx hb dX12_codesTell_37 (by decide) (fun c_4 => ?_) (fun c_4 => ?_)
      · have c_4 : cb ≤ i := (nle cb i (by omega) (by omega)).mp c_4
        obtain rfl := kx_end hex2 (by omega)
        have htp3 : zq = 1 := hzq0
        refine lv_aload_n hx hb dX12_codesTell_110 rfl (lv_at hl 1 rfl) ?_
        refine sk_get (v := .ref (g 86)) (C := RX12) (T := TX12) (N := 92) hx hb hts inlX12 hown hK hP 0 rfl rfl 86 (by decide) w_6_1 rfl dX12_codesTell_111 ?_
        refine lv_iconst (v := 0) hx hb dX12_codesTell_114 (by decide) ?_
        refine va_lald hx hb hK.1 hP 6 1 rfl rfl (by unfold vp_in; decide) dX12_codesTell_115 ?_
        refine sk_topl v (hst.1) ?_
        exact sk_lret hx hb hr hlocks hK hP hD hS (⟨zq, zl, rfl, rfl⟩) (Nat.le_of_ble_eq_true rfl) (Nat.le_of_ble_eq_true rfl) dX12_codesTell_116
      · have c_4 : ¬ (cb ≤ i) := fun h => c_4 ((nle cb i (by omega) (by omega)).mpr h)
        have hib : i < cb := by omega
        rw [kcSub_c hib (by omega), ← hKc i (by omega)] at hex2 hns2
        have hns3 : kcNs kn (kcSub K (i + 1, cb)) := fun x hx => hns2 x (List.mem_cons_of_mem _ hx)
        obtain ⟨T, hT1, hT2, hT3⟩ := kcEx_c hex2
        rcases kx_c3 hkn (hns2 _ (List.mem_cons_self ..)) with ⟨hc1, hc2⟩ | ⟨hc1, hc2⟩ | ⟨hc1, hc2⟩
        · obtain ⟨b1, a1, R1, rfl, rfl⟩ := kcSt_two (by omega) hT1
          have htp2 : zq = R1.length + 2 := hzq0
          refine lv_aload_n hx hb dX12_codesTell_40 rfl (lv_at hl 1 rfl) ?_
          refine sk_get (v := .ref (g 26)) (C := RX12) (T := TX12) (N := 92) hx hb hts inlX12 hown hK hP 0 rfl rfl 26 (by decide) w_5_181 rfl dX12_codesTell_41 ?_
          refine lv_sipush (v := 1600) hx hb dX12_codesTell_44 (by decide) ?_
          refine lv_iload_n hx hb dX12_codesTell_47 rfl (lv_at hl 0 rfl) ?_
          refine lv_iadd hx hb dX12_codesTell_48 ?_
          refine sk_top (nI (1600 + i)) (nI_add 1600 i) ?_
          refine va_iald hx hb hK.1 hP 3 0 rfl rfl (vin (1600 + i) 3200 (by omega) (by omega)) dX12_codesTell_49 ?_
          refine sk_top (nI (cs (1600 + i))) (nrd cs (1600 + i) (by omega)) ?_
          have hb_5 := hcs (1600 + i)
          refine lv_istore (lv' := [(4, .int (nI (cs (1600 + i)))), (3, .int (nI i)), (0, .ref mm), (1, .int 1), (2, .int (nI d))]) hx hb dX12_codesTell_50 hl (by decide) rfl (fun ls hl => ?_)
          refine lv_iload hx hb dX12_codesTell_52 (lv_at hl 0 rfl) ?_
          refine lv_sipush (v := 1000) hx hb dX12_codesTell_54 (by decide) ?_
          refine lv_icmp_lt (tgt := 74) hx hb dX12_codesTell_57 (by decide) (fun c_6 => ?_) (fun c => absurd ((nlt (cs (1600 + i)) 1000 (by omega) (by omega)).mpr (by omega)) c)
          refine lv_iload hx hb dX12_codesTell_74 (lv_at hl 0 rfl) ?_
          refine lv_bipush (v := 40) hx hb dX12_codesTell_76 (by decide) ?_
          refine lv_icmp_lt (tgt := 98) hx hb dX12_codesTell_78 (by decide) (fun c_7 => ?_) (fun c => absurd ((nlt (cs (1600 + i)) 40 (by omega) (by omega)).mpr (by omega)) c)
          refine lv_aload_n hx hb dX12_codesTell_98 rfl (lv_at hl 2 rfl) ?_
          refine lv_iload hx hb dX12_codesTell_99 (lv_at hl 0 rfl) ?_
          refine sk_Vv (q0 := 0) (n := 1) (rest := []) (wr := [(g 24, .inl (cI, 6, .inl (l6 u0 u1 u2 u3 (nI ca) u5))), (g 25, .inl (cI, 6, .inl (l6 v0 v1 v2 v3 (nI cb) v5))), (g 26, .inl (cI, 3200, .inl (fun j => nI (cs j)))), (g 31, .inl (cI, 120, .inl nw)), (g 46, .inl (cI, 9, .inl (fun j => nI (pt j))))]) ⟨hx, hb, hml, hown, hts⟩ hl.1 (c_nm_qJoins l D cI cJ cC cZ cS mm g ta pa pe pd pb pp pf pg pn rt rn cd sn il 1 am at_ aa mt_ wt wy it_ rm ud nu sd qn qw qo qb zq qa qi oc (cs (1600 + i)) zl a1 b1 R1 (by omega) (by omega) hst (by omega) (by omega)) w_7_156 w_7_158 w_0_80 w_1_14 w_7_159 (by decide +kernel) ⟨⟨(Nat.le_of_ble_eq_true rfl), (Nat.le_of_ble_eq_true rfl)⟩, (Nat.le_of_ble_eq_true rfl), (Nat.le_of_ble_eq_true rfl)⟩ hK hP hD hS hA [0, 6] [1, 2, 3, 4, 5] rfl rfl (by decide +kernel) (by decide +kernel) (by decide +kernel) rfl rfl rfl rfl (Nat.le_of_ble_eq_true rfl) dX12_codesTell_101 (fun u H locs hw hP hD hS => ?_)
          obtain ⟨ql2_8, hst2_9, rfl⟩ := hw
          have hP : va_P D vwCl [(g 24, .inl (cI, 6, .inl (l6 u0 u1 u2 u3 (nI ca) u5))), (g 25, .inl (cI, 6, .inl (l6 v0 v1 v2 v3 (nI cb) v5))), (g 26, .inl (cI, 3200, .inl (fun j => nI (cs j)))), (g 31, .inl (cI, 120, .inl nw)), (g 46, .inl (cI, 9, .inl (fun j => nI (pt j)))), (mm, .inr (12, mo g (nI ta) (nI pa) (nI pe) pd (nI pb) pp pf pg pn rt rn (nI cd) sn (nI il) 1 am at_ aa mt_ 0 (-1) wt wy (nI it_) (nI rm) (nI ud) (nI nu) sd (nI qn) (nI qw) qo (nI qb) (nI (zq - 2 + 1)) qa (nI qi) (nI oc))), (g 86, .inl (cJ, 1700, .inr (.inl ql2_8)))] H := hP
          have hD : va_D A [(g 24, .inl (cI, 6, .inl (l6 u0 u1 u2 u3 (nI ca) u5))), (g 25, .inl (cI, 6, .inl (l6 v0 v1 v2 v3 (nI cb) v5))), (g 26, .inl (cI, 3200, .inl (fun j => nI (cs j)))), (g 31, .inl (cI, 120, .inl nw)), (g 46, .inl (cI, 9, .inl (fun j => nI (pt j)))), (mm, .inr (12, mo g (nI ta) (nI pa) (nI pe) pd (nI pb) pp pf pg pn rt rn (nI cd) sn (nI il) 1 am at_ aa mt_ 0 (-1) wt wy (nI it_) (nI rm) (nI ud) (nI nu) sd (nI qn) (nI qw) qo (nI qb) (nI (zq - 2 + 1)) qa (nI qi) (nI oc))), (g 86, .inl (cJ, 1700, .inr (.inl ql2_8)))] := hD
          refine lv_iinc (v := nI (i + 1)) (lv' := [(3, .int (nI (i + 1))), (4, .int (nI (cs (1600 + i)))), (0, .ref mm), (1, .int 1), (2, .int (nI d))]) hx hb dX12_codesTell_104 hl (k := 1) rfl (ninc i 1 (by decide)) (by decide) rfl (fun ls hl => ?_)
          refine lv_goto (tgt := 28) hx hb dX12_codesTell_107 (by decide) ?_
          have hP := hP.sub (ws' := [(mm, .inr (12, mo g (nI ta) (nI pa) (nI pe) pd (nI pb) pp pf pg pn rt rn (nI cd) sn (nI il) 1 am at_ aa mt_ 0 (-1) wt wy (nI it_) (nI rm) (nI ud) (nI nu) sd (nI qn) (nI qw) qo (nI qb) (nI (zq - 2 + 1)) qa (nI qi) (nI oc))), (g 24, .inl (cI, 6, .inl (l6 u0 u1 u2 u3 (nI ca) u5))), (g 25, .inl (cI, 6, .inl (l6 v0 v1 v2 v3 (nI cb) v5))), (g 26, .inl (cI, 3200, .inl (fun j => nI (cs j)))), (g 31, .inl (cI, 120, .inl nw)), (g 46, .inl (cI, 9, .inl (fun j => nI (pt j)))), (g 86, .inl (cJ, 1700, .inr (.inl ql2_8)))]) [5, 0, 1, 2, 3, 4, 6] rfl
          have hD := hD.sub (ws' := [(mm, .inr (12, mo g (nI ta) (nI pa) (nI pe) pd (nI pb) pp pf pg pn rt rn (nI cd) sn (nI il) 1 am at_ aa mt_ 0 (-1) wt wy (nI it_) (nI rm) (nI ud) (nI nu) sd (nI qn) (nI qw) qo (nI qb) (nI (zq - 2 + 1)) qa (nI qi) (nI oc))), (g 24, .inl (cI, 6, .inl (l6 u0 u1 u2 u3 (nI ca) u5))), (g 25, .inl (cI, 6, .inl (l6 v0 v1 v2 v3 (nI cb) v5))), (g 26, .inl (cI, 3200, .inl (fun j => nI (cs j)))), (g 31, .inl (cI, 120, .inl nw)), (g 46, .inl (cI, 9, .inl (fun j => nI (pt j)))), (g 86, .inl (cJ, 1700, .inr (.inl ql2_8)))]) [5, 0, 1, 2, 3, 4, 6] (by decide +kernel) rfl
          exact ih_lp_2 (i + 1) (zq - 2 + 1) ql2_8 (kcOp (cs (1600 + i)) a1 b1 :: R1) _ _ _ (by omega) (by omega) (by omega) (show _ = R1.length + 1 by omega) (by omega) hst2_9 hns3 hT3 hP hD hS (lv_sub hl [0, 2, 3, 4] rfl)
        · rw [kcSt_num (by omega)] at hT1
          obtain rfl := Option.some.inj hT1
          have htp2 : SS.length + 1 ≤ 64 := hT2
          refine lv_aload_n hx hb dX12_codesTell_40 rfl (lv_at hl 1 rfl) ?_
          refine sk_get (v := .ref (g 26)) (C := RX12) (T := TX12) (N := 92) hx hb hts inlX12 hown hK hP 0 rfl rfl 26 (by decide) w_5_181 rfl dX12_codesTell_41 ?_
          refine lv_sipush (v := 1600) hx hb dX12_codesTell_44 (by decide) ?_
          refine lv_iload_n hx hb dX12_codesTell_47 rfl (lv_at hl 0 rfl) ?_
          refine lv_iadd hx hb dX12_codesTell_48 ?_
          refine sk_top (nI (1600 + i)) (nI_add 1600 i) ?_
          refine va_iald hx hb hK.1 hP 3 0 rfl rfl (vin (1600 + i) 3200 (by omega) (by omega)) dX12_codesTell_49 ?_
          refine sk_top (nI (cs (1600 + i))) (nrd cs (1600 + i) (by omega)) ?_
          have hb_10 := hcs (1600 + i)
          refine lv_istore (lv' := [(4, .int (nI (cs (1600 + i)))), (3, .int (nI i)), (0, .ref mm), (1, .int 1), (2, .int (nI d))]) hx hb dX12_codesTell_50 hl (by decide) rfl (fun ls hl => ?_)
          refine lv_iload hx hb dX12_codesTell_52 (lv_at hl 0 rfl) ?_
          refine lv_sipush (v := 1000) hx hb dX12_codesTell_54 (by decide) ?_
          refine lv_icmp_lt (tgt := 74) hx hb dX12_codesTell_57 (by decide) (fun c => absurd ((nlt (cs (1600 + i)) 1000 (by omega) (by omega)).mp c) (by omega)) (fun c_11 => ?_)
          refine lv_aload_n hx hb dX12_codesTell_60 rfl (lv_at hl 2 rfl) ?_
          refine lv_iload hx hb dX12_codesTell_61 (lv_at hl 0 rfl) ?_
          refine lv_sipush (v := 1000) hx hb dX12_codesTell_63 (by decide) ?_
          refine lv_isub hx hb dX12_codesTell_66 ?_
          refine sk_top (nI (cs (1600 + i) - 1000)) (nsub (cs (1600 + i)) 1000 (by omega)) ?_
          refine lv_i2l hx hb dX12_codesTell_67 rfl ?_
          refine sk_Vv (q0 := 0) (n := 1) (rest := []) (wr := [(g 24, .inl (cI, 6, .inl (l6 u0 u1 u2 u3 (nI ca) u5))), (g 25, .inl (cI, 6, .inl (l6 v0 v1 v2 v3 (nI cb) v5))), (g 26, .inl (cI, 3200, .inl (fun j => nI (cs j)))), (g 31, .inl (cI, 120, .inl nw)), (g 46, .inl (cI, 9, .inl (fun j => nI (pt j))))]) ⟨hx, hb, hml, hown, hts⟩ hl.1 (c_nm_qPuts l D cI cJ cC cZ cS mm g ta pa pe pd pb pp pf pg pn rt rn cd sn il 1 am at_ aa mt_ wt wy it_ rm ud nu sd qn qw qo qb zq qa qi oc (Int32.toInt64 (nI (cs (1600 + i) - 1000))) zl (by omega)) w_7_139 w_7_141 w_0_76 w_1_14 w_7_142 (by decide +kernel) ⟨⟨(Nat.le_of_ble_eq_true rfl), (Nat.le_of_ble_eq_true rfl)⟩, (Nat.le_of_ble_eq_true rfl), (Nat.le_of_ble_eq_true rfl)⟩ hK hP hD hS hA [0, 6] [1, 2, 3, 4, 5] rfl rfl (by decide +kernel) (by decide +kernel) (by decide +kernel) rfl rfl rfl rfl (Nat.le_of_ble_eq_true rfl) dX12_codesTell_68 (fun u H locs hw hP hD hS => ?_)
          obtain ⟨ql2_12, hql_13, rfl⟩ := hw
          have hP : va_P D vwCl [(g 24, .inl (cI, 6, .inl (l6 u0 u1 u2 u3 (nI ca) u5))), (g 25, .inl (cI, 6, .inl (l6 v0 v1 v2 v3 (nI cb) v5))), (g 26, .inl (cI, 3200, .inl (fun j => nI (cs j)))), (g 31, .inl (cI, 120, .inl nw)), (g 46, .inl (cI, 9, .inl (fun j => nI (pt j)))), (mm, .inr (12, mo g (nI ta) (nI pa) (nI pe) pd (nI pb) pp pf pg pn rt rn (nI cd) sn (nI il) 1 am at_ aa mt_ 0 (-1) wt wy (nI it_) (nI rm) (nI ud) (nI nu) sd (nI qn) (nI qw) qo (nI qb) (nI (zq + 1)) qa (nI qi) (nI oc))), (g 86, .inl (cJ, 1700, .inr (.inl ql2_12)))] H := hP
          have hD : va_D A [(g 24, .inl (cI, 6, .inl (l6 u0 u1 u2 u3 (nI ca) u5))), (g 25, .inl (cI, 6, .inl (l6 v0 v1 v2 v3 (nI cb) v5))), (g 26, .inl (cI, 3200, .inl (fun j => nI (cs j)))), (g 31, .inl (cI, 120, .inl nw)), (g 46, .inl (cI, 9, .inl (fun j => nI (pt j)))), (mm, .inr (12, mo g (nI ta) (nI pa) (nI pe) pd (nI pb) pp pf pg pn rt rn (nI cd) sn (nI il) 1 am at_ aa mt_ 0 (-1) wt wy (nI it_) (nI rm) (nI ud) (nI nu) sd (nI qn) (nI qw) qo (nI qb) (nI (zq + 1)) qa (nI qi) (nI oc))), (g 86, .inl (cJ, 1700, .inr (.inl ql2_12)))] := hD
          have hs_14 := stk_push hst hzq0 hql_13 (kx_i2l (by omega))
          refine lv_goto (tgt := 104) hx hb dX12_codesTell_71 (by decide) ?_
          refine lv_iinc (v := nI (i + 1)) (lv' := [(3, .int (nI (i + 1))), (4, .int (nI (cs (1600 + i)))), (0, .ref mm), (1, .int 1), (2, .int (nI d))]) hx hb dX12_codesTell_104 hl (k := 1) rfl (ninc i 1 (by decide)) (by decide) rfl (fun ls hl => ?_)
          refine lv_goto (tgt := 28) hx hb dX12_codesTell_107 (by decide) ?_
          have hP := hP.sub (ws' := [(mm, .inr (12, mo g (nI ta) (nI pa) (nI pe) pd (nI pb) pp pf pg pn rt rn (nI cd) sn (nI il) 1 am at_ aa mt_ 0 (-1) wt wy (nI it_) (nI rm) (nI ud) (nI nu) sd (nI qn) (nI qw) qo (nI qb) (nI (zq + 1)) qa (nI qi) (nI oc))), (g 24, .inl (cI, 6, .inl (l6 u0 u1 u2 u3 (nI ca) u5))), (g 25, .inl (cI, 6, .inl (l6 v0 v1 v2 v3 (nI cb) v5))), (g 26, .inl (cI, 3200, .inl (fun j => nI (cs j)))), (g 31, .inl (cI, 120, .inl nw)), (g 46, .inl (cI, 9, .inl (fun j => nI (pt j)))), (g 86, .inl (cJ, 1700, .inr (.inl ql2_12)))]) [5, 0, 1, 2, 3, 4, 6] rfl
          have hD := hD.sub (ws' := [(mm, .inr (12, mo g (nI ta) (nI pa) (nI pe) pd (nI pb) pp pf pg pn rt rn (nI cd) sn (nI il) 1 am at_ aa mt_ 0 (-1) wt wy (nI it_) (nI rm) (nI ud) (nI nu) sd (nI qn) (nI qw) qo (nI qb) (nI (zq + 1)) qa (nI qi) (nI oc))), (g 24, .inl (cI, 6, .inl (l6 u0 u1 u2 u3 (nI ca) u5))), (g 25, .inl (cI, 6, .inl (l6 v0 v1 v2 v3 (nI cb) v5))), (g 26, .inl (cI, 3200, .inl (fun j => nI (cs j)))), (g 31, .inl (cI, 120, .inl nw)), (g 46, .inl (cI, 9, .inl (fun j => nI (pt j)))), (g 86, .inl (cJ, 1700, .inr (.inl ql2_12)))]) [5, 0, 1, 2, 3, 4, 6] (by decide +kernel) rfl
          exact ih_lp_2 (i + 1) (zq + 1) ql2_12 (Int64.ofNat (cs (1600 + i) - 1000) :: SS) _ _ _ (by omega) (by omega) (by omega) (show _ = SS.length + 1 by omega) (by omega) hs_14 hns3 hT3 hP hD hS (lv_sub hl [0, 2, 3, 4] rfl)
        · rw [kcSt_nm (by omega) (by omega)] at hT1
          obtain rfl := Option.some.inj hT1
          have htp2 : SS.length + 1 ≤ 64 := hT2
          refine lv_aload_n hx hb dX12_codesTell_40 rfl (lv_at hl 1 rfl) ?_
          refine sk_get (v := .ref (g 26)) (C := RX12) (T := TX12) (N := 92) hx hb hts inlX12 hown hK hP 0 rfl rfl 26 (by decide) w_5_181 rfl dX12_codesTell_41 ?_
          refine lv_sipush (v := 1600) hx hb dX12_codesTell_44 (by decide) ?_
          refine lv_iload_n hx hb dX12_codesTell_47 rfl (lv_at hl 0 rfl) ?_
          refine lv_iadd hx hb dX12_codesTell_48 ?_
          refine sk_top (nI (1600 + i)) (nI_add 1600 i) ?_
          refine va_iald hx hb hK.1 hP 3 0 rfl rfl (vin (1600 + i) 3200 (by omega) (by omega)) dX12_codesTell_49 ?_
          refine sk_top (nI (cs (1600 + i))) (nrd cs (1600 + i) (by omega)) ?_
          have hb_15 := hcs (1600 + i)
          refine lv_istore (lv' := [(4, .int (nI (cs (1600 + i)))), (3, .int (nI i)), (0, .ref mm), (1, .int 1), (2, .int (nI d))]) hx hb dX12_codesTell_50 hl (by decide) rfl (fun ls hl => ?_)
          refine lv_iload hx hb dX12_codesTell_52 (lv_at hl 0 rfl) ?_
          refine lv_sipush (v := 1000) hx hb dX12_codesTell_54 (by decide) ?_
          refine lv_icmp_lt (tgt := 74) hx hb dX12_codesTell_57 (by decide) (fun c_16 => ?_) (fun c => absurd ((nlt (cs (1600 + i)) 1000 (by omega) (by omega)).mpr (by omega)) c)
          refine lv_iload hx hb dX12_codesTell_74 (lv_at hl 0 rfl) ?_
          refine lv_bipush (v := 40) hx hb dX12_codesTell_76 (by decide) ?_
          refine lv_icmp_lt (tgt := 98) hx hb dX12_codesTell_78 (by decide) (fun c => absurd ((nlt (cs (1600 + i)) 40 (by omega) (by omega)).mp c) (by omega)) (fun c_17 => ?_)
          refine lv_aload_n hx hb dX12_codesTell_81 rfl (lv_at hl 2 rfl) ?_
          refine lv_aload_n hx hb dX12_codesTell_82 rfl (lv_at hl 2 rfl) ?_
          refine lv_iload hx hb dX12_codesTell_83 (lv_at hl 0 rfl) ?_
          refine lv_bipush (v := 40) hx hb dX12_codesTell_85 (by decide) ?_
          refine lv_isub hx hb dX12_codesTell_87 ?_
          refine sk_top (nI (cs (1600 + i) - 40)) (nsub (cs (1600 + i)) 40 (by omega)) ?_
          refine lv_iload_n hx hb dX12_codesTell_88 rfl (lv_at hl 4 rfl) ?_
          refine sk_Vl (q0 := 0) (n := 2) (rest := [.ref mm]) (wr := [(g 24, .inl (cI, 6, .inl (l6 u0 u1 u2 u3 (nI ca) u5))), (g 25, .inl (cI, 6, .inl (l6 v0 v1 v2 v3 (nI cb) v5))), (g 26, .inl (cI, 3200, .inl (fun j => nI (cs j)))), (g 86, .inl (cJ, 1700, .inr (.inl zl)))]) ⟨hx, hb, hml, hown, hts⟩ hl.1 (c_nm_qPartOf l D cI cJ cC cZ cS mm g ta pa pe pd pb pp pf pg pn rt rn cd sn il 1 am at_ aa mt_ wt wy it_ rm ud nu sd qn qw qo qb zq qa qi oc (cs (1600 + i) - 40) d nw pt nm (by omega) (by omega) hnm hnw hpt) w_7_143 w_7_145 w_0_77 w_1_14 w_7_146 (by decide +kernel) ⟨⟨(Nat.le_of_ble_eq_true rfl), (Nat.le_of_ble_eq_true rfl)⟩, (Nat.le_of_ble_eq_true rfl), (Nat.le_of_ble_eq_true rfl)⟩ hK hP hD hS hA [0, 4, 5] [1, 2, 3, 6] rfl rfl (by decide +kernel) (by decide +kernel) (by decide +kernel) rfl rfl rfl rfl (Nat.le_of_ble_eq_true rfl) dX12_codesTell_89 (fun r_18 u H locs hw hP hD hS => ?_)
          obtain ⟨hr_19, rfl⟩ := hw
          have hP : va_P D vwCl [(g 24, .inl (cI, 6, .inl (l6 u0 u1 u2 u3 (nI ca) u5))), (g 25, .inl (cI, 6, .inl (l6 v0 v1 v2 v3 (nI cb) v5))), (g 26, .inl (cI, 3200, .inl (fun j => nI (cs j)))), (g 86, .inl (cJ, 1700, .inr (.inl zl))), (mm, .inr (12, mo g (nI ta) (nI pa) (nI pe) pd (nI pb) pp pf pg pn rt rn (nI cd) sn (nI il) 1 am at_ aa mt_ 0 (-1) wt wy (nI it_) (nI rm) (nI ud) (nI nu) sd (nI qn) (nI qw) qo (nI qb) (nI zq) qa (nI qi) (nI oc))), (g 31, .inl (cI, 120, .inl nw)), (g 46, .inl (cI, 9, .inl (fun j => nI (pt j))))] H := hP
          have hD : va_D A [(g 24, .inl (cI, 6, .inl (l6 u0 u1 u2 u3 (nI ca) u5))), (g 25, .inl (cI, 6, .inl (l6 v0 v1 v2 v3 (nI cb) v5))), (g 26, .inl (cI, 3200, .inl (fun j => nI (cs j)))), (g 86, .inl (cJ, 1700, .inr (.inl zl))), (mm, .inr (12, mo g (nI ta) (nI pa) (nI pe) pd (nI pb) pp pf pg pn rt rn (nI cd) sn (nI il) 1 am at_ aa mt_ 0 (-1) wt wy (nI it_) (nI rm) (nI ud) (nI nu) sd (nI qn) (nI qw) qo (nI qb) (nI zq) qa (nI qi) (nI oc))), (g 31, .inl (cI, 120, .inl nw)), (g 46, .inl (cI, 9, .inl (fun j => nI (pt j))))] := hD
          subst hr_19
          refine sk_Vv (q0 := 0) (n := 1) (rest := []) (wr := [(g 24, .inl (cI, 6, .inl (l6 u0 u1 u2 u3 (nI ca) u5))), (g 25, .inl (cI, 6, .inl (l6 v0 v1 v2 v3 (nI cb) v5))), (g 26, .inl (cI, 3200, .inl (fun j => nI (cs j)))), (g 31, .inl (cI, 120, .inl nw)), (g 46, .inl (cI, 9, .inl (fun j => nI (pt j))))]) ⟨hx, hb, hml, hown, hts⟩ hl.1 (c_nm_qPuts l D cI cJ cC cZ cS mm g ta pa pe pd pb pp pf pg pn rt rn cd sn il 1 am at_ aa mt_ wt wy it_ rm ud nu sd qn qw qo qb zq qa qi oc (nm (cs (1600 + i) - 40)) zl (by omega)) w_7_139 w_7_141 w_0_76 w_1_14 w_7_142 (by decide +kernel) ⟨⟨(Nat.le_of_ble_eq_true rfl), (Nat.le_of_ble_eq_true rfl)⟩, (Nat.le_of_ble_eq_true rfl), (Nat.le_of_ble_eq_true rfl)⟩ hK hP hD hS hA [4, 3] [0, 1, 2, 5, 6] rfl rfl (by decide +kernel) (by decide +kernel) (by decide +kernel) rfl rfl rfl rfl (Nat.le_of_ble_eq_true rfl) dX12_codesTell_92 (fun u H locs hw hP hD hS => ?_)
          obtain ⟨ql2_20, hql_21, rfl⟩ := hw
          have hP : va_P D vwCl [(g 24, .inl (cI, 6, .inl (l6 u0 u1 u2 u3 (nI ca) u5))), (g 25, .inl (cI, 6, .inl (l6 v0 v1 v2 v3 (nI cb) v5))), (g 26, .inl (cI, 3200, .inl (fun j => nI (cs j)))), (g 31, .inl (cI, 120, .inl nw)), (g 46, .inl (cI, 9, .inl (fun j => nI (pt j)))), (mm, .inr (12, mo g (nI ta) (nI pa) (nI pe) pd (nI pb) pp pf pg pn rt rn (nI cd) sn (nI il) 1 am at_ aa mt_ 0 (-1) wt wy (nI it_) (nI rm) (nI ud) (nI nu) sd (nI qn) (nI qw) qo (nI qb) (nI (zq + 1)) qa (nI qi) (nI oc))), (g 86, .inl (cJ, 1700, .inr (.inl ql2_20)))] H := hP
          have hD : va_D A [(g 24, .inl (cI, 6, .inl (l6 u0 u1 u2 u3 (nI ca) u5))), (g 25, .inl (cI, 6, .inl (l6 v0 v1 v2 v3 (nI cb) v5))), (g 26, .inl (cI, 3200, .inl (fun j => nI (cs j)))), (g 31, .inl (cI, 120, .inl nw)), (g 46, .inl (cI, 9, .inl (fun j => nI (pt j)))), (mm, .inr (12, mo g (nI ta) (nI pa) (nI pe) pd (nI pb) pp pf pg pn rt rn (nI cd) sn (nI il) 1 am at_ aa mt_ 0 (-1) wt wy (nI it_) (nI rm) (nI ud) (nI nu) sd (nI qn) (nI qw) qo (nI qb) (nI (zq + 1)) qa (nI qi) (nI oc))), (g 86, .inl (cJ, 1700, .inr (.inl ql2_20)))] := hD
          have hs_22 := stk_push hst hzq0 hql_21 rfl
          refine lv_goto (tgt := 104) hx hb dX12_codesTell_95 (by decide) ?_
          refine lv_iinc (v := nI (i + 1)) (lv' := [(3, .int (nI (i + 1))), (4, .int (nI (cs (1600 + i)))), (0, .ref mm), (1, .int 1), (2, .int (nI d))]) hx hb dX12_codesTell_104 hl (k := 1) rfl (ninc i 1 (by decide)) (by decide) rfl (fun ls hl => ?_)
          refine lv_goto (tgt := 28) hx hb dX12_codesTell_107 (by decide) ?_
          have hP := hP.sub (ws' := [(mm, .inr (12, mo g (nI ta) (nI pa) (nI pe) pd (nI pb) pp pf pg pn rt rn (nI cd) sn (nI il) 1 am at_ aa mt_ 0 (-1) wt wy (nI it_) (nI rm) (nI ud) (nI nu) sd (nI qn) (nI qw) qo (nI qb) (nI (zq + 1)) qa (nI qi) (nI oc))), (g 24, .inl (cI, 6, .inl (l6 u0 u1 u2 u3 (nI ca) u5))), (g 25, .inl (cI, 6, .inl (l6 v0 v1 v2 v3 (nI cb) v5))), (g 26, .inl (cI, 3200, .inl (fun j => nI (cs j)))), (g 31, .inl (cI, 120, .inl nw)), (g 46, .inl (cI, 9, .inl (fun j => nI (pt j)))), (g 86, .inl (cJ, 1700, .inr (.inl ql2_20)))]) [5, 0, 1, 2, 3, 4, 6] rfl
          have hD := hD.sub (ws' := [(mm, .inr (12, mo g (nI ta) (nI pa) (nI pe) pd (nI pb) pp pf pg pn rt rn (nI cd) sn (nI il) 1 am at_ aa mt_ 0 (-1) wt wy (nI it_) (nI rm) (nI ud) (nI nu) sd (nI qn) (nI qw) qo (nI qb) (nI (zq + 1)) qa (nI qi) (nI oc))), (g 24, .inl (cI, 6, .inl (l6 u0 u1 u2 u3 (nI ca) u5))), (g 25, .inl (cI, 6, .inl (l6 v0 v1 v2 v3 (nI cb) v5))), (g 26, .inl (cI, 3200, .inl (fun j => nI (cs j)))), (g 31, .inl (cI, 120, .inl nw)), (g 46, .inl (cI, 9, .inl (fun j => nI (pt j)))), (g 86, .inl (cJ, 1700, .inr (.inl ql2_20)))]) [5, 0, 1, 2, 3, 4, 6] (by decide +kernel) rfl
          exact ih_lp_2 (i + 1) (zq + 1) ql2_20 (nm (cs (1600 + i) - 40) :: SS) _ _ _ (by omega) (by omega) (by omega) (show _ = SS.length + 1 by omega) (by omega) hs_22 hns3 hT3 hP hD hS (lv_sub hl [0, 2, 3, 4] rfl)
  exact lp_2 (cb - ca + 1) ca 0 ql ([]) _ _ _ (Nat.lt_succ_self _) (by omega) (by omega) rfl (by omega) True.intro hns hex hP hD hS (lv_sub hl [0, 1, 2, 3] rfl)
section KwZ
variable {p : Program} {l : Launch} {e : Env} {R : Room} {s : State} {m : MethodId} {args : Array Value} {below : List Frame} {meth : Method} {c : Code} {H : Heap} {locs : List Loc} {cells slots : Nat} {Q : State → Prop}
variable {cc : ByteArray} {pc : Nat} {ls : Array Slot} {rest : List Value} {D : va_G} {tys : List (ClassId × FieldType)} {ws : va_W} {A : Nat → Prop} {H0 : Heap} {a : Nat}
theorem sk_zastE (hexec : p.tables.exec = Jvm.exec) (hb : c.code = cc) (hK : skK D tys s) (hP : va_P D vwCl ws H) (hD : va_D A ws) (hS : va_S A H0 H locs) (q0 t0 : Nat) {cA : ClassId} {n : Nat} {f : Nat → Int32} {ws' : (Nat → Int32) → va_W} (ha : ws[q0]? = some (a, .inl (cA, n, .inl f))) (ht : tys[t0]? = some (cA, .boolean)) {k : Nat} {x y : Int32} (hk : k < n) (hn : n < 2147483648) (hw' : ∀ f', ws.set q0 (a, .inl (cA, n, .inl f')) = ws' f') (hy : vp_nar .boolean x = y) (hdg : decode cc pc = .ok (.bastore, 1))
    (kk : ∀ (f' : Nat → Int32) (H1 : Heap) (locs1 : List Loc), f' = upd f k y → va_P D vwCl (ws' f') H1 → va_D A (ws' f') → va_S A H0 H1 locs1 → W p l e R s m args below meth c H1 locs1 cells slots Q (F0 m (pc + 1) ls rest)) : W p l e R s m args below meth c H locs cells slots Q (F0 m pc ls (.int x :: .int (nI k) :: .ref a :: rest)) :=
  va_zast hexec hb hK.1 hP hD hS q0 t0 ha ht (vin k n hk hn) hdg (fun H1 locs1 h1 h2 h3 => kk _ H1 locs1 (by rw [nI_clamp (by omega), hy]) ((hw' _) ▸ h1) ((hw' _) ▸ h2) h3)
end KwZ
theorem kw_said {L : LkS} {wk b w d m : Nat} (hm : m < 10) (h : lG L 0 = none) : m = kcSaid L wk b w d m := by
  unfold kcSaid
  rw [kcV_none (by decide) h, if_neg (by decide)]
  exact (kten_n hm).symm
theorem kw_said2 {L : LkS} {nm : Nat → Int64} {wk b w d m : Nat} (hL : kcLk L) (h : ∀ j, j < 5 → nm j = kcNm wk b w d m 0 0 j) : kcTen (kcV L 0 nm) = kcSaid L wk b w d m := by
  unfold kcSaid
  rw [kcV_cg (w := 0) (nm2 := kcNm wk b w d m 0 0) hL (by decide) h]
theorem kw_bec {L : LkS} {wk b w d m t al : Nat} (ht : t < 10) (h : lG L 1 = none) : t = kcBec L wk b w d m t al := by
  unfold kcBec
  rw [kcV_none (by decide) h, if_pos rfl]
  exact (kten_n ht).symm
/-! the days, laid -/
def mlS (L : LkS) (wk : Nat) (B W : Nat → Nat) (li d : Nat) (f : Nat → Int32) (n : Nat) : Prop := ∀ m, m < n → f (10 * d + m) = nI ((kcSaid L wk (B d) (W d) d m + li) % 10)
def kone (q : Prop) [Decidable q] : Int32 := if q then 1 else 0
def mlW (L : LkS) (wk : Nat) (B W : Nat → Nat) (li d a m : Nat) : Int32 := kone (kcBec L wk (B d) (W d) d a ((kcSaid L wk (B d) (W d) d m + li) % 10) 0 = m)
def mlO (L : LkS) (wk : Nat) (B W : Nat → Nat) (d a m : Nat) : Int32 := kone (kcBec L wk (B d) (W d) d a 0 1 = m)
set_option maxHeartbeats 4000000 in
set_option maxRecDepth 100000 in
theorem c_nm_wordOf (l : Launch) (D : va_G) (cI cJ cC cZ cS : ClassId) (mm : Nat) (g : Nat → Nat) (ta : Nat) (pa : Nat) (pe : Nat) (pd : Int32) (pb : Nat) (pp : Int32) (pf : Int32) (pg : Int32) (pn : Int32) (rt : Int32) (rn : Int32) (cd : Nat) (sn : Int32) (il : Nat) (tk : Int32) (am : Int32) (at_ : Int32) (aa : Int32) (mt_ : Int32) (wt : Int32) (wy : Int64) (it_ : Nat) (rm : Nat) (ud : Nat) (nu : Nat) (sd : Int64) (qn : Nat) (qw : Nat) (qo : Int32) (qb : Nat) (qp : Nat) (qa : Int64) (qi : Nat) (oc : Nat) (d : Nat) (mq : Nat) (u0 : Int32) (u1 : Int32) (u2 : Int32) (u3 : Int32) (u4 : Int32) (u5 : Int32) (v0 : Int32) (v1 : Int32) (v2 : Int32) (v3 : Int32) (v4 : Int32) (v5 : Int32) (cs : Nat → Nat) (nw : Nat → Int32) (pt : Nat → Nat) (ql : Nat → Int64) (L : LkS) (wk : Nat) (b : Nat) (w : Nat) (hd : d < 9) (hm : mq < 10) (hLk : kcLk L) (hkl : (lK L).length ≤ 1600) (hmd : mdO nw wk b w d) (hwk : wk ≤ 999) (hb9 : b ≤ 9) (hw9 : w ≤ 9) (hmw0 : mwO L 0 u3 v3 cs) (hcs : ∀ j, cs j ≤ 20000) (hnw : nowOk nw) (hpt : ∀ j, pt j ≤ 9) : skM l yX12_wordOf cX12_wordOf 3 (some .int) 3 74 0 0 D (skT cI cJ cC cZ cS) [.ref mm, .int (nI d), .int (nI mq)] [(mm, .inr (12, mo g (nI ta) (nI pa) (nI pe) pd (nI pb) pp pf pg pn rt rn (nI cd) sn (nI il) tk am at_ aa mt_ 0 (-1) wt wy (nI it_) (nI rm) (nI ud) (nI nu) sd (nI qn) (nI qw) qo (nI qb) (nI qp) qa (nI qi) (nI oc))), (g 24, .inl (cI, 6, .inl (l6 u0 u1 u2 u3 u4 u5))), (g 25, .inl (cI, 6, .inl (l6 v0 v1 v2 v3 v4 v5))), (g 26, .inl (cI, 3200, .inl (fun j => nI (cs j)))), (g 31, .inl (cI, 120, .inl nw)), (g 46, .inl (cI, 9, .inl (fun j => nI (pt j)))), (g 86, .inl (cJ, 1700, .inr (.inl ql)))] (skI D (skT cI cJ cC cZ cS) (fun (r : Int32) (u : va_W) => ∃ (v : Nat), ∃ (tk2 : Int32), ∃ (qp2 : Nat), ∃ (am2 : Int32), ∃ (ql2 : Nat → Int64), v = kcSaid L wk b w d mq ∧ r = nI v ∧ u = [(mm, .inr (12, mo g (nI ta) (nI pa) (nI pe) pd (nI pb) pp pf pg pn rt rn (nI cd) sn (nI il) tk2 am2 at_ aa mt_ 0 (-1) wt wy (nI it_) (nI rm) (nI ud) (nI nu) sd (nI qn) (nI qw) qo (nI qb) (nI qp2) qa (nI qi) (nI oc))), (g 24, .inl (cI, 6, .inl (l6 u0 u1 u2 u3 u4 u5))), (g 25, .inl (cI, 6, .inl (l6 v0 v1 v2 v3 v4 v5))), (g 26, .inl (cI, 3200, .inl (fun j => nI (cs j)))), (g 31, .inl (cI, 120, .inl nw)), (g 46, .inl (cI, 9, .inl (fun j => nI (pt j)))), (g 86, .inl (cJ, 1700, .inr (.inl ql2)))])) := by
  refine skM_of (by decide +kernel) (Nat.le_of_ble_eq_true rfl) ?_
  intro p e s m below meth c A ls E hP hD hl
  obtain ⟨hx, hb, hr, hml, hlocks, hin, hown, hts, hK, hA⟩ := E
  have hown : s.vm.findClass RX12 = some m.cls := hown
  have hS : va_S A s.heap s.heap [] := va_S.rf
  have hl : lv_has ls 3 [(0, .ref mm), (1, .int (nI d)), (2, .int (nI mq))] := hl
  refine lv_aload_n hx hb dX12_wordOf_0 rfl (lv_at hl 0 rfl) ?_
  refine sk_get (v := .ref (g 24)) (C := RX12) (T := TX12) (N := 92) hx hb hts inlX12 hown hK hP 0 rfl rfl 24 (by decide) w_5_179 rfl dX12_wordOf_1 ?_
  refine lv_iconst (v := 3) hx hb dX12_wordOf_4 (by decide) ?_
  refine va_iald hx hb hK.1 hP 1 0 rfl rfl (by unfold vp_in; decide) dX12_wordOf_5 ?_
  refine sk_top u3 rfl ?_
  refine lv_iconst (v := (-1)) hx hb dX12_wordOf_6 (by decide) ?_
  refine lv_icmp_ne (tgt := 12) hx hb dX12_wordOf_7 (by decide) (fun c_1 => ?_) (fun c_1 => ?_)
  · skip
    refine lv_aload_n hx hb dX12_wordOf_12 rfl (lv_at hl 0 rfl) ?_
    refine lv_iload_n hx hb dX12_wordOf_13 rfl (lv_at hl 2 rfl) ?_
    refine sk_put (ws' := [(mm, .inr (12, mo g (nI ta) (nI pa) (nI pe) pd (nI pb) pp pf pg pn rt rn (nI cd) sn (nI il) tk (nI mq) at_ aa mt_ 0 (-1) wt wy (nI it_) (nI rm) (nI ud) (nI nu) sd (nI qn) (nI qw) qo (nI qb) (nI qp) qa (nI qi) (nI oc))), (g 24, .inl (cI, 6, .inl (l6 u0 u1 u2 u3 u4 u5))), (g 25, .inl (cI, 6, .inl (l6 v0 v1 v2 v3 v4 v5))), (g 26, .inl (cI, 3200, .inl (fun j => nI (cs j)))), (g 31, .inl (cI, 120, .inl nw)), (g 46, .inl (cI, 9, .inl (fun j => nI (pt j)))), (g 86, .inl (cJ, 1700, .inr (.inl ql)))]) (C := RX12) (T := TX12) (N := 92) (v := .int (nI mq)) hx hb hts inlX12 tyX12 tyX12_ok nmX12 hown hK hP hD hS 0 rfl rfl 33 (by decide) w_5_188 rfl rfl rfl (Nat.le_of_ble_eq_true rfl) rfl dX12_wordOf_14 (fun H locs hP hD hS => ?_)
    refine lv_aload_n hx hb dX12_wordOf_17 rfl (lv_at hl 0 rfl) ?_
    refine lv_iconst (v := 0) hx hb dX12_wordOf_18 (by decide) ?_
    refine lv_iload_n hx hb dX12_wordOf_19 rfl (lv_at hl 1 rfl) ?_
    obtain ⟨ca, cb, rfl, rfl, hab_, hbk_, hKc_, hG_⟩ := mw_some hLk hmw0 c_1
    obtain ⟨nm, hnm, hn5⟩ := mn_any (am := nI mq) (at_ := at_) (aa := aa) hmd rfl (by omega) (by omega) (by omega) (by omega) (by omega)
    refine sk_Vl (q0 := 0) (n := 2) (rest := []) (wr := []) ⟨hx, hb, hml, hown, hts⟩ hl.1 (c_nm_codesTell0 l D cI cJ cC cZ cS mm g ta pa pe pd pb pp pf pg pn rt rn cd sn il tk (nI mq) at_ aa mt_ wt wy it_ rm ud nu sd qn qw qo qb qp qa qi oc d u0 u1 u2 u4 u5 ca v0 v1 v2 v4 v5 cb cs nw pt ql (lK L) nm (kcV L 0 nm) 0 (by omega) hab_ hbk_ hkl hKc_ (by decide) (kw_ns hLk rfl hG_) hnm (kw_ex hLk (by decide) hG_ nm) hcs hnw hpt) w_7_135 w_7_137 w_0_75 w_1_14 w_7_138 (by decide +kernel) ⟨⟨(Nat.le_of_ble_eq_true rfl), (Nat.le_of_ble_eq_true rfl)⟩, (Nat.le_of_ble_eq_true rfl), (Nat.le_of_ble_eq_true rfl)⟩ hK hP hD hS hA [0, 1, 2, 3, 4, 5, 6] [] rfl rfl (by decide +kernel) (by decide +kernel) (by decide +kernel) rfl rfl rfl rfl (Nat.le_of_ble_eq_true rfl) dX12_wordOf_20 (fun r_4 u H locs hw hP hD hS => ?_)
    obtain ⟨qp2_2, ql2_3, rfl, rfl⟩ := hw
    have hP : va_P D vwCl [(mm, .inr (12, mo g (nI ta) (nI pa) (nI pe) pd (nI pb) pp pf pg pn rt rn (nI cd) sn (nI il) 0 (nI mq) at_ aa mt_ 0 (-1) wt wy (nI it_) (nI rm) (nI ud) (nI nu) sd (nI qn) (nI qw) qo (nI qb) (nI qp2_2) qa (nI qi) (nI oc))), (g 24, .inl (cI, 6, .inl (l6 u0 u1 u2 (nI ca) u4 u5))), (g 25, .inl (cI, 6, .inl (l6 v0 v1 v2 (nI cb) v4 v5))), (g 26, .inl (cI, 3200, .inl (fun j => nI (cs j)))), (g 31, .inl (cI, 120, .inl nw)), (g 46, .inl (cI, 9, .inl (fun j => nI (pt j)))), (g 86, .inl (cJ, 1700, .inr (.inl ql2_3)))] H := hP
    have hD : va_D A [(mm, .inr (12, mo g (nI ta) (nI pa) (nI pe) pd (nI pb) pp pf pg pn rt rn (nI cd) sn (nI il) 0 (nI mq) at_ aa mt_ 0 (-1) wt wy (nI it_) (nI rm) (nI ud) (nI nu) sd (nI qn) (nI qw) qo (nI qb) (nI qp2_2) qa (nI qi) (nI oc))), (g 24, .inl (cI, 6, .inl (l6 u0 u1 u2 (nI ca) u4 u5))), (g 25, .inl (cI, 6, .inl (l6 v0 v1 v2 (nI cb) v4 v5))), (g 26, .inl (cI, 3200, .inl (fun j => nI (cs j)))), (g 31, .inl (cI, 120, .inl nw)), (g 46, .inl (cI, 9, .inl (fun j => nI (pt j)))), (g 86, .inl (cJ, 1700, .inr (.inl ql2_3)))] := hD
    refine sk_Si (n := 1) (rest := []) (wr := [(mm, .inr (12, mo g (nI ta) (nI pa) (nI pe) pd (nI pb) pp pf pg pn rt rn (nI cd) sn (nI il) 0 (nI mq) at_ aa mt_ 0 (-1) wt wy (nI it_) (nI rm) (nI ud) (nI nu) sd (nI qn) (nI qw) qo (nI qb) (nI qp2_2) qa (nI qi) (nI oc))), (g 24, .inl (cI, 6, .inl (l6 u0 u1 u2 (nI ca) u4 u5))), (g 25, .inl (cI, 6, .inl (l6 v0 v1 v2 (nI cb) v4 v5))), (g 26, .inl (cI, 3200, .inl (fun j => nI (cs j)))), (g 31, .inl (cI, 120, .inl nw)), (g 46, .inl (cI, 9, .inl (fun j => nI (pt j)))), (g 86, .inl (cJ, 1700, .inr (.inl ql2_3)))]) ⟨hx, hb, hml, hown, hts⟩ hl.1 (c_nm_byTen l D cI cJ cC cZ cS (kcV L 0 nm)) w_7_168 w_7_169 w_1_14 w_7_170 (by decide +kernel) ⟨⟨(Nat.le_of_ble_eq_true rfl), (Nat.le_of_ble_eq_true rfl)⟩, (Nat.le_of_ble_eq_true rfl), (Nat.le_of_ble_eq_true rfl)⟩ hK hP hD hS hA [] [0, 1, 2, 3, 4, 5, 6] rfl rfl (by decide +kernel) (by decide +kernel) (by decide +kernel) rfl rfl (Nat.le_of_ble_eq_true rfl) dX12_wordOf_23 (fun r_5 u H locs hw hP hD hS => ?_)
    obtain ⟨rfl, rfl⟩ := hw
    have hP : va_P D vwCl [(mm, .inr (12, mo g (nI ta) (nI pa) (nI pe) pd (nI pb) pp pf pg pn rt rn (nI cd) sn (nI il) 0 (nI mq) at_ aa mt_ 0 (-1) wt wy (nI it_) (nI rm) (nI ud) (nI nu) sd (nI qn) (nI qw) qo (nI qb) (nI qp2_2) qa (nI qi) (nI oc))), (g 24, .inl (cI, 6, .inl (l6 u0 u1 u2 (nI ca) u4 u5))), (g 25, .inl (cI, 6, .inl (l6 v0 v1 v2 (nI cb) v4 v5))), (g 26, .inl (cI, 3200, .inl (fun j => nI (cs j)))), (g 31, .inl (cI, 120, .inl nw)), (g 46, .inl (cI, 9, .inl (fun j => nI (pt j)))), (g 86, .inl (cJ, 1700, .inr (.inl ql2_3)))] H := hP
    have hD : va_D A [(mm, .inr (12, mo g (nI ta) (nI pa) (nI pe) pd (nI pb) pp pf pg pn rt rn (nI cd) sn (nI il) 0 (nI mq) at_ aa mt_ 0 (-1) wt wy (nI it_) (nI rm) (nI ud) (nI nu) sd (nI qn) (nI qw) qo (nI qb) (nI qp2_2) qa (nI qi) (nI oc))), (g 24, .inl (cI, 6, .inl (l6 u0 u1 u2 (nI ca) u4 u5))), (g 25, .inl (cI, 6, .inl (l6 v0 v1 v2 (nI cb) v4 v5))), (g 26, .inl (cI, 3200, .inl (fun j => nI (cs j)))), (g 31, .inl (cI, 120, .inl nw)), (g 46, .inl (cI, 9, .inl (fun j => nI (pt j)))), (g 86, .inl (cJ, 1700, .inr (.inl ql2_3)))] := hD
    exact sk_iret hx hb hr rfl hlocks hK hP hD hS (⟨kcTen (kcV L 0 nm), 0, qp2_2, nI mq, ql2_3, kw_said2 hLk hn5, rfl, rfl⟩) (Nat.le_of_ble_eq_true rfl) (Nat.le_of_ble_eq_true rfl) dX12_wordOf_26
  · skip
    refine lv_iload_n hx hb dX12_wordOf_10 rfl (lv_at hl 2 rfl) ?_
    exact sk_iret hx hb hr rfl hlocks hK hP hD hS (⟨mq, tk, qp, am, ql, kw_said hm (mw_none hLk hkl hmw0 c_1), rfl, rfl⟩) (Nat.le_of_ble_eq_true rfl) (Nat.le_of_ble_eq_true rfl) dX12_wordOf_11
set_option maxHeartbeats 4000000 in
set_option maxRecDepth 100000 in
theorem c_nm_becomesBy0 (l : Launch) (D : va_G) (cI cJ cC cZ cS : ClassId) (mm : Nat) (g : Nat → Nat) (ta : Nat) (pa : Nat) (pe : Nat) (pd : Int32) (pb : Nat) (pp : Int32) (pf : Int32) (pg : Int32) (pn : Int32) (rt : Int32) (rn : Int32) (cd : Nat) (sn : Int32) (il : Nat) (tk : Int32) (am : Int32) (at_ : Int32) (aa : Int32) (mt_ : Int32) (wt : Int32) (wy : Int64) (it_ : Nat) (rm : Nat) (ud : Nat) (nu : Nat) (sd : Int64) (qn : Nat) (qw : Nat) (qo : Int32) (qb : Nat) (qp : Nat) (qa : Int64) (qi : Nat) (oc : Nat) (d : Nat) (mq : Nat) (t : Nat) (u0 : Int32) (u1 : Int32) (u2 : Int32) (u3 : Int32) (u4 : Int32) (u5 : Int32) (v0 : Int32) (v1 : Int32) (v2 : Int32) (v3 : Int32) (v4 : Int32) (v5 : Int32) (cs : Nat → Nat) (nw : Nat → Int32) (pt : Nat → Nat) (ql : Nat → Int64) (L : LkS) (wk : Nat) (b : Nat) (w : Nat) (hd : d < 9) (hm : mq < 10) (ht : t < 10) (hLk : kcLk L) (hkl : (lK L).length ≤ 1600) (hmd : mdO nw wk b w d) (hwk : wk ≤ 999) (hb9 : b ≤ 9) (hw9 : w ≤ 9) (hmw1 : mwO L 1 u4 v4 cs) (hcs : ∀ j, cs j ≤ 20000) (hnw : nowOk nw) (hpt : ∀ j, pt j ≤ 9) : skM l yX12_becomesBy cX12_becomesBy 5 (some .int) 3 74 0 0 D (skT cI cJ cC cZ cS) [.ref mm, .int (nI d), .int (nI mq), .int (nI t), .int 0] [(mm, .inr (12, mo g (nI ta) (nI pa) (nI pe) pd (nI pb) pp pf pg pn rt rn (nI cd) sn (nI il) tk am at_ aa mt_ 0 (-1) wt wy (nI it_) (nI rm) (nI ud) (nI nu) sd (nI qn) (nI qw) qo (nI qb) (nI qp) qa (nI qi) (nI oc))), (g 24, .inl (cI, 6, .inl (l6 u0 u1 u2 u3 u4 u5))), (g 25, .inl (cI, 6, .inl (l6 v0 v1 v2 v3 v4 v5))), (g 26, .inl (cI, 3200, .inl (fun j => nI (cs j)))), (g 31, .inl (cI, 120, .inl nw)), (g 46, .inl (cI, 9, .inl (fun j => nI (pt j)))), (g 86, .inl (cJ, 1700, .inr (.inl ql)))] (skI D (skT cI cJ cC cZ cS) (fun (r : Int32) (u : va_W) => ∃ (v : Nat), ∃ (tk2 : Int32), ∃ (qp2 : Nat), ∃ (am2 : Int32), ∃ (at_2 : Int32), ∃ (aa2 : Int32), ∃ (ql2 : Nat → Int64), v = kcBec L wk b w d mq t 0 ∧ r = nI v ∧ u = [(mm, .inr (12, mo g (nI ta) (nI pa) (nI pe) pd (nI pb) pp pf pg pn rt rn (nI cd) sn (nI il) tk2 am2 at_2 aa2 mt_ 0 (-1) wt wy (nI it_) (nI rm) (nI ud) (nI nu) sd (nI qn) (nI qw) qo (nI qb) (nI qp2) qa (nI qi) (nI oc))), (g 24, .inl (cI, 6, .inl (l6 u0 u1 u2 u3 u4 u5))), (g 25, .inl (cI, 6, .inl (l6 v0 v1 v2 v3 v4 v5))), (g 26, .inl (cI, 3200, .inl (fun j => nI (cs j)))), (g 31, .inl (cI, 120, .inl nw)), (g 46, .inl (cI, 9, .inl (fun j => nI (pt j)))), (g 86, .inl (cJ, 1700, .inr (.inl ql2)))])) := by
  refine skM_of (by decide +kernel) (Nat.le_of_ble_eq_true rfl) ?_
  intro p e s m below meth c A ls E hP hD hl
  obtain ⟨hx, hb, hr, hml, hlocks, hin, hown, hts, hK, hA⟩ := E
  have hown : s.vm.findClass RX12 = some m.cls := hown
  have hS : va_S A s.heap s.heap [] := va_S.rf
  have hl : lv_has ls 5 [(0, .ref mm), (1, .int (nI d)), (2, .int (nI mq)), (3, .int (nI t)), (4, .int 0)] := hl
  refine lv_aload_n hx hb dX12_becomesBy_0 rfl (lv_at hl 0 rfl) ?_
  refine lv_iload_n hx hb dX12_becomesBy_1 rfl (lv_at hl 2 rfl) ?_
  refine sk_put (ws' := [(mm, .inr (12, mo g (nI ta) (nI pa) (nI pe) pd (nI pb) pp pf pg pn rt rn (nI cd) sn (nI il) tk (nI mq) at_ aa mt_ 0 (-1) wt wy (nI it_) (nI rm) (nI ud) (nI nu) sd (nI qn) (nI qw) qo (nI qb) (nI qp) qa (nI qi) (nI oc))), (g 24, .inl (cI, 6, .inl (l6 u0 u1 u2 u3 u4 u5))), (g 25, .inl (cI, 6, .inl (l6 v0 v1 v2 v3 v4 v5))), (g 26, .inl (cI, 3200, .inl (fun j => nI (cs j)))), (g 31, .inl (cI, 120, .inl nw)), (g 46, .inl (cI, 9, .inl (fun j => nI (pt j)))), (g 86, .inl (cJ, 1700, .inr (.inl ql)))]) (C := RX12) (T := TX12) (N := 92) (v := .int (nI mq)) hx hb hts inlX12 tyX12 tyX12_ok nmX12 hown hK hP hD hS 0 rfl rfl 33 (by decide) w_5_188 rfl rfl rfl (Nat.le_of_ble_eq_true rfl) rfl dX12_becomesBy_2 (fun H locs hP hD hS => ?_)
  refine lv_aload_n hx hb dX12_becomesBy_5 rfl (lv_at hl 0 rfl) ?_
  refine lv_iload hx hb dX12_becomesBy_6 (lv_at hl 4 rfl) ?_
  refine lv_if_eq (tgt := 15) hx hb dX12_becomesBy_8 (by decide) (fun c_1 => ?_) (fun c => absurd c (by decide))
  refine lv_iload_n hx hb dX12_becomesBy_15 rfl (lv_at hl 3 rfl) ?_
  refine sk_put (ws' := [(mm, .inr (12, mo g (nI ta) (nI pa) (nI pe) pd (nI pb) pp pf pg pn rt rn (nI cd) sn (nI il) tk (nI mq) (nI t) aa mt_ 0 (-1) wt wy (nI it_) (nI rm) (nI ud) (nI nu) sd (nI qn) (nI qw) qo (nI qb) (nI qp) qa (nI qi) (nI oc))), (g 24, .inl (cI, 6, .inl (l6 u0 u1 u2 u3 u4 u5))), (g 25, .inl (cI, 6, .inl (l6 v0 v1 v2 v3 v4 v5))), (g 26, .inl (cI, 3200, .inl (fun j => nI (cs j)))), (g 31, .inl (cI, 120, .inl nw)), (g 46, .inl (cI, 9, .inl (fun j => nI (pt j)))), (g 86, .inl (cJ, 1700, .inr (.inl ql)))]) (C := RX12) (T := TX12) (N := 92) (v := .int (nI t)) hx hb hts inlX12 tyX12 tyX12_ok nmX12 hown hK hP hD hS 0 rfl rfl 34 (by decide) w_5_189 rfl rfl rfl (Nat.le_of_ble_eq_true rfl) rfl dX12_becomesBy_16 (fun H locs hP hD hS => ?_)
  refine lv_aload_n hx hb dX12_becomesBy_19 rfl (lv_at hl 0 rfl) ?_
  refine lv_iload hx hb dX12_becomesBy_20 (lv_at hl 4 rfl) ?_
  refine lv_if_eq (tgt := 29) hx hb dX12_becomesBy_22 (by decide) (fun c_2 => ?_) (fun c => absurd c (by decide))
  refine lv_iconst (v := 0) hx hb dX12_becomesBy_29 (by decide) ?_
  refine sk_put (ws' := [(mm, .inr (12, mo g (nI ta) (nI pa) (nI pe) pd (nI pb) pp pf pg pn rt rn (nI cd) sn (nI il) tk (nI mq) (nI t) 0 mt_ 0 (-1) wt wy (nI it_) (nI rm) (nI ud) (nI nu) sd (nI qn) (nI qw) qo (nI qb) (nI qp) qa (nI qi) (nI oc))), (g 24, .inl (cI, 6, .inl (l6 u0 u1 u2 u3 u4 u5))), (g 25, .inl (cI, 6, .inl (l6 v0 v1 v2 v3 v4 v5))), (g 26, .inl (cI, 3200, .inl (fun j => nI (cs j)))), (g 31, .inl (cI, 120, .inl nw)), (g 46, .inl (cI, 9, .inl (fun j => nI (pt j)))), (g 86, .inl (cJ, 1700, .inr (.inl ql)))]) (C := RX12) (T := TX12) (N := 92) (v := .int 0) hx hb hts inlX12 tyX12 tyX12_ok nmX12 hown hK hP hD hS 0 rfl rfl 35 (by decide) w_5_190 rfl rfl rfl (Nat.le_of_ble_eq_true rfl) rfl dX12_becomesBy_30 (fun H locs hP hD hS => ?_)
  refine lv_aload_n hx hb dX12_becomesBy_33 rfl (lv_at hl 0 rfl) ?_
  refine sk_get (v := .ref (g 24)) (C := RX12) (T := TX12) (N := 92) hx hb hts inlX12 hown hK hP 0 rfl rfl 24 (by decide) w_5_179 rfl dX12_becomesBy_34 ?_
  refine lv_iconst (v := 4) hx hb dX12_becomesBy_37 (by decide) ?_
  refine va_iald hx hb hK.1 hP 1 0 rfl rfl (by unfold vp_in; decide) dX12_becomesBy_38 ?_
  refine sk_top u4 rfl ?_
  refine lv_iconst (v := (-1)) hx hb dX12_becomesBy_39 (by decide) ?_
  refine lv_icmp_ne (tgt := 50) hx hb dX12_becomesBy_40 (by decide) (fun c_3 => ?_) (fun c_3 => ?_)
  · skip
    refine lv_aload_n hx hb dX12_becomesBy_50 rfl (lv_at hl 0 rfl) ?_
    refine lv_iconst (v := 1) hx hb dX12_becomesBy_51 (by decide) ?_
    refine lv_iload_n hx hb dX12_becomesBy_52 rfl (lv_at hl 1 rfl) ?_
    obtain ⟨ca, cb, rfl, rfl, hab_, hbk_, hKc_, hG_⟩ := mw_some hLk hmw1 c_3
    have hnm := mn_of (m := mq) (t := t) (al := 0) hmd rfl rfl rfl (by omega) (by omega) (by omega) (by omega) (by omega) (by omega) (by omega)
    generalize hq9 : kcNm wk b w d mq t 0 = nm at hnm
    refine sk_Vl (q0 := 0) (n := 2) (rest := []) (wr := []) ⟨hx, hb, hml, hown, hts⟩ hl.1 (c_nm_codesTell1 l D cI cJ cC cZ cS mm g ta pa pe pd pb pp pf pg pn rt rn cd sn il tk (nI mq) (nI t) 0 mt_ wt wy it_ rm ud nu sd qn qw qo qb qp qa qi oc d u0 u1 u2 u3 u5 ca v0 v1 v2 v3 v5 cb cs nw pt ql (lK L) nm (kcV L 1 nm) 1 (by omega) hab_ hbk_ hkl hKc_ (by decide) (kw_ns hLk rfl hG_) hnm (kw_ex hLk (by decide) hG_ nm) hcs hnw hpt) w_7_135 w_7_137 w_0_75 w_1_14 w_7_138 (by decide +kernel) ⟨⟨(Nat.le_of_ble_eq_true rfl), (Nat.le_of_ble_eq_true rfl)⟩, (Nat.le_of_ble_eq_true rfl), (Nat.le_of_ble_eq_true rfl)⟩ hK hP hD hS hA [0, 1, 2, 3, 4, 5, 6] [] rfl rfl (by decide +kernel) (by decide +kernel) (by decide +kernel) rfl rfl rfl rfl (Nat.le_of_ble_eq_true rfl) dX12_becomesBy_53 (fun r_6 u H locs hw hP hD hS => ?_)
    obtain ⟨qp2_4, ql2_5, rfl, rfl⟩ := hw
    have hP : va_P D vwCl [(mm, .inr (12, mo g (nI ta) (nI pa) (nI pe) pd (nI pb) pp pf pg pn rt rn (nI cd) sn (nI il) 1 (nI mq) (nI t) 0 mt_ 0 (-1) wt wy (nI it_) (nI rm) (nI ud) (nI nu) sd (nI qn) (nI qw) qo (nI qb) (nI qp2_4) qa (nI qi) (nI oc))), (g 24, .inl (cI, 6, .inl (l6 u0 u1 u2 u3 (nI ca) u5))), (g 25, .inl (cI, 6, .inl (l6 v0 v1 v2 v3 (nI cb) v5))), (g 26, .inl (cI, 3200, .inl (fun j => nI (cs j)))), (g 31, .inl (cI, 120, .inl nw)), (g 46, .inl (cI, 9, .inl (fun j => nI (pt j)))), (g 86, .inl (cJ, 1700, .inr (.inl ql2_5)))] H := hP
    have hD : va_D A [(mm, .inr (12, mo g (nI ta) (nI pa) (nI pe) pd (nI pb) pp pf pg pn rt rn (nI cd) sn (nI il) 1 (nI mq) (nI t) 0 mt_ 0 (-1) wt wy (nI it_) (nI rm) (nI ud) (nI nu) sd (nI qn) (nI qw) qo (nI qb) (nI qp2_4) qa (nI qi) (nI oc))), (g 24, .inl (cI, 6, .inl (l6 u0 u1 u2 u3 (nI ca) u5))), (g 25, .inl (cI, 6, .inl (l6 v0 v1 v2 v3 (nI cb) v5))), (g 26, .inl (cI, 3200, .inl (fun j => nI (cs j)))), (g 31, .inl (cI, 120, .inl nw)), (g 46, .inl (cI, 9, .inl (fun j => nI (pt j)))), (g 86, .inl (cJ, 1700, .inr (.inl ql2_5)))] := hD
    refine sk_Si (n := 1) (rest := []) (wr := [(mm, .inr (12, mo g (nI ta) (nI pa) (nI pe) pd (nI pb) pp pf pg pn rt rn (nI cd) sn (nI il) 1 (nI mq) (nI t) 0 mt_ 0 (-1) wt wy (nI it_) (nI rm) (nI ud) (nI nu) sd (nI qn) (nI qw) qo (nI qb) (nI qp2_4) qa (nI qi) (nI oc))), (g 24, .inl (cI, 6, .inl (l6 u0 u1 u2 u3 (nI ca) u5))), (g 25, .inl (cI, 6, .inl (l6 v0 v1 v2 v3 (nI cb) v5))), (g 26, .inl (cI, 3200, .inl (fun j => nI (cs j)))), (g 31, .inl (cI, 120, .inl nw)), (g 46, .inl (cI, 9, .inl (fun j => nI (pt j)))), (g 86, .inl (cJ, 1700, .inr (.inl ql2_5)))]) ⟨hx, hb, hml, hown, hts⟩ hl.1 (c_nm_byTen l D cI cJ cC cZ cS (kcV L 1 nm)) w_7_168 w_7_169 w_1_14 w_7_170 (by decide +kernel) ⟨⟨(Nat.le_of_ble_eq_true rfl), (Nat.le_of_ble_eq_true rfl)⟩, (Nat.le_of_ble_eq_true rfl), (Nat.le_of_ble_eq_true rfl)⟩ hK hP hD hS hA [] [0, 1, 2, 3, 4, 5, 6] rfl rfl (by decide +kernel) (by decide +kernel) (by decide +kernel) rfl rfl (Nat.le_of_ble_eq_true rfl) dX12_becomesBy_56 (fun r_7 u H locs hw hP hD hS => ?_)
    obtain ⟨rfl, rfl⟩ := hw
    have hP : va_P D vwCl [(mm, .inr (12, mo g (nI ta) (nI pa) (nI pe) pd (nI pb) pp pf pg pn rt rn (nI cd) sn (nI il) 1 (nI mq) (nI t) 0 mt_ 0 (-1) wt wy (nI it_) (nI rm) (nI ud) (nI nu) sd (nI qn) (nI qw) qo (nI qb) (nI qp2_4) qa (nI qi) (nI oc))), (g 24, .inl (cI, 6, .inl (l6 u0 u1 u2 u3 (nI ca) u5))), (g 25, .inl (cI, 6, .inl (l6 v0 v1 v2 v3 (nI cb) v5))), (g 26, .inl (cI, 3200, .inl (fun j => nI (cs j)))), (g 31, .inl (cI, 120, .inl nw)), (g 46, .inl (cI, 9, .inl (fun j => nI (pt j)))), (g 86, .inl (cJ, 1700, .inr (.inl ql2_5)))] H := hP
    have hD : va_D A [(mm, .inr (12, mo g (nI ta) (nI pa) (nI pe) pd (nI pb) pp pf pg pn rt rn (nI cd) sn (nI il) 1 (nI mq) (nI t) 0 mt_ 0 (-1) wt wy (nI it_) (nI rm) (nI ud) (nI nu) sd (nI qn) (nI qw) qo (nI qb) (nI qp2_4) qa (nI qi) (nI oc))), (g 24, .inl (cI, 6, .inl (l6 u0 u1 u2 u3 (nI ca) u5))), (g 25, .inl (cI, 6, .inl (l6 v0 v1 v2 v3 (nI cb) v5))), (g 26, .inl (cI, 3200, .inl (fun j => nI (cs j)))), (g 31, .inl (cI, 120, .inl nw)), (g 46, .inl (cI, 9, .inl (fun j => nI (pt j)))), (g 86, .inl (cJ, 1700, .inr (.inl ql2_5)))] := hD
    exact sk_iret hx hb hr rfl hlocks hK hP hD hS (⟨kcTen (kcV L 1 nm), 1, qp2_4, nI mq, nI t, 0, ql2_5, (by rw [← hq9]; rfl), rfl, rfl⟩) (Nat.le_of_ble_eq_true rfl) (Nat.le_of_ble_eq_true rfl) dX12_becomesBy_59
  · skip
    refine lv_aload_n hx hb dX12_becomesBy_43 rfl (lv_at hl 0 rfl) ?_
    refine sk_get (v := .int (nI t)) (C := RX12) (T := TX12) (N := 92) hx hb hts inlX12 hown hK hP 0 rfl rfl 34 (by decide) w_5_189 rfl dX12_becomesBy_44 ?_
    refine lv_goto (tgt := 59) hx hb dX12_becomesBy_47 (by decide) ?_
    exact sk_iret hx hb hr rfl hlocks hK hP hD hS (⟨t, tk, qp, nI mq, nI t, 0, ql, kw_bec (by omega) (mw_none hLk hkl hmw1 c_3), rfl, rfl⟩) (Nat.le_of_ble_eq_true rfl) (Nat.le_of_ble_eq_true rfl) dX12_becomesBy_59
set_option maxHeartbeats 4000000 in
set_option maxRecDepth 100000 in
theorem c_nm_becomesBy1 (l : Launch) (D : va_G) (cI cJ cC cZ cS : ClassId) (mm : Nat) (g : Nat → Nat) (ta : Nat) (pa : Nat) (pe : Nat) (pd : Int32) (pb : Nat) (pp : Int32) (pf : Int32) (pg : Int32) (pn : Int32) (rt : Int32) (rn : Int32) (cd : Nat) (sn : Int32) (il : Nat) (tk : Int32) (am : Int32) (at_ : Int32) (aa : Int32) (mt_ : Int32) (wt : Int32) (wy : Int64) (it_ : Nat) (rm : Nat) (ud : Nat) (nu : Nat) (sd : Int64) (qn : Nat) (qw : Nat) (qo : Int32) (qb : Nat) (qp : Nat) (qa : Int64) (qi : Nat) (oc : Nat) (d : Nat) (mq : Nat) (t : Nat) (u0 : Int32) (u1 : Int32) (u2 : Int32) (u3 : Int32) (u4 : Int32) (u5 : Int32) (v0 : Int32) (v1 : Int32) (v2 : Int32) (v3 : Int32) (v4 : Int32) (v5 : Int32) (cs : Nat → Nat) (nw : Nat → Int32) (pt : Nat → Nat) (ql : Nat → Int64) (L : LkS) (wk : Nat) (b : Nat) (w : Nat) (hd : d < 9) (hm : mq < 10) (ht : t < 10) (hLk : kcLk L) (hkl : (lK L).length ≤ 1600) (hmd : mdO nw wk b w d) (hwk : wk ≤ 999) (hb9 : b ≤ 9) (hw9 : w ≤ 9) (hmw1 : mwO L 1 u4 v4 cs) (hcs : ∀ j, cs j ≤ 20000) (hnw : nowOk nw) (hpt : ∀ j, pt j ≤ 9) : skM l yX12_becomesBy cX12_becomesBy 5 (some .int) 3 74 0 0 D (skT cI cJ cC cZ cS) [.ref mm, .int (nI d), .int (nI mq), .int (nI t), .int 1] [(mm, .inr (12, mo g (nI ta) (nI pa) (nI pe) pd (nI pb) pp pf pg pn rt rn (nI cd) sn (nI il) tk am at_ aa mt_ 0 (-1) wt wy (nI it_) (nI rm) (nI ud) (nI nu) sd (nI qn) (nI qw) qo (nI qb) (nI qp) qa (nI qi) (nI oc))), (g 24, .inl (cI, 6, .inl (l6 u0 u1 u2 u3 u4 u5))), (g 25, .inl (cI, 6, .inl (l6 v0 v1 v2 v3 v4 v5))), (g 26, .inl (cI, 3200, .inl (fun j => nI (cs j)))), (g 31, .inl (cI, 120, .inl nw)), (g 46, .inl (cI, 9, .inl (fun j => nI (pt j)))), (g 86, .inl (cJ, 1700, .inr (.inl ql)))] (skI D (skT cI cJ cC cZ cS) (fun (r : Int32) (u : va_W) => ∃ (v : Nat), ∃ (tk2 : Int32), ∃ (qp2 : Nat), ∃ (am2 : Int32), ∃ (at_2 : Int32), ∃ (aa2 : Int32), ∃ (ql2 : Nat → Int64), v = kcBec L wk b w d mq 0 1 ∧ r = nI v ∧ u = [(mm, .inr (12, mo g (nI ta) (nI pa) (nI pe) pd (nI pb) pp pf pg pn rt rn (nI cd) sn (nI il) tk2 am2 at_2 aa2 mt_ 0 (-1) wt wy (nI it_) (nI rm) (nI ud) (nI nu) sd (nI qn) (nI qw) qo (nI qb) (nI qp2) qa (nI qi) (nI oc))), (g 24, .inl (cI, 6, .inl (l6 u0 u1 u2 u3 u4 u5))), (g 25, .inl (cI, 6, .inl (l6 v0 v1 v2 v3 v4 v5))), (g 26, .inl (cI, 3200, .inl (fun j => nI (cs j)))), (g 31, .inl (cI, 120, .inl nw)), (g 46, .inl (cI, 9, .inl (fun j => nI (pt j)))), (g 86, .inl (cJ, 1700, .inr (.inl ql2)))])) := by
  refine skM_of (by decide +kernel) (Nat.le_of_ble_eq_true rfl) ?_
  intro p e s m below meth c A ls E hP hD hl
  obtain ⟨hx, hb, hr, hml, hlocks, hin, hown, hts, hK, hA⟩ := E
  have hown : s.vm.findClass RX12 = some m.cls := hown
  have hS : va_S A s.heap s.heap [] := va_S.rf
  have hl : lv_has ls 5 [(0, .ref mm), (1, .int (nI d)), (2, .int (nI mq)), (3, .int (nI t)), (4, .int 1)] := hl
  refine lv_aload_n hx hb dX12_becomesBy_0 rfl (lv_at hl 0 rfl) ?_
  refine lv_iload_n hx hb dX12_becomesBy_1 rfl (lv_at hl 2 rfl) ?_
  refine sk_put (ws' := [(mm, .inr (12, mo g (nI ta) (nI pa) (nI pe) pd (nI pb) pp pf pg pn rt rn (nI cd) sn (nI il) tk (nI mq) at_ aa mt_ 0 (-1) wt wy (nI it_) (nI rm) (nI ud) (nI nu) sd (nI qn) (nI qw) qo (nI qb) (nI qp) qa (nI qi) (nI oc))), (g 24, .inl (cI, 6, .inl (l6 u0 u1 u2 u3 u4 u5))), (g 25, .inl (cI, 6, .inl (l6 v0 v1 v2 v3 v4 v5))), (g 26, .inl (cI, 3200, .inl (fun j => nI (cs j)))), (g 31, .inl (cI, 120, .inl nw)), (g 46, .inl (cI, 9, .inl (fun j => nI (pt j)))), (g 86, .inl (cJ, 1700, .inr (.inl ql)))]) (C := RX12) (T := TX12) (N := 92) (v := .int (nI mq)) hx hb hts inlX12 tyX12 tyX12_ok nmX12 hown hK hP hD hS 0 rfl rfl 33 (by decide) w_5_188 rfl rfl rfl (Nat.le_of_ble_eq_true rfl) rfl dX12_becomesBy_2 (fun H locs hP hD hS => ?_)
  refine lv_aload_n hx hb dX12_becomesBy_5 rfl (lv_at hl 0 rfl) ?_
  refine lv_iload hx hb dX12_becomesBy_6 (lv_at hl 4 rfl) ?_
  refine lv_if_eq (tgt := 15) hx hb dX12_becomesBy_8 (by decide) (fun c => absurd c (by decide)) (fun c_1 => ?_)
  refine lv_iconst (v := 0) hx hb dX12_becomesBy_11 (by decide) ?_
  refine lv_goto (tgt := 16) hx hb dX12_becomesBy_12 (by decide) ?_
  refine sk_put (ws' := [(mm, .inr (12, mo g (nI ta) (nI pa) (nI pe) pd (nI pb) pp pf pg pn rt rn (nI cd) sn (nI il) tk (nI mq) 0 aa mt_ 0 (-1) wt wy (nI it_) (nI rm) (nI ud) (nI nu) sd (nI qn) (nI qw) qo (nI qb) (nI qp) qa (nI qi) (nI oc))), (g 24, .inl (cI, 6, .inl (l6 u0 u1 u2 u3 u4 u5))), (g 25, .inl (cI, 6, .inl (l6 v0 v1 v2 v3 v4 v5))), (g 26, .inl (cI, 3200, .inl (fun j => nI (cs j)))), (g 31, .inl (cI, 120, .inl nw)), (g 46, .inl (cI, 9, .inl (fun j => nI (pt j)))), (g 86, .inl (cJ, 1700, .inr (.inl ql)))]) (C := RX12) (T := TX12) (N := 92) (v := .int 0) hx hb hts inlX12 tyX12 tyX12_ok nmX12 hown hK hP hD hS 0 rfl rfl 34 (by decide) w_5_189 rfl rfl rfl (Nat.le_of_ble_eq_true rfl) rfl dX12_becomesBy_16 (fun H locs hP hD hS => ?_)
  refine lv_aload_n hx hb dX12_becomesBy_19 rfl (lv_at hl 0 rfl) ?_
  refine lv_iload hx hb dX12_becomesBy_20 (lv_at hl 4 rfl) ?_
  refine lv_if_eq (tgt := 29) hx hb dX12_becomesBy_22 (by decide) (fun c => absurd c (by decide)) (fun c_2 => ?_)
  refine lv_iconst (v := 1) hx hb dX12_becomesBy_25 (by decide) ?_
  refine lv_goto (tgt := 30) hx hb dX12_becomesBy_26 (by decide) ?_
  refine sk_put (ws' := [(mm, .inr (12, mo g (nI ta) (nI pa) (nI pe) pd (nI pb) pp pf pg pn rt rn (nI cd) sn (nI il) tk (nI mq) 0 1 mt_ 0 (-1) wt wy (nI it_) (nI rm) (nI ud) (nI nu) sd (nI qn) (nI qw) qo (nI qb) (nI qp) qa (nI qi) (nI oc))), (g 24, .inl (cI, 6, .inl (l6 u0 u1 u2 u3 u4 u5))), (g 25, .inl (cI, 6, .inl (l6 v0 v1 v2 v3 v4 v5))), (g 26, .inl (cI, 3200, .inl (fun j => nI (cs j)))), (g 31, .inl (cI, 120, .inl nw)), (g 46, .inl (cI, 9, .inl (fun j => nI (pt j)))), (g 86, .inl (cJ, 1700, .inr (.inl ql)))]) (C := RX12) (T := TX12) (N := 92) (v := .int 1) hx hb hts inlX12 tyX12 tyX12_ok nmX12 hown hK hP hD hS 0 rfl rfl 35 (by decide) w_5_190 rfl rfl rfl (Nat.le_of_ble_eq_true rfl) rfl dX12_becomesBy_30 (fun H locs hP hD hS => ?_)
  refine lv_aload_n hx hb dX12_becomesBy_33 rfl (lv_at hl 0 rfl) ?_
  refine sk_get (v := .ref (g 24)) (C := RX12) (T := TX12) (N := 92) hx hb hts inlX12 hown hK hP 0 rfl rfl 24 (by decide) w_5_179 rfl dX12_becomesBy_34 ?_
  refine lv_iconst (v := 4) hx hb dX12_becomesBy_37 (by decide) ?_
  refine va_iald hx hb hK.1 hP 1 0 rfl rfl (by unfold vp_in; decide) dX12_becomesBy_38 ?_
  refine sk_top u4 rfl ?_
  refine lv_iconst (v := (-1)) hx hb dX12_becomesBy_39 (by decide) ?_
  refine lv_icmp_ne (tgt := 50) hx hb dX12_becomesBy_40 (by decide) (fun c_3 => ?_) (fun c_3 => ?_)
  · skip
    refine lv_aload_n hx hb dX12_becomesBy_50 rfl (lv_at hl 0 rfl) ?_
    refine lv_iconst (v := 1) hx hb dX12_becomesBy_51 (by decide) ?_
    refine lv_iload_n hx hb dX12_becomesBy_52 rfl (lv_at hl 1 rfl) ?_
    obtain ⟨ca, cb, rfl, rfl, hab_, hbk_, hKc_, hG_⟩ := mw_some hLk hmw1 c_3
    have hnm := mn_of (m := mq) (t := 0) (al := 1) hmd rfl (show (0 : Int32) = nI 0 from rfl) (show (1 : Int32) = nI 1 from rfl) (by omega) (by omega) (by omega) (by omega) (by omega) (by omega) (by omega)
    generalize hq9 : kcNm wk b w d mq 0 1 = nm at hnm
    refine sk_Vl (q0 := 0) (n := 2) (rest := []) (wr := []) ⟨hx, hb, hml, hown, hts⟩ hl.1 (c_nm_codesTell1 l D cI cJ cC cZ cS mm g ta pa pe pd pb pp pf pg pn rt rn cd sn il tk (nI mq) 0 1 mt_ wt wy it_ rm ud nu sd qn qw qo qb qp qa qi oc d u0 u1 u2 u3 u5 ca v0 v1 v2 v3 v5 cb cs nw pt ql (lK L) nm (kcV L 1 nm) 1 (by omega) hab_ hbk_ hkl hKc_ (by decide) (kw_ns hLk rfl hG_) hnm (kw_ex hLk (by decide) hG_ nm) hcs hnw hpt) w_7_135 w_7_137 w_0_75 w_1_14 w_7_138 (by decide +kernel) ⟨⟨(Nat.le_of_ble_eq_true rfl), (Nat.le_of_ble_eq_true rfl)⟩, (Nat.le_of_ble_eq_true rfl), (Nat.le_of_ble_eq_true rfl)⟩ hK hP hD hS hA [0, 1, 2, 3, 4, 5, 6] [] rfl rfl (by decide +kernel) (by decide +kernel) (by decide +kernel) rfl rfl rfl rfl (Nat.le_of_ble_eq_true rfl) dX12_becomesBy_53 (fun r_6 u H locs hw hP hD hS => ?_)
    obtain ⟨qp2_4, ql2_5, rfl, rfl⟩ := hw
    have hP : va_P D vwCl [(mm, .inr (12, mo g (nI ta) (nI pa) (nI pe) pd (nI pb) pp pf pg pn rt rn (nI cd) sn (nI il) 1 (nI mq) 0 1 mt_ 0 (-1) wt wy (nI it_) (nI rm) (nI ud) (nI nu) sd (nI qn) (nI qw) qo (nI qb) (nI qp2_4) qa (nI qi) (nI oc))), (g 24, .inl (cI, 6, .inl (l6 u0 u1 u2 u3 (nI ca) u5))), (g 25, .inl (cI, 6, .inl (l6 v0 v1 v2 v3 (nI cb) v5))), (g 26, .inl (cI, 3200, .inl (fun j => nI (cs j)))), (g 31, .inl (cI, 120, .inl nw)), (g 46, .inl (cI, 9, .inl (fun j => nI (pt j)))), (g 86, .inl (cJ, 1700, .inr (.inl ql2_5)))] H := hP
    have hD : va_D A [(mm, .inr (12, mo g (nI ta) (nI pa) (nI pe) pd (nI pb) pp pf pg pn rt rn (nI cd) sn (nI il) 1 (nI mq) 0 1 mt_ 0 (-1) wt wy (nI it_) (nI rm) (nI ud) (nI nu) sd (nI qn) (nI qw) qo (nI qb) (nI qp2_4) qa (nI qi) (nI oc))), (g 24, .inl (cI, 6, .inl (l6 u0 u1 u2 u3 (nI ca) u5))), (g 25, .inl (cI, 6, .inl (l6 v0 v1 v2 v3 (nI cb) v5))), (g 26, .inl (cI, 3200, .inl (fun j => nI (cs j)))), (g 31, .inl (cI, 120, .inl nw)), (g 46, .inl (cI, 9, .inl (fun j => nI (pt j)))), (g 86, .inl (cJ, 1700, .inr (.inl ql2_5)))] := hD
    refine sk_Si (n := 1) (rest := []) (wr := [(mm, .inr (12, mo g (nI ta) (nI pa) (nI pe) pd (nI pb) pp pf pg pn rt rn (nI cd) sn (nI il) 1 (nI mq) 0 1 mt_ 0 (-1) wt wy (nI it_) (nI rm) (nI ud) (nI nu) sd (nI qn) (nI qw) qo (nI qb) (nI qp2_4) qa (nI qi) (nI oc))), (g 24, .inl (cI, 6, .inl (l6 u0 u1 u2 u3 (nI ca) u5))), (g 25, .inl (cI, 6, .inl (l6 v0 v1 v2 v3 (nI cb) v5))), (g 26, .inl (cI, 3200, .inl (fun j => nI (cs j)))), (g 31, .inl (cI, 120, .inl nw)), (g 46, .inl (cI, 9, .inl (fun j => nI (pt j)))), (g 86, .inl (cJ, 1700, .inr (.inl ql2_5)))]) ⟨hx, hb, hml, hown, hts⟩ hl.1 (c_nm_byTen l D cI cJ cC cZ cS (kcV L 1 nm)) w_7_168 w_7_169 w_1_14 w_7_170 (by decide +kernel) ⟨⟨(Nat.le_of_ble_eq_true rfl), (Nat.le_of_ble_eq_true rfl)⟩, (Nat.le_of_ble_eq_true rfl), (Nat.le_of_ble_eq_true rfl)⟩ hK hP hD hS hA [] [0, 1, 2, 3, 4, 5, 6] rfl rfl (by decide +kernel) (by decide +kernel) (by decide +kernel) rfl rfl (Nat.le_of_ble_eq_true rfl) dX12_becomesBy_56 (fun r_7 u H locs hw hP hD hS => ?_)
    obtain ⟨rfl, rfl⟩ := hw
    have hP : va_P D vwCl [(mm, .inr (12, mo g (nI ta) (nI pa) (nI pe) pd (nI pb) pp pf pg pn rt rn (nI cd) sn (nI il) 1 (nI mq) 0 1 mt_ 0 (-1) wt wy (nI it_) (nI rm) (nI ud) (nI nu) sd (nI qn) (nI qw) qo (nI qb) (nI qp2_4) qa (nI qi) (nI oc))), (g 24, .inl (cI, 6, .inl (l6 u0 u1 u2 u3 (nI ca) u5))), (g 25, .inl (cI, 6, .inl (l6 v0 v1 v2 v3 (nI cb) v5))), (g 26, .inl (cI, 3200, .inl (fun j => nI (cs j)))), (g 31, .inl (cI, 120, .inl nw)), (g 46, .inl (cI, 9, .inl (fun j => nI (pt j)))), (g 86, .inl (cJ, 1700, .inr (.inl ql2_5)))] H := hP
    have hD : va_D A [(mm, .inr (12, mo g (nI ta) (nI pa) (nI pe) pd (nI pb) pp pf pg pn rt rn (nI cd) sn (nI il) 1 (nI mq) 0 1 mt_ 0 (-1) wt wy (nI it_) (nI rm) (nI ud) (nI nu) sd (nI qn) (nI qw) qo (nI qb) (nI qp2_4) qa (nI qi) (nI oc))), (g 24, .inl (cI, 6, .inl (l6 u0 u1 u2 u3 (nI ca) u5))), (g 25, .inl (cI, 6, .inl (l6 v0 v1 v2 v3 (nI cb) v5))), (g 26, .inl (cI, 3200, .inl (fun j => nI (cs j)))), (g 31, .inl (cI, 120, .inl nw)), (g 46, .inl (cI, 9, .inl (fun j => nI (pt j)))), (g 86, .inl (cJ, 1700, .inr (.inl ql2_5)))] := hD
    exact sk_iret hx hb hr rfl hlocks hK hP hD hS (⟨kcTen (kcV L 1 nm), 1, qp2_4, nI mq, 0, 1, ql2_5, (by rw [← hq9]; rfl), rfl, rfl⟩) (Nat.le_of_ble_eq_true rfl) (Nat.le_of_ble_eq_true rfl) dX12_becomesBy_59
  · skip
    refine lv_aload_n hx hb dX12_becomesBy_43 rfl (lv_at hl 0 rfl) ?_
    refine sk_get (v := .int 0) (C := RX12) (T := TX12) (N := 92) hx hb hts inlX12 hown hK hP 0 rfl rfl 34 (by decide) w_5_189 rfl dX12_becomesBy_44 ?_
    refine lv_goto (tgt := 59) hx hb dX12_becomesBy_47 (by decide) ?_
    exact sk_iret hx hb hr rfl hlocks hK hP hD hS (⟨0, tk, qp, nI mq, 0, 1, ql, kw_bec (by omega) (mw_none hLk hkl hmw1 c_3), rfl, rfl⟩) (Nat.le_of_ble_eq_true rfl) (Nat.le_of_ble_eq_true rfl) dX12_becomesBy_59
def mlD (L : LkS) (wk : Nat) (B W : Nat → Nat) (li n : Nat) (ws yw yo : Nat → Int32) : Prop := ∀ d, d < n → mlS L wk B W li d ws 10 ∧ ∀ a m, a < 10 → m < 10 → yw (100 * d + 10 * a + m) = mlW L wk B W li d a m ∧ yo (100 * d + 10 * a + m) = mlO L wk B W d a m
def mlA (L : LkS) (wk : Nat) (B W : Nat → Nat) (li d ja jm : Nat) (yw yo : Nat → Int32) : Prop := ∀ a m, a < 10 → m < 10 → a < ja ∨ (a = ja ∧ m < jm) → yw (100 * d + 10 * a + m) = mlW L wk B W li d a m ∧ yo (100 * d + 10 * a + m) = mlO L wk B W d a m
theorem mlD_0 (L : LkS) (wk : Nat) (B W : Nat → Nat) (li : Nat) (ws yw yo : Nat → Int32) : mlD L wk B W li 0 ws yw yo := fun d hd => absurd hd (Nat.not_lt_zero d)
theorem mlD_w {L : LkS} {wk : Nat} {B W : Nat → Nat} {li i j : Nat} {ws wt yw yo : Nat → Int32} {x : Int32} (h : mlD L wk B W li i ws yw yo) (e : wt = upd ws (10 * i + j) x) : mlD L wk B W li i wt yw yo := fun d hd => by
  obtain ⟨h1, h2⟩ := h d hd
  exact ⟨fun m hm => by rw [kui_n e (by omega)]; exact h1 m hm, h2⟩
theorem mlS_0 (L : LkS) (wk : Nat) (B W : Nat → Nat) (li d : Nat) (f : Nat → Int32) : mlS L wk B W li d f 0 := fun m hm => absurd hm (Nat.not_lt_zero m)
theorem mlS_s {L : LkS} {wk : Nat} {B W : Nat → Nat} {li d j v : Nat} {f g : Nat → Int32} (h : mlS L wk B W li d f j) (e : g = upd f (10 * d + j) (nI ((v + li) % 10))) (hv : v = kcSaid L wk (B d) (W d) d j) : mlS L wk B W li d g (j + 1) := fun m hm => by
  by_cases q : m = j
  · subst q; rw [kui_s e, hv]
  · rw [kui_n e (by omega)]; exact h m (by omega)
theorem mlA_0 (L : LkS) (wk : Nat) (B W : Nat → Nat) (li d : Nat) (yw yo : Nat → Int32) : mlA L wk B W li d 0 0 yw yo := fun a m _ _ h => absurd h (by omega)
theorem mlA_n {L : LkS} {wk : Nat} {B W : Nat → Nat} {li d ja jm : Nat} {yw yo : Nat → Int32} (h : mlA L wk B W li d ja jm yw yo) (hm : 10 ≤ jm) : mlA L wk B W li d (ja + 1) 0 yw yo := fun a m ha hm2 q => h a m ha hm2 (by omega)
theorem mlA_s {L : LkS} {wk : Nat} {B W : Nat → Nat} {li d ja jm : Nat} {yw yo yw2 yo2 : Nat → Int32} {x y : Int32} (h : mlA L wk B W li d ja jm yw yo) (e1 : yw2 = upd yw (100 * d + 10 * ja + jm) x) (e2 : yo2 = upd yo (100 * d + 10 * ja + jm) y) (hja : ja < 10) (hjm : jm < 10) (hx : x = mlW L wk B W li d ja jm) (hy : y = mlO L wk B W d ja jm) : mlA L wk B W li d ja (jm + 1) yw2 yo2 := fun a m ha hm q => by
  by_cases e : a = ja ∧ m = jm
  · obtain ⟨rfl, rfl⟩ := e
    rw [kui_s e1, kui_s e2]; exact ⟨hx, hy⟩
  · rw [kui_n e1 (by omega), kui_n e2 (by omega)]; exact h a m ha hm (by omega)
theorem mlD_a {L : LkS} {wk : Nat} {B W : Nat → Nat} {li i k : Nat} {ws yw yo yw2 yo2 : Nat → Int32} {x y : Int32} (h : mlD L wk B W li i ws yw yo) (e1 : yw2 = upd yw k x) (e2 : yo2 = upd yo k y) (hk : 100 * i ≤ k) : mlD L wk B W li i ws yw2 yo2 := fun d hd => by
  obtain ⟨h1, h2⟩ := h d hd
  exact ⟨h1, fun a m ha hm => by rw [kui_n e1 (by omega), kui_n e2 (by omega)]; exact h2 a m ha hm⟩
theorem mlD_s {L : LkS} {wk : Nat} {B W : Nat → Nat} {li i ja jm : Nat} {ws yw yo : Nat → Int32} (h : mlD L wk B W li i ws yw yo) (h1 : mlS L wk B W li i ws 10) (h2 : mlA L wk B W li i ja jm yw yo) (hja : 10 ≤ ja) : mlD L wk B W li (i + 1) ws yw yo := fun d hd => by
  by_cases q : d = i
  · subst q; exact ⟨h1, fun a m ha hm => h2 a m ha hm (by omega)⟩
  · exact h d (by omega)
theorem kone_t {q : Prop} [Decidable q] (h : q) : (1 : Int32) = kone q := by unfold kone; rw [if_pos h]
theorem kone_f {q : Prop} [Decidable q] (h : ¬ q) : (0 : Int32) = kone q := by unfold kone; rw [if_neg h]
theorem kone_0 {q : Prop} [Decidable q] : kone q = 0 ↔ ¬ q := by
  unfold kone
  by_cases h : q
  · rw [if_pos h]; exact ⟨fun e => absurd e (by decide), fun e => absurd h e⟩
  · rw [if_neg h]; exact ⟨fun _ => h, fun _ => rfl⟩
/-- which mood may follow, as the class has it -/
theorem cf_Fo {L : LkS} {wk : Nat} {B W : Nat → Nat} {U : Nat → Bool} {li n : Nat} {nw ws yw yo : Nat → Int32} {mt : Int32} (h : mlD L wk B W li n ws yw yo) (hn : n ≤ 9) (hU : ∀ d, d < n → mtN nw mt d = U d) {d a m : Nat} (hd : d < n) (ha : a < 10) (hm : m < 10) : cfN nw yw yo mt d a m = kcFo L wk B W U li d a m := by
  obtain ⟨h1, h2⟩ := (h d hd).2 a m ha hm
  unfold cfN kcFo
  rw [hU d hd, nI_clamp (by omega), h1, h2]
  cases hu : U d with
  | true =>
    rw [if_pos rfl, if_pos rfl]
    unfold mlO
    by_cases q : kcBec L wk (B d) (W d) d a 0 1 = m
    · rw [decide_eq_false (fun e => kone_0.mp e q), q]; simp
    · rw [decide_eq_true (kone_0.mpr q)]; simp [q]
  | false =>
    rw [if_neg (by decide), if_neg (by decide)]
    unfold mlW
    by_cases q : kcBec L wk (B d) (W d) d a ((kcSaid L wk (B d) (W d) d m + li) % 10) 0 = m
    · rw [decide_eq_false (fun e => kone_0.mp e q), q]; simp
    · rw [decide_eq_true (kone_0.mpr q)]; simp [q]
set_option maxHeartbeats 4000000 in
set_option maxRecDepth 100000 in
theorem c_nm_laysDays (l : Launch) (D : va_G) (cI cJ cC cZ cS : ClassId) (mm : Nat) (g : Nat → Nat) (ta : Nat) (pa : Nat) (pe : Nat) (pd : Int32) (pb : Nat) (pp : Int32) (pf : Int32) (pg : Int32) (pn : Int32) (rt : Int32) (rn : Int32) (cd : Nat) (sn : Int32) (il : Nat) (tk : Int32) (am : Int32) (at_ : Int32) (aa : Int32) (mt_ : Int32) (wt : Int32) (wy : Int64) (it_ : Nat) (rm : Nat) (ud : Nat) (nu : Nat) (sd : Int64) (qn : Nat) (qw : Nat) (qo : Int32) (qb : Nat) (qp : Nat) (qa : Int64) (qi : Nat) (oc : Nat) (li : Nat) (u0 : Int32) (u1 : Int32) (u2 : Int32) (u3 : Int32) (u4 : Int32) (u5 : Int32) (v0 : Int32) (v1 : Int32) (v2 : Int32) (v3 : Int32) (v4 : Int32) (v5 : Int32) (cs : Nat → Nat) (nw : Nat → Int32) (pt : Nat → Nat) (ql : Nat → Int64) (l0 : Nat) (l1 : Nat) (dm : Nat) (l3 : Nat) (ws_ : Nat → Int32) (yw : Nat → Int32) (yo : Nat → Int32) (L : LkS) (wk : Nat) (Ba : Nat → Nat) (We : Nat → Nat) (hdm : dm ≤ 9) (hli : li < 10) (hLk : kcLk L) (hkl : (lK L).length ≤ 1600) (hmw0 : mwO L 0 u3 v3 cs) (hmw1 : mwO L 1 u4 v4 cs) (hB9 : ∀ j, Ba j ≤ 9) (hW9 : ∀ j, We j ≤ 9) (hwk : wk ≤ 999) (hmds : ∀ d, d < dm → mdO nw wk (Ba d) (We d) d) (hcs : ∀ j, cs j ≤ 20000) (hnw : nowOk nw) (hpt : ∀ j, pt j ≤ 9) : skM l yX12_laysDays cX12_laysDays 5 none 4 98 0 0 D (skT cI cJ cC cZ cS) [.ref mm, .int (nI li)] [(mm, .inr (12, mo g (nI ta) (nI pa) (nI pe) pd (nI pb) pp pf pg pn rt rn (nI cd) sn (nI il) tk am at_ aa mt_ 0 (-1) wt wy (nI it_) (nI rm) (nI ud) (nI nu) sd (nI qn) (nI qw) qo (nI qb) (nI qp) qa (nI qi) (nI oc))), (g 24, .inl (cI, 6, .inl (l6 u0 u1 u2 u3 u4 u5))), (g 25, .inl (cI, 6, .inl (l6 v0 v1 v2 v3 v4 v5))), (g 26, .inl (cI, 3200, .inl (fun j => nI (cs j)))), (g 31, .inl (cI, 120, .inl nw)), (g 46, .inl (cI, 9, .inl (fun j => nI (pt j)))), (g 86, .inl (cJ, 1700, .inr (.inl ql))), (g 20, .inl (cI, 4, .inl (l4 (nI l0) (nI l1) (nI dm) (nI l3)))), (g 38, .inl (cI, 90, .inl ws_)), (g 36, .inl (cZ, 900, .inl yw)), (g 37, .inl (cZ, 900, .inl yo))] (skV D (skT cI cJ cC cZ cS) (fun (u : va_W) => ∃ (tk2 : Int32), ∃ (qp2 : Nat), ∃ (am2 : Int32), ∃ (at_2 : Int32), ∃ (aa2 : Int32), ∃ (ql2 : Nat → Int64), ∃ (ws_2 : Nat → Int32), ∃ (yw2 : Nat → Int32), ∃ (yo2 : Nat → Int32), mlD L wk Ba We li dm ws_2 yw2 yo2 ∧ u = [(mm, .inr (12, mo g (nI ta) (nI pa) (nI pe) pd (nI pb) pp pf pg pn rt rn (nI cd) sn (nI il) tk2 am2 at_2 aa2 mt_ 0 (-1) wt wy (nI it_) (nI rm) (nI ud) (nI nu) sd (nI qn) (nI qw) qo (nI qb) (nI qp2) qa (nI qi) (nI oc))), (g 24, .inl (cI, 6, .inl (l6 u0 u1 u2 u3 u4 u5))), (g 25, .inl (cI, 6, .inl (l6 v0 v1 v2 v3 v4 v5))), (g 26, .inl (cI, 3200, .inl (fun j => nI (cs j)))), (g 31, .inl (cI, 120, .inl nw)), (g 46, .inl (cI, 9, .inl (fun j => nI (pt j)))), (g 86, .inl (cJ, 1700, .inr (.inl ql2))), (g 20, .inl (cI, 4, .inl (l4 (nI l0) (nI l1) (nI dm) (nI l3)))), (g 38, .inl (cI, 90, .inl ws_2)), (g 36, .inl (cZ, 900, .inl yw2)), (g 37, .inl (cZ, 900, .inl yo2))])) := by
  refine skM_of (by decide +kernel) (Nat.le_of_ble_eq_true rfl) ?_
  intro p e s m below meth c A ls E hP hD hl
  obtain ⟨hx, hb, hr, hml, hlocks, hin, hown, hts, hK, hA⟩ := E
  have hown : s.vm.findClass RX12 = some m.cls := hown
  have hS : va_S A s.heap s.heap [] := va_S.rf
  have hl : lv_has ls 5 [(0, .ref mm), (1, .int (nI li))] := hl
  refine lv_iconst (v := 0) hx hb dX12_laysDays_0 (by decide) ?_
  refine lv_istore_n (lv' := [(2, .int 0), (0, .ref mm), (1, .int (nI li))]) hx hb dX12_laysDays_1 rfl hl (by decide) rfl (fun ls hl => ?_)
  have lp_1 : ∀ (n_2 : Nat) (i : Nat) (zam : Int32) (zat_ : Int32) (zaa : Int32) (ztk : Int32) (zqp : Nat) (zl : Nat → Int64) (zs : Nat → Int32) (zw : Nat → Int32) (zo : Nat → Int32) (H : Heap) (locs : List Loc) (ls : Array Slot), dm - i < n_2 → (i ≤ dm) → (mlD L wk Ba We li i zs zw zo) → va_P D vwCl [(mm, .inr (12, mo g (nI ta) (nI pa) (nI pe) pd (nI pb) pp pf pg pn rt rn (nI cd) sn (nI il) ztk zam zat_ zaa mt_ 0 (-1) wt wy (nI it_) (nI rm) (nI ud) (nI nu) sd (nI qn) (nI qw) qo (nI qb) (nI zqp) qa (nI qi) (nI oc))), (g 24, .inl (cI, 6, .inl (l6 u0 u1 u2 u3 u4 u5))), (g 25, .inl (cI, 6, .inl (l6 v0 v1 v2 v3 v4 v5))), (g 26, .inl (cI, 3200, .inl (fun j => nI (cs j)))), (g 31, .inl (cI, 120, .inl nw)), (g 46, .inl (cI, 9, .inl (fun j => nI (pt j)))), (g 86, .inl (cJ, 1700, .inr (.inl zl))), (g 20, .inl (cI, 4, .inl (l4 (nI l0) (nI l1) (nI dm) (nI l3)))), (g 38, .inl (cI, 90, .inl zs)), (g 36, .inl (cZ, 900, .inl zw)), (g 37, .inl (cZ, 900, .inl zo))] H → va_D A [(mm, .inr (12, mo g (nI ta) (nI pa) (nI pe) pd (nI pb) pp pf pg pn rt rn (nI cd) sn (nI il) ztk zam zat_ zaa mt_ 0 (-1) wt wy (nI it_) (nI rm) (nI ud) (nI nu) sd (nI qn) (nI qw) qo (nI qb) (nI zqp) qa (nI qi) (nI oc))), (g 24, .inl (cI, 6, .inl (l6 u0 u1 u2 u3 u4 u5))), (g 25, .inl (cI, 6, .inl (l6 v0 v1 v2 v3 v4 v5))), (g 26, .inl (cI, 3200, .inl (fun j => nI (cs j)))), (g 31, .inl (cI, 120, .inl nw)), (g 46, .inl (cI, 9, .inl (fun j => nI (pt j)))), (g 86, .inl (cJ, 1700, .inr (.inl zl))), (g 20, .inl (cI, 4, .inl (l4 (nI l0) (nI l1) (nI dm) (nI l3)))), (g 38, .inl (cI, 90, .inl zs)), (g 36, .inl (cZ, 900, .inl zw)), (g 37, .inl (cZ, 900, .inl zo))] → va_S A s.heap H locs → lv_has ls 5 [(2, .int (nI i)), (0, .ref mm), (1, .int (nI li))] → W p l e { frames := 4, cells := 0, slots := 0, locals := 98 } s m ([.ref mm, .int (nI li)] : List Value).toArray below meth c H locs 0 0 (MQ below (skV D (skT cI cJ cC cZ cS) (fun (u : va_W) => ∃ (tk2 : Int32), ∃ (qp2 : Nat), ∃ (am2 : Int32), ∃ (at_2 : Int32), ∃ (aa2 : Int32), ∃ (ql2 : Nat → Int64), ∃ (ws_2 : Nat → Int32), ∃ (yw2 : Nat → Int32), ∃ (yo2 : Nat → Int32), mlD L wk Ba We li dm ws_2 yw2 yo2 ∧ u = [(mm, .inr (12, mo g (nI ta) (nI pa) (nI pe) pd (nI pb) pp pf pg pn rt rn (nI cd) sn (nI il) tk2 am2 at_2 aa2 mt_ 0 (-1) wt wy (nI it_) (nI rm) (nI ud) (nI nu) sd (nI qn) (nI qw) qo (nI qb) (nI qp2) qa (nI qi) (nI oc))), (g 24, .inl (cI, 6, .inl (l6 u0 u1 u2 u3 u4 u5))), (g 25, .inl (cI, 6, .inl (l6 v0 v1 v2 v3 v4 v5))), (g 26, .inl (cI, 3200, .inl (fun j => nI (cs j)))), (g 31, .inl (cI, 120, .inl nw)), (g 46, .inl (cI, 9, .inl (fun j => nI (pt j)))), (g 86, .inl (cJ, 1700, .inr (.inl ql2))), (g 20, .inl (cI, 4, .inl (l4 (nI l0) (nI l1) (nI dm) (nI l3)))), (g 38, .inl (cI, 90, .inl ws_2)), (g 36, .inl (cZ, 900, .inl yw2)), (g 37, .inl (cZ, 900, .inl yo2))]) A) ([.ref mm, .int (nI li)] : List Value).toArray s 0 0 A) (F0 m 2 ls []) := by
    intro n_2
    induction n_2 with
    | zero => intro i zam zat_ zaa ztk zqp zl zs zw zo H locs ls hm; exact absurd hm (Nat.not_lt_zero _)
    | succ n_2 ih_lp_1 =>
      intro i zam zat_ zaa ztk zqp zl zs zw zo H locs ls hm hi hmi hP hD hS hl
      refine lv_iload_n hx hb dX12_laysDays_2 rfl (lv_at hl 0 rfl) ?_
      refine lv_aload_n hx hb dX12_laysDays_3 rfl (lv_at hl 1 rfl) ?_
      refine sk_Vi (q0 := 0) (n := 0) (rest := [.int (nI i)]) (wr := [(g 24, .inl (cI, 6, .inl (l6 u0 u1 u2 u3 u4 u5))), (g 25, .inl (cI, 6, .inl (l6 v0 v1 v2 v3 v4 v5))), (g 26, .inl (cI, 3200, .inl (fun j => nI (cs j)))), (g 31, .inl (cI, 120, .inl nw)), (g 46, .inl (cI, 9, .inl (fun j => nI (pt j)))), (g 86, .inl (cJ, 1700, .inr (.inl zl))), (g 38, .inl (cI, 90, .inl zs)), (g 36, .inl (cZ, 900, .inl zw)), (g 37, .inl (cZ, 900, .inl zo))]) ⟨hx, hb, hml, hown, hts⟩ hl.1 (c_m_dayMany l D cI cJ cC cZ cS mm g ta pa pe pd pb pp pf pg pn rt rn cd sn il ztk zam zat_ zaa mt_ 0 (-1) wt wy it_ rm ud nu sd qn qw qo qb zqp qa qi oc l0 l1 dm l3) w_7_98 w_7_100 w_0_69 w_1_14 w_7_101 (by decide +kernel) ⟨⟨(Nat.le_of_ble_eq_true rfl), (Nat.le_of_ble_eq_true rfl)⟩, (Nat.le_of_ble_eq_true rfl), (Nat.le_of_ble_eq_true rfl)⟩ hK hP hD hS hA [0, 7] [1, 2, 3, 4, 5, 6, 8, 9, 10] rfl rfl (by decide +kernel) (by decide +kernel) (by decide +kernel) rfl rfl rfl rfl (Nat.le_of_ble_eq_true rfl) dX12_laysDays_4 (fun r_3 u H locs hw hP hD hS => ?_)
      obtain ⟨rfl, rfl⟩ := hw
      have hP : va_P D vwCl [(g 24, .inl (cI, 6, .inl (l6 u0 u1 u2 u3 u4 u5))), (g 25, .inl (cI, 6, .inl (l6 v0 v1 v2 v3 v4 v5))), (g 26, .inl (cI, 3200, .inl (fun j => nI (cs j)))), (g 31, .inl (cI, 120, .inl nw)), (g 46, .inl (cI, 9, .inl (fun j => nI (pt j)))), (g 86, .inl (cJ, 1700, .inr (.inl zl))), (g 38, .inl (cI, 90, .inl zs)), (g 36, .inl (cZ, 900, .inl zw)), (g 37, .inl (cZ, 900, .inl zo)), (mm, .inr (12, mo g (nI ta) (nI pa) (nI pe) pd (nI pb) pp pf pg pn rt rn (nI cd) sn (nI il) ztk zam zat_ zaa mt_ 0 (-1) wt wy (nI it_) (nI rm) (nI ud) (nI nu) sd (nI qn) (nI qw) qo (nI qb) (nI zqp) qa (nI qi) (nI oc))), (g 20, .inl (cI, 4, .inl (l4 (nI l0) (nI l1) (nI dm) (nI l3))))] H := hP
      have hD : va_D A [(g 24, .inl (cI, 6, .inl (l6 u0 u1 u2 u3 u4 u5))), (g 25, .inl (cI, 6, .inl (l6 v0 v1 v2 v3 v4 v5))), (g 26, .inl (cI, 3200, .inl (fun j => nI (cs j)))), (g 31, .inl (cI, 120, .inl nw)), (g 46, .inl (cI, 9, .inl (fun j => nI (pt j)))), (g 86, .inl (cJ, 1700, .inr (.inl zl))), (g 38, .inl (cI, 90, .inl zs)), (g 36, .inl (cZ, 900, .inl zw)), (g 37, .inl (cZ, 900, .inl zo)), (mm, .inr (12, mo g (nI ta) (nI pa) (nI pe) pd (nI pb) pp pf pg pn rt rn (nI cd) sn (nI il) ztk zam zat_ zaa mt_ 0 (-1) wt wy (nI it_) (nI rm) (nI ud) (nI nu) sd (nI qn) (nI qw) qo (nI qb) (nI zqp) qa (nI qi) (nI oc))), (g 20, .inl (cI, 4, .inl (l4 (nI l0) (nI l1) (nI dm) (nI l3))))] := hD
      refine lv_icmp_ge (tgt := 163) hx hb dX12_laysDays_7 (by decide) (fun c_4 => ?_) (fun c_4 => ?_)
      · have c_4 : dm ≤ i := (nle dm i (by omega) (by omega)).mp c_4
        have hP := hP.sub (ws' := [(mm, .inr (12, mo g (nI ta) (nI pa) (nI pe) pd (nI pb) pp pf pg pn rt rn (nI cd) sn (nI il) ztk zam zat_ zaa mt_ 0 (-1) wt wy (nI it_) (nI rm) (nI ud) (nI nu) sd (nI qn) (nI qw) qo (nI qb) (nI zqp) qa (nI qi) (nI oc))), (g 24, .inl (cI, 6, .inl (l6 u0 u1 u2 u3 u4 u5))), (g 25, .inl (cI, 6, .inl (l6 v0 v1 v2 v3 v4 v5))), (g 26, .inl (cI, 3200, .inl (fun j => nI (cs j)))), (g 31, .inl (cI, 120, .inl nw)), (g 46, .inl (cI, 9, .inl (fun j => nI (pt j)))), (g 86, .inl (cJ, 1700, .inr (.inl zl))), (g 20, .inl (cI, 4, .inl (l4 (nI l0) (nI l1) (nI dm) (nI l3)))), (g 38, .inl (cI, 90, .inl zs)), (g 36, .inl (cZ, 900, .inl zw)), (g 37, .inl (cZ, 900, .inl zo))]) [9, 0, 1, 2, 3, 4, 5, 10, 6, 7, 8] rfl
        have hD := hD.sub (ws' := [(mm, .inr (12, mo g (nI ta) (nI pa) (nI pe) pd (nI pb) pp pf pg pn rt rn (nI cd) sn (nI il) ztk zam zat_ zaa mt_ 0 (-1) wt wy (nI it_) (nI rm) (nI ud) (nI nu) sd (nI qn) (nI qw) qo (nI qb) (nI zqp) qa (nI qi) (nI oc))), (g 24, .inl (cI, 6, .inl (l6 u0 u1 u2 u3 u4 u5))), (g 25, .inl (cI, 6, .inl (l6 v0 v1 v2 v3 v4 v5))), (g 26, .inl (cI, 3200, .inl (fun j => nI (cs j)))), (g 31, .inl (cI, 120, .inl nw)), (g 46, .inl (cI, 9, .inl (fun j => nI (pt j)))), (g 86, .inl (cJ, 1700, .inr (.inl zl))), (g 20, .inl (cI, 4, .inl (l4 (nI l0) (nI l1) (nI dm) (nI l3)))), (g 38, .inl (cI, 90, .inl zs)), (g 36, .inl (cZ, 900, .inl zw)), (g 37, .inl (cZ, 900, .inl zo))]) [9, 0, 1, 2, 3, 4, 5, 10, 6, 7, 8] (by decide +kernel) rfl
        exact sk_vret hx hb hr hlocks hK hP hD hS (⟨ztk, zqp, zam, zat_, zaa, zl, zs, zw, zo, (show mlD L wk Ba We li dm zs zw zo by rw [show dm = i by omega]; exact hmi), rfl⟩) (Nat.le_of_ble_eq_true rfl) (Nat.le_of_ble_eq_true rfl) dX12_laysDays_163
      · have c_4 : ¬ (dm ≤ i) := fun h => c_4 ((nle dm i (by omega) (by omega)).mpr h)
        refine lv_iconst (v := 0) hx hb dX12_laysDays_10 (by decide) ?_
        refine lv_istore_n (lv' := [(3, .int 0), (2, .int (nI i)), (0, .ref mm), (1, .int (nI li))]) hx hb dX12_laysDays_11 rfl hl (by decide) rfl (fun ls hl => ?_)
        have lp_5 : ∀ (n_6 : Nat) (jj : Nat) (zlb : Nat → Int64) (zsb : Nat → Int32) (zamb : Int32) (zat_b : Int32) (zaab : Int32) (ztkb : Int32) (zqpb : Nat) (H : Heap) (locs : List Loc) (ls : Array Slot), 10 - jj < n_6 → (jj ≤ 10) → (mlD L wk Ba We li i zsb zw zo) → (mlS L wk Ba We li i zsb jj) → va_P D vwCl [(g 24, .inl (cI, 6, .inl (l6 u0 u1 u2 u3 u4 u5))), (g 25, .inl (cI, 6, .inl (l6 v0 v1 v2 v3 v4 v5))), (g 26, .inl (cI, 3200, .inl (fun j => nI (cs j)))), (g 31, .inl (cI, 120, .inl nw)), (g 46, .inl (cI, 9, .inl (fun j => nI (pt j)))), (g 86, .inl (cJ, 1700, .inr (.inl zlb))), (g 38, .inl (cI, 90, .inl zsb)), (g 36, .inl (cZ, 900, .inl zw)), (g 37, .inl (cZ, 900, .inl zo)), (mm, .inr (12, mo g (nI ta) (nI pa) (nI pe) pd (nI pb) pp pf pg pn rt rn (nI cd) sn (nI il) ztkb zamb zat_b zaab mt_ 0 (-1) wt wy (nI it_) (nI rm) (nI ud) (nI nu) sd (nI qn) (nI qw) qo (nI qb) (nI zqpb) qa (nI qi) (nI oc))), (g 20, .inl (cI, 4, .inl (l4 (nI l0) (nI l1) (nI dm) (nI l3))))] H → va_D A [(g 24, .inl (cI, 6, .inl (l6 u0 u1 u2 u3 u4 u5))), (g 25, .inl (cI, 6, .inl (l6 v0 v1 v2 v3 v4 v5))), (g 26, .inl (cI, 3200, .inl (fun j => nI (cs j)))), (g 31, .inl (cI, 120, .inl nw)), (g 46, .inl (cI, 9, .inl (fun j => nI (pt j)))), (g 86, .inl (cJ, 1700, .inr (.inl zlb))), (g 38, .inl (cI, 90, .inl zsb)), (g 36, .inl (cZ, 900, .inl zw)), (g 37, .inl (cZ, 900, .inl zo)), (mm, .inr (12, mo g (nI ta) (nI pa) (nI pe) pd (nI pb) pp pf pg pn rt rn (nI cd) sn (nI il) ztkb zamb zat_b zaab mt_ 0 (-1) wt wy (nI it_) (nI rm) (nI ud) (nI nu) sd (nI qn) (nI qw) qo (nI qb) (nI zqpb) qa (nI qi) (nI oc))), (g 20, .inl (cI, 4, .inl (l4 (nI l0) (nI l1) (nI dm) (nI l3))))] → va_S A s.heap H locs → lv_has ls 5 [(3, .int (nI jj)), (2, .int (nI i)), (0, .ref mm), (1, .int (nI li))] → W p l e { frames := 4, cells := 0, slots := 0, locals := 98 } s m ([.ref mm, .int (nI li)] : List Value).toArray below meth c H locs 0 0 (MQ below (skV D (skT cI cJ cC cZ cS) (fun (u : va_W) => ∃ (tk2 : Int32), ∃ (qp2 : Nat), ∃ (am2 : Int32), ∃ (at_2 : Int32), ∃ (aa2 : Int32), ∃ (ql2 : Nat → Int64), ∃ (ws_2 : Nat → Int32), ∃ (yw2 : Nat → Int32), ∃ (yo2 : Nat → Int32), mlD L wk Ba We li dm ws_2 yw2 yo2 ∧ u = [(mm, .inr (12, mo g (nI ta) (nI pa) (nI pe) pd (nI pb) pp pf pg pn rt rn (nI cd) sn (nI il) tk2 am2 at_2 aa2 mt_ 0 (-1) wt wy (nI it_) (nI rm) (nI ud) (nI nu) sd (nI qn) (nI qw) qo (nI qb) (nI qp2) qa (nI qi) (nI oc))), (g 24, .inl (cI, 6, .inl (l6 u0 u1 u2 u3 u4 u5))), (g 25, .inl (cI, 6, .inl (l6 v0 v1 v2 v3 v4 v5))), (g 26, .inl (cI, 3200, .inl (fun j => nI (cs j)))), (g 31, .inl (cI, 120, .inl nw)), (g 46, .inl (cI, 9, .inl (fun j => nI (pt j)))), (g 86, .inl (cJ, 1700, .inr (.inl ql2))), (g 20, .inl (cI, 4, .inl (l4 (nI l0) (nI l1) (nI dm) (nI l3)))), (g 38, .inl (cI, 90, .inl ws_2)), (g 36, .inl (cZ, 900, .inl yw2)), (g 37, .inl (cZ, 900, .inl yo2))]) A) ([.ref mm, .int (nI li)] : List Value).toArray s 0 0 A) (F0 m 12 ls []) := by
          intro n_6
          induction n_6 with
          | zero => intro jj zlb zsb zamb zat_b zaab ztkb zqpb H locs ls hm; exact absurd hm (Nat.not_lt_zero _)
          | succ n_6 ih_lp_5 =>
            intro jj zlb zsb zamb zat_b zaab ztkb zqpb H locs ls hm hjj hmb hms hP hD hS hl
            refine lv_iload_n hx hb dX12_laysDays_12 rfl (lv_at hl 0 rfl) ?_
            refine lv_bipush (v := 10) hx hb dX12_laysDays_13 (by decide) ?_
            refine lv_icmp_ge (tgt := 46) hx hb dX12_laysDays_15 (by decide) (fun c_7 => ?_) (fun c_7 => ?_)
            · have c_7 : 10 ≤ jj := (nle 10 jj (by omega) (by omega)).mp c_7
              refine lv_iconst (v := 0) hx hb dX12_laysDays_46 (by decide) ?_
              refine lv_istore_n (lv' := [(3, .int 0), (2, .int (nI i)), (0, .ref mm), (1, .int (nI li))]) hx hb dX12_laysDays_47 rfl hl (by decide) rfl (fun ls hl => ?_)
              have lp_8 : ∀ (n_9 : Nat) (ja : Nat) (zlc : Nat → Int64) (zwc : Nat → Int32) (zoc : Nat → Int32) (zamc : Int32) (zat_c : Int32) (zaac : Int32) (ztkc : Int32) (zqpc : Nat) (H : Heap) (locs : List Loc) (ls : Array Slot), 10 - ja < n_9 → (ja ≤ 10) → (mlS L wk Ba We li i zsb 10) → (mlD L wk Ba We li i zsb zwc zoc) → (mlA L wk Ba We li i ja 0 zwc zoc) → va_P D vwCl [(g 24, .inl (cI, 6, .inl (l6 u0 u1 u2 u3 u4 u5))), (g 25, .inl (cI, 6, .inl (l6 v0 v1 v2 v3 v4 v5))), (g 26, .inl (cI, 3200, .inl (fun j => nI (cs j)))), (g 31, .inl (cI, 120, .inl nw)), (g 46, .inl (cI, 9, .inl (fun j => nI (pt j)))), (g 86, .inl (cJ, 1700, .inr (.inl zlc))), (g 38, .inl (cI, 90, .inl zsb)), (g 36, .inl (cZ, 900, .inl zwc)), (g 37, .inl (cZ, 900, .inl zoc)), (mm, .inr (12, mo g (nI ta) (nI pa) (nI pe) pd (nI pb) pp pf pg pn rt rn (nI cd) sn (nI il) ztkc zamc zat_c zaac mt_ 0 (-1) wt wy (nI it_) (nI rm) (nI ud) (nI nu) sd (nI qn) (nI qw) qo (nI qb) (nI zqpc) qa (nI qi) (nI oc))), (g 20, .inl (cI, 4, .inl (l4 (nI l0) (nI l1) (nI dm) (nI l3))))] H → va_D A [(g 24, .inl (cI, 6, .inl (l6 u0 u1 u2 u3 u4 u5))), (g 25, .inl (cI, 6, .inl (l6 v0 v1 v2 v3 v4 v5))), (g 26, .inl (cI, 3200, .inl (fun j => nI (cs j)))), (g 31, .inl (cI, 120, .inl nw)), (g 46, .inl (cI, 9, .inl (fun j => nI (pt j)))), (g 86, .inl (cJ, 1700, .inr (.inl zlc))), (g 38, .inl (cI, 90, .inl zsb)), (g 36, .inl (cZ, 900, .inl zwc)), (g 37, .inl (cZ, 900, .inl zoc)), (mm, .inr (12, mo g (nI ta) (nI pa) (nI pe) pd (nI pb) pp pf pg pn rt rn (nI cd) sn (nI il) ztkc zamc zat_c zaac mt_ 0 (-1) wt wy (nI it_) (nI rm) (nI ud) (nI nu) sd (nI qn) (nI qw) qo (nI qb) (nI zqpc) qa (nI qi) (nI oc))), (g 20, .inl (cI, 4, .inl (l4 (nI l0) (nI l1) (nI dm) (nI l3))))] → va_S A s.heap H locs → lv_has ls 5 [(3, .int (nI ja)), (2, .int (nI i)), (0, .ref mm), (1, .int (nI li))] → W p l e { frames := 4, cells := 0, slots := 0, locals := 98 } s m ([.ref mm, .int (nI li)] : List Value).toArray below meth c H locs 0 0 (MQ below (skV D (skT cI cJ cC cZ cS) (fun (u : va_W) => ∃ (tk2 : Int32), ∃ (qp2 : Nat), ∃ (am2 : Int32), ∃ (at_2 : Int32), ∃ (aa2 : Int32), ∃ (ql2 : Nat → Int64), ∃ (ws_2 : Nat → Int32), ∃ (yw2 : Nat → Int32), ∃ (yo2 : Nat → Int32), mlD L wk Ba We li dm ws_2 yw2 yo2 ∧ u = [(mm, .inr (12, mo g (nI ta) (nI pa) (nI pe) pd (nI pb) pp pf pg pn rt rn (nI cd) sn (nI il) tk2 am2 at_2 aa2 mt_ 0 (-1) wt wy (nI it_) (nI rm) (nI ud) (nI nu) sd (nI qn) (nI qw) qo (nI qb) (nI qp2) qa (nI qi) (nI oc))), (g 24, .inl (cI, 6, .inl (l6 u0 u1 u2 u3 u4 u5))), (g 25, .inl (cI, 6, .inl (l6 v0 v1 v2 v3 v4 v5))), (g 26, .inl (cI, 3200, .inl (fun j => nI (cs j)))), (g 31, .inl (cI, 120, .inl nw)), (g 46, .inl (cI, 9, .inl (fun j => nI (pt j)))), (g 86, .inl (cJ, 1700, .inr (.inl ql2))), (g 20, .inl (cI, 4, .inl (l4 (nI l0) (nI l1) (nI dm) (nI l3)))), (g 38, .inl (cI, 90, .inl ws_2)), (g 36, .inl (cZ, 900, .inl yw2)), (g 37, .inl (cZ, 900, .inl yo2))]) A) ([.ref mm, .int (nI li)] : List Value).toArray s 0 0 A) (F0 m 48 ls []) := by
                intro n_9
                induction n_9 with
                | zero => intro ja zlc zwc zoc zamc zat_c zaac ztkc zqpc H locs ls hm; exact absurd hm (Nat.not_lt_zero _)
                | succ n_9 ih_lp_8 =>
                  intro ja zlc zwc zoc zamc zat_c zaac ztkc zqpc H locs ls hm hja hms10 hmc hma hP hD hS hl
                  refine lv_iload_n hx hb dX12_laysDays_48 rfl (lv_at hl 0 rfl) ?_
                  refine lv_bipush (v := 10) hx hb dX12_laysDays_49 (by decide) ?_
                  refine lv_icmp_ge (tgt := 157) hx hb dX12_laysDays_51 (by decide) (fun c_10 => ?_) (fun c_10 => ?_)
                  · have c_10 : 10 ≤ ja := (nle 10 ja (by omega) (by omega)).mp c_10
                    refine lv_iinc (v := nI (i + 1)) (lv' := [(2, .int (nI (i + 1))), (3, .int (nI ja)), (0, .ref mm), (1, .int (nI li))]) hx hb dX12_laysDays_157 hl (k := 1) rfl (ninc i 1 (by decide)) (by decide) rfl (fun ls hl => ?_)
                    refine lv_goto (tgt := 2) hx hb dX12_laysDays_160 (by decide) ?_
                    have hP := hP.sub (ws' := [(mm, .inr (12, mo g (nI ta) (nI pa) (nI pe) pd (nI pb) pp pf pg pn rt rn (nI cd) sn (nI il) ztkc zamc zat_c zaac mt_ 0 (-1) wt wy (nI it_) (nI rm) (nI ud) (nI nu) sd (nI qn) (nI qw) qo (nI qb) (nI zqpc) qa (nI qi) (nI oc))), (g 24, .inl (cI, 6, .inl (l6 u0 u1 u2 u3 u4 u5))), (g 25, .inl (cI, 6, .inl (l6 v0 v1 v2 v3 v4 v5))), (g 26, .inl (cI, 3200, .inl (fun j => nI (cs j)))), (g 31, .inl (cI, 120, .inl nw)), (g 46, .inl (cI, 9, .inl (fun j => nI (pt j)))), (g 86, .inl (cJ, 1700, .inr (.inl zlc))), (g 20, .inl (cI, 4, .inl (l4 (nI l0) (nI l1) (nI dm) (nI l3)))), (g 38, .inl (cI, 90, .inl zsb)), (g 36, .inl (cZ, 900, .inl zwc)), (g 37, .inl (cZ, 900, .inl zoc))]) [9, 0, 1, 2, 3, 4, 5, 10, 6, 7, 8] rfl
                    have hD := hD.sub (ws' := [(mm, .inr (12, mo g (nI ta) (nI pa) (nI pe) pd (nI pb) pp pf pg pn rt rn (nI cd) sn (nI il) ztkc zamc zat_c zaac mt_ 0 (-1) wt wy (nI it_) (nI rm) (nI ud) (nI nu) sd (nI qn) (nI qw) qo (nI qb) (nI zqpc) qa (nI qi) (nI oc))), (g 24, .inl (cI, 6, .inl (l6 u0 u1 u2 u3 u4 u5))), (g 25, .inl (cI, 6, .inl (l6 v0 v1 v2 v3 v4 v5))), (g 26, .inl (cI, 3200, .inl (fun j => nI (cs j)))), (g 31, .inl (cI, 120, .inl nw)), (g 46, .inl (cI, 9, .inl (fun j => nI (pt j)))), (g 86, .inl (cJ, 1700, .inr (.inl zlc))), (g 20, .inl (cI, 4, .inl (l4 (nI l0) (nI l1) (nI dm) (nI l3)))), (g 38, .inl (cI, 90, .inl zsb)), (g 36, .inl (cZ, 900, .inl zwc)), (g 37, .inl (cZ, 900, .inl zoc))]) [9, 0, 1, 2, 3, 4, 5, 10, 6, 7, 8] (by decide +kernel) rfl
                    exact ih_lp_1 (i + 1) zamc zat_c zaac ztkc zqpc zlc zsb zwc zoc _ _ _ (by omega) (by omega) (mlD_s hmc hms10 hma (by omega)) hP hD hS (lv_sub hl [0, 2, 3] rfl)
                  · have c_10 : ¬ (10 ≤ ja) := fun h => c_10 ((nle 10 ja (by omega) (by omega)).mpr h)
                    refine lv_iconst (v := 0) hx hb dX12_laysDays_54 (by decide) ?_
                    refine lv_istore (lv' := [(4, .int 0), (3, .int (nI ja)), (2, .int (nI i)), (0, .ref mm), (1, .int (nI li))]) hx hb dX12_laysDays_55 hl (by decide) rfl (fun ls hl => ?_)
                    have lp_11 : ∀ (n_12 : Nat) (jm : Nat) (zld : Nat → Int64) (zwd : Nat → Int32) (zod : Nat → Int32) (zamd : Int32) (zat_d : Int32) (zaad : Int32) (ztkd : Int32) (zqpd : Nat) (H : Heap) (locs : List Loc) (ls : Array Slot), 10 - jm < n_12 → (jm ≤ 10) → (mlD L wk Ba We li i zsb zwd zod) → (mlA L wk Ba We li i ja jm zwd zod) → va_P D vwCl [(g 24, .inl (cI, 6, .inl (l6 u0 u1 u2 u3 u4 u5))), (g 25, .inl (cI, 6, .inl (l6 v0 v1 v2 v3 v4 v5))), (g 26, .inl (cI, 3200, .inl (fun j => nI (cs j)))), (g 31, .inl (cI, 120, .inl nw)), (g 46, .inl (cI, 9, .inl (fun j => nI (pt j)))), (g 86, .inl (cJ, 1700, .inr (.inl zld))), (g 38, .inl (cI, 90, .inl zsb)), (g 36, .inl (cZ, 900, .inl zwd)), (g 37, .inl (cZ, 900, .inl zod)), (mm, .inr (12, mo g (nI ta) (nI pa) (nI pe) pd (nI pb) pp pf pg pn rt rn (nI cd) sn (nI il) ztkd zamd zat_d zaad mt_ 0 (-1) wt wy (nI it_) (nI rm) (nI ud) (nI nu) sd (nI qn) (nI qw) qo (nI qb) (nI zqpd) qa (nI qi) (nI oc))), (g 20, .inl (cI, 4, .inl (l4 (nI l0) (nI l1) (nI dm) (nI l3))))] H → va_D A [(g 24, .inl (cI, 6, .inl (l6 u0 u1 u2 u3 u4 u5))), (g 25, .inl (cI, 6, .inl (l6 v0 v1 v2 v3 v4 v5))), (g 26, .inl (cI, 3200, .inl (fun j => nI (cs j)))), (g 31, .inl (cI, 120, .inl nw)), (g 46, .inl (cI, 9, .inl (fun j => nI (pt j)))), (g 86, .inl (cJ, 1700, .inr (.inl zld))), (g 38, .inl (cI, 90, .inl zsb)), (g 36, .inl (cZ, 900, .inl zwd)), (g 37, .inl (cZ, 900, .inl zod)), (mm, .inr (12, mo g (nI ta) (nI pa) (nI pe) pd (nI pb) pp pf pg pn rt rn (nI cd) sn (nI il) ztkd zamd zat_d zaad mt_ 0 (-1) wt wy (nI it_) (nI rm) (nI ud) (nI nu) sd (nI qn) (nI qw) qo (nI qb) (nI zqpd) qa (nI qi) (nI oc))), (g 20, .inl (cI, 4, .inl (l4 (nI l0) (nI l1) (nI dm) (nI l3))))] → va_S A s.heap H locs → lv_has ls 5 [(4, .int (nI jm)), (3, .int (nI ja)), (2, .int (nI i)), (0, .ref mm), (1, .int (nI li))] → W p l e { frames := 4, cells := 0, slots := 0, locals := 98 } s m ([.ref mm, .int (nI li)] : List Value).toArray below meth c H locs 0 0 (MQ below (skV D (skT cI cJ cC cZ cS) (fun (u : va_W) => ∃ (tk2 : Int32), ∃ (qp2 : Nat), ∃ (am2 : Int32), ∃ (at_2 : Int32), ∃ (aa2 : Int32), ∃ (ql2 : Nat → Int64), ∃ (ws_2 : Nat → Int32), ∃ (yw2 : Nat → Int32), ∃ (yo2 : Nat → Int32), mlD L wk Ba We li dm ws_2 yw2 yo2 ∧ u = [(mm, .inr (12, mo g (nI ta) (nI pa) (nI pe) pd (nI pb) pp pf pg pn rt rn (nI cd) sn (nI il) tk2 am2 at_2 aa2 mt_ 0 (-1) wt wy (nI it_) (nI rm) (nI ud) (nI nu) sd (nI qn) (nI qw) qo (nI qb) (nI qp2) qa (nI qi) (nI oc))), (g 24, .inl (cI, 6, .inl (l6 u0 u1 u2 u3 u4 u5))), (g 25, .inl (cI, 6, .inl (l6 v0 v1 v2 v3 v4 v5))), (g 26, .inl (cI, 3200, .inl (fun j => nI (cs j)))), (g 31, .inl (cI, 120, .inl nw)), (g 46, .inl (cI, 9, .inl (fun j => nI (pt j)))), (g 86, .inl (cJ, 1700, .inr (.inl ql2))), (g 20, .inl (cI, 4, .inl (l4 (nI l0) (nI l1) (nI dm) (nI l3)))), (g 38, .inl (cI, 90, .inl ws_2)), (g 36, .inl (cZ, 900, .inl yw2)), (g 37, .inl (cZ, 900, .inl yo2))]) A) ([.ref mm, .int (nI li)] : List Value).toArray s 0 0 A) (F0 m 57 ls []) := by
                      intro n_12
                      induction n_12 with
                      | zero => intro jm zld zwd zod zamd zat_d zaad ztkd zqpd H locs ls hm; exact absurd hm (Nat.not_lt_zero _)
                      | succ n_12 ih_lp_11 =>
                        intro jm zld zwd zod zamd zat_d zaad ztkd zqpd H locs ls hm hjm hmd_ hmaj hP hD hS hl
                        refine lv_iload hx hb dX12_laysDays_57 (lv_at hl 0 rfl) ?_
                        refine lv_bipush (v := 10) hx hb dX12_laysDays_59 (by decide) ?_
                        refine lv_icmp_ge (tgt := 151) hx hb dX12_laysDays_61 (by decide) (fun c_13 => ?_) (fun c_13 => ?_)
                        · have c_13 : 10 ≤ jm := (nle 10 jm (by omega) (by omega)).mp c_13
                          refine lv_iinc (v := nI (ja + 1)) (lv' := [(3, .int (nI (ja + 1))), (4, .int (nI jm)), (2, .int (nI i)), (0, .ref mm), (1, .int (nI li))]) hx hb dX12_laysDays_151 hl (k := 1) rfl (ninc ja 1 (by decide)) (by decide) rfl (fun ls hl => ?_)
                          refine lv_goto (tgt := 48) hx hb dX12_laysDays_154 (by decide) ?_
                          exact ih_lp_8 (ja + 1) zld zwd zod zamd zat_d zaad ztkd zqpd _ _ _ (by omega) (by omega) hms10 hmd_ (mlA_n hmaj (by omega)) hP hD hS (lv_sub hl [0, 2, 3, 4] rfl)
                        · have c_13 : ¬ (10 ≤ jm) := fun h => c_13 ((nle 10 jm (by omega) (by omega)).mpr h)
                          refine lv_aload_n hx hb dX12_laysDays_64 rfl (lv_at hl 3 rfl) ?_
                          refine sk_get (v := .ref (g 36)) (C := RX12) (T := TX12) (N := 92) hx hb hts inlX12 hown hK hP 9 rfl rfl 36 (by decide) w_5_191 rfl dX12_laysDays_65 ?_
                          refine lv_bipush (v := 100) hx hb dX12_laysDays_68 (by decide) ?_
                          refine lv_iload_n hx hb dX12_laysDays_70 rfl (lv_at hl 2 rfl) ?_
                          refine lv_imul hx hb dX12_laysDays_71 ?_
                          refine sk_top (nI (100 * i)) (nmul 100 i) ?_
                          refine lv_bipush (v := 10) hx hb dX12_laysDays_72 (by decide) ?_
                          refine lv_iload_n hx hb dX12_laysDays_74 rfl (lv_at hl 1 rfl) ?_
                          refine lv_imul hx hb dX12_laysDays_75 ?_
                          refine sk_top (nI (10 * ja)) (nmul 10 ja) ?_
                          refine lv_iadd hx hb dX12_laysDays_76 ?_
                          refine sk_top (nI (100 * i + (10 * ja))) (nI_add (100 * i) (10 * ja)) ?_
                          refine lv_iload hx hb dX12_laysDays_77 (lv_at hl 0 rfl) ?_
                          refine lv_iadd hx hb dX12_laysDays_79 ?_
                          refine sk_top (nI (100 * i + (10 * ja) + jm)) (nI_add (100 * i + (10 * ja)) jm) ?_
                          refine lv_aload_n hx hb dX12_laysDays_80 rfl (lv_at hl 3 rfl) ?_
                          refine lv_iload_n hx hb dX12_laysDays_81 rfl (lv_at hl 2 rfl) ?_
                          refine lv_iload_n hx hb dX12_laysDays_82 rfl (lv_at hl 1 rfl) ?_
                          refine lv_aload_n hx hb dX12_laysDays_83 rfl (lv_at hl 3 rfl) ?_
                          refine sk_get (v := .ref (g 38)) (C := RX12) (T := TX12) (N := 92) hx hb hts inlX12 hown hK hP 9 rfl rfl 38 (by decide) w_5_193 rfl dX12_laysDays_84 ?_
                          refine lv_bipush (v := 10) hx hb dX12_laysDays_87 (by decide) ?_
                          refine lv_iload_n hx hb dX12_laysDays_89 rfl (lv_at hl 2 rfl) ?_
                          refine lv_imul hx hb dX12_laysDays_90 ?_
                          refine sk_top (nI (10 * i)) (nmul 10 i) ?_
                          refine lv_iload hx hb dX12_laysDays_91 (lv_at hl 0 rfl) ?_
                          refine lv_iadd hx hb dX12_laysDays_93 ?_
                          refine sk_top (nI (10 * i + jm)) (nI_add (10 * i) jm) ?_
                          refine va_iald hx hb hK.1 hP 6 0 rfl rfl (vin (10 * i + jm) 90 (by omega) (by omega)) dX12_laysDays_94 ?_
                          refine sk_top (nI ((kcSaid L wk (Ba i) (We i) i jm + li) % 10)) (by rw [nI_clamp (by omega)]; exact hms10 jm (by omega)) ?_
                          refine lv_iconst (v := 0) hx hb dX12_laysDays_95 (by decide) ?_
                          refine sk_Vi (q0 := 0) (n := 4) (rest := [.int (nI (100 * i + (10 * ja) + jm)), .ref (g 36)]) (wr := [(g 38, .inl (cI, 90, .inl zsb)), (g 36, .inl (cZ, 900, .inl zwd)), (g 37, .inl (cZ, 900, .inl zod)), (g 20, .inl (cI, 4, .inl (l4 (nI l0) (nI l1) (nI dm) (nI l3))))]) ⟨hx, hb, hml, hown, hts⟩ hl.1 (c_nm_becomesBy0 l D cI cJ cC cZ cS mm g ta pa pe pd pb pp pf pg pn rt rn cd sn il ztkd zamd zat_d zaad mt_ wt wy it_ rm ud nu sd qn qw qo qb zqpd qa qi oc i ja ((kcSaid L wk (Ba i) (We i) i jm + li) % 10) u0 u1 u2 u3 u4 u5 v0 v1 v2 v3 v4 v5 cs nw pt zld L wk (Ba i) (We i) (by omega) (by omega) (by omega) hLk hkl (hmds i (by omega)) hwk (hB9 i) (hW9 i) hmw1 hcs hnw hpt) w_7_176 w_7_178 w_0_81 w_1_14 w_7_179 (by decide +kernel) ⟨⟨(Nat.le_of_ble_eq_true rfl), (Nat.le_of_ble_eq_true rfl)⟩, (Nat.le_of_ble_eq_true rfl), (Nat.le_of_ble_eq_true rfl)⟩ hK hP hD hS hA [9, 0, 1, 2, 3, 4, 5] [6, 7, 8, 10] rfl rfl (by decide +kernel) (by decide +kernel) (by decide +kernel) rfl rfl rfl rfl (Nat.le_of_ble_eq_true rfl) dX12_laysDays_96 (fun r_21 u H locs hw hP hD hS => ?_)
                          obtain ⟨v_14, tk2_15, qp2_16, am2_17, at_2_18, aa2_19, ql2_20, hv_22, rfl, rfl⟩ := hw
                          have hP : va_P D vwCl [(g 38, .inl (cI, 90, .inl zsb)), (g 36, .inl (cZ, 900, .inl zwd)), (g 37, .inl (cZ, 900, .inl zod)), (g 20, .inl (cI, 4, .inl (l4 (nI l0) (nI l1) (nI dm) (nI l3)))), (mm, .inr (12, mo g (nI ta) (nI pa) (nI pe) pd (nI pb) pp pf pg pn rt rn (nI cd) sn (nI il) tk2_15 am2_17 at_2_18 aa2_19 mt_ 0 (-1) wt wy (nI it_) (nI rm) (nI ud) (nI nu) sd (nI qn) (nI qw) qo (nI qb) (nI qp2_16) qa (nI qi) (nI oc))), (g 24, .inl (cI, 6, .inl (l6 u0 u1 u2 u3 u4 u5))), (g 25, .inl (cI, 6, .inl (l6 v0 v1 v2 v3 v4 v5))), (g 26, .inl (cI, 3200, .inl (fun j => nI (cs j)))), (g 31, .inl (cI, 120, .inl nw)), (g 46, .inl (cI, 9, .inl (fun j => nI (pt j)))), (g 86, .inl (cJ, 1700, .inr (.inl ql2_20)))] H := hP
                          have hD : va_D A [(g 38, .inl (cI, 90, .inl zsb)), (g 36, .inl (cZ, 900, .inl zwd)), (g 37, .inl (cZ, 900, .inl zod)), (g 20, .inl (cI, 4, .inl (l4 (nI l0) (nI l1) (nI dm) (nI l3)))), (mm, .inr (12, mo g (nI ta) (nI pa) (nI pe) pd (nI pb) pp pf pg pn rt rn (nI cd) sn (nI il) tk2_15 am2_17 at_2_18 aa2_19 mt_ 0 (-1) wt wy (nI it_) (nI rm) (nI ud) (nI nu) sd (nI qn) (nI qw) qo (nI qb) (nI qp2_16) qa (nI qi) (nI oc))), (g 24, .inl (cI, 6, .inl (l6 u0 u1 u2 u3 u4 u5))), (g 25, .inl (cI, 6, .inl (l6 v0 v1 v2 v3 v4 v5))), (g 26, .inl (cI, 3200, .inl (fun j => nI (cs j)))), (g 31, .inl (cI, 120, .inl nw)), (g 46, .inl (cI, 9, .inl (fun j => nI (pt j)))), (g 86, .inl (cJ, 1700, .inr (.inl ql2_20)))] := hD
                          have hl_23 : v_14 < 10 := by rw [hv_22]; exact kcTen_lt _
                          refine lv_iload hx hb dX12_laysDays_99 (lv_at hl 0 rfl) ?_
                          refine lv_icmp_ne (tgt := 108) hx hb dX12_laysDays_101 (by decide) (fun c_24 => ?_) (fun c_24 => ?_)
                          · have c_24 : ¬ (v_14 = jm) := fun h => c_24 ((neq v_14 jm (by omega) (by omega)).mpr h)
                            refine lv_iconst (v := 0) hx hb dX12_laysDays_108 (by decide) ?_
                            refine sk_zastE (k := (100 * i + (10 * ja) + jm)) (y := 0) (ws' := fun f_25 => [(g 38, .inl (cI, 90, .inl zsb)), (g 36, .inl (cZ, 900, .inl f_25)), (g 37, .inl (cZ, 900, .inl zod)), (g 20, .inl (cI, 4, .inl (l4 (nI l0) (nI l1) (nI dm) (nI l3)))), (mm, .inr (12, mo g (nI ta) (nI pa) (nI pe) pd (nI pb) pp pf pg pn rt rn (nI cd) sn (nI il) tk2_15 am2_17 at_2_18 aa2_19 mt_ 0 (-1) wt wy (nI it_) (nI rm) (nI ud) (nI nu) sd (nI qn) (nI qw) qo (nI qb) (nI qp2_16) qa (nI qi) (nI oc))), (g 24, .inl (cI, 6, .inl (l6 u0 u1 u2 u3 u4 u5))), (g 25, .inl (cI, 6, .inl (l6 v0 v1 v2 v3 v4 v5))), (g 26, .inl (cI, 3200, .inl (fun j => nI (cs j)))), (g 31, .inl (cI, 120, .inl nw)), (g 46, .inl (cI, 9, .inl (fun j => nI (pt j)))), (g 86, .inl (cJ, 1700, .inr (.inl ql2_20)))]) hx hb hK hP hD hS 1 3 rfl rfl (by omega) (by omega) (fun _ => rfl) rfl dX12_laysDays_109 (fun f_25 H locs ef_26 hP hD hS => ?_)
                            refine lv_aload_n hx hb dX12_laysDays_110 rfl (lv_at hl 3 rfl) ?_
                            refine sk_get (v := .ref (g 37)) (C := RX12) (T := TX12) (N := 92) hx hb hts inlX12 hown hK hP 4 rfl rfl 37 (by decide) w_5_192 rfl dX12_laysDays_111 ?_
                            refine lv_bipush (v := 100) hx hb dX12_laysDays_114 (by decide) ?_
                            refine lv_iload_n hx hb dX12_laysDays_116 rfl (lv_at hl 2 rfl) ?_
                            refine lv_imul hx hb dX12_laysDays_117 ?_
                            refine sk_top (nI (100 * i)) (nmul 100 i) ?_
                            refine lv_bipush (v := 10) hx hb dX12_laysDays_118 (by decide) ?_
                            refine lv_iload_n hx hb dX12_laysDays_120 rfl (lv_at hl 1 rfl) ?_
                            refine lv_imul hx hb dX12_laysDays_121 ?_
                            refine sk_top (nI (10 * ja)) (nmul 10 ja) ?_
                            refine lv_iadd hx hb dX12_laysDays_122 ?_
                            refine sk_top (nI (100 * i + (10 * ja))) (nI_add (100 * i) (10 * ja)) ?_
                            refine lv_iload hx hb dX12_laysDays_123 (lv_at hl 0 rfl) ?_
                            refine lv_iadd hx hb dX12_laysDays_125 ?_
                            refine sk_top (nI (100 * i + (10 * ja) + jm)) (nI_add (100 * i + (10 * ja)) jm) ?_
                            refine lv_aload_n hx hb dX12_laysDays_126 rfl (lv_at hl 3 rfl) ?_
                            refine lv_iload_n hx hb dX12_laysDays_127 rfl (lv_at hl 2 rfl) ?_
                            refine lv_iload_n hx hb dX12_laysDays_128 rfl (lv_at hl 1 rfl) ?_
                            refine lv_iconst (v := 0) hx hb dX12_laysDays_129 (by decide) ?_
                            refine lv_iconst (v := 1) hx hb dX12_laysDays_130 (by decide) ?_
                            refine sk_Vi (q0 := 0) (n := 4) (rest := [.int (nI (100 * i + (10 * ja) + jm)), .ref (g 37)]) (wr := [(g 38, .inl (cI, 90, .inl zsb)), (g 36, .inl (cZ, 900, .inl f_25)), (g 37, .inl (cZ, 900, .inl zod)), (g 20, .inl (cI, 4, .inl (l4 (nI l0) (nI l1) (nI dm) (nI l3))))]) ⟨hx, hb, hml, hown, hts⟩ hl.1 (c_nm_becomesBy1 l D cI cJ cC cZ cS mm g ta pa pe pd pb pp pf pg pn rt rn cd sn il tk2_15 am2_17 at_2_18 aa2_19 mt_ wt wy it_ rm ud nu sd qn qw qo qb qp2_16 qa qi oc i ja 0 u0 u1 u2 u3 u4 u5 v0 v1 v2 v3 v4 v5 cs nw pt ql2_20 L wk (Ba i) (We i) (by omega) (by omega) (by omega) hLk hkl (hmds i (by omega)) hwk (hB9 i) (hW9 i) hmw1 hcs hnw hpt) w_7_176 w_7_178 w_0_81 w_1_14 w_7_179 (by decide +kernel) ⟨⟨(Nat.le_of_ble_eq_true rfl), (Nat.le_of_ble_eq_true rfl)⟩, (Nat.le_of_ble_eq_true rfl), (Nat.le_of_ble_eq_true rfl)⟩ hK hP hD hS hA [4, 5, 6, 7, 8, 9, 10] [0, 1, 2, 3] rfl rfl (by decide +kernel) (by decide +kernel) (by decide +kernel) rfl rfl rfl rfl (Nat.le_of_ble_eq_true rfl) dX12_laysDays_131 (fun r_34 u H locs hw hP hD hS => ?_)
                            obtain ⟨v_27, tk2_28, qp2_29, am2_30, at_2_31, aa2_32, ql2_33, hv_35, rfl, rfl⟩ := hw
                            have hP : va_P D vwCl [(g 38, .inl (cI, 90, .inl zsb)), (g 36, .inl (cZ, 900, .inl f_25)), (g 37, .inl (cZ, 900, .inl zod)), (g 20, .inl (cI, 4, .inl (l4 (nI l0) (nI l1) (nI dm) (nI l3)))), (mm, .inr (12, mo g (nI ta) (nI pa) (nI pe) pd (nI pb) pp pf pg pn rt rn (nI cd) sn (nI il) tk2_28 am2_30 at_2_31 aa2_32 mt_ 0 (-1) wt wy (nI it_) (nI rm) (nI ud) (nI nu) sd (nI qn) (nI qw) qo (nI qb) (nI qp2_29) qa (nI qi) (nI oc))), (g 24, .inl (cI, 6, .inl (l6 u0 u1 u2 u3 u4 u5))), (g 25, .inl (cI, 6, .inl (l6 v0 v1 v2 v3 v4 v5))), (g 26, .inl (cI, 3200, .inl (fun j => nI (cs j)))), (g 31, .inl (cI, 120, .inl nw)), (g 46, .inl (cI, 9, .inl (fun j => nI (pt j)))), (g 86, .inl (cJ, 1700, .inr (.inl ql2_33)))] H := hP
                            have hD : va_D A [(g 38, .inl (cI, 90, .inl zsb)), (g 36, .inl (cZ, 900, .inl f_25)), (g 37, .inl (cZ, 900, .inl zod)), (g 20, .inl (cI, 4, .inl (l4 (nI l0) (nI l1) (nI dm) (nI l3)))), (mm, .inr (12, mo g (nI ta) (nI pa) (nI pe) pd (nI pb) pp pf pg pn rt rn (nI cd) sn (nI il) tk2_28 am2_30 at_2_31 aa2_32 mt_ 0 (-1) wt wy (nI it_) (nI rm) (nI ud) (nI nu) sd (nI qn) (nI qw) qo (nI qb) (nI qp2_29) qa (nI qi) (nI oc))), (g 24, .inl (cI, 6, .inl (l6 u0 u1 u2 u3 u4 u5))), (g 25, .inl (cI, 6, .inl (l6 v0 v1 v2 v3 v4 v5))), (g 26, .inl (cI, 3200, .inl (fun j => nI (cs j)))), (g 31, .inl (cI, 120, .inl nw)), (g 46, .inl (cI, 9, .inl (fun j => nI (pt j)))), (g 86, .inl (cJ, 1700, .inr (.inl ql2_33)))] := hD
                            have hl_36 : v_27 < 10 := by rw [hv_35]; exact kcTen_lt _
                            refine lv_iload hx hb dX12_laysDays_134 (lv_at hl 0 rfl) ?_
                            refine lv_icmp_ne (tgt := 143) hx hb dX12_laysDays_136 (by decide) (fun c_37 => ?_) (fun c_37 => ?_)
                            · have c_37 : ¬ (v_27 = jm) := fun h => c_37 ((neq v_27 jm (by omega) (by omega)).mpr h)
                              refine lv_iconst (v := 0) hx hb dX12_laysDays_143 (by decide) ?_
                              refine sk_zastE (k := (100 * i + (10 * ja) + jm)) (y := 0) (ws' := fun f_38 => [(g 38, .inl (cI, 90, .inl zsb)), (g 36, .inl (cZ, 900, .inl f_25)), (g 37, .inl (cZ, 900, .inl f_38)), (g 20, .inl (cI, 4, .inl (l4 (nI l0) (nI l1) (nI dm) (nI l3)))), (mm, .inr (12, mo g (nI ta) (nI pa) (nI pe) pd (nI pb) pp pf pg pn rt rn (nI cd) sn (nI il) tk2_28 am2_30 at_2_31 aa2_32 mt_ 0 (-1) wt wy (nI it_) (nI rm) (nI ud) (nI nu) sd (nI qn) (nI qw) qo (nI qb) (nI qp2_29) qa (nI qi) (nI oc))), (g 24, .inl (cI, 6, .inl (l6 u0 u1 u2 u3 u4 u5))), (g 25, .inl (cI, 6, .inl (l6 v0 v1 v2 v3 v4 v5))), (g 26, .inl (cI, 3200, .inl (fun j => nI (cs j)))), (g 31, .inl (cI, 120, .inl nw)), (g 46, .inl (cI, 9, .inl (fun j => nI (pt j)))), (g 86, .inl (cJ, 1700, .inr (.inl ql2_33)))]) hx hb hK hP hD hS 2 3 rfl rfl (by omega) (by omega) (fun _ => rfl) rfl dX12_laysDays_144 (fun f_38 H locs ef_39 hP hD hS => ?_)
                              refine lv_iinc (v := nI (jm + 1)) (lv' := [(4, .int (nI (jm + 1))), (3, .int (nI ja)), (2, .int (nI i)), (0, .ref mm), (1, .int (nI li))]) hx hb dX12_laysDays_145 hl (k := 0) rfl (ninc jm 1 (by decide)) (by decide) rfl (fun ls hl => ?_)
                              refine lv_goto (tgt := 57) hx hb dX12_laysDays_148 (by decide) ?_
                              have hP := hP.sub (ws' := [(g 24, .inl (cI, 6, .inl (l6 u0 u1 u2 u3 u4 u5))), (g 25, .inl (cI, 6, .inl (l6 v0 v1 v2 v3 v4 v5))), (g 26, .inl (cI, 3200, .inl (fun j => nI (cs j)))), (g 31, .inl (cI, 120, .inl nw)), (g 46, .inl (cI, 9, .inl (fun j => nI (pt j)))), (g 86, .inl (cJ, 1700, .inr (.inl ql2_33))), (g 38, .inl (cI, 90, .inl zsb)), (g 36, .inl (cZ, 900, .inl f_25)), (g 37, .inl (cZ, 900, .inl f_38)), (mm, .inr (12, mo g (nI ta) (nI pa) (nI pe) pd (nI pb) pp pf pg pn rt rn (nI cd) sn (nI il) tk2_28 am2_30 at_2_31 aa2_32 mt_ 0 (-1) wt wy (nI it_) (nI rm) (nI ud) (nI nu) sd (nI qn) (nI qw) qo (nI qb) (nI qp2_29) qa (nI qi) (nI oc))), (g 20, .inl (cI, 4, .inl (l4 (nI l0) (nI l1) (nI dm) (nI l3))))]) [5, 6, 7, 8, 9, 10, 0, 1, 2, 4, 3] rfl
                              have hD := hD.sub (ws' := [(g 24, .inl (cI, 6, .inl (l6 u0 u1 u2 u3 u4 u5))), (g 25, .inl (cI, 6, .inl (l6 v0 v1 v2 v3 v4 v5))), (g 26, .inl (cI, 3200, .inl (fun j => nI (cs j)))), (g 31, .inl (cI, 120, .inl nw)), (g 46, .inl (cI, 9, .inl (fun j => nI (pt j)))), (g 86, .inl (cJ, 1700, .inr (.inl ql2_33))), (g 38, .inl (cI, 90, .inl zsb)), (g 36, .inl (cZ, 900, .inl f_25)), (g 37, .inl (cZ, 900, .inl f_38)), (mm, .inr (12, mo g (nI ta) (nI pa) (nI pe) pd (nI pb) pp pf pg pn rt rn (nI cd) sn (nI il) tk2_28 am2_30 at_2_31 aa2_32 mt_ 0 (-1) wt wy (nI it_) (nI rm) (nI ud) (nI nu) sd (nI qn) (nI qw) qo (nI qb) (nI qp2_29) qa (nI qi) (nI oc))), (g 20, .inl (cI, 4, .inl (l4 (nI l0) (nI l1) (nI dm) (nI l3))))]) [5, 6, 7, 8, 9, 10, 0, 1, 2, 4, 3] (by decide +kernel) rfl
                              exact ih_lp_11 (jm + 1) ql2_33 f_25 f_38 am2_30 at_2_31 aa2_32 tk2_28 qp2_29 _ _ _ (by omega) (by omega) (mlD_a hmd_ ef_26 ef_39 (by omega)) (mlA_s hmaj ef_26 ef_39 (by omega) (by omega) (kone_f (by rw [← hv_22]; exact c_24)) (kone_f (by rw [← hv_35]; exact c_37))) hP hD hS (lv_sub hl [0, 1, 2, 3, 4] rfl)
                            · have c_37 : v_27 = jm := (neq v_27 jm (by omega) (by omega)).mp c_37
                              refine lv_iconst (v := 1) hx hb dX12_laysDays_139 (by decide) ?_
                              refine lv_goto (tgt := 144) hx hb dX12_laysDays_140 (by decide) ?_
                              refine sk_zastE (k := (100 * i + (10 * ja) + jm)) (y := 1) (ws' := fun f_40 => [(g 38, .inl (cI, 90, .inl zsb)), (g 36, .inl (cZ, 900, .inl f_25)), (g 37, .inl (cZ, 900, .inl f_40)), (g 20, .inl (cI, 4, .inl (l4 (nI l0) (nI l1) (nI dm) (nI l3)))), (mm, .inr (12, mo g (nI ta) (nI pa) (nI pe) pd (nI pb) pp pf pg pn rt rn (nI cd) sn (nI il) tk2_28 am2_30 at_2_31 aa2_32 mt_ 0 (-1) wt wy (nI it_) (nI rm) (nI ud) (nI nu) sd (nI qn) (nI qw) qo (nI qb) (nI qp2_29) qa (nI qi) (nI oc))), (g 24, .inl (cI, 6, .inl (l6 u0 u1 u2 u3 u4 u5))), (g 25, .inl (cI, 6, .inl (l6 v0 v1 v2 v3 v4 v5))), (g 26, .inl (cI, 3200, .inl (fun j => nI (cs j)))), (g 31, .inl (cI, 120, .inl nw)), (g 46, .inl (cI, 9, .inl (fun j => nI (pt j)))), (g 86, .inl (cJ, 1700, .inr (.inl ql2_33)))]) hx hb hK hP hD hS 2 3 rfl rfl (by omega) (by omega) (fun _ => rfl) rfl dX12_laysDays_144 (fun f_40 H locs ef_41 hP hD hS => ?_)
                              refine lv_iinc (v := nI (jm + 1)) (lv' := [(4, .int (nI (jm + 1))), (3, .int (nI ja)), (2, .int (nI i)), (0, .ref mm), (1, .int (nI li))]) hx hb dX12_laysDays_145 hl (k := 0) rfl (ninc jm 1 (by decide)) (by decide) rfl (fun ls hl => ?_)
                              refine lv_goto (tgt := 57) hx hb dX12_laysDays_148 (by decide) ?_
                              have hP := hP.sub (ws' := [(g 24, .inl (cI, 6, .inl (l6 u0 u1 u2 u3 u4 u5))), (g 25, .inl (cI, 6, .inl (l6 v0 v1 v2 v3 v4 v5))), (g 26, .inl (cI, 3200, .inl (fun j => nI (cs j)))), (g 31, .inl (cI, 120, .inl nw)), (g 46, .inl (cI, 9, .inl (fun j => nI (pt j)))), (g 86, .inl (cJ, 1700, .inr (.inl ql2_33))), (g 38, .inl (cI, 90, .inl zsb)), (g 36, .inl (cZ, 900, .inl f_25)), (g 37, .inl (cZ, 900, .inl f_40)), (mm, .inr (12, mo g (nI ta) (nI pa) (nI pe) pd (nI pb) pp pf pg pn rt rn (nI cd) sn (nI il) tk2_28 am2_30 at_2_31 aa2_32 mt_ 0 (-1) wt wy (nI it_) (nI rm) (nI ud) (nI nu) sd (nI qn) (nI qw) qo (nI qb) (nI qp2_29) qa (nI qi) (nI oc))), (g 20, .inl (cI, 4, .inl (l4 (nI l0) (nI l1) (nI dm) (nI l3))))]) [5, 6, 7, 8, 9, 10, 0, 1, 2, 4, 3] rfl
                              have hD := hD.sub (ws' := [(g 24, .inl (cI, 6, .inl (l6 u0 u1 u2 u3 u4 u5))), (g 25, .inl (cI, 6, .inl (l6 v0 v1 v2 v3 v4 v5))), (g 26, .inl (cI, 3200, .inl (fun j => nI (cs j)))), (g 31, .inl (cI, 120, .inl nw)), (g 46, .inl (cI, 9, .inl (fun j => nI (pt j)))), (g 86, .inl (cJ, 1700, .inr (.inl ql2_33))), (g 38, .inl (cI, 90, .inl zsb)), (g 36, .inl (cZ, 900, .inl f_25)), (g 37, .inl (cZ, 900, .inl f_40)), (mm, .inr (12, mo g (nI ta) (nI pa) (nI pe) pd (nI pb) pp pf pg pn rt rn (nI cd) sn (nI il) tk2_28 am2_30 at_2_31 aa2_32 mt_ 0 (-1) wt wy (nI it_) (nI rm) (nI ud) (nI nu) sd (nI qn) (nI qw) qo (nI qb) (nI qp2_29) qa (nI qi) (nI oc))), (g 20, .inl (cI, 4, .inl (l4 (nI l0) (nI l1) (nI dm) (nI l3))))]) [5, 6, 7, 8, 9, 10, 0, 1, 2, 4, 3] (by decide +kernel) rfl
                              exact ih_lp_11 (jm + 1) ql2_33 f_25 f_40 am2_30 at_2_31 aa2_32 tk2_28 qp2_29 _ _ _ (by omega) (by omega) (mlD_a hmd_ ef_26 ef_41 (by omega)) (mlA_s hmaj ef_26 ef_41 (by omega) (by omega) (kone_f (by rw [← hv_22]; exact c_24)) (kone_t (by rw [← hv_35]; exact c_37))) hP hD hS (lv_sub hl [0, 1, 2, 3, 4] rfl)
                          · have c_24 : v_14 = jm := (neq v_14 jm (by omega) (by omega)).mp c_24
                            refine lv_iconst (v := 1) hx hb dX12_laysDays_104 (by decide) ?_
                            refine lv_goto (tgt := 109) hx hb dX12_laysDays_105 (by decide) ?_
                            refine sk_zastE (k := (100 * i + (10 * ja) + jm)) (y := 1) (ws' := fun f_42 => [(g 38, .inl (cI, 90, .inl zsb)), (g 36, .inl (cZ, 900, .inl f_42)), (g 37, .inl (cZ, 900, .inl zod)), (g 20, .inl (cI, 4, .inl (l4 (nI l0) (nI l1) (nI dm) (nI l3)))), (mm, .inr (12, mo g (nI ta) (nI pa) (nI pe) pd (nI pb) pp pf pg pn rt rn (nI cd) sn (nI il) tk2_15 am2_17 at_2_18 aa2_19 mt_ 0 (-1) wt wy (nI it_) (nI rm) (nI ud) (nI nu) sd (nI qn) (nI qw) qo (nI qb) (nI qp2_16) qa (nI qi) (nI oc))), (g 24, .inl (cI, 6, .inl (l6 u0 u1 u2 u3 u4 u5))), (g 25, .inl (cI, 6, .inl (l6 v0 v1 v2 v3 v4 v5))), (g 26, .inl (cI, 3200, .inl (fun j => nI (cs j)))), (g 31, .inl (cI, 120, .inl nw)), (g 46, .inl (cI, 9, .inl (fun j => nI (pt j)))), (g 86, .inl (cJ, 1700, .inr (.inl ql2_20)))]) hx hb hK hP hD hS 1 3 rfl rfl (by omega) (by omega) (fun _ => rfl) rfl dX12_laysDays_109 (fun f_42 H locs ef_43 hP hD hS => ?_)
                            refine lv_aload_n hx hb dX12_laysDays_110 rfl (lv_at hl 3 rfl) ?_
                            refine sk_get (v := .ref (g 37)) (C := RX12) (T := TX12) (N := 92) hx hb hts inlX12 hown hK hP 4 rfl rfl 37 (by decide) w_5_192 rfl dX12_laysDays_111 ?_
                            refine lv_bipush (v := 100) hx hb dX12_laysDays_114 (by decide) ?_
                            refine lv_iload_n hx hb dX12_laysDays_116 rfl (lv_at hl 2 rfl) ?_
                            refine lv_imul hx hb dX12_laysDays_117 ?_
                            refine sk_top (nI (100 * i)) (nmul 100 i) ?_
                            refine lv_bipush (v := 10) hx hb dX12_laysDays_118 (by decide) ?_
                            refine lv_iload_n hx hb dX12_laysDays_120 rfl (lv_at hl 1 rfl) ?_
                            refine lv_imul hx hb dX12_laysDays_121 ?_
                            refine sk_top (nI (10 * ja)) (nmul 10 ja) ?_
                            refine lv_iadd hx hb dX12_laysDays_122 ?_
                            refine sk_top (nI (100 * i + (10 * ja))) (nI_add (100 * i) (10 * ja)) ?_
                            refine lv_iload hx hb dX12_laysDays_123 (lv_at hl 0 rfl) ?_
                            refine lv_iadd hx hb dX12_laysDays_125 ?_
                            refine sk_top (nI (100 * i + (10 * ja) + jm)) (nI_add (100 * i + (10 * ja)) jm) ?_
                            refine lv_aload_n hx hb dX12_laysDays_126 rfl (lv_at hl 3 rfl) ?_
                            refine lv_iload_n hx hb dX12_laysDays_127 rfl (lv_at hl 2 rfl) ?_
                            refine lv_iload_n hx hb dX12_laysDays_128 rfl (lv_at hl 1 rfl) ?_
                            refine lv_iconst (v := 0) hx hb dX12_laysDays_129 (by decide) ?_
                            refine lv_iconst (v := 1) hx hb dX12_laysDays_130 (by decide) ?_
                            refine sk_Vi (q0 := 0) (n := 4) (rest := [.int (nI (100 * i + (10 * ja) + jm)), .ref (g 37)]) (wr := [(g 38, .inl (cI, 90, .inl zsb)), (g 36, .inl (cZ, 900, .inl f_42)), (g 37, .inl (cZ, 900, .inl zod)), (g 20, .inl (cI, 4, .inl (l4 (nI l0) (nI l1) (nI dm) (nI l3))))]) ⟨hx, hb, hml, hown, hts⟩ hl.1 (c_nm_becomesBy1 l D cI cJ cC cZ cS mm g ta pa pe pd pb pp pf pg pn rt rn cd sn il tk2_15 am2_17 at_2_18 aa2_19 mt_ wt wy it_ rm ud nu sd qn qw qo qb qp2_16 qa qi oc i ja 0 u0 u1 u2 u3 u4 u5 v0 v1 v2 v3 v4 v5 cs nw pt ql2_20 L wk (Ba i) (We i) (by omega) (by omega) (by omega) hLk hkl (hmds i (by omega)) hwk (hB9 i) (hW9 i) hmw1 hcs hnw hpt) w_7_176 w_7_178 w_0_81 w_1_14 w_7_179 (by decide +kernel) ⟨⟨(Nat.le_of_ble_eq_true rfl), (Nat.le_of_ble_eq_true rfl)⟩, (Nat.le_of_ble_eq_true rfl), (Nat.le_of_ble_eq_true rfl)⟩ hK hP hD hS hA [4, 5, 6, 7, 8, 9, 10] [0, 1, 2, 3] rfl rfl (by decide +kernel) (by decide +kernel) (by decide +kernel) rfl rfl rfl rfl (Nat.le_of_ble_eq_true rfl) dX12_laysDays_131 (fun r_51 u H locs hw hP hD hS => ?_)
                            obtain ⟨v_44, tk2_45, qp2_46, am2_47, at_2_48, aa2_49, ql2_50, hv_52, rfl, rfl⟩ := hw
                            have hP : va_P D vwCl [(g 38, .inl (cI, 90, .inl zsb)), (g 36, .inl (cZ, 900, .inl f_42)), (g 37, .inl (cZ, 900, .inl zod)), (g 20, .inl (cI, 4, .inl (l4 (nI l0) (nI l1) (nI dm) (nI l3)))), (mm, .inr (12, mo g (nI ta) (nI pa) (nI pe) pd (nI pb) pp pf pg pn rt rn (nI cd) sn (nI il) tk2_45 am2_47 at_2_48 aa2_49 mt_ 0 (-1) wt wy (nI it_) (nI rm) (nI ud) (nI nu) sd (nI qn) (nI qw) qo (nI qb) (nI qp2_46) qa (nI qi) (nI oc))), (g 24, .inl (cI, 6, .inl (l6 u0 u1 u2 u3 u4 u5))), (g 25, .inl (cI, 6, .inl (l6 v0 v1 v2 v3 v4 v5))), (g 26, .inl (cI, 3200, .inl (fun j => nI (cs j)))), (g 31, .inl (cI, 120, .inl nw)), (g 46, .inl (cI, 9, .inl (fun j => nI (pt j)))), (g 86, .inl (cJ, 1700, .inr (.inl ql2_50)))] H := hP
                            have hD : va_D A [(g 38, .inl (cI, 90, .inl zsb)), (g 36, .inl (cZ, 900, .inl f_42)), (g 37, .inl (cZ, 900, .inl zod)), (g 20, .inl (cI, 4, .inl (l4 (nI l0) (nI l1) (nI dm) (nI l3)))), (mm, .inr (12, mo g (nI ta) (nI pa) (nI pe) pd (nI pb) pp pf pg pn rt rn (nI cd) sn (nI il) tk2_45 am2_47 at_2_48 aa2_49 mt_ 0 (-1) wt wy (nI it_) (nI rm) (nI ud) (nI nu) sd (nI qn) (nI qw) qo (nI qb) (nI qp2_46) qa (nI qi) (nI oc))), (g 24, .inl (cI, 6, .inl (l6 u0 u1 u2 u3 u4 u5))), (g 25, .inl (cI, 6, .inl (l6 v0 v1 v2 v3 v4 v5))), (g 26, .inl (cI, 3200, .inl (fun j => nI (cs j)))), (g 31, .inl (cI, 120, .inl nw)), (g 46, .inl (cI, 9, .inl (fun j => nI (pt j)))), (g 86, .inl (cJ, 1700, .inr (.inl ql2_50)))] := hD
                            have hl_53 : v_44 < 10 := by rw [hv_52]; exact kcTen_lt _
                            refine lv_iload hx hb dX12_laysDays_134 (lv_at hl 0 rfl) ?_
                            refine lv_icmp_ne (tgt := 143) hx hb dX12_laysDays_136 (by decide) (fun c_54 => ?_) (fun c_54 => ?_)
                            · have c_54 : ¬ (v_44 = jm) := fun h => c_54 ((neq v_44 jm (by omega) (by omega)).mpr h)
                              refine lv_iconst (v := 0) hx hb dX12_laysDays_143 (by decide) ?_
                              refine sk_zastE (k := (100 * i + (10 * ja) + jm)) (y := 0) (ws' := fun f_55 => [(g 38, .inl (cI, 90, .inl zsb)), (g 36, .inl (cZ, 900, .inl f_42)), (g 37, .inl (cZ, 900, .inl f_55)), (g 20, .inl (cI, 4, .inl (l4 (nI l0) (nI l1) (nI dm) (nI l3)))), (mm, .inr (12, mo g (nI ta) (nI pa) (nI pe) pd (nI pb) pp pf pg pn rt rn (nI cd) sn (nI il) tk2_45 am2_47 at_2_48 aa2_49 mt_ 0 (-1) wt wy (nI it_) (nI rm) (nI ud) (nI nu) sd (nI qn) (nI qw) qo (nI qb) (nI qp2_46) qa (nI qi) (nI oc))), (g 24, .inl (cI, 6, .inl (l6 u0 u1 u2 u3 u4 u5))), (g 25, .inl (cI, 6, .inl (l6 v0 v1 v2 v3 v4 v5))), (g 26, .inl (cI, 3200, .inl (fun j => nI (cs j)))), (g 31, .inl (cI, 120, .inl nw)), (g 46, .inl (cI, 9, .inl (fun j => nI (pt j)))), (g 86, .inl (cJ, 1700, .inr (.inl ql2_50)))]) hx hb hK hP hD hS 2 3 rfl rfl (by omega) (by omega) (fun _ => rfl) rfl dX12_laysDays_144 (fun f_55 H locs ef_56 hP hD hS => ?_)
                              refine lv_iinc (v := nI (jm + 1)) (lv' := [(4, .int (nI (jm + 1))), (3, .int (nI ja)), (2, .int (nI i)), (0, .ref mm), (1, .int (nI li))]) hx hb dX12_laysDays_145 hl (k := 0) rfl (ninc jm 1 (by decide)) (by decide) rfl (fun ls hl => ?_)
                              refine lv_goto (tgt := 57) hx hb dX12_laysDays_148 (by decide) ?_
                              have hP := hP.sub (ws' := [(g 24, .inl (cI, 6, .inl (l6 u0 u1 u2 u3 u4 u5))), (g 25, .inl (cI, 6, .inl (l6 v0 v1 v2 v3 v4 v5))), (g 26, .inl (cI, 3200, .inl (fun j => nI (cs j)))), (g 31, .inl (cI, 120, .inl nw)), (g 46, .inl (cI, 9, .inl (fun j => nI (pt j)))), (g 86, .inl (cJ, 1700, .inr (.inl ql2_50))), (g 38, .inl (cI, 90, .inl zsb)), (g 36, .inl (cZ, 900, .inl f_42)), (g 37, .inl (cZ, 900, .inl f_55)), (mm, .inr (12, mo g (nI ta) (nI pa) (nI pe) pd (nI pb) pp pf pg pn rt rn (nI cd) sn (nI il) tk2_45 am2_47 at_2_48 aa2_49 mt_ 0 (-1) wt wy (nI it_) (nI rm) (nI ud) (nI nu) sd (nI qn) (nI qw) qo (nI qb) (nI qp2_46) qa (nI qi) (nI oc))), (g 20, .inl (cI, 4, .inl (l4 (nI l0) (nI l1) (nI dm) (nI l3))))]) [5, 6, 7, 8, 9, 10, 0, 1, 2, 4, 3] rfl
                              have hD := hD.sub (ws' := [(g 24, .inl (cI, 6, .inl (l6 u0 u1 u2 u3 u4 u5))), (g 25, .inl (cI, 6, .inl (l6 v0 v1 v2 v3 v4 v5))), (g 26, .inl (cI, 3200, .inl (fun j => nI (cs j)))), (g 31, .inl (cI, 120, .inl nw)), (g 46, .inl (cI, 9, .inl (fun j => nI (pt j)))), (g 86, .inl (cJ, 1700, .inr (.inl ql2_50))), (g 38, .inl (cI, 90, .inl zsb)), (g 36, .inl (cZ, 900, .inl f_42)), (g 37, .inl (cZ, 900, .inl f_55)), (mm, .inr (12, mo g (nI ta) (nI pa) (nI pe) pd (nI pb) pp pf pg pn rt rn (nI cd) sn (nI il) tk2_45 am2_47 at_2_48 aa2_49 mt_ 0 (-1) wt wy (nI it_) (nI rm) (nI ud) (nI nu) sd (nI qn) (nI qw) qo (nI qb) (nI qp2_46) qa (nI qi) (nI oc))), (g 20, .inl (cI, 4, .inl (l4 (nI l0) (nI l1) (nI dm) (nI l3))))]) [5, 6, 7, 8, 9, 10, 0, 1, 2, 4, 3] (by decide +kernel) rfl
                              exact ih_lp_11 (jm + 1) ql2_50 f_42 f_55 am2_47 at_2_48 aa2_49 tk2_45 qp2_46 _ _ _ (by omega) (by omega) (mlD_a hmd_ ef_43 ef_56 (by omega)) (mlA_s hmaj ef_43 ef_56 (by omega) (by omega) (kone_t (by rw [← hv_22]; exact c_24)) (kone_f (by rw [← hv_52]; exact c_54))) hP hD hS (lv_sub hl [0, 1, 2, 3, 4] rfl)
                            · have c_54 : v_44 = jm := (neq v_44 jm (by omega) (by omega)).mp c_54
                              refine lv_iconst (v := 1) hx hb dX12_laysDays_139 (by decide) ?_
                              refine lv_goto (tgt := 144) hx hb dX12_laysDays_140 (by decide) ?_
                              refine sk_zastE (k := (100 * i + (10 * ja) + jm)) (y := 1) (ws' := fun f_57 => [(g 38, .inl (cI, 90, .inl zsb)), (g 36, .inl (cZ, 900, .inl f_42)), (g 37, .inl (cZ, 900, .inl f_57)), (g 20, .inl (cI, 4, .inl (l4 (nI l0) (nI l1) (nI dm) (nI l3)))), (mm, .inr (12, mo g (nI ta) (nI pa) (nI pe) pd (nI pb) pp pf pg pn rt rn (nI cd) sn (nI il) tk2_45 am2_47 at_2_48 aa2_49 mt_ 0 (-1) wt wy (nI it_) (nI rm) (nI ud) (nI nu) sd (nI qn) (nI qw) qo (nI qb) (nI qp2_46) qa (nI qi) (nI oc))), (g 24, .inl (cI, 6, .inl (l6 u0 u1 u2 u3 u4 u5))), (g 25, .inl (cI, 6, .inl (l6 v0 v1 v2 v3 v4 v5))), (g 26, .inl (cI, 3200, .inl (fun j => nI (cs j)))), (g 31, .inl (cI, 120, .inl nw)), (g 46, .inl (cI, 9, .inl (fun j => nI (pt j)))), (g 86, .inl (cJ, 1700, .inr (.inl ql2_50)))]) hx hb hK hP hD hS 2 3 rfl rfl (by omega) (by omega) (fun _ => rfl) rfl dX12_laysDays_144 (fun f_57 H locs ef_58 hP hD hS => ?_)
                              refine lv_iinc (v := nI (jm + 1)) (lv' := [(4, .int (nI (jm + 1))), (3, .int (nI ja)), (2, .int (nI i)), (0, .ref mm), (1, .int (nI li))]) hx hb dX12_laysDays_145 hl (k := 0) rfl (ninc jm 1 (by decide)) (by decide) rfl (fun ls hl => ?_)
                              refine lv_goto (tgt := 57) hx hb dX12_laysDays_148 (by decide) ?_
                              have hP := hP.sub (ws' := [(g 24, .inl (cI, 6, .inl (l6 u0 u1 u2 u3 u4 u5))), (g 25, .inl (cI, 6, .inl (l6 v0 v1 v2 v3 v4 v5))), (g 26, .inl (cI, 3200, .inl (fun j => nI (cs j)))), (g 31, .inl (cI, 120, .inl nw)), (g 46, .inl (cI, 9, .inl (fun j => nI (pt j)))), (g 86, .inl (cJ, 1700, .inr (.inl ql2_50))), (g 38, .inl (cI, 90, .inl zsb)), (g 36, .inl (cZ, 900, .inl f_42)), (g 37, .inl (cZ, 900, .inl f_57)), (mm, .inr (12, mo g (nI ta) (nI pa) (nI pe) pd (nI pb) pp pf pg pn rt rn (nI cd) sn (nI il) tk2_45 am2_47 at_2_48 aa2_49 mt_ 0 (-1) wt wy (nI it_) (nI rm) (nI ud) (nI nu) sd (nI qn) (nI qw) qo (nI qb) (nI qp2_46) qa (nI qi) (nI oc))), (g 20, .inl (cI, 4, .inl (l4 (nI l0) (nI l1) (nI dm) (nI l3))))]) [5, 6, 7, 8, 9, 10, 0, 1, 2, 4, 3] rfl
                              have hD := hD.sub (ws' := [(g 24, .inl (cI, 6, .inl (l6 u0 u1 u2 u3 u4 u5))), (g 25, .inl (cI, 6, .inl (l6 v0 v1 v2 v3 v4 v5))), (g 26, .inl (cI, 3200, .inl (fun j => nI (cs j)))), (g 31, .inl (cI, 120, .inl nw)), (g 46, .inl (cI, 9, .inl (fun j => nI (pt j)))), (g 86, .inl (cJ, 1700, .inr (.inl ql2_50))), (g 38, .inl (cI, 90, .inl zsb)), (g 36, .inl (cZ, 900, .inl f_42)), (g 37, .inl (cZ, 900, .inl f_57)), (mm, .inr (12, mo g (nI ta) (nI pa) (nI pe) pd (nI pb) pp pf pg pn rt rn (nI cd) sn (nI il) tk2_45 am2_47 at_2_48 aa2_49 mt_ 0 (-1) wt wy (nI it_) (nI rm) (nI ud) (nI nu) sd (nI qn) (nI qw) qo (nI qb) (nI qp2_46) qa (nI qi) (nI oc))), (g 20, .inl (cI, 4, .inl (l4 (nI l0) (nI l1) (nI dm) (nI l3))))]) [5, 6, 7, 8, 9, 10, 0, 1, 2, 4, 3] (by decide +kernel) rfl
                              exact ih_lp_11 (jm + 1) ql2_50 f_42 f_57 am2_47 at_2_48 aa2_49 tk2_45 qp2_46 _ _ _ (by omega) (by omega) (mlD_a hmd_ ef_43 ef_58 (by omega)) (mlA_s hmaj ef_43 ef_58 (by omega) (by omega) (kone_t (by rw [← hv_22]; exact c_24)) (kone_t (by rw [← hv_52]; exact c_54))) hP hD hS (lv_sub hl [0, 1, 2, 3, 4] rfl)
                    exact lp_11 (10 - 0 + 1) 0 zlc zwc zoc zamc zat_c zaac ztkc zqpc _ _ _ (Nat.lt_succ_self _) (by omega) hmc hma hP hD hS (lv_sub hl [0, 1, 2, 3, 4] rfl)
              exact lp_8 (10 - 0 + 1) 0 zlb zw zo zamb zat_b zaab ztkb zqpb _ _ _ (Nat.lt_succ_self _) (by omega) (show mlS L wk Ba We li i zsb 10 by rw [show 10 = jj by omega]; exact hms) hmb (mlA_0 _ _ _ _ _ _ _ _) hP hD hS (lv_sub hl [0, 1, 2, 3] rfl)
            · have c_7 : ¬ (10 ≤ jj) := fun h => c_7 ((nle 10 jj (by omega) (by omega)).mpr h)
              refine lv_aload_n hx hb dX12_laysDays_18 rfl (lv_at hl 2 rfl) ?_
              refine sk_get (v := .ref (g 38)) (C := RX12) (T := TX12) (N := 92) hx hb hts inlX12 hown hK hP 9 rfl rfl 38 (by decide) w_5_193 rfl dX12_laysDays_19 ?_
              refine lv_bipush (v := 10) hx hb dX12_laysDays_22 (by decide) ?_
              refine lv_iload_n hx hb dX12_laysDays_24 rfl (lv_at hl 1 rfl) ?_
              refine lv_imul hx hb dX12_laysDays_25 ?_
              refine sk_top (nI (10 * i)) (nmul 10 i) ?_
              refine lv_iload_n hx hb dX12_laysDays_26 rfl (lv_at hl 0 rfl) ?_
              refine lv_iadd hx hb dX12_laysDays_27 ?_
              refine sk_top (nI (10 * i + jj)) (nI_add (10 * i) jj) ?_
              refine lv_aload_n hx hb dX12_laysDays_28 rfl (lv_at hl 2 rfl) ?_
              refine lv_iload_n hx hb dX12_laysDays_29 rfl (lv_at hl 1 rfl) ?_
              refine lv_iload_n hx hb dX12_laysDays_30 rfl (lv_at hl 0 rfl) ?_
              refine sk_Vi (q0 := 0) (n := 2) (rest := [.int (nI (10 * i + jj)), .ref (g 38)]) (wr := [(g 38, .inl (cI, 90, .inl zsb)), (g 36, .inl (cZ, 900, .inl zw)), (g 37, .inl (cZ, 900, .inl zo)), (g 20, .inl (cI, 4, .inl (l4 (nI l0) (nI l1) (nI dm) (nI l3))))]) ⟨hx, hb, hml, hown, hts⟩ hl.1 (c_nm_wordOf l D cI cJ cC cZ cS mm g ta pa pe pd pb pp pf pg pn rt rn cd sn il ztkb zamb zat_b zaab mt_ wt wy it_ rm ud nu sd qn qw qo qb zqpb qa qi oc i jj u0 u1 u2 u3 u4 u5 v0 v1 v2 v3 v4 v5 cs nw pt zlb L wk (Ba i) (We i) (by omega) (by omega) hLk hkl (hmds i (by omega)) hwk (hB9 i) (hW9 i) hmw0 hcs hnw hpt) w_7_131 w_7_133 w_0_74 w_1_14 w_7_134 (by decide +kernel) ⟨⟨(Nat.le_of_ble_eq_true rfl), (Nat.le_of_ble_eq_true rfl)⟩, (Nat.le_of_ble_eq_true rfl), (Nat.le_of_ble_eq_true rfl)⟩ hK hP hD hS hA [9, 0, 1, 2, 3, 4, 5] [6, 7, 8, 10] rfl rfl (by decide +kernel) (by decide +kernel) (by decide +kernel) rfl rfl rfl rfl (Nat.le_of_ble_eq_true rfl) dX12_laysDays_31 (fun r_64 u H locs hw hP hD hS => ?_)
              obtain ⟨v_59, tk2_60, qp2_61, am2_62, ql2_63, hv_65, rfl, rfl⟩ := hw
              have hP : va_P D vwCl [(g 38, .inl (cI, 90, .inl zsb)), (g 36, .inl (cZ, 900, .inl zw)), (g 37, .inl (cZ, 900, .inl zo)), (g 20, .inl (cI, 4, .inl (l4 (nI l0) (nI l1) (nI dm) (nI l3)))), (mm, .inr (12, mo g (nI ta) (nI pa) (nI pe) pd (nI pb) pp pf pg pn rt rn (nI cd) sn (nI il) tk2_60 am2_62 zat_b zaab mt_ 0 (-1) wt wy (nI it_) (nI rm) (nI ud) (nI nu) sd (nI qn) (nI qw) qo (nI qb) (nI qp2_61) qa (nI qi) (nI oc))), (g 24, .inl (cI, 6, .inl (l6 u0 u1 u2 u3 u4 u5))), (g 25, .inl (cI, 6, .inl (l6 v0 v1 v2 v3 v4 v5))), (g 26, .inl (cI, 3200, .inl (fun j => nI (cs j)))), (g 31, .inl (cI, 120, .inl nw)), (g 46, .inl (cI, 9, .inl (fun j => nI (pt j)))), (g 86, .inl (cJ, 1700, .inr (.inl ql2_63)))] H := hP
              have hD : va_D A [(g 38, .inl (cI, 90, .inl zsb)), (g 36, .inl (cZ, 900, .inl zw)), (g 37, .inl (cZ, 900, .inl zo)), (g 20, .inl (cI, 4, .inl (l4 (nI l0) (nI l1) (nI dm) (nI l3)))), (mm, .inr (12, mo g (nI ta) (nI pa) (nI pe) pd (nI pb) pp pf pg pn rt rn (nI cd) sn (nI il) tk2_60 am2_62 zat_b zaab mt_ 0 (-1) wt wy (nI it_) (nI rm) (nI ud) (nI nu) sd (nI qn) (nI qw) qo (nI qb) (nI qp2_61) qa (nI qi) (nI oc))), (g 24, .inl (cI, 6, .inl (l6 u0 u1 u2 u3 u4 u5))), (g 25, .inl (cI, 6, .inl (l6 v0 v1 v2 v3 v4 v5))), (g 26, .inl (cI, 3200, .inl (fun j => nI (cs j)))), (g 31, .inl (cI, 120, .inl nw)), (g 46, .inl (cI, 9, .inl (fun j => nI (pt j)))), (g 86, .inl (cJ, 1700, .inr (.inl ql2_63)))] := hD
              have hl_66 : v_59 < 10 := by rw [hv_65]; exact kcTen_lt _
              refine lv_iload_n hx hb dX12_laysDays_34 rfl (lv_at hl 3 rfl) ?_
              refine lv_iadd hx hb dX12_laysDays_35 ?_
              refine sk_top (nI (v_59 + li)) (nI_add v_59 li) ?_
              refine lv_bipush (v := 10) hx hb dX12_laysDays_36 (by decide) ?_
              refine lv_irem hx hb dX12_laysDays_38 (by decide) ?_
              refine sk_top (nI ((v_59 + li) % 10)) (nrem (v_59 + li) 10 (by omega) (by omega) (by omega)) ?_
              refine sk_iastE (k := (10 * i + jj)) (ws' := fun f_67 => [(g 38, .inl (cI, 90, .inl f_67)), (g 36, .inl (cZ, 900, .inl zw)), (g 37, .inl (cZ, 900, .inl zo)), (g 20, .inl (cI, 4, .inl (l4 (nI l0) (nI l1) (nI dm) (nI l3)))), (mm, .inr (12, mo g (nI ta) (nI pa) (nI pe) pd (nI pb) pp pf pg pn rt rn (nI cd) sn (nI il) tk2_60 am2_62 zat_b zaab mt_ 0 (-1) wt wy (nI it_) (nI rm) (nI ud) (nI nu) sd (nI qn) (nI qw) qo (nI qb) (nI qp2_61) qa (nI qi) (nI oc))), (g 24, .inl (cI, 6, .inl (l6 u0 u1 u2 u3 u4 u5))), (g 25, .inl (cI, 6, .inl (l6 v0 v1 v2 v3 v4 v5))), (g 26, .inl (cI, 3200, .inl (fun j => nI (cs j)))), (g 31, .inl (cI, 120, .inl nw)), (g 46, .inl (cI, 9, .inl (fun j => nI (pt j)))), (g 86, .inl (cJ, 1700, .inr (.inl ql2_63)))]) hx hb hK hP hD hS 0 0 rfl rfl (by omega) (by omega) (fun _ => rfl) dX12_laysDays_39 (fun f_67 H locs ef_68 hP hD hS => ?_)
              refine lv_iinc (v := nI (jj + 1)) (lv' := [(3, .int (nI (jj + 1))), (2, .int (nI i)), (0, .ref mm), (1, .int (nI li))]) hx hb dX12_laysDays_40 hl (k := 0) rfl (ninc jj 1 (by decide)) (by decide) rfl (fun ls hl => ?_)
              refine lv_goto (tgt := 12) hx hb dX12_laysDays_43 (by decide) ?_
              have hP := hP.sub (ws' := [(g 24, .inl (cI, 6, .inl (l6 u0 u1 u2 u3 u4 u5))), (g 25, .inl (cI, 6, .inl (l6 v0 v1 v2 v3 v4 v5))), (g 26, .inl (cI, 3200, .inl (fun j => nI (cs j)))), (g 31, .inl (cI, 120, .inl nw)), (g 46, .inl (cI, 9, .inl (fun j => nI (pt j)))), (g 86, .inl (cJ, 1700, .inr (.inl ql2_63))), (g 38, .inl (cI, 90, .inl f_67)), (g 36, .inl (cZ, 900, .inl zw)), (g 37, .inl (cZ, 900, .inl zo)), (mm, .inr (12, mo g (nI ta) (nI pa) (nI pe) pd (nI pb) pp pf pg pn rt rn (nI cd) sn (nI il) tk2_60 am2_62 zat_b zaab mt_ 0 (-1) wt wy (nI it_) (nI rm) (nI ud) (nI nu) sd (nI qn) (nI qw) qo (nI qb) (nI qp2_61) qa (nI qi) (nI oc))), (g 20, .inl (cI, 4, .inl (l4 (nI l0) (nI l1) (nI dm) (nI l3))))]) [5, 6, 7, 8, 9, 10, 0, 1, 2, 4, 3] rfl
              have hD := hD.sub (ws' := [(g 24, .inl (cI, 6, .inl (l6 u0 u1 u2 u3 u4 u5))), (g 25, .inl (cI, 6, .inl (l6 v0 v1 v2 v3 v4 v5))), (g 26, .inl (cI, 3200, .inl (fun j => nI (cs j)))), (g 31, .inl (cI, 120, .inl nw)), (g 46, .inl (cI, 9, .inl (fun j => nI (pt j)))), (g 86, .inl (cJ, 1700, .inr (.inl ql2_63))), (g 38, .inl (cI, 90, .inl f_67)), (g 36, .inl (cZ, 900, .inl zw)), (g 37, .inl (cZ, 900, .inl zo)), (mm, .inr (12, mo g (nI ta) (nI pa) (nI pe) pd (nI pb) pp pf pg pn rt rn (nI cd) sn (nI il) tk2_60 am2_62 zat_b zaab mt_ 0 (-1) wt wy (nI it_) (nI rm) (nI ud) (nI nu) sd (nI qn) (nI qw) qo (nI qb) (nI qp2_61) qa (nI qi) (nI oc))), (g 20, .inl (cI, 4, .inl (l4 (nI l0) (nI l1) (nI dm) (nI l3))))]) [5, 6, 7, 8, 9, 10, 0, 1, 2, 4, 3] (by decide +kernel) rfl
              exact ih_lp_5 (jj + 1) ql2_63 f_67 am2_62 zat_b zaab tk2_60 qp2_61 _ _ _ (by omega) (by omega) (mlD_w hmb ef_68) (mlS_s hms ef_68 hv_65) hP hD hS (lv_sub hl [0, 1, 2, 3] rfl)
        exact lp_5 (10 - 0 + 1) 0 zl zs zam zat_ zaa ztk zqp _ _ _ (Nat.lt_succ_self _) (by omega) hmi (mlS_0 _ _ _ _ _ _ _) hP hD hS (lv_sub hl [0, 1, 2, 3] rfl)
  exact lp_1 (dm - 0 + 1) 0 am at_ aa tk qp ql ws_ yw yo _ _ _ (Nat.lt_succ_self _) (by omega) (mlD_0 _ _ _ _ _ _ _ _) hP hD hS (lv_sub hl [0, 1, 2] rfl)
theorem kcT_lt {w : Nat → Nat} {j y : Nat} (h : y < kcT w (10 - j) j) : j < 10 := Nat.lt_of_not_le (fun q => kcT_e q h)
theorem kW_bk {C : Nat → Nat → Nat → Bool} {n d a m : Nat} (h : C d a m = true) : kcW C n d a m = bk C (n - 1 - d) d m := by
  rw [← gA_W]; unfold gA; rw [if_pos h]
theorem kW_no {C : Nat → Nat → Nat → Bool} {n d a m : Nat} (h : C d a m = false) : kcW C n d a m = 0 := by
  unfold kcW; rw [if_neg (by rw [h]; decide)]
theorem kbk_le (C : Nat → Nat → Nat → Bool) {n : Nat} (h : n ≤ 9) (d m : Nat) : bk C (n - 1 - d) d m ≤ 1000000000 := by
  rw [bk_C]; exact kcC_9 C (by omega) _ _
def mpO (C : Nat → Nat → Nat → Bool) (n a0 x i : Nat) (f : Nat → Nat) : Prop := ∀ d, d < i → f d = kcM C n a0 x d
theorem mp_0 (C : Nat → Nat → Nat → Bool) (n a0 x : Nat) (f : Nat → Nat) : mpO C n a0 x 0 f := fun d hd => absurd hd (Nat.not_lt_zero d)
theorem mp_s {C : Nat → Nat → Nat → Bool} {n a0 x i v : Nat} {f g : Nat → Nat} (h : mpO C n a0 x i f) (e : g = updN f i v) (hv : (kcA C n a0 x (i + 1)).1 = v) : mpO C n a0 x (i + 1) g := fun d hd => by
  by_cases q : d = i
  · subst q; rw [kun_s e, ← hv]; rfl
  · rw [kun_n e q]; exact h d (by omega)
theorem mp_e {C : Nat → Nat → Nat → Bool} {n a0 x i : Nat} {f : Nat → Nat} (h : mpO C n a0 x i f) (e : n = i) : mpO C n a0 x n f := by
  subst e; exact h
theorem klt_m {a b : Nat} (h : ¬ lg_cmp (nL a) (nL b) < 0) (ha : a < 9223372036854775808) (hb : b < 9223372036854775808) : b ≤ a := Nat.le_of_not_lt (fun q => h ((nL_lt ha hb).mpr q))
/-- the week of a number goes by what may follow alone -/
theorem kcA_cg {E F : Nat → Nat → Nat → Bool} {n a0 x : Nat} (h : ∀ d, d < n → ∀ a m, a < 10 → m < 10 → E d a m = F d a m) (h0 : a0 < 10) (hx : x < kcC E n 0 a0) : ∀ d, d ≤ n → kcA E n a0 x d = kcA F n a0 x d
  | 0, _ => rfl
  | d + 1, hd => by
    have ih := kcA_cg h h0 hx d (by omega)
    have h1 := (kcA_ok h0 hx d (by omega)).1
    rw [kcA_s, kcA_s, ← ih]
    have key : ∀ f m y, m + f ≤ 10 → kcP (kcW E n d (kcA E n a0 x d).1) f m y = kcP (kcW F n d (kcA E n a0 x d).1) f m y := by
      intro f
      induction f with
      | zero => intro m y _; rfl
      | succ f ihf =>
        intro m y hm
        have e : kcW E n d (kcA E n a0 x d).1 m = kcW F n d (kcA E n a0 x d).1 m := by
          unfold kcW
          rw [h d (by omega) _ m h1 (by omega), kcC_cg (F := F) (n - (d + 1)) (d + 1) m (fun e h2 h3 a b ha hb => h e (by omega) a b ha hb) (by omega)]
        rw [kcP_s, kcP_s, e, ihf (m + 1) _ (by omega)]
    exact key 10 0 _ (by omega)
set_option maxHeartbeats 4000000 in
set_option maxRecDepth 100000 in
theorem c_nm_walksTo (l : Launch) (D : va_G) (cI cJ cC cZ cS : ClassId) (mm : Nat) (g : Nat → Nat) (ta : Nat) (pa : Nat) (pe : Nat) (pd : Int32) (pb : Nat) (pp : Int32) (pf : Int32) (pg : Int32) (pn : Int32) (rt : Int32) (rn : Int32) (cd : Nat) (sn : Int32) (il : Nat) (tk : Int32) (am : Int32) (at_ : Int32) (aa : Int32) (mt_ : Int32) (wt : Int32) (wy : Int64) (it_ : Nat) (rm : Nat) (ud : Nat) (nu : Nat) (sd : Int64) (qn : Nat) (qw : Nat) (qo : Int32) (qb : Nat) (qp : Nat) (qa : Int64) (qi : Nat) (oc : Nat) (l0 : Nat) (l1 : Nat) (dm : Nat) (l3 : Nat) (nw : Nat → Int32) (yo : Nat → Int32) (yw : Nat → Int32) (be : Nat → Int64) (pt : Nat → Nat) (nz : Nat) (hdm : dm ≤ 9) (hdm1 : 1 ≤ dm) (hbe : beOk (cfN nw yw yo mt_) dm 0 be) (hnu : nz < kcC (cfN nw yw yo mt_) dm 0 (a0N nw)) (hnw : nowOk nw) (hpt : ∀ j, pt j ≤ 9) : skM l yX12_walksTo cX12_walksTo 6 none 3 66 0 0 D (skT cI cJ cC cZ cS) [.ref mm, .long (nL nz)] [(mm, .inr (12, mo g (nI ta) (nI pa) (nI pe) pd (nI pb) pp pf pg pn rt rn (nI cd) sn (nI il) tk am at_ aa mt_ 0 (-1) wt wy (nI it_) (nI rm) (nI ud) (nI nu) sd (nI qn) (nI qw) qo (nI qb) (nI qp) qa (nI qi) (nI oc))), (g 20, .inl (cI, 4, .inl (l4 (nI l0) (nI l1) (nI dm) (nI l3)))), (g 31, .inl (cI, 120, .inl nw)), (g 37, .inl (cZ, 900, .inl yo)), (g 36, .inl (cZ, 900, .inl yw)), (g 43, .inl (cJ, 90, .inr (.inl be))), (g 46, .inl (cI, 9, .inl (fun j => nI (pt j))))] (skV D (skT cI cJ cC cZ cS) (fun (u : va_W) => ∃ (pt2 : Nat → Nat), mpO (cfN nw yw yo mt_) dm (a0N nw) nz dm pt2 ∧ (∀ j, pt2 j ≤ 9) ∧ u = [(mm, .inr (12, mo g (nI ta) (nI pa) (nI pe) pd (nI pb) pp pf pg pn rt rn (nI cd) sn (nI il) tk am at_ aa mt_ 0 (-1) wt wy (nI it_) (nI rm) (nI ud) (nI nu) sd (nI qn) (nI qw) qo (nI qb) (nI qp) qa (nI qi) (nI oc))), (g 20, .inl (cI, 4, .inl (l4 (nI l0) (nI l1) (nI dm) (nI l3)))), (g 31, .inl (cI, 120, .inl nw)), (g 37, .inl (cZ, 900, .inl yo)), (g 36, .inl (cZ, 900, .inl yw)), (g 43, .inl (cJ, 90, .inr (.inl be))), (g 46, .inl (cI, 9, .inl (fun j => nI (pt2 j))))])) := by
  refine skM_of (by decide +kernel) (Nat.le_of_ble_eq_true rfl) ?_
  intro p e s m below meth c A ls E hP hD hl
  obtain ⟨hx, hb, hr, hml, hlocks, hin, hown, hts, hK, hA⟩ := E
  have hown : s.vm.findClass RX12 = some m.cls := hown
  have hS : va_S A s.heap s.heap [] := va_S.rf
  have hl : lv_has ls 6 [(0, .ref mm), (1, .long (nL nz))] := hl
  refine lv_aload_n hx hb dX12_walksTo_0 rfl (lv_at hl 0 rfl) ?_
  refine sk_get (v := .ref (g 31)) (C := RX12) (T := TX12) (N := 92) hx hb hts inlX12 hown hK hP 0 rfl rfl 31 (by decide) w_5_186 rfl dX12_walksTo_1 ?_
  refine lv_iconst (v := 1) hx hb dX12_walksTo_4 (by decide) ?_
  refine va_iald hx hb hK.1 hP 2 0 rfl rfl (by unfold vp_in; decide) dX12_walksTo_5 ?_
  obtain ⟨k_1, hk_1, ek_1⟩ := nowOk_1 hnw
  refine sk_top (nI k_1) ek_1 ?_
  have ha0 := a0_eq ek_1 hk_1
  refine lv_istore_n (lv' := [(3, .int (nI k_1)), (0, .ref mm), (1, .long (nL nz))]) hx hb dX12_walksTo_6 rfl hl (by decide) rfl (fun ls hl => ?_)
  refine lv_iconst (v := 0) hx hb dX12_walksTo_7 (by decide) ?_
  refine lv_istore (lv' := [(4, .int 0), (3, .int (nI k_1)), (0, .ref mm), (1, .long (nL nz))]) hx hb dX12_walksTo_8 hl (by decide) rfl (fun ls hl => ?_)
  have lp_2 : ∀ (n_3 : Nat) (i : Nat) (ah : Nat) (xk : Int64) (zp : Nat → Nat) (H : Heap) (locs : List Loc) (ls : Array Slot), dm - i < n_3 → (∀ j, zp j ≤ 9) → (i ≤ dm) → (ah ≤ 9) → ((kcA (cfN nw yw yo mt_) dm (a0N nw) nz i).1 = ah) → (xk = nL (kcA (cfN nw yw yo mt_) dm (a0N nw) nz i).2) → (mpO (cfN nw yw yo mt_) dm (a0N nw) nz i zp) → va_P D vwCl [(mm, .inr (12, mo g (nI ta) (nI pa) (nI pe) pd (nI pb) pp pf pg pn rt rn (nI cd) sn (nI il) tk am at_ aa mt_ 0 (-1) wt wy (nI it_) (nI rm) (nI ud) (nI nu) sd (nI qn) (nI qw) qo (nI qb) (nI qp) qa (nI qi) (nI oc))), (g 20, .inl (cI, 4, .inl (l4 (nI l0) (nI l1) (nI dm) (nI l3)))), (g 31, .inl (cI, 120, .inl nw)), (g 37, .inl (cZ, 900, .inl yo)), (g 36, .inl (cZ, 900, .inl yw)), (g 43, .inl (cJ, 90, .inr (.inl be))), (g 46, .inl (cI, 9, .inl (fun j => nI (zp j))))] H → va_D A [(mm, .inr (12, mo g (nI ta) (nI pa) (nI pe) pd (nI pb) pp pf pg pn rt rn (nI cd) sn (nI il) tk am at_ aa mt_ 0 (-1) wt wy (nI it_) (nI rm) (nI ud) (nI nu) sd (nI qn) (nI qw) qo (nI qb) (nI qp) qa (nI qi) (nI oc))), (g 20, .inl (cI, 4, .inl (l4 (nI l0) (nI l1) (nI dm) (nI l3)))), (g 31, .inl (cI, 120, .inl nw)), (g 37, .inl (cZ, 900, .inl yo)), (g 36, .inl (cZ, 900, .inl yw)), (g 43, .inl (cJ, 90, .inr (.inl be))), (g 46, .inl (cI, 9, .inl (fun j => nI (zp j))))] → va_S A s.heap H locs → lv_has ls 6 [(4, .int (nI i)), (3, .int (nI ah)), (0, .ref mm), (1, .long xk)] → W p l e { frames := 3, cells := 0, slots := 0, locals := 66 } s m ([.ref mm, .long (nL nz)] : List Value).toArray below meth c H locs 0 0 (MQ below (skV D (skT cI cJ cC cZ cS) (fun (u : va_W) => ∃ (pt2 : Nat → Nat), mpO (cfN nw yw yo mt_) dm (a0N nw) nz dm pt2 ∧ (∀ j, pt2 j ≤ 9) ∧ u = [(mm, .inr (12, mo g (nI ta) (nI pa) (nI pe) pd (nI pb) pp pf pg pn rt rn (nI cd) sn (nI il) tk am at_ aa mt_ 0 (-1) wt wy (nI it_) (nI rm) (nI ud) (nI nu) sd (nI qn) (nI qw) qo (nI qb) (nI qp) qa (nI qi) (nI oc))), (g 20, .inl (cI, 4, .inl (l4 (nI l0) (nI l1) (nI dm) (nI l3)))), (g 31, .inl (cI, 120, .inl nw)), (g 37, .inl (cZ, 900, .inl yo)), (g 36, .inl (cZ, 900, .inl yw)), (g 43, .inl (cJ, 90, .inr (.inl be))), (g 46, .inl (cI, 9, .inl (fun j => nI (pt2 j))))]) A) ([.ref mm, .long (nL nz)] : List Value).toArray s 0 0 A) (F0 m 10 ls []) := by
    intro n_3
    induction n_3 with
    | zero => intro i ah xk zp H locs ls hm; exact absurd hm (Nat.not_lt_zero _)
    | succ n_3 ih_lp_2 =>
      intro i ah xk zp H locs ls hm hzp hi hah haa hxk hrr hP hD hS hl
      refine lv_iload hx hb dX12_walksTo_10 (lv_at hl 0 rfl) ?_
      refine lv_aload_n hx hb dX12_walksTo_12 rfl (lv_at hl 2 rfl) ?_
      refine sk_Vi (q0 := 0) (n := 0) (rest := [.int (nI i)]) (wr := [(g 31, .inl (cI, 120, .inl nw)), (g 37, .inl (cZ, 900, .inl yo)), (g 36, .inl (cZ, 900, .inl yw)), (g 43, .inl (cJ, 90, .inr (.inl be))), (g 46, .inl (cI, 9, .inl (fun j => nI (zp j))))]) ⟨hx, hb, hml, hown, hts⟩ hl.1 (c_m_dayMany l D cI cJ cC cZ cS mm g ta pa pe pd pb pp pf pg pn rt rn cd sn il tk am at_ aa mt_ 0 (-1) wt wy it_ rm ud nu sd qn qw qo qb qp qa qi oc l0 l1 dm l3) w_7_98 w_7_100 w_0_69 w_1_14 w_7_101 (by decide +kernel) ⟨⟨(Nat.le_of_ble_eq_true rfl), (Nat.le_of_ble_eq_true rfl)⟩, (Nat.le_of_ble_eq_true rfl), (Nat.le_of_ble_eq_true rfl)⟩ hK hP hD hS hA [0, 1] [2, 3, 4, 5, 6] rfl rfl (by decide +kernel) (by decide +kernel) (by decide +kernel) rfl rfl rfl rfl (Nat.le_of_ble_eq_true rfl) dX12_walksTo_13 (fun r_4 u H locs hw hP hD hS => ?_)
      obtain ⟨rfl, rfl⟩ := hw
      have hP : va_P D vwCl [(g 31, .inl (cI, 120, .inl nw)), (g 37, .inl (cZ, 900, .inl yo)), (g 36, .inl (cZ, 900, .inl yw)), (g 43, .inl (cJ, 90, .inr (.inl be))), (g 46, .inl (cI, 9, .inl (fun j => nI (zp j)))), (mm, .inr (12, mo g (nI ta) (nI pa) (nI pe) pd (nI pb) pp pf pg pn rt rn (nI cd) sn (nI il) tk am at_ aa mt_ 0 (-1) wt wy (nI it_) (nI rm) (nI ud) (nI nu) sd (nI qn) (nI qw) qo (nI qb) (nI qp) qa (nI qi) (nI oc))), (g 20, .inl (cI, 4, .inl (l4 (nI l0) (nI l1) (nI dm) (nI l3))))] H := hP
      have hD : va_D A [(g 31, .inl (cI, 120, .inl nw)), (g 37, .inl (cZ, 900, .inl yo)), (g 36, .inl (cZ, 900, .inl yw)), (g 43, .inl (cJ, 90, .inr (.inl be))), (g 46, .inl (cI, 9, .inl (fun j => nI (zp j)))), (mm, .inr (12, mo g (nI ta) (nI pa) (nI pe) pd (nI pb) pp pf pg pn rt rn (nI cd) sn (nI il) tk am at_ aa mt_ 0 (-1) wt wy (nI it_) (nI rm) (nI ud) (nI nu) sd (nI qn) (nI qw) qo (nI qb) (nI qp) qa (nI qi) (nI oc))), (g 20, .inl (cI, 4, .inl (l4 (nI l0) (nI l1) (nI dm) (nI l3))))] := hD
      refine lv_icmp_ge (tgt := 104) hx hb dX12_walksTo_16 (by decide) (fun c_5 => ?_) (fun c_5 => ?_)
      · have c_5 : dm ≤ i := (nle dm i (by omega) (by omega)).mp c_5
        have hP := hP.sub (ws' := [(mm, .inr (12, mo g (nI ta) (nI pa) (nI pe) pd (nI pb) pp pf pg pn rt rn (nI cd) sn (nI il) tk am at_ aa mt_ 0 (-1) wt wy (nI it_) (nI rm) (nI ud) (nI nu) sd (nI qn) (nI qw) qo (nI qb) (nI qp) qa (nI qi) (nI oc))), (g 20, .inl (cI, 4, .inl (l4 (nI l0) (nI l1) (nI dm) (nI l3)))), (g 31, .inl (cI, 120, .inl nw)), (g 37, .inl (cZ, 900, .inl yo)), (g 36, .inl (cZ, 900, .inl yw)), (g 43, .inl (cJ, 90, .inr (.inl be))), (g 46, .inl (cI, 9, .inl (fun j => nI (zp j))))]) [5, 6, 0, 1, 2, 3, 4] rfl
        have hD := hD.sub (ws' := [(mm, .inr (12, mo g (nI ta) (nI pa) (nI pe) pd (nI pb) pp pf pg pn rt rn (nI cd) sn (nI il) tk am at_ aa mt_ 0 (-1) wt wy (nI it_) (nI rm) (nI ud) (nI nu) sd (nI qn) (nI qw) qo (nI qb) (nI qp) qa (nI qi) (nI oc))), (g 20, .inl (cI, 4, .inl (l4 (nI l0) (nI l1) (nI dm) (nI l3)))), (g 31, .inl (cI, 120, .inl nw)), (g 37, .inl (cZ, 900, .inl yo)), (g 36, .inl (cZ, 900, .inl yw)), (g 43, .inl (cJ, 90, .inr (.inl be))), (g 46, .inl (cI, 9, .inl (fun j => nI (zp j))))]) [5, 6, 0, 1, 2, 3, 4] (by decide +kernel) rfl
        exact sk_vret hx hb hr hlocks hK hP hD hS (⟨zp, mp_e hrr (by omega), hzp, rfl⟩) (Nat.le_of_ble_eq_true rfl) (Nat.le_of_ble_eq_true rfl) dX12_walksTo_104
      · have c_5 : ¬ (dm ≤ i) := fun h => c_5 ((nle dm i (by omega) (by omega)).mpr h)
        have hok := kcA_ok (by omega) hnu i (by omega)
        refine lv_iconst (v := 0) hx hb dX12_walksTo_19 (by decide) ?_
        refine lv_istore (lv' := [(5, .int 0), (4, .int (nI i)), (3, .int (nI ah)), (0, .ref mm), (1, .long xk)]) hx hb dX12_walksTo_20 hl (by decide) rfl (fun ls hl => ?_)
        have lp_6 : ∀ (n_7 : Nat) (jm : Nat) (xk2 : Int64) (yy : Nat) (H : Heap) (locs : List Loc) (ls : Array Slot), 10 - jm < n_7 → (xk2 = nL yy) → (kcP (kcW (cfN nw yw yo mt_) dm i ah) (10 - jm) jm yy = kcP (kcW (cfN nw yw yo mt_) dm i ah) 10 0 (kcA (cfN nw yw yo mt_) dm (a0N nw) nz i).2) → (yy < kcT (kcW (cfN nw yw yo mt_) dm i ah) (10 - jm) jm) → (jm < 10) → (yy ≤ 10000000000) → va_P D vwCl [(g 31, .inl (cI, 120, .inl nw)), (g 37, .inl (cZ, 900, .inl yo)), (g 36, .inl (cZ, 900, .inl yw)), (g 43, .inl (cJ, 90, .inr (.inl be))), (g 46, .inl (cI, 9, .inl (fun j => nI (zp j)))), (mm, .inr (12, mo g (nI ta) (nI pa) (nI pe) pd (nI pb) pp pf pg pn rt rn (nI cd) sn (nI il) tk am at_ aa mt_ 0 (-1) wt wy (nI it_) (nI rm) (nI ud) (nI nu) sd (nI qn) (nI qw) qo (nI qb) (nI qp) qa (nI qi) (nI oc))), (g 20, .inl (cI, 4, .inl (l4 (nI l0) (nI l1) (nI dm) (nI l3))))] H → va_D A [(g 31, .inl (cI, 120, .inl nw)), (g 37, .inl (cZ, 900, .inl yo)), (g 36, .inl (cZ, 900, .inl yw)), (g 43, .inl (cJ, 90, .inr (.inl be))), (g 46, .inl (cI, 9, .inl (fun j => nI (zp j)))), (mm, .inr (12, mo g (nI ta) (nI pa) (nI pe) pd (nI pb) pp pf pg pn rt rn (nI cd) sn (nI il) tk am at_ aa mt_ 0 (-1) wt wy (nI it_) (nI rm) (nI ud) (nI nu) sd (nI qn) (nI qw) qo (nI qb) (nI qp) qa (nI qi) (nI oc))), (g 20, .inl (cI, 4, .inl (l4 (nI l0) (nI l1) (nI dm) (nI l3))))] → va_S A s.heap H locs → lv_has ls 6 [(5, .int (nI jm)), (4, .int (nI i)), (3, .int (nI ah)), (0, .ref mm), (1, .long xk2)] → W p l e { frames := 3, cells := 0, slots := 0, locals := 66 } s m ([.ref mm, .long (nL nz)] : List Value).toArray below meth c H locs 0 0 (MQ below (skV D (skT cI cJ cC cZ cS) (fun (u : va_W) => ∃ (pt2 : Nat → Nat), mpO (cfN nw yw yo mt_) dm (a0N nw) nz dm pt2 ∧ (∀ j, pt2 j ≤ 9) ∧ u = [(mm, .inr (12, mo g (nI ta) (nI pa) (nI pe) pd (nI pb) pp pf pg pn rt rn (nI cd) sn (nI il) tk am at_ aa mt_ 0 (-1) wt wy (nI it_) (nI rm) (nI ud) (nI nu) sd (nI qn) (nI qw) qo (nI qb) (nI qp) qa (nI qi) (nI oc))), (g 20, .inl (cI, 4, .inl (l4 (nI l0) (nI l1) (nI dm) (nI l3)))), (g 31, .inl (cI, 120, .inl nw)), (g 37, .inl (cZ, 900, .inl yo)), (g 36, .inl (cZ, 900, .inl yw)), (g 43, .inl (cJ, 90, .inr (.inl be))), (g 46, .inl (cI, 9, .inl (fun j => nI (pt2 j))))]) A) ([.ref mm, .long (nL nz)] : List Value).toArray s 0 0 A) (F0 m 22 ls []) := by
          intro n_7
          induction n_7 with
          | zero => intro jm xk2 yy H locs ls hm; exact absurd hm (Nat.not_lt_zero _)
          | succ n_7 ih_lp_6 =>
            intro jm xk2 yy H locs ls hm hx2 hyP hyT hjm hyl hP hD hS hl
            refine lv_aload_n hx hb dX12_walksTo_22 rfl (lv_at hl 3 rfl) ?_
            subst hx2
            have hbl := kbk_le (cfN nw yw yo mt_) hdm i jm
            refine lv_iload hx hb dX12_walksTo_23 (lv_at hl 1 rfl) ?_
            refine lv_iload_n hx hb dX12_walksTo_25 rfl (lv_at hl 2 rfl) ?_
            refine lv_iload hx hb dX12_walksTo_26 (lv_at hl 0 rfl) ?_
            refine sk_Vi (q0 := 0) (n := 3) (rest := []) (wr := [(g 43, .inl (cJ, 90, .inr (.inl be))), (g 46, .inl (cI, 9, .inl (fun j => nI (zp j)))), (g 20, .inl (cI, 4, .inl (l4 (nI l0) (nI l1) (nI dm) (nI l3))))]) ⟨hx, hb, hml, hown, hts⟩ hl.1 (c_m_canFollow0 l D cI cJ cC cZ cS mm g ta pa pe pd pb pp pf pg pn rt rn cd sn il tk am at_ aa mt_ wt wy it_ rm ud nu sd qn qw qo qb qp qa qi oc i ah jm nw yo yw (by omega) (by omega) (by omega) hnw) w_7_201 w_7_203 w_0_85 w_1_14 w_7_204 (by decide +kernel) ⟨⟨(Nat.le_of_ble_eq_true rfl), (Nat.le_of_ble_eq_true rfl)⟩, (Nat.le_of_ble_eq_true rfl), (Nat.le_of_ble_eq_true rfl)⟩ hK hP hD hS hA [5, 0, 1, 2] [3, 4, 6] rfl rfl (by decide +kernel) (by decide +kernel) (by decide +kernel) rfl rfl rfl rfl (Nat.le_of_ble_eq_true rfl) dX12_walksTo_28 (fun r_9 u H locs hw hP hD hS => ?_)
            obtain ⟨b_8, hb1_10, hb2_11, rfl, rfl⟩ := hw
            have hP : va_P D vwCl [(g 43, .inl (cJ, 90, .inr (.inl be))), (g 46, .inl (cI, 9, .inl (fun j => nI (zp j)))), (g 20, .inl (cI, 4, .inl (l4 (nI l0) (nI l1) (nI dm) (nI l3)))), (mm, .inr (12, mo g (nI ta) (nI pa) (nI pe) pd (nI pb) pp pf pg pn rt rn (nI cd) sn (nI il) tk am at_ aa mt_ 0 (-1) wt wy (nI it_) (nI rm) (nI ud) (nI nu) sd (nI qn) (nI qw) qo (nI qb) (nI qp) qa (nI qi) (nI oc))), (g 31, .inl (cI, 120, .inl nw)), (g 37, .inl (cZ, 900, .inl yo)), (g 36, .inl (cZ, 900, .inl yw))] H := hP
            have hD : va_D A [(g 43, .inl (cJ, 90, .inr (.inl be))), (g 46, .inl (cI, 9, .inl (fun j => nI (zp j)))), (g 20, .inl (cI, 4, .inl (l4 (nI l0) (nI l1) (nI dm) (nI l3)))), (mm, .inr (12, mo g (nI ta) (nI pa) (nI pe) pd (nI pb) pp pf pg pn rt rn (nI cd) sn (nI il) tk am at_ aa mt_ 0 (-1) wt wy (nI it_) (nI rm) (nI ud) (nI nu) sd (nI qn) (nI qw) qo (nI qb) (nI qp) qa (nI qi) (nI oc))), (g 31, .inl (cI, 120, .inl nw)), (g 37, .inl (cZ, 900, .inl yo)), (g 36, .inl (cZ, 900, .inl yw))] := hD
            refine lv_if_eq (tgt := 52) hx hb dX12_walksTo_31 (by decide) (fun c_12 => ?_) (fun c_12 => ?_)
            · have c_12 : b_8 = 0 := (neq b_8 0 (by omega) (by omega)).mp c_12
              refine lv_aload_n hx hb dX12_walksTo_52 rfl (lv_at hl 3 rfl) ?_
              refine lv_iload hx hb dX12_walksTo_53 (lv_at hl 1 rfl) ?_
              refine lv_iload_n hx hb dX12_walksTo_55 rfl (lv_at hl 2 rfl) ?_
              refine lv_iload hx hb dX12_walksTo_56 (lv_at hl 0 rfl) ?_
              refine sk_Vi (q0 := 0) (n := 3) (rest := []) (wr := [(g 43, .inl (cJ, 90, .inr (.inl be))), (g 46, .inl (cI, 9, .inl (fun j => nI (zp j)))), (g 20, .inl (cI, 4, .inl (l4 (nI l0) (nI l1) (nI dm) (nI l3))))]) ⟨hx, hb, hml, hown, hts⟩ hl.1 (c_m_canFollow0 l D cI cJ cC cZ cS mm g ta pa pe pd pb pp pf pg pn rt rn cd sn il tk am at_ aa mt_ wt wy it_ rm ud nu sd qn qw qo qb qp qa qi oc i ah jm nw yo yw (by omega) (by omega) (by omega) hnw) w_7_201 w_7_203 w_0_85 w_1_14 w_7_204 (by decide +kernel) ⟨⟨(Nat.le_of_ble_eq_true rfl), (Nat.le_of_ble_eq_true rfl)⟩, (Nat.le_of_ble_eq_true rfl), (Nat.le_of_ble_eq_true rfl)⟩ hK hP hD hS hA [3, 4, 5, 6] [0, 1, 2] rfl rfl (by decide +kernel) (by decide +kernel) (by decide +kernel) rfl rfl rfl rfl (Nat.le_of_ble_eq_true rfl) dX12_walksTo_58 (fun r_14 u H locs hw hP hD hS => ?_)
              obtain ⟨b_13, hb1_15, hb2_16, rfl, rfl⟩ := hw
              have hP : va_P D vwCl [(g 43, .inl (cJ, 90, .inr (.inl be))), (g 46, .inl (cI, 9, .inl (fun j => nI (zp j)))), (g 20, .inl (cI, 4, .inl (l4 (nI l0) (nI l1) (nI dm) (nI l3)))), (mm, .inr (12, mo g (nI ta) (nI pa) (nI pe) pd (nI pb) pp pf pg pn rt rn (nI cd) sn (nI il) tk am at_ aa mt_ 0 (-1) wt wy (nI it_) (nI rm) (nI ud) (nI nu) sd (nI qn) (nI qw) qo (nI qb) (nI qp) qa (nI qi) (nI oc))), (g 31, .inl (cI, 120, .inl nw)), (g 37, .inl (cZ, 900, .inl yo)), (g 36, .inl (cZ, 900, .inl yw))] H := hP
              have hD : va_D A [(g 43, .inl (cJ, 90, .inr (.inl be))), (g 46, .inl (cI, 9, .inl (fun j => nI (zp j)))), (g 20, .inl (cI, 4, .inl (l4 (nI l0) (nI l1) (nI dm) (nI l3)))), (mm, .inr (12, mo g (nI ta) (nI pa) (nI pe) pd (nI pb) pp pf pg pn rt rn (nI cd) sn (nI il) tk am at_ aa mt_ 0 (-1) wt wy (nI it_) (nI rm) (nI ud) (nI nu) sd (nI qn) (nI qw) qo (nI qb) (nI qp) qa (nI qi) (nI oc))), (g 31, .inl (cI, 120, .inl nw)), (g 37, .inl (cZ, 900, .inl yo)), (g 36, .inl (cZ, 900, .inl yw))] := hD
              refine lv_if_eq (tgt := 80) hx hb dX12_walksTo_61 (by decide) (fun c_17 => ?_) (fun c => absurd ((or_1 hb1_15 (fun h => c (by rw [h]; rfl))).symm.trans (or_0 hb1_10 (by omega))) (by decide))
              refine lv_iinc (v := nI (jm + 1)) (lv' := [(5, .int (nI (jm + 1))), (4, .int (nI i)), (3, .int (nI ah)), (0, .ref mm), (1, .long (nL yy))]) hx hb dX12_walksTo_80 hl (k := 0) rfl (ninc jm 1 (by decide)) (by decide) rfl (fun ls hl => ?_)
              refine lv_goto (tgt := 22) hx hb dX12_walksTo_83 (by decide) ?_
              have hP := hP.sub (ws' := [(g 31, .inl (cI, 120, .inl nw)), (g 37, .inl (cZ, 900, .inl yo)), (g 36, .inl (cZ, 900, .inl yw)), (g 43, .inl (cJ, 90, .inr (.inl be))), (g 46, .inl (cI, 9, .inl (fun j => nI (zp j)))), (mm, .inr (12, mo g (nI ta) (nI pa) (nI pe) pd (nI pb) pp pf pg pn rt rn (nI cd) sn (nI il) tk am at_ aa mt_ 0 (-1) wt wy (nI it_) (nI rm) (nI ud) (nI nu) sd (nI qn) (nI qw) qo (nI qb) (nI qp) qa (nI qi) (nI oc))), (g 20, .inl (cI, 4, .inl (l4 (nI l0) (nI l1) (nI dm) (nI l3))))]) [4, 5, 6, 0, 1, 3, 2] rfl
              have hD := hD.sub (ws' := [(g 31, .inl (cI, 120, .inl nw)), (g 37, .inl (cZ, 900, .inl yo)), (g 36, .inl (cZ, 900, .inl yw)), (g 43, .inl (cJ, 90, .inr (.inl be))), (g 46, .inl (cI, 9, .inl (fun j => nI (zp j)))), (mm, .inr (12, mo g (nI ta) (nI pa) (nI pe) pd (nI pb) pp pf pg pn rt rn (nI cd) sn (nI il) tk am at_ aa mt_ 0 (-1) wt wy (nI it_) (nI rm) (nI ud) (nI nu) sd (nI qn) (nI qw) qo (nI qb) (nI qp) qa (nI qi) (nI oc))), (g 20, .inl (cI, 4, .inl (l4 (nI l0) (nI l1) (nI dm) (nI l3))))]) [4, 5, 6, 0, 1, 3, 2] (by decide +kernel) rfl
              exact ih_lp_6 (jm + 1) (nL yy) yy _ _ _ (by omega) rfl (by have e9 := kW_no (n := dm) (or_0 hb1_10 (by omega)); have h9 := kcP_go (w := (kcW (cfN nw yw yo mt_) dm i ah)) (x := yy) hjm (by rw [e9]; omega); rw [e9, Nat.sub_zero] at h9; exact h9.symm.trans hyP) (by have e9 := kW_no (n := dm) (or_0 hb1_10 (by omega)); have h9 := kcT_s (w := (kcW (cfN nw yw yo mt_) dm i ah)) hjm hyT (by rw [e9]; omega); rw [e9, Nat.sub_zero] at h9; exact h9) (kcT_lt (by have e9 := kW_no (n := dm) (or_0 hb1_10 (by omega)); have h9 := kcT_s (w := (kcW (cfN nw yw yo mt_) dm i ah)) hjm hyT (by rw [e9]; omega); rw [e9, Nat.sub_zero] at h9; exact h9)) (by omega) hP hD hS (lv_sub hl [0, 1, 2, 3, 4] rfl)
            · have c_12 : ¬ (b_8 = 0) := fun h => c_12 ((neq b_8 0 (by omega) (by omega)).mpr h)
              refine lv_lload_n hx hb dX12_walksTo_34 rfl (lv_at hl 4 rfl) ?_
              refine lv_aload_n hx hb dX12_walksTo_35 rfl (lv_at hl 3 rfl) ?_
              refine sk_get (v := .ref (g 43)) (C := RX12) (T := TX12) (N := 92) hx hb hts inlX12 hown hK hP 3 rfl rfl 43 (by decide) w_5_198 rfl dX12_walksTo_36 ?_
              refine lv_bipush (v := 10) hx hb dX12_walksTo_39 (by decide) ?_
              refine lv_iload hx hb dX12_walksTo_41 (lv_at hl 1 rfl) ?_
              refine lv_imul hx hb dX12_walksTo_43 ?_
              refine sk_top (nI (10 * i)) (nmul 10 i) ?_
              refine lv_iload hx hb dX12_walksTo_44 (lv_at hl 0 rfl) ?_
              refine lv_iadd hx hb dX12_walksTo_46 ?_
              refine sk_top (nI (10 * i + jm)) (nI_add (10 * i) jm) ?_
              refine va_lald hx hb hK.1 hP 0 1 rfl rfl (vin (10 * i + jm) 90 (by omega) (by omega)) dX12_walksTo_47 ?_
              refine sk_topl (nL (bk (cfN nw yw yo mt_) (dm - 1 - i) i jm)) (be_get hbe (by omega) (by omega) (by omega) (by omega) rfl) ?_
              refine W.lcmp hx hb dX12_walksTo_48 ?_
              refine lv_if_lt (tgt := 86) hx hb dX12_walksTo_49 (by decide) (fun c_18 => ?_) (fun c_18 => ?_)
              · skip
                refine lv_aload_n hx hb dX12_walksTo_86 rfl (lv_at hl 3 rfl) ?_
                refine sk_get (v := .ref (g 46)) (C := RX12) (T := TX12) (N := 92) hx hb hts inlX12 hown hK hP 3 rfl rfl 46 (by decide) w_5_201 rfl dX12_walksTo_87 ?_
                refine lv_iload hx hb dX12_walksTo_90 (lv_at hl 1 rfl) ?_
                refine lv_iload hx hb dX12_walksTo_92 (lv_at hl 0 rfl) ?_
                refine sk_iastNE (k := i) (v := jm) (B := 9) (ws' := fun f_19 => [(g 43, .inl (cJ, 90, .inr (.inl be))), (g 46, .inl (cI, 9, .inl (fun j => nI (f_19 j)))), (g 20, .inl (cI, 4, .inl (l4 (nI l0) (nI l1) (nI dm) (nI l3)))), (mm, .inr (12, mo g (nI ta) (nI pa) (nI pe) pd (nI pb) pp pf pg pn rt rn (nI cd) sn (nI il) tk am at_ aa mt_ 0 (-1) wt wy (nI it_) (nI rm) (nI ud) (nI nu) sd (nI qn) (nI qw) qo (nI qb) (nI qp) qa (nI qi) (nI oc))), (g 31, .inl (cI, 120, .inl nw)), (g 37, .inl (cZ, 900, .inl yo)), (g 36, .inl (cZ, 900, .inl yw))]) hx hb hK hP hD hS 1 0 rfl rfl (by omega) (by omega) hzp (by omega) (fun _ => rfl) dX12_walksTo_94 (fun f_19 H locs hf_21 ef_20 hP hD hS => ?_)
                have hk_22 : kcA (cfN nw yw yo mt_) dm (a0N nw) nz (i + 1) = (jm, yy) := by rw [kcA_s, haa, ← hyP]; exact kcP_at hjm (by rw [kW_bk (n := dm) (or_1 hb1_10 (by omega))]; exact (nL_lt (by omega) (by omega)).mp c_18)
                refine lv_iload hx hb dX12_walksTo_95 (lv_at hl 0 rfl) ?_
                refine lv_istore_n (lv' := [(3, .int (nI jm)), (5, .int (nI jm)), (4, .int (nI i)), (0, .ref mm), (1, .long (nL yy))]) hx hb dX12_walksTo_97 rfl hl (by decide) rfl (fun ls hl => ?_)
                refine lv_iinc (v := nI (i + 1)) (lv' := [(4, .int (nI (i + 1))), (3, .int (nI jm)), (5, .int (nI jm)), (0, .ref mm), (1, .long (nL yy))]) hx hb dX12_walksTo_98 hl (k := 2) rfl (ninc i 1 (by decide)) (by decide) rfl (fun ls hl => ?_)
                refine lv_goto (tgt := 10) hx hb dX12_walksTo_101 (by decide) ?_
                have hP := hP.sub (ws' := [(mm, .inr (12, mo g (nI ta) (nI pa) (nI pe) pd (nI pb) pp pf pg pn rt rn (nI cd) sn (nI il) tk am at_ aa mt_ 0 (-1) wt wy (nI it_) (nI rm) (nI ud) (nI nu) sd (nI qn) (nI qw) qo (nI qb) (nI qp) qa (nI qi) (nI oc))), (g 20, .inl (cI, 4, .inl (l4 (nI l0) (nI l1) (nI dm) (nI l3)))), (g 31, .inl (cI, 120, .inl nw)), (g 37, .inl (cZ, 900, .inl yo)), (g 36, .inl (cZ, 900, .inl yw)), (g 43, .inl (cJ, 90, .inr (.inl be))), (g 46, .inl (cI, 9, .inl (fun j => nI (f_19 j))))]) [3, 2, 4, 5, 6, 0, 1] rfl
                have hD := hD.sub (ws' := [(mm, .inr (12, mo g (nI ta) (nI pa) (nI pe) pd (nI pb) pp pf pg pn rt rn (nI cd) sn (nI il) tk am at_ aa mt_ 0 (-1) wt wy (nI it_) (nI rm) (nI ud) (nI nu) sd (nI qn) (nI qw) qo (nI qb) (nI qp) qa (nI qi) (nI oc))), (g 20, .inl (cI, 4, .inl (l4 (nI l0) (nI l1) (nI dm) (nI l3)))), (g 31, .inl (cI, 120, .inl nw)), (g 37, .inl (cZ, 900, .inl yo)), (g 36, .inl (cZ, 900, .inl yw)), (g 43, .inl (cJ, 90, .inr (.inl be))), (g 46, .inl (cI, 9, .inl (fun j => nI (f_19 j))))]) [3, 2, 4, 5, 6, 0, 1] (by decide +kernel) rfl
                exact ih_lp_2 (i + 1) jm (nL yy) f_19 _ _ _ (by omega) hf_21 (by omega) (by omega) (by rw [hk_22]) (by rw [hk_22]) (mp_s hrr ef_20 (by rw [hk_22])) hP hD hS (lv_sub hl [0, 1, 3, 4] rfl)
              · skip
                refine lv_aload_n hx hb dX12_walksTo_52 rfl (lv_at hl 3 rfl) ?_
                refine lv_iload hx hb dX12_walksTo_53 (lv_at hl 1 rfl) ?_
                refine lv_iload_n hx hb dX12_walksTo_55 rfl (lv_at hl 2 rfl) ?_
                refine lv_iload hx hb dX12_walksTo_56 (lv_at hl 0 rfl) ?_
                refine sk_Vi (q0 := 0) (n := 3) (rest := []) (wr := [(g 43, .inl (cJ, 90, .inr (.inl be))), (g 46, .inl (cI, 9, .inl (fun j => nI (zp j)))), (g 20, .inl (cI, 4, .inl (l4 (nI l0) (nI l1) (nI dm) (nI l3))))]) ⟨hx, hb, hml, hown, hts⟩ hl.1 (c_m_canFollow0 l D cI cJ cC cZ cS mm g ta pa pe pd pb pp pf pg pn rt rn cd sn il tk am at_ aa mt_ wt wy it_ rm ud nu sd qn qw qo qb qp qa qi oc i ah jm nw yo yw (by omega) (by omega) (by omega) hnw) w_7_201 w_7_203 w_0_85 w_1_14 w_7_204 (by decide +kernel) ⟨⟨(Nat.le_of_ble_eq_true rfl), (Nat.le_of_ble_eq_true rfl)⟩, (Nat.le_of_ble_eq_true rfl), (Nat.le_of_ble_eq_true rfl)⟩ hK hP hD hS hA [3, 4, 5, 6] [0, 1, 2] rfl rfl (by decide +kernel) (by decide +kernel) (by decide +kernel) rfl rfl rfl rfl (Nat.le_of_ble_eq_true rfl) dX12_walksTo_58 (fun r_24 u H locs hw hP hD hS => ?_)
                obtain ⟨b_23, hb1_25, hb2_26, rfl, rfl⟩ := hw
                have hP : va_P D vwCl [(g 43, .inl (cJ, 90, .inr (.inl be))), (g 46, .inl (cI, 9, .inl (fun j => nI (zp j)))), (g 20, .inl (cI, 4, .inl (l4 (nI l0) (nI l1) (nI dm) (nI l3)))), (mm, .inr (12, mo g (nI ta) (nI pa) (nI pe) pd (nI pb) pp pf pg pn rt rn (nI cd) sn (nI il) tk am at_ aa mt_ 0 (-1) wt wy (nI it_) (nI rm) (nI ud) (nI nu) sd (nI qn) (nI qw) qo (nI qb) (nI qp) qa (nI qi) (nI oc))), (g 31, .inl (cI, 120, .inl nw)), (g 37, .inl (cZ, 900, .inl yo)), (g 36, .inl (cZ, 900, .inl yw))] H := hP
                have hD : va_D A [(g 43, .inl (cJ, 90, .inr (.inl be))), (g 46, .inl (cI, 9, .inl (fun j => nI (zp j)))), (g 20, .inl (cI, 4, .inl (l4 (nI l0) (nI l1) (nI dm) (nI l3)))), (mm, .inr (12, mo g (nI ta) (nI pa) (nI pe) pd (nI pb) pp pf pg pn rt rn (nI cd) sn (nI il) tk am at_ aa mt_ 0 (-1) wt wy (nI it_) (nI rm) (nI ud) (nI nu) sd (nI qn) (nI qw) qo (nI qb) (nI qp) qa (nI qi) (nI oc))), (g 31, .inl (cI, 120, .inl nw)), (g 37, .inl (cZ, 900, .inl yo)), (g 36, .inl (cZ, 900, .inl yw))] := hD
                refine lv_if_eq (tgt := 80) hx hb dX12_walksTo_61 (by decide) (fun c => absurd ((or_0 hb1_25 ((neq _ 0 (by omega) (by omega)).mp c)).symm.trans (or_1 hb1_10 (by omega))) (by decide)) (fun c_27 => ?_)
                refine lv_lload_n hx hb dX12_walksTo_64 rfl (lv_at hl 4 rfl) ?_
                refine lv_aload_n hx hb dX12_walksTo_65 rfl (lv_at hl 3 rfl) ?_
                refine sk_get (v := .ref (g 43)) (C := RX12) (T := TX12) (N := 92) hx hb hts inlX12 hown hK hP 3 rfl rfl 43 (by decide) w_5_198 rfl dX12_walksTo_66 ?_
                refine lv_bipush (v := 10) hx hb dX12_walksTo_69 (by decide) ?_
                refine lv_iload hx hb dX12_walksTo_71 (lv_at hl 1 rfl) ?_
                refine lv_imul hx hb dX12_walksTo_73 ?_
                refine sk_top (nI (10 * i)) (nmul 10 i) ?_
                refine lv_iload hx hb dX12_walksTo_74 (lv_at hl 0 rfl) ?_
                refine lv_iadd hx hb dX12_walksTo_76 ?_
                refine sk_top (nI (10 * i + jm)) (nI_add (10 * i) jm) ?_
                refine va_lald hx hb hK.1 hP 0 1 rfl rfl (vin (10 * i + jm) 90 (by omega) (by omega)) dX12_walksTo_77 ?_
                refine sk_topl (nL (bk (cfN nw yw yo mt_) (dm - 1 - i) i jm)) (be_get hbe (by omega) (by omega) (by omega) (by omega) rfl) ?_
                refine lv_lsub hx hb dX12_walksTo_78 ?_
                have hge := klt_m c_18 (by omega) (by omega)
                refine sk_topl (nL (yy - bk (cfN nw yw yo mt_) (dm - 1 - i) i jm)) (nL_sub hge) ?_
                refine lv_lstore_n (lv' := [(1, .long (nL (yy - bk (cfN nw yw yo mt_) (dm - 1 - i) i jm))), (5, .int (nI jm)), (4, .int (nI i)), (3, .int (nI ah)), (0, .ref mm)]) hx hb dX12_walksTo_79 rfl hl (by decide) rfl (fun ls hl => ?_)
                refine lv_iinc (v := nI (jm + 1)) (lv' := [(5, .int (nI (jm + 1))), (1, .long (nL (yy - bk (cfN nw yw yo mt_) (dm - 1 - i) i jm))), (4, .int (nI i)), (3, .int (nI ah)), (0, .ref mm)]) hx hb dX12_walksTo_80 hl (k := 1) rfl (ninc jm 1 (by decide)) (by decide) rfl (fun ls hl => ?_)
                refine lv_goto (tgt := 22) hx hb dX12_walksTo_83 (by decide) ?_
                have hP := hP.sub (ws' := [(g 31, .inl (cI, 120, .inl nw)), (g 37, .inl (cZ, 900, .inl yo)), (g 36, .inl (cZ, 900, .inl yw)), (g 43, .inl (cJ, 90, .inr (.inl be))), (g 46, .inl (cI, 9, .inl (fun j => nI (zp j)))), (mm, .inr (12, mo g (nI ta) (nI pa) (nI pe) pd (nI pb) pp pf pg pn rt rn (nI cd) sn (nI il) tk am at_ aa mt_ 0 (-1) wt wy (nI it_) (nI rm) (nI ud) (nI nu) sd (nI qn) (nI qw) qo (nI qb) (nI qp) qa (nI qi) (nI oc))), (g 20, .inl (cI, 4, .inl (l4 (nI l0) (nI l1) (nI dm) (nI l3))))]) [4, 5, 6, 0, 1, 3, 2] rfl
                have hD := hD.sub (ws' := [(g 31, .inl (cI, 120, .inl nw)), (g 37, .inl (cZ, 900, .inl yo)), (g 36, .inl (cZ, 900, .inl yw)), (g 43, .inl (cJ, 90, .inr (.inl be))), (g 46, .inl (cI, 9, .inl (fun j => nI (zp j)))), (mm, .inr (12, mo g (nI ta) (nI pa) (nI pe) pd (nI pb) pp pf pg pn rt rn (nI cd) sn (nI il) tk am at_ aa mt_ 0 (-1) wt wy (nI it_) (nI rm) (nI ud) (nI nu) sd (nI qn) (nI qw) qo (nI qb) (nI qp) qa (nI qi) (nI oc))), (g 20, .inl (cI, 4, .inl (l4 (nI l0) (nI l1) (nI dm) (nI l3))))]) [4, 5, 6, 0, 1, 3, 2] (by decide +kernel) rfl
                exact ih_lp_6 (jm + 1) (nL (yy - bk (cfN nw yw yo mt_) (dm - 1 - i) i jm)) (yy - bk (cfN nw yw yo mt_) (dm - 1 - i) i jm) _ _ _ (by omega) rfl (by have e9 := kW_bk (n := dm) (or_1 hb1_10 (by omega)); have h9 := kcP_go (w := (kcW (cfN nw yw yo mt_) dm i ah)) (x := yy) hjm (by rw [e9]; omega); rw [e9] at h9; exact h9.symm.trans hyP) (by have e9 := kW_bk (n := dm) (or_1 hb1_10 (by omega)); have h9 := kcT_s (w := (kcW (cfN nw yw yo mt_) dm i ah)) hjm hyT (by rw [e9]; exact hge); rw [e9] at h9; exact h9) (kcT_lt (by have e9 := kW_bk (n := dm) (or_1 hb1_10 (by omega)); have h9 := kcT_s (w := (kcW (cfN nw yw yo mt_) dm i ah)) hjm hyT (by rw [e9]; exact hge); rw [e9] at h9; exact h9)) (by omega) hP hD hS (lv_sub hl [0, 2, 3, 4, 1] rfl)
        exact lp_6 (10 - 0 + 1) 0 xk ((kcA (cfN nw yw yo mt_) dm (a0N nw) nz i).2) _ _ _ (Nat.lt_succ_self _) hxk rfl (by have h9 := hok.2; rw [haa, ← kcW_S (show i < dm by omega), ← kcT_10] at h9; exact h9) (kcT_lt (by have h9 := hok.2; rw [haa, ← kcW_S (show i < dm by omega), ← kcT_10] at h9; exact h9)) (by have := kcC_9 (cfN nw yw yo mt_) (show dm - i ≤ 9 by omega) i (kcA (cfN nw yw yo mt_) dm (a0N nw) nz i).1; have h5 := hok.2; omega) hP hD hS (lv_sub hl [0, 1, 2, 3, 4] rfl)
  exact lp_2 (dm - 0 + 1) 0 k_1 (nL nz) pt _ _ _ (Nat.lt_succ_self _) hpt (by omega) (by omega) (show (a0N nw) = _ from ha0.symm) rfl (mp_0 _ _ _ _ _) hP hD hS (lv_sub hl [0, 1, 2, 3] rfl)
/-! the reference's state -/
def nwX (wn mo : Nat) (Ba We : Nat → Nat) (U : Nat → Bool) (ke : Nat) (lg : KLg) (f : Nat → Int32) : Prop := mo ≤ 9 ∧ f 0 = nI wn ∧ f 1 = nI mo ∧ (∀ d, d < 9 → f (2 + 3 * d) = nI (Ba d) ∧ f (2 + 3 * d + 1) = nI (We d) ∧ f (2 + 3 * d + 2) = (if U d = true then 1 else 0)) ∧ f 29 = nI (min ke 30) ∧ ∀ i, i < min ke 30 → f (30 + 3 * i) = nI (lg (ke - min ke 30 + i)).1 ∧ f (30 + 3 * i + 1) = nI (lg (ke - min ke 30 + i)).2.1 ∧ f (30 + 3 * i + 2) = nI (lg (ke - min ke 30 + i)).2.2
section KwX
variable {wn mo ke : Nat} {Ba We : Nat → Nat} {U : Nat → Bool} {lg : KLg} {f g : Nat → Int32}
theorem nwX_ok (h : nwX wn mo Ba We U ke lg f) : nowOk f := ⟨⟨mo, h.1, h.2.2.1⟩, ⟨min ke 30, by omega, h.2.2.2.2.1⟩⟩
theorem nwX_0 (h : nwX wn mo Ba We U ke lg f) : f (0 : Int32).toNatClampNeg = nI wn := h.2.1
theorem nwX_1 (h : nwX wn mo Ba We U ke lg f) : f (1 : Int32).toNatClampNeg = nI mo := h.2.2.1
theorem nwX_29 (h : nwX wn mo Ba We U ke lg f) : f (29 : Int32).toNatClampNeg = nI (min ke 30) := h.2.2.2.2.1
theorem nwX_b (h : nwX wn mo Ba We U ke lg f) {d : Nat} (hd : d < 9) : f (2 + 3 * d) = nI (Ba d) := (h.2.2.2.1 d hd).1
theorem nwX_w (h : nwX wn mo Ba We U ke lg f) {d : Nat} (hd : d < 9) : f (2 + 3 * d + 1) = nI (We d) := (h.2.2.2.1 d hd).2.1
theorem nwX_m (h : nwX wn mo Ba We U ke lg f) {d : Nat} (hd : d < 9) : f (2 + 3 * d + 2) = (if U d = true then 1 else 0) := (h.2.2.2.1 d hd).2.2
theorem nwX_m1 (h : nwX wn mo Ba We U ke lg f) {d : Nat} (hd : d < 9) : f (nI (2 + 3 * d + 2)).toNatClampNeg = 1 ↔ U d = true := by
  rw [nI_clamp (by omega), nwX_m h hd]
  by_cases q : U d = true
  · rw [if_pos q]; exact ⟨fun _ => q, fun _ => rfl⟩
  · rw [if_neg q]; exact ⟨fun e => absurd e (by decide), fun e => absurd e q⟩
theorem nwX_md (h : nwX wn mo Ba We U ke lg f) {d : Nat} (hd : d < 9) : mdO f wn (Ba d) (We d) d := ⟨h.2.1, nwX_b h hd, nwX_w h hd⟩
theorem nwX_a0 (h : nwX wn mo Ba We U ke lg f) : a0N f = mo := by
  have h1 := (h.2.2.1)
  unfold a0N
  rw [h1]
  exact nI_clamp (by have := h.1; omega)
theorem nwX_mt (h : nwX wn mo Ba We U ke lg f) {d : Nat} (hd : d < 9) : mtN f 0 d = U d := by
  have e0 : (0 : Int32) >>> (nI d &&& 31) &&& 1 = 0 := by
    have h1 : ∀ d, d < 9 → (0 : Int32) >>> (nI d &&& 31) &&& 1 = 0 := by decide +kernel
    exact h1 d hd
  have h1 := nwX_m1 h hd
  unfold mtN
  rw [e0]
  cases hu : U d with
  | true => rw [h1.mpr hu]; rfl
  | false =>
    have h2 : ¬ f (nI (2 + 3 * d + 2)).toNatClampNeg = 1 := fun q => by rw [h1.mp q] at hu; cases hu
    rw [decide_eq_false h2]
    rfl
end KwX
/-- the ways that may be are those of the class -/
theorem cfX {L : LkS} {wn mo ke dm : Nat} {Ba We : Nat → Nat} {U : Nat → Bool} {lg : KLg} {nw ws yw yo : Nat → Int32} (h : nwX wn mo Ba We U ke lg nw) (hm : mlD L wn Ba We 0 dm ws yw yo) (hd : dm ≤ 9) : ∀ d, d < dm → ∀ a m, a < 10 → m < 10 → cfN nw yw yo 0 d a m = kcFo L wn Ba We U 0 d a m := fun d h1 a m ha hm2 => cf_Fo hm hd (fun d h2 => nwX_mt h (by omega)) h1 ha hm2
theorem wyX {C E : Nat → Nat → Nat → Bool} {nw : Nat → Int32} {dm mo : Nat} (h : ∀ d, d < dm → ∀ a m, a < 10 → m < 10 → C d a m = E d a m) (h1 : 1 ≤ dm) (ha : a0N nw = mo) (hmo : mo ≤ 9) : wys C (a0N nw) (dm - 1) = kcC E dm 0 mo := by
  rw [wys_C C _ h1, ha]
  exact kcC_cg dm 0 mo (fun e _ h2 x m hx hm => h e (by omega) x m hx hm) (by omega)
theorem mpX {C E : Nat → Nat → Nat → Bool} {nw : Nat → Int32} {dm mo x : Nat} {f : Nat → Nat} (h : ∀ d, d < dm → ∀ a m, a < 10 → m < 10 → C d a m = E d a m) (ha : a0N nw = mo) (hmo : mo ≤ 9) (hx : x < kcC E dm 0 mo) (hp : mpO C dm (a0N nw) x dm f) : ∀ d, d < dm → f d = kcM E dm mo x d := fun d hd => by
  have e1 : kcC C dm 0 mo = kcC E dm 0 mo := kcC_cg dm 0 mo (fun e _ h2 x m hx hm => h e (by omega) x m hx hm) (by omega)
  rw [hp d hd, ha]
  unfold kcM
  rw [kcA_cg h (by omega) (by rw [e1]; exact hx) (d + 1) (by omega)]
theorem nuX {C E : Nat → Nat → Nat → Bool} {nw : Nat → Int32} {dm mo x : Nat} (h : ∀ d, d < dm → ∀ a m, a < 10 → m < 10 → C d a m = E d a m) (ha : a0N nw = mo) (hmo : mo ≤ 9) (hx : x < kcC E dm 0 mo) : x < kcC C dm 0 (a0N nw) := by
  rw [ha, kcC_cg (F := E) dm 0 mo (fun e _ h2 x m hx hm => h e (by omega) x m hx hm) (by omega)]
  exact hx
/-! a number of now becomes another one -/
section KwU
variable {wn mo ke : Nat} {Ba We : Nat → Nat} {U : Nat → Bool} {lg : KLg} {f g : Nat → Int32}
theorem nwX_up0 {v : Nat} (h : nwX wn mo Ba We U ke lg f) (e : g = upd f 0 (nI v)) : nwX v mo Ba We U ke lg g := by
  obtain ⟨h1, h2, h3, h4, h5, h6⟩ := h
  exact ⟨h1, kui_s e, by rw [kui_n e (by omega), h3], fun d hd => by rw [kui_n e (by omega), kui_n e (by omega), kui_n e (by omega)]; exact h4 d hd, by rw [kui_n e (by omega), h5], fun i hi => by rw [kui_n e (by omega), kui_n e (by omega), kui_n e (by omega)]; exact h6 i hi⟩
theorem nwX_up1 {v : Nat} (h : nwX wn mo Ba We U ke lg f) (e : g = upd f 1 (nI v)) (hv : v ≤ 9) : nwX wn v Ba We U ke lg g := by
  obtain ⟨h1, h2, h3, h4, h5, h6⟩ := h
  exact ⟨hv, by rw [kui_n e (by omega), h2], kui_s e, fun d hd => by rw [kui_n e (by omega), kui_n e (by omega), kui_n e (by omega)]; exact h4 d hd, by rw [kui_n e (by omega), h5], fun i hi => by rw [kui_n e (by omega), kui_n e (by omega), kui_n e (by omega)]; exact h6 i hi⟩
theorem nwX_upb {d v : Nat} (h : nwX wn mo Ba We U ke lg f) (e : g = upd f (2 + 3 * d) (nI v)) (hd : d < 9) : nwX wn mo (updG Ba d v) We U ke lg g := by
  obtain ⟨h1, h2, h3, h4, h5, h6⟩ := h
  refine ⟨h1, by rw [kui_n e (by omega), h2], by rw [kui_n e (by omega), h3], fun j hj => ?_, by rw [kui_n e (by omega), h5], fun i hi => by rw [kui_n e (by omega), kui_n e (by omega), kui_n e (by omega)]; exact h6 i hi⟩
  rw [kui_n e (show ¬ 2 + 3 * j + 1 = 2 + 3 * d by omega), kui_n e (show ¬ 2 + 3 * j + 2 = 2 + 3 * d by omega)]
  refine ⟨?_, (h4 j hj).2⟩
  unfold updG
  by_cases q : j = d
  · subst q; rw [if_pos rfl, kui_s e]
  · rw [if_neg q, kui_n e (by omega)]; exact (h4 j hj).1
theorem nwX_upw {d v : Nat} (h : nwX wn mo Ba We U ke lg f) (e : g = upd f (2 + 3 * d + 1) (nI v)) (hd : d < 9) : nwX wn mo Ba (updG We d v) U ke lg g := by
  obtain ⟨h1, h2, h3, h4, h5, h6⟩ := h
  refine ⟨h1, by rw [kui_n e (by omega), h2], by rw [kui_n e (by omega), h3], fun j hj => ?_, by rw [kui_n e (by omega), h5], fun i hi => by rw [kui_n e (by omega), kui_n e (by omega), kui_n e (by omega)]; exact h6 i hi⟩
  rw [kui_n e (show ¬ 2 + 3 * j = 2 + 3 * d + 1 by omega), kui_n e (show ¬ 2 + 3 * j + 2 = 2 + 3 * d + 1 by omega)]
  refine ⟨(h4 j hj).1, ?_, (h4 j hj).2.2⟩
  unfold updG
  by_cases q : j = d
  · subst q; rw [if_pos rfl, kui_s e]
  · rw [if_neg q, kui_n e (by omega)]; exact (h4 j hj).2.1
theorem nwX_upm {d : Nat} {b : Bool} {x : Int32} (h : nwX wn mo Ba We U ke lg f) (e : g = upd f (2 + 3 * d + 2) x) (hx : x = if b = true then 1 else 0) (hd : d < 9) : nwX wn mo Ba We (updG U d b) ke lg g := by
  obtain ⟨h1, h2, h3, h4, h5, h6⟩ := h
  refine ⟨h1, by rw [kui_n e (by omega), h2], by rw [kui_n e (by omega), h3], fun j hj => ?_, by rw [kui_n e (by omega), h5], fun i hi => by rw [kui_n e (by omega), kui_n e (by omega), kui_n e (by omega)]; exact h6 i hi⟩
  rw [kui_n e (show ¬ 2 + 3 * j = 2 + 3 * d + 2 by omega), kui_n e (show ¬ 2 + 3 * j + 1 = 2 + 3 * d + 2 by omega)]
  refine ⟨(h4 j hj).1, (h4 j hj).2.1, ?_⟩
  unfold updG
  by_cases q : j = d
  · subst q; rw [if_pos rfl, kui_s e, hx]
  · rw [if_neg q, kui_n e (by omega)]; exact (h4 j hj).2.2
/-! the log: thirty are told -/
/-- the first thirty-one weeks but one, shifted: weeks from i on stand as they were -/
def nwS (wn mo : Nat) (Ba We : Nat → Nat) (U : Nat → Bool) (ke : Nat) (lg : KLg) (i : Nat) (f : Nat → Int32) : Prop := mo ≤ 9 ∧ f 0 = nI wn ∧ f 1 = nI mo ∧ (∀ d, d < 9 → f (2 + 3 * d) = nI (Ba d) ∧ f (2 + 3 * d + 1) = nI (We d) ∧ f (2 + 3 * d + 2) = (if U d = true then 1 else 0)) ∧ f 29 = nI 30 ∧ ∃ h : Nat → Int32, nwX wn mo Ba We U ke lg h ∧ (∀ k, 30 ≤ k → k < i → f k = h (k + 3)) ∧ ∀ k, i ≤ k → k < 120 → f k = h k
theorem nwS_0 (h : nwX wn mo Ba We U ke lg f) (hk : 30 ≤ ke) : nwS wn mo Ba We U ke lg 30 f := by
  have h0 := h
  obtain ⟨h1, h2, h3, h4, h5, h6⟩ := h
  exact ⟨h1, h2, h3, h4, by rw [h5, Nat.min_eq_right hk], f, h0, fun k h7 h8 => absurd h7 (by omega), fun k _ _ => rfl⟩
theorem nwS_s {i : Nat} {x : Int32} (h : nwS wn mo Ba We U ke lg i f) (e : g = upd f i x) (hx : x = f (i + 3)) (h30 : 30 ≤ i) (hi : i < 117) : nwS wn mo Ba We U ke lg (i + 1) g := by
  obtain ⟨h1, h2, h3, h4, h5, z, h6, h7, h8⟩ := h
  refine ⟨h1, by rw [kui_n e (by omega), h2], by rw [kui_n e (by omega), h3], fun d hd => by rw [kui_n e (by omega), kui_n e (by omega), kui_n e (by omega)]; exact h4 d hd, by rw [kui_n e (by omega), h5], z, h6, fun k a b => ?_, fun k a b => by rw [kui_n e (by omega)]; exact h8 k (by omega) b⟩
  by_cases q : k = i
  · subst q; rw [kui_s e, hx, h8 (k + 3) (by omega) (by omega)]
  · rw [kui_n e q]; exact h7 k a (by omega)
/-- now with a place for one more -/
def nwT (wn mo : Nat) (Ba We : Nat → Nat) (U : Nat → Bool) (ke : Nat) (lg : KLg) (f : Nat → Int32) : Prop := mo ≤ 9 ∧ f 0 = nI wn ∧ f 1 = nI mo ∧ (∀ d, d < 9 → f (2 + 3 * d) = nI (Ba d) ∧ f (2 + 3 * d + 1) = nI (We d) ∧ f (2 + 3 * d + 2) = (if U d = true then 1 else 0)) ∧ f 29 = nI (min (ke + 1) 30) ∧ ∀ i, i + 1 < min (ke + 1) 30 → f (30 + 3 * i) = nI (lg (ke + 1 - min (ke + 1) 30 + i)).1 ∧ f (30 + 3 * i + 1) = nI (lg (ke + 1 - min (ke + 1) 30 + i)).2.1 ∧ f (30 + 3 * i + 2) = nI (lg (ke + 1 - min (ke + 1) 30 + i)).2.2
theorem nwT_of (h : nwS wn mo Ba We U ke lg 117 f) (hk : 30 ≤ ke) : nwT wn mo Ba We U ke lg f := by
  obtain ⟨h1, h2, h3, h4, h5, z, h6, h7, h8⟩ := h
  refine ⟨h1, h2, h3, h4, by rw [h5, Nat.min_eq_right (by omega)], fun i hi => ?_⟩
  have h9 := h6.2.2.2.2.2 (i + 1) (by omega)
  rw [h7 _ (by omega) (by omega), h7 _ (by omega) (by omega), h7 _ (by omega) (by omega), show ke + 1 - min (ke + 1) 30 + i = ke - min ke 30 + (i + 1) by omega]
  rw [show 30 + 3 * i + 3 = 30 + 3 * (i + 1) by omega, show 30 + 3 * i + 1 + 3 = 30 + 3 * (i + 1) + 1 by omega, show 30 + 3 * i + 2 + 3 = 30 + 3 * (i + 1) + 2 by omega]
  exact h9
theorem nwT_up {x : Int32} (h : nwX wn mo Ba We U ke lg f) (e : g = upd f 29 x) (hx : x = nI (min ke 30 + 1)) (hk : ke < 30) : nwT wn mo Ba We U ke lg g := by
  obtain ⟨h1, h2, h3, h4, h5, h6⟩ := h
  refine ⟨h1, by rw [kui_n e (by omega), h2], by rw [kui_n e (by omega), h3], fun d hd => by rw [kui_n e (by omega), kui_n e (by omega), kui_n e (by omega)]; exact h4 d hd, by rw [kui_s e, hx, show min ke 30 + 1 = min (ke + 1) 30 by omega], fun i hi => ?_⟩
  rw [kui_n e (by omega), kui_n e (by omega), kui_n e (by omega), show ke + 1 - min (ke + 1) 30 + i = ke - min ke 30 + i by omega]
  exact h6 i (by omega)
theorem nwT_29 (h : nwT wn mo Ba We U ke lg f) : f (29 : Int32).toNatClampNeg = nI (min (ke + 1) 30) := h.2.2.2.2.1
theorem nwT_0 (h : nwT wn mo Ba We U ke lg f) : f (0 : Int32).toNatClampNeg = nI wn := h.2.1
/-- the newest week is told -/
theorem nwT_3 {g1 g2 g3 : Nat → Int32} {k a b c : Nat} (h : nwT wn mo Ba We U ke lg f) (e1 : g1 = upd f k (nI a)) (e2 : g2 = upd g1 (k + 1) (nI b)) (e3 : g3 = upd g2 (k + 2) (nI c)) (hk : k = 30 + 3 * min (ke + 1) 30 - 3) : nwX wn mo Ba We U (ke + 1) (updG lg ke (a, b, c)) g3 := by
  obtain ⟨h1, h2, h3, h4, h5, h6⟩ := h
  have hn : ∀ j, ¬ j = k → ¬ j = k + 1 → ¬ j = k + 2 → g3 j = f j := fun j q1 q2 q3 => by rw [kui_n e3 q3, kui_n e2 q2, kui_n e1 q1]
  refine ⟨h1, by rw [hn 0 (by omega) (by omega) (by omega), h2], by rw [hn 1 (by omega) (by omega) (by omega), h3], fun d hd => by rw [hn _ (by omega) (by omega) (by omega), hn _ (by omega) (by omega) (by omega), hn _ (by omega) (by omega) (by omega)]; exact h4 d hd, by rw [hn 29 (by omega) (by omega) (by omega), h5], fun i hi => ?_⟩
  unfold updG
  by_cases q : ke + 1 - min (ke + 1) 30 + i = ke
  · rw [if_pos q]
    have ei : i = min (ke + 1) 30 - 1 := by omega
    have ek : 30 + 3 * i = k := by omega
    rw [ek]
    refine ⟨?_, ?_, ?_⟩
    · rw [kui_n e3 (by omega), kui_n e2 (by omega), kui_s e1]
    · rw [kui_n e3 (by omega), kui_s e2]
    · rw [kui_s e3]
  · rw [if_neg q, hn _ (by omega) (by omega) (by omega), hn _ (by omega) (by omega) (by omega), hn _ (by omega) (by omega) (by omega)]
    exact h6 i (by omega)
end KwU
/-! saved states -/
abbrev nwN (n : KN) (lg : KLg) (f : Nat → Int32) : Prop := nwX (nWk n) (nMo n) (nBa n) (nWe n) (nMu n) (nKe n) lg f
def kpX (ac nu : Nat) (su : Nat → KN) (lg : KLg) (kp : Nat → Int32) : Prop := ∀ j, j < ac → nwN (su j) lg (fun k => kp (120 * ((nu + 21 + j - ac) % 20) + k))
theorem nwX_lg {wn mo ke k : Nat} {Ba We : Nat → Nat} {U : Nat → Bool} {lg : KLg} {f : Nat → Int32} {x : Nat × Nat × Nat} (h : nwX wn mo Ba We U ke lg f) (hk : ke ≤ k) : nwX wn mo Ba We U ke (updG lg k x) f := by
  obtain ⟨h1, h2, h3, h4, h5, h6⟩ := h
  refine ⟨h1, h2, h3, h4, h5, fun i hi => ?_⟩
  unfold updG
  rw [if_neg (by omega)]
  exact h6 i hi
theorem kpX_lg {ac nu k : Nat} {su : Nat → KN} {lg : KLg} {kp : Nat → Int32} {x : Nat × Nat × Nat} (h : kpX ac nu su lg kp) (hk : ∀ j, j < ac → nKe (su j) ≤ k) : kpX ac nu su (updG lg k x) kp := fun j hj => nwX_lg (h j hj) (hk j hj)
theorem nwX_cg {wn mo ke : Nat} {Ba We : Nat → Nat} {U : Nat → Bool} {lg : KLg} {f g : Nat → Int32} (h : nwX wn mo Ba We U ke lg f) (e : ∀ k, k < 120 → g k = f k) : nwX wn mo Ba We U ke lg g := by
  obtain ⟨h1, h2, h3, h4, h5, h6⟩ := h
  exact ⟨h1, by rw [e 0 (by omega), h2], by rw [e 1 (by omega), h3], fun d hd => by rw [e _ (by omega), e _ (by omega), e _ (by omega)]; exact h4 d hd, by rw [e 29 (by omega), h5], fun i hi => by rw [e _ (by omega), e _ (by omega), e _ (by omega)]; exact h6 i hi⟩
theorem kpX_push {ac nu : Nat} {n : KN} {su : Nat → KN} {lg : KLg} {kp kq nw : Nat → Int32} (h : kpX ac nu su lg kp) (hn : nwN n lg nw) (hnu : nu < 20) (hac : ac ≤ 20) (e1 : ∀ k, k < 120 → kq (120 * ((nu + 1) % 20) + k) = nw k) (e2 : ∀ j, j < 120 * ((nu + 1) % 20) ∨ 120 * ((nu + 1) % 20) + 120 ≤ j → kq j = kp j) : kpX (min (ac + 1) 20) ((nu + 1) % 20) (psh ac su n) lg kq := fun j hj => by
  by_cases q : ac < 20
  · unfold psh
    rw [if_pos q]
    unfold updG
    by_cases e : j = ac
    · rw [if_pos e]
      refine nwX_cg hn (fun k hk => ?_)
      show kq (120 * (((nu + 1) % 20 + 21 + j - min (ac + 1) 20) % 20) + k) = nw k
      rw [show ((nu + 1) % 20 + 21 + j - min (ac + 1) 20) % 20 = (nu + 1) % 20 by omega]
      exact e1 k hk
    · rw [if_neg e]
      refine nwX_cg (h j (by omega)) (fun k hk => ?_)
      show kq (120 * (((nu + 1) % 20 + 21 + j - min (ac + 1) 20) % 20) + k) = kp (120 * ((nu + 21 + j - ac) % 20) + k)
      rw [show ((nu + 1) % 20 + 21 + j - min (ac + 1) 20) % 20 = (nu + 21 + j - ac) % 20 by omega]
      exact e2 _ (by omega)
  · unfold psh
    rw [if_neg q]
    unfold updG
    by_cases e : j = 19
    · rw [if_pos e]
      refine nwX_cg hn (fun k hk => ?_)
      show kq (120 * (((nu + 1) % 20 + 21 + j - min (ac + 1) 20) % 20) + k) = nw k
      rw [show ((nu + 1) % 20 + 21 + j - min (ac + 1) 20) % 20 = (nu + 1) % 20 by omega]
      exact e1 k hk
    · rw [if_neg e]
      unfold rotG
      rw [if_pos (by omega)]
      refine nwX_cg (h (j + 1) (by omega)) (fun k hk => ?_)
      show kq (120 * (((nu + 1) % 20 + 21 + j - min (ac + 1) 20) % 20) + k) = kp (120 * ((nu + 21 + (j + 1) - ac) % 20) + k)
      rw [show ((nu + 1) % 20 + 21 + j - min (ac + 1) 20) % 20 = (nu + 21 + (j + 1) - ac) % 20 by omega]
      exact e2 _ (by omega)
theorem kpX_top {ac nu : Nat} {su : Nat → KN} {lg : KLg} {kp : Nat → Int32} (h : kpX ac nu su lg kp) (h1 : 1 ≤ ac) (hnu : nu < 20) : nwN (su (ac - 1)) lg (fun k => kp (120 * nu + k)) := by
  refine nwX_cg (h (ac - 1) (by omega)) (fun k hk => ?_)
  show kp (120 * nu + k) = kp (120 * ((nu + 21 + (ac - 1) - ac) % 20) + k)
  rw [show (nu + 21 + (ac - 1) - ac) % 20 = nu by omega]
theorem kpX_pop {ac nu : Nat} {su : Nat → KN} {lg : KLg} {kp : Nat → Int32} (h : kpX ac nu su lg kp) (h20 : ac ≤ 20) : kpX (ac - 1) ((nu + 20 - 1) % 20) su lg kp := fun j hj => by
  refine nwX_cg (h j (by omega)) (fun k hk => ?_)
  show kp (120 * (((nu + 20 - 1) % 20 + 21 + j - (ac - 1)) % 20) + k) = kp (120 * ((nu + 21 + j - ac) % 20) + k)
  rw [show ((nu + 20 - 1) % 20 + 21 + j - (ac - 1)) % 20 = (nu + 21 + j - ac) % 20 by omega]
theorem kpX_0 (nu : Nat) (su : Nat → KN) (lg : KLg) (kp : Nat → Int32) : kpX 0 nu su lg kp := fun j hj => absurd hj (Nat.not_lt_zero j)
/-- a copy, so far -/
def kcp (o i : Nat) (f g h : Nat → Int32) : Prop := (∀ k, k < i → h (o + k) = g k) ∧ ∀ j, j < o ∨ o + 120 ≤ j → h j = f j
theorem kcp_0 (o : Nat) (f g : Nat → Int32) : kcp o 0 f g f := ⟨fun k hk => absurd hk (Nat.not_lt_zero k), fun j _ => rfl⟩
theorem kcp_s {o i : Nat} {f g h h2 : Nat → Int32} {x : Int32} (a : kcp o i f g h) (e : h2 = upd h (o + i) x) (hx : x = g i) (hi : i < 120) : kcp o (i + 1) f g h2 := by
  refine ⟨fun k hk => ?_, fun j hj => by rw [kui_n e (by omega)]; exact a.2 j hj⟩
  by_cases q : k = i
  · subst q; rw [kui_s e, hx]
  · rw [kui_n e (by omega)]; exact a.1 k (by omega)
def kc0 (i : Nat) (f h : Nat → Int32) : Prop := ∀ k, k < i → h k = f k
theorem kc0_0 (f h : Nat → Int32) : kc0 0 f h := fun k hk => absurd hk (Nat.not_lt_zero k)
theorem kc0_s {i : Nat} {f h h2 : Nat → Int32} {x : Int32} (a : kc0 i f h) (e : h2 = upd h i x) (hx : x = f i) : kc0 (i + 1) f h2 := fun k hk => by
  by_cases q : k = i
  · subst q; rw [kui_s e, hx]
  · rw [kui_n e q]; exact a k (by omega)
/-! a number, by its long -/
theorem kin0 {d : Int32} {z : Int64} {n : Nat} (hz : z.toInt + 1 = (n : Int)) (hn : n ≤ 2147483648) : ((0 : Int64) ≤ d.toInt64 ∧ d.toInt64 ≤ z) ↔ kIn d n := by
  constructor
  · intro h
    obtain ⟨k, hk, e⟩ := inK n h.1 h.2 (by omega)
    exact ⟨k, hk, e⟩
  · intro ⟨k, hk, e⟩
    subst e
    rw [Int64.le_iff_toInt_le, Int64.le_iff_toInt_le, lgv k (by omega)]
    have e0 : (0 : Int64).toInt = 0 := rfl
    omega
theorem kw_l2i {n : Nat} (h : n ≤ 1000000000) : (Int64.ofNat n).toInt32 = nI n := kten_i (by rw [kofn_int (by omega)]) (by omega)
set_option maxHeartbeats 4000000 in
set_option maxRecDepth 100000 in
theorem c_nm_laysAll (l : Launch) (D : va_G) (cI cJ cC cZ cS : ClassId) (mm : Nat) (g : Nat → Nat) (ta : Nat) (pa : Nat) (pe : Nat) (pd : Int32) (pb : Nat) (pp : Int32) (pf : Int32) (pg : Int32) (pn : Int32) (rt : Int32) (rn : Int32) (cd : Nat) (sn : Int32) (il : Nat) (tk : Int32) (am : Int32) (at_ : Int32) (aa : Int32) (wt : Int32) (wy : Int64) (it_ : Nat) (rm : Nat) (ud : Nat) (nu : Nat) (sd : Int64) (qn : Nat) (qw : Nat) (qo : Int32) (qb : Nat) (qp : Nat) (qa : Int64) (qi : Nat) (oc : Nat) (u0 : Int32) (u1 : Int32) (u2 : Int32) (u3 : Int32) (u4 : Int32) (u5 : Int32) (v0 : Int32) (v1 : Int32) (v2 : Int32) (v3 : Int32) (v4 : Int32) (v5 : Int32) (cs : Nat → Nat) (nw : Nat → Int32) (pt : Nat → Nat) (ql : Nat → Int64) (l0 : Nat) (l1 : Nat) (dm : Nat) (l3 : Nat) (ws_ : Nat → Int32) (yw : Nat → Int32) (yo : Nat → Int32) (be : Nat → Int64) (bf : Nat → Int64) (wn : Nat) (mN : Nat) (Ba : Nat → Nat) (We : Nat → Nat) (U : Nat → Bool) (ke : Nat) (lg : KLg) (L : LkS) (hdm : dm ≤ 9) (hdm1 : 1 ≤ dm) (hLk : kcLk L) (hkl : (lK L).length ≤ 1600) (hmw0 : mwO L 0 u3 v3 cs) (hmw1 : mwO L 1 u4 v4 cs) (hB9 : ∀ j, Ba j ≤ 9) (hW9 : ∀ j, We j ≤ 9) (hwk : wn ≤ 999) (hcs : ∀ j, cs j ≤ 20000) (hnw : nwX wn mN Ba We U ke lg nw) (hpt : ∀ j, pt j ≤ 9) : skM l yX12_laysAll cX12_laysAll 1 none 5 122 0 0 D (skT cI cJ cC cZ cS) [.ref mm] [(mm, .inr (12, mo g (nI ta) (nI pa) (nI pe) pd (nI pb) pp pf pg pn rt rn (nI cd) sn (nI il) tk am at_ aa 0 0 (-1) wt wy (nI it_) (nI rm) (nI ud) (nI nu) sd (nI qn) (nI qw) qo (nI qb) (nI qp) qa (nI qi) (nI oc))), (g 24, .inl (cI, 6, .inl (l6 u0 u1 u2 u3 u4 u5))), (g 25, .inl (cI, 6, .inl (l6 v0 v1 v2 v3 v4 v5))), (g 26, .inl (cI, 3200, .inl (fun j => nI (cs j)))), (g 31, .inl (cI, 120, .inl nw)), (g 46, .inl (cI, 9, .inl (fun j => nI (pt j)))), (g 86, .inl (cJ, 1700, .inr (.inl ql))), (g 20, .inl (cI, 4, .inl (l4 (nI l0) (nI l1) (nI dm) (nI l3)))), (g 38, .inl (cI, 90, .inl ws_)), (g 36, .inl (cZ, 900, .inl yw)), (g 37, .inl (cZ, 900, .inl yo)), (g 43, .inl (cJ, 90, .inr (.inl be))), (g 44, .inl (cJ, 90, .inr (.inl bf)))] (skV D (skT cI cJ cC cZ cS) (fun (u : va_W) => ∃ (tk2 : Int32), ∃ (qp2 : Nat), ∃ (am2 : Int32), ∃ (at_2 : Int32), ∃ (aa2 : Int32), ∃ (wy2 : Int64), ∃ (ql2 : Nat → Int64), ∃ (ws_2 : Nat → Int32), ∃ (yw2 : Nat → Int32), ∃ (yo2 : Nat → Int32), ∃ (be2 : Nat → Int64), ∃ (bf2 : Nat → Int64), beOk (cfN nw yw2 yo2 0) dm 0 be2 ∧ (∀ d, d < dm → ∀ a m, a < 10 → m < 10 → (cfN nw yw2 yo2 0) d a m = (kcFo L wn Ba We U 0) d a m) ∧ wy2 = Int64.ofNat (kcC (kcFo L wn Ba We U 0) dm 0 mN) ∧ u = [(mm, .inr (12, mo g (nI ta) (nI pa) (nI pe) pd (nI pb) pp pf pg pn rt rn (nI cd) sn (nI il) tk2 am2 at_2 aa2 0 0 (-1) wt wy2 (nI it_) (nI rm) (nI ud) (nI nu) sd (nI qn) (nI qw) qo (nI qb) (nI qp2) qa (nI qi) (nI oc))), (g 24, .inl (cI, 6, .inl (l6 u0 u1 u2 u3 u4 u5))), (g 25, .inl (cI, 6, .inl (l6 v0 v1 v2 v3 v4 v5))), (g 26, .inl (cI, 3200, .inl (fun j => nI (cs j)))), (g 31, .inl (cI, 120, .inl nw)), (g 46, .inl (cI, 9, .inl (fun j => nI (pt j)))), (g 86, .inl (cJ, 1700, .inr (.inl ql2))), (g 20, .inl (cI, 4, .inl (l4 (nI l0) (nI l1) (nI dm) (nI l3)))), (g 38, .inl (cI, 90, .inl ws_2)), (g 36, .inl (cZ, 900, .inl yw2)), (g 37, .inl (cZ, 900, .inl yo2)), (g 43, .inl (cJ, 90, .inr (.inl be2))), (g 44, .inl (cJ, 90, .inr (.inl bf2)))])) := by
  refine skM_of (by decide +kernel) (Nat.le_of_ble_eq_true rfl) ?_
  intro p e s m below meth c A ls E hP hD hl
  obtain ⟨hx, hb, hr, hml, hlocks, hin, hown, hts, hK, hA⟩ := E
  have hown : s.vm.findClass RX12 = some m.cls := hown
  have hS : va_S A s.heap s.heap [] := va_S.rf
  have hl : lv_has ls 1 [(0, .ref mm)] := hl
  refine lv_aload_n hx hb dX12_laysAll_0 rfl (lv_at hl 0 rfl) ?_
  refine lv_iconst (v := 0) hx hb dX12_laysAll_1 (by decide) ?_
  refine sk_Vv (q0 := 0) (n := 1) (rest := []) (wr := [(g 43, .inl (cJ, 90, .inr (.inl be))), (g 44, .inl (cJ, 90, .inr (.inl bf)))]) ⟨hx, hb, hml, hown, hts⟩ hl.1 (c_nm_laysDays l D cI cJ cC cZ cS mm g ta pa pe pd pb pp pf pg pn rt rn cd sn il tk am at_ aa 0 wt wy it_ rm ud nu sd qn qw qo qb qp qa qi oc 0 u0 u1 u2 u3 u4 u5 v0 v1 v2 v3 v4 v5 cs nw pt ql l0 l1 dm l3 ws_ yw yo L wn Ba We (by omega) (by decide) hLk hkl hmw0 hmw1 hB9 hW9 hwk (fun d hd => nwX_md hnw (by omega)) hcs (nwX_ok hnw) hpt) w_7_193 w_7_195 w_0_83 w_1_14 w_7_196 (by decide +kernel) ⟨⟨(Nat.le_of_ble_eq_true rfl), (Nat.le_of_ble_eq_true rfl)⟩, (Nat.le_of_ble_eq_true rfl), (Nat.le_of_ble_eq_true rfl)⟩ hK hP hD hS hA [0, 1, 2, 3, 4, 5, 6, 7, 8, 9, 10] [11, 12] rfl rfl (by decide +kernel) (by decide +kernel) (by decide +kernel) rfl rfl rfl rfl (Nat.le_of_ble_eq_true rfl) dX12_laysAll_2 (fun u H locs hw hP hD hS => ?_)
  obtain ⟨tk2_1, qp2_2, am2_3, at_2_4, aa2_5, ql2_6, ws_2_7, yw2_8, yo2_9, hld_10, rfl⟩ := hw
  have hP : va_P D vwCl [(g 43, .inl (cJ, 90, .inr (.inl be))), (g 44, .inl (cJ, 90, .inr (.inl bf))), (mm, .inr (12, mo g (nI ta) (nI pa) (nI pe) pd (nI pb) pp pf pg pn rt rn (nI cd) sn (nI il) tk2_1 am2_3 at_2_4 aa2_5 0 0 (-1) wt wy (nI it_) (nI rm) (nI ud) (nI nu) sd (nI qn) (nI qw) qo (nI qb) (nI qp2_2) qa (nI qi) (nI oc))), (g 24, .inl (cI, 6, .inl (l6 u0 u1 u2 u3 u4 u5))), (g 25, .inl (cI, 6, .inl (l6 v0 v1 v2 v3 v4 v5))), (g 26, .inl (cI, 3200, .inl (fun j => nI (cs j)))), (g 31, .inl (cI, 120, .inl nw)), (g 46, .inl (cI, 9, .inl (fun j => nI (pt j)))), (g 86, .inl (cJ, 1700, .inr (.inl ql2_6))), (g 20, .inl (cI, 4, .inl (l4 (nI l0) (nI l1) (nI dm) (nI l3)))), (g 38, .inl (cI, 90, .inl ws_2_7)), (g 36, .inl (cZ, 900, .inl yw2_8)), (g 37, .inl (cZ, 900, .inl yo2_9))] H := hP
  have hD : va_D A [(g 43, .inl (cJ, 90, .inr (.inl be))), (g 44, .inl (cJ, 90, .inr (.inl bf))), (mm, .inr (12, mo g (nI ta) (nI pa) (nI pe) pd (nI pb) pp pf pg pn rt rn (nI cd) sn (nI il) tk2_1 am2_3 at_2_4 aa2_5 0 0 (-1) wt wy (nI it_) (nI rm) (nI ud) (nI nu) sd (nI qn) (nI qw) qo (nI qb) (nI qp2_2) qa (nI qi) (nI oc))), (g 24, .inl (cI, 6, .inl (l6 u0 u1 u2 u3 u4 u5))), (g 25, .inl (cI, 6, .inl (l6 v0 v1 v2 v3 v4 v5))), (g 26, .inl (cI, 3200, .inl (fun j => nI (cs j)))), (g 31, .inl (cI, 120, .inl nw)), (g 46, .inl (cI, 9, .inl (fun j => nI (pt j)))), (g 86, .inl (cJ, 1700, .inr (.inl ql2_6))), (g 20, .inl (cI, 4, .inl (l4 (nI l0) (nI l1) (nI dm) (nI l3)))), (g 38, .inl (cI, 90, .inl ws_2_7)), (g 36, .inl (cZ, 900, .inl yw2_8)), (g 37, .inl (cZ, 900, .inl yo2_9))] := hD
  refine lv_aload_n hx hb dX12_laysAll_5 rfl (lv_at hl 0 rfl) ?_
  refine sk_Vv (q0 := 0) (n := 0) (rest := []) (wr := [(g 24, .inl (cI, 6, .inl (l6 u0 u1 u2 u3 u4 u5))), (g 25, .inl (cI, 6, .inl (l6 v0 v1 v2 v3 v4 v5))), (g 26, .inl (cI, 3200, .inl (fun j => nI (cs j)))), (g 46, .inl (cI, 9, .inl (fun j => nI (pt j)))), (g 86, .inl (cJ, 1700, .inr (.inl ql2_6))), (g 38, .inl (cI, 90, .inl ws_2_7))]) ⟨hx, hb, hml, hown, hts⟩ hl.1 (c_m_laysWays0 l D cI cJ cC cZ cS mm g ta pa pe pd pb pp pf pg pn rt rn cd sn il tk2_1 am2_3 at_2_4 aa2_5 0 wt wy it_ rm ud nu sd qn qw qo qb qp2_2 qa qi oc l0 l1 dm l3 nw yo2_9 yw2_8 be bf (by omega) (by omega) (nwX_ok hnw)) w_7_197 w_7_199 w_0_84 w_1_14 w_7_200 (by decide +kernel) ⟨⟨(Nat.le_of_ble_eq_true rfl), (Nat.le_of_ble_eq_true rfl)⟩, (Nat.le_of_ble_eq_true rfl), (Nat.le_of_ble_eq_true rfl)⟩ hK hP hD hS hA [2, 9, 6, 12, 11, 0, 1] [3, 4, 5, 7, 8, 10] rfl rfl (by decide +kernel) (by decide +kernel) (by decide +kernel) rfl rfl rfl rfl (Nat.le_of_ble_eq_true rfl) dX12_laysAll_6 (fun u H locs hw hP hD hS => ?_)
  obtain ⟨wy2_11, be2_12, bf2_13, hbe_14, hwy_15, rfl⟩ := hw
  have hP : va_P D vwCl [(g 24, .inl (cI, 6, .inl (l6 u0 u1 u2 u3 u4 u5))), (g 25, .inl (cI, 6, .inl (l6 v0 v1 v2 v3 v4 v5))), (g 26, .inl (cI, 3200, .inl (fun j => nI (cs j)))), (g 46, .inl (cI, 9, .inl (fun j => nI (pt j)))), (g 86, .inl (cJ, 1700, .inr (.inl ql2_6))), (g 38, .inl (cI, 90, .inl ws_2_7)), (mm, .inr (12, mo g (nI ta) (nI pa) (nI pe) pd (nI pb) pp pf pg pn rt rn (nI cd) sn (nI il) tk2_1 am2_3 at_2_4 aa2_5 0 0 (-1) wt wy2_11 (nI it_) (nI rm) (nI ud) (nI nu) sd (nI qn) (nI qw) qo (nI qb) (nI qp2_2) qa (nI qi) (nI oc))), (g 20, .inl (cI, 4, .inl (l4 (nI l0) (nI l1) (nI dm) (nI l3)))), (g 31, .inl (cI, 120, .inl nw)), (g 37, .inl (cZ, 900, .inl yo2_9)), (g 36, .inl (cZ, 900, .inl yw2_8)), (g 43, .inl (cJ, 90, .inr (.inl be2_12))), (g 44, .inl (cJ, 90, .inr (.inl bf2_13)))] H := hP
  have hD : va_D A [(g 24, .inl (cI, 6, .inl (l6 u0 u1 u2 u3 u4 u5))), (g 25, .inl (cI, 6, .inl (l6 v0 v1 v2 v3 v4 v5))), (g 26, .inl (cI, 3200, .inl (fun j => nI (cs j)))), (g 46, .inl (cI, 9, .inl (fun j => nI (pt j)))), (g 86, .inl (cJ, 1700, .inr (.inl ql2_6))), (g 38, .inl (cI, 90, .inl ws_2_7)), (mm, .inr (12, mo g (nI ta) (nI pa) (nI pe) pd (nI pb) pp pf pg pn rt rn (nI cd) sn (nI il) tk2_1 am2_3 at_2_4 aa2_5 0 0 (-1) wt wy2_11 (nI it_) (nI rm) (nI ud) (nI nu) sd (nI qn) (nI qw) qo (nI qb) (nI qp2_2) qa (nI qi) (nI oc))), (g 20, .inl (cI, 4, .inl (l4 (nI l0) (nI l1) (nI dm) (nI l3)))), (g 31, .inl (cI, 120, .inl nw)), (g 37, .inl (cZ, 900, .inl yo2_9)), (g 36, .inl (cZ, 900, .inl yw2_8)), (g 43, .inl (cJ, 90, .inr (.inl be2_12))), (g 44, .inl (cJ, 90, .inr (.inl bf2_13)))] := hD
  have hP := hP.sub (ws' := [(mm, .inr (12, mo g (nI ta) (nI pa) (nI pe) pd (nI pb) pp pf pg pn rt rn (nI cd) sn (nI il) tk2_1 am2_3 at_2_4 aa2_5 0 0 (-1) wt wy2_11 (nI it_) (nI rm) (nI ud) (nI nu) sd (nI qn) (nI qw) qo (nI qb) (nI qp2_2) qa (nI qi) (nI oc))), (g 24, .inl (cI, 6, .inl (l6 u0 u1 u2 u3 u4 u5))), (g 25, .inl (cI, 6, .inl (l6 v0 v1 v2 v3 v4 v5))), (g 26, .inl (cI, 3200, .inl (fun j => nI (cs j)))), (g 31, .inl (cI, 120, .inl nw)), (g 46, .inl (cI, 9, .inl (fun j => nI (pt j)))), (g 86, .inl (cJ, 1700, .inr (.inl ql2_6))), (g 20, .inl (cI, 4, .inl (l4 (nI l0) (nI l1) (nI dm) (nI l3)))), (g 38, .inl (cI, 90, .inl ws_2_7)), (g 36, .inl (cZ, 900, .inl yw2_8)), (g 37, .inl (cZ, 900, .inl yo2_9)), (g 43, .inl (cJ, 90, .inr (.inl be2_12))), (g 44, .inl (cJ, 90, .inr (.inl bf2_13)))]) [6, 0, 1, 2, 8, 3, 4, 7, 5, 10, 9, 11, 12] rfl
  have hD := hD.sub (ws' := [(mm, .inr (12, mo g (nI ta) (nI pa) (nI pe) pd (nI pb) pp pf pg pn rt rn (nI cd) sn (nI il) tk2_1 am2_3 at_2_4 aa2_5 0 0 (-1) wt wy2_11 (nI it_) (nI rm) (nI ud) (nI nu) sd (nI qn) (nI qw) qo (nI qb) (nI qp2_2) qa (nI qi) (nI oc))), (g 24, .inl (cI, 6, .inl (l6 u0 u1 u2 u3 u4 u5))), (g 25, .inl (cI, 6, .inl (l6 v0 v1 v2 v3 v4 v5))), (g 26, .inl (cI, 3200, .inl (fun j => nI (cs j)))), (g 31, .inl (cI, 120, .inl nw)), (g 46, .inl (cI, 9, .inl (fun j => nI (pt j)))), (g 86, .inl (cJ, 1700, .inr (.inl ql2_6))), (g 20, .inl (cI, 4, .inl (l4 (nI l0) (nI l1) (nI dm) (nI l3)))), (g 38, .inl (cI, 90, .inl ws_2_7)), (g 36, .inl (cZ, 900, .inl yw2_8)), (g 37, .inl (cZ, 900, .inl yo2_9)), (g 43, .inl (cJ, 90, .inr (.inl be2_12))), (g 44, .inl (cJ, 90, .inr (.inl bf2_13)))]) [6, 0, 1, 2, 8, 3, 4, 7, 5, 10, 9, 11, 12] (by decide +kernel) rfl
  exact sk_vret hx hb hr hlocks hK hP hD hS (⟨tk2_1, qp2_2, am2_3, at_2_4, aa2_5, wy2_11, ql2_6, ws_2_7, yw2_8, yo2_9, be2_12, bf2_13, hbe_14, (cfX hnw hld_10 (by omega)), (hwy_15.trans (congrArg Int64.ofNat (wyX (cfX hnw hld_10 (by omega)) (by omega) (nwX_a0 hnw) hnw.1))), rfl⟩) (Nat.le_of_ble_eq_true rfl) (Nat.le_of_ble_eq_true rfl) dX12_laysAll_9
theorem dX12_isKept_0 : decode cX12_isKept 0 = .ok (.aload_n 0, 1) := by decide +kernel
theorem dX12_isKept_1 : decode cX12_isKept 1 = .ok (.getfield 391, 3) := by decide +kernel
theorem dX12_isKept_4 : decode cX12_isKept 4 = .ok (.ifCond .eq 4, 3) := by decide +kernel
theorem dX12_isKept_63 : decode cX12_isKept 63 = .ok (.bipush 30, 2) := by decide +kernel
theorem dX12_isKept_65 : decode cX12_isKept 65 = .ok (.iconst 3, 1) := by decide +kernel
theorem dX12_isKept_66 : decode cX12_isKept 66 = .ok (.aload_n 0, 1) := by decide +kernel
theorem dX12_isKept_67 : decode cX12_isKept 67 = .ok (.getfield 63, 3) := by decide +kernel
theorem dX12_isKept_70 : decode cX12_isKept 70 = .ok (.bipush 29, 2) := by decide +kernel
theorem dX12_isKept_72 : decode cX12_isKept 72 = .ok (.iaload, 1) := by decide +kernel
theorem dX12_isKept_73 : decode cX12_isKept 73 = .ok (.imul, 1) := by decide +kernel
theorem dX12_isKept_74 : decode cX12_isKept 74 = .ok (.iadd, 1) := by decide +kernel
theorem dX12_isKept_75 : decode cX12_isKept 75 = .ok (.iconst 3, 1) := by decide +kernel
theorem dX12_isKept_76 : decode cX12_isKept 76 = .ok (.isub, 1) := by decide +kernel
theorem dX12_isKept_77 : decode cX12_isKept 77 = .ok (.istore_n 1, 1) := by decide +kernel
theorem dX12_isKept_78 : decode cX12_isKept 78 = .ok (.aload_n 0, 1) := by decide +kernel
theorem dX12_isKept_79 : decode cX12_isKept 79 = .ok (.getfield 63, 3) := by decide +kernel
theorem dX12_isKept_82 : decode cX12_isKept 82 = .ok (.iload_n 1, 1) := by decide +kernel
theorem dX12_isKept_83 : decode cX12_isKept 83 = .ok (.aload_n 0, 1) := by decide +kernel
theorem dX12_isKept_84 : decode cX12_isKept 84 = .ok (.getfield 63, 3) := by decide +kernel
theorem dX12_isKept_87 : decode cX12_isKept 87 = .ok (.iconst 0, 1) := by decide +kernel
theorem dX12_isKept_88 : decode cX12_isKept 88 = .ok (.iaload, 1) := by decide +kernel
theorem dX12_isKept_89 : decode cX12_isKept 89 = .ok (.iastore, 1) := by decide +kernel
theorem dX12_isKept_90 : decode cX12_isKept 90 = .ok (.aload_n 0, 1) := by decide +kernel
theorem dX12_isKept_91 : decode cX12_isKept 91 = .ok (.getfield 63, 3) := by decide +kernel
theorem dX12_isKept_94 : decode cX12_isKept 94 = .ok (.iload_n 1, 1) := by decide +kernel
theorem dX12_isKept_95 : decode cX12_isKept 95 = .ok (.iconst 1, 1) := by decide +kernel
theorem dX12_isKept_96 : decode cX12_isKept 96 = .ok (.iadd, 1) := by decide +kernel
theorem dX12_isKept_97 : decode cX12_isKept 97 = .ok (.aload_n 0, 1) := by decide +kernel
theorem dX12_isKept_98 : decode cX12_isKept 98 = .ok (.getfield 382, 3) := by decide +kernel
theorem dX12_isKept_101 : decode cX12_isKept 101 = .ok (.l2i, 1) := by decide +kernel
theorem dX12_isKept_102 : decode cX12_isKept 102 = .ok (.iastore, 1) := by decide +kernel
theorem dX12_isKept_103 : decode cX12_isKept 103 = .ok (.aload_n 0, 1) := by decide +kernel
theorem dX12_isKept_104 : decode cX12_isKept 104 = .ok (.getfield 63, 3) := by decide +kernel
theorem dX12_isKept_107 : decode cX12_isKept 107 = .ok (.iload_n 1, 1) := by decide +kernel
theorem dX12_isKept_108 : decode cX12_isKept 108 = .ok (.iconst 2, 1) := by decide +kernel
theorem dX12_isKept_109 : decode cX12_isKept 109 = .ok (.iadd, 1) := by decide +kernel
theorem dX12_isKept_110 : decode cX12_isKept 110 = .ok (.aload_n 0, 1) := by decide +kernel
theorem dX12_isKept_111 : decode cX12_isKept 111 = .ok (.getfield 89, 3) := by decide +kernel
theorem dX12_isKept_114 : decode cX12_isKept 114 = .ok (.aload_n 0, 1) := by decide +kernel
theorem dX12_isKept_115 : decode cX12_isKept 115 = .ok (.invokevirtual 315, 3) := by decide +kernel
theorem dX12_isKept_118 : decode cX12_isKept 118 = .ok (.iconst 1, 1) := by decide +kernel
theorem dX12_isKept_119 : decode cX12_isKept 119 = .ok (.isub, 1) := by decide +kernel
theorem dX12_isKept_120 : decode cX12_isKept 120 = .ok (.iaload, 1) := by decide +kernel
theorem dX12_isKept_121 : decode cX12_isKept 121 = .ok (.iastore, 1) := by decide +kernel
theorem dX12_isKept_122 : decode cX12_isKept 122 = .ok (.return_, 1) := by decide +kernel
theorem dX12_isKept_8 : decode cX12_isKept 8 = .ok (.aload_n 0, 1) := by decide +kernel
theorem dX12_isKept_9 : decode cX12_isKept 9 = .ok (.getfield 63, 3) := by decide +kernel
theorem dX12_isKept_12 : decode cX12_isKept 12 = .ok (.bipush 29, 2) := by decide +kernel
theorem dX12_isKept_14 : decode cX12_isKept 14 = .ok (.iaload, 1) := by decide +kernel
theorem dX12_isKept_15 : decode cX12_isKept 15 = .ok (.bipush 30, 2) := by decide +kernel
theorem dX12_isKept_17 : decode cX12_isKept 17 = .ok (.if_icmp .ne 35, 3) := by decide +kernel
theorem dX12_isKept_52 : decode cX12_isKept 52 = .ok (.aload_n 0, 1) := by decide +kernel
theorem dX12_isKept_53 : decode cX12_isKept 53 = .ok (.getfield 63, 3) := by decide +kernel
theorem dX12_isKept_56 : decode cX12_isKept 56 = .ok (.bipush 29, 2) := by decide +kernel
theorem dX12_isKept_58 : decode cX12_isKept 58 = .ok (.dup2, 1) := by decide +kernel
theorem dX12_isKept_59 : decode cX12_isKept 59 = .ok (.iaload, 1) := by decide +kernel
theorem dX12_isKept_60 : decode cX12_isKept 60 = .ok (.iconst 1, 1) := by decide +kernel
theorem dX12_isKept_61 : decode cX12_isKept 61 = .ok (.iadd, 1) := by decide +kernel
theorem dX12_isKept_62 : decode cX12_isKept 62 = .ok (.iastore, 1) := by decide +kernel
theorem dX12_isKept_20 : decode cX12_isKept 20 = .ok (.bipush 30, 2) := by decide +kernel
theorem dX12_isKept_22 : decode cX12_isKept 22 = .ok (.istore_n 1, 1) := by decide +kernel
theorem dX12_isKept_23 : decode cX12_isKept 23 = .ok (.iload_n 1, 1) := by decide +kernel
theorem dX12_isKept_24 : decode cX12_isKept 24 = .ok (.bipush 117, 2) := by decide +kernel
theorem dX12_isKept_26 : decode cX12_isKept 26 = .ok (.if_icmp .ge 23, 3) := by decide +kernel
theorem dX12_isKept_49 : decode cX12_isKept 49 = .ok (.goto 14, 3) := by decide +kernel
theorem dX12_isKept_29 : decode cX12_isKept 29 = .ok (.aload_n 0, 1) := by decide +kernel
theorem dX12_isKept_30 : decode cX12_isKept 30 = .ok (.getfield 63, 3) := by decide +kernel
theorem dX12_isKept_33 : decode cX12_isKept 33 = .ok (.iload_n 1, 1) := by decide +kernel
theorem dX12_isKept_34 : decode cX12_isKept 34 = .ok (.aload_n 0, 1) := by decide +kernel
theorem dX12_isKept_35 : decode cX12_isKept 35 = .ok (.getfield 63, 3) := by decide +kernel
theorem dX12_isKept_38 : decode cX12_isKept 38 = .ok (.iload_n 1, 1) := by decide +kernel
theorem dX12_isKept_39 : decode cX12_isKept 39 = .ok (.iconst 3, 1) := by decide +kernel
theorem dX12_isKept_40 : decode cX12_isKept 40 = .ok (.iadd, 1) := by decide +kernel
theorem dX12_isKept_41 : decode cX12_isKept 41 = .ok (.iaload, 1) := by decide +kernel
theorem dX12_isKept_42 : decode cX12_isKept 42 = .ok (.iastore, 1) := by decide +kernel
theorem dX12_isKept_43 : decode cX12_isKept 43 = .ok (.iinc 1 1, 3) := by decide +kernel
theorem dX12_isKept_46 : decode cX12_isKept 46 = .ok (.goto (-23), 3) := by decide +kernel
theorem w_5_202 : (Cond.fieldLink RX12 391 "SameKeeperModel" "isThought" "Z") ∈ wsL_law := sk_mem (ck_5 _ (List.mem_of_getElem? (i := 202) rfl)) rfl
theorem w_8_24 : (Cond.code yX12_isKept cX12_isKept 2 none) ∈ wsL_law := sk_mem (ck_8 _ (List.mem_of_getElem? (i := 24) rfl)) rfl
set_option maxHeartbeats 4000000 in
set_option maxRecDepth 100000 in
theorem c_nm_isKept (l : Launch) (D : va_G) (cI cJ cC cZ cS : ClassId) (mm : Nat) (g : Nat → Nat) (ta : Nat) (pa : Nat) (pe : Nat) (pd : Int32) (pb : Nat) (pp : Int32) (pf : Int32) (pg : Int32) (pn : Int32) (rt : Int32) (rn : Int32) (cd : Nat) (sn : Int32) (il : Nat) (tk : Int32) (am : Int32) (at_ : Int32) (aa : Int32) (wt : Int32) (wy : Int64) (rm : Nat) (ud : Nat) (nu : Nat) (sd : Int64) (qn : Nat) (qw : Nat) (qo : Int32) (qb : Nat) (qp : Nat) (qa : Int64) (qi : Nat) (oc : Nat) (l0 : Nat) (l1 : Nat) (dm : Nat) (l3 : Nat) (nw : Nat → Int32) (pt : Nat → Nat) (wn : Nat) (mN : Nat) (Ba : Nat → Nat) (We : Nat → Nat) (U : Nat → Bool) (ke : Nat) (lg : KLg) (nn : Nat) (hdm : dm ≤ 9) (hdm1 : 1 ≤ dm) (hwyn : wy = Int64.ofNat nn) (hnn9 : nn ≤ 1000000000) (hnw : nwX wn mN Ba We U ke lg nw) (hpt : ∀ j, pt j ≤ 9) : skM l yX12_isKept cX12_isKept 2 none 1 20 0 0 D (skT cI cJ cC cZ cS) [.ref mm] [(mm, .inr (12, mo g (nI ta) (nI pa) (nI pe) pd (nI pb) pp pf pg pn rt rn (nI cd) sn (nI il) tk am at_ aa 0 0 (-1) wt wy 0 (nI rm) (nI ud) (nI nu) sd (nI qn) (nI qw) qo (nI qb) (nI qp) qa (nI qi) (nI oc))), (g 20, .inl (cI, 4, .inl (l4 (nI l0) (nI l1) (nI dm) (nI l3)))), (g 31, .inl (cI, 120, .inl nw)), (g 46, .inl (cI, 9, .inl (fun j => nI (pt j))))] (skV D (skT cI cJ cC cZ cS) (fun (u : va_W) => ∃ (nw2 : Nat → Int32), nwX wn mN Ba We U (ke + 1) (updG lg ke (wn, nn, pt (dm - 1))) nw2 ∧ u = [(mm, .inr (12, mo g (nI ta) (nI pa) (nI pe) pd (nI pb) pp pf pg pn rt rn (nI cd) sn (nI il) tk am at_ aa 0 0 (-1) wt wy 0 (nI rm) (nI ud) (nI nu) sd (nI qn) (nI qw) qo (nI qb) (nI qp) qa (nI qi) (nI oc))), (g 20, .inl (cI, 4, .inl (l4 (nI l0) (nI l1) (nI dm) (nI l3)))), (g 31, .inl (cI, 120, .inl nw2)), (g 46, .inl (cI, 9, .inl (fun j => nI (pt j))))])) := by
  refine skM_of (by decide +kernel) (Nat.le_of_ble_eq_true rfl) ?_
  intro p e s m below meth c A ls E hP hD hl
  obtain ⟨hx, hb, hr, hml, hlocks, hin, hown, hts, hK, hA⟩ := E
  have hown : s.vm.findClass RX12 = some m.cls := hown
  have hS : va_S A s.heap s.heap [] := va_S.rf
  have hl : lv_has ls 2 [(0, .ref mm)] := hl
  refine lv_aload_n hx hb dX12_isKept_0 rfl (lv_at hl 0 rfl) ?_
  refine sk_get (v := .int 0) (C := RX12) (T := TX12) (N := 92) hx hb hts inlX12 hown hK hP 0 rfl rfl 47 (by decide) w_5_202 rfl dX12_isKept_1 ?_
  refine lv_if_eq (tgt := 8) hx hb dX12_isKept_4 (by decide) (fun c_1 => ?_) (fun c => absurd c (by decide))
  have jn_2 : ∀ (zT : Nat → Int32) (H : Heap) (locs : List Loc) (ls : Array Slot), (nwT wn mN Ba We U ke lg zT) → va_P D vwCl [(mm, .inr (12, mo g (nI ta) (nI pa) (nI pe) pd (nI pb) pp pf pg pn rt rn (nI cd) sn (nI il) tk am at_ aa 0 0 (-1) wt wy 0 (nI rm) (nI ud) (nI nu) sd (nI qn) (nI qw) qo (nI qb) (nI qp) qa (nI qi) (nI oc))), (g 20, .inl (cI, 4, .inl (l4 (nI l0) (nI l1) (nI dm) (nI l3)))), (g 31, .inl (cI, 120, .inl zT)), (g 46, .inl (cI, 9, .inl (fun j => nI (pt j))))] H → va_D A [(mm, .inr (12, mo g (nI ta) (nI pa) (nI pe) pd (nI pb) pp pf pg pn rt rn (nI cd) sn (nI il) tk am at_ aa 0 0 (-1) wt wy 0 (nI rm) (nI ud) (nI nu) sd (nI qn) (nI qw) qo (nI qb) (nI qp) qa (nI qi) (nI oc))), (g 20, .inl (cI, 4, .inl (l4 (nI l0) (nI l1) (nI dm) (nI l3)))), (g 31, .inl (cI, 120, .inl zT)), (g 46, .inl (cI, 9, .inl (fun j => nI (pt j))))] → va_S A s.heap H locs → lv_has ls 2 [(0, .ref mm)] → W p l e { frames := 1, cells := 0, slots := 0, locals := 20 } s m ([.ref mm] : List Value).toArray below meth c H locs 0 0 (MQ below (skV D (skT cI cJ cC cZ cS) (fun (u : va_W) => ∃ (nw2 : Nat → Int32), nwX wn mN Ba We U (ke + 1) (updG lg ke (wn, nn, pt (dm - 1))) nw2 ∧ u = [(mm, .inr (12, mo g (nI ta) (nI pa) (nI pe) pd (nI pb) pp pf pg pn rt rn (nI cd) sn (nI il) tk am at_ aa 0 0 (-1) wt wy 0 (nI rm) (nI ud) (nI nu) sd (nI qn) (nI qw) qo (nI qb) (nI qp) qa (nI qi) (nI oc))), (g 20, .inl (cI, 4, .inl (l4 (nI l0) (nI l1) (nI dm) (nI l3)))), (g 31, .inl (cI, 120, .inl nw2)), (g 46, .inl (cI, 9, .inl (fun j => nI (pt j))))]) A) ([.ref mm] : List Value).toArray s 0 0 A) (F0 m 63 ls []) := by
    intro zT H locs ls hT hP hD hS hl
    refine lv_bipush (v := 30) hx hb dX12_isKept_63 (by decide) ?_
    refine lv_iconst (v := 3) hx hb dX12_isKept_65 (by decide) ?_
    refine lv_aload_n hx hb dX12_isKept_66 rfl (lv_at hl 0 rfl) ?_
    refine sk_get (v := .ref (g 31)) (C := RX12) (T := TX12) (N := 92) hx hb hts inlX12 hown hK hP 0 rfl rfl 31 (by decide) w_5_186 rfl dX12_isKept_67 ?_
    refine lv_bipush (v := 29) hx hb dX12_isKept_70 (by decide) ?_
    refine va_iald hx hb hK.1 hP 2 0 rfl rfl (by unfold vp_in; decide) dX12_isKept_72 ?_
    refine sk_top (nI (min (ke + 1) 30)) (nwT_29 hT) ?_
    refine lv_imul hx hb dX12_isKept_73 ?_
    refine sk_top (nI (3 * (min (ke + 1) 30))) (nmul 3 (min (ke + 1) 30)) ?_
    refine lv_iadd hx hb dX12_isKept_74 ?_
    refine sk_top (nI (30 + (3 * (min (ke + 1) 30)))) (nI_add 30 (3 * (min (ke + 1) 30))) ?_
    refine lv_iconst (v := 3) hx hb dX12_isKept_75 (by decide) ?_
    refine lv_isub hx hb dX12_isKept_76 ?_
    refine sk_top (nI (30 + (3 * (min (ke + 1) 30)) - 3)) (nsub (30 + (3 * (min (ke + 1) 30))) 3 (by omega)) ?_
    refine lv_istore_n (lv' := [(1, .int (nI (30 + (3 * (min (ke + 1) 30)) - 3))), (0, .ref mm)]) hx hb dX12_isKept_77 rfl hl (by decide) rfl (fun ls hl => ?_)
    refine lv_aload_n hx hb dX12_isKept_78 rfl (lv_at hl 1 rfl) ?_
    refine sk_get (v := .ref (g 31)) (C := RX12) (T := TX12) (N := 92) hx hb hts inlX12 hown hK hP 0 rfl rfl 31 (by decide) w_5_186 rfl dX12_isKept_79 ?_
    refine lv_iload_n hx hb dX12_isKept_82 rfl (lv_at hl 0 rfl) ?_
    refine lv_aload_n hx hb dX12_isKept_83 rfl (lv_at hl 1 rfl) ?_
    refine sk_get (v := .ref (g 31)) (C := RX12) (T := TX12) (N := 92) hx hb hts inlX12 hown hK hP 0 rfl rfl 31 (by decide) w_5_186 rfl dX12_isKept_84 ?_
    refine lv_iconst (v := 0) hx hb dX12_isKept_87 (by decide) ?_
    refine va_iald hx hb hK.1 hP 2 0 rfl rfl (by unfold vp_in; decide) dX12_isKept_88 ?_
    refine sk_top (nI wn) (nwT_0 hT) ?_
    refine sk_iastE (k := (30 + (3 * (min (ke + 1) 30)) - 3)) (x := (nI wn)) (ws' := fun f_3 => [(mm, .inr (12, mo g (nI ta) (nI pa) (nI pe) pd (nI pb) pp pf pg pn rt rn (nI cd) sn (nI il) tk am at_ aa 0 0 (-1) wt wy 0 (nI rm) (nI ud) (nI nu) sd (nI qn) (nI qw) qo (nI qb) (nI qp) qa (nI qi) (nI oc))), (g 20, .inl (cI, 4, .inl (l4 (nI l0) (nI l1) (nI dm) (nI l3)))), (g 31, .inl (cI, 120, .inl f_3)), (g 46, .inl (cI, 9, .inl (fun j => nI (pt j))))]) hx hb hK hP hD hS 2 0 rfl rfl (by omega) (by omega) (fun _ => rfl) dX12_isKept_89 (fun f_3 H locs ef_4 hP hD hS => ?_)
    refine lv_aload_n hx hb dX12_isKept_90 rfl (lv_at hl 1 rfl) ?_
    refine sk_get (v := .ref (g 31)) (C := RX12) (T := TX12) (N := 92) hx hb hts inlX12 hown hK hP 0 rfl rfl 31 (by decide) w_5_186 rfl dX12_isKept_91 ?_
    refine lv_iload_n hx hb dX12_isKept_94 rfl (lv_at hl 0 rfl) ?_
    refine lv_iconst (v := 1) hx hb dX12_isKept_95 (by decide) ?_
    refine lv_iadd hx hb dX12_isKept_96 ?_
    refine sk_top (nI (30 + (3 * (min (ke + 1) 30)) - 3 + 1)) (nI_add (30 + (3 * (min (ke + 1) 30)) - 3) 1) ?_
    refine lv_aload_n hx hb dX12_isKept_97 rfl (lv_at hl 1 rfl) ?_
    refine sk_get (v := .long wy) (C := RX12) (T := TX12) (N := 92) hx hb hts inlX12 hown hK hP 0 rfl rfl 45 (by decide) w_5_200 rfl dX12_isKept_98 ?_
    refine lv_l2i hx hb dX12_isKept_101 rfl ?_
    refine sk_top (nI nn) (by rw [hwyn]; exact kw_l2i hnn9) ?_
    refine sk_iastE (k := (30 + (3 * (min (ke + 1) 30)) - 3 + 1)) (x := (nI nn)) (ws' := fun f_5 => [(mm, .inr (12, mo g (nI ta) (nI pa) (nI pe) pd (nI pb) pp pf pg pn rt rn (nI cd) sn (nI il) tk am at_ aa 0 0 (-1) wt wy 0 (nI rm) (nI ud) (nI nu) sd (nI qn) (nI qw) qo (nI qb) (nI qp) qa (nI qi) (nI oc))), (g 20, .inl (cI, 4, .inl (l4 (nI l0) (nI l1) (nI dm) (nI l3)))), (g 31, .inl (cI, 120, .inl f_5)), (g 46, .inl (cI, 9, .inl (fun j => nI (pt j))))]) hx hb hK hP hD hS 2 0 rfl rfl (by omega) (by omega) (fun _ => rfl) dX12_isKept_102 (fun f_5 H locs ef_6 hP hD hS => ?_)
    refine lv_aload_n hx hb dX12_isKept_103 rfl (lv_at hl 1 rfl) ?_
    refine sk_get (v := .ref (g 31)) (C := RX12) (T := TX12) (N := 92) hx hb hts inlX12 hown hK hP 0 rfl rfl 31 (by decide) w_5_186 rfl dX12_isKept_104 ?_
    refine lv_iload_n hx hb dX12_isKept_107 rfl (lv_at hl 0 rfl) ?_
    refine lv_iconst (v := 2) hx hb dX12_isKept_108 (by decide) ?_
    refine lv_iadd hx hb dX12_isKept_109 ?_
    refine sk_top (nI (30 + (3 * (min (ke + 1) 30)) - 3 + 2)) (nI_add (30 + (3 * (min (ke + 1) 30)) - 3) 2) ?_
    refine lv_aload_n hx hb dX12_isKept_110 rfl (lv_at hl 1 rfl) ?_
    refine sk_get (v := .ref (g 46)) (C := RX12) (T := TX12) (N := 92) hx hb hts inlX12 hown hK hP 0 rfl rfl 46 (by decide) w_5_201 rfl dX12_isKept_111 ?_
    refine lv_aload_n hx hb dX12_isKept_114 rfl (lv_at hl 1 rfl) ?_
    refine sk_Vi (q0 := 0) (n := 0) (rest := [.ref (g 46), .int (nI (30 + (3 * (min (ke + 1) 30)) - 3 + 2)), .ref (g 31)]) (wr := [(g 31, .inl (cI, 120, .inl f_5)), (g 46, .inl (cI, 9, .inl (fun j => nI (pt j))))]) ⟨hx, hb, hml, hown, hts⟩ hl.1 (c_m_dayMany l D cI cJ cC cZ cS mm g ta pa pe pd pb pp pf pg pn rt rn cd sn il tk am at_ aa 0 0 (-1) wt wy 0 rm ud nu sd qn qw qo qb qp qa qi oc l0 l1 dm l3) w_7_98 w_7_100 w_0_69 w_1_14 w_7_101 (by decide +kernel) ⟨⟨(Nat.le_of_ble_eq_true rfl), (Nat.le_of_ble_eq_true rfl)⟩, (Nat.le_of_ble_eq_true rfl), (Nat.le_of_ble_eq_true rfl)⟩ hK hP hD hS hA [0, 1] [2, 3] rfl rfl (by decide +kernel) (by decide +kernel) (by decide +kernel) rfl rfl rfl rfl (Nat.le_of_ble_eq_true rfl) dX12_isKept_115 (fun r_7 u H locs hw hP hD hS => ?_)
    obtain ⟨rfl, rfl⟩ := hw
    have hP : va_P D vwCl [(g 31, .inl (cI, 120, .inl f_5)), (g 46, .inl (cI, 9, .inl (fun j => nI (pt j)))), (mm, .inr (12, mo g (nI ta) (nI pa) (nI pe) pd (nI pb) pp pf pg pn rt rn (nI cd) sn (nI il) tk am at_ aa 0 0 (-1) wt wy 0 (nI rm) (nI ud) (nI nu) sd (nI qn) (nI qw) qo (nI qb) (nI qp) qa (nI qi) (nI oc))), (g 20, .inl (cI, 4, .inl (l4 (nI l0) (nI l1) (nI dm) (nI l3))))] H := hP
    have hD : va_D A [(g 31, .inl (cI, 120, .inl f_5)), (g 46, .inl (cI, 9, .inl (fun j => nI (pt j)))), (mm, .inr (12, mo g (nI ta) (nI pa) (nI pe) pd (nI pb) pp pf pg pn rt rn (nI cd) sn (nI il) tk am at_ aa 0 0 (-1) wt wy 0 (nI rm) (nI ud) (nI nu) sd (nI qn) (nI qw) qo (nI qb) (nI qp) qa (nI qi) (nI oc))), (g 20, .inl (cI, 4, .inl (l4 (nI l0) (nI l1) (nI dm) (nI l3))))] := hD
    refine lv_iconst (v := 1) hx hb dX12_isKept_118 (by decide) ?_
    refine lv_isub hx hb dX12_isKept_119 ?_
    refine sk_top (nI (dm - 1)) (nsub dm 1 (by omega)) ?_
    refine va_iald hx hb hK.1 hP 1 0 rfl rfl (vin (dm - 1) 9 (by omega) (by omega)) dX12_isKept_120 ?_
    refine sk_top (nI (pt (dm - 1))) (nrd pt (dm - 1) (by omega)) ?_
    have hb_8 := hpt (dm - 1)
    refine sk_iastE (k := (30 + (3 * (min (ke + 1) 30)) - 3 + 2)) (x := (nI (pt (dm - 1)))) (ws' := fun f_9 => [(g 31, .inl (cI, 120, .inl f_9)), (g 46, .inl (cI, 9, .inl (fun j => nI (pt j)))), (mm, .inr (12, mo g (nI ta) (nI pa) (nI pe) pd (nI pb) pp pf pg pn rt rn (nI cd) sn (nI il) tk am at_ aa 0 0 (-1) wt wy 0 (nI rm) (nI ud) (nI nu) sd (nI qn) (nI qw) qo (nI qb) (nI qp) qa (nI qi) (nI oc))), (g 20, .inl (cI, 4, .inl (l4 (nI l0) (nI l1) (nI dm) (nI l3))))]) hx hb hK hP hD hS 0 0 rfl rfl (by omega) (by omega) (fun _ => rfl) dX12_isKept_121 (fun f_9 H locs ef_10 hP hD hS => ?_)
    have hfin := nwT_3 hT ef_4 ef_6 ef_10 (by omega)
    have hP := hP.sub (ws' := [(mm, .inr (12, mo g (nI ta) (nI pa) (nI pe) pd (nI pb) pp pf pg pn rt rn (nI cd) sn (nI il) tk am at_ aa 0 0 (-1) wt wy 0 (nI rm) (nI ud) (nI nu) sd (nI qn) (nI qw) qo (nI qb) (nI qp) qa (nI qi) (nI oc))), (g 20, .inl (cI, 4, .inl (l4 (nI l0) (nI l1) (nI dm) (nI l3)))), (g 31, .inl (cI, 120, .inl f_9)), (g 46, .inl (cI, 9, .inl (fun j => nI (pt j))))]) [2, 3, 0, 1] rfl
    have hD := hD.sub (ws' := [(mm, .inr (12, mo g (nI ta) (nI pa) (nI pe) pd (nI pb) pp pf pg pn rt rn (nI cd) sn (nI il) tk am at_ aa 0 0 (-1) wt wy 0 (nI rm) (nI ud) (nI nu) sd (nI qn) (nI qw) qo (nI qb) (nI qp) qa (nI qi) (nI oc))), (g 20, .inl (cI, 4, .inl (l4 (nI l0) (nI l1) (nI dm) (nI l3)))), (g 31, .inl (cI, 120, .inl f_9)), (g 46, .inl (cI, 9, .inl (fun j => nI (pt j))))]) [2, 3, 0, 1] (by decide +kernel) rfl
    exact sk_vret hx hb hr hlocks hK hP hD hS (⟨f_9, hfin, rfl⟩) (Nat.le_of_ble_eq_true rfl) (Nat.le_of_ble_eq_true rfl) dX12_isKept_122
  refine lv_aload_n hx hb dX12_isKept_8 rfl (lv_at hl 0 rfl) ?_
  refine sk_get (v := .ref (g 31)) (C := RX12) (T := TX12) (N := 92) hx hb hts inlX12 hown hK hP 0 rfl rfl 31 (by decide) w_5_186 rfl dX12_isKept_9 ?_
  refine lv_bipush (v := 29) hx hb dX12_isKept_12 (by decide) ?_
  refine va_iald hx hb hK.1 hP 2 0 rfl rfl (by unfold vp_in; decide) dX12_isKept_14 ?_
  refine sk_top (nI (min ke 30)) (nwX_29 hnw) ?_
  refine lv_bipush (v := 30) hx hb dX12_isKept_15 (by decide) ?_
  refine lv_icmp_ne (tgt := 52) hx hb dX12_isKept_17 (by decide) (fun c_11 => ?_) (fun c_11 => ?_)
  · have c_11 : ¬ (min ke 30 = 30) := fun h => c_11 ((neq (min ke 30) 30 (by omega) (by omega)).mpr h)
    refine lv_aload_n hx hb dX12_isKept_52 rfl (lv_at hl 0 rfl) ?_
    refine sk_get (v := .ref (g 31)) (C := RX12) (T := TX12) (N := 92) hx hb hts inlX12 hown hK hP 0 rfl rfl 31 (by decide) w_5_186 rfl dX12_isKept_53 ?_
    refine lv_bipush (v := 29) hx hb dX12_isKept_56 (by decide) ?_
    refine lv_dup2_11 hx hb dX12_isKept_58 rfl rfl ?_
    refine va_iald hx hb hK.1 hP 2 0 rfl rfl (by unfold vp_in; decide) dX12_isKept_59 ?_
    refine sk_top (nI (min ke 30)) (nwX_29 hnw) ?_
    refine lv_iconst (v := 1) hx hb dX12_isKept_60 (by decide) ?_
    refine lv_iadd hx hb dX12_isKept_61 ?_
    refine sk_top (nI (min ke 30 + 1)) (nI_add (min ke 30) 1) ?_
    refine sk_iastE (k := 29) (x := (nI (min ke 30 + 1))) (ws' := fun f_12 => [(mm, .inr (12, mo g (nI ta) (nI pa) (nI pe) pd (nI pb) pp pf pg pn rt rn (nI cd) sn (nI il) tk am at_ aa 0 0 (-1) wt wy 0 (nI rm) (nI ud) (nI nu) sd (nI qn) (nI qw) qo (nI qb) (nI qp) qa (nI qi) (nI oc))), (g 20, .inl (cI, 4, .inl (l4 (nI l0) (nI l1) (nI dm) (nI l3)))), (g 31, .inl (cI, 120, .inl f_12)), (g 46, .inl (cI, 9, .inl (fun j => nI (pt j))))]) hx hb hK hP hD hS 2 0 rfl rfl (by omega) (by omega) (fun _ => rfl) dX12_isKept_62 (fun f_12 H locs ef_13 hP hD hS => ?_)
    have hT_14 := nwT_up hnw ef_13 rfl (by omega)
    exact jn_2 f_12 _ _ _ hT_14 hP hD hS (lv_sub hl [0] rfl)
  · have c_11 : min ke 30 = 30 := (neq (min ke 30) 30 (by omega) (by omega)).mp c_11
    refine lv_bipush (v := 30) hx hb dX12_isKept_20 (by decide) ?_
    refine lv_istore_n (lv' := [(1, .int 30), (0, .ref mm)]) hx hb dX12_isKept_22 rfl hl (by decide) rfl (fun ls hl => ?_)
    have lp_15 : ∀ (n_16 : Nat) (i : Nat) (zn : Nat → Int32) (H : Heap) (locs : List Loc) (ls : Array Slot), 117 - i < n_16 → (i ≤ 117) → (30 ≤ i) → (nwS wn mN Ba We U ke lg i zn) → va_P D vwCl [(mm, .inr (12, mo g (nI ta) (nI pa) (nI pe) pd (nI pb) pp pf pg pn rt rn (nI cd) sn (nI il) tk am at_ aa 0 0 (-1) wt wy 0 (nI rm) (nI ud) (nI nu) sd (nI qn) (nI qw) qo (nI qb) (nI qp) qa (nI qi) (nI oc))), (g 20, .inl (cI, 4, .inl (l4 (nI l0) (nI l1) (nI dm) (nI l3)))), (g 31, .inl (cI, 120, .inl zn)), (g 46, .inl (cI, 9, .inl (fun j => nI (pt j))))] H → va_D A [(mm, .inr (12, mo g (nI ta) (nI pa) (nI pe) pd (nI pb) pp pf pg pn rt rn (nI cd) sn (nI il) tk am at_ aa 0 0 (-1) wt wy 0 (nI rm) (nI ud) (nI nu) sd (nI qn) (nI qw) qo (nI qb) (nI qp) qa (nI qi) (nI oc))), (g 20, .inl (cI, 4, .inl (l4 (nI l0) (nI l1) (nI dm) (nI l3)))), (g 31, .inl (cI, 120, .inl zn)), (g 46, .inl (cI, 9, .inl (fun j => nI (pt j))))] → va_S A s.heap H locs → lv_has ls 2 [(1, .int (nI i)), (0, .ref mm)] → W p l e { frames := 1, cells := 0, slots := 0, locals := 20 } s m ([.ref mm] : List Value).toArray below meth c H locs 0 0 (MQ below (skV D (skT cI cJ cC cZ cS) (fun (u : va_W) => ∃ (nw2 : Nat → Int32), nwX wn mN Ba We U (ke + 1) (updG lg ke (wn, nn, pt (dm - 1))) nw2 ∧ u = [(mm, .inr (12, mo g (nI ta) (nI pa) (nI pe) pd (nI pb) pp pf pg pn rt rn (nI cd) sn (nI il) tk am at_ aa 0 0 (-1) wt wy 0 (nI rm) (nI ud) (nI nu) sd (nI qn) (nI qw) qo (nI qb) (nI qp) qa (nI qi) (nI oc))), (g 20, .inl (cI, 4, .inl (l4 (nI l0) (nI l1) (nI dm) (nI l3)))), (g 31, .inl (cI, 120, .inl nw2)), (g 46, .inl (cI, 9, .inl (fun j => nI (pt j))))]) A) ([.ref mm] : List Value).toArray s 0 0 A) (F0 m 23 ls []) := by
      intro n_16
      induction n_16 with
      | zero => intro i zn H locs ls hm; exact absurd hm (Nat.not_lt_zero _)
      | succ n_16 ih_lp_15 =>
        intro i zn H locs ls hm hi hi0 hsn hP hD hS hl
        refine lv_iload_n hx hb dX12_isKept_23 rfl (lv_at hl 0 rfl) ?_
        refine lv_bipush (v := 117) hx hb dX12_isKept_24 (by decide) ?_
        refine lv_icmp_ge (tgt := 49) hx hb dX12_isKept_26 (by decide) (fun c_17 => ?_) (fun c_17 => ?_)
        · have c_17 : 117 ≤ i := (nle 117 i (by omega) (by omega)).mp c_17
          have hT0 := nwT_of (show nwS wn mN Ba We U ke lg 117 zn by rw [show 117 = i by omega]; exact hsn) (by omega)
          refine lv_goto (tgt := 63) hx hb dX12_isKept_49 (by decide) ?_
          exact jn_2 zn _ _ _ hT0 hP hD hS (lv_sub hl [1] rfl)
        · have c_17 : ¬ (117 ≤ i) := fun h => c_17 ((nle 117 i (by omega) (by omega)).mpr h)
          refine lv_aload_n hx hb dX12_isKept_29 rfl (lv_at hl 1 rfl) ?_
          refine sk_get (v := .ref (g 31)) (C := RX12) (T := TX12) (N := 92) hx hb hts inlX12 hown hK hP 0 rfl rfl 31 (by decide) w_5_186 rfl dX12_isKept_30 ?_
          refine lv_iload_n hx hb dX12_isKept_33 rfl (lv_at hl 0 rfl) ?_
          refine lv_aload_n hx hb dX12_isKept_34 rfl (lv_at hl 1 rfl) ?_
          refine sk_get (v := .ref (g 31)) (C := RX12) (T := TX12) (N := 92) hx hb hts inlX12 hown hK hP 0 rfl rfl 31 (by decide) w_5_186 rfl dX12_isKept_35 ?_
          refine lv_iload_n hx hb dX12_isKept_38 rfl (lv_at hl 0 rfl) ?_
          refine lv_iconst (v := 3) hx hb dX12_isKept_39 (by decide) ?_
          refine lv_iadd hx hb dX12_isKept_40 ?_
          refine sk_top (nI (i + 3)) (nI_add i 3) ?_
          refine va_iald hx hb hK.1 hP 2 0 rfl rfl (vin (i + 3) 120 (by omega) (by omega)) dX12_isKept_41 ?_
          refine sk_top (zn (i + 3)) (by rw [nI_clamp (by omega)]) ?_
          refine sk_iastE (k := i) (x := (zn (i + 3))) (ws' := fun f_18 => [(mm, .inr (12, mo g (nI ta) (nI pa) (nI pe) pd (nI pb) pp pf pg pn rt rn (nI cd) sn (nI il) tk am at_ aa 0 0 (-1) wt wy 0 (nI rm) (nI ud) (nI nu) sd (nI qn) (nI qw) qo (nI qb) (nI qp) qa (nI qi) (nI oc))), (g 20, .inl (cI, 4, .inl (l4 (nI l0) (nI l1) (nI dm) (nI l3)))), (g 31, .inl (cI, 120, .inl f_18)), (g 46, .inl (cI, 9, .inl (fun j => nI (pt j))))]) hx hb hK hP hD hS 2 0 rfl rfl (by omega) (by omega) (fun _ => rfl) dX12_isKept_42 (fun f_18 H locs ef_19 hP hD hS => ?_)
          refine lv_iinc (v := nI (i + 1)) (lv' := [(1, .int (nI (i + 1))), (0, .ref mm)]) hx hb dX12_isKept_43 hl (k := 0) rfl (ninc i 1 (by decide)) (by decide) rfl (fun ls hl => ?_)
          refine lv_goto (tgt := 23) hx hb dX12_isKept_46 (by decide) ?_
          exact ih_lp_15 (i + 1) f_18 _ _ _ (by omega) (by omega) (by omega) (nwS_s hsn ef_19 rfl hi0 (by omega)) hP hD hS (lv_sub hl [0, 1] rfl)
    exact lp_15 (117 - 30 + 1) 30 nw _ _ _ (Nat.lt_succ_self _) (by omega) (by omega) (nwS_0 hnw (by omega)) hP hD hS (lv_sub hl [0, 1] rfl)
theorem dX12_goesBy_0 : decode cX12_goesBy 0 = .ok (.aload_n 0, 1) := by decide +kernel
theorem dX12_goesBy_1 : decode cX12_goesBy 1 = .ok (.lload_n 1, 1) := by decide +kernel
theorem dX12_goesBy_2 : decode cX12_goesBy 2 = .ok (.invokevirtual 394, 3) := by decide +kernel
theorem dX12_goesBy_5 : decode cX12_goesBy 5 = .ok (.aload_n 0, 1) := by decide +kernel
theorem dX12_goesBy_6 : decode cX12_goesBy 6 = .ok (.invokevirtual 397, 3) := by decide +kernel
theorem dX12_goesBy_9 : decode cX12_goesBy 9 = .ok (.aload_n 0, 1) := by decide +kernel
theorem dX12_goesBy_10 : decode cX12_goesBy 10 = .ok (.getfield 63, 3) := by decide +kernel
theorem dX12_goesBy_13 : decode cX12_goesBy 13 = .ok (.iconst 1, 1) := by decide +kernel
theorem dX12_goesBy_14 : decode cX12_goesBy 14 = .ok (.aload_n 0, 1) := by decide +kernel
theorem dX12_goesBy_15 : decode cX12_goesBy 15 = .ok (.getfield 89, 3) := by decide +kernel
theorem dX12_goesBy_18 : decode cX12_goesBy 18 = .ok (.aload_n 0, 1) := by decide +kernel
theorem dX12_goesBy_19 : decode cX12_goesBy 19 = .ok (.invokevirtual 315, 3) := by decide +kernel
theorem dX12_goesBy_22 : decode cX12_goesBy 22 = .ok (.iconst 1, 1) := by decide +kernel
theorem dX12_goesBy_23 : decode cX12_goesBy 23 = .ok (.isub, 1) := by decide +kernel
theorem dX12_goesBy_24 : decode cX12_goesBy 24 = .ok (.iaload, 1) := by decide +kernel
theorem dX12_goesBy_25 : decode cX12_goesBy 25 = .ok (.iastore, 1) := by decide +kernel
theorem dX12_goesBy_26 : decode cX12_goesBy 26 = .ok (.aload_n 0, 1) := by decide +kernel
theorem dX12_goesBy_27 : decode cX12_goesBy 27 = .ok (.getfield 63, 3) := by decide +kernel
theorem dX12_goesBy_30 : decode cX12_goesBy 30 = .ok (.iconst 0, 1) := by decide +kernel
theorem dX12_goesBy_31 : decode cX12_goesBy 31 = .ok (.dup2, 1) := by decide +kernel
theorem dX12_goesBy_32 : decode cX12_goesBy 32 = .ok (.iaload, 1) := by decide +kernel
theorem dX12_goesBy_33 : decode cX12_goesBy 33 = .ok (.iconst 1, 1) := by decide +kernel
theorem dX12_goesBy_34 : decode cX12_goesBy 34 = .ok (.iadd, 1) := by decide +kernel
theorem dX12_goesBy_35 : decode cX12_goesBy 35 = .ok (.iastore, 1) := by decide +kernel
theorem dX12_goesBy_36 : decode cX12_goesBy 36 = .ok (.return_, 1) := by decide +kernel
theorem w_8_21 : (Cond.methodLink RX12 397 yX12_isKept) ∈ wsL_law := sk_mem (ck_8 _ (List.mem_of_getElem? (i := 21) rfl)) rfl
theorem w_8_23 : (Cond.instanceMethod yX12_isKept) ∈ wsL_law := sk_mem (ck_8 _ (List.mem_of_getElem? (i := 23) rfl)) rfl
theorem w_0_94 : (Cond.selects RX12 yX12_isKept yX12_isKept) ∈ wsL_law := sk_mem (ck_0 _ (List.mem_of_getElem? (i := 94) rfl)) rfl
theorem w_8_20 : (Cond.code yX12_goesBy cX12_goesBy 3 none) ∈ wsL_law := sk_mem (ck_8 _ (List.mem_of_getElem? (i := 20) rfl)) rfl
set_option maxHeartbeats 4000000 in
set_option maxRecDepth 100000 in
theorem c_nm_goesBy0 (l : Launch) (D : va_G) (cI cJ cC cZ cS : ClassId) (mm : Nat) (g : Nat → Nat) (ta : Nat) (pa : Nat) (pe : Nat) (pd : Int32) (pb : Nat) (pp : Int32) (pf : Int32) (pg : Int32) (pn : Int32) (rt : Int32) (rn : Int32) (cd : Nat) (sn : Int32) (il : Nat) (tk : Int32) (am : Int32) (at_ : Int32) (aa : Int32) (wt : Int32) (wy : Int64) (rm : Nat) (ud : Nat) (nu : Nat) (sd : Int64) (qn : Nat) (qw : Nat) (qo : Int32) (qb : Nat) (qp : Nat) (qa : Int64) (qi : Nat) (oc : Nat) (l0 : Nat) (l1 : Nat) (dm : Nat) (l3 : Nat) (nw : Nat → Int32) (yo : Nat → Int32) (yw : Nat → Int32) (be : Nat → Int64) (pt : Nat → Nat) (wn : Nat) (mN : Nat) (Ba : Nat → Nat) (We : Nat → Nat) (U : Nat → Bool) (ke : Nat) (lg : KLg) (L : LkS) (nz : Nat) (hdm : dm ≤ 9) (hdm1 : 1 ≤ dm) (hbe : beOk (cfN nw yw yo 0) dm 0 be) (hcf : ∀ d, d < dm → ∀ a m, a < 10 → m < 10 → (cfN nw yw yo 0) d a m = (kcFo L wn Ba We U 0) d a m) (hwy : wy = Int64.ofNat (kcC (kcFo L wn Ba We U 0) dm 0 mN)) (hnx : nz < kcC (kcFo L wn Ba We U 0) dm 0 mN) (hnw : nwX wn mN Ba We U ke lg nw) (hpt : ∀ j, pt j ≤ 9) : skM l yX12_goesBy cX12_goesBy 3 none 4 91 0 0 D (skT cI cJ cC cZ cS) [.ref mm, .long (nL nz)] [(mm, .inr (12, mo g (nI ta) (nI pa) (nI pe) pd (nI pb) pp pf pg pn rt rn (nI cd) sn (nI il) tk am at_ aa 0 0 (-1) wt wy 0 (nI rm) (nI ud) (nI nu) sd (nI qn) (nI qw) qo (nI qb) (nI qp) qa (nI qi) (nI oc))), (g 20, .inl (cI, 4, .inl (l4 (nI l0) (nI l1) (nI dm) (nI l3)))), (g 31, .inl (cI, 120, .inl nw)), (g 37, .inl (cZ, 900, .inl yo)), (g 36, .inl (cZ, 900, .inl yw)), (g 43, .inl (cJ, 90, .inr (.inl be))), (g 46, .inl (cI, 9, .inl (fun j => nI (pt j))))] (skV D (skT cI cJ cC cZ cS) (fun (u : va_W) => ∃ (nw2 : Nat → Int32), ∃ (pt2 : Nat → Nat), nwX (wn + 1) (kLast L dm (wn, mN, Ba, We, U, ke) nz) Ba We U (ke + 1) (kKeep L dm (wn, mN, Ba, We, U, ke) lg nz) nw2 ∧ (∀ j, pt2 j ≤ 9) ∧ u = [(mm, .inr (12, mo g (nI ta) (nI pa) (nI pe) pd (nI pb) pp pf pg pn rt rn (nI cd) sn (nI il) tk am at_ aa 0 0 (-1) wt wy 0 (nI rm) (nI ud) (nI nu) sd (nI qn) (nI qw) qo (nI qb) (nI qp) qa (nI qi) (nI oc))), (g 20, .inl (cI, 4, .inl (l4 (nI l0) (nI l1) (nI dm) (nI l3)))), (g 31, .inl (cI, 120, .inl nw2)), (g 37, .inl (cZ, 900, .inl yo)), (g 36, .inl (cZ, 900, .inl yw)), (g 43, .inl (cJ, 90, .inr (.inl be))), (g 46, .inl (cI, 9, .inl (fun j => nI (pt2 j))))])) := by
  refine skM_of (by decide +kernel) (Nat.le_of_ble_eq_true rfl) ?_
  intro p e s m below meth c A ls E hP hD hl
  obtain ⟨hx, hb, hr, hml, hlocks, hin, hown, hts, hK, hA⟩ := E
  have hown : s.vm.findClass RX12 = some m.cls := hown
  have hS : va_S A s.heap s.heap [] := va_S.rf
  have hl : lv_has ls 3 [(0, .ref mm), (1, .long (nL nz))] := hl
  refine lv_aload_n hx hb dX12_goesBy_0 rfl (lv_at hl 0 rfl) ?_
  refine lv_lload_n hx hb dX12_goesBy_1 rfl (lv_at hl 1 rfl) ?_
  refine sk_Vv (q0 := 0) (n := 1) (rest := []) (wr := []) ⟨hx, hb, hml, hown, hts⟩ hl.1 (c_nm_walksTo l D cI cJ cC cZ cS mm g ta pa pe pd pb pp pf pg pn rt rn cd sn il tk am at_ aa 0 wt wy 0 rm ud nu sd qn qw qo qb qp qa qi oc l0 l1 dm l3 nw yo yw be pt nz (by omega) (by omega) hbe (nuX hcf (nwX_a0 hnw) hnw.1 hnx) (nwX_ok hnw) hpt) w_7_217 w_7_219 w_0_88 w_1_14 w_7_220 (by decide +kernel) ⟨⟨(Nat.le_of_ble_eq_true rfl), (Nat.le_of_ble_eq_true rfl)⟩, (Nat.le_of_ble_eq_true rfl), (Nat.le_of_ble_eq_true rfl)⟩ hK hP hD hS hA [0, 1, 2, 3, 4, 5, 6] [] rfl rfl (by decide +kernel) (by decide +kernel) (by decide +kernel) rfl rfl rfl rfl (Nat.le_of_ble_eq_true rfl) dX12_goesBy_2 (fun u H locs hw hP hD hS => ?_)
  obtain ⟨pt2_1, hpw_2, hpt2_3, rfl⟩ := hw
  have hP : va_P D vwCl [(mm, .inr (12, mo g (nI ta) (nI pa) (nI pe) pd (nI pb) pp pf pg pn rt rn (nI cd) sn (nI il) tk am at_ aa 0 0 (-1) wt wy 0 (nI rm) (nI ud) (nI nu) sd (nI qn) (nI qw) qo (nI qb) (nI qp) qa (nI qi) (nI oc))), (g 20, .inl (cI, 4, .inl (l4 (nI l0) (nI l1) (nI dm) (nI l3)))), (g 31, .inl (cI, 120, .inl nw)), (g 37, .inl (cZ, 900, .inl yo)), (g 36, .inl (cZ, 900, .inl yw)), (g 43, .inl (cJ, 90, .inr (.inl be))), (g 46, .inl (cI, 9, .inl (fun j => nI (pt2_1 j))))] H := hP
  have hD : va_D A [(mm, .inr (12, mo g (nI ta) (nI pa) (nI pe) pd (nI pb) pp pf pg pn rt rn (nI cd) sn (nI il) tk am at_ aa 0 0 (-1) wt wy 0 (nI rm) (nI ud) (nI nu) sd (nI qn) (nI qw) qo (nI qb) (nI qp) qa (nI qi) (nI oc))), (g 20, .inl (cI, 4, .inl (l4 (nI l0) (nI l1) (nI dm) (nI l3)))), (g 31, .inl (cI, 120, .inl nw)), (g 37, .inl (cZ, 900, .inl yo)), (g 36, .inl (cZ, 900, .inl yw)), (g 43, .inl (cJ, 90, .inr (.inl be))), (g 46, .inl (cI, 9, .inl (fun j => nI (pt2_1 j))))] := hD
  have hpx := mpX hcf (nwX_a0 hnw) hnw.1 hnx hpw_2
  refine lv_aload_n hx hb dX12_goesBy_5 rfl (lv_at hl 0 rfl) ?_
  refine sk_Vv (q0 := 0) (n := 0) (rest := []) (wr := [(g 37, .inl (cZ, 900, .inl yo)), (g 36, .inl (cZ, 900, .inl yw)), (g 43, .inl (cJ, 90, .inr (.inl be)))]) ⟨hx, hb, hml, hown, hts⟩ hl.1 (c_nm_isKept l D cI cJ cC cZ cS mm g ta pa pe pd pb pp pf pg pn rt rn cd sn il tk am at_ aa wt wy rm ud nu sd qn qw qo qb qp qa qi oc l0 l1 dm l3 nw pt2_1 wn mN Ba We U ke lg (kcC (kcFo L wn Ba We U 0) dm 0 mN) (by omega) (by omega) hwy (kcC_9 _ (show dm ≤ 9 by omega) _ _) hnw hpt2_3) w_8_21 w_8_23 w_0_94 w_1_14 w_8_24 (by decide +kernel) ⟨⟨(Nat.le_of_ble_eq_true rfl), (Nat.le_of_ble_eq_true rfl)⟩, (Nat.le_of_ble_eq_true rfl), (Nat.le_of_ble_eq_true rfl)⟩ hK hP hD hS hA [0, 1, 2, 6] [3, 4, 5] rfl rfl (by decide +kernel) (by decide +kernel) (by decide +kernel) rfl rfl rfl rfl (Nat.le_of_ble_eq_true rfl) dX12_goesBy_6 (fun u H locs hw hP hD hS => ?_)
  obtain ⟨nw2_4, hnw2_5, rfl⟩ := hw
  have hP : va_P D vwCl [(g 37, .inl (cZ, 900, .inl yo)), (g 36, .inl (cZ, 900, .inl yw)), (g 43, .inl (cJ, 90, .inr (.inl be))), (mm, .inr (12, mo g (nI ta) (nI pa) (nI pe) pd (nI pb) pp pf pg pn rt rn (nI cd) sn (nI il) tk am at_ aa 0 0 (-1) wt wy 0 (nI rm) (nI ud) (nI nu) sd (nI qn) (nI qw) qo (nI qb) (nI qp) qa (nI qi) (nI oc))), (g 20, .inl (cI, 4, .inl (l4 (nI l0) (nI l1) (nI dm) (nI l3)))), (g 31, .inl (cI, 120, .inl nw2_4)), (g 46, .inl (cI, 9, .inl (fun j => nI (pt2_1 j))))] H := hP
  have hD : va_D A [(g 37, .inl (cZ, 900, .inl yo)), (g 36, .inl (cZ, 900, .inl yw)), (g 43, .inl (cJ, 90, .inr (.inl be))), (mm, .inr (12, mo g (nI ta) (nI pa) (nI pe) pd (nI pb) pp pf pg pn rt rn (nI cd) sn (nI il) tk am at_ aa 0 0 (-1) wt wy 0 (nI rm) (nI ud) (nI nu) sd (nI qn) (nI qw) qo (nI qb) (nI qp) qa (nI qi) (nI oc))), (g 20, .inl (cI, 4, .inl (l4 (nI l0) (nI l1) (nI dm) (nI l3)))), (g 31, .inl (cI, 120, .inl nw2_4)), (g 46, .inl (cI, 9, .inl (fun j => nI (pt2_1 j))))] := hD
  have hpl : pt2_1 (dm - 1) = kLast L dm (wn, mN, Ba, We, U, ke) nz := hpx (dm - 1) (by omega)
  refine lv_aload_n hx hb dX12_goesBy_9 rfl (lv_at hl 0 rfl) ?_
  refine sk_get (v := .ref (g 31)) (C := RX12) (T := TX12) (N := 92) hx hb hts inlX12 hown hK hP 3 rfl rfl 31 (by decide) w_5_186 rfl dX12_goesBy_10 ?_
  refine lv_iconst (v := 1) hx hb dX12_goesBy_13 (by decide) ?_
  refine lv_aload_n hx hb dX12_goesBy_14 rfl (lv_at hl 0 rfl) ?_
  refine sk_get (v := .ref (g 46)) (C := RX12) (T := TX12) (N := 92) hx hb hts inlX12 hown hK hP 3 rfl rfl 46 (by decide) w_5_201 rfl dX12_goesBy_15 ?_
  refine lv_aload_n hx hb dX12_goesBy_18 rfl (lv_at hl 0 rfl) ?_
  refine sk_Vi (q0 := 0) (n := 0) (rest := [.ref (g 46), .int 1, .ref (g 31)]) (wr := [(g 37, .inl (cZ, 900, .inl yo)), (g 36, .inl (cZ, 900, .inl yw)), (g 43, .inl (cJ, 90, .inr (.inl be))), (g 31, .inl (cI, 120, .inl nw2_4)), (g 46, .inl (cI, 9, .inl (fun j => nI (pt2_1 j))))]) ⟨hx, hb, hml, hown, hts⟩ hl.1 (c_m_dayMany l D cI cJ cC cZ cS mm g ta pa pe pd pb pp pf pg pn rt rn cd sn il tk am at_ aa 0 0 (-1) wt wy 0 rm ud nu sd qn qw qo qb qp qa qi oc l0 l1 dm l3) w_7_98 w_7_100 w_0_69 w_1_14 w_7_101 (by decide +kernel) ⟨⟨(Nat.le_of_ble_eq_true rfl), (Nat.le_of_ble_eq_true rfl)⟩, (Nat.le_of_ble_eq_true rfl), (Nat.le_of_ble_eq_true rfl)⟩ hK hP hD hS hA [3, 4] [0, 1, 2, 5, 6] rfl rfl (by decide +kernel) (by decide +kernel) (by decide +kernel) rfl rfl rfl rfl (Nat.le_of_ble_eq_true rfl) dX12_goesBy_19 (fun r_6 u H locs hw hP hD hS => ?_)
  obtain ⟨rfl, rfl⟩ := hw
  have hP : va_P D vwCl [(g 37, .inl (cZ, 900, .inl yo)), (g 36, .inl (cZ, 900, .inl yw)), (g 43, .inl (cJ, 90, .inr (.inl be))), (g 31, .inl (cI, 120, .inl nw2_4)), (g 46, .inl (cI, 9, .inl (fun j => nI (pt2_1 j)))), (mm, .inr (12, mo g (nI ta) (nI pa) (nI pe) pd (nI pb) pp pf pg pn rt rn (nI cd) sn (nI il) tk am at_ aa 0 0 (-1) wt wy 0 (nI rm) (nI ud) (nI nu) sd (nI qn) (nI qw) qo (nI qb) (nI qp) qa (nI qi) (nI oc))), (g 20, .inl (cI, 4, .inl (l4 (nI l0) (nI l1) (nI dm) (nI l3))))] H := hP
  have hD : va_D A [(g 37, .inl (cZ, 900, .inl yo)), (g 36, .inl (cZ, 900, .inl yw)), (g 43, .inl (cJ, 90, .inr (.inl be))), (g 31, .inl (cI, 120, .inl nw2_4)), (g 46, .inl (cI, 9, .inl (fun j => nI (pt2_1 j)))), (mm, .inr (12, mo g (nI ta) (nI pa) (nI pe) pd (nI pb) pp pf pg pn rt rn (nI cd) sn (nI il) tk am at_ aa 0 0 (-1) wt wy 0 (nI rm) (nI ud) (nI nu) sd (nI qn) (nI qw) qo (nI qb) (nI qp) qa (nI qi) (nI oc))), (g 20, .inl (cI, 4, .inl (l4 (nI l0) (nI l1) (nI dm) (nI l3))))] := hD
  refine lv_iconst (v := 1) hx hb dX12_goesBy_22 (by decide) ?_
  refine lv_isub hx hb dX12_goesBy_23 ?_
  refine sk_top (nI (dm - 1)) (nsub dm 1 (by omega)) ?_
  refine va_iald hx hb hK.1 hP 4 0 rfl rfl (vin (dm - 1) 9 (by omega) (by omega)) dX12_goesBy_24 ?_
  refine sk_top (nI (pt2_1 (dm - 1))) (nrd pt2_1 (dm - 1) (by omega)) ?_
  have hb_7 := hpt2_3 (dm - 1)
  refine sk_iastE (k := 1) (x := (nI (pt2_1 (dm - 1)))) (ws' := fun f_8 => [(g 37, .inl (cZ, 900, .inl yo)), (g 36, .inl (cZ, 900, .inl yw)), (g 43, .inl (cJ, 90, .inr (.inl be))), (g 31, .inl (cI, 120, .inl f_8)), (g 46, .inl (cI, 9, .inl (fun j => nI (pt2_1 j)))), (mm, .inr (12, mo g (nI ta) (nI pa) (nI pe) pd (nI pb) pp pf pg pn rt rn (nI cd) sn (nI il) tk am at_ aa 0 0 (-1) wt wy 0 (nI rm) (nI ud) (nI nu) sd (nI qn) (nI qw) qo (nI qb) (nI qp) qa (nI qi) (nI oc))), (g 20, .inl (cI, 4, .inl (l4 (nI l0) (nI l1) (nI dm) (nI l3))))]) hx hb hK hP hD hS 3 0 rfl rfl (by omega) (by omega) (fun _ => rfl) dX12_goesBy_25 (fun f_8 H locs ef_9 hP hD hS => ?_)
  have hN_10 : nwX wn (pt2_1 (dm - 1)) Ba We U (ke + 1) (updG lg ke (wn, kcC (kcFo L wn Ba We U 0) dm 0 mN, pt2_1 (dm - 1))) f_8 := nwX_up1 hnw2_5 ef_9 (by omega)
  refine lv_aload_n hx hb dX12_goesBy_26 rfl (lv_at hl 0 rfl) ?_
  refine sk_get (v := .ref (g 31)) (C := RX12) (T := TX12) (N := 92) hx hb hts inlX12 hown hK hP 5 rfl rfl 31 (by decide) w_5_186 rfl dX12_goesBy_27 ?_
  refine lv_iconst (v := 0) hx hb dX12_goesBy_30 (by decide) ?_
  refine lv_dup2_11 hx hb dX12_goesBy_31 rfl rfl ?_
  refine va_iald hx hb hK.1 hP 3 0 rfl rfl (by unfold vp_in; decide) dX12_goesBy_32 ?_
  refine sk_top (nI wn) (nwX_0 hN_10) ?_
  refine lv_iconst (v := 1) hx hb dX12_goesBy_33 (by decide) ?_
  refine lv_iadd hx hb dX12_goesBy_34 ?_
  refine sk_top (nI (wn + 1)) (nI_add wn 1) ?_
  refine sk_iastE (k := 0) (x := (nI (wn + 1))) (ws' := fun f_11 => [(g 37, .inl (cZ, 900, .inl yo)), (g 36, .inl (cZ, 900, .inl yw)), (g 43, .inl (cJ, 90, .inr (.inl be))), (g 31, .inl (cI, 120, .inl f_11)), (g 46, .inl (cI, 9, .inl (fun j => nI (pt2_1 j)))), (mm, .inr (12, mo g (nI ta) (nI pa) (nI pe) pd (nI pb) pp pf pg pn rt rn (nI cd) sn (nI il) tk am at_ aa 0 0 (-1) wt wy 0 (nI rm) (nI ud) (nI nu) sd (nI qn) (nI qw) qo (nI qb) (nI qp) qa (nI qi) (nI oc))), (g 20, .inl (cI, 4, .inl (l4 (nI l0) (nI l1) (nI dm) (nI l3))))]) hx hb hK hP hD hS 3 0 rfl rfl (by omega) (by omega) (fun _ => rfl) dX12_goesBy_35 (fun f_11 H locs ef_12 hP hD hS => ?_)
  have hN_13 : nwX (wn + 1) (kLast L dm (wn, mN, Ba, We, U, ke) nz) Ba We U (ke + 1) (kKeep L dm (wn, mN, Ba, We, U, ke) lg nz) f_11 := (by have h9 := nwX_up0 hN_10 ef_12; rw [hpl] at h9; exact h9)
  have hP := hP.sub (ws' := [(mm, .inr (12, mo g (nI ta) (nI pa) (nI pe) pd (nI pb) pp pf pg pn rt rn (nI cd) sn (nI il) tk am at_ aa 0 0 (-1) wt wy 0 (nI rm) (nI ud) (nI nu) sd (nI qn) (nI qw) qo (nI qb) (nI qp) qa (nI qi) (nI oc))), (g 20, .inl (cI, 4, .inl (l4 (nI l0) (nI l1) (nI dm) (nI l3)))), (g 31, .inl (cI, 120, .inl f_11)), (g 37, .inl (cZ, 900, .inl yo)), (g 36, .inl (cZ, 900, .inl yw)), (g 43, .inl (cJ, 90, .inr (.inl be))), (g 46, .inl (cI, 9, .inl (fun j => nI (pt2_1 j))))]) [5, 6, 3, 0, 1, 2, 4] rfl
  have hD := hD.sub (ws' := [(mm, .inr (12, mo g (nI ta) (nI pa) (nI pe) pd (nI pb) pp pf pg pn rt rn (nI cd) sn (nI il) tk am at_ aa 0 0 (-1) wt wy 0 (nI rm) (nI ud) (nI nu) sd (nI qn) (nI qw) qo (nI qb) (nI qp) qa (nI qi) (nI oc))), (g 20, .inl (cI, 4, .inl (l4 (nI l0) (nI l1) (nI dm) (nI l3)))), (g 31, .inl (cI, 120, .inl f_11)), (g 37, .inl (cZ, 900, .inl yo)), (g 36, .inl (cZ, 900, .inl yw)), (g 43, .inl (cJ, 90, .inr (.inl be))), (g 46, .inl (cI, 9, .inl (fun j => nI (pt2_1 j))))]) [5, 6, 3, 0, 1, 2, 4] (by decide +kernel) rfl
  exact sk_vret hx hb hr hlocks hK hP hD hS (⟨f_11, pt2_1, hN_13, hpt2_3, rfl⟩) (Nat.le_of_ble_eq_true rfl) (Nat.le_of_ble_eq_true rfl) dX12_goesBy_36
theorem dX12_isKept_7 : decode cX12_isKept 7 = .ok (.return_, 1) := by decide +kernel
set_option maxHeartbeats 4000000 in
set_option maxRecDepth 100000 in
theorem c_nm_isKept1 (l : Launch) (D : va_G) (cI cJ cC cZ cS : ClassId) (mm : Nat) (g : Nat → Nat) (ta : Nat) (pa : Nat) (pe : Nat) (pd : Int32) (pb : Nat) (pp : Int32) (pf : Int32) (pg : Int32) (pn : Int32) (rt : Int32) (rn : Int32) (cd : Nat) (sn : Int32) (il : Nat) (tk : Int32) (am : Int32) (at_ : Int32) (aa : Int32) (wt : Int32) (wy : Int64) (rm : Nat) (ud : Nat) (nu : Nat) (sd : Int64) (qn : Nat) (qw : Nat) (qo : Int32) (qb : Nat) (qp : Nat) (qa : Int64) (qi : Nat) (oc : Nat)  : skM l yX12_isKept cX12_isKept 2 none 0 0 0 0 D (skT cI cJ cC cZ cS) [.ref mm] [(mm, .inr (12, mo g (nI ta) (nI pa) (nI pe) pd (nI pb) pp pf pg pn rt rn (nI cd) sn (nI il) tk am at_ aa 0 0 (-1) wt wy 1 (nI rm) (nI ud) (nI nu) sd (nI qn) (nI qw) qo (nI qb) (nI qp) qa (nI qi) (nI oc)))] (skV D (skT cI cJ cC cZ cS) (fun (u : va_W) => u = [(mm, .inr (12, mo g (nI ta) (nI pa) (nI pe) pd (nI pb) pp pf pg pn rt rn (nI cd) sn (nI il) tk am at_ aa 0 0 (-1) wt wy 1 (nI rm) (nI ud) (nI nu) sd (nI qn) (nI qw) qo (nI qb) (nI qp) qa (nI qi) (nI oc)))])) := by
  refine skM_of (by decide +kernel) (Nat.le_of_ble_eq_true rfl) ?_
  intro p e s m below meth c A ls E hP hD hl
  obtain ⟨hx, hb, hr, hml, hlocks, hin, hown, hts, hK, hA⟩ := E
  have hown : s.vm.findClass RX12 = some m.cls := hown
  have hS : va_S A s.heap s.heap [] := va_S.rf
  have hl : lv_has ls 2 [(0, .ref mm)] := hl
  refine lv_aload_n hx hb dX12_isKept_0 rfl (lv_at hl 0 rfl) ?_
  refine sk_get (v := .int 1) (C := RX12) (T := TX12) (N := 92) hx hb hts inlX12 hown hK hP 0 rfl rfl 47 (by decide) w_5_202 rfl dX12_isKept_1 ?_
  refine lv_if_eq (tgt := 8) hx hb dX12_isKept_4 (by decide) (fun c => absurd c (by decide)) (fun c_1 => ?_)
  exact sk_vret hx hb hr hlocks hK hP hD hS rfl (Nat.le_of_ble_eq_true rfl) (Nat.le_of_ble_eq_true rfl) dX12_isKept_7
set_option maxHeartbeats 4000000 in
set_option maxRecDepth 100000 in
theorem c_nm_goesBy1 (l : Launch) (D : va_G) (cI cJ cC cZ cS : ClassId) (mm : Nat) (g : Nat → Nat) (ta : Nat) (pa : Nat) (pe : Nat) (pd : Int32) (pb : Nat) (pp : Int32) (pf : Int32) (pg : Int32) (pn : Int32) (rt : Int32) (rn : Int32) (cd : Nat) (sn : Int32) (il : Nat) (tk : Int32) (am : Int32) (at_ : Int32) (aa : Int32) (wt : Int32) (wy : Int64) (rm : Nat) (ud : Nat) (nu : Nat) (sd : Int64) (qn : Nat) (qw : Nat) (qo : Int32) (qb : Nat) (qp : Nat) (qa : Int64) (qi : Nat) (oc : Nat) (l0 : Nat) (l1 : Nat) (dm : Nat) (l3 : Nat) (nw : Nat → Int32) (yo : Nat → Int32) (yw : Nat → Int32) (be : Nat → Int64) (pt : Nat → Nat) (wn : Nat) (mN : Nat) (Ba : Nat → Nat) (We : Nat → Nat) (U : Nat → Bool) (ke : Nat) (lg : KLg) (L : LkS) (nz : Nat) (hdm : dm ≤ 9) (hdm1 : 1 ≤ dm) (hbe : beOk (cfN nw yw yo 0) dm 0 be) (hcf : ∀ d, d < dm → ∀ a m, a < 10 → m < 10 → (cfN nw yw yo 0) d a m = (kcFo L wn Ba We U 0) d a m) (hwy : wy = Int64.ofNat (kcC (kcFo L wn Ba We U 0) dm 0 mN)) (hnx : nz < kcC (kcFo L wn Ba We U 0) dm 0 mN) (hnw : nwX wn mN Ba We U ke lg nw) (hpt : ∀ j, pt j ≤ 9) : skM l yX12_goesBy cX12_goesBy 3 none 4 91 0 0 D (skT cI cJ cC cZ cS) [.ref mm, .long (nL nz)] [(mm, .inr (12, mo g (nI ta) (nI pa) (nI pe) pd (nI pb) pp pf pg pn rt rn (nI cd) sn (nI il) tk am at_ aa 0 0 (-1) wt wy 1 (nI rm) (nI ud) (nI nu) sd (nI qn) (nI qw) qo (nI qb) (nI qp) qa (nI qi) (nI oc))), (g 20, .inl (cI, 4, .inl (l4 (nI l0) (nI l1) (nI dm) (nI l3)))), (g 31, .inl (cI, 120, .inl nw)), (g 37, .inl (cZ, 900, .inl yo)), (g 36, .inl (cZ, 900, .inl yw)), (g 43, .inl (cJ, 90, .inr (.inl be))), (g 46, .inl (cI, 9, .inl (fun j => nI (pt j))))] (skV D (skT cI cJ cC cZ cS) (fun (u : va_W) => ∃ (nw2 : Nat → Int32), ∃ (pt2 : Nat → Nat), nwX (wn + 1) (kLast L dm (wn, mN, Ba, We, U, ke) nz) Ba We U ke lg nw2 ∧ (∀ j, pt2 j ≤ 9) ∧ u = [(mm, .inr (12, mo g (nI ta) (nI pa) (nI pe) pd (nI pb) pp pf pg pn rt rn (nI cd) sn (nI il) tk am at_ aa 0 0 (-1) wt wy 1 (nI rm) (nI ud) (nI nu) sd (nI qn) (nI qw) qo (nI qb) (nI qp) qa (nI qi) (nI oc))), (g 20, .inl (cI, 4, .inl (l4 (nI l0) (nI l1) (nI dm) (nI l3)))), (g 31, .inl (cI, 120, .inl nw2)), (g 37, .inl (cZ, 900, .inl yo)), (g 36, .inl (cZ, 900, .inl yw)), (g 43, .inl (cJ, 90, .inr (.inl be))), (g 46, .inl (cI, 9, .inl (fun j => nI (pt2 j))))])) := by
  refine skM_of (by decide +kernel) (Nat.le_of_ble_eq_true rfl) ?_
  intro p e s m below meth c A ls E hP hD hl
  obtain ⟨hx, hb, hr, hml, hlocks, hin, hown, hts, hK, hA⟩ := E
  have hown : s.vm.findClass RX12 = some m.cls := hown
  have hS : va_S A s.heap s.heap [] := va_S.rf
  have hl : lv_has ls 3 [(0, .ref mm), (1, .long (nL nz))] := hl
  refine lv_aload_n hx hb dX12_goesBy_0 rfl (lv_at hl 0 rfl) ?_
  refine lv_lload_n hx hb dX12_goesBy_1 rfl (lv_at hl 1 rfl) ?_
  refine sk_Vv (q0 := 0) (n := 1) (rest := []) (wr := []) ⟨hx, hb, hml, hown, hts⟩ hl.1 (c_nm_walksTo l D cI cJ cC cZ cS mm g ta pa pe pd pb pp pf pg pn rt rn cd sn il tk am at_ aa 0 wt wy 1 rm ud nu sd qn qw qo qb qp qa qi oc l0 l1 dm l3 nw yo yw be pt nz (by omega) (by omega) hbe (nuX hcf (nwX_a0 hnw) hnw.1 hnx) (nwX_ok hnw) hpt) w_7_217 w_7_219 w_0_88 w_1_14 w_7_220 (by decide +kernel) ⟨⟨(Nat.le_of_ble_eq_true rfl), (Nat.le_of_ble_eq_true rfl)⟩, (Nat.le_of_ble_eq_true rfl), (Nat.le_of_ble_eq_true rfl)⟩ hK hP hD hS hA [0, 1, 2, 3, 4, 5, 6] [] rfl rfl (by decide +kernel) (by decide +kernel) (by decide +kernel) rfl rfl rfl rfl (Nat.le_of_ble_eq_true rfl) dX12_goesBy_2 (fun u H locs hw hP hD hS => ?_)
  obtain ⟨pt2_1, hpw_2, hpt2_3, rfl⟩ := hw
  have hP : va_P D vwCl [(mm, .inr (12, mo g (nI ta) (nI pa) (nI pe) pd (nI pb) pp pf pg pn rt rn (nI cd) sn (nI il) tk am at_ aa 0 0 (-1) wt wy 1 (nI rm) (nI ud) (nI nu) sd (nI qn) (nI qw) qo (nI qb) (nI qp) qa (nI qi) (nI oc))), (g 20, .inl (cI, 4, .inl (l4 (nI l0) (nI l1) (nI dm) (nI l3)))), (g 31, .inl (cI, 120, .inl nw)), (g 37, .inl (cZ, 900, .inl yo)), (g 36, .inl (cZ, 900, .inl yw)), (g 43, .inl (cJ, 90, .inr (.inl be))), (g 46, .inl (cI, 9, .inl (fun j => nI (pt2_1 j))))] H := hP
  have hD : va_D A [(mm, .inr (12, mo g (nI ta) (nI pa) (nI pe) pd (nI pb) pp pf pg pn rt rn (nI cd) sn (nI il) tk am at_ aa 0 0 (-1) wt wy 1 (nI rm) (nI ud) (nI nu) sd (nI qn) (nI qw) qo (nI qb) (nI qp) qa (nI qi) (nI oc))), (g 20, .inl (cI, 4, .inl (l4 (nI l0) (nI l1) (nI dm) (nI l3)))), (g 31, .inl (cI, 120, .inl nw)), (g 37, .inl (cZ, 900, .inl yo)), (g 36, .inl (cZ, 900, .inl yw)), (g 43, .inl (cJ, 90, .inr (.inl be))), (g 46, .inl (cI, 9, .inl (fun j => nI (pt2_1 j))))] := hD
  have hpx := mpX hcf (nwX_a0 hnw) hnw.1 hnx hpw_2
  refine lv_aload_n hx hb dX12_goesBy_5 rfl (lv_at hl 0 rfl) ?_
  have hpl : pt2_1 (dm - 1) = kLast L dm (wn, mN, Ba, We, U, ke) nz := hpx (dm - 1) (by omega)
  refine sk_Vv (q0 := 0) (n := 0) (rest := []) (wr := [(g 20, .inl (cI, 4, .inl (l4 (nI l0) (nI l1) (nI dm) (nI l3)))), (g 31, .inl (cI, 120, .inl nw)), (g 37, .inl (cZ, 900, .inl yo)), (g 36, .inl (cZ, 900, .inl yw)), (g 43, .inl (cJ, 90, .inr (.inl be))), (g 46, .inl (cI, 9, .inl (fun j => nI (pt2_1 j))))]) ⟨hx, hb, hml, hown, hts⟩ hl.1 (c_nm_isKept1 l D cI cJ cC cZ cS mm g ta pa pe pd pb pp pf pg pn rt rn cd sn il tk am at_ aa wt wy rm ud nu sd qn qw qo qb qp qa qi oc) w_8_21 w_8_23 w_0_94 w_1_14 w_8_24 (by decide +kernel) ⟨⟨(Nat.le_of_ble_eq_true rfl), (Nat.le_of_ble_eq_true rfl)⟩, (Nat.le_of_ble_eq_true rfl), (Nat.le_of_ble_eq_true rfl)⟩ hK hP hD hS hA [0] [1, 2, 3, 4, 5, 6] rfl rfl (by decide +kernel) (by decide +kernel) (by decide +kernel) rfl rfl rfl rfl (Nat.le_of_ble_eq_true rfl) dX12_goesBy_6 (fun u H locs hw hP hD hS => ?_)
  obtain rfl := hw
  have hP : va_P D vwCl [(g 20, .inl (cI, 4, .inl (l4 (nI l0) (nI l1) (nI dm) (nI l3)))), (g 31, .inl (cI, 120, .inl nw)), (g 37, .inl (cZ, 900, .inl yo)), (g 36, .inl (cZ, 900, .inl yw)), (g 43, .inl (cJ, 90, .inr (.inl be))), (g 46, .inl (cI, 9, .inl (fun j => nI (pt2_1 j)))), (mm, .inr (12, mo g (nI ta) (nI pa) (nI pe) pd (nI pb) pp pf pg pn rt rn (nI cd) sn (nI il) tk am at_ aa 0 0 (-1) wt wy 1 (nI rm) (nI ud) (nI nu) sd (nI qn) (nI qw) qo (nI qb) (nI qp) qa (nI qi) (nI oc)))] H := hP
  have hD : va_D A [(g 20, .inl (cI, 4, .inl (l4 (nI l0) (nI l1) (nI dm) (nI l3)))), (g 31, .inl (cI, 120, .inl nw)), (g 37, .inl (cZ, 900, .inl yo)), (g 36, .inl (cZ, 900, .inl yw)), (g 43, .inl (cJ, 90, .inr (.inl be))), (g 46, .inl (cI, 9, .inl (fun j => nI (pt2_1 j)))), (mm, .inr (12, mo g (nI ta) (nI pa) (nI pe) pd (nI pb) pp pf pg pn rt rn (nI cd) sn (nI il) tk am at_ aa 0 0 (-1) wt wy 1 (nI rm) (nI ud) (nI nu) sd (nI qn) (nI qw) qo (nI qb) (nI qp) qa (nI qi) (nI oc)))] := hD
  refine lv_aload_n hx hb dX12_goesBy_9 rfl (lv_at hl 0 rfl) ?_
  refine sk_get (v := .ref (g 31)) (C := RX12) (T := TX12) (N := 92) hx hb hts inlX12 hown hK hP 6 rfl rfl 31 (by decide) w_5_186 rfl dX12_goesBy_10 ?_
  refine lv_iconst (v := 1) hx hb dX12_goesBy_13 (by decide) ?_
  refine lv_aload_n hx hb dX12_goesBy_14 rfl (lv_at hl 0 rfl) ?_
  refine sk_get (v := .ref (g 46)) (C := RX12) (T := TX12) (N := 92) hx hb hts inlX12 hown hK hP 6 rfl rfl 46 (by decide) w_5_201 rfl dX12_goesBy_15 ?_
  refine lv_aload_n hx hb dX12_goesBy_18 rfl (lv_at hl 0 rfl) ?_
  refine sk_Vi (q0 := 0) (n := 0) (rest := [.ref (g 46), .int 1, .ref (g 31)]) (wr := [(g 31, .inl (cI, 120, .inl nw)), (g 37, .inl (cZ, 900, .inl yo)), (g 36, .inl (cZ, 900, .inl yw)), (g 43, .inl (cJ, 90, .inr (.inl be))), (g 46, .inl (cI, 9, .inl (fun j => nI (pt2_1 j))))]) ⟨hx, hb, hml, hown, hts⟩ hl.1 (c_m_dayMany l D cI cJ cC cZ cS mm g ta pa pe pd pb pp pf pg pn rt rn cd sn il tk am at_ aa 0 0 (-1) wt wy 1 rm ud nu sd qn qw qo qb qp qa qi oc l0 l1 dm l3) w_7_98 w_7_100 w_0_69 w_1_14 w_7_101 (by decide +kernel) ⟨⟨(Nat.le_of_ble_eq_true rfl), (Nat.le_of_ble_eq_true rfl)⟩, (Nat.le_of_ble_eq_true rfl), (Nat.le_of_ble_eq_true rfl)⟩ hK hP hD hS hA [6, 0] [1, 2, 3, 4, 5] rfl rfl (by decide +kernel) (by decide +kernel) (by decide +kernel) rfl rfl rfl rfl (Nat.le_of_ble_eq_true rfl) dX12_goesBy_19 (fun r_4 u H locs hw hP hD hS => ?_)
  obtain ⟨rfl, rfl⟩ := hw
  have hP : va_P D vwCl [(g 31, .inl (cI, 120, .inl nw)), (g 37, .inl (cZ, 900, .inl yo)), (g 36, .inl (cZ, 900, .inl yw)), (g 43, .inl (cJ, 90, .inr (.inl be))), (g 46, .inl (cI, 9, .inl (fun j => nI (pt2_1 j)))), (mm, .inr (12, mo g (nI ta) (nI pa) (nI pe) pd (nI pb) pp pf pg pn rt rn (nI cd) sn (nI il) tk am at_ aa 0 0 (-1) wt wy 1 (nI rm) (nI ud) (nI nu) sd (nI qn) (nI qw) qo (nI qb) (nI qp) qa (nI qi) (nI oc))), (g 20, .inl (cI, 4, .inl (l4 (nI l0) (nI l1) (nI dm) (nI l3))))] H := hP
  have hD : va_D A [(g 31, .inl (cI, 120, .inl nw)), (g 37, .inl (cZ, 900, .inl yo)), (g 36, .inl (cZ, 900, .inl yw)), (g 43, .inl (cJ, 90, .inr (.inl be))), (g 46, .inl (cI, 9, .inl (fun j => nI (pt2_1 j)))), (mm, .inr (12, mo g (nI ta) (nI pa) (nI pe) pd (nI pb) pp pf pg pn rt rn (nI cd) sn (nI il) tk am at_ aa 0 0 (-1) wt wy 1 (nI rm) (nI ud) (nI nu) sd (nI qn) (nI qw) qo (nI qb) (nI qp) qa (nI qi) (nI oc))), (g 20, .inl (cI, 4, .inl (l4 (nI l0) (nI l1) (nI dm) (nI l3))))] := hD
  refine lv_iconst (v := 1) hx hb dX12_goesBy_22 (by decide) ?_
  refine lv_isub hx hb dX12_goesBy_23 ?_
  refine sk_top (nI (dm - 1)) (nsub dm 1 (by omega)) ?_
  refine va_iald hx hb hK.1 hP 4 0 rfl rfl (vin (dm - 1) 9 (by omega) (by omega)) dX12_goesBy_24 ?_
  refine sk_top (nI (pt2_1 (dm - 1))) (nrd pt2_1 (dm - 1) (by omega)) ?_
  have hb_5 := hpt2_3 (dm - 1)
  refine sk_iastE (k := 1) (x := (nI (pt2_1 (dm - 1)))) (ws' := fun f_6 => [(g 31, .inl (cI, 120, .inl f_6)), (g 37, .inl (cZ, 900, .inl yo)), (g 36, .inl (cZ, 900, .inl yw)), (g 43, .inl (cJ, 90, .inr (.inl be))), (g 46, .inl (cI, 9, .inl (fun j => nI (pt2_1 j)))), (mm, .inr (12, mo g (nI ta) (nI pa) (nI pe) pd (nI pb) pp pf pg pn rt rn (nI cd) sn (nI il) tk am at_ aa 0 0 (-1) wt wy 1 (nI rm) (nI ud) (nI nu) sd (nI qn) (nI qw) qo (nI qb) (nI qp) qa (nI qi) (nI oc))), (g 20, .inl (cI, 4, .inl (l4 (nI l0) (nI l1) (nI dm) (nI l3))))]) hx hb hK hP hD hS 0 0 rfl rfl (by omega) (by omega) (fun _ => rfl) dX12_goesBy_25 (fun f_6 H locs ef_7 hP hD hS => ?_)
  have hN_8 : nwX wn (pt2_1 (dm - 1)) Ba We U ke lg f_6 := nwX_up1 hnw ef_7 (by omega)
  refine lv_aload_n hx hb dX12_goesBy_26 rfl (lv_at hl 0 rfl) ?_
  refine sk_get (v := .ref (g 31)) (C := RX12) (T := TX12) (N := 92) hx hb hts inlX12 hown hK hP 5 rfl rfl 31 (by decide) w_5_186 rfl dX12_goesBy_27 ?_
  refine lv_iconst (v := 0) hx hb dX12_goesBy_30 (by decide) ?_
  refine lv_dup2_11 hx hb dX12_goesBy_31 rfl rfl ?_
  refine va_iald hx hb hK.1 hP 0 0 rfl rfl (by unfold vp_in; decide) dX12_goesBy_32 ?_
  refine sk_top (nI wn) (nwX_0 hN_8) ?_
  refine lv_iconst (v := 1) hx hb dX12_goesBy_33 (by decide) ?_
  refine lv_iadd hx hb dX12_goesBy_34 ?_
  refine sk_top (nI (wn + 1)) (nI_add wn 1) ?_
  refine sk_iastE (k := 0) (x := (nI (wn + 1))) (ws' := fun f_9 => [(g 31, .inl (cI, 120, .inl f_9)), (g 37, .inl (cZ, 900, .inl yo)), (g 36, .inl (cZ, 900, .inl yw)), (g 43, .inl (cJ, 90, .inr (.inl be))), (g 46, .inl (cI, 9, .inl (fun j => nI (pt2_1 j)))), (mm, .inr (12, mo g (nI ta) (nI pa) (nI pe) pd (nI pb) pp pf pg pn rt rn (nI cd) sn (nI il) tk am at_ aa 0 0 (-1) wt wy 1 (nI rm) (nI ud) (nI nu) sd (nI qn) (nI qw) qo (nI qb) (nI qp) qa (nI qi) (nI oc))), (g 20, .inl (cI, 4, .inl (l4 (nI l0) (nI l1) (nI dm) (nI l3))))]) hx hb hK hP hD hS 0 0 rfl rfl (by omega) (by omega) (fun _ => rfl) dX12_goesBy_35 (fun f_9 H locs ef_10 hP hD hS => ?_)
  have hN_11 : nwX (wn + 1) (kLast L dm (wn, mN, Ba, We, U, ke) nz) Ba We U ke lg f_9 := (by have h9 := nwX_up0 hN_8 ef_10; rw [hpl] at h9; exact h9)
  have hP := hP.sub (ws' := [(mm, .inr (12, mo g (nI ta) (nI pa) (nI pe) pd (nI pb) pp pf pg pn rt rn (nI cd) sn (nI il) tk am at_ aa 0 0 (-1) wt wy 1 (nI rm) (nI ud) (nI nu) sd (nI qn) (nI qw) qo (nI qb) (nI qp) qa (nI qi) (nI oc))), (g 20, .inl (cI, 4, .inl (l4 (nI l0) (nI l1) (nI dm) (nI l3)))), (g 31, .inl (cI, 120, .inl f_9)), (g 37, .inl (cZ, 900, .inl yo)), (g 36, .inl (cZ, 900, .inl yw)), (g 43, .inl (cJ, 90, .inr (.inl be))), (g 46, .inl (cI, 9, .inl (fun j => nI (pt2_1 j))))]) [5, 6, 0, 1, 2, 3, 4] rfl
  have hD := hD.sub (ws' := [(mm, .inr (12, mo g (nI ta) (nI pa) (nI pe) pd (nI pb) pp pf pg pn rt rn (nI cd) sn (nI il) tk am at_ aa 0 0 (-1) wt wy 1 (nI rm) (nI ud) (nI nu) sd (nI qn) (nI qw) qo (nI qb) (nI qp) qa (nI qi) (nI oc))), (g 20, .inl (cI, 4, .inl (l4 (nI l0) (nI l1) (nI dm) (nI l3)))), (g 31, .inl (cI, 120, .inl f_9)), (g 37, .inl (cZ, 900, .inl yo)), (g 36, .inl (cZ, 900, .inl yw)), (g 43, .inl (cJ, 90, .inr (.inl be))), (g 46, .inl (cI, 9, .inl (fun j => nI (pt2_1 j))))]) [5, 6, 0, 1, 2, 3, 4] (by decide +kernel) rfl
  exact sk_vret hx hb hr hlocks hK hP hD hS (⟨f_9, pt2_1, hN_11, hpt2_3, rfl⟩) (Nat.le_of_ble_eq_true rfl) (Nat.le_of_ble_eq_true rfl) dX12_goesBy_36
