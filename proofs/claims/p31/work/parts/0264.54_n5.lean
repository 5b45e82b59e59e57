theorem kcT_lt {w : Nat → Nat} {j y : Nat} (h : y < kcT w (10 - j) j) : j < 10 := Nat.lt_of_not_le (fun q => kcT_e q h)
theorem kW_bk {C : Nat → Nat → Nat → Bool} {n d a m : Nat} (h : C d a m = true) : kcW C n d a m = bk C (n - 1 - d) d m := by
  rw [← gA_W]; unfold gA; rw [if_pos h]
theorem kW_no {C : Nat → Nat → Nat → Bool} {n d a m : Nat} (h : C d a m = false) : kcW C n d a m = 0 := by
  unfold kcW; rw [if_neg (by rw [h]; decide)]
theorem kbk_le (C : Nat → Nat → Nat → Bool) {n : Nat} (h : n ≤ 9) (d m : Nat) : bk C (n - 1 - d) d m ≤ 1000000000 := by
  rw [bk_C]; exact kcC_9 C (by omega) _ _
def mpO (C : Nat → Nat → Nat → Bool) (n a0 x i : Nat) (f : Nat → Nat) : Prop := ∀ d, d < i → f d = kcM C n a0 x d
theorem mp_0 (C : Nat → Nat → Nat → Bool) (n a0 x : Nat) (f : Nat → Nat) : mpO C n a0 x 0 f := fun d hd => absurd hd (Nat.not_lt_zero d)
theorem mp_s {C : Nat → Nat → Nat → Bool} {n a0 x i v : Nat} {f g : Nat → Nat} (h : mpO C n a0 x i f) (e : g = updN f i v) (hv : (kcA C n a0 x (i + 1)).1 = v) : mpO C n a0 x (i + 1) g := fun d hd => by
  by_cases q : d = i
  · subst q; rw [kun_s e, ← hv]; rfl
  · rw [kun_n e q]; exact h d (by omega)
theorem mp_e {C : Nat → Nat → Nat → Bool} {n a0 x i : Nat} {f : Nat → Nat} (h : mpO C n a0 x i f) (e : n = i) : mpO C n a0 x n f := by
  subst e; exact h
theorem klt_m {a b : Nat} (h : ¬ lg_cmp (nL a) (nL b) < 0) (ha : a < 9223372036854775808) (hb : b < 9223372036854775808) : b ≤ a := Nat.le_of_not_lt (fun q => h ((nL_lt ha hb).mpr q))
/-- the week of a number goes by what may follow alone -/
theorem kcA_cg {E F : Nat → Nat → Nat → Bool} {n a0 x : Nat} (h : ∀ d, d < n → ∀ a m, a < 10 → m < 10 → E d a m = F d a m) (h0 : a0 < 10) (hx : x < kcC E n 0 a0) : ∀ d, d ≤ n → kcA E n a0 x d = kcA F n a0 x d
  | 0, _ => rfl
  | d + 1, hd => by
    have ih := kcA_cg h h0 hx d (by omega)
    have h1 := (kcA_ok h0 hx d (by omega)).1
    rw [kcA_s, kcA_s, ← ih]
    have key : ∀ f m y, m + f ≤ 10 → kcP (kcW E n d (kcA E n a0 x d).1) f m y = kcP (kcW F n d (kcA E n a0 x d).1) f m y := by
      intro f
      induction f with
      | zero => intro m y _; rfl
      | succ f ihf =>
        intro m y hm
        have e : kcW E n d (kcA E n a0 x d).1 m = kcW F n d (kcA E n a0 x d).1 m := by
          unfold kcW
          rw [h d (by omega) _ m h1 (by omega), kcC_cg (F := F) (n - (d + 1)) (d + 1) m (fun e h2 h3 a b ha hb => h e (by omega) a b ha hb) (by omega)]
        rw [kcP_s, kcP_s, e, ihf (m + 1) _ (by omega)]
    exact key 10 0 _ (by omega)
set_option maxHeartbeats 4000000 in
set_option maxRecDepth 100000 in
theorem c_nm_walksTo (l : Launch) (D : va_G) (cI cJ cC cZ cS : ClassId) (mm : Nat) (g : Nat → Nat) (ta : Nat) (pa : Nat) (pe : Nat) (pd : Int32) (pb : Nat) (pp : Int32) (pf : Int32) (pg : Int32) (pn : Int32) (rt : Int32) (rn : Int32) (cd : Nat) (sn : Int32) (il : Nat) (tk : Int32) (am : Int32) (at_ : Int32) (aa : Int32) (mt_ : Int32) (wt : Int32) (wy : Int64) (it_ : Nat) (rm : Nat) (ud : Nat) (nu : Nat) (sd : Int64) (qn : Nat) (qw : Nat) (qo : Int32) (qb : Nat) (qp : Nat) (qa : Int64) (qi : Nat) (oc : Nat) (l0 : Nat) (l1 : Nat) (dm : Nat) (l3 : Nat) (nw : Nat → Int32) (yo : Nat → Int32) (yw : Nat → Int32) (be : Nat → Int64) (pt : Nat → Nat) (nz : Nat) (hdm : dm ≤ 9) (hdm1 : 1 ≤ dm) (hbe : beOk (cfN nw yw yo mt_) dm 0 be) (hnu : nz < kcC (cfN nw yw yo mt_) dm 0 (a0N nw)) (hnw : nowOk nw) (hpt : ∀ j, pt j ≤ 9) : skM l yX12_walksTo cX12_walksTo 6 none 3 66 0 0 D (skT cI cJ cC cZ cS) [.ref mm, .long (nL nz)] [(mm, .inr (12, mo g (nI ta) (nI pa) (nI pe) pd (nI pb) pp pf pg pn rt rn (nI cd) sn (nI il) tk am at_ aa mt_ 0 (-1) wt wy (nI it_) (nI rm) (nI ud) (nI nu) sd (nI qn) (nI qw) qo (nI qb) (nI qp) qa (nI qi) (nI oc))), (g 20, .inl (cI, 4, .inl (l4 (nI l0) (nI l1) (nI dm) (nI l3)))), (g 31, .inl (cI, 120, .inl nw)), (g 37, .inl (cZ, 900, .inl yo)), (g 36, .inl (cZ, 900, .inl yw)), (g 43, .inl (cJ, 90, .inr (.inl be))), (g 46, .inl (cI, 9, .inl (fun j => nI (pt j))))] (skV D (skT cI cJ cC cZ cS) (fun (u : va_W) => ∃ (pt2 : Nat → Nat), mpO (cfN nw yw yo mt_) dm (a0N nw) nz dm pt2 ∧ (∀ j, pt2 j ≤ 9) ∧ u = [(mm, .inr (12, mo g (nI ta) (nI pa) (nI pe) pd (nI pb) pp pf pg pn rt rn (nI cd) sn (nI il) tk am at_ aa mt_ 0 (-1) wt wy (nI it_) (nI rm) (nI ud) (nI nu) sd (nI qn) (nI qw) qo (nI qb) (nI qp) qa (nI qi) (nI oc))), (g 20, .inl (cI, 4, .inl (l4 (nI l0) (nI l1) (nI dm) (nI l3)))), (g 31, .inl (cI, 120, .inl nw)), (g 37, .inl (cZ, 900, .inl yo)), (g 36, .inl (cZ, 900, .inl yw)), (g 43, .inl (cJ, 90, .inr (.inl be))), (g 46, .inl (cI, 9, .inl (fun j => nI (pt2 j))))])) := by
  refine skM_of pf_X12_walksTo (Nat.le_of_ble_eq_true rfl) ?_
  intro p e s m below meth c A ls E hP hD hl
  refine skE_el E (fun hx hb hr hml hlocks hin hown hts hK hA => ?_)
  have hown : s.vm.findClass RX12 = some m.cls := hown
  have hS : va_S A s.heap s.heap [] := va_S.rf
  have hl : lv_has ls 6 [(0, .ref mm), (1, .long (nL nz))] := hl
  refine lv_aload_n hx hb dX12_walksTo_0 rfl (lv_at hl 0 rfl) ?_
  refine sk_get (v := .ref (g 31)) (C := RX12) (T := TX12) (N := 92) hx hb hts inlX12 hown hK hP 0 rfl rfl 31 (by decide) w_5_186 rfl dX12_walksTo_1 ?_
  refine lv_iconst (v := 1) hx hb dX12_walksTo_4 (by decide) ?_
  refine va_iald hx hb hK.1 hP 2 0 rfl rfl (by unfold vp_in; decide) dX12_walksTo_5 ?_
  obtain ⟨k_1, hk_1, ek_1⟩ := nowOk_1 hnw
  refine sk_top (nI k_1) ek_1 ?_
  have ha0 := a0_eq ek_1 hk_1
  refine lv_istore_n (lv' := [(3, .int (nI k_1)), (0, .ref mm), (1, .long (nL nz))]) hx hb dX12_walksTo_6 rfl hl (by decide) rfl (fun ls hl => ?_)
  refine lv_iconst (v := 0) hx hb dX12_walksTo_7 (by decide) ?_
  refine lv_istore (lv' := [(4, .int 0), (3, .int (nI k_1)), (0, .ref mm), (1, .long (nL nz))]) hx hb dX12_walksTo_8 hl (by decide) rfl (fun ls hl => ?_)
  have lp_2 : ∀ (n_3 : Nat) (i : Nat) (ah : Nat) (xk : Int64) (zp : Nat → Nat) (H : Heap) (locs : List Loc) (ls : Array Slot), dm - i < n_3 → (∀ j, zp j ≤ 9) → (i ≤ dm) → (ah ≤ 9) → ((kcA (cfN nw yw yo mt_) dm (a0N nw) nz i).1 = ah) → (xk = nL (kcA (cfN nw yw yo mt_) dm (a0N nw) nz i).2) → (mpO (cfN nw yw yo mt_) dm (a0N nw) nz i zp) → va_P D vwCl [(mm, .inr (12, mo g (nI ta) (nI pa) (nI pe) pd (nI pb) pp pf pg pn rt rn (nI cd) sn (nI il) tk am at_ aa mt_ 0 (-1) wt wy (nI it_) (nI rm) (nI ud) (nI nu) sd (nI qn) (nI qw) qo (nI qb) (nI qp) qa (nI qi) (nI oc))), (g 20, .inl (cI, 4, .inl (l4 (nI l0) (nI l1) (nI dm) (nI l3)))), (g 31, .inl (cI, 120, .inl nw)), (g 37, .inl (cZ, 900, .inl yo)), (g 36, .inl (cZ, 900, .inl yw)), (g 43, .inl (cJ, 90, .inr (.inl be))), (g 46, .inl (cI, 9, .inl (fun j => nI (zp j))))] H → va_D A [(mm, .inr (12, mo g (nI ta) (nI pa) (nI pe) pd (nI pb) pp pf pg pn rt rn (nI cd) sn (nI il) tk am at_ aa mt_ 0 (-1) wt wy (nI it_) (nI rm) (nI ud) (nI nu) sd (nI qn) (nI qw) qo (nI qb) (nI qp) qa (nI qi) (nI oc))), (g 20, .inl (cI, 4, .inl (l4 (nI l0) (nI l1) (nI dm) (nI l3)))), (g 31, .inl (cI, 120, .inl nw)), (g 37, .inl (cZ, 900, .inl yo)), (g 36, .inl (cZ, 900, .inl yw)), (g 43, .inl (cJ, 90, .inr (.inl be))), (g 46, .inl (cI, 9, .inl (fun j => nI (zp j))))] → va_S A s.heap H locs → lv_has ls 6 [(4, .int (nI i)), (3, .int (nI ah)), (0, .ref mm), (1, .long xk)] → W p l e { frames := 3, cells := 0, slots := 0, locals := 66 } s m ([.ref mm, .long (nL nz)] : List Value).toArray below meth c H locs 0 0 (MQ below (skV D (skT cI cJ cC cZ cS) (fun (u : va_W) => ∃ (pt2 : Nat → Nat), mpO (cfN nw yw yo mt_) dm (a0N nw) nz dm pt2 ∧ (∀ j, pt2 j ≤ 9) ∧ u = [(mm, .inr (12, mo g (nI ta) (nI pa) (nI pe) pd (nI pb) pp pf pg pn rt rn (nI cd) sn (nI il) tk am at_ aa mt_ 0 (-1) wt wy (nI it_) (nI rm) (nI ud) (nI nu) sd (nI qn) (nI qw) qo (nI qb) (nI qp) qa (nI qi) (nI oc))), (g 20, .inl (cI, 4, .inl (l4 (nI l0) (nI l1) (nI dm) (nI l3)))), (g 31, .inl (cI, 120, .inl nw)), (g 37, .inl (cZ, 900, .inl yo)), (g 36, .inl (cZ, 900, .inl yw)), (g 43, .inl (cJ, 90, .inr (.inl be))), (g 46, .inl (cI, 9, .inl (fun j => nI (pt2 j))))]) A) ([.ref mm, .long (nL nz)] : List Value).toArray s 0 0 A) (F0 m 10 ls []) := by
    intro n_3
    induction n_3 with
    | zero => intro i ah xk zp H locs ls hm; exact absurd hm (Nat.not_lt_zero _)
    | succ n_3 ih_lp_2 =>
      intro i ah xk zp H locs ls hm hzp hi hah haa hxk hrr hP hD hS hl
      refine lv_iload hx hb dX12_walksTo_10 (lv_at hl 0 rfl) ?_
      refine lv_aload_n hx hb dX12_walksTo_12 rfl (lv_at hl 2 rfl) ?_
      refine sk_Vi (q0 := 0) (n := 0) (rest := [.int (nI i)]) (wr := fmR om_7_60 _) ⟨hx, hb, hml, hown, hts⟩ hl.1 (c_m_dayMany l D cI cJ cC cZ cS mm g ta pa pe pd pb pp pf pg pn rt rn cd sn il tk am at_ aa mt_ 0 (-1) wt wy it_ rm ud nu sd qn qw qo qb qp qa qi oc l0 l1 dm l3) w_7_98 w_7_100 w_0_69 w_1_14 w_7_101 hd_X12_dayMany_0 ⟨⟨(Nat.le_of_ble_eq_true rfl), (Nat.le_of_ble_eq_true rfl)⟩, (Nat.le_of_ble_eq_true rfl), (Nat.le_of_ble_eq_true rfl)⟩ hK hP hD hS hA (fmT om_7_60 0) (fmF om_7_60 0) (fm_C1 rfl rfl) (fm_R rfl rfl) (fm_nT om_7_60 0) (fm_nF om_7_60 0) (fm_di om_7_60 0) rfl rfl rfl rfl (Nat.le_of_ble_eq_true rfl) dX12_walksTo_13 (fun r_4 u H locs hw hP hD hS => ?_)
      refine anE hw (fun er_6 eu_5 => ?_)
      clear hw
      subst er_6
      refine o_mgE (ws' := [(mm, .inr (12, mo g (nI ta) (nI pa) (nI pe) pd (nI pb) pp pf pg pn rt rn (nI cd) sn (nI il) tk am at_ aa mt_ 0 (-1) wt wy (nI it_) (nI rm) (nI ud) (nI nu) sd (nI qn) (nI qw) qo (nI qb) (nI qp) qa (nI qi) (nI oc))), (g 20, .inl (cI, 4, .inl (l4 (nI l0) (nI l1) (nI dm) (nI l3)))), (g 31, .inl (cI, 120, .inl nw)), (g 37, .inl (cZ, 900, .inl yo)), (g 36, .inl (cZ, 900, .inl yw)), (g 43, .inl (cJ, 90, .inr (.inl be))), (g 46, .inl (cI, 9, .inl (fun j => nI (zp j))))]) eu_5 hP hD rfl (fun hP hD => ?_)
      refine lv_icmp_ge (tgt := 104) hx hb dX12_walksTo_16 (by decide) (fun c_7 => ?_) (fun c_7 => ?_)
      · have c_7 : dm ≤ i := (nle dm i (by omega) (by omega)).mp c_7
        exact sk_vret hx hb hr hlocks hK hP hD hS (⟨zp, mp_e hrr (by omega), hzp, rfl⟩) (Nat.le_of_ble_eq_true rfl) (Nat.le_of_ble_eq_true rfl) dX12_walksTo_104
      · have c_7 : ¬ (dm ≤ i) := fun h => c_7 ((nle dm i (by omega) (by omega)).mpr h)
        have hok := kcA_ok (by omega) hnu i (by omega)
        refine lv_iconst (v := 0) hx hb dX12_walksTo_19 (by decide) ?_
        refine lv_istore (lv' := [(5, .int 0), (4, .int (nI i)), (3, .int (nI ah)), (0, .ref mm), (1, .long xk)]) hx hb dX12_walksTo_20 hl (by decide) rfl (fun ls hl => ?_)
        have lp_8 : ∀ (n_9 : Nat) (jm : Nat) (xk2 : Int64) (yy : Nat) (H : Heap) (locs : List Loc) (ls : Array Slot), 10 - jm < n_9 → (xk2 = nL yy) → (kcP (kcW (cfN nw yw yo mt_) dm i ah) (10 - jm) jm yy = kcP (kcW (cfN nw yw yo mt_) dm i ah) 10 0 (kcA (cfN nw yw yo mt_) dm (a0N nw) nz i).2) → (yy < kcT (kcW (cfN nw yw yo mt_) dm i ah) (10 - jm) jm) → (jm < 10) → (yy ≤ 10000000000) → va_P D vwCl [(mm, .inr (12, mo g (nI ta) (nI pa) (nI pe) pd (nI pb) pp pf pg pn rt rn (nI cd) sn (nI il) tk am at_ aa mt_ 0 (-1) wt wy (nI it_) (nI rm) (nI ud) (nI nu) sd (nI qn) (nI qw) qo (nI qb) (nI qp) qa (nI qi) (nI oc))), (g 20, .inl (cI, 4, .inl (l4 (nI l0) (nI l1) (nI dm) (nI l3)))), (g 31, .inl (cI, 120, .inl nw)), (g 37, .inl (cZ, 900, .inl yo)), (g 36, .inl (cZ, 900, .inl yw)), (g 43, .inl (cJ, 90, .inr (.inl be))), (g 46, .inl (cI, 9, .inl (fun j => nI (zp j))))] H → va_D A [(mm, .inr (12, mo g (nI ta) (nI pa) (nI pe) pd (nI pb) pp pf pg pn rt rn (nI cd) sn (nI il) tk am at_ aa mt_ 0 (-1) wt wy (nI it_) (nI rm) (nI ud) (nI nu) sd (nI qn) (nI qw) qo (nI qb) (nI qp) qa (nI qi) (nI oc))), (g 20, .inl (cI, 4, .inl (l4 (nI l0) (nI l1) (nI dm) (nI l3)))), (g 31, .inl (cI, 120, .inl nw)), (g 37, .inl (cZ, 900, .inl yo)), (g 36, .inl (cZ, 900, .inl yw)), (g 43, .inl (cJ, 90, .inr (.inl be))), (g 46, .inl (cI, 9, .inl (fun j => nI (zp j))))] → va_S A s.heap H locs → lv_has ls 6 [(5, .int (nI jm)), (4, .int (nI i)), (3, .int (nI ah)), (0, .ref mm), (1, .long xk2)] → W p l e { frames := 3, cells := 0, slots := 0, locals := 66 } s m ([.ref mm, .long (nL nz)] : List Value).toArray below meth c H locs 0 0 (MQ below (skV D (skT cI cJ cC cZ cS) (fun (u : va_W) => ∃ (pt2 : Nat → Nat), mpO (cfN nw yw yo mt_) dm (a0N nw) nz dm pt2 ∧ (∀ j, pt2 j ≤ 9) ∧ u = [(mm, .inr (12, mo g (nI ta) (nI pa) (nI pe) pd (nI pb) pp pf pg pn rt rn (nI cd) sn (nI il) tk am at_ aa mt_ 0 (-1) wt wy (nI it_) (nI rm) (nI ud) (nI nu) sd (nI qn) (nI qw) qo (nI qb) (nI qp) qa (nI qi) (nI oc))), (g 20, .inl (cI, 4, .inl (l4 (nI l0) (nI l1) (nI dm) (nI l3)))), (g 31, .inl (cI, 120, .inl nw)), (g 37, .inl (cZ, 900, .inl yo)), (g 36, .inl (cZ, 900, .inl yw)), (g 43, .inl (cJ, 90, .inr (.inl be))), (g 46, .inl (cI, 9, .inl (fun j => nI (pt2 j))))]) A) ([.ref mm, .long (nL nz)] : List Value).toArray s 0 0 A) (F0 m 22 ls []) := by
          intro n_9
          induction n_9 with
          | zero => intro jm xk2 yy H locs ls hm; exact absurd hm (Nat.not_lt_zero _)
          | succ n_9 ih_lp_8 =>
            intro jm xk2 yy H locs ls hm hx2 hyP hyT hjm hyl hP hD hS hl
            refine lv_aload_n hx hb dX12_walksTo_22 rfl (lv_at hl 3 rfl) ?_
            subst hx2
            have hbl := kbk_le (cfN nw yw yo mt_) hdm i jm
            refine lv_iload hx hb dX12_walksTo_23 (lv_at hl 1 rfl) ?_
            refine lv_iload_n hx hb dX12_walksTo_25 rfl (lv_at hl 2 rfl) ?_
            refine lv_iload hx hb dX12_walksTo_26 (lv_at hl 0 rfl) ?_
            refine sk_Vi (q0 := 0) (n := 3) (rest := []) (wr := fmR om_7_5c _) ⟨hx, hb, hml, hown, hts⟩ hl.1 (c_m_canFollow0 l D cI cJ cC cZ cS mm g ta pa pe pd pb pp pf pg pn rt rn cd sn il tk am at_ aa mt_ wt wy it_ rm ud nu sd qn qw qo qb qp qa qi oc i ah jm nw yo yw (by omega) (by omega) (by omega) hnw) w_7_201 w_7_203 w_0_85 w_1_14 w_7_204 hd_X12_canFollow_3 ⟨⟨(Nat.le_of_ble_eq_true rfl), (Nat.le_of_ble_eq_true rfl)⟩, (Nat.le_of_ble_eq_true rfl), (Nat.le_of_ble_eq_true rfl)⟩ hK hP hD hS hA (fmT om_7_5c 0) (fmF om_7_5c 0) (fm_C1 rfl rfl) (fm_R rfl rfl) (fm_nT om_7_5c 0) (fm_nF om_7_5c 0) (fm_di om_7_5c 0) rfl rfl rfl rfl (Nat.le_of_ble_eq_true rfl) dX12_walksTo_28 (fun r_11 u H locs hw hP hD hS => ?_)
            refine exE hw (fun b_10 hw1 => anE hw1 (fun hb1_12 hw2 => anE hw2 (fun hb2_13 hw3 => anE hw3 (fun er_15 eu_14 => ?_))))
            clear hw hw1 hw2 hw3
            subst er_15
            refine o_mgE (ws' := [(mm, .inr (12, mo g (nI ta) (nI pa) (nI pe) pd (nI pb) pp pf pg pn rt rn (nI cd) sn (nI il) tk am at_ aa mt_ 0 (-1) wt wy (nI it_) (nI rm) (nI ud) (nI nu) sd (nI qn) (nI qw) qo (nI qb) (nI qp) qa (nI qi) (nI oc))), (g 20, .inl (cI, 4, .inl (l4 (nI l0) (nI l1) (nI dm) (nI l3)))), (g 31, .inl (cI, 120, .inl nw)), (g 37, .inl (cZ, 900, .inl yo)), (g 36, .inl (cZ, 900, .inl yw)), (g 43, .inl (cJ, 90, .inr (.inl be))), (g 46, .inl (cI, 9, .inl (fun j => nI (zp j))))]) eu_14 hP hD rfl (fun hP hD => ?_)
            refine lv_if_eq (tgt := 52) hx hb dX12_walksTo_31 (by decide) (fun c_16 => ?_) (fun c_16 => ?_)
            · have c_16 : b_10 = 0 := (neq b_10 0 (by omega) (by omega)).mp c_16
              refine lv_aload_n hx hb dX12_walksTo_52 rfl (lv_at hl 3 rfl) ?_
              refine lv_iload hx hb dX12_walksTo_53 (lv_at hl 1 rfl) ?_
              refine lv_iload_n hx hb dX12_walksTo_55 rfl (lv_at hl 2 rfl) ?_
              refine lv_iload hx hb dX12_walksTo_56 (lv_at hl 0 rfl) ?_
              refine sk_Vi (q0 := 0) (n := 3) (rest := []) (wr := fmR om_7_5c _) ⟨hx, hb, hml, hown, hts⟩ hl.1 (c_m_canFollow0 l D cI cJ cC cZ cS mm g ta pa pe pd pb pp pf pg pn rt rn cd sn il tk am at_ aa mt_ wt wy it_ rm ud nu sd qn qw qo qb qp qa qi oc i ah jm nw yo yw (by omega) (by omega) (by omega) hnw) w_7_201 w_7_203 w_0_85 w_1_14 w_7_204 hd_X12_canFollow_3 ⟨⟨(Nat.le_of_ble_eq_true rfl), (Nat.le_of_ble_eq_true rfl)⟩, (Nat.le_of_ble_eq_true rfl), (Nat.le_of_ble_eq_true rfl)⟩ hK hP hD hS hA (fmT om_7_5c 0) (fmF om_7_5c 0) (fm_C1 rfl rfl) (fm_R rfl rfl) (fm_nT om_7_5c 0) (fm_nF om_7_5c 0) (fm_di om_7_5c 0) rfl rfl rfl rfl (Nat.le_of_ble_eq_true rfl) dX12_walksTo_58 (fun r_18 u H locs hw hP hD hS => ?_)
              refine exE hw (fun b_17 hw1 => anE hw1 (fun hb1_19 hw2 => anE hw2 (fun hb2_20 hw3 => anE hw3 (fun er_22 eu_21 => ?_))))
              clear hw hw1 hw2 hw3
              subst er_22
              refine o_mgE (ws' := [(mm, .inr (12, mo g (nI ta) (nI pa) (nI pe) pd (nI pb) pp pf pg pn rt rn (nI cd) sn (nI il) tk am at_ aa mt_ 0 (-1) wt wy (nI it_) (nI rm) (nI ud) (nI nu) sd (nI qn) (nI qw) qo (nI qb) (nI qp) qa (nI qi) (nI oc))), (g 20, .inl (cI, 4, .inl (l4 (nI l0) (nI l1) (nI dm) (nI l3)))), (g 31, .inl (cI, 120, .inl nw)), (g 37, .inl (cZ, 900, .inl yo)), (g 36, .inl (cZ, 900, .inl yw)), (g 43, .inl (cJ, 90, .inr (.inl be))), (g 46, .inl (cI, 9, .inl (fun j => nI (zp j))))]) eu_21 hP hD rfl (fun hP hD => ?_)
              refine lv_if_eq (tgt := 80) hx hb dX12_walksTo_61 (by decide) (fun c_23 => ?_) (fun c => absurd ((or_1 hb1_19 (fun h => c (by rw [h]; rfl))).symm.trans (or_0 hb1_12 (by omega))) (by decide))
              refine lv_iinc (v := nI (jm + 1)) (lv' := [(5, .int (nI (jm + 1))), (4, .int (nI i)), (3, .int (nI ah)), (0, .ref mm), (1, .long (nL yy))]) hx hb dX12_walksTo_80 hl (k := 0) rfl (ninc jm 1 (by decide)) (by decide) rfl (fun ls hl => ?_)
              refine lv_goto (tgt := 22) hx hb dX12_walksTo_83 (by decide) ?_
              exact ih_lp_8 (jm + 1) (nL yy) yy _ _ _ (by omega) rfl (by have e9 := kW_no (n := dm) (or_0 hb1_12 (by omega)); have h9 := kcP_go (w := (kcW (cfN nw yw yo mt_) dm i ah)) (x := yy) hjm (by rw [e9]; omega); rw [e9, Nat.sub_zero] at h9; exact h9.symm.trans hyP) (by have e9 := kW_no (n := dm) (or_0 hb1_12 (by omega)); have h9 := kcT_s (w := (kcW (cfN nw yw yo mt_) dm i ah)) hjm hyT (by rw [e9]; omega); rw [e9, Nat.sub_zero] at h9; exact h9) (kcT_lt (by have e9 := kW_no (n := dm) (or_0 hb1_12 (by omega)); have h9 := kcT_s (w := (kcW (cfN nw yw yo mt_) dm i ah)) hjm hyT (by rw [e9]; omega); rw [e9, Nat.sub_zero] at h9; exact h9)) (by omega) hP hD hS (lv_sub hl [0, 1, 2, 3, 4] rfl)
            · have c_16 : ¬ (b_10 = 0) := fun h => c_16 ((neq b_10 0 (by omega) (by omega)).mpr h)
              refine lv_lload_n hx hb dX12_walksTo_34 rfl (lv_at hl 4 rfl) ?_
              refine lv_aload_n hx hb dX12_walksTo_35 rfl (lv_at hl 3 rfl) ?_
              refine sk_get (v := .ref (g 43)) (C := RX12) (T := TX12) (N := 92) hx hb hts inlX12 hown hK hP 0 rfl rfl 43 (by decide) w_5_198 rfl dX12_walksTo_36 ?_
              refine lv_bipush (v := 10) hx hb dX12_walksTo_39 (by decide) ?_
              refine lv_iload hx hb dX12_walksTo_41 (lv_at hl 1 rfl) ?_
              refine lv_imul hx hb dX12_walksTo_43 ?_
              refine sk_top (nI (10 * i)) (nmul 10 i) ?_
              refine lv_iload hx hb dX12_walksTo_44 (lv_at hl 0 rfl) ?_
              refine lv_iadd hx hb dX12_walksTo_46 ?_
              refine sk_top (nI (10 * i + jm)) (nI_add (10 * i) jm) ?_
              refine va_lald hx hb hK.1 hP 5 1 rfl rfl (vin (10 * i + jm) 90 (by omega) (by omega)) dX12_walksTo_47 ?_
              refine sk_topl (nL (bk (cfN nw yw yo mt_) (dm - 1 - i) i jm)) (be_get hbe (by omega) (by omega) (by omega) (by omega) rfl) ?_
              refine W.lcmp hx hb dX12_walksTo_48 ?_
              refine lv_if_lt (tgt := 86) hx hb dX12_walksTo_49 (by decide) (fun c_24 => ?_) (fun c_24 => ?_)
              · skip
                refine lv_aload_n hx hb dX12_walksTo_86 rfl (lv_at hl 3 rfl) ?_
                refine sk_get (v := .ref (g 46)) (C := RX12) (T := TX12) (N := 92) hx hb hts inlX12 hown hK hP 0 rfl rfl 46 (by decide) w_5_201 rfl dX12_walksTo_87 ?_
                refine lv_iload hx hb dX12_walksTo_90 (lv_at hl 1 rfl) ?_
                refine lv_iload hx hb dX12_walksTo_92 (lv_at hl 0 rfl) ?_
                refine sk_iastNE (k := i) (v := jm) (B := 9) (ws' := fun f_25 => [(mm, .inr (12, mo g (nI ta) (nI pa) (nI pe) pd (nI pb) pp pf pg pn rt rn (nI cd) sn (nI il) tk am at_ aa mt_ 0 (-1) wt wy (nI it_) (nI rm) (nI ud) (nI nu) sd (nI qn) (nI qw) qo (nI qb) (nI qp) qa (nI qi) (nI oc))), (g 20, .inl (cI, 4, .inl (l4 (nI l0) (nI l1) (nI dm) (nI l3)))), (g 31, .inl (cI, 120, .inl nw)), (g 37, .inl (cZ, 900, .inl yo)), (g 36, .inl (cZ, 900, .inl yw)), (g 43, .inl (cJ, 90, .inr (.inl be))), (g 46, .inl (cI, 9, .inl (fun j => nI (f_25 j))))]) hx hb hK hP hD hS 6 0 rfl rfl (by omega) (by omega) hzp (by omega) (fun _ => rfl) dX12_walksTo_94 (fun f_25 H locs hf_27 ef_26 hP hD hS => ?_)
                have hk_28 : kcA (cfN nw yw yo mt_) dm (a0N nw) nz (i + 1) = (jm, yy) := by rw [kcA_s, haa, ← hyP]; exact kcP_at hjm (by rw [kW_bk (n := dm) (or_1 hb1_12 (by omega))]; exact (nL_lt (by omega) (by omega)).mp c_24)
                refine lv_iload hx hb dX12_walksTo_95 (lv_at hl 0 rfl) ?_
                refine lv_istore_n (lv' := [(3, .int (nI jm)), (5, .int (nI jm)), (4, .int (nI i)), (0, .ref mm), (1, .long (nL yy))]) hx hb dX12_walksTo_97 rfl hl (by decide) rfl (fun ls hl => ?_)
                refine lv_iinc (v := nI (i + 1)) (lv' := [(4, .int (nI (i + 1))), (3, .int (nI jm)), (5, .int (nI jm)), (0, .ref mm), (1, .long (nL yy))]) hx hb dX12_walksTo_98 hl (k := 2) rfl (ninc i 1 (by decide)) (by decide) rfl (fun ls hl => ?_)
                refine lv_goto (tgt := 10) hx hb dX12_walksTo_101 (by decide) ?_
                exact ih_lp_2 (i + 1) jm (nL yy) f_25 _ _ _ (by omega) hf_27 (by omega) (by omega) (by rw [hk_28]) (by rw [hk_28]) (mp_s hrr ef_26 (by rw [hk_28])) hP hD hS (lv_sub hl [0, 1, 3, 4] rfl)
              · skip
                refine lv_aload_n hx hb dX12_walksTo_52 rfl (lv_at hl 3 rfl) ?_
                refine lv_iload hx hb dX12_walksTo_53 (lv_at hl 1 rfl) ?_
                refine lv_iload_n hx hb dX12_walksTo_55 rfl (lv_at hl 2 rfl) ?_
                refine lv_iload hx hb dX12_walksTo_56 (lv_at hl 0 rfl) ?_
                refine sk_Vi (q0 := 0) (n := 3) (rest := []) (wr := fmR om_7_5c _) ⟨hx, hb, hml, hown, hts⟩ hl.1 (c_m_canFollow0 l D cI cJ cC cZ cS mm g ta pa pe pd pb pp pf pg pn rt rn cd sn il tk am at_ aa mt_ wt wy it_ rm ud nu sd qn qw qo qb qp qa qi oc i ah jm nw yo yw (by omega) (by omega) (by omega) hnw) w_7_201 w_7_203 w_0_85 w_1_14 w_7_204 hd_X12_canFollow_3 ⟨⟨(Nat.le_of_ble_eq_true rfl), (Nat.le_of_ble_eq_true rfl)⟩, (Nat.le_of_ble_eq_true rfl), (Nat.le_of_ble_eq_true rfl)⟩ hK hP hD hS hA (fmT om_7_5c 0) (fmF om_7_5c 0) (fm_C1 rfl rfl) (fm_R rfl rfl) (fm_nT om_7_5c 0) (fm_nF om_7_5c 0) (fm_di om_7_5c 0) rfl rfl rfl rfl (Nat.le_of_ble_eq_true rfl) dX12_walksTo_58 (fun r_30 u H locs hw hP hD hS => ?_)
                refine exE hw (fun b_29 hw1 => anE hw1 (fun hb1_31 hw2 => anE hw2 (fun hb2_32 hw3 => anE hw3 (fun er_34 eu_33 => ?_))))
                clear hw hw1 hw2 hw3
                subst er_34
                refine o_mgE (ws' := [(mm, .inr (12, mo g (nI ta) (nI pa) (nI pe) pd (nI pb) pp pf pg pn rt rn (nI cd) sn (nI il) tk am at_ aa mt_ 0 (-1) wt wy (nI it_) (nI rm) (nI ud) (nI nu) sd (nI qn) (nI qw) qo (nI qb) (nI qp) qa (nI qi) (nI oc))), (g 20, .inl (cI, 4, .inl (l4 (nI l0) (nI l1) (nI dm) (nI l3)))), (g 31, .inl (cI, 120, .inl nw)), (g 37, .inl (cZ, 900, .inl yo)), (g 36, .inl (cZ, 900, .inl yw)), (g 43, .inl (cJ, 90, .inr (.inl be))), (g 46, .inl (cI, 9, .inl (fun j => nI (zp j))))]) eu_33 hP hD rfl (fun hP hD => ?_)
                refine lv_if_eq (tgt := 80) hx hb dX12_walksTo_61 (by decide) (fun c => absurd ((or_0 hb1_31 ((neq _ 0 (by omega) (by omega)).mp c)).symm.trans (or_1 hb1_12 (by omega))) (by decide)) (fun c_35 => ?_)
                refine lv_lload_n hx hb dX12_walksTo_64 rfl (lv_at hl 4 rfl) ?_
                refine lv_aload_n hx hb dX12_walksTo_65 rfl (lv_at hl 3 rfl) ?_
                refine sk_get (v := .ref (g 43)) (C := RX12) (T := TX12) (N := 92) hx hb hts inlX12 hown hK hP 0 rfl rfl 43 (by decide) w_5_198 rfl dX12_walksTo_66 ?_
                refine lv_bipush (v := 10) hx hb dX12_walksTo_69 (by decide) ?_
                refine lv_iload hx hb dX12_walksTo_71 (lv_at hl 1 rfl) ?_
                refine lv_imul hx hb dX12_walksTo_73 ?_
                refine sk_top (nI (10 * i)) (nmul 10 i) ?_
                refine lv_iload hx hb dX12_walksTo_74 (lv_at hl 0 rfl) ?_
                refine lv_iadd hx hb dX12_walksTo_76 ?_
                refine sk_top (nI (10 * i + jm)) (nI_add (10 * i) jm) ?_
                refine va_lald hx hb hK.1 hP 5 1 rfl rfl (vin (10 * i + jm) 90 (by omega) (by omega)) dX12_walksTo_77 ?_
                refine sk_topl (nL (bk (cfN nw yw yo mt_) (dm - 1 - i) i jm)) (be_get hbe (by omega) (by omega) (by omega) (by omega) rfl) ?_
                refine lv_lsub hx hb dX12_walksTo_78 ?_
                have hge := klt_m c_24 (by omega) (by omega)
                refine sk_topl (nL (yy - bk (cfN nw yw yo mt_) (dm - 1 - i) i jm)) (nL_sub hge) ?_
                refine lv_lstore_n (lv' := [(1, .long (nL (yy - bk (cfN nw yw yo mt_) (dm - 1 - i) i jm))), (5, .int (nI jm)), (4, .int (nI i)), (3, .int (nI ah)), (0, .ref mm)]) hx hb dX12_walksTo_79 rfl hl (by decide) rfl (fun ls hl => ?_)
                refine lv_iinc (v := nI (jm + 1)) (lv' := [(5, .int (nI (jm + 1))), (1, .long (nL (yy - bk (cfN nw yw yo mt_) (dm - 1 - i) i jm))), (4, .int (nI i)), (3, .int (nI ah)), (0, .ref mm)]) hx hb dX12_walksTo_80 hl (k := 1) rfl (ninc jm 1 (by decide)) (by decide) rfl (fun ls hl => ?_)
                refine lv_goto (tgt := 22) hx hb dX12_walksTo_83 (by decide) ?_
                exact ih_lp_8 (jm + 1) (nL (yy - bk (cfN nw yw yo mt_) (dm - 1 - i) i jm)) (yy - bk (cfN nw yw yo mt_) (dm - 1 - i) i jm) _ _ _ (by omega) rfl (by have e9 := kW_bk (n := dm) (or_1 hb1_12 (by omega)); have h9 := kcP_go (w := (kcW (cfN nw yw yo mt_) dm i ah)) (x := yy) hjm (by rw [e9]; omega); rw [e9] at h9; exact h9.symm.trans hyP) (by have e9 := kW_bk (n := dm) (or_1 hb1_12 (by omega)); have h9 := kcT_s (w := (kcW (cfN nw yw yo mt_) dm i ah)) hjm hyT (by rw [e9]; exact hge); rw [e9] at h9; exact h9) (kcT_lt (by have e9 := kW_bk (n := dm) (or_1 hb1_12 (by omega)); have h9 := kcT_s (w := (kcW (cfN nw yw yo mt_) dm i ah)) hjm hyT (by rw [e9]; exact hge); rw [e9] at h9; exact h9)) (by omega) hP hD hS (lv_sub hl [0, 2, 3, 4, 1] rfl)
        exact lp_8 (10 - 0 + 1) 0 xk ((kcA (cfN nw yw yo mt_) dm (a0N nw) nz i).2) _ _ _ (Nat.lt_succ_self _) hxk rfl (by have h9 := hok.2; rw [haa, ← kcW_S (show i < dm by omega), ← kcT_10] at h9; exact h9) (kcT_lt (by have h9 := hok.2; rw [haa, ← kcW_S (show i < dm by omega), ← kcT_10] at h9; exact h9)) (by have := kcC_9 (cfN nw yw yo mt_) (show dm - i ≤ 9 by omega) i (kcA (cfN nw yw yo mt_) dm (a0N nw) nz i).1; have h5 := hok.2; omega) hP hD hS (lv_sub hl [0, 1, 2, 3, 4] rfl)
  exact lp_2 (dm - 0 + 1) 0 k_1 (nL nz) pt _ _ _ (Nat.lt_succ_self _) hpt (by omega) (by omega) (show (a0N nw) = _ from ha0.symm) rfl (mp_0 _ _ _ _ _) hP hD hS (lv_sub hl [0, 1, 2, 3] rfl)

