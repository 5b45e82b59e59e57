set_option maxHeartbeats 4000000 in
set_option maxRecDepth 100000 in
theorem c_ktakeNumbered (l : Launch) (D : va_G) (cI cJ cC cZ cS : ClassId) (q : Nat → Nat) (gd : Nat) (gs : Nat) (e1 : Nat → Int32) (e2 : Nat → Int32) (e3 : Nat → Int32) (e4 : Nat → Int64) (rw : Nat) (ra : Nat → Int32) (Ed : Nat → Nat → Nat → Bool) (nu : Nat) (hgd : gd ≤ 9) (hgs : gs ≤ 9) (hld : kcLd Ed gd e1 e2) (hlv : kcLv Ed gd 0 e3) (hwy : kcWy Ed gd 0 e4) (hnu : nu < kcC Ed gd 0 gs) : skM l yX1_takeNumbered cX1_takeNumbered 13 none 1 22 0 0 D (skT cI cJ cC cZ cS) [.ref (q 11), .long (Int64.ofNat nu), .ref rw] [(q 11, .inr (1, [.ref (q 10), .ref (q 67), .ref (q 68), .ref (q 69), .ref (q 70), .ref (q 71), .ref (q 72), .int (nI gd), .int (nI gs)])), (q 67, .inl (cI, 90, .inl e1)), (q 68, .inl (cI, 9, .inl e2)), (q 69, .inl (cI, 10, .inl e3)), (q 70, .inl (cJ, 100, .inr (.inl e4))), (rw, .inl (cI, 9, .inl ra))] (skV D (skT cI cJ cC cZ cS) (fun (u : va_W) => ∃ (ra2 : Nat → Int32), kcRw Ed gd gs nu gd ra2 ∧ u = [(q 11, .inr (1, [.ref (q 10), .ref (q 67), .ref (q 68), .ref (q 69), .ref (q 70), .ref (q 71), .ref (q 72), .int (nI gd), .int (nI gs)])), (q 67, .inl (cI, 90, .inl e1)), (q 68, .inl (cI, 9, .inl e2)), (q 69, .inl (cI, 10, .inl e3)), (q 70, .inl (cJ, 100, .inr (.inl e4))), (rw, .inl (cI, 9, .inl ra2))])) := by
  refine skM_of pf_X1_takeNumbered (Nat.le_of_ble_eq_true rfl) ?_
  intro p e s m below meth c A ls E hP hD hl
  refine skE_el E (fun hx hb hr hml hlocks hin hown hts hK hA => ?_)
  have hown : s.vm.findClass RX1 = some m.cls := hown
  have hS : va_S A s.heap s.heap [] := va_S.rf
  have hl : lv_has ls 13 [(0, .ref (q 11)), (1, .long (Int64.ofNat nu)), (3, .ref rw)] := hl
  refine lv_lload_n hx hb dX1_takeNumbered_0 rfl (lv_at hl 1 rfl) ?_
  refine lv_lstore (lv' := [(4, .long (Int64.ofNat nu)), (0, .ref (q 11)), (1, .long (Int64.ofNat nu)), (3, .ref rw)]) hx hb dX1_takeNumbered_1 hl (by decide) rfl (fun ls hl => ?_)
  refine lv_aload_n hx hb dX1_takeNumbered_3 rfl (lv_at hl 1 rfl) ?_
  refine sk_get (v := .int (nI gs)) (C := RX1) (T := TX1) (N := 9) hx hb hts inlX1 hown hK hP 0 rfl rfl 8 (by decide) w_2_103 rfl dX1_takeNumbered_4 ?_
  refine lv_istore (lv' := [(6, .int (nI gs)), (4, .long (Int64.ofNat nu)), (0, .ref (q 11)), (1, .long (Int64.ofNat nu)), (3, .ref rw)]) hx hb dX1_takeNumbered_7 hl (by decide) rfl (fun ls hl => ?_)
  refine lv_iconst (v := 0) hx hb dX1_takeNumbered_9 (by decide) ?_
  refine lv_istore (lv' := [(7, .int 0), (6, .int (nI gs)), (4, .long (Int64.ofNat nu)), (0, .ref (q 11)), (1, .long (Int64.ofNat nu)), (3, .ref rw)]) hx hb dX1_takeNumbered_10 hl (by decide) rfl (fun ls hl => ?_)
  have lp_1 : ∀ (n_2 : Nat) (i : Nat) (ah : Nat) (lf : Int64) (rb : Nat → Int32) (H : Heap) (locs : List Loc) (ls : Array Slot), gd - i < n_2 → (i ≤ gd) → (ah < 10) → ((kcA Ed gd gs nu i).1 = ah) → (lf = Int64.ofNat (kcA Ed gd gs nu i).2) → (kcRw Ed gd gs nu i rb) → va_P D vwCl [(q 11, .inr (1, [.ref (q 10), .ref (q 67), .ref (q 68), .ref (q 69), .ref (q 70), .ref (q 71), .ref (q 72), .int (nI gd), .int (nI gs)])), (q 67, .inl (cI, 90, .inl e1)), (q 68, .inl (cI, 9, .inl e2)), (q 69, .inl (cI, 10, .inl e3)), (q 70, .inl (cJ, 100, .inr (.inl e4))), (rw, .inl (cI, 9, .inl rb))] H → va_D A [(q 11, .inr (1, [.ref (q 10), .ref (q 67), .ref (q 68), .ref (q 69), .ref (q 70), .ref (q 71), .ref (q 72), .int (nI gd), .int (nI gs)])), (q 67, .inl (cI, 90, .inl e1)), (q 68, .inl (cI, 9, .inl e2)), (q 69, .inl (cI, 10, .inl e3)), (q 70, .inl (cJ, 100, .inr (.inl e4))), (rw, .inl (cI, 9, .inl rb))] → va_S A s.heap H locs → lv_has ls 13 [(7, .int (nI i)), (6, .int (nI ah)), (4, .long lf), (0, .ref (q 11)), (1, .long (Int64.ofNat nu)), (3, .ref rw)] → W p l e { frames := 1, cells := 0, slots := 0, locals := 22 } s m ([.ref (q 11), .long (Int64.ofNat nu), .ref rw] : List Value).toArray below meth c H locs 0 0 (MQ below (skV D (skT cI cJ cC cZ cS) (fun (u : va_W) => ∃ (ra2 : Nat → Int32), kcRw Ed gd gs nu gd ra2 ∧ u = [(q 11, .inr (1, [.ref (q 10), .ref (q 67), .ref (q 68), .ref (q 69), .ref (q 70), .ref (q 71), .ref (q 72), .int (nI gd), .int (nI gs)])), (q 67, .inl (cI, 90, .inl e1)), (q 68, .inl (cI, 9, .inl e2)), (q 69, .inl (cI, 10, .inl e3)), (q 70, .inl (cJ, 100, .inr (.inl e4))), (rw, .inl (cI, 9, .inl ra2))]) A) ([.ref (q 11), .long (Int64.ofNat nu), .ref rw] : List Value).toArray s 0 0 A) (F0 m 12 ls []) := by
    intro n_2
    induction n_2 with
    | zero => intro i ah lf rb H locs ls hm; exact absurd hm (Nat.not_lt_zero _)
    | succ n_2 ih_lp_1 =>
      intro i ah lf rb H locs ls hm hi hah haa hlf hrr hP hD hS hl
      refine lv_iload hx hb dX1_takeNumbered_12 (lv_at hl 0 rfl) ?_
      refine lv_aload_n hx hb dX1_takeNumbered_14 rfl (lv_at hl 3 rfl) ?_
      refine sk_get (v := .int (nI gd)) (C := RX1) (T := TX1) (N := 9) hx hb hts inlX1 hown hK hP 0 rfl rfl 7 (by decide) w_2_102 rfl dX1_takeNumbered_15 ?_
      refine lv_icmp_ge (tgt := 120) hx hb dX1_takeNumbered_18 (by decide) (fun c_3 => ?_) (fun c_3 => ?_)
      · have c_3 : gd ≤ i := (nle gd i (by omega) (by omega)).mp c_3
        exact sk_vret hx hb hr hlocks hK hP hD hS (⟨rb, krw_e hrr (by omega), rfl⟩) (Nat.le_of_ble_eq_true rfl) (Nat.le_of_ble_eq_true rfl) dX1_takeNumbered_120
      · have c_3 : ¬ (gd ≤ i) := fun h => c_3 ((nle gd i (by omega) (by omega)).mpr h)
        refine lv_aload_n hx hb dX1_takeNumbered_21 rfl (lv_at hl 3 rfl) ?_
        refine lv_iload hx hb dX1_takeNumbered_22 (lv_at hl 0 rfl) ?_
        refine lv_iload hx hb dX1_takeNumbered_24 (lv_at hl 1 rfl) ?_
        refine sk_Vi (q0 := 0) (n := 2) (rest := []) (wr := fmR om_6_3c _) ⟨hx, hb, hml, hown, hts⟩ hl.1 (c_knext l D cI cJ cC cZ cS q gd gs e1 e2 e3 i ah Ed (by omega) (by omega) (by omega) hld (klv_i hlv (by omega))) w_4_57 w_4_59 w_0_20 w_1_13 w_4_60 hd_X1_next_2 ⟨⟨(Nat.le_of_ble_eq_true rfl), (Nat.le_of_ble_eq_true rfl)⟩, (Nat.le_of_ble_eq_true rfl), (Nat.le_of_ble_eq_true rfl)⟩ hK hP hD hS hA (fmT om_6_3c 0) (fmF om_6_3c 0) (fm_C1 rfl rfl) (fm_R rfl rfl) (fm_nT om_6_3c 0) (fm_nF om_6_3c 0) (fm_di om_6_3c 0) rfl rfl rfl rfl (Nat.le_of_ble_eq_true rfl) dX1_takeNumbered_26 (fun r_5 u H locs hw hP hD hS => ?_)
        refine exE hw (fun nq_4 hw1 => anE hw1 (fun hnx_6 hw2 => anE hw2 (fun er_8 eu_7 => ?_)))
        clear hw hw1 hw2
        subst er_8
        refine o_mgE (ws' := [(q 11, .inr (1, [.ref (q 10), .ref (q 67), .ref (q 68), .ref (q 69), .ref (q 70), .ref (q 71), .ref (q 72), .int (nI gd), .int (nI gs)])), (q 67, .inl (cI, 90, .inl e1)), (q 68, .inl (cI, 9, .inl e2)), (q 69, .inl (cI, 10, .inl e3)), (q 70, .inl (cJ, 100, .inr (.inl e4))), (rw, .inl (cI, 9, .inl rb))]) eu_7 hP hD rfl (fun hP hD => ?_)
        have hl_9 := hnx_6.1
        have hok := kcA_ok (by omega) hnu i (by omega)
        rw [haa, ← kcW_S (show i < gd by omega), ← kcT_10] at hok
        refine lv_istore (lv' := [(8, .int (nI nq_4)), (7, .int (nI i)), (6, .int (nI ah)), (4, .long lf), (0, .ref (q 11)), (1, .long (Int64.ofNat nu)), (3, .ref rw)]) hx hb dX1_takeNumbered_29 hl (by decide) rfl (fun ls hl => ?_)
        refine lv_iconst (v := 0) hx hb dX1_takeNumbered_31 (by decide) ?_
        refine lv_istore (lv' := [(9, .int 0), (8, .int (nI nq_4)), (7, .int (nI i)), (6, .int (nI ah)), (4, .long lf), (0, .ref (q 11)), (1, .long (Int64.ofNat nu)), (3, .ref rw)]) hx hb dX1_takeNumbered_32 hl (by decide) rfl (fun ls hl => ?_)
        refine lv_iconst (v := 0) hx hb dX1_takeNumbered_34 (by decide) ?_
        refine lv_istore (lv' := [(10, .int 0), (9, .int 0), (8, .int (nI nq_4)), (7, .int (nI i)), (6, .int (nI ah)), (4, .long lf), (0, .ref (q 11)), (1, .long (Int64.ofNat nu)), (3, .ref rw)]) hx hb dX1_takeNumbered_35 hl (by decide) rfl (fun ls hl => ?_)
        have lp_10 : ∀ (n_11 : Nat) (jj : Nat) (lf2 : Int64) (yy : Nat) (H : Heap) (locs : List Loc) (ls : Array Slot), 10 - jj < n_11 → (jj ≤ 10) → (lf2 = Int64.ofNat yy) → (kcP (kcW Ed gd i ah) (10 - jj) jj yy = kcP (kcW Ed gd i ah) 10 0 (kcA Ed gd gs nu i).2) → (yy < kcT (kcW Ed gd i ah) (10 - jj) jj) → (yy ≤ 10000000000) → va_P D vwCl [(q 11, .inr (1, [.ref (q 10), .ref (q 67), .ref (q 68), .ref (q 69), .ref (q 70), .ref (q 71), .ref (q 72), .int (nI gd), .int (nI gs)])), (q 67, .inl (cI, 90, .inl e1)), (q 68, .inl (cI, 9, .inl e2)), (q 69, .inl (cI, 10, .inl e3)), (q 70, .inl (cJ, 100, .inr (.inl e4))), (rw, .inl (cI, 9, .inl rb))] H → va_D A [(q 11, .inr (1, [.ref (q 10), .ref (q 67), .ref (q 68), .ref (q 69), .ref (q 70), .ref (q 71), .ref (q 72), .int (nI gd), .int (nI gs)])), (q 67, .inl (cI, 90, .inl e1)), (q 68, .inl (cI, 9, .inl e2)), (q 69, .inl (cI, 10, .inl e3)), (q 70, .inl (cJ, 100, .inr (.inl e4))), (rw, .inl (cI, 9, .inl rb))] → va_S A s.heap H locs → lv_has ls 13 [(10, .int (nI jj)), (9, .int 0), (8, .int (nI nq_4)), (7, .int (nI i)), (6, .int (nI ah)), (4, .long lf2), (0, .ref (q 11)), (1, .long (Int64.ofNat nu)), (3, .ref rw)] → W p l e { frames := 1, cells := 0, slots := 0, locals := 22 } s m ([.ref (q 11), .long (Int64.ofNat nu), .ref rw] : List Value).toArray below meth c H locs 0 0 (MQ below (skV D (skT cI cJ cC cZ cS) (fun (u : va_W) => ∃ (ra2 : Nat → Int32), kcRw Ed gd gs nu gd ra2 ∧ u = [(q 11, .inr (1, [.ref (q 10), .ref (q 67), .ref (q 68), .ref (q 69), .ref (q 70), .ref (q 71), .ref (q 72), .int (nI gd), .int (nI gs)])), (q 67, .inl (cI, 90, .inl e1)), (q 68, .inl (cI, 9, .inl e2)), (q 69, .inl (cI, 10, .inl e3)), (q 70, .inl (cJ, 100, .inr (.inl e4))), (rw, .inl (cI, 9, .inl ra2))]) A) ([.ref (q 11), .long (Int64.ofNat nu), .ref rw] : List Value).toArray s 0 0 A) (F0 m 37 ls []) := by
          intro n_11
          induction n_11 with
          | zero => intro jj lf2 yy H locs ls hm; exact absurd hm (Nat.not_lt_zero _)
          | succ n_11 ih_lp_10 =>
            intro jj lf2 yy H locs ls hm hjj hl2 hyP hyT hyl hP hD hS hl
            refine lv_iload hx hb dX1_takeNumbered_37 (lv_at hl 0 rfl) ?_
            refine lv_bipush (v := 10) hx hb dX1_takeNumbered_39 (by decide) ?_
            refine lv_icmp_ge (tgt := 104) hx hb dX1_takeNumbered_41 (by decide) (fun c_12 => ?_) (fun c_12 => ?_)
            · have c_12 : 10 ≤ jj := (nle 10 jj (by omega) (by omega)).mp c_12
              exact (kcT_e (by omega) hyT).elim
            · have c_12 : ¬ (10 ≤ jj) := fun h => c_12 ((nle 10 jj (by omega) (by omega)).mpr h)
              subst hl2
              refine lv_iload hx hb dX1_takeNumbered_44 (lv_at hl 2 rfl) ?_
              refine lv_iload hx hb dX1_takeNumbered_46 (lv_at hl 0 rfl) ?_
              refine lv_ishr hx hb dX1_takeNumbered_48 ?_
              refine lv_iconst (v := 1) hx hb dX1_takeNumbered_49 (by decide) ?_
              refine lv_iand hx hb dX1_takeNumbered_50 ?_
              refine lv_iconst (v := 1) hx hb dX1_takeNumbered_51 (by decide) ?_
              refine lv_icmp_ne (tgt := 73) hx hb dX1_takeNumbered_52 (by decide) (fun c_13 => ?_) (fun c_13 => ?_)
              · skip
                refine lv_lconst (v := 0) hx hb dX1_takeNumbered_73 (by decide) ?_
                refine lv_lstore (lv' := [(11, .long 0), (10, .int (nI jj)), (9, .int 0), (8, .int (nI nq_4)), (7, .int (nI i)), (6, .int (nI ah)), (4, .long (Int64.ofNat yy)), (0, .ref (q 11)), (1, .long (Int64.ofNat nu)), (3, .ref rw)]) hx hb dX1_takeNumbered_74 hl (by decide) rfl (fun ls hl => ?_)
                have hh_14 := kwh_n hnx_6 (show jj < 10 by omega) (fun hq => c_13 ((ktb hnx_6.1 (by omega)).mpr hq))
                have hl_15 := kW_le Ed hgd i ah jj
                rw [hh_14] at hl
                refine lv_lload hx hb dX1_takeNumbered_76 (lv_at hl 6 rfl) ?_
                refine lv_lload hx hb dX1_takeNumbered_78 (lv_at hl 0 rfl) ?_
                refine W.lcmp hx hb dX1_takeNumbered_80 ?_
                refine lv_if_ge (tgt := 91) hx hb dX1_takeNumbered_81 (by decide) (fun c_16 => ?_) (fun c_16 => ?_)
                · skip
                  refine lv_lload hx hb dX1_takeNumbered_91 (lv_at hl 6 rfl) ?_
                  refine lv_lload hx hb dX1_takeNumbered_93 (lv_at hl 0 rfl) ?_
                  refine lv_lsub hx hb dX1_takeNumbered_95 ?_
                  have hge := (kcmp_ge (by omega) (by omega)).mp c_16
                  refine sk_topl (Int64.ofNat (yy - kcW Ed gd i ah jj)) (kofn_sub hge) ?_
                  refine lv_lstore (lv' := [(4, .long (Int64.ofNat (yy - kcW Ed gd i ah jj))), (11, .long (Int64.ofNat (kcW Ed gd i ah jj))), (10, .int (nI jj)), (9, .int 0), (8, .int (nI nq_4)), (7, .int (nI i)), (6, .int (nI ah)), (0, .ref (q 11)), (1, .long (Int64.ofNat nu)), (3, .ref rw)]) hx hb dX1_takeNumbered_96 hl (by decide) rfl (fun ls hl => ?_)
                  refine lv_iinc (v := nI (jj + 1)) (lv' := [(10, .int (nI (jj + 1))), (4, .long (Int64.ofNat (yy - kcW Ed gd i ah jj))), (11, .long (Int64.ofNat (kcW Ed gd i ah jj))), (9, .int 0), (8, .int (nI nq_4)), (7, .int (nI i)), (6, .int (nI ah)), (0, .ref (q 11)), (1, .long (Int64.ofNat nu)), (3, .ref rw)]) hx hb dX1_takeNumbered_98 hl (k := 2) rfl (ninc jj 1 (by decide)) (by decide) rfl (fun ls hl => ?_)
                  refine lv_goto (tgt := 37) hx hb dX1_takeNumbered_101 (by decide) ?_
                  exact ih_lp_10 (jj + 1) (Int64.ofNat (yy - kcW Ed gd i ah jj)) (yy - kcW Ed gd i ah jj) _ _ _ (by omega) (by omega) rfl ((kcP_go (by omega) (Nat.not_lt.mpr hge)).symm.trans hyP) (kcT_s (by omega) hyT hge) (by omega) hP hD hS (lv_sub hl [0, 3, 4, 5, 6, 1, 7, 8, 9] rfl)
                · skip
                  refine lv_iload hx hb dX1_takeNumbered_84 (lv_at hl 1 rfl) ?_
                  refine lv_istore (lv' := [(9, .int (nI jj)), (11, .long (Int64.ofNat (kcW Ed gd i ah jj))), (10, .int (nI jj)), (8, .int (nI nq_4)), (7, .int (nI i)), (6, .int (nI ah)), (4, .long (Int64.ofNat yy)), (0, .ref (q 11)), (1, .long (Int64.ofNat nu)), (3, .ref rw)]) hx hb dX1_takeNumbered_86 hl (by decide) rfl (fun ls hl => ?_)
                  refine lv_goto (tgt := 104) hx hb dX1_takeNumbered_88 (by decide) ?_
                  refine lv_aload_n hx hb dX1_takeNumbered_104 rfl (lv_at hl 9 rfl) ?_
                  refine lv_iload hx hb dX1_takeNumbered_105 (lv_at hl 4 rfl) ?_
                  refine lv_iload hx hb dX1_takeNumbered_107 (lv_at hl 0 rfl) ?_
                  refine sk_iastE (k := i) (ws' := fun f_17 => [(q 11, .inr (1, [.ref (q 10), .ref (q 67), .ref (q 68), .ref (q 69), .ref (q 70), .ref (q 71), .ref (q 72), .int (nI gd), .int (nI gs)])), (q 67, .inl (cI, 90, .inl e1)), (q 68, .inl (cI, 9, .inl e2)), (q 69, .inl (cI, 10, .inl e3)), (q 70, .inl (cJ, 100, .inr (.inl e4))), (rw, .inl (cI, 9, .inl f_17))]) hx hb hK hP hD hS 5 0 rfl rfl (by omega) (by omega) (fun _ => rfl) dX1_takeNumbered_109 (fun f_17 H locs ef_18 hP hD hS => ?_)
                  have hk_19 : kcA Ed gd gs nu (i + 1) = (jj, yy) := by rw [kcA_s, haa, ← hyP]; exact kcP_at (by omega) (Nat.lt_of_not_le (fun hq => c_16 ((kcmp_ge (by omega) (by omega)).mpr hq)))
                  refine lv_iload hx hb dX1_takeNumbered_110 (lv_at hl 0 rfl) ?_
                  refine lv_istore (lv' := [(6, .int (nI jj)), (9, .int (nI jj)), (11, .long (Int64.ofNat (kcW Ed gd i ah jj))), (10, .int (nI jj)), (8, .int (nI nq_4)), (7, .int (nI i)), (4, .long (Int64.ofNat yy)), (0, .ref (q 11)), (1, .long (Int64.ofNat nu)), (3, .ref rw)]) hx hb dX1_takeNumbered_112 hl (by decide) rfl (fun ls hl => ?_)
                  refine lv_iinc (v := nI (i + 1)) (lv' := [(7, .int (nI (i + 1))), (6, .int (nI jj)), (9, .int (nI jj)), (11, .long (Int64.ofNat (kcW Ed gd i ah jj))), (10, .int (nI jj)), (8, .int (nI nq_4)), (4, .long (Int64.ofNat yy)), (0, .ref (q 11)), (1, .long (Int64.ofNat nu)), (3, .ref rw)]) hx hb dX1_takeNumbered_114 hl (k := 5) rfl (ninc i 1 (by decide)) (by decide) rfl (fun ls hl => ?_)
                  refine lv_goto (tgt := 12) hx hb dX1_takeNumbered_117 (by decide) ?_
                  exact ih_lp_1 (i + 1) jj (Int64.ofNat yy) f_17 _ _ _ (by omega) (by omega) (by omega) (by rw [hk_19]) (by rw [hk_19]) (krw_s hrr ef_18 (by rw [hk_19])) hP hD hS (lv_sub hl [0, 1, 6, 7, 8, 9] rfl)
              · skip
                refine lv_aload_n hx hb dX1_takeNumbered_55 rfl (lv_at hl 6 rfl) ?_
                refine sk_get (v := .ref (q 70)) (C := RX1) (T := TX1) (N := 9) hx hb hts inlX1 hown hK hP 0 rfl rfl 4 (by decide) w_2_99 rfl dX1_takeNumbered_56 ?_
                refine lv_iload hx hb dX1_takeNumbered_59 (lv_at hl 3 rfl) ?_
                refine lv_iconst (v := 1) hx hb dX1_takeNumbered_61 (by decide) ?_
                refine lv_iadd hx hb dX1_takeNumbered_62 ?_
                refine sk_top (nI (i + 1)) (nI_add i 1) ?_
                refine lv_bipush (v := 10) hx hb dX1_takeNumbered_63 (by decide) ?_
                refine lv_imul hx hb dX1_takeNumbered_65 ?_
                refine sk_top (nI ((i + 1) * 10)) (nmul (i + 1) 10) ?_
                refine lv_iload hx hb dX1_takeNumbered_66 (lv_at hl 0 rfl) ?_
                refine lv_iadd hx hb dX1_takeNumbered_68 ?_
                refine sk_top (nI ((i + 1) * 10 + jj)) (nI_add ((i + 1) * 10) jj) ?_
                refine va_lald hx hb hK.1 hP 4 1 rfl rfl (vin ((i + 1) * 10 + jj) 100 (by omega) (by omega)) dX1_takeNumbered_69 ?_
                refine sk_topl (e4 ((i + 1) * 10 + jj)) (by rw [nI_clamp (by omega)]) ?_
                refine lv_goto (tgt := 74) hx hb dX1_takeNumbered_70 (by decide) ?_
                refine lv_lstore (lv' := [(11, .long (e4 ((i + 1) * 10 + jj))), (10, .int (nI jj)), (9, .int 0), (8, .int (nI nq_4)), (7, .int (nI i)), (6, .int (nI ah)), (4, .long (Int64.ofNat yy)), (0, .ref (q 11)), (1, .long (Int64.ofNat nu)), (3, .ref rw)]) hx hb dX1_takeNumbered_74 hl (by decide) rfl (fun ls hl => ?_)
                have hh_20 := kwh_y hnx_6 hwy (show i < gd by omega) (show jj < 10 by omega) ((ktb hnx_6.1 (by omega)).mp c_13)
                have hl_21 := kW_le Ed hgd i ah jj
                rw [hh_20] at hl
                refine lv_lload hx hb dX1_takeNumbered_76 (lv_at hl 6 rfl) ?_
                refine lv_lload hx hb dX1_takeNumbered_78 (lv_at hl 0 rfl) ?_
                refine W.lcmp hx hb dX1_takeNumbered_80 ?_
                refine lv_if_ge (tgt := 91) hx hb dX1_takeNumbered_81 (by decide) (fun c_22 => ?_) (fun c_22 => ?_)
                · skip
                  refine lv_lload hx hb dX1_takeNumbered_91 (lv_at hl 6 rfl) ?_
                  refine lv_lload hx hb dX1_takeNumbered_93 (lv_at hl 0 rfl) ?_
                  refine lv_lsub hx hb dX1_takeNumbered_95 ?_
                  have hge := (kcmp_ge (by omega) (by omega)).mp c_22
                  refine sk_topl (Int64.ofNat (yy - kcW Ed gd i ah jj)) (kofn_sub hge) ?_
                  refine lv_lstore (lv' := [(4, .long (Int64.ofNat (yy - kcW Ed gd i ah jj))), (11, .long (Int64.ofNat (kcW Ed gd i ah jj))), (10, .int (nI jj)), (9, .int 0), (8, .int (nI nq_4)), (7, .int (nI i)), (6, .int (nI ah)), (0, .ref (q 11)), (1, .long (Int64.ofNat nu)), (3, .ref rw)]) hx hb dX1_takeNumbered_96 hl (by decide) rfl (fun ls hl => ?_)
                  refine lv_iinc (v := nI (jj + 1)) (lv' := [(10, .int (nI (jj + 1))), (4, .long (Int64.ofNat (yy - kcW Ed gd i ah jj))), (11, .long (Int64.ofNat (kcW Ed gd i ah jj))), (9, .int 0), (8, .int (nI nq_4)), (7, .int (nI i)), (6, .int (nI ah)), (0, .ref (q 11)), (1, .long (Int64.ofNat nu)), (3, .ref rw)]) hx hb dX1_takeNumbered_98 hl (k := 2) rfl (ninc jj 1 (by decide)) (by decide) rfl (fun ls hl => ?_)
                  refine lv_goto (tgt := 37) hx hb dX1_takeNumbered_101 (by decide) ?_
                  exact ih_lp_10 (jj + 1) (Int64.ofNat (yy - kcW Ed gd i ah jj)) (yy - kcW Ed gd i ah jj) _ _ _ (by omega) (by omega) rfl ((kcP_go (by omega) (Nat.not_lt.mpr hge)).symm.trans hyP) (kcT_s (by omega) hyT hge) (by omega) hP hD hS (lv_sub hl [0, 3, 4, 5, 6, 1, 7, 8, 9] rfl)
                · skip
                  refine lv_iload hx hb dX1_takeNumbered_84 (lv_at hl 1 rfl) ?_
                  refine lv_istore (lv' := [(9, .int (nI jj)), (11, .long (Int64.ofNat (kcW Ed gd i ah jj))), (10, .int (nI jj)), (8, .int (nI nq_4)), (7, .int (nI i)), (6, .int (nI ah)), (4, .long (Int64.ofNat yy)), (0, .ref (q 11)), (1, .long (Int64.ofNat nu)), (3, .ref rw)]) hx hb dX1_takeNumbered_86 hl (by decide) rfl (fun ls hl => ?_)
                  refine lv_goto (tgt := 104) hx hb dX1_takeNumbered_88 (by decide) ?_
                  refine lv_aload_n hx hb dX1_takeNumbered_104 rfl (lv_at hl 9 rfl) ?_
                  refine lv_iload hx hb dX1_takeNumbered_105 (lv_at hl 4 rfl) ?_
                  refine lv_iload hx hb dX1_takeNumbered_107 (lv_at hl 0 rfl) ?_
                  refine sk_iastE (k := i) (ws' := fun f_23 => [(q 11, .inr (1, [.ref (q 10), .ref (q 67), .ref (q 68), .ref (q 69), .ref (q 70), .ref (q 71), .ref (q 72), .int (nI gd), .int (nI gs)])), (q 67, .inl (cI, 90, .inl e1)), (q 68, .inl (cI, 9, .inl e2)), (q 69, .inl (cI, 10, .inl e3)), (q 70, .inl (cJ, 100, .inr (.inl e4))), (rw, .inl (cI, 9, .inl f_23))]) hx hb hK hP hD hS 5 0 rfl rfl (by omega) (by omega) (fun _ => rfl) dX1_takeNumbered_109 (fun f_23 H locs ef_24 hP hD hS => ?_)
                  have hk_25 : kcA Ed gd gs nu (i + 1) = (jj, yy) := by rw [kcA_s, haa, ← hyP]; exact kcP_at (by omega) (Nat.lt_of_not_le (fun hq => c_22 ((kcmp_ge (by omega) (by omega)).mpr hq)))
                  refine lv_iload hx hb dX1_takeNumbered_110 (lv_at hl 0 rfl) ?_
                  refine lv_istore (lv' := [(6, .int (nI jj)), (9, .int (nI jj)), (11, .long (Int64.ofNat (kcW Ed gd i ah jj))), (10, .int (nI jj)), (8, .int (nI nq_4)), (7, .int (nI i)), (4, .long (Int64.ofNat yy)), (0, .ref (q 11)), (1, .long (Int64.ofNat nu)), (3, .ref rw)]) hx hb dX1_takeNumbered_112 hl (by decide) rfl (fun ls hl => ?_)
                  refine lv_iinc (v := nI (i + 1)) (lv' := [(7, .int (nI (i + 1))), (6, .int (nI jj)), (9, .int (nI jj)), (11, .long (Int64.ofNat (kcW Ed gd i ah jj))), (10, .int (nI jj)), (8, .int (nI nq_4)), (4, .long (Int64.ofNat yy)), (0, .ref (q 11)), (1, .long (Int64.ofNat nu)), (3, .ref rw)]) hx hb dX1_takeNumbered_114 hl (k := 5) rfl (ninc i 1 (by decide)) (by decide) rfl (fun ls hl => ?_)
                  refine lv_goto (tgt := 12) hx hb dX1_takeNumbered_117 (by decide) ?_
                  exact ih_lp_1 (i + 1) jj (Int64.ofNat yy) f_23 _ _ _ (by omega) (by omega) (by omega) (by rw [hk_25]) (by rw [hk_25]) (krw_s hrr ef_24 (by rw [hk_25])) hP hD hS (lv_sub hl [0, 1, 6, 7, 8, 9] rfl)
        exact lp_10 (10 - 0 + 1) 0 lf ((kcA Ed gd gs nu i).2) _ _ _ (Nat.lt_succ_self _) (by omega) hlf rfl hok.2 (by have := kcC_9 Ed (show gd - i ≤ 9 by omega) i ah; have h5 := hok.2; rw [kcT_10, kcW_S (show i < gd by omega)] at h5; omega) hP hD hS (lv_sub hl [0, 1, 2, 3, 4, 5, 6, 7, 8] rfl)
  exact lp_1 (gd - 0 + 1) 0 gs (Int64.ofNat nu) ra _ _ _ (Nat.lt_succ_self _) (by omega) (by omega) rfl rfl (krw_0 _ _ _ _ _) hP hD hS (lv_sub hl [0, 1, 2, 3, 4, 5] rfl)

