theorem kbeq {a b : Nat} (h : a = b) : (a == b) = true := beq_iff_eq.mpr h
set_option maxHeartbeats 4000000 in
set_option maxRecDepth 100000 in
theorem c_kmoodsBehind (l : Launch) (D : va_G) (cI cJ cC cZ cS : ClassId) (q : Nat → Nat) (sa : Nat → Nat) (ft : Nat → Int32) (d : Nat) (ah : Nat) (li : Nat) (S : Nat → Nat) (T : Nat → Nat) (hsa : ∀ j, sa j ≤ 9) (hd : d < 9) (hah : ah < 10) (hli : li < 10) (hSm : ∀ m, m < 10 → sa (d * 10 + m) = S m) (hTm : ∀ t, t < 10 → ft ((d * 10 + ah) * 10 + t) = nI (T t)) (hT9 : ∀ t, T t < 10) : skM l yX9_moodsBehind cX9_moodsBehind 7 (some .int) 0 0 0 0 D (skT cI cJ cC cZ cS) [.ref (q 10), .int (nI d), .int (nI ah), .int (nI li)] [(q 10, .inr (9, [.ref (q 61), .ref (q 62), .ref (q 63), .ref (q 64), .ref (q 65), .ref (q 66)])), (q 61, .inl (cI, 90, .inl (fun j => nI (sa j)))), (q 62, .inl (cI, 900, .inl ft))] (skI D (skT cI cJ cC cZ cS) (fun (r : Int32) (u : va_W) => r = nI (kcMB S T li) ∧ u = [(q 10, .inr (9, [.ref (q 61), .ref (q 62), .ref (q 63), .ref (q 64), .ref (q 65), .ref (q 66)])), (q 61, .inl (cI, 90, .inl (fun j => nI (sa j)))), (q 62, .inl (cI, 900, .inl ft))])) := by
  refine skM_of pf_X9_moodsBehind (Nat.le_of_ble_eq_true rfl) ?_
  intro p e s m below meth c A ls E hP hD hl
  refine skE_el E (fun hx hb hr hml hlocks hin hown hts hK hA => ?_)
  have hown : s.vm.findClass RX9 = some m.cls := hown
  have hS : va_S A s.heap s.heap [] := va_S.rf
  have hl : lv_has ls 7 [(0, .ref (q 10)), (1, .int (nI d)), (2, .int (nI ah)), (3, .int (nI li))] := hl
  refine lv_iconst (v := 0) hx hb dX9_moodsBehind_0 (by decide) ?_
  refine lv_istore (lv' := [(4, .int 0), (0, .ref (q 10)), (1, .int (nI d)), (2, .int (nI ah)), (3, .int (nI li))]) hx hb dX9_moodsBehind_1 hl (by decide) rfl (fun ls hl => ?_)
  refine lv_iconst (v := 0) hx hb dX9_moodsBehind_3 (by decide) ?_
  refine lv_istore (lv' := [(5, .int 0), (4, .int 0), (0, .ref (q 10)), (1, .int (nI d)), (2, .int (nI ah)), (3, .int (nI li))]) hx hb dX9_moodsBehind_4 hl (by decide) rfl (fun ls hl => ?_)
  have lp_1 : ∀ (n_2 : Nat) (i : Nat) (mk : Nat) (H : Heap) (locs : List Loc) (ls : Array Slot), 10 - i < n_2 → (i ≤ 10) → (mk = kcK (fun m => T ((S m + li) % 10) == m) i) → va_P D vwCl [(q 10, .inr (9, [.ref (q 61), .ref (q 62), .ref (q 63), .ref (q 64), .ref (q 65), .ref (q 66)])), (q 61, .inl (cI, 90, .inl (fun j => nI (sa j)))), (q 62, .inl (cI, 900, .inl ft))] H → va_D A [(q 10, .inr (9, [.ref (q 61), .ref (q 62), .ref (q 63), .ref (q 64), .ref (q 65), .ref (q 66)])), (q 61, .inl (cI, 90, .inl (fun j => nI (sa j)))), (q 62, .inl (cI, 900, .inl ft))] → va_S A s.heap H locs → lv_has ls 7 [(5, .int (nI i)), (4, .int (nI mk)), (0, .ref (q 10)), (1, .int (nI d)), (2, .int (nI ah)), (3, .int (nI li))] → W p l e { frames := 0, cells := 0, slots := 0, locals := 0 } s m ([.ref (q 10), .int (nI d), .int (nI ah), .int (nI li)] : List Value).toArray below meth c H locs 0 0 (MQ below (skI D (skT cI cJ cC cZ cS) (fun (r : Int32) (u : va_W) => r = nI (kcMB S T li) ∧ u = [(q 10, .inr (9, [.ref (q 61), .ref (q 62), .ref (q 63), .ref (q 64), .ref (q 65), .ref (q 66)])), (q 61, .inl (cI, 90, .inl (fun j => nI (sa j)))), (q 62, .inl (cI, 900, .inl ft))]) A) ([.ref (q 10), .int (nI d), .int (nI ah), .int (nI li)] : List Value).toArray s 0 0 A) (F0 m 6 ls []) := by
    intro n_2
    induction n_2 with
    | zero => intro i mk H locs ls hm; exact absurd hm (Nat.not_lt_zero _)
    | succ n_2 ih_lp_1 =>
      intro i mk H locs ls hm hi hmk hP hD hS hl
      refine lv_iload hx hb dX9_moodsBehind_6 (lv_at hl 0 rfl) ?_
      refine lv_bipush (v := 10) hx hb dX9_moodsBehind_8 (by decide) ?_
      refine lv_icmp_ge (tgt := 69) hx hb dX9_moodsBehind_10 (by decide) (fun c_3 => ?_) (fun c_3 => ?_)
      · have c_3 : 10 ≤ i := (nle 10 i (by omega) (by omega)).mp c_3
        obtain rfl : i = 10 := by omega
        have hmk2 : mk = kcMB S T li := hmk
        subst hmk2
        refine lv_iload hx hb dX9_moodsBehind_69 (lv_at hl 1 rfl) ?_
        exact sk_iret hx hb hr rfl hlocks hK hP hD hS (⟨rfl, rfl⟩) (Nat.le_of_ble_eq_true rfl) (Nat.le_of_ble_eq_true rfl) dX9_moodsBehind_71
      · have c_3 : ¬ (10 ≤ i) := fun h => c_3 ((nle 10 i (by omega) (by omega)).mpr h)
        refine lv_aload_n hx hb dX9_moodsBehind_13 rfl (lv_at hl 2 rfl) ?_
        refine sk_get (v := .ref (q 61)) (C := RX9) (T := TX9) (N := 6) hx hb hts inlX9 hown hK hP 0 rfl rfl 0 (by decide) w_2_63 rfl dX9_moodsBehind_14 ?_
        refine lv_iload_n hx hb dX9_moodsBehind_17 rfl (lv_at hl 3 rfl) ?_
        refine lv_bipush (v := 10) hx hb dX9_moodsBehind_18 (by decide) ?_
        refine lv_imul hx hb dX9_moodsBehind_20 ?_
        refine sk_top (nI (d * 10)) (nmul d 10) ?_
        refine lv_iload hx hb dX9_moodsBehind_21 (lv_at hl 0 rfl) ?_
        refine lv_iadd hx hb dX9_moodsBehind_23 ?_
        refine sk_top (nI (d * 10 + i)) (nI_add (d * 10) i) ?_
        refine va_iald hx hb hK.1 hP 1 0 rfl rfl (vin (d * 10 + i) 90 (by omega) (by omega)) dX9_moodsBehind_24 ?_
        refine sk_top (nI (sa (d * 10 + i))) (nrd sa (d * 10 + i) (by omega)) ?_
        have hb_4 := hsa (d * 10 + i)
        refine lv_iload_n hx hb dX9_moodsBehind_25 rfl (lv_at hl 5 rfl) ?_
        refine lv_iadd hx hb dX9_moodsBehind_26 ?_
        refine sk_top (nI (sa (d * 10 + i) + li)) (nI_add (sa (d * 10 + i)) li) ?_
        refine lv_bipush (v := 10) hx hb dX9_moodsBehind_27 (by decide) ?_
        refine lv_irem hx hb dX9_moodsBehind_29 (by decide) ?_
        refine sk_top (nI ((sa (d * 10 + i) + li) % 10)) (nrem (sa (d * 10 + i) + li) 10 (by omega) (by omega) (by omega)) ?_
        refine lv_istore (lv' := [(6, .int (nI ((sa (d * 10 + i) + li) % 10))), (5, .int (nI i)), (4, .int (nI mk)), (0, .ref (q 10)), (1, .int (nI d)), (2, .int (nI ah)), (3, .int (nI li))]) hx hb dX9_moodsBehind_30 hl (by decide) rfl (fun ls hl => ?_)
        refine lv_aload_n hx hb dX9_moodsBehind_32 rfl (lv_at hl 3 rfl) ?_
        refine sk_get (v := .ref (q 62)) (C := RX9) (T := TX9) (N := 6) hx hb hts inlX9 hown hK hP 0 rfl rfl 1 (by decide) w_2_65 rfl dX9_moodsBehind_33 ?_
        refine lv_iload_n hx hb dX9_moodsBehind_36 rfl (lv_at hl 4 rfl) ?_
        refine lv_bipush (v := 10) hx hb dX9_moodsBehind_37 (by decide) ?_
        refine lv_imul hx hb dX9_moodsBehind_39 ?_
        refine sk_top (nI (d * 10)) (nmul d 10) ?_
        refine lv_iload_n hx hb dX9_moodsBehind_40 rfl (lv_at hl 5 rfl) ?_
        refine lv_iadd hx hb dX9_moodsBehind_41 ?_
        refine sk_top (nI (d * 10 + ah)) (nI_add (d * 10) ah) ?_
        refine lv_bipush (v := 10) hx hb dX9_moodsBehind_42 (by decide) ?_
        refine lv_imul hx hb dX9_moodsBehind_44 ?_
        refine sk_top (nI ((d * 10 + ah) * 10)) (nmul (d * 10 + ah) 10) ?_
        refine lv_iload hx hb dX9_moodsBehind_45 (lv_at hl 0 rfl) ?_
        refine lv_iadd hx hb dX9_moodsBehind_47 ?_
        refine sk_top (nI ((d * 10 + ah) * 10 + ((sa (d * 10 + i) + li) % 10))) (nI_add ((d * 10 + ah) * 10) ((sa (d * 10 + i) + li) % 10)) ?_
        refine va_iald hx hb hK.1 hP 2 0 rfl rfl (vin ((d * 10 + ah) * 10 + ((sa (d * 10 + i) + li) % 10)) 900 (by omega) (by omega)) dX9_moodsBehind_48 ?_
        have hTi := hT9 ((S i + li) % 10)
        refine sk_top (nI (T ((S i + li) % 10))) (by rw [nI_clamp (by omega), hSm i (by omega)]; exact hTm _ (by omega)) ?_
        refine lv_iload hx hb dX9_moodsBehind_49 (lv_at hl 1 rfl) ?_
        refine lv_icmp_ne (tgt := 63) hx hb dX9_moodsBehind_51 (by decide) (fun c_5 => ?_) (fun c_5 => ?_)
        · have c_5 : ¬ (T ((S i + li) % 10) = i) := fun h => c_5 ((neq (T ((S i + li) % 10)) i (by omega) (by omega)).mpr h)
          refine lv_iinc (v := nI (i + 1)) (lv' := [(5, .int (nI (i + 1))), (6, .int (nI ((sa (d * 10 + i) + li) % 10))), (4, .int (nI mk)), (0, .ref (q 10)), (1, .int (nI d)), (2, .int (nI ah)), (3, .int (nI li))]) hx hb dX9_moodsBehind_63 hl (k := 1) rfl (ninc i 1 (by decide)) (by decide) rfl (fun ls hl => ?_)
          refine lv_goto (tgt := 6) hx hb dX9_moodsBehind_66 (by decide) ?_
          exact ih_lp_1 (i + 1) mk _ _ _ (by omega) (by omega) (by rw [kcK_no (fun m => T ((S m + li) % 10) == m) i (fun hq => c_5 (eq_of_beq hq))]; exact hmk) hP hD hS (lv_sub hl [0, 2, 3, 4, 5, 6] rfl)
        · have c_5 : T ((S i + li) % 10) = i := (neq (T ((S i + li) % 10)) i (by omega) (by omega)).mp c_5
          refine lv_iload hx hb dX9_moodsBehind_54 (lv_at hl 2 rfl) ?_
          refine lv_iconst (v := 1) hx hb dX9_moodsBehind_56 (by decide) ?_
          refine lv_iload hx hb dX9_moodsBehind_57 (lv_at hl 1 rfl) ?_
          refine lv_ishl hx hb dX9_moodsBehind_59 ?_
          refine lv_ior hx hb dX9_moodsBehind_60 ?_
          have hml_ := kK_lt10 (fun m => T ((S m + li) % 10) == m) (show i ≤ 10 by omega)
          rw [← hmk] at hml_
          refine sk_top (nI (mk ||| 2 ^ i)) (kor_10 (by omega) (by omega)) ?_
          refine lv_istore (lv' := [(4, .int (nI (mk ||| 2 ^ i))), (6, .int (nI ((sa (d * 10 + i) + li) % 10))), (5, .int (nI i)), (0, .ref (q 10)), (1, .int (nI d)), (2, .int (nI ah)), (3, .int (nI li))]) hx hb dX9_moodsBehind_61 hl (by decide) rfl (fun ls hl => ?_)
          refine lv_iinc (v := nI (i + 1)) (lv' := [(5, .int (nI (i + 1))), (4, .int (nI (mk ||| 2 ^ i))), (6, .int (nI ((sa (d * 10 + i) + li) % 10))), (0, .ref (q 10)), (1, .int (nI d)), (2, .int (nI ah)), (3, .int (nI li))]) hx hb dX9_moodsBehind_63 hl (k := 2) rfl (ninc i 1 (by decide)) (by decide) rfl (fun ls hl => ?_)
          refine lv_goto (tgt := 6) hx hb dX9_moodsBehind_66 (by decide) ?_
          exact ih_lp_1 (i + 1) (mk ||| 2 ^ i) _ _ _ (by omega) (by omega) (by rw [hmk]; exact kcK_or (fun m => T ((S m + li) % 10) == m) i (kbeq c_5)) hP hD hS (lv_sub hl [0, 1, 3, 4, 5, 6] rfl)
  exact lp_1 (10 - 0 + 1) 0 0 _ _ _ (Nat.lt_succ_self _) (by omega) rfl hP hD hS (lv_sub hl [0, 1, 2, 3, 4, 5] rfl)
theorem kft_10 {P : Prop} (h : P) : P := h
set_option maxHeartbeats 4000000 in
set_option maxRecDepth 100000 in
theorem c_kfillDeeds (l : Launch) (D : va_G) (cI cJ cC cZ cS : ClassId) (q : Nat → Nat) (dh : Nat) (mh : Nat) (uh : Int32) (rh : Int32) (nh : Nat) (ch : Nat) (wh : Nat) (y1 : Nat → Int32) (y2 : Nat → Int64) (y3 : Nat → Int64) (y4 : Nat → Int64) (yf : Nat → Int32) (yt : Nat → Int32) (sa : Nat → Nat) (ft : Nat → Int32) (fa : Nat → Int32) (fo : Nat → Int32) (d : Nat) (wk : Nat) (b : Nat) (w : Nat) (L : LkS) (fg : Nat → Int64) (sa0 : Nat → Nat) (fg0 : Nat → Int64) (hsa : ∀ j, sa j ≤ 9) (hch : ch ≤ 1600) (hwh : wh ≤ 1) (hd : d < 9) (hLk : kcLk L) (hcd : cdK (lK (lkF L)) ch wh y1) (hsg : ∀ v, v < 3 → sgO (lG (lkF L) v) (yf v) (yt v)) (hdy3 : kcDy y3 wk b w d) (hfw2 : kfw L wk b w d 10 sa0 sa fg0 fg) : skM l yX9_fillDeeds cX9_fillDeeds 9 none 3 75 0 0 D (skT cI cJ cC cZ cS) [.ref (q 10), .ref (q 5), .int (nI d)] [(q 10, .inr (9, [.ref (q 61), .ref (q 62), .ref (q 63), .ref (q 64), .ref (q 65), .ref (q 66)])), (q 61, .inl (cI, 90, .inl (fun j => nI (sa j)))), (q 62, .inl (cI, 900, .inl ft)), (q 63, .inl (cI, 90, .inl fa)), (q 64, .inl (cI, 90, .inl fo)), (q 5, .inr (2, [.ref (q 44), .ref (q 45), .ref (q 46), .ref (q 47), .ref (q 48), .int (nI dh), .int (nI mh), .int uh, .int rh, .int (nI nh)])), (q 44, .inr (0, [.ref (q 49), .ref (q 50), .ref (q 51), .ref (q 52), .int (nI ch), .int (nI wh)])), (q 49, .inl (cI, 1600, .inl y1)), (q 50, .inl (cJ, 64, .inr (.inl y2))), (q 51, .inl (cJ, 9, .inr (.inl y3))), (q 52, .inl (cJ, 10, .inr (.inl y4))), (q 47, .inl (cI, 3, .inl yf)), (q 48, .inl (cI, 3, .inl yt))] (skV D (skT cI cJ cC cZ cS) (fun (u : va_W) => ∃ (ft2 : Nat → Int32), ∃ (fa2 : Nat → Int32), ∃ (fo2 : Nat → Int32), ∃ (z2 : Nat → Int64), ∃ (z3 : Nat → Int64), kfd L wk b w d 10 ft ft2 fa fa2 fo fo2 ∧ u = [(q 10, .inr (9, [.ref (q 61), .ref (q 62), .ref (q 63), .ref (q 64), .ref (q 65), .ref (q 66)])), (q 61, .inl (cI, 90, .inl (fun j => nI (sa j)))), (q 62, .inl (cI, 900, .inl ft2)), (q 63, .inl (cI, 90, .inl fa2)), (q 64, .inl (cI, 90, .inl fo2)), (q 5, .inr (2, [.ref (q 44), .ref (q 45), .ref (q 46), .ref (q 47), .ref (q 48), .int (nI dh), .int (nI mh), .int uh, .int rh, .int (nI nh)])), (q 44, .inr (0, [.ref (q 49), .ref (q 50), .ref (q 51), .ref (q 52), .int (nI ch), .int (nI wh)])), (q 49, .inl (cI, 1600, .inl y1)), (q 50, .inl (cJ, 64, .inr (.inl z2))), (q 51, .inl (cJ, 9, .inr (.inl z3))), (q 52, .inl (cJ, 10, .inr (.inl y4))), (q 47, .inl (cI, 3, .inl yf)), (q 48, .inl (cI, 3, .inl yt))])) := by
  refine skM_of pf_X9_fillDeeds (Nat.le_of_ble_eq_true rfl) ?_
  intro p e s m below meth c A ls E hP hD hl
  refine skE_el E (fun hx hb hr hml hlocks hin hown hts hK hA => ?_)
  have hown : s.vm.findClass RX9 = some m.cls := hown
  have hS : va_S A s.heap s.heap [] := va_S.rf
  have hl : lv_has ls 9 [(0, .ref (q 10)), (1, .ref (q 5)), (2, .int (nI d))] := hl
  refine lv_aload_n hx hb dX9_fillDeeds_0 rfl (lv_at hl 1 rfl) ?_
  refine sk_get (v := .ref (q 44)) (C := RX2) (T := TX2) (N := 10) hx hb hts inlX2 hown hK hP 5 rfl rfl 0 (by decide) w_1_176 rfl dX9_fillDeeds_1 ?_
  refine lv_astore_n (lv' := [(3, .ref (q 44)), (0, .ref (q 10)), (1, .ref (q 5)), (2, .int (nI d))]) hx hb dX9_fillDeeds_4 rfl hl (by decide) rfl (fun ls hl => ?_)
  obtain ⟨p1, hp1⟩ := untN_some (L := L) 3 1 (by decide)
  have hbp1 := kx_bk hLk hp1
  have hsp1 := kx_sg (hsg 1 (by decide)) hp1
  have hlp1 := hsp1.2.2
  refine lv_aload_n hx hb dX9_fillDeeds_5 rfl (lv_at hl 2 rfl) ?_
  refine sk_get (v := .ref (q 47)) (C := RX2) (T := TX2) (N := 10) hx hb hts inlX2 hown hK hP 5 rfl rfl 3 (by decide) w_1_185 rfl dX9_fillDeeds_6 ?_
  refine lv_iconst (v := 1) hx hb dX9_fillDeeds_9 (by decide) ?_
  refine va_iald hx hb hK.1 hP 11 0 rfl rfl (by unfold vp_in; decide) dX9_fillDeeds_10 ?_
  refine sk_top (nI p1.1) (hsp1.1) ?_
  refine lv_istore (lv' := [(4, .int (nI p1.1)), (3, .ref (q 44)), (0, .ref (q 10)), (1, .ref (q 5)), (2, .int (nI d))]) hx hb dX9_fillDeeds_11 hl (by decide) rfl (fun ls hl => ?_)
  refine lv_aload_n hx hb dX9_fillDeeds_13 rfl (lv_at hl 3 rfl) ?_
  refine sk_get (v := .ref (q 48)) (C := RX2) (T := TX2) (N := 10) hx hb hts inlX2 hown hK hP 5 rfl rfl 4 (by decide) w_1_187 rfl dX9_fillDeeds_14 ?_
  refine lv_iconst (v := 1) hx hb dX9_fillDeeds_17 (by decide) ?_
  refine va_iald hx hb hK.1 hP 12 0 rfl rfl (by unfold vp_in; decide) dX9_fillDeeds_18 ?_
  refine sk_top (nI p1.2) (hsp1.2.1) ?_
  refine lv_istore (lv' := [(5, .int (nI p1.2)), (4, .int (nI p1.1)), (3, .ref (q 44)), (0, .ref (q 10)), (1, .ref (q 5)), (2, .int (nI d))]) hx hb dX9_fillDeeds_19 hl (by decide) rfl (fun ls hl => ?_)
  refine lv_iconst (v := 0) hx hb dX9_fillDeeds_21 (by decide) ?_
  refine lv_istore (lv' := [(6, .int 0), (5, .int (nI p1.2)), (4, .int (nI p1.1)), (3, .ref (q 44)), (0, .ref (q 10)), (1, .ref (q 5)), (2, .int (nI d))]) hx hb dX9_fillDeeds_22 hl (by decide) rfl (fun ls hl => ?_)
  have lp_1 : ∀ (n_2 : Nat) (i : Nat) (gt : Nat → Int32) (ga : Nat → Int32) (go : Nat → Int32) (u2 : Nat → Int64) (u3 : Nat → Int64) (H : Heap) (locs : List Loc) (ls : Array Slot), 10 - i < n_2 → (i ≤ 10) → (kfd L wk b w d i ft gt fa ga fo go) → (kcDy u3 wk b w d) → va_P D vwCl [(q 10, .inr (9, [.ref (q 61), .ref (q 62), .ref (q 63), .ref (q 64), .ref (q 65), .ref (q 66)])), (q 61, .inl (cI, 90, .inl (fun j => nI (sa j)))), (q 62, .inl (cI, 900, .inl gt)), (q 63, .inl (cI, 90, .inl ga)), (q 64, .inl (cI, 90, .inl go)), (q 5, .inr (2, [.ref (q 44), .ref (q 45), .ref (q 46), .ref (q 47), .ref (q 48), .int (nI dh), .int (nI mh), .int uh, .int rh, .int (nI nh)])), (q 44, .inr (0, [.ref (q 49), .ref (q 50), .ref (q 51), .ref (q 52), .int (nI ch), .int (nI wh)])), (q 49, .inl (cI, 1600, .inl y1)), (q 50, .inl (cJ, 64, .inr (.inl u2))), (q 51, .inl (cJ, 9, .inr (.inl u3))), (q 52, .inl (cJ, 10, .inr (.inl y4))), (q 47, .inl (cI, 3, .inl yf)), (q 48, .inl (cI, 3, .inl yt))] H → va_D A [(q 10, .inr (9, [.ref (q 61), .ref (q 62), .ref (q 63), .ref (q 64), .ref (q 65), .ref (q 66)])), (q 61, .inl (cI, 90, .inl (fun j => nI (sa j)))), (q 62, .inl (cI, 900, .inl gt)), (q 63, .inl (cI, 90, .inl ga)), (q 64, .inl (cI, 90, .inl go)), (q 5, .inr (2, [.ref (q 44), .ref (q 45), .ref (q 46), .ref (q 47), .ref (q 48), .int (nI dh), .int (nI mh), .int uh, .int rh, .int (nI nh)])), (q 44, .inr (0, [.ref (q 49), .ref (q 50), .ref (q 51), .ref (q 52), .int (nI ch), .int (nI wh)])), (q 49, .inl (cI, 1600, .inl y1)), (q 50, .inl (cJ, 64, .inr (.inl u2))), (q 51, .inl (cJ, 9, .inr (.inl u3))), (q 52, .inl (cJ, 10, .inr (.inl y4))), (q 47, .inl (cI, 3, .inl yf)), (q 48, .inl (cI, 3, .inl yt))] → va_S A s.heap H locs → lv_has ls 9 [(6, .int (nI i)), (5, .int (nI p1.2)), (4, .int (nI p1.1)), (3, .ref (q 44)), (0, .ref (q 10)), (1, .ref (q 5)), (2, .int (nI d))] → W p l e { frames := 3, cells := 0, slots := 0, locals := 75 } s m ([.ref (q 10), .ref (q 5), .int (nI d)] : List Value).toArray below meth c H locs 0 0 (MQ below (skV D (skT cI cJ cC cZ cS) (fun (u : va_W) => ∃ (ft2 : Nat → Int32), ∃ (fa2 : Nat → Int32), ∃ (fo2 : Nat → Int32), ∃ (z2 : Nat → Int64), ∃ (z3 : Nat → Int64), kfd L wk b w d 10 ft ft2 fa fa2 fo fo2 ∧ u = [(q 10, .inr (9, [.ref (q 61), .ref (q 62), .ref (q 63), .ref (q 64), .ref (q 65), .ref (q 66)])), (q 61, .inl (cI, 90, .inl (fun j => nI (sa j)))), (q 62, .inl (cI, 900, .inl ft2)), (q 63, .inl (cI, 90, .inl fa2)), (q 64, .inl (cI, 90, .inl fo2)), (q 5, .inr (2, [.ref (q 44), .ref (q 45), .ref (q 46), .ref (q 47), .ref (q 48), .int (nI dh), .int (nI mh), .int uh, .int rh, .int (nI nh)])), (q 44, .inr (0, [.ref (q 49), .ref (q 50), .ref (q 51), .ref (q 52), .int (nI ch), .int (nI wh)])), (q 49, .inl (cI, 1600, .inl y1)), (q 50, .inl (cJ, 64, .inr (.inl z2))), (q 51, .inl (cJ, 9, .inr (.inl z3))), (q 52, .inl (cJ, 10, .inr (.inl y4))), (q 47, .inl (cI, 3, .inl yf)), (q 48, .inl (cI, 3, .inl yt))]) A) ([.ref (q 10), .ref (q 5), .int (nI d)] : List Value).toArray s 0 0 A) (F0 m 24 ls []) := by
    intro n_2
    induction n_2 with
    | zero => intro i gt ga go u2 u3 H locs ls hm; exact absurd hm (Nat.not_lt_zero _)
    | succ n_2 ih_lp_1 =>
      intro i gt ga go u2 u3 H locs ls hm hi hfi hdi hP hD hS hl
      refine lv_iload hx hb dX9_fillDeeds_24 (lv_at hl 0 rfl) ?_
      refine lv_bipush (v := 10) hx hb dX9_fillDeeds_26 (by decide) ?_
      refine lv_icmp_ge (tgt := 167) hx hb dX9_fillDeeds_28 (by decide) (fun c_3 => ?_) (fun c_3 => ?_)
      · have c_3 : 10 ≤ i := (nle 10 i (by omega) (by omega)).mp c_3
        exact sk_vret hx hb hr hlocks hK hP hD hS (⟨gt, ga, go, u2, u3, (show kfd L wk b w d 10 ft gt fa ga fo go by rw [show 10 = i by omega]; exact hfi), rfl⟩) (Nat.le_of_ble_eq_true rfl) (Nat.le_of_ble_eq_true rfl) dX9_fillDeeds_167
      · have c_3 : ¬ (10 ≤ i) := fun h => c_3 ((nle 10 i (by omega) (by omega)).mpr h)
        refine lv_iload_n hx hb dX9_fillDeeds_31 rfl (lv_at hl 6 rfl) ?_
        refine lv_bipush (v := 10) hx hb dX9_fillDeeds_32 (by decide) ?_
        refine lv_imul hx hb dX9_fillDeeds_34 ?_
        refine sk_top (nI (d * 10)) (nmul d 10) ?_
        refine lv_iload hx hb dX9_fillDeeds_35 (lv_at hl 0 rfl) ?_
        refine lv_iadd hx hb dX9_fillDeeds_37 ?_
        refine sk_top (nI (d * 10 + i)) (nI_add (d * 10) i) ?_
        refine lv_istore (lv' := [(7, .int (nI (d * 10 + i))), (6, .int (nI i)), (5, .int (nI p1.2)), (4, .int (nI p1.1)), (3, .ref (q 44)), (0, .ref (q 10)), (1, .ref (q 5)), (2, .int (nI d))]) hx hb dX9_fillDeeds_38 hl (by decide) rfl (fun ls hl => ?_)
        refine lv_aload_n hx hb dX9_fillDeeds_40 rfl (lv_at hl 4 rfl) ?_
        refine lv_sipush (v := 10000) hx hb dX9_fillDeeds_41 (by decide) ?_
        refine lv_iload hx hb dX9_fillDeeds_44 (lv_at hl 1 rfl) ?_
        refine lv_i2l hx hb dX9_fillDeeds_46 rfl ?_
        refine sk_Vv (q0 := 0) (n := 2) (rest := []) (wr := fmR om_13_48 _) ⟨hx, hb, hml, hown, hts⟩ hl.1 (c_kCode_name l D cI cJ cC cZ cS (q 44) (q 49) (q 50) (q 51) (q 52) ch wh u3 10000 0 (Int32.toInt64 (nI i)) (by decide) (by decide)) w_3_212 w_3_213 w_3_214 w_1_8 w_3_215 hd_X0_name_2 ⟨⟨(Nat.le_of_ble_eq_true rfl), (Nat.le_of_ble_eq_true rfl)⟩, (Nat.le_of_ble_eq_true rfl), (Nat.le_of_ble_eq_true rfl)⟩ hK hP hD hS hA (fmT om_13_48 0) (fmF om_13_48 0) (fm_C1 rfl rfl) (fm_R rfl rfl) (fm_nT om_13_48 0) (fm_nF om_13_48 0) (fm_di om_13_48 0) rfl rfl rfl rfl (Nat.le_of_ble_eq_true rfl) dX9_fillDeeds_47 (fun u H locs hw hP hD hS => ?_)
        refine exE hw (fun g3_4 hw1 => anE hw1 (fun hg3_5 eu_6 => ?_))
        clear hw hw1
        refine o_mgE (ws' := [(q 10, .inr (9, [.ref (q 61), .ref (q 62), .ref (q 63), .ref (q 64), .ref (q 65), .ref (q 66)])), (q 61, .inl (cI, 90, .inl (fun j => nI (sa j)))), (q 62, .inl (cI, 900, .inl gt)), (q 63, .inl (cI, 90, .inl ga)), (q 64, .inl (cI, 90, .inl go)), (q 5, .inr (2, [.ref (q 44), .ref (q 45), .ref (q 46), .ref (q 47), .ref (q 48), .int (nI dh), .int (nI mh), .int uh, .int rh, .int (nI nh)])), (q 44, .inr (0, [.ref (q 49), .ref (q 50), .ref (q 51), .ref (q 52), .int (nI ch), .int (nI wh)])), (q 49, .inl (cI, 1600, .inl y1)), (q 50, .inl (cJ, 64, .inr (.inl u2))), (q 51, .inl (cJ, 9, .inr (.inl g3_4))), (q 52, .inl (cJ, 10, .inr (.inl y4))), (q 47, .inl (cI, 3, .inl yf)), (q 48, .inl (cI, 3, .inl yt))]) eu_6 hP hD rfl (fun hP hD => ?_)
        have hd_7 := kdy_up hdi hg3_5 (by decide)
        have hn_8 := (kup_s hg3_5).trans (kx_i2l (by omega))
        refine lv_aload_n hx hb dX9_fillDeeds_50 rfl (lv_at hl 4 rfl) ?_
        refine lv_sipush (v := 10006) hx hb dX9_fillDeeds_51 (by decide) ?_
        refine lv_lconst (v := 1) hx hb dX9_fillDeeds_54 (by decide) ?_
        refine sk_Vv (q0 := 0) (n := 2) (rest := []) (wr := fmR om_13_48 _) ⟨hx, hb, hml, hown, hts⟩ hl.1 (c_kCode_name l D cI cJ cC cZ cS (q 44) (q 49) (q 50) (q 51) (q 52) ch wh g3_4 10006 6 1 (by decide) (by decide)) w_3_212 w_3_213 w_3_214 w_1_8 w_3_215 hd_X0_name_2 ⟨⟨(Nat.le_of_ble_eq_true rfl), (Nat.le_of_ble_eq_true rfl)⟩, (Nat.le_of_ble_eq_true rfl), (Nat.le_of_ble_eq_true rfl)⟩ hK hP hD hS hA (fmT om_13_48 0) (fmF om_13_48 0) (fm_C1 rfl rfl) (fm_R rfl rfl) (fm_nT om_13_48 0) (fm_nF om_13_48 0) (fm_di om_13_48 0) rfl rfl rfl rfl (Nat.le_of_ble_eq_true rfl) dX9_fillDeeds_55 (fun u H locs hw hP hD hS => ?_)
        refine exE hw (fun g3_9 hw1 => anE hw1 (fun hg3_10 eu_11 => ?_))
        clear hw hw1
        refine o_mgE (ws' := [(q 10, .inr (9, [.ref (q 61), .ref (q 62), .ref (q 63), .ref (q 64), .ref (q 65), .ref (q 66)])), (q 61, .inl (cI, 90, .inl (fun j => nI (sa j)))), (q 62, .inl (cI, 900, .inl gt)), (q 63, .inl (cI, 90, .inl ga)), (q 64, .inl (cI, 90, .inl go)), (q 5, .inr (2, [.ref (q 44), .ref (q 45), .ref (q 46), .ref (q 47), .ref (q 48), .int (nI dh), .int (nI mh), .int uh, .int rh, .int (nI nh)])), (q 44, .inr (0, [.ref (q 49), .ref (q 50), .ref (q 51), .ref (q 52), .int (nI ch), .int (nI wh)])), (q 49, .inl (cI, 1600, .inl y1)), (q 50, .inl (cJ, 64, .inr (.inl u2))), (q 51, .inl (cJ, 9, .inr (.inl g3_9))), (q 52, .inl (cJ, 10, .inr (.inl y4))), (q 47, .inl (cI, 3, .inl yf)), (q 48, .inl (cI, 3, .inl yt))]) eu_11 hP hD rfl (fun hP hD => ?_)
        have hd_12 := kdy_up hd_7 hg3_10 (by decide)
        have hn_13 := (kup_n hg3_10 (by decide)).trans hn_8
        have hn_14 := kup_s hg3_10
        refine lv_aload_n hx hb dX9_fillDeeds_58 rfl (lv_at hl 4 rfl) ?_
        refine lv_sipush (v := 10005) hx hb dX9_fillDeeds_59 (by decide) ?_
        refine lv_lconst (v := 0) hx hb dX9_fillDeeds_62 (by decide) ?_
        refine sk_Vv (q0 := 0) (n := 2) (rest := []) (wr := fmR om_13_48 _) ⟨hx, hb, hml, hown, hts⟩ hl.1 (c_kCode_name l D cI cJ cC cZ cS (q 44) (q 49) (q 50) (q 51) (q 52) ch wh g3_9 10005 5 0 (by decide) (by decide)) w_3_212 w_3_213 w_3_214 w_1_8 w_3_215 hd_X0_name_2 ⟨⟨(Nat.le_of_ble_eq_true rfl), (Nat.le_of_ble_eq_true rfl)⟩, (Nat.le_of_ble_eq_true rfl), (Nat.le_of_ble_eq_true rfl)⟩ hK hP hD hS hA (fmT om_13_48 0) (fmF om_13_48 0) (fm_C1 rfl rfl) (fm_R rfl rfl) (fm_nT om_13_48 0) (fm_nF om_13_48 0) (fm_di om_13_48 0) rfl rfl rfl rfl (Nat.le_of_ble_eq_true rfl) dX9_fillDeeds_63 (fun u H locs hw hP hD hS => ?_)
        refine exE hw (fun g3_15 hw1 => anE hw1 (fun hg3_16 eu_17 => ?_))
        clear hw hw1
        refine o_mgE (ws' := [(q 10, .inr (9, [.ref (q 61), .ref (q 62), .ref (q 63), .ref (q 64), .ref (q 65), .ref (q 66)])), (q 61, .inl (cI, 90, .inl (fun j => nI (sa j)))), (q 62, .inl (cI, 900, .inl gt)), (q 63, .inl (cI, 90, .inl ga)), (q 64, .inl (cI, 90, .inl go)), (q 5, .inr (2, [.ref (q 44), .ref (q 45), .ref (q 46), .ref (q 47), .ref (q 48), .int (nI dh), .int (nI mh), .int uh, .int rh, .int (nI nh)])), (q 44, .inr (0, [.ref (q 49), .ref (q 50), .ref (q 51), .ref (q 52), .int (nI ch), .int (nI wh)])), (q 49, .inl (cI, 1600, .inl y1)), (q 50, .inl (cJ, 64, .inr (.inl u2))), (q 51, .inl (cJ, 9, .inr (.inl g3_15))), (q 52, .inl (cJ, 10, .inr (.inl y4))), (q 47, .inl (cI, 3, .inl yf)), (q 48, .inl (cI, 3, .inl yt))]) eu_17 hP hD rfl (fun hP hD => ?_)
        have hd_18 := kdy_up hd_12 hg3_16 (by decide)
        have hn_19 := (kup_n hg3_16 (by decide)).trans hn_13
        have hn_20 := (kup_n hg3_16 (by decide)).trans hn_14
        have hn_21 := kup_s hg3_16
        refine lv_aload_n hx hb dX9_fillDeeds_66 rfl (lv_at hl 5 rfl) ?_
        refine sk_get (v := .ref (q 63)) (C := RX9) (T := TX9) (N := 6) hx hb hts inlX9 hown hK hP 0 rfl rfl 2 (by decide) w_2_67 rfl dX9_fillDeeds_67 ?_
        refine lv_iload hx hb dX9_fillDeeds_70 (lv_at hl 0 rfl) ?_
        refine lv_aload_n hx hb dX9_fillDeeds_72 rfl (lv_at hl 4 rfl) ?_
        refine lv_iload hx hb dX9_fillDeeds_73 (lv_at hl 3 rfl) ?_
        refine lv_iload hx hb dX9_fillDeeds_75 (lv_at hl 2 rfl) ?_
        refine sk_Vl (q0 := 0) (n := 2) (rest := [.int (nI (d * 10 + i)), .ref (q 63)]) (wr := fmR om_13_7c _) ⟨hx, hb, hml, hown, hts⟩ hl.1 (c_kCode_run l D cI cJ cC cZ cS (q 44) (q 49) (q 50) (q 51) (q 52) ch wh y1 u2 g3_15 y4 p1.1 p1.2 (lK (lkF L)) g3_15 (kcV L 1 g3_15) 1 (by omega) (by omega) hcd.1 hcd (Nat.le_of_lt hbp1.1) hbp1.2 (by omega) (kx_ns hLk rfl hp1) (fun _ _ => rfl) (kx_ex hLk (by decide) hp1 _)) w_3_220 w_3_221 w_3_222 w_1_8 w_3_223 hd_X0_run_2 ⟨⟨(Nat.le_of_ble_eq_true rfl), (Nat.le_of_ble_eq_true rfl)⟩, (Nat.le_of_ble_eq_true rfl), (Nat.le_of_ble_eq_true rfl)⟩ hK hP hD hS hA (fmT om_13_7c 0) (fmF om_13_7c 0) (fm_C1 rfl rfl) (fm_R rfl rfl) (fm_nT om_13_7c 0) (fm_nF om_13_7c 0) (fm_di om_13_7c 0) rfl rfl rfl rfl (Nat.le_of_ble_eq_true rfl) dX9_fillDeeds_77 (fun r_23 u H locs hw hP hD hS => ?_)
        refine exE hw (fun g2_22 hw1 => anE hw1 (fun er_25 eu_24 => ?_))
        clear hw hw1
        subst er_25
        refine o_mgE (ws' := [(q 10, .inr (9, [.ref (q 61), .ref (q 62), .ref (q 63), .ref (q 64), .ref (q 65), .ref (q 66)])), (q 61, .inl (cI, 90, .inl (fun j => nI (sa j)))), (q 62, .inl (cI, 900, .inl gt)), (q 63, .inl (cI, 90, .inl ga)), (q 64, .inl (cI, 90, .inl go)), (q 5, .inr (2, [.ref (q 44), .ref (q 45), .ref (q 46), .ref (q 47), .ref (q 48), .int (nI dh), .int (nI mh), .int uh, .int rh, .int (nI nh)])), (q 44, .inr (0, [.ref (q 49), .ref (q 50), .ref (q 51), .ref (q 52), .int (nI ch), .int (nI wh)])), (q 49, .inl (cI, 1600, .inl y1)), (q 50, .inl (cJ, 64, .inr (.inl g2_22))), (q 51, .inl (cJ, 9, .inr (.inl g3_15))), (q 52, .inl (cJ, 10, .inr (.inl y4))), (q 47, .inl (cI, 3, .inl yf)), (q 48, .inl (cI, 3, .inl yt))]) eu_24 hP hD rfl (fun hP hD => ?_)
        refine lv_bipush (v := 10) hx hb dX9_fillDeeds_80 (by decide) ?_
        refine sk_Si (n := 2) (rest := [.int (nI (d * 10 + i)), .ref (q 63)]) (wr := [(q 10, .inr (9, [.ref (q 61), .ref (q 62), .ref (q 63), .ref (q 64), .ref (q 65), .ref (q 66)])), (q 61, .inl (cI, 90, .inl (fun j => nI (sa j)))), (q 62, .inl (cI, 900, .inl gt)), (q 63, .inl (cI, 90, .inl ga)), (q 64, .inl (cI, 90, .inl go)), (q 5, .inr (2, [.ref (q 44), .ref (q 45), .ref (q 46), .ref (q 47), .ref (q 48), .int (nI dh), .int (nI mh), .int uh, .int rh, .int (nI nh)])), (q 44, .inr (0, [.ref (q 49), .ref (q 50), .ref (q 51), .ref (q 52), .int (nI ch), .int (nI wh)])), (q 49, .inl (cI, 1600, .inl y1)), (q 50, .inl (cJ, 64, .inr (.inl g2_22))), (q 51, .inl (cJ, 9, .inr (.inl g3_15))), (q 52, .inl (cJ, 10, .inr (.inl y4))), (q 47, .inl (cI, 3, .inl yf)), (q 48, .inl (cI, 3, .inl yt))]) ⟨hx, hb, hml, hown, hts⟩ hl.1 (c_kfloorMod l D cI cJ cC cZ cS (kcV L 1 g3_15)) w_4_7 w_4_8 w_1_3 w_4_9 hd_J9_floorMod_1978a_2 ⟨⟨(Nat.le_of_ble_eq_true rfl), (Nat.le_of_ble_eq_true rfl)⟩, (Nat.le_of_ble_eq_true rfl), (Nat.le_of_ble_eq_true rfl)⟩ hK hP hD hS hA [] [0, 1, 2, 3, 4, 5, 6, 7, 8, 9, 10, 11, 12] rfl rfl (by decide +kernel) (by decide +kernel) (by decide +kernel) rfl rfl (Nat.le_of_ble_eq_true rfl) dX9_fillDeeds_82 (fun r_26 u H locs hw hP hD hS => ?_)
        obtain ⟨rfl, rfl⟩ := hw
        refine o_re (ws' := [(q 10, .inr (9, [.ref (q 61), .ref (q 62), .ref (q 63), .ref (q 64), .ref (q 65), .ref (q 66)])), (q 61, .inl (cI, 90, .inl (fun j => nI (sa j)))), (q 62, .inl (cI, 900, .inl gt)), (q 63, .inl (cI, 90, .inl ga)), (q 64, .inl (cI, 90, .inl go)), (q 5, .inr (2, [.ref (q 44), .ref (q 45), .ref (q 46), .ref (q 47), .ref (q 48), .int (nI dh), .int (nI mh), .int uh, .int rh, .int (nI nh)])), (q 44, .inr (0, [.ref (q 49), .ref (q 50), .ref (q 51), .ref (q 52), .int (nI ch), .int (nI wh)])), (q 49, .inl (cI, 1600, .inl y1)), (q 50, .inl (cJ, 64, .inr (.inl g2_22))), (q 51, .inl (cJ, 9, .inr (.inl g3_15))), (q 52, .inl (cJ, 10, .inr (.inl y4))), (q 47, .inl (cI, 3, .inl yf)), (q 48, .inl (cI, 3, .inl yt))]) hP hD rfl (fun hP hD => ?_)
        have hk_27 := kcTen_lt (kcV L 1 g3_15)
        refine sk_iastE (k := (d * 10 + i)) (ws' := fun f_28 => [(q 10, .inr (9, [.ref (q 61), .ref (q 62), .ref (q 63), .ref (q 64), .ref (q 65), .ref (q 66)])), (q 61, .inl (cI, 90, .inl (fun j => nI (sa j)))), (q 62, .inl (cI, 900, .inl gt)), (q 63, .inl (cI, 90, .inl f_28)), (q 64, .inl (cI, 90, .inl go)), (q 5, .inr (2, [.ref (q 44), .ref (q 45), .ref (q 46), .ref (q 47), .ref (q 48), .int (nI dh), .int (nI mh), .int uh, .int rh, .int (nI nh)])), (q 44, .inr (0, [.ref (q 49), .ref (q 50), .ref (q 51), .ref (q 52), .int (nI ch), .int (nI wh)])), (q 49, .inl (cI, 1600, .inl y1)), (q 50, .inl (cJ, 64, .inr (.inl g2_22))), (q 51, .inl (cJ, 9, .inr (.inl g3_15))), (q 52, .inl (cJ, 10, .inr (.inl y4))), (q 47, .inl (cI, 3, .inl yf)), (q 48, .inl (cI, 3, .inl yt))]) hx hb hK hP hD hS 3 0 rfl rfl (by omega) (by omega) (fun _ => rfl) dX9_fillDeeds_85 (fun f_28 H locs ef_29 hP hD hS => ?_)
        refine lv_aload_n hx hb dX9_fillDeeds_86 rfl (lv_at hl 4 rfl) ?_
        refine lv_sipush (v := 10006) hx hb dX9_fillDeeds_87 (by decide) ?_
        refine lv_lconst (v := 0) hx hb dX9_fillDeeds_90 (by decide) ?_
        refine sk_Vv (q0 := 0) (n := 2) (rest := []) (wr := fmR om_13_48 _) ⟨hx, hb, hml, hown, hts⟩ hl.1 (c_kCode_name l D cI cJ cC cZ cS (q 44) (q 49) (q 50) (q 51) (q 52) ch wh g3_15 10006 6 0 (by decide) (by decide)) w_3_212 w_3_213 w_3_214 w_1_8 w_3_215 hd_X0_name_2 ⟨⟨(Nat.le_of_ble_eq_true rfl), (Nat.le_of_ble_eq_true rfl)⟩, (Nat.le_of_ble_eq_true rfl), (Nat.le_of_ble_eq_true rfl)⟩ hK hP hD hS hA (fmT om_13_48 0) (fmF om_13_48 0) (fm_C1 rfl rfl) (fm_R rfl rfl) (fm_nT om_13_48 0) (fm_nF om_13_48 0) (fm_di om_13_48 0) rfl rfl rfl rfl (Nat.le_of_ble_eq_true rfl) dX9_fillDeeds_91 (fun u H locs hw hP hD hS => ?_)
        refine exE hw (fun g3_30 hw1 => anE hw1 (fun hg3_31 eu_32 => ?_))
        clear hw hw1
        refine o_mgE (ws' := [(q 10, .inr (9, [.ref (q 61), .ref (q 62), .ref (q 63), .ref (q 64), .ref (q 65), .ref (q 66)])), (q 61, .inl (cI, 90, .inl (fun j => nI (sa j)))), (q 62, .inl (cI, 900, .inl gt)), (q 63, .inl (cI, 90, .inl f_28)), (q 64, .inl (cI, 90, .inl go)), (q 5, .inr (2, [.ref (q 44), .ref (q 45), .ref (q 46), .ref (q 47), .ref (q 48), .int (nI dh), .int (nI mh), .int uh, .int rh, .int (nI nh)])), (q 44, .inr (0, [.ref (q 49), .ref (q 50), .ref (q 51), .ref (q 52), .int (nI ch), .int (nI wh)])), (q 49, .inl (cI, 1600, .inl y1)), (q 50, .inl (cJ, 64, .inr (.inl g2_22))), (q 51, .inl (cJ, 9, .inr (.inl g3_30))), (q 52, .inl (cJ, 10, .inr (.inl y4))), (q 47, .inl (cI, 3, .inl yf)), (q 48, .inl (cI, 3, .inl yt))]) eu_32 hP hD rfl (fun hP hD => ?_)
        have hd_33 := kdy_up hd_18 hg3_31 (by decide)
        have hn_34 := (kup_n hg3_31 (by decide)).trans hn_19
        have hn_35 := (kup_n hg3_31 (by decide)).trans hn_21
        have hn_36 := kup_s hg3_31
        refine lv_iconst (v := 0) hx hb dX9_fillDeeds_94 (by decide) ?_
        refine lv_istore (lv' := [(8, .int 0), (7, .int (nI (d * 10 + i))), (6, .int (nI i)), (5, .int (nI p1.2)), (4, .int (nI p1.1)), (3, .ref (q 44)), (0, .ref (q 10)), (1, .ref (q 5)), (2, .int (nI d))]) hx hb dX9_fillDeeds_95 hl (by decide) rfl (fun ls hl => ?_)
        have lp_37 : ∀ (n_38 : Nat) (jj : Nat) (gt2 : Nat → Int32) (v2 : Nat → Int64) (v3 : Nat → Int64) (H : Heap) (locs : List Loc) (ls : Array Slot), 10 - jj < n_38 → (jj ≤ 10) → (kft L wk b w d i jj gt gt2) → (kcDy v3 wk b w d) → (v3 0 = Int64.ofNat i) → (v3 6 = Int64.ofNat 0) → va_P D vwCl [(q 10, .inr (9, [.ref (q 61), .ref (q 62), .ref (q 63), .ref (q 64), .ref (q 65), .ref (q 66)])), (q 61, .inl (cI, 90, .inl (fun j => nI (sa j)))), (q 62, .inl (cI, 900, .inl gt2)), (q 63, .inl (cI, 90, .inl f_28)), (q 64, .inl (cI, 90, .inl go)), (q 5, .inr (2, [.ref (q 44), .ref (q 45), .ref (q 46), .ref (q 47), .ref (q 48), .int (nI dh), .int (nI mh), .int uh, .int rh, .int (nI nh)])), (q 44, .inr (0, [.ref (q 49), .ref (q 50), .ref (q 51), .ref (q 52), .int (nI ch), .int (nI wh)])), (q 49, .inl (cI, 1600, .inl y1)), (q 50, .inl (cJ, 64, .inr (.inl v2))), (q 51, .inl (cJ, 9, .inr (.inl v3))), (q 52, .inl (cJ, 10, .inr (.inl y4))), (q 47, .inl (cI, 3, .inl yf)), (q 48, .inl (cI, 3, .inl yt))] H → va_D A [(q 10, .inr (9, [.ref (q 61), .ref (q 62), .ref (q 63), .ref (q 64), .ref (q 65), .ref (q 66)])), (q 61, .inl (cI, 90, .inl (fun j => nI (sa j)))), (q 62, .inl (cI, 900, .inl gt2)), (q 63, .inl (cI, 90, .inl f_28)), (q 64, .inl (cI, 90, .inl go)), (q 5, .inr (2, [.ref (q 44), .ref (q 45), .ref (q 46), .ref (q 47), .ref (q 48), .int (nI dh), .int (nI mh), .int uh, .int rh, .int (nI nh)])), (q 44, .inr (0, [.ref (q 49), .ref (q 50), .ref (q 51), .ref (q 52), .int (nI ch), .int (nI wh)])), (q 49, .inl (cI, 1600, .inl y1)), (q 50, .inl (cJ, 64, .inr (.inl v2))), (q 51, .inl (cJ, 9, .inr (.inl v3))), (q 52, .inl (cJ, 10, .inr (.inl y4))), (q 47, .inl (cI, 3, .inl yf)), (q 48, .inl (cI, 3, .inl yt))] → va_S A s.heap H locs → lv_has ls 9 [(8, .int (nI jj)), (7, .int (nI (d * 10 + i))), (6, .int (nI i)), (5, .int (nI p1.2)), (4, .int (nI p1.1)), (3, .ref (q 44)), (0, .ref (q 10)), (1, .ref (q 5)), (2, .int (nI d))] → W p l e { frames := 3, cells := 0, slots := 0, locals := 75 } s m ([.ref (q 10), .ref (q 5), .int (nI d)] : List Value).toArray below meth c H locs 0 0 (MQ below (skV D (skT cI cJ cC cZ cS) (fun (u : va_W) => ∃ (ft2 : Nat → Int32), ∃ (fa2 : Nat → Int32), ∃ (fo2 : Nat → Int32), ∃ (z2 : Nat → Int64), ∃ (z3 : Nat → Int64), kfd L wk b w d 10 ft ft2 fa fa2 fo fo2 ∧ u = [(q 10, .inr (9, [.ref (q 61), .ref (q 62), .ref (q 63), .ref (q 64), .ref (q 65), .ref (q 66)])), (q 61, .inl (cI, 90, .inl (fun j => nI (sa j)))), (q 62, .inl (cI, 900, .inl ft2)), (q 63, .inl (cI, 90, .inl fa2)), (q 64, .inl (cI, 90, .inl fo2)), (q 5, .inr (2, [.ref (q 44), .ref (q 45), .ref (q 46), .ref (q 47), .ref (q 48), .int (nI dh), .int (nI mh), .int uh, .int rh, .int (nI nh)])), (q 44, .inr (0, [.ref (q 49), .ref (q 50), .ref (q 51), .ref (q 52), .int (nI ch), .int (nI wh)])), (q 49, .inl (cI, 1600, .inl y1)), (q 50, .inl (cJ, 64, .inr (.inl z2))), (q 51, .inl (cJ, 9, .inr (.inl z3))), (q 52, .inl (cJ, 10, .inr (.inl y4))), (q 47, .inl (cI, 3, .inl yf)), (q 48, .inl (cI, 3, .inl yt))]) A) ([.ref (q 10), .ref (q 5), .int (nI d)] : List Value).toArray s 0 0 A) (F0 m 97 ls []) := by
          intro n_38
          induction n_38 with
          | zero => intro jj gt2 v2 v3 H locs ls hm; exact absurd hm (Nat.not_lt_zero _)
          | succ n_38 ih_lp_37 =>
            intro jj gt2 v2 v3 H locs ls hm hjj hfj hdj hj0 hj6 hP hD hS hl
            refine lv_iload hx hb dX9_fillDeeds_97 (lv_at hl 0 rfl) ?_
            refine lv_bipush (v := 10) hx hb dX9_fillDeeds_99 (by decide) ?_
            refine lv_icmp_ge (tgt := 146) hx hb dX9_fillDeeds_101 (by decide) (fun c_39 => ?_) (fun c_39 => ?_)
            · have c_39 : 10 ≤ jj := (nle 10 jj (by omega) (by omega)).mp c_39
              refine lv_aload_n hx hb dX9_fillDeeds_146 rfl (lv_at hl 6 rfl) ?_
              refine sk_get (v := .ref (q 64)) (C := RX9) (T := TX9) (N := 6) hx hb hts inlX9 hown hK hP 0 rfl rfl 3 (by decide) w_2_70 rfl dX9_fillDeeds_147 ?_
              refine lv_iload hx hb dX9_fillDeeds_150 (lv_at hl 1 rfl) ?_
              refine lv_aload_n hx hb dX9_fillDeeds_152 rfl (lv_at hl 6 rfl) ?_
              refine lv_iload_n hx hb dX9_fillDeeds_153 rfl (lv_at hl 8 rfl) ?_
              refine lv_iload hx hb dX9_fillDeeds_154 (lv_at hl 2 rfl) ?_
              refine lv_iconst (v := 0) hx hb dX9_fillDeeds_156 (by decide) ?_
              refine sk_Vi (q0 := 0) (n := 3) (rest := [.int (nI (d * 10 + i)), .ref (q 64)]) (wr := fmR om_13_1c00 _) ⟨hx, hb, hml, hown, hts⟩ hl.1 (c_kmoodsBehind l D cI cJ cC cZ cS q sa gt2 d i 0 (kcSaid L wk b w d) (fun t => kcBec L wk b w d i t 0) hsa (by omega) (by omega) (by omega) (fun m hm => (hfw2.1 m hm).1) (kft_10 (show kft L wk b w d i 10 gt gt2 by rw [show 10 = jj by omega]; exact hfj)).1 (fun t => kcTen_lt _)) w_4_17 w_4_18 w_4_19 w_1_12 w_4_20 hd_X9_moodsBehind_3 ⟨⟨(Nat.le_of_ble_eq_true rfl), (Nat.le_of_ble_eq_true rfl)⟩, (Nat.le_of_ble_eq_true rfl), (Nat.le_of_ble_eq_true rfl)⟩ hK hP hD hS hA (fmT om_13_1c00 0) (fmF om_13_1c00 0) (fm_C1 rfl rfl) (fm_R rfl rfl) (fm_nT om_13_1c00 0) (fm_nF om_13_1c00 0) (fm_di om_13_1c00 0) rfl rfl rfl rfl (Nat.le_of_ble_eq_true rfl) dX9_fillDeeds_157 (fun r_40 u H locs hw hP hD hS => ?_)
              refine anE hw (fun er_42 eu_41 => ?_)
              clear hw
              subst er_42
              refine o_mgE (ws' := [(q 10, .inr (9, [.ref (q 61), .ref (q 62), .ref (q 63), .ref (q 64), .ref (q 65), .ref (q 66)])), (q 61, .inl (cI, 90, .inl (fun j => nI (sa j)))), (q 62, .inl (cI, 900, .inl gt2)), (q 63, .inl (cI, 90, .inl f_28)), (q 64, .inl (cI, 90, .inl go)), (q 5, .inr (2, [.ref (q 44), .ref (q 45), .ref (q 46), .ref (q 47), .ref (q 48), .int (nI dh), .int (nI mh), .int uh, .int rh, .int (nI nh)])), (q 44, .inr (0, [.ref (q 49), .ref (q 50), .ref (q 51), .ref (q 52), .int (nI ch), .int (nI wh)])), (q 49, .inl (cI, 1600, .inl y1)), (q 50, .inl (cJ, 64, .inr (.inl v2))), (q 51, .inl (cJ, 9, .inr (.inl v3))), (q 52, .inl (cJ, 10, .inr (.inl y4))), (q 47, .inl (cI, 3, .inl yf)), (q 48, .inl (cI, 3, .inl yt))]) eu_41 hP hD rfl (fun hP hD => ?_)
              refine sk_iastE (k := (d * 10 + i)) (ws' := fun f_43 => [(q 10, .inr (9, [.ref (q 61), .ref (q 62), .ref (q 63), .ref (q 64), .ref (q 65), .ref (q 66)])), (q 61, .inl (cI, 90, .inl (fun j => nI (sa j)))), (q 62, .inl (cI, 900, .inl gt2)), (q 63, .inl (cI, 90, .inl f_28)), (q 64, .inl (cI, 90, .inl f_43)), (q 5, .inr (2, [.ref (q 44), .ref (q 45), .ref (q 46), .ref (q 47), .ref (q 48), .int (nI dh), .int (nI mh), .int uh, .int rh, .int (nI nh)])), (q 44, .inr (0, [.ref (q 49), .ref (q 50), .ref (q 51), .ref (q 52), .int (nI ch), .int (nI wh)])), (q 49, .inl (cI, 1600, .inl y1)), (q 50, .inl (cJ, 64, .inr (.inl v2))), (q 51, .inl (cJ, 9, .inr (.inl v3))), (q 52, .inl (cJ, 10, .inr (.inl y4))), (q 47, .inl (cI, 3, .inl yf)), (q 48, .inl (cI, 3, .inl yt))]) hx hb hK hP hD hS 4 0 rfl rfl (by omega) (by omega) (fun _ => rfl) dX9_fillDeeds_160 (fun f_43 H locs ef_44 hP hD hS => ?_)
              refine lv_iinc (v := nI (i + 1)) (lv' := [(6, .int (nI (i + 1))), (8, .int (nI jj)), (7, .int (nI (d * 10 + i))), (5, .int (nI p1.2)), (4, .int (nI p1.1)), (3, .ref (q 44)), (0, .ref (q 10)), (1, .ref (q 5)), (2, .int (nI d))]) hx hb dX9_fillDeeds_161 hl (k := 2) rfl (ninc i 1 (by decide)) (by decide) rfl (fun ls hl => ?_)
              refine lv_goto (tgt := 24) hx hb dX9_fillDeeds_164 (by decide) ?_
              exact ih_lp_1 (i + 1) gt2 f_28 f_43 v2 v3 _ _ _ (by omega) (by omega) (kfd_s hfi (show kft L wk b w d i 10 gt gt2 by rw [show 10 = jj by omega]; exact hfj) ef_29 ef_44 (by omega) (congrArg nI (kx_bec hLk hd_18 hn_19 hn_21 hn_20)) rfl) hdj hP hD hS (lv_sub hl [0, 3, 4, 5, 6, 7, 8] rfl)
            · have c_39 : ¬ (10 ≤ jj) := fun h => c_39 ((nle 10 jj (by omega) (by omega)).mpr h)
              refine lv_aload_n hx hb dX9_fillDeeds_104 rfl (lv_at hl 5 rfl) ?_
              refine lv_sipush (v := 10005) hx hb dX9_fillDeeds_105 (by decide) ?_
              refine lv_iload hx hb dX9_fillDeeds_108 (lv_at hl 0 rfl) ?_
              refine lv_i2l hx hb dX9_fillDeeds_110 rfl ?_
              refine sk_Vv (q0 := 0) (n := 2) (rest := []) (wr := fmR om_13_48 _) ⟨hx, hb, hml, hown, hts⟩ hl.1 (c_kCode_name l D cI cJ cC cZ cS (q 44) (q 49) (q 50) (q 51) (q 52) ch wh v3 10005 5 (Int32.toInt64 (nI jj)) (by decide) (by decide)) w_3_212 w_3_213 w_3_214 w_1_8 w_3_215 hd_X0_name_2 ⟨⟨(Nat.le_of_ble_eq_true rfl), (Nat.le_of_ble_eq_true rfl)⟩, (Nat.le_of_ble_eq_true rfl), (Nat.le_of_ble_eq_true rfl)⟩ hK hP hD hS hA (fmT om_13_48 0) (fmF om_13_48 0) (fm_C1 rfl rfl) (fm_R rfl rfl) (fm_nT om_13_48 0) (fm_nF om_13_48 0) (fm_di om_13_48 0) rfl rfl rfl rfl (Nat.le_of_ble_eq_true rfl) dX9_fillDeeds_111 (fun u H locs hw hP hD hS => ?_)
              refine exE hw (fun g3_45 hw1 => anE hw1 (fun hg3_46 eu_47 => ?_))
              clear hw hw1
              refine o_mgE (ws' := [(q 10, .inr (9, [.ref (q 61), .ref (q 62), .ref (q 63), .ref (q 64), .ref (q 65), .ref (q 66)])), (q 61, .inl (cI, 90, .inl (fun j => nI (sa j)))), (q 62, .inl (cI, 900, .inl gt2)), (q 63, .inl (cI, 90, .inl f_28)), (q 64, .inl (cI, 90, .inl go)), (q 5, .inr (2, [.ref (q 44), .ref (q 45), .ref (q 46), .ref (q 47), .ref (q 48), .int (nI dh), .int (nI mh), .int uh, .int rh, .int (nI nh)])), (q 44, .inr (0, [.ref (q 49), .ref (q 50), .ref (q 51), .ref (q 52), .int (nI ch), .int (nI wh)])), (q 49, .inl (cI, 1600, .inl y1)), (q 50, .inl (cJ, 64, .inr (.inl v2))), (q 51, .inl (cJ, 9, .inr (.inl g3_45))), (q 52, .inl (cJ, 10, .inr (.inl y4))), (q 47, .inl (cI, 3, .inl yf)), (q 48, .inl (cI, 3, .inl yt))]) eu_47 hP hD rfl (fun hP hD => ?_)
              have hd_48 := kdy_up hdj hg3_46 (by decide)
              have hn_49 := (kup_n hg3_46 (by decide)).trans hj0
              have hn_50 := (kup_n hg3_46 (by decide)).trans hj6
              have hn_51 := (kup_s hg3_46).trans (kx_i2l (by omega))
              refine lv_aload_n hx hb dX9_fillDeeds_114 rfl (lv_at hl 6 rfl) ?_
              refine sk_get (v := .ref (q 62)) (C := RX9) (T := TX9) (N := 6) hx hb hts inlX9 hown hK hP 0 rfl rfl 1 (by decide) w_2_65 rfl dX9_fillDeeds_115 ?_
              refine lv_iload hx hb dX9_fillDeeds_118 (lv_at hl 1 rfl) ?_
              refine lv_bipush (v := 10) hx hb dX9_fillDeeds_120 (by decide) ?_
              refine lv_imul hx hb dX9_fillDeeds_122 ?_
              refine sk_top (nI ((d * 10 + i) * 10)) (nmul (d * 10 + i) 10) ?_
              refine lv_iload hx hb dX9_fillDeeds_123 (lv_at hl 0 rfl) ?_
              refine lv_iadd hx hb dX9_fillDeeds_125 ?_
              refine sk_top (nI ((d * 10 + i) * 10 + jj)) (nI_add ((d * 10 + i) * 10) jj) ?_
              refine lv_aload_n hx hb dX9_fillDeeds_126 rfl (lv_at hl 5 rfl) ?_
              refine lv_iload hx hb dX9_fillDeeds_127 (lv_at hl 4 rfl) ?_
              refine lv_iload hx hb dX9_fillDeeds_129 (lv_at hl 3 rfl) ?_
              refine sk_Vl (q0 := 0) (n := 2) (rest := [.int (nI ((d * 10 + i) * 10 + jj)), .ref (q 62)]) (wr := fmR om_13_7c _) ⟨hx, hb, hml, hown, hts⟩ hl.1 (c_kCode_run l D cI cJ cC cZ cS (q 44) (q 49) (q 50) (q 51) (q 52) ch wh y1 v2 g3_45 y4 p1.1 p1.2 (lK (lkF L)) g3_45 (kcV L 1 g3_45) 1 (by omega) (by omega) hcd.1 hcd (Nat.le_of_lt hbp1.1) hbp1.2 (by omega) (kx_ns hLk rfl hp1) (fun _ _ => rfl) (kx_ex hLk (by decide) hp1 _)) w_3_220 w_3_221 w_3_222 w_1_8 w_3_223 hd_X0_run_2 ⟨⟨(Nat.le_of_ble_eq_true rfl), (Nat.le_of_ble_eq_true rfl)⟩, (Nat.le_of_ble_eq_true rfl), (Nat.le_of_ble_eq_true rfl)⟩ hK hP hD hS hA (fmT om_13_7c 0) (fmF om_13_7c 0) (fm_C1 rfl rfl) (fm_R rfl rfl) (fm_nT om_13_7c 0) (fm_nF om_13_7c 0) (fm_di om_13_7c 0) rfl rfl rfl rfl (Nat.le_of_ble_eq_true rfl) dX9_fillDeeds_131 (fun r_53 u H locs hw hP hD hS => ?_)
              refine exE hw (fun g2_52 hw1 => anE hw1 (fun er_55 eu_54 => ?_))
              clear hw hw1
              subst er_55
              refine o_mgE (ws' := [(q 10, .inr (9, [.ref (q 61), .ref (q 62), .ref (q 63), .ref (q 64), .ref (q 65), .ref (q 66)])), (q 61, .inl (cI, 90, .inl (fun j => nI (sa j)))), (q 62, .inl (cI, 900, .inl gt2)), (q 63, .inl (cI, 90, .inl f_28)), (q 64, .inl (cI, 90, .inl go)), (q 5, .inr (2, [.ref (q 44), .ref (q 45), .ref (q 46), .ref (q 47), .ref (q 48), .int (nI dh), .int (nI mh), .int uh, .int rh, .int (nI nh)])), (q 44, .inr (0, [.ref (q 49), .ref (q 50), .ref (q 51), .ref (q 52), .int (nI ch), .int (nI wh)])), (q 49, .inl (cI, 1600, .inl y1)), (q 50, .inl (cJ, 64, .inr (.inl g2_52))), (q 51, .inl (cJ, 9, .inr (.inl g3_45))), (q 52, .inl (cJ, 10, .inr (.inl y4))), (q 47, .inl (cI, 3, .inl yf)), (q 48, .inl (cI, 3, .inl yt))]) eu_54 hP hD rfl (fun hP hD => ?_)
              refine lv_bipush (v := 10) hx hb dX9_fillDeeds_134 (by decide) ?_
              refine sk_Si (n := 2) (rest := [.int (nI ((d * 10 + i) * 10 + jj)), .ref (q 62)]) (wr := [(q 10, .inr (9, [.ref (q 61), .ref (q 62), .ref (q 63), .ref (q 64), .ref (q 65), .ref (q 66)])), (q 61, .inl (cI, 90, .inl (fun j => nI (sa j)))), (q 62, .inl (cI, 900, .inl gt2)), (q 63, .inl (cI, 90, .inl f_28)), (q 64, .inl (cI, 90, .inl go)), (q 5, .inr (2, [.ref (q 44), .ref (q 45), .ref (q 46), .ref (q 47), .ref (q 48), .int (nI dh), .int (nI mh), .int uh, .int rh, .int (nI nh)])), (q 44, .inr (0, [.ref (q 49), .ref (q 50), .ref (q 51), .ref (q 52), .int (nI ch), .int (nI wh)])), (q 49, .inl (cI, 1600, .inl y1)), (q 50, .inl (cJ, 64, .inr (.inl g2_52))), (q 51, .inl (cJ, 9, .inr (.inl g3_45))), (q 52, .inl (cJ, 10, .inr (.inl y4))), (q 47, .inl (cI, 3, .inl yf)), (q 48, .inl (cI, 3, .inl yt))]) ⟨hx, hb, hml, hown, hts⟩ hl.1 (c_kfloorMod l D cI cJ cC cZ cS (kcV L 1 g3_45)) w_4_7 w_4_8 w_1_3 w_4_9 hd_J9_floorMod_1978a_2 ⟨⟨(Nat.le_of_ble_eq_true rfl), (Nat.le_of_ble_eq_true rfl)⟩, (Nat.le_of_ble_eq_true rfl), (Nat.le_of_ble_eq_true rfl)⟩ hK hP hD hS hA [] [0, 1, 2, 3, 4, 5, 6, 7, 8, 9, 10, 11, 12] rfl rfl (by decide +kernel) (by decide +kernel) (by decide +kernel) rfl rfl (Nat.le_of_ble_eq_true rfl) dX9_fillDeeds_136 (fun r_56 u H locs hw hP hD hS => ?_)
              obtain ⟨rfl, rfl⟩ := hw
              refine o_re (ws' := [(q 10, .inr (9, [.ref (q 61), .ref (q 62), .ref (q 63), .ref (q 64), .ref (q 65), .ref (q 66)])), (q 61, .inl (cI, 90, .inl (fun j => nI (sa j)))), (q 62, .inl (cI, 900, .inl gt2)), (q 63, .inl (cI, 90, .inl f_28)), (q 64, .inl (cI, 90, .inl go)), (q 5, .inr (2, [.ref (q 44), .ref (q 45), .ref (q 46), .ref (q 47), .ref (q 48), .int (nI dh), .int (nI mh), .int uh, .int rh, .int (nI nh)])), (q 44, .inr (0, [.ref (q 49), .ref (q 50), .ref (q 51), .ref (q 52), .int (nI ch), .int (nI wh)])), (q 49, .inl (cI, 1600, .inl y1)), (q 50, .inl (cJ, 64, .inr (.inl g2_52))), (q 51, .inl (cJ, 9, .inr (.inl g3_45))), (q 52, .inl (cJ, 10, .inr (.inl y4))), (q 47, .inl (cI, 3, .inl yf)), (q 48, .inl (cI, 3, .inl yt))]) hP hD rfl (fun hP hD => ?_)
              have hk_57 := kcTen_lt (kcV L 1 g3_45)
              refine sk_iastE (k := ((d * 10 + i) * 10 + jj)) (ws' := fun f_58 => [(q 10, .inr (9, [.ref (q 61), .ref (q 62), .ref (q 63), .ref (q 64), .ref (q 65), .ref (q 66)])), (q 61, .inl (cI, 90, .inl (fun j => nI (sa j)))), (q 62, .inl (cI, 900, .inl f_58)), (q 63, .inl (cI, 90, .inl f_28)), (q 64, .inl (cI, 90, .inl go)), (q 5, .inr (2, [.ref (q 44), .ref (q 45), .ref (q 46), .ref (q 47), .ref (q 48), .int (nI dh), .int (nI mh), .int uh, .int rh, .int (nI nh)])), (q 44, .inr (0, [.ref (q 49), .ref (q 50), .ref (q 51), .ref (q 52), .int (nI ch), .int (nI wh)])), (q 49, .inl (cI, 1600, .inl y1)), (q 50, .inl (cJ, 64, .inr (.inl g2_52))), (q 51, .inl (cJ, 9, .inr (.inl g3_45))), (q 52, .inl (cJ, 10, .inr (.inl y4))), (q 47, .inl (cI, 3, .inl yf)), (q 48, .inl (cI, 3, .inl yt))]) hx hb hK hP hD hS 2 0 rfl rfl (by omega) (by omega) (fun _ => rfl) dX9_fillDeeds_139 (fun f_58 H locs ef_59 hP hD hS => ?_)
              refine lv_iinc (v := nI (jj + 1)) (lv' := [(8, .int (nI (jj + 1))), (7, .int (nI (d * 10 + i))), (6, .int (nI i)), (5, .int (nI p1.2)), (4, .int (nI p1.1)), (3, .ref (q 44)), (0, .ref (q 10)), (1, .ref (q 5)), (2, .int (nI d))]) hx hb dX9_fillDeeds_140 hl (k := 0) rfl (ninc jj 1 (by decide)) (by decide) rfl (fun ls hl => ?_)
              refine lv_goto (tgt := 97) hx hb dX9_fillDeeds_143 (by decide) ?_
              exact ih_lp_37 (jj + 1) f_58 g2_52 g3_45 _ _ _ (by omega) (by omega) (kft_s hfj ef_59 (by omega) (congrArg nI (kx_bec hLk hd_48 hn_49 hn_51 hn_50))) hd_48 hn_49 hn_50 hP hD hS (lv_sub hl [0, 1, 2, 3, 4, 5, 6, 7, 8] rfl)
        exact lp_37 (10 - 0 + 1) 0 gt g2_22 g3_30 _ _ _ (Nat.lt_succ_self _) (by omega) (kft_0 _ _ _ _ _ _ _) hd_33 hn_34 hn_36 hP hD hS (lv_sub hl [0, 1, 2, 3, 4, 5, 6, 7, 8] rfl)
  exact lp_1 (10 - 0 + 1) 0 ft fa fo y2 y3 _ _ _ (Nat.lt_succ_self _) (by omega) (kfd_0 _ _ _ _ _ _ _ _) hdy3 hP hD hS (lv_sub hl [0, 1, 2, 3, 4, 5, 6] rfl)

