set_option maxHeartbeats 4000000 in
set_option maxRecDepth 100000 in
theorem c_erd_readWord (l : Launch) (D : va_G) (cI cJ cC cZ cS : ClassId) (zk zv : Nat) (zf : Value) (q : Nat → Nat) (xa : Nat) (xv : Int32) (xo : Nat) (xt : Int32) (xz : Nat) (xf : Int32) (xp : Int32) (tl : Nat) (tb : Nat → Nat) (hxa : xa ≤ 1600) (hxz : xz ≤ 1600) (htl : tl ≤ 1600) (htb : ∀ j, tb j ≤ 255) (hax : xa = xz) : skMZ zk zv zf l yX6_readWord cX6_readWord 5 none 4 85 0 0 D (skT cI cJ cC cZ cS) [.ref (q 2)] [(q 2, .inr (6, [.ref (q 0), .int (nI xa), .int xv, .int (nI xo), .int xt, .int (nI xz), .int xf, .int xp])), (q 0, .inr (10, [.ref (q 20), .int (nI tl)])), (q 20, .inl (cI, 1600, .inl (fun j => nI (tb j))))] (skV D (skT cI cJ cC cZ cS) (fun (u : va_W) => ∃ (xa2 : Nat), ∃ (xt2 : Int32), xa2 ≤ 1600 ∧ xa2 = ext qL tb tl xz ∧ xt2 = wordTok (wl tb tl xz) ∧ u = [(q 2, .inr (6, [.ref (q 0), .int (nI xa2), .int xv, .int (nI xo), .int xt2, .int (nI xz), .int xf, .int xp])), (q 0, .inr (10, [.ref (q 20), .int (nI tl)])), (q 20, .inl (cI, 1600, .inl (fun j => nI (tb j))))])) := by
  refine skMZ_of pf_X6_readWord (Nat.le_of_ble_eq_true rfl) ?_
  intro p e s m below meth c A ls E hP hD hZ hl
  refine skE_el E (fun hx hb hr hml hlocks hin hown hts hK hA => ?_)
  have hown : s.vm.findClass RX6 = some m.cls := hown
  have hS : va_S A s.heap s.heap [] := va_S.rf
  have hl : lv_has ls 5 [(0, .ref (q 2))] := hl
  have lp_1 : ∀ (n_2 : Nat) (za : Nat) (H : Heap) (locs : List Loc) (ls : Array Slot), tl - za < n_2 → (za ≤ 1600) → (xz ≤ za) → (ext qL tb tl za = ext qL tb tl xz) → va_P D vwCl [(q 2, .inr (6, [.ref (q 0), .int (nI za), .int xv, .int (nI xo), .int xt, .int (nI xz), .int xf, .int xp])), (q 0, .inr (10, [.ref (q 20), .int (nI tl)])), (q 20, .inl (cI, 1600, .inl (fun j => nI (tb j))))] H → va_D A [(q 2, .inr (6, [.ref (q 0), .int (nI za), .int xv, .int (nI xo), .int xt, .int (nI xz), .int xf, .int xp])), (q 0, .inr (10, [.ref (q 20), .int (nI tl)])), (q 20, .inl (cI, 1600, .inl (fun j => nI (tb j))))] → va_S A s.heap H locs → lv_has ls 5 [(0, .ref (q 2))] → W p l e { frames := 4, cells := 0, slots := 0, locals := 85 } s m ([.ref (q 2)] : List Value).toArray below meth c H locs 0 0 (MQ below (skV D (skT cI cJ cC cZ cS) (fun (u : va_W) => ∃ (xa2 : Nat), ∃ (xt2 : Int32), xa2 ≤ 1600 ∧ xa2 = ext qL tb tl xz ∧ xt2 = wordTok (wl tb tl xz) ∧ u = [(q 2, .inr (6, [.ref (q 0), .int (nI xa2), .int xv, .int (nI xo), .int xt2, .int (nI xz), .int xf, .int xp])), (q 0, .inr (10, [.ref (q 20), .int (nI tl)])), (q 20, .inl (cI, 1600, .inl (fun j => nI (tb j))))]) A) ([.ref (q 2)] : List Value).toArray s 0 0 A) (F0 m 0 ls []) := by
    intro n_2
    induction n_2 with
    | zero => intro za H locs ls hm; exact absurd hm (Nat.not_lt_zero _)
    | succ n_2 ih_lp_1 =>
      intro za H locs ls hm hza hxza hze hP hD hS hl
      refine lv_aload_n hx hb dX6_readWord_0 rfl (lv_at hl 0 rfl) ?_
      refine sk_get (v := .int (nI za)) (C := RX6) (T := TX6) (N := 8) hx hb hts inlX6 hown hK hP 0 rfl rfl 1 (by decide) w_1_57 rfl dX6_readWord_1 ?_
      refine lv_aload_n hx hb dX6_readWord_4 rfl (lv_at hl 0 rfl) ?_
      refine sk_get (v := .ref (q 0)) (C := RX6) (T := TX6) (N := 8) hx hb hts inlX6 hown hK hP 0 rfl rfl 0 (by decide) w_1_56 rfl dX6_readWord_5 ?_
      refine sk_get (v := .int (nI tl)) (C := RX10) (T := TX10) (N := 2) hx hb hts inlX10 hown hK hP 1 rfl rfl 1 (by decide) w_1_43 rfl dX6_readWord_8 ?_
      refine lv_icmp_ge (tgt := 61) hx hb dX6_readWord_11 (by decide) (fun c_3 => ?_) (fun c_3 => ?_)
      · have c_3 : tl ≤ za := (nle tl za (by omega) (by omega)).mp c_3
        have hend : za = ext qL tb tl xz := ext_fin hze (by rw [qL_t]; omega)
        have hlen : (wl tb tl xz).length = za - xz := by rw [wl_len, ← hend]
        refine lv_aload_n hx hb dX6_readWord_61 rfl (lv_at hl 0 rfl) ?_
        refine lv_bipush (v := (-2)) hx hb dX6_readWord_62 (by decide) ?_
        refine sk_put (ws' := [(q 2, .inr (6, [.ref (q 0), .int (nI za), .int xv, .int (nI xo), .int (-2), .int (nI xz), .int xf, .int xp])), (q 0, .inr (10, [.ref (q 20), .int (nI tl)])), (q 20, .inl (cI, 1600, .inl (fun j => nI (tb j))))]) (C := RX6) (T := TX6) (N := 8) (v := .int (-2)) hx hb hts inlX6 tyX6 tyX6_ok nmX6 hown hK hP hD hS 0 rfl rfl 4 (by decide) w_1_60 rfl rfl rfl (Nat.le_of_ble_eq_true rfl) rfl dX6_readWord_64 (fun H locs hP hD hS => ?_)
        refine lv_aload_n hx hb dX6_readWord_67 rfl (lv_at hl 0 rfl) ?_
        refine sk_get (v := .int (nI za)) (C := RX6) (T := TX6) (N := 8) hx hb hts inlX6 hown hK hP 0 rfl rfl 1 (by decide) w_1_57 rfl dX6_readWord_68 ?_
        refine lv_aload_n hx hb dX6_readWord_71 rfl (lv_at hl 0 rfl) ?_
        refine sk_get (v := .int (nI xz)) (C := RX6) (T := TX6) (N := 8) hx hb hts inlX6 hown hK hP 0 rfl rfl 5 (by decide) w_1_64 rfl dX6_readWord_72 ?_
        refine lv_isub hx hb dX6_readWord_75 ?_
        refine sk_top (nI (za - xz)) (nsub za xz (by omega)) ?_
        refine lv_bipush (v := 6) hx hb dX6_readWord_76 (by decide) ?_
        refine lv_icmp_le (tgt := 82) hx hb dX6_readWord_78 (by decide) (fun c_4 => ?_) (fun c_4 => ?_)
        · have c_4 : za - xz ≤ 6 := (nle (za - xz) 6 (by omega) (by omega)).mp c_4
          refine lv_iconst (v := 0) hx hb dX6_readWord_82 (by decide) ?_
          refine lv_istore_n (lv' := [(1, .int 0), (0, .ref (q 2))]) hx hb dX6_readWord_83 rfl hl (by decide) rfl (fun ls hl => ?_)
          have lp_5 : ∀ (n_6 : Nat) (i : Nat) (H : Heap) (locs : List Loc) (ls : Array Slot), 168 - i < n_6 → (i ≤ 168) → (i % 6 = 0) → (noW (i / 6) (wl tb tl xz)) → va_P D vwCl [(q 2, .inr (6, [.ref (q 0), .int (nI za), .int xv, .int (nI xo), .int (-2), .int (nI xz), .int xf, .int xp])), (q 0, .inr (10, [.ref (q 20), .int (nI tl)])), (q 20, .inl (cI, 1600, .inl (fun j => nI (tb j))))] H → va_D A [(q 2, .inr (6, [.ref (q 0), .int (nI za), .int xv, .int (nI xo), .int (-2), .int (nI xz), .int xf, .int xp])), (q 0, .inr (10, [.ref (q 20), .int (nI tl)])), (q 20, .inl (cI, 1600, .inl (fun j => nI (tb j))))] → va_S A s.heap H locs → lv_has ls 5 [(1, .int (nI i)), (0, .ref (q 2))] → W p l e { frames := 4, cells := 0, slots := 0, locals := 85 } s m ([.ref (q 2)] : List Value).toArray below meth c H locs 0 0 (MQ below (skV D (skT cI cJ cC cZ cS) (fun (u : va_W) => ∃ (xa2 : Nat), ∃ (xt2 : Int32), xa2 ≤ 1600 ∧ xa2 = ext qL tb tl xz ∧ xt2 = wordTok (wl tb tl xz) ∧ u = [(q 2, .inr (6, [.ref (q 0), .int (nI xa2), .int xv, .int (nI xo), .int xt2, .int (nI xz), .int xf, .int xp])), (q 0, .inr (10, [.ref (q 20), .int (nI tl)])), (q 20, .inl (cI, 1600, .inl (fun j => nI (tb j))))]) A) ([.ref (q 2)] : List Value).toArray s 0 0 A) (F0 m 84 ls []) := by
            intro n_6
            induction n_6 with
            | zero => intro i H locs ls hm; exact absurd hm (Nat.not_lt_zero _)
            | succ n_6 ih_lp_5 =>
              intro i H locs ls hm hi h6 hno hP hD hS hl
              refine lv_iload_n hx hb dX6_readWord_84 rfl (lv_at hl 0 rfl) ?_
              refine lv_bipush (v := 6) hx hb dX6_readWord_85 (by decide) ?_
              refine lv_iadd hx hb dX6_readWord_87 ?_
              refine sk_top (nI (i + 6)) (nI_add i 6) ?_
              refine va_ldcS hx hb hown hZ.1 dX6_readWord_88 ?_
              refine sk_ViS (n := 0) (rest := [.int (nI (i + 6))]) (wr := [(q 2, .inr (6, [.ref (q 0), .int (nI za), .int xv, .int (nI xo), .int (-2), .int (nI xz), .int xf, .int xp])), (q 0, .inr (10, [.ref (q 20), .int (nI tl)])), (q 20, .inl (cI, 1600, .inl (fun j => nI (tb j))))]) ⟨hx, hb, hml, hown, hts⟩ hl.1 (c_str_length l D cI cJ cC cZ cS zk zv zf) w_2_234 w_2_235 w_2_236 w_1_16 w_2_237 hd_J0_length_8abf5_0 ⟨⟨(Nat.le_of_ble_eq_true rfl), (Nat.le_of_ble_eq_true rfl)⟩, (Nat.le_of_ble_eq_true rfl), (Nat.le_of_ble_eq_true rfl)⟩ hK hP hD hS hZ hA [] [0, 1, 2] rfl rfl (by decide +kernel) (by decide +kernel) (by decide +kernel) rfl rfl rfl rfl (Nat.le_of_ble_eq_true rfl) dX6_readWord_90 (fun r_7 u H locs hw hP hD hS => ?_)
              obtain ⟨rfl, rfl⟩ := hw
              refine o_re (ws' := [(q 2, .inr (6, [.ref (q 0), .int (nI za), .int xv, .int (nI xo), .int (-2), .int (nI xz), .int xf, .int xp])), (q 0, .inr (10, [.ref (q 20), .int (nI tl)])), (q 20, .inl (cI, 1600, .inl (fun j => nI (tb j))))]) hP hD rfl (fun hP hD => ?_)
              refine lv_icmp_gt (tgt := 192) hx hb dX6_readWord_93 (by decide) (fun c_8 => ?_) (fun c_8 => ?_)
              · have c_8 : 168 < i + 6 := (nlt 168 (i + 6) (by omega) (by omega)).mp c_8
                exact sk_vret hx hb hr hlocks hK hP hD hS (⟨za, (-2), by omega, hend, (wt_none (show noW 28 _ by rw [show 28 = i / 6 by omega]; exact hno)).symm, rfl⟩) (Nat.le_of_ble_eq_true rfl) (Nat.le_of_ble_eq_true rfl) dX6_readWord_192
              · have c_8 : ¬ (168 < i + 6) := fun h => c_8 ((nlt 168 (i + 6) (by omega) (by omega)).mpr h)
                refine lv_iconst (v := 1) hx hb dX6_readWord_96 (by decide) ?_
                refine lv_istore_n (lv' := [(2, .int 1), (1, .int (nI i)), (0, .ref (q 2))]) hx hb dX6_readWord_97 rfl hl (by decide) rfl (fun ls hl => ?_)
                refine lv_iconst (v := 0) hx hb dX6_readWord_98 (by decide) ?_
                refine lv_istore_n (lv' := [(3, .int 0), (2, .int 1), (1, .int (nI i)), (0, .ref (q 2))]) hx hb dX6_readWord_99 rfl hl (by decide) rfl (fun ls hl => ?_)
                have lp_9 : ∀ (n_10 : Nat) (jj : Nat) (al : Nat) (H : Heap) (locs : List Loc) (ls : Array Slot), 6 - jj < n_10 → (jj ≤ 6) → ((al = 0 ∧ ¬ eqP i (wl tb tl xz) jj) ∨ (al = 1 ∧ eqP i (wl tb tl xz) jj)) → va_P D vwCl [(q 2, .inr (6, [.ref (q 0), .int (nI za), .int xv, .int (nI xo), .int (-2), .int (nI xz), .int xf, .int xp])), (q 0, .inr (10, [.ref (q 20), .int (nI tl)])), (q 20, .inl (cI, 1600, .inl (fun j => nI (tb j))))] H → va_D A [(q 2, .inr (6, [.ref (q 0), .int (nI za), .int xv, .int (nI xo), .int (-2), .int (nI xz), .int xf, .int xp])), (q 0, .inr (10, [.ref (q 20), .int (nI tl)])), (q 20, .inl (cI, 1600, .inl (fun j => nI (tb j))))] → va_S A s.heap H locs → lv_has ls 5 [(3, .int (nI jj)), (2, .int (nI al)), (1, .int (nI i)), (0, .ref (q 2))] → W p l e { frames := 4, cells := 0, slots := 0, locals := 85 } s m ([.ref (q 2)] : List Value).toArray below meth c H locs 0 0 (MQ below (skV D (skT cI cJ cC cZ cS) (fun (u : va_W) => ∃ (xa2 : Nat), ∃ (xt2 : Int32), xa2 ≤ 1600 ∧ xa2 = ext qL tb tl xz ∧ xt2 = wordTok (wl tb tl xz) ∧ u = [(q 2, .inr (6, [.ref (q 0), .int (nI xa2), .int xv, .int (nI xo), .int xt2, .int (nI xz), .int xf, .int xp])), (q 0, .inr (10, [.ref (q 20), .int (nI tl)])), (q 20, .inl (cI, 1600, .inl (fun j => nI (tb j))))]) A) ([.ref (q 2)] : List Value).toArray s 0 0 A) (F0 m 100 ls []) := by
                  intro n_10
                  induction n_10 with
                  | zero => intro jj al H locs ls hm; exact absurd hm (Nat.not_lt_zero _)
                  | succ n_10 ih_lp_9 =>
                    intro jj al H locs ls hm hjj hal hP hD hS hl
                    refine lv_iload_n hx hb dX6_readWord_100 rfl (lv_at hl 0 rfl) ?_
                    refine lv_bipush (v := 6) hx hb dX6_readWord_101 (by decide) ?_
                    refine lv_icmp_ge (tgt := 169) hx hb dX6_readWord_103 (by decide) (fun c_11 => ?_) (fun c_11 => ?_)
                    · have c_11 : 6 ≤ jj := (nle 6 jj (by omega) (by omega)).mp c_11
                      refine lv_iload_n hx hb dX6_readWord_169 rfl (lv_at hl 1 rfl) ?_
                      refine lv_if_eq (tgt := 186) hx hb dX6_readWord_170 (by decide) (fun c_12 => ?_) (fun c_12 => ?_)
                      · have c_12 : al = 0 := (neq al 0 (by omega) (by omega)).mp c_12
                        refine lv_iinc (v := nI (i + 6)) (lv' := [(1, .int (nI (i + 6))), (3, .int (nI jj)), (2, .int (nI al)), (0, .ref (q 2))]) hx hb dX6_readWord_186 hl (k := 2) rfl (ninc i 6 (by decide)) (by decide) rfl (fun ls hl => ?_)
                        refine lv_goto (tgt := 84) hx hb dX6_readWord_189 (by decide) ?_
                        exact ih_lp_5 (i + 6) _ _ _ (by omega) (by omega) (by omega) (by rw [show (i + 6) / 6 = i / 6 + 1 by omega]; exact noW_s hno (eqP_no (by omega) h6 (by omega) (rr_0 hal (by omega)))) hP hD hS (lv_sub hl [0, 3] rfl)
                      · have c_12 : ¬ (al = 0) := fun h => c_12 ((neq al 0 (by omega) (by omega)).mpr h)
                        refine lv_aload_n hx hb dX6_readWord_173 rfl (lv_at hl 3 rfl) ?_
                        refine lv_sipush (v := 256) hx hb dX6_readWord_174 (by decide) ?_
                        refine lv_iload_n hx hb dX6_readWord_177 rfl (lv_at hl 2 rfl) ?_
                        refine lv_bipush (v := 6) hx hb dX6_readWord_178 (by decide) ?_
                        refine lv_idiv hx hb dX6_readWord_180 (by decide) ?_
                        refine sk_top (nI (i / 6)) (ndiv i 6 (by omega) (by omega) (by omega)) ?_
                        refine lv_iadd hx hb dX6_readWord_181 ?_
                        refine sk_top (nI (256 + (i / 6))) (nI_add 256 (i / 6)) ?_
                        refine sk_put (ws' := [(q 2, .inr (6, [.ref (q 0), .int (nI za), .int xv, .int (nI xo), .int (nI (256 + (i / 6))), .int (nI xz), .int xf, .int xp])), (q 0, .inr (10, [.ref (q 20), .int (nI tl)])), (q 20, .inl (cI, 1600, .inl (fun j => nI (tb j))))]) (C := RX6) (T := TX6) (N := 8) (v := .int (nI (256 + (i / 6)))) hx hb hts inlX6 tyX6 tyX6_ok nmX6 hown hK hP hD hS 0 rfl rfl 4 (by decide) w_1_60 rfl rfl rfl (Nat.le_of_ble_eq_true rfl) rfl dX6_readWord_182 (fun H locs hP hD hS => ?_)
                        exact sk_vret hx hb hr hlocks hK hP hD hS (⟨za, nI (256 + (i / 6)), by omega, hend, (wt_some (by omega) hno (eqP_cw (by omega) h6 wl_let (by omega) (by rw [show 6 = jj by omega]; exact (rr_1 hal (by omega))))).symm, rfl⟩) (Nat.le_of_ble_eq_true rfl) (Nat.le_of_ble_eq_true rfl) dX6_readWord_185
                    · have c_11 : ¬ (6 ≤ jj) := fun h => c_11 ((nle 6 jj (by omega) (by omega)).mpr h)
                      refine lv_iload_n hx hb dX6_readWord_106 rfl (lv_at hl 1 rfl) ?_
                      refine lv_if_eq (tgt := 169) hx hb dX6_readWord_107 (by decide) (fun c_13 => ?_) (fun c_13 => ?_)
                      · have c_13 : al = 0 := (neq al 0 (by omega) (by omega)).mp c_13
                        refine lv_iload_n hx hb dX6_readWord_169 rfl (lv_at hl 1 rfl) ?_
                        refine lv_if_eq (tgt := 186) hx hb dX6_readWord_170 (by decide) (fun c_14 => ?_) (fun c_14 => ?_)
                        · have c_14 : al = 0 := (neq al 0 (by omega) (by omega)).mp c_14
                          refine lv_iinc (v := nI (i + 6)) (lv' := [(1, .int (nI (i + 6))), (3, .int (nI jj)), (2, .int (nI al)), (0, .ref (q 2))]) hx hb dX6_readWord_186 hl (k := 2) rfl (ninc i 6 (by decide)) (by decide) rfl (fun ls hl => ?_)
                          refine lv_goto (tgt := 84) hx hb dX6_readWord_189 (by decide) ?_
                          exact ih_lp_5 (i + 6) _ _ _ (by omega) (by omega) (by omega) (by rw [show (i + 6) / 6 = i / 6 + 1 by omega]; exact noW_s hno (eqP_no (by omega) h6 (by omega) (rr_0 hal (by omega)))) hP hD hS (lv_sub hl [0, 3] rfl)
                        · have c_14 : ¬ (al = 0) := fun h => c_14 ((neq al 0 (by omega) (by omega)).mpr h)
                          refine lv_aload_n hx hb dX6_readWord_173 rfl (lv_at hl 3 rfl) ?_
                          refine lv_sipush (v := 256) hx hb dX6_readWord_174 (by decide) ?_
                          refine lv_iload_n hx hb dX6_readWord_177 rfl (lv_at hl 2 rfl) ?_
                          refine lv_bipush (v := 6) hx hb dX6_readWord_178 (by decide) ?_
                          refine lv_idiv hx hb dX6_readWord_180 (by decide) ?_
                          refine sk_top (nI (i / 6)) (ndiv i 6 (by omega) (by omega) (by omega)) ?_
                          refine lv_iadd hx hb dX6_readWord_181 ?_
                          refine sk_top (nI (256 + (i / 6))) (nI_add 256 (i / 6)) ?_
                          refine sk_put (ws' := [(q 2, .inr (6, [.ref (q 0), .int (nI za), .int xv, .int (nI xo), .int (nI (256 + (i / 6))), .int (nI xz), .int xf, .int xp])), (q 0, .inr (10, [.ref (q 20), .int (nI tl)])), (q 20, .inl (cI, 1600, .inl (fun j => nI (tb j))))]) (C := RX6) (T := TX6) (N := 8) (v := .int (nI (256 + (i / 6)))) hx hb hts inlX6 tyX6 tyX6_ok nmX6 hown hK hP hD hS 0 rfl rfl 4 (by decide) w_1_60 rfl rfl rfl (Nat.le_of_ble_eq_true rfl) rfl dX6_readWord_182 (fun H locs hP hD hS => ?_)
                          exact sk_vret hx hb hr hlocks hK hP hD hS (⟨za, nI (256 + (i / 6)), by omega, hend, (wt_some (by omega) hno (eqP_cw (by omega) h6 wl_let (by omega) (by rw [show 6 = jj by omega]; exact (rr_1 hal (by omega))))).symm, rfl⟩) (Nat.le_of_ble_eq_true rfl) (Nat.le_of_ble_eq_true rfl) dX6_readWord_185
                      · have c_13 : ¬ (al = 0) := fun h => c_13 ((neq al 0 (by omega) (by omega)).mpr h)
                        have jn_15 : ∀ (lt : Nat) (H : Heap) (locs : List Loc) (ls : Array Slot), ((wl tb tl xz).getD jj 32 = lt) → (lt ≤ 255) → va_P D vwCl [(q 2, .inr (6, [.ref (q 0), .int (nI za), .int xv, .int (nI xo), .int (-2), .int (nI xz), .int xf, .int xp])), (q 0, .inr (10, [.ref (q 20), .int (nI tl)])), (q 20, .inl (cI, 1600, .inl (fun j => nI (tb j))))] H → va_D A [(q 2, .inr (6, [.ref (q 0), .int (nI za), .int xv, .int (nI xo), .int (-2), .int (nI xz), .int xf, .int xp])), (q 0, .inr (10, [.ref (q 20), .int (nI tl)])), (q 20, .inl (cI, 1600, .inl (fun j => nI (tb j))))] → va_S A s.heap H locs → lv_has ls 5 [(3, .int (nI jj)), (2, .int (nI al)), (1, .int (nI i)), (0, .ref (q 2))] → W p l e { frames := 4, cells := 0, slots := 0, locals := 85 } s m ([.ref (q 2)] : List Value).toArray below meth c H locs 0 0 (MQ below (skV D (skT cI cJ cC cZ cS) (fun (u : va_W) => ∃ (xa2 : Nat), ∃ (xt2 : Int32), xa2 ≤ 1600 ∧ xa2 = ext qL tb tl xz ∧ xt2 = wordTok (wl tb tl xz) ∧ u = [(q 2, .inr (6, [.ref (q 0), .int (nI xa2), .int xv, .int (nI xo), .int xt2, .int (nI xz), .int xf, .int xp])), (q 0, .inr (10, [.ref (q 20), .int (nI tl)])), (q 20, .inl (cI, 1600, .inl (fun j => nI (tb j))))]) A) ([.ref (q 2)] : List Value).toArray s 0 0 A) (F0 m 142 ls [.int (nI lt)]) := by
                          intro lt H locs ls hlt hltb hP hD hS hl
                          refine lv_istore (lv' := [(4, .int (nI lt)), (3, .int (nI jj)), (2, .int (nI al)), (1, .int (nI i)), (0, .ref (q 2))]) hx hb dX6_readWord_142 hl (by decide) rfl (fun ls hl => ?_)
                          refine va_ldcS hx hb hown hZ.1 dX6_readWord_144 ?_
                          refine lv_iload_n hx hb dX6_readWord_146 rfl (lv_at hl 3 rfl) ?_
                          refine lv_iload_n hx hb dX6_readWord_147 rfl (lv_at hl 1 rfl) ?_
                          refine lv_iadd hx hb dX6_readWord_148 ?_
                          refine sk_top (nI (i + jj)) (nI_add i jj) ?_
                          refine sk_ViS (n := 1) (rest := []) (wr := [(q 2, .inr (6, [.ref (q 0), .int (nI za), .int xv, .int (nI xo), .int (-2), .int (nI xz), .int xf, .int xp])), (q 0, .inr (10, [.ref (q 20), .int (nI tl)])), (q 20, .inl (cI, 1600, .inl (fun j => nI (tb j))))]) ⟨hx, hb, hml, hown, hts⟩ hl.1 (c_str_charAt l D cI cJ cC cZ cS zk zv zf (i + jj) (by omega)) w_3_4 w_3_5 w_3_6 w_1_16 w_3_7 hd_J0_charAt_5068e_1 ⟨⟨(Nat.le_of_ble_eq_true rfl), (Nat.le_of_ble_eq_true rfl)⟩, (Nat.le_of_ble_eq_true rfl), (Nat.le_of_ble_eq_true rfl)⟩ hK hP hD hS hZ hA [] [0, 1, 2] rfl rfl (by decide +kernel) (by decide +kernel) (by decide +kernel) rfl rfl rfl rfl (Nat.le_of_ble_eq_true rfl) dX6_readWord_149 (fun r_16 u H locs hw hP hD hS => ?_)
                          obtain ⟨hv_17, rfl⟩ := hw
                          refine o_re (ws' := [(q 2, .inr (6, [.ref (q 0), .int (nI za), .int xv, .int (nI xo), .int (-2), .int (nI xz), .int xf, .int xp])), (q 0, .inr (10, [.ref (q 20), .int (nI tl)])), (q 20, .inl (cI, 1600, .inl (fun j => nI (tb j))))]) hP hD rfl (fun hP hD => ?_)
                          refine lv_iload hx hb dX6_readWord_152 (lv_at hl 0 rfl) ?_
                          refine lv_icmp_ne (tgt := 161) hx hb dX6_readWord_154 (by decide) (fun c_18 => ?_) (fun c_18 => ?_)
                          · skip
                            refine lv_iconst (v := 0) hx hb dX6_readWord_161 (by decide) ?_
                            refine lv_istore_n (lv' := [(2, .int 0), (4, .int (nI lt)), (3, .int (nI jj)), (1, .int (nI i)), (0, .ref (q 2))]) hx hb dX6_readWord_162 rfl hl (by decide) rfl (fun ls hl => ?_)
                            refine lv_iinc (v := nI (jj + 1)) (lv' := [(3, .int (nI (jj + 1))), (2, .int 0), (4, .int (nI lt)), (1, .int (nI i)), (0, .ref (q 2))]) hx hb dX6_readWord_163 hl (k := 2) rfl (ninc jj 1 (by decide)) (by decide) rfl (fun ls hl => ?_)
                            refine lv_goto (tgt := 100) hx hb dX6_readWord_166 (by decide) ?_
                            exact ih_lp_9 (jj + 1) 0 _ _ _ (by omega) (by omega) (Or.inl ⟨rfl, eqP_n (fun hq => c_18 (by rw [hv_17, hq, hlt]))⟩) hP hD hS (lv_sub hl [0, 1, 3, 4] rfl)
                          · skip
                            refine lv_iconst (v := 1) hx hb dX6_readWord_157 (by decide) ?_
                            refine lv_goto (tgt := 162) hx hb dX6_readWord_158 (by decide) ?_
                            refine lv_istore_n (lv' := [(2, .int 1), (4, .int (nI lt)), (3, .int (nI jj)), (1, .int (nI i)), (0, .ref (q 2))]) hx hb dX6_readWord_162 rfl hl (by decide) rfl (fun ls hl => ?_)
                            refine lv_iinc (v := nI (jj + 1)) (lv' := [(3, .int (nI (jj + 1))), (2, .int 1), (4, .int (nI lt)), (1, .int (nI i)), (0, .ref (q 2))]) hx hb dX6_readWord_163 hl (k := 2) rfl (ninc jj 1 (by decide)) (by decide) rfl (fun ls hl => ?_)
                            refine lv_goto (tgt := 100) hx hb dX6_readWord_166 (by decide) ?_
                            exact ih_lp_9 (jj + 1) 1 _ _ _ (by omega) (by omega) (Or.inr ⟨rfl, eqP_s (rr_1 hal (by omega)) (by rw [← hv_17, c_18, hlt])⟩) hP hD hS (lv_sub hl [0, 1, 3, 4] rfl)
                        refine lv_aload_n hx hb dX6_readWord_110 rfl (lv_at hl 3 rfl) ?_
                        refine sk_get (v := .int (nI xz)) (C := RX6) (T := TX6) (N := 8) hx hb hts inlX6 hown hK hP 0 rfl rfl 5 (by decide) w_1_64 rfl dX6_readWord_111 ?_
                        refine lv_iload_n hx hb dX6_readWord_114 rfl (lv_at hl 0 rfl) ?_
                        refine lv_iadd hx hb dX6_readWord_115 ?_
                        refine sk_top (nI (xz + jj)) (nI_add xz jj) ?_
                        refine lv_aload_n hx hb dX6_readWord_116 rfl (lv_at hl 3 rfl) ?_
                        refine sk_get (v := .int (nI za)) (C := RX6) (T := TX6) (N := 8) hx hb hts inlX6 hown hK hP 0 rfl rfl 1 (by decide) w_1_57 rfl dX6_readWord_117 ?_
                        refine lv_icmp_ge (tgt := 140) hx hb dX6_readWord_120 (by decide) (fun c_19 => ?_) (fun c_19 => ?_)
                        · have c_19 : za ≤ xz + jj := (nle za (xz + jj) (by omega) (by omega)).mp c_19
                          refine lv_bipush (v := 32) hx hb dX6_readWord_140 (by decide) ?_
                          exact jn_15 32 _ _ _ (by rw [wl_getD, if_neg (by omega)]) (by omega) hP hD hS (lv_sub hl [0, 1, 2, 3] rfl)
                        · have c_19 : ¬ (za ≤ xz + jj) := fun h => c_19 ((nle za (xz + jj) (by omega) (by omega)).mpr h)
                          refine lv_aload_n hx hb dX6_readWord_123 rfl (lv_at hl 3 rfl) ?_
                          refine sk_get (v := .ref (q 0)) (C := RX6) (T := TX6) (N := 8) hx hb hts inlX6 hown hK hP 0 rfl rfl 0 (by decide) w_1_56 rfl dX6_readWord_124 ?_
                          refine sk_get (v := .ref (q 20)) (C := RX10) (T := TX10) (N := 2) hx hb hts inlX10 hown hK hP 1 rfl rfl 0 (by decide) w_1_40 rfl dX6_readWord_127 ?_
                          refine lv_aload_n hx hb dX6_readWord_130 rfl (lv_at hl 3 rfl) ?_
                          refine sk_get (v := .int (nI xz)) (C := RX6) (T := TX6) (N := 8) hx hb hts inlX6 hown hK hP 0 rfl rfl 5 (by decide) w_1_64 rfl dX6_readWord_131 ?_
                          refine lv_iload_n hx hb dX6_readWord_134 rfl (lv_at hl 0 rfl) ?_
                          refine lv_iadd hx hb dX6_readWord_135 ?_
                          refine sk_top (nI (xz + jj)) (nI_add xz jj) ?_
                          refine va_iald hx hb hK.1 hP 2 0 rfl rfl (vin (xz + jj) 1600 (by omega) (by omega)) dX6_readWord_136 ?_
                          refine sk_top (nI (tb (xz + jj))) (nrd tb (xz + jj) (by omega)) ?_
                          have hb_20 := htb (xz + jj)
                          refine lv_goto (tgt := 142) hx hb dX6_readWord_137 (by decide) ?_
                          exact jn_15 (tb (xz + jj)) _ _ _ (by rw [wl_getD, if_pos (by omega)]) (by omega) hP hD hS (lv_sub hl [0, 1, 2, 3] rfl)
                exact lp_9 (6 - 0 + 1) 0 1 _ _ _ (Nat.lt_succ_self _) (by omega) (Or.inr ⟨rfl, eqP_0 _ _⟩) hP hD hS (lv_sub hl [0, 1, 2, 3] rfl)
          exact lp_5 (168 - 0 + 1) 0 _ _ _ (Nat.lt_succ_self _) (by omega) (by omega) (noW_0 _) hP hD hS (lv_sub hl [0, 1] rfl)
        · have c_4 : ¬ (za - xz ≤ 6) := fun h => c_4 ((nle (za - xz) 6 (by omega) (by omega)).mpr h)
          exact sk_vret hx hb hr hlocks hK hP hD hS (⟨za, (-2), by omega, hend, (wt_long (by omega)).symm, rfl⟩) (Nat.le_of_ble_eq_true rfl) (Nat.le_of_ble_eq_true rfl) dX6_readWord_81
      · have c_3 : ¬ (tl ≤ za) := fun h => c_3 ((nle tl za (by omega) (by omega)).mpr h)
        refine lv_aload_n hx hb dX6_readWord_14 rfl (lv_at hl 0 rfl) ?_
        refine sk_get (v := .ref (q 0)) (C := RX6) (T := TX6) (N := 8) hx hb hts inlX6 hown hK hP 0 rfl rfl 0 (by decide) w_1_56 rfl dX6_readWord_15 ?_
        refine sk_get (v := .ref (q 20)) (C := RX10) (T := TX10) (N := 2) hx hb hts inlX10 hown hK hP 1 rfl rfl 0 (by decide) w_1_40 rfl dX6_readWord_18 ?_
        refine lv_aload_n hx hb dX6_readWord_21 rfl (lv_at hl 0 rfl) ?_
        refine sk_get (v := .int (nI za)) (C := RX6) (T := TX6) (N := 8) hx hb hts inlX6 hown hK hP 0 rfl rfl 1 (by decide) w_1_57 rfl dX6_readWord_22 ?_
        refine va_iald hx hb hK.1 hP 2 0 rfl rfl (vin za 1600 (by omega) (by omega)) dX6_readWord_25 ?_
        refine sk_top (nI (tb za)) (nrd tb za (by omega)) ?_
        have hb_21 := htb za
        refine lv_bipush (v := 97) hx hb dX6_readWord_26 (by decide) ?_
        refine lv_icmp_lt (tgt := 61) hx hb dX6_readWord_28 (by decide) (fun c_22 => ?_) (fun c_22 => ?_)
        · have c_22 : tb za < 97 := (nlt (tb za) 97 (by omega) (by omega)).mp c_22
          have hend : za = ext qL tb tl xz := ext_fin hze (by rw [qL_t]; omega)
          have hlen : (wl tb tl xz).length = za - xz := by rw [wl_len, ← hend]
          refine lv_aload_n hx hb dX6_readWord_61 rfl (lv_at hl 0 rfl) ?_
          refine lv_bipush (v := (-2)) hx hb dX6_readWord_62 (by decide) ?_
          refine sk_put (ws' := [(q 2, .inr (6, [.ref (q 0), .int (nI za), .int xv, .int (nI xo), .int (-2), .int (nI xz), .int xf, .int xp])), (q 0, .inr (10, [.ref (q 20), .int (nI tl)])), (q 20, .inl (cI, 1600, .inl (fun j => nI (tb j))))]) (C := RX6) (T := TX6) (N := 8) (v := .int (-2)) hx hb hts inlX6 tyX6 tyX6_ok nmX6 hown hK hP hD hS 0 rfl rfl 4 (by decide) w_1_60 rfl rfl rfl (Nat.le_of_ble_eq_true rfl) rfl dX6_readWord_64 (fun H locs hP hD hS => ?_)
          refine lv_aload_n hx hb dX6_readWord_67 rfl (lv_at hl 0 rfl) ?_
          refine sk_get (v := .int (nI za)) (C := RX6) (T := TX6) (N := 8) hx hb hts inlX6 hown hK hP 0 rfl rfl 1 (by decide) w_1_57 rfl dX6_readWord_68 ?_
          refine lv_aload_n hx hb dX6_readWord_71 rfl (lv_at hl 0 rfl) ?_
          refine sk_get (v := .int (nI xz)) (C := RX6) (T := TX6) (N := 8) hx hb hts inlX6 hown hK hP 0 rfl rfl 5 (by decide) w_1_64 rfl dX6_readWord_72 ?_
          refine lv_isub hx hb dX6_readWord_75 ?_
          refine sk_top (nI (za - xz)) (nsub za xz (by omega)) ?_
          refine lv_bipush (v := 6) hx hb dX6_readWord_76 (by decide) ?_
          refine lv_icmp_le (tgt := 82) hx hb dX6_readWord_78 (by decide) (fun c_23 => ?_) (fun c_23 => ?_)
          · have c_23 : za - xz ≤ 6 := (nle (za - xz) 6 (by omega) (by omega)).mp c_23
            refine lv_iconst (v := 0) hx hb dX6_readWord_82 (by decide) ?_
            refine lv_istore_n (lv' := [(1, .int 0), (0, .ref (q 2))]) hx hb dX6_readWord_83 rfl hl (by decide) rfl (fun ls hl => ?_)
            have lp_24 : ∀ (n_25 : Nat) (i : Nat) (H : Heap) (locs : List Loc) (ls : Array Slot), 168 - i < n_25 → (i ≤ 168) → (i % 6 = 0) → (noW (i / 6) (wl tb tl xz)) → va_P D vwCl [(q 2, .inr (6, [.ref (q 0), .int (nI za), .int xv, .int (nI xo), .int (-2), .int (nI xz), .int xf, .int xp])), (q 0, .inr (10, [.ref (q 20), .int (nI tl)])), (q 20, .inl (cI, 1600, .inl (fun j => nI (tb j))))] H → va_D A [(q 2, .inr (6, [.ref (q 0), .int (nI za), .int xv, .int (nI xo), .int (-2), .int (nI xz), .int xf, .int xp])), (q 0, .inr (10, [.ref (q 20), .int (nI tl)])), (q 20, .inl (cI, 1600, .inl (fun j => nI (tb j))))] → va_S A s.heap H locs → lv_has ls 5 [(1, .int (nI i)), (0, .ref (q 2))] → W p l e { frames := 4, cells := 0, slots := 0, locals := 85 } s m ([.ref (q 2)] : List Value).toArray below meth c H locs 0 0 (MQ below (skV D (skT cI cJ cC cZ cS) (fun (u : va_W) => ∃ (xa2 : Nat), ∃ (xt2 : Int32), xa2 ≤ 1600 ∧ xa2 = ext qL tb tl xz ∧ xt2 = wordTok (wl tb tl xz) ∧ u = [(q 2, .inr (6, [.ref (q 0), .int (nI xa2), .int xv, .int (nI xo), .int xt2, .int (nI xz), .int xf, .int xp])), (q 0, .inr (10, [.ref (q 20), .int (nI tl)])), (q 20, .inl (cI, 1600, .inl (fun j => nI (tb j))))]) A) ([.ref (q 2)] : List Value).toArray s 0 0 A) (F0 m 84 ls []) := by
              intro n_25
              induction n_25 with
              | zero => intro i H locs ls hm; exact absurd hm (Nat.not_lt_zero _)
              | succ n_25 ih_lp_24 =>
                intro i H locs ls hm hi h6 hno hP hD hS hl
                refine lv_iload_n hx hb dX6_readWord_84 rfl (lv_at hl 0 rfl) ?_
                refine lv_bipush (v := 6) hx hb dX6_readWord_85 (by decide) ?_
                refine lv_iadd hx hb dX6_readWord_87 ?_
                refine sk_top (nI (i + 6)) (nI_add i 6) ?_
                refine va_ldcS hx hb hown hZ.1 dX6_readWord_88 ?_
                refine sk_ViS (n := 0) (rest := [.int (nI (i + 6))]) (wr := [(q 2, .inr (6, [.ref (q 0), .int (nI za), .int xv, .int (nI xo), .int (-2), .int (nI xz), .int xf, .int xp])), (q 0, .inr (10, [.ref (q 20), .int (nI tl)])), (q 20, .inl (cI, 1600, .inl (fun j => nI (tb j))))]) ⟨hx, hb, hml, hown, hts⟩ hl.1 (c_str_length l D cI cJ cC cZ cS zk zv zf) w_2_234 w_2_235 w_2_236 w_1_16 w_2_237 hd_J0_length_8abf5_0 ⟨⟨(Nat.le_of_ble_eq_true rfl), (Nat.le_of_ble_eq_true rfl)⟩, (Nat.le_of_ble_eq_true rfl), (Nat.le_of_ble_eq_true rfl)⟩ hK hP hD hS hZ hA [] [0, 1, 2] rfl rfl (by decide +kernel) (by decide +kernel) (by decide +kernel) rfl rfl rfl rfl (Nat.le_of_ble_eq_true rfl) dX6_readWord_90 (fun r_26 u H locs hw hP hD hS => ?_)
                obtain ⟨rfl, rfl⟩ := hw
                refine o_re (ws' := [(q 2, .inr (6, [.ref (q 0), .int (nI za), .int xv, .int (nI xo), .int (-2), .int (nI xz), .int xf, .int xp])), (q 0, .inr (10, [.ref (q 20), .int (nI tl)])), (q 20, .inl (cI, 1600, .inl (fun j => nI (tb j))))]) hP hD rfl (fun hP hD => ?_)
                refine lv_icmp_gt (tgt := 192) hx hb dX6_readWord_93 (by decide) (fun c_27 => ?_) (fun c_27 => ?_)
                · have c_27 : 168 < i + 6 := (nlt 168 (i + 6) (by omega) (by omega)).mp c_27
                  exact sk_vret hx hb hr hlocks hK hP hD hS (⟨za, (-2), by omega, hend, (wt_none (show noW 28 _ by rw [show 28 = i / 6 by omega]; exact hno)).symm, rfl⟩) (Nat.le_of_ble_eq_true rfl) (Nat.le_of_ble_eq_true rfl) dX6_readWord_192
                · have c_27 : ¬ (168 < i + 6) := fun h => c_27 ((nlt 168 (i + 6) (by omega) (by omega)).mpr h)
                  refine lv_iconst (v := 1) hx hb dX6_readWord_96 (by decide) ?_
                  refine lv_istore_n (lv' := [(2, .int 1), (1, .int (nI i)), (0, .ref (q 2))]) hx hb dX6_readWord_97 rfl hl (by decide) rfl (fun ls hl => ?_)
                  refine lv_iconst (v := 0) hx hb dX6_readWord_98 (by decide) ?_
                  refine lv_istore_n (lv' := [(3, .int 0), (2, .int 1), (1, .int (nI i)), (0, .ref (q 2))]) hx hb dX6_readWord_99 rfl hl (by decide) rfl (fun ls hl => ?_)
                  have lp_28 : ∀ (n_29 : Nat) (jj : Nat) (al : Nat) (H : Heap) (locs : List Loc) (ls : Array Slot), 6 - jj < n_29 → (jj ≤ 6) → ((al = 0 ∧ ¬ eqP i (wl tb tl xz) jj) ∨ (al = 1 ∧ eqP i (wl tb tl xz) jj)) → va_P D vwCl [(q 2, .inr (6, [.ref (q 0), .int (nI za), .int xv, .int (nI xo), .int (-2), .int (nI xz), .int xf, .int xp])), (q 0, .inr (10, [.ref (q 20), .int (nI tl)])), (q 20, .inl (cI, 1600, .inl (fun j => nI (tb j))))] H → va_D A [(q 2, .inr (6, [.ref (q 0), .int (nI za), .int xv, .int (nI xo), .int (-2), .int (nI xz), .int xf, .int xp])), (q 0, .inr (10, [.ref (q 20), .int (nI tl)])), (q 20, .inl (cI, 1600, .inl (fun j => nI (tb j))))] → va_S A s.heap H locs → lv_has ls 5 [(3, .int (nI jj)), (2, .int (nI al)), (1, .int (nI i)), (0, .ref (q 2))] → W p l e { frames := 4, cells := 0, slots := 0, locals := 85 } s m ([.ref (q 2)] : List Value).toArray below meth c H locs 0 0 (MQ below (skV D (skT cI cJ cC cZ cS) (fun (u : va_W) => ∃ (xa2 : Nat), ∃ (xt2 : Int32), xa2 ≤ 1600 ∧ xa2 = ext qL tb tl xz ∧ xt2 = wordTok (wl tb tl xz) ∧ u = [(q 2, .inr (6, [.ref (q 0), .int (nI xa2), .int xv, .int (nI xo), .int xt2, .int (nI xz), .int xf, .int xp])), (q 0, .inr (10, [.ref (q 20), .int (nI tl)])), (q 20, .inl (cI, 1600, .inl (fun j => nI (tb j))))]) A) ([.ref (q 2)] : List Value).toArray s 0 0 A) (F0 m 100 ls []) := by
                    intro n_29
                    induction n_29 with
                    | zero => intro jj al H locs ls hm; exact absurd hm (Nat.not_lt_zero _)
                    | succ n_29 ih_lp_28 =>
                      intro jj al H locs ls hm hjj hal hP hD hS hl
                      refine lv_iload_n hx hb dX6_readWord_100 rfl (lv_at hl 0 rfl) ?_
                      refine lv_bipush (v := 6) hx hb dX6_readWord_101 (by decide) ?_
                      refine lv_icmp_ge (tgt := 169) hx hb dX6_readWord_103 (by decide) (fun c_30 => ?_) (fun c_30 => ?_)
                      · have c_30 : 6 ≤ jj := (nle 6 jj (by omega) (by omega)).mp c_30
                        refine lv_iload_n hx hb dX6_readWord_169 rfl (lv_at hl 1 rfl) ?_
                        refine lv_if_eq (tgt := 186) hx hb dX6_readWord_170 (by decide) (fun c_31 => ?_) (fun c_31 => ?_)
                        · have c_31 : al = 0 := (neq al 0 (by omega) (by omega)).mp c_31
                          refine lv_iinc (v := nI (i + 6)) (lv' := [(1, .int (nI (i + 6))), (3, .int (nI jj)), (2, .int (nI al)), (0, .ref (q 2))]) hx hb dX6_readWord_186 hl (k := 2) rfl (ninc i 6 (by decide)) (by decide) rfl (fun ls hl => ?_)
                          refine lv_goto (tgt := 84) hx hb dX6_readWord_189 (by decide) ?_
                          exact ih_lp_24 (i + 6) _ _ _ (by omega) (by omega) (by omega) (by rw [show (i + 6) / 6 = i / 6 + 1 by omega]; exact noW_s hno (eqP_no (by omega) h6 (by omega) (rr_0 hal (by omega)))) hP hD hS (lv_sub hl [0, 3] rfl)
                        · have c_31 : ¬ (al = 0) := fun h => c_31 ((neq al 0 (by omega) (by omega)).mpr h)
                          refine lv_aload_n hx hb dX6_readWord_173 rfl (lv_at hl 3 rfl) ?_
                          refine lv_sipush (v := 256) hx hb dX6_readWord_174 (by decide) ?_
                          refine lv_iload_n hx hb dX6_readWord_177 rfl (lv_at hl 2 rfl) ?_
                          refine lv_bipush (v := 6) hx hb dX6_readWord_178 (by decide) ?_
                          refine lv_idiv hx hb dX6_readWord_180 (by decide) ?_
                          refine sk_top (nI (i / 6)) (ndiv i 6 (by omega) (by omega) (by omega)) ?_
                          refine lv_iadd hx hb dX6_readWord_181 ?_
                          refine sk_top (nI (256 + (i / 6))) (nI_add 256 (i / 6)) ?_
                          refine sk_put (ws' := [(q 2, .inr (6, [.ref (q 0), .int (nI za), .int xv, .int (nI xo), .int (nI (256 + (i / 6))), .int (nI xz), .int xf, .int xp])), (q 0, .inr (10, [.ref (q 20), .int (nI tl)])), (q 20, .inl (cI, 1600, .inl (fun j => nI (tb j))))]) (C := RX6) (T := TX6) (N := 8) (v := .int (nI (256 + (i / 6)))) hx hb hts inlX6 tyX6 tyX6_ok nmX6 hown hK hP hD hS 0 rfl rfl 4 (by decide) w_1_60 rfl rfl rfl (Nat.le_of_ble_eq_true rfl) rfl dX6_readWord_182 (fun H locs hP hD hS => ?_)
                          exact sk_vret hx hb hr hlocks hK hP hD hS (⟨za, nI (256 + (i / 6)), by omega, hend, (wt_some (by omega) hno (eqP_cw (by omega) h6 wl_let (by omega) (by rw [show 6 = jj by omega]; exact (rr_1 hal (by omega))))).symm, rfl⟩) (Nat.le_of_ble_eq_true rfl) (Nat.le_of_ble_eq_true rfl) dX6_readWord_185
                      · have c_30 : ¬ (6 ≤ jj) := fun h => c_30 ((nle 6 jj (by omega) (by omega)).mpr h)
                        refine lv_iload_n hx hb dX6_readWord_106 rfl (lv_at hl 1 rfl) ?_
                        refine lv_if_eq (tgt := 169) hx hb dX6_readWord_107 (by decide) (fun c_32 => ?_) (fun c_32 => ?_)
                        · have c_32 : al = 0 := (neq al 0 (by omega) (by omega)).mp c_32
                          refine lv_iload_n hx hb dX6_readWord_169 rfl (lv_at hl 1 rfl) ?_
                          refine lv_if_eq (tgt := 186) hx hb dX6_readWord_170 (by decide) (fun c_33 => ?_) (fun c_33 => ?_)
                          · have c_33 : al = 0 := (neq al 0 (by omega) (by omega)).mp c_33
                            refine lv_iinc (v := nI (i + 6)) (lv' := [(1, .int (nI (i + 6))), (3, .int (nI jj)), (2, .int (nI al)), (0, .ref (q 2))]) hx hb dX6_readWord_186 hl (k := 2) rfl (ninc i 6 (by decide)) (by decide) rfl (fun ls hl => ?_)
                            refine lv_goto (tgt := 84) hx hb dX6_readWord_189 (by decide) ?_
                            exact ih_lp_24 (i + 6) _ _ _ (by omega) (by omega) (by omega) (by rw [show (i + 6) / 6 = i / 6 + 1 by omega]; exact noW_s hno (eqP_no (by omega) h6 (by omega) (rr_0 hal (by omega)))) hP hD hS (lv_sub hl [0, 3] rfl)
                          · have c_33 : ¬ (al = 0) := fun h => c_33 ((neq al 0 (by omega) (by omega)).mpr h)
                            refine lv_aload_n hx hb dX6_readWord_173 rfl (lv_at hl 3 rfl) ?_
                            refine lv_sipush (v := 256) hx hb dX6_readWord_174 (by decide) ?_
                            refine lv_iload_n hx hb dX6_readWord_177 rfl (lv_at hl 2 rfl) ?_
                            refine lv_bipush (v := 6) hx hb dX6_readWord_178 (by decide) ?_
                            refine lv_idiv hx hb dX6_readWord_180 (by decide) ?_
                            refine sk_top (nI (i / 6)) (ndiv i 6 (by omega) (by omega) (by omega)) ?_
                            refine lv_iadd hx hb dX6_readWord_181 ?_
                            refine sk_top (nI (256 + (i / 6))) (nI_add 256 (i / 6)) ?_
                            refine sk_put (ws' := [(q 2, .inr (6, [.ref (q 0), .int (nI za), .int xv, .int (nI xo), .int (nI (256 + (i / 6))), .int (nI xz), .int xf, .int xp])), (q 0, .inr (10, [.ref (q 20), .int (nI tl)])), (q 20, .inl (cI, 1600, .inl (fun j => nI (tb j))))]) (C := RX6) (T := TX6) (N := 8) (v := .int (nI (256 + (i / 6)))) hx hb hts inlX6 tyX6 tyX6_ok nmX6 hown hK hP hD hS 0 rfl rfl 4 (by decide) w_1_60 rfl rfl rfl (Nat.le_of_ble_eq_true rfl) rfl dX6_readWord_182 (fun H locs hP hD hS => ?_)
                            exact sk_vret hx hb hr hlocks hK hP hD hS (⟨za, nI (256 + (i / 6)), by omega, hend, (wt_some (by omega) hno (eqP_cw (by omega) h6 wl_let (by omega) (by rw [show 6 = jj by omega]; exact (rr_1 hal (by omega))))).symm, rfl⟩) (Nat.le_of_ble_eq_true rfl) (Nat.le_of_ble_eq_true rfl) dX6_readWord_185
                        · have c_32 : ¬ (al = 0) := fun h => c_32 ((neq al 0 (by omega) (by omega)).mpr h)
                          have jn_34 : ∀ (lt : Nat) (H : Heap) (locs : List Loc) (ls : Array Slot), ((wl tb tl xz).getD jj 32 = lt) → (lt ≤ 255) → va_P D vwCl [(q 2, .inr (6, [.ref (q 0), .int (nI za), .int xv, .int (nI xo), .int (-2), .int (nI xz), .int xf, .int xp])), (q 0, .inr (10, [.ref (q 20), .int (nI tl)])), (q 20, .inl (cI, 1600, .inl (fun j => nI (tb j))))] H → va_D A [(q 2, .inr (6, [.ref (q 0), .int (nI za), .int xv, .int (nI xo), .int (-2), .int (nI xz), .int xf, .int xp])), (q 0, .inr (10, [.ref (q 20), .int (nI tl)])), (q 20, .inl (cI, 1600, .inl (fun j => nI (tb j))))] → va_S A s.heap H locs → lv_has ls 5 [(3, .int (nI jj)), (2, .int (nI al)), (1, .int (nI i)), (0, .ref (q 2))] → W p l e { frames := 4, cells := 0, slots := 0, locals := 85 } s m ([.ref (q 2)] : List Value).toArray below meth c H locs 0 0 (MQ below (skV D (skT cI cJ cC cZ cS) (fun (u : va_W) => ∃ (xa2 : Nat), ∃ (xt2 : Int32), xa2 ≤ 1600 ∧ xa2 = ext qL tb tl xz ∧ xt2 = wordTok (wl tb tl xz) ∧ u = [(q 2, .inr (6, [.ref (q 0), .int (nI xa2), .int xv, .int (nI xo), .int xt2, .int (nI xz), .int xf, .int xp])), (q 0, .inr (10, [.ref (q 20), .int (nI tl)])), (q 20, .inl (cI, 1600, .inl (fun j => nI (tb j))))]) A) ([.ref (q 2)] : List Value).toArray s 0 0 A) (F0 m 142 ls [.int (nI lt)]) := by
                            intro lt H locs ls hlt hltb hP hD hS hl
                            refine lv_istore (lv' := [(4, .int (nI lt)), (3, .int (nI jj)), (2, .int (nI al)), (1, .int (nI i)), (0, .ref (q 2))]) hx hb dX6_readWord_142 hl (by decide) rfl (fun ls hl => ?_)
                            refine va_ldcS hx hb hown hZ.1 dX6_readWord_144 ?_
                            refine lv_iload_n hx hb dX6_readWord_146 rfl (lv_at hl 3 rfl) ?_
                            refine lv_iload_n hx hb dX6_readWord_147 rfl (lv_at hl 1 rfl) ?_
                            refine lv_iadd hx hb dX6_readWord_148 ?_
                            refine sk_top (nI (i + jj)) (nI_add i jj) ?_
                            refine sk_ViS (n := 1) (rest := []) (wr := [(q 2, .inr (6, [.ref (q 0), .int (nI za), .int xv, .int (nI xo), .int (-2), .int (nI xz), .int xf, .int xp])), (q 0, .inr (10, [.ref (q 20), .int (nI tl)])), (q 20, .inl (cI, 1600, .inl (fun j => nI (tb j))))]) ⟨hx, hb, hml, hown, hts⟩ hl.1 (c_str_charAt l D cI cJ cC cZ cS zk zv zf (i + jj) (by omega)) w_3_4 w_3_5 w_3_6 w_1_16 w_3_7 hd_J0_charAt_5068e_1 ⟨⟨(Nat.le_of_ble_eq_true rfl), (Nat.le_of_ble_eq_true rfl)⟩, (Nat.le_of_ble_eq_true rfl), (Nat.le_of_ble_eq_true rfl)⟩ hK hP hD hS hZ hA [] [0, 1, 2] rfl rfl (by decide +kernel) (by decide +kernel) (by decide +kernel) rfl rfl rfl rfl (Nat.le_of_ble_eq_true rfl) dX6_readWord_149 (fun r_35 u H locs hw hP hD hS => ?_)
                            obtain ⟨hv_36, rfl⟩ := hw
                            refine o_re (ws' := [(q 2, .inr (6, [.ref (q 0), .int (nI za), .int xv, .int (nI xo), .int (-2), .int (nI xz), .int xf, .int xp])), (q 0, .inr (10, [.ref (q 20), .int (nI tl)])), (q 20, .inl (cI, 1600, .inl (fun j => nI (tb j))))]) hP hD rfl (fun hP hD => ?_)
                            refine lv_iload hx hb dX6_readWord_152 (lv_at hl 0 rfl) ?_
                            refine lv_icmp_ne (tgt := 161) hx hb dX6_readWord_154 (by decide) (fun c_37 => ?_) (fun c_37 => ?_)
                            · skip
                              refine lv_iconst (v := 0) hx hb dX6_readWord_161 (by decide) ?_
                              refine lv_istore_n (lv' := [(2, .int 0), (4, .int (nI lt)), (3, .int (nI jj)), (1, .int (nI i)), (0, .ref (q 2))]) hx hb dX6_readWord_162 rfl hl (by decide) rfl (fun ls hl => ?_)
                              refine lv_iinc (v := nI (jj + 1)) (lv' := [(3, .int (nI (jj + 1))), (2, .int 0), (4, .int (nI lt)), (1, .int (nI i)), (0, .ref (q 2))]) hx hb dX6_readWord_163 hl (k := 2) rfl (ninc jj 1 (by decide)) (by decide) rfl (fun ls hl => ?_)
                              refine lv_goto (tgt := 100) hx hb dX6_readWord_166 (by decide) ?_
                              exact ih_lp_28 (jj + 1) 0 _ _ _ (by omega) (by omega) (Or.inl ⟨rfl, eqP_n (fun hq => c_37 (by rw [hv_36, hq, hlt]))⟩) hP hD hS (lv_sub hl [0, 1, 3, 4] rfl)
                            · skip
                              refine lv_iconst (v := 1) hx hb dX6_readWord_157 (by decide) ?_
                              refine lv_goto (tgt := 162) hx hb dX6_readWord_158 (by decide) ?_
                              refine lv_istore_n (lv' := [(2, .int 1), (4, .int (nI lt)), (3, .int (nI jj)), (1, .int (nI i)), (0, .ref (q 2))]) hx hb dX6_readWord_162 rfl hl (by decide) rfl (fun ls hl => ?_)
                              refine lv_iinc (v := nI (jj + 1)) (lv' := [(3, .int (nI (jj + 1))), (2, .int 1), (4, .int (nI lt)), (1, .int (nI i)), (0, .ref (q 2))]) hx hb dX6_readWord_163 hl (k := 2) rfl (ninc jj 1 (by decide)) (by decide) rfl (fun ls hl => ?_)
                              refine lv_goto (tgt := 100) hx hb dX6_readWord_166 (by decide) ?_
                              exact ih_lp_28 (jj + 1) 1 _ _ _ (by omega) (by omega) (Or.inr ⟨rfl, eqP_s (rr_1 hal (by omega)) (by rw [← hv_36, c_37, hlt])⟩) hP hD hS (lv_sub hl [0, 1, 3, 4] rfl)
                          refine lv_aload_n hx hb dX6_readWord_110 rfl (lv_at hl 3 rfl) ?_
                          refine sk_get (v := .int (nI xz)) (C := RX6) (T := TX6) (N := 8) hx hb hts inlX6 hown hK hP 0 rfl rfl 5 (by decide) w_1_64 rfl dX6_readWord_111 ?_
                          refine lv_iload_n hx hb dX6_readWord_114 rfl (lv_at hl 0 rfl) ?_
                          refine lv_iadd hx hb dX6_readWord_115 ?_
                          refine sk_top (nI (xz + jj)) (nI_add xz jj) ?_
                          refine lv_aload_n hx hb dX6_readWord_116 rfl (lv_at hl 3 rfl) ?_
                          refine sk_get (v := .int (nI za)) (C := RX6) (T := TX6) (N := 8) hx hb hts inlX6 hown hK hP 0 rfl rfl 1 (by decide) w_1_57 rfl dX6_readWord_117 ?_
                          refine lv_icmp_ge (tgt := 140) hx hb dX6_readWord_120 (by decide) (fun c_38 => ?_) (fun c_38 => ?_)
                          · have c_38 : za ≤ xz + jj := (nle za (xz + jj) (by omega) (by omega)).mp c_38
                            refine lv_bipush (v := 32) hx hb dX6_readWord_140 (by decide) ?_
                            exact jn_34 32 _ _ _ (by rw [wl_getD, if_neg (by omega)]) (by omega) hP hD hS (lv_sub hl [0, 1, 2, 3] rfl)
                          · have c_38 : ¬ (za ≤ xz + jj) := fun h => c_38 ((nle za (xz + jj) (by omega) (by omega)).mpr h)
                            refine lv_aload_n hx hb dX6_readWord_123 rfl (lv_at hl 3 rfl) ?_
                            refine sk_get (v := .ref (q 0)) (C := RX6) (T := TX6) (N := 8) hx hb hts inlX6 hown hK hP 0 rfl rfl 0 (by decide) w_1_56 rfl dX6_readWord_124 ?_
                            refine sk_get (v := .ref (q 20)) (C := RX10) (T := TX10) (N := 2) hx hb hts inlX10 hown hK hP 1 rfl rfl 0 (by decide) w_1_40 rfl dX6_readWord_127 ?_
                            refine lv_aload_n hx hb dX6_readWord_130 rfl (lv_at hl 3 rfl) ?_
                            refine sk_get (v := .int (nI xz)) (C := RX6) (T := TX6) (N := 8) hx hb hts inlX6 hown hK hP 0 rfl rfl 5 (by decide) w_1_64 rfl dX6_readWord_131 ?_
                            refine lv_iload_n hx hb dX6_readWord_134 rfl (lv_at hl 0 rfl) ?_
                            refine lv_iadd hx hb dX6_readWord_135 ?_
                            refine sk_top (nI (xz + jj)) (nI_add xz jj) ?_
                            refine va_iald hx hb hK.1 hP 2 0 rfl rfl (vin (xz + jj) 1600 (by omega) (by omega)) dX6_readWord_136 ?_
                            refine sk_top (nI (tb (xz + jj))) (nrd tb (xz + jj) (by omega)) ?_
                            have hb_39 := htb (xz + jj)
                            refine lv_goto (tgt := 142) hx hb dX6_readWord_137 (by decide) ?_
                            exact jn_34 (tb (xz + jj)) _ _ _ (by rw [wl_getD, if_pos (by omega)]) (by omega) hP hD hS (lv_sub hl [0, 1, 2, 3] rfl)
                  exact lp_28 (6 - 0 + 1) 0 1 _ _ _ (Nat.lt_succ_self _) (by omega) (Or.inr ⟨rfl, eqP_0 _ _⟩) hP hD hS (lv_sub hl [0, 1, 2, 3] rfl)
            exact lp_24 (168 - 0 + 1) 0 _ _ _ (Nat.lt_succ_self _) (by omega) (by omega) (noW_0 _) hP hD hS (lv_sub hl [0, 1] rfl)
          · have c_23 : ¬ (za - xz ≤ 6) := fun h => c_23 ((nle (za - xz) 6 (by omega) (by omega)).mpr h)
            exact sk_vret hx hb hr hlocks hK hP hD hS (⟨za, (-2), by omega, hend, (wt_long (by omega)).symm, rfl⟩) (Nat.le_of_ble_eq_true rfl) (Nat.le_of_ble_eq_true rfl) dX6_readWord_81
        · have c_22 : ¬ (tb za < 97) := fun h => c_22 ((nlt (tb za) 97 (by omega) (by omega)).mpr h)
          refine lv_aload_n hx hb dX6_readWord_31 rfl (lv_at hl 0 rfl) ?_
          refine sk_get (v := .ref (q 0)) (C := RX6) (T := TX6) (N := 8) hx hb hts inlX6 hown hK hP 0 rfl rfl 0 (by decide) w_1_56 rfl dX6_readWord_32 ?_
          refine sk_get (v := .ref (q 20)) (C := RX10) (T := TX10) (N := 2) hx hb hts inlX10 hown hK hP 1 rfl rfl 0 (by decide) w_1_40 rfl dX6_readWord_35 ?_
          refine lv_aload_n hx hb dX6_readWord_38 rfl (lv_at hl 0 rfl) ?_
          refine sk_get (v := .int (nI za)) (C := RX6) (T := TX6) (N := 8) hx hb hts inlX6 hown hK hP 0 rfl rfl 1 (by decide) w_1_57 rfl dX6_readWord_39 ?_
          refine va_iald hx hb hK.1 hP 2 0 rfl rfl (vin za 1600 (by omega) (by omega)) dX6_readWord_42 ?_
          refine sk_top (nI (tb za)) (nrd tb za (by omega)) ?_
          have hb_40 := htb za
          refine lv_bipush (v := 122) hx hb dX6_readWord_43 (by decide) ?_
          refine lv_icmp_gt (tgt := 61) hx hb dX6_readWord_45 (by decide) (fun c_41 => ?_) (fun c_41 => ?_)
          · have c_41 : 122 < tb za := (nlt 122 (tb za) (by omega) (by omega)).mp c_41
            have hend : za = ext qL tb tl xz := ext_fin hze (by rw [qL_t]; omega)
            have hlen : (wl tb tl xz).length = za - xz := by rw [wl_len, ← hend]
            refine lv_aload_n hx hb dX6_readWord_61 rfl (lv_at hl 0 rfl) ?_
            refine lv_bipush (v := (-2)) hx hb dX6_readWord_62 (by decide) ?_
            refine sk_put (ws' := [(q 2, .inr (6, [.ref (q 0), .int (nI za), .int xv, .int (nI xo), .int (-2), .int (nI xz), .int xf, .int xp])), (q 0, .inr (10, [.ref (q 20), .int (nI tl)])), (q 20, .inl (cI, 1600, .inl (fun j => nI (tb j))))]) (C := RX6) (T := TX6) (N := 8) (v := .int (-2)) hx hb hts inlX6 tyX6 tyX6_ok nmX6 hown hK hP hD hS 0 rfl rfl 4 (by decide) w_1_60 rfl rfl rfl (Nat.le_of_ble_eq_true rfl) rfl dX6_readWord_64 (fun H locs hP hD hS => ?_)
            refine lv_aload_n hx hb dX6_readWord_67 rfl (lv_at hl 0 rfl) ?_
            refine sk_get (v := .int (nI za)) (C := RX6) (T := TX6) (N := 8) hx hb hts inlX6 hown hK hP 0 rfl rfl 1 (by decide) w_1_57 rfl dX6_readWord_68 ?_
            refine lv_aload_n hx hb dX6_readWord_71 rfl (lv_at hl 0 rfl) ?_
            refine sk_get (v := .int (nI xz)) (C := RX6) (T := TX6) (N := 8) hx hb hts inlX6 hown hK hP 0 rfl rfl 5 (by decide) w_1_64 rfl dX6_readWord_72 ?_
            refine lv_isub hx hb dX6_readWord_75 ?_
            refine sk_top (nI (za - xz)) (nsub za xz (by omega)) ?_
            refine lv_bipush (v := 6) hx hb dX6_readWord_76 (by decide) ?_
            refine lv_icmp_le (tgt := 82) hx hb dX6_readWord_78 (by decide) (fun c_42 => ?_) (fun c_42 => ?_)
            · have c_42 : za - xz ≤ 6 := (nle (za - xz) 6 (by omega) (by omega)).mp c_42
              refine lv_iconst (v := 0) hx hb dX6_readWord_82 (by decide) ?_
              refine lv_istore_n (lv' := [(1, .int 0), (0, .ref (q 2))]) hx hb dX6_readWord_83 rfl hl (by decide) rfl (fun ls hl => ?_)
              have lp_43 : ∀ (n_44 : Nat) (i : Nat) (H : Heap) (locs : List Loc) (ls : Array Slot), 168 - i < n_44 → (i ≤ 168) → (i % 6 = 0) → (noW (i / 6) (wl tb tl xz)) → va_P D vwCl [(q 2, .inr (6, [.ref (q 0), .int (nI za), .int xv, .int (nI xo), .int (-2), .int (nI xz), .int xf, .int xp])), (q 0, .inr (10, [.ref (q 20), .int (nI tl)])), (q 20, .inl (cI, 1600, .inl (fun j => nI (tb j))))] H → va_D A [(q 2, .inr (6, [.ref (q 0), .int (nI za), .int xv, .int (nI xo), .int (-2), .int (nI xz), .int xf, .int xp])), (q 0, .inr (10, [.ref (q 20), .int (nI tl)])), (q 20, .inl (cI, 1600, .inl (fun j => nI (tb j))))] → va_S A s.heap H locs → lv_has ls 5 [(1, .int (nI i)), (0, .ref (q 2))] → W p l e { frames := 4, cells := 0, slots := 0, locals := 85 } s m ([.ref (q 2)] : List Value).toArray below meth c H locs 0 0 (MQ below (skV D (skT cI cJ cC cZ cS) (fun (u : va_W) => ∃ (xa2 : Nat), ∃ (xt2 : Int32), xa2 ≤ 1600 ∧ xa2 = ext qL tb tl xz ∧ xt2 = wordTok (wl tb tl xz) ∧ u = [(q 2, .inr (6, [.ref (q 0), .int (nI xa2), .int xv, .int (nI xo), .int xt2, .int (nI xz), .int xf, .int xp])), (q 0, .inr (10, [.ref (q 20), .int (nI tl)])), (q 20, .inl (cI, 1600, .inl (fun j => nI (tb j))))]) A) ([.ref (q 2)] : List Value).toArray s 0 0 A) (F0 m 84 ls []) := by
                intro n_44
                induction n_44 with
                | zero => intro i H locs ls hm; exact absurd hm (Nat.not_lt_zero _)
                | succ n_44 ih_lp_43 =>
                  intro i H locs ls hm hi h6 hno hP hD hS hl
                  refine lv_iload_n hx hb dX6_readWord_84 rfl (lv_at hl 0 rfl) ?_
                  refine lv_bipush (v := 6) hx hb dX6_readWord_85 (by decide) ?_
                  refine lv_iadd hx hb dX6_readWord_87 ?_
                  refine sk_top (nI (i + 6)) (nI_add i 6) ?_
                  refine va_ldcS hx hb hown hZ.1 dX6_readWord_88 ?_
                  refine sk_ViS (n := 0) (rest := [.int (nI (i + 6))]) (wr := [(q 2, .inr (6, [.ref (q 0), .int (nI za), .int xv, .int (nI xo), .int (-2), .int (nI xz), .int xf, .int xp])), (q 0, .inr (10, [.ref (q 20), .int (nI tl)])), (q 20, .inl (cI, 1600, .inl (fun j => nI (tb j))))]) ⟨hx, hb, hml, hown, hts⟩ hl.1 (c_str_length l D cI cJ cC cZ cS zk zv zf) w_2_234 w_2_235 w_2_236 w_1_16 w_2_237 hd_J0_length_8abf5_0 ⟨⟨(Nat.le_of_ble_eq_true rfl), (Nat.le_of_ble_eq_true rfl)⟩, (Nat.le_of_ble_eq_true rfl), (Nat.le_of_ble_eq_true rfl)⟩ hK hP hD hS hZ hA [] [0, 1, 2] rfl rfl (by decide +kernel) (by decide +kernel) (by decide +kernel) rfl rfl rfl rfl (Nat.le_of_ble_eq_true rfl) dX6_readWord_90 (fun r_45 u H locs hw hP hD hS => ?_)
                  obtain ⟨rfl, rfl⟩ := hw
                  refine o_re (ws' := [(q 2, .inr (6, [.ref (q 0), .int (nI za), .int xv, .int (nI xo), .int (-2), .int (nI xz), .int xf, .int xp])), (q 0, .inr (10, [.ref (q 20), .int (nI tl)])), (q 20, .inl (cI, 1600, .inl (fun j => nI (tb j))))]) hP hD rfl (fun hP hD => ?_)
                  refine lv_icmp_gt (tgt := 192) hx hb dX6_readWord_93 (by decide) (fun c_46 => ?_) (fun c_46 => ?_)
                  · have c_46 : 168 < i + 6 := (nlt 168 (i + 6) (by omega) (by omega)).mp c_46
                    exact sk_vret hx hb hr hlocks hK hP hD hS (⟨za, (-2), by omega, hend, (wt_none (show noW 28 _ by rw [show 28 = i / 6 by omega]; exact hno)).symm, rfl⟩) (Nat.le_of_ble_eq_true rfl) (Nat.le_of_ble_eq_true rfl) dX6_readWord_192
                  · have c_46 : ¬ (168 < i + 6) := fun h => c_46 ((nlt 168 (i + 6) (by omega) (by omega)).mpr h)
                    refine lv_iconst (v := 1) hx hb dX6_readWord_96 (by decide) ?_
                    refine lv_istore_n (lv' := [(2, .int 1), (1, .int (nI i)), (0, .ref (q 2))]) hx hb dX6_readWord_97 rfl hl (by decide) rfl (fun ls hl => ?_)
                    refine lv_iconst (v := 0) hx hb dX6_readWord_98 (by decide) ?_
                    refine lv_istore_n (lv' := [(3, .int 0), (2, .int 1), (1, .int (nI i)), (0, .ref (q 2))]) hx hb dX6_readWord_99 rfl hl (by decide) rfl (fun ls hl => ?_)
                    have lp_47 : ∀ (n_48 : Nat) (jj : Nat) (al : Nat) (H : Heap) (locs : List Loc) (ls : Array Slot), 6 - jj < n_48 → (jj ≤ 6) → ((al = 0 ∧ ¬ eqP i (wl tb tl xz) jj) ∨ (al = 1 ∧ eqP i (wl tb tl xz) jj)) → va_P D vwCl [(q 2, .inr (6, [.ref (q 0), .int (nI za), .int xv, .int (nI xo), .int (-2), .int (nI xz), .int xf, .int xp])), (q 0, .inr (10, [.ref (q 20), .int (nI tl)])), (q 20, .inl (cI, 1600, .inl (fun j => nI (tb j))))] H → va_D A [(q 2, .inr (6, [.ref (q 0), .int (nI za), .int xv, .int (nI xo), .int (-2), .int (nI xz), .int xf, .int xp])), (q 0, .inr (10, [.ref (q 20), .int (nI tl)])), (q 20, .inl (cI, 1600, .inl (fun j => nI (tb j))))] → va_S A s.heap H locs → lv_has ls 5 [(3, .int (nI jj)), (2, .int (nI al)), (1, .int (nI i)), (0, .ref (q 2))] → W p l e { frames := 4, cells := 0, slots := 0, locals := 85 } s m ([.ref (q 2)] : List Value).toArray below meth c H locs 0 0 (MQ below (skV D (skT cI cJ cC cZ cS) (fun (u : va_W) => ∃ (xa2 : Nat), ∃ (xt2 : Int32), xa2 ≤ 1600 ∧ xa2 = ext qL tb tl xz ∧ xt2 = wordTok (wl tb tl xz) ∧ u = [(q 2, .inr (6, [.ref (q 0), .int (nI xa2), .int xv, .int (nI xo), .int xt2, .int (nI xz), .int xf, .int xp])), (q 0, .inr (10, [.ref (q 20), .int (nI tl)])), (q 20, .inl (cI, 1600, .inl (fun j => nI (tb j))))]) A) ([.ref (q 2)] : List Value).toArray s 0 0 A) (F0 m 100 ls []) := by
                      intro n_48
                      induction n_48 with
                      | zero => intro jj al H locs ls hm; exact absurd hm (Nat.not_lt_zero _)
                      | succ n_48 ih_lp_47 =>
                        intro jj al H locs ls hm hjj hal hP hD hS hl
                        refine lv_iload_n hx hb dX6_readWord_100 rfl (lv_at hl 0 rfl) ?_
                        refine lv_bipush (v := 6) hx hb dX6_readWord_101 (by decide) ?_
                        refine lv_icmp_ge (tgt := 169) hx hb dX6_readWord_103 (by decide) (fun c_49 => ?_) (fun c_49 => ?_)
                        · have c_49 : 6 ≤ jj := (nle 6 jj (by omega) (by omega)).mp c_49
                          refine lv_iload_n hx hb dX6_readWord_169 rfl (lv_at hl 1 rfl) ?_
                          refine lv_if_eq (tgt := 186) hx hb dX6_readWord_170 (by decide) (fun c_50 => ?_) (fun c_50 => ?_)
                          · have c_50 : al = 0 := (neq al 0 (by omega) (by omega)).mp c_50
                            refine lv_iinc (v := nI (i + 6)) (lv' := [(1, .int (nI (i + 6))), (3, .int (nI jj)), (2, .int (nI al)), (0, .ref (q 2))]) hx hb dX6_readWord_186 hl (k := 2) rfl (ninc i 6 (by decide)) (by decide) rfl (fun ls hl => ?_)
                            refine lv_goto (tgt := 84) hx hb dX6_readWord_189 (by decide) ?_
                            exact ih_lp_43 (i + 6) _ _ _ (by omega) (by omega) (by omega) (by rw [show (i + 6) / 6 = i / 6 + 1 by omega]; exact noW_s hno (eqP_no (by omega) h6 (by omega) (rr_0 hal (by omega)))) hP hD hS (lv_sub hl [0, 3] rfl)
                          · have c_50 : ¬ (al = 0) := fun h => c_50 ((neq al 0 (by omega) (by omega)).mpr h)
                            refine lv_aload_n hx hb dX6_readWord_173 rfl (lv_at hl 3 rfl) ?_
                            refine lv_sipush (v := 256) hx hb dX6_readWord_174 (by decide) ?_
                            refine lv_iload_n hx hb dX6_readWord_177 rfl (lv_at hl 2 rfl) ?_
                            refine lv_bipush (v := 6) hx hb dX6_readWord_178 (by decide) ?_
                            refine lv_idiv hx hb dX6_readWord_180 (by decide) ?_
                            refine sk_top (nI (i / 6)) (ndiv i 6 (by omega) (by omega) (by omega)) ?_
                            refine lv_iadd hx hb dX6_readWord_181 ?_
                            refine sk_top (nI (256 + (i / 6))) (nI_add 256 (i / 6)) ?_
                            refine sk_put (ws' := [(q 2, .inr (6, [.ref (q 0), .int (nI za), .int xv, .int (nI xo), .int (nI (256 + (i / 6))), .int (nI xz), .int xf, .int xp])), (q 0, .inr (10, [.ref (q 20), .int (nI tl)])), (q 20, .inl (cI, 1600, .inl (fun j => nI (tb j))))]) (C := RX6) (T := TX6) (N := 8) (v := .int (nI (256 + (i / 6)))) hx hb hts inlX6 tyX6 tyX6_ok nmX6 hown hK hP hD hS 0 rfl rfl 4 (by decide) w_1_60 rfl rfl rfl (Nat.le_of_ble_eq_true rfl) rfl dX6_readWord_182 (fun H locs hP hD hS => ?_)
                            exact sk_vret hx hb hr hlocks hK hP hD hS (⟨za, nI (256 + (i / 6)), by omega, hend, (wt_some (by omega) hno (eqP_cw (by omega) h6 wl_let (by omega) (by rw [show 6 = jj by omega]; exact (rr_1 hal (by omega))))).symm, rfl⟩) (Nat.le_of_ble_eq_true rfl) (Nat.le_of_ble_eq_true rfl) dX6_readWord_185
                        · have c_49 : ¬ (6 ≤ jj) := fun h => c_49 ((nle 6 jj (by omega) (by omega)).mpr h)
                          refine lv_iload_n hx hb dX6_readWord_106 rfl (lv_at hl 1 rfl) ?_
                          refine lv_if_eq (tgt := 169) hx hb dX6_readWord_107 (by decide) (fun c_51 => ?_) (fun c_51 => ?_)
                          · have c_51 : al = 0 := (neq al 0 (by omega) (by omega)).mp c_51
                            refine lv_iload_n hx hb dX6_readWord_169 rfl (lv_at hl 1 rfl) ?_
                            refine lv_if_eq (tgt := 186) hx hb dX6_readWord_170 (by decide) (fun c_52 => ?_) (fun c_52 => ?_)
                            · have c_52 : al = 0 := (neq al 0 (by omega) (by omega)).mp c_52
                              refine lv_iinc (v := nI (i + 6)) (lv' := [(1, .int (nI (i + 6))), (3, .int (nI jj)), (2, .int (nI al)), (0, .ref (q 2))]) hx hb dX6_readWord_186 hl (k := 2) rfl (ninc i 6 (by decide)) (by decide) rfl (fun ls hl => ?_)
                              refine lv_goto (tgt := 84) hx hb dX6_readWord_189 (by decide) ?_
                              exact ih_lp_43 (i + 6) _ _ _ (by omega) (by omega) (by omega) (by rw [show (i + 6) / 6 = i / 6 + 1 by omega]; exact noW_s hno (eqP_no (by omega) h6 (by omega) (rr_0 hal (by omega)))) hP hD hS (lv_sub hl [0, 3] rfl)
                            · have c_52 : ¬ (al = 0) := fun h => c_52 ((neq al 0 (by omega) (by omega)).mpr h)
                              refine lv_aload_n hx hb dX6_readWord_173 rfl (lv_at hl 3 rfl) ?_
                              refine lv_sipush (v := 256) hx hb dX6_readWord_174 (by decide) ?_
                              refine lv_iload_n hx hb dX6_readWord_177 rfl (lv_at hl 2 rfl) ?_
                              refine lv_bipush (v := 6) hx hb dX6_readWord_178 (by decide) ?_
                              refine lv_idiv hx hb dX6_readWord_180 (by decide) ?_
                              refine sk_top (nI (i / 6)) (ndiv i 6 (by omega) (by omega) (by omega)) ?_
                              refine lv_iadd hx hb dX6_readWord_181 ?_
                              refine sk_top (nI (256 + (i / 6))) (nI_add 256 (i / 6)) ?_
                              refine sk_put (ws' := [(q 2, .inr (6, [.ref (q 0), .int (nI za), .int xv, .int (nI xo), .int (nI (256 + (i / 6))), .int (nI xz), .int xf, .int xp])), (q 0, .inr (10, [.ref (q 20), .int (nI tl)])), (q 20, .inl (cI, 1600, .inl (fun j => nI (tb j))))]) (C := RX6) (T := TX6) (N := 8) (v := .int (nI (256 + (i / 6)))) hx hb hts inlX6 tyX6 tyX6_ok nmX6 hown hK hP hD hS 0 rfl rfl 4 (by decide) w_1_60 rfl rfl rfl (Nat.le_of_ble_eq_true rfl) rfl dX6_readWord_182 (fun H locs hP hD hS => ?_)
                              exact sk_vret hx hb hr hlocks hK hP hD hS (⟨za, nI (256 + (i / 6)), by omega, hend, (wt_some (by omega) hno (eqP_cw (by omega) h6 wl_let (by omega) (by rw [show 6 = jj by omega]; exact (rr_1 hal (by omega))))).symm, rfl⟩) (Nat.le_of_ble_eq_true rfl) (Nat.le_of_ble_eq_true rfl) dX6_readWord_185
                          · have c_51 : ¬ (al = 0) := fun h => c_51 ((neq al 0 (by omega) (by omega)).mpr h)
                            have jn_53 : ∀ (lt : Nat) (H : Heap) (locs : List Loc) (ls : Array Slot), ((wl tb tl xz).getD jj 32 = lt) → (lt ≤ 255) → va_P D vwCl [(q 2, .inr (6, [.ref (q 0), .int (nI za), .int xv, .int (nI xo), .int (-2), .int (nI xz), .int xf, .int xp])), (q 0, .inr (10, [.ref (q 20), .int (nI tl)])), (q 20, .inl (cI, 1600, .inl (fun j => nI (tb j))))] H → va_D A [(q 2, .inr (6, [.ref (q 0), .int (nI za), .int xv, .int (nI xo), .int (-2), .int (nI xz), .int xf, .int xp])), (q 0, .inr (10, [.ref (q 20), .int (nI tl)])), (q 20, .inl (cI, 1600, .inl (fun j => nI (tb j))))] → va_S A s.heap H locs → lv_has ls 5 [(3, .int (nI jj)), (2, .int (nI al)), (1, .int (nI i)), (0, .ref (q 2))] → W p l e { frames := 4, cells := 0, slots := 0, locals := 85 } s m ([.ref (q 2)] : List Value).toArray below meth c H locs 0 0 (MQ below (skV D (skT cI cJ cC cZ cS) (fun (u : va_W) => ∃ (xa2 : Nat), ∃ (xt2 : Int32), xa2 ≤ 1600 ∧ xa2 = ext qL tb tl xz ∧ xt2 = wordTok (wl tb tl xz) ∧ u = [(q 2, .inr (6, [.ref (q 0), .int (nI xa2), .int xv, .int (nI xo), .int xt2, .int (nI xz), .int xf, .int xp])), (q 0, .inr (10, [.ref (q 20), .int (nI tl)])), (q 20, .inl (cI, 1600, .inl (fun j => nI (tb j))))]) A) ([.ref (q 2)] : List Value).toArray s 0 0 A) (F0 m 142 ls [.int (nI lt)]) := by
                              intro lt H locs ls hlt hltb hP hD hS hl
                              refine lv_istore (lv' := [(4, .int (nI lt)), (3, .int (nI jj)), (2, .int (nI al)), (1, .int (nI i)), (0, .ref (q 2))]) hx hb dX6_readWord_142 hl (by decide) rfl (fun ls hl => ?_)
                              refine va_ldcS hx hb hown hZ.1 dX6_readWord_144 ?_
                              refine lv_iload_n hx hb dX6_readWord_146 rfl (lv_at hl 3 rfl) ?_
                              refine lv_iload_n hx hb dX6_readWord_147 rfl (lv_at hl 1 rfl) ?_
                              refine lv_iadd hx hb dX6_readWord_148 ?_
                              refine sk_top (nI (i + jj)) (nI_add i jj) ?_
                              refine sk_ViS (n := 1) (rest := []) (wr := [(q 2, .inr (6, [.ref (q 0), .int (nI za), .int xv, .int (nI xo), .int (-2), .int (nI xz), .int xf, .int xp])), (q 0, .inr (10, [.ref (q 20), .int (nI tl)])), (q 20, .inl (cI, 1600, .inl (fun j => nI (tb j))))]) ⟨hx, hb, hml, hown, hts⟩ hl.1 (c_str_charAt l D cI cJ cC cZ cS zk zv zf (i + jj) (by omega)) w_3_4 w_3_5 w_3_6 w_1_16 w_3_7 hd_J0_charAt_5068e_1 ⟨⟨(Nat.le_of_ble_eq_true rfl), (Nat.le_of_ble_eq_true rfl)⟩, (Nat.le_of_ble_eq_true rfl), (Nat.le_of_ble_eq_true rfl)⟩ hK hP hD hS hZ hA [] [0, 1, 2] rfl rfl (by decide +kernel) (by decide +kernel) (by decide +kernel) rfl rfl rfl rfl (Nat.le_of_ble_eq_true rfl) dX6_readWord_149 (fun r_54 u H locs hw hP hD hS => ?_)
                              obtain ⟨hv_55, rfl⟩ := hw
                              refine o_re (ws' := [(q 2, .inr (6, [.ref (q 0), .int (nI za), .int xv, .int (nI xo), .int (-2), .int (nI xz), .int xf, .int xp])), (q 0, .inr (10, [.ref (q 20), .int (nI tl)])), (q 20, .inl (cI, 1600, .inl (fun j => nI (tb j))))]) hP hD rfl (fun hP hD => ?_)
                              refine lv_iload hx hb dX6_readWord_152 (lv_at hl 0 rfl) ?_
                              refine lv_icmp_ne (tgt := 161) hx hb dX6_readWord_154 (by decide) (fun c_56 => ?_) (fun c_56 => ?_)
                              · skip
                                refine lv_iconst (v := 0) hx hb dX6_readWord_161 (by decide) ?_
                                refine lv_istore_n (lv' := [(2, .int 0), (4, .int (nI lt)), (3, .int (nI jj)), (1, .int (nI i)), (0, .ref (q 2))]) hx hb dX6_readWord_162 rfl hl (by decide) rfl (fun ls hl => ?_)
                                refine lv_iinc (v := nI (jj + 1)) (lv' := [(3, .int (nI (jj + 1))), (2, .int 0), (4, .int (nI lt)), (1, .int (nI i)), (0, .ref (q 2))]) hx hb dX6_readWord_163 hl (k := 2) rfl (ninc jj 1 (by decide)) (by decide) rfl (fun ls hl => ?_)
                                refine lv_goto (tgt := 100) hx hb dX6_readWord_166 (by decide) ?_
                                exact ih_lp_47 (jj + 1) 0 _ _ _ (by omega) (by omega) (Or.inl ⟨rfl, eqP_n (fun hq => c_56 (by rw [hv_55, hq, hlt]))⟩) hP hD hS (lv_sub hl [0, 1, 3, 4] rfl)
                              · skip
                                refine lv_iconst (v := 1) hx hb dX6_readWord_157 (by decide) ?_
                                refine lv_goto (tgt := 162) hx hb dX6_readWord_158 (by decide) ?_
                                refine lv_istore_n (lv' := [(2, .int 1), (4, .int (nI lt)), (3, .int (nI jj)), (1, .int (nI i)), (0, .ref (q 2))]) hx hb dX6_readWord_162 rfl hl (by decide) rfl (fun ls hl => ?_)
                                refine lv_iinc (v := nI (jj + 1)) (lv' := [(3, .int (nI (jj + 1))), (2, .int 1), (4, .int (nI lt)), (1, .int (nI i)), (0, .ref (q 2))]) hx hb dX6_readWord_163 hl (k := 2) rfl (ninc jj 1 (by decide)) (by decide) rfl (fun ls hl => ?_)
                                refine lv_goto (tgt := 100) hx hb dX6_readWord_166 (by decide) ?_
                                exact ih_lp_47 (jj + 1) 1 _ _ _ (by omega) (by omega) (Or.inr ⟨rfl, eqP_s (rr_1 hal (by omega)) (by rw [← hv_55, c_56, hlt])⟩) hP hD hS (lv_sub hl [0, 1, 3, 4] rfl)
                            refine lv_aload_n hx hb dX6_readWord_110 rfl (lv_at hl 3 rfl) ?_
                            refine sk_get (v := .int (nI xz)) (C := RX6) (T := TX6) (N := 8) hx hb hts inlX6 hown hK hP 0 rfl rfl 5 (by decide) w_1_64 rfl dX6_readWord_111 ?_
                            refine lv_iload_n hx hb dX6_readWord_114 rfl (lv_at hl 0 rfl) ?_
                            refine lv_iadd hx hb dX6_readWord_115 ?_
                            refine sk_top (nI (xz + jj)) (nI_add xz jj) ?_
                            refine lv_aload_n hx hb dX6_readWord_116 rfl (lv_at hl 3 rfl) ?_
                            refine sk_get (v := .int (nI za)) (C := RX6) (T := TX6) (N := 8) hx hb hts inlX6 hown hK hP 0 rfl rfl 1 (by decide) w_1_57 rfl dX6_readWord_117 ?_
                            refine lv_icmp_ge (tgt := 140) hx hb dX6_readWord_120 (by decide) (fun c_57 => ?_) (fun c_57 => ?_)
                            · have c_57 : za ≤ xz + jj := (nle za (xz + jj) (by omega) (by omega)).mp c_57
                              refine lv_bipush (v := 32) hx hb dX6_readWord_140 (by decide) ?_
                              exact jn_53 32 _ _ _ (by rw [wl_getD, if_neg (by omega)]) (by omega) hP hD hS (lv_sub hl [0, 1, 2, 3] rfl)
                            · have c_57 : ¬ (za ≤ xz + jj) := fun h => c_57 ((nle za (xz + jj) (by omega) (by omega)).mpr h)
                              refine lv_aload_n hx hb dX6_readWord_123 rfl (lv_at hl 3 rfl) ?_
                              refine sk_get (v := .ref (q 0)) (C := RX6) (T := TX6) (N := 8) hx hb hts inlX6 hown hK hP 0 rfl rfl 0 (by decide) w_1_56 rfl dX6_readWord_124 ?_
                              refine sk_get (v := .ref (q 20)) (C := RX10) (T := TX10) (N := 2) hx hb hts inlX10 hown hK hP 1 rfl rfl 0 (by decide) w_1_40 rfl dX6_readWord_127 ?_
                              refine lv_aload_n hx hb dX6_readWord_130 rfl (lv_at hl 3 rfl) ?_
                              refine sk_get (v := .int (nI xz)) (C := RX6) (T := TX6) (N := 8) hx hb hts inlX6 hown hK hP 0 rfl rfl 5 (by decide) w_1_64 rfl dX6_readWord_131 ?_
                              refine lv_iload_n hx hb dX6_readWord_134 rfl (lv_at hl 0 rfl) ?_
                              refine lv_iadd hx hb dX6_readWord_135 ?_
                              refine sk_top (nI (xz + jj)) (nI_add xz jj) ?_
                              refine va_iald hx hb hK.1 hP 2 0 rfl rfl (vin (xz + jj) 1600 (by omega) (by omega)) dX6_readWord_136 ?_
                              refine sk_top (nI (tb (xz + jj))) (nrd tb (xz + jj) (by omega)) ?_
                              have hb_58 := htb (xz + jj)
                              refine lv_goto (tgt := 142) hx hb dX6_readWord_137 (by decide) ?_
                              exact jn_53 (tb (xz + jj)) _ _ _ (by rw [wl_getD, if_pos (by omega)]) (by omega) hP hD hS (lv_sub hl [0, 1, 2, 3] rfl)
                    exact lp_47 (6 - 0 + 1) 0 1 _ _ _ (Nat.lt_succ_self _) (by omega) (Or.inr ⟨rfl, eqP_0 _ _⟩) hP hD hS (lv_sub hl [0, 1, 2, 3] rfl)
              exact lp_43 (168 - 0 + 1) 0 _ _ _ (Nat.lt_succ_self _) (by omega) (by omega) (noW_0 _) hP hD hS (lv_sub hl [0, 1] rfl)
            · have c_42 : ¬ (za - xz ≤ 6) := fun h => c_42 ((nle (za - xz) 6 (by omega) (by omega)).mpr h)
              exact sk_vret hx hb hr hlocks hK hP hD hS (⟨za, (-2), by omega, hend, (wt_long (by omega)).symm, rfl⟩) (Nat.le_of_ble_eq_true rfl) (Nat.le_of_ble_eq_true rfl) dX6_readWord_81
          · have c_41 : ¬ (122 < tb za) := fun h => c_41 ((nlt 122 (tb za) (by omega) (by omega)).mpr h)
            refine lv_aload_n hx hb dX6_readWord_48 rfl (lv_at hl 0 rfl) ?_
            refine lv_dup hx hb dX6_readWord_49 rfl ?_
            refine sk_get (v := .int (nI za)) (C := RX6) (T := TX6) (N := 8) hx hb hts inlX6 hown hK hP 0 rfl rfl 1 (by decide) w_1_57 rfl dX6_readWord_50 ?_
            refine lv_iconst (v := 1) hx hb dX6_readWord_53 (by decide) ?_
            refine lv_iadd hx hb dX6_readWord_54 ?_
            refine sk_top (nI (za + 1)) (nI_add za 1) ?_
            refine sk_put (ws' := [(q 2, .inr (6, [.ref (q 0), .int (nI (za + 1)), .int xv, .int (nI xo), .int xt, .int (nI xz), .int xf, .int xp])), (q 0, .inr (10, [.ref (q 20), .int (nI tl)])), (q 20, .inl (cI, 1600, .inl (fun j => nI (tb j))))]) (C := RX6) (T := TX6) (N := 8) (v := .int (nI (za + 1))) hx hb hts inlX6 tyX6 tyX6_ok nmX6 hown hK hP hD hS 0 rfl rfl 1 (by decide) w_1_57 rfl rfl rfl (Nat.le_of_ble_eq_true rfl) rfl dX6_readWord_55 (fun H locs hP hD hS => ?_)
            refine lv_goto (tgt := 0) hx hb dX6_readWord_58 (by decide) ?_
            exact ih_lp_1 (za + 1) _ _ _ (by omega) (by omega) (by omega) (ext_nxt hze (by omega) (qL_t.mpr (by omega))) hP hD hS (lv_sub hl [0] rfl)
  exact lp_1 (tl - xa + 1) xa _ _ _ (Nat.lt_succ_self _) (by omega) (by omega) (by rw [hax]) hP hD hS (lv_sub hl [0] rfl)
