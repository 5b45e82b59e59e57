set_option maxHeartbeats 4000000 in
set_option maxRecDepth 100000 in
theorem c_erd_step (l : Launch) (D : va_G) (cI cJ cC cZ cS : ClassId) (zk zv : Nat) (zf : Value) (q : Nat → Nat) (xa : Nat) (xv : Int32) (xo : Nat) (xt : Int32) (xz : Nat) (xf : Int32) (xp : Int32) (tl : Nat) (tb : Nat → Nat) (bg : Except Err Cur) (hxa : xa ≤ 1600) (hxz : xz ≤ 1600) (htl : tl ≤ 1600) (htb : ∀ j, tb j ≤ 255) (hO : stO tl bg xa xt xf xp) : skMZ zk zv zf l yX6_step cX6_step 3 none 5 109 0 0 D (skT cI cJ cC cZ cS) [.ref (q 2)] [(q 2, .inr (6, [.ref (q 0), .int (nI xa), .int xv, .int (nI xo), .int xt, .int (nI xz), .int xf, .int xp])), (q 0, .inr (10, [.ref (q 20), .int (nI tl)])), (q 20, .inl (cI, 1600, .inl (fun j => nI (tb j))))] (skV D (skT cI cJ cC cZ cS) (fun (u : va_W) => ∃ (xa2 : Nat), ∃ (xv2 : Int32), ∃ (xt2 : Int32), ∃ (xz2 : Nat), xa2 ≤ 1600 ∧ xz2 ≤ 1600 ∧ rdO tb tl (bindR bg (stF tb tl)) xa2 xv2 xt2 xz2 xf xp ∧ u = [(q 2, .inr (6, [.ref (q 0), .int (nI xa2), .int xv2, .int (nI xo), .int xt2, .int (nI xz2), .int xf, .int xp])), (q 0, .inr (10, [.ref (q 20), .int (nI tl)])), (q 20, .inl (cI, 1600, .inl (fun j => nI (tb j))))])) := by
  refine skMZ_of pf_X6_step (Nat.le_of_ble_eq_true rfl) ?_
  intro p e s m below meth c A ls E hP hD hZ hl
  refine skE_el E (fun hx hb hr hml hlocks hin hown hts hK hA => ?_)
  have hown : s.vm.findClass RX6 = some m.cls := hown
  have hS : va_S A s.heap s.heap [] := va_S.rf
  have hl : lv_has ls 3 [(0, .ref (q 2))] := hl
  refine lv_aload_n hx hb dX6_step_0 rfl (lv_at hl 0 rfl) ?_
  refine sk_get (v := .int xf) (C := RX6) (T := TX6) (N := 8) hx hb hts inlX6 hown hK hP 0 rfl rfl 6 (by decide) w_1_66 rfl dX6_step_1 ?_
  refine lv_if_eq (tgt := 8) hx hb dX6_step_4 (by decide) (fun c_1 => ?_) (fun c_1 => ?_)
  · obtain ⟨cu, hbg, hxp, hxc, hcn, hfl⟩ := stO_ok hO c_1
    have jn_2 : ∀ (bh : Int32) (H : Heap) (locs : List Loc) (ls : Array Slot), (bhO cu bh) → va_P D vwCl [(q 2, .inr (6, [.ref (q 0), .int (nI xa), .int xv, .int (nI xo), .int xt, .int (nI xz), .int xf, .int xp])), (q 0, .inr (10, [.ref (q 20), .int (nI tl)])), (q 20, .inl (cI, 1600, .inl (fun j => nI (tb j))))] H → va_D A [(q 2, .inr (6, [.ref (q 0), .int (nI xa), .int xv, .int (nI xo), .int xt, .int (nI xz), .int xf, .int xp])), (q 0, .inr (10, [.ref (q 20), .int (nI tl)])), (q 20, .inl (cI, 1600, .inl (fun j => nI (tb j))))] → va_S A s.heap H locs → lv_has ls 3 [(0, .ref (q 2))] → W p l e { frames := 5, cells := 0, slots := 0, locals := 109 } s m ([.ref (q 2)] : List Value).toArray below meth c H locs 0 0 (MQ below (skV D (skT cI cJ cC cZ cS) (fun (u : va_W) => ∃ (xa2 : Nat), ∃ (xv2 : Int32), ∃ (xt2 : Int32), ∃ (xz2 : Nat), xa2 ≤ 1600 ∧ xz2 ≤ 1600 ∧ rdO tb tl (bindR bg (stF tb tl)) xa2 xv2 xt2 xz2 xf xp ∧ u = [(q 2, .inr (6, [.ref (q 0), .int (nI xa2), .int xv2, .int (nI xo), .int xt2, .int (nI xz2), .int xf, .int xp])), (q 0, .inr (10, [.ref (q 20), .int (nI tl)])), (q 20, .inl (cI, 1600, .inl (fun j => nI (tb j))))]) A) ([.ref (q 2)] : List Value).toArray s 0 0 A) (F0 m 35 ls [.int bh]) := by
      intro bh H locs ls hbh hP hD hS hl
      refine lv_istore_n (lv' := [(1, .int bh), (0, .ref (q 2))]) hx hb dX6_step_35 rfl hl (by decide) rfl (fun ls hl => ?_)
      have lp_3 : ∀ (n_4 : Nat) (za : Nat) (H : Heap) (locs : List Loc) (ls : Array Slot), tl - za < n_4 → (za ≤ 1600) → (ext qB tb tl za = ext qB tb tl xa) → va_P D vwCl [(q 2, .inr (6, [.ref (q 0), .int (nI za), .int xv, .int (nI xo), .int xt, .int (nI xz), .int xf, .int xp])), (q 0, .inr (10, [.ref (q 20), .int (nI tl)])), (q 20, .inl (cI, 1600, .inl (fun j => nI (tb j))))] H → va_D A [(q 2, .inr (6, [.ref (q 0), .int (nI za), .int xv, .int (nI xo), .int xt, .int (nI xz), .int xf, .int xp])), (q 0, .inr (10, [.ref (q 20), .int (nI tl)])), (q 20, .inl (cI, 1600, .inl (fun j => nI (tb j))))] → va_S A s.heap H locs → lv_has ls 3 [(1, .int bh), (0, .ref (q 2))] → W p l e { frames := 5, cells := 0, slots := 0, locals := 109 } s m ([.ref (q 2)] : List Value).toArray below meth c H locs 0 0 (MQ below (skV D (skT cI cJ cC cZ cS) (fun (u : va_W) => ∃ (xa2 : Nat), ∃ (xv2 : Int32), ∃ (xt2 : Int32), ∃ (xz2 : Nat), xa2 ≤ 1600 ∧ xz2 ≤ 1600 ∧ rdO tb tl (bindR bg (stF tb tl)) xa2 xv2 xt2 xz2 xf xp ∧ u = [(q 2, .inr (6, [.ref (q 0), .int (nI xa2), .int xv2, .int (nI xo), .int xt2, .int (nI xz2), .int xf, .int xp])), (q 0, .inr (10, [.ref (q 20), .int (nI tl)])), (q 20, .inl (cI, 1600, .inl (fun j => nI (tb j))))]) A) ([.ref (q 2)] : List Value).toArray s 0 0 A) (F0 m 36 ls []) := by
        intro n_4
        induction n_4 with
        | zero => intro za H locs ls hm; exact absurd hm (Nat.not_lt_zero _)
        | succ n_4 ih_lp_3 =>
          intro za H locs ls hm hza hze hP hD hS hl
          refine lv_aload_n hx hb dX6_step_36 rfl (lv_at hl 1 rfl) ?_
          refine sk_get (v := .int (nI za)) (C := RX6) (T := TX6) (N := 8) hx hb hts inlX6 hown hK hP 0 rfl rfl 1 (by decide) w_1_57 rfl dX6_step_37 ?_
          refine lv_aload_n hx hb dX6_step_40 rfl (lv_at hl 1 rfl) ?_
          refine sk_get (v := .ref (q 0)) (C := RX6) (T := TX6) (N := 8) hx hb hts inlX6 hown hK hP 0 rfl rfl 0 (by decide) w_1_56 rfl dX6_step_41 ?_
          refine sk_get (v := .int (nI tl)) (C := RX10) (T := TX10) (N := 2) hx hb hts inlX10 hown hK hP 1 rfl rfl 1 (by decide) w_1_43 rfl dX6_step_44 ?_
          refine lv_icmp_ge (tgt := 97) hx hb dX6_step_47 (by decide) (fun c_5 => ?_) (fun c_5 => ?_)
          · have c_5 : tl ≤ za := (nle tl za (by omega) (by omega)).mp c_5
            have hzs : za = sk tb tl cu.1 := by rw [← hxc]; exact ext_fin hze (by rw [qB_t]; omega)
            have jn_6 : ∀ (ya : Nat) (yv : Int32) (yk : Int32) (yz : Nat) (H : Heap) (locs : List Loc) (ls : Array Slot), (ya ≤ 1600) → (yz = za) → (za < tl) → (ya = te tb tl za) → (tkU tb tl za yk yv) → va_P D vwCl [(q 2, .inr (6, [.ref (q 0), .int (nI ya), .int yv, .int (nI xo), .int yk, .int (nI yz), .int xf, .int xp])), (q 0, .inr (10, [.ref (q 20), .int (nI tl)])), (q 20, .inl (cI, 1600, .inl (fun j => nI (tb j))))] H → va_D A [(q 2, .inr (6, [.ref (q 0), .int (nI ya), .int yv, .int (nI xo), .int yk, .int (nI yz), .int xf, .int xp])), (q 0, .inr (10, [.ref (q 20), .int (nI tl)])), (q 20, .inl (cI, 1600, .inl (fun j => nI (tb j))))] → va_S A s.heap H locs → lv_has ls 3 [(1, .int bh), (0, .ref (q 2))] → W p l e { frames := 5, cells := 0, slots := 0, locals := 109 } s m ([.ref (q 2)] : List Value).toArray below meth c H locs 0 0 (MQ below (skV D (skT cI cJ cC cZ cS) (fun (u : va_W) => ∃ (xa2 : Nat), ∃ (xv2 : Int32), ∃ (xt2 : Int32), ∃ (xz2 : Nat), xa2 ≤ 1600 ∧ xz2 ≤ 1600 ∧ rdO tb tl (bindR bg (stF tb tl)) xa2 xv2 xt2 xz2 xf xp ∧ u = [(q 2, .inr (6, [.ref (q 0), .int (nI xa2), .int xv2, .int (nI xo), .int xt2, .int (nI xz2), .int xf, .int xp])), (q 0, .inr (10, [.ref (q 20), .int (nI tl)])), (q 20, .inl (cI, 1600, .inl (fun j => nI (tb j))))]) A) ([.ref (q 2)] : List Value).toArray s 0 0 A) (F0 m 192 ls []) := by
              intro ya yv yk yz H locs ls hya hyz hyl hye hyt hP hD hS hl
              refine lv_aload_n hx hb dX6_step_192 rfl (lv_at hl 1 rfl) ?_
              refine sk_get (v := .int (nI yz)) (C := RX6) (T := TX6) (N := 8) hx hb hts inlX6 hown hK hP 0 rfl rfl 5 (by decide) w_1_64 rfl dX6_step_193 ?_
              refine lv_iload_n hx hb dX6_step_196 rfl (lv_at hl 0 rfl) ?_
              refine lv_icmp_ne (tgt := 206) hx hb dX6_step_197 (by decide) (fun c_7 => ?_) (fun c_7 => ?_)
              · skip
                exact sk_vret hx hb hr hlocks hK hP hD hS (⟨ya, yv, yk, yz, by omega, by omega, by subst hyz; exact st_wnN hbg c_1 hxp hzs (by omega) htl hcn hyt hye hbh c_7, rfl⟩) (Nat.le_of_ble_eq_true rfl) (Nat.le_of_ble_eq_true rfl) dX6_step_206
              · skip
                refine lv_aload_n hx hb dX6_step_200 rfl (lv_at hl 1 rfl) ?_
                refine lv_bipush (v := (-2)) hx hb dX6_step_201 (by decide) ?_
                refine sk_put (ws' := [(q 2, .inr (6, [.ref (q 0), .int (nI ya), .int yv, .int (nI xo), .int (-2), .int (nI yz), .int xf, .int xp])), (q 0, .inr (10, [.ref (q 20), .int (nI tl)])), (q 20, .inl (cI, 1600, .inl (fun j => nI (tb j))))]) (C := RX6) (T := TX6) (N := 8) (v := .int (-2)) hx hb hts inlX6 tyX6 tyX6_ok nmX6 hown hK hP hD hS 0 rfl rfl 4 (by decide) w_1_60 rfl rfl rfl (Nat.le_of_ble_eq_true rfl) rfl dX6_step_203 (fun H locs hP hD hS => ?_)
                exact sk_vret hx hb hr hlocks hK hP hD hS (⟨ya, yv, (-2), yz, by omega, by omega, by subst hyz; exact st_wnE hbg c_1 hxp hzs (by omega) htl hcn hyt hye hbh c_7, rfl⟩) (Nat.le_of_ble_eq_true rfl) (Nat.le_of_ble_eq_true rfl) dX6_step_206
            refine lv_aload_n hx hb dX6_step_97 rfl (lv_at hl 1 rfl) ?_
            refine lv_aload_n hx hb dX6_step_98 rfl (lv_at hl 1 rfl) ?_
            refine sk_get (v := .int (nI za)) (C := RX6) (T := TX6) (N := 8) hx hb hts inlX6 hown hK hP 0 rfl rfl 1 (by decide) w_1_57 rfl dX6_step_99 ?_
            refine sk_put (ws' := [(q 2, .inr (6, [.ref (q 0), .int (nI za), .int xv, .int (nI xo), .int xt, .int (nI za), .int xf, .int xp])), (q 0, .inr (10, [.ref (q 20), .int (nI tl)])), (q 20, .inl (cI, 1600, .inl (fun j => nI (tb j))))]) (C := RX6) (T := TX6) (N := 8) (v := .int (nI za)) hx hb hts inlX6 tyX6 tyX6_ok nmX6 hown hK hP hD hS 0 rfl rfl 5 (by decide) w_1_64 rfl rfl rfl (Nat.le_of_ble_eq_true rfl) rfl dX6_step_102 (fun H locs hP hD hS => ?_)
            refine lv_aload_n hx hb dX6_step_105 rfl (lv_at hl 1 rfl) ?_
            refine sk_get (v := .int (nI za)) (C := RX6) (T := TX6) (N := 8) hx hb hts inlX6 hown hK hP 0 rfl rfl 1 (by decide) w_1_57 rfl dX6_step_106 ?_
            refine lv_aload_n hx hb dX6_step_109 rfl (lv_at hl 1 rfl) ?_
            refine sk_get (v := .ref (q 0)) (C := RX6) (T := TX6) (N := 8) hx hb hts inlX6 hown hK hP 0 rfl rfl 0 (by decide) w_1_56 rfl dX6_step_110 ?_
            refine sk_get (v := .int (nI tl)) (C := RX10) (T := TX10) (N := 2) hx hb hts inlX10 hown hK hP 1 rfl rfl 1 (by decide) w_1_43 rfl dX6_step_113 ?_
            refine lv_icmp_lt (tgt := 125) hx hb dX6_step_116 (by decide) (fun c_8 => ?_) (fun c_8 => ?_)
            · have c_8 : za < tl := (nlt za tl (by omega) (by omega)).mp c_8
              refine lv_aload_n hx hb dX6_step_125 rfl (lv_at hl 1 rfl) ?_
              refine sk_get (v := .ref (q 0)) (C := RX6) (T := TX6) (N := 8) hx hb hts inlX6 hown hK hP 0 rfl rfl 0 (by decide) w_1_56 rfl dX6_step_126 ?_
              refine sk_get (v := .ref (q 20)) (C := RX10) (T := TX10) (N := 2) hx hb hts inlX10 hown hK hP 1 rfl rfl 0 (by decide) w_1_40 rfl dX6_step_129 ?_
              refine lv_aload_n hx hb dX6_step_132 rfl (lv_at hl 1 rfl) ?_
              refine sk_get (v := .int (nI za)) (C := RX6) (T := TX6) (N := 8) hx hb hts inlX6 hown hK hP 0 rfl rfl 1 (by decide) w_1_57 rfl dX6_step_133 ?_
              refine va_iald hx hb hK.1 hP 2 0 rfl rfl (vin za 1600 (by omega) (by omega)) dX6_step_136 ?_
              refine sk_top (nI (tb za)) (nrd tb za (by omega)) ?_
              have hb_9 := htb za
              refine lv_istore_n (lv' := [(2, .int (nI (tb za))), (1, .int bh), (0, .ref (q 2))]) hx hb dX6_step_137 rfl hl (by decide) rfl (fun ls hl => ?_)
              refine lv_iload_n hx hb dX6_step_138 rfl (lv_at hl 0 rfl) ?_
              refine lv_bipush (v := 97) hx hb dX6_step_139 (by decide) ?_
              refine lv_icmp_lt (tgt := 157) hx hb dX6_step_141 (by decide) (fun c_10 => ?_) (fun c_10 => ?_)
              · have c_10 : tb za < 97 := (nlt (tb za) 97 (by omega) (by omega)).mp c_10
                refine lv_iload_n hx hb dX6_step_157 rfl (lv_at hl 0 rfl) ?_
                refine lv_bipush (v := 48) hx hb dX6_step_158 (by decide) ?_
                refine lv_icmp_lt (tgt := 176) hx hb dX6_step_160 (by decide) (fun c_11 => ?_) (fun c_11 => ?_)
                · have c_11 : tb za < 48 := (nlt (tb za) 48 (by omega) (by omega)).mp c_11
                  refine lv_aload_n hx hb dX6_step_176 rfl (lv_at hl 2 rfl) ?_
                  refine lv_dup hx hb dX6_step_177 rfl ?_
                  refine sk_get (v := .int (nI za)) (C := RX6) (T := TX6) (N := 8) hx hb hts inlX6 hown hK hP 0 rfl rfl 1 (by decide) w_1_57 rfl dX6_step_178 ?_
                  refine lv_iconst (v := 1) hx hb dX6_step_181 (by decide) ?_
                  refine lv_iadd hx hb dX6_step_182 ?_
                  refine sk_top (nI (za + 1)) (nI_add za 1) ?_
                  refine sk_put (ws' := [(q 2, .inr (6, [.ref (q 0), .int (nI (za + 1)), .int xv, .int (nI xo), .int xt, .int (nI za), .int xf, .int xp])), (q 0, .inr (10, [.ref (q 20), .int (nI tl)])), (q 20, .inl (cI, 1600, .inl (fun j => nI (tb j))))]) (C := RX6) (T := TX6) (N := 8) (v := .int (nI (za + 1))) hx hb hts inlX6 tyX6 tyX6_ok nmX6 hown hK hP hD hS 0 rfl rfl 1 (by decide) w_1_57 rfl rfl rfl (Nat.le_of_ble_eq_true rfl) rfl dX6_step_183 (fun H locs hP hD hS => ?_)
                  refine lv_aload_n hx hb dX6_step_186 rfl (lv_at hl 2 rfl) ?_
                  refine lv_iload_n hx hb dX6_step_187 rfl (lv_at hl 0 rfl) ?_
                  refine sk_put (ws' := [(q 2, .inr (6, [.ref (q 0), .int (nI (za + 1)), .int xv, .int (nI xo), .int (nI (tb za)), .int (nI za), .int xf, .int xp])), (q 0, .inr (10, [.ref (q 20), .int (nI tl)])), (q 20, .inl (cI, 1600, .inl (fun j => nI (tb j))))]) (C := RX6) (T := TX6) (N := 8) (v := .int (nI (tb za))) hx hb hts inlX6 tyX6 tyX6_ok nmX6 hown hK hP hD hS 0 rfl rfl 4 (by decide) w_1_60 rfl rfl rfl (Nat.le_of_ble_eq_true rfl) rfl dX6_step_188 (fun H locs hP hD hS => ?_)
                  exact sk_vret hx hb hr hlocks hK hP hD hS (⟨za + 1, xv, nI (tb za), za, by omega, by omega, st_sign htb hbg c_1 hxp hzs (by omega) (qL_f (by omega)) (qD_f (by omega)), rfl⟩) (Nat.le_of_ble_eq_true rfl) (Nat.le_of_ble_eq_true rfl) dX6_step_191
                · have c_11 : ¬ (tb za < 48) := fun h => c_11 ((nlt (tb za) 48 (by omega) (by omega)).mpr h)
                  refine lv_iload_n hx hb dX6_step_163 rfl (lv_at hl 0 rfl) ?_
                  refine lv_bipush (v := 57) hx hb dX6_step_164 (by decide) ?_
                  refine lv_icmp_gt (tgt := 176) hx hb dX6_step_166 (by decide) (fun c_12 => ?_) (fun c_12 => ?_)
                  · have c_12 : 57 < tb za := (nlt 57 (tb za) (by omega) (by omega)).mp c_12
                    refine lv_aload_n hx hb dX6_step_176 rfl (lv_at hl 2 rfl) ?_
                    refine lv_dup hx hb dX6_step_177 rfl ?_
                    refine sk_get (v := .int (nI za)) (C := RX6) (T := TX6) (N := 8) hx hb hts inlX6 hown hK hP 0 rfl rfl 1 (by decide) w_1_57 rfl dX6_step_178 ?_
                    refine lv_iconst (v := 1) hx hb dX6_step_181 (by decide) ?_
                    refine lv_iadd hx hb dX6_step_182 ?_
                    refine sk_top (nI (za + 1)) (nI_add za 1) ?_
                    refine sk_put (ws' := [(q 2, .inr (6, [.ref (q 0), .int (nI (za + 1)), .int xv, .int (nI xo), .int xt, .int (nI za), .int xf, .int xp])), (q 0, .inr (10, [.ref (q 20), .int (nI tl)])), (q 20, .inl (cI, 1600, .inl (fun j => nI (tb j))))]) (C := RX6) (T := TX6) (N := 8) (v := .int (nI (za + 1))) hx hb hts inlX6 tyX6 tyX6_ok nmX6 hown hK hP hD hS 0 rfl rfl 1 (by decide) w_1_57 rfl rfl rfl (Nat.le_of_ble_eq_true rfl) rfl dX6_step_183 (fun H locs hP hD hS => ?_)
                    refine lv_aload_n hx hb dX6_step_186 rfl (lv_at hl 2 rfl) ?_
                    refine lv_iload_n hx hb dX6_step_187 rfl (lv_at hl 0 rfl) ?_
                    refine sk_put (ws' := [(q 2, .inr (6, [.ref (q 0), .int (nI (za + 1)), .int xv, .int (nI xo), .int (nI (tb za)), .int (nI za), .int xf, .int xp])), (q 0, .inr (10, [.ref (q 20), .int (nI tl)])), (q 20, .inl (cI, 1600, .inl (fun j => nI (tb j))))]) (C := RX6) (T := TX6) (N := 8) (v := .int (nI (tb za))) hx hb hts inlX6 tyX6 tyX6_ok nmX6 hown hK hP hD hS 0 rfl rfl 4 (by decide) w_1_60 rfl rfl rfl (Nat.le_of_ble_eq_true rfl) rfl dX6_step_188 (fun H locs hP hD hS => ?_)
                    exact sk_vret hx hb hr hlocks hK hP hD hS (⟨za + 1, xv, nI (tb za), za, by omega, by omega, st_sign htb hbg c_1 hxp hzs (by omega) (qL_f (by omega)) (qD_f (by omega)), rfl⟩) (Nat.le_of_ble_eq_true rfl) (Nat.le_of_ble_eq_true rfl) dX6_step_191
                  · have c_12 : ¬ (57 < tb za) := fun h => c_12 ((nlt 57 (tb za) (by omega) (by omega)).mpr h)
                    refine lv_aload_n hx hb dX6_step_169 rfl (lv_at hl 2 rfl) ?_
                    refine sk_Vv (q0 := 0) (n := 0) (rest := []) (wr := fmR om_3_7 _) ⟨hx, hb, hml, hown, hts⟩ hl.1 (c_erd_readNumber l D cI cJ cC cZ cS q za xv xo xt za xf xp tl tb (by omega) (by omega) (by omega) htb (by omega)) w_3_42 w_3_44 w_0_3 w_1_4 w_3_45 hd_X6_readNumber_0 ⟨⟨(Nat.le_of_ble_eq_true rfl), (Nat.le_of_ble_eq_true rfl)⟩, (Nat.le_of_ble_eq_true rfl), (Nat.le_of_ble_eq_true rfl)⟩ hK hP hD hS hA (fmT om_3_7 0) (fmF om_3_7 0) (fm_C1 rfl rfl) (fm_R rfl rfl) (fm_nT om_3_7 0) (fm_nF om_3_7 0) (fm_di om_3_7 0) rfl rfl rfl rfl (Nat.le_of_ble_eq_true rfl) dX6_step_170 (fun u H locs hw hP hD hS => ?_)
                    refine exE hw (fun xa2_13 hw1 => exE hw1 (fun xv2_14 hw2 => anE hw2 (fun hxa2_15 hw3 => anE hw3 (fun hxe_16 hw4 => anE hw4 (fun hxv_17 eu_18 => ?_)))))
                    clear hw hw1 hw2 hw3 hw4
                    refine o_mgE (ws' := [(q 2, .inr (6, [.ref (q 0), .int (nI xa2_13), .int xv2_14, .int (nI xo), .int (-3), .int (nI za), .int xf, .int xp])), (q 0, .inr (10, [.ref (q 20), .int (nI tl)])), (q 20, .inl (cI, 1600, .inl (fun j => nI (tb j))))]) eu_18 hP hD rfl (fun hP hD => ?_)
                    refine lv_goto (tgt := 192) hx hb dX6_step_173 (by decide) ?_
                    exact jn_6 xa2_13 xv2_14 (-3) za _ _ _ (by omega) rfl (by omega) (by rw [hxe_16, te_n (qL_f (by omega)) (qD_t.mpr (by omega))]) (Or.inr ⟨qL_f (by omega), qD_t.mpr (by omega), rfl, hxv_17⟩) hP hD hS (lv_sub hl [1, 2] rfl)
              · have c_10 : ¬ (tb za < 97) := fun h => c_10 ((nlt (tb za) 97 (by omega) (by omega)).mpr h)
                refine lv_iload_n hx hb dX6_step_144 rfl (lv_at hl 0 rfl) ?_
                refine lv_bipush (v := 122) hx hb dX6_step_145 (by decide) ?_
                refine lv_icmp_gt (tgt := 157) hx hb dX6_step_147 (by decide) (fun c_19 => ?_) (fun c_19 => ?_)
                · have c_19 : 122 < tb za := (nlt 122 (tb za) (by omega) (by omega)).mp c_19
                  refine lv_iload_n hx hb dX6_step_157 rfl (lv_at hl 0 rfl) ?_
                  refine lv_bipush (v := 48) hx hb dX6_step_158 (by decide) ?_
                  refine lv_icmp_lt (tgt := 176) hx hb dX6_step_160 (by decide) (fun c_20 => ?_) (fun c_20 => ?_)
                  · have c_20 : tb za < 48 := (nlt (tb za) 48 (by omega) (by omega)).mp c_20
                    refine lv_aload_n hx hb dX6_step_176 rfl (lv_at hl 2 rfl) ?_
                    refine lv_dup hx hb dX6_step_177 rfl ?_
                    refine sk_get (v := .int (nI za)) (C := RX6) (T := TX6) (N := 8) hx hb hts inlX6 hown hK hP 0 rfl rfl 1 (by decide) w_1_57 rfl dX6_step_178 ?_
                    refine lv_iconst (v := 1) hx hb dX6_step_181 (by decide) ?_
                    refine lv_iadd hx hb dX6_step_182 ?_
                    refine sk_top (nI (za + 1)) (nI_add za 1) ?_
                    refine sk_put (ws' := [(q 2, .inr (6, [.ref (q 0), .int (nI (za + 1)), .int xv, .int (nI xo), .int xt, .int (nI za), .int xf, .int xp])), (q 0, .inr (10, [.ref (q 20), .int (nI tl)])), (q 20, .inl (cI, 1600, .inl (fun j => nI (tb j))))]) (C := RX6) (T := TX6) (N := 8) (v := .int (nI (za + 1))) hx hb hts inlX6 tyX6 tyX6_ok nmX6 hown hK hP hD hS 0 rfl rfl 1 (by decide) w_1_57 rfl rfl rfl (Nat.le_of_ble_eq_true rfl) rfl dX6_step_183 (fun H locs hP hD hS => ?_)
                    refine lv_aload_n hx hb dX6_step_186 rfl (lv_at hl 2 rfl) ?_
                    refine lv_iload_n hx hb dX6_step_187 rfl (lv_at hl 0 rfl) ?_
                    refine sk_put (ws' := [(q 2, .inr (6, [.ref (q 0), .int (nI (za + 1)), .int xv, .int (nI xo), .int (nI (tb za)), .int (nI za), .int xf, .int xp])), (q 0, .inr (10, [.ref (q 20), .int (nI tl)])), (q 20, .inl (cI, 1600, .inl (fun j => nI (tb j))))]) (C := RX6) (T := TX6) (N := 8) (v := .int (nI (tb za))) hx hb hts inlX6 tyX6 tyX6_ok nmX6 hown hK hP hD hS 0 rfl rfl 4 (by decide) w_1_60 rfl rfl rfl (Nat.le_of_ble_eq_true rfl) rfl dX6_step_188 (fun H locs hP hD hS => ?_)
                    exact sk_vret hx hb hr hlocks hK hP hD hS (⟨za + 1, xv, nI (tb za), za, by omega, by omega, st_sign htb hbg c_1 hxp hzs (by omega) (qL_f (by omega)) (qD_f (by omega)), rfl⟩) (Nat.le_of_ble_eq_true rfl) (Nat.le_of_ble_eq_true rfl) dX6_step_191
                  · have c_20 : ¬ (tb za < 48) := fun h => c_20 ((nlt (tb za) 48 (by omega) (by omega)).mpr h)
                    refine lv_iload_n hx hb dX6_step_163 rfl (lv_at hl 0 rfl) ?_
                    refine lv_bipush (v := 57) hx hb dX6_step_164 (by decide) ?_
                    refine lv_icmp_gt (tgt := 176) hx hb dX6_step_166 (by decide) (fun c_21 => ?_) (fun c_21 => ?_)
                    · have c_21 : 57 < tb za := (nlt 57 (tb za) (by omega) (by omega)).mp c_21
                      refine lv_aload_n hx hb dX6_step_176 rfl (lv_at hl 2 rfl) ?_
                      refine lv_dup hx hb dX6_step_177 rfl ?_
                      refine sk_get (v := .int (nI za)) (C := RX6) (T := TX6) (N := 8) hx hb hts inlX6 hown hK hP 0 rfl rfl 1 (by decide) w_1_57 rfl dX6_step_178 ?_
                      refine lv_iconst (v := 1) hx hb dX6_step_181 (by decide) ?_
                      refine lv_iadd hx hb dX6_step_182 ?_
                      refine sk_top (nI (za + 1)) (nI_add za 1) ?_
                      refine sk_put (ws' := [(q 2, .inr (6, [.ref (q 0), .int (nI (za + 1)), .int xv, .int (nI xo), .int xt, .int (nI za), .int xf, .int xp])), (q 0, .inr (10, [.ref (q 20), .int (nI tl)])), (q 20, .inl (cI, 1600, .inl (fun j => nI (tb j))))]) (C := RX6) (T := TX6) (N := 8) (v := .int (nI (za + 1))) hx hb hts inlX6 tyX6 tyX6_ok nmX6 hown hK hP hD hS 0 rfl rfl 1 (by decide) w_1_57 rfl rfl rfl (Nat.le_of_ble_eq_true rfl) rfl dX6_step_183 (fun H locs hP hD hS => ?_)
                      refine lv_aload_n hx hb dX6_step_186 rfl (lv_at hl 2 rfl) ?_
                      refine lv_iload_n hx hb dX6_step_187 rfl (lv_at hl 0 rfl) ?_
                      refine sk_put (ws' := [(q 2, .inr (6, [.ref (q 0), .int (nI (za + 1)), .int xv, .int (nI xo), .int (nI (tb za)), .int (nI za), .int xf, .int xp])), (q 0, .inr (10, [.ref (q 20), .int (nI tl)])), (q 20, .inl (cI, 1600, .inl (fun j => nI (tb j))))]) (C := RX6) (T := TX6) (N := 8) (v := .int (nI (tb za))) hx hb hts inlX6 tyX6 tyX6_ok nmX6 hown hK hP hD hS 0 rfl rfl 4 (by decide) w_1_60 rfl rfl rfl (Nat.le_of_ble_eq_true rfl) rfl dX6_step_188 (fun H locs hP hD hS => ?_)
                      exact sk_vret hx hb hr hlocks hK hP hD hS (⟨za + 1, xv, nI (tb za), za, by omega, by omega, st_sign htb hbg c_1 hxp hzs (by omega) (qL_f (by omega)) (qD_f (by omega)), rfl⟩) (Nat.le_of_ble_eq_true rfl) (Nat.le_of_ble_eq_true rfl) dX6_step_191
                    · have c_21 : ¬ (57 < tb za) := fun h => c_21 ((nlt 57 (tb za) (by omega) (by omega)).mpr h)
                      refine lv_aload_n hx hb dX6_step_169 rfl (lv_at hl 2 rfl) ?_
                      refine sk_Vv (q0 := 0) (n := 0) (rest := []) (wr := fmR om_3_7 _) ⟨hx, hb, hml, hown, hts⟩ hl.1 (c_erd_readNumber l D cI cJ cC cZ cS q za xv xo xt za xf xp tl tb (by omega) (by omega) (by omega) htb (by omega)) w_3_42 w_3_44 w_0_3 w_1_4 w_3_45 hd_X6_readNumber_0 ⟨⟨(Nat.le_of_ble_eq_true rfl), (Nat.le_of_ble_eq_true rfl)⟩, (Nat.le_of_ble_eq_true rfl), (Nat.le_of_ble_eq_true rfl)⟩ hK hP hD hS hA (fmT om_3_7 0) (fmF om_3_7 0) (fm_C1 rfl rfl) (fm_R rfl rfl) (fm_nT om_3_7 0) (fm_nF om_3_7 0) (fm_di om_3_7 0) rfl rfl rfl rfl (Nat.le_of_ble_eq_true rfl) dX6_step_170 (fun u H locs hw hP hD hS => ?_)
                      refine exE hw (fun xa2_22 hw1 => exE hw1 (fun xv2_23 hw2 => anE hw2 (fun hxa2_24 hw3 => anE hw3 (fun hxe_25 hw4 => anE hw4 (fun hxv_26 eu_27 => ?_)))))
                      clear hw hw1 hw2 hw3 hw4
                      refine o_mgE (ws' := [(q 2, .inr (6, [.ref (q 0), .int (nI xa2_22), .int xv2_23, .int (nI xo), .int (-3), .int (nI za), .int xf, .int xp])), (q 0, .inr (10, [.ref (q 20), .int (nI tl)])), (q 20, .inl (cI, 1600, .inl (fun j => nI (tb j))))]) eu_27 hP hD rfl (fun hP hD => ?_)
                      refine lv_goto (tgt := 192) hx hb dX6_step_173 (by decide) ?_
                      exact jn_6 xa2_22 xv2_23 (-3) za _ _ _ (by omega) rfl (by omega) (by rw [hxe_25, te_n (qL_f (by omega)) (qD_t.mpr (by omega))]) (Or.inr ⟨qL_f (by omega), qD_t.mpr (by omega), rfl, hxv_26⟩) hP hD hS (lv_sub hl [1, 2] rfl)
                · have c_19 : ¬ (122 < tb za) := fun h => c_19 ((nlt 122 (tb za) (by omega) (by omega)).mpr h)
                  refine lv_aload_n hx hb dX6_step_150 rfl (lv_at hl 2 rfl) ?_
                  refine sk_VvZ (q0 := 0) (n := 0) (rest := []) (wr := fmR om_3_7 _) ⟨hx, hb, hml, hown, hts⟩ hl.1 (c_erd_readWord l D cI cJ cC cZ cS zk zv zf q za xv xo xt za xf xp tl tb (by omega) (by omega) (by omega) htb (by omega)) w_2_229 w_2_231 w_0_2 w_1_4 w_2_232 hd_X6_readWord_0 ⟨⟨(Nat.le_of_ble_eq_true rfl), (Nat.le_of_ble_eq_true rfl)⟩, (Nat.le_of_ble_eq_true rfl), (Nat.le_of_ble_eq_true rfl)⟩ hK hP hD hS hZ hA (fmT om_3_7 0) (fmF om_3_7 0) (fm_C1 rfl rfl) (fm_R rfl rfl) (fm_nT om_3_7 0) (fm_nF om_3_7 0) (fm_di om_3_7 0) rfl rfl rfl rfl (Nat.le_of_ble_eq_true rfl) dX6_step_151 (fun u H locs hw hP hD hS => ?_)
                  refine exE hw (fun xa2_28 hw1 => exE hw1 (fun xt2_29 hw2 => anE hw2 (fun hxa2_30 hw3 => anE hw3 (fun hxe_31 hw4 => anE hw4 (fun hxt_32 eu_33 => ?_)))))
                  clear hw hw1 hw2 hw3 hw4
                  refine o_mgE (ws' := [(q 2, .inr (6, [.ref (q 0), .int (nI xa2_28), .int xv, .int (nI xo), .int xt2_29, .int (nI za), .int xf, .int xp])), (q 0, .inr (10, [.ref (q 20), .int (nI tl)])), (q 20, .inl (cI, 1600, .inl (fun j => nI (tb j))))]) eu_33 hP hD rfl (fun hP hD => ?_)
                  refine lv_goto (tgt := 192) hx hb dX6_step_154 (by decide) ?_
                  exact jn_6 xa2_28 xv xt2_29 za _ _ _ (by omega) rfl (by omega) (by rw [hxe_31, te_w (qL_t.mpr (by omega))]) (Or.inl ⟨qL_t.mpr (by omega), hxt_32⟩) hP hD hS (lv_sub hl [1, 2] rfl)
            · have c_8 : ¬ (za < tl) := fun h => c_8 ((nlt za tl (by omega) (by omega)).mpr h)
              refine lv_aload_n hx hb dX6_step_119 rfl (lv_at hl 1 rfl) ?_
              refine lv_iconst (v := (-1)) hx hb dX6_step_120 (by decide) ?_
              refine sk_put (ws' := [(q 2, .inr (6, [.ref (q 0), .int (nI za), .int xv, .int (nI xo), .int (-1), .int (nI za), .int xf, .int xp])), (q 0, .inr (10, [.ref (q 20), .int (nI tl)])), (q 20, .inl (cI, 1600, .inl (fun j => nI (tb j))))]) (C := RX6) (T := TX6) (N := 8) (v := .int (-1)) hx hb hts inlX6 tyX6 tyX6_ok nmX6 hown hK hP hD hS 0 rfl rfl 4 (by decide) w_1_60 rfl rfl rfl (Nat.le_of_ble_eq_true rfl) rfl dX6_step_121 (fun H locs hP hD hS => ?_)
              exact sk_vret hx hb hr hlocks hK hP hD hS (⟨za, xv, (-1), za, by omega, by omega, st_end hbg c_1 hxp hcn hzs (by omega), rfl⟩) (Nat.le_of_ble_eq_true rfl) (Nat.le_of_ble_eq_true rfl) dX6_step_124
          · have c_5 : ¬ (tl ≤ za) := fun h => c_5 ((nle tl za (by omega) (by omega)).mpr h)
            refine lv_aload_n hx hb dX6_step_50 rfl (lv_at hl 1 rfl) ?_
            refine sk_get (v := .ref (q 0)) (C := RX6) (T := TX6) (N := 8) hx hb hts inlX6 hown hK hP 0 rfl rfl 0 (by decide) w_1_56 rfl dX6_step_51 ?_
            refine sk_get (v := .ref (q 20)) (C := RX10) (T := TX10) (N := 2) hx hb hts inlX10 hown hK hP 1 rfl rfl 0 (by decide) w_1_40 rfl dX6_step_54 ?_
            refine lv_aload_n hx hb dX6_step_57 rfl (lv_at hl 1 rfl) ?_
            refine sk_get (v := .int (nI za)) (C := RX6) (T := TX6) (N := 8) hx hb hts inlX6 hown hK hP 0 rfl rfl 1 (by decide) w_1_57 rfl dX6_step_58 ?_
            refine va_iald hx hb hK.1 hP 2 0 rfl rfl (vin za 1600 (by omega) (by omega)) dX6_step_61 ?_
            refine sk_top (nI (tb za)) (nrd tb za (by omega)) ?_
            have hb_34 := htb za
            refine lv_bipush (v := 32) hx hb dX6_step_62 (by decide) ?_
            refine lv_icmp_eq (tgt := 84) hx hb dX6_step_64 (by decide) (fun c_35 => ?_) (fun c_35 => ?_)
            · have c_35 : tb za = 32 := (neq (tb za) 32 (by omega) (by omega)).mp c_35
              refine lv_aload_n hx hb dX6_step_84 rfl (lv_at hl 1 rfl) ?_
              refine lv_dup hx hb dX6_step_85 rfl ?_
              refine sk_get (v := .int (nI za)) (C := RX6) (T := TX6) (N := 8) hx hb hts inlX6 hown hK hP 0 rfl rfl 1 (by decide) w_1_57 rfl dX6_step_86 ?_
              refine lv_iconst (v := 1) hx hb dX6_step_89 (by decide) ?_
              refine lv_iadd hx hb dX6_step_90 ?_
              refine sk_top (nI (za + 1)) (nI_add za 1) ?_
              refine sk_put (ws' := [(q 2, .inr (6, [.ref (q 0), .int (nI (za + 1)), .int xv, .int (nI xo), .int xt, .int (nI xz), .int xf, .int xp])), (q 0, .inr (10, [.ref (q 20), .int (nI tl)])), (q 20, .inl (cI, 1600, .inl (fun j => nI (tb j))))]) (C := RX6) (T := TX6) (N := 8) (v := .int (nI (za + 1))) hx hb hts inlX6 tyX6 tyX6_ok nmX6 hown hK hP hD hS 0 rfl rfl 1 (by decide) w_1_57 rfl rfl rfl (Nat.le_of_ble_eq_true rfl) rfl dX6_step_91 (fun H locs hP hD hS => ?_)
              refine lv_goto (tgt := 36) hx hb dX6_step_94 (by decide) ?_
              exact ih_lp_3 (za + 1) _ _ _ (by omega) (by omega) (ext_nxt hze (by omega) (qB_t.mpr (by omega))) hP hD hS (lv_sub hl [0, 1] rfl)
            · have c_35 : ¬ (tb za = 32) := fun h => c_35 ((neq (tb za) 32 (by omega) (by omega)).mpr h)
              refine lv_aload_n hx hb dX6_step_67 rfl (lv_at hl 1 rfl) ?_
              refine sk_get (v := .ref (q 0)) (C := RX6) (T := TX6) (N := 8) hx hb hts inlX6 hown hK hP 0 rfl rfl 0 (by decide) w_1_56 rfl dX6_step_68 ?_
              refine sk_get (v := .ref (q 20)) (C := RX10) (T := TX10) (N := 2) hx hb hts inlX10 hown hK hP 1 rfl rfl 0 (by decide) w_1_40 rfl dX6_step_71 ?_
              refine lv_aload_n hx hb dX6_step_74 rfl (lv_at hl 1 rfl) ?_
              refine sk_get (v := .int (nI za)) (C := RX6) (T := TX6) (N := 8) hx hb hts inlX6 hown hK hP 0 rfl rfl 1 (by decide) w_1_57 rfl dX6_step_75 ?_
              refine va_iald hx hb hK.1 hP 2 0 rfl rfl (vin za 1600 (by omega) (by omega)) dX6_step_78 ?_
              refine sk_top (nI (tb za)) (nrd tb za (by omega)) ?_
              have hb_36 := htb za
              refine lv_bipush (v := 10) hx hb dX6_step_79 (by decide) ?_
              refine lv_icmp_ne (tgt := 97) hx hb dX6_step_81 (by decide) (fun c_37 => ?_) (fun c_37 => ?_)
              · have c_37 : ¬ (tb za = 10) := fun h => c_37 ((neq (tb za) 10 (by omega) (by omega)).mpr h)
                have hzs : za = sk tb tl cu.1 := by rw [← hxc]; exact ext_fin hze (by rw [qB_t]; omega)
                have jn_38 : ∀ (ya : Nat) (yv : Int32) (yk : Int32) (yz : Nat) (H : Heap) (locs : List Loc) (ls : Array Slot), (ya ≤ 1600) → (yz = za) → (za < tl) → (ya = te tb tl za) → (tkU tb tl za yk yv) → va_P D vwCl [(q 2, .inr (6, [.ref (q 0), .int (nI ya), .int yv, .int (nI xo), .int yk, .int (nI yz), .int xf, .int xp])), (q 0, .inr (10, [.ref (q 20), .int (nI tl)])), (q 20, .inl (cI, 1600, .inl (fun j => nI (tb j))))] H → va_D A [(q 2, .inr (6, [.ref (q 0), .int (nI ya), .int yv, .int (nI xo), .int yk, .int (nI yz), .int xf, .int xp])), (q 0, .inr (10, [.ref (q 20), .int (nI tl)])), (q 20, .inl (cI, 1600, .inl (fun j => nI (tb j))))] → va_S A s.heap H locs → lv_has ls 3 [(1, .int bh), (0, .ref (q 2))] → W p l e { frames := 5, cells := 0, slots := 0, locals := 109 } s m ([.ref (q 2)] : List Value).toArray below meth c H locs 0 0 (MQ below (skV D (skT cI cJ cC cZ cS) (fun (u : va_W) => ∃ (xa2 : Nat), ∃ (xv2 : Int32), ∃ (xt2 : Int32), ∃ (xz2 : Nat), xa2 ≤ 1600 ∧ xz2 ≤ 1600 ∧ rdO tb tl (bindR bg (stF tb tl)) xa2 xv2 xt2 xz2 xf xp ∧ u = [(q 2, .inr (6, [.ref (q 0), .int (nI xa2), .int xv2, .int (nI xo), .int xt2, .int (nI xz2), .int xf, .int xp])), (q 0, .inr (10, [.ref (q 20), .int (nI tl)])), (q 20, .inl (cI, 1600, .inl (fun j => nI (tb j))))]) A) ([.ref (q 2)] : List Value).toArray s 0 0 A) (F0 m 192 ls []) := by
                  intro ya yv yk yz H locs ls hya hyz hyl hye hyt hP hD hS hl
                  refine lv_aload_n hx hb dX6_step_192 rfl (lv_at hl 1 rfl) ?_
                  refine sk_get (v := .int (nI yz)) (C := RX6) (T := TX6) (N := 8) hx hb hts inlX6 hown hK hP 0 rfl rfl 5 (by decide) w_1_64 rfl dX6_step_193 ?_
                  refine lv_iload_n hx hb dX6_step_196 rfl (lv_at hl 0 rfl) ?_
                  refine lv_icmp_ne (tgt := 206) hx hb dX6_step_197 (by decide) (fun c_39 => ?_) (fun c_39 => ?_)
                  · skip
                    exact sk_vret hx hb hr hlocks hK hP hD hS (⟨ya, yv, yk, yz, by omega, by omega, by subst hyz; exact st_wnN hbg c_1 hxp hzs (by omega) htl hcn hyt hye hbh c_39, rfl⟩) (Nat.le_of_ble_eq_true rfl) (Nat.le_of_ble_eq_true rfl) dX6_step_206
                  · skip
                    refine lv_aload_n hx hb dX6_step_200 rfl (lv_at hl 1 rfl) ?_
                    refine lv_bipush (v := (-2)) hx hb dX6_step_201 (by decide) ?_
                    refine sk_put (ws' := [(q 2, .inr (6, [.ref (q 0), .int (nI ya), .int yv, .int (nI xo), .int (-2), .int (nI yz), .int xf, .int xp])), (q 0, .inr (10, [.ref (q 20), .int (nI tl)])), (q 20, .inl (cI, 1600, .inl (fun j => nI (tb j))))]) (C := RX6) (T := TX6) (N := 8) (v := .int (-2)) hx hb hts inlX6 tyX6 tyX6_ok nmX6 hown hK hP hD hS 0 rfl rfl 4 (by decide) w_1_60 rfl rfl rfl (Nat.le_of_ble_eq_true rfl) rfl dX6_step_203 (fun H locs hP hD hS => ?_)
                    exact sk_vret hx hb hr hlocks hK hP hD hS (⟨ya, yv, (-2), yz, by omega, by omega, by subst hyz; exact st_wnE hbg c_1 hxp hzs (by omega) htl hcn hyt hye hbh c_39, rfl⟩) (Nat.le_of_ble_eq_true rfl) (Nat.le_of_ble_eq_true rfl) dX6_step_206
                refine lv_aload_n hx hb dX6_step_97 rfl (lv_at hl 1 rfl) ?_
                refine lv_aload_n hx hb dX6_step_98 rfl (lv_at hl 1 rfl) ?_
                refine sk_get (v := .int (nI za)) (C := RX6) (T := TX6) (N := 8) hx hb hts inlX6 hown hK hP 0 rfl rfl 1 (by decide) w_1_57 rfl dX6_step_99 ?_
                refine sk_put (ws' := [(q 2, .inr (6, [.ref (q 0), .int (nI za), .int xv, .int (nI xo), .int xt, .int (nI za), .int xf, .int xp])), (q 0, .inr (10, [.ref (q 20), .int (nI tl)])), (q 20, .inl (cI, 1600, .inl (fun j => nI (tb j))))]) (C := RX6) (T := TX6) (N := 8) (v := .int (nI za)) hx hb hts inlX6 tyX6 tyX6_ok nmX6 hown hK hP hD hS 0 rfl rfl 5 (by decide) w_1_64 rfl rfl rfl (Nat.le_of_ble_eq_true rfl) rfl dX6_step_102 (fun H locs hP hD hS => ?_)
                refine lv_aload_n hx hb dX6_step_105 rfl (lv_at hl 1 rfl) ?_
                refine sk_get (v := .int (nI za)) (C := RX6) (T := TX6) (N := 8) hx hb hts inlX6 hown hK hP 0 rfl rfl 1 (by decide) w_1_57 rfl dX6_step_106 ?_
                refine lv_aload_n hx hb dX6_step_109 rfl (lv_at hl 1 rfl) ?_
                refine sk_get (v := .ref (q 0)) (C := RX6) (T := TX6) (N := 8) hx hb hts inlX6 hown hK hP 0 rfl rfl 0 (by decide) w_1_56 rfl dX6_step_110 ?_
                refine sk_get (v := .int (nI tl)) (C := RX10) (T := TX10) (N := 2) hx hb hts inlX10 hown hK hP 1 rfl rfl 1 (by decide) w_1_43 rfl dX6_step_113 ?_
                refine lv_icmp_lt (tgt := 125) hx hb dX6_step_116 (by decide) (fun c_40 => ?_) (fun c_40 => ?_)
                · have c_40 : za < tl := (nlt za tl (by omega) (by omega)).mp c_40
                  refine lv_aload_n hx hb dX6_step_125 rfl (lv_at hl 1 rfl) ?_
                  refine sk_get (v := .ref (q 0)) (C := RX6) (T := TX6) (N := 8) hx hb hts inlX6 hown hK hP 0 rfl rfl 0 (by decide) w_1_56 rfl dX6_step_126 ?_
                  refine sk_get (v := .ref (q 20)) (C := RX10) (T := TX10) (N := 2) hx hb hts inlX10 hown hK hP 1 rfl rfl 0 (by decide) w_1_40 rfl dX6_step_129 ?_
                  refine lv_aload_n hx hb dX6_step_132 rfl (lv_at hl 1 rfl) ?_
                  refine sk_get (v := .int (nI za)) (C := RX6) (T := TX6) (N := 8) hx hb hts inlX6 hown hK hP 0 rfl rfl 1 (by decide) w_1_57 rfl dX6_step_133 ?_
                  refine va_iald hx hb hK.1 hP 2 0 rfl rfl (vin za 1600 (by omega) (by omega)) dX6_step_136 ?_
                  refine sk_top (nI (tb za)) (nrd tb za (by omega)) ?_
                  have hb_41 := htb za
                  refine lv_istore_n (lv' := [(2, .int (nI (tb za))), (1, .int bh), (0, .ref (q 2))]) hx hb dX6_step_137 rfl hl (by decide) rfl (fun ls hl => ?_)
                  refine lv_iload_n hx hb dX6_step_138 rfl (lv_at hl 0 rfl) ?_
                  refine lv_bipush (v := 97) hx hb dX6_step_139 (by decide) ?_
                  refine lv_icmp_lt (tgt := 157) hx hb dX6_step_141 (by decide) (fun c_42 => ?_) (fun c_42 => ?_)
                  · have c_42 : tb za < 97 := (nlt (tb za) 97 (by omega) (by omega)).mp c_42
                    refine lv_iload_n hx hb dX6_step_157 rfl (lv_at hl 0 rfl) ?_
                    refine lv_bipush (v := 48) hx hb dX6_step_158 (by decide) ?_
                    refine lv_icmp_lt (tgt := 176) hx hb dX6_step_160 (by decide) (fun c_43 => ?_) (fun c_43 => ?_)
                    · have c_43 : tb za < 48 := (nlt (tb za) 48 (by omega) (by omega)).mp c_43
                      refine lv_aload_n hx hb dX6_step_176 rfl (lv_at hl 2 rfl) ?_
                      refine lv_dup hx hb dX6_step_177 rfl ?_
                      refine sk_get (v := .int (nI za)) (C := RX6) (T := TX6) (N := 8) hx hb hts inlX6 hown hK hP 0 rfl rfl 1 (by decide) w_1_57 rfl dX6_step_178 ?_
                      refine lv_iconst (v := 1) hx hb dX6_step_181 (by decide) ?_
                      refine lv_iadd hx hb dX6_step_182 ?_
                      refine sk_top (nI (za + 1)) (nI_add za 1) ?_
                      refine sk_put (ws' := [(q 2, .inr (6, [.ref (q 0), .int (nI (za + 1)), .int xv, .int (nI xo), .int xt, .int (nI za), .int xf, .int xp])), (q 0, .inr (10, [.ref (q 20), .int (nI tl)])), (q 20, .inl (cI, 1600, .inl (fun j => nI (tb j))))]) (C := RX6) (T := TX6) (N := 8) (v := .int (nI (za + 1))) hx hb hts inlX6 tyX6 tyX6_ok nmX6 hown hK hP hD hS 0 rfl rfl 1 (by decide) w_1_57 rfl rfl rfl (Nat.le_of_ble_eq_true rfl) rfl dX6_step_183 (fun H locs hP hD hS => ?_)
                      refine lv_aload_n hx hb dX6_step_186 rfl (lv_at hl 2 rfl) ?_
                      refine lv_iload_n hx hb dX6_step_187 rfl (lv_at hl 0 rfl) ?_
                      refine sk_put (ws' := [(q 2, .inr (6, [.ref (q 0), .int (nI (za + 1)), .int xv, .int (nI xo), .int (nI (tb za)), .int (nI za), .int xf, .int xp])), (q 0, .inr (10, [.ref (q 20), .int (nI tl)])), (q 20, .inl (cI, 1600, .inl (fun j => nI (tb j))))]) (C := RX6) (T := TX6) (N := 8) (v := .int (nI (tb za))) hx hb hts inlX6 tyX6 tyX6_ok nmX6 hown hK hP hD hS 0 rfl rfl 4 (by decide) w_1_60 rfl rfl rfl (Nat.le_of_ble_eq_true rfl) rfl dX6_step_188 (fun H locs hP hD hS => ?_)
                      exact sk_vret hx hb hr hlocks hK hP hD hS (⟨za + 1, xv, nI (tb za), za, by omega, by omega, st_sign htb hbg c_1 hxp hzs (by omega) (qL_f (by omega)) (qD_f (by omega)), rfl⟩) (Nat.le_of_ble_eq_true rfl) (Nat.le_of_ble_eq_true rfl) dX6_step_191
                    · have c_43 : ¬ (tb za < 48) := fun h => c_43 ((nlt (tb za) 48 (by omega) (by omega)).mpr h)
                      refine lv_iload_n hx hb dX6_step_163 rfl (lv_at hl 0 rfl) ?_
                      refine lv_bipush (v := 57) hx hb dX6_step_164 (by decide) ?_
                      refine lv_icmp_gt (tgt := 176) hx hb dX6_step_166 (by decide) (fun c_44 => ?_) (fun c_44 => ?_)
                      · have c_44 : 57 < tb za := (nlt 57 (tb za) (by omega) (by omega)).mp c_44
                        refine lv_aload_n hx hb dX6_step_176 rfl (lv_at hl 2 rfl) ?_
                        refine lv_dup hx hb dX6_step_177 rfl ?_
                        refine sk_get (v := .int (nI za)) (C := RX6) (T := TX6) (N := 8) hx hb hts inlX6 hown hK hP 0 rfl rfl 1 (by decide) w_1_57 rfl dX6_step_178 ?_
                        refine lv_iconst (v := 1) hx hb dX6_step_181 (by decide) ?_
                        refine lv_iadd hx hb dX6_step_182 ?_
                        refine sk_top (nI (za + 1)) (nI_add za 1) ?_
                        refine sk_put (ws' := [(q 2, .inr (6, [.ref (q 0), .int (nI (za + 1)), .int xv, .int (nI xo), .int xt, .int (nI za), .int xf, .int xp])), (q 0, .inr (10, [.ref (q 20), .int (nI tl)])), (q 20, .inl (cI, 1600, .inl (fun j => nI (tb j))))]) (C := RX6) (T := TX6) (N := 8) (v := .int (nI (za + 1))) hx hb hts inlX6 tyX6 tyX6_ok nmX6 hown hK hP hD hS 0 rfl rfl 1 (by decide) w_1_57 rfl rfl rfl (Nat.le_of_ble_eq_true rfl) rfl dX6_step_183 (fun H locs hP hD hS => ?_)
                        refine lv_aload_n hx hb dX6_step_186 rfl (lv_at hl 2 rfl) ?_
                        refine lv_iload_n hx hb dX6_step_187 rfl (lv_at hl 0 rfl) ?_
                        refine sk_put (ws' := [(q 2, .inr (6, [.ref (q 0), .int (nI (za + 1)), .int xv, .int (nI xo), .int (nI (tb za)), .int (nI za), .int xf, .int xp])), (q 0, .inr (10, [.ref (q 20), .int (nI tl)])), (q 20, .inl (cI, 1600, .inl (fun j => nI (tb j))))]) (C := RX6) (T := TX6) (N := 8) (v := .int (nI (tb za))) hx hb hts inlX6 tyX6 tyX6_ok nmX6 hown hK hP hD hS 0 rfl rfl 4 (by decide) w_1_60 rfl rfl rfl (Nat.le_of_ble_eq_true rfl) rfl dX6_step_188 (fun H locs hP hD hS => ?_)
                        exact sk_vret hx hb hr hlocks hK hP hD hS (⟨za + 1, xv, nI (tb za), za, by omega, by omega, st_sign htb hbg c_1 hxp hzs (by omega) (qL_f (by omega)) (qD_f (by omega)), rfl⟩) (Nat.le_of_ble_eq_true rfl) (Nat.le_of_ble_eq_true rfl) dX6_step_191
                      · have c_44 : ¬ (57 < tb za) := fun h => c_44 ((nlt 57 (tb za) (by omega) (by omega)).mpr h)
                        refine lv_aload_n hx hb dX6_step_169 rfl (lv_at hl 2 rfl) ?_
                        refine sk_Vv (q0 := 0) (n := 0) (rest := []) (wr := fmR om_3_7 _) ⟨hx, hb, hml, hown, hts⟩ hl.1 (c_erd_readNumber l D cI cJ cC cZ cS q za xv xo xt za xf xp tl tb (by omega) (by omega) (by omega) htb (by omega)) w_3_42 w_3_44 w_0_3 w_1_4 w_3_45 hd_X6_readNumber_0 ⟨⟨(Nat.le_of_ble_eq_true rfl), (Nat.le_of_ble_eq_true rfl)⟩, (Nat.le_of_ble_eq_true rfl), (Nat.le_of_ble_eq_true rfl)⟩ hK hP hD hS hA (fmT om_3_7 0) (fmF om_3_7 0) (fm_C1 rfl rfl) (fm_R rfl rfl) (fm_nT om_3_7 0) (fm_nF om_3_7 0) (fm_di om_3_7 0) rfl rfl rfl rfl (Nat.le_of_ble_eq_true rfl) dX6_step_170 (fun u H locs hw hP hD hS => ?_)
                        refine exE hw (fun xa2_45 hw1 => exE hw1 (fun xv2_46 hw2 => anE hw2 (fun hxa2_47 hw3 => anE hw3 (fun hxe_48 hw4 => anE hw4 (fun hxv_49 eu_50 => ?_)))))
                        clear hw hw1 hw2 hw3 hw4
                        refine o_mgE (ws' := [(q 2, .inr (6, [.ref (q 0), .int (nI xa2_45), .int xv2_46, .int (nI xo), .int (-3), .int (nI za), .int xf, .int xp])), (q 0, .inr (10, [.ref (q 20), .int (nI tl)])), (q 20, .inl (cI, 1600, .inl (fun j => nI (tb j))))]) eu_50 hP hD rfl (fun hP hD => ?_)
                        refine lv_goto (tgt := 192) hx hb dX6_step_173 (by decide) ?_
                        exact jn_38 xa2_45 xv2_46 (-3) za _ _ _ (by omega) rfl (by omega) (by rw [hxe_48, te_n (qL_f (by omega)) (qD_t.mpr (by omega))]) (Or.inr ⟨qL_f (by omega), qD_t.mpr (by omega), rfl, hxv_49⟩) hP hD hS (lv_sub hl [1, 2] rfl)
                  · have c_42 : ¬ (tb za < 97) := fun h => c_42 ((nlt (tb za) 97 (by omega) (by omega)).mpr h)
                    refine lv_iload_n hx hb dX6_step_144 rfl (lv_at hl 0 rfl) ?_
                    refine lv_bipush (v := 122) hx hb dX6_step_145 (by decide) ?_
                    refine lv_icmp_gt (tgt := 157) hx hb dX6_step_147 (by decide) (fun c_51 => ?_) (fun c_51 => ?_)
                    · have c_51 : 122 < tb za := (nlt 122 (tb za) (by omega) (by omega)).mp c_51
                      refine lv_iload_n hx hb dX6_step_157 rfl (lv_at hl 0 rfl) ?_
                      refine lv_bipush (v := 48) hx hb dX6_step_158 (by decide) ?_
                      refine lv_icmp_lt (tgt := 176) hx hb dX6_step_160 (by decide) (fun c_52 => ?_) (fun c_52 => ?_)
                      · have c_52 : tb za < 48 := (nlt (tb za) 48 (by omega) (by omega)).mp c_52
                        refine lv_aload_n hx hb dX6_step_176 rfl (lv_at hl 2 rfl) ?_
                        refine lv_dup hx hb dX6_step_177 rfl ?_
                        refine sk_get (v := .int (nI za)) (C := RX6) (T := TX6) (N := 8) hx hb hts inlX6 hown hK hP 0 rfl rfl 1 (by decide) w_1_57 rfl dX6_step_178 ?_
                        refine lv_iconst (v := 1) hx hb dX6_step_181 (by decide) ?_
                        refine lv_iadd hx hb dX6_step_182 ?_
                        refine sk_top (nI (za + 1)) (nI_add za 1) ?_
                        refine sk_put (ws' := [(q 2, .inr (6, [.ref (q 0), .int (nI (za + 1)), .int xv, .int (nI xo), .int xt, .int (nI za), .int xf, .int xp])), (q 0, .inr (10, [.ref (q 20), .int (nI tl)])), (q 20, .inl (cI, 1600, .inl (fun j => nI (tb j))))]) (C := RX6) (T := TX6) (N := 8) (v := .int (nI (za + 1))) hx hb hts inlX6 tyX6 tyX6_ok nmX6 hown hK hP hD hS 0 rfl rfl 1 (by decide) w_1_57 rfl rfl rfl (Nat.le_of_ble_eq_true rfl) rfl dX6_step_183 (fun H locs hP hD hS => ?_)
                        refine lv_aload_n hx hb dX6_step_186 rfl (lv_at hl 2 rfl) ?_
                        refine lv_iload_n hx hb dX6_step_187 rfl (lv_at hl 0 rfl) ?_
                        refine sk_put (ws' := [(q 2, .inr (6, [.ref (q 0), .int (nI (za + 1)), .int xv, .int (nI xo), .int (nI (tb za)), .int (nI za), .int xf, .int xp])), (q 0, .inr (10, [.ref (q 20), .int (nI tl)])), (q 20, .inl (cI, 1600, .inl (fun j => nI (tb j))))]) (C := RX6) (T := TX6) (N := 8) (v := .int (nI (tb za))) hx hb hts inlX6 tyX6 tyX6_ok nmX6 hown hK hP hD hS 0 rfl rfl 4 (by decide) w_1_60 rfl rfl rfl (Nat.le_of_ble_eq_true rfl) rfl dX6_step_188 (fun H locs hP hD hS => ?_)
                        exact sk_vret hx hb hr hlocks hK hP hD hS (⟨za + 1, xv, nI (tb za), za, by omega, by omega, st_sign htb hbg c_1 hxp hzs (by omega) (qL_f (by omega)) (qD_f (by omega)), rfl⟩) (Nat.le_of_ble_eq_true rfl) (Nat.le_of_ble_eq_true rfl) dX6_step_191
                      · have c_52 : ¬ (tb za < 48) := fun h => c_52 ((nlt (tb za) 48 (by omega) (by omega)).mpr h)
                        refine lv_iload_n hx hb dX6_step_163 rfl (lv_at hl 0 rfl) ?_
                        refine lv_bipush (v := 57) hx hb dX6_step_164 (by decide) ?_
                        refine lv_icmp_gt (tgt := 176) hx hb dX6_step_166 (by decide) (fun c_53 => ?_) (fun c_53 => ?_)
                        · have c_53 : 57 < tb za := (nlt 57 (tb za) (by omega) (by omega)).mp c_53
                          refine lv_aload_n hx hb dX6_step_176 rfl (lv_at hl 2 rfl) ?_
                          refine lv_dup hx hb dX6_step_177 rfl ?_
                          refine sk_get (v := .int (nI za)) (C := RX6) (T := TX6) (N := 8) hx hb hts inlX6 hown hK hP 0 rfl rfl 1 (by decide) w_1_57 rfl dX6_step_178 ?_
                          refine lv_iconst (v := 1) hx hb dX6_step_181 (by decide) ?_
                          refine lv_iadd hx hb dX6_step_182 ?_
                          refine sk_top (nI (za + 1)) (nI_add za 1) ?_
                          refine sk_put (ws' := [(q 2, .inr (6, [.ref (q 0), .int (nI (za + 1)), .int xv, .int (nI xo), .int xt, .int (nI za), .int xf, .int xp])), (q 0, .inr (10, [.ref (q 20), .int (nI tl)])), (q 20, .inl (cI, 1600, .inl (fun j => nI (tb j))))]) (C := RX6) (T := TX6) (N := 8) (v := .int (nI (za + 1))) hx hb hts inlX6 tyX6 tyX6_ok nmX6 hown hK hP hD hS 0 rfl rfl 1 (by decide) w_1_57 rfl rfl rfl (Nat.le_of_ble_eq_true rfl) rfl dX6_step_183 (fun H locs hP hD hS => ?_)
                          refine lv_aload_n hx hb dX6_step_186 rfl (lv_at hl 2 rfl) ?_
                          refine lv_iload_n hx hb dX6_step_187 rfl (lv_at hl 0 rfl) ?_
                          refine sk_put (ws' := [(q 2, .inr (6, [.ref (q 0), .int (nI (za + 1)), .int xv, .int (nI xo), .int (nI (tb za)), .int (nI za), .int xf, .int xp])), (q 0, .inr (10, [.ref (q 20), .int (nI tl)])), (q 20, .inl (cI, 1600, .inl (fun j => nI (tb j))))]) (C := RX6) (T := TX6) (N := 8) (v := .int (nI (tb za))) hx hb hts inlX6 tyX6 tyX6_ok nmX6 hown hK hP hD hS 0 rfl rfl 4 (by decide) w_1_60 rfl rfl rfl (Nat.le_of_ble_eq_true rfl) rfl dX6_step_188 (fun H locs hP hD hS => ?_)
                          exact sk_vret hx hb hr hlocks hK hP hD hS (⟨za + 1, xv, nI (tb za), za, by omega, by omega, st_sign htb hbg c_1 hxp hzs (by omega) (qL_f (by omega)) (qD_f (by omega)), rfl⟩) (Nat.le_of_ble_eq_true rfl) (Nat.le_of_ble_eq_true rfl) dX6_step_191
                        · have c_53 : ¬ (57 < tb za) := fun h => c_53 ((nlt 57 (tb za) (by omega) (by omega)).mpr h)
                          refine lv_aload_n hx hb dX6_step_169 rfl (lv_at hl 2 rfl) ?_
                          refine sk_Vv (q0 := 0) (n := 0) (rest := []) (wr := fmR om_3_7 _) ⟨hx, hb, hml, hown, hts⟩ hl.1 (c_erd_readNumber l D cI cJ cC cZ cS q za xv xo xt za xf xp tl tb (by omega) (by omega) (by omega) htb (by omega)) w_3_42 w_3_44 w_0_3 w_1_4 w_3_45 hd_X6_readNumber_0 ⟨⟨(Nat.le_of_ble_eq_true rfl), (Nat.le_of_ble_eq_true rfl)⟩, (Nat.le_of_ble_eq_true rfl), (Nat.le_of_ble_eq_true rfl)⟩ hK hP hD hS hA (fmT om_3_7 0) (fmF om_3_7 0) (fm_C1 rfl rfl) (fm_R rfl rfl) (fm_nT om_3_7 0) (fm_nF om_3_7 0) (fm_di om_3_7 0) rfl rfl rfl rfl (Nat.le_of_ble_eq_true rfl) dX6_step_170 (fun u H locs hw hP hD hS => ?_)
                          refine exE hw (fun xa2_54 hw1 => exE hw1 (fun xv2_55 hw2 => anE hw2 (fun hxa2_56 hw3 => anE hw3 (fun hxe_57 hw4 => anE hw4 (fun hxv_58 eu_59 => ?_)))))
                          clear hw hw1 hw2 hw3 hw4
                          refine o_mgE (ws' := [(q 2, .inr (6, [.ref (q 0), .int (nI xa2_54), .int xv2_55, .int (nI xo), .int (-3), .int (nI za), .int xf, .int xp])), (q 0, .inr (10, [.ref (q 20), .int (nI tl)])), (q 20, .inl (cI, 1600, .inl (fun j => nI (tb j))))]) eu_59 hP hD rfl (fun hP hD => ?_)
                          refine lv_goto (tgt := 192) hx hb dX6_step_173 (by decide) ?_
                          exact jn_38 xa2_54 xv2_55 (-3) za _ _ _ (by omega) rfl (by omega) (by rw [hxe_57, te_n (qL_f (by omega)) (qD_t.mpr (by omega))]) (Or.inr ⟨qL_f (by omega), qD_t.mpr (by omega), rfl, hxv_58⟩) hP hD hS (lv_sub hl [1, 2] rfl)
                    · have c_51 : ¬ (122 < tb za) := fun h => c_51 ((nlt 122 (tb za) (by omega) (by omega)).mpr h)
                      refine lv_aload_n hx hb dX6_step_150 rfl (lv_at hl 2 rfl) ?_
                      refine sk_VvZ (q0 := 0) (n := 0) (rest := []) (wr := fmR om_3_7 _) ⟨hx, hb, hml, hown, hts⟩ hl.1 (c_erd_readWord l D cI cJ cC cZ cS zk zv zf q za xv xo xt za xf xp tl tb (by omega) (by omega) (by omega) htb (by omega)) w_2_229 w_2_231 w_0_2 w_1_4 w_2_232 hd_X6_readWord_0 ⟨⟨(Nat.le_of_ble_eq_true rfl), (Nat.le_of_ble_eq_true rfl)⟩, (Nat.le_of_ble_eq_true rfl), (Nat.le_of_ble_eq_true rfl)⟩ hK hP hD hS hZ hA (fmT om_3_7 0) (fmF om_3_7 0) (fm_C1 rfl rfl) (fm_R rfl rfl) (fm_nT om_3_7 0) (fm_nF om_3_7 0) (fm_di om_3_7 0) rfl rfl rfl rfl (Nat.le_of_ble_eq_true rfl) dX6_step_151 (fun u H locs hw hP hD hS => ?_)
                      refine exE hw (fun xa2_60 hw1 => exE hw1 (fun xt2_61 hw2 => anE hw2 (fun hxa2_62 hw3 => anE hw3 (fun hxe_63 hw4 => anE hw4 (fun hxt_64 eu_65 => ?_)))))
                      clear hw hw1 hw2 hw3 hw4
                      refine o_mgE (ws' := [(q 2, .inr (6, [.ref (q 0), .int (nI xa2_60), .int xv, .int (nI xo), .int xt2_61, .int (nI za), .int xf, .int xp])), (q 0, .inr (10, [.ref (q 20), .int (nI tl)])), (q 20, .inl (cI, 1600, .inl (fun j => nI (tb j))))]) eu_65 hP hD rfl (fun hP hD => ?_)
                      refine lv_goto (tgt := 192) hx hb dX6_step_154 (by decide) ?_
                      exact jn_38 xa2_60 xv xt2_61 za _ _ _ (by omega) rfl (by omega) (by rw [hxe_63, te_w (qL_t.mpr (by omega))]) (Or.inl ⟨qL_t.mpr (by omega), hxt_64⟩) hP hD hS (lv_sub hl [1, 2] rfl)
                · have c_40 : ¬ (za < tl) := fun h => c_40 ((nlt za tl (by omega) (by omega)).mpr h)
                  refine lv_aload_n hx hb dX6_step_119 rfl (lv_at hl 1 rfl) ?_
                  refine lv_iconst (v := (-1)) hx hb dX6_step_120 (by decide) ?_
                  refine sk_put (ws' := [(q 2, .inr (6, [.ref (q 0), .int (nI za), .int xv, .int (nI xo), .int (-1), .int (nI za), .int xf, .int xp])), (q 0, .inr (10, [.ref (q 20), .int (nI tl)])), (q 20, .inl (cI, 1600, .inl (fun j => nI (tb j))))]) (C := RX6) (T := TX6) (N := 8) (v := .int (-1)) hx hb hts inlX6 tyX6 tyX6_ok nmX6 hown hK hP hD hS 0 rfl rfl 4 (by decide) w_1_60 rfl rfl rfl (Nat.le_of_ble_eq_true rfl) rfl dX6_step_121 (fun H locs hP hD hS => ?_)
                  exact sk_vret hx hb hr hlocks hK hP hD hS (⟨za, xv, (-1), za, by omega, by omega, st_end hbg c_1 hxp hcn hzs (by omega), rfl⟩) (Nat.le_of_ble_eq_true rfl) (Nat.le_of_ble_eq_true rfl) dX6_step_124
              · have c_37 : tb za = 10 := (neq (tb za) 10 (by omega) (by omega)).mp c_37
                refine lv_aload_n hx hb dX6_step_84 rfl (lv_at hl 1 rfl) ?_
                refine lv_dup hx hb dX6_step_85 rfl ?_
                refine sk_get (v := .int (nI za)) (C := RX6) (T := TX6) (N := 8) hx hb hts inlX6 hown hK hP 0 rfl rfl 1 (by decide) w_1_57 rfl dX6_step_86 ?_
                refine lv_iconst (v := 1) hx hb dX6_step_89 (by decide) ?_
                refine lv_iadd hx hb dX6_step_90 ?_
                refine sk_top (nI (za + 1)) (nI_add za 1) ?_
                refine sk_put (ws' := [(q 2, .inr (6, [.ref (q 0), .int (nI (za + 1)), .int xv, .int (nI xo), .int xt, .int (nI xz), .int xf, .int xp])), (q 0, .inr (10, [.ref (q 20), .int (nI tl)])), (q 20, .inl (cI, 1600, .inl (fun j => nI (tb j))))]) (C := RX6) (T := TX6) (N := 8) (v := .int (nI (za + 1))) hx hb hts inlX6 tyX6 tyX6_ok nmX6 hown hK hP hD hS 0 rfl rfl 1 (by decide) w_1_57 rfl rfl rfl (Nat.le_of_ble_eq_true rfl) rfl dX6_step_91 (fun H locs hP hD hS => ?_)
                refine lv_goto (tgt := 36) hx hb dX6_step_94 (by decide) ?_
                exact ih_lp_3 (za + 1) _ _ _ (by omega) (by omega) (ext_nxt hze (by omega) (qB_t.mpr (by omega))) hP hD hS (lv_sub hl [0, 1] rfl)
      exact lp_3 (tl - xa + 1) xa _ _ _ (Nat.lt_succ_self _) (by omega) rfl hP hD hS (lv_sub hl [0, 1] rfl)
    refine lv_aload_n hx hb dX6_step_8 rfl (lv_at hl 0 rfl) ?_
    refine sk_get (v := .int xt) (C := RX6) (T := TX6) (N := 8) hx hb hts inlX6 hown hK hP 0 rfl rfl 4 (by decide) w_1_60 rfl dX6_step_9 ?_
    refine lv_bipush (v := (-3)) hx hb dX6_step_12 (by decide) ?_
    refine lv_icmp_eq (tgt := 27) hx hb dX6_step_14 (by decide) (fun c_66 => ?_) (fun c_66 => ?_)
    · skip
      refine lv_aload_n hx hb dX6_step_27 rfl (lv_at hl 0 rfl) ?_
      refine sk_get (v := .int (nI xa)) (C := RX6) (T := TX6) (N := 8) hx hb hts inlX6 hown hK hP 0 rfl rfl 1 (by decide) w_1_57 rfl dX6_step_28 ?_
      refine lv_goto (tgt := 35) hx hb dX6_step_31 (by decide) ?_
      exact jn_2 (nI xa) _ _ _ (bh_1 hxc hfl (Or.inl c_66)) hP hD hS (lv_sub hl [0] rfl)
    · skip
      refine lv_aload_n hx hb dX6_step_17 rfl (lv_at hl 0 rfl) ?_
      refine sk_get (v := .int xt) (C := RX6) (T := TX6) (N := 8) hx hb hts inlX6 hown hK hP 0 rfl rfl 4 (by decide) w_1_60 rfl dX6_step_18 ?_
      refine lv_sipush (v := 256) hx hb dX6_step_21 (by decide) ?_
      refine lv_icmp_lt (tgt := 34) hx hb dX6_step_24 (by decide) (fun c_67 => ?_) (fun c_67 => ?_)
      · skip
        refine lv_iconst (v := (-1)) hx hb dX6_step_34 (by decide) ?_
        exact jn_2 (-1) _ _ _ (bh_2 hfl (by intro hq; rcases hq with hq | hq; exact absurd hq c_66; exact absurd c_67 (Int32.not_lt.mpr hq))) hP hD hS (lv_sub hl [0] rfl)
      · obtain ⟨k_68, hk_68, h1k_68, rfl⟩ := nofge xt 256 (by omega) c_67
        refine lv_aload_n hx hb dX6_step_27 rfl (lv_at hl 0 rfl) ?_
        refine sk_get (v := .int (nI xa)) (C := RX6) (T := TX6) (N := 8) hx hb hts inlX6 hown hK hP 0 rfl rfl 1 (by decide) w_1_57 rfl dX6_step_28 ?_
        refine lv_goto (tgt := 35) hx hb dX6_step_31 (by decide) ?_
        exact jn_2 (nI xa) _ _ _ (bh_1 hxc hfl (Or.inr (Int32.not_lt.mp c_67))) hP hD hS (lv_sub hl [0] rfl)
  · skip
    exact sk_vret hx hb hr hlocks hK hP hD hS (⟨xa, xv, xt, xz, by omega, by omega, st_err hO c_1, rfl⟩) (Nat.le_of_ble_eq_true rfl) (Nat.le_of_ble_eq_true rfl) dX6_step_7

