set_option maxHeartbeats 4000000 in
set_option maxRecDepth 100000 in
theorem c_kfloorModL (l : Launch) (D : va_G) (cI cJ cC cZ cS : ClassId) (x : Int64)  : skM l yJ9_floorMod_f86c9 cJ9_floorMod_f86c9 6 (some .long) 0 0 0 0 D (skT cI cJ cC cZ cS) [.long x, .long 10] [] (skL D (skT cI cJ cC cZ cS) (fun (r : Int64) (u : va_W) => r.toInt = ((kcTen x : Nat) : Int) ∧ u = [])) := by
  refine skM_of pf_J9_floorMod_f86c9 (Nat.le_of_ble_eq_true rfl) ?_
  intro p e s m below meth c A ls E hP hD hl
  refine skE_el E (fun hx hb hr hml hlocks hin hown hts hK hA => ?_)
  have hown : s.vm.findClass RJ9 = some m.cls := hown
  have hS : va_S A s.heap s.heap [] := va_S.rf
  have hl : lv_has ls 6 [(0, .long x), (2, .long 10)] := hl
  refine lv_lload_n hx hb dJ9_floorMod_f86c9_0 rfl (lv_at hl 0 rfl) ?_
  refine lv_lload_n hx hb dJ9_floorMod_f86c9_1 rfl (lv_at hl 1 rfl) ?_
  refine lv_lrem hx hb dJ9_floorMod_f86c9_2 (by decide) ?_
  refine lv_topl (fun v_1 ev_1 => ?_)
  refine lv_lstore (lv' := [(4, .long v_1), (0, .long x), (2, .long 10)]) hx hb dJ9_floorMod_f86c9_3 hl (by decide) rfl (fun ls hl => ?_)
  refine lv_lload_n hx hb dJ9_floorMod_f86c9_5 rfl (lv_at hl 1 rfl) ?_
  refine lv_lload_n hx hb dJ9_floorMod_f86c9_6 rfl (lv_at hl 2 rfl) ?_
  refine lv_lxor hx hb dJ9_floorMod_f86c9_7 ?_
  refine lv_lconst (v := 0) hx hb dJ9_floorMod_f86c9_8 (by decide) ?_
  refine W.lcmp hx hb dJ9_floorMod_f86c9_9 ?_
  refine lv_if_ge (tgt := 25) hx hb dJ9_floorMod_f86c9_10 (by decide) (fun c_2 => ?_) (fun c_2 => ?_)
  · skip
    refine lv_lload hx hb dJ9_floorMod_f86c9_25 (lv_at hl 0 rfl) ?_
    exact sk_lret hx hb hr hlocks hK hP hD hS (⟨kten_a ev_1 c_2, rfl⟩) (Nat.le_of_ble_eq_true rfl) (Nat.le_of_ble_eq_true rfl) dJ9_floorMod_f86c9_27
  · skip
    refine lv_lload hx hb dJ9_floorMod_f86c9_13 (lv_at hl 0 rfl) ?_
    refine lv_lconst (v := 0) hx hb dJ9_floorMod_f86c9_15 (by decide) ?_
    refine W.lcmp hx hb dJ9_floorMod_f86c9_16 ?_
    refine lv_if_eq (tgt := 25) hx hb dJ9_floorMod_f86c9_17 (by decide) (fun c_3 => ?_) (fun c_3 => ?_)
    · skip
      refine lv_lload hx hb dJ9_floorMod_f86c9_25 (lv_at hl 0 rfl) ?_
      exact sk_lret hx hb hr hlocks hK hP hD hS (⟨kten_b ev_1 c_3, rfl⟩) (Nat.le_of_ble_eq_true rfl) (Nat.le_of_ble_eq_true rfl) dJ9_floorMod_f86c9_27
    · skip
      refine lv_lload hx hb dJ9_floorMod_f86c9_20 (lv_at hl 0 rfl) ?_
      refine lv_lload_n hx hb dJ9_floorMod_f86c9_22 rfl (lv_at hl 2 rfl) ?_
      refine lv_ladd hx hb dJ9_floorMod_f86c9_23 ?_
      refine lv_topl (fun v_4 ev_4 => ?_)
      exact sk_lret hx hb hr hlocks hK hP hD hS (⟨kten_c ev_1 c_2 c_3 ev_4, rfl⟩) (Nat.le_of_ble_eq_true rfl) (Nat.le_of_ble_eq_true rfl) dJ9_floorMod_f86c9_24
set_option maxHeartbeats 4000000 in
set_option maxRecDepth 100000 in
theorem c_kfloorMod (l : Launch) (D : va_G) (cI cJ cC cZ cS : ClassId) (x : Int64)  : skM l yJ9_floorMod_1978a cJ9_floorMod_1978a 3 (some .int) 1 25 0 0 D (skT cI cJ cC cZ cS) [.long x, .int 10] [] (skI D (skT cI cJ cC cZ cS) (fun (r : Int32) (u : va_W) => r = nI (kcTen x) ∧ u = [])) := by
  refine skM_of pf_J9_floorMod_1978a (Nat.le_of_ble_eq_true rfl) ?_
  intro p e s m below meth c A ls E hP hD hl
  refine skE_el E (fun hx hb hr hml hlocks hin hown hts hK hA => ?_)
  have hown : s.vm.findClass RJ9 = some m.cls := hown
  have hS : va_S A s.heap s.heap [] := va_S.rf
  have hl : lv_has ls 3 [(0, .long x), (2, .int 10)] := hl
  refine lv_lload_n hx hb dJ9_floorMod_1978a_0 rfl (lv_at hl 0 rfl) ?_
  refine lv_iload_n hx hb dJ9_floorMod_1978a_1 rfl (lv_at hl 1 rfl) ?_
  refine lv_i2l (v := 10) hx hb dJ9_floorMod_1978a_2 (by decide) ?_
  refine sk_Sl (n := 2) (rest := []) (wr := []) ⟨hx, hb, hml, hown, hts⟩ hl.1 (c_kfloorModL l D cI cJ cC cZ cS x) w_4_10 w_4_11 w_1_3 w_4_12 hd_J9_floorMod_f86c9_2 ⟨⟨(Nat.le_of_ble_eq_true rfl), (Nat.le_of_ble_eq_true rfl)⟩, (Nat.le_of_ble_eq_true rfl), (Nat.le_of_ble_eq_true rfl)⟩ hK hP hD hS hA [] [] rfl rfl (by decide +kernel) (by decide +kernel) (by decide +kernel) rfl rfl (Nat.le_of_ble_eq_true rfl) dJ9_floorMod_1978a_3 (fun r_1 u H locs hw hP hD hS => ?_)
  obtain ⟨hr_2, rfl⟩ := hw
  refine o_re (ws' := []) hP hD rfl (fun hP hD => ?_)
  refine lv_l2i hx hb dJ9_floorMod_1978a_6 rfl ?_
  have ht := kcTen_lt x
  refine sk_top (nI (kcTen x)) (kten_i hr_2 (by omega)) ?_
  exact sk_iret hx hb hr rfl hlocks hK hP hD hS (⟨rfl, rfl⟩) (Nat.le_of_ble_eq_true rfl) (Nat.le_of_ble_eq_true rfl) dJ9_floorMod_1978a_7
set_option maxHeartbeats 4000000 in
set_option maxRecDepth 100000 in
theorem c_kofTwo (l : Launch) (D : va_G) (cI cJ cC cZ cS : ClassId) (oc : Nat) (x : Int64) (y : Int64) (hc1 : 1 ≤ oc) (hc6 : oc ≤ 6) : skM l yX0_ofTwo cX0_ofTwo 5 (some .long) 1 25 0 0 D (skT cI cJ cC cZ cS) [.int (nI (29999 + oc)), .long x, .long y] [] (skL D (skT cI cJ cC cZ cS) (fun (r : Int64) (u : va_W) => r = kcOp oc x y ∧ u = [])) := by
  refine skM_of pf_X0_ofTwo (Nat.le_of_ble_eq_true rfl) ?_
  intro p e s m below meth c A ls E hP hD hl
  refine skE_el E (fun hx hb hr hml hlocks hin hown hts hK hA => ?_)
  have hown : s.vm.findClass RX0 = some m.cls := hown
  have hS : va_S A s.heap s.heap [] := va_S.rf
  have hl : lv_has ls 5 [(0, .int (nI (29999 + oc))), (1, .long x), (3, .long y)] := hl
  refine lv_iload_n hx hb dX0_ofTwo_0 rfl (lv_at hl 0 rfl) ?_
  by_cases g_1 : nI (29999 + oc) = 30000
  · refine lv_tableIn (off := 55) (tgt := 56) hx hb dX0_ofTwo_1 (by rw [g_1]; decide) (by rw [g_1]; decide) (by rw [g_1]; rfl) (by decide) ?_
    refine lv_lload_n hx hb dX0_ofTwo_56 rfl (lv_at hl 1 rfl) ?_
    refine lv_lload_n hx hb dX0_ofTwo_57 rfl (lv_at hl 2 rfl) ?_
    refine lv_ladd hx hb dX0_ofTwo_58 ?_
    refine sk_Sl (n := 1) (rest := []) (wr := []) ⟨hx, hb, hml, hown, hts⟩ hl.1 (c_kbounded l D cI cJ cC cZ cS (x + y)) w_3_228 w_3_229 w_1_8 w_3_230 hd_X0_bounded_1 ⟨⟨(Nat.le_of_ble_eq_true rfl), (Nat.le_of_ble_eq_true rfl)⟩, (Nat.le_of_ble_eq_true rfl), (Nat.le_of_ble_eq_true rfl)⟩ hK hP hD hS hA [] [] rfl rfl (by decide +kernel) (by decide +kernel) (by decide +kernel) rfl rfl (Nat.le_of_ble_eq_true rfl) dX0_ofTwo_59 (fun r_2 u H locs hw hP hD hS => ?_)
    obtain ⟨hr_3, rfl⟩ := hw
    refine o_re (ws' := []) hP hD rfl (fun hP hD => ?_)
    subst hr_3
    exact sk_lret hx hb hr hlocks hK hP hD hS (⟨kop_1 g_1 hc6, rfl⟩) (Nat.le_of_ble_eq_true rfl) (Nat.le_of_ble_eq_true rfl) dX0_ofTwo_62
  by_cases g_4 : nI (29999 + oc) = 30001
  · refine lv_tableIn (off := 62) (tgt := 63) hx hb dX0_ofTwo_1 (by rw [g_4]; decide) (by rw [g_4]; decide) (by rw [g_4]; rfl) (by decide) ?_
    refine lv_lload_n hx hb dX0_ofTwo_63 rfl (lv_at hl 1 rfl) ?_
    refine lv_lload_n hx hb dX0_ofTwo_64 rfl (lv_at hl 2 rfl) ?_
    refine lv_lsub hx hb dX0_ofTwo_65 ?_
    refine sk_Sl (n := 1) (rest := []) (wr := []) ⟨hx, hb, hml, hown, hts⟩ hl.1 (c_kbounded l D cI cJ cC cZ cS (x - y)) w_3_228 w_3_229 w_1_8 w_3_230 hd_X0_bounded_1 ⟨⟨(Nat.le_of_ble_eq_true rfl), (Nat.le_of_ble_eq_true rfl)⟩, (Nat.le_of_ble_eq_true rfl), (Nat.le_of_ble_eq_true rfl)⟩ hK hP hD hS hA [] [] rfl rfl (by decide +kernel) (by decide +kernel) (by decide +kernel) rfl rfl (Nat.le_of_ble_eq_true rfl) dX0_ofTwo_66 (fun r_5 u H locs hw hP hD hS => ?_)
    obtain ⟨hr_6, rfl⟩ := hw
    refine o_re (ws' := []) hP hD rfl (fun hP hD => ?_)
    subst hr_6
    exact sk_lret hx hb hr hlocks hK hP hD hS (⟨kop_2 g_4 hc6, rfl⟩) (Nat.le_of_ble_eq_true rfl) (Nat.le_of_ble_eq_true rfl) dX0_ofTwo_69
  by_cases g_7 : nI (29999 + oc) = 30002
  · refine lv_tableIn (off := 69) (tgt := 70) hx hb dX0_ofTwo_1 (by rw [g_7]; decide) (by rw [g_7]; decide) (by rw [g_7]; rfl) (by decide) ?_
    refine lv_lload_n hx hb dX0_ofTwo_70 rfl (lv_at hl 1 rfl) ?_
    refine lv_lload_n hx hb dX0_ofTwo_71 rfl (lv_at hl 2 rfl) ?_
    refine lv_lmul hx hb dX0_ofTwo_72 ?_
    refine sk_Sl (n := 1) (rest := []) (wr := []) ⟨hx, hb, hml, hown, hts⟩ hl.1 (c_kbounded l D cI cJ cC cZ cS (x * y)) w_3_228 w_3_229 w_1_8 w_3_230 hd_X0_bounded_1 ⟨⟨(Nat.le_of_ble_eq_true rfl), (Nat.le_of_ble_eq_true rfl)⟩, (Nat.le_of_ble_eq_true rfl), (Nat.le_of_ble_eq_true rfl)⟩ hK hP hD hS hA [] [] rfl rfl (by decide +kernel) (by decide +kernel) (by decide +kernel) rfl rfl (Nat.le_of_ble_eq_true rfl) dX0_ofTwo_73 (fun r_8 u H locs hw hP hD hS => ?_)
    obtain ⟨hr_9, rfl⟩ := hw
    refine o_re (ws' := []) hP hD rfl (fun hP hD => ?_)
    subst hr_9
    exact sk_lret hx hb hr hlocks hK hP hD hS (⟨kop_3 g_7 hc6, rfl⟩) (Nat.le_of_ble_eq_true rfl) (Nat.le_of_ble_eq_true rfl) dX0_ofTwo_76
  by_cases g_10 : nI (29999 + oc) = 30003
  · refine lv_tableIn (off := 76) (tgt := 77) hx hb dX0_ofTwo_1 (by rw [g_10]; decide) (by rw [g_10]; decide) (by rw [g_10]; rfl) (by decide) ?_
    refine lv_lload_n hx hb dX0_ofTwo_77 rfl (lv_at hl 2 rfl) ?_
    refine lv_lconst (v := 0) hx hb dX0_ofTwo_78 (by decide) ?_
    refine W.lcmp hx hb dX0_ofTwo_79 ?_
    refine lv_if_ne (tgt := 87) hx hb dX0_ofTwo_80 (by decide) (fun c_11 => ?_) (fun c_11 => ?_)
    · skip
      refine lv_lload_n hx hb dX0_ofTwo_87 rfl (lv_at hl 1 rfl) ?_
      refine lv_lload_n hx hb dX0_ofTwo_88 rfl (lv_at hl 2 rfl) ?_
      refine sk_Sl (n := 2) (rest := []) (wr := []) ⟨hx, hb, hml, hown, hts⟩ hl.1 (c_kfloorDiv l D cI cJ cC cZ cS x y (lg_ne0 c_11)) w_3_233 w_3_234 w_1_3 w_3_235 hd_J9_floorDiv_f86c9_2 ⟨⟨(Nat.le_of_ble_eq_true rfl), (Nat.le_of_ble_eq_true rfl)⟩, (Nat.le_of_ble_eq_true rfl), (Nat.le_of_ble_eq_true rfl)⟩ hK hP hD hS hA [] [] rfl rfl (by decide +kernel) (by decide +kernel) (by decide +kernel) rfl rfl (Nat.le_of_ble_eq_true rfl) dX0_ofTwo_89 (fun r_12 u H locs hw hP hD hS => ?_)
      obtain ⟨hr_13, rfl⟩ := hw
      refine o_re (ws' := []) hP hD rfl (fun hP hD => ?_)
      subst hr_13
      exact sk_lret hx hb hr hlocks hK hP hD hS (⟨kop_4 g_10 hc6 rfl, rfl⟩) (Nat.le_of_ble_eq_true rfl) (Nat.le_of_ble_eq_true rfl) dX0_ofTwo_92
    · skip
      refine lv_lconst (v := 0) hx hb dX0_ofTwo_83 (by decide) ?_
      refine lv_goto (tgt := 92) hx hb dX0_ofTwo_84 (by decide) ?_
      exact sk_lret hx hb hr hlocks hK hP hD hS (⟨kop_4 g_10 hc6 (kfl_0 ((lg_cmp_eq _ _).mp c_11)), rfl⟩) (Nat.le_of_ble_eq_true rfl) (Nat.le_of_ble_eq_true rfl) dX0_ofTwo_92
  by_cases g_14 : nI (29999 + oc) = 30004
  · refine lv_tableIn (off := 92) (tgt := 93) hx hb dX0_ofTwo_1 (by rw [g_14]; decide) (by rw [g_14]; decide) (by rw [g_14]; rfl) (by decide) ?_
    refine lv_lload_n hx hb dX0_ofTwo_93 rfl (lv_at hl 1 rfl) ?_
    refine lv_lload_n hx hb dX0_ofTwo_94 rfl (lv_at hl 2 rfl) ?_
    refine va_mmin_long hx hb (by rw [hml]; exact hl.1.symm) hown (hts _ w_3_236) (hts _ w_3_237) (hts _ w_1_3) (hts _ w_3_238) (Nat.le_of_ble_eq_true rfl) (Nat.le_of_ble_eq_true rfl) (Nat.le_of_ble_eq_true rfl) (Nat.le_of_ble_eq_true rfl) dX0_ofTwo_95 ?_
    refine lv_topl (fun v_15 ev_15 => ?_)
    exact sk_lret hx hb hr hlocks hK hP hD hS (⟨ev_15.trans (kop_5 g_14 hc6), rfl⟩) (Nat.le_of_ble_eq_true rfl) (Nat.le_of_ble_eq_true rfl) dX0_ofTwo_98
  by_cases g_16 : nI (29999 + oc) = 30005
  · refine lv_tableIn (off := 98) (tgt := 99) hx hb dX0_ofTwo_1 (by rw [g_16]; decide) (by rw [g_16]; decide) (by rw [g_16]; rfl) (by decide) ?_
    refine lv_lload_n hx hb dX0_ofTwo_99 rfl (lv_at hl 1 rfl) ?_
    refine lv_lload_n hx hb dX0_ofTwo_100 rfl (lv_at hl 2 rfl) ?_
    refine va_mmax_long hx hb (by rw [hml]; exact hl.1.symm) hown (hts _ w_3_239) (hts _ w_4_0) (hts _ w_1_3) (hts _ w_4_1) (Nat.le_of_ble_eq_true rfl) (Nat.le_of_ble_eq_true rfl) (Nat.le_of_ble_eq_true rfl) (Nat.le_of_ble_eq_true rfl) dX0_ofTwo_101 ?_
    refine lv_topl (fun v_17 ev_17 => ?_)
    exact sk_lret hx hb hr hlocks hK hP hD hS (⟨ev_17.trans (kop_6 g_16 hc6), rfl⟩) (Nat.le_of_ble_eq_true rfl) (Nat.le_of_ble_eq_true rfl) dX0_ofTwo_104
  by_cases g_18 : nI (29999 + oc) = 30006
  · refine lv_tableIn (off := 104) (tgt := 105) hx hb dX0_ofTwo_1 (by rw [g_18]; decide) (by rw [g_18]; decide) (by rw [g_18]; rfl) (by decide) ?_
    refine lv_lload_n hx hb dX0_ofTwo_105 rfl (lv_at hl 1 rfl) ?_
    refine lv_lload_n hx hb dX0_ofTwo_106 rfl (lv_at hl 2 rfl) ?_
    refine W.lcmp hx hb dX0_ofTwo_107 ?_
    refine lv_if_ge (tgt := 115) hx hb dX0_ofTwo_108 (by decide) (fun c_19 => ?_) (fun c_19 => ?_)
    · skip
      refine lv_lconst (v := 0) hx hb dX0_ofTwo_115 (by decide) ?_
      exact sk_lret hx hb hr hlocks hK hP hD hS (⟨kop_x (k := 30006) g_18 hc6 (by decide) (by decide), rfl⟩) (Nat.le_of_ble_eq_true rfl) (Nat.le_of_ble_eq_true rfl) dX0_ofTwo_116
    · skip
      refine lv_lconst (v := 1) hx hb dX0_ofTwo_111 (by decide) ?_
      refine lv_goto (tgt := 116) hx hb dX0_ofTwo_112 (by decide) ?_
      exact sk_lret hx hb hr hlocks hK hP hD hS (⟨kop_x (k := 30006) g_18 hc6 (by decide) (by decide), rfl⟩) (Nat.le_of_ble_eq_true rfl) (Nat.le_of_ble_eq_true rfl) dX0_ofTwo_116
  by_cases g_20 : nI (29999 + oc) = 30007
  · refine lv_tableIn (off := 116) (tgt := 117) hx hb dX0_ofTwo_1 (by rw [g_20]; decide) (by rw [g_20]; decide) (by rw [g_20]; rfl) (by decide) ?_
    refine lv_lload_n hx hb dX0_ofTwo_117 rfl (lv_at hl 1 rfl) ?_
    refine lv_lload_n hx hb dX0_ofTwo_118 rfl (lv_at hl 2 rfl) ?_
    refine W.lcmp hx hb dX0_ofTwo_119 ?_
    refine lv_if_le (tgt := 127) hx hb dX0_ofTwo_120 (by decide) (fun c_21 => ?_) (fun c_21 => ?_)
    · skip
      refine lv_lconst (v := 0) hx hb dX0_ofTwo_127 (by decide) ?_
      exact sk_lret hx hb hr hlocks hK hP hD hS (⟨kop_x (k := 30007) g_20 hc6 (by decide) (by decide), rfl⟩) (Nat.le_of_ble_eq_true rfl) (Nat.le_of_ble_eq_true rfl) dX0_ofTwo_128
    · skip
      refine lv_lconst (v := 1) hx hb dX0_ofTwo_123 (by decide) ?_
      refine lv_goto (tgt := 128) hx hb dX0_ofTwo_124 (by decide) ?_
      exact sk_lret hx hb hr hlocks hK hP hD hS (⟨kop_x (k := 30007) g_20 hc6 (by decide) (by decide), rfl⟩) (Nat.le_of_ble_eq_true rfl) (Nat.le_of_ble_eq_true rfl) dX0_ofTwo_128
  by_cases g_22 : nI (29999 + oc) = 30008
  · refine lv_tableIn (off := 128) (tgt := 129) hx hb dX0_ofTwo_1 (by rw [g_22]; decide) (by rw [g_22]; decide) (by rw [g_22]; rfl) (by decide) ?_
    refine lv_lload_n hx hb dX0_ofTwo_129 rfl (lv_at hl 1 rfl) ?_
    refine lv_lload_n hx hb dX0_ofTwo_130 rfl (lv_at hl 2 rfl) ?_
    refine W.lcmp hx hb dX0_ofTwo_131 ?_
    refine lv_if_ne (tgt := 139) hx hb dX0_ofTwo_132 (by decide) (fun c_23 => ?_) (fun c_23 => ?_)
    · skip
      refine lv_lconst (v := 0) hx hb dX0_ofTwo_139 (by decide) ?_
      exact sk_lret hx hb hr hlocks hK hP hD hS (⟨kop_x (k := 30008) g_22 hc6 (by decide) (by decide), rfl⟩) (Nat.le_of_ble_eq_true rfl) (Nat.le_of_ble_eq_true rfl) dX0_ofTwo_140
    · skip
      refine lv_lconst (v := 1) hx hb dX0_ofTwo_135 (by decide) ?_
      refine lv_goto (tgt := 140) hx hb dX0_ofTwo_136 (by decide) ?_
      exact sk_lret hx hb hr hlocks hK hP hD hS (⟨kop_x (k := 30008) g_22 hc6 (by decide) (by decide), rfl⟩) (Nat.le_of_ble_eq_true rfl) (Nat.le_of_ble_eq_true rfl) dX0_ofTwo_140
  by_cases g_24 : nI (29999 + oc) = 30009
  · refine lv_tableIn (off := 140) (tgt := 141) hx hb dX0_ofTwo_1 (by rw [g_24]; decide) (by rw [g_24]; decide) (by rw [g_24]; rfl) (by decide) ?_
    refine lv_lload_n hx hb dX0_ofTwo_141 rfl (lv_at hl 1 rfl) ?_
    refine lv_lconst (v := 0) hx hb dX0_ofTwo_142 (by decide) ?_
    refine W.lcmp hx hb dX0_ofTwo_143 ?_
    refine lv_if_eq (tgt := 157) hx hb dX0_ofTwo_144 (by decide) (fun c_25 => ?_) (fun c_25 => ?_)
    · skip
      refine lv_lconst (v := 0) hx hb dX0_ofTwo_157 (by decide) ?_
      exact sk_lret hx hb hr hlocks hK hP hD hS (⟨kop_x (k := 30009) g_24 hc6 (by decide) (by decide), rfl⟩) (Nat.le_of_ble_eq_true rfl) (Nat.le_of_ble_eq_true rfl) dX0_ofTwo_158
    · skip
      refine lv_lload_n hx hb dX0_ofTwo_147 rfl (lv_at hl 2 rfl) ?_
      refine lv_lconst (v := 0) hx hb dX0_ofTwo_148 (by decide) ?_
      refine W.lcmp hx hb dX0_ofTwo_149 ?_
      refine lv_if_eq (tgt := 157) hx hb dX0_ofTwo_150 (by decide) (fun c_26 => ?_) (fun c_26 => ?_)
      · skip
        refine lv_lconst (v := 0) hx hb dX0_ofTwo_157 (by decide) ?_
        exact sk_lret hx hb hr hlocks hK hP hD hS (⟨kop_x (k := 30009) g_24 hc6 (by decide) (by decide), rfl⟩) (Nat.le_of_ble_eq_true rfl) (Nat.le_of_ble_eq_true rfl) dX0_ofTwo_158
      · skip
        refine lv_lconst (v := 1) hx hb dX0_ofTwo_153 (by decide) ?_
        refine lv_goto (tgt := 158) hx hb dX0_ofTwo_154 (by decide) ?_
        exact sk_lret hx hb hr hlocks hK hP hD hS (⟨kop_x (k := 30009) g_24 hc6 (by decide) (by decide), rfl⟩) (Nat.le_of_ble_eq_true rfl) (Nat.le_of_ble_eq_true rfl) dX0_ofTwo_158
  refine lv_tableOut (tgt := 159) hx hb dX0_ofTwo_1 (sk_out2 30000 30009 (by intro k hk1 hk2; rcases (show k = 30000 ∨ k = 30001 ∨ k = 30002 ∨ k = 30003 ∨ k = 30004 ∨ k = 30005 ∨ k = 30006 ∨ k = 30007 ∨ k = 30008 ∨ k = 30009 by omega) with rfl | rfl | rfl | rfl | rfl | rfl | rfl | rfl | rfl | rfl <;> assumption)) (by decide) ?_
  refine lv_lload_n hx hb dX0_ofTwo_159 rfl (lv_at hl 1 rfl) ?_
  refine lv_lconst (v := 0) hx hb dX0_ofTwo_160 (by decide) ?_
  refine W.lcmp hx hb dX0_ofTwo_161 ?_
  refine lv_if_ne (tgt := 171) hx hb dX0_ofTwo_162 (by decide) (fun c_27 => ?_) (fun c_27 => ?_)
  · skip
    refine lv_lconst (v := 1) hx hb dX0_ofTwo_171 (by decide) ?_
    refine lv_goto (tgt := 176) hx hb dX0_ofTwo_172 (by decide) ?_
    exact sk_lret hx hb hr hlocks hK hP hD hS (⟨(kop_f hc1 hc6 (by assumption) (by assumption) (by assumption) (by assumption) (by assumption) (by assumption)).elim, rfl⟩) (Nat.le_of_ble_eq_true rfl) (Nat.le_of_ble_eq_true rfl) dX0_ofTwo_176
  · skip
    refine lv_lload_n hx hb dX0_ofTwo_165 rfl (lv_at hl 2 rfl) ?_
    refine lv_lconst (v := 0) hx hb dX0_ofTwo_166 (by decide) ?_
    refine W.lcmp hx hb dX0_ofTwo_167 ?_
    refine lv_if_eq (tgt := 175) hx hb dX0_ofTwo_168 (by decide) (fun c_28 => ?_) (fun c_28 => ?_)
    · skip
      refine lv_lconst (v := 0) hx hb dX0_ofTwo_175 (by decide) ?_
      exact sk_lret hx hb hr hlocks hK hP hD hS (⟨(kop_f hc1 hc6 (by assumption) (by assumption) (by assumption) (by assumption) (by assumption) (by assumption)).elim, rfl⟩) (Nat.le_of_ble_eq_true rfl) (Nat.le_of_ble_eq_true rfl) dX0_ofTwo_176
    · skip
      refine lv_lconst (v := 1) hx hb dX0_ofTwo_171 (by decide) ?_
      refine lv_goto (tgt := 176) hx hb dX0_ofTwo_172 (by decide) ?_
      exact sk_lret hx hb hr hlocks hK hP hD hS (⟨(kop_f hc1 hc6 (by assumption) (by assumption) (by assumption) (by assumption) (by assumption) (by assumption)).elim, rfl⟩) (Nat.le_of_ble_eq_true rfl) (Nat.le_of_ble_eq_true rfl) dX0_ofTwo_176
