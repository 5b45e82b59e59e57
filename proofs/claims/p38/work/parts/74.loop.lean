theorem dL_law_33 : decode cL_law 33 = .ok (.tableswitch 1138 0 38 #[171, 234, 257, 270, 293, 316, 349, 382, 425, 458, 471, 504, 537, 550, 583, 596, 619, 632, 665, 678, 701, 714, 747, 790, 823, 836, 849, 872, 905, 948, 981, 994, 1017, 1030, 1053, 1066, 1079, 1102, 1115], 171) := by decide +kernel
theorem dg_L_law_18_18 : bqL cL_law 18 [(0, [29]), (1, [42]), (2, [190]), (3, [16, 6]), (5, [100]), (6, [163, 4, 129]), (1159, [4]), (1160, [172]), (1153, [132, 3, 6]), (1156, [167, 251, 124]), (9, [42]), (10, [29]), (11, [46]), (12, [16, 63]), (14, [126])] = true := by decide +kernel
theorem dL_law_18 : decode cL_law 18 = .ok (.iload_n 3, 1) := q_iload_n3 (bat_get dg_L_law_18_18 0 rfl rfl)
theorem dL_law_19 : decode cL_law 19 = .ok (.aload_n 0, 1) := q_aload_n0 (bat_get dg_L_law_18_18 1 rfl rfl)
theorem dL_law_20 : decode cL_law 20 = .ok (.arraylength, 1) := q_arraylength (bat_get dg_L_law_18_18 2 rfl rfl)
theorem dL_law_21 : decode cL_law 21 = .ok (.bipush 6, 2) := q_bipush (bat_get dg_L_law_18_18 3 rfl rfl) rfl
theorem dL_law_23 : decode cL_law 23 = .ok (.isub, 1) := q_isub (bat_get dg_L_law_18_18 4 rfl rfl)
theorem dL_law_24 : decode cL_law 24 = .ok (.if_icmp .gt 1153, 3) := q_if_icmp_gt (bat_get dg_L_law_18_18 5 rfl rfl) rfl
theorem dL_law_1177 : decode cL_law 1177 = .ok (.iconst 1, 1) := q_iconst1 (bat_get dg_L_law_18_18 6 rfl rfl)
theorem dL_law_1178 : decode cL_law 1178 = .ok (.ireturn, 1) := q_ireturn (bat_get dg_L_law_18_18 7 rfl rfl)
theorem dL_law_1171 : decode cL_law 1171 = .ok (.iinc 3 6, 3) := q_iinc (bat_get dg_L_law_18_18 8 rfl rfl) rfl
theorem dL_law_1174 : decode cL_law 1174 = .ok (.goto (-1156), 3) := q_goto (bat_get dg_L_law_18_18 9 rfl rfl) rfl
theorem dL_law_27 : decode cL_law 27 = .ok (.aload_n 0, 1) := q_aload_n0 (bat_get dg_L_law_18_18 10 rfl rfl)
theorem dL_law_28 : decode cL_law 28 = .ok (.iload_n 3, 1) := q_iload_n3 (bat_get dg_L_law_18_18 11 rfl rfl)
theorem dL_law_29 : decode cL_law 29 = .ok (.iaload, 1) := q_iaload (bat_get dg_L_law_18_18 12 rfl rfl)
theorem dL_law_30 : decode cL_law 30 = .ok (.bipush 63, 2) := q_bipush (bat_get dg_L_law_18_18 13 rfl rfl) rfl
theorem dL_law_32 : decode cL_law 32 = .ok (.iand, 1) := q_iand (bat_get dg_L_law_18_18 14 rfl rfl)
set_option maxHeartbeats 4000000 in
set_option maxRecDepth 100000 in
theorem law_loop (l : Launch) (D : va_G) (cI cJ cC cZ cS : ClassId) (zk zv : Nat) (zf : Value) (x0 mm : Nat) {p : Program} {e : Env} {s : State} {m : MethodId} {below : List Frame} {meth : Method} {c : Code} {b Ln : Nat} {xs : Nat → Int32} {A : Nat → Prop} (E : lwE p s m meth c b Ln xs zk zv zf D (skT cI cJ cC cZ cS) A) : ∀ (n i : Nat) (tl : Nat) (tb : Nat → Nat) (dy : Nat) (L : LkS) (nS : KN) (lg : KLg) (ac : Nat) (su : Nat → KN) (hn : Nat) (hR : Nat → Nat) (sd : Nat) (rf : Nat → Int32) (pn : Nat) (pB : Nat → Nat) (xf : Int32) (xp : Int32) (xw mw : va_W) (H : Heap) (locs : List Loc) (ls : Array Slot), Ln + 6 - i < n → i ≤ 3078 → kOk L dy nS lg ac su hn hR sd → xI cI cJ cC cZ cS x0 tl tb dy L nS lg ac su hn hR sd rf pn pB xf xp xw → mI cI cJ cC cZ cS mm tl tb dy L nS lg ac su hn hR sd rf pn pB xf xp mw → va_P D vwCl (xw ++ mw) H → va_D A (xw ++ mw) → va_S A s.heap H locs → lv_has ls 4 [(3, .int (nI i)), (2, .ref mm), (1, .ref x0), (0, .ref b)] → W p l e room_1 s m #[Value.ref b] below meth c H locs 182 32192 (lw_Z below #[Value.ref b] s) (F0 m 18 ls []) := by
  obtain ⟨hx, hb, hr, hml, hlocks, hown, hts, hX, hbl, hA, hbA, hAf, hK, hZ, hL⟩ := id E
  intro n
  induction n with
  | zero => intro i tl tb dy L nS lg ac su hn hR sd rf pn pB xf xp xw mw H locs ls hm; exact absurd hm (Nat.not_lt_zero _)
  | succ n ih =>
    intro i tl tb dy L nS lg ac su hn hR sd rf pn pB xf xp xw mw H locs ls hm hi3 hk hI hJ hP hD hS hl
    refine lv_iload_n hx hb dL_law_18 rfl (lv_at hl 0 rfl) ?_
    refine lv_aload_n hx hb dL_law_19 rfl (lv_at hl 3 rfl) ?_
    refine va_slen hx hb hX hbl hbA hS dL_law_20 ?_
    refine lv_bipush (v := 6) hx hb dL_law_21 (by decide) ?_
    refine lv_isub hx hb dL_law_23 ?_
    refine lv_topi (fun v ev => ?_)
    refine lv_icmp_gt (tgt := 1177) hx hb dL_law_24 (by decide) (fun c1 => ?_) (fun c1 => ?_)
    · refine lv_iconst (v := 1) hx hb dL_law_1177 (by decide) ?_
      refine va_forget (fun q hq => hAf _ (hS.2.2 q hq)) ?_
      refine W.widen (k := 600000) (n := 7302250) (Nat.le_of_ble_eq_true rfl) (Nat.le_of_ble_eq_true rfl) ?_
      exact lw_ret hx hb hr hlocks dL_law_1178
    · have hi6 := law_le hL hi3 ev c1
      have K : ∀ (tl : Nat) (tb : Nat → Nat) (dy : Nat) (L : LkS) (nS : KN) (lg : KLg) (ac : Nat) (su : Nat → KN) (hn : Nat) (hR : Nat → Nat) (sd : Nat) (rf : Nat → Int32) (pn : Nat) (pB : Nat → Nat) (xf : Int32) (xp : Int32) (xw mw : va_W) (H : Heap) (locs : List Loc) (ls : Array Slot), kOk L dy nS lg ac su hn hR sd → xI cI cJ cC cZ cS x0 tl tb dy L nS lg ac su hn hR sd rf pn pB xf xp xw → mI cI cJ cC cZ cS mm tl tb dy L nS lg ac su hn hR sd rf pn pB xf xp mw → va_P D vwCl (xw ++ mw) H → va_D A (xw ++ mw) → va_S A s.heap H locs → lv_has ls 4 [(3, .int (nI i)), (2, .ref mm), (1, .ref x0), (0, .ref b)] → W p l e room_1 s m #[Value.ref b] below meth c H locs 182 32192 (lw_Z below #[Value.ref b] s) (F0 m 1171 ls []) := by
        intro tl tb dy L nS lg ac su hn hR sd rf pn pB xf xp xw mw H locs ls hk hI hJ hP hD hS hl
        refine lv_iinc (v := nI (i + 6)) (lv' := [(3, .int (nI (i + 6))), (2, .ref mm), (1, .ref x0), (0, .ref b)]) hx hb dL_law_1171 hl (k := 0) rfl (ninc i 6 (by decide)) (by decide) rfl (fun ls hl => ?_)
        refine lv_goto (tgt := 18) hx hb dL_law_1174 (by decide) ?_
        exact ih (i + 6) tl tb dy L nS lg ac su hn hR sd rf pn pB xf xp xw mw H locs ls (by omega) (by omega) hk hI hJ hP hD hS hl
      refine lv_aload_n hx hb dL_law_27 rfl (lv_at hl 3 rfl) ?_
      refine lv_iload_n hx hb dL_law_28 rfl (lv_at hl 0 rfl) ?_
      refine va_sld hx hb hX hbl hbA hS (vin i Ln (by omega) (by omega)) dL_law_29 ?_
      refine lv_bipush (v := 63) hx hb dL_law_30 (by decide) ?_
      refine lv_iand hx hb dL_law_32 ?_
      refine lv_topi (fun w ew => ?_)
      by_cases g0 : w = 0
      · refine lv_tableIn (off := 171) (tgt := 204) hx hb dL_law_33 (by rw [g0]; decide) (by rw [g0]; decide) (by rw [g0]; rfl) (by decide) ?_
        exact law_0 l D cI cJ cC cZ cS zk zv zf x0 mm i tl tb dy L nS lg ac su hn hR sd rf pn pB xf xp xw mw E hi6 hk hI hJ hP hD hS hl K
      by_cases g1 : w = 1
      · refine lv_tableIn (off := 234) (tgt := 267) hx hb dL_law_33 (by rw [g1]; decide) (by rw [g1]; decide) (by rw [g1]; rfl) (by decide) ?_
        exact law_1 l D cI cJ cC cZ cS zk zv zf x0 mm i tl tb dy L nS lg ac su hn hR sd rf pn pB xf xp xw mw E hi6 hk hI hJ hP hD hS hl K
      by_cases g2 : w = 2
      · refine lv_tableIn (off := 257) (tgt := 290) hx hb dL_law_33 (by rw [g2]; decide) (by rw [g2]; decide) (by rw [g2]; rfl) (by decide) ?_
        exact law_2 l D cI cJ cC cZ cS zk zv zf x0 mm i tl tb dy L nS lg ac su hn hR sd rf pn pB xf xp xw mw E hi6 hk hI hJ hP hD hS hl K
      by_cases g3 : w = 3
      · refine lv_tableIn (off := 270) (tgt := 303) hx hb dL_law_33 (by rw [g3]; decide) (by rw [g3]; decide) (by rw [g3]; rfl) (by decide) ?_
        exact law_3 l D cI cJ cC cZ cS zk zv zf x0 mm i tl tb dy L nS lg ac su hn hR sd rf pn pB xf xp xw mw E hi6 hk hI hJ hP hD hS hl K
      by_cases g4 : w = 4
      · refine lv_tableIn (off := 293) (tgt := 326) hx hb dL_law_33 (by rw [g4]; decide) (by rw [g4]; decide) (by rw [g4]; rfl) (by decide) ?_
        exact law_4 l D cI cJ cC cZ cS zk zv zf x0 mm i tl tb dy L nS lg ac su hn hR sd rf pn pB xf xp xw mw E hi6 hk hI hJ hP hD hS hl K
      by_cases g5 : w = 5
      · refine lv_tableIn (off := 316) (tgt := 349) hx hb dL_law_33 (by rw [g5]; decide) (by rw [g5]; decide) (by rw [g5]; rfl) (by decide) ?_
        exact law_5 l D cI cJ cC cZ cS zk zv zf x0 mm i tl tb dy L nS lg ac su hn hR sd rf pn pB xf xp xw mw E hi6 hk hI hJ hP hD hS hl K
      by_cases g6 : w = 6
      · refine lv_tableIn (off := 349) (tgt := 382) hx hb dL_law_33 (by rw [g6]; decide) (by rw [g6]; decide) (by rw [g6]; rfl) (by decide) ?_
        exact law_6 l D cI cJ cC cZ cS zk zv zf x0 mm i tl tb dy L nS lg ac su hn hR sd rf pn pB xf xp xw mw E hi6 hk hI hJ hP hD hS hl K
      by_cases g7 : w = 7
      · refine lv_tableIn (off := 382) (tgt := 415) hx hb dL_law_33 (by rw [g7]; decide) (by rw [g7]; decide) (by rw [g7]; rfl) (by decide) ?_
        exact law_7 l D cI cJ cC cZ cS zk zv zf x0 mm i tl tb dy L nS lg ac su hn hR sd rf pn pB xf xp xw mw E hi6 hk hI hJ hP hD hS hl K
      by_cases g8 : w = 8
      · refine lv_tableIn (off := 425) (tgt := 458) hx hb dL_law_33 (by rw [g8]; decide) (by rw [g8]; decide) (by rw [g8]; rfl) (by decide) ?_
        exact law_8 l D cI cJ cC cZ cS zk zv zf x0 mm i tl tb dy L nS lg ac su hn hR sd rf pn pB xf xp xw mw E hi6 hk hI hJ hP hD hS hl K
      by_cases g9 : w = 9
      · refine lv_tableIn (off := 458) (tgt := 491) hx hb dL_law_33 (by rw [g9]; decide) (by rw [g9]; decide) (by rw [g9]; rfl) (by decide) ?_
        exact law_9 l D cI cJ cC cZ cS zk zv zf x0 mm i tl tb dy L nS lg ac su hn hR sd rf pn pB xf xp xw mw E hi6 hk hI hJ hP hD hS hl K
      by_cases g10 : w = 10
      · refine lv_tableIn (off := 471) (tgt := 504) hx hb dL_law_33 (by rw [g10]; decide) (by rw [g10]; decide) (by rw [g10]; rfl) (by decide) ?_
        exact law_10 l D cI cJ cC cZ cS zk zv zf x0 mm i tl tb dy L nS lg ac su hn hR sd rf pn pB xf xp xw mw E hi6 hk hI hJ hP hD hS hl K
      by_cases g11 : w = 11
      · refine lv_tableIn (off := 504) (tgt := 537) hx hb dL_law_33 (by rw [g11]; decide) (by rw [g11]; decide) (by rw [g11]; rfl) (by decide) ?_
        exact law_11 l D cI cJ cC cZ cS zk zv zf x0 mm i tl tb dy L nS lg ac su hn hR sd rf pn pB xf xp xw mw E hi6 hk hI hJ hP hD hS hl K
      by_cases g12 : w = 12
      · refine lv_tableIn (off := 537) (tgt := 570) hx hb dL_law_33 (by rw [g12]; decide) (by rw [g12]; decide) (by rw [g12]; rfl) (by decide) ?_
        exact law_12 l D cI cJ cC cZ cS zk zv zf x0 mm i tl tb dy L nS lg ac su hn hR sd rf pn pB xf xp xw mw E hi6 hk hI hJ hP hD hS hl K
      by_cases g13 : w = 13
      · refine lv_tableIn (off := 550) (tgt := 583) hx hb dL_law_33 (by rw [g13]; decide) (by rw [g13]; decide) (by rw [g13]; rfl) (by decide) ?_
        exact law_13 l D cI cJ cC cZ cS zk zv zf x0 mm i tl tb dy L nS lg ac su hn hR sd rf pn pB xf xp xw mw E hi6 hk hI hJ hP hD hS hl K
      by_cases g14 : w = 14
      · refine lv_tableIn (off := 583) (tgt := 616) hx hb dL_law_33 (by rw [g14]; decide) (by rw [g14]; decide) (by rw [g14]; rfl) (by decide) ?_
        exact law_14 l D cI cJ cC cZ cS zk zv zf x0 mm i tl tb dy L nS lg ac su hn hR sd rf pn pB xf xp xw mw E hi6 hk hI hJ hP hD hS hl K
      by_cases g15 : w = 15
      · refine lv_tableIn (off := 596) (tgt := 629) hx hb dL_law_33 (by rw [g15]; decide) (by rw [g15]; decide) (by rw [g15]; rfl) (by decide) ?_
        exact law_15 l D cI cJ cC cZ cS zk zv zf x0 mm i tl tb dy L nS lg ac su hn hR sd rf pn pB xf xp xw mw E hi6 hk hI hJ hP hD hS hl K
      by_cases g16 : w = 16
      · refine lv_tableIn (off := 619) (tgt := 652) hx hb dL_law_33 (by rw [g16]; decide) (by rw [g16]; decide) (by rw [g16]; rfl) (by decide) ?_
        exact law_16 l D cI cJ cC cZ cS zk zv zf x0 mm i tl tb dy L nS lg ac su hn hR sd rf pn pB xf xp xw mw E hi6 hk hI hJ hP hD hS hl K
      by_cases g17 : w = 17
      · refine lv_tableIn (off := 632) (tgt := 665) hx hb dL_law_33 (by rw [g17]; decide) (by rw [g17]; decide) (by rw [g17]; rfl) (by decide) ?_
        exact law_17 l D cI cJ cC cZ cS zk zv zf x0 mm i tl tb dy L nS lg ac su hn hR sd rf pn pB xf xp xw mw E hi6 hk hI hJ hP hD hS hl K
      by_cases g18 : w = 18
      · refine lv_tableIn (off := 665) (tgt := 698) hx hb dL_law_33 (by rw [g18]; decide) (by rw [g18]; decide) (by rw [g18]; rfl) (by decide) ?_
        exact law_18 l D cI cJ cC cZ cS zk zv zf x0 mm i tl tb dy L nS lg ac su hn hR sd rf pn pB xf xp xw mw E hi6 hk hI hJ hP hD hS hl K
      by_cases g19 : w = 19
      · refine lv_tableIn (off := 678) (tgt := 711) hx hb dL_law_33 (by rw [g19]; decide) (by rw [g19]; decide) (by rw [g19]; rfl) (by decide) ?_
        exact law_19 l D cI cJ cC cZ cS zk zv zf x0 mm i tl tb dy L nS lg ac su hn hR sd rf pn pB xf xp xw mw E hi6 hk hI hJ hP hD hS hl K
      by_cases g20 : w = 20
      · refine lv_tableIn (off := 701) (tgt := 734) hx hb dL_law_33 (by rw [g20]; decide) (by rw [g20]; decide) (by rw [g20]; rfl) (by decide) ?_
        exact law_20 l D cI cJ cC cZ cS zk zv zf x0 mm i tl tb dy L nS lg ac su hn hR sd rf pn pB xf xp xw mw E hi6 hk hI hJ hP hD hS hl K
      by_cases g21 : w = 21
      · refine lv_tableIn (off := 714) (tgt := 747) hx hb dL_law_33 (by rw [g21]; decide) (by rw [g21]; decide) (by rw [g21]; rfl) (by decide) ?_
        exact law_21 l D cI cJ cC cZ cS zk zv zf x0 mm i tl tb dy L nS lg ac su hn hR sd rf pn pB xf xp xw mw E hi6 hk hI hJ hP hD hS hl K
      by_cases g22 : w = 22
      · refine lv_tableIn (off := 747) (tgt := 780) hx hb dL_law_33 (by rw [g22]; decide) (by rw [g22]; decide) (by rw [g22]; rfl) (by decide) ?_
        exact law_22 l D cI cJ cC cZ cS zk zv zf x0 mm i tl tb dy L nS lg ac su hn hR sd rf pn pB xf xp xw mw E hi6 hk hI hJ hP hD hS hl K
      by_cases g23 : w = 23
      · refine lv_tableIn (off := 790) (tgt := 823) hx hb dL_law_33 (by rw [g23]; decide) (by rw [g23]; decide) (by rw [g23]; rfl) (by decide) ?_
        exact law_23 l D cI cJ cC cZ cS zk zv zf x0 mm i tl tb dy L nS lg ac su hn hR sd rf pn pB xf xp xw mw E hi6 hk hI hJ hP hD hS hl K
      by_cases g24 : w = 24
      · refine lv_tableIn (off := 823) (tgt := 856) hx hb dL_law_33 (by rw [g24]; decide) (by rw [g24]; decide) (by rw [g24]; rfl) (by decide) ?_
        exact law_24 l D cI cJ cC cZ cS zk zv zf x0 mm i tl tb dy L nS lg ac su hn hR sd rf pn pB xf xp xw mw E hi6 hk hI hJ hP hD hS hl K
      by_cases g25 : w = 25
      · refine lv_tableIn (off := 836) (tgt := 869) hx hb dL_law_33 (by rw [g25]; decide) (by rw [g25]; decide) (by rw [g25]; rfl) (by decide) ?_
        exact law_25 l D cI cJ cC cZ cS zk zv zf x0 mm i tl tb dy L nS lg ac su hn hR sd rf pn pB xf xp xw mw E hi6 hk hI hJ hP hD hS hl K
      by_cases g26 : w = 26
      · refine lv_tableIn (off := 849) (tgt := 882) hx hb dL_law_33 (by rw [g26]; decide) (by rw [g26]; decide) (by rw [g26]; rfl) (by decide) ?_
        exact law_26 l D cI cJ cC cZ cS zk zv zf x0 mm i tl tb dy L nS lg ac su hn hR sd rf pn pB xf xp xw mw E hi6 hk hI hJ hP hD hS hl K
      by_cases g27 : w = 27
      · refine lv_tableIn (off := 872) (tgt := 905) hx hb dL_law_33 (by rw [g27]; decide) (by rw [g27]; decide) (by rw [g27]; rfl) (by decide) ?_
        exact law_27 l D cI cJ cC cZ cS zk zv zf x0 mm i tl tb dy L nS lg ac su hn hR sd rf pn pB xf xp xw mw E hi6 hk hI hJ hP hD hS hl K
      by_cases g28 : w = 28
      · refine lv_tableIn (off := 905) (tgt := 938) hx hb dL_law_33 (by rw [g28]; decide) (by rw [g28]; decide) (by rw [g28]; rfl) (by decide) ?_
        exact law_28 l D cI cJ cC cZ cS zk zv zf x0 mm i tl tb dy L nS lg ac su hn hR sd rf pn pB xf xp xw mw E hi6 hk hI hJ hP hD hS hl K
      by_cases g29 : w = 29
      · refine lv_tableIn (off := 948) (tgt := 981) hx hb dL_law_33 (by rw [g29]; decide) (by rw [g29]; decide) (by rw [g29]; rfl) (by decide) ?_
        exact law_29 l D cI cJ cC cZ cS zk zv zf x0 mm i tl tb dy L nS lg ac su hn hR sd rf pn pB xf xp xw mw E hi6 hk hI hJ hP hD hS hl K
      by_cases g30 : w = 30
      · refine lv_tableIn (off := 981) (tgt := 1014) hx hb dL_law_33 (by rw [g30]; decide) (by rw [g30]; decide) (by rw [g30]; rfl) (by decide) ?_
        exact law_30 l D cI cJ cC cZ cS zk zv zf x0 mm i tl tb dy L nS lg ac su hn hR sd rf pn pB xf xp xw mw E hi6 hk hI hJ hP hD hS hl K
      by_cases g31 : w = 31
      · refine lv_tableIn (off := 994) (tgt := 1027) hx hb dL_law_33 (by rw [g31]; decide) (by rw [g31]; decide) (by rw [g31]; rfl) (by decide) ?_
        exact law_31 l D cI cJ cC cZ cS zk zv zf x0 mm i tl tb dy L nS lg ac su hn hR sd rf pn pB xf xp xw mw E hi6 hk hI hJ hP hD hS hl K
      by_cases g32 : w = 32
      · refine lv_tableIn (off := 1017) (tgt := 1050) hx hb dL_law_33 (by rw [g32]; decide) (by rw [g32]; decide) (by rw [g32]; rfl) (by decide) ?_
        exact law_32 l D cI cJ cC cZ cS zk zv zf x0 mm i tl tb dy L nS lg ac su hn hR sd rf pn pB xf xp xw mw E hi6 hk hI hJ hP hD hS hl K
      by_cases g33 : w = 33
      · refine lv_tableIn (off := 1030) (tgt := 1063) hx hb dL_law_33 (by rw [g33]; decide) (by rw [g33]; decide) (by rw [g33]; rfl) (by decide) ?_
        exact law_33 l D cI cJ cC cZ cS zk zv zf x0 mm i tl tb dy L nS lg ac su hn hR sd rf pn pB xf xp xw mw E hi6 hk hI hJ hP hD hS hl K
      by_cases g34 : w = 34
      · refine lv_tableIn (off := 1053) (tgt := 1086) hx hb dL_law_33 (by rw [g34]; decide) (by rw [g34]; decide) (by rw [g34]; rfl) (by decide) ?_
        exact law_34 l D cI cJ cC cZ cS zk zv zf x0 mm i tl tb dy L nS lg ac su hn hR sd rf pn pB xf xp xw mw E hi6 hk hI hJ hP hD hS hl K
      by_cases g35 : w = 35
      · refine lv_tableIn (off := 1066) (tgt := 1099) hx hb dL_law_33 (by rw [g35]; decide) (by rw [g35]; decide) (by rw [g35]; rfl) (by decide) ?_
        exact law_35 l D cI cJ cC cZ cS zk zv zf x0 mm i tl tb dy L nS lg ac su hn hR sd rf pn pB xf xp xw mw E hi6 hk hI hJ hP hD hS hl K
      by_cases g36 : w = 36
      · refine lv_tableIn (off := 1079) (tgt := 1112) hx hb dL_law_33 (by rw [g36]; decide) (by rw [g36]; decide) (by rw [g36]; rfl) (by decide) ?_
        exact law_36 l D cI cJ cC cZ cS zk zv zf x0 mm i tl tb dy L nS lg ac su hn hR sd rf pn pB xf xp xw mw E hi6 hk hI hJ hP hD hS hl K
      by_cases g37 : w = 37
      · refine lv_tableIn (off := 1102) (tgt := 1135) hx hb dL_law_33 (by rw [g37]; decide) (by rw [g37]; decide) (by rw [g37]; rfl) (by decide) ?_
        exact law_37 l D cI cJ cC cZ cS zk zv zf x0 mm i tl tb dy L nS lg ac su hn hR sd rf pn pB xf xp xw mw E hi6 hk hI hJ hP hD hS hl K
      by_cases g38 : w = 38
      · refine lv_tableIn (off := 1115) (tgt := 1148) hx hb dL_law_33 (by rw [g38]; decide) (by rw [g38]; decide) (by rw [g38]; rfl) (by decide) ?_
        exact law_38 l D cI cJ cC cZ cS zk zv zf x0 mm i tl tb dy L nS lg ac su hn hR sd rf pn pB xf xp xw mw E hi6 hk hI hJ hP hD hS hl K
      refine lv_tableOut (tgt := 1171) hx hb dL_law_33 (sk_out (n := 38) (by intro k hk; rcases (show k = 0 ∨ k = 1 ∨ k = 2 ∨ k = 3 ∨ k = 4 ∨ k = 5 ∨ k = 6 ∨ k = 7 ∨ k = 8 ∨ k = 9 ∨ k = 10 ∨ k = 11 ∨ k = 12 ∨ k = 13 ∨ k = 14 ∨ k = 15 ∨ k = 16 ∨ k = 17 ∨ k = 18 ∨ k = 19 ∨ k = 20 ∨ k = 21 ∨ k = 22 ∨ k = 23 ∨ k = 24 ∨ k = 25 ∨ k = 26 ∨ k = 27 ∨ k = 28 ∨ k = 29 ∨ k = 30 ∨ k = 31 ∨ k = 32 ∨ k = 33 ∨ k = 34 ∨ k = 35 ∨ k = 36 ∨ k = 37 ∨ k = 38 by omega) with rfl | rfl | rfl | rfl | rfl | rfl | rfl | rfl | rfl | rfl | rfl | rfl | rfl | rfl | rfl | rfl | rfl | rfl | rfl | rfl | rfl | rfl | rfl | rfl | rfl | rfl | rfl | rfl | rfl | rfl | rfl | rfl | rfl | rfl | rfl | rfl | rfl | rfl | rfl <;> assumption)) (by decide) ?_
      exact K tl tb dy L nS lg ac su hn hR sd rf pn pB xf xp xw mw H locs ls hk hI hJ hP hD hS hl
