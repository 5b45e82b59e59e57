theorem dX1_lay_131 : decode cX1_lay 131 = .ok (.iload 6, 2) := q_iload (bat_get dg_X1_lay_38_125 3 rfl rfl)
theorem dX1_lay_133 : decode cX1_lay 133 = .ok (.iload_n 3, 1) := q_iload_n3 (bat_get dg_X1_lay_38_125 4 rfl rfl)
theorem dX1_lay_134 : decode cX1_lay 134 = .ok (.invokevirtual 62, 3) := q_invokevirtual (bat_get dg_X1_lay_38_125 5 rfl rfl) rfl
theorem dX1_lay_137 : decode cX1_lay 137 = .ok (.iastore, 1) := q_iastore (bat_get dg_X1_lay_38_125 6 rfl rfl)
theorem dX1_lay_138 : decode cX1_lay 138 = .ok (.iinc 6 1, 3) := q_iinc (bat_get dg_X1_lay_38_125 7 rfl rfl) rfl
theorem dX1_lay_141 : decode cX1_lay 141 = .ok (.goto (-83), 3) := q_goto (bat_get dg_X1_lay_38_125 8 rfl rfl) rfl
theorem dX1_lay_112 : decode cX1_lay 112 = .ok (.aload_n 0, 1) := q_aload_n0 (bat_get dg_X1_lay_38_125 9 rfl rfl)
theorem dX1_lay_113 : decode cX1_lay 113 = .ok (.getfield 38, 3) := q_getfield (bat_get dg_X1_lay_38_125 10 rfl rfl) rfl
theorem dX1_lay_116 : decode cX1_lay 116 = .ok (.getfield 59, 3) := q_getfield (bat_get dg_X1_lay_38_125 11 rfl rfl) rfl
theorem dX1_lay_119 : decode cX1_lay 119 = .ok (.iload 7, 2) := q_iload (bat_get dg_X1_lay_38_125 12 rfl rfl)
theorem dX1_lay_121 : decode cX1_lay 121 = .ok (.iaload, 1) := q_iaload (bat_get dg_X1_lay_38_125 13 rfl rfl)
theorem dX1_lay_122 : decode cX1_lay 122 = .ok (.goto 15, 3) := q_goto (bat_get dg_X1_lay_38_125 14 rfl rfl) rfl
theorem dX1_lay_80 : decode cX1_lay 80 = .ok (.aload_n 0, 1) := q_aload_n0 (bat_get dg_X1_lay_38_125 15 rfl rfl)
theorem dX1_lay_81 : decode cX1_lay 81 = .ok (.getfield 9, 3) := q_getfield (bat_get dg_X1_lay_38_125 16 rfl rfl) rfl
theorem dX1_lay_84 : decode cX1_lay 84 = .ok (.iload 7, 2) := q_iload (bat_get dg_X1_lay_38_125 17 rfl rfl)
theorem dX1_lay_86 : decode cX1_lay 86 = .ok (.iconst 1, 1) := q_iconst1 (bat_get dg_X1_lay_38_125 18 rfl rfl)
theorem dX1_lay_87 : decode cX1_lay 87 = .ok (.aload_n 0, 1) := q_aload_n0 (bat_get dg_X1_lay_38_125 19 rfl rfl)
theorem dX1_lay_88 : decode cX1_lay 88 = .ok (.getfield 38, 3) := q_getfield (bat_get dg_X1_lay_38_125 20 rfl rfl) rfl
theorem dX1_lay_91 : decode cX1_lay 91 = .ok (.getfield 54, 3) := q_getfield (bat_get dg_X1_lay_38_125 21 rfl rfl) rfl
theorem dX1_lay_94 : decode cX1_lay 94 = .ok (.iload 7, 2) := q_iload (bat_get dg_X1_lay_38_125 22 rfl rfl)
theorem dX1_lay_96 : decode cX1_lay 96 = .ok (.iaload, 1) := q_iaload (bat_get dg_X1_lay_38_125 23 rfl rfl)
theorem dX1_lay_97 : decode cX1_lay 97 = .ok (.ishl, 1) := q_ishl (bat_get dg_X1_lay_38_125 24 rfl rfl)
theorem dX1_lay_98 : decode cX1_lay 98 = .ok (.iastore, 1) := q_iastore (bat_get dg_X1_lay_38_125 25 rfl rfl)
theorem dX1_lay_99 : decode cX1_lay 99 = .ok (.goto 39, 3) := q_goto (bat_get dg_X1_lay_38_125 26 rfl rfl) rfl
theorem dX1_lay_38 : decode cX1_lay 38 = .ok (.iload_n 2, 1) := q_iload_n2 (bat_get dg_X1_lay_38_125 27 rfl rfl)
theorem dX1_lay_39 : decode cX1_lay 39 = .ok (.iload 4, 2) := q_iload (bat_get dg_X1_lay_38_125 28 rfl rfl)
theorem dX1_lay_41 : decode cX1_lay 41 = .ok (.ishr, 1) := q_ishr (bat_get dg_X1_lay_38_125 29 rfl rfl)
theorem dX1_lay_42 : decode cX1_lay 42 = .ok (.iconst 1, 1) := q_iconst1 (bat_get dg_X1_lay_38_125 30 rfl rfl)
theorem dX1_lay_43 : decode cX1_lay 43 = .ok (.iand, 1) := q_iand (bat_get dg_X1_lay_38_125 31 rfl rfl)
theorem dX1_lay_44 : decode cX1_lay 44 = .ok (.iconst 1, 1) := q_iconst1 (bat_get dg_X1_lay_38_125 32 rfl rfl)
theorem dX1_lay_45 : decode cX1_lay 45 = .ok (.if_icmp .ne 7, 3) := q_if_icmp_ne (bat_get dg_X1_lay_38_125 33 rfl rfl) rfl
theorem dX1_lay_52 : decode cX1_lay 52 = .ok (.iconst 0, 1) := q_iconst0 (bat_get dg_X1_lay_38_125 34 rfl rfl)
theorem dX1_lay_48 : decode cX1_lay 48 = .ok (.iconst 1, 1) := q_iconst1 (bat_get dg_X1_lay_38_125 35 rfl rfl)
theorem dX1_lay_49 : decode cX1_lay 49 = .ok (.goto 4, 3) := q_goto (bat_get dg_X1_lay_38_125 36 rfl rfl) rfl
theorem w_1_239 : (Cond.fieldLink RX1 42 "SameKeeper$State" "days" "I") ∈ wsL_law := sk_mem (ck_1 _ (List.mem_of_getElem? (i := 239) rfl)) rfl
theorem w_2_102 : (Cond.fieldLink RX1 31 "SameKeeper$Graph" "days" "I") ∈ wsL_law := sk_mem (ck_2 _ (List.mem_of_getElem? (i := 102) rfl)) rfl
theorem w_2_9 : (Cond.fieldLink RX1 45 "SameKeeper$State" "mood" "I") ∈ wsL_law := sk_mem (ck_2 _ (List.mem_of_getElem? (i := 9) rfl)) rfl
theorem w_2_103 : (Cond.fieldLink RX1 35 "SameKeeper$Graph" "start" "I") ∈ wsL_law := sk_mem (ck_2 _ (List.mem_of_getElem? (i := 103) rfl)) rfl
theorem w_4_51 : (Cond.methodLink RX1 48 yJ7_fill_53178) ∈ wsL_law := sk_mem (ck_4 _ (List.mem_of_getElem? (i := 51) rfl)) rfl
theorem w_2_95 : (Cond.fieldLink RX1 38 "SameKeeper$Graph" "table" "LSameKeeper$Table;") ∈ wsL_law := sk_mem (ck_2 _ (List.mem_of_getElem? (i := 95) rfl)) rfl
theorem w_4_52 : (Cond.methodLink RX1 62 yX9_moodsBehind) ∈ wsL_law := sk_mem (ck_4 _ (List.mem_of_getElem? (i := 52) rfl)) rfl
theorem w_2_71 : (Cond.fieldLink RX1 59 "SameKeeper$Table" "open" "[I") ∈ wsL_law := sk_mem (ck_2 _ (List.mem_of_getElem? (i := 71) rfl)) rfl
theorem w_2_68 : (Cond.fieldLink RX1 54 "SameKeeper$Table" "alone" "[I") ∈ wsL_law := sk_mem (ck_2 _ (List.mem_of_getElem? (i := 68) rfl)) rfl
theorem w_4_50 : (Cond.code yX1_lay cX1_lay 8 none) ∈ wsL_law := sk_mem (ck_4 _ (List.mem_of_getElem? (i := 50) rfl)) rfl
def om_9_40 : List Bool := false :: false :: true :: false :: false :: false :: false :: false :: false :: []
def om_9_38 : List Bool := false :: false :: false :: true :: true :: true :: false :: false :: false :: []
set_option maxHeartbeats 4000000 in
set_option maxRecDepth 100000 in
theorem c_lay (l : Launch) (D : va_G) (cI cJ cC cZ cS : ClassId) (q : Nat → Nat) (gd : Nat) (gs : Nat) (e1 : Nat → Int32) (e2 : Nat → Int32) (sa : Nat → Nat) (ft : Nat → Int32) (fa : Nat → Int32) (fo : Nat → Int32) (o0 : Nat) (o1 : Nat) (o2 : Nat) (dy : Nat) (mo : Nat) (wk : Int32) (mu : Int32) (ke : Int32) (fb : Nat → Int32) (fw : Nat → Int32) (li : Nat) (o : Int32) (hsa : ∀ j, sa j ≤ 9) (hdy : dy ≤ 9) (hmo : mo ≤ 9) (hli : li < 10) : skM l yX1_lay cX1_lay 8 none 1 26 0 0 D (skT cI cJ cC cZ cS) [.ref (q 11), .ref o0, .int o, .int (nI li)] [(q 11, .inr (1, [.ref (q 10), .ref (q 67), .ref (q 68), .ref (q 69), .ref (q 70), .ref (q 71), .ref (q 72), .int (nI gd), .int (nI gs)])), (q 67, .inl (cI, 90, .inl e1)), (q 68, .inl (cI, 9, .inl e2)), (q 10, .inr (9, [.ref (q 61), .ref (q 62), .ref (q 63), .ref (q 64), .ref (q 65), .ref (q 66)])), (q 61, .inl (cI, 90, .inl (fun j => nI (sa j)))), (q 62, .inl (cI, 900, .inl ft)), (q 63, .inl (cI, 90, .inl fa)), (q 64, .inl (cI, 90, .inl fo)), (o0, .inr (7, [.ref o1, .ref o2, .int (nI dy), .int wk, .int (nI mo), .int mu, .int ke]))] (skV D (skT cI cJ cC cZ cS) (fun (u : va_W) => ∃ (g1 : Nat → Int32), ∃ (g2 : Nat → Int32), u = [(q 11, .inr (1, [.ref (q 10), .ref (q 67), .ref (q 68), .ref (q 69), .ref (q 70), .ref (q 71), .ref (q 72), .int (nI dy), .int (nI mo)])), (q 67, .inl (cI, 90, .inl g1)), (q 68, .inl (cI, 9, .inl g2)), (q 10, .inr (9, [.ref (q 61), .ref (q 62), .ref (q 63), .ref (q 64), .ref (q 65), .ref (q 66)])), (q 61, .inl (cI, 90, .inl (fun j => nI (sa j)))), (q 62, .inl (cI, 900, .inl ft)), (q 63, .inl (cI, 90, .inl fa)), (q 64, .inl (cI, 90, .inl fo)), (o0, .inr (7, [.ref o1, .ref o2, .int (nI dy), .int wk, .int (nI mo), .int mu, .int ke]))])) := by
  refine skM_of pf_X1_lay (Nat.le_of_ble_eq_true rfl) ?_
  intro p e s m below meth c A ls E hP hD hl
  refine skE_el E (fun hx hb hr hml hlocks hin hown hts hK hA => ?_)
  have hown : s.vm.findClass RX1 = some m.cls := hown
  have hS : va_S A s.heap s.heap [] := va_S.rf
  have hl : lv_has ls 8 [(0, .ref (q 11)), (1, .ref o0), (2, .int o), (3, .int (nI li))] := hl
  refine lv_aload_n hx hb dX1_lay_0 rfl (lv_at hl 0 rfl) ?_
  refine lv_aload_n hx hb dX1_lay_1 rfl (lv_at hl 1 rfl) ?_
  refine sk_get (v := .int (nI dy)) (C := RX7) (T := TX7) (N := 7) hx hb hts inlX7 hown hK hP 8 rfl rfl 2 (by decide) w_1_239 rfl dX1_lay_2 ?_
  refine sk_put (ws' := [(q 11, .inr (1, [.ref (q 10), .ref (q 67), .ref (q 68), .ref (q 69), .ref (q 70), .ref (q 71), .ref (q 72), .int (nI dy), .int (nI gs)])), (q 67, .inl (cI, 90, .inl e1)), (q 68, .inl (cI, 9, .inl e2)), (q 10, .inr (9, [.ref (q 61), .ref (q 62), .ref (q 63), .ref (q 64), .ref (q 65), .ref (q 66)])), (q 61, .inl (cI, 90, .inl (fun j => nI (sa j)))), (q 62, .inl (cI, 900, .inl ft)), (q 63, .inl (cI, 90, .inl fa)), (q 64, .inl (cI, 90, .inl fo)), (o0, .inr (7, [.ref o1, .ref o2, .int (nI dy), .int wk, .int (nI mo), .int mu, .int ke]))]) (C := RX1) (T := TX1) (N := 9) (v := .int (nI dy)) hx hb hts inlX1 tyX1 tyX1_ok nmX1 hown hK hP hD hS 0 rfl rfl 7 (by decide) w_2_102 rfl rfl rfl (Nat.le_of_ble_eq_true rfl) rfl dX1_lay_5 (fun H locs hP hD hS => ?_)
  refine lv_aload_n hx hb dX1_lay_8 rfl (lv_at hl 0 rfl) ?_
  refine lv_aload_n hx hb dX1_lay_9 rfl (lv_at hl 1 rfl) ?_
  refine sk_get (v := .int (nI mo)) (C := RX7) (T := TX7) (N := 7) hx hb hts inlX7 hown hK hP 8 rfl rfl 4 (by decide) w_2_9 rfl dX1_lay_10 ?_
  refine sk_put (ws' := [(q 11, .inr (1, [.ref (q 10), .ref (q 67), .ref (q 68), .ref (q 69), .ref (q 70), .ref (q 71), .ref (q 72), .int (nI dy), .int (nI mo)])), (q 67, .inl (cI, 90, .inl e1)), (q 68, .inl (cI, 9, .inl e2)), (q 10, .inr (9, [.ref (q 61), .ref (q 62), .ref (q 63), .ref (q 64), .ref (q 65), .ref (q 66)])), (q 61, .inl (cI, 90, .inl (fun j => nI (sa j)))), (q 62, .inl (cI, 900, .inl ft)), (q 63, .inl (cI, 90, .inl fa)), (q 64, .inl (cI, 90, .inl fo)), (o0, .inr (7, [.ref o1, .ref o2, .int (nI dy), .int wk, .int (nI mo), .int mu, .int ke]))]) (C := RX1) (T := TX1) (N := 9) (v := .int (nI mo)) hx hb hts inlX1 tyX1 tyX1_ok nmX1 hown hK hP hD hS 0 rfl rfl 8 (by decide) w_2_103 rfl rfl rfl (Nat.le_of_ble_eq_true rfl) rfl dX1_lay_13 (fun H locs hP hD hS => ?_)
  refine lv_aload_n hx hb dX1_lay_16 rfl (lv_at hl 0 rfl) ?_
  refine sk_get (v := .ref (q 68)) (C := RX1) (T := TX1) (N := 9) hx hb hts inlX1 hown hK hP 0 rfl rfl 2 (by decide) w_2_97 rfl dX1_lay_17 ?_
  refine lv_sipush (v := 1023) hx hb dX1_lay_20 (by decide) ?_
  refine sk_Sv (n := 2) (rest := []) (wr := fmR om_9_40 _) ⟨hx, hb, hml, hown, hts⟩ hl.1 (c_fill l D cI cJ cC cZ cS (q 68) 9 e2 1023 (by omega)) w_4_51 w_2_219 w_1_15 w_2_220 hd_J7_fill_53178_2 ⟨⟨(Nat.le_of_ble_eq_true rfl), (Nat.le_of_ble_eq_true rfl)⟩, (Nat.le_of_ble_eq_true rfl), (Nat.le_of_ble_eq_true rfl)⟩ hK hP hD hS hA (fmT om_9_40 0) (fmF om_9_40 0) (fm_C1 rfl rfl) (fm_R rfl rfl) (fm_nT om_9_40 0) (fm_nF om_9_40 0) (fm_di om_9_40 0) rfl rfl (Nat.le_of_ble_eq_true rfl) dX1_lay_23 (fun u H locs hw hP hD hS => ?_)
  refine exE hw (fun g_1 eu_2 => ?_)
  clear hw
  refine o_mgE (ws' := [(q 11, .inr (1, [.ref (q 10), .ref (q 67), .ref (q 68), .ref (q 69), .ref (q 70), .ref (q 71), .ref (q 72), .int (nI dy), .int (nI mo)])), (q 67, .inl (cI, 90, .inl e1)), (q 68, .inl (cI, 9, .inl g_1)), (q 10, .inr (9, [.ref (q 61), .ref (q 62), .ref (q 63), .ref (q 64), .ref (q 65), .ref (q 66)])), (q 61, .inl (cI, 90, .inl (fun j => nI (sa j)))), (q 62, .inl (cI, 900, .inl ft)), (q 63, .inl (cI, 90, .inl fa)), (q 64, .inl (cI, 90, .inl fo)), (o0, .inr (7, [.ref o1, .ref o2, .int (nI dy), .int wk, .int (nI mo), .int mu, .int ke]))]) eu_2 hP hD rfl (fun hP hD => ?_)
  refine lv_iconst (v := 0) hx hb dX1_lay_26 (by decide) ?_
  refine lv_istore (lv' := [(4, .int 0), (0, .ref (q 11)), (1, .ref o0), (2, .int o), (3, .int (nI li))]) hx hb dX1_lay_27 hl (by decide) rfl (fun ls hl => ?_)
  have lp_3 : ∀ (n_4 : Nat) (i : Nat) (a1 : Nat → Int32) (H : Heap) (locs : List Loc) (ls : Array Slot), dy - i < n_4 → (i ≤ dy) → va_P D vwCl [(q 11, .inr (1, [.ref (q 10), .ref (q 67), .ref (q 68), .ref (q 69), .ref (q 70), .ref (q 71), .ref (q 72), .int (nI dy), .int (nI mo)])), (q 67, .inl (cI, 90, .inl a1)), (q 68, .inl (cI, 9, .inl g_1)), (q 10, .inr (9, [.ref (q 61), .ref (q 62), .ref (q 63), .ref (q 64), .ref (q 65), .ref (q 66)])), (q 61, .inl (cI, 90, .inl (fun j => nI (sa j)))), (q 62, .inl (cI, 900, .inl ft)), (q 63, .inl (cI, 90, .inl fa)), (q 64, .inl (cI, 90, .inl fo)), (o0, .inr (7, [.ref o1, .ref o2, .int (nI dy), .int wk, .int (nI mo), .int mu, .int ke]))] H → va_D A [(q 11, .inr (1, [.ref (q 10), .ref (q 67), .ref (q 68), .ref (q 69), .ref (q 70), .ref (q 71), .ref (q 72), .int (nI dy), .int (nI mo)])), (q 67, .inl (cI, 90, .inl a1)), (q 68, .inl (cI, 9, .inl g_1)), (q 10, .inr (9, [.ref (q 61), .ref (q 62), .ref (q 63), .ref (q 64), .ref (q 65), .ref (q 66)])), (q 61, .inl (cI, 90, .inl (fun j => nI (sa j)))), (q 62, .inl (cI, 900, .inl ft)), (q 63, .inl (cI, 90, .inl fa)), (q 64, .inl (cI, 90, .inl fo)), (o0, .inr (7, [.ref o1, .ref o2, .int (nI dy), .int wk, .int (nI mo), .int mu, .int ke]))] → va_S A s.heap H locs → lv_has ls 8 [(4, .int (nI i)), (0, .ref (q 11)), (1, .ref o0), (2, .int o), (3, .int (nI li))] → W p l e { frames := 1, cells := 0, slots := 0, locals := 26 } s m ([.ref (q 11), .ref o0, .int o, .int (nI li)] : List Value).toArray below meth c H locs 0 0 (MQ below (skV D (skT cI cJ cC cZ cS) (fun (u : va_W) => ∃ (g1 : Nat → Int32), ∃ (g2 : Nat → Int32), u = [(q 11, .inr (1, [.ref (q 10), .ref (q 67), .ref (q 68), .ref (q 69), .ref (q 70), .ref (q 71), .ref (q 72), .int (nI dy), .int (nI mo)])), (q 67, .inl (cI, 90, .inl g1)), (q 68, .inl (cI, 9, .inl g2)), (q 10, .inr (9, [.ref (q 61), .ref (q 62), .ref (q 63), .ref (q 64), .ref (q 65), .ref (q 66)])), (q 61, .inl (cI, 90, .inl (fun j => nI (sa j)))), (q 62, .inl (cI, 900, .inl ft)), (q 63, .inl (cI, 90, .inl fa)), (q 64, .inl (cI, 90, .inl fo)), (o0, .inr (7, [.ref o1, .ref o2, .int (nI dy), .int wk, .int (nI mo), .int mu, .int ke]))]) A) ([.ref (q 11), .ref o0, .int o, .int (nI li)] : List Value).toArray s 0 0 A) (F0 m 29 ls []) := by
    intro n_4
    induction n_4 with
    | zero => intro i a1 H locs ls hm; exact absurd hm (Nat.not_lt_zero _)
    | succ n_4 ih_lp_3 =>
      intro i a1 H locs ls hm hi hP hD hS hl
      refine lv_iload hx hb dX1_lay_29 (lv_at hl 0 rfl) ?_
      refine lv_aload_n hx hb dX1_lay_31 rfl (lv_at hl 1 rfl) ?_
      refine sk_get (v := .int (nI dy)) (C := RX1) (T := TX1) (N := 9) hx hb hts inlX1 hown hK hP 0 rfl rfl 7 (by decide) w_2_102 rfl dX1_lay_32 ?_
      refine lv_icmp_ge (tgt := 150) hx hb dX1_lay_35 (by decide) (fun c_5 => ?_) (fun c_5 => ?_)
      · have c_5 : dy ≤ i := (nle dy i (by omega) (by omega)).mp c_5
        exact sk_vret hx hb hr hlocks hK hP hD hS (⟨a1, g_1, rfl⟩) (Nat.le_of_ble_eq_true rfl) (Nat.le_of_ble_eq_true rfl) dX1_lay_150
      · have c_5 : ¬ (dy ≤ i) := fun h => c_5 ((nle dy i (by omega) (by omega)).mpr h)
        have jn_6 : ∀ (bq : Int32) (H : Heap) (locs : List Loc) (ls : Array Slot), va_P D vwCl [(q 11, .inr (1, [.ref (q 10), .ref (q 67), .ref (q 68), .ref (q 69), .ref (q 70), .ref (q 71), .ref (q 72), .int (nI dy), .int (nI mo)])), (q 67, .inl (cI, 90, .inl a1)), (q 68, .inl (cI, 9, .inl g_1)), (q 10, .inr (9, [.ref (q 61), .ref (q 62), .ref (q 63), .ref (q 64), .ref (q 65), .ref (q 66)])), (q 61, .inl (cI, 90, .inl (fun j => nI (sa j)))), (q 62, .inl (cI, 900, .inl ft)), (q 63, .inl (cI, 90, .inl fa)), (q 64, .inl (cI, 90, .inl fo)), (o0, .inr (7, [.ref o1, .ref o2, .int (nI dy), .int wk, .int (nI mo), .int mu, .int ke]))] H → va_D A [(q 11, .inr (1, [.ref (q 10), .ref (q 67), .ref (q 68), .ref (q 69), .ref (q 70), .ref (q 71), .ref (q 72), .int (nI dy), .int (nI mo)])), (q 67, .inl (cI, 90, .inl a1)), (q 68, .inl (cI, 9, .inl g_1)), (q 10, .inr (9, [.ref (q 61), .ref (q 62), .ref (q 63), .ref (q 64), .ref (q 65), .ref (q 66)])), (q 61, .inl (cI, 90, .inl (fun j => nI (sa j)))), (q 62, .inl (cI, 900, .inl ft)), (q 63, .inl (cI, 90, .inl fa)), (q 64, .inl (cI, 90, .inl fo)), (o0, .inr (7, [.ref o1, .ref o2, .int (nI dy), .int wk, .int (nI mo), .int mu, .int ke]))] → va_S A s.heap H locs → lv_has ls 8 [(4, .int (nI i)), (0, .ref (q 11)), (1, .ref o0), (2, .int o), (3, .int (nI li))] → W p l e { frames := 1, cells := 0, slots := 0, locals := 26 } s m ([.ref (q 11), .ref o0, .int o, .int (nI li)] : List Value).toArray below meth c H locs 0 0 (MQ below (skV D (skT cI cJ cC cZ cS) (fun (u : va_W) => ∃ (g1 : Nat → Int32), ∃ (g2 : Nat → Int32), u = [(q 11, .inr (1, [.ref (q 10), .ref (q 67), .ref (q 68), .ref (q 69), .ref (q 70), .ref (q 71), .ref (q 72), .int (nI dy), .int (nI mo)])), (q 67, .inl (cI, 90, .inl g1)), (q 68, .inl (cI, 9, .inl g2)), (q 10, .inr (9, [.ref (q 61), .ref (q 62), .ref (q 63), .ref (q 64), .ref (q 65), .ref (q 66)])), (q 61, .inl (cI, 90, .inl (fun j => nI (sa j)))), (q 62, .inl (cI, 900, .inl ft)), (q 63, .inl (cI, 90, .inl fa)), (q 64, .inl (cI, 90, .inl fo)), (o0, .inr (7, [.ref o1, .ref o2, .int (nI dy), .int wk, .int (nI mo), .int mu, .int ke]))]) A) ([.ref (q 11), .ref o0, .int o, .int (nI li)] : List Value).toArray s 0 0 A) (F0 m 53 ls [.int bq]) := by
          intro bq H locs ls  hP hD hS hl
          refine lv_istore (lv' := [(5, .int bq), (4, .int (nI i)), (0, .ref (q 11)), (1, .ref o0), (2, .int o), (3, .int (nI li))]) hx hb dX1_lay_53 hl (by decide) rfl (fun ls hl => ?_)
          refine lv_iconst (v := 0) hx hb dX1_lay_55 (by decide) ?_
          refine lv_istore (lv' := [(6, .int 0), (5, .int bq), (4, .int (nI i)), (0, .ref (q 11)), (1, .ref o0), (2, .int o), (3, .int (nI li))]) hx hb dX1_lay_56 hl (by decide) rfl (fun ls hl => ?_)
          have lp_7 : ∀ (n_8 : Nat) (jj : Nat) (a2 : Nat → Int32) (H : Heap) (locs : List Loc) (ls : Array Slot), 10 - jj < n_8 → (jj ≤ 10) → va_P D vwCl [(q 11, .inr (1, [.ref (q 10), .ref (q 67), .ref (q 68), .ref (q 69), .ref (q 70), .ref (q 71), .ref (q 72), .int (nI dy), .int (nI mo)])), (q 67, .inl (cI, 90, .inl a2)), (q 68, .inl (cI, 9, .inl g_1)), (q 10, .inr (9, [.ref (q 61), .ref (q 62), .ref (q 63), .ref (q 64), .ref (q 65), .ref (q 66)])), (q 61, .inl (cI, 90, .inl (fun j => nI (sa j)))), (q 62, .inl (cI, 900, .inl ft)), (q 63, .inl (cI, 90, .inl fa)), (q 64, .inl (cI, 90, .inl fo)), (o0, .inr (7, [.ref o1, .ref o2, .int (nI dy), .int wk, .int (nI mo), .int mu, .int ke]))] H → va_D A [(q 11, .inr (1, [.ref (q 10), .ref (q 67), .ref (q 68), .ref (q 69), .ref (q 70), .ref (q 71), .ref (q 72), .int (nI dy), .int (nI mo)])), (q 67, .inl (cI, 90, .inl a2)), (q 68, .inl (cI, 9, .inl g_1)), (q 10, .inr (9, [.ref (q 61), .ref (q 62), .ref (q 63), .ref (q 64), .ref (q 65), .ref (q 66)])), (q 61, .inl (cI, 90, .inl (fun j => nI (sa j)))), (q 62, .inl (cI, 900, .inl ft)), (q 63, .inl (cI, 90, .inl fa)), (q 64, .inl (cI, 90, .inl fo)), (o0, .inr (7, [.ref o1, .ref o2, .int (nI dy), .int wk, .int (nI mo), .int mu, .int ke]))] → va_S A s.heap H locs → lv_has ls 8 [(6, .int (nI jj)), (5, .int bq), (4, .int (nI i)), (0, .ref (q 11)), (1, .ref o0), (2, .int o), (3, .int (nI li))] → W p l e { frames := 1, cells := 0, slots := 0, locals := 26 } s m ([.ref (q 11), .ref o0, .int o, .int (nI li)] : List Value).toArray below meth c H locs 0 0 (MQ below (skV D (skT cI cJ cC cZ cS) (fun (u : va_W) => ∃ (g1 : Nat → Int32), ∃ (g2 : Nat → Int32), u = [(q 11, .inr (1, [.ref (q 10), .ref (q 67), .ref (q 68), .ref (q 69), .ref (q 70), .ref (q 71), .ref (q 72), .int (nI dy), .int (nI mo)])), (q 67, .inl (cI, 90, .inl g1)), (q 68, .inl (cI, 9, .inl g2)), (q 10, .inr (9, [.ref (q 61), .ref (q 62), .ref (q 63), .ref (q 64), .ref (q 65), .ref (q 66)])), (q 61, .inl (cI, 90, .inl (fun j => nI (sa j)))), (q 62, .inl (cI, 900, .inl ft)), (q 63, .inl (cI, 90, .inl fa)), (q 64, .inl (cI, 90, .inl fo)), (o0, .inr (7, [.ref o1, .ref o2, .int (nI dy), .int wk, .int (nI mo), .int mu, .int ke]))]) A) ([.ref (q 11), .ref o0, .int o, .int (nI li)] : List Value).toArray s 0 0 A) (F0 m 58 ls []) := by
            intro n_8
            induction n_8 with
            | zero => intro jj a2 H locs ls hm; exact absurd hm (Nat.not_lt_zero _)
            | succ n_8 ih_lp_7 =>
              intro jj a2 H locs ls hm hjj hP hD hS hl
              refine lv_iload hx hb dX1_lay_58 (lv_at hl 0 rfl) ?_
              refine lv_bipush (v := 10) hx hb dX1_lay_60 (by decide) ?_
              refine lv_icmp_ge (tgt := 144) hx hb dX1_lay_62 (by decide) (fun c_9 => ?_) (fun c_9 => ?_)
              · have c_9 : 10 ≤ jj := (nle 10 jj (by omega) (by omega)).mp c_9
                refine lv_iinc (v := nI (i + 1)) (lv' := [(4, .int (nI (i + 1))), (6, .int (nI jj)), (5, .int bq), (0, .ref (q 11)), (1, .ref o0), (2, .int o), (3, .int (nI li))]) hx hb dX1_lay_144 hl (k := 2) rfl (ninc i 1 (by decide)) (by decide) rfl (fun ls hl => ?_)
                refine lv_goto (tgt := 29) hx hb dX1_lay_147 (by decide) ?_
                exact ih_lp_3 (i + 1) a2 _ _ _ (by omega) (by omega) hP hD hS (lv_sub hl [0, 3, 4, 5, 6] rfl)
              · have c_9 : ¬ (10 ≤ jj) := fun h => c_9 ((nle 10 jj (by omega) (by omega)).mpr h)
                refine lv_iload hx hb dX1_lay_65 (lv_at hl 2 rfl) ?_
                refine lv_bipush (v := 10) hx hb dX1_lay_67 (by decide) ?_
                refine lv_imul hx hb dX1_lay_69 ?_
                refine sk_top (nI (i * 10)) (nmul i 10) ?_
                refine lv_iload hx hb dX1_lay_70 (lv_at hl 0 rfl) ?_
                refine lv_iadd hx hb dX1_lay_72 ?_
                refine sk_top (nI (i * 10 + jj)) (nI_add (i * 10) jj) ?_
                refine lv_istore (lv' := [(7, .int (nI (i * 10 + jj))), (6, .int (nI jj)), (5, .int bq), (4, .int (nI i)), (0, .ref (q 11)), (1, .ref o0), (2, .int o), (3, .int (nI li))]) hx hb dX1_lay_73 hl (by decide) rfl (fun ls hl => ?_)
                refine lv_iload hx hb dX1_lay_75 (lv_at hl 2 rfl) ?_
                refine lv_if_eq (tgt := 102) hx hb dX1_lay_77 (by decide) (fun c_10 => ?_) (fun c_10 => ?_)
                · skip
                  refine lv_aload_n hx hb dX1_lay_102 rfl (lv_at hl 4 rfl) ?_
                  refine sk_get (v := .ref (q 67)) (C := RX1) (T := TX1) (N := 9) hx hb hts inlX1 hown hK hP 0 rfl rfl 1 (by decide) w_2_96 rfl dX1_lay_103 ?_
                  refine lv_iload hx hb dX1_lay_106 (lv_at hl 0 rfl) ?_
                  refine lv_iload_n hx hb dX1_lay_108 rfl (lv_at hl 7 rfl) ?_
                  refine lv_if_ne (tgt := 125) hx hb dX1_lay_109 (by decide) (fun c_11 => ?_) (fun c_11 => ?_)
                  · have c_11 : ¬ (li = 0) := fun h => c_11 ((neq li 0 (by omega) (by omega)).mpr h)
                    refine lv_aload_n hx hb dX1_lay_125 rfl (lv_at hl 4 rfl) ?_
                    refine sk_get (v := .ref (q 10)) (C := RX1) (T := TX1) (N := 9) hx hb hts inlX1 hown hK hP 0 rfl rfl 0 (by decide) w_2_95 rfl dX1_lay_126 ?_
                    refine lv_iload hx hb dX1_lay_129 (lv_at hl 3 rfl) ?_
                    refine lv_iload hx hb dX1_lay_131 (lv_at hl 1 rfl) ?_
                    refine lv_iload_n hx hb dX1_lay_133 rfl (lv_at hl 7 rfl) ?_
                    refine sk_Vi (q0 := 0) (n := 3) (rest := [.int (nI (i * 10 + jj)), .ref (q 67)]) (wr := fmR om_9_38 _) ⟨hx, hb, hml, hown, hts⟩ hl.1 (c_moodsBehind l D cI cJ cC cZ cS q sa ft i jj li hsa (by omega) (by omega) (by omega)) w_4_52 w_4_18 w_4_19 w_1_12 w_4_20 hd_X9_moodsBehind_3 ⟨⟨(Nat.le_of_ble_eq_true rfl), (Nat.le_of_ble_eq_true rfl)⟩, (Nat.le_of_ble_eq_true rfl), (Nat.le_of_ble_eq_true rfl)⟩ hK hP hD hS hA (fmT om_9_38 0) (fmF om_9_38 0) (fm_C1 rfl rfl) (fm_R rfl rfl) (fm_nT om_9_38 0) (fm_nF om_9_38 0) (fm_di om_9_38 0) rfl rfl rfl rfl (Nat.le_of_ble_eq_true rfl) dX1_lay_134 (fun r_12 u H locs hw hP hD hS => ?_)
                    refine o_mgE (ws' := [(q 11, .inr (1, [.ref (q 10), .ref (q 67), .ref (q 68), .ref (q 69), .ref (q 70), .ref (q 71), .ref (q 72), .int (nI dy), .int (nI mo)])), (q 67, .inl (cI, 90, .inl a2)), (q 68, .inl (cI, 9, .inl g_1)), (q 10, .inr (9, [.ref (q 61), .ref (q 62), .ref (q 63), .ref (q 64), .ref (q 65), .ref (q 66)])), (q 61, .inl (cI, 90, .inl (fun j => nI (sa j)))), (q 62, .inl (cI, 900, .inl ft)), (q 63, .inl (cI, 90, .inl fa)), (q 64, .inl (cI, 90, .inl fo)), (o0, .inr (7, [.ref o1, .ref o2, .int (nI dy), .int wk, .int (nI mo), .int mu, .int ke]))]) hw hP hD rfl (fun hP hD => ?_)
                    refine sk_iastO (ws' := fun f_13 => [(q 11, .inr (1, [.ref (q 10), .ref (q 67), .ref (q 68), .ref (q 69), .ref (q 70), .ref (q 71), .ref (q 72), .int (nI dy), .int (nI mo)])), (q 67, .inl (cI, 90, .inl f_13)), (q 68, .inl (cI, 9, .inl g_1)), (q 10, .inr (9, [.ref (q 61), .ref (q 62), .ref (q 63), .ref (q 64), .ref (q 65), .ref (q 66)])), (q 61, .inl (cI, 90, .inl (fun j => nI (sa j)))), (q 62, .inl (cI, 900, .inl ft)), (q 63, .inl (cI, 90, .inl fa)), (q 64, .inl (cI, 90, .inl fo)), (o0, .inr (7, [.ref o1, .ref o2, .int (nI dy), .int wk, .int (nI mo), .int mu, .int ke]))]) hx hb hK hP hD hS 1 0 rfl rfl (vin (i * 10 + jj) 90 (by omega) (by omega)) (fun _ => rfl) dX1_lay_137 (fun f_13 H locs hP hD hS => ?_)
                    refine lv_iinc (v := nI (jj + 1)) (lv' := [(6, .int (nI (jj + 1))), (7, .int (nI (i * 10 + jj))), (5, .int bq), (4, .int (nI i)), (0, .ref (q 11)), (1, .ref o0), (2, .int o), (3, .int (nI li))]) hx hb dX1_lay_138 hl (k := 1) rfl (ninc jj 1 (by decide)) (by decide) rfl (fun ls hl => ?_)
                    refine lv_goto (tgt := 58) hx hb dX1_lay_141 (by decide) ?_
                    exact ih_lp_7 (jj + 1) f_13 _ _ _ (by omega) (by omega) hP hD hS (lv_sub hl [0, 2, 3, 4, 5, 6, 7] rfl)
                  · have c_11 : li = 0 := (neq li 0 (by omega) (by omega)).mp c_11
                    refine lv_aload_n hx hb dX1_lay_112 rfl (lv_at hl 4 rfl) ?_
                    refine sk_get (v := .ref (q 10)) (C := RX1) (T := TX1) (N := 9) hx hb hts inlX1 hown hK hP 0 rfl rfl 0 (by decide) w_2_95 rfl dX1_lay_113 ?_
                    refine sk_get (v := .ref (q 64)) (C := RX9) (T := TX9) (N := 6) hx hb hts inlX9 hown hK hP 3 rfl rfl 3 (by decide) w_2_71 rfl dX1_lay_116 ?_
                    refine lv_iload hx hb dX1_lay_119 (lv_at hl 0 rfl) ?_
                    refine va_iald hx hb hK.1 hP 7 0 rfl rfl (vin (i * 10 + jj) 90 (by omega) (by omega)) dX1_lay_121 ?_
                    refine lv_topi (fun v_14 ev_14 => ?_)
                    refine lv_goto (tgt := 137) hx hb dX1_lay_122 (by decide) ?_
                    refine sk_iastO (ws' := fun f_15 => [(q 11, .inr (1, [.ref (q 10), .ref (q 67), .ref (q 68), .ref (q 69), .ref (q 70), .ref (q 71), .ref (q 72), .int (nI dy), .int (nI mo)])), (q 67, .inl (cI, 90, .inl f_15)), (q 68, .inl (cI, 9, .inl g_1)), (q 10, .inr (9, [.ref (q 61), .ref (q 62), .ref (q 63), .ref (q 64), .ref (q 65), .ref (q 66)])), (q 61, .inl (cI, 90, .inl (fun j => nI (sa j)))), (q 62, .inl (cI, 900, .inl ft)), (q 63, .inl (cI, 90, .inl fa)), (q 64, .inl (cI, 90, .inl fo)), (o0, .inr (7, [.ref o1, .ref o2, .int (nI dy), .int wk, .int (nI mo), .int mu, .int ke]))]) hx hb hK hP hD hS 1 0 rfl rfl (vin (i * 10 + jj) 90 (by omega) (by omega)) (fun _ => rfl) dX1_lay_137 (fun f_15 H locs hP hD hS => ?_)
                    refine lv_iinc (v := nI (jj + 1)) (lv' := [(6, .int (nI (jj + 1))), (7, .int (nI (i * 10 + jj))), (5, .int bq), (4, .int (nI i)), (0, .ref (q 11)), (1, .ref o0), (2, .int o), (3, .int (nI li))]) hx hb dX1_lay_138 hl (k := 1) rfl (ninc jj 1 (by decide)) (by decide) rfl (fun ls hl => ?_)
                    refine lv_goto (tgt := 58) hx hb dX1_lay_141 (by decide) ?_
                    exact ih_lp_7 (jj + 1) f_15 _ _ _ (by omega) (by omega) hP hD hS (lv_sub hl [0, 2, 3, 4, 5, 6, 7] rfl)
                · skip
                  refine lv_aload_n hx hb dX1_lay_80 rfl (lv_at hl 4 rfl) ?_
                  refine sk_get (v := .ref (q 67)) (C := RX1) (T := TX1) (N := 9) hx hb hts inlX1 hown hK hP 0 rfl rfl 1 (by decide) w_2_96 rfl dX1_lay_81 ?_
                  refine lv_iload hx hb dX1_lay_84 (lv_at hl 0 rfl) ?_
                  refine lv_iconst (v := 1) hx hb dX1_lay_86 (by decide) ?_
                  refine lv_aload_n hx hb dX1_lay_87 rfl (lv_at hl 4 rfl) ?_
                  refine sk_get (v := .ref (q 10)) (C := RX1) (T := TX1) (N := 9) hx hb hts inlX1 hown hK hP 0 rfl rfl 0 (by decide) w_2_95 rfl dX1_lay_88 ?_
                  refine sk_get (v := .ref (q 63)) (C := RX9) (T := TX9) (N := 6) hx hb hts inlX9 hown hK hP 3 rfl rfl 2 (by decide) w_2_68 rfl dX1_lay_91 ?_
                  refine lv_iload hx hb dX1_lay_94 (lv_at hl 0 rfl) ?_
                  refine va_iald hx hb hK.1 hP 6 0 rfl rfl (vin (i * 10 + jj) 90 (by omega) (by omega)) dX1_lay_96 ?_
                  refine lv_topi (fun v_16 ev_16 => ?_)
                  refine lv_ishl hx hb dX1_lay_97 ?_
                  refine lv_topi (fun v_17 ev_17 => ?_)
                  refine sk_iastO (ws' := fun f_18 => [(q 11, .inr (1, [.ref (q 10), .ref (q 67), .ref (q 68), .ref (q 69), .ref (q 70), .ref (q 71), .ref (q 72), .int (nI dy), .int (nI mo)])), (q 67, .inl (cI, 90, .inl f_18)), (q 68, .inl (cI, 9, .inl g_1)), (q 10, .inr (9, [.ref (q 61), .ref (q 62), .ref (q 63), .ref (q 64), .ref (q 65), .ref (q 66)])), (q 61, .inl (cI, 90, .inl (fun j => nI (sa j)))), (q 62, .inl (cI, 900, .inl ft)), (q 63, .inl (cI, 90, .inl fa)), (q 64, .inl (cI, 90, .inl fo)), (o0, .inr (7, [.ref o1, .ref o2, .int (nI dy), .int wk, .int (nI mo), .int mu, .int ke]))]) hx hb hK hP hD hS 1 0 rfl rfl (vin (i * 10 + jj) 90 (by omega) (by omega)) (fun _ => rfl) dX1_lay_98 (fun f_18 H locs hP hD hS => ?_)
                  refine lv_goto (tgt := 138) hx hb dX1_lay_99 (by decide) ?_
                  refine lv_iinc (v := nI (jj + 1)) (lv' := [(6, .int (nI (jj + 1))), (7, .int (nI (i * 10 + jj))), (5, .int bq), (4, .int (nI i)), (0, .ref (q 11)), (1, .ref o0), (2, .int o), (3, .int (nI li))]) hx hb dX1_lay_138 hl (k := 1) rfl (ninc jj 1 (by decide)) (by decide) rfl (fun ls hl => ?_)
                  refine lv_goto (tgt := 58) hx hb dX1_lay_141 (by decide) ?_
                  exact ih_lp_7 (jj + 1) f_18 _ _ _ (by omega) (by omega) hP hD hS (lv_sub hl [0, 2, 3, 4, 5, 6, 7] rfl)
          exact lp_7 (10 - 0 + 1) 0 a1 _ _ _ (Nat.lt_succ_self _) (by omega) hP hD hS (lv_sub hl [0, 1, 2, 3, 4, 5, 6] rfl)
        refine lv_iload_n hx hb dX1_lay_38 rfl (lv_at hl 3 rfl) ?_
        refine lv_iload hx hb dX1_lay_39 (lv_at hl 0 rfl) ?_
        refine lv_ishr hx hb dX1_lay_41 ?_
        refine lv_topi (fun v_19 ev_19 => ?_)
        refine lv_iconst (v := 1) hx hb dX1_lay_42 (by decide) ?_
        refine lv_iand hx hb dX1_lay_43 ?_
        refine lv_topi (fun v_20 ev_20 => ?_)
        refine lv_iconst (v := 1) hx hb dX1_lay_44 (by decide) ?_
        refine lv_icmp_ne (tgt := 52) hx hb dX1_lay_45 (by decide) (fun c_21 => ?_) (fun c_21 => ?_)
        · skip
          refine lv_iconst (v := 0) hx hb dX1_lay_52 (by decide) ?_
          exact jn_6 0 _ _ _  hP hD hS (lv_sub hl [0, 1, 2, 3, 4] rfl)
        · skip
          refine lv_iconst (v := 1) hx hb dX1_lay_48 (by decide) ?_
          refine lv_goto (tgt := 53) hx hb dX1_lay_49 (by decide) ?_
          exact jn_6 1 _ _ _  hP hD hS (lv_sub hl [0, 1, 2, 3, 4] rfl)
  exact lp_3 (dy - 0 + 1) 0 e1 _ _ _ (Nat.lt_succ_self _) (by omega) hP hD hS (lv_sub hl [0, 1, 2, 3, 4] rfl)
