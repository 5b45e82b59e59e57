theorem dX11_octet_5 : decode cX11_octet 5 = .ok (.aload_n 0, 1) := q_aload_n0 (bat_get dg_X11_octet_0_0 5 rfl rfl)
theorem dX11_octet_6 : decode cX11_octet 6 = .ok (.getfield 18, 3) := q_getfield (bat_get dg_X11_octet_0_0 6 rfl rfl) rfl
theorem dX11_octet_9 : decode cX11_octet 9 = .ok (.getfield 110, 3) := q_getfield (bat_get dg_X11_octet_0_0 7 rfl rfl) rfl
theorem dX11_octet_12 : decode cX11_octet 12 = .ok (.if_icmp .ge 14, 3) := q_if_icmp_ge (bat_get dg_X11_octet_0_0 8 rfl rfl) rfl
theorem dX11_octet_15 : decode cX11_octet 15 = .ok (.aload_n 0, 1) := q_aload_n0 (bat_get dg_X11_octet_0_0 9 rfl rfl)
theorem dX11_octet_16 : decode cX11_octet 16 = .ok (.getfield 18, 3) := q_getfield (bat_get dg_X11_octet_0_0 10 rfl rfl) rfl
theorem dX11_octet_19 : decode cX11_octet 19 = .ok (.iload_n 1, 1) := q_iload_n1 (bat_get dg_X11_octet_0_0 11 rfl rfl)
theorem dX11_octet_20 : decode cX11_octet 20 = .ok (.invokevirtual 268, 3) := q_invokevirtual (bat_get dg_X11_octet_0_0 12 rfl rfl) rfl
theorem dX11_octet_23 : decode cX11_octet 23 = .ok (.goto 4, 3) := q_goto (bat_get dg_X11_octet_0_0 13 rfl rfl) rfl
theorem w_2_124 : (Cond.fieldLink RX11 18 "SameKeeper" "picture" "LSameKeeper$Tape;") ∈ wsL_law := sk_mem (ck_2 _ (List.mem_of_getElem? (i := 124) rfl)) rfl
theorem w_5_136 : (Cond.code yX11_octet cX11_octet 2 (some .int)) ∈ wsL_law := sk_mem (ck_5 _ (List.mem_of_getElem? (i := 136) rfl)) rfl
def om_3_3 : List Bool := false :: true :: true :: []
set_option maxHeartbeats 4000000 in
set_option maxRecDepth 100000 in
theorem c_ky_octet (l : Launch) (D : va_G) (cI cJ cC cZ cS : ClassId) (x0 : Nat) (q : Nat → Nat) (hc : Int32) (dr : Int64) (pl : Nat) (pb : Nat → Nat) (pB : Nat → Nat) (k : Int32) (hpl : pl ≤ 31) (hpb : ∀ j, pb j ≤ 255) (hpo : ∀ j, j < pl → pb j = pB j) : skM l yX11_octet cX11_octet 2 (some .int) 1 21 0 0 D (skT cI cJ cC cZ cS) [.ref x0, .int k] [(x0, .inr (11, [.ref (q 0), .ref (q 1), .ref (q 2), .ref (q 3), .ref (q 4), .ref (q 5), .ref (q 6), .ref (q 7), .ref (q 8), .ref (q 9), .ref (q 10), .ref (q 11), .ref (q 12), .ref (q 13), .ref (q 14), .int hc, .ref (q 16), .long dr])), (q 1, .inr (10, [.ref (q 21), .int (nI pl)])), (q 21, .inl (cI, 31, .inl (fun j => nI (pb j))))] (skI D (skT cI cJ cC cZ cS) (fun (r : Int32) (u : va_W) => octR pl pB k r ∧ u = [(x0, .inr (11, [.ref (q 0), .ref (q 1), .ref (q 2), .ref (q 3), .ref (q 4), .ref (q 5), .ref (q 6), .ref (q 7), .ref (q 8), .ref (q 9), .ref (q 10), .ref (q 11), .ref (q 12), .ref (q 13), .ref (q 14), .int hc, .ref (q 16), .long dr])), (q 1, .inr (10, [.ref (q 21), .int (nI pl)])), (q 21, .inl (cI, 31, .inl (fun j => nI (pb j))))])) := by
  refine skM_of pf_X11_octet (Nat.le_of_ble_eq_true rfl) ?_
  intro p e s m below meth c A ls E hP hD hl
  refine skE_el E (fun hx hb hr hml hlocks hin hown hts hK hA => ?_)
  have hown : s.vm.findClass RX11 = some m.cls := hown
  have hS : va_S A s.heap s.heap [] := va_S.rf
  have hl : lv_has ls 2 [(0, .ref x0), (1, .int k)] := hl
  refine lv_iload_n hx hb dX11_octet_0 rfl (lv_at hl 1 rfl) ?_
  refine lv_if_lt (tgt := 26) hx hb dX11_octet_1 (by decide) (fun c_1 => ?_) (fun c_1 => ?_)
  · skip
    refine lv_iconst (v := (-1)) hx hb dX11_octet_26 (by decide) ?_
    exact sk_iret hx hb hr rfl hlocks hK hP hD hS (⟨kR_0 (fun x hq => absurd c_1 (by rw [hq.2]; exact nI_pos (by omega))) rfl, rfl⟩) (Nat.le_of_ble_eq_true rfl) (Nat.le_of_ble_eq_true rfl) dX11_octet_27
  · obtain ⟨k_2, hk_2, rfl⟩ := nof k c_1
    refine lv_iload_n hx hb dX11_octet_4 rfl (lv_at hl 1 rfl) ?_
    refine lv_aload_n hx hb dX11_octet_5 rfl (lv_at hl 0 rfl) ?_
    refine sk_get (v := .ref (q 1)) (C := RX11) (T := TX11) (N := 18) hx hb hts inlX11 hown hK hP 0 rfl rfl 1 (by decide) w_2_124 rfl dX11_octet_6 ?_
    refine sk_get (v := .int (nI pl)) (C := RX10) (T := TX10) (N := 2) hx hb hts inlX10 hown hK hP 1 rfl rfl 1 (by decide) w_1_42 rfl dX11_octet_9 ?_
    refine lv_icmp_ge (tgt := 26) hx hb dX11_octet_12 (by decide) (fun c_3 => ?_) (fun c_3 => ?_)
    · have c_3 : pl ≤ k_2 := (nle pl k_2 (by omega) (by omega)).mp c_3
      refine lv_iconst (v := (-1)) hx hb dX11_octet_26 (by decide) ?_
      exact sk_iret hx hb hr rfl hlocks hK hP hD hS (⟨kR_0 (fun x hq => (by have := (neq k_2 x (by omega) (by omega)).mp hq.2; omega)) rfl, rfl⟩) (Nat.le_of_ble_eq_true rfl) (Nat.le_of_ble_eq_true rfl) dX11_octet_27
    · have c_3 : ¬ (pl ≤ k_2) := fun h => c_3 ((nle pl k_2 (by omega) (by omega)).mpr h)
      refine lv_aload_n hx hb dX11_octet_15 rfl (lv_at hl 0 rfl) ?_
      refine sk_get (v := .ref (q 1)) (C := RX11) (T := TX11) (N := 18) hx hb hts inlX11 hown hK hP 0 rfl rfl 1 (by decide) w_2_124 rfl dX11_octet_16 ?_
      refine lv_iload_n hx hb dX11_octet_19 rfl (lv_at hl 1 rfl) ?_
      refine sk_Vi (q0 := 0) (n := 1) (rest := []) (wr := fmR om_3_3 _) ⟨hx, hb, hml, hown, hts⟩ hl.1 (c_eTape_left_31 l D cI cJ cC cZ cS (q 1) (q 21) pl pb k_2 (by omega) hpb (by omega)) w_4_214 w_4_215 w_4_216 w_1_2 w_4_217 hd_X10_left_1 ⟨⟨(Nat.le_of_ble_eq_true rfl), (Nat.le_of_ble_eq_true rfl)⟩, (Nat.le_of_ble_eq_true rfl), (Nat.le_of_ble_eq_true rfl)⟩ hK hP hD hS hA (fmT om_3_3 0) (fmF om_3_3 0) (fm_C1 rfl rfl) (fm_R rfl rfl) (fm_nT om_3_3 0) (fm_nF om_3_3 0) (fm_di om_3_3 0) rfl rfl rfl rfl (Nat.le_of_ble_eq_true rfl) dX11_octet_20 (fun r_4 u H locs hw hP hD hS => ?_)
      refine anE hw (fun hv_5 hw1 => anE hw1 (fun er_7 eu_6 => ?_))
      clear hw hw1
      subst er_7
      refine o_mgE (ws' := [(x0, .inr (11, [.ref (q 0), .ref (q 1), .ref (q 2), .ref (q 3), .ref (q 4), .ref (q 5), .ref (q 6), .ref (q 7), .ref (q 8), .ref (q 9), .ref (q 10), .ref (q 11), .ref (q 12), .ref (q 13), .ref (q 14), .int hc, .ref (q 16), .long dr])), (q 1, .inr (10, [.ref (q 21), .int (nI pl)])), (q 21, .inl (cI, 31, .inl (fun j => nI (pb j))))]) eu_6 hP hD rfl (fun hP hD => ?_)
      refine lv_goto (tgt := 27) hx hb dX11_octet_23 (by decide) ?_
      exact sk_iret hx hb hr rfl hlocks hK hP hD hS (⟨kR_1 k_2 ⟨by omega, rfl⟩ (congrArg nI (hpo k_2 (by omega))), rfl⟩) (Nat.le_of_ble_eq_true rfl) (Nat.le_of_ble_eq_true rfl) dX11_octet_27
theorem dg_X11_image_0_0 : bqL cX11_image 0 [(0, [42]), (1, [180, 0, 18]), (4, [3]), (5, [181, 0, 110]), (8, [42]), (9, [180, 0, 18]), (12, [42]), (13, [180, 0, 59]), (16, [180, 0, 147]), (19, [16, 8]), (21, [122]), (22, [182, 1, 54]), (25, [42]), (26, [180, 0, 18]), (29, [42]), (30, [180, 0, 59]), (33, [180, 0, 147]), (36, [17, 0, 255]), (39, [126]), (40, [182, 1, 54]), (43, [42]), (44, [180, 0, 18]), (47, [42]), (48, [180, 0, 59]), (51, [180, 0, 150]), (54, [182, 1, 54]), (57, [3]), (58, [60]), (59, [27]), (60, [42]), (61, [180, 0, 59]), (64, [180, 0, 144]), (67, [162, 0, 64]), (131, [42]), (132, [180, 0, 18]), (135, [42]), (136, [180, 0, 18]), (139, [42]), (140, [180, 0, 18]), (143, [180, 0, 110])] = true := by decide +kernel
theorem dX11_image_0 : decode cX11_image 0 = .ok (.aload_n 0, 1) := q_aload_n0 (bat_get dg_X11_image_0_0 0 rfl rfl)
theorem dX11_image_1 : decode cX11_image 1 = .ok (.getfield 18, 3) := q_getfield (bat_get dg_X11_image_0_0 1 rfl rfl) rfl
theorem dX11_image_4 : decode cX11_image 4 = .ok (.iconst 0, 1) := q_iconst0 (bat_get dg_X11_image_0_0 2 rfl rfl)
theorem dX11_image_5 : decode cX11_image 5 = .ok (.putfield 110, 3) := q_putfield (bat_get dg_X11_image_0_0 3 rfl rfl) rfl
theorem dX11_image_8 : decode cX11_image 8 = .ok (.aload_n 0, 1) := q_aload_n0 (bat_get dg_X11_image_0_0 4 rfl rfl)
theorem dX11_image_9 : decode cX11_image 9 = .ok (.getfield 18, 3) := q_getfield (bat_get dg_X11_image_0_0 5 rfl rfl) rfl
theorem dX11_image_12 : decode cX11_image 12 = .ok (.aload_n 0, 1) := q_aload_n0 (bat_get dg_X11_image_0_0 6 rfl rfl)
theorem dX11_image_13 : decode cX11_image 13 = .ok (.getfield 59, 3) := q_getfield (bat_get dg_X11_image_0_0 7 rfl rfl) rfl
theorem dX11_image_16 : decode cX11_image 16 = .ok (.getfield 147, 3) := q_getfield (bat_get dg_X11_image_0_0 8 rfl rfl) rfl
theorem dX11_image_19 : decode cX11_image 19 = .ok (.bipush 8, 2) := q_bipush (bat_get dg_X11_image_0_0 9 rfl rfl) rfl
theorem dX11_image_21 : decode cX11_image 21 = .ok (.ishr, 1) := q_ishr (bat_get dg_X11_image_0_0 10 rfl rfl)
theorem dX11_image_22 : decode cX11_image 22 = .ok (.invokevirtual 310, 3) := q_invokevirtual (bat_get dg_X11_image_0_0 11 rfl rfl) rfl
theorem dX11_image_25 : decode cX11_image 25 = .ok (.aload_n 0, 1) := q_aload_n0 (bat_get dg_X11_image_0_0 12 rfl rfl)
theorem dX11_image_26 : decode cX11_image 26 = .ok (.getfield 18, 3) := q_getfield (bat_get dg_X11_image_0_0 13 rfl rfl) rfl
theorem dX11_image_29 : decode cX11_image 29 = .ok (.aload_n 0, 1) := q_aload_n0 (bat_get dg_X11_image_0_0 14 rfl rfl)
theorem dX11_image_30 : decode cX11_image 30 = .ok (.getfield 59, 3) := q_getfield (bat_get dg_X11_image_0_0 15 rfl rfl) rfl
theorem dX11_image_33 : decode cX11_image 33 = .ok (.getfield 147, 3) := q_getfield (bat_get dg_X11_image_0_0 16 rfl rfl) rfl
theorem dX11_image_36 : decode cX11_image 36 = .ok (.sipush 255, 3) := q_sipush (bat_get dg_X11_image_0_0 17 rfl rfl) rfl
theorem dX11_image_39 : decode cX11_image 39 = .ok (.iand, 1) := q_iand (bat_get dg_X11_image_0_0 18 rfl rfl)
theorem dX11_image_40 : decode cX11_image 40 = .ok (.invokevirtual 310, 3) := q_invokevirtual (bat_get dg_X11_image_0_0 19 rfl rfl) rfl
theorem dX11_image_43 : decode cX11_image 43 = .ok (.aload_n 0, 1) := q_aload_n0 (bat_get dg_X11_image_0_0 20 rfl rfl)
theorem dX11_image_44 : decode cX11_image 44 = .ok (.getfield 18, 3) := q_getfield (bat_get dg_X11_image_0_0 21 rfl rfl) rfl
theorem dX11_image_47 : decode cX11_image 47 = .ok (.aload_n 0, 1) := q_aload_n0 (bat_get dg_X11_image_0_0 22 rfl rfl)
theorem dX11_image_48 : decode cX11_image 48 = .ok (.getfield 59, 3) := q_getfield (bat_get dg_X11_image_0_0 23 rfl rfl) rfl
theorem dX11_image_51 : decode cX11_image 51 = .ok (.getfield 150, 3) := q_getfield (bat_get dg_X11_image_0_0 24 rfl rfl) rfl
theorem dX11_image_54 : decode cX11_image 54 = .ok (.invokevirtual 310, 3) := q_invokevirtual (bat_get dg_X11_image_0_0 25 rfl rfl) rfl
theorem dX11_image_57 : decode cX11_image 57 = .ok (.iconst 0, 1) := q_iconst0 (bat_get dg_X11_image_0_0 26 rfl rfl)
theorem dX11_image_58 : decode cX11_image 58 = .ok (.istore_n 1, 1) := q_istore_n1 (bat_get dg_X11_image_0_0 27 rfl rfl)
theorem dX11_image_59 : decode cX11_image 59 = .ok (.iload_n 1, 1) := q_iload_n1 (bat_get dg_X11_image_0_0 28 rfl rfl)
theorem dX11_image_60 : decode cX11_image 60 = .ok (.aload_n 0, 1) := q_aload_n0 (bat_get dg_X11_image_0_0 29 rfl rfl)
theorem dX11_image_61 : decode cX11_image 61 = .ok (.getfield 59, 3) := q_getfield (bat_get dg_X11_image_0_0 30 rfl rfl) rfl
theorem dX11_image_64 : decode cX11_image 64 = .ok (.getfield 144, 3) := q_getfield (bat_get dg_X11_image_0_0 31 rfl rfl) rfl
theorem dX11_image_67 : decode cX11_image 67 = .ok (.if_icmp .ge 64, 3) := q_if_icmp_ge (bat_get dg_X11_image_0_0 32 rfl rfl) rfl
theorem dX11_image_131 : decode cX11_image 131 = .ok (.aload_n 0, 1) := q_aload_n0 (bat_get dg_X11_image_0_0 33 rfl rfl)
theorem dX11_image_132 : decode cX11_image 132 = .ok (.getfield 18, 3) := q_getfield (bat_get dg_X11_image_0_0 34 rfl rfl) rfl
theorem dX11_image_135 : decode cX11_image 135 = .ok (.aload_n 0, 1) := q_aload_n0 (bat_get dg_X11_image_0_0 35 rfl rfl)
theorem dX11_image_136 : decode cX11_image 136 = .ok (.getfield 18, 3) := q_getfield (bat_get dg_X11_image_0_0 36 rfl rfl) rfl
theorem dX11_image_139 : decode cX11_image 139 = .ok (.aload_n 0, 1) := q_aload_n0 (bat_get dg_X11_image_0_0 37 rfl rfl)
theorem dX11_image_140 : decode cX11_image 140 = .ok (.getfield 18, 3) := q_getfield (bat_get dg_X11_image_0_0 38 rfl rfl) rfl
theorem dX11_image_143 : decode cX11_image 143 = .ok (.getfield 110, 3) := q_getfield (bat_get dg_X11_image_0_0 39 rfl rfl) rfl
theorem dg_X11_image_70_146 : bqL cX11_image 70 [(76, [182, 1, 57]), (79, [182, 1, 54]), (82, [42]), (83, [180, 0, 18]), (86, [180, 0, 110]), (89, [172]), (0, [42]), (1, [180, 0, 18]), (4, [42]), (5, [180, 0, 59]), (8, [180, 0, 173]), (11, [27]), (12, [46]), (13, [182, 1, 54]), (16, [42]), (17, [180, 0, 18]), (20, [42]), (21, [180, 0, 59]), (24, [180, 0, 176]), (27, [27]), (28, [46]), (29, [182, 1, 54]), (52, [182, 1, 54]), (55, [132, 1, 1]), (58, [167, 255, 187]), (32, [42]), (33, [180, 0, 18]), (36, [42]), (37, [180, 0, 59]), (40, [27]), (41, [182, 0, 179]), (44, [153, 0, 7]), (51, [3]), (47, [4]), (48, [167, 0, 4])] = true := by decide +kernel
theorem dX11_image_146 : decode cX11_image 146 = .ok (.invokevirtual 313, 3) := q_invokevirtual (bat_get dg_X11_image_70_146 0 rfl rfl) rfl
theorem dX11_image_149 : decode cX11_image 149 = .ok (.invokevirtual 310, 3) := q_invokevirtual (bat_get dg_X11_image_70_146 1 rfl rfl) rfl
theorem dX11_image_152 : decode cX11_image 152 = .ok (.aload_n 0, 1) := q_aload_n0 (bat_get dg_X11_image_70_146 2 rfl rfl)
theorem dX11_image_153 : decode cX11_image 153 = .ok (.getfield 18, 3) := q_getfield (bat_get dg_X11_image_70_146 3 rfl rfl) rfl
theorem dX11_image_156 : decode cX11_image 156 = .ok (.getfield 110, 3) := q_getfield (bat_get dg_X11_image_70_146 4 rfl rfl) rfl
theorem dX11_image_159 : decode cX11_image 159 = .ok (.ireturn, 1) := q_ireturn (bat_get dg_X11_image_70_146 5 rfl rfl)
theorem dX11_image_70 : decode cX11_image 70 = .ok (.aload_n 0, 1) := q_aload_n0 (bat_get dg_X11_image_70_146 6 rfl rfl)
theorem dX11_image_71 : decode cX11_image 71 = .ok (.getfield 18, 3) := q_getfield (bat_get dg_X11_image_70_146 7 rfl rfl) rfl
theorem dX11_image_74 : decode cX11_image 74 = .ok (.aload_n 0, 1) := q_aload_n0 (bat_get dg_X11_image_70_146 8 rfl rfl)
theorem dX11_image_75 : decode cX11_image 75 = .ok (.getfield 59, 3) := q_getfield (bat_get dg_X11_image_70_146 9 rfl rfl) rfl
theorem dX11_image_78 : decode cX11_image 78 = .ok (.getfield 173, 3) := q_getfield (bat_get dg_X11_image_70_146 10 rfl rfl) rfl
theorem dX11_image_81 : decode cX11_image 81 = .ok (.iload_n 1, 1) := q_iload_n1 (bat_get dg_X11_image_70_146 11 rfl rfl)
theorem dX11_image_82 : decode cX11_image 82 = .ok (.iaload, 1) := q_iaload (bat_get dg_X11_image_70_146 12 rfl rfl)
theorem dX11_image_83 : decode cX11_image 83 = .ok (.invokevirtual 310, 3) := q_invokevirtual (bat_get dg_X11_image_70_146 13 rfl rfl) rfl
theorem dX11_image_86 : decode cX11_image 86 = .ok (.aload_n 0, 1) := q_aload_n0 (bat_get dg_X11_image_70_146 14 rfl rfl)
theorem dX11_image_87 : decode cX11_image 87 = .ok (.getfield 18, 3) := q_getfield (bat_get dg_X11_image_70_146 15 rfl rfl) rfl
theorem dX11_image_90 : decode cX11_image 90 = .ok (.aload_n 0, 1) := q_aload_n0 (bat_get dg_X11_image_70_146 16 rfl rfl)
theorem dX11_image_91 : decode cX11_image 91 = .ok (.getfield 59, 3) := q_getfield (bat_get dg_X11_image_70_146 17 rfl rfl) rfl
theorem dX11_image_94 : decode cX11_image 94 = .ok (.getfield 176, 3) := q_getfield (bat_get dg_X11_image_70_146 18 rfl rfl) rfl
theorem dX11_image_97 : decode cX11_image 97 = .ok (.iload_n 1, 1) := q_iload_n1 (bat_get dg_X11_image_70_146 19 rfl rfl)
theorem dX11_image_98 : decode cX11_image 98 = .ok (.iaload, 1) := q_iaload (bat_get dg_X11_image_70_146 20 rfl rfl)
theorem dX11_image_99 : decode cX11_image 99 = .ok (.invokevirtual 310, 3) := q_invokevirtual (bat_get dg_X11_image_70_146 21 rfl rfl) rfl
theorem dX11_image_122 : decode cX11_image 122 = .ok (.invokevirtual 310, 3) := q_invokevirtual (bat_get dg_X11_image_70_146 22 rfl rfl) rfl
theorem dX11_image_125 : decode cX11_image 125 = .ok (.iinc 1 1, 3) := q_iinc (bat_get dg_X11_image_70_146 23 rfl rfl) rfl
theorem dX11_image_128 : decode cX11_image 128 = .ok (.goto (-69), 3) := q_goto (bat_get dg_X11_image_70_146 24 rfl rfl) rfl
theorem dX11_image_102 : decode cX11_image 102 = .ok (.aload_n 0, 1) := q_aload_n0 (bat_get dg_X11_image_70_146 25 rfl rfl)
theorem dX11_image_103 : decode cX11_image 103 = .ok (.getfield 18, 3) := q_getfield (bat_get dg_X11_image_70_146 26 rfl rfl) rfl
theorem dX11_image_106 : decode cX11_image 106 = .ok (.aload_n 0, 1) := q_aload_n0 (bat_get dg_X11_image_70_146 27 rfl rfl)
theorem dX11_image_107 : decode cX11_image 107 = .ok (.getfield 59, 3) := q_getfield (bat_get dg_X11_image_70_146 28 rfl rfl) rfl
theorem dX11_image_110 : decode cX11_image 110 = .ok (.iload_n 1, 1) := q_iload_n1 (bat_get dg_X11_image_70_146 29 rfl rfl)
