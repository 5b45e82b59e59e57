def CT_sread (l : Launch) (D : va_G) (cI cJ cC cZ cS : ClassId) (zk zv : Nat) (zf : Value) (dd : Nat) : Prop := ∀ (q : Nat → Nat) (u0 : Nat) (kd : Int32) (xa : Nat) (xv : Int32) (xo : Nat) (xt : Int32) (xz : Nat) (xf : Int32) (xp : Int32) (tl : Nat) (tb : Nat → Nat) (h0 : Nat) (k1 : Nat) (k2 : Nat) (k3 : Nat) (k4 : Nat) (cl : Nat) (mw : Nat) (f1 : Nat → Int32) (hxa : xa ≤ 1600) (hxz : xz ≤ 1600) (htl : tl ≤ 1600) (htb : ∀ j, tb j ≤ 255) (hcl : cl ≤ 1600) (hmw : mw ≤ 1) (hdd : xo + dd = 6), skMZ zk zv zf l yX8_read cX8_read 2 none (24 + 5 * dd) (700 + 100 * dd) 0 0 D (skT cI cJ cC cZ cS) [.ref u0, .ref h0] [(u0, .inr (8, [.ref (q 2), .int kd])), (q 2, .inr (6, [.ref (q 0), .int (nI xa), .int xv, .int (nI xo), .int xt, .int (nI xz), .int xf, .int xp])), (q 0, .inr (10, [.ref (q 20), .int (nI tl)])), (q 20, .inl (cI, 1600, .inl (fun j => nI (tb j)))), (h0, .inr (0, [.ref k1, .ref k2, .ref k3, .ref k4, .int (nI cl), .int (nI mw)])), (k1, .inl (cI, 1600, .inl f1))] (skV D (skT cI cJ cC cZ cS) (fun (u : va_W) => ∃ (xa2 : Nat), ∃ (xv2 : Int32), ∃ (xt2 : Int32), ∃ (xz2 : Nat), ∃ (xf2 : Int32), ∃ (xp2 : Int32), ∃ (c2 : Nat), ∃ (w2 : Nat), ∃ (g1 : Nat → Int32), xa2 ≤ 1600 ∧ xz2 ≤ 1600 ∧ c2 ≤ 1600 ∧ w2 ≤ 1 ∧ u = [(u0, .inr (8, [.ref (q 2), .int kd])), (q 2, .inr (6, [.ref (q 0), .int (nI xa2), .int xv2, .int (nI xo), .int xt2, .int (nI xz2), .int xf2, .int xp2])), (q 0, .inr (10, [.ref (q 20), .int (nI tl)])), (q 20, .inl (cI, 1600, .inl (fun j => nI (tb j)))), (h0, .inr (0, [.ref k1, .ref k2, .ref k3, .ref k4, .int (nI c2), .int (nI w2)])), (k1, .inl (cI, 1600, .inl g1))]))
theorem dX8_read_0 : decode cX8_read 0 = .ok (.aload_n 0, 1) := by decide +kernel
theorem dX8_read_1 : decode cX8_read 1 = .ok (.aload_n 1, 1) := by decide +kernel
theorem dX8_read_2 : decode cX8_read 2 = .ok (.invokevirtual 19, 3) := by decide +kernel
theorem dX8_read_5 : decode cX8_read 5 = .ok (.return_, 1) := by decide +kernel
theorem w_3_83 : (Cond.code yX8_read cX8_read 2 none) ∈ wsL_law := sk_mem (ck_3 _ (List.mem_of_getElem? (i := 83) rfl)) rfl
set_option maxHeartbeats 4000000 in
set_option maxRecDepth 100000 in
theorem c_sread (l : Launch) (D : va_G) (cI cJ cC cZ cS : ClassId) (zk zv : Nat) (zf : Value) (dd : Nat)  : CT_sread l D cI cJ cC cZ cS zk zv zf dd := by
  intro q u0 kd xa xv xo xt xz xf xp tl tb h0 k1 k2 k3 k4 cl mw f1 hxa hxz htl htb hcl hmw hdd
  refine skMZ_of (by decide +kernel) (Nat.le_of_ble_eq_true rfl) ?_
  intro p e s m below meth c A ls E hP hD hZ hl
  obtain ⟨hx, hb, hr, hml, hlocks, hin, hown, hts, hK, hA⟩ := E
  have hown : s.vm.findClass RX8 = some m.cls := hown
  have hS : va_S A s.heap s.heap [] := va_S.rf
  have hl : lv_has ls 2 [(0, .ref u0), (1, .ref h0)] := hl
  refine lv_aload_n hx hb dX8_read_0 rfl (lv_at hl 0 rfl) ?_
  refine lv_aload_n hx hb dX8_read_1 rfl (lv_at hl 1 rfl) ?_
  refine sk_VvZ (q0 := 0) (n := 1) (rest := []) (wr := []) ⟨hx, hb, hml, hown, hts⟩ hl.1 ((c_sums l D cI cJ cC cZ cS zk zv zf dd).1 q u0 kd xa xv xo xt xz xf xp tl tb h0 k1 k2 k3 k4 cl mw f1 (by omega) (by omega) (by omega) htb (by omega) (by omega) (by omega)) w_3_84 w_3_86 w_0_6 w_1_6 w_3_87 (by decide +kernel) ⟨⟨(by dsimp only; omega), (by dsimp only; omega)⟩, (by dsimp only; omega), (by dsimp only; omega)⟩ hK hP hD hS hZ hA [0, 1, 2, 3, 4, 5] [] rfl rfl (by decide +kernel) (by decide +kernel) (by decide +kernel) rfl rfl rfl rfl (Nat.le_of_ble_eq_true rfl) dX8_read_2 (fun u H locs hw hP hD hS => ?_)
  obtain ⟨xa2_1, xv2_2, xt2_3, xz2_4, xf2_5, xp2_6, c2_7, w2_8, g1_9, hxa2_10, hxz2_11, hc2_12, hw2_13, rfl⟩ := hw
  have hP : va_P D vwCl [(u0, .inr (8, [.ref (q 2), .int kd])), (q 2, .inr (6, [.ref (q 0), .int (nI xa2_1), .int xv2_2, .int (nI xo), .int xt2_3, .int (nI xz2_4), .int xf2_5, .int xp2_6])), (q 0, .inr (10, [.ref (q 20), .int (nI tl)])), (q 20, .inl (cI, 1600, .inl (fun j => nI (tb j)))), (h0, .inr (0, [.ref k1, .ref k2, .ref k3, .ref k4, .int (nI c2_7), .int (nI w2_8)])), (k1, .inl (cI, 1600, .inl g1_9))] H := hP
  have hD : va_D A [(u0, .inr (8, [.ref (q 2), .int kd])), (q 2, .inr (6, [.ref (q 0), .int (nI xa2_1), .int xv2_2, .int (nI xo), .int xt2_3, .int (nI xz2_4), .int xf2_5, .int xp2_6])), (q 0, .inr (10, [.ref (q 20), .int (nI tl)])), (q 20, .inl (cI, 1600, .inl (fun j => nI (tb j)))), (h0, .inr (0, [.ref k1, .ref k2, .ref k3, .ref k4, .int (nI c2_7), .int (nI w2_8)])), (k1, .inl (cI, 1600, .inl g1_9))] := hD
  exact sk_vret hx hb hr hlocks hK hP hD hS (⟨xa2_1, xv2_2, xt2_3, xz2_4, xf2_5, xp2_6, c2_7, w2_8, g1_9, by omega, by omega, by omega, by omega, rfl⟩) (Nat.le_of_ble_eq_true rfl) (Nat.le_of_ble_eq_true rfl) dX8_read_5
theorem dX2_clear_0 : decode cX2_clear 0 = .ok (.aload_n 0, 1) := by decide +kernel
theorem dX2_clear_1 : decode cX2_clear 1 = .ok (.getfield 12, 3) := by decide +kernel
theorem dX2_clear_4 : decode cX2_clear 4 = .ok (.invokevirtual 47, 3) := by decide +kernel
theorem dX2_clear_7 : decode cX2_clear 7 = .ok (.aload_n 0, 1) := by decide +kernel
theorem dX2_clear_8 : decode cX2_clear 8 = .ok (.getfield 18, 3) := by decide +kernel
theorem dX2_clear_11 : decode cX2_clear 11 = .ok (.iconst 0, 1) := by decide +kernel
theorem dX2_clear_12 : decode cX2_clear 12 = .ok (.invokestatic 50, 3) := by decide +kernel
theorem dX2_clear_15 : decode cX2_clear 15 = .ok (.aload_n 0, 1) := by decide +kernel
theorem dX2_clear_16 : decode cX2_clear 16 = .ok (.getfield 22, 3) := by decide +kernel
theorem dX2_clear_19 : decode cX2_clear 19 = .ok (.iconst 0, 1) := by decide +kernel
theorem dX2_clear_20 : decode cX2_clear 20 = .ok (.invokestatic 50, 3) := by decide +kernel
theorem dX2_clear_23 : decode cX2_clear 23 = .ok (.aload_n 0, 1) := by decide +kernel
theorem dX2_clear_24 : decode cX2_clear 24 = .ok (.getfield 25, 3) := by decide +kernel
theorem dX2_clear_27 : decode cX2_clear 27 = .ok (.iconst 0, 1) := by decide +kernel
theorem dX2_clear_28 : decode cX2_clear 28 = .ok (.invokestatic 50, 3) := by decide +kernel
theorem dX2_clear_31 : decode cX2_clear 31 = .ok (.aload_n 0, 1) := by decide +kernel
theorem dX2_clear_32 : decode cX2_clear 32 = .ok (.getfield 28, 3) := by decide +kernel
theorem dX2_clear_35 : decode cX2_clear 35 = .ok (.iconst 0, 1) := by decide +kernel
theorem dX2_clear_36 : decode cX2_clear 36 = .ok (.invokestatic 50, 3) := by decide +kernel
theorem dX2_clear_39 : decode cX2_clear 39 = .ok (.aload_n 0, 1) := by decide +kernel
theorem dX2_clear_40 : decode cX2_clear 40 = .ok (.iconst 0, 1) := by decide +kernel
theorem dX2_clear_41 : decode cX2_clear 41 = .ok (.putfield 38, 3) := by decide +kernel
theorem dX2_clear_44 : decode cX2_clear 44 = .ok (.aload_n 0, 1) := by decide +kernel
theorem dX2_clear_45 : decode cX2_clear 45 = .ok (.iconst 0, 1) := by decide +kernel
theorem dX2_clear_46 : decode cX2_clear 46 = .ok (.putfield 41, 3) := by decide +kernel
theorem dX2_clear_49 : decode cX2_clear 49 = .ok (.aload_n 0, 1) := by decide +kernel
theorem dX2_clear_50 : decode cX2_clear 50 = .ok (.iconst 0, 1) := by decide +kernel
theorem dX2_clear_51 : decode cX2_clear 51 = .ok (.putfield 44, 3) := by decide +kernel
theorem dX2_clear_54 : decode cX2_clear 54 = .ok (.return_, 1) := by decide +kernel
theorem w_1_175 : (Cond.fieldLink RX2 12 "SameKeeper$Lock" "code" "LSameKeeper$Code;") ∈ wsL_law := sk_mem (ck_1 _ (List.mem_of_getElem? (i := 175) rfl)) rfl
theorem w_2_214 : (Cond.methodLink RX2 47 yX0_clear) ∈ wsL_law := sk_mem (ck_2 _ (List.mem_of_getElem? (i := 214) rfl)) rfl
theorem w_2_215 : (Cond.instanceMethod yX0_clear) ∈ wsL_law := sk_mem (ck_2 _ (List.mem_of_getElem? (i := 215) rfl)) rfl
theorem w_2_216 : (Cond.selects RX0 yX0_clear yX0_clear) ∈ wsL_law := sk_mem (ck_2 _ (List.mem_of_getElem? (i := 216) rfl)) rfl
theorem w_1_178 : (Cond.fieldLink RX2 18 "SameKeeper$Lock" "barge" "[I") ∈ wsL_law := sk_mem (ck_1 _ (List.mem_of_getElem? (i := 178) rfl)) rfl
theorem w_2_218 : (Cond.methodLink RX2 50 yJ7_fill_53178) ∈ wsL_law := sk_mem (ck_2 _ (List.mem_of_getElem? (i := 218) rfl)) rfl
theorem w_1_181 : (Cond.fieldLink RX2 22 "SameKeeper$Lock" "wet" "[I") ∈ wsL_law := sk_mem (ck_1 _ (List.mem_of_getElem? (i := 181) rfl)) rfl
theorem w_1_184 : (Cond.fieldLink RX2 25 "SameKeeper$Lock" "from" "[I") ∈ wsL_law := sk_mem (ck_1 _ (List.mem_of_getElem? (i := 184) rfl)) rfl
theorem w_1_186 : (Cond.fieldLink RX2 28 "SameKeeper$Lock" "to" "[I") ∈ wsL_law := sk_mem (ck_1 _ (List.mem_of_getElem? (i := 186) rfl)) rfl
theorem w_1_194 : (Cond.fieldLink RX2 38 "SameKeeper$Lock" "mute" "I") ∈ wsL_law := sk_mem (ck_1 _ (List.mem_of_getElem? (i := 194) rfl)) rfl
theorem w_1_197 : (Cond.fieldLink RX2 41 "SameKeeper$Lock" "rain" "I") ∈ wsL_law := sk_mem (ck_1 _ (List.mem_of_getElem? (i := 197) rfl)) rfl
theorem w_1_200 : (Cond.fieldLink RX2 44 "SameKeeper$Lock" "statements" "I") ∈ wsL_law := sk_mem (ck_1 _ (List.mem_of_getElem? (i := 200) rfl)) rfl
theorem w_2_213 : (Cond.code yX2_clear cX2_clear 1 none) ∈ wsL_law := sk_mem (ck_2 _ (List.mem_of_getElem? (i := 213) rfl)) rfl
set_option maxHeartbeats 4000000 in
set_option maxRecDepth 100000 in
theorem c_lk_clear (l : Launch) (D : va_G) (cI cJ cC cZ cS : ClassId) (q : Nat → Nat) (jd : Nat) (jm : Nat) (ju : Int32) (jr : Int32) (jn : Nat) (jc : Nat) (jx : Nat) (jf : Nat → Int32) (jt : Nat → Int32) (jb : Nat → Int32) (jw : Nat → Int32)  : skM l yX2_clear cX2_clear 1 none 1 23 0 0 D (skT cI cJ cC cZ cS) [.ref (q 6)] [(q 6, .inr (2, [.ref (q 24), .ref (q 25), .ref (q 26), .ref (q 27), .ref (q 28), .int (nI jd), .int (nI jm), .int ju, .int jr, .int (nI jn)])), (q 24, .inr (0, [.ref (q 29), .ref (q 30), .ref (q 31), .ref (q 32), .int (nI jc), .int (nI jx)])), (q 27, .inl (cI, 3, .inl jf)), (q 28, .inl (cI, 3, .inl jt)), (q 25, .inl (cI, 9, .inl jb)), (q 26, .inl (cI, 9, .inl jw))] (skV D (skT cI cJ cC cZ cS) (fun (u : va_W) => ∃ (gf : Nat → Int32), ∃ (gt : Nat → Int32), ∃ (gb : Nat → Int32), ∃ (gw : Nat → Int32), u = [(q 6, .inr (2, [.ref (q 24), .ref (q 25), .ref (q 26), .ref (q 27), .ref (q 28), .int (nI jd), .int (nI jm), .int 0, .int 0, .int 0])), (q 24, .inr (0, [.ref (q 29), .ref (q 30), .ref (q 31), .ref (q 32), .int 0, .int 0])), (q 27, .inl (cI, 3, .inl gf)), (q 28, .inl (cI, 3, .inl gt)), (q 25, .inl (cI, 9, .inl gb)), (q 26, .inl (cI, 9, .inl gw))])) := by
  refine skM_of (by decide +kernel) (Nat.le_of_ble_eq_true rfl) ?_
  intro p e s m below meth c A ls E hP hD hl
  obtain ⟨hx, hb, hr, hml, hlocks, hin, hown, hts, hK, hA⟩ := E
  have hown : s.vm.findClass RX2 = some m.cls := hown
  have hS : va_S A s.heap s.heap [] := va_S.rf
  have hl : lv_has ls 1 [(0, .ref (q 6))] := hl
  refine lv_aload_n hx hb dX2_clear_0 rfl (lv_at hl 0 rfl) ?_
  refine sk_get (v := .ref (q 24)) (C := RX2) (T := TX2) (N := 10) hx hb hts inlX2 hown hK hP 0 rfl rfl 0 (by decide) w_1_175 rfl dX2_clear_1 ?_
  refine sk_Vv (q0 := 0) (n := 0) (rest := []) (wr := [(q 6, .inr (2, [.ref (q 24), .ref (q 25), .ref (q 26), .ref (q 27), .ref (q 28), .int (nI jd), .int (nI jm), .int ju, .int jr, .int (nI jn)])), (q 27, .inl (cI, 3, .inl jf)), (q 28, .inl (cI, 3, .inl jt)), (q 25, .inl (cI, 9, .inl jb)), (q 26, .inl (cI, 9, .inl jw))]) ⟨hx, hb, hml, hown, hts⟩ hl.1 (c_Code_clear l D cI cJ cC cZ cS (q 24) (q 29) (q 30) (q 31) (q 32) jc jx) w_2_214 w_2_215 w_2_216 w_1_8 w_2_217 (by decide +kernel) ⟨⟨(Nat.le_of_ble_eq_true rfl), (Nat.le_of_ble_eq_true rfl)⟩, (Nat.le_of_ble_eq_true rfl), (Nat.le_of_ble_eq_true rfl)⟩ hK hP hD hS hA [1] [0, 2, 3, 4, 5] rfl rfl (by decide +kernel) (by decide +kernel) (by decide +kernel) rfl rfl rfl rfl (Nat.le_of_ble_eq_true rfl) dX2_clear_4 (fun u H locs hw hP hD hS => ?_)
  obtain rfl := hw
  have hP : va_P D vwCl [(q 6, .inr (2, [.ref (q 24), .ref (q 25), .ref (q 26), .ref (q 27), .ref (q 28), .int (nI jd), .int (nI jm), .int ju, .int jr, .int (nI jn)])), (q 27, .inl (cI, 3, .inl jf)), (q 28, .inl (cI, 3, .inl jt)), (q 25, .inl (cI, 9, .inl jb)), (q 26, .inl (cI, 9, .inl jw)), (q 24, .inr (0, [.ref (q 29), .ref (q 30), .ref (q 31), .ref (q 32), .int 0, .int 0]))] H := hP
  have hD : va_D A [(q 6, .inr (2, [.ref (q 24), .ref (q 25), .ref (q 26), .ref (q 27), .ref (q 28), .int (nI jd), .int (nI jm), .int ju, .int jr, .int (nI jn)])), (q 27, .inl (cI, 3, .inl jf)), (q 28, .inl (cI, 3, .inl jt)), (q 25, .inl (cI, 9, .inl jb)), (q 26, .inl (cI, 9, .inl jw)), (q 24, .inr (0, [.ref (q 29), .ref (q 30), .ref (q 31), .ref (q 32), .int 0, .int 0]))] := hD
  refine lv_aload_n hx hb dX2_clear_7 rfl (lv_at hl 0 rfl) ?_
  refine sk_get (v := .ref (q 25)) (C := RX2) (T := TX2) (N := 10) hx hb hts inlX2 hown hK hP 0 rfl rfl 1 (by decide) w_1_178 rfl dX2_clear_8 ?_
  refine lv_iconst (v := 0) hx hb dX2_clear_11 (by decide) ?_
  refine sk_Sv (n := 2) (rest := []) (wr := [(q 6, .inr (2, [.ref (q 24), .ref (q 25), .ref (q 26), .ref (q 27), .ref (q 28), .int (nI jd), .int (nI jm), .int ju, .int jr, .int (nI jn)])), (q 27, .inl (cI, 3, .inl jf)), (q 28, .inl (cI, 3, .inl jt)), (q 26, .inl (cI, 9, .inl jw)), (q 24, .inr (0, [.ref (q 29), .ref (q 30), .ref (q 31), .ref (q 32), .int 0, .int 0]))]) ⟨hx, hb, hml, hown, hts⟩ hl.1 (c_fill l D cI cJ cC cZ cS (q 25) 9 jb 0 (by omega)) w_2_218 w_2_219 w_1_15 w_2_220 (by decide +kernel) ⟨⟨(Nat.le_of_ble_eq_true rfl), (Nat.le_of_ble_eq_true rfl)⟩, (Nat.le_of_ble_eq_true rfl), (Nat.le_of_ble_eq_true rfl)⟩ hK hP hD hS hA [3] [0, 1, 2, 4, 5] rfl rfl (by decide +kernel) (by decide +kernel) (by decide +kernel) rfl rfl (Nat.le_of_ble_eq_true rfl) dX2_clear_12 (fun u H locs hw hP hD hS => ?_)
  obtain ⟨g_1, rfl⟩ := hw
  have hP : va_P D vwCl [(q 6, .inr (2, [.ref (q 24), .ref (q 25), .ref (q 26), .ref (q 27), .ref (q 28), .int (nI jd), .int (nI jm), .int ju, .int jr, .int (nI jn)])), (q 27, .inl (cI, 3, .inl jf)), (q 28, .inl (cI, 3, .inl jt)), (q 26, .inl (cI, 9, .inl jw)), (q 24, .inr (0, [.ref (q 29), .ref (q 30), .ref (q 31), .ref (q 32), .int 0, .int 0])), (q 25, .inl (cI, 9, .inl g_1))] H := hP
  have hD : va_D A [(q 6, .inr (2, [.ref (q 24), .ref (q 25), .ref (q 26), .ref (q 27), .ref (q 28), .int (nI jd), .int (nI jm), .int ju, .int jr, .int (nI jn)])), (q 27, .inl (cI, 3, .inl jf)), (q 28, .inl (cI, 3, .inl jt)), (q 26, .inl (cI, 9, .inl jw)), (q 24, .inr (0, [.ref (q 29), .ref (q 30), .ref (q 31), .ref (q 32), .int 0, .int 0])), (q 25, .inl (cI, 9, .inl g_1))] := hD
  refine lv_aload_n hx hb dX2_clear_15 rfl (lv_at hl 0 rfl) ?_
  refine sk_get (v := .ref (q 26)) (C := RX2) (T := TX2) (N := 10) hx hb hts inlX2 hown hK hP 0 rfl rfl 2 (by decide) w_1_181 rfl dX2_clear_16 ?_
  refine lv_iconst (v := 0) hx hb dX2_clear_19 (by decide) ?_
  refine sk_Sv (n := 2) (rest := []) (wr := [(q 6, .inr (2, [.ref (q 24), .ref (q 25), .ref (q 26), .ref (q 27), .ref (q 28), .int (nI jd), .int (nI jm), .int ju, .int jr, .int (nI jn)])), (q 27, .inl (cI, 3, .inl jf)), (q 28, .inl (cI, 3, .inl jt)), (q 24, .inr (0, [.ref (q 29), .ref (q 30), .ref (q 31), .ref (q 32), .int 0, .int 0])), (q 25, .inl (cI, 9, .inl g_1))]) ⟨hx, hb, hml, hown, hts⟩ hl.1 (c_fill l D cI cJ cC cZ cS (q 26) 9 jw 0 (by omega)) w_2_218 w_2_219 w_1_15 w_2_220 (by decide +kernel) ⟨⟨(Nat.le_of_ble_eq_true rfl), (Nat.le_of_ble_eq_true rfl)⟩, (Nat.le_of_ble_eq_true rfl), (Nat.le_of_ble_eq_true rfl)⟩ hK hP hD hS hA [3] [0, 1, 2, 4, 5] rfl rfl (by decide +kernel) (by decide +kernel) (by decide +kernel) rfl rfl (Nat.le_of_ble_eq_true rfl) dX2_clear_20 (fun u H locs hw hP hD hS => ?_)
  obtain ⟨g_2, rfl⟩ := hw
  have hP : va_P D vwCl [(q 6, .inr (2, [.ref (q 24), .ref (q 25), .ref (q 26), .ref (q 27), .ref (q 28), .int (nI jd), .int (nI jm), .int ju, .int jr, .int (nI jn)])), (q 27, .inl (cI, 3, .inl jf)), (q 28, .inl (cI, 3, .inl jt)), (q 24, .inr (0, [.ref (q 29), .ref (q 30), .ref (q 31), .ref (q 32), .int 0, .int 0])), (q 25, .inl (cI, 9, .inl g_1)), (q 26, .inl (cI, 9, .inl g_2))] H := hP
  have hD : va_D A [(q 6, .inr (2, [.ref (q 24), .ref (q 25), .ref (q 26), .ref (q 27), .ref (q 28), .int (nI jd), .int (nI jm), .int ju, .int jr, .int (nI jn)])), (q 27, .inl (cI, 3, .inl jf)), (q 28, .inl (cI, 3, .inl jt)), (q 24, .inr (0, [.ref (q 29), .ref (q 30), .ref (q 31), .ref (q 32), .int 0, .int 0])), (q 25, .inl (cI, 9, .inl g_1)), (q 26, .inl (cI, 9, .inl g_2))] := hD
  refine lv_aload_n hx hb dX2_clear_23 rfl (lv_at hl 0 rfl) ?_
  refine sk_get (v := .ref (q 27)) (C := RX2) (T := TX2) (N := 10) hx hb hts inlX2 hown hK hP 0 rfl rfl 3 (by decide) w_1_184 rfl dX2_clear_24 ?_
  refine lv_iconst (v := 0) hx hb dX2_clear_27 (by decide) ?_
  refine sk_Sv (n := 2) (rest := []) (wr := [(q 6, .inr (2, [.ref (q 24), .ref (q 25), .ref (q 26), .ref (q 27), .ref (q 28), .int (nI jd), .int (nI jm), .int ju, .int jr, .int (nI jn)])), (q 28, .inl (cI, 3, .inl jt)), (q 24, .inr (0, [.ref (q 29), .ref (q 30), .ref (q 31), .ref (q 32), .int 0, .int 0])), (q 25, .inl (cI, 9, .inl g_1)), (q 26, .inl (cI, 9, .inl g_2))]) ⟨hx, hb, hml, hown, hts⟩ hl.1 (c_fill l D cI cJ cC cZ cS (q 27) 3 jf 0 (by omega)) w_2_218 w_2_219 w_1_15 w_2_220 (by decide +kernel) ⟨⟨(Nat.le_of_ble_eq_true rfl), (Nat.le_of_ble_eq_true rfl)⟩, (Nat.le_of_ble_eq_true rfl), (Nat.le_of_ble_eq_true rfl)⟩ hK hP hD hS hA [1] [0, 2, 3, 4, 5] rfl rfl (by decide +kernel) (by decide +kernel) (by decide +kernel) rfl rfl (Nat.le_of_ble_eq_true rfl) dX2_clear_28 (fun u H locs hw hP hD hS => ?_)
  obtain ⟨g_3, rfl⟩ := hw
  have hP : va_P D vwCl [(q 6, .inr (2, [.ref (q 24), .ref (q 25), .ref (q 26), .ref (q 27), .ref (q 28), .int (nI jd), .int (nI jm), .int ju, .int jr, .int (nI jn)])), (q 28, .inl (cI, 3, .inl jt)), (q 24, .inr (0, [.ref (q 29), .ref (q 30), .ref (q 31), .ref (q 32), .int 0, .int 0])), (q 25, .inl (cI, 9, .inl g_1)), (q 26, .inl (cI, 9, .inl g_2)), (q 27, .inl (cI, 3, .inl g_3))] H := hP
  have hD : va_D A [(q 6, .inr (2, [.ref (q 24), .ref (q 25), .ref (q 26), .ref (q 27), .ref (q 28), .int (nI jd), .int (nI jm), .int ju, .int jr, .int (nI jn)])), (q 28, .inl (cI, 3, .inl jt)), (q 24, .inr (0, [.ref (q 29), .ref (q 30), .ref (q 31), .ref (q 32), .int 0, .int 0])), (q 25, .inl (cI, 9, .inl g_1)), (q 26, .inl (cI, 9, .inl g_2)), (q 27, .inl (cI, 3, .inl g_3))] := hD
  refine lv_aload_n hx hb dX2_clear_31 rfl (lv_at hl 0 rfl) ?_
  refine sk_get (v := .ref (q 28)) (C := RX2) (T := TX2) (N := 10) hx hb hts inlX2 hown hK hP 0 rfl rfl 4 (by decide) w_1_186 rfl dX2_clear_32 ?_
  refine lv_iconst (v := 0) hx hb dX2_clear_35 (by decide) ?_
  refine sk_Sv (n := 2) (rest := []) (wr := [(q 6, .inr (2, [.ref (q 24), .ref (q 25), .ref (q 26), .ref (q 27), .ref (q 28), .int (nI jd), .int (nI jm), .int ju, .int jr, .int (nI jn)])), (q 24, .inr (0, [.ref (q 29), .ref (q 30), .ref (q 31), .ref (q 32), .int 0, .int 0])), (q 25, .inl (cI, 9, .inl g_1)), (q 26, .inl (cI, 9, .inl g_2)), (q 27, .inl (cI, 3, .inl g_3))]) ⟨hx, hb, hml, hown, hts⟩ hl.1 (c_fill l D cI cJ cC cZ cS (q 28) 3 jt 0 (by omega)) w_2_218 w_2_219 w_1_15 w_2_220 (by decide +kernel) ⟨⟨(Nat.le_of_ble_eq_true rfl), (Nat.le_of_ble_eq_true rfl)⟩, (Nat.le_of_ble_eq_true rfl), (Nat.le_of_ble_eq_true rfl)⟩ hK hP hD hS hA [1] [0, 2, 3, 4, 5] rfl rfl (by decide +kernel) (by decide +kernel) (by decide +kernel) rfl rfl (Nat.le_of_ble_eq_true rfl) dX2_clear_36 (fun u H locs hw hP hD hS => ?_)
  obtain ⟨g_4, rfl⟩ := hw
  have hP : va_P D vwCl [(q 6, .inr (2, [.ref (q 24), .ref (q 25), .ref (q 26), .ref (q 27), .ref (q 28), .int (nI jd), .int (nI jm), .int ju, .int jr, .int (nI jn)])), (q 24, .inr (0, [.ref (q 29), .ref (q 30), .ref (q 31), .ref (q 32), .int 0, .int 0])), (q 25, .inl (cI, 9, .inl g_1)), (q 26, .inl (cI, 9, .inl g_2)), (q 27, .inl (cI, 3, .inl g_3)), (q 28, .inl (cI, 3, .inl g_4))] H := hP
  have hD : va_D A [(q 6, .inr (2, [.ref (q 24), .ref (q 25), .ref (q 26), .ref (q 27), .ref (q 28), .int (nI jd), .int (nI jm), .int ju, .int jr, .int (nI jn)])), (q 24, .inr (0, [.ref (q 29), .ref (q 30), .ref (q 31), .ref (q 32), .int 0, .int 0])), (q 25, .inl (cI, 9, .inl g_1)), (q 26, .inl (cI, 9, .inl g_2)), (q 27, .inl (cI, 3, .inl g_3)), (q 28, .inl (cI, 3, .inl g_4))] := hD
  refine lv_aload_n hx hb dX2_clear_39 rfl (lv_at hl 0 rfl) ?_
  refine lv_iconst (v := 0) hx hb dX2_clear_40 (by decide) ?_
  refine sk_put (ws' := [(q 6, .inr (2, [.ref (q 24), .ref (q 25), .ref (q 26), .ref (q 27), .ref (q 28), .int (nI jd), .int (nI jm), .int 0, .int jr, .int (nI jn)])), (q 24, .inr (0, [.ref (q 29), .ref (q 30), .ref (q 31), .ref (q 32), .int 0, .int 0])), (q 25, .inl (cI, 9, .inl g_1)), (q 26, .inl (cI, 9, .inl g_2)), (q 27, .inl (cI, 3, .inl g_3)), (q 28, .inl (cI, 3, .inl g_4))]) (C := RX2) (T := TX2) (N := 10) (v := .int 0) hx hb hts inlX2 tyX2 tyX2_ok nmX2 hown hK hP hD hS 0 rfl rfl 7 (by decide) w_1_194 rfl rfl rfl (Nat.le_of_ble_eq_true rfl) rfl dX2_clear_41 (fun H locs hP hD hS => ?_)
  refine lv_aload_n hx hb dX2_clear_44 rfl (lv_at hl 0 rfl) ?_
  refine lv_iconst (v := 0) hx hb dX2_clear_45 (by decide) ?_
  refine sk_put (ws' := [(q 6, .inr (2, [.ref (q 24), .ref (q 25), .ref (q 26), .ref (q 27), .ref (q 28), .int (nI jd), .int (nI jm), .int 0, .int 0, .int (nI jn)])), (q 24, .inr (0, [.ref (q 29), .ref (q 30), .ref (q 31), .ref (q 32), .int 0, .int 0])), (q 25, .inl (cI, 9, .inl g_1)), (q 26, .inl (cI, 9, .inl g_2)), (q 27, .inl (cI, 3, .inl g_3)), (q 28, .inl (cI, 3, .inl g_4))]) (C := RX2) (T := TX2) (N := 10) (v := .int 0) hx hb hts inlX2 tyX2 tyX2_ok nmX2 hown hK hP hD hS 0 rfl rfl 8 (by decide) w_1_197 rfl rfl rfl (Nat.le_of_ble_eq_true rfl) rfl dX2_clear_46 (fun H locs hP hD hS => ?_)
  refine lv_aload_n hx hb dX2_clear_49 rfl (lv_at hl 0 rfl) ?_
  refine lv_iconst (v := 0) hx hb dX2_clear_50 (by decide) ?_
  refine sk_put (ws' := [(q 6, .inr (2, [.ref (q 24), .ref (q 25), .ref (q 26), .ref (q 27), .ref (q 28), .int (nI jd), .int (nI jm), .int 0, .int 0, .int 0])), (q 24, .inr (0, [.ref (q 29), .ref (q 30), .ref (q 31), .ref (q 32), .int 0, .int 0])), (q 25, .inl (cI, 9, .inl g_1)), (q 26, .inl (cI, 9, .inl g_2)), (q 27, .inl (cI, 3, .inl g_3)), (q 28, .inl (cI, 3, .inl g_4))]) (C := RX2) (T := TX2) (N := 10) (v := .int 0) hx hb hts inlX2 tyX2 tyX2_ok nmX2 hown hK hP hD hS 0 rfl rfl 9 (by decide) w_1_200 rfl rfl rfl (Nat.le_of_ble_eq_true rfl) rfl dX2_clear_51 (fun H locs hP hD hS => ?_)
  have hP := hP.sub (ws' := [(q 6, .inr (2, [.ref (q 24), .ref (q 25), .ref (q 26), .ref (q 27), .ref (q 28), .int (nI jd), .int (nI jm), .int 0, .int 0, .int 0])), (q 24, .inr (0, [.ref (q 29), .ref (q 30), .ref (q 31), .ref (q 32), .int 0, .int 0])), (q 27, .inl (cI, 3, .inl g_3)), (q 28, .inl (cI, 3, .inl g_4)), (q 25, .inl (cI, 9, .inl g_1)), (q 26, .inl (cI, 9, .inl g_2))]) [0, 1, 4, 5, 2, 3] rfl
  have hD := hD.sub (ws' := [(q 6, .inr (2, [.ref (q 24), .ref (q 25), .ref (q 26), .ref (q 27), .ref (q 28), .int (nI jd), .int (nI jm), .int 0, .int 0, .int 0])), (q 24, .inr (0, [.ref (q 29), .ref (q 30), .ref (q 31), .ref (q 32), .int 0, .int 0])), (q 27, .inl (cI, 3, .inl g_3)), (q 28, .inl (cI, 3, .inl g_4)), (q 25, .inl (cI, 9, .inl g_1)), (q 26, .inl (cI, 9, .inl g_2))]) [0, 1, 4, 5, 2, 3] (by decide +kernel) rfl
  exact sk_vret hx hb hr hlocks hK hP hD hS (⟨g_3, g_4, g_1, g_2, rfl⟩) (Nat.le_of_ble_eq_true rfl) (Nat.le_of_ble_eq_true rfl) dX2_clear_54
theorem dX2_hasSum_0 : decode cX2_hasSum 0 = .ok (.aload_n 0, 1) := by decide +kernel
theorem dX2_hasSum_1 : decode cX2_hasSum 1 = .ok (.getfield 28, 3) := by decide +kernel
theorem dX2_hasSum_4 : decode cX2_hasSum 4 = .ok (.iload_n 1, 1) := by decide +kernel
theorem dX2_hasSum_5 : decode cX2_hasSum 5 = .ok (.iaload, 1) := by decide +kernel
theorem dX2_hasSum_6 : decode cX2_hasSum 6 = .ok (.aload_n 0, 1) := by decide +kernel
theorem dX2_hasSum_7 : decode cX2_hasSum 7 = .ok (.getfield 25, 3) := by decide +kernel
theorem dX2_hasSum_10 : decode cX2_hasSum 10 = .ok (.iload_n 1, 1) := by decide +kernel
theorem dX2_hasSum_11 : decode cX2_hasSum 11 = .ok (.iaload, 1) := by decide +kernel
theorem dX2_hasSum_12 : decode cX2_hasSum 12 = .ok (.if_icmp .le 7, 3) := by decide +kernel
theorem dX2_hasSum_19 : decode cX2_hasSum 19 = .ok (.iconst 0, 1) := by decide +kernel
theorem dX2_hasSum_20 : decode cX2_hasSum 20 = .ok (.ireturn, 1) := by decide +kernel
theorem dX2_hasSum_15 : decode cX2_hasSum 15 = .ok (.iconst 1, 1) := by decide +kernel
theorem dX2_hasSum_16 : decode cX2_hasSum 16 = .ok (.goto 4, 3) := by decide +kernel
theorem w_3_73 : (Cond.code yX2_hasSum cX2_hasSum 2 (some .boolean)) ∈ wsL_law := sk_mem (ck_3 _ (List.mem_of_getElem? (i := 73) rfl)) rfl
set_option maxHeartbeats 4000000 in
set_option maxRecDepth 100000 in
theorem c_lk_hasSum (l : Launch) (D : va_G) (cI cJ cC cZ cS : ClassId) (q : Nat → Nat) (jd : Nat) (jm : Nat) (ju : Int32) (jr : Int32) (jn : Nat) (jf : Nat → Int32) (jt : Nat → Int32) (w : Nat) (hw : w < 3) : skM l yX2_hasSum cX2_hasSum 2 (some .boolean) 0 0 0 0 D (skT cI cJ cC cZ cS) [.ref (q 6), .int (nI w)] [(q 6, .inr (2, [.ref (q 24), .ref (q 25), .ref (q 26), .ref (q 27), .ref (q 28), .int (nI jd), .int (nI jm), .int ju, .int jr, .int (nI jn)])), (q 27, .inl (cI, 3, .inl jf)), (q 28, .inl (cI, 3, .inl jt))] (skI D (skT cI cJ cC cZ cS) (fun (r : Int32) (u : va_W) => ∃ (b : Nat), b ≤ 1 ∧ r = nI b ∧ u = [(q 6, .inr (2, [.ref (q 24), .ref (q 25), .ref (q 26), .ref (q 27), .ref (q 28), .int (nI jd), .int (nI jm), .int ju, .int jr, .int (nI jn)])), (q 27, .inl (cI, 3, .inl jf)), (q 28, .inl (cI, 3, .inl jt))])) := by
  refine skM_of (by decide +kernel) (Nat.le_of_ble_eq_true rfl) ?_
  intro p e s m below meth c A ls E hP hD hl
  obtain ⟨hx, hb, hr, hml, hlocks, hin, hown, hts, hK, hA⟩ := E
  have hown : s.vm.findClass RX2 = some m.cls := hown
  have hS : va_S A s.heap s.heap [] := va_S.rf
  have hl : lv_has ls 2 [(0, .ref (q 6)), (1, .int (nI w))] := hl
  refine lv_aload_n hx hb dX2_hasSum_0 rfl (lv_at hl 0 rfl) ?_
  refine sk_get (v := .ref (q 28)) (C := RX2) (T := TX2) (N := 10) hx hb hts inlX2 hown hK hP 0 rfl rfl 4 (by decide) w_1_186 rfl dX2_hasSum_1 ?_
  refine lv_iload_n hx hb dX2_hasSum_4 rfl (lv_at hl 1 rfl) ?_
  refine va_iald hx hb hK.1 hP 2 0 rfl rfl (vin w 3 (by omega) (by omega)) dX2_hasSum_5 ?_
  refine lv_topi (fun v_1 ev_1 => ?_)
  refine lv_aload_n hx hb dX2_hasSum_6 rfl (lv_at hl 0 rfl) ?_
  refine sk_get (v := .ref (q 27)) (C := RX2) (T := TX2) (N := 10) hx hb hts inlX2 hown hK hP 0 rfl rfl 3 (by decide) w_1_184 rfl dX2_hasSum_7 ?_
  refine lv_iload_n hx hb dX2_hasSum_10 rfl (lv_at hl 1 rfl) ?_
  refine va_iald hx hb hK.1 hP 1 0 rfl rfl (vin w 3 (by omega) (by omega)) dX2_hasSum_11 ?_
  refine lv_topi (fun v_2 ev_2 => ?_)
  refine lv_icmp_le (tgt := 19) hx hb dX2_hasSum_12 (by decide) (fun c_3 => ?_) (fun c_3 => ?_)
  · skip
    refine lv_iconst (v := 0) hx hb dX2_hasSum_19 (by decide) ?_
    exact sk_iret hx hb hr rfl hlocks hK hP hD hS (⟨0, by omega, rfl, rfl⟩) (Nat.le_of_ble_eq_true rfl) (Nat.le_of_ble_eq_true rfl) dX2_hasSum_20
  · skip
    refine lv_iconst (v := 1) hx hb dX2_hasSum_15 (by decide) ?_
    refine lv_goto (tgt := 20) hx hb dX2_hasSum_16 (by decide) ?_
    exact sk_iret hx hb hr rfl hlocks hK hP hD hS (⟨1, by omega, rfl, rfl⟩) (Nat.le_of_ble_eq_true rfl) (Nat.le_of_ble_eq_true rfl) dX2_hasSum_20
theorem dX2_beginSum_0 : decode cX2_beginSum 0 = .ok (.aload_n 0, 1) := by decide +kernel
theorem dX2_beginSum_1 : decode cX2_beginSum 1 = .ok (.getfield 25, 3) := by decide +kernel
theorem dX2_beginSum_4 : decode cX2_beginSum 4 = .ok (.iload_n 1, 1) := by decide +kernel
theorem dX2_beginSum_5 : decode cX2_beginSum 5 = .ok (.aload_n 0, 1) := by decide +kernel
theorem dX2_beginSum_6 : decode cX2_beginSum 6 = .ok (.getfield 12, 3) := by decide +kernel
theorem dX2_beginSum_9 : decode cX2_beginSum 9 = .ok (.getfield 56, 3) := by decide +kernel
theorem dX2_beginSum_12 : decode cX2_beginSum 12 = .ok (.iastore, 1) := by decide +kernel
theorem dX2_beginSum_13 : decode cX2_beginSum 13 = .ok (.return_, 1) := by decide +kernel
theorem w_1_134 : (Cond.fieldLink RX2 56 "SameKeeper$Code" "length" "I") ∈ wsL_law := sk_mem (ck_1 _ (List.mem_of_getElem? (i := 134) rfl)) rfl
theorem w_3_79 : (Cond.code yX2_beginSum cX2_beginSum 2 none) ∈ wsL_law := sk_mem (ck_3 _ (List.mem_of_getElem? (i := 79) rfl)) rfl
set_option maxHeartbeats 4000000 in
set_option maxRecDepth 100000 in
theorem c_lk_beginSum (l : Launch) (D : va_G) (cI cJ cC cZ cS : ClassId) (q : Nat → Nat) (jd : Nat) (jm : Nat) (ju : Int32) (jr : Int32) (jn : Nat) (jc : Nat) (jx : Nat) (jf : Nat → Int32) (w : Nat) (hw : w < 3) : skM l yX2_beginSum cX2_beginSum 2 none 0 0 0 0 D (skT cI cJ cC cZ cS) [.ref (q 6), .int (nI w)] [(q 6, .inr (2, [.ref (q 24), .ref (q 25), .ref (q 26), .ref (q 27), .ref (q 28), .int (nI jd), .int (nI jm), .int ju, .int jr, .int (nI jn)])), (q 24, .inr (0, [.ref (q 29), .ref (q 30), .ref (q 31), .ref (q 32), .int (nI jc), .int (nI jx)])), (q 27, .inl (cI, 3, .inl jf))] (skV D (skT cI cJ cC cZ cS) (fun (u : va_W) => ∃ (gf : Nat → Int32), u = [(q 6, .inr (2, [.ref (q 24), .ref (q 25), .ref (q 26), .ref (q 27), .ref (q 28), .int (nI jd), .int (nI jm), .int ju, .int jr, .int (nI jn)])), (q 24, .inr (0, [.ref (q 29), .ref (q 30), .ref (q 31), .ref (q 32), .int (nI jc), .int (nI jx)])), (q 27, .inl (cI, 3, .inl gf))])) := by
  refine skM_of (by decide +kernel) (Nat.le_of_ble_eq_true rfl) ?_
  intro p e s m below meth c A ls E hP hD hl
  obtain ⟨hx, hb, hr, hml, hlocks, hin, hown, hts, hK, hA⟩ := E
  have hown : s.vm.findClass RX2 = some m.cls := hown
  have hS : va_S A s.heap s.heap [] := va_S.rf
  have hl : lv_has ls 2 [(0, .ref (q 6)), (1, .int (nI w))] := hl
  refine lv_aload_n hx hb dX2_beginSum_0 rfl (lv_at hl 0 rfl) ?_
  refine sk_get (v := .ref (q 27)) (C := RX2) (T := TX2) (N := 10) hx hb hts inlX2 hown hK hP 0 rfl rfl 3 (by decide) w_1_184 rfl dX2_beginSum_1 ?_
  refine lv_iload_n hx hb dX2_beginSum_4 rfl (lv_at hl 1 rfl) ?_
  refine lv_aload_n hx hb dX2_beginSum_5 rfl (lv_at hl 0 rfl) ?_
  refine sk_get (v := .ref (q 24)) (C := RX2) (T := TX2) (N := 10) hx hb hts inlX2 hown hK hP 0 rfl rfl 0 (by decide) w_1_175 rfl dX2_beginSum_6 ?_
  refine sk_get (v := .int (nI jc)) (C := RX0) (T := TX0) (N := 6) hx hb hts inlX0 hown hK hP 1 rfl rfl 4 (by decide) w_1_134 rfl dX2_beginSum_9 ?_
  refine sk_iastO (ws' := fun f_1 => [(q 6, .inr (2, [.ref (q 24), .ref (q 25), .ref (q 26), .ref (q 27), .ref (q 28), .int (nI jd), .int (nI jm), .int ju, .int jr, .int (nI jn)])), (q 24, .inr (0, [.ref (q 29), .ref (q 30), .ref (q 31), .ref (q 32), .int (nI jc), .int (nI jx)])), (q 27, .inl (cI, 3, .inl f_1))]) hx hb hK hP hD hS 2 0 rfl rfl (vin w 3 (by omega) (by omega)) (fun _ => rfl) dX2_beginSum_12 (fun f_1 H locs hP hD hS => ?_)
  exact sk_vret hx hb hr hlocks hK hP hD hS (⟨f_1, rfl⟩) (Nat.le_of_ble_eq_true rfl) (Nat.le_of_ble_eq_true rfl) dX2_beginSum_13
theorem dX2_endSum_0 : decode cX2_endSum 0 = .ok (.aload_n 0, 1) := by decide +kernel
theorem dX2_endSum_1 : decode cX2_endSum 1 = .ok (.getfield 28, 3) := by decide +kernel
theorem dX2_endSum_4 : decode cX2_endSum 4 = .ok (.iload_n 1, 1) := by decide +kernel
theorem dX2_endSum_5 : decode cX2_endSum 5 = .ok (.aload_n 0, 1) := by decide +kernel
theorem dX2_endSum_6 : decode cX2_endSum 6 = .ok (.getfield 12, 3) := by decide +kernel
theorem dX2_endSum_9 : decode cX2_endSum 9 = .ok (.getfield 56, 3) := by decide +kernel
theorem dX2_endSum_12 : decode cX2_endSum 12 = .ok (.iastore, 1) := by decide +kernel
theorem dX2_endSum_13 : decode cX2_endSum 13 = .ok (.return_, 1) := by decide +kernel
theorem w_3_126 : (Cond.code yX2_endSum cX2_endSum 2 none) ∈ wsL_law := sk_mem (ck_3 _ (List.mem_of_getElem? (i := 126) rfl)) rfl
set_option maxHeartbeats 4000000 in
set_option maxRecDepth 100000 in
theorem c_lk_endSum (l : Launch) (D : va_G) (cI cJ cC cZ cS : ClassId) (q : Nat → Nat) (jd : Nat) (jm : Nat) (ju : Int32) (jr : Int32) (jn : Nat) (jc : Nat) (jx : Nat) (jt : Nat → Int32) (w : Nat) (hw : w < 3) : skM l yX2_endSum cX2_endSum 2 none 0 0 0 0 D (skT cI cJ cC cZ cS) [.ref (q 6), .int (nI w)] [(q 6, .inr (2, [.ref (q 24), .ref (q 25), .ref (q 26), .ref (q 27), .ref (q 28), .int (nI jd), .int (nI jm), .int ju, .int jr, .int (nI jn)])), (q 24, .inr (0, [.ref (q 29), .ref (q 30), .ref (q 31), .ref (q 32), .int (nI jc), .int (nI jx)])), (q 28, .inl (cI, 3, .inl jt))] (skV D (skT cI cJ cC cZ cS) (fun (u : va_W) => ∃ (gt : Nat → Int32), u = [(q 6, .inr (2, [.ref (q 24), .ref (q 25), .ref (q 26), .ref (q 27), .ref (q 28), .int (nI jd), .int (nI jm), .int ju, .int jr, .int (nI jn)])), (q 24, .inr (0, [.ref (q 29), .ref (q 30), .ref (q 31), .ref (q 32), .int (nI jc), .int (nI jx)])), (q 28, .inl (cI, 3, .inl gt))])) := by
  refine skM_of (by decide +kernel) (Nat.le_of_ble_eq_true rfl) ?_
  intro p e s m below meth c A ls E hP hD hl
  obtain ⟨hx, hb, hr, hml, hlocks, hin, hown, hts, hK, hA⟩ := E
  have hown : s.vm.findClass RX2 = some m.cls := hown
  have hS : va_S A s.heap s.heap [] := va_S.rf
  have hl : lv_has ls 2 [(0, .ref (q 6)), (1, .int (nI w))] := hl
  refine lv_aload_n hx hb dX2_endSum_0 rfl (lv_at hl 0 rfl) ?_
  refine sk_get (v := .ref (q 28)) (C := RX2) (T := TX2) (N := 10) hx hb hts inlX2 hown hK hP 0 rfl rfl 4 (by decide) w_1_186 rfl dX2_endSum_1 ?_
  refine lv_iload_n hx hb dX2_endSum_4 rfl (lv_at hl 1 rfl) ?_
  refine lv_aload_n hx hb dX2_endSum_5 rfl (lv_at hl 0 rfl) ?_
  refine sk_get (v := .ref (q 24)) (C := RX2) (T := TX2) (N := 10) hx hb hts inlX2 hown hK hP 0 rfl rfl 0 (by decide) w_1_175 rfl dX2_endSum_6 ?_
  refine sk_get (v := .int (nI jc)) (C := RX0) (T := TX0) (N := 6) hx hb hts inlX0 hown hK hP 1 rfl rfl 4 (by decide) w_1_134 rfl dX2_endSum_9 ?_
  refine sk_iastO (ws' := fun f_1 => [(q 6, .inr (2, [.ref (q 24), .ref (q 25), .ref (q 26), .ref (q 27), .ref (q 28), .int (nI jd), .int (nI jm), .int ju, .int jr, .int (nI jn)])), (q 24, .inr (0, [.ref (q 29), .ref (q 30), .ref (q 31), .ref (q 32), .int (nI jc), .int (nI jx)])), (q 28, .inl (cI, 3, .inl f_1))]) hx hb hK hP hD hS 2 0 rfl rfl (vin w 3 (by omega) (by omega)) (fun _ => rfl) dX2_endSum_12 (fun f_1 H locs hP hD hS => ?_)
  exact sk_vret hx hb hr hlocks hK hP hD hS (⟨f_1, rfl⟩) (Nat.le_of_ble_eq_true rfl) (Nat.le_of_ble_eq_true rfl) dX2_endSum_13
theorem dX2_addUntold_0 : decode cX2_addUntold 0 = .ok (.iconst 0, 1) := by decide +kernel
theorem dX2_addUntold_1 : decode cX2_addUntold 1 = .ok (.istore_n 1, 1) := by decide +kernel
theorem dX2_addUntold_2 : decode cX2_addUntold 2 = .ok (.iload_n 1, 1) := by decide +kernel
theorem dX2_addUntold_3 : decode cX2_addUntold 3 = .ok (.iconst 2, 1) := by decide +kernel
theorem dX2_addUntold_4 : decode cX2_addUntold 4 = .ok (.if_icmp .gt 48, 3) := by decide +kernel
theorem dX2_addUntold_52 : decode cX2_addUntold 52 = .ok (.return_, 1) := by decide +kernel
theorem dX2_addUntold_7 : decode cX2_addUntold 7 = .ok (.aload_n 0, 1) := by decide +kernel
theorem dX2_addUntold_8 : decode cX2_addUntold 8 = .ok (.iload_n 1, 1) := by decide +kernel
theorem dX2_addUntold_9 : decode cX2_addUntold 9 = .ok (.invokevirtual 59, 3) := by decide +kernel
theorem dX2_addUntold_12 : decode cX2_addUntold 12 = .ok (.ifCond .ne 34, 3) := by decide +kernel
theorem dX2_addUntold_46 : decode cX2_addUntold 46 = .ok (.iinc 1 1, 3) := by decide +kernel
theorem dX2_addUntold_49 : decode cX2_addUntold 49 = .ok (.goto (-47), 3) := by decide +kernel
theorem dX2_addUntold_15 : decode cX2_addUntold 15 = .ok (.aload_n 0, 1) := by decide +kernel
theorem dX2_addUntold_16 : decode cX2_addUntold 16 = .ok (.iload_n 1, 1) := by decide +kernel
theorem dX2_addUntold_17 : decode cX2_addUntold 17 = .ok (.invokevirtual 63, 3) := by decide +kernel
theorem dX2_addUntold_38 : decode cX2_addUntold 38 = .ok (.invokevirtual 67, 3) := by decide +kernel
theorem dX2_addUntold_41 : decode cX2_addUntold 41 = .ok (.aload_n 0, 1) := by decide +kernel
theorem dX2_addUntold_42 : decode cX2_addUntold 42 = .ok (.iload_n 1, 1) := by decide +kernel
theorem dX2_addUntold_43 : decode cX2_addUntold 43 = .ok (.invokevirtual 70, 3) := by decide +kernel
theorem dX2_addUntold_20 : decode cX2_addUntold 20 = .ok (.aload_n 0, 1) := by decide +kernel
theorem dX2_addUntold_21 : decode cX2_addUntold 21 = .ok (.getfield 12, 3) := by decide +kernel
theorem dX2_addUntold_24 : decode cX2_addUntold 24 = .ok (.iload_n 1, 1) := by decide +kernel
theorem dX2_addUntold_25 : decode cX2_addUntold 25 = .ok (.iconst 1, 1) := by decide +kernel
theorem dX2_addUntold_26 : decode cX2_addUntold 26 = .ok (.if_icmp .ne 9, 3) := by decide +kernel
theorem dX2_addUntold_35 : decode cX2_addUntold 35 = .ok (.sipush 10000, 3) := by decide +kernel
theorem dX2_addUntold_29 : decode cX2_addUntold 29 = .ok (.sipush 10005, 3) := by decide +kernel
theorem dX2_addUntold_32 : decode cX2_addUntold 32 = .ok (.goto 6, 3) := by decide +kernel
theorem w_3_144 : (Cond.methodLink RX2 59 yX2_hasSum) ∈ wsL_law := sk_mem (ck_3 _ (List.mem_of_getElem? (i := 144) rfl)) rfl
theorem w_3_71 : (Cond.instanceMethod yX2_hasSum) ∈ wsL_law := sk_mem (ck_3 _ (List.mem_of_getElem? (i := 71) rfl)) rfl
theorem w_3_72 : (Cond.selects RX2 yX2_hasSum yX2_hasSum) ∈ wsL_law := sk_mem (ck_3 _ (List.mem_of_getElem? (i := 72) rfl)) rfl
theorem w_1_9 : (Cond.initialized RX2) ∈ wsL_law := sk_mem (ck_1 _ (List.mem_of_getElem? (i := 9) rfl)) rfl
theorem w_3_145 : (Cond.methodLink RX2 63 yX2_beginSum) ∈ wsL_law := sk_mem (ck_3 _ (List.mem_of_getElem? (i := 145) rfl)) rfl
theorem w_3_77 : (Cond.instanceMethod yX2_beginSum) ∈ wsL_law := sk_mem (ck_3 _ (List.mem_of_getElem? (i := 77) rfl)) rfl
theorem w_3_78 : (Cond.selects RX2 yX2_beginSum yX2_beginSum) ∈ wsL_law := sk_mem (ck_3 _ (List.mem_of_getElem? (i := 78) rfl)) rfl
theorem w_3_146 : (Cond.methodLink RX2 67 yX0_add) ∈ wsL_law := sk_mem (ck_3 _ (List.mem_of_getElem? (i := 146) rfl)) rfl
theorem w_3_147 : (Cond.methodLink RX2 70 yX2_endSum) ∈ wsL_law := sk_mem (ck_3 _ (List.mem_of_getElem? (i := 147) rfl)) rfl
theorem w_3_124 : (Cond.instanceMethod yX2_endSum) ∈ wsL_law := sk_mem (ck_3 _ (List.mem_of_getElem? (i := 124) rfl)) rfl
theorem w_3_125 : (Cond.selects RX2 yX2_endSum yX2_endSum) ∈ wsL_law := sk_mem (ck_3 _ (List.mem_of_getElem? (i := 125) rfl)) rfl
theorem w_3_143 : (Cond.code yX2_addUntold cX2_addUntold 2 none) ∈ wsL_law := sk_mem (ck_3 _ (List.mem_of_getElem? (i := 143) rfl)) rfl
set_option maxHeartbeats 4000000 in
set_option maxRecDepth 100000 in
theorem c_lk_addUntold (l : Launch) (D : va_G) (cI cJ cC cZ cS : ClassId) (q : Nat → Nat) (jd : Nat) (jm : Nat) (ju : Int32) (jr : Int32) (jn : Nat) (jc : Nat) (jx : Nat) (j1 : Nat → Int32) (jf : Nat → Int32) (jt : Nat → Int32) (hjc : jc ≤ 1600) (hjx : jx ≤ 1) : skM l yX2_addUntold cX2_addUntold 2 none 1 21 0 0 D (skT cI cJ cC cZ cS) [.ref (q 6)] [(q 6, .inr (2, [.ref (q 24), .ref (q 25), .ref (q 26), .ref (q 27), .ref (q 28), .int (nI jd), .int (nI jm), .int ju, .int jr, .int (nI jn)])), (q 24, .inr (0, [.ref (q 29), .ref (q 30), .ref (q 31), .ref (q 32), .int (nI jc), .int (nI jx)])), (q 29, .inl (cI, 1600, .inl j1)), (q 27, .inl (cI, 3, .inl jf)), (q 28, .inl (cI, 3, .inl jt))] (skV D (skT cI cJ cC cZ cS) (fun (u : va_W) => ∃ (jc2 : Nat), ∃ (jx2 : Nat), ∃ (k1_ : Nat → Int32), ∃ (kf_ : Nat → Int32), ∃ (kt_ : Nat → Int32), jc2 ≤ 1600 ∧ jx2 ≤ 1 ∧ u = [(q 6, .inr (2, [.ref (q 24), .ref (q 25), .ref (q 26), .ref (q 27), .ref (q 28), .int (nI jd), .int (nI jm), .int ju, .int jr, .int (nI jn)])), (q 24, .inr (0, [.ref (q 29), .ref (q 30), .ref (q 31), .ref (q 32), .int (nI jc2), .int (nI jx2)])), (q 29, .inl (cI, 1600, .inl k1_)), (q 27, .inl (cI, 3, .inl kf_)), (q 28, .inl (cI, 3, .inl kt_))])) := by
  refine skM_of (by decide +kernel) (Nat.le_of_ble_eq_true rfl) ?_
  intro p e s m below meth c A ls E hP hD hl
  obtain ⟨hx, hb, hr, hml, hlocks, hin, hown, hts, hK, hA⟩ := E
  have hown : s.vm.findClass RX2 = some m.cls := hown
  have hS : va_S A s.heap s.heap [] := va_S.rf
  have hl : lv_has ls 2 [(0, .ref (q 6))] := hl
  refine lv_iconst (v := 0) hx hb dX2_addUntold_0 (by decide) ?_
  refine lv_istore_n (lv' := [(1, .int 0), (0, .ref (q 6))]) hx hb dX2_addUntold_1 rfl hl (by decide) rfl (fun ls hl => ?_)
  have lp_1 : ∀ (n_2 : Nat) (i : Nat) (yc : Nat) (yx : Nat) (y1 : Nat → Int32) (yf : Nat → Int32) (yt : Nat → Int32) (H : Heap) (locs : List Loc) (ls : Array Slot), 3 - i < n_2 → (i ≤ 3) → (yc ≤ 1600) → (yx ≤ 1) → va_P D vwCl [(q 6, .inr (2, [.ref (q 24), .ref (q 25), .ref (q 26), .ref (q 27), .ref (q 28), .int (nI jd), .int (nI jm), .int ju, .int jr, .int (nI jn)])), (q 24, .inr (0, [.ref (q 29), .ref (q 30), .ref (q 31), .ref (q 32), .int (nI yc), .int (nI yx)])), (q 29, .inl (cI, 1600, .inl y1)), (q 27, .inl (cI, 3, .inl yf)), (q 28, .inl (cI, 3, .inl yt))] H → va_D A [(q 6, .inr (2, [.ref (q 24), .ref (q 25), .ref (q 26), .ref (q 27), .ref (q 28), .int (nI jd), .int (nI jm), .int ju, .int jr, .int (nI jn)])), (q 24, .inr (0, [.ref (q 29), .ref (q 30), .ref (q 31), .ref (q 32), .int (nI yc), .int (nI yx)])), (q 29, .inl (cI, 1600, .inl y1)), (q 27, .inl (cI, 3, .inl yf)), (q 28, .inl (cI, 3, .inl yt))] → va_S A s.heap H locs → lv_has ls 2 [(1, .int (nI i)), (0, .ref (q 6))] → W p l e { frames := 1, cells := 0, slots := 0, locals := 21 } s m ([.ref (q 6)] : List Value).toArray below meth c H locs 0 0 (MQ below (skV D (skT cI cJ cC cZ cS) (fun (u : va_W) => ∃ (jc2 : Nat), ∃ (jx2 : Nat), ∃ (k1_ : Nat → Int32), ∃ (kf_ : Nat → Int32), ∃ (kt_ : Nat → Int32), jc2 ≤ 1600 ∧ jx2 ≤ 1 ∧ u = [(q 6, .inr (2, [.ref (q 24), .ref (q 25), .ref (q 26), .ref (q 27), .ref (q 28), .int (nI jd), .int (nI jm), .int ju, .int jr, .int (nI jn)])), (q 24, .inr (0, [.ref (q 29), .ref (q 30), .ref (q 31), .ref (q 32), .int (nI jc2), .int (nI jx2)])), (q 29, .inl (cI, 1600, .inl k1_)), (q 27, .inl (cI, 3, .inl kf_)), (q 28, .inl (cI, 3, .inl kt_))]) A) ([.ref (q 6)] : List Value).toArray s 0 0 A) (F0 m 2 ls []) := by
    intro n_2
    induction n_2 with
    | zero => intro i yc yx y1 yf yt H locs ls hm; exact absurd hm (Nat.not_lt_zero _)
    | succ n_2 ih_lp_1 =>
      intro i yc yx y1 yf yt H locs ls hm hi hyc hyx hP hD hS hl
      refine lv_iload_n hx hb dX2_addUntold_2 rfl (lv_at hl 0 rfl) ?_
      refine lv_iconst (v := 2) hx hb dX2_addUntold_3 (by decide) ?_
      refine lv_icmp_gt (tgt := 52) hx hb dX2_addUntold_4 (by decide) (fun c_3 => ?_) (fun c_3 => ?_)
      · have c_3 : 2 < i := (nlt 2 i (by omega) (by omega)).mp c_3
        exact sk_vret hx hb hr hlocks hK hP hD hS (⟨yc, yx, y1, yf, yt, by omega, by omega, rfl⟩) (Nat.le_of_ble_eq_true rfl) (Nat.le_of_ble_eq_true rfl) dX2_addUntold_52
      · have c_3 : ¬ (2 < i) := fun h => c_3 ((nlt 2 i (by omega) (by omega)).mpr h)
        refine lv_aload_n hx hb dX2_addUntold_7 rfl (lv_at hl 1 rfl) ?_
        refine lv_iload_n hx hb dX2_addUntold_8 rfl (lv_at hl 0 rfl) ?_
        refine sk_Vi (q0 := 0) (n := 1) (rest := []) (wr := [(q 24, .inr (0, [.ref (q 29), .ref (q 30), .ref (q 31), .ref (q 32), .int (nI yc), .int (nI yx)])), (q 29, .inl (cI, 1600, .inl y1))]) ⟨hx, hb, hml, hown, hts⟩ hl.1 (c_lk_hasSum l D cI cJ cC cZ cS q jd jm ju jr jn yf yt i (by omega)) w_3_144 w_3_71 w_3_72 w_1_9 w_3_73 (by decide +kernel) ⟨⟨(Nat.le_of_ble_eq_true rfl), (Nat.le_of_ble_eq_true rfl)⟩, (Nat.le_of_ble_eq_true rfl), (Nat.le_of_ble_eq_true rfl)⟩ hK hP hD hS hA [0, 3, 4] [1, 2] rfl rfl (by decide +kernel) (by decide +kernel) (by decide +kernel) rfl rfl rfl rfl (Nat.le_of_ble_eq_true rfl) dX2_addUntold_9 (fun r_5 u H locs hw hP hD hS => ?_)
        obtain ⟨b_4, hb1_6, rfl, rfl⟩ := hw
        have hP : va_P D vwCl [(q 24, .inr (0, [.ref (q 29), .ref (q 30), .ref (q 31), .ref (q 32), .int (nI yc), .int (nI yx)])), (q 29, .inl (cI, 1600, .inl y1)), (q 6, .inr (2, [.ref (q 24), .ref (q 25), .ref (q 26), .ref (q 27), .ref (q 28), .int (nI jd), .int (nI jm), .int ju, .int jr, .int (nI jn)])), (q 27, .inl (cI, 3, .inl yf)), (q 28, .inl (cI, 3, .inl yt))] H := hP
        have hD : va_D A [(q 24, .inr (0, [.ref (q 29), .ref (q 30), .ref (q 31), .ref (q 32), .int (nI yc), .int (nI yx)])), (q 29, .inl (cI, 1600, .inl y1)), (q 6, .inr (2, [.ref (q 24), .ref (q 25), .ref (q 26), .ref (q 27), .ref (q 28), .int (nI jd), .int (nI jm), .int ju, .int jr, .int (nI jn)])), (q 27, .inl (cI, 3, .inl yf)), (q 28, .inl (cI, 3, .inl yt))] := hD
        refine lv_if_ne (tgt := 46) hx hb dX2_addUntold_12 (by decide) (fun c_7 => ?_) (fun c_7 => ?_)
        · have c_7 : ¬ (b_4 = 0) := fun h => c_7 ((neq b_4 0 (by omega) (by omega)).mpr h)
          refine lv_iinc (v := nI (i + 1)) (lv' := [(1, .int (nI (i + 1))), (0, .ref (q 6))]) hx hb dX2_addUntold_46 hl (k := 0) rfl (ninc i 1 (by decide)) (by decide) rfl (fun ls hl => ?_)
          refine lv_goto (tgt := 2) hx hb dX2_addUntold_49 (by decide) ?_
          have hP := hP.sub (ws' := [(q 6, .inr (2, [.ref (q 24), .ref (q 25), .ref (q 26), .ref (q 27), .ref (q 28), .int (nI jd), .int (nI jm), .int ju, .int jr, .int (nI jn)])), (q 24, .inr (0, [.ref (q 29), .ref (q 30), .ref (q 31), .ref (q 32), .int (nI yc), .int (nI yx)])), (q 29, .inl (cI, 1600, .inl y1)), (q 27, .inl (cI, 3, .inl yf)), (q 28, .inl (cI, 3, .inl yt))]) [2, 0, 1, 3, 4] rfl
          have hD := hD.sub (ws' := [(q 6, .inr (2, [.ref (q 24), .ref (q 25), .ref (q 26), .ref (q 27), .ref (q 28), .int (nI jd), .int (nI jm), .int ju, .int jr, .int (nI jn)])), (q 24, .inr (0, [.ref (q 29), .ref (q 30), .ref (q 31), .ref (q 32), .int (nI yc), .int (nI yx)])), (q 29, .inl (cI, 1600, .inl y1)), (q 27, .inl (cI, 3, .inl yf)), (q 28, .inl (cI, 3, .inl yt))]) [2, 0, 1, 3, 4] (by decide +kernel) rfl
          exact ih_lp_1 (i + 1) yc yx y1 yf yt _ _ _ (by omega) (by omega) (by omega) (by omega) hP hD hS (lv_sub hl [0, 1] rfl)
        · have c_7 : b_4 = 0 := (neq b_4 0 (by omega) (by omega)).mp c_7
          refine lv_aload_n hx hb dX2_addUntold_15 rfl (lv_at hl 1 rfl) ?_
          refine lv_iload_n hx hb dX2_addUntold_16 rfl (lv_at hl 0 rfl) ?_
          refine sk_Vv (q0 := 0) (n := 1) (rest := []) (wr := [(q 29, .inl (cI, 1600, .inl y1)), (q 28, .inl (cI, 3, .inl yt))]) ⟨hx, hb, hml, hown, hts⟩ hl.1 (c_lk_beginSum l D cI cJ cC cZ cS q jd jm ju jr jn yc yx yf i (by omega)) w_3_145 w_3_77 w_3_78 w_1_9 w_3_79 (by decide +kernel) ⟨⟨(Nat.le_of_ble_eq_true rfl), (Nat.le_of_ble_eq_true rfl)⟩, (Nat.le_of_ble_eq_true rfl), (Nat.le_of_ble_eq_true rfl)⟩ hK hP hD hS hA [2, 0, 3] [1, 4] rfl rfl (by decide +kernel) (by decide +kernel) (by decide +kernel) rfl rfl rfl rfl (Nat.le_of_ble_eq_true rfl) dX2_addUntold_17 (fun u H locs hw hP hD hS => ?_)
          obtain ⟨gf_8, rfl⟩ := hw
          have hP : va_P D vwCl [(q 29, .inl (cI, 1600, .inl y1)), (q 28, .inl (cI, 3, .inl yt)), (q 6, .inr (2, [.ref (q 24), .ref (q 25), .ref (q 26), .ref (q 27), .ref (q 28), .int (nI jd), .int (nI jm), .int ju, .int jr, .int (nI jn)])), (q 24, .inr (0, [.ref (q 29), .ref (q 30), .ref (q 31), .ref (q 32), .int (nI yc), .int (nI yx)])), (q 27, .inl (cI, 3, .inl gf_8))] H := hP
          have hD : va_D A [(q 29, .inl (cI, 1600, .inl y1)), (q 28, .inl (cI, 3, .inl yt)), (q 6, .inr (2, [.ref (q 24), .ref (q 25), .ref (q 26), .ref (q 27), .ref (q 28), .int (nI jd), .int (nI jm), .int ju, .int jr, .int (nI jn)])), (q 24, .inr (0, [.ref (q 29), .ref (q 30), .ref (q 31), .ref (q 32), .int (nI yc), .int (nI yx)])), (q 27, .inl (cI, 3, .inl gf_8))] := hD
          have jn_9 : ∀ (sq : Int32) (H : Heap) (locs : List Loc) (ls : Array Slot), va_P D vwCl [(q 29, .inl (cI, 1600, .inl y1)), (q 28, .inl (cI, 3, .inl yt)), (q 6, .inr (2, [.ref (q 24), .ref (q 25), .ref (q 26), .ref (q 27), .ref (q 28), .int (nI jd), .int (nI jm), .int ju, .int jr, .int (nI jn)])), (q 24, .inr (0, [.ref (q 29), .ref (q 30), .ref (q 31), .ref (q 32), .int (nI yc), .int (nI yx)])), (q 27, .inl (cI, 3, .inl gf_8))] H → va_D A [(q 29, .inl (cI, 1600, .inl y1)), (q 28, .inl (cI, 3, .inl yt)), (q 6, .inr (2, [.ref (q 24), .ref (q 25), .ref (q 26), .ref (q 27), .ref (q 28), .int (nI jd), .int (nI jm), .int ju, .int jr, .int (nI jn)])), (q 24, .inr (0, [.ref (q 29), .ref (q 30), .ref (q 31), .ref (q 32), .int (nI yc), .int (nI yx)])), (q 27, .inl (cI, 3, .inl gf_8))] → va_S A s.heap H locs → lv_has ls 2 [(1, .int (nI i)), (0, .ref (q 6))] → W p l e { frames := 1, cells := 0, slots := 0, locals := 21 } s m ([.ref (q 6)] : List Value).toArray below meth c H locs 0 0 (MQ below (skV D (skT cI cJ cC cZ cS) (fun (u : va_W) => ∃ (jc2 : Nat), ∃ (jx2 : Nat), ∃ (k1_ : Nat → Int32), ∃ (kf_ : Nat → Int32), ∃ (kt_ : Nat → Int32), jc2 ≤ 1600 ∧ jx2 ≤ 1 ∧ u = [(q 6, .inr (2, [.ref (q 24), .ref (q 25), .ref (q 26), .ref (q 27), .ref (q 28), .int (nI jd), .int (nI jm), .int ju, .int jr, .int (nI jn)])), (q 24, .inr (0, [.ref (q 29), .ref (q 30), .ref (q 31), .ref (q 32), .int (nI jc2), .int (nI jx2)])), (q 29, .inl (cI, 1600, .inl k1_)), (q 27, .inl (cI, 3, .inl kf_)), (q 28, .inl (cI, 3, .inl kt_))]) A) ([.ref (q 6)] : List Value).toArray s 0 0 A) (F0 m 38 ls [.int sq, .ref (q 24)]) := by
            intro sq H locs ls  hP hD hS hl
            refine sk_Vv (q0 := 0) (n := 1) (rest := []) (wr := [(q 28, .inl (cI, 3, .inl yt)), (q 6, .inr (2, [.ref (q 24), .ref (q 25), .ref (q 26), .ref (q 27), .ref (q 28), .int (nI jd), .int (nI jm), .int ju, .int jr, .int (nI jn)])), (q 27, .inl (cI, 3, .inl gf_8))]) ⟨hx, hb, hml, hown, hts⟩ hl.1 (c_Code_add l D cI cJ cC cZ cS (q 24) (q 29) (q 30) (q 31) (q 32) yc yx y1 sq (by omega) (by omega)) w_3_146 w_3_98 w_3_99 w_1_8 w_3_100 (by decide +kernel) ⟨⟨(Nat.le_of_ble_eq_true rfl), (Nat.le_of_ble_eq_true rfl)⟩, (Nat.le_of_ble_eq_true rfl), (Nat.le_of_ble_eq_true rfl)⟩ hK hP hD hS hA [3, 0] [1, 2, 4] rfl rfl (by decide +kernel) (by decide +kernel) (by decide +kernel) rfl rfl rfl rfl (Nat.le_of_ble_eq_true rfl) dX2_addUntold_38 (fun u H locs hw hP hD hS => ?_)
            obtain ⟨c2_10, w2_11, g1_12, hc2_13, hw2_14, rfl⟩ := hw
            have hP : va_P D vwCl [(q 28, .inl (cI, 3, .inl yt)), (q 6, .inr (2, [.ref (q 24), .ref (q 25), .ref (q 26), .ref (q 27), .ref (q 28), .int (nI jd), .int (nI jm), .int ju, .int jr, .int (nI jn)])), (q 27, .inl (cI, 3, .inl gf_8)), (q 24, .inr (0, [.ref (q 29), .ref (q 30), .ref (q 31), .ref (q 32), .int (nI c2_10), .int (nI w2_11)])), (q 29, .inl (cI, 1600, .inl g1_12))] H := hP
            have hD : va_D A [(q 28, .inl (cI, 3, .inl yt)), (q 6, .inr (2, [.ref (q 24), .ref (q 25), .ref (q 26), .ref (q 27), .ref (q 28), .int (nI jd), .int (nI jm), .int ju, .int jr, .int (nI jn)])), (q 27, .inl (cI, 3, .inl gf_8)), (q 24, .inr (0, [.ref (q 29), .ref (q 30), .ref (q 31), .ref (q 32), .int (nI c2_10), .int (nI w2_11)])), (q 29, .inl (cI, 1600, .inl g1_12))] := hD
            refine lv_aload_n hx hb dX2_addUntold_41 rfl (lv_at hl 1 rfl) ?_
            refine lv_iload_n hx hb dX2_addUntold_42 rfl (lv_at hl 0 rfl) ?_
            refine sk_Vv (q0 := 0) (n := 1) (rest := []) (wr := [(q 27, .inl (cI, 3, .inl gf_8)), (q 29, .inl (cI, 1600, .inl g1_12))]) ⟨hx, hb, hml, hown, hts⟩ hl.1 (c_lk_endSum l D cI cJ cC cZ cS q jd jm ju jr jn c2_10 w2_11 yt i (by omega)) w_3_147 w_3_124 w_3_125 w_1_9 w_3_126 (by decide +kernel) ⟨⟨(Nat.le_of_ble_eq_true rfl), (Nat.le_of_ble_eq_true rfl)⟩, (Nat.le_of_ble_eq_true rfl), (Nat.le_of_ble_eq_true rfl)⟩ hK hP hD hS hA [1, 3, 0] [2, 4] rfl rfl (by decide +kernel) (by decide +kernel) (by decide +kernel) rfl rfl rfl rfl (Nat.le_of_ble_eq_true rfl) dX2_addUntold_43 (fun u H locs hw hP hD hS => ?_)
            obtain ⟨gt_15, rfl⟩ := hw
            have hP : va_P D vwCl [(q 27, .inl (cI, 3, .inl gf_8)), (q 29, .inl (cI, 1600, .inl g1_12)), (q 6, .inr (2, [.ref (q 24), .ref (q 25), .ref (q 26), .ref (q 27), .ref (q 28), .int (nI jd), .int (nI jm), .int ju, .int jr, .int (nI jn)])), (q 24, .inr (0, [.ref (q 29), .ref (q 30), .ref (q 31), .ref (q 32), .int (nI c2_10), .int (nI w2_11)])), (q 28, .inl (cI, 3, .inl gt_15))] H := hP
            have hD : va_D A [(q 27, .inl (cI, 3, .inl gf_8)), (q 29, .inl (cI, 1600, .inl g1_12)), (q 6, .inr (2, [.ref (q 24), .ref (q 25), .ref (q 26), .ref (q 27), .ref (q 28), .int (nI jd), .int (nI jm), .int ju, .int jr, .int (nI jn)])), (q 24, .inr (0, [.ref (q 29), .ref (q 30), .ref (q 31), .ref (q 32), .int (nI c2_10), .int (nI w2_11)])), (q 28, .inl (cI, 3, .inl gt_15))] := hD
            refine lv_iinc (v := nI (i + 1)) (lv' := [(1, .int (nI (i + 1))), (0, .ref (q 6))]) hx hb dX2_addUntold_46 hl (k := 0) rfl (ninc i 1 (by decide)) (by decide) rfl (fun ls hl => ?_)
            refine lv_goto (tgt := 2) hx hb dX2_addUntold_49 (by decide) ?_
            have hP := hP.sub (ws' := [(q 6, .inr (2, [.ref (q 24), .ref (q 25), .ref (q 26), .ref (q 27), .ref (q 28), .int (nI jd), .int (nI jm), .int ju, .int jr, .int (nI jn)])), (q 24, .inr (0, [.ref (q 29), .ref (q 30), .ref (q 31), .ref (q 32), .int (nI c2_10), .int (nI w2_11)])), (q 29, .inl (cI, 1600, .inl g1_12)), (q 27, .inl (cI, 3, .inl gf_8)), (q 28, .inl (cI, 3, .inl gt_15))]) [2, 3, 1, 0, 4] rfl
            have hD := hD.sub (ws' := [(q 6, .inr (2, [.ref (q 24), .ref (q 25), .ref (q 26), .ref (q 27), .ref (q 28), .int (nI jd), .int (nI jm), .int ju, .int jr, .int (nI jn)])), (q 24, .inr (0, [.ref (q 29), .ref (q 30), .ref (q 31), .ref (q 32), .int (nI c2_10), .int (nI w2_11)])), (q 29, .inl (cI, 1600, .inl g1_12)), (q 27, .inl (cI, 3, .inl gf_8)), (q 28, .inl (cI, 3, .inl gt_15))]) [2, 3, 1, 0, 4] (by decide +kernel) rfl
            exact ih_lp_1 (i + 1) c2_10 w2_11 g1_12 gf_8 gt_15 _ _ _ (by omega) (by omega) (by omega) (by omega) hP hD hS (lv_sub hl [0, 1] rfl)
          refine lv_aload_n hx hb dX2_addUntold_20 rfl (lv_at hl 1 rfl) ?_
          refine sk_get (v := .ref (q 24)) (C := RX2) (T := TX2) (N := 10) hx hb hts inlX2 hown hK hP 2 rfl rfl 0 (by decide) w_1_175 rfl dX2_addUntold_21 ?_
          refine lv_iload_n hx hb dX2_addUntold_24 rfl (lv_at hl 0 rfl) ?_
          refine lv_iconst (v := 1) hx hb dX2_addUntold_25 (by decide) ?_
          refine lv_icmp_ne (tgt := 35) hx hb dX2_addUntold_26 (by decide) (fun c_16 => ?_) (fun c_16 => ?_)
          · have c_16 : ¬ (i = 1) := fun h => c_16 ((neq i 1 (by omega) (by omega)).mpr h)
            refine lv_sipush (v := 10000) hx hb dX2_addUntold_35 (by decide) ?_
            exact jn_9 10000 _ _ _  hP hD hS (lv_sub hl [0, 1] rfl)
          · have c_16 : i = 1 := (neq i 1 (by omega) (by omega)).mp c_16
            refine lv_sipush (v := 10005) hx hb dX2_addUntold_29 (by decide) ?_
            refine lv_goto (tgt := 38) hx hb dX2_addUntold_32 (by decide) ?_
            exact jn_9 10005 _ _ _  hP hD hS (lv_sub hl [0, 1] rfl)
  exact lp_1 (3 - 0 + 1) 0 jc jx j1 jf jt _ _ _ (Nat.lt_succ_self _) (by omega) (by omega) (by omega) hP hD hS (lv_sub hl [0, 1] rfl)
