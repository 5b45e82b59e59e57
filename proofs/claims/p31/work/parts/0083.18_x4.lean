def CT_esread (l : Launch) (D : va_G) (cI cJ cC cZ cS : ClassId) (zk zv : Nat) (zf : Value) (dd : Nat) : Prop := ∀ (q : Nat → Nat) (u0 : Nat) (kn : Nat) (xa : Nat) (xv : Int32) (xo : Nat) (xt : Int32) (xz : Nat) (xf : Int32) (xp : Int32) (tl : Nat) (tb : Nat → Nat) (h0 : Nat) (k1 : Nat) (k2 : Nat) (k3 : Nat) (k4 : Nat) (cl : Nat) (mw : Nat) (f1 : Nat → Int32) (og : Res) (hxa : xa ≤ 1600) (hxz : xz ≤ 1600) (htl : tl ≤ 1600) (htb : ∀ j, tb j ≤ 255) (hcl : cl ≤ 1600) (hmw : mw ≤ 1) (hkn : kn ≤ 2) (hdd : xo + dd = 6) (hO : rsO tb tl og xa xv xt xz xf xp cl mw f1) (hlen : lenO og), skMZ zk zv zf l yX8_read cX8_read 2 none (24 + 5 * dd) (700 + 100 * dd) 0 0 D (skT cI cJ cC cZ cS) [.ref u0, .ref h0] [(u0, .inr (8, [.ref (q 2), .int (nI kn)])), (q 2, .inr (6, [.ref (q 0), .int (nI xa), .int xv, .int (nI xo), .int xt, .int (nI xz), .int xf, .int xp])), (q 0, .inr (10, [.ref (q 20), .int (nI tl)])), (q 20, .inl (cI, 1600, .inl (fun j => nI (tb j)))), (h0, .inr (0, [.ref k1, .ref k2, .ref k3, .ref k4, .int (nI cl), .int (nI mw)])), (k1, .inl (cI, 1600, .inl f1))] (skV D (skT cI cJ cC cZ cS) (fun (u : va_W) => ∃ (xa2 : Nat), ∃ (xv2 : Int32), ∃ (xt2 : Int32), ∃ (xz2 : Nat), ∃ (xf2 : Int32), ∃ (xp2 : Int32), ∃ (c2 : Nat), ∃ (w2 : Nat), ∃ (g1 : Nat → Int32), xa2 ≤ 1600 ∧ xz2 ≤ 1600 ∧ c2 ≤ 1600 ∧ w2 ≤ 1 ∧ rsO tb tl (bindR og (apF (sumOf tb tl (rdPart tb tl kn dd)))) xa2 xv2 xt2 xz2 xf2 xp2 c2 w2 g1 ∧ u = [(u0, .inr (8, [.ref (q 2), .int (nI kn)])), (q 2, .inr (6, [.ref (q 0), .int (nI xa2), .int xv2, .int (nI xo), .int xt2, .int (nI xz2), .int xf2, .int xp2])), (q 0, .inr (10, [.ref (q 20), .int (nI tl)])), (q 20, .inl (cI, 1600, .inl (fun j => nI (tb j)))), (h0, .inr (0, [.ref k1, .ref k2, .ref k3, .ref k4, .int (nI c2), .int (nI w2)])), (k1, .inl (cI, 1600, .inl g1))]))
set_option maxHeartbeats 4000000 in
set_option maxRecDepth 100000 in
theorem c_esread (l : Launch) (D : va_G) (cI cJ cC cZ cS : ClassId) (zk zv : Nat) (zf : Value) (dd : Nat)  : CT_esread l D cI cJ cC cZ cS zk zv zf dd := by
  intro q u0 kn xa xv xo xt xz xf xp tl tb h0 k1 k2 k3 k4 cl mw f1 og hxa hxz htl htb hcl hmw hkn hdd hO hlen
  refine skMZ_of pf_X8_read (Nat.le_of_ble_eq_true rfl) ?_
  intro p e s m below meth c A ls E hP hD hZ hl
  refine skE_el E (fun hx hb hr hml hlocks hin hown hts hK hA => ?_)
  have hown : s.vm.findClass RX8 = some m.cls := hown
  have hS : va_S A s.heap s.heap [] := va_S.rf
  have hl : lv_has ls 2 [(0, .ref u0), (1, .ref h0)] := hl
  refine lv_aload_n hx hb dX8_read_0 rfl (lv_at hl 0 rfl) ?_
  refine lv_aload_n hx hb dX8_read_1 rfl (lv_at hl 1 rfl) ?_
  refine sk_VvZ (q0 := 0) (n := 1) (rest := []) (wr := fmR om_6_3f _) ⟨hx, hb, hml, hown, hts⟩ hl.1 ((c_esums l D cI cJ cC cZ cS zk zv zf dd).1 q u0 kn xa xv xo xt xz xf xp tl tb h0 k1 k2 k3 k4 cl mw f1 og (by omega) (by omega) (by omega) htb (by omega) (by omega) (by omega) (by omega) hO hlen) w_3_84 w_3_86 w_0_6 w_1_6 w_3_87 hd_X8_readSum_1 ⟨⟨(by dsimp only; omega), (by dsimp only; omega)⟩, (by dsimp only; omega), (by dsimp only; omega)⟩ hK hP hD hS hZ hA (fmT om_6_3f 0) (fmF om_6_3f 0) (fm_C1 rfl rfl) (fm_R rfl rfl) (fm_nT om_6_3f 0) (fm_nF om_6_3f 0) (fm_di om_6_3f 0) rfl rfl rfl rfl (Nat.le_of_ble_eq_true rfl) dX8_read_2 (fun u H locs hw hP hD hS => ?_)
  refine exE hw (fun xa2_1 hw1 => exE hw1 (fun xv2_2 hw2 => exE hw2 (fun xt2_3 hw3 => exE hw3 (fun xz2_4 hw4 => exE hw4 (fun xf2_5 hw5 => exE hw5 (fun xp2_6 hw6 => exE hw6 (fun c2_7 hw7 => exE hw7 (fun w2_8 hw8 => exE hw8 (fun g1_9 hw9 => anE hw9 (fun hxa2_10 hw10 => anE hw10 (fun hxz2_11 hw11 => anE hw11 (fun hc2_12 hw12 => anE hw12 (fun hw2_13 hw13 => anE hw13 (fun hO2_14 eu_15 => ?_))))))))))))))
  clear hw hw1 hw2 hw3 hw4 hw5 hw6 hw7 hw8 hw9 hw10 hw11 hw12 hw13
  refine o_mgE (ws' := [(u0, .inr (8, [.ref (q 2), .int (nI kn)])), (q 2, .inr (6, [.ref (q 0), .int (nI xa2_1), .int xv2_2, .int (nI xo), .int xt2_3, .int (nI xz2_4), .int xf2_5, .int xp2_6])), (q 0, .inr (10, [.ref (q 20), .int (nI tl)])), (q 20, .inl (cI, 1600, .inl (fun j => nI (tb j)))), (h0, .inr (0, [.ref k1, .ref k2, .ref k3, .ref k4, .int (nI c2_7), .int (nI w2_8)])), (k1, .inl (cI, 1600, .inl g1_9))]) eu_15 hP hD rfl (fun hP hD => ?_)
  have hL_16 := lenO_ap (len_sum (tb := tb) (n := tl) (len_part (tb := tb) (n := tl) (kind := kn) dd)) hlen
  exact sk_vret hx hb hr hlocks hK hP hD hS (⟨xa2_1, xv2_2, xt2_3, xz2_4, xf2_5, xp2_6, c2_7, w2_8, g1_9, by omega, by omega, by omega, by omega, hO2_14, rfl⟩) (Nat.le_of_ble_eq_true rfl) (Nat.le_of_ble_eq_true rfl) dX8_read_5
/-! rows filled -/
section SkRowsQ
variable {p : Program} {l : Launch} {e : Env} {R : Room} {s : State} {m : MethodId} {args : Array Value} {below : List Frame} {meth : Method} {c : Code} {H : Heap} {locs : List Loc} {cells slots : Nat} {Q : State → Prop}
variable {cc : ByteArray} {pc : Nat} {ls : Array Slot} {rest : List Value} {D : va_G} {tys : List (ClassId × FieldType)} {ws : va_W} {A : Nat → Prop} {H0 : Heap} {a : Nat}
theorem sk_iastQ {Pr : (Nat → Int32) → Prop} (hexec : p.tables.exec = Jvm.exec) (hb : c.code = cc) (hK : skK D tys s) (hP : va_P D vwCl ws H) (hD : va_D A ws) (hS : va_S A H0 H locs) (q0 t0 : Nat) {cA : ClassId} {n : Nat} {f : Nat → Int32} {ws' : (Nat → Int32) → va_W} (ha : ws[q0]? = some (a, .inl (cA, n, .inl f))) (ht : tys[t0]? = some (cA, .int)) {i x : Int32} (hin : vp_in i n) (hw' : ∀ f', ws.set q0 (a, .inl (cA, n, .inl f')) = ws' f') (hup : Pr (upd f i.toNatClampNeg x)) (hdg : decode cc pc = .ok (.iastore, 1))
    (kk : ∀ (f' : Nat → Int32) (H1 : Heap) (locs1 : List Loc), Pr f' → va_P D vwCl (ws' f') H1 → va_D A (ws' f') → va_S A H0 H1 locs1 → W p l e R s m args below meth c H1 locs1 cells slots Q (F0 m (pc + 1) ls rest)) : W p l e R s m args below meth c H locs cells slots Q (F0 m pc ls (.int x :: .int i :: .ref a :: rest)) :=
  va_iast hexec hb hK.1 hP hD hS q0 t0 ha ht hin hdg (fun H1 locs1 h1 h2 h3 => kk _ H1 locs1 hup ((hw' _) ▸ h1) ((hw' _) ▸ h2) h3)
end SkRowsQ
def allV (v : Int32) (n : Nat) (f : Nat → Int32) : Prop := ∀ j, j < n → f j = v
theorem allV_0 (v : Int32) (f : Nat → Int32) : allV v 0 f := fun j h => absurd h (by omega)
theorem allV_s {v : Int32} {i : Nat} {f : Nat → Int32} (h : allV v i f) (hi : i < 2147483648) : allV v (i + 1) (upd f (nI i).toNatClampNeg v) := by
  rw [nI_clamp hi]
  intro j hj
  unfold upd
  by_cases e : j = i
  · rw [if_pos e]
  · rw [if_neg e]; exact h j (by omega)
set_option maxHeartbeats 4000000 in
set_option maxRecDepth 100000 in
theorem c_efillX (l : Launch) (D : va_G) (cI cJ cC cZ cS : ClassId) (ar : Nat) (n : Nat) (f : Nat → Int32) (v : Int32) (hn : n < 2147483648) : skM l yJ7_fill_53178 cJ7_fill_53178 4 none 0 0 0 0 D (skT cI cJ cC cZ cS) [.ref ar, .int v] [(ar, .inl (cI, n, .inl f))] (skV D (skT cI cJ cC cZ cS) (fun (u : va_W) => ∃ (g : Nat → Int32), allV v n g ∧ u = [(ar, .inl (cI, n, .inl g))])) := by
  refine skM_of pf_J7_fill_53178 (Nat.le_of_ble_eq_true rfl) ?_
  intro p e s m below meth c A ls E hP hD hl
  refine skE_el E (fun hx hb hr hml hlocks hin hown hts hK hA => ?_)
  have hown : s.vm.findClass RJ7 = some m.cls := hown
  have hS : va_S A s.heap s.heap [] := va_S.rf
  have hl : lv_has ls 4 [(0, .ref ar), (1, .int v)] := hl
  refine lv_iconst (v := 0) hx hb dJ7_fill_53178_0 (by decide) ?_
  refine lv_istore_n (lv' := [(2, .int 0), (0, .ref ar), (1, .int v)]) hx hb dJ7_fill_53178_1 rfl hl (by decide) rfl (fun ls hl => ?_)
  refine lv_aload_n hx hb dJ7_fill_53178_2 rfl (lv_at hl 1 rfl) ?_
  refine va_alen (v := nI n) hx hb hK.1 hP 0 0 rfl rfl rfl dJ7_fill_53178_3 ?_
  refine lv_istore_n (lv' := [(3, .int (nI n)), (2, .int 0), (0, .ref ar), (1, .int v)]) hx hb dJ7_fill_53178_4 rfl hl (by decide) rfl (fun ls hl => ?_)
  have lp_1 : ∀ (n_2 : Nat) (i : Nat) (fi : Nat → Int32) (H : Heap) (locs : List Loc) (ls : Array Slot), n - i < n_2 → (i ≤ n) → (allV v i fi) → va_P D vwCl [(ar, .inl (cI, n, .inl fi))] H → va_D A [(ar, .inl (cI, n, .inl fi))] → va_S A s.heap H locs → lv_has ls 4 [(3, .int (nI n)), (2, .int (nI i)), (0, .ref ar), (1, .int v)] → W p l e { frames := 0, cells := 0, slots := 0, locals := 0 } s m ([.ref ar, .int v] : List Value).toArray below meth c H locs 0 0 (MQ below (skV D (skT cI cJ cC cZ cS) (fun (u : va_W) => ∃ (g : Nat → Int32), allV v n g ∧ u = [(ar, .inl (cI, n, .inl g))]) A) ([.ref ar, .int v] : List Value).toArray s 0 0 A) (F0 m 5 ls []) := by
    intro n_2
    induction n_2 with
    | zero => intro i fi H locs ls hm; exact absurd hm (Nat.not_lt_zero _)
    | succ n_2 ih_lp_1 =>
      intro i fi H locs ls hm hi hfi hP hD hS hl
      refine lv_iload_n hx hb dJ7_fill_53178_5 rfl (lv_at hl 1 rfl) ?_
      refine lv_iload_n hx hb dJ7_fill_53178_6 rfl (lv_at hl 0 rfl) ?_
      refine lv_icmp_ge (tgt := 20) hx hb dJ7_fill_53178_7 (by decide) (fun c_3 => ?_) (fun c_3 => ?_)
      · have c_3 : n ≤ i := (nle n i (by omega) (by omega)).mp c_3
        exact sk_vret hx hb hr hlocks hK hP hD hS (⟨fi, (show allV v n fi by rw [show n = i by omega]; exact hfi), rfl⟩) (Nat.le_of_ble_eq_true rfl) (Nat.le_of_ble_eq_true rfl) dJ7_fill_53178_20
      · have c_3 : ¬ (n ≤ i) := fun h => c_3 ((nle n i (by omega) (by omega)).mpr h)
        refine lv_aload_n hx hb dJ7_fill_53178_10 rfl (lv_at hl 2 rfl) ?_
        refine lv_iload_n hx hb dJ7_fill_53178_11 rfl (lv_at hl 1 rfl) ?_
        refine lv_iload_n hx hb dJ7_fill_53178_12 rfl (lv_at hl 3 rfl) ?_
        refine sk_iastQ (Pr := allV v (i + 1)) (ws' := fun f_4 => [(ar, .inl (cI, n, .inl f_4))]) hx hb hK hP hD hS 0 0 rfl rfl (vin i n (by omega) (by omega)) (fun _ => rfl) (allV_s hfi (by omega)) dJ7_fill_53178_13 (fun f_4 H locs hf_5 hP hD hS => ?_)
        refine lv_iinc (v := nI (i + 1)) (lv' := [(2, .int (nI (i + 1))), (3, .int (nI n)), (0, .ref ar), (1, .int v)]) hx hb dJ7_fill_53178_14 hl (k := 1) rfl (ninc i 1 (by decide)) (by decide) rfl (fun ls hl => ?_)
        refine lv_goto (tgt := 5) hx hb dJ7_fill_53178_17 (by decide) ?_
        exact ih_lp_1 (i + 1) f_4 _ _ _ (by omega) (by omega) hf_5 hP hD hS (lv_sub hl [1, 0, 2, 3] rfl)
  exact lp_1 (n - 0 + 1) 0 f _ _ _ (Nat.lt_succ_self _) (by omega) (allV_0 _ _) hP hD hS (lv_sub hl [0, 1, 2, 3] rfl)
set_option maxHeartbeats 4000000 in
set_option maxRecDepth 100000 in
theorem c_elk_clear (l : Launch) (D : va_G) (cI cJ cC cZ cS : ClassId) (q : Nat → Nat) (jd : Nat) (jm : Nat) (ju : Int32) (jr : Int32) (jn : Nat) (jc : Nat) (jx : Nat) (jf : Nat → Int32) (jt : Nat → Int32) (jb : Nat → Int32) (jw : Nat → Int32)  : skM l yX2_clear cX2_clear 1 none 1 23 0 0 D (skT cI cJ cC cZ cS) [.ref (q 6)] [(q 6, .inr (2, [.ref (q 24), .ref (q 25), .ref (q 26), .ref (q 27), .ref (q 28), .int (nI jd), .int (nI jm), .int ju, .int jr, .int (nI jn)])), (q 24, .inr (0, [.ref (q 29), .ref (q 30), .ref (q 31), .ref (q 32), .int (nI jc), .int (nI jx)])), (q 27, .inl (cI, 3, .inl jf)), (q 28, .inl (cI, 3, .inl jt)), (q 25, .inl (cI, 9, .inl jb)), (q 26, .inl (cI, 9, .inl jw))] (skV D (skT cI cJ cC cZ cS) (fun (u : va_W) => ∃ (gf : Nat → Int32), ∃ (gt : Nat → Int32), ∃ (gb : Nat → Int32), ∃ (gw : Nat → Int32), allV 0 3 gf ∧ allV 0 3 gt ∧ allV 0 9 gb ∧ allV 0 9 gw ∧ u = [(q 6, .inr (2, [.ref (q 24), .ref (q 25), .ref (q 26), .ref (q 27), .ref (q 28), .int (nI jd), .int (nI jm), .int 0, .int 0, .int 0])), (q 24, .inr (0, [.ref (q 29), .ref (q 30), .ref (q 31), .ref (q 32), .int 0, .int 0])), (q 27, .inl (cI, 3, .inl gf)), (q 28, .inl (cI, 3, .inl gt)), (q 25, .inl (cI, 9, .inl gb)), (q 26, .inl (cI, 9, .inl gw))])) := by
  refine skM_of pf_X2_clear (Nat.le_of_ble_eq_true rfl) ?_
  intro p e s m below meth c A ls E hP hD hl
  refine skE_el E (fun hx hb hr hml hlocks hin hown hts hK hA => ?_)
  have hown : s.vm.findClass RX2 = some m.cls := hown
  have hS : va_S A s.heap s.heap [] := va_S.rf
  have hl : lv_has ls 1 [(0, .ref (q 6))] := hl
  refine lv_aload_n hx hb dX2_clear_0 rfl (lv_at hl 0 rfl) ?_
  refine sk_get (v := .ref (q 24)) (C := RX2) (T := TX2) (N := 10) hx hb hts inlX2 hown hK hP 0 rfl rfl 0 (by decide) w_1_175 rfl dX2_clear_1 ?_
  refine sk_Vv (q0 := 0) (n := 0) (rest := []) (wr := fmR om_6_10 _) ⟨hx, hb, hml, hown, hts⟩ hl.1 (c_Code_clear l D cI cJ cC cZ cS (q 24) (q 29) (q 30) (q 31) (q 32) jc jx) w_2_214 w_2_215 w_2_216 w_1_8 w_2_217 hd_X0_clear_0 ⟨⟨(Nat.le_of_ble_eq_true rfl), (Nat.le_of_ble_eq_true rfl)⟩, (Nat.le_of_ble_eq_true rfl), (Nat.le_of_ble_eq_true rfl)⟩ hK hP hD hS hA (fmT om_6_10 0) (fmF om_6_10 0) (fm_C1 rfl rfl) (fm_R rfl rfl) (fm_nT om_6_10 0) (fm_nF om_6_10 0) (fm_di om_6_10 0) rfl rfl rfl rfl (Nat.le_of_ble_eq_true rfl) dX2_clear_4 (fun u H locs hw hP hD hS => ?_)
  refine o_mgE (ws' := [(q 6, .inr (2, [.ref (q 24), .ref (q 25), .ref (q 26), .ref (q 27), .ref (q 28), .int (nI jd), .int (nI jm), .int ju, .int jr, .int (nI jn)])), (q 24, .inr (0, [.ref (q 29), .ref (q 30), .ref (q 31), .ref (q 32), .int 0, .int 0])), (q 27, .inl (cI, 3, .inl jf)), (q 28, .inl (cI, 3, .inl jt)), (q 25, .inl (cI, 9, .inl jb)), (q 26, .inl (cI, 9, .inl jw))]) hw hP hD rfl (fun hP hD => ?_)
  refine lv_aload_n hx hb dX2_clear_7 rfl (lv_at hl 0 rfl) ?_
  refine sk_get (v := .ref (q 25)) (C := RX2) (T := TX2) (N := 10) hx hb hts inlX2 hown hK hP 0 rfl rfl 1 (by decide) w_1_178 rfl dX2_clear_8 ?_
  refine lv_iconst (v := 0) hx hb dX2_clear_11 (by decide) ?_
  refine sk_Sv (n := 2) (rest := []) (wr := fmR om_6_2 _) ⟨hx, hb, hml, hown, hts⟩ hl.1 (c_efillX l D cI cJ cC cZ cS (q 25) 9 jb 0 (by omega)) w_2_218 w_2_219 w_1_15 w_2_220 hd_J7_fill_53178_2 ⟨⟨(Nat.le_of_ble_eq_true rfl), (Nat.le_of_ble_eq_true rfl)⟩, (Nat.le_of_ble_eq_true rfl), (Nat.le_of_ble_eq_true rfl)⟩ hK hP hD hS hA (fmT om_6_2 0) (fmF om_6_2 0) (fm_C1 rfl rfl) (fm_R rfl rfl) (fm_nT om_6_2 0) (fm_nF om_6_2 0) (fm_di om_6_2 0) rfl rfl (Nat.le_of_ble_eq_true rfl) dX2_clear_12 (fun u H locs hw hP hD hS => ?_)
  refine exE hw (fun g_1 hw1 => anE hw1 (fun hfl_2 eu_3 => ?_))
  clear hw hw1
  refine o_mgE (ws' := [(q 6, .inr (2, [.ref (q 24), .ref (q 25), .ref (q 26), .ref (q 27), .ref (q 28), .int (nI jd), .int (nI jm), .int ju, .int jr, .int (nI jn)])), (q 24, .inr (0, [.ref (q 29), .ref (q 30), .ref (q 31), .ref (q 32), .int 0, .int 0])), (q 27, .inl (cI, 3, .inl jf)), (q 28, .inl (cI, 3, .inl jt)), (q 25, .inl (cI, 9, .inl g_1)), (q 26, .inl (cI, 9, .inl jw))]) eu_3 hP hD rfl (fun hP hD => ?_)
  refine lv_aload_n hx hb dX2_clear_15 rfl (lv_at hl 0 rfl) ?_
  refine sk_get (v := .ref (q 26)) (C := RX2) (T := TX2) (N := 10) hx hb hts inlX2 hown hK hP 0 rfl rfl 2 (by decide) w_1_181 rfl dX2_clear_16 ?_
  refine lv_iconst (v := 0) hx hb dX2_clear_19 (by decide) ?_
  refine sk_Sv (n := 2) (rest := []) (wr := fmR om_6_1 _) ⟨hx, hb, hml, hown, hts⟩ hl.1 (c_efillX l D cI cJ cC cZ cS (q 26) 9 jw 0 (by omega)) w_2_218 w_2_219 w_1_15 w_2_220 hd_J7_fill_53178_2 ⟨⟨(Nat.le_of_ble_eq_true rfl), (Nat.le_of_ble_eq_true rfl)⟩, (Nat.le_of_ble_eq_true rfl), (Nat.le_of_ble_eq_true rfl)⟩ hK hP hD hS hA (fmT om_6_1 0) (fmF om_6_1 0) (fm_C1 rfl rfl) (fm_R rfl rfl) (fm_nT om_6_1 0) (fm_nF om_6_1 0) (fm_di om_6_1 0) rfl rfl (Nat.le_of_ble_eq_true rfl) dX2_clear_20 (fun u H locs hw hP hD hS => ?_)
  refine exE hw (fun g_4 hw1 => anE hw1 (fun hfl_5 eu_6 => ?_))
  clear hw hw1
  refine o_mgE (ws' := [(q 6, .inr (2, [.ref (q 24), .ref (q 25), .ref (q 26), .ref (q 27), .ref (q 28), .int (nI jd), .int (nI jm), .int ju, .int jr, .int (nI jn)])), (q 24, .inr (0, [.ref (q 29), .ref (q 30), .ref (q 31), .ref (q 32), .int 0, .int 0])), (q 27, .inl (cI, 3, .inl jf)), (q 28, .inl (cI, 3, .inl jt)), (q 25, .inl (cI, 9, .inl g_1)), (q 26, .inl (cI, 9, .inl g_4))]) eu_6 hP hD rfl (fun hP hD => ?_)
  refine lv_aload_n hx hb dX2_clear_23 rfl (lv_at hl 0 rfl) ?_
  refine sk_get (v := .ref (q 27)) (C := RX2) (T := TX2) (N := 10) hx hb hts inlX2 hown hK hP 0 rfl rfl 3 (by decide) w_1_184 rfl dX2_clear_24 ?_
  refine lv_iconst (v := 0) hx hb dX2_clear_27 (by decide) ?_
  refine sk_Sv (n := 2) (rest := []) (wr := fmR om_6_8 _) ⟨hx, hb, hml, hown, hts⟩ hl.1 (c_efillX l D cI cJ cC cZ cS (q 27) 3 jf 0 (by omega)) w_2_218 w_2_219 w_1_15 w_2_220 hd_J7_fill_53178_2 ⟨⟨(Nat.le_of_ble_eq_true rfl), (Nat.le_of_ble_eq_true rfl)⟩, (Nat.le_of_ble_eq_true rfl), (Nat.le_of_ble_eq_true rfl)⟩ hK hP hD hS hA (fmT om_6_8 0) (fmF om_6_8 0) (fm_C1 rfl rfl) (fm_R rfl rfl) (fm_nT om_6_8 0) (fm_nF om_6_8 0) (fm_di om_6_8 0) rfl rfl (Nat.le_of_ble_eq_true rfl) dX2_clear_28 (fun u H locs hw hP hD hS => ?_)
  refine exE hw (fun g_7 hw1 => anE hw1 (fun hfl_8 eu_9 => ?_))
  clear hw hw1
  refine o_mgE (ws' := [(q 6, .inr (2, [.ref (q 24), .ref (q 25), .ref (q 26), .ref (q 27), .ref (q 28), .int (nI jd), .int (nI jm), .int ju, .int jr, .int (nI jn)])), (q 24, .inr (0, [.ref (q 29), .ref (q 30), .ref (q 31), .ref (q 32), .int 0, .int 0])), (q 27, .inl (cI, 3, .inl g_7)), (q 28, .inl (cI, 3, .inl jt)), (q 25, .inl (cI, 9, .inl g_1)), (q 26, .inl (cI, 9, .inl g_4))]) eu_9 hP hD rfl (fun hP hD => ?_)
  refine lv_aload_n hx hb dX2_clear_31 rfl (lv_at hl 0 rfl) ?_
  refine sk_get (v := .ref (q 28)) (C := RX2) (T := TX2) (N := 10) hx hb hts inlX2 hown hK hP 0 rfl rfl 4 (by decide) w_1_186 rfl dX2_clear_32 ?_
  refine lv_iconst (v := 0) hx hb dX2_clear_35 (by decide) ?_
  refine sk_Sv (n := 2) (rest := []) (wr := fmR om_6_4 _) ⟨hx, hb, hml, hown, hts⟩ hl.1 (c_efillX l D cI cJ cC cZ cS (q 28) 3 jt 0 (by omega)) w_2_218 w_2_219 w_1_15 w_2_220 hd_J7_fill_53178_2 ⟨⟨(Nat.le_of_ble_eq_true rfl), (Nat.le_of_ble_eq_true rfl)⟩, (Nat.le_of_ble_eq_true rfl), (Nat.le_of_ble_eq_true rfl)⟩ hK hP hD hS hA (fmT om_6_4 0) (fmF om_6_4 0) (fm_C1 rfl rfl) (fm_R rfl rfl) (fm_nT om_6_4 0) (fm_nF om_6_4 0) (fm_di om_6_4 0) rfl rfl (Nat.le_of_ble_eq_true rfl) dX2_clear_36 (fun u H locs hw hP hD hS => ?_)
  refine exE hw (fun g_10 hw1 => anE hw1 (fun hfl_11 eu_12 => ?_))
  clear hw hw1
  refine o_mgE (ws' := [(q 6, .inr (2, [.ref (q 24), .ref (q 25), .ref (q 26), .ref (q 27), .ref (q 28), .int (nI jd), .int (nI jm), .int ju, .int jr, .int (nI jn)])), (q 24, .inr (0, [.ref (q 29), .ref (q 30), .ref (q 31), .ref (q 32), .int 0, .int 0])), (q 27, .inl (cI, 3, .inl g_7)), (q 28, .inl (cI, 3, .inl g_10)), (q 25, .inl (cI, 9, .inl g_1)), (q 26, .inl (cI, 9, .inl g_4))]) eu_12 hP hD rfl (fun hP hD => ?_)
  refine lv_aload_n hx hb dX2_clear_39 rfl (lv_at hl 0 rfl) ?_
  refine lv_iconst (v := 0) hx hb dX2_clear_40 (by decide) ?_
  refine sk_put (ws' := [(q 6, .inr (2, [.ref (q 24), .ref (q 25), .ref (q 26), .ref (q 27), .ref (q 28), .int (nI jd), .int (nI jm), .int 0, .int jr, .int (nI jn)])), (q 24, .inr (0, [.ref (q 29), .ref (q 30), .ref (q 31), .ref (q 32), .int 0, .int 0])), (q 27, .inl (cI, 3, .inl g_7)), (q 28, .inl (cI, 3, .inl g_10)), (q 25, .inl (cI, 9, .inl g_1)), (q 26, .inl (cI, 9, .inl g_4))]) (C := RX2) (T := TX2) (N := 10) (v := .int 0) hx hb hts inlX2 tyX2 tyX2_ok nmX2 hown hK hP hD hS 0 rfl rfl 7 (by decide) w_1_194 rfl rfl rfl (Nat.le_of_ble_eq_true rfl) rfl dX2_clear_41 (fun H locs hP hD hS => ?_)
  refine lv_aload_n hx hb dX2_clear_44 rfl (lv_at hl 0 rfl) ?_
  refine lv_iconst (v := 0) hx hb dX2_clear_45 (by decide) ?_
  refine sk_put (ws' := [(q 6, .inr (2, [.ref (q 24), .ref (q 25), .ref (q 26), .ref (q 27), .ref (q 28), .int (nI jd), .int (nI jm), .int 0, .int 0, .int (nI jn)])), (q 24, .inr (0, [.ref (q 29), .ref (q 30), .ref (q 31), .ref (q 32), .int 0, .int 0])), (q 27, .inl (cI, 3, .inl g_7)), (q 28, .inl (cI, 3, .inl g_10)), (q 25, .inl (cI, 9, .inl g_1)), (q 26, .inl (cI, 9, .inl g_4))]) (C := RX2) (T := TX2) (N := 10) (v := .int 0) hx hb hts inlX2 tyX2 tyX2_ok nmX2 hown hK hP hD hS 0 rfl rfl 8 (by decide) w_1_197 rfl rfl rfl (Nat.le_of_ble_eq_true rfl) rfl dX2_clear_46 (fun H locs hP hD hS => ?_)
  refine lv_aload_n hx hb dX2_clear_49 rfl (lv_at hl 0 rfl) ?_
  refine lv_iconst (v := 0) hx hb dX2_clear_50 (by decide) ?_
  refine sk_put (ws' := [(q 6, .inr (2, [.ref (q 24), .ref (q 25), .ref (q 26), .ref (q 27), .ref (q 28), .int (nI jd), .int (nI jm), .int 0, .int 0, .int 0])), (q 24, .inr (0, [.ref (q 29), .ref (q 30), .ref (q 31), .ref (q 32), .int 0, .int 0])), (q 27, .inl (cI, 3, .inl g_7)), (q 28, .inl (cI, 3, .inl g_10)), (q 25, .inl (cI, 9, .inl g_1)), (q 26, .inl (cI, 9, .inl g_4))]) (C := RX2) (T := TX2) (N := 10) (v := .int 0) hx hb hts inlX2 tyX2 tyX2_ok nmX2 hown hK hP hD hS 0 rfl rfl 9 (by decide) w_1_200 rfl rfl rfl (Nat.le_of_ble_eq_true rfl) rfl dX2_clear_51 (fun H locs hP hD hS => ?_)
  exact sk_vret hx hb hr hlocks hK hP hD hS (⟨g_7, g_10, g_1, g_4, hfl_8, hfl_11, hfl_2, hfl_5, rfl⟩) (Nat.le_of_ble_eq_true rfl) (Nat.le_of_ble_eq_true rfl) dX2_clear_54
