/-! images -/
def imgD (n : KN) (k : Nat) : Nat := if k % 3 = 0 then nBa n (k / 3) else if k % 3 = 1 then nWe n (k / 3) else (if nMu n (k / 3) = true then 1 else 0)
def imgA (n : KN) (k : Nat) : Nat := if k = 0 then nWk n / 256 else if k = 1 then nWk n % 256 else if k = 2 then nMo n else imgD n (k - 3)
def imgB (n : KN) (dy k : Nat) : Nat := if k = 3 + 3 * dy then chkN (imgA n) (3 + 3 * dy) else imgA n k
def octR (pn : Nat) (pB : Nat → Nat) (k r : Int32) : Prop := kR (fun x : Nat => x < pn ∧ k = nI x) (r = -1) (fun x => r = nI (pB x))
theorem octR_eq {pn : Nat} {pB : Nat → Nat} {k r q : Int32} (h9 : pn ≤ 31) (h1 : octR pn pB k r) (h2 : octR pn pB k q) : r = q := kR_eq h1 h2 (fun x y a b => kIe a.2 b.2 (by omega) (by omega)) (fun a b => a.trans b.symm) (fun _ a b => a.trans b.symm)
def imgN (tb : Nat → Nat) (dy : Nat) (n : KN) : KN := (tb 0 * 256 + tb 1, tb 2, fun d => if d < dy then tb (3 * d + 3) else nBa n d, fun d => if d < dy then tb (3 * d + 4) else nWe n d, fun d => if d < dy then decide (tb (3 * d + 5) = 1) else false, 0)
def onR (dy : Nat) (tb : Nat → Nat) (t : Nat) (n : KN) (ac : Nat) (rf : Nat → Int32) (r : Int32) (n2 : KN) (ac2 : Nat) (rf2 : Nat → Int32) : Prop :=
  kB (1 ≤ dy ∧ imgO tb t dy) (r = 1 ∧ n2 = imgN tb dy n ∧ ac2 = 0 ∧ rf2 = rf) (r = 0 ∧ n2 = n ∧ ac2 = ac ∧ rf2 = upd rf 5 (rf 5 + 1))
theorem onR_eq {dy : Nat} {tb : Nat → Nat} {t : Nat} {n : KN} {ac : Nat} {rf : Nat → Int32} {r q : Int32} {n2 n3 : KN} {ac2 ac3 : Nat} {rf2 rf3 : Nat → Int32} (h1 : onR dy tb t n ac rf r n2 ac2 rf2) (h2 : onR dy tb t n ac rf q n3 ac3 rf3) : r = q ∧ n2 = n3 ∧ ac2 = ac3 ∧ rf2 = rf3 :=
  kB_eq h1 h2 (fun a b => ⟨a.1.trans b.1.symm, a.2.1.trans b.2.1.symm, a.2.2.1.trans b.2.2.1.symm, a.2.2.2.trans b.2.2.2.symm⟩) (fun a b => ⟨a.1.trans b.1.symm, a.2.1.trans b.2.1.symm, a.2.2.1.trans b.2.2.1.symm, a.2.2.2.trans b.2.2.2.symm⟩)
theorem onR_ok {dy : Nat} {tb : Nat → Nat} {t : Nat} {n : KN} {ac : Nat} {su : Nat → KN} {rf : Nat → Int32} {r : Int32} {n2 : KN} {ac2 : Nat} {rf2 : Nat → Int32} (h : onR dy tb t n ac rf r n2 ac2 rf2) (hk : sOk dy n ac su) : sOk dy n2 ac2 su := by
  rcases h with ⟨⟨c1, i1, i2, i3, i4⟩, -, rfl, rfl, -⟩ | ⟨-, -, rfl, rfl, -⟩
  · obtain ⟨b1, b2, b3, b4, b5, b6⟩ := hk.1
    refine sOk_none ⟨i3, (i4 2 (by omega) (by omega)).1, fun j => ?_, fun j => ?_, fun j hj => ?_, Nat.zero_le _⟩
    · show (if j < dy then tb (3 * j + 3) else nBa n j) ≤ 9
      by_cases e : j < dy
      · rw [if_pos e]; exact (i4 _ (by omega) (by omega)).1
      · rw [if_neg e]; exact b3 j
    · show (if j < dy then tb (3 * j + 4) else nWe n j) ≤ 9
      by_cases e : j < dy
      · rw [if_pos e]; exact (i4 _ (by omega) (by omega)).1
      · rw [if_neg e]; exact b4 j
    · have hj2 : (if j < dy then decide (tb (3 * j + 5) = 1) else false) = true := hj
      by_cases e : j < dy
      · exact e
      · rw [if_neg e] at hj2; cases hj2
  · exact hk
theorem chkN_cg {f g : Nat → Nat} : ∀ k, (∀ j, j < k → f j = g j) → chkN f k = chkN g k
  | 0, _ => rfl
  | k + 1, h => by
    show (3 * chkN f k + f k) % 251 = (3 * chkN g k + g k) % 251
    rw [chkN_cg k (fun j hj => h j (by omega)), h k (by omega)]
theorem imgA_0 (n : KN) : imgA n 0 = nWk n / 256 := rfl
theorem imgA_1 (n : KN) : imgA n 1 = nWk n % 256 := rfl
theorem imgA_2 (n : KN) : imgA n 2 = nMo n := rfl
theorem imgA_b (n : KN) (i : Nat) : imgA n (3 + 3 * i) = nBa n i := by
  unfold imgA imgD
  rw [if_neg (by omega), if_neg (by omega), if_neg (by omega), show 3 + 3 * i - 3 = 3 * i by omega, if_pos (by omega), show 3 * i / 3 = i by omega]
theorem imgA_w (n : KN) (i : Nat) : imgA n (3 + 3 * i + 1) = nWe n i := by
  unfold imgA imgD
  rw [if_neg (by omega), if_neg (by omega), if_neg (by omega), show 3 + 3 * i + 1 - 3 = 3 * i + 1 by omega, if_neg (by omega), if_pos (by omega), show (3 * i + 1) / 3 = i by omega]
theorem imgA_m (n : KN) (i : Nat) : imgA n (3 + 3 * i + 2) = if nMu n i = true then 1 else 0 := by
  unfold imgA imgD
  rw [if_neg (by omega), if_neg (by omega), if_neg (by omega), show 3 + 3 * i + 2 - 3 = 3 * i + 2 by omega, if_neg (by omega), if_neg (by omega), show (3 * i + 2) / 3 = i by omega]
def imP (n : KN) (l : Nat) (pb : Nat → Nat) : Prop := ∀ j, j < l → pb j = imgA n j
theorem imP_0 (n : KN) (pb : Nat → Nat) : imP n 0 pb := fun j hj => absurd hj (Nat.not_lt_zero j)
theorem imP_s {n : KN} {l k v : Nat} {pb qb : Nat → Nat} (h : imP n l pb) (e : qb = updN pb k v) (hk : k = l) (hv : v = imgA n l) : imP n (l + 1) qb := fun j hj => by
  subst hk
  by_cases q : j = k
  · rw [q, kun_s e, hv]
  · rw [kun_n e q]; exact h j (by omega)
theorem imP_e {n : KN} {dy v : Nat} {pb qb : Nat → Nat} (h : imP n (3 + 3 * dy) pb) (e : qb = updN pb (3 + 3 * dy) v) (hv : v = chkN pb (3 + 3 * dy)) : ∀ j, j < 4 + 3 * dy → qb j = imgB n dy j := fun j hj => by
  unfold imgB
  by_cases q : j = 3 + 3 * dy
  · rw [if_pos q, q, kun_s e, hv]
    exact chkN_cg _ h
  · rw [if_neg q, kun_n e q]; exact h j (by omega)
theorem kw_hi {w : Nat} (h : w ≤ 999) : nI w >>> ((8 : Int32) &&& 31) = nI (w / 256) := by
  have h1 : ∀ w, w < 1000 → nI w >>> ((8 : Int32) &&& 31) = nI (w / 256) := by decide +kernel
  exact h1 w (by omega)
theorem kw_lo {w : Nat} (h : w ≤ 999) : nI w &&& 255 = nI (w % 256) := by
  have h1 : ∀ w, w < 1000 → nI w &&& 255 = nI (w % 256) := by decide +kernel
  exact h1 w (by omega)
/-! an image is told -/
def onB (tb B : Nat → Nat) (o i : Nat) : Nat → Nat := fun d => if d < i then tb (3 * d + o) else B d
def onU (tb : Nat → Nat) (i : Nat) : Nat → Bool := fun d => if d < i then decide (tb (3 * d + 5) = 1) else false
theorem onB_0 {tb B : Nat → Nat} {o : Nat} {f : Nat → Int32} (h : ∀ j, j < 9 → f j = nI (B j)) : ∀ j, j < 9 → f j = nI (onB tb B o 0 j) := fun j hj => by
  unfold onB; rw [if_neg (by omega)]; exact h j hj
theorem onB_s {tb B : Nat → Nat} {o i : Nat} {f g : Nat → Int32} (h : ∀ j, j < 9 → f j = nI (onB tb B o i j)) (e : g = upd f i (nI (tb (3 * i + o)))) : ∀ j, j < 9 → g j = nI (onB tb B o (i + 1) j) := fun j hj => by
  by_cases q : j = i
  · subst q; rw [kui_s e]; unfold onB; rw [if_pos (by omega)]
  · rw [kui_n e q, h j hj]
    unfold onB
    by_cases c : j < i
    · rw [if_pos c, if_pos (by omega)]
    · rw [if_neg c, if_neg (by omega)]
theorem muO_cg {U V : Nat → Bool} {u : Int32} (h : muO U u) (e : ∀ j, j < 9 → V j = U j) : muO V u := by
  obtain ⟨m, h1, h2, h3⟩ := h
  exact ⟨m, h1, h2, fun d hd => by rw [h3 d hd, e d hd]⟩
theorem onU_0 (tb : Nat → Nat) : muO (onU tb 0) 0 := muO_cg muO_0 (fun j _ => by unfold onU; rw [if_neg (by omega)])
theorem onU_s {tb : Nat → Nat} {i : Nat} {u : Int32} (h : muO (onU tb i) u) (hi : i < 9) (ht : tb (3 * i + 5) ≤ 1) : muO (onU tb (i + 1)) (u ||| (nI (tb (3 * i + 5)) <<< (nI i &&& 31))) := by
  rcases (show tb (3 * i + 5) = 0 ∨ tb (3 * i + 5) = 1 by omega) with q | q
  · rw [q]
    have e0 : nI 0 <<< (nI i &&& 31) = 0 := by
      have h1 : ∀ i, i < 9 → nI 0 <<< (nI i &&& 31) = 0 := by decide +kernel
      exact h1 i hi
    rw [e0, Int32.or_zero]
    refine muO_cg h (fun j hj => ?_)
    unfold onU
    by_cases c : j = i
    · subst c; rw [if_pos (by omega), if_neg (by omega), q]; rfl
    · by_cases c2 : j < i
      · rw [if_pos c2, if_pos (by omega)]
      · rw [if_neg c2, if_neg (by omega)]
  · rw [q]
    refine muO_cg (muO_or h hi) (fun j hj => ?_)
    unfold onU updG
    by_cases c : j = i
    · subst c; rw [if_pos (by omega), if_pos rfl, q]; rfl
    · rw [if_neg c]
      show (if j < i + 1 then decide (tb (3 * j + 5) = 1) else false) = (if j < i then decide (tb (3 * j + 5) = 1) else false)
      by_cases c2 : j < i
      · rw [if_pos c2, if_pos (by omega)]
      · rw [if_neg c2, if_neg (by omega)]
theorem on_y {dy : Nat} {tb : Nat → Nat} {t ac : Nat} {n : KN} {rf : Nat → Int32} {i : Nat} (h : 1 ≤ dy ∧ imgO tb t dy) (hi : i = dy) : onR dy tb t n ac rf 1 (tb 0 * 256 + tb 1, tb 2, onB tb (nBa n) 3 i, onB tb (nWe n) 4 i, onU tb i, 0) 0 rf := by
  subst hi
  exact kB_1 h ⟨rfl, rfl, rfl, rfl⟩
theorem on_n {dy : Nat} {tb : Nat → Nat} {t ac : Nat} {n : KN} {rf rf2 : Nat → Int32} (h : ¬ (1 ≤ dy ∧ imgO tb t dy)) (e : rf2 = upd rf 5 (rf 5 + 1)) : onR dy tb t n ac rf 0 n ac rf2 := kB_0 h ⟨rfl, rfl, rfl, e⟩
theorem img_5 {tb : Nat → Nat} {t dy i : Nat} (h : imgO tb t dy) (hi : i < dy) : tb (3 * i + 5) ≤ 1 := (h.2.2.2 (3 * i + 5) (by omega) (by omega)).2 (by omega) (by omega)
theorem im_bq {n : KN} {b i : Nat} (h : (b = 1 ∧ nMu n i = true) ∨ (b = 0 ∧ ¬ nMu n i = true)) : b = imgA n (3 + 3 * i + 2) := by
  rw [imgA_m]
  rcases h with ⟨h1, h2⟩ | ⟨h1, h2⟩
  · rw [if_pos h2, h1]
  · rw [if_neg h2, h1]
theorem dX11_feed_0 : decode cX11_feed 0 = .ok (.aload_n 0, 1) := by decide +kernel
theorem dX11_feed_1 : decode cX11_feed 1 = .ok (.getfield 12, 3) := by decide +kernel
theorem dX11_feed_4 : decode cX11_feed 4 = .ok (.getfield 110, 3) := by decide +kernel
theorem dX11_feed_7 : decode cX11_feed 7 = .ok (.bipush 20, 2) := by decide +kernel
theorem dX11_feed_9 : decode cX11_feed 9 = .ok (.iadd, 1) := by decide +kernel
theorem dX11_feed_10 : decode cX11_feed 10 = .ok (.sipush 1600, 3) := by decide +kernel
theorem dX11_feed_13 : decode cX11_feed 13 = .ok (.if_icmp .le 9, 3) := by decide +kernel
theorem dX11_feed_22 : decode cX11_feed 22 = .ok (.aload_n 0, 1) := by decide +kernel
theorem dX11_feed_23 : decode cX11_feed 23 = .ok (.getfield 12, 3) := by decide +kernel
theorem dX11_feed_26 : decode cX11_feed 26 = .ok (.iload_n 1, 1) := by decide +kernel
theorem dX11_feed_27 : decode cX11_feed 27 = .ok (.invokevirtual 117, 3) := by decide +kernel
theorem dX11_feed_30 : decode cX11_feed 30 = .ok (.aload_n 0, 1) := by decide +kernel
theorem dX11_feed_31 : decode cX11_feed 31 = .ok (.getfield 12, 3) := by decide +kernel
theorem dX11_feed_34 : decode cX11_feed 34 = .ok (.iload_n 2, 1) := by decide +kernel
theorem dX11_feed_35 : decode cX11_feed 35 = .ok (.invokevirtual 117, 3) := by decide +kernel
theorem dX11_feed_38 : decode cX11_feed 38 = .ok (.aload_n 0, 1) := by decide +kernel
theorem dX11_feed_39 : decode cX11_feed 39 = .ok (.getfield 12, 3) := by decide +kernel
theorem dX11_feed_42 : decode cX11_feed 42 = .ok (.iload_n 3, 1) := by decide +kernel
theorem dX11_feed_43 : decode cX11_feed 43 = .ok (.invokevirtual 117, 3) := by decide +kernel
theorem dX11_feed_46 : decode cX11_feed 46 = .ok (.aload_n 0, 1) := by decide +kernel
theorem dX11_feed_47 : decode cX11_feed 47 = .ok (.getfield 12, 3) := by decide +kernel
theorem dX11_feed_50 : decode cX11_feed 50 = .ok (.iload 4, 2) := by decide +kernel
theorem dX11_feed_52 : decode cX11_feed 52 = .ok (.invokevirtual 117, 3) := by decide +kernel
theorem dX11_feed_55 : decode cX11_feed 55 = .ok (.aload_n 0, 1) := by decide +kernel
theorem dX11_feed_56 : decode cX11_feed 56 = .ok (.getfield 12, 3) := by decide +kernel
theorem dX11_feed_59 : decode cX11_feed 59 = .ok (.iload 5, 2) := by decide +kernel
theorem dX11_feed_61 : decode cX11_feed 61 = .ok (.invokevirtual 117, 3) := by decide +kernel
theorem dX11_feed_64 : decode cX11_feed 64 = .ok (.aload_n 0, 1) := by decide +kernel
theorem dX11_feed_65 : decode cX11_feed 65 = .ok (.getfield 12, 3) := by decide +kernel
theorem dX11_feed_68 : decode cX11_feed 68 = .ok (.getfield 110, 3) := by decide +kernel
theorem dX11_feed_71 : decode cX11_feed 71 = .ok (.ireturn, 1) := by decide +kernel
theorem dX11_feed_16 : decode cX11_feed 16 = .ok (.aload_n 0, 1) := by decide +kernel
theorem dX11_feed_17 : decode cX11_feed 17 = .ok (.iconst 0, 1) := by decide +kernel
theorem dX11_feed_18 : decode cX11_feed 18 = .ok (.invokevirtual 113, 3) := by decide +kernel
theorem dX11_feed_21 : decode cX11_feed 21 = .ok (.ireturn, 1) := by decide +kernel
theorem w_2_186 : (Cond.methodLink RX11 117 yX10_addNumber) ∈ wsL_law := sk_mem (ck_2 _ (List.mem_of_getElem? (i := 186) rfl)) rfl
theorem w_2_187 : (Cond.instanceMethod yX10_addNumber) ∈ wsL_law := sk_mem (ck_2 _ (List.mem_of_getElem? (i := 187) rfl)) rfl
theorem w_2_188 : (Cond.selects RX10 yX10_addNumber yX10_addNumber) ∈ wsL_law := sk_mem (ck_2 _ (List.mem_of_getElem? (i := 188) rfl)) rfl
theorem w_2_182 : (Cond.methodLink RX11 113 yX11_refuse) ∈ wsL_law := sk_mem (ck_2 _ (List.mem_of_getElem? (i := 182) rfl)) rfl
theorem w_2_184 : (Cond.instanceMethod yX11_refuse) ∈ wsL_law := sk_mem (ck_2 _ (List.mem_of_getElem? (i := 184) rfl)) rfl
theorem w_0_0 : (Cond.selects RX11 yX11_refuse yX11_refuse) ∈ wsL_law := sk_mem (ck_0 _ (List.mem_of_getElem? (i := 0) rfl)) rfl
theorem w_2_181 : (Cond.code yX11_feed cX11_feed 6 (some .int)) ∈ wsL_law := sk_mem (ck_2 _ (List.mem_of_getElem? (i := 181) rfl)) rfl
set_option maxHeartbeats 4000000 in
set_option maxRecDepth 100000 in
theorem c_ky_feed (l : Launch) (D : va_G) (cI cJ cC cZ cS : ClassId) (x0 : Nat) (q : Nat → Nat) (hc : Int32) (dr : Int64) (tl : Nat) (tb : Nat → Nat) (rf : Nat → Int32) (a1 : Int32) (a2 : Int32) (a3 : Int32) (a4 : Int32) (a5 : Int32) (htl : tl ≤ 1600) (htb : ∀ j, tb j ≤ 255) : skM l yX11_feed cX11_feed 6 (some .int) 2 42 0 0 D (skT cI cJ cC cZ cS) [.ref x0, .int a1, .int a2, .int a3, .int a4, .int a5] [(x0, .inr (11, [.ref (q 0), .ref (q 1), .ref (q 2), .ref (q 3), .ref (q 4), .ref (q 5), .ref (q 6), .ref (q 7), .ref (q 8), .ref (q 9), .ref (q 10), .ref (q 11), .ref (q 12), .ref (q 13), .ref (q 14), .int hc, .ref (q 16), .long dr])), (q 0, .inr (10, [.ref (q 20), .int (nI tl)])), (q 20, .inl (cI, 1600, .inl (fun j => nI (tb j)))), (q 16, .inl (cI, 6, .inl rf))] (skI D (skT cI cJ cC cZ cS) (fun (r : Int32) (u : va_W) => ∃ (t2 : Nat), ∃ (tb2 : Nat → Nat), ∃ (rf2 : Nat → Int32), ((tl ≤ 1580 ∧ t2 = tl + 20 ∧ r = nI t2 ∧ tb2 = feedT tb tl a1 a2 a3 a4 a5) ∨ (1580 < tl ∧ t2 = tl ∧ r = -1 ∧ tb2 = tb)) ∧ (∀ j, tb2 j ≤ 255) ∧ ((tl ≤ 1580 ∧ rf2 = rf) ∨ (1580 < tl ∧ rf2 = upd rf 0 (rf 0 + 1))) ∧ u = [(x0, .inr (11, [.ref (q 0), .ref (q 1), .ref (q 2), .ref (q 3), .ref (q 4), .ref (q 5), .ref (q 6), .ref (q 7), .ref (q 8), .ref (q 9), .ref (q 10), .ref (q 11), .ref (q 12), .ref (q 13), .ref (q 14), .int hc, .ref (q 16), .long dr])), (q 0, .inr (10, [.ref (q 20), .int (nI t2)])), (q 20, .inl (cI, 1600, .inl (fun j => nI (tb2 j)))), (q 16, .inl (cI, 6, .inl rf2))])) := by
  refine skM_of (by decide +kernel) (Nat.le_of_ble_eq_true rfl) ?_
  intro p e s m below meth c A ls E hP hD hl
  obtain ⟨hx, hb, hr, hml, hlocks, hin, hown, hts, hK, hA⟩ := E
  have hown : s.vm.findClass RX11 = some m.cls := hown
  have hS : va_S A s.heap s.heap [] := va_S.rf
  have hl : lv_has ls 6 [(0, .ref x0), (1, .int a1), (2, .int a2), (3, .int a3), (4, .int a4), (5, .int a5)] := hl
  refine lv_aload_n hx hb dX11_feed_0 rfl (lv_at hl 0 rfl) ?_
  refine sk_get (v := .ref (q 0)) (C := RX11) (T := TX11) (N := 18) hx hb hts inlX11 hown hK hP 0 rfl rfl 0 (by decide) w_2_123 rfl dX11_feed_1 ?_
  refine sk_get (v := .int (nI tl)) (C := RX10) (T := TX10) (N := 2) hx hb hts inlX10 hown hK hP 1 rfl rfl 1 (by decide) w_1_42 rfl dX11_feed_4 ?_
  refine lv_bipush (v := 20) hx hb dX11_feed_7 (by decide) ?_
  refine lv_iadd hx hb dX11_feed_9 ?_
  refine sk_top (nI (tl + 20)) (nI_add tl 20) ?_
  refine lv_sipush (v := 1600) hx hb dX11_feed_10 (by decide) ?_
  refine lv_icmp_le (tgt := 22) hx hb dX11_feed_13 (by decide) (fun c_1 => ?_) (fun c_1 => ?_)
  · have c_1 : tl + 20 ≤ 1600 := (nle (tl + 20) 1600 (by omega) (by omega)).mp c_1
    refine lv_aload_n hx hb dX11_feed_22 rfl (lv_at hl 0 rfl) ?_
    refine sk_get (v := .ref (q 0)) (C := RX11) (T := TX11) (N := 18) hx hb hts inlX11 hown hK hP 0 rfl rfl 0 (by decide) w_2_123 rfl dX11_feed_23 ?_
    refine lv_iload_n hx hb dX11_feed_26 rfl (lv_at hl 1 rfl) ?_
    refine sk_Vv (q0 := 0) (n := 1) (rest := []) (wr := [(x0, .inr (11, [.ref (q 0), .ref (q 1), .ref (q 2), .ref (q 3), .ref (q 4), .ref (q 5), .ref (q 6), .ref (q 7), .ref (q 8), .ref (q 9), .ref (q 10), .ref (q 11), .ref (q 12), .ref (q 13), .ref (q 14), .int hc, .ref (q 16), .long dr])), (q 16, .inl (cI, 6, .inl rf))]) ⟨hx, hb, hml, hown, hts⟩ hl.1 (c_eTape_addNumber l D cI cJ cC cZ cS (q 0) (q 20) tl tb a1 (by omega) htb) w_2_186 w_2_187 w_2_188 w_1_2 w_2_189 (by decide +kernel) ⟨⟨(Nat.le_of_ble_eq_true rfl), (Nat.le_of_ble_eq_true rfl)⟩, (Nat.le_of_ble_eq_true rfl), (Nat.le_of_ble_eq_true rfl)⟩ hK hP hD hS hA [1, 2] [0, 3] rfl rfl (by decide +kernel) (by decide +kernel) (by decide +kernel) rfl rfl rfl rfl (Nat.le_of_ble_eq_true rfl) dX11_feed_27 (fun u H locs hw hP hD hS => ?_)
    obtain ⟨t2_2, tb2_3, ht2_4, ht3_5, htb2_6, hup_7, rfl⟩ := hw
    have hP : va_P D vwCl [(x0, .inr (11, [.ref (q 0), .ref (q 1), .ref (q 2), .ref (q 3), .ref (q 4), .ref (q 5), .ref (q 6), .ref (q 7), .ref (q 8), .ref (q 9), .ref (q 10), .ref (q 11), .ref (q 12), .ref (q 13), .ref (q 14), .int hc, .ref (q 16), .long dr])), (q 16, .inl (cI, 6, .inl rf)), (q 0, .inr (10, [.ref (q 20), .int (nI t2_2)])), (q 20, .inl (cI, 1600, .inl (fun j => nI (tb2_3 j))))] H := hP
    have hD : va_D A [(x0, .inr (11, [.ref (q 0), .ref (q 1), .ref (q 2), .ref (q 3), .ref (q 4), .ref (q 5), .ref (q 6), .ref (q 7), .ref (q 8), .ref (q 9), .ref (q 10), .ref (q 11), .ref (q 12), .ref (q 13), .ref (q 14), .int hc, .ref (q 16), .long dr])), (q 16, .inl (cI, 6, .inl rf)), (q 0, .inr (10, [.ref (q 20), .int (nI t2_2)])), (q 20, .inl (cI, 1600, .inl (fun j => nI (tb2_3 j))))] := hD
    refine lv_aload_n hx hb dX11_feed_30 rfl (lv_at hl 0 rfl) ?_
    refine sk_get (v := .ref (q 0)) (C := RX11) (T := TX11) (N := 18) hx hb hts inlX11 hown hK hP 0 rfl rfl 0 (by decide) w_2_123 rfl dX11_feed_31 ?_
    refine lv_iload_n hx hb dX11_feed_34 rfl (lv_at hl 2 rfl) ?_
    refine sk_Vv (q0 := 0) (n := 1) (rest := []) (wr := [(x0, .inr (11, [.ref (q 0), .ref (q 1), .ref (q 2), .ref (q 3), .ref (q 4), .ref (q 5), .ref (q 6), .ref (q 7), .ref (q 8), .ref (q 9), .ref (q 10), .ref (q 11), .ref (q 12), .ref (q 13), .ref (q 14), .int hc, .ref (q 16), .long dr])), (q 16, .inl (cI, 6, .inl rf))]) ⟨hx, hb, hml, hown, hts⟩ hl.1 (c_eTape_addNumber l D cI cJ cC cZ cS (q 0) (q 20) t2_2 tb2_3 a2 (by omega) htb2_6) w_2_186 w_2_187 w_2_188 w_1_2 w_2_189 (by decide +kernel) ⟨⟨(Nat.le_of_ble_eq_true rfl), (Nat.le_of_ble_eq_true rfl)⟩, (Nat.le_of_ble_eq_true rfl), (Nat.le_of_ble_eq_true rfl)⟩ hK hP hD hS hA [2, 3] [0, 1] rfl rfl (by decide +kernel) (by decide +kernel) (by decide +kernel) rfl rfl rfl rfl (Nat.le_of_ble_eq_true rfl) dX11_feed_35 (fun u H locs hw hP hD hS => ?_)
    obtain ⟨t2_8, tb2_9, ht2_10, ht3_11, htb2_12, hup_13, rfl⟩ := hw
    have hP : va_P D vwCl [(x0, .inr (11, [.ref (q 0), .ref (q 1), .ref (q 2), .ref (q 3), .ref (q 4), .ref (q 5), .ref (q 6), .ref (q 7), .ref (q 8), .ref (q 9), .ref (q 10), .ref (q 11), .ref (q 12), .ref (q 13), .ref (q 14), .int hc, .ref (q 16), .long dr])), (q 16, .inl (cI, 6, .inl rf)), (q 0, .inr (10, [.ref (q 20), .int (nI t2_8)])), (q 20, .inl (cI, 1600, .inl (fun j => nI (tb2_9 j))))] H := hP
    have hD : va_D A [(x0, .inr (11, [.ref (q 0), .ref (q 1), .ref (q 2), .ref (q 3), .ref (q 4), .ref (q 5), .ref (q 6), .ref (q 7), .ref (q 8), .ref (q 9), .ref (q 10), .ref (q 11), .ref (q 12), .ref (q 13), .ref (q 14), .int hc, .ref (q 16), .long dr])), (q 16, .inl (cI, 6, .inl rf)), (q 0, .inr (10, [.ref (q 20), .int (nI t2_8)])), (q 20, .inl (cI, 1600, .inl (fun j => nI (tb2_9 j))))] := hD
    refine lv_aload_n hx hb dX11_feed_38 rfl (lv_at hl 0 rfl) ?_
    refine sk_get (v := .ref (q 0)) (C := RX11) (T := TX11) (N := 18) hx hb hts inlX11 hown hK hP 0 rfl rfl 0 (by decide) w_2_123 rfl dX11_feed_39 ?_
    refine lv_iload_n hx hb dX11_feed_42 rfl (lv_at hl 3 rfl) ?_
    refine sk_Vv (q0 := 0) (n := 1) (rest := []) (wr := [(x0, .inr (11, [.ref (q 0), .ref (q 1), .ref (q 2), .ref (q 3), .ref (q 4), .ref (q 5), .ref (q 6), .ref (q 7), .ref (q 8), .ref (q 9), .ref (q 10), .ref (q 11), .ref (q 12), .ref (q 13), .ref (q 14), .int hc, .ref (q 16), .long dr])), (q 16, .inl (cI, 6, .inl rf))]) ⟨hx, hb, hml, hown, hts⟩ hl.1 (c_eTape_addNumber l D cI cJ cC cZ cS (q 0) (q 20) t2_8 tb2_9 a3 (by omega) htb2_12) w_2_186 w_2_187 w_2_188 w_1_2 w_2_189 (by decide +kernel) ⟨⟨(Nat.le_of_ble_eq_true rfl), (Nat.le_of_ble_eq_true rfl)⟩, (Nat.le_of_ble_eq_true rfl), (Nat.le_of_ble_eq_true rfl)⟩ hK hP hD hS hA [2, 3] [0, 1] rfl rfl (by decide +kernel) (by decide +kernel) (by decide +kernel) rfl rfl rfl rfl (Nat.le_of_ble_eq_true rfl) dX11_feed_43 (fun u H locs hw hP hD hS => ?_)
    obtain ⟨t2_14, tb2_15, ht2_16, ht3_17, htb2_18, hup_19, rfl⟩ := hw
    have hP : va_P D vwCl [(x0, .inr (11, [.ref (q 0), .ref (q 1), .ref (q 2), .ref (q 3), .ref (q 4), .ref (q 5), .ref (q 6), .ref (q 7), .ref (q 8), .ref (q 9), .ref (q 10), .ref (q 11), .ref (q 12), .ref (q 13), .ref (q 14), .int hc, .ref (q 16), .long dr])), (q 16, .inl (cI, 6, .inl rf)), (q 0, .inr (10, [.ref (q 20), .int (nI t2_14)])), (q 20, .inl (cI, 1600, .inl (fun j => nI (tb2_15 j))))] H := hP
    have hD : va_D A [(x0, .inr (11, [.ref (q 0), .ref (q 1), .ref (q 2), .ref (q 3), .ref (q 4), .ref (q 5), .ref (q 6), .ref (q 7), .ref (q 8), .ref (q 9), .ref (q 10), .ref (q 11), .ref (q 12), .ref (q 13), .ref (q 14), .int hc, .ref (q 16), .long dr])), (q 16, .inl (cI, 6, .inl rf)), (q 0, .inr (10, [.ref (q 20), .int (nI t2_14)])), (q 20, .inl (cI, 1600, .inl (fun j => nI (tb2_15 j))))] := hD
    refine lv_aload_n hx hb dX11_feed_46 rfl (lv_at hl 0 rfl) ?_
    refine sk_get (v := .ref (q 0)) (C := RX11) (T := TX11) (N := 18) hx hb hts inlX11 hown hK hP 0 rfl rfl 0 (by decide) w_2_123 rfl dX11_feed_47 ?_
    refine lv_iload hx hb dX11_feed_50 (lv_at hl 4 rfl) ?_
    refine sk_Vv (q0 := 0) (n := 1) (rest := []) (wr := [(x0, .inr (11, [.ref (q 0), .ref (q 1), .ref (q 2), .ref (q 3), .ref (q 4), .ref (q 5), .ref (q 6), .ref (q 7), .ref (q 8), .ref (q 9), .ref (q 10), .ref (q 11), .ref (q 12), .ref (q 13), .ref (q 14), .int hc, .ref (q 16), .long dr])), (q 16, .inl (cI, 6, .inl rf))]) ⟨hx, hb, hml, hown, hts⟩ hl.1 (c_eTape_addNumber l D cI cJ cC cZ cS (q 0) (q 20) t2_14 tb2_15 a4 (by omega) htb2_18) w_2_186 w_2_187 w_2_188 w_1_2 w_2_189 (by decide +kernel) ⟨⟨(Nat.le_of_ble_eq_true rfl), (Nat.le_of_ble_eq_true rfl)⟩, (Nat.le_of_ble_eq_true rfl), (Nat.le_of_ble_eq_true rfl)⟩ hK hP hD hS hA [2, 3] [0, 1] rfl rfl (by decide +kernel) (by decide +kernel) (by decide +kernel) rfl rfl rfl rfl (Nat.le_of_ble_eq_true rfl) dX11_feed_52 (fun u H locs hw hP hD hS => ?_)
    obtain ⟨t2_20, tb2_21, ht2_22, ht3_23, htb2_24, hup_25, rfl⟩ := hw
    have hP : va_P D vwCl [(x0, .inr (11, [.ref (q 0), .ref (q 1), .ref (q 2), .ref (q 3), .ref (q 4), .ref (q 5), .ref (q 6), .ref (q 7), .ref (q 8), .ref (q 9), .ref (q 10), .ref (q 11), .ref (q 12), .ref (q 13), .ref (q 14), .int hc, .ref (q 16), .long dr])), (q 16, .inl (cI, 6, .inl rf)), (q 0, .inr (10, [.ref (q 20), .int (nI t2_20)])), (q 20, .inl (cI, 1600, .inl (fun j => nI (tb2_21 j))))] H := hP
    have hD : va_D A [(x0, .inr (11, [.ref (q 0), .ref (q 1), .ref (q 2), .ref (q 3), .ref (q 4), .ref (q 5), .ref (q 6), .ref (q 7), .ref (q 8), .ref (q 9), .ref (q 10), .ref (q 11), .ref (q 12), .ref (q 13), .ref (q 14), .int hc, .ref (q 16), .long dr])), (q 16, .inl (cI, 6, .inl rf)), (q 0, .inr (10, [.ref (q 20), .int (nI t2_20)])), (q 20, .inl (cI, 1600, .inl (fun j => nI (tb2_21 j))))] := hD
    refine lv_aload_n hx hb dX11_feed_55 rfl (lv_at hl 0 rfl) ?_
    refine sk_get (v := .ref (q 0)) (C := RX11) (T := TX11) (N := 18) hx hb hts inlX11 hown hK hP 0 rfl rfl 0 (by decide) w_2_123 rfl dX11_feed_56 ?_
    refine lv_iload hx hb dX11_feed_59 (lv_at hl 5 rfl) ?_
    refine sk_Vv (q0 := 0) (n := 1) (rest := []) (wr := [(x0, .inr (11, [.ref (q 0), .ref (q 1), .ref (q 2), .ref (q 3), .ref (q 4), .ref (q 5), .ref (q 6), .ref (q 7), .ref (q 8), .ref (q 9), .ref (q 10), .ref (q 11), .ref (q 12), .ref (q 13), .ref (q 14), .int hc, .ref (q 16), .long dr])), (q 16, .inl (cI, 6, .inl rf))]) ⟨hx, hb, hml, hown, hts⟩ hl.1 (c_eTape_addNumber l D cI cJ cC cZ cS (q 0) (q 20) t2_20 tb2_21 a5 (by omega) htb2_24) w_2_186 w_2_187 w_2_188 w_1_2 w_2_189 (by decide +kernel) ⟨⟨(Nat.le_of_ble_eq_true rfl), (Nat.le_of_ble_eq_true rfl)⟩, (Nat.le_of_ble_eq_true rfl), (Nat.le_of_ble_eq_true rfl)⟩ hK hP hD hS hA [2, 3] [0, 1] rfl rfl (by decide +kernel) (by decide +kernel) (by decide +kernel) rfl rfl rfl rfl (Nat.le_of_ble_eq_true rfl) dX11_feed_61 (fun u H locs hw hP hD hS => ?_)
    obtain ⟨t2_26, tb2_27, ht2_28, ht3_29, htb2_30, hup_31, rfl⟩ := hw
    have hP : va_P D vwCl [(x0, .inr (11, [.ref (q 0), .ref (q 1), .ref (q 2), .ref (q 3), .ref (q 4), .ref (q 5), .ref (q 6), .ref (q 7), .ref (q 8), .ref (q 9), .ref (q 10), .ref (q 11), .ref (q 12), .ref (q 13), .ref (q 14), .int hc, .ref (q 16), .long dr])), (q 16, .inl (cI, 6, .inl rf)), (q 0, .inr (10, [.ref (q 20), .int (nI t2_26)])), (q 20, .inl (cI, 1600, .inl (fun j => nI (tb2_27 j))))] H := hP
    have hD : va_D A [(x0, .inr (11, [.ref (q 0), .ref (q 1), .ref (q 2), .ref (q 3), .ref (q 4), .ref (q 5), .ref (q 6), .ref (q 7), .ref (q 8), .ref (q 9), .ref (q 10), .ref (q 11), .ref (q 12), .ref (q 13), .ref (q 14), .int hc, .ref (q 16), .long dr])), (q 16, .inl (cI, 6, .inl rf)), (q 0, .inr (10, [.ref (q 20), .int (nI t2_26)])), (q 20, .inl (cI, 1600, .inl (fun j => nI (tb2_27 j))))] := hD
    refine lv_aload_n hx hb dX11_feed_64 rfl (lv_at hl 0 rfl) ?_
    refine sk_get (v := .ref (q 0)) (C := RX11) (T := TX11) (N := 18) hx hb hts inlX11 hown hK hP 0 rfl rfl 0 (by decide) w_2_123 rfl dX11_feed_65 ?_
    refine sk_get (v := .int (nI t2_26)) (C := RX10) (T := TX10) (N := 2) hx hb hts inlX10 hown hK hP 2 rfl rfl 1 (by decide) w_1_42 rfl dX11_feed_68 ?_
    have hP := hP.sub (ws' := [(x0, .inr (11, [.ref (q 0), .ref (q 1), .ref (q 2), .ref (q 3), .ref (q 4), .ref (q 5), .ref (q 6), .ref (q 7), .ref (q 8), .ref (q 9), .ref (q 10), .ref (q 11), .ref (q 12), .ref (q 13), .ref (q 14), .int hc, .ref (q 16), .long dr])), (q 0, .inr (10, [.ref (q 20), .int (nI t2_26)])), (q 20, .inl (cI, 1600, .inl (fun j => nI (tb2_27 j)))), (q 16, .inl (cI, 6, .inl rf))]) [0, 2, 3, 1] rfl
    have hD := hD.sub (ws' := [(x0, .inr (11, [.ref (q 0), .ref (q 1), .ref (q 2), .ref (q 3), .ref (q 4), .ref (q 5), .ref (q 6), .ref (q 7), .ref (q 8), .ref (q 9), .ref (q 10), .ref (q 11), .ref (q 12), .ref (q 13), .ref (q 14), .int hc, .ref (q 16), .long dr])), (q 0, .inr (10, [.ref (q 20), .int (nI t2_26)])), (q 20, .inl (cI, 1600, .inl (fun j => nI (tb2_27 j)))), (q 16, .inl (cI, 6, .inl rf))]) [0, 2, 3, 1] (by decide +kernel) rfl
    exact sk_iret hx hb hr rfl hlocks hK hP hD hS (⟨t2_26, tb2_27, rf, Or.inl ⟨by omega, by omega, rfl, by rw [hup_31 (by omega), hup_25 (by omega), hup_19 (by omega), hup_13 (by omega), hup_7 (by omega), show t2_20 = tl + 4 + 4 + 4 + 4 by omega, show t2_14 = tl + 4 + 4 + 4 by omega, show t2_8 = tl + 4 + 4 by omega, show t2_2 = tl + 4 by omega]; exact add_5 tb tl a1 a2 a3 a4 a5⟩, htb2_30, Or.inl ⟨by omega, rfl⟩, rfl⟩) (Nat.le_of_ble_eq_true rfl) (Nat.le_of_ble_eq_true rfl) dX11_feed_71
  · have c_1 : ¬ (tl + 20 ≤ 1600) := fun h => c_1 ((nle (tl + 20) 1600 (by omega) (by omega)).mpr h)
    refine lv_aload_n hx hb dX11_feed_16 rfl (lv_at hl 0 rfl) ?_
    refine lv_iconst (v := 0) hx hb dX11_feed_17 (by decide) ?_
    refine sk_Vi (q0 := 0) (n := 1) (rest := []) (wr := [(q 0, .inr (10, [.ref (q 20), .int (nI tl)])), (q 20, .inl (cI, 1600, .inl (fun j => nI (tb j))))]) ⟨hx, hb, hml, hown, hts⟩ hl.1 (c_kx_refuse l D cI cJ cC cZ cS x0 q hc dr 0 rf (by omega)) w_2_182 w_2_184 w_0_0 w_1_1 w_2_185 (by decide +kernel) ⟨⟨(Nat.le_of_ble_eq_true rfl), (Nat.le_of_ble_eq_true rfl)⟩, (Nat.le_of_ble_eq_true rfl), (Nat.le_of_ble_eq_true rfl)⟩ hK hP hD hS hA [0, 3] [1, 2] rfl rfl (by decide +kernel) (by decide +kernel) (by decide +kernel) rfl rfl rfl rfl (Nat.le_of_ble_eq_true rfl) dX11_feed_18 (fun r_33 u H locs hw hP hD hS => ?_)
    obtain ⟨rf2_32, hrf_34, rfl, rfl⟩ := hw
    have hP : va_P D vwCl [(q 0, .inr (10, [.ref (q 20), .int (nI tl)])), (q 20, .inl (cI, 1600, .inl (fun j => nI (tb j)))), (x0, .inr (11, [.ref (q 0), .ref (q 1), .ref (q 2), .ref (q 3), .ref (q 4), .ref (q 5), .ref (q 6), .ref (q 7), .ref (q 8), .ref (q 9), .ref (q 10), .ref (q 11), .ref (q 12), .ref (q 13), .ref (q 14), .int hc, .ref (q 16), .long dr])), (q 16, .inl (cI, 6, .inl rf2_32))] H := hP
    have hD : va_D A [(q 0, .inr (10, [.ref (q 20), .int (nI tl)])), (q 20, .inl (cI, 1600, .inl (fun j => nI (tb j)))), (x0, .inr (11, [.ref (q 0), .ref (q 1), .ref (q 2), .ref (q 3), .ref (q 4), .ref (q 5), .ref (q 6), .ref (q 7), .ref (q 8), .ref (q 9), .ref (q 10), .ref (q 11), .ref (q 12), .ref (q 13), .ref (q 14), .int hc, .ref (q 16), .long dr])), (q 16, .inl (cI, 6, .inl rf2_32))] := hD
    have hP := hP.sub (ws' := [(x0, .inr (11, [.ref (q 0), .ref (q 1), .ref (q 2), .ref (q 3), .ref (q 4), .ref (q 5), .ref (q 6), .ref (q 7), .ref (q 8), .ref (q 9), .ref (q 10), .ref (q 11), .ref (q 12), .ref (q 13), .ref (q 14), .int hc, .ref (q 16), .long dr])), (q 0, .inr (10, [.ref (q 20), .int (nI tl)])), (q 20, .inl (cI, 1600, .inl (fun j => nI (tb j)))), (q 16, .inl (cI, 6, .inl rf2_32))]) [2, 0, 1, 3] rfl
    have hD := hD.sub (ws' := [(x0, .inr (11, [.ref (q 0), .ref (q 1), .ref (q 2), .ref (q 3), .ref (q 4), .ref (q 5), .ref (q 6), .ref (q 7), .ref (q 8), .ref (q 9), .ref (q 10), .ref (q 11), .ref (q 12), .ref (q 13), .ref (q 14), .int hc, .ref (q 16), .long dr])), (q 0, .inr (10, [.ref (q 20), .int (nI tl)])), (q 20, .inl (cI, 1600, .inl (fun j => nI (tb j)))), (q 16, .inl (cI, 6, .inl rf2_32))]) [2, 0, 1, 3] (by decide +kernel) rfl
    exact sk_iret hx hb hr rfl hlocks hK hP hD hS (⟨tl, tb, rf2_32, Or.inr ⟨by omega, rfl, rfl, rfl⟩, htb, Or.inr ⟨by omega, hrf_34⟩, rfl⟩) (Nat.le_of_ble_eq_true rfl) (Nat.le_of_ble_eq_true rfl) dX11_feed_21
theorem dX11_end_0 : decode cX11_end 0 = .ok (.iload_n 1, 1) := by decide +kernel
theorem dX11_end_1 : decode cX11_end 1 = .ok (.ifCond .lt 14, 3) := by decide +kernel
theorem dX11_end_15 : decode cX11_end 15 = .ok (.aload_n 0, 1) := by decide +kernel
theorem dX11_end_16 : decode cX11_end 16 = .ok (.iconst 0, 1) := by decide +kernel
theorem dX11_end_17 : decode cX11_end 17 = .ok (.invokevirtual 120, 3) := by decide +kernel
theorem dX11_end_20 : decode cX11_end 20 = .ok (.ireturn, 1) := by decide +kernel
theorem dX11_end_4 : decode cX11_end 4 = .ok (.iload_n 1, 1) := by decide +kernel
theorem dX11_end_5 : decode cX11_end 5 = .ok (.aload_n 0, 1) := by decide +kernel
theorem dX11_end_6 : decode cX11_end 6 = .ok (.getfield 12, 3) := by decide +kernel
theorem dX11_end_9 : decode cX11_end 9 = .ok (.getfield 110, 3) := by decide +kernel
theorem dX11_end_12 : decode cX11_end 12 = .ok (.if_icmp .le 9, 3) := by decide +kernel
theorem dX11_end_21 : decode cX11_end 21 = .ok (.aload_n 0, 1) := by decide +kernel
theorem dX11_end_22 : decode cX11_end 22 = .ok (.getfield 12, 3) := by decide +kernel
theorem dX11_end_25 : decode cX11_end 25 = .ok (.iload_n 1, 1) := by decide +kernel
theorem dX11_end_26 : decode cX11_end 26 = .ok (.putfield 110, 3) := by decide +kernel
theorem dX11_end_29 : decode cX11_end 29 = .ok (.iconst 1, 1) := by decide +kernel
theorem dX11_end_30 : decode cX11_end 30 = .ok (.ireturn, 1) := by decide +kernel
theorem w_2_198 : (Cond.methodLink RX11 120 yX11_refuseIt) ∈ wsL_law := sk_mem (ck_2 _ (List.mem_of_getElem? (i := 198) rfl)) rfl
theorem w_2_200 : (Cond.instanceMethod yX11_refuseIt) ∈ wsL_law := sk_mem (ck_2 _ (List.mem_of_getElem? (i := 200) rfl)) rfl
theorem w_0_1 : (Cond.selects RX11 yX11_refuseIt yX11_refuseIt) ∈ wsL_law := sk_mem (ck_0 _ (List.mem_of_getElem? (i := 1) rfl)) rfl
theorem w_2_197 : (Cond.code yX11_end cX11_end 2 (some .boolean)) ∈ wsL_law := sk_mem (ck_2 _ (List.mem_of_getElem? (i := 197) rfl)) rfl
set_option maxHeartbeats 4000000 in
set_option maxRecDepth 100000 in
theorem c_ky_end (l : Launch) (D : va_G) (cI cJ cC cZ cS : ClassId) (x0 : Nat) (q : Nat → Nat) (hc : Int32) (dr : Int64) (tl : Nat) (tb : Nat → Nat) (rf : Nat → Int32) (n : Int32) (htl : tl ≤ 1600) (htb : ∀ j, tb j ≤ 255) : skM l yX11_end cX11_end 2 (some .boolean) 1 21 0 0 D (skT cI cJ cC cZ cS) [.ref x0, .int n] [(x0, .inr (11, [.ref (q 0), .ref (q 1), .ref (q 2), .ref (q 3), .ref (q 4), .ref (q 5), .ref (q 6), .ref (q 7), .ref (q 8), .ref (q 9), .ref (q 10), .ref (q 11), .ref (q 12), .ref (q 13), .ref (q 14), .int hc, .ref (q 16), .long dr])), (q 0, .inr (10, [.ref (q 20), .int (nI tl)])), (q 20, .inl (cI, 1600, .inl (fun j => nI (tb j)))), (q 16, .inl (cI, 6, .inl rf))] (skI D (skT cI cJ cC cZ cS) (fun (r : Int32) (u : va_W) => ∃ (t2 : Nat), ∃ (rf2 : Nat → Int32), ((n < 0 ∧ t2 = tl ∧ r = 0) ∨ (∃ k : Nat, k < 2147483648 ∧ n = nI k ∧ ((k ≤ tl ∧ t2 = k ∧ r = 1) ∨ (tl < k ∧ t2 = tl ∧ r = 0)))) ∧ ((r = 1 ∧ rf2 = rf) ∨ (r = 0 ∧ rf2 = upd rf 0 (rf 0 + 1))) ∧ u = [(x0, .inr (11, [.ref (q 0), .ref (q 1), .ref (q 2), .ref (q 3), .ref (q 4), .ref (q 5), .ref (q 6), .ref (q 7), .ref (q 8), .ref (q 9), .ref (q 10), .ref (q 11), .ref (q 12), .ref (q 13), .ref (q 14), .int hc, .ref (q 16), .long dr])), (q 0, .inr (10, [.ref (q 20), .int (nI t2)])), (q 20, .inl (cI, 1600, .inl (fun j => nI (tb j)))), (q 16, .inl (cI, 6, .inl rf2))])) := by
  refine skM_of (by decide +kernel) (Nat.le_of_ble_eq_true rfl) ?_
  intro p e s m below meth c A ls E hP hD hl
  obtain ⟨hx, hb, hr, hml, hlocks, hin, hown, hts, hK, hA⟩ := E
  have hown : s.vm.findClass RX11 = some m.cls := hown
  have hS : va_S A s.heap s.heap [] := va_S.rf
  have hl : lv_has ls 2 [(0, .ref x0), (1, .int n)] := hl
  refine lv_iload_n hx hb dX11_end_0 rfl (lv_at hl 1 rfl) ?_
  refine lv_if_lt (tgt := 15) hx hb dX11_end_1 (by decide) (fun c_1 => ?_) (fun c_1 => ?_)
  · skip
    refine lv_aload_n hx hb dX11_end_15 rfl (lv_at hl 0 rfl) ?_
    refine lv_iconst (v := 0) hx hb dX11_end_16 (by decide) ?_
    refine sk_Vi (q0 := 0) (n := 1) (rest := []) (wr := [(q 0, .inr (10, [.ref (q 20), .int (nI tl)])), (q 20, .inl (cI, 1600, .inl (fun j => nI (tb j))))]) ⟨hx, hb, hml, hown, hts⟩ hl.1 (c_kx_refuseIt l D cI cJ cC cZ cS x0 q hc dr 0 rf (by omega)) w_2_198 w_2_200 w_0_1 w_1_1 w_2_201 (by decide +kernel) ⟨⟨(Nat.le_of_ble_eq_true rfl), (Nat.le_of_ble_eq_true rfl)⟩, (Nat.le_of_ble_eq_true rfl), (Nat.le_of_ble_eq_true rfl)⟩ hK hP hD hS hA [0, 3] [1, 2] rfl rfl (by decide +kernel) (by decide +kernel) (by decide +kernel) rfl rfl rfl rfl (Nat.le_of_ble_eq_true rfl) dX11_end_17 (fun r_3 u H locs hw hP hD hS => ?_)
    obtain ⟨rf2_2, hrf_4, rfl, rfl⟩ := hw
    have hP : va_P D vwCl [(q 0, .inr (10, [.ref (q 20), .int (nI tl)])), (q 20, .inl (cI, 1600, .inl (fun j => nI (tb j)))), (x0, .inr (11, [.ref (q 0), .ref (q 1), .ref (q 2), .ref (q 3), .ref (q 4), .ref (q 5), .ref (q 6), .ref (q 7), .ref (q 8), .ref (q 9), .ref (q 10), .ref (q 11), .ref (q 12), .ref (q 13), .ref (q 14), .int hc, .ref (q 16), .long dr])), (q 16, .inl (cI, 6, .inl rf2_2))] H := hP
    have hD : va_D A [(q 0, .inr (10, [.ref (q 20), .int (nI tl)])), (q 20, .inl (cI, 1600, .inl (fun j => nI (tb j)))), (x0, .inr (11, [.ref (q 0), .ref (q 1), .ref (q 2), .ref (q 3), .ref (q 4), .ref (q 5), .ref (q 6), .ref (q 7), .ref (q 8), .ref (q 9), .ref (q 10), .ref (q 11), .ref (q 12), .ref (q 13), .ref (q 14), .int hc, .ref (q 16), .long dr])), (q 16, .inl (cI, 6, .inl rf2_2))] := hD
    have hP := hP.sub (ws' := [(x0, .inr (11, [.ref (q 0), .ref (q 1), .ref (q 2), .ref (q 3), .ref (q 4), .ref (q 5), .ref (q 6), .ref (q 7), .ref (q 8), .ref (q 9), .ref (q 10), .ref (q 11), .ref (q 12), .ref (q 13), .ref (q 14), .int hc, .ref (q 16), .long dr])), (q 0, .inr (10, [.ref (q 20), .int (nI tl)])), (q 20, .inl (cI, 1600, .inl (fun j => nI (tb j)))), (q 16, .inl (cI, 6, .inl rf2_2))]) [2, 0, 1, 3] rfl
    have hD := hD.sub (ws' := [(x0, .inr (11, [.ref (q 0), .ref (q 1), .ref (q 2), .ref (q 3), .ref (q 4), .ref (q 5), .ref (q 6), .ref (q 7), .ref (q 8), .ref (q 9), .ref (q 10), .ref (q 11), .ref (q 12), .ref (q 13), .ref (q 14), .int hc, .ref (q 16), .long dr])), (q 0, .inr (10, [.ref (q 20), .int (nI tl)])), (q 20, .inl (cI, 1600, .inl (fun j => nI (tb j)))), (q 16, .inl (cI, 6, .inl rf2_2))]) [2, 0, 1, 3] (by decide +kernel) rfl
    exact sk_iret hx hb hr rfl hlocks hK hP hD hS (⟨tl, rf2_2, Or.inl ⟨c_1, rfl, rfl⟩, Or.inr ⟨rfl, hrf_4⟩, rfl⟩) (Nat.le_of_ble_eq_true rfl) (Nat.le_of_ble_eq_true rfl) dX11_end_20
  · obtain ⟨k_5, hk_5, rfl⟩ := nof n c_1
    refine lv_iload_n hx hb dX11_end_4 rfl (lv_at hl 1 rfl) ?_
    refine lv_aload_n hx hb dX11_end_5 rfl (lv_at hl 0 rfl) ?_
    refine sk_get (v := .ref (q 0)) (C := RX11) (T := TX11) (N := 18) hx hb hts inlX11 hown hK hP 0 rfl rfl 0 (by decide) w_2_123 rfl dX11_end_6 ?_
    refine sk_get (v := .int (nI tl)) (C := RX10) (T := TX10) (N := 2) hx hb hts inlX10 hown hK hP 1 rfl rfl 1 (by decide) w_1_42 rfl dX11_end_9 ?_
    refine lv_icmp_le (tgt := 21) hx hb dX11_end_12 (by decide) (fun c_6 => ?_) (fun c_6 => ?_)
    · have c_6 : k_5 ≤ tl := (nle k_5 tl (by omega) (by omega)).mp c_6
      refine lv_aload_n hx hb dX11_end_21 rfl (lv_at hl 0 rfl) ?_
      refine sk_get (v := .ref (q 0)) (C := RX11) (T := TX11) (N := 18) hx hb hts inlX11 hown hK hP 0 rfl rfl 0 (by decide) w_2_123 rfl dX11_end_22 ?_
      refine lv_iload_n hx hb dX11_end_25 rfl (lv_at hl 1 rfl) ?_
      refine sk_put (ws' := [(x0, .inr (11, [.ref (q 0), .ref (q 1), .ref (q 2), .ref (q 3), .ref (q 4), .ref (q 5), .ref (q 6), .ref (q 7), .ref (q 8), .ref (q 9), .ref (q 10), .ref (q 11), .ref (q 12), .ref (q 13), .ref (q 14), .int hc, .ref (q 16), .long dr])), (q 0, .inr (10, [.ref (q 20), .int (nI k_5)])), (q 20, .inl (cI, 1600, .inl (fun j => nI (tb j)))), (q 16, .inl (cI, 6, .inl rf))]) (C := RX10) (T := TX10) (N := 2) (v := .int (nI k_5)) hx hb hts inlX10 tyX10 tyX10_ok nmX10 hown hK hP hD hS 1 rfl rfl 1 (by decide) w_1_42 rfl rfl rfl (Nat.le_of_ble_eq_true rfl) rfl dX11_end_26 (fun H locs hP hD hS => ?_)
      refine lv_iconst (v := 1) hx hb dX11_end_29 (by decide) ?_
      exact sk_iret hx hb hr rfl hlocks hK hP hD hS (⟨k_5, rf, Or.inr ⟨k_5, by omega, rfl, Or.inl ⟨by omega, rfl, rfl⟩⟩, Or.inl ⟨rfl, rfl⟩, rfl⟩) (Nat.le_of_ble_eq_true rfl) (Nat.le_of_ble_eq_true rfl) dX11_end_30
    · have c_6 : ¬ (k_5 ≤ tl) := fun h => c_6 ((nle k_5 tl (by omega) (by omega)).mpr h)
      refine lv_aload_n hx hb dX11_end_15 rfl (lv_at hl 0 rfl) ?_
      refine lv_iconst (v := 0) hx hb dX11_end_16 (by decide) ?_
      refine sk_Vi (q0 := 0) (n := 1) (rest := []) (wr := [(q 0, .inr (10, [.ref (q 20), .int (nI tl)])), (q 20, .inl (cI, 1600, .inl (fun j => nI (tb j))))]) ⟨hx, hb, hml, hown, hts⟩ hl.1 (c_kx_refuseIt l D cI cJ cC cZ cS x0 q hc dr 0 rf (by omega)) w_2_198 w_2_200 w_0_1 w_1_1 w_2_201 (by decide +kernel) ⟨⟨(Nat.le_of_ble_eq_true rfl), (Nat.le_of_ble_eq_true rfl)⟩, (Nat.le_of_ble_eq_true rfl), (Nat.le_of_ble_eq_true rfl)⟩ hK hP hD hS hA [0, 3] [1, 2] rfl rfl (by decide +kernel) (by decide +kernel) (by decide +kernel) rfl rfl rfl rfl (Nat.le_of_ble_eq_true rfl) dX11_end_17 (fun r_8 u H locs hw hP hD hS => ?_)
      obtain ⟨rf2_7, hrf_9, rfl, rfl⟩ := hw
      have hP : va_P D vwCl [(q 0, .inr (10, [.ref (q 20), .int (nI tl)])), (q 20, .inl (cI, 1600, .inl (fun j => nI (tb j)))), (x0, .inr (11, [.ref (q 0), .ref (q 1), .ref (q 2), .ref (q 3), .ref (q 4), .ref (q 5), .ref (q 6), .ref (q 7), .ref (q 8), .ref (q 9), .ref (q 10), .ref (q 11), .ref (q 12), .ref (q 13), .ref (q 14), .int hc, .ref (q 16), .long dr])), (q 16, .inl (cI, 6, .inl rf2_7))] H := hP
      have hD : va_D A [(q 0, .inr (10, [.ref (q 20), .int (nI tl)])), (q 20, .inl (cI, 1600, .inl (fun j => nI (tb j)))), (x0, .inr (11, [.ref (q 0), .ref (q 1), .ref (q 2), .ref (q 3), .ref (q 4), .ref (q 5), .ref (q 6), .ref (q 7), .ref (q 8), .ref (q 9), .ref (q 10), .ref (q 11), .ref (q 12), .ref (q 13), .ref (q 14), .int hc, .ref (q 16), .long dr])), (q 16, .inl (cI, 6, .inl rf2_7))] := hD
      have hP := hP.sub (ws' := [(x0, .inr (11, [.ref (q 0), .ref (q 1), .ref (q 2), .ref (q 3), .ref (q 4), .ref (q 5), .ref (q 6), .ref (q 7), .ref (q 8), .ref (q 9), .ref (q 10), .ref (q 11), .ref (q 12), .ref (q 13), .ref (q 14), .int hc, .ref (q 16), .long dr])), (q 0, .inr (10, [.ref (q 20), .int (nI tl)])), (q 20, .inl (cI, 1600, .inl (fun j => nI (tb j)))), (q 16, .inl (cI, 6, .inl rf2_7))]) [2, 0, 1, 3] rfl
      have hD := hD.sub (ws' := [(x0, .inr (11, [.ref (q 0), .ref (q 1), .ref (q 2), .ref (q 3), .ref (q 4), .ref (q 5), .ref (q 6), .ref (q 7), .ref (q 8), .ref (q 9), .ref (q 10), .ref (q 11), .ref (q 12), .ref (q 13), .ref (q 14), .int hc, .ref (q 16), .long dr])), (q 0, .inr (10, [.ref (q 20), .int (nI tl)])), (q 20, .inl (cI, 1600, .inl (fun j => nI (tb j)))), (q 16, .inl (cI, 6, .inl rf2_7))]) [2, 0, 1, 3] (by decide +kernel) rfl
      exact sk_iret hx hb hr rfl hlocks hK hP hD hS (⟨tl, rf2_7, Or.inr ⟨k_5, by omega, rfl, Or.inr ⟨by omega, rfl, rfl⟩⟩, Or.inr ⟨rfl, hrf_9⟩, rfl⟩) (Nat.le_of_ble_eq_true rfl) (Nat.le_of_ble_eq_true rfl) dX11_end_20
theorem dX11_seed_0 : decode cX11_seed 0 = .ok (.iload_n 1, 1) := by decide +kernel
theorem dX11_seed_1 : decode cX11_seed 1 = .ok (.ifCond .ge 9, 3) := by decide +kernel
theorem dX11_seed_10 : decode cX11_seed 10 = .ok (.aload_n 0, 1) := by decide +kernel
theorem dX11_seed_11 : decode cX11_seed 11 = .ok (.iload_n 1, 1) := by decide +kernel
theorem dX11_seed_12 : decode cX11_seed 12 = .ok (.i2l, 1) := by decide +kernel
theorem dX11_seed_13 : decode cX11_seed 13 = .ok (.putfield 106, 3) := by decide +kernel
theorem dX11_seed_16 : decode cX11_seed 16 = .ok (.iconst 1, 1) := by decide +kernel
theorem dX11_seed_17 : decode cX11_seed 17 = .ok (.ireturn, 1) := by decide +kernel
theorem dX11_seed_4 : decode cX11_seed 4 = .ok (.aload_n 0, 1) := by decide +kernel
theorem dX11_seed_5 : decode cX11_seed 5 = .ok (.iconst 5, 1) := by decide +kernel
theorem dX11_seed_6 : decode cX11_seed 6 = .ok (.invokevirtual 120, 3) := by decide +kernel
theorem dX11_seed_9 : decode cX11_seed 9 = .ok (.ireturn, 1) := by decide +kernel
theorem w_5_58 : (Cond.code yX11_seed cX11_seed 2 (some .boolean)) ∈ wsL_law := sk_mem (ck_5 _ (List.mem_of_getElem? (i := 58) rfl)) rfl
set_option maxHeartbeats 4000000 in
set_option maxRecDepth 100000 in
theorem c_ky_seed (l : Launch) (D : va_G) (cI cJ cC cZ cS : ClassId) (x0 : Nat) (q : Nat → Nat) (hc : Int32) (sd : Nat) (rf : Nat → Int32) (n : Int32)  : skM l yX11_seed cX11_seed 2 (some .boolean) 1 21 0 0 D (skT cI cJ cC cZ cS) [.ref x0, .int n] [(x0, .inr (11, [.ref (q 0), .ref (q 1), .ref (q 2), .ref (q 3), .ref (q 4), .ref (q 5), .ref (q 6), .ref (q 7), .ref (q 8), .ref (q 9), .ref (q 10), .ref (q 11), .ref (q 12), .ref (q 13), .ref (q 14), .int hc, .ref (q 16), .long (Int64.ofNat sd)])), (q 16, .inl (cI, 6, .inl rf))] (skI D (skT cI cJ cC cZ cS) (fun (r : Int32) (u : va_W) => ∃ (sd2 : Nat), ∃ (rf2 : Nat → Int32), seedR sd rf n r sd2 rf2 ∧ u = [(x0, .inr (11, [.ref (q 0), .ref (q 1), .ref (q 2), .ref (q 3), .ref (q 4), .ref (q 5), .ref (q 6), .ref (q 7), .ref (q 8), .ref (q 9), .ref (q 10), .ref (q 11), .ref (q 12), .ref (q 13), .ref (q 14), .int hc, .ref (q 16), .long (Int64.ofNat sd2)])), (q 16, .inl (cI, 6, .inl rf2))])) := by
  refine skM_of (by decide +kernel) (Nat.le_of_ble_eq_true rfl) ?_
  intro p e s m below meth c A ls E hP hD hl
  obtain ⟨hx, hb, hr, hml, hlocks, hin, hown, hts, hK, hA⟩ := E
  have hown : s.vm.findClass RX11 = some m.cls := hown
  have hS : va_S A s.heap s.heap [] := va_S.rf
  have hl : lv_has ls 2 [(0, .ref x0), (1, .int n)] := hl
  refine lv_iload_n hx hb dX11_seed_0 rfl (lv_at hl 1 rfl) ?_
  refine lv_if_ge (tgt := 10) hx hb dX11_seed_1 (by decide) (fun c_1 => ?_) (fun c_1 => ?_)
  · obtain ⟨k_2, hk_2, rfl⟩ := nof' n c_1
    refine lv_aload_n hx hb dX11_seed_10 rfl (lv_at hl 0 rfl) ?_
    refine lv_iload_n hx hb dX11_seed_11 rfl (lv_at hl 1 rfl) ?_
    refine lv_i2l hx hb dX11_seed_12 rfl ?_
    refine sk_topl (Int64.ofNat k_2) (kx_i2l (by omega)) ?_
    refine sk_put (ws' := [(x0, .inr (11, [.ref (q 0), .ref (q 1), .ref (q 2), .ref (q 3), .ref (q 4), .ref (q 5), .ref (q 6), .ref (q 7), .ref (q 8), .ref (q 9), .ref (q 10), .ref (q 11), .ref (q 12), .ref (q 13), .ref (q 14), .int hc, .ref (q 16), .long (Int64.ofNat k_2)])), (q 16, .inl (cI, 6, .inl rf))]) (C := RX11) (T := TX11) (N := 18) (v := .long (Int64.ofNat k_2)) hx hb hts inlX11 tyX11 tyX11_ok nmX11 hown hK hP hD hS 0 rfl rfl 17 (by decide) w_2_140 rfl rfl rfl (Nat.le_of_ble_eq_true rfl) rfl dX11_seed_13 (fun H locs hP hD hS => ?_)
    refine lv_iconst (v := 1) hx hb dX11_seed_16 (by decide) ?_
    exact sk_iret hx hb hr rfl hlocks hK hP hD hS (⟨k_2, rf, kR_1 k_2 ⟨by omega, rfl⟩ ⟨rfl, rfl, rfl⟩, rfl⟩) (Nat.le_of_ble_eq_true rfl) (Nat.le_of_ble_eq_true rfl) dX11_seed_17
  · skip
    refine lv_aload_n hx hb dX11_seed_4 rfl (lv_at hl 0 rfl) ?_
    refine lv_iconst (v := 5) hx hb dX11_seed_5 (by decide) ?_
    refine sk_Vi (q0 := 0) (n := 1) (rest := []) (wr := []) ⟨hx, hb, hml, hown, hts⟩ hl.1 (c_kx_refuseIt l D cI cJ cC cZ cS x0 q hc (Int64.ofNat sd) 5 rf (by omega)) w_2_198 w_2_200 w_0_1 w_1_1 w_2_201 (by decide +kernel) ⟨⟨(Nat.le_of_ble_eq_true rfl), (Nat.le_of_ble_eq_true rfl)⟩, (Nat.le_of_ble_eq_true rfl), (Nat.le_of_ble_eq_true rfl)⟩ hK hP hD hS hA [0, 1] [] rfl rfl (by decide +kernel) (by decide +kernel) (by decide +kernel) rfl rfl rfl rfl (Nat.le_of_ble_eq_true rfl) dX11_seed_6 (fun r_4 u H locs hw hP hD hS => ?_)
    obtain ⟨rf2_3, hrf_5, rfl, rfl⟩ := hw
    have hP : va_P D vwCl [(x0, .inr (11, [.ref (q 0), .ref (q 1), .ref (q 2), .ref (q 3), .ref (q 4), .ref (q 5), .ref (q 6), .ref (q 7), .ref (q 8), .ref (q 9), .ref (q 10), .ref (q 11), .ref (q 12), .ref (q 13), .ref (q 14), .int hc, .ref (q 16), .long (Int64.ofNat sd)])), (q 16, .inl (cI, 6, .inl rf2_3))] H := hP
    have hD : va_D A [(x0, .inr (11, [.ref (q 0), .ref (q 1), .ref (q 2), .ref (q 3), .ref (q 4), .ref (q 5), .ref (q 6), .ref (q 7), .ref (q 8), .ref (q 9), .ref (q 10), .ref (q 11), .ref (q 12), .ref (q 13), .ref (q 14), .int hc, .ref (q 16), .long (Int64.ofNat sd)])), (q 16, .inl (cI, 6, .inl rf2_3))] := hD
    exact sk_iret hx hb hr rfl hlocks hK hP hD hS (⟨sd, rf2_3, kR_0 (fun x hq => c_1 (by rw [hq.2]; exact nI_pos' (n := x) hq.1)) ⟨rfl, rfl, hrf_5⟩, rfl⟩) (Nat.le_of_ble_eq_true rfl) (Nat.le_of_ble_eq_true rfl) dX11_seed_9
theorem dX11_octet_0 : decode cX11_octet 0 = .ok (.iload_n 1, 1) := by decide +kernel
theorem dX11_octet_1 : decode cX11_octet 1 = .ok (.ifCond .lt 25, 3) := by decide +kernel
theorem dX11_octet_26 : decode cX11_octet 26 = .ok (.iconst (-1), 1) := by decide +kernel
theorem dX11_octet_27 : decode cX11_octet 27 = .ok (.ireturn, 1) := by decide +kernel
theorem dX11_octet_4 : decode cX11_octet 4 = .ok (.iload_n 1, 1) := by decide +kernel
theorem dX11_octet_5 : decode cX11_octet 5 = .ok (.aload_n 0, 1) := by decide +kernel
theorem dX11_octet_6 : decode cX11_octet 6 = .ok (.getfield 18, 3) := by decide +kernel
theorem dX11_octet_9 : decode cX11_octet 9 = .ok (.getfield 110, 3) := by decide +kernel
theorem dX11_octet_12 : decode cX11_octet 12 = .ok (.if_icmp .ge 14, 3) := by decide +kernel
theorem dX11_octet_15 : decode cX11_octet 15 = .ok (.aload_n 0, 1) := by decide +kernel
theorem dX11_octet_16 : decode cX11_octet 16 = .ok (.getfield 18, 3) := by decide +kernel
theorem dX11_octet_19 : decode cX11_octet 19 = .ok (.iload_n 1, 1) := by decide +kernel
theorem dX11_octet_20 : decode cX11_octet 20 = .ok (.invokevirtual 268, 3) := by decide +kernel
theorem dX11_octet_23 : decode cX11_octet 23 = .ok (.goto 4, 3) := by decide +kernel
theorem w_2_124 : (Cond.fieldLink RX11 18 "SameKeeper" "picture" "LSameKeeper$Tape;") ∈ wsL_law := sk_mem (ck_2 _ (List.mem_of_getElem? (i := 124) rfl)) rfl
theorem w_5_136 : (Cond.code yX11_octet cX11_octet 2 (some .int)) ∈ wsL_law := sk_mem (ck_5 _ (List.mem_of_getElem? (i := 136) rfl)) rfl
set_option maxHeartbeats 4000000 in
set_option maxRecDepth 100000 in
theorem c_ky_octet (l : Launch) (D : va_G) (cI cJ cC cZ cS : ClassId) (x0 : Nat) (q : Nat → Nat) (hc : Int32) (dr : Int64) (pl : Nat) (pb : Nat → Nat) (pB : Nat → Nat) (k : Int32) (hpl : pl ≤ 31) (hpb : ∀ j, pb j ≤ 255) (hpo : ∀ j, j < pl → pb j = pB j) : skM l yX11_octet cX11_octet 2 (some .int) 1 21 0 0 D (skT cI cJ cC cZ cS) [.ref x0, .int k] [(x0, .inr (11, [.ref (q 0), .ref (q 1), .ref (q 2), .ref (q 3), .ref (q 4), .ref (q 5), .ref (q 6), .ref (q 7), .ref (q 8), .ref (q 9), .ref (q 10), .ref (q 11), .ref (q 12), .ref (q 13), .ref (q 14), .int hc, .ref (q 16), .long dr])), (q 1, .inr (10, [.ref (q 21), .int (nI pl)])), (q 21, .inl (cI, 31, .inl (fun j => nI (pb j))))] (skI D (skT cI cJ cC cZ cS) (fun (r : Int32) (u : va_W) => octR pl pB k r ∧ u = [(x0, .inr (11, [.ref (q 0), .ref (q 1), .ref (q 2), .ref (q 3), .ref (q 4), .ref (q 5), .ref (q 6), .ref (q 7), .ref (q 8), .ref (q 9), .ref (q 10), .ref (q 11), .ref (q 12), .ref (q 13), .ref (q 14), .int hc, .ref (q 16), .long dr])), (q 1, .inr (10, [.ref (q 21), .int (nI pl)])), (q 21, .inl (cI, 31, .inl (fun j => nI (pb j))))])) := by
  refine skM_of (by decide +kernel) (Nat.le_of_ble_eq_true rfl) ?_
  intro p e s m below meth c A ls E hP hD hl
  obtain ⟨hx, hb, hr, hml, hlocks, hin, hown, hts, hK, hA⟩ := E
  have hown : s.vm.findClass RX11 = some m.cls := hown
  have hS : va_S A s.heap s.heap [] := va_S.rf
  have hl : lv_has ls 2 [(0, .ref x0), (1, .int k)] := hl
  refine lv_iload_n hx hb dX11_octet_0 rfl (lv_at hl 1 rfl) ?_
  refine lv_if_lt (tgt := 26) hx hb dX11_octet_1 (by decide) (fun c_1 => ?_) (fun c_1 => ?_)
  · skip
    refine lv_iconst (v := (-1)) hx hb dX11_octet_26 (by decide) ?_
    exact sk_iret hx hb hr rfl hlocks hK hP hD hS (⟨kR_0 (fun x hq => absurd c_1 (by rw [hq.2]; exact nI_pos (by omega))) rfl, rfl⟩) (Nat.le_of_ble_eq_true rfl) (Nat.le_of_ble_eq_true rfl) dX11_octet_27
  · obtain ⟨k_2, hk_2, rfl⟩ := nof k c_1
    refine lv_iload_n hx hb dX11_octet_4 rfl (lv_at hl 1 rfl) ?_
    refine lv_aload_n hx hb dX11_octet_5 rfl (lv_at hl 0 rfl) ?_
    refine sk_get (v := .ref (q 1)) (C := RX11) (T := TX11) (N := 18) hx hb hts inlX11 hown hK hP 0 rfl rfl 1 (by decide) w_2_124 rfl dX11_octet_6 ?_
    refine sk_get (v := .int (nI pl)) (C := RX10) (T := TX10) (N := 2) hx hb hts inlX10 hown hK hP 1 rfl rfl 1 (by decide) w_1_42 rfl dX11_octet_9 ?_
    refine lv_icmp_ge (tgt := 26) hx hb dX11_octet_12 (by decide) (fun c_3 => ?_) (fun c_3 => ?_)
    · have c_3 : pl ≤ k_2 := (nle pl k_2 (by omega) (by omega)).mp c_3
      refine lv_iconst (v := (-1)) hx hb dX11_octet_26 (by decide) ?_
      exact sk_iret hx hb hr rfl hlocks hK hP hD hS (⟨kR_0 (fun x hq => (by have := (neq k_2 x (by omega) (by omega)).mp hq.2; omega)) rfl, rfl⟩) (Nat.le_of_ble_eq_true rfl) (Nat.le_of_ble_eq_true rfl) dX11_octet_27
    · have c_3 : ¬ (pl ≤ k_2) := fun h => c_3 ((nle pl k_2 (by omega) (by omega)).mpr h)
      refine lv_aload_n hx hb dX11_octet_15 rfl (lv_at hl 0 rfl) ?_
      refine sk_get (v := .ref (q 1)) (C := RX11) (T := TX11) (N := 18) hx hb hts inlX11 hown hK hP 0 rfl rfl 1 (by decide) w_2_124 rfl dX11_octet_16 ?_
      refine lv_iload_n hx hb dX11_octet_19 rfl (lv_at hl 1 rfl) ?_
      refine sk_Vi (q0 := 0) (n := 1) (rest := []) (wr := [(x0, .inr (11, [.ref (q 0), .ref (q 1), .ref (q 2), .ref (q 3), .ref (q 4), .ref (q 5), .ref (q 6), .ref (q 7), .ref (q 8), .ref (q 9), .ref (q 10), .ref (q 11), .ref (q 12), .ref (q 13), .ref (q 14), .int hc, .ref (q 16), .long dr]))]) ⟨hx, hb, hml, hown, hts⟩ hl.1 (c_eTape_left_31 l D cI cJ cC cZ cS (q 1) (q 21) pl pb k_2 (by omega) hpb (by omega)) w_4_214 w_4_215 w_4_216 w_1_2 w_4_217 (by decide +kernel) ⟨⟨(Nat.le_of_ble_eq_true rfl), (Nat.le_of_ble_eq_true rfl)⟩, (Nat.le_of_ble_eq_true rfl), (Nat.le_of_ble_eq_true rfl)⟩ hK hP hD hS hA [1, 2] [0] rfl rfl (by decide +kernel) (by decide +kernel) (by decide +kernel) rfl rfl rfl rfl (Nat.le_of_ble_eq_true rfl) dX11_octet_20 (fun r_4 u H locs hw hP hD hS => ?_)
      obtain ⟨hv_5, rfl, rfl⟩ := hw
      have hP : va_P D vwCl [(x0, .inr (11, [.ref (q 0), .ref (q 1), .ref (q 2), .ref (q 3), .ref (q 4), .ref (q 5), .ref (q 6), .ref (q 7), .ref (q 8), .ref (q 9), .ref (q 10), .ref (q 11), .ref (q 12), .ref (q 13), .ref (q 14), .int hc, .ref (q 16), .long dr])), (q 1, .inr (10, [.ref (q 21), .int (nI pl)])), (q 21, .inl (cI, 31, .inl (fun j => nI (pb j))))] H := hP
      have hD : va_D A [(x0, .inr (11, [.ref (q 0), .ref (q 1), .ref (q 2), .ref (q 3), .ref (q 4), .ref (q 5), .ref (q 6), .ref (q 7), .ref (q 8), .ref (q 9), .ref (q 10), .ref (q 11), .ref (q 12), .ref (q 13), .ref (q 14), .int hc, .ref (q 16), .long dr])), (q 1, .inr (10, [.ref (q 21), .int (nI pl)])), (q 21, .inl (cI, 31, .inl (fun j => nI (pb j))))] := hD
      refine lv_goto (tgt := 27) hx hb dX11_octet_23 (by decide) ?_
      exact sk_iret hx hb hr rfl hlocks hK hP hD hS (⟨kR_1 k_2 ⟨by omega, rfl⟩ (congrArg nI (hpo k_2 (by omega))), rfl⟩) (Nat.le_of_ble_eq_true rfl) (Nat.le_of_ble_eq_true rfl) dX11_octet_27
theorem dX11_image_0 : decode cX11_image 0 = .ok (.aload_n 0, 1) := by decide +kernel
theorem dX11_image_1 : decode cX11_image 1 = .ok (.getfield 18, 3) := by decide +kernel
theorem dX11_image_4 : decode cX11_image 4 = .ok (.iconst 0, 1) := by decide +kernel
theorem dX11_image_5 : decode cX11_image 5 = .ok (.putfield 110, 3) := by decide +kernel
theorem dX11_image_8 : decode cX11_image 8 = .ok (.aload_n 0, 1) := by decide +kernel
theorem dX11_image_9 : decode cX11_image 9 = .ok (.getfield 18, 3) := by decide +kernel
theorem dX11_image_12 : decode cX11_image 12 = .ok (.aload_n 0, 1) := by decide +kernel
theorem dX11_image_13 : decode cX11_image 13 = .ok (.getfield 59, 3) := by decide +kernel
theorem dX11_image_16 : decode cX11_image 16 = .ok (.getfield 147, 3) := by decide +kernel
theorem dX11_image_19 : decode cX11_image 19 = .ok (.bipush 8, 2) := by decide +kernel
theorem dX11_image_21 : decode cX11_image 21 = .ok (.ishr, 1) := by decide +kernel
theorem dX11_image_22 : decode cX11_image 22 = .ok (.invokevirtual 310, 3) := by decide +kernel
theorem dX11_image_25 : decode cX11_image 25 = .ok (.aload_n 0, 1) := by decide +kernel
theorem dX11_image_26 : decode cX11_image 26 = .ok (.getfield 18, 3) := by decide +kernel
theorem dX11_image_29 : decode cX11_image 29 = .ok (.aload_n 0, 1) := by decide +kernel
theorem dX11_image_30 : decode cX11_image 30 = .ok (.getfield 59, 3) := by decide +kernel
theorem dX11_image_33 : decode cX11_image 33 = .ok (.getfield 147, 3) := by decide +kernel
theorem dX11_image_36 : decode cX11_image 36 = .ok (.sipush 255, 3) := by decide +kernel
theorem dX11_image_39 : decode cX11_image 39 = .ok (.iand, 1) := by decide +kernel
theorem dX11_image_40 : decode cX11_image 40 = .ok (.invokevirtual 310, 3) := by decide +kernel
theorem dX11_image_43 : decode cX11_image 43 = .ok (.aload_n 0, 1) := by decide +kernel
theorem dX11_image_44 : decode cX11_image 44 = .ok (.getfield 18, 3) := by decide +kernel
theorem dX11_image_47 : decode cX11_image 47 = .ok (.aload_n 0, 1) := by decide +kernel
theorem dX11_image_48 : decode cX11_image 48 = .ok (.getfield 59, 3) := by decide +kernel
theorem dX11_image_51 : decode cX11_image 51 = .ok (.getfield 150, 3) := by decide +kernel
theorem dX11_image_54 : decode cX11_image 54 = .ok (.invokevirtual 310, 3) := by decide +kernel
theorem dX11_image_57 : decode cX11_image 57 = .ok (.iconst 0, 1) := by decide +kernel
theorem dX11_image_58 : decode cX11_image 58 = .ok (.istore_n 1, 1) := by decide +kernel
theorem dX11_image_59 : decode cX11_image 59 = .ok (.iload_n 1, 1) := by decide +kernel
theorem dX11_image_60 : decode cX11_image 60 = .ok (.aload_n 0, 1) := by decide +kernel
theorem dX11_image_61 : decode cX11_image 61 = .ok (.getfield 59, 3) := by decide +kernel
theorem dX11_image_64 : decode cX11_image 64 = .ok (.getfield 144, 3) := by decide +kernel
theorem dX11_image_67 : decode cX11_image 67 = .ok (.if_icmp .ge 64, 3) := by decide +kernel
theorem dX11_image_131 : decode cX11_image 131 = .ok (.aload_n 0, 1) := by decide +kernel
theorem dX11_image_132 : decode cX11_image 132 = .ok (.getfield 18, 3) := by decide +kernel
theorem dX11_image_135 : decode cX11_image 135 = .ok (.aload_n 0, 1) := by decide +kernel
theorem dX11_image_136 : decode cX11_image 136 = .ok (.getfield 18, 3) := by decide +kernel
theorem dX11_image_139 : decode cX11_image 139 = .ok (.aload_n 0, 1) := by decide +kernel
theorem dX11_image_140 : decode cX11_image 140 = .ok (.getfield 18, 3) := by decide +kernel
theorem dX11_image_143 : decode cX11_image 143 = .ok (.getfield 110, 3) := by decide +kernel
theorem dX11_image_146 : decode cX11_image 146 = .ok (.invokevirtual 313, 3) := by decide +kernel
theorem dX11_image_149 : decode cX11_image 149 = .ok (.invokevirtual 310, 3) := by decide +kernel
theorem dX11_image_152 : decode cX11_image 152 = .ok (.aload_n 0, 1) := by decide +kernel
theorem dX11_image_153 : decode cX11_image 153 = .ok (.getfield 18, 3) := by decide +kernel
theorem dX11_image_156 : decode cX11_image 156 = .ok (.getfield 110, 3) := by decide +kernel
theorem dX11_image_159 : decode cX11_image 159 = .ok (.ireturn, 1) := by decide +kernel
theorem dX11_image_70 : decode cX11_image 70 = .ok (.aload_n 0, 1) := by decide +kernel
theorem dX11_image_71 : decode cX11_image 71 = .ok (.getfield 18, 3) := by decide +kernel
theorem dX11_image_74 : decode cX11_image 74 = .ok (.aload_n 0, 1) := by decide +kernel
theorem dX11_image_75 : decode cX11_image 75 = .ok (.getfield 59, 3) := by decide +kernel
theorem dX11_image_78 : decode cX11_image 78 = .ok (.getfield 173, 3) := by decide +kernel
theorem dX11_image_81 : decode cX11_image 81 = .ok (.iload_n 1, 1) := by decide +kernel
theorem dX11_image_82 : decode cX11_image 82 = .ok (.iaload, 1) := by decide +kernel
theorem dX11_image_83 : decode cX11_image 83 = .ok (.invokevirtual 310, 3) := by decide +kernel
theorem dX11_image_86 : decode cX11_image 86 = .ok (.aload_n 0, 1) := by decide +kernel
theorem dX11_image_87 : decode cX11_image 87 = .ok (.getfield 18, 3) := by decide +kernel
theorem dX11_image_90 : decode cX11_image 90 = .ok (.aload_n 0, 1) := by decide +kernel
theorem dX11_image_91 : decode cX11_image 91 = .ok (.getfield 59, 3) := by decide +kernel
theorem dX11_image_94 : decode cX11_image 94 = .ok (.getfield 176, 3) := by decide +kernel
theorem dX11_image_97 : decode cX11_image 97 = .ok (.iload_n 1, 1) := by decide +kernel
theorem dX11_image_98 : decode cX11_image 98 = .ok (.iaload, 1) := by decide +kernel
theorem dX11_image_99 : decode cX11_image 99 = .ok (.invokevirtual 310, 3) := by decide +kernel
theorem dX11_image_122 : decode cX11_image 122 = .ok (.invokevirtual 310, 3) := by decide +kernel
theorem dX11_image_125 : decode cX11_image 125 = .ok (.iinc 1 1, 3) := by decide +kernel
theorem dX11_image_128 : decode cX11_image 128 = .ok (.goto (-69), 3) := by decide +kernel
theorem dX11_image_102 : decode cX11_image 102 = .ok (.aload_n 0, 1) := by decide +kernel
theorem dX11_image_103 : decode cX11_image 103 = .ok (.getfield 18, 3) := by decide +kernel
theorem dX11_image_106 : decode cX11_image 106 = .ok (.aload_n 0, 1) := by decide +kernel
theorem dX11_image_107 : decode cX11_image 107 = .ok (.getfield 59, 3) := by decide +kernel
theorem dX11_image_110 : decode cX11_image 110 = .ok (.iload_n 1, 1) := by decide +kernel
theorem dX11_image_111 : decode cX11_image 111 = .ok (.invokevirtual 179, 3) := by decide +kernel
theorem dX11_image_114 : decode cX11_image 114 = .ok (.ifCond .eq 7, 3) := by decide +kernel
theorem dX11_image_121 : decode cX11_image 121 = .ok (.iconst 0, 1) := by decide +kernel
theorem dX11_image_117 : decode cX11_image 117 = .ok (.iconst 1, 1) := by decide +kernel
theorem dX11_image_118 : decode cX11_image 118 = .ok (.goto 4, 3) := by decide +kernel
theorem w_5_127 : (Cond.methodLink RX11 310 yX10_add) ∈ wsL_law := sk_mem (ck_5 _ (List.mem_of_getElem? (i := 127) rfl)) rfl
theorem w_5_126 : (Cond.code yX11_image cX11_image 2 (some .int)) ∈ wsL_law := sk_mem (ck_5 _ (List.mem_of_getElem? (i := 126) rfl)) rfl
set_option maxHeartbeats 4000000 in
set_option maxRecDepth 100000 in
theorem c_ky_image (l : Launch) (D : va_G) (cI cJ cC cZ cS : ClassId) (x0 : Nat) (q : Nat → Nat) (hc : Int32) (dr : Int64) (pl : Nat) (pb : Nat → Nat) (dy : Nat) (wn : Nat) (mo : Nat) (ke : Nat) (mu : Int32) (fb : Nat → Int32) (fw : Nat → Int32) (Ba : Nat → Nat) (We : Nat → Nat) (U : Nat → Bool) (hpl : pl ≤ 31) (hpb : ∀ j, pb j ≤ 255) (hdy : dy ≤ 9) (hmo : mo ≤ 9) (hfb : ∀ j, j < 9 → fb j = nI (Ba j)) (hfw : ∀ j, j < 9 → fw j = nI (We j)) (hB9 : ∀ j, Ba j ≤ 9) (hW9 : ∀ j, We j ≤ 9) (hU : muO U mu) (hwn : wn ≤ 999) : skM l yX11_image cX11_image 2 (some .int) 2 44 0 0 D (skT cI cJ cC cZ cS) [.ref x0] [(x0, .inr (11, [.ref (q 0), .ref (q 1), .ref (q 2), .ref (q 3), .ref (q 4), .ref (q 5), .ref (q 6), .ref (q 7), .ref (q 8), .ref (q 9), .ref (q 10), .ref (q 11), .ref (q 12), .ref (q 13), .ref (q 14), .int hc, .ref (q 16), .long dr])), (q 1, .inr (10, [.ref (q 21), .int (nI pl)])), (q 21, .inl (cI, 31, .inl (fun j => nI (pb j)))), (q 7, .inr (7, [.ref (q 33), .ref (q 34), .int (nI dy), .int (nI wn), .int (nI mo), .int mu, .int (nI ke)])), (q 33, .inl (cI, 9, .inl fb)), (q 34, .inl (cI, 9, .inl fw))] (skI D (skT cI cJ cC cZ cS) (fun (r : Int32) (u : va_W) => ∃ (pl2 : Nat), ∃ (pb2 : Nat → Nat), pl2 = 4 + 3 * dy ∧ (∀ j, pb2 j ≤ 255) ∧ (∀ j, j < 4 + 3 * dy → pb2 j = imgB (wn, mo, Ba, We, U, ke) dy j) ∧ r = nI (4 + 3 * dy) ∧ u = [(x0, .inr (11, [.ref (q 0), .ref (q 1), .ref (q 2), .ref (q 3), .ref (q 4), .ref (q 5), .ref (q 6), .ref (q 7), .ref (q 8), .ref (q 9), .ref (q 10), .ref (q 11), .ref (q 12), .ref (q 13), .ref (q 14), .int hc, .ref (q 16), .long dr])), (q 1, .inr (10, [.ref (q 21), .int (nI pl2)])), (q 21, .inl (cI, 31, .inl (fun j => nI (pb2 j)))), (q 7, .inr (7, [.ref (q 33), .ref (q 34), .int (nI dy), .int (nI wn), .int (nI mo), .int mu, .int (nI ke)])), (q 33, .inl (cI, 9, .inl fb)), (q 34, .inl (cI, 9, .inl fw))])) := by
  refine skM_of (by decide +kernel) (Nat.le_of_ble_eq_true rfl) ?_
  intro p e s m below meth c A ls E hP hD hl
  obtain ⟨hx, hb, hr, hml, hlocks, hin, hown, hts, hK, hA⟩ := E
  have hown : s.vm.findClass RX11 = some m.cls := hown
  have hS : va_S A s.heap s.heap [] := va_S.rf
  have hl : lv_has ls 2 [(0, .ref x0)] := hl
  refine lv_aload_n hx hb dX11_image_0 rfl (lv_at hl 0 rfl) ?_
  refine sk_get (v := .ref (q 1)) (C := RX11) (T := TX11) (N := 18) hx hb hts inlX11 hown hK hP 0 rfl rfl 1 (by decide) w_2_124 rfl dX11_image_1 ?_
  refine lv_iconst (v := 0) hx hb dX11_image_4 (by decide) ?_
  refine sk_put (ws' := [(x0, .inr (11, [.ref (q 0), .ref (q 1), .ref (q 2), .ref (q 3), .ref (q 4), .ref (q 5), .ref (q 6), .ref (q 7), .ref (q 8), .ref (q 9), .ref (q 10), .ref (q 11), .ref (q 12), .ref (q 13), .ref (q 14), .int hc, .ref (q 16), .long dr])), (q 1, .inr (10, [.ref (q 21), .int 0])), (q 21, .inl (cI, 31, .inl (fun j => nI (pb j)))), (q 7, .inr (7, [.ref (q 33), .ref (q 34), .int (nI dy), .int (nI wn), .int (nI mo), .int mu, .int (nI ke)])), (q 33, .inl (cI, 9, .inl fb)), (q 34, .inl (cI, 9, .inl fw))]) (C := RX10) (T := TX10) (N := 2) (v := .int 0) hx hb hts inlX10 tyX10 tyX10_ok nmX10 hown hK hP hD hS 1 rfl rfl 1 (by decide) w_1_42 rfl rfl rfl (Nat.le_of_ble_eq_true rfl) rfl dX11_image_5 (fun H locs hP hD hS => ?_)
  have hi0 := imP_0 (wn, mo, Ba, We, U, ke) pb
  refine lv_aload_n hx hb dX11_image_8 rfl (lv_at hl 0 rfl) ?_
  refine sk_get (v := .ref (q 1)) (C := RX11) (T := TX11) (N := 18) hx hb hts inlX11 hown hK hP 0 rfl rfl 1 (by decide) w_2_124 rfl dX11_image_9 ?_
  refine lv_aload_n hx hb dX11_image_12 rfl (lv_at hl 0 rfl) ?_
  refine sk_get (v := .ref (q 7)) (C := RX11) (T := TX11) (N := 18) hx hb hts inlX11 hown hK hP 0 rfl rfl 7 (by decide) w_2_130 rfl dX11_image_13 ?_
  refine sk_get (v := .int (nI wn)) (C := RX7) (T := TX7) (N := 7) hx hb hts inlX7 hown hK hP 3 rfl rfl 3 (by decide) w_2_6 rfl dX11_image_16 ?_
  refine lv_bipush (v := 8) hx hb dX11_image_19 (by decide) ?_
  refine lv_ishr hx hb dX11_image_21 ?_
  refine sk_top (nI (wn / 256)) (kw_hi (by omega)) ?_
  refine sk_Vv (q0 := 0) (n := 1) (rest := []) (wr := [(x0, .inr (11, [.ref (q 0), .ref (q 1), .ref (q 2), .ref (q 3), .ref (q 4), .ref (q 5), .ref (q 6), .ref (q 7), .ref (q 8), .ref (q 9), .ref (q 10), .ref (q 11), .ref (q 12), .ref (q 13), .ref (q 14), .int hc, .ref (q 16), .long dr])), (q 7, .inr (7, [.ref (q 33), .ref (q 34), .int (nI dy), .int (nI wn), .int (nI mo), .int mu, .int (nI ke)])), (q 33, .inl (cI, 9, .inl fb)), (q 34, .inl (cI, 9, .inl fw))]) ⟨hx, hb, hml, hown, hts⟩ hl.1 (c_eTape_add_31 l D cI cJ cC cZ cS (q 1) (q 21) 0 pb (nI (wn / 256)) (by omega) hpb) w_5_127 w_2_191 w_2_192 w_1_2 w_2_193 (by decide +kernel) ⟨⟨(Nat.le_of_ble_eq_true rfl), (Nat.le_of_ble_eq_true rfl)⟩, (Nat.le_of_ble_eq_true rfl), (Nat.le_of_ble_eq_true rfl)⟩ hK hP hD hS hA [1, 2] [0, 3, 4, 5] rfl rfl (by decide +kernel) (by decide +kernel) (by decide +kernel) rfl rfl rfl rfl (Nat.le_of_ble_eq_true rfl) dX11_image_22 (fun u H locs hw hP hD hS => ?_)
  obtain ⟨t2_1, tb2_2, ht2_3, htb2_4, hup_5, rfl⟩ := hw
  have hP : va_P D vwCl [(x0, .inr (11, [.ref (q 0), .ref (q 1), .ref (q 2), .ref (q 3), .ref (q 4), .ref (q 5), .ref (q 6), .ref (q 7), .ref (q 8), .ref (q 9), .ref (q 10), .ref (q 11), .ref (q 12), .ref (q 13), .ref (q 14), .int hc, .ref (q 16), .long dr])), (q 7, .inr (7, [.ref (q 33), .ref (q 34), .int (nI dy), .int (nI wn), .int (nI mo), .int mu, .int (nI ke)])), (q 33, .inl (cI, 9, .inl fb)), (q 34, .inl (cI, 9, .inl fw)), (q 1, .inr (10, [.ref (q 21), .int (nI t2_1)])), (q 21, .inl (cI, 31, .inl (fun j => nI (tb2_2 j))))] H := hP
  have hD : va_D A [(x0, .inr (11, [.ref (q 0), .ref (q 1), .ref (q 2), .ref (q 3), .ref (q 4), .ref (q 5), .ref (q 6), .ref (q 7), .ref (q 8), .ref (q 9), .ref (q 10), .ref (q 11), .ref (q 12), .ref (q 13), .ref (q 14), .int hc, .ref (q 16), .long dr])), (q 7, .inr (7, [.ref (q 33), .ref (q 34), .int (nI dy), .int (nI wn), .int (nI mo), .int mu, .int (nI ke)])), (q 33, .inl (cI, 9, .inl fb)), (q 34, .inl (cI, 9, .inl fw)), (q 1, .inr (10, [.ref (q 21), .int (nI t2_1)])), (q 21, .inl (cI, 31, .inl (fun j => nI (tb2_2 j))))] := hD
  have hi_6 : imP (wn, mo, Ba, We, U, ke) (0 + 1) tb2_2 := imP_s hi0 (hup_5 (by omega)) (by omega) (by rw [lo8_nI (by omega)]; exact rfl)
  refine lv_aload_n hx hb dX11_image_25 rfl (lv_at hl 0 rfl) ?_
  refine sk_get (v := .ref (q 1)) (C := RX11) (T := TX11) (N := 18) hx hb hts inlX11 hown hK hP 0 rfl rfl 1 (by decide) w_2_124 rfl dX11_image_26 ?_
  refine lv_aload_n hx hb dX11_image_29 rfl (lv_at hl 0 rfl) ?_
  refine sk_get (v := .ref (q 7)) (C := RX11) (T := TX11) (N := 18) hx hb hts inlX11 hown hK hP 0 rfl rfl 7 (by decide) w_2_130 rfl dX11_image_30 ?_
  refine sk_get (v := .int (nI wn)) (C := RX7) (T := TX7) (N := 7) hx hb hts inlX7 hown hK hP 1 rfl rfl 3 (by decide) w_2_6 rfl dX11_image_33 ?_
  refine lv_sipush (v := 255) hx hb dX11_image_36 (by decide) ?_
  refine lv_iand hx hb dX11_image_39 ?_
  refine sk_top (nI (wn % 256)) (kw_lo (by omega)) ?_
  refine sk_Vv (q0 := 0) (n := 1) (rest := []) (wr := [(x0, .inr (11, [.ref (q 0), .ref (q 1), .ref (q 2), .ref (q 3), .ref (q 4), .ref (q 5), .ref (q 6), .ref (q 7), .ref (q 8), .ref (q 9), .ref (q 10), .ref (q 11), .ref (q 12), .ref (q 13), .ref (q 14), .int hc, .ref (q 16), .long dr])), (q 7, .inr (7, [.ref (q 33), .ref (q 34), .int (nI dy), .int (nI wn), .int (nI mo), .int mu, .int (nI ke)])), (q 33, .inl (cI, 9, .inl fb)), (q 34, .inl (cI, 9, .inl fw))]) ⟨hx, hb, hml, hown, hts⟩ hl.1 (c_eTape_add_31 l D cI cJ cC cZ cS (q 1) (q 21) t2_1 tb2_2 (nI (wn % 256)) (by omega) htb2_4) w_5_127 w_2_191 w_2_192 w_1_2 w_2_193 (by decide +kernel) ⟨⟨(Nat.le_of_ble_eq_true rfl), (Nat.le_of_ble_eq_true rfl)⟩, (Nat.le_of_ble_eq_true rfl), (Nat.le_of_ble_eq_true rfl)⟩ hK hP hD hS hA [4, 5] [0, 1, 2, 3] rfl rfl (by decide +kernel) (by decide +kernel) (by decide +kernel) rfl rfl rfl rfl (Nat.le_of_ble_eq_true rfl) dX11_image_40 (fun u H locs hw hP hD hS => ?_)
  obtain ⟨t2_7, tb2_8, ht2_9, htb2_10, hup_11, rfl⟩ := hw
  have hP : va_P D vwCl [(x0, .inr (11, [.ref (q 0), .ref (q 1), .ref (q 2), .ref (q 3), .ref (q 4), .ref (q 5), .ref (q 6), .ref (q 7), .ref (q 8), .ref (q 9), .ref (q 10), .ref (q 11), .ref (q 12), .ref (q 13), .ref (q 14), .int hc, .ref (q 16), .long dr])), (q 7, .inr (7, [.ref (q 33), .ref (q 34), .int (nI dy), .int (nI wn), .int (nI mo), .int mu, .int (nI ke)])), (q 33, .inl (cI, 9, .inl fb)), (q 34, .inl (cI, 9, .inl fw)), (q 1, .inr (10, [.ref (q 21), .int (nI t2_7)])), (q 21, .inl (cI, 31, .inl (fun j => nI (tb2_8 j))))] H := hP
  have hD : va_D A [(x0, .inr (11, [.ref (q 0), .ref (q 1), .ref (q 2), .ref (q 3), .ref (q 4), .ref (q 5), .ref (q 6), .ref (q 7), .ref (q 8), .ref (q 9), .ref (q 10), .ref (q 11), .ref (q 12), .ref (q 13), .ref (q 14), .int hc, .ref (q 16), .long dr])), (q 7, .inr (7, [.ref (q 33), .ref (q 34), .int (nI dy), .int (nI wn), .int (nI mo), .int mu, .int (nI ke)])), (q 33, .inl (cI, 9, .inl fb)), (q 34, .inl (cI, 9, .inl fw)), (q 1, .inr (10, [.ref (q 21), .int (nI t2_7)])), (q 21, .inl (cI, 31, .inl (fun j => nI (tb2_8 j))))] := hD
  have hi_12 : imP (wn, mo, Ba, We, U, ke) (1 + 1) tb2_8 := imP_s hi_6 (hup_11 (by omega)) (by omega) (by rw [lo8_nI (by omega)]; exact rfl)
  refine lv_aload_n hx hb dX11_image_43 rfl (lv_at hl 0 rfl) ?_
  refine sk_get (v := .ref (q 1)) (C := RX11) (T := TX11) (N := 18) hx hb hts inlX11 hown hK hP 0 rfl rfl 1 (by decide) w_2_124 rfl dX11_image_44 ?_
  refine lv_aload_n hx hb dX11_image_47 rfl (lv_at hl 0 rfl) ?_
  refine sk_get (v := .ref (q 7)) (C := RX11) (T := TX11) (N := 18) hx hb hts inlX11 hown hK hP 0 rfl rfl 7 (by decide) w_2_130 rfl dX11_image_48 ?_
  refine sk_get (v := .int (nI mo)) (C := RX7) (T := TX7) (N := 7) hx hb hts inlX7 hown hK hP 1 rfl rfl 4 (by decide) w_2_10 rfl dX11_image_51 ?_
  refine sk_Vv (q0 := 0) (n := 1) (rest := []) (wr := [(x0, .inr (11, [.ref (q 0), .ref (q 1), .ref (q 2), .ref (q 3), .ref (q 4), .ref (q 5), .ref (q 6), .ref (q 7), .ref (q 8), .ref (q 9), .ref (q 10), .ref (q 11), .ref (q 12), .ref (q 13), .ref (q 14), .int hc, .ref (q 16), .long dr])), (q 7, .inr (7, [.ref (q 33), .ref (q 34), .int (nI dy), .int (nI wn), .int (nI mo), .int mu, .int (nI ke)])), (q 33, .inl (cI, 9, .inl fb)), (q 34, .inl (cI, 9, .inl fw))]) ⟨hx, hb, hml, hown, hts⟩ hl.1 (c_eTape_add_31 l D cI cJ cC cZ cS (q 1) (q 21) t2_7 tb2_8 (nI mo) (by omega) htb2_10) w_5_127 w_2_191 w_2_192 w_1_2 w_2_193 (by decide +kernel) ⟨⟨(Nat.le_of_ble_eq_true rfl), (Nat.le_of_ble_eq_true rfl)⟩, (Nat.le_of_ble_eq_true rfl), (Nat.le_of_ble_eq_true rfl)⟩ hK hP hD hS hA [4, 5] [0, 1, 2, 3] rfl rfl (by decide +kernel) (by decide +kernel) (by decide +kernel) rfl rfl rfl rfl (Nat.le_of_ble_eq_true rfl) dX11_image_54 (fun u H locs hw hP hD hS => ?_)
  obtain ⟨t2_13, tb2_14, ht2_15, htb2_16, hup_17, rfl⟩ := hw
  have hP : va_P D vwCl [(x0, .inr (11, [.ref (q 0), .ref (q 1), .ref (q 2), .ref (q 3), .ref (q 4), .ref (q 5), .ref (q 6), .ref (q 7), .ref (q 8), .ref (q 9), .ref (q 10), .ref (q 11), .ref (q 12), .ref (q 13), .ref (q 14), .int hc, .ref (q 16), .long dr])), (q 7, .inr (7, [.ref (q 33), .ref (q 34), .int (nI dy), .int (nI wn), .int (nI mo), .int mu, .int (nI ke)])), (q 33, .inl (cI, 9, .inl fb)), (q 34, .inl (cI, 9, .inl fw)), (q 1, .inr (10, [.ref (q 21), .int (nI t2_13)])), (q 21, .inl (cI, 31, .inl (fun j => nI (tb2_14 j))))] H := hP
  have hD : va_D A [(x0, .inr (11, [.ref (q 0), .ref (q 1), .ref (q 2), .ref (q 3), .ref (q 4), .ref (q 5), .ref (q 6), .ref (q 7), .ref (q 8), .ref (q 9), .ref (q 10), .ref (q 11), .ref (q 12), .ref (q 13), .ref (q 14), .int hc, .ref (q 16), .long dr])), (q 7, .inr (7, [.ref (q 33), .ref (q 34), .int (nI dy), .int (nI wn), .int (nI mo), .int mu, .int (nI ke)])), (q 33, .inl (cI, 9, .inl fb)), (q 34, .inl (cI, 9, .inl fw)), (q 1, .inr (10, [.ref (q 21), .int (nI t2_13)])), (q 21, .inl (cI, 31, .inl (fun j => nI (tb2_14 j))))] := hD
  have hi_18 : imP (wn, mo, Ba, We, U, ke) (2 + 1) tb2_14 := imP_s hi_12 (hup_17 (by omega)) (by omega) (by rw [lo8_nI (by omega)]; exact rfl)
  refine lv_iconst (v := 0) hx hb dX11_image_57 (by decide) ?_
  refine lv_istore_n (lv' := [(1, .int 0), (0, .ref x0)]) hx hb dX11_image_58 rfl hl (by decide) rfl (fun ls hl => ?_)
  have lp_19 : ∀ (n_20 : Nat) (i : Nat) (zl : Nat) (zb : Nat → Nat) (H : Heap) (locs : List Loc) (ls : Array Slot), dy - i < n_20 → (∀ j, zb j ≤ 255) → (i ≤ dy) → (zl = 3 + 3 * i) → (imP (wn, mo, Ba, We, U, ke) (3 + 3 * i) zb) → va_P D vwCl [(x0, .inr (11, [.ref (q 0), .ref (q 1), .ref (q 2), .ref (q 3), .ref (q 4), .ref (q 5), .ref (q 6), .ref (q 7), .ref (q 8), .ref (q 9), .ref (q 10), .ref (q 11), .ref (q 12), .ref (q 13), .ref (q 14), .int hc, .ref (q 16), .long dr])), (q 7, .inr (7, [.ref (q 33), .ref (q 34), .int (nI dy), .int (nI wn), .int (nI mo), .int mu, .int (nI ke)])), (q 33, .inl (cI, 9, .inl fb)), (q 34, .inl (cI, 9, .inl fw)), (q 1, .inr (10, [.ref (q 21), .int (nI zl)])), (q 21, .inl (cI, 31, .inl (fun j => nI (zb j))))] H → va_D A [(x0, .inr (11, [.ref (q 0), .ref (q 1), .ref (q 2), .ref (q 3), .ref (q 4), .ref (q 5), .ref (q 6), .ref (q 7), .ref (q 8), .ref (q 9), .ref (q 10), .ref (q 11), .ref (q 12), .ref (q 13), .ref (q 14), .int hc, .ref (q 16), .long dr])), (q 7, .inr (7, [.ref (q 33), .ref (q 34), .int (nI dy), .int (nI wn), .int (nI mo), .int mu, .int (nI ke)])), (q 33, .inl (cI, 9, .inl fb)), (q 34, .inl (cI, 9, .inl fw)), (q 1, .inr (10, [.ref (q 21), .int (nI zl)])), (q 21, .inl (cI, 31, .inl (fun j => nI (zb j))))] → va_S A s.heap H locs → lv_has ls 2 [(1, .int (nI i)), (0, .ref x0)] → W p l e { frames := 2, cells := 0, slots := 0, locals := 44 } s m ([.ref x0] : List Value).toArray below meth c H locs 0 0 (MQ below (skI D (skT cI cJ cC cZ cS) (fun (r : Int32) (u : va_W) => ∃ (pl2 : Nat), ∃ (pb2 : Nat → Nat), pl2 = 4 + 3 * dy ∧ (∀ j, pb2 j ≤ 255) ∧ (∀ j, j < 4 + 3 * dy → pb2 j = imgB (wn, mo, Ba, We, U, ke) dy j) ∧ r = nI (4 + 3 * dy) ∧ u = [(x0, .inr (11, [.ref (q 0), .ref (q 1), .ref (q 2), .ref (q 3), .ref (q 4), .ref (q 5), .ref (q 6), .ref (q 7), .ref (q 8), .ref (q 9), .ref (q 10), .ref (q 11), .ref (q 12), .ref (q 13), .ref (q 14), .int hc, .ref (q 16), .long dr])), (q 1, .inr (10, [.ref (q 21), .int (nI pl2)])), (q 21, .inl (cI, 31, .inl (fun j => nI (pb2 j)))), (q 7, .inr (7, [.ref (q 33), .ref (q 34), .int (nI dy), .int (nI wn), .int (nI mo), .int mu, .int (nI ke)])), (q 33, .inl (cI, 9, .inl fb)), (q 34, .inl (cI, 9, .inl fw))]) A) ([.ref x0] : List Value).toArray s 0 0 A) (F0 m 59 ls []) := by
    intro n_20
    induction n_20 with
    | zero => intro i zl zb H locs ls hm; exact absurd hm (Nat.not_lt_zero _)
    | succ n_20 ih_lp_19 =>
      intro i zl zb H locs ls hm hzb hi hzl hip hP hD hS hl
      refine lv_iload_n hx hb dX11_image_59 rfl (lv_at hl 0 rfl) ?_
      refine lv_aload_n hx hb dX11_image_60 rfl (lv_at hl 1 rfl) ?_
      refine sk_get (v := .ref (q 7)) (C := RX11) (T := TX11) (N := 18) hx hb hts inlX11 hown hK hP 0 rfl rfl 7 (by decide) w_2_130 rfl dX11_image_61 ?_
      refine sk_get (v := .int (nI dy)) (C := RX7) (T := TX7) (N := 7) hx hb hts inlX7 hown hK hP 1 rfl rfl 2 (by decide) w_2_1 rfl dX11_image_64 ?_
      refine lv_icmp_ge (tgt := 131) hx hb dX11_image_67 (by decide) (fun c_21 => ?_) (fun c_21 => ?_)
      · have c_21 : dy ≤ i := (nle dy i (by omega) (by omega)).mp c_21
        refine lv_aload_n hx hb dX11_image_131 rfl (lv_at hl 1 rfl) ?_
        refine sk_get (v := .ref (q 1)) (C := RX11) (T := TX11) (N := 18) hx hb hts inlX11 hown hK hP 0 rfl rfl 1 (by decide) w_2_124 rfl dX11_image_132 ?_
        refine lv_aload_n hx hb dX11_image_135 rfl (lv_at hl 1 rfl) ?_
        refine sk_get (v := .ref (q 1)) (C := RX11) (T := TX11) (N := 18) hx hb hts inlX11 hown hK hP 0 rfl rfl 1 (by decide) w_2_124 rfl dX11_image_136 ?_
        refine lv_aload_n hx hb dX11_image_139 rfl (lv_at hl 1 rfl) ?_
        refine sk_get (v := .ref (q 1)) (C := RX11) (T := TX11) (N := 18) hx hb hts inlX11 hown hK hP 0 rfl rfl 1 (by decide) w_2_124 rfl dX11_image_140 ?_
        refine sk_get (v := .int (nI zl)) (C := RX10) (T := TX10) (N := 2) hx hb hts inlX10 hown hK hP 4 rfl rfl 1 (by decide) w_1_42 rfl dX11_image_143 ?_
        refine sk_Vi (q0 := 0) (n := 1) (rest := [.ref (q 1)]) (wr := [(x0, .inr (11, [.ref (q 0), .ref (q 1), .ref (q 2), .ref (q 3), .ref (q 4), .ref (q 5), .ref (q 6), .ref (q 7), .ref (q 8), .ref (q 9), .ref (q 10), .ref (q 11), .ref (q 12), .ref (q 13), .ref (q 14), .int hc, .ref (q 16), .long dr])), (q 7, .inr (7, [.ref (q 33), .ref (q 34), .int (nI dy), .int (nI wn), .int (nI mo), .int mu, .int (nI ke)])), (q 33, .inl (cI, 9, .inl fb)), (q 34, .inl (cI, 9, .inl fw))]) ⟨hx, hb, hml, hown, hts⟩ hl.1 (c_eTape_checkOf_31 l D cI cJ cC cZ cS (q 1) (q 21) zl zb zl (by omega) hzb (by omega)) w_5_128 w_5_129 w_5_130 w_1_2 w_5_131 (by decide +kernel) ⟨⟨(Nat.le_of_ble_eq_true rfl), (Nat.le_of_ble_eq_true rfl)⟩, (Nat.le_of_ble_eq_true rfl), (Nat.le_of_ble_eq_true rfl)⟩ hK hP hD hS hA [4, 5] [0, 1, 2, 3] rfl rfl (by decide +kernel) (by decide +kernel) (by decide +kernel) rfl rfl rfl rfl (Nat.le_of_ble_eq_true rfl) dX11_image_146 (fun r_23 u H locs hw hP hD hS => ?_)
        obtain ⟨ck2_22, hck_24, hck9_25, rfl, rfl⟩ := hw
        have hP : va_P D vwCl [(x0, .inr (11, [.ref (q 0), .ref (q 1), .ref (q 2), .ref (q 3), .ref (q 4), .ref (q 5), .ref (q 6), .ref (q 7), .ref (q 8), .ref (q 9), .ref (q 10), .ref (q 11), .ref (q 12), .ref (q 13), .ref (q 14), .int hc, .ref (q 16), .long dr])), (q 7, .inr (7, [.ref (q 33), .ref (q 34), .int (nI dy), .int (nI wn), .int (nI mo), .int mu, .int (nI ke)])), (q 33, .inl (cI, 9, .inl fb)), (q 34, .inl (cI, 9, .inl fw)), (q 1, .inr (10, [.ref (q 21), .int (nI zl)])), (q 21, .inl (cI, 31, .inl (fun j => nI (zb j))))] H := hP
        have hD : va_D A [(x0, .inr (11, [.ref (q 0), .ref (q 1), .ref (q 2), .ref (q 3), .ref (q 4), .ref (q 5), .ref (q 6), .ref (q 7), .ref (q 8), .ref (q 9), .ref (q 10), .ref (q 11), .ref (q 12), .ref (q 13), .ref (q 14), .int hc, .ref (q 16), .long dr])), (q 7, .inr (7, [.ref (q 33), .ref (q 34), .int (nI dy), .int (nI wn), .int (nI mo), .int mu, .int (nI ke)])), (q 33, .inl (cI, 9, .inl fb)), (q 34, .inl (cI, 9, .inl fw)), (q 1, .inr (10, [.ref (q 21), .int (nI zl)])), (q 21, .inl (cI, 31, .inl (fun j => nI (zb j))))] := hD
        refine sk_Vv (q0 := 0) (n := 1) (rest := []) (wr := [(x0, .inr (11, [.ref (q 0), .ref (q 1), .ref (q 2), .ref (q 3), .ref (q 4), .ref (q 5), .ref (q 6), .ref (q 7), .ref (q 8), .ref (q 9), .ref (q 10), .ref (q 11), .ref (q 12), .ref (q 13), .ref (q 14), .int hc, .ref (q 16), .long dr])), (q 7, .inr (7, [.ref (q 33), .ref (q 34), .int (nI dy), .int (nI wn), .int (nI mo), .int mu, .int (nI ke)])), (q 33, .inl (cI, 9, .inl fb)), (q 34, .inl (cI, 9, .inl fw))]) ⟨hx, hb, hml, hown, hts⟩ hl.1 (c_eTape_add_31 l D cI cJ cC cZ cS (q 1) (q 21) zl zb (nI ck2_22) (by omega) hzb) w_5_127 w_2_191 w_2_192 w_1_2 w_2_193 (by decide +kernel) ⟨⟨(Nat.le_of_ble_eq_true rfl), (Nat.le_of_ble_eq_true rfl)⟩, (Nat.le_of_ble_eq_true rfl), (Nat.le_of_ble_eq_true rfl)⟩ hK hP hD hS hA [4, 5] [0, 1, 2, 3] rfl rfl (by decide +kernel) (by decide +kernel) (by decide +kernel) rfl rfl rfl rfl (Nat.le_of_ble_eq_true rfl) dX11_image_149 (fun u H locs hw hP hD hS => ?_)
        obtain ⟨t2_26, tb2_27, ht2_28, htb2_29, hup_30, rfl⟩ := hw
        have hP : va_P D vwCl [(x0, .inr (11, [.ref (q 0), .ref (q 1), .ref (q 2), .ref (q 3), .ref (q 4), .ref (q 5), .ref (q 6), .ref (q 7), .ref (q 8), .ref (q 9), .ref (q 10), .ref (q 11), .ref (q 12), .ref (q 13), .ref (q 14), .int hc, .ref (q 16), .long dr])), (q 7, .inr (7, [.ref (q 33), .ref (q 34), .int (nI dy), .int (nI wn), .int (nI mo), .int mu, .int (nI ke)])), (q 33, .inl (cI, 9, .inl fb)), (q 34, .inl (cI, 9, .inl fw)), (q 1, .inr (10, [.ref (q 21), .int (nI t2_26)])), (q 21, .inl (cI, 31, .inl (fun j => nI (tb2_27 j))))] H := hP
        have hD : va_D A [(x0, .inr (11, [.ref (q 0), .ref (q 1), .ref (q 2), .ref (q 3), .ref (q 4), .ref (q 5), .ref (q 6), .ref (q 7), .ref (q 8), .ref (q 9), .ref (q 10), .ref (q 11), .ref (q 12), .ref (q 13), .ref (q 14), .int hc, .ref (q 16), .long dr])), (q 7, .inr (7, [.ref (q 33), .ref (q 34), .int (nI dy), .int (nI wn), .int (nI mo), .int mu, .int (nI ke)])), (q 33, .inl (cI, 9, .inl fb)), (q 34, .inl (cI, 9, .inl fw)), (q 1, .inr (10, [.ref (q 21), .int (nI t2_26)])), (q 21, .inl (cI, 31, .inl (fun j => nI (tb2_27 j))))] := hD
        refine lv_aload_n hx hb dX11_image_152 rfl (lv_at hl 1 rfl) ?_
        refine sk_get (v := .ref (q 1)) (C := RX11) (T := TX11) (N := 18) hx hb hts inlX11 hown hK hP 0 rfl rfl 1 (by decide) w_2_124 rfl dX11_image_153 ?_
        refine sk_get (v := .int (nI t2_26)) (C := RX10) (T := TX10) (N := 2) hx hb hts inlX10 hown hK hP 4 rfl rfl 1 (by decide) w_1_42 rfl dX11_image_156 ?_
        have hP := hP.sub (ws' := [(x0, .inr (11, [.ref (q 0), .ref (q 1), .ref (q 2), .ref (q 3), .ref (q 4), .ref (q 5), .ref (q 6), .ref (q 7), .ref (q 8), .ref (q 9), .ref (q 10), .ref (q 11), .ref (q 12), .ref (q 13), .ref (q 14), .int hc, .ref (q 16), .long dr])), (q 1, .inr (10, [.ref (q 21), .int (nI t2_26)])), (q 21, .inl (cI, 31, .inl (fun j => nI (tb2_27 j)))), (q 7, .inr (7, [.ref (q 33), .ref (q 34), .int (nI dy), .int (nI wn), .int (nI mo), .int mu, .int (nI ke)])), (q 33, .inl (cI, 9, .inl fb)), (q 34, .inl (cI, 9, .inl fw))]) [0, 4, 5, 1, 2, 3] rfl
        have hD := hD.sub (ws' := [(x0, .inr (11, [.ref (q 0), .ref (q 1), .ref (q 2), .ref (q 3), .ref (q 4), .ref (q 5), .ref (q 6), .ref (q 7), .ref (q 8), .ref (q 9), .ref (q 10), .ref (q 11), .ref (q 12), .ref (q 13), .ref (q 14), .int hc, .ref (q 16), .long dr])), (q 1, .inr (10, [.ref (q 21), .int (nI t2_26)])), (q 21, .inl (cI, 31, .inl (fun j => nI (tb2_27 j)))), (q 7, .inr (7, [.ref (q 33), .ref (q 34), .int (nI dy), .int (nI wn), .int (nI mo), .int mu, .int (nI ke)])), (q 33, .inl (cI, 9, .inl fb)), (q 34, .inl (cI, 9, .inl fw))]) [0, 4, 5, 1, 2, 3] (by decide +kernel) rfl
        exact sk_iret hx hb hr rfl hlocks hK hP hD hS (⟨t2_26, tb2_27, by omega, htb2_29, imP_e (show imP (wn, mo, Ba, We, U, ke) (3 + 3 * dy) zb by rw [show 3 + 3 * dy = 3 + 3 * i by omega]; exact hip) (by rw [show 3 + 3 * dy = zl by omega]; exact hup_30 (by omega)) (by rw [lo8_nI (by omega), hck_24, show zl = 3 + 3 * dy by omega]), (congrArg nI (by omega)), rfl⟩) (Nat.le_of_ble_eq_true rfl) (Nat.le_of_ble_eq_true rfl) dX11_image_159
      · have c_21 : ¬ (dy ≤ i) := fun h => c_21 ((nle dy i (by omega) (by omega)).mpr h)
        refine lv_aload_n hx hb dX11_image_70 rfl (lv_at hl 1 rfl) ?_
        refine sk_get (v := .ref (q 1)) (C := RX11) (T := TX11) (N := 18) hx hb hts inlX11 hown hK hP 0 rfl rfl 1 (by decide) w_2_124 rfl dX11_image_71 ?_
        refine lv_aload_n hx hb dX11_image_74 rfl (lv_at hl 1 rfl) ?_
        refine sk_get (v := .ref (q 7)) (C := RX11) (T := TX11) (N := 18) hx hb hts inlX11 hown hK hP 0 rfl rfl 7 (by decide) w_2_130 rfl dX11_image_75 ?_
        refine sk_get (v := .ref (q 33)) (C := RX7) (T := TX7) (N := 7) hx hb hts inlX7 hown hK hP 1 rfl rfl 0 (by decide) w_1_232 rfl dX11_image_78 ?_
        refine lv_iload_n hx hb dX11_image_81 rfl (lv_at hl 0 rfl) ?_
        refine va_iald hx hb hK.1 hP 2 0 rfl rfl (vin i 9 (by omega) (by omega)) dX11_image_82 ?_
        have hB_ := hB9 i
        refine sk_top (nI (Ba i)) (by rw [nI_clamp (by omega)]; exact hfb i (by omega)) ?_
        refine sk_Vv (q0 := 0) (n := 1) (rest := []) (wr := [(x0, .inr (11, [.ref (q 0), .ref (q 1), .ref (q 2), .ref (q 3), .ref (q 4), .ref (q 5), .ref (q 6), .ref (q 7), .ref (q 8), .ref (q 9), .ref (q 10), .ref (q 11), .ref (q 12), .ref (q 13), .ref (q 14), .int hc, .ref (q 16), .long dr])), (q 7, .inr (7, [.ref (q 33), .ref (q 34), .int (nI dy), .int (nI wn), .int (nI mo), .int mu, .int (nI ke)])), (q 33, .inl (cI, 9, .inl fb)), (q 34, .inl (cI, 9, .inl fw))]) ⟨hx, hb, hml, hown, hts⟩ hl.1 (c_eTape_add_31 l D cI cJ cC cZ cS (q 1) (q 21) zl zb (nI (Ba i)) (by omega) hzb) w_5_127 w_2_191 w_2_192 w_1_2 w_2_193 (by decide +kernel) ⟨⟨(Nat.le_of_ble_eq_true rfl), (Nat.le_of_ble_eq_true rfl)⟩, (Nat.le_of_ble_eq_true rfl), (Nat.le_of_ble_eq_true rfl)⟩ hK hP hD hS hA [4, 5] [0, 1, 2, 3] rfl rfl (by decide +kernel) (by decide +kernel) (by decide +kernel) rfl rfl rfl rfl (Nat.le_of_ble_eq_true rfl) dX11_image_83 (fun u H locs hw hP hD hS => ?_)
        obtain ⟨t2_31, tb2_32, ht2_33, htb2_34, hup_35, rfl⟩ := hw
        have hP : va_P D vwCl [(x0, .inr (11, [.ref (q 0), .ref (q 1), .ref (q 2), .ref (q 3), .ref (q 4), .ref (q 5), .ref (q 6), .ref (q 7), .ref (q 8), .ref (q 9), .ref (q 10), .ref (q 11), .ref (q 12), .ref (q 13), .ref (q 14), .int hc, .ref (q 16), .long dr])), (q 7, .inr (7, [.ref (q 33), .ref (q 34), .int (nI dy), .int (nI wn), .int (nI mo), .int mu, .int (nI ke)])), (q 33, .inl (cI, 9, .inl fb)), (q 34, .inl (cI, 9, .inl fw)), (q 1, .inr (10, [.ref (q 21), .int (nI t2_31)])), (q 21, .inl (cI, 31, .inl (fun j => nI (tb2_32 j))))] H := hP
        have hD : va_D A [(x0, .inr (11, [.ref (q 0), .ref (q 1), .ref (q 2), .ref (q 3), .ref (q 4), .ref (q 5), .ref (q 6), .ref (q 7), .ref (q 8), .ref (q 9), .ref (q 10), .ref (q 11), .ref (q 12), .ref (q 13), .ref (q 14), .int hc, .ref (q 16), .long dr])), (q 7, .inr (7, [.ref (q 33), .ref (q 34), .int (nI dy), .int (nI wn), .int (nI mo), .int mu, .int (nI ke)])), (q 33, .inl (cI, 9, .inl fb)), (q 34, .inl (cI, 9, .inl fw)), (q 1, .inr (10, [.ref (q 21), .int (nI t2_31)])), (q 21, .inl (cI, 31, .inl (fun j => nI (tb2_32 j))))] := hD
        have hi_36 : imP (wn, mo, Ba, We, U, ke) (3 + 3 * i + 1) tb2_32 := imP_s hip (hup_35 (by omega)) (by omega) (by rw [lo8_nI (by omega)]; exact (imgA_b (wn, mo, Ba, We, U, ke) i).symm)
        refine lv_aload_n hx hb dX11_image_86 rfl (lv_at hl 1 rfl) ?_
        refine sk_get (v := .ref (q 1)) (C := RX11) (T := TX11) (N := 18) hx hb hts inlX11 hown hK hP 0 rfl rfl 1 (by decide) w_2_124 rfl dX11_image_87 ?_
        refine lv_aload_n hx hb dX11_image_90 rfl (lv_at hl 1 rfl) ?_
        refine sk_get (v := .ref (q 7)) (C := RX11) (T := TX11) (N := 18) hx hb hts inlX11 hown hK hP 0 rfl rfl 7 (by decide) w_2_130 rfl dX11_image_91 ?_
        refine sk_get (v := .ref (q 34)) (C := RX7) (T := TX7) (N := 7) hx hb hts inlX7 hown hK hP 1 rfl rfl 1 (by decide) w_1_236 rfl dX11_image_94 ?_
        refine lv_iload_n hx hb dX11_image_97 rfl (lv_at hl 0 rfl) ?_
        refine va_iald hx hb hK.1 hP 3 0 rfl rfl (vin i 9 (by omega) (by omega)) dX11_image_98 ?_
        have hW_ := hW9 i
        refine sk_top (nI (We i)) (by rw [nI_clamp (by omega)]; exact hfw i (by omega)) ?_
        refine sk_Vv (q0 := 0) (n := 1) (rest := []) (wr := [(x0, .inr (11, [.ref (q 0), .ref (q 1), .ref (q 2), .ref (q 3), .ref (q 4), .ref (q 5), .ref (q 6), .ref (q 7), .ref (q 8), .ref (q 9), .ref (q 10), .ref (q 11), .ref (q 12), .ref (q 13), .ref (q 14), .int hc, .ref (q 16), .long dr])), (q 7, .inr (7, [.ref (q 33), .ref (q 34), .int (nI dy), .int (nI wn), .int (nI mo), .int mu, .int (nI ke)])), (q 33, .inl (cI, 9, .inl fb)), (q 34, .inl (cI, 9, .inl fw))]) ⟨hx, hb, hml, hown, hts⟩ hl.1 (c_eTape_add_31 l D cI cJ cC cZ cS (q 1) (q 21) t2_31 tb2_32 (nI (We i)) (by omega) htb2_34) w_5_127 w_2_191 w_2_192 w_1_2 w_2_193 (by decide +kernel) ⟨⟨(Nat.le_of_ble_eq_true rfl), (Nat.le_of_ble_eq_true rfl)⟩, (Nat.le_of_ble_eq_true rfl), (Nat.le_of_ble_eq_true rfl)⟩ hK hP hD hS hA [4, 5] [0, 1, 2, 3] rfl rfl (by decide +kernel) (by decide +kernel) (by decide +kernel) rfl rfl rfl rfl (Nat.le_of_ble_eq_true rfl) dX11_image_99 (fun u H locs hw hP hD hS => ?_)
        obtain ⟨t2_37, tb2_38, ht2_39, htb2_40, hup_41, rfl⟩ := hw
        have hP : va_P D vwCl [(x0, .inr (11, [.ref (q 0), .ref (q 1), .ref (q 2), .ref (q 3), .ref (q 4), .ref (q 5), .ref (q 6), .ref (q 7), .ref (q 8), .ref (q 9), .ref (q 10), .ref (q 11), .ref (q 12), .ref (q 13), .ref (q 14), .int hc, .ref (q 16), .long dr])), (q 7, .inr (7, [.ref (q 33), .ref (q 34), .int (nI dy), .int (nI wn), .int (nI mo), .int mu, .int (nI ke)])), (q 33, .inl (cI, 9, .inl fb)), (q 34, .inl (cI, 9, .inl fw)), (q 1, .inr (10, [.ref (q 21), .int (nI t2_37)])), (q 21, .inl (cI, 31, .inl (fun j => nI (tb2_38 j))))] H := hP
        have hD : va_D A [(x0, .inr (11, [.ref (q 0), .ref (q 1), .ref (q 2), .ref (q 3), .ref (q 4), .ref (q 5), .ref (q 6), .ref (q 7), .ref (q 8), .ref (q 9), .ref (q 10), .ref (q 11), .ref (q 12), .ref (q 13), .ref (q 14), .int hc, .ref (q 16), .long dr])), (q 7, .inr (7, [.ref (q 33), .ref (q 34), .int (nI dy), .int (nI wn), .int (nI mo), .int mu, .int (nI ke)])), (q 33, .inl (cI, 9, .inl fb)), (q 34, .inl (cI, 9, .inl fw)), (q 1, .inr (10, [.ref (q 21), .int (nI t2_37)])), (q 21, .inl (cI, 31, .inl (fun j => nI (tb2_38 j))))] := hD
        have hi_42 : imP (wn, mo, Ba, We, U, ke) (3 + 3 * i + 1 + 1) tb2_38 := imP_s hi_36 (hup_41 (by omega)) (by omega) (by rw [lo8_nI (by omega)]; exact (imgA_w (wn, mo, Ba, We, U, ke) i).symm)
        have jn_43 : ∀ (bq : Nat) (H : Heap) (locs : List Loc) (ls : Array Slot), (bq ≤ 1) → ((bq = 1 ∧ U i = true) ∨ (bq = 0 ∧ ¬ U i = true)) → va_P D vwCl [(x0, .inr (11, [.ref (q 0), .ref (q 1), .ref (q 2), .ref (q 3), .ref (q 4), .ref (q 5), .ref (q 6), .ref (q 7), .ref (q 8), .ref (q 9), .ref (q 10), .ref (q 11), .ref (q 12), .ref (q 13), .ref (q 14), .int hc, .ref (q 16), .long dr])), (q 7, .inr (7, [.ref (q 33), .ref (q 34), .int (nI dy), .int (nI wn), .int (nI mo), .int mu, .int (nI ke)])), (q 33, .inl (cI, 9, .inl fb)), (q 34, .inl (cI, 9, .inl fw)), (q 1, .inr (10, [.ref (q 21), .int (nI t2_37)])), (q 21, .inl (cI, 31, .inl (fun j => nI (tb2_38 j))))] H → va_D A [(x0, .inr (11, [.ref (q 0), .ref (q 1), .ref (q 2), .ref (q 3), .ref (q 4), .ref (q 5), .ref (q 6), .ref (q 7), .ref (q 8), .ref (q 9), .ref (q 10), .ref (q 11), .ref (q 12), .ref (q 13), .ref (q 14), .int hc, .ref (q 16), .long dr])), (q 7, .inr (7, [.ref (q 33), .ref (q 34), .int (nI dy), .int (nI wn), .int (nI mo), .int mu, .int (nI ke)])), (q 33, .inl (cI, 9, .inl fb)), (q 34, .inl (cI, 9, .inl fw)), (q 1, .inr (10, [.ref (q 21), .int (nI t2_37)])), (q 21, .inl (cI, 31, .inl (fun j => nI (tb2_38 j))))] → va_S A s.heap H locs → lv_has ls 2 [(1, .int (nI i)), (0, .ref x0)] → W p l e { frames := 2, cells := 0, slots := 0, locals := 44 } s m ([.ref x0] : List Value).toArray below meth c H locs 0 0 (MQ below (skI D (skT cI cJ cC cZ cS) (fun (r : Int32) (u : va_W) => ∃ (pl2 : Nat), ∃ (pb2 : Nat → Nat), pl2 = 4 + 3 * dy ∧ (∀ j, pb2 j ≤ 255) ∧ (∀ j, j < 4 + 3 * dy → pb2 j = imgB (wn, mo, Ba, We, U, ke) dy j) ∧ r = nI (4 + 3 * dy) ∧ u = [(x0, .inr (11, [.ref (q 0), .ref (q 1), .ref (q 2), .ref (q 3), .ref (q 4), .ref (q 5), .ref (q 6), .ref (q 7), .ref (q 8), .ref (q 9), .ref (q 10), .ref (q 11), .ref (q 12), .ref (q 13), .ref (q 14), .int hc, .ref (q 16), .long dr])), (q 1, .inr (10, [.ref (q 21), .int (nI pl2)])), (q 21, .inl (cI, 31, .inl (fun j => nI (pb2 j)))), (q 7, .inr (7, [.ref (q 33), .ref (q 34), .int (nI dy), .int (nI wn), .int (nI mo), .int mu, .int (nI ke)])), (q 33, .inl (cI, 9, .inl fb)), (q 34, .inl (cI, 9, .inl fw))]) A) ([.ref x0] : List Value).toArray s 0 0 A) (F0 m 122 ls [.int (nI bq), .ref (q 1)]) := by
          intro bq H locs ls hbq1 hbq hP hD hS hl
          refine sk_Vv (q0 := 0) (n := 1) (rest := []) (wr := [(x0, .inr (11, [.ref (q 0), .ref (q 1), .ref (q 2), .ref (q 3), .ref (q 4), .ref (q 5), .ref (q 6), .ref (q 7), .ref (q 8), .ref (q 9), .ref (q 10), .ref (q 11), .ref (q 12), .ref (q 13), .ref (q 14), .int hc, .ref (q 16), .long dr])), (q 7, .inr (7, [.ref (q 33), .ref (q 34), .int (nI dy), .int (nI wn), .int (nI mo), .int mu, .int (nI ke)])), (q 33, .inl (cI, 9, .inl fb)), (q 34, .inl (cI, 9, .inl fw))]) ⟨hx, hb, hml, hown, hts⟩ hl.1 (c_eTape_add_31 l D cI cJ cC cZ cS (q 1) (q 21) t2_37 tb2_38 (nI bq) (by omega) htb2_40) w_5_127 w_2_191 w_2_192 w_1_2 w_2_193 (by decide +kernel) ⟨⟨(Nat.le_of_ble_eq_true rfl), (Nat.le_of_ble_eq_true rfl)⟩, (Nat.le_of_ble_eq_true rfl), (Nat.le_of_ble_eq_true rfl)⟩ hK hP hD hS hA [4, 5] [0, 1, 2, 3] rfl rfl (by decide +kernel) (by decide +kernel) (by decide +kernel) rfl rfl rfl rfl (Nat.le_of_ble_eq_true rfl) dX11_image_122 (fun u H locs hw hP hD hS => ?_)
          obtain ⟨t2_44, tb2_45, ht2_46, htb2_47, hup_48, rfl⟩ := hw
          have hP : va_P D vwCl [(x0, .inr (11, [.ref (q 0), .ref (q 1), .ref (q 2), .ref (q 3), .ref (q 4), .ref (q 5), .ref (q 6), .ref (q 7), .ref (q 8), .ref (q 9), .ref (q 10), .ref (q 11), .ref (q 12), .ref (q 13), .ref (q 14), .int hc, .ref (q 16), .long dr])), (q 7, .inr (7, [.ref (q 33), .ref (q 34), .int (nI dy), .int (nI wn), .int (nI mo), .int mu, .int (nI ke)])), (q 33, .inl (cI, 9, .inl fb)), (q 34, .inl (cI, 9, .inl fw)), (q 1, .inr (10, [.ref (q 21), .int (nI t2_44)])), (q 21, .inl (cI, 31, .inl (fun j => nI (tb2_45 j))))] H := hP
          have hD : va_D A [(x0, .inr (11, [.ref (q 0), .ref (q 1), .ref (q 2), .ref (q 3), .ref (q 4), .ref (q 5), .ref (q 6), .ref (q 7), .ref (q 8), .ref (q 9), .ref (q 10), .ref (q 11), .ref (q 12), .ref (q 13), .ref (q 14), .int hc, .ref (q 16), .long dr])), (q 7, .inr (7, [.ref (q 33), .ref (q 34), .int (nI dy), .int (nI wn), .int (nI mo), .int mu, .int (nI ke)])), (q 33, .inl (cI, 9, .inl fb)), (q 34, .inl (cI, 9, .inl fw)), (q 1, .inr (10, [.ref (q 21), .int (nI t2_44)])), (q 21, .inl (cI, 31, .inl (fun j => nI (tb2_45 j))))] := hD
          have hi_49 : imP (wn, mo, Ba, We, U, ke) (3 + 3 * i + 2 + 1) tb2_45 := imP_s hi_42 (hup_48 (by omega)) (by omega) (by rw [lo8_nI (by omega)]; exact im_bq hbq)
          refine lv_iinc (v := nI (i + 1)) (lv' := [(1, .int (nI (i + 1))), (0, .ref x0)]) hx hb dX11_image_125 hl (k := 0) rfl (ninc i 1 (by decide)) (by decide) rfl (fun ls hl => ?_)
          refine lv_goto (tgt := 59) hx hb dX11_image_128 (by decide) ?_
          exact ih_lp_19 (i + 1) t2_44 tb2_45 _ _ _ (by omega) htb2_47 (by omega) (by omega) (by rw [show 3 + 3 * (i + 1) = 3 + 3 * i + 2 + 1 by omega]; exact hi_49) hP hD hS (lv_sub hl [0, 1] rfl)
        refine lv_aload_n hx hb dX11_image_102 rfl (lv_at hl 1 rfl) ?_
        refine sk_get (v := .ref (q 1)) (C := RX11) (T := TX11) (N := 18) hx hb hts inlX11 hown hK hP 0 rfl rfl 1 (by decide) w_2_124 rfl dX11_image_103 ?_
        refine lv_aload_n hx hb dX11_image_106 rfl (lv_at hl 1 rfl) ?_
        refine sk_get (v := .ref (q 7)) (C := RX11) (T := TX11) (N := 18) hx hb hts inlX11 hown hK hP 0 rfl rfl 7 (by decide) w_2_130 rfl dX11_image_107 ?_
        refine lv_iload_n hx hb dX11_image_110 rfl (lv_at hl 0 rfl) ?_
        refine sk_Vi (q0 := 0) (n := 1) (rest := [.ref (q 1)]) (wr := [(x0, .inr (11, [.ref (q 0), .ref (q 1), .ref (q 2), .ref (q 3), .ref (q 4), .ref (q 5), .ref (q 6), .ref (q 7), .ref (q 8), .ref (q 9), .ref (q 10), .ref (q 11), .ref (q 12), .ref (q 13), .ref (q 14), .int hc, .ref (q 16), .long dr])), (q 33, .inl (cI, 9, .inl fb)), (q 34, .inl (cI, 9, .inl fw)), (q 1, .inr (10, [.ref (q 21), .int (nI t2_37)])), (q 21, .inl (cI, 31, .inl (fun j => nI (tb2_38 j))))]) ⟨hx, hb, hml, hown, hts⟩ hl.1 (c_kState_isMute l D cI cJ cC cZ cS (q 7) (q 33) (q 34) dy mo (nI wn) mu (nI ke) i U (by omega) hU) w_3_194 w_3_195 w_3_196 w_1_10 w_3_197 (by decide +kernel) ⟨⟨(Nat.le_of_ble_eq_true rfl), (Nat.le_of_ble_eq_true rfl)⟩, (Nat.le_of_ble_eq_true rfl), (Nat.le_of_ble_eq_true rfl)⟩ hK hP hD hS hA [1] [0, 2, 3, 4, 5] rfl rfl (by decide +kernel) (by decide +kernel) (by decide +kernel) rfl rfl rfl rfl (Nat.le_of_ble_eq_true rfl) dX11_image_111 (fun r_51 u H locs hw hP hD hS => ?_)
        obtain ⟨b_50, hb1_52, rfl, rfl⟩ := hw
        have hP : va_P D vwCl [(x0, .inr (11, [.ref (q 0), .ref (q 1), .ref (q 2), .ref (q 3), .ref (q 4), .ref (q 5), .ref (q 6), .ref (q 7), .ref (q 8), .ref (q 9), .ref (q 10), .ref (q 11), .ref (q 12), .ref (q 13), .ref (q 14), .int hc, .ref (q 16), .long dr])), (q 33, .inl (cI, 9, .inl fb)), (q 34, .inl (cI, 9, .inl fw)), (q 1, .inr (10, [.ref (q 21), .int (nI t2_37)])), (q 21, .inl (cI, 31, .inl (fun j => nI (tb2_38 j)))), (q 7, .inr (7, [.ref (q 33), .ref (q 34), .int (nI dy), .int (nI wn), .int (nI mo), .int mu, .int (nI ke)]))] H := hP
        have hD : va_D A [(x0, .inr (11, [.ref (q 0), .ref (q 1), .ref (q 2), .ref (q 3), .ref (q 4), .ref (q 5), .ref (q 6), .ref (q 7), .ref (q 8), .ref (q 9), .ref (q 10), .ref (q 11), .ref (q 12), .ref (q 13), .ref (q 14), .int hc, .ref (q 16), .long dr])), (q 33, .inl (cI, 9, .inl fb)), (q 34, .inl (cI, 9, .inl fw)), (q 1, .inr (10, [.ref (q 21), .int (nI t2_37)])), (q 21, .inl (cI, 31, .inl (fun j => nI (tb2_38 j)))), (q 7, .inr (7, [.ref (q 33), .ref (q 34), .int (nI dy), .int (nI wn), .int (nI mo), .int mu, .int (nI ke)]))] := hD
        refine lv_if_eq (tgt := 121) hx hb dX11_image_114 (by decide) (fun c_53 => ?_) (fun c_53 => ?_)
        · have c_53 : b_50 = 0 := (neq b_50 0 (by omega) (by omega)).mp c_53
          refine lv_iconst (v := 0) hx hb dX11_image_121 (by decide) ?_
          have hP := hP.sub (ws' := [(x0, .inr (11, [.ref (q 0), .ref (q 1), .ref (q 2), .ref (q 3), .ref (q 4), .ref (q 5), .ref (q 6), .ref (q 7), .ref (q 8), .ref (q 9), .ref (q 10), .ref (q 11), .ref (q 12), .ref (q 13), .ref (q 14), .int hc, .ref (q 16), .long dr])), (q 7, .inr (7, [.ref (q 33), .ref (q 34), .int (nI dy), .int (nI wn), .int (nI mo), .int mu, .int (nI ke)])), (q 33, .inl (cI, 9, .inl fb)), (q 34, .inl (cI, 9, .inl fw)), (q 1, .inr (10, [.ref (q 21), .int (nI t2_37)])), (q 21, .inl (cI, 31, .inl (fun j => nI (tb2_38 j))))]) [0, 5, 1, 2, 3, 4] rfl
          have hD := hD.sub (ws' := [(x0, .inr (11, [.ref (q 0), .ref (q 1), .ref (q 2), .ref (q 3), .ref (q 4), .ref (q 5), .ref (q 6), .ref (q 7), .ref (q 8), .ref (q 9), .ref (q 10), .ref (q 11), .ref (q 12), .ref (q 13), .ref (q 14), .int hc, .ref (q 16), .long dr])), (q 7, .inr (7, [.ref (q 33), .ref (q 34), .int (nI dy), .int (nI wn), .int (nI mo), .int mu, .int (nI ke)])), (q 33, .inl (cI, 9, .inl fb)), (q 34, .inl (cI, 9, .inl fw)), (q 1, .inr (10, [.ref (q 21), .int (nI t2_37)])), (q 21, .inl (cI, 31, .inl (fun j => nI (tb2_38 j))))]) [0, 5, 1, 2, 3, 4] (by decide +kernel) rfl
          exact jn_43 0 _ _ _ (by omega) (Or.inr ⟨rfl, km_0 hb1_52 (by omega)⟩) hP hD hS (lv_sub hl [0, 1] rfl)
        · have c_53 : ¬ (b_50 = 0) := fun h => c_53 ((neq b_50 0 (by omega) (by omega)).mpr h)
          refine lv_iconst (v := 1) hx hb dX11_image_117 (by decide) ?_
          refine lv_goto (tgt := 122) hx hb dX11_image_118 (by decide) ?_
          have hP := hP.sub (ws' := [(x0, .inr (11, [.ref (q 0), .ref (q 1), .ref (q 2), .ref (q 3), .ref (q 4), .ref (q 5), .ref (q 6), .ref (q 7), .ref (q 8), .ref (q 9), .ref (q 10), .ref (q 11), .ref (q 12), .ref (q 13), .ref (q 14), .int hc, .ref (q 16), .long dr])), (q 7, .inr (7, [.ref (q 33), .ref (q 34), .int (nI dy), .int (nI wn), .int (nI mo), .int mu, .int (nI ke)])), (q 33, .inl (cI, 9, .inl fb)), (q 34, .inl (cI, 9, .inl fw)), (q 1, .inr (10, [.ref (q 21), .int (nI t2_37)])), (q 21, .inl (cI, 31, .inl (fun j => nI (tb2_38 j))))]) [0, 5, 1, 2, 3, 4] rfl
          have hD := hD.sub (ws' := [(x0, .inr (11, [.ref (q 0), .ref (q 1), .ref (q 2), .ref (q 3), .ref (q 4), .ref (q 5), .ref (q 6), .ref (q 7), .ref (q 8), .ref (q 9), .ref (q 10), .ref (q 11), .ref (q 12), .ref (q 13), .ref (q 14), .int hc, .ref (q 16), .long dr])), (q 7, .inr (7, [.ref (q 33), .ref (q 34), .int (nI dy), .int (nI wn), .int (nI mo), .int mu, .int (nI ke)])), (q 33, .inl (cI, 9, .inl fb)), (q 34, .inl (cI, 9, .inl fw)), (q 1, .inr (10, [.ref (q 21), .int (nI t2_37)])), (q 21, .inl (cI, 31, .inl (fun j => nI (tb2_38 j))))]) [0, 5, 1, 2, 3, 4] (by decide +kernel) rfl
          exact jn_43 1 _ _ _ (by omega) (Or.inl ⟨rfl, km_1 hb1_52 (by omega)⟩) hP hD hS (lv_sub hl [0, 1] rfl)
  exact lp_19 (dy - 0 + 1) 0 t2_13 tb2_14 _ _ _ (Nat.lt_succ_self _) htb2_16 (by omega) (by omega) (show imP (wn, mo, Ba, We, U, ke) (2 + 1) _ from hi_18) hP hD hS (lv_sub hl [0, 1] rfl)
