/-! images -/
def imgD (n : KN) (k : Nat) : Nat := if k % 3 = 0 then nBa n (k / 3) else if k % 3 = 1 then nWe n (k / 3) else (if nMu n (k / 3) = true then 1 else 0)
def imgA (n : KN) (k : Nat) : Nat := if k = 0 then nWk n / 256 else if k = 1 then nWk n % 256 else if k = 2 then nMo n else imgD n (k - 3)
def imgB (n : KN) (dy k : Nat) : Nat := if k = 3 + 3 * dy then chkN (imgA n) (3 + 3 * dy) else imgA n k
def octR (pn : Nat) (pB : Nat → Nat) (k r : Int32) : Prop := kR (fun x : Nat => x < pn ∧ k = nI x) (r = -1) (fun x => r = nI (pB x))
theorem octR_eq {pn : Nat} {pB : Nat → Nat} {k r q : Int32} (h9 : pn ≤ 31) (h1 : octR pn pB k r) (h2 : octR pn pB k q) : r = q := kR_eq h1 h2 (fun x y a b => kIe a.2 b.2 (by omega) (by omega)) (fun a b => a.trans b.symm) (fun _ a b => a.trans b.symm)
def imgN (tb : Nat → Nat) (dy : Nat) (n : KN) : KN := (tb 0 * 256 + tb 1, tb 2, fun d => if d < dy then tb (3 * d + 3) else nBa n d, fun d => if d < dy then tb (3 * d + 4) else nWe n d, fun d => if d < dy then decide (tb (3 * d + 5) = 1) else false, 0)
def onR (dy : Nat) (tb : Nat → Nat) (t : Nat) (n : KN) (ac : Nat) (rf : Nat → Int32) (r : Int32) (n2 : KN) (ac2 : Nat) (rf2 : Nat → Int32) : Prop :=
  kB (1 ≤ dy ∧ imgO tb t dy) (r = 1 ∧ n2 = imgN tb dy n ∧ ac2 = 0 ∧ rf2 = rf) (r = 0 ∧ n2 = n ∧ ac2 = ac ∧ rf2 = upd rf 5 (rf 5 + 1))
theorem onR_eq {dy : Nat} {tb : Nat → Nat} {t : Nat} {n : KN} {ac : Nat} {rf : Nat → Int32} {r q : Int32} {n2 n3 : KN} {ac2 ac3 : Nat} {rf2 rf3 : Nat → Int32} (h1 : onR dy tb t n ac rf r n2 ac2 rf2) (h2 : onR dy tb t n ac rf q n3 ac3 rf3) : r = q ∧ n2 = n3 ∧ ac2 = ac3 ∧ rf2 = rf3 :=
  kB_eq h1 h2 (fun a b => ⟨a.1.trans b.1.symm, a.2.1.trans b.2.1.symm, a.2.2.1.trans b.2.2.1.symm, a.2.2.2.trans b.2.2.2.symm⟩) (fun a b => ⟨a.1.trans b.1.symm, a.2.1.trans b.2.1.symm, a.2.2.1.trans b.2.2.1.symm, a.2.2.2.trans b.2.2.2.symm⟩)
theorem onR_ok {dy : Nat} {tb : Nat → Nat} {t : Nat} {n : KN} {ac : Nat} {su : Nat → KN} {rf : Nat → Int32} {r : Int32} {n2 : KN} {ac2 : Nat} {rf2 : Nat → Int32} (h : onR dy tb t n ac rf r n2 ac2 rf2) (hk : sOk dy n ac su) : sOk dy n2 ac2 su := by
  rcases h with ⟨⟨c1, i1, i2, i3, i4⟩, -, rfl, rfl, -⟩ | ⟨-, -, rfl, rfl, -⟩
  · obtain ⟨b1, b2, b3, b4, b5, b6⟩ := hk.1
    refine sOk_none ⟨i3, (i4 2 (by omega) (by omega)).1, fun j => ?_, fun j => ?_, fun j hj => ?_, Nat.zero_le _⟩
    · show (if j < dy then tb (3 * j + 3) else nBa n j) ≤ 9
      by_cases e : j < dy
      · rw [if_pos e]; exact (i4 _ (by omega) (by omega)).1
      · rw [if_neg e]; exact b3 j
    · show (if j < dy then tb (3 * j + 4) else nWe n j) ≤ 9
      by_cases e : j < dy
      · rw [if_pos e]; exact (i4 _ (by omega) (by omega)).1
      · rw [if_neg e]; exact b4 j
    · have hj2 : (if j < dy then decide (tb (3 * j + 5) = 1) else false) = true := hj
      by_cases e : j < dy
      · exact e
      · rw [if_neg e] at hj2; cases hj2
  · exact hk
theorem chkN_cg {f g : Nat → Nat} : ∀ k, (∀ j, j < k → f j = g j) → chkN f k = chkN g k
  | 0, _ => rfl
  | k + 1, h => by
    show (3 * chkN f k + f k) % 251 = (3 * chkN g k + g k) % 251
    rw [chkN_cg k (fun j hj => h j (by omega)), h k (by omega)]
theorem imgA_b (n : KN) (i : Nat) : imgA n (3 + 3 * i) = nBa n i := by
  unfold imgA imgD
  rw [if_neg (by omega), if_neg (by omega), if_neg (by omega), show 3 + 3 * i - 3 = 3 * i by omega, if_pos (by omega), show 3 * i / 3 = i by omega]
theorem imgA_w (n : KN) (i : Nat) : imgA n (3 + 3 * i + 1) = nWe n i := by
  unfold imgA imgD
  rw [if_neg (by omega), if_neg (by omega), if_neg (by omega), show 3 + 3 * i + 1 - 3 = 3 * i + 1 by omega, if_neg (by omega), if_pos (by omega), show (3 * i + 1) / 3 = i by omega]
theorem imgA_m (n : KN) (i : Nat) : imgA n (3 + 3 * i + 2) = if nMu n i = true then 1 else 0 := by
  unfold imgA imgD
  rw [if_neg (by omega), if_neg (by omega), if_neg (by omega), show 3 + 3 * i + 2 - 3 = 3 * i + 2 by omega, if_neg (by omega), if_neg (by omega), show (3 * i + 2) / 3 = i by omega]
def imP (n : KN) (l : Nat) (pb : Nat → Nat) : Prop := ∀ j, j < l → pb j = imgA n j
theorem imP_0 (n : KN) (pb : Nat → Nat) : imP n 0 pb := fun j hj => absurd hj (Nat.not_lt_zero j)
theorem imP_s {n : KN} {l k v : Nat} {pb qb : Nat → Nat} (h : imP n l pb) (e : qb = updN pb k v) (hk : k = l) (hv : v = imgA n l) : imP n (l + 1) qb := fun j hj => by
  subst hk
  by_cases q : j = k
  · rw [q, kun_s e, hv]
  · rw [kun_n e q]; exact h j (by omega)
theorem imP_e {n : KN} {dy v : Nat} {pb qb : Nat → Nat} (h : imP n (3 + 3 * dy) pb) (e : qb = updN pb (3 + 3 * dy) v) (hv : v = chkN pb (3 + 3 * dy)) : ∀ j, j < 4 + 3 * dy → qb j = imgB n dy j := fun j hj => by
  unfold imgB
  by_cases q : j = 3 + 3 * dy
  · rw [if_pos q, q, kun_s e, hv]
    exact chkN_cg _ h
  · rw [if_neg q, kun_n e q]; exact h j (by omega)
theorem kw_hi {w : Nat} (h : w ≤ 999) : nI w >>> ((8 : Int32) &&& 31) = nI (w / 256) := by
  exact pk_shrN (by omega) _ 8 (by decide)
theorem kw_lo {w : Nat} (h : w ≤ 999) : nI w &&& 255 = nI (w % 256) := by
  exact pk_andN (by omega) 8 (by decide)
/-! an image is told -/
def onB (tb B : Nat → Nat) (o i : Nat) : Nat → Nat := fun d => if d < i then tb (3 * d + o) else B d
def onU (tb : Nat → Nat) (i : Nat) : Nat → Bool := fun d => if d < i then decide (tb (3 * d + 5) = 1) else false
theorem onB_0 {tb B : Nat → Nat} {o : Nat} {f : Nat → Int32} (h : ∀ j, j < 9 → f j = nI (B j)) : ∀ j, j < 9 → f j = nI (onB tb B o 0 j) := fun j hj => by
  unfold onB; rw [if_neg (by omega)]; exact h j hj
theorem onB_s {tb B : Nat → Nat} {o i : Nat} {f g : Nat → Int32} (h : ∀ j, j < 9 → f j = nI (onB tb B o i j)) (e : g = upd f i (nI (tb (3 * i + o)))) : ∀ j, j < 9 → g j = nI (onB tb B o (i + 1) j) := fun j hj => by
  by_cases q : j = i
  · subst q; rw [kui_s e]; unfold onB; rw [if_pos (by omega)]
  · rw [kui_n e q, h j hj]
    unfold onB
    by_cases c : j < i
    · rw [if_pos c, if_pos (by omega)]
    · rw [if_neg c, if_neg (by omega)]
theorem muO_cg {U V : Nat → Bool} {u : Int32} (h : muO U u) (e : ∀ j, j < 9 → V j = U j) : muO V u := by
  obtain ⟨m, h1, h2, h3⟩ := h
  exact ⟨m, h1, h2, fun d hd => by rw [h3 d hd, e d hd]⟩
theorem onU_0 (tb : Nat → Nat) : muO (onU tb 0) 0 := muO_cg muO_0 (fun j _ => by unfold onU; rw [if_neg (by omega)])
theorem onU_s {tb : Nat → Nat} {i : Nat} {u : Int32} (h : muO (onU tb i) u) (hi : i < 9) (ht : tb (3 * i + 5) ≤ 1) : muO (onU tb (i + 1)) (u ||| (nI (tb (3 * i + 5)) <<< (nI i &&& 31))) := by
  rcases (show tb (3 * i + 5) = 0 ∨ tb (3 * i + 5) = 1 by omega) with q | q
  · rw [q]
    have e0 : nI 0 <<< (nI i &&& 31) = 0 := by
      have h1 : ∀ i, i < 9 → nI 0 <<< (nI i &&& 31) = 0 := by decide +kernel
      exact h1 i hi
    rw [e0, Int32.or_zero]
    refine muO_cg h (fun j hj => ?_)
    unfold onU
    by_cases c : j = i
    · subst c; rw [if_pos (by omega), if_neg (by omega), q]; rfl
    · by_cases c2 : j < i
      · rw [if_pos c2, if_pos (by omega)]
      · rw [if_neg c2, if_neg (by omega)]
  · rw [q]
    refine muO_cg (muO_or h hi) (fun j hj => ?_)
    unfold onU updG
    by_cases c : j = i
    · subst c; rw [if_pos (by omega), if_pos rfl, q]; rfl
    · rw [if_neg c]
      show (if j < i + 1 then decide (tb (3 * j + 5) = 1) else false) = (if j < i then decide (tb (3 * j + 5) = 1) else false)
      by_cases c2 : j < i
      · rw [if_pos c2, if_pos (by omega)]
      · rw [if_neg c2, if_neg (by omega)]
theorem on_y {dy : Nat} {tb : Nat → Nat} {t ac : Nat} {n : KN} {rf : Nat → Int32} {i : Nat} (h : 1 ≤ dy ∧ imgO tb t dy) (hi : i = dy) : onR dy tb t n ac rf 1 (tb 0 * 256 + tb 1, tb 2, onB tb (nBa n) 3 i, onB tb (nWe n) 4 i, onU tb i, 0) 0 rf := by
  subst hi
  exact kB_1 h ⟨rfl, rfl, rfl, rfl⟩
theorem on_n {dy : Nat} {tb : Nat → Nat} {t ac : Nat} {n : KN} {rf rf2 : Nat → Int32} (h : ¬ (1 ≤ dy ∧ imgO tb t dy)) (e : rf2 = upd rf 5 (rf 5 + 1)) : onR dy tb t n ac rf 0 n ac rf2 := kB_0 h ⟨rfl, rfl, rfl, e⟩
theorem img_5 {tb : Nat → Nat} {t dy i : Nat} (h : imgO tb t dy) (hi : i < dy) : tb (3 * i + 5) ≤ 1 := (h.2.2.2 (3 * i + 5) (by omega) (by omega)).2 (by omega) (by omega)
theorem im_bq {n : KN} {b i : Nat} (h : (b = 1 ∧ nMu n i = true) ∨ (b = 0 ∧ ¬ nMu n i = true)) : b = imgA n (3 + 3 * i + 2) := by
  rw [imgA_m]
  rcases h with ⟨h1, h2⟩ | ⟨h1, h2⟩
  · rw [if_pos h2, h1]
  · rw [if_neg h2, h1]
theorem dg_X11_feed_0_0 : bqL cX11_feed 0 [(0, [42]), (1, [180, 0, 12]), (4, [180, 0, 110]), (7, [16, 20]), (9, [96]), (10, [17, 6, 64]), (13, [164, 0, 9]), (22, [42]), (23, [180, 0, 12]), (26, [27]), (27, [182, 0, 117]), (30, [42]), (31, [180, 0, 12]), (34, [28]), (35, [182, 0, 117]), (38, [42]), (39, [180, 0, 12]), (42, [29]), (43, [182, 0, 117]), (46, [42]), (47, [180, 0, 12]), (50, [21, 4]), (52, [182, 0, 117]), (55, [42]), (56, [180, 0, 12]), (59, [21, 5]), (61, [182, 0, 117]), (64, [42]), (65, [180, 0, 12]), (68, [180, 0, 110]), (71, [172]), (16, [42]), (17, [3]), (18, [182, 0, 113]), (21, [172])] = true := by decide +kernel
theorem dX11_feed_0 : decode cX11_feed 0 = .ok (.aload_n 0, 1) := q_aload_n0 (bat_get dg_X11_feed_0_0 0 rfl rfl)
theorem dX11_feed_1 : decode cX11_feed 1 = .ok (.getfield 12, 3) := q_getfield (bat_get dg_X11_feed_0_0 1 rfl rfl) rfl
theorem dX11_feed_4 : decode cX11_feed 4 = .ok (.getfield 110, 3) := q_getfield (bat_get dg_X11_feed_0_0 2 rfl rfl) rfl
theorem dX11_feed_7 : decode cX11_feed 7 = .ok (.bipush 20, 2) := q_bipush (bat_get dg_X11_feed_0_0 3 rfl rfl) rfl
theorem dX11_feed_9 : decode cX11_feed 9 = .ok (.iadd, 1) := q_iadd (bat_get dg_X11_feed_0_0 4 rfl rfl)
theorem dX11_feed_10 : decode cX11_feed 10 = .ok (.sipush 1600, 3) := q_sipush (bat_get dg_X11_feed_0_0 5 rfl rfl) rfl
theorem dX11_feed_13 : decode cX11_feed 13 = .ok (.if_icmp .le 9, 3) := q_if_icmp_le (bat_get dg_X11_feed_0_0 6 rfl rfl) rfl
theorem dX11_feed_22 : decode cX11_feed 22 = .ok (.aload_n 0, 1) := q_aload_n0 (bat_get dg_X11_feed_0_0 7 rfl rfl)
theorem dX11_feed_23 : decode cX11_feed 23 = .ok (.getfield 12, 3) := q_getfield (bat_get dg_X11_feed_0_0 8 rfl rfl) rfl
theorem dX11_feed_26 : decode cX11_feed 26 = .ok (.iload_n 1, 1) := q_iload_n1 (bat_get dg_X11_feed_0_0 9 rfl rfl)
theorem dX11_feed_27 : decode cX11_feed 27 = .ok (.invokevirtual 117, 3) := q_invokevirtual (bat_get dg_X11_feed_0_0 10 rfl rfl) rfl
theorem dX11_feed_30 : decode cX11_feed 30 = .ok (.aload_n 0, 1) := q_aload_n0 (bat_get dg_X11_feed_0_0 11 rfl rfl)
theorem dX11_feed_31 : decode cX11_feed 31 = .ok (.getfield 12, 3) := q_getfield (bat_get dg_X11_feed_0_0 12 rfl rfl) rfl
theorem dX11_feed_34 : decode cX11_feed 34 = .ok (.iload_n 2, 1) := q_iload_n2 (bat_get dg_X11_feed_0_0 13 rfl rfl)
theorem dX11_feed_35 : decode cX11_feed 35 = .ok (.invokevirtual 117, 3) := q_invokevirtual (bat_get dg_X11_feed_0_0 14 rfl rfl) rfl
theorem dX11_feed_38 : decode cX11_feed 38 = .ok (.aload_n 0, 1) := q_aload_n0 (bat_get dg_X11_feed_0_0 15 rfl rfl)
theorem dX11_feed_39 : decode cX11_feed 39 = .ok (.getfield 12, 3) := q_getfield (bat_get dg_X11_feed_0_0 16 rfl rfl) rfl
theorem dX11_feed_42 : decode cX11_feed 42 = .ok (.iload_n 3, 1) := q_iload_n3 (bat_get dg_X11_feed_0_0 17 rfl rfl)
theorem dX11_feed_43 : decode cX11_feed 43 = .ok (.invokevirtual 117, 3) := q_invokevirtual (bat_get dg_X11_feed_0_0 18 rfl rfl) rfl
theorem dX11_feed_46 : decode cX11_feed 46 = .ok (.aload_n 0, 1) := q_aload_n0 (bat_get dg_X11_feed_0_0 19 rfl rfl)
theorem dX11_feed_47 : decode cX11_feed 47 = .ok (.getfield 12, 3) := q_getfield (bat_get dg_X11_feed_0_0 20 rfl rfl) rfl
theorem dX11_feed_50 : decode cX11_feed 50 = .ok (.iload 4, 2) := q_iload (bat_get dg_X11_feed_0_0 21 rfl rfl)
theorem dX11_feed_52 : decode cX11_feed 52 = .ok (.invokevirtual 117, 3) := q_invokevirtual (bat_get dg_X11_feed_0_0 22 rfl rfl) rfl
theorem dX11_feed_55 : decode cX11_feed 55 = .ok (.aload_n 0, 1) := q_aload_n0 (bat_get dg_X11_feed_0_0 23 rfl rfl)
theorem dX11_feed_56 : decode cX11_feed 56 = .ok (.getfield 12, 3) := q_getfield (bat_get dg_X11_feed_0_0 24 rfl rfl) rfl
theorem dX11_feed_59 : decode cX11_feed 59 = .ok (.iload 5, 2) := q_iload (bat_get dg_X11_feed_0_0 25 rfl rfl)
theorem dX11_feed_61 : decode cX11_feed 61 = .ok (.invokevirtual 117, 3) := q_invokevirtual (bat_get dg_X11_feed_0_0 26 rfl rfl) rfl
theorem dX11_feed_64 : decode cX11_feed 64 = .ok (.aload_n 0, 1) := q_aload_n0 (bat_get dg_X11_feed_0_0 27 rfl rfl)
theorem dX11_feed_65 : decode cX11_feed 65 = .ok (.getfield 12, 3) := q_getfield (bat_get dg_X11_feed_0_0 28 rfl rfl) rfl
theorem dX11_feed_68 : decode cX11_feed 68 = .ok (.getfield 110, 3) := q_getfield (bat_get dg_X11_feed_0_0 29 rfl rfl) rfl
theorem dX11_feed_71 : decode cX11_feed 71 = .ok (.ireturn, 1) := q_ireturn (bat_get dg_X11_feed_0_0 30 rfl rfl)
theorem dX11_feed_16 : decode cX11_feed 16 = .ok (.aload_n 0, 1) := q_aload_n0 (bat_get dg_X11_feed_0_0 31 rfl rfl)
theorem dX11_feed_17 : decode cX11_feed 17 = .ok (.iconst 0, 1) := q_iconst0 (bat_get dg_X11_feed_0_0 32 rfl rfl)
theorem dX11_feed_18 : decode cX11_feed 18 = .ok (.invokevirtual 113, 3) := q_invokevirtual (bat_get dg_X11_feed_0_0 33 rfl rfl) rfl
theorem dX11_feed_21 : decode cX11_feed 21 = .ok (.ireturn, 1) := q_ireturn (bat_get dg_X11_feed_0_0 34 rfl rfl)
theorem w_2_186 : (Cond.methodLink RX11 117 yX10_addNumber) ∈ wsL_law := sk_mem (ck_2 _ (List.mem_of_getElem? (i := 186) rfl)) rfl
theorem w_2_187 : (Cond.instanceMethod yX10_addNumber) ∈ wsL_law := sk_mem (ck_2 _ (List.mem_of_getElem? (i := 187) rfl)) rfl
theorem w_2_188 : (Cond.selects RX10 yX10_addNumber yX10_addNumber) ∈ wsL_law := sk_mem (ck_2 _ (List.mem_of_getElem? (i := 188) rfl)) rfl
theorem w_2_182 : (Cond.methodLink RX11 113 yX11_refuse) ∈ wsL_law := sk_mem (ck_2 _ (List.mem_of_getElem? (i := 182) rfl)) rfl
theorem w_2_184 : (Cond.instanceMethod yX11_refuse) ∈ wsL_law := sk_mem (ck_2 _ (List.mem_of_getElem? (i := 184) rfl)) rfl
theorem w_0_0 : (Cond.selects RX11 yX11_refuse yX11_refuse) ∈ wsL_law := sk_mem (ck_0 _ (List.mem_of_getElem? (i := 0) rfl)) rfl
theorem w_2_181 : (Cond.code yX11_feed cX11_feed 6 (some .int)) ∈ wsL_law := sk_mem (ck_2 _ (List.mem_of_getElem? (i := 181) rfl)) rfl
def om_4_9 : List Bool := true :: false :: false :: true :: []
theorem hd_X10_addNumber_1 : skD yX10_addNumber 1 := by decide +kernel
theorem hd_X11_refuse_1 : skD yX11_refuse 1 := by decide +kernel
set_option maxHeartbeats 4000000 in
set_option maxRecDepth 100000 in
theorem c_ky_feed (l : Launch) (D : va_G) (cI cJ cC cZ cS : ClassId) (x0 : Nat) (q : Nat → Nat) (hc : Int32) (dr : Int64) (tl : Nat) (tb : Nat → Nat) (rf : Nat → Int32) (a1 : Int32) (a2 : Int32) (a3 : Int32) (a4 : Int32) (a5 : Int32) (htl : tl ≤ 1600) (htb : ∀ j, tb j ≤ 255) : skM l yX11_feed cX11_feed 6 (some .int) 2 42 0 0 D (skT cI cJ cC cZ cS) [.ref x0, .int a1, .int a2, .int a3, .int a4, .int a5] [(x0, .inr (11, [.ref (q 0), .ref (q 1), .ref (q 2), .ref (q 3), .ref (q 4), .ref (q 5), .ref (q 6), .ref (q 7), .ref (q 8), .ref (q 9), .ref (q 10), .ref (q 11), .ref (q 12), .ref (q 13), .ref (q 14), .int hc, .ref (q 16), .long dr])), (q 0, .inr (10, [.ref (q 20), .int (nI tl)])), (q 20, .inl (cI, 1600, .inl (fun j => nI (tb j)))), (q 16, .inl (cI, 6, .inl rf))] (skI D (skT cI cJ cC cZ cS) (fun (r : Int32) (u : va_W) => ∃ (t2 : Nat), ∃ (tb2 : Nat → Nat), ∃ (rf2 : Nat → Int32), ((tl ≤ 1580 ∧ t2 = tl + 20 ∧ r = nI t2 ∧ tb2 = feedT tb tl a1 a2 a3 a4 a5) ∨ (1580 < tl ∧ t2 = tl ∧ r = -1 ∧ tb2 = tb)) ∧ (∀ j, tb2 j ≤ 255) ∧ ((tl ≤ 1580 ∧ rf2 = rf) ∨ (1580 < tl ∧ rf2 = upd rf 0 (rf 0 + 1))) ∧ u = [(x0, .inr (11, [.ref (q 0), .ref (q 1), .ref (q 2), .ref (q 3), .ref (q 4), .ref (q 5), .ref (q 6), .ref (q 7), .ref (q 8), .ref (q 9), .ref (q 10), .ref (q 11), .ref (q 12), .ref (q 13), .ref (q 14), .int hc, .ref (q 16), .long dr])), (q 0, .inr (10, [.ref (q 20), .int (nI t2)])), (q 20, .inl (cI, 1600, .inl (fun j => nI (tb2 j)))), (q 16, .inl (cI, 6, .inl rf2))])) := by
  refine skM_of pf_X11_feed (Nat.le_of_ble_eq_true rfl) ?_
  intro p e s m below meth c A ls E hP hD hl
  refine skE_el E (fun hx hb hr hml hlocks hin hown hts hK hA => ?_)
  have hown : s.vm.findClass RX11 = some m.cls := hown
  have hS : va_S A s.heap s.heap [] := va_S.rf
  have hl : lv_has ls 6 [(0, .ref x0), (1, .int a1), (2, .int a2), (3, .int a3), (4, .int a4), (5, .int a5)] := hl
  refine lv_aload_n hx hb dX11_feed_0 rfl (lv_at hl 0 rfl) ?_
  refine sk_get (v := .ref (q 0)) (C := RX11) (T := TX11) (N := 18) hx hb hts inlX11 hown hK hP 0 rfl rfl 0 (by decide) w_2_123 rfl dX11_feed_1 ?_
  refine sk_get (v := .int (nI tl)) (C := RX10) (T := TX10) (N := 2) hx hb hts inlX10 hown hK hP 1 rfl rfl 1 (by decide) w_1_42 rfl dX11_feed_4 ?_
  refine lv_bipush (v := 20) hx hb dX11_feed_7 (by decide) ?_
  refine lv_iadd hx hb dX11_feed_9 ?_
  refine sk_top (nI (tl + 20)) (nI_add tl 20) ?_
  refine lv_sipush (v := 1600) hx hb dX11_feed_10 (by decide) ?_
  refine lv_icmp_le (tgt := 22) hx hb dX11_feed_13 (by decide) (fun c_1 => ?_) (fun c_1 => ?_)
  · have c_1 : tl + 20 ≤ 1600 := (nle (tl + 20) 1600 (by omega) (by omega)).mp c_1
    refine lv_aload_n hx hb dX11_feed_22 rfl (lv_at hl 0 rfl) ?_
    refine sk_get (v := .ref (q 0)) (C := RX11) (T := TX11) (N := 18) hx hb hts inlX11 hown hK hP 0 rfl rfl 0 (by decide) w_2_123 rfl dX11_feed_23 ?_
    refine lv_iload_n hx hb dX11_feed_26 rfl (lv_at hl 1 rfl) ?_
    refine sk_Vv (q0 := 0) (n := 1) (rest := []) (wr := fmR om_4_6 _) ⟨hx, hb, hml, hown, hts⟩ hl.1 (c_eTape_addNumber l D cI cJ cC cZ cS (q 0) (q 20) tl tb a1 (by omega) htb) w_2_186 w_2_187 w_2_188 w_1_2 w_2_189 hd_X10_addNumber_1 ⟨⟨(Nat.le_of_ble_eq_true rfl), (Nat.le_of_ble_eq_true rfl)⟩, (Nat.le_of_ble_eq_true rfl), (Nat.le_of_ble_eq_true rfl)⟩ hK hP hD hS hA (fmT om_4_6 0) (fmF om_4_6 0) (fm_C1 rfl rfl) (fm_R rfl rfl) (fm_nT om_4_6 0) (fm_nF om_4_6 0) (fm_di om_4_6 0) rfl rfl rfl rfl (Nat.le_of_ble_eq_true rfl) dX11_feed_27 (fun u H locs hw hP hD hS => ?_)
    refine exE hw (fun t2_2 hw1 => exE hw1 (fun tb2_3 hw2 => anE hw2 (fun ht2_4 hw3 => anE hw3 (fun ht3_5 hw4 => anE hw4 (fun htb2_6 hw5 => anE hw5 (fun hup_7 eu_8 => ?_))))))
    clear hw hw1 hw2 hw3 hw4 hw5
    refine o_mgE (ws' := [(x0, .inr (11, [.ref (q 0), .ref (q 1), .ref (q 2), .ref (q 3), .ref (q 4), .ref (q 5), .ref (q 6), .ref (q 7), .ref (q 8), .ref (q 9), .ref (q 10), .ref (q 11), .ref (q 12), .ref (q 13), .ref (q 14), .int hc, .ref (q 16), .long dr])), (q 0, .inr (10, [.ref (q 20), .int (nI t2_2)])), (q 20, .inl (cI, 1600, .inl (fun j => nI (tb2_3 j)))), (q 16, .inl (cI, 6, .inl rf))]) eu_8 hP hD rfl (fun hP hD => ?_)
    refine lv_aload_n hx hb dX11_feed_30 rfl (lv_at hl 0 rfl) ?_
    refine sk_get (v := .ref (q 0)) (C := RX11) (T := TX11) (N := 18) hx hb hts inlX11 hown hK hP 0 rfl rfl 0 (by decide) w_2_123 rfl dX11_feed_31 ?_
    refine lv_iload_n hx hb dX11_feed_34 rfl (lv_at hl 2 rfl) ?_
    refine sk_Vv (q0 := 0) (n := 1) (rest := []) (wr := fmR om_4_6 _) ⟨hx, hb, hml, hown, hts⟩ hl.1 (c_eTape_addNumber l D cI cJ cC cZ cS (q 0) (q 20) t2_2 tb2_3 a2 (by omega) htb2_6) w_2_186 w_2_187 w_2_188 w_1_2 w_2_189 hd_X10_addNumber_1 ⟨⟨(Nat.le_of_ble_eq_true rfl), (Nat.le_of_ble_eq_true rfl)⟩, (Nat.le_of_ble_eq_true rfl), (Nat.le_of_ble_eq_true rfl)⟩ hK hP hD hS hA (fmT om_4_6 0) (fmF om_4_6 0) (fm_C1 rfl rfl) (fm_R rfl rfl) (fm_nT om_4_6 0) (fm_nF om_4_6 0) (fm_di om_4_6 0) rfl rfl rfl rfl (Nat.le_of_ble_eq_true rfl) dX11_feed_35 (fun u H locs hw hP hD hS => ?_)
    refine exE hw (fun t2_9 hw1 => exE hw1 (fun tb2_10 hw2 => anE hw2 (fun ht2_11 hw3 => anE hw3 (fun ht3_12 hw4 => anE hw4 (fun htb2_13 hw5 => anE hw5 (fun hup_14 eu_15 => ?_))))))
    clear hw hw1 hw2 hw3 hw4 hw5
    refine o_mgE (ws' := [(x0, .inr (11, [.ref (q 0), .ref (q 1), .ref (q 2), .ref (q 3), .ref (q 4), .ref (q 5), .ref (q 6), .ref (q 7), .ref (q 8), .ref (q 9), .ref (q 10), .ref (q 11), .ref (q 12), .ref (q 13), .ref (q 14), .int hc, .ref (q 16), .long dr])), (q 0, .inr (10, [.ref (q 20), .int (nI t2_9)])), (q 20, .inl (cI, 1600, .inl (fun j => nI (tb2_10 j)))), (q 16, .inl (cI, 6, .inl rf))]) eu_15 hP hD rfl (fun hP hD => ?_)
    refine lv_aload_n hx hb dX11_feed_38 rfl (lv_at hl 0 rfl) ?_
    refine sk_get (v := .ref (q 0)) (C := RX11) (T := TX11) (N := 18) hx hb hts inlX11 hown hK hP 0 rfl rfl 0 (by decide) w_2_123 rfl dX11_feed_39 ?_
    refine lv_iload_n hx hb dX11_feed_42 rfl (lv_at hl 3 rfl) ?_
    refine sk_Vv (q0 := 0) (n := 1) (rest := []) (wr := fmR om_4_6 _) ⟨hx, hb, hml, hown, hts⟩ hl.1 (c_eTape_addNumber l D cI cJ cC cZ cS (q 0) (q 20) t2_9 tb2_10 a3 (by omega) htb2_13) w_2_186 w_2_187 w_2_188 w_1_2 w_2_189 hd_X10_addNumber_1 ⟨⟨(Nat.le_of_ble_eq_true rfl), (Nat.le_of_ble_eq_true rfl)⟩, (Nat.le_of_ble_eq_true rfl), (Nat.le_of_ble_eq_true rfl)⟩ hK hP hD hS hA (fmT om_4_6 0) (fmF om_4_6 0) (fm_C1 rfl rfl) (fm_R rfl rfl) (fm_nT om_4_6 0) (fm_nF om_4_6 0) (fm_di om_4_6 0) rfl rfl rfl rfl (Nat.le_of_ble_eq_true rfl) dX11_feed_43 (fun u H locs hw hP hD hS => ?_)
    refine exE hw (fun t2_16 hw1 => exE hw1 (fun tb2_17 hw2 => anE hw2 (fun ht2_18 hw3 => anE hw3 (fun ht3_19 hw4 => anE hw4 (fun htb2_20 hw5 => anE hw5 (fun hup_21 eu_22 => ?_))))))
    clear hw hw1 hw2 hw3 hw4 hw5
    refine o_mgE (ws' := [(x0, .inr (11, [.ref (q 0), .ref (q 1), .ref (q 2), .ref (q 3), .ref (q 4), .ref (q 5), .ref (q 6), .ref (q 7), .ref (q 8), .ref (q 9), .ref (q 10), .ref (q 11), .ref (q 12), .ref (q 13), .ref (q 14), .int hc, .ref (q 16), .long dr])), (q 0, .inr (10, [.ref (q 20), .int (nI t2_16)])), (q 20, .inl (cI, 1600, .inl (fun j => nI (tb2_17 j)))), (q 16, .inl (cI, 6, .inl rf))]) eu_22 hP hD rfl (fun hP hD => ?_)
    refine lv_aload_n hx hb dX11_feed_46 rfl (lv_at hl 0 rfl) ?_
    refine sk_get (v := .ref (q 0)) (C := RX11) (T := TX11) (N := 18) hx hb hts inlX11 hown hK hP 0 rfl rfl 0 (by decide) w_2_123 rfl dX11_feed_47 ?_
    refine lv_iload hx hb dX11_feed_50 (lv_at hl 4 rfl) ?_
    refine sk_Vv (q0 := 0) (n := 1) (rest := []) (wr := fmR om_4_6 _) ⟨hx, hb, hml, hown, hts⟩ hl.1 (c_eTape_addNumber l D cI cJ cC cZ cS (q 0) (q 20) t2_16 tb2_17 a4 (by omega) htb2_20) w_2_186 w_2_187 w_2_188 w_1_2 w_2_189 hd_X10_addNumber_1 ⟨⟨(Nat.le_of_ble_eq_true rfl), (Nat.le_of_ble_eq_true rfl)⟩, (Nat.le_of_ble_eq_true rfl), (Nat.le_of_ble_eq_true rfl)⟩ hK hP hD hS hA (fmT om_4_6 0) (fmF om_4_6 0) (fm_C1 rfl rfl) (fm_R rfl rfl) (fm_nT om_4_6 0) (fm_nF om_4_6 0) (fm_di om_4_6 0) rfl rfl rfl rfl (Nat.le_of_ble_eq_true rfl) dX11_feed_52 (fun u H locs hw hP hD hS => ?_)
    refine exE hw (fun t2_23 hw1 => exE hw1 (fun tb2_24 hw2 => anE hw2 (fun ht2_25 hw3 => anE hw3 (fun ht3_26 hw4 => anE hw4 (fun htb2_27 hw5 => anE hw5 (fun hup_28 eu_29 => ?_))))))
    clear hw hw1 hw2 hw3 hw4 hw5
    refine o_mgE (ws' := [(x0, .inr (11, [.ref (q 0), .ref (q 1), .ref (q 2), .ref (q 3), .ref (q 4), .ref (q 5), .ref (q 6), .ref (q 7), .ref (q 8), .ref (q 9), .ref (q 10), .ref (q 11), .ref (q 12), .ref (q 13), .ref (q 14), .int hc, .ref (q 16), .long dr])), (q 0, .inr (10, [.ref (q 20), .int (nI t2_23)])), (q 20, .inl (cI, 1600, .inl (fun j => nI (tb2_24 j)))), (q 16, .inl (cI, 6, .inl rf))]) eu_29 hP hD rfl (fun hP hD => ?_)
    refine lv_aload_n hx hb dX11_feed_55 rfl (lv_at hl 0 rfl) ?_
    refine sk_get (v := .ref (q 0)) (C := RX11) (T := TX11) (N := 18) hx hb hts inlX11 hown hK hP 0 rfl rfl 0 (by decide) w_2_123 rfl dX11_feed_56 ?_
    refine lv_iload hx hb dX11_feed_59 (lv_at hl 5 rfl) ?_
    refine sk_Vv (q0 := 0) (n := 1) (rest := []) (wr := fmR om_4_6 _) ⟨hx, hb, hml, hown, hts⟩ hl.1 (c_eTape_addNumber l D cI cJ cC cZ cS (q 0) (q 20) t2_23 tb2_24 a5 (by omega) htb2_27) w_2_186 w_2_187 w_2_188 w_1_2 w_2_189 hd_X10_addNumber_1 ⟨⟨(Nat.le_of_ble_eq_true rfl), (Nat.le_of_ble_eq_true rfl)⟩, (Nat.le_of_ble_eq_true rfl), (Nat.le_of_ble_eq_true rfl)⟩ hK hP hD hS hA (fmT om_4_6 0) (fmF om_4_6 0) (fm_C1 rfl rfl) (fm_R rfl rfl) (fm_nT om_4_6 0) (fm_nF om_4_6 0) (fm_di om_4_6 0) rfl rfl rfl rfl (Nat.le_of_ble_eq_true rfl) dX11_feed_61 (fun u H locs hw hP hD hS => ?_)
    refine exE hw (fun t2_30 hw1 => exE hw1 (fun tb2_31 hw2 => anE hw2 (fun ht2_32 hw3 => anE hw3 (fun ht3_33 hw4 => anE hw4 (fun htb2_34 hw5 => anE hw5 (fun hup_35 eu_36 => ?_))))))
    clear hw hw1 hw2 hw3 hw4 hw5
    refine o_mgE (ws' := [(x0, .inr (11, [.ref (q 0), .ref (q 1), .ref (q 2), .ref (q 3), .ref (q 4), .ref (q 5), .ref (q 6), .ref (q 7), .ref (q 8), .ref (q 9), .ref (q 10), .ref (q 11), .ref (q 12), .ref (q 13), .ref (q 14), .int hc, .ref (q 16), .long dr])), (q 0, .inr (10, [.ref (q 20), .int (nI t2_30)])), (q 20, .inl (cI, 1600, .inl (fun j => nI (tb2_31 j)))), (q 16, .inl (cI, 6, .inl rf))]) eu_36 hP hD rfl (fun hP hD => ?_)
    refine lv_aload_n hx hb dX11_feed_64 rfl (lv_at hl 0 rfl) ?_
    refine sk_get (v := .ref (q 0)) (C := RX11) (T := TX11) (N := 18) hx hb hts inlX11 hown hK hP 0 rfl rfl 0 (by decide) w_2_123 rfl dX11_feed_65 ?_
    refine sk_get (v := .int (nI t2_30)) (C := RX10) (T := TX10) (N := 2) hx hb hts inlX10 hown hK hP 1 rfl rfl 1 (by decide) w_1_42 rfl dX11_feed_68 ?_
    exact sk_iret hx hb hr rfl hlocks hK hP hD hS (⟨t2_30, tb2_31, rf, Or.inl ⟨by omega, by omega, rfl, by rw [hup_35 (by omega), hup_28 (by omega), hup_21 (by omega), hup_14 (by omega), hup_7 (by omega), show t2_23 = tl + 4 + 4 + 4 + 4 by omega, show t2_16 = tl + 4 + 4 + 4 by omega, show t2_9 = tl + 4 + 4 by omega, show t2_2 = tl + 4 by omega]; exact add_5 tb tl a1 a2 a3 a4 a5⟩, htb2_34, Or.inl ⟨by omega, rfl⟩, rfl⟩) (Nat.le_of_ble_eq_true rfl) (Nat.le_of_ble_eq_true rfl) dX11_feed_71
  · have c_1 : ¬ (tl + 20 ≤ 1600) := fun h => c_1 ((nle (tl + 20) 1600 (by omega) (by omega)).mpr h)
    refine lv_aload_n hx hb dX11_feed_16 rfl (lv_at hl 0 rfl) ?_
    refine lv_iconst (v := 0) hx hb dX11_feed_17 (by decide) ?_
    refine sk_Vi (q0 := 0) (n := 1) (rest := []) (wr := fmR om_4_9 _) ⟨hx, hb, hml, hown, hts⟩ hl.1 (c_kx_refuse l D cI cJ cC cZ cS x0 q hc dr 0 rf (by omega)) w_2_182 w_2_184 w_0_0 w_1_1 w_2_185 hd_X11_refuse_1 ⟨⟨(Nat.le_of_ble_eq_true rfl), (Nat.le_of_ble_eq_true rfl)⟩, (Nat.le_of_ble_eq_true rfl), (Nat.le_of_ble_eq_true rfl)⟩ hK hP hD hS hA (fmT om_4_9 0) (fmF om_4_9 0) (fm_C1 rfl rfl) (fm_R rfl rfl) (fm_nT om_4_9 0) (fm_nF om_4_9 0) (fm_di om_4_9 0) rfl rfl rfl rfl (Nat.le_of_ble_eq_true rfl) dX11_feed_18 (fun r_38 u H locs hw hP hD hS => ?_)
    refine exE hw (fun rf2_37 hw1 => anE hw1 (fun hrf_39 hw2 => anE hw2 (fun er_41 eu_40 => ?_)))
    clear hw hw1 hw2
    subst er_41
    refine o_mgE (ws' := [(x0, .inr (11, [.ref (q 0), .ref (q 1), .ref (q 2), .ref (q 3), .ref (q 4), .ref (q 5), .ref (q 6), .ref (q 7), .ref (q 8), .ref (q 9), .ref (q 10), .ref (q 11), .ref (q 12), .ref (q 13), .ref (q 14), .int hc, .ref (q 16), .long dr])), (q 0, .inr (10, [.ref (q 20), .int (nI tl)])), (q 20, .inl (cI, 1600, .inl (fun j => nI (tb j)))), (q 16, .inl (cI, 6, .inl rf2_37))]) eu_40 hP hD rfl (fun hP hD => ?_)
    exact sk_iret hx hb hr rfl hlocks hK hP hD hS (⟨tl, tb, rf2_37, Or.inr ⟨by omega, rfl, rfl, rfl⟩, htb, Or.inr ⟨by omega, hrf_39⟩, rfl⟩) (Nat.le_of_ble_eq_true rfl) (Nat.le_of_ble_eq_true rfl) dX11_feed_21
