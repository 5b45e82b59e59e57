/-! aside -/
def asX (wn mo : Nat) (Ba We : Nat → Nat) (U : Nat → Bool) (f : Nat → Int32) : Prop := mo ≤ 9 ∧ f 0 = nI wn ∧ f 1 = nI mo ∧ ∀ d, d < 9 → f (2 + 3 * d) = nI (Ba d) ∧ f (2 + 3 * d + 1) = nI (We d) ∧ f (2 + 3 * d + 2) = (if U d = true then 1 else 0)
theorem asX_of {wn mo ke : Nat} {Ba We : Nat → Nat} {U : Nat → Bool} {lg : KLg} {f h : Nat → Int32} (a : nwX wn mo Ba We U ke lg f) (c : kc0 29 f h) : asX wn mo Ba We U h := by
  obtain ⟨h1, h2, h3, h4, h5, h6⟩ := a
  exact ⟨h1, by rw [c 0 (by omega), h2], by rw [c 1 (by omega), h3], fun d hd => by rw [c _ (by omega), c _ (by omega), c _ (by omega)]; exact h4 d hd⟩
def tbC (i : Nat) (az f h : Nat → Int32) : Prop := (∀ k, k < i → h k = az k) ∧ ∀ k, 29 ≤ k → h k = f k
theorem tbC_0 (az f : Nat → Int32) : tbC 0 az f f := ⟨fun k hk => absurd hk (Nat.not_lt_zero k), fun _ _ => rfl⟩
theorem tbC_s {i : Nat} {az f h h2 : Nat → Int32} {x : Int32} (a : tbC i az f h) (e : h2 = upd h i x) (hx : x = az i) (hi : i < 29) : tbC (i + 1) az f h2 := by
  refine ⟨fun k hk => ?_, fun k hk => by rw [kui_n e (by omega)]; exact a.2 k hk⟩
  by_cases q : k = i
  · subst q; rw [kui_s e, hx]
  · rw [kui_n e q]; exact a.1 k (by omega)
theorem tbX {wn mo wv mv ke : Nat} {Ba We B2 W2 : Nat → Nat} {U U2 : Nat → Bool} {lg : KLg} {f az h : Nat → Int32} (a : nwX wv mv B2 W2 U2 ke lg f) (b : asX wn mo Ba We U az) (c : tbC 29 az f h) : nwX wn mo Ba We U ke lg h := by
  obtain ⟨h1, h2, h3, h4⟩ := b
  obtain ⟨-, -, -, -, h5, h6⟩ := a
  exact ⟨h1, by rw [c.1 0 (by omega), h2], by rw [c.1 1 (by omega), h3], fun d hd => by rw [c.1 _ (by omega), c.1 _ (by omega), c.1 _ (by omega)]; exact h4 d hd, by rw [c.2 29 (by omega), h5], fun i hi => by rw [c.2 _ (by omega), c.2 _ (by omega), c.2 _ (by omega)]; exact h6 i hi⟩
def ahO (il wn lo hi : Nat) (n : Int32) : Prop := il = 1 ∧ ∃ k : Nat, lo ≤ k ∧ k ≤ hi ∧ n = nI k ∧ wn + k ≤ 999
theorem ah_rg {n : Int32} {lo hi : Nat} (hl : lo < 2147483648) (hh : hi < 2147483648) : (Int32.toInt64 (nI lo) ≤ n.toInt64 ∧ n.toInt64 ≤ Int32.toInt64 (nI hi)) ↔ ∃ k : Nat, lo ≤ k ∧ k ≤ hi ∧ n = nI k := by
  constructor
  · intro h
    obtain ⟨k, h1, h2, h3⟩ := inRg (lo := lo) (hi := hi) h.1 h.2 rfl rfl hl hh
    exact ⟨k, h2, h1, h3⟩
  · intro ⟨k, h1, h2, h3⟩
    subst h3
    rw [Int64.le_iff_toInt_le, Int64.le_iff_toInt_le, lgv lo hl, lgv k (by omega), lgv hi hh]
    omega
theorem upd_back {B : Nat → Nat} {BB : Nat → Nat} {k : Nat} (h : ∀ j, ¬ j = k → BB j = B j) : updG BB k (B k) = B := by
  funext j
  unfold updG
  by_cases q : j = k
  · rw [if_pos q, q]
  · rw [if_neg q]; exact h j q
/-! an image, as the reference writes it -/
def imR (n : KN) (l : Nat) (f : Nat → Int32) : Prop := ∀ j, j < l → f j = nI (imgA n j)
theorem imR_0 (n : KN) (f : Nat → Int32) : imR n 0 f := fun j hj => absurd hj (Nat.not_lt_zero j)
theorem imR_s {n : KN} {l : Nat} {f g : Nat → Int32} {x : Int32} (h : imR n l f) (e : g = upd f l x) (hx : x = nI (imgA n l)) : imR n (l + 1) g := fun j hj => by
  by_cases q : j = l
  · subst q; rw [kui_s e, hx]
  · rw [kui_n e q]; exact h j (by omega)
theorem imR_e {n : KN} {dy : Nat} {f g : Nat → Int32} {x : Int32} (h : imR n (3 + 3 * dy) f) (e : g = upd f (3 + 3 * dy) x) (hx : x = nI (chkN (imgA n) (3 + 3 * dy))) : ∀ j, j < 4 + 3 * dy → g j = nI (imgB n dy j) := fun j hj => by
  unfold imgB
  by_cases q : j = 3 + 3 * dy
  · rw [if_pos q, q, kui_s e, hx]
  · rw [if_neg q, kui_n e q]; exact h j (by omega)
theorem imD_at {wn mo ke : Nat} {Ba We : Nat → Nat} {U : Nat → Bool} {lg : KLg} {nw : Nat → Int32} (h : nwX wn mo Ba We U ke lg nw) {i : Nat} (hi : i < 27) : nw (2 + i) = nI (imgA (wn, mo, Ba, We, U, ke) (3 + i)) := by
  have e : ∀ d r, i = 3 * d + r → d < 9 → r < 3 → nw (2 + i) = nI (imgA (wn, mo, Ba, We, U, ke) (3 + i)) := fun d r h1 h2 h3 => by
    subst h1
    rcases (show r = 0 ∨ r = 1 ∨ r = 2 by omega) with rfl | rfl | rfl
    · rw [show 2 + (3 * d + 0) = 2 + 3 * d by omega, nwX_b h h2, show 3 + (3 * d + 0) = 3 + 3 * d by omega, imgA_b]
    · rw [show 2 + (3 * d + 1) = 2 + 3 * d + 1 by omega, nwX_w h h2, show 3 + (3 * d + 1) = 3 + 3 * d + 1 by omega, imgA_w]
    · rw [show 2 + (3 * d + 2) = 2 + 3 * d + 2 by omega, nwX_m h h2, show 3 + (3 * d + 2) = 3 + 3 * d + 2 by omega, imgA_m]
      show (if U d = true then (1 : Int32) else 0) = nI (if U d = true then 1 else 0)
      by_cases q : U d = true
      · rw [if_pos q, if_pos q]; rfl
      · rw [if_neg q, if_neg q]; rfl
  exact e (i / 3) (i % 3) (by omega) (by omega) (by omega)
theorem imA_9 {wn mo ke : Nat} {Ba We : Nat → Nat} {U : Nat → Bool} (h1 : wn ≤ 999) (h2 : mo ≤ 9) (h3 : ∀ j, Ba j ≤ 9) (h4 : ∀ j, We j ≤ 9) (j : Nat) : imgA (wn, mo, Ba, We, U, ke) j ≤ 255 := by
  unfold imgA
  split
  · show wn / 256 ≤ 255; omega
  · split
    · show wn % 256 ≤ 255; omega
    · split
      · show mo ≤ 255; omega
      · unfold imgD
        split
        · have := h3 ((j - 3) / 3); show Ba _ ≤ 255; omega
        · split
          · have := h4 ((j - 3) / 3); show We _ ≤ 255; omega
          · split <;> omega
/-- an image is told: so far -/
def oiR (tb : Nat → Nat) (i : Nat) (f h : Nat → Int32) : Prop := (∀ k, k < i → h (2 + k) = nI (tb (3 + k))) ∧ h 0 = f 0 ∧ h 1 = f 1 ∧ ∀ k, 2 + i ≤ k → h k = f k
theorem oiR_0 (tb : Nat → Nat) (f : Nat → Int32) : oiR tb 0 f f := ⟨fun k hk => absurd hk (Nat.not_lt_zero k), rfl, rfl, fun _ _ => rfl⟩
theorem oiR_s {tb : Nat → Nat} {i : Nat} {f h g : Nat → Int32} {x : Int32} (a : oiR tb i f h) (e : g = upd h (2 + i) x) (hx : x = nI (tb (3 + i))) : oiR tb (i + 1) f g := by
  refine ⟨fun k hk => ?_, by rw [kui_n e (by omega)]; exact a.2.1, by rw [kui_n e (by omega)]; exact a.2.2.1, fun k hk => by rw [kui_n e (by omega)]; exact a.2.2.2 k (by omega)⟩
  by_cases q : k = i
  · subst q; rw [kui_s e, hx]
  · rw [kui_n e (by omega)]; exact a.1 k (by omega)
theorem oiR_X {wn mo ke dm t : Nat} {Ba We : Nat → Nat} {U : Nat → Bool} {lg : KLg} {tb : Nat → Nat} {f h g : Nat → Int32} (a : nwX wn mo Ba We U ke lg f) (b : oiR tb (3 * dm) f h) (e : g = upd h 29 0) (hd : dm ≤ 9) (hi : imgO tb t dm) (hU : ∀ j, U j = true → j < dm) : nwX wn mo (onB tb Ba 3 dm) (onB tb We 4 dm) (onU tb dm) 0 lg g := by
  obtain ⟨h1, h2, h3, h4, h5, h6⟩ := a
  obtain ⟨b1, b2, b3, b4⟩ := b
  refine ⟨h1, by rw [kui_n e (by omega), b2, h2], by rw [kui_n e (by omega), b3, h3], fun d hd2 => ?_, by rw [kui_s e]; rfl, fun i hi2 => absurd hi2 (by omega)⟩
  rw [kui_n e (by omega), kui_n e (by omega), kui_n e (by omega)]
  unfold onB onU
  by_cases c : d < dm
  · rw [if_pos c, if_pos c, if_pos c]
    have q1 := b1 (3 * d) (by omega)
    have q2 := b1 (3 * d + 1) (by omega)
    have q3 := b1 (3 * d + 2) (by omega)
    rw [show 2 + 3 * d + 1 = 2 + (3 * d + 1) by omega, show 2 + 3 * d + 2 = 2 + (3 * d + 2) by omega, q1, q2, q3, show 3 + 3 * d = 3 * d + 3 by omega, show 3 + (3 * d + 1) = 3 * d + 4 by omega, show 3 + (3 * d + 2) = 3 * d + 5 by omega]
    refine ⟨rfl, rfl, ?_⟩
    have q4 := img_5 hi c
    rcases (show tb (3 * d + 5) = 0 ∨ tb (3 * d + 5) = 1 by omega) with q | q
    · rw [q]; rfl
    · rw [q]; rfl
  · rw [if_neg c, if_neg c, if_neg c, b4 _ (by omega), b4 _ (by omega), b4 _ (by omega)]
    have q := h4 d hd2
    refine ⟨q.1, q.2.1, ?_⟩
    rw [q.2.2, if_neg (fun z => c (hU d z)), if_neg (by decide)]
/-! the lock stands -/
def lz0 (i : Nat) (f : Nat → Int32) : Prop := ∀ k, k < i → f k = 0
theorem lz0_s {i : Nat} {f g : Nat → Int32} (h : lz0 i f) (e : g = upd f i 0) : lz0 (i + 1) g := fun k hk => by
  by_cases q : k = i
  · subst q; rw [kui_s e]
  · rw [kui_n e q]; exact h k (by omega)
def lz2 (dz : Nat → Int32) (l1 i : Nat) (f : Nat → Int32) : Prop := f 0 = 0 ∧ f 1 = nI l1 ∧ (∀ k, k < i → f (2 + k) = dz k) ∧ ∀ k, 2 + i ≤ k → k < 120 → f k = 0
theorem lz2_0 {dz f g : Nat → Int32} {l1 : Nat} (h : lz0 120 f) (e : g = upd f 1 (nI l1)) : lz2 dz l1 0 g := ⟨by rw [kui_n e (by omega)]; exact h 0 (by omega), kui_s e, fun k hk => absurd hk (Nat.not_lt_zero k), fun k h1 h2 => by rw [kui_n e (by omega)]; exact h k h2⟩
theorem lz2_s {dz f g : Nat → Int32} {l1 i : Nat} {x : Int32} (h : lz2 dz l1 i f) (e : g = upd f (2 + i) x) (hx : x = dz i) : lz2 dz l1 (i + 1) g := by
  obtain ⟨h1, h2, h3, h4⟩ := h
  refine ⟨by rw [kui_n e (by omega), h1], by rw [kui_n e (by omega), h2], fun k hk => ?_, fun k a b => by rw [kui_n e (by omega)]; exact h4 k (by omega) b⟩
  by_cases q : k = i
  · subst q; rw [kui_s e, hx]
  · rw [kui_n e (by omega)]; exact h3 k (by omega)
theorem nwX_m1v {wn mo ke : Nat} {Ba We : Nat → Nat} {U : Nat → Bool} {lg : KLg} {f : Nat → Int32} (h : nwX wn mo Ba We U ke lg f) {d : Nat} (hd : d < 9) : f (2 + 3 * d + 2) = nI (if U d = true then 1 else 0) := by
  rw [nwX_m h hd]
  by_cases q : U d = true
  · rw [if_pos q, if_pos q]; rfl
  · rw [if_neg q, if_neg q]; rfl
theorem mu_b (U : Nat → Bool) (k : Nat) : ((if U k = true then 1 else 0) = 1 ∧ U k = true) ∨ ((if U k = true then 1 else 0) = 0 ∧ ¬ U k = true) := by
  by_cases q : U k = true
  · rw [if_pos q]; exact Or.inl ⟨rfl, q⟩
  · rw [if_neg q]; exact Or.inr ⟨rfl, q⟩
theorem mu_c {j : Nat} (h : j ≤ 1) : (j = 1 ∧ j = 1) ∨ (j = 0 ∧ ¬ j = 1) := by omega
theorem mu_flip {b : Bool} {j : Nat} (h : ¬ (if b = true then 1 else 0) = j) (hj : j < 2) : nI j = if (!b) = true then (1 : Int32) else 0 := by
  cases b with
  | true =>
    rw [if_pos rfl] at h
    have e : j = 0 := by omega
    rw [e]; rfl
  | false =>
    rw [if_neg (by decide)] at h
    have e : j = 1 := by omega
    rw [e]; rfl
theorem psh_ke {ac k ke a2 : Nat} {n : KN} {su : Nat → KN} (h : ∀ j, j < ac → nKe (su j) ≤ k) (h20 : ac ≤ 20) (hk : nKe n ≤ k) (h2 : a2 = min (ac + 1) 20) : ∀ j, j < a2 → nKe (psh ac su n j) ≤ k := fun j hj => by
  subst h2
  rcases psh_c h20 hj with q | ⟨i, hi, q⟩
  · rw [q]; exact hk
  · rw [q]; exact h i hi
set_option maxHeartbeats 4000000 in
set_option maxRecDepth 100000 in
theorem c_nm_refuses (l : Launch) (D : va_G) (cI cJ cC cZ cS : ClassId) (mm : Nat) (g : Nat → Nat) (ta : Nat) (pa : Nat) (pe : Nat) (pd : Int32) (pb : Nat) (pp : Int32) (pf : Int32) (pg : Int32) (pn : Int32) (rt : Int32) (rn : Int32) (cd : Nat) (sn : Int32) (il : Nat) (tk : Int32) (am : Int32) (at_ : Int32) (aa : Int32) (wt : Int32) (wy : Int64) (rm : Nat) (ud : Nat) (nu : Nat) (sd : Int64) (qn : Nat) (qw : Nat) (qo : Int32) (qb : Nat) (qp : Nat) (qa : Int64) (qi : Nat) (oc : Nat) (w : Nat) (rf : Nat → Int32) (hw : w < 6) : skM l yX12_refuses cX12_refuses 2 (some .int) 0 0 0 0 D (skT cI cJ cC cZ cS) [.ref mm, .int (nI w)] [(mm, .inr (12, mo g (nI ta) (nI pa) (nI pe) pd (nI pb) pp pf pg pn rt rn (nI cd) sn (nI il) tk am at_ aa 0 0 (-1) wt wy 0 (nI rm) (nI ud) (nI nu) sd (nI qn) (nI qw) qo (nI qb) (nI qp) qa (nI qi) (nI oc))), (g 9, .inl (cI, 6, .inl rf))] (skI D (skT cI cJ cC cZ cS) (fun (r : Int32) (u : va_W) => ∃ (rf2 : Nat → Int32), rf2 = upd rf w (rf w + 1) ∧ r = (-1) ∧ u = [(mm, .inr (12, mo g (nI ta) (nI pa) (nI pe) pd (nI pb) pp pf pg pn rt rn (nI cd) sn (nI il) tk am at_ aa 0 0 (-1) wt wy 0 (nI rm) (nI ud) (nI nu) sd (nI qn) (nI qw) qo (nI qb) (nI qp) qa (nI qi) (nI oc))), (g 9, .inl (cI, 6, .inl rf2))])) := by
  refine skM_of pf_X12_refuses (Nat.le_of_ble_eq_true rfl) ?_
  intro p e s m below meth c A ls E hP hD hl
  refine skE_el E (fun hx hb hr hml hlocks hin hown hts hK hA => ?_)
  have hown : s.vm.findClass RX12 = some m.cls := hown
  have hS : va_S A s.heap s.heap [] := va_S.rf
  have hl : lv_has ls 2 [(0, .ref mm), (1, .int (nI w))] := hl
  refine lv_aload_n hx hb dX12_refuses_0 rfl (lv_at hl 0 rfl) ?_
  refine sk_get (v := .ref (g 9)) (C := RX12) (T := TX12) (N := 92) hx hb hts inlX12 hown hK hP 0 rfl rfl 9 (by decide) w_5_164 rfl dX12_refuses_1 ?_
  refine lv_iload_n hx hb dX12_refuses_4 rfl (lv_at hl 1 rfl) ?_
  refine lv_dup2_11 hx hb dX12_refuses_5 rfl rfl ?_
  refine va_iald hx hb hK.1 hP 1 0 rfl rfl (vin w 6 (by omega) (by omega)) dX12_refuses_6 ?_
  refine sk_top (rf w) (by rw [nI_clamp (by omega)]) ?_
  refine lv_iconst (v := 1) hx hb dX12_refuses_7 (by decide) ?_
  refine lv_iadd hx hb dX12_refuses_8 ?_
  refine sk_iastE (k := w) (ws' := fun f_1 => [(mm, .inr (12, mo g (nI ta) (nI pa) (nI pe) pd (nI pb) pp pf pg pn rt rn (nI cd) sn (nI il) tk am at_ aa 0 0 (-1) wt wy 0 (nI rm) (nI ud) (nI nu) sd (nI qn) (nI qw) qo (nI qb) (nI qp) qa (nI qi) (nI oc))), (g 9, .inl (cI, 6, .inl f_1))]) hx hb hK hP hD hS 1 0 rfl rfl (by omega) (by omega) (fun _ => rfl) dX12_refuses_9 (fun f_1 H locs ef_2 hP hD hS => ?_)
  refine lv_iconst (v := (-1)) hx hb dX12_refuses_10 (by decide) ?_
  exact sk_iret hx hb hr rfl hlocks hK hP hD hS (⟨f_1, ef_2, rfl, rfl⟩) (Nat.le_of_ble_eq_true rfl) (Nat.le_of_ble_eq_true rfl) dX12_refuses_11
theorem dg_X12_feed_0_0 : bqL cX12_feed 0 [(0, [42]), (1, [180, 0, 192]), (4, [16, 20]), (6, [96]), (7, [17, 6, 64]), (10, [164, 0, 15]), (25, [3]), (26, [54, 6]), (28, [21, 6]), (30, [16, 20]), (32, [162, 0, 92]), (124, [42]), (125, [180, 0, 192]), (128, [172]), (35, [21, 6]), (37, [7]), (38, [162, 0, 7]), (45, [21, 6]), (47, [16, 8]), (49, [162, 0, 7]), (56, [21, 6]), (58, [16, 12]), (60, [162, 0, 7]), (67, [21, 6]), (69, [16, 16]), (71, [162, 0, 8]), (79, [21, 5]), (81, [54, 7]), (83, [42]), (84, [180, 0, 7]), (87, [42]), (88, [180, 0, 192]), (91, [21, 7]), (93, [16, 8]), (95, [6]), (96, [21, 6]), (98, [7]), (99, [112]), (100, [100]), (101, [104])] = true := by decide +kernel
theorem dX12_feed_0 : decode cX12_feed 0 = .ok (.aload_n 0, 1) := q_aload_n0 (bat_get dg_X12_feed_0_0 0 rfl rfl)
theorem dX12_feed_1 : decode cX12_feed 1 = .ok (.getfield 192, 3) := q_getfield (bat_get dg_X12_feed_0_0 1 rfl rfl) rfl
theorem dX12_feed_4 : decode cX12_feed 4 = .ok (.bipush 20, 2) := q_bipush (bat_get dg_X12_feed_0_0 2 rfl rfl) rfl
theorem dX12_feed_6 : decode cX12_feed 6 = .ok (.iadd, 1) := q_iadd (bat_get dg_X12_feed_0_0 3 rfl rfl)
theorem dX12_feed_7 : decode cX12_feed 7 = .ok (.sipush 1600, 3) := q_sipush (bat_get dg_X12_feed_0_0 4 rfl rfl) rfl
theorem dX12_feed_10 : decode cX12_feed 10 = .ok (.if_icmp .le 15, 3) := q_if_icmp_le (bat_get dg_X12_feed_0_0 5 rfl rfl) rfl
theorem dX12_feed_25 : decode cX12_feed 25 = .ok (.iconst 0, 1) := q_iconst0 (bat_get dg_X12_feed_0_0 6 rfl rfl)
theorem dX12_feed_26 : decode cX12_feed 26 = .ok (.istore 6, 2) := q_istore (bat_get dg_X12_feed_0_0 7 rfl rfl)
theorem dX12_feed_28 : decode cX12_feed 28 = .ok (.iload 6, 2) := q_iload (bat_get dg_X12_feed_0_0 8 rfl rfl)
theorem dX12_feed_30 : decode cX12_feed 30 = .ok (.bipush 20, 2) := q_bipush (bat_get dg_X12_feed_0_0 9 rfl rfl) rfl
theorem dX12_feed_32 : decode cX12_feed 32 = .ok (.if_icmp .ge 92, 3) := q_if_icmp_ge (bat_get dg_X12_feed_0_0 10 rfl rfl) rfl
theorem dX12_feed_124 : decode cX12_feed 124 = .ok (.aload_n 0, 1) := q_aload_n0 (bat_get dg_X12_feed_0_0 11 rfl rfl)
theorem dX12_feed_125 : decode cX12_feed 125 = .ok (.getfield 192, 3) := q_getfield (bat_get dg_X12_feed_0_0 12 rfl rfl) rfl
theorem dX12_feed_128 : decode cX12_feed 128 = .ok (.ireturn, 1) := q_ireturn (bat_get dg_X12_feed_0_0 13 rfl rfl)
theorem dX12_feed_35 : decode cX12_feed 35 = .ok (.iload 6, 2) := q_iload (bat_get dg_X12_feed_0_0 14 rfl rfl)
theorem dX12_feed_37 : decode cX12_feed 37 = .ok (.iconst 4, 1) := q_iconst4 (bat_get dg_X12_feed_0_0 15 rfl rfl)
theorem dX12_feed_38 : decode cX12_feed 38 = .ok (.if_icmp .ge 7, 3) := q_if_icmp_ge (bat_get dg_X12_feed_0_0 16 rfl rfl) rfl
theorem dX12_feed_45 : decode cX12_feed 45 = .ok (.iload 6, 2) := q_iload (bat_get dg_X12_feed_0_0 17 rfl rfl)
theorem dX12_feed_47 : decode cX12_feed 47 = .ok (.bipush 8, 2) := q_bipush (bat_get dg_X12_feed_0_0 18 rfl rfl) rfl
theorem dX12_feed_49 : decode cX12_feed 49 = .ok (.if_icmp .ge 7, 3) := q_if_icmp_ge (bat_get dg_X12_feed_0_0 19 rfl rfl) rfl
theorem dX12_feed_56 : decode cX12_feed 56 = .ok (.iload 6, 2) := q_iload (bat_get dg_X12_feed_0_0 20 rfl rfl)
theorem dX12_feed_58 : decode cX12_feed 58 = .ok (.bipush 12, 2) := q_bipush (bat_get dg_X12_feed_0_0 21 rfl rfl) rfl
theorem dX12_feed_60 : decode cX12_feed 60 = .ok (.if_icmp .ge 7, 3) := q_if_icmp_ge (bat_get dg_X12_feed_0_0 22 rfl rfl) rfl
theorem dX12_feed_67 : decode cX12_feed 67 = .ok (.iload 6, 2) := q_iload (bat_get dg_X12_feed_0_0 23 rfl rfl)
theorem dX12_feed_69 : decode cX12_feed 69 = .ok (.bipush 16, 2) := q_bipush (bat_get dg_X12_feed_0_0 24 rfl rfl) rfl
theorem dX12_feed_71 : decode cX12_feed 71 = .ok (.if_icmp .ge 8, 3) := q_if_icmp_ge (bat_get dg_X12_feed_0_0 25 rfl rfl) rfl
