/-! aside -/
def asX (wn mo : Nat) (Ba We : Nat → Nat) (U : Nat → Bool) (f : Nat → Int32) : Prop := mo ≤ 9 ∧ f 0 = nI wn ∧ f 1 = nI mo ∧ ∀ d, d < 9 → f (2 + 3 * d) = nI (Ba d) ∧ f (2 + 3 * d + 1) = nI (We d) ∧ f (2 + 3 * d + 2) = (if U d = true then 1 else 0)
theorem asX_of {wn mo ke : Nat} {Ba We : Nat → Nat} {U : Nat → Bool} {lg : KLg} {f h : Nat → Int32} (a : nwX wn mo Ba We U ke lg f) (c : kc0 29 f h) : asX wn mo Ba We U h := by
  obtain ⟨h1, h2, h3, h4, h5, h6⟩ := a
  exact ⟨h1, by rw [c 0 (by omega), h2], by rw [c 1 (by omega), h3], fun d hd => by rw [c _ (by omega), c _ (by omega), c _ (by omega)]; exact h4 d hd⟩
def tbC (i : Nat) (az f h : Nat → Int32) : Prop := (∀ k, k < i → h k = az k) ∧ ∀ k, 29 ≤ k → h k = f k
theorem tbC_0 (az f : Nat → Int32) : tbC 0 az f f := ⟨fun k hk => absurd hk (Nat.not_lt_zero k), fun _ _ => rfl⟩
theorem tbC_s {i : Nat} {az f h h2 : Nat → Int32} {x : Int32} (a : tbC i az f h) (e : h2 = upd h i x) (hx : x = az i) (hi : i < 29) : tbC (i + 1) az f h2 := by
  refine ⟨fun k hk => ?_, fun k hk => by rw [kui_n e (by omega)]; exact a.2 k hk⟩
  by_cases q : k = i
  · subst q; rw [kui_s e, hx]
  · rw [kui_n e q]; exact a.1 k (by omega)
theorem tbX {wn mo wv mv ke : Nat} {Ba We B2 W2 : Nat → Nat} {U U2 : Nat → Bool} {lg : KLg} {f az h : Nat → Int32} (a : nwX wv mv B2 W2 U2 ke lg f) (b : asX wn mo Ba We U az) (c : tbC 29 az f h) : nwX wn mo Ba We U ke lg h := by
  obtain ⟨h1, h2, h3, h4⟩ := b
  obtain ⟨-, -, -, -, h5, h6⟩ := a
  exact ⟨h1, by rw [c.1 0 (by omega), h2], by rw [c.1 1 (by omega), h3], fun d hd => by rw [c.1 _ (by omega), c.1 _ (by omega), c.1 _ (by omega)]; exact h4 d hd, by rw [c.2 29 (by omega), h5], fun i hi => by rw [c.2 _ (by omega), c.2 _ (by omega), c.2 _ (by omega)]; exact h6 i hi⟩
def ahO (il wn lo hi : Nat) (n : Int32) : Prop := il = 1 ∧ ∃ k : Nat, lo ≤ k ∧ k ≤ hi ∧ n = nI k ∧ wn + k ≤ 999
theorem ah_rg {n : Int32} {lo hi : Nat} (hl : lo < 2147483648) (hh : hi < 2147483648) : (Int32.toInt64 (nI lo) ≤ n.toInt64 ∧ n.toInt64 ≤ Int32.toInt64 (nI hi)) ↔ ∃ k : Nat, lo ≤ k ∧ k ≤ hi ∧ n = nI k := by
  constructor
  · intro h
    obtain ⟨k, h1, h2, h3⟩ := inRg (lo := lo) (hi := hi) h.1 h.2 rfl rfl hl hh
    exact ⟨k, h2, h1, h3⟩
  · intro ⟨k, h1, h2, h3⟩
    subst h3
    rw [Int64.le_iff_toInt_le, Int64.le_iff_toInt_le, lgv lo hl, lgv k (by omega), lgv hi hh]
    omega
theorem upd_back {B : Nat → Nat} {BB : Nat → Nat} {k : Nat} (h : ∀ j, ¬ j = k → BB j = B j) : updG BB k (B k) = B := by
  funext j
  unfold updG
  by_cases q : j = k
  · rw [if_pos q, q]
  · rw [if_neg q]; exact h j q
/-! an image, as the reference writes it -/
def imR (n : KN) (l : Nat) (f : Nat → Int32) : Prop := ∀ j, j < l → f j = nI (imgA n j)
theorem imR_0 (n : KN) (f : Nat → Int32) : imR n 0 f := fun j hj => absurd hj (Nat.not_lt_zero j)
theorem imR_s {n : KN} {l : Nat} {f g : Nat → Int32} {x : Int32} (h : imR n l f) (e : g = upd f l x) (hx : x = nI (imgA n l)) : imR n (l + 1) g := fun j hj => by
  by_cases q : j = l
  · subst q; rw [kui_s e, hx]
  · rw [kui_n e q]; exact h j (by omega)
theorem imR_e {n : KN} {dy : Nat} {f g : Nat → Int32} {x : Int32} (h : imR n (3 + 3 * dy) f) (e : g = upd f (3 + 3 * dy) x) (hx : x = nI (chkN (imgA n) (3 + 3 * dy))) : ∀ j, j < 4 + 3 * dy → g j = nI (imgB n dy j) := fun j hj => by
  unfold imgB
  by_cases q : j = 3 + 3 * dy
  · rw [if_pos q, q, kui_s e, hx]
  · rw [if_neg q, kui_n e q]; exact h j (by omega)
theorem imD_at {wn mo ke : Nat} {Ba We : Nat → Nat} {U : Nat → Bool} {lg : KLg} {nw : Nat → Int32} (h : nwX wn mo Ba We U ke lg nw) {i : Nat} (hi : i < 27) : nw (2 + i) = nI (imgA (wn, mo, Ba, We, U, ke) (3 + i)) := by
  have e : ∀ d r, i = 3 * d + r → d < 9 → r < 3 → nw (2 + i) = nI (imgA (wn, mo, Ba, We, U, ke) (3 + i)) := fun d r h1 h2 h3 => by
    subst h1
    rcases (show r = 0 ∨ r = 1 ∨ r = 2 by omega) with rfl | rfl | rfl
    · rw [show 2 + (3 * d + 0) = 2 + 3 * d by omega, nwX_b h h2, show 3 + (3 * d + 0) = 3 + 3 * d by omega, imgA_b]
    · rw [show 2 + (3 * d + 1) = 2 + 3 * d + 1 by omega, nwX_w h h2, show 3 + (3 * d + 1) = 3 + 3 * d + 1 by omega, imgA_w]
    · rw [show 2 + (3 * d + 2) = 2 + 3 * d + 2 by omega, nwX_m h h2, show 3 + (3 * d + 2) = 3 + 3 * d + 2 by omega, imgA_m]
      show (if U d = true then (1 : Int32) else 0) = nI (if U d = true then 1 else 0)
      by_cases q : U d = true
      · rw [if_pos q, if_pos q]; rfl
      · rw [if_neg q, if_neg q]; rfl
  exact e (i / 3) (i % 3) (by omega) (by omega) (by omega)
theorem imA_9 {wn mo ke : Nat} {Ba We : Nat → Nat} {U : Nat → Bool} (h1 : wn ≤ 999) (h2 : mo ≤ 9) (h3 : ∀ j, Ba j ≤ 9) (h4 : ∀ j, We j ≤ 9) (j : Nat) : imgA (wn, mo, Ba, We, U, ke) j ≤ 255 := by
  unfold imgA
  split
  · show wn / 256 ≤ 255; omega
  · split
    · show wn % 256 ≤ 255; omega
    · split
      · show mo ≤ 255; omega
      · unfold imgD
        split
        · have := h3 ((j - 3) / 3); show Ba _ ≤ 255; omega
        · split
          · have := h4 ((j - 3) / 3); show We _ ≤ 255; omega
          · split <;> omega
/-- an image is told: so far -/
def oiR (tb : Nat → Nat) (i : Nat) (f h : Nat → Int32) : Prop := (∀ k, k < i → h (2 + k) = nI (tb (3 + k))) ∧ h 0 = f 0 ∧ h 1 = f 1 ∧ ∀ k, 2 + i ≤ k → h k = f k
theorem oiR_0 (tb : Nat → Nat) (f : Nat → Int32) : oiR tb 0 f f := ⟨fun k hk => absurd hk (Nat.not_lt_zero k), rfl, rfl, fun _ _ => rfl⟩
theorem oiR_s {tb : Nat → Nat} {i : Nat} {f h g : Nat → Int32} {x : Int32} (a : oiR tb i f h) (e : g = upd h (2 + i) x) (hx : x = nI (tb (3 + i))) : oiR tb (i + 1) f g := by
  refine ⟨fun k hk => ?_, by rw [kui_n e (by omega)]; exact a.2.1, by rw [kui_n e (by omega)]; exact a.2.2.1, fun k hk => by rw [kui_n e (by omega)]; exact a.2.2.2 k (by omega)⟩
  by_cases q : k = i
  · subst q; rw [kui_s e, hx]
  · rw [kui_n e (by omega)]; exact a.1 k (by omega)
theorem oiR_X {wn mo ke dm t : Nat} {Ba We : Nat → Nat} {U : Nat → Bool} {lg : KLg} {tb : Nat → Nat} {f h g : Nat → Int32} (a : nwX wn mo Ba We U ke lg f) (b : oiR tb (3 * dm) f h) (e : g = upd h 29 0) (hd : dm ≤ 9) (hi : imgO tb t dm) (hU : ∀ j, U j = true → j < dm) : nwX wn mo (onB tb Ba 3 dm) (onB tb We 4 dm) (onU tb dm) 0 lg g := by
  obtain ⟨h1, h2, h3, h4, h5, h6⟩ := a
  obtain ⟨b1, b2, b3, b4⟩ := b
  refine ⟨h1, by rw [kui_n e (by omega), b2, h2], by rw [kui_n e (by omega), b3, h3], fun d hd2 => ?_, by rw [kui_s e]; rfl, fun i hi2 => absurd hi2 (by omega)⟩
  rw [kui_n e (by omega), kui_n e (by omega), kui_n e (by omega)]
  unfold onB onU
  by_cases c : d < dm
  · rw [if_pos c, if_pos c, if_pos c]
    have q1 := b1 (3 * d) (by omega)
    have q2 := b1 (3 * d + 1) (by omega)
    have q3 := b1 (3 * d + 2) (by omega)
    rw [show 2 + 3 * d + 1 = 2 + (3 * d + 1) by omega, show 2 + 3 * d + 2 = 2 + (3 * d + 2) by omega, q1, q2, q3, show 3 + 3 * d = 3 * d + 3 by omega, show 3 + (3 * d + 1) = 3 * d + 4 by omega, show 3 + (3 * d + 2) = 3 * d + 5 by omega]
    refine ⟨rfl, rfl, ?_⟩
    have q4 := img_5 hi c
    rcases (show tb (3 * d + 5) = 0 ∨ tb (3 * d + 5) = 1 by omega) with q | q
    · rw [q]; rfl
    · rw [q]; rfl
  · rw [if_neg c, if_neg c, if_neg c, b4 _ (by omega), b4 _ (by omega), b4 _ (by omega)]
    have q := h4 d hd2
    refine ⟨q.1, q.2.1, ?_⟩
    rw [q.2.2, if_neg (fun z => c (hU d z)), if_neg (by decide)]
/-! the lock stands -/
def lz0 (i : Nat) (f : Nat → Int32) : Prop := ∀ k, k < i → f k = 0
theorem lz0_s {i : Nat} {f g : Nat → Int32} (h : lz0 i f) (e : g = upd f i 0) : lz0 (i + 1) g := fun k hk => by
  by_cases q : k = i
  · subst q; rw [kui_s e]
  · rw [kui_n e q]; exact h k (by omega)
def lz2 (dz : Nat → Int32) (l1 i : Nat) (f : Nat → Int32) : Prop := f 0 = 0 ∧ f 1 = nI l1 ∧ (∀ k, k < i → f (2 + k) = dz k) ∧ ∀ k, 2 + i ≤ k → k < 120 → f k = 0
theorem lz2_0 {dz f g : Nat → Int32} {l1 : Nat} (h : lz0 120 f) (e : g = upd f 1 (nI l1)) : lz2 dz l1 0 g := ⟨by rw [kui_n e (by omega)]; exact h 0 (by omega), kui_s e, fun k hk => absurd hk (Nat.not_lt_zero k), fun k h1 h2 => by rw [kui_n e (by omega)]; exact h k h2⟩
theorem lz2_s {dz f g : Nat → Int32} {l1 i : Nat} {x : Int32} (h : lz2 dz l1 i f) (e : g = upd f (2 + i) x) (hx : x = dz i) : lz2 dz l1 (i + 1) g := by
  obtain ⟨h1, h2, h3, h4⟩ := h
  refine ⟨by rw [kui_n e (by omega), h1], by rw [kui_n e (by omega), h2], fun k hk => ?_, fun k a b => by rw [kui_n e (by omega)]; exact h4 k (by omega) b⟩
  by_cases q : k = i
  · subst q; rw [kui_s e, hx]
  · rw [kui_n e (by omega)]; exact h3 k (by omega)
theorem nwX_m1v {wn mo ke : Nat} {Ba We : Nat → Nat} {U : Nat → Bool} {lg : KLg} {f : Nat → Int32} (h : nwX wn mo Ba We U ke lg f) {d : Nat} (hd : d < 9) : f (2 + 3 * d + 2) = nI (if U d = true then 1 else 0) := by
  rw [nwX_m h hd]
  by_cases q : U d = true
  · rw [if_pos q, if_pos q]; rfl
  · rw [if_neg q, if_neg q]; rfl
theorem mu_b (U : Nat → Bool) (k : Nat) : ((if U k = true then 1 else 0) = 1 ∧ U k = true) ∨ ((if U k = true then 1 else 0) = 0 ∧ ¬ U k = true) := by
  by_cases q : U k = true
  · rw [if_pos q]; exact Or.inl ⟨rfl, q⟩
  · rw [if_neg q]; exact Or.inr ⟨rfl, q⟩
theorem mu_c {j : Nat} (h : j ≤ 1) : (j = 1 ∧ j = 1) ∨ (j = 0 ∧ ¬ j = 1) := by omega
theorem mu_flip {b : Bool} {j : Nat} (h : ¬ (if b = true then 1 else 0) = j) (hj : j < 2) : nI j = if (!b) = true then (1 : Int32) else 0 := by
  cases b with
  | true =>
    rw [if_pos rfl] at h
    have e : j = 0 := by omega
    rw [e]; rfl
  | false =>
    rw [if_neg (by decide)] at h
    have e : j = 1 := by omega
    rw [e]; rfl
theorem psh_ke {ac k ke a2 : Nat} {n : KN} {su : Nat → KN} (h : ∀ j, j < ac → nKe (su j) ≤ k) (h20 : ac ≤ 20) (hk : nKe n ≤ k) (h2 : a2 = min (ac + 1) 20) : ∀ j, j < a2 → nKe (psh ac su n j) ≤ k := fun j hj => by
  subst h2
  rcases psh_c h20 hj with q | ⟨i, hi, q⟩
  · rw [q]; exact hk
  · rw [q]; exact h i hi
set_option maxHeartbeats 4000000 in
set_option maxRecDepth 100000 in
theorem c_nm_refuses (l : Launch) (D : va_G) (cI cJ cC cZ cS : ClassId) (mm : Nat) (g : Nat → Nat) (ta : Nat) (pa : Nat) (pe : Nat) (pd : Int32) (pb : Nat) (pp : Int32) (pf : Int32) (pg : Int32) (pn : Int32) (rt : Int32) (rn : Int32) (cd : Nat) (sn : Int32) (il : Nat) (tk : Int32) (am : Int32) (at_ : Int32) (aa : Int32) (wt : Int32) (wy : Int64) (rm : Nat) (ud : Nat) (nu : Nat) (sd : Int64) (qn : Nat) (qw : Nat) (qo : Int32) (qb : Nat) (qp : Nat) (qa : Int64) (qi : Nat) (oc : Nat) (w : Nat) (rf : Nat → Int32) (hw : w < 6) : skM l yX12_refuses cX12_refuses 2 (some .int) 0 0 0 0 D (skT cI cJ cC cZ cS) [.ref mm, .int (nI w)] [ro_ mm 12 (mo g (nI ta) (nI pa) (nI pe) pd (nI pb) pp pf pg pn rt rn (nI cd) sn (nI il) tk am at_ aa 0 0 (-1) wt wy 0 (nI rm) (nI ud) (nI nu) sd (nI qn) (nI qw) qo (nI qb) (nI qp) qa (nI qi) (nI oc)), ra_I (g 9) cI 6 rf] (skI D (skT cI cJ cC cZ cS) (fun (r : Int32) (u : va_W) => ∃ (rf2 : Nat → Int32), rf2 = upd rf w (rf w + 1) ∧ r = (-1) ∧ u = [ro_ mm 12 (mo g (nI ta) (nI pa) (nI pe) pd (nI pb) pp pf pg pn rt rn (nI cd) sn (nI il) tk am at_ aa 0 0 (-1) wt wy 0 (nI rm) (nI ud) (nI nu) sd (nI qn) (nI qw) qo (nI qb) (nI qp) qa (nI qi) (nI oc)), ra_I (g 9) cI 6 rf2])) := by
  refine skM_of pf_X12_refuses (Nat.le_of_ble_eq_true rfl) ?_
  intro p e s m below meth c A ls E hP hD hl
  refine skE_el E (fun hx hb hr hml hlocks hin hown hts hK hA => ?_)
  have hown : s.vm.findClass RX12 = some m.cls := hown
  have hS : va_S A s.heap s.heap [] := va_S.rf
  have hl : lv_has ls 2 [(0, .ref mm), (1, .int (nI w))] := hl
  refine lv_aload_n hx hb dX12_refuses_0 rfl (lv_at hl 0 rfl) ?_
  refine sk_get (v := .ref (g 9)) (C := RX12) (T := TX12) (N := 92) hx hb hts inlX12 hown hK hP 0 rfl rfl 9 (Nat.le_of_ble_eq_true rfl) w_5_164 rfl dX12_refuses_1 ?_
  refine lv_iload_n hx hb dX12_refuses_4 rfl (lv_at hl 1 rfl) ?_
  refine lv_dup2_11 hx hb dX12_refuses_5 rfl rfl ?_
  refine va_iald hx hb hK.1 hP 1 0 rfl rfl (vin w 6 (by omega) (Nat.le_of_ble_eq_true rfl)) dX12_refuses_6 ?_
  refine sk_top (rf w) (by rw [nI_clamp (by omega)]) ?_
  refine lv_iconst (v := 1) hx hb dX12_refuses_7 ic_1 ?_
  refine lv_iadd hx hb dX12_refuses_8 ?_
  refine sk_iastE (k := w) (ws' := fun f_1 => [ro_ mm 12 (mo g (nI ta) (nI pa) (nI pe) pd (nI pb) pp pf pg pn rt rn (nI cd) sn (nI il) tk am at_ aa 0 0 (-1) wt wy 0 (nI rm) (nI ud) (nI nu) sd (nI qn) (nI qw) qo (nI qb) (nI qp) qa (nI qi) (nI oc)), ra_I (g 9) cI 6 f_1]) hx hb hK hP hD hS 1 0 rfl rfl (by omega) (by omega) (fun _ => rfl) dX12_refuses_9 (fun f_1 H locs ef_2 hP hD hS => ?_)
  refine lv_iconst (v := (-1)) hx hb dX12_refuses_10 (by decide) ?_
  exact sk_iret hx hb hr rfl hlocks hK hP hD hS (⟨f_1, ef_2, rfl, rfl⟩) (Nat.le_of_ble_eq_true rfl) (Nat.le_of_ble_eq_true rfl) dX12_refuses_11
theorem dg_X12_feed_0_0 : bqL cX12_feed 0 [(0, [42]), (1, [180, 0, 192]), (4, [16, 20]), (6, [96]), (7, [17, 6, 64]), (10, [164, 0, 15]), (25, [3]), (26, [54, 6]), (28, [21, 6]), (30, [16, 20]), (32, [162, 0, 92]), (124, [42]), (125, [180, 0, 192]), (128, [172]), (35, [21, 6]), (37, [7]), (38, [162, 0, 7]), (45, [21, 6]), (47, [16, 8]), (49, [162, 0, 7]), (56, [21, 6]), (58, [16, 12]), (60, [162, 0, 7]), (67, [21, 6]), (69, [16, 16]), (71, [162, 0, 8]), (79, [21, 5]), (81, [54, 7]), (83, [42]), (84, [180, 0, 7]), (87, [42]), (88, [180, 0, 192]), (91, [21, 7]), (93, [16, 8]), (95, [6]), (96, [21, 6]), (98, [7]), (99, [112]), (100, [100]), (101, [104])] = true := by decide +kernel
theorem dX12_feed_0 : decode cX12_feed 0 = .ok (.aload_n 0, 1) := q_aload_n0 (bat_get dg_X12_feed_0_0 0 rfl rfl)
theorem dX12_feed_1 : decode cX12_feed 1 = .ok (.getfield 192, 3) := q_getfield (bat_get dg_X12_feed_0_0 1 rfl rfl) rfl
theorem dX12_feed_4 : decode cX12_feed 4 = .ok (.bipush 20, 2) := q_bipush (bat_get dg_X12_feed_0_0 2 rfl rfl) rfl
theorem dX12_feed_6 : decode cX12_feed 6 = .ok (.iadd, 1) := q_iadd (bat_get dg_X12_feed_0_0 3 rfl rfl)
theorem dX12_feed_7 : decode cX12_feed 7 = .ok (.sipush 1600, 3) := q_sipush (bat_get dg_X12_feed_0_0 4 rfl rfl) rfl
theorem dX12_feed_10 : decode cX12_feed 10 = .ok (.if_icmp .le 15, 3) := q_if_icmp_le (bat_get dg_X12_feed_0_0 5 rfl rfl) rfl
theorem dX12_feed_25 : decode cX12_feed 25 = .ok (.iconst 0, 1) := q_iconst0 (bat_get dg_X12_feed_0_0 6 rfl rfl)
theorem dX12_feed_26 : decode cX12_feed 26 = .ok (.istore 6, 2) := q_istore (bat_get dg_X12_feed_0_0 7 rfl rfl)
theorem dX12_feed_28 : decode cX12_feed 28 = .ok (.iload 6, 2) := q_iload (bat_get dg_X12_feed_0_0 8 rfl rfl)
theorem dX12_feed_30 : decode cX12_feed 30 = .ok (.bipush 20, 2) := q_bipush (bat_get dg_X12_feed_0_0 9 rfl rfl) rfl
theorem dX12_feed_32 : decode cX12_feed 32 = .ok (.if_icmp .ge 92, 3) := q_if_icmp_ge (bat_get dg_X12_feed_0_0 10 rfl rfl) rfl
theorem dX12_feed_124 : decode cX12_feed 124 = .ok (.aload_n 0, 1) := q_aload_n0 (bat_get dg_X12_feed_0_0 11 rfl rfl)
theorem dX12_feed_125 : decode cX12_feed 125 = .ok (.getfield 192, 3) := q_getfield (bat_get dg_X12_feed_0_0 12 rfl rfl) rfl
theorem dX12_feed_128 : decode cX12_feed 128 = .ok (.ireturn, 1) := q_ireturn (bat_get dg_X12_feed_0_0 13 rfl rfl)
theorem dX12_feed_35 : decode cX12_feed 35 = .ok (.iload 6, 2) := q_iload (bat_get dg_X12_feed_0_0 14 rfl rfl)
theorem dX12_feed_37 : decode cX12_feed 37 = .ok (.iconst 4, 1) := q_iconst4 (bat_get dg_X12_feed_0_0 15 rfl rfl)
theorem dX12_feed_38 : decode cX12_feed 38 = .ok (.if_icmp .ge 7, 3) := q_if_icmp_ge (bat_get dg_X12_feed_0_0 16 rfl rfl) rfl
theorem dX12_feed_45 : decode cX12_feed 45 = .ok (.iload 6, 2) := q_iload (bat_get dg_X12_feed_0_0 17 rfl rfl)
theorem dX12_feed_47 : decode cX12_feed 47 = .ok (.bipush 8, 2) := q_bipush (bat_get dg_X12_feed_0_0 18 rfl rfl) rfl
theorem dX12_feed_49 : decode cX12_feed 49 = .ok (.if_icmp .ge 7, 3) := q_if_icmp_ge (bat_get dg_X12_feed_0_0 19 rfl rfl) rfl
theorem dX12_feed_56 : decode cX12_feed 56 = .ok (.iload 6, 2) := q_iload (bat_get dg_X12_feed_0_0 20 rfl rfl)
theorem dX12_feed_58 : decode cX12_feed 58 = .ok (.bipush 12, 2) := q_bipush (bat_get dg_X12_feed_0_0 21 rfl rfl) rfl
theorem dX12_feed_60 : decode cX12_feed 60 = .ok (.if_icmp .ge 7, 3) := q_if_icmp_ge (bat_get dg_X12_feed_0_0 22 rfl rfl) rfl
theorem dX12_feed_67 : decode cX12_feed 67 = .ok (.iload 6, 2) := q_iload (bat_get dg_X12_feed_0_0 23 rfl rfl)
theorem dX12_feed_69 : decode cX12_feed 69 = .ok (.bipush 16, 2) := q_bipush (bat_get dg_X12_feed_0_0 24 rfl rfl) rfl
theorem dX12_feed_71 : decode cX12_feed 71 = .ok (.if_icmp .ge 8, 3) := q_if_icmp_ge (bat_get dg_X12_feed_0_0 25 rfl rfl) rfl
theorem dX12_feed_79 : decode cX12_feed 79 = .ok (.iload 5, 2) := q_iload (bat_get dg_X12_feed_0_0 26 rfl rfl)
theorem dX12_feed_81 : decode cX12_feed 81 = .ok (.istore 7, 2) := q_istore (bat_get dg_X12_feed_0_0 27 rfl rfl)
theorem dX12_feed_83 : decode cX12_feed 83 = .ok (.aload_n 0, 1) := q_aload_n0 (bat_get dg_X12_feed_0_0 28 rfl rfl)
theorem dX12_feed_84 : decode cX12_feed 84 = .ok (.getfield 7, 3) := q_getfield (bat_get dg_X12_feed_0_0 29 rfl rfl) rfl
theorem dX12_feed_87 : decode cX12_feed 87 = .ok (.aload_n 0, 1) := q_aload_n0 (bat_get dg_X12_feed_0_0 30 rfl rfl)
theorem dX12_feed_88 : decode cX12_feed 88 = .ok (.getfield 192, 3) := q_getfield (bat_get dg_X12_feed_0_0 31 rfl rfl) rfl
theorem dX12_feed_91 : decode cX12_feed 91 = .ok (.iload 7, 2) := q_iload (bat_get dg_X12_feed_0_0 32 rfl rfl)
theorem dX12_feed_93 : decode cX12_feed 93 = .ok (.bipush 8, 2) := q_bipush (bat_get dg_X12_feed_0_0 33 rfl rfl) rfl
theorem dX12_feed_95 : decode cX12_feed 95 = .ok (.iconst 3, 1) := q_iconst3 (bat_get dg_X12_feed_0_0 34 rfl rfl)
theorem dX12_feed_96 : decode cX12_feed 96 = .ok (.iload 6, 2) := q_iload (bat_get dg_X12_feed_0_0 35 rfl rfl)
theorem dX12_feed_98 : decode cX12_feed 98 = .ok (.iconst 4, 1) := q_iconst4 (bat_get dg_X12_feed_0_0 36 rfl rfl)
theorem dX12_feed_99 : decode cX12_feed 99 = .ok (.irem, 1) := q_irem (bat_get dg_X12_feed_0_0 37 rfl rfl)
theorem dX12_feed_100 : decode cX12_feed 100 = .ok (.isub, 1) := q_isub (bat_get dg_X12_feed_0_0 38 rfl rfl)
theorem dX12_feed_101 : decode cX12_feed 101 = .ok (.imul, 1) := q_imul (bat_get dg_X12_feed_0_0 39 rfl rfl)
theorem dg_X12_feed_13_102 : bqL cX12_feed 13 [(89, [122]), (90, [17, 0, 255]), (93, [126]), (94, [79]), (95, [42]), (96, [89]), (97, [180, 0, 192]), (100, [4]), (101, [96]), (102, [181, 0, 192]), (105, [132, 6, 1]), (108, [167, 255, 163]), (61, [21, 4]), (63, [167, 0, 5]), (50, [29]), (51, [167, 0, 17]), (39, [28]), (40, [167, 0, 28]), (28, [27]), (29, [167, 0, 39]), (0, [42]), (1, [180, 0, 17]), (4, [3]), (5, [92]), (6, [46]), (7, [4]), (8, [96]), (9, [79]), (10, [2]), (11, [172])] = true := by decide +kernel
theorem dX12_feed_102 : decode cX12_feed 102 = .ok (.ishr, 1) := q_ishr (bat_get dg_X12_feed_13_102 0 rfl rfl)
theorem dX12_feed_103 : decode cX12_feed 103 = .ok (.sipush 255, 3) := q_sipush (bat_get dg_X12_feed_13_102 1 rfl rfl) rfl
theorem dX12_feed_106 : decode cX12_feed 106 = .ok (.iand, 1) := q_iand (bat_get dg_X12_feed_13_102 2 rfl rfl)
theorem dX12_feed_107 : decode cX12_feed 107 = .ok (.iastore, 1) := q_iastore (bat_get dg_X12_feed_13_102 3 rfl rfl)
theorem dX12_feed_108 : decode cX12_feed 108 = .ok (.aload_n 0, 1) := q_aload_n0 (bat_get dg_X12_feed_13_102 4 rfl rfl)
theorem dX12_feed_109 : decode cX12_feed 109 = .ok (.dup, 1) := q_dup (bat_get dg_X12_feed_13_102 5 rfl rfl)
theorem dX12_feed_110 : decode cX12_feed 110 = .ok (.getfield 192, 3) := q_getfield (bat_get dg_X12_feed_13_102 6 rfl rfl) rfl
theorem dX12_feed_113 : decode cX12_feed 113 = .ok (.iconst 1, 1) := q_iconst1 (bat_get dg_X12_feed_13_102 7 rfl rfl)
theorem dX12_feed_114 : decode cX12_feed 114 = .ok (.iadd, 1) := q_iadd (bat_get dg_X12_feed_13_102 8 rfl rfl)
theorem dX12_feed_115 : decode cX12_feed 115 = .ok (.putfield 192, 3) := q_putfield (bat_get dg_X12_feed_13_102 9 rfl rfl) rfl
theorem dX12_feed_118 : decode cX12_feed 118 = .ok (.iinc 6 1, 3) := q_iinc (bat_get dg_X12_feed_13_102 10 rfl rfl) rfl
theorem dX12_feed_121 : decode cX12_feed 121 = .ok (.goto (-93), 3) := q_goto (bat_get dg_X12_feed_13_102 11 rfl rfl) rfl
theorem dX12_feed_74 : decode cX12_feed 74 = .ok (.iload 4, 2) := q_iload (bat_get dg_X12_feed_13_102 12 rfl rfl)
theorem dX12_feed_76 : decode cX12_feed 76 = .ok (.goto 5, 3) := q_goto (bat_get dg_X12_feed_13_102 13 rfl rfl) rfl
theorem dX12_feed_63 : decode cX12_feed 63 = .ok (.iload_n 3, 1) := q_iload_n3 (bat_get dg_X12_feed_13_102 14 rfl rfl)
theorem dX12_feed_64 : decode cX12_feed 64 = .ok (.goto 17, 3) := q_goto (bat_get dg_X12_feed_13_102 15 rfl rfl) rfl
theorem dX12_feed_52 : decode cX12_feed 52 = .ok (.iload_n 2, 1) := q_iload_n2 (bat_get dg_X12_feed_13_102 16 rfl rfl)
theorem dX12_feed_53 : decode cX12_feed 53 = .ok (.goto 28, 3) := q_goto (bat_get dg_X12_feed_13_102 17 rfl rfl) rfl
theorem dX12_feed_41 : decode cX12_feed 41 = .ok (.iload_n 1, 1) := q_iload_n1 (bat_get dg_X12_feed_13_102 18 rfl rfl)
theorem dX12_feed_42 : decode cX12_feed 42 = .ok (.goto 39, 3) := q_goto (bat_get dg_X12_feed_13_102 19 rfl rfl) rfl
theorem dX12_feed_13 : decode cX12_feed 13 = .ok (.aload_n 0, 1) := q_aload_n0 (bat_get dg_X12_feed_13_102 20 rfl rfl)
theorem dX12_feed_14 : decode cX12_feed 14 = .ok (.getfield 17, 3) := q_getfield (bat_get dg_X12_feed_13_102 21 rfl rfl) rfl
theorem dX12_feed_17 : decode cX12_feed 17 = .ok (.iconst 0, 1) := q_iconst0 (bat_get dg_X12_feed_13_102 22 rfl rfl)
theorem dX12_feed_18 : decode cX12_feed 18 = .ok (.dup2, 1) := q_dup2 (bat_get dg_X12_feed_13_102 23 rfl rfl)
theorem dX12_feed_19 : decode cX12_feed 19 = .ok (.iaload, 1) := q_iaload (bat_get dg_X12_feed_13_102 24 rfl rfl)
theorem dX12_feed_20 : decode cX12_feed 20 = .ok (.iconst 1, 1) := q_iconst1 (bat_get dg_X12_feed_13_102 25 rfl rfl)
theorem dX12_feed_21 : decode cX12_feed 21 = .ok (.iadd, 1) := q_iadd (bat_get dg_X12_feed_13_102 26 rfl rfl)
theorem dX12_feed_22 : decode cX12_feed 22 = .ok (.iastore, 1) := q_iastore (bat_get dg_X12_feed_13_102 27 rfl rfl)
theorem dX12_feed_23 : decode cX12_feed 23 = .ok (.iconst (-1), 1) := q_iconstm1 (bat_get dg_X12_feed_13_102 28 rfl rfl)
theorem dX12_feed_24 : decode cX12_feed 24 = .ok (.ireturn, 1) := q_ireturn (bat_get dg_X12_feed_13_102 29 rfl rfl)
theorem w_5_156 : (Cond.fieldLink RX12 192 "SameKeeperModel" "taped" "I") ∈ wsL_law := sk_mem (ck_5 _ (List.mem_of_getElem? (i := 156) rfl)) rfl
theorem w_6_197 : (Cond.code yX12_feed cX12_feed 8 (some .int)) ∈ wsL_law := sk_mem (ck_6 _ (List.mem_of_getElem? (i := 197) rfl)) rfl
set_option maxHeartbeats 4000000 in
set_option maxRecDepth 100000 in
theorem c_nm_feed (l : Launch) (D : va_G) (cI cJ cC cZ cS : ClassId) (mm : Nat) (g : Nat → Nat) (ta : Nat) (pa : Nat) (pe : Nat) (pd : Int32) (pb : Nat) (pp : Int32) (pf : Int32) (pg : Int32) (pn : Int32) (rt : Int32) (rn : Int32) (cd : Nat) (sn : Int32) (il : Nat) (tk : Int32) (am : Int32) (at_ : Int32) (aa : Int32) (wt : Int32) (wy : Int64) (rm : Nat) (ud : Nat) (nu : Nat) (sd : Int64) (qn : Nat) (qw : Nat) (qo : Int32) (qb : Nat) (qp : Nat) (qa : Int64) (qi : Nat) (oc : Nat) (a1 : Int32) (a2 : Int32) (a3 : Int32) (a4 : Int32) (a5 : Int32) (tb : Nat → Nat) (rf : Nat → Int32) (hta : ta ≤ 1600) (htb : ∀ j, tb j ≤ 255) : skM l yX12_feed cX12_feed 8 (some .int) 0 0 0 0 D (skT cI cJ cC cZ cS) [.ref mm, .int a1, .int a2, .int a3, .int a4, .int a5] [ro_ mm 12 (mo g (nI ta) (nI pa) (nI pe) pd (nI pb) pp pf pg pn rt rn (nI cd) sn (nI il) tk am at_ aa 0 0 (-1) wt wy 0 (nI rm) (nI ud) (nI nu) sd (nI qn) (nI qw) qo (nI qb) (nI qp) qa (nI qi) (nI oc)), ra_N (g 0) cI 1600 tb, ra_I (g 9) cI 6 rf] (skI D (skT cI cJ cC cZ cS) (fun (r : Int32) (u : va_W) => ∃ (ta2 : Nat), ∃ (tb2 : Nat → Nat), ∃ (rf2 : Nat → Int32), ((ta ≤ 1580 ∧ ta2 = ta + 20 ∧ r = nI ta2 ∧ tb2 = feedT tb ta a1 a2 a3 a4 a5) ∨ (1580 < ta ∧ ta2 = ta ∧ r = -1 ∧ tb2 = tb)) ∧ ((ta ≤ 1580 ∧ rf2 = rf) ∨ (1580 < ta ∧ rf2 = upd rf 0 (rf 0 + 1))) ∧ (∀ j, tb2 j ≤ 255) ∧ u = [ro_ mm 12 (mo g (nI ta2) (nI pa) (nI pe) pd (nI pb) pp pf pg pn rt rn (nI cd) sn (nI il) tk am at_ aa 0 0 (-1) wt wy 0 (nI rm) (nI ud) (nI nu) sd (nI qn) (nI qw) qo (nI qb) (nI qp) qa (nI qi) (nI oc)), ra_N (g 0) cI 1600 tb2, ra_I (g 9) cI 6 rf2])) := by
  refine skM_of pf_X12_feed (Nat.le_of_ble_eq_true rfl) ?_
  intro p e s m below meth c A ls E hP hD hl
  refine skE_el E (fun hx hb hr hml hlocks hin hown hts hK hA => ?_)
  have hown : s.vm.findClass RX12 = some m.cls := hown
  have hS : va_S A s.heap s.heap [] := va_S.rf
  have hl : lv_has ls 8 [(0, .ref mm), (1, .int a1), (2, .int a2), (3, .int a3), (4, .int a4), (5, .int a5)] := hl
  refine lv_aload_n hx hb dX12_feed_0 rfl (lv_at hl 0 rfl) ?_
  refine sk_get (v := .int (nI ta)) (C := RX12) (T := TX12) (N := 92) hx hb hts inlX12 hown hK hP 0 rfl rfl 1 (Nat.le_of_ble_eq_true rfl) w_5_156 rfl dX12_feed_1 ?_
  refine lv_bipush (v := 20) hx hb dX12_feed_4 (by decide) ?_
  refine lv_iadd hx hb dX12_feed_6 ?_
  refine sk_top (nI (ta + 20)) (nI_add ta 20) ?_
  refine lv_sipush (v := 1600) hx hb dX12_feed_7 (by decide) ?_
  refine lv_icmp_le (tgt := 25) hx hb dX12_feed_10 (by decide) (fun c_1 => ?_) (fun c_1 => ?_)
  · have c_1 : ta + 20 ≤ 1600 := (nle (ta + 20) 1600 (by omega) (Nat.le_of_ble_eq_true rfl)).mp c_1
    refine lv_iconst (v := 0) hx hb dX12_feed_25 ic_0 ?_
    refine lv_istore (lv' := [(6, .int 0), (0, .ref mm), (1, .int a1), (2, .int a2), (3, .int a3), (4, .int a4), (5, .int a5)]) hx hb dX12_feed_26 hl (by decide) rfl (fun ls hl => ?_)
    have lp_2 : ∀ (n_3 : Nat) (i : Nat) (zt : Nat) (zb : Nat → Nat) (H : Heap) (locs : List Loc) (ls : Array Slot), 20 - i < n_3 → (∀ j, zb j ≤ 255) → (i ≤ 20) → (zt = ta + i) → (zb = feedN tb ta (wByte a1 a2 a3 a4 a5) i) → va_P D vwCl [ro_ mm 12 (mo g (nI zt) (nI pa) (nI pe) pd (nI pb) pp pf pg pn rt rn (nI cd) sn (nI il) tk am at_ aa 0 0 (-1) wt wy 0 (nI rm) (nI ud) (nI nu) sd (nI qn) (nI qw) qo (nI qb) (nI qp) qa (nI qi) (nI oc)), ra_N (g 0) cI 1600 zb, ra_I (g 9) cI 6 rf] H → va_D A [ro_ mm 12 (mo g (nI zt) (nI pa) (nI pe) pd (nI pb) pp pf pg pn rt rn (nI cd) sn (nI il) tk am at_ aa 0 0 (-1) wt wy 0 (nI rm) (nI ud) (nI nu) sd (nI qn) (nI qw) qo (nI qb) (nI qp) qa (nI qi) (nI oc)), ra_N (g 0) cI 1600 zb, ra_I (g 9) cI 6 rf] → va_S A s.heap H locs → lv_has ls 8 [(6, .int (nI i)), (0, .ref mm), (1, .int a1), (2, .int a2), (3, .int a3), (4, .int a4), (5, .int a5)] → W p l e { frames := 0, cells := 0, slots := 0, locals := 0 } s m ([.ref mm, .int a1, .int a2, .int a3, .int a4, .int a5] : List Value).toArray below meth c H locs 0 0 (MQ below (skI D (skT cI cJ cC cZ cS) (fun (r : Int32) (u : va_W) => ∃ (ta2 : Nat), ∃ (tb2 : Nat → Nat), ∃ (rf2 : Nat → Int32), ((ta ≤ 1580 ∧ ta2 = ta + 20 ∧ r = nI ta2 ∧ tb2 = feedT tb ta a1 a2 a3 a4 a5) ∨ (1580 < ta ∧ ta2 = ta ∧ r = -1 ∧ tb2 = tb)) ∧ ((ta ≤ 1580 ∧ rf2 = rf) ∨ (1580 < ta ∧ rf2 = upd rf 0 (rf 0 + 1))) ∧ (∀ j, tb2 j ≤ 255) ∧ u = [ro_ mm 12 (mo g (nI ta2) (nI pa) (nI pe) pd (nI pb) pp pf pg pn rt rn (nI cd) sn (nI il) tk am at_ aa 0 0 (-1) wt wy 0 (nI rm) (nI ud) (nI nu) sd (nI qn) (nI qw) qo (nI qb) (nI qp) qa (nI qi) (nI oc)), ra_N (g 0) cI 1600 tb2, ra_I (g 9) cI 6 rf2]) A) ([.ref mm, .int a1, .int a2, .int a3, .int a4, .int a5] : List Value).toArray s 0 0 A) (F0 m 28 ls []) := by
      intro n_3
      induction n_3 with
      | zero => intro i zt zb H locs ls hm; exact absurd hm (Nat.not_lt_zero _)
      | succ n_3 ih_lp_2 =>
        intro i zt zb H locs ls hm hzb hi hzt hzf hP hD hS hl
        refine lv_iload hx hb dX12_feed_28 (lv_at hl 0 rfl) ?_
        refine lv_bipush (v := 20) hx hb dX12_feed_30 (by decide) ?_
        refine lv_icmp_ge (tgt := 124) hx hb dX12_feed_32 (by decide) (fun c_4 => ?_) (fun c_4 => ?_)
        · have c_4 : 20 ≤ i := (nle 20 i (Nat.le_of_ble_eq_true rfl) (by omega)).mp c_4
          refine lv_aload_n hx hb dX12_feed_124 rfl (lv_at hl 1 rfl) ?_
          refine sk_get (v := .int (nI zt)) (C := RX12) (T := TX12) (N := 92) hx hb hts inlX12 hown hK hP 0 rfl rfl 1 (Nat.le_of_ble_eq_true rfl) w_5_156 rfl dX12_feed_125 ?_
          exact sk_iret hx hb hr rfl hlocks hK hP hD hS (⟨zt, zb, rf, Or.inl ⟨by omega, by omega, rfl, fd_20 hzf (by omega)⟩, Or.inl ⟨by omega, rfl⟩, hzb, rfl⟩) (Nat.le_of_ble_eq_true rfl) (Nat.le_of_ble_eq_true rfl) dX12_feed_128
        · have c_4 : ¬ (20 ≤ i) := fun h => c_4 ((nle 20 i (Nat.le_of_ble_eq_true rfl) (by omega)).mpr h)
          refine lv_iload hx hb dX12_feed_35 (lv_at hl 0 rfl) ?_
          refine lv_iconst (v := 4) hx hb dX12_feed_37 ic_4 ?_
          refine lv_icmp_ge (tgt := 45) hx hb dX12_feed_38 (by decide) (fun c_5 => ?_) (fun c_5 => ?_)
          · have c_5 : 4 ≤ i := (nle 4 i (Nat.le_of_ble_eq_true rfl) (by omega)).mp c_5
            refine lv_iload hx hb dX12_feed_45 (lv_at hl 0 rfl) ?_
            refine lv_bipush (v := 8) hx hb dX12_feed_47 (by decide) ?_
            refine lv_icmp_ge (tgt := 56) hx hb dX12_feed_49 (by decide) (fun c_6 => ?_) (fun c_6 => ?_)
            · have c_6 : 8 ≤ i := (nle 8 i (Nat.le_of_ble_eq_true rfl) (by omega)).mp c_6
              refine lv_iload hx hb dX12_feed_56 (lv_at hl 0 rfl) ?_
              refine lv_bipush (v := 12) hx hb dX12_feed_58 (by decide) ?_
              refine lv_icmp_ge (tgt := 67) hx hb dX12_feed_60 (by decide) (fun c_7 => ?_) (fun c_7 => ?_)
              · have c_7 : 12 ≤ i := (nle 12 i (Nat.le_of_ble_eq_true rfl) (by omega)).mp c_7
                refine lv_iload hx hb dX12_feed_67 (lv_at hl 0 rfl) ?_
                refine lv_bipush (v := 16) hx hb dX12_feed_69 (by decide) ?_
                refine lv_icmp_ge (tgt := 79) hx hb dX12_feed_71 (by decide) (fun c_8 => ?_) (fun c_8 => ?_)
                · have c_8 : 16 ≤ i := (nle 16 i (Nat.le_of_ble_eq_true rfl) (by omega)).mp c_8
                  refine lv_iload hx hb dX12_feed_79 (lv_at hl 6 rfl) ?_
                  refine lv_istore (lv' := [(7, .int a5), (6, .int (nI i)), (0, .ref mm), (1, .int a1), (2, .int a2), (3, .int a3), (4, .int a4), (5, .int a5)]) hx hb dX12_feed_81 hl (by decide) rfl (fun ls hl => ?_)
                  refine lv_aload_n hx hb dX12_feed_83 rfl (lv_at hl 2 rfl) ?_
                  refine sk_get (v := .ref (g 0)) (C := RX12) (T := TX12) (N := 92) hx hb hts inlX12 hown hK hP 0 rfl rfl 0 (Nat.le_of_ble_eq_true rfl) w_5_155 rfl dX12_feed_84 ?_
                  refine lv_aload_n hx hb dX12_feed_87 rfl (lv_at hl 2 rfl) ?_
                  refine sk_get (v := .int (nI zt)) (C := RX12) (T := TX12) (N := 92) hx hb hts inlX12 hown hK hP 0 rfl rfl 1 (Nat.le_of_ble_eq_true rfl) w_5_156 rfl dX12_feed_88 ?_
                  refine lv_iload hx hb dX12_feed_91 (lv_at hl 0 rfl) ?_
                  refine lv_bipush (v := 8) hx hb dX12_feed_93 (by decide) ?_
                  refine lv_iconst (v := 3) hx hb dX12_feed_95 ic_3 ?_
                  refine lv_iload hx hb dX12_feed_96 (lv_at hl 1 rfl) ?_
                  refine lv_iconst (v := 4) hx hb dX12_feed_98 ic_4 ?_
                  refine lv_irem hx hb dX12_feed_99 (by decide) ?_
                  refine sk_top (nI (i % 4)) (nrem i 4 (by omega) (by omega) (by omega)) ?_
                  refine lv_isub hx hb dX12_feed_100 ?_
                  refine sk_top (nI (3 - (i % 4))) (nsub 3 (i % 4) (by omega)) ?_
                  refine lv_imul hx hb dX12_feed_101 ?_
                  refine sk_top (nI (8 * (3 - (i % 4)))) (nmul 8 (3 - (i % 4))) ?_
                  refine lv_ishr hx hb dX12_feed_102 ?_
                  refine lv_topi (fun v_9 ev_9 => ?_)
                  refine lv_sipush (v := 255) hx hb dX12_feed_103 (by decide) ?_
                  refine lv_iand hx hb dX12_feed_106 ?_
                  have hlo_10 := lo8_le v_9
                  refine sk_top (nI (lo8 v_9)) (lo8_eq v_9) ?_
                  refine sk_iastX (k := zt) (v := (lo8 v_9)) (B := 255) (ws' := fun f_11 => [ro_ mm 12 (mo g (nI zt) (nI pa) (nI pe) pd (nI pb) pp pf pg pn rt rn (nI cd) sn (nI il) tk am at_ aa 0 0 (-1) wt wy 0 (nI rm) (nI ud) (nI nu) sd (nI qn) (nI qw) qo (nI qb) (nI qp) qa (nI qi) (nI oc)), ra_N (g 0) cI 1600 f_11, ra_I (g 9) cI 6 rf]) hx hb hK hP hD hS 1 0 rfl rfl (by omega) (by omega) hzb (by omega) (fun _ => rfl) dX12_feed_107 (fun f_11 H locs hf_12 ef_13 hP hD hS => ?_)
                  refine lv_aload_n hx hb dX12_feed_108 rfl (lv_at hl 2 rfl) ?_
                  refine lv_dup hx hb dX12_feed_109 rfl ?_
                  refine sk_get (v := .int (nI zt)) (C := RX12) (T := TX12) (N := 92) hx hb hts inlX12 hown hK hP 0 rfl rfl 1 (Nat.le_of_ble_eq_true rfl) w_5_156 rfl dX12_feed_110 ?_
                  refine lv_iconst (v := 1) hx hb dX12_feed_113 ic_1 ?_
                  refine lv_iadd hx hb dX12_feed_114 ?_
                  refine sk_top (nI (zt + 1)) (nI_add zt 1) ?_
                  refine sk_put (ws' := [ro_ mm 12 (mo g (nI (zt + 1)) (nI pa) (nI pe) pd (nI pb) pp pf pg pn rt rn (nI cd) sn (nI il) tk am at_ aa 0 0 (-1) wt wy 0 (nI rm) (nI ud) (nI nu) sd (nI qn) (nI qw) qo (nI qb) (nI qp) qa (nI qi) (nI oc)), ra_N (g 0) cI 1600 f_11, ra_I (g 9) cI 6 rf]) (C := RX12) (T := TX12) (N := 92) (v := .int (nI (zt + 1))) hx hb hts inlX12 tyX12 tyX12_ok nmX12 hown hK hP hD hS 0 rfl rfl 1 (Nat.le_of_ble_eq_true rfl) w_5_156 rfl rfl rfl (Nat.le_of_ble_eq_true rfl) rfl dX12_feed_115 (fun H locs hP hD hS => ?_)
                  refine lv_iinc (v := nI (i + 1)) (lv' := [(6, .int (nI (i + 1))), (7, .int a5), (0, .ref mm), (1, .int a1), (2, .int a2), (3, .int a3), (4, .int a4), (5, .int a5)]) hx hb dX12_feed_118 hl (k := 1) rfl (ninc i 1 (by decide)) (by decide) rfl (fun ls hl => ?_)
                  refine lv_goto (tgt := 28) hx hb dX12_feed_121 (by decide) ?_
                  exact ih_lp_2 (i + 1) (zt + 1) f_11 _ _ _ (by omega) hf_12 (by omega) (by omega) (fd_s hzf hzt ef_13 ev_9 ((if_neg (by omega)).trans ((if_neg (by omega)).trans ((if_neg (by omega)).trans ((if_neg (by omega)).trans rfl))))) hP hD hS (lv_sub hl [0, 2, 3, 4, 5, 6, 7] rfl)
                · have c_8 : ¬ (16 ≤ i) := fun h => c_8 ((nle 16 i (Nat.le_of_ble_eq_true rfl) (by omega)).mpr h)
                  refine lv_iload hx hb dX12_feed_74 (lv_at hl 5 rfl) ?_
                  refine lv_goto (tgt := 81) hx hb dX12_feed_76 (by decide) ?_
                  refine lv_istore (lv' := [(7, .int a4), (6, .int (nI i)), (0, .ref mm), (1, .int a1), (2, .int a2), (3, .int a3), (4, .int a4), (5, .int a5)]) hx hb dX12_feed_81 hl (by decide) rfl (fun ls hl => ?_)
                  refine lv_aload_n hx hb dX12_feed_83 rfl (lv_at hl 2 rfl) ?_
                  refine sk_get (v := .ref (g 0)) (C := RX12) (T := TX12) (N := 92) hx hb hts inlX12 hown hK hP 0 rfl rfl 0 (Nat.le_of_ble_eq_true rfl) w_5_155 rfl dX12_feed_84 ?_
                  refine lv_aload_n hx hb dX12_feed_87 rfl (lv_at hl 2 rfl) ?_
                  refine sk_get (v := .int (nI zt)) (C := RX12) (T := TX12) (N := 92) hx hb hts inlX12 hown hK hP 0 rfl rfl 1 (Nat.le_of_ble_eq_true rfl) w_5_156 rfl dX12_feed_88 ?_
                  refine lv_iload hx hb dX12_feed_91 (lv_at hl 0 rfl) ?_
                  refine lv_bipush (v := 8) hx hb dX12_feed_93 (by decide) ?_
                  refine lv_iconst (v := 3) hx hb dX12_feed_95 ic_3 ?_
                  refine lv_iload hx hb dX12_feed_96 (lv_at hl 1 rfl) ?_
                  refine lv_iconst (v := 4) hx hb dX12_feed_98 ic_4 ?_
                  refine lv_irem hx hb dX12_feed_99 (by decide) ?_
                  refine sk_top (nI (i % 4)) (nrem i 4 (by omega) (by omega) (by omega)) ?_
                  refine lv_isub hx hb dX12_feed_100 ?_
                  refine sk_top (nI (3 - (i % 4))) (nsub 3 (i % 4) (by omega)) ?_
                  refine lv_imul hx hb dX12_feed_101 ?_
                  refine sk_top (nI (8 * (3 - (i % 4)))) (nmul 8 (3 - (i % 4))) ?_
                  refine lv_ishr hx hb dX12_feed_102 ?_
                  refine lv_topi (fun v_14 ev_14 => ?_)
                  refine lv_sipush (v := 255) hx hb dX12_feed_103 (by decide) ?_
                  refine lv_iand hx hb dX12_feed_106 ?_
                  have hlo_15 := lo8_le v_14
                  refine sk_top (nI (lo8 v_14)) (lo8_eq v_14) ?_
                  refine sk_iastX (k := zt) (v := (lo8 v_14)) (B := 255) (ws' := fun f_16 => [ro_ mm 12 (mo g (nI zt) (nI pa) (nI pe) pd (nI pb) pp pf pg pn rt rn (nI cd) sn (nI il) tk am at_ aa 0 0 (-1) wt wy 0 (nI rm) (nI ud) (nI nu) sd (nI qn) (nI qw) qo (nI qb) (nI qp) qa (nI qi) (nI oc)), ra_N (g 0) cI 1600 f_16, ra_I (g 9) cI 6 rf]) hx hb hK hP hD hS 1 0 rfl rfl (by omega) (by omega) hzb (by omega) (fun _ => rfl) dX12_feed_107 (fun f_16 H locs hf_17 ef_18 hP hD hS => ?_)
                  refine lv_aload_n hx hb dX12_feed_108 rfl (lv_at hl 2 rfl) ?_
                  refine lv_dup hx hb dX12_feed_109 rfl ?_
                  refine sk_get (v := .int (nI zt)) (C := RX12) (T := TX12) (N := 92) hx hb hts inlX12 hown hK hP 0 rfl rfl 1 (Nat.le_of_ble_eq_true rfl) w_5_156 rfl dX12_feed_110 ?_
                  refine lv_iconst (v := 1) hx hb dX12_feed_113 ic_1 ?_
                  refine lv_iadd hx hb dX12_feed_114 ?_
                  refine sk_top (nI (zt + 1)) (nI_add zt 1) ?_
                  refine sk_put (ws' := [ro_ mm 12 (mo g (nI (zt + 1)) (nI pa) (nI pe) pd (nI pb) pp pf pg pn rt rn (nI cd) sn (nI il) tk am at_ aa 0 0 (-1) wt wy 0 (nI rm) (nI ud) (nI nu) sd (nI qn) (nI qw) qo (nI qb) (nI qp) qa (nI qi) (nI oc)), ra_N (g 0) cI 1600 f_16, ra_I (g 9) cI 6 rf]) (C := RX12) (T := TX12) (N := 92) (v := .int (nI (zt + 1))) hx hb hts inlX12 tyX12 tyX12_ok nmX12 hown hK hP hD hS 0 rfl rfl 1 (Nat.le_of_ble_eq_true rfl) w_5_156 rfl rfl rfl (Nat.le_of_ble_eq_true rfl) rfl dX12_feed_115 (fun H locs hP hD hS => ?_)
                  refine lv_iinc (v := nI (i + 1)) (lv' := [(6, .int (nI (i + 1))), (7, .int a4), (0, .ref mm), (1, .int a1), (2, .int a2), (3, .int a3), (4, .int a4), (5, .int a5)]) hx hb dX12_feed_118 hl (k := 1) rfl (ninc i 1 (by decide)) (by decide) rfl (fun ls hl => ?_)
                  refine lv_goto (tgt := 28) hx hb dX12_feed_121 (by decide) ?_
                  exact ih_lp_2 (i + 1) (zt + 1) f_16 _ _ _ (by omega) hf_17 (by omega) (by omega) (fd_s hzf hzt ef_18 ev_14 ((if_neg (by omega)).trans ((if_neg (by omega)).trans ((if_neg (by omega)).trans (if_pos (by omega)))))) hP hD hS (lv_sub hl [0, 2, 3, 4, 5, 6, 7] rfl)
              · have c_7 : ¬ (12 ≤ i) := fun h => c_7 ((nle 12 i (Nat.le_of_ble_eq_true rfl) (by omega)).mpr h)
                refine lv_iload_n hx hb dX12_feed_63 rfl (lv_at hl 4 rfl) ?_
                refine lv_goto (tgt := 81) hx hb dX12_feed_64 (by decide) ?_
                refine lv_istore (lv' := [(7, .int a3), (6, .int (nI i)), (0, .ref mm), (1, .int a1), (2, .int a2), (3, .int a3), (4, .int a4), (5, .int a5)]) hx hb dX12_feed_81 hl (by decide) rfl (fun ls hl => ?_)
                refine lv_aload_n hx hb dX12_feed_83 rfl (lv_at hl 2 rfl) ?_
                refine sk_get (v := .ref (g 0)) (C := RX12) (T := TX12) (N := 92) hx hb hts inlX12 hown hK hP 0 rfl rfl 0 (Nat.le_of_ble_eq_true rfl) w_5_155 rfl dX12_feed_84 ?_
                refine lv_aload_n hx hb dX12_feed_87 rfl (lv_at hl 2 rfl) ?_
                refine sk_get (v := .int (nI zt)) (C := RX12) (T := TX12) (N := 92) hx hb hts inlX12 hown hK hP 0 rfl rfl 1 (Nat.le_of_ble_eq_true rfl) w_5_156 rfl dX12_feed_88 ?_
                refine lv_iload hx hb dX12_feed_91 (lv_at hl 0 rfl) ?_
                refine lv_bipush (v := 8) hx hb dX12_feed_93 (by decide) ?_
                refine lv_iconst (v := 3) hx hb dX12_feed_95 ic_3 ?_
                refine lv_iload hx hb dX12_feed_96 (lv_at hl 1 rfl) ?_
                refine lv_iconst (v := 4) hx hb dX12_feed_98 ic_4 ?_
                refine lv_irem hx hb dX12_feed_99 (by decide) ?_
                refine sk_top (nI (i % 4)) (nrem i 4 (by omega) (by omega) (by omega)) ?_
                refine lv_isub hx hb dX12_feed_100 ?_
                refine sk_top (nI (3 - (i % 4))) (nsub 3 (i % 4) (by omega)) ?_
                refine lv_imul hx hb dX12_feed_101 ?_
                refine sk_top (nI (8 * (3 - (i % 4)))) (nmul 8 (3 - (i % 4))) ?_
                refine lv_ishr hx hb dX12_feed_102 ?_
                refine lv_topi (fun v_19 ev_19 => ?_)
                refine lv_sipush (v := 255) hx hb dX12_feed_103 (by decide) ?_
                refine lv_iand hx hb dX12_feed_106 ?_
                have hlo_20 := lo8_le v_19
                refine sk_top (nI (lo8 v_19)) (lo8_eq v_19) ?_
                refine sk_iastX (k := zt) (v := (lo8 v_19)) (B := 255) (ws' := fun f_21 => [ro_ mm 12 (mo g (nI zt) (nI pa) (nI pe) pd (nI pb) pp pf pg pn rt rn (nI cd) sn (nI il) tk am at_ aa 0 0 (-1) wt wy 0 (nI rm) (nI ud) (nI nu) sd (nI qn) (nI qw) qo (nI qb) (nI qp) qa (nI qi) (nI oc)), ra_N (g 0) cI 1600 f_21, ra_I (g 9) cI 6 rf]) hx hb hK hP hD hS 1 0 rfl rfl (by omega) (by omega) hzb (by omega) (fun _ => rfl) dX12_feed_107 (fun f_21 H locs hf_22 ef_23 hP hD hS => ?_)
                refine lv_aload_n hx hb dX12_feed_108 rfl (lv_at hl 2 rfl) ?_
                refine lv_dup hx hb dX12_feed_109 rfl ?_
                refine sk_get (v := .int (nI zt)) (C := RX12) (T := TX12) (N := 92) hx hb hts inlX12 hown hK hP 0 rfl rfl 1 (Nat.le_of_ble_eq_true rfl) w_5_156 rfl dX12_feed_110 ?_
                refine lv_iconst (v := 1) hx hb dX12_feed_113 ic_1 ?_
                refine lv_iadd hx hb dX12_feed_114 ?_
                refine sk_top (nI (zt + 1)) (nI_add zt 1) ?_
                refine sk_put (ws' := [ro_ mm 12 (mo g (nI (zt + 1)) (nI pa) (nI pe) pd (nI pb) pp pf pg pn rt rn (nI cd) sn (nI il) tk am at_ aa 0 0 (-1) wt wy 0 (nI rm) (nI ud) (nI nu) sd (nI qn) (nI qw) qo (nI qb) (nI qp) qa (nI qi) (nI oc)), ra_N (g 0) cI 1600 f_21, ra_I (g 9) cI 6 rf]) (C := RX12) (T := TX12) (N := 92) (v := .int (nI (zt + 1))) hx hb hts inlX12 tyX12 tyX12_ok nmX12 hown hK hP hD hS 0 rfl rfl 1 (Nat.le_of_ble_eq_true rfl) w_5_156 rfl rfl rfl (Nat.le_of_ble_eq_true rfl) rfl dX12_feed_115 (fun H locs hP hD hS => ?_)
                refine lv_iinc (v := nI (i + 1)) (lv' := [(6, .int (nI (i + 1))), (7, .int a3), (0, .ref mm), (1, .int a1), (2, .int a2), (3, .int a3), (4, .int a4), (5, .int a5)]) hx hb dX12_feed_118 hl (k := 1) rfl (ninc i 1 (by decide)) (by decide) rfl (fun ls hl => ?_)
                refine lv_goto (tgt := 28) hx hb dX12_feed_121 (by decide) ?_
                exact ih_lp_2 (i + 1) (zt + 1) f_21 _ _ _ (by omega) hf_22 (by omega) (by omega) (fd_s hzf hzt ef_23 ev_19 ((if_neg (by omega)).trans ((if_neg (by omega)).trans (if_pos (by omega))))) hP hD hS (lv_sub hl [0, 2, 3, 4, 5, 6, 7] rfl)
            · have c_6 : ¬ (8 ≤ i) := fun h => c_6 ((nle 8 i (Nat.le_of_ble_eq_true rfl) (by omega)).mpr h)
              refine lv_iload_n hx hb dX12_feed_52 rfl (lv_at hl 3 rfl) ?_
              refine lv_goto (tgt := 81) hx hb dX12_feed_53 (by decide) ?_
              refine lv_istore (lv' := [(7, .int a2), (6, .int (nI i)), (0, .ref mm), (1, .int a1), (2, .int a2), (3, .int a3), (4, .int a4), (5, .int a5)]) hx hb dX12_feed_81 hl (by decide) rfl (fun ls hl => ?_)
              refine lv_aload_n hx hb dX12_feed_83 rfl (lv_at hl 2 rfl) ?_
              refine sk_get (v := .ref (g 0)) (C := RX12) (T := TX12) (N := 92) hx hb hts inlX12 hown hK hP 0 rfl rfl 0 (Nat.le_of_ble_eq_true rfl) w_5_155 rfl dX12_feed_84 ?_
              refine lv_aload_n hx hb dX12_feed_87 rfl (lv_at hl 2 rfl) ?_
              refine sk_get (v := .int (nI zt)) (C := RX12) (T := TX12) (N := 92) hx hb hts inlX12 hown hK hP 0 rfl rfl 1 (Nat.le_of_ble_eq_true rfl) w_5_156 rfl dX12_feed_88 ?_
              refine lv_iload hx hb dX12_feed_91 (lv_at hl 0 rfl) ?_
              refine lv_bipush (v := 8) hx hb dX12_feed_93 (by decide) ?_
              refine lv_iconst (v := 3) hx hb dX12_feed_95 ic_3 ?_
              refine lv_iload hx hb dX12_feed_96 (lv_at hl 1 rfl) ?_
              refine lv_iconst (v := 4) hx hb dX12_feed_98 ic_4 ?_
              refine lv_irem hx hb dX12_feed_99 (by decide) ?_
              refine sk_top (nI (i % 4)) (nrem i 4 (by omega) (by omega) (by omega)) ?_
              refine lv_isub hx hb dX12_feed_100 ?_
              refine sk_top (nI (3 - (i % 4))) (nsub 3 (i % 4) (by omega)) ?_
              refine lv_imul hx hb dX12_feed_101 ?_
              refine sk_top (nI (8 * (3 - (i % 4)))) (nmul 8 (3 - (i % 4))) ?_
              refine lv_ishr hx hb dX12_feed_102 ?_
              refine lv_topi (fun v_24 ev_24 => ?_)
              refine lv_sipush (v := 255) hx hb dX12_feed_103 (by decide) ?_
              refine lv_iand hx hb dX12_feed_106 ?_
              have hlo_25 := lo8_le v_24
              refine sk_top (nI (lo8 v_24)) (lo8_eq v_24) ?_
              refine sk_iastX (k := zt) (v := (lo8 v_24)) (B := 255) (ws' := fun f_26 => [ro_ mm 12 (mo g (nI zt) (nI pa) (nI pe) pd (nI pb) pp pf pg pn rt rn (nI cd) sn (nI il) tk am at_ aa 0 0 (-1) wt wy 0 (nI rm) (nI ud) (nI nu) sd (nI qn) (nI qw) qo (nI qb) (nI qp) qa (nI qi) (nI oc)), ra_N (g 0) cI 1600 f_26, ra_I (g 9) cI 6 rf]) hx hb hK hP hD hS 1 0 rfl rfl (by omega) (by omega) hzb (by omega) (fun _ => rfl) dX12_feed_107 (fun f_26 H locs hf_27 ef_28 hP hD hS => ?_)
              refine lv_aload_n hx hb dX12_feed_108 rfl (lv_at hl 2 rfl) ?_
              refine lv_dup hx hb dX12_feed_109 rfl ?_
              refine sk_get (v := .int (nI zt)) (C := RX12) (T := TX12) (N := 92) hx hb hts inlX12 hown hK hP 0 rfl rfl 1 (Nat.le_of_ble_eq_true rfl) w_5_156 rfl dX12_feed_110 ?_
              refine lv_iconst (v := 1) hx hb dX12_feed_113 ic_1 ?_
              refine lv_iadd hx hb dX12_feed_114 ?_
              refine sk_top (nI (zt + 1)) (nI_add zt 1) ?_
              refine sk_put (ws' := [ro_ mm 12 (mo g (nI (zt + 1)) (nI pa) (nI pe) pd (nI pb) pp pf pg pn rt rn (nI cd) sn (nI il) tk am at_ aa 0 0 (-1) wt wy 0 (nI rm) (nI ud) (nI nu) sd (nI qn) (nI qw) qo (nI qb) (nI qp) qa (nI qi) (nI oc)), ra_N (g 0) cI 1600 f_26, ra_I (g 9) cI 6 rf]) (C := RX12) (T := TX12) (N := 92) (v := .int (nI (zt + 1))) hx hb hts inlX12 tyX12 tyX12_ok nmX12 hown hK hP hD hS 0 rfl rfl 1 (Nat.le_of_ble_eq_true rfl) w_5_156 rfl rfl rfl (Nat.le_of_ble_eq_true rfl) rfl dX12_feed_115 (fun H locs hP hD hS => ?_)
              refine lv_iinc (v := nI (i + 1)) (lv' := [(6, .int (nI (i + 1))), (7, .int a2), (0, .ref mm), (1, .int a1), (2, .int a2), (3, .int a3), (4, .int a4), (5, .int a5)]) hx hb dX12_feed_118 hl (k := 1) rfl (ninc i 1 (by decide)) (by decide) rfl (fun ls hl => ?_)
              refine lv_goto (tgt := 28) hx hb dX12_feed_121 (by decide) ?_
              exact ih_lp_2 (i + 1) (zt + 1) f_26 _ _ _ (by omega) hf_27 (by omega) (by omega) (fd_s hzf hzt ef_28 ev_24 ((if_neg (by omega)).trans (if_pos (by omega)))) hP hD hS (lv_sub hl [0, 2, 3, 4, 5, 6, 7] rfl)
          · have c_5 : ¬ (4 ≤ i) := fun h => c_5 ((nle 4 i (Nat.le_of_ble_eq_true rfl) (by omega)).mpr h)
            refine lv_iload_n hx hb dX12_feed_41 rfl (lv_at hl 2 rfl) ?_
            refine lv_goto (tgt := 81) hx hb dX12_feed_42 (by decide) ?_
            refine lv_istore (lv' := [(7, .int a1), (6, .int (nI i)), (0, .ref mm), (1, .int a1), (2, .int a2), (3, .int a3), (4, .int a4), (5, .int a5)]) hx hb dX12_feed_81 hl (by decide) rfl (fun ls hl => ?_)
            refine lv_aload_n hx hb dX12_feed_83 rfl (lv_at hl 2 rfl) ?_
            refine sk_get (v := .ref (g 0)) (C := RX12) (T := TX12) (N := 92) hx hb hts inlX12 hown hK hP 0 rfl rfl 0 (Nat.le_of_ble_eq_true rfl) w_5_155 rfl dX12_feed_84 ?_
            refine lv_aload_n hx hb dX12_feed_87 rfl (lv_at hl 2 rfl) ?_
            refine sk_get (v := .int (nI zt)) (C := RX12) (T := TX12) (N := 92) hx hb hts inlX12 hown hK hP 0 rfl rfl 1 (Nat.le_of_ble_eq_true rfl) w_5_156 rfl dX12_feed_88 ?_
            refine lv_iload hx hb dX12_feed_91 (lv_at hl 0 rfl) ?_
            refine lv_bipush (v := 8) hx hb dX12_feed_93 (by decide) ?_
            refine lv_iconst (v := 3) hx hb dX12_feed_95 ic_3 ?_
            refine lv_iload hx hb dX12_feed_96 (lv_at hl 1 rfl) ?_
            refine lv_iconst (v := 4) hx hb dX12_feed_98 ic_4 ?_
            refine lv_irem hx hb dX12_feed_99 (by decide) ?_
            refine sk_top (nI (i % 4)) (nrem i 4 (by omega) (by omega) (by omega)) ?_
            refine lv_isub hx hb dX12_feed_100 ?_
            refine sk_top (nI (3 - (i % 4))) (nsub 3 (i % 4) (by omega)) ?_
            refine lv_imul hx hb dX12_feed_101 ?_
            refine sk_top (nI (8 * (3 - (i % 4)))) (nmul 8 (3 - (i % 4))) ?_
            refine lv_ishr hx hb dX12_feed_102 ?_
            refine lv_topi (fun v_29 ev_29 => ?_)
            refine lv_sipush (v := 255) hx hb dX12_feed_103 (by decide) ?_
            refine lv_iand hx hb dX12_feed_106 ?_
            have hlo_30 := lo8_le v_29
            refine sk_top (nI (lo8 v_29)) (lo8_eq v_29) ?_
            refine sk_iastX (k := zt) (v := (lo8 v_29)) (B := 255) (ws' := fun f_31 => [ro_ mm 12 (mo g (nI zt) (nI pa) (nI pe) pd (nI pb) pp pf pg pn rt rn (nI cd) sn (nI il) tk am at_ aa 0 0 (-1) wt wy 0 (nI rm) (nI ud) (nI nu) sd (nI qn) (nI qw) qo (nI qb) (nI qp) qa (nI qi) (nI oc)), ra_N (g 0) cI 1600 f_31, ra_I (g 9) cI 6 rf]) hx hb hK hP hD hS 1 0 rfl rfl (by omega) (by omega) hzb (by omega) (fun _ => rfl) dX12_feed_107 (fun f_31 H locs hf_32 ef_33 hP hD hS => ?_)
            refine lv_aload_n hx hb dX12_feed_108 rfl (lv_at hl 2 rfl) ?_
            refine lv_dup hx hb dX12_feed_109 rfl ?_
            refine sk_get (v := .int (nI zt)) (C := RX12) (T := TX12) (N := 92) hx hb hts inlX12 hown hK hP 0 rfl rfl 1 (Nat.le_of_ble_eq_true rfl) w_5_156 rfl dX12_feed_110 ?_
            refine lv_iconst (v := 1) hx hb dX12_feed_113 ic_1 ?_
            refine lv_iadd hx hb dX12_feed_114 ?_
            refine sk_top (nI (zt + 1)) (nI_add zt 1) ?_
            refine sk_put (ws' := [ro_ mm 12 (mo g (nI (zt + 1)) (nI pa) (nI pe) pd (nI pb) pp pf pg pn rt rn (nI cd) sn (nI il) tk am at_ aa 0 0 (-1) wt wy 0 (nI rm) (nI ud) (nI nu) sd (nI qn) (nI qw) qo (nI qb) (nI qp) qa (nI qi) (nI oc)), ra_N (g 0) cI 1600 f_31, ra_I (g 9) cI 6 rf]) (C := RX12) (T := TX12) (N := 92) (v := .int (nI (zt + 1))) hx hb hts inlX12 tyX12 tyX12_ok nmX12 hown hK hP hD hS 0 rfl rfl 1 (Nat.le_of_ble_eq_true rfl) w_5_156 rfl rfl rfl (Nat.le_of_ble_eq_true rfl) rfl dX12_feed_115 (fun H locs hP hD hS => ?_)
            refine lv_iinc (v := nI (i + 1)) (lv' := [(6, .int (nI (i + 1))), (7, .int a1), (0, .ref mm), (1, .int a1), (2, .int a2), (3, .int a3), (4, .int a4), (5, .int a5)]) hx hb dX12_feed_118 hl (k := 1) rfl (ninc i 1 (by decide)) (by decide) rfl (fun ls hl => ?_)
            refine lv_goto (tgt := 28) hx hb dX12_feed_121 (by decide) ?_
            exact ih_lp_2 (i + 1) (zt + 1) f_31 _ _ _ (by omega) hf_32 (by omega) (by omega) (fd_s hzf hzt ef_33 ev_29 (if_pos (by omega))) hP hD hS (lv_sub hl [0, 2, 3, 4, 5, 6, 7] rfl)
    exact lp_2 (20 - 0 + 1) 0 ta tb _ _ _ (Nat.lt_succ_self _) htb (by omega) (by omega) rfl hP hD hS (lv_sub hl [0, 1, 2, 3, 4, 5, 6] rfl)
  · have c_1 : ¬ (ta + 20 ≤ 1600) := fun h => c_1 ((nle (ta + 20) 1600 (by omega) (Nat.le_of_ble_eq_true rfl)).mpr h)
    refine lv_aload_n hx hb dX12_feed_13 rfl (lv_at hl 0 rfl) ?_
    refine sk_get (v := .ref (g 9)) (C := RX12) (T := TX12) (N := 92) hx hb hts inlX12 hown hK hP 0 rfl rfl 9 (Nat.le_of_ble_eq_true rfl) w_5_164 rfl dX12_feed_14 ?_
    refine lv_iconst (v := 0) hx hb dX12_feed_17 ic_0 ?_
    refine lv_dup2_11 hx hb dX12_feed_18 rfl rfl ?_
    refine va_iald hx hb hK.1 hP 2 0 rfl rfl (by unfold vp_in; decide) dX12_feed_19 ?_
    refine sk_top (rf 0) (rfl) ?_
    refine lv_iconst (v := 1) hx hb dX12_feed_20 ic_1 ?_
    refine lv_iadd hx hb dX12_feed_21 ?_
    refine sk_iastE (k := 0) (ws' := fun f_34 => [ro_ mm 12 (mo g (nI ta) (nI pa) (nI pe) pd (nI pb) pp pf pg pn rt rn (nI cd) sn (nI il) tk am at_ aa 0 0 (-1) wt wy 0 (nI rm) (nI ud) (nI nu) sd (nI qn) (nI qw) qo (nI qb) (nI qp) qa (nI qi) (nI oc)), ra_N (g 0) cI 1600 tb, ra_I (g 9) cI 6 f_34]) hx hb hK hP hD hS 2 0 rfl rfl (by omega) (by omega) (fun _ => rfl) dX12_feed_22 (fun f_34 H locs ef_35 hP hD hS => ?_)
    refine lv_iconst (v := (-1)) hx hb dX12_feed_23 (by decide) ?_
    exact sk_iret hx hb hr rfl hlocks hK hP hD hS (⟨ta, tb, f_34, Or.inr ⟨by omega, rfl, rfl, rfl⟩, Or.inr ⟨by omega, ef_35⟩, htb, rfl⟩) (Nat.le_of_ble_eq_true rfl) (Nat.le_of_ble_eq_true rfl) dX12_feed_24
theorem dg_X12_end_0_0 : bqL cX12_end 0 [(0, [27]), (1, [155, 0, 11]), (12, [42]), (13, [180, 0, 17]), (16, [3]), (17, [92]), (18, [46]), (19, [4]), (20, [96]), (21, [79]), (22, [3]), (23, [172]), (4, [27]), (5, [42]), (6, [180, 0, 192]), (9, [164, 0, 15]), (24, [42]), (25, [27]), (26, [181, 0, 192]), (29, [4]), (30, [172])] = true := by decide +kernel
theorem dX12_end_0 : decode cX12_end 0 = .ok (.iload_n 1, 1) := q_iload_n1 (bat_get dg_X12_end_0_0 0 rfl rfl)
theorem dX12_end_1 : decode cX12_end 1 = .ok (.ifCond .lt 11, 3) := q_ifCond_lt (bat_get dg_X12_end_0_0 1 rfl rfl) rfl
theorem dX12_end_12 : decode cX12_end 12 = .ok (.aload_n 0, 1) := q_aload_n0 (bat_get dg_X12_end_0_0 2 rfl rfl)
theorem dX12_end_13 : decode cX12_end 13 = .ok (.getfield 17, 3) := q_getfield (bat_get dg_X12_end_0_0 3 rfl rfl) rfl
theorem dX12_end_16 : decode cX12_end 16 = .ok (.iconst 0, 1) := q_iconst0 (bat_get dg_X12_end_0_0 4 rfl rfl)
theorem dX12_end_17 : decode cX12_end 17 = .ok (.dup2, 1) := q_dup2 (bat_get dg_X12_end_0_0 5 rfl rfl)
theorem dX12_end_18 : decode cX12_end 18 = .ok (.iaload, 1) := q_iaload (bat_get dg_X12_end_0_0 6 rfl rfl)
theorem dX12_end_19 : decode cX12_end 19 = .ok (.iconst 1, 1) := q_iconst1 (bat_get dg_X12_end_0_0 7 rfl rfl)
theorem dX12_end_20 : decode cX12_end 20 = .ok (.iadd, 1) := q_iadd (bat_get dg_X12_end_0_0 8 rfl rfl)
theorem dX12_end_21 : decode cX12_end 21 = .ok (.iastore, 1) := q_iastore (bat_get dg_X12_end_0_0 9 rfl rfl)
theorem dX12_end_22 : decode cX12_end 22 = .ok (.iconst 0, 1) := q_iconst0 (bat_get dg_X12_end_0_0 10 rfl rfl)
theorem dX12_end_23 : decode cX12_end 23 = .ok (.ireturn, 1) := q_ireturn (bat_get dg_X12_end_0_0 11 rfl rfl)
theorem dX12_end_4 : decode cX12_end 4 = .ok (.iload_n 1, 1) := q_iload_n1 (bat_get dg_X12_end_0_0 12 rfl rfl)
theorem dX12_end_5 : decode cX12_end 5 = .ok (.aload_n 0, 1) := q_aload_n0 (bat_get dg_X12_end_0_0 13 rfl rfl)
theorem dX12_end_6 : decode cX12_end 6 = .ok (.getfield 192, 3) := q_getfield (bat_get dg_X12_end_0_0 14 rfl rfl) rfl
theorem dX12_end_9 : decode cX12_end 9 = .ok (.if_icmp .le 15, 3) := q_if_icmp_le (bat_get dg_X12_end_0_0 15 rfl rfl) rfl
theorem dX12_end_24 : decode cX12_end 24 = .ok (.aload_n 0, 1) := q_aload_n0 (bat_get dg_X12_end_0_0 16 rfl rfl)
theorem dX12_end_25 : decode cX12_end 25 = .ok (.iload_n 1, 1) := q_iload_n1 (bat_get dg_X12_end_0_0 17 rfl rfl)
theorem dX12_end_26 : decode cX12_end 26 = .ok (.putfield 192, 3) := q_putfield (bat_get dg_X12_end_0_0 18 rfl rfl) rfl
theorem dX12_end_29 : decode cX12_end 29 = .ok (.iconst 1, 1) := q_iconst1 (bat_get dg_X12_end_0_0 19 rfl rfl)
theorem dX12_end_30 : decode cX12_end 30 = .ok (.ireturn, 1) := q_ireturn (bat_get dg_X12_end_0_0 20 rfl rfl)
theorem w_6_201 : (Cond.code yX12_end cX12_end 2 (some .boolean)) ∈ wsL_law := sk_mem (ck_6 _ (List.mem_of_getElem? (i := 201) rfl)) rfl
set_option maxHeartbeats 4000000 in
set_option maxRecDepth 100000 in
theorem c_nm_end (l : Launch) (D : va_G) (cI cJ cC cZ cS : ClassId) (mm : Nat) (g : Nat → Nat) (ta : Nat) (pa : Nat) (pe : Nat) (pd : Int32) (pb : Nat) (pp : Int32) (pf : Int32) (pg : Int32) (pn : Int32) (rt : Int32) (rn : Int32) (cd : Nat) (sn : Int32) (il : Nat) (tk : Int32) (am : Int32) (at_ : Int32) (aa : Int32) (wt : Int32) (wy : Int64) (rm : Nat) (ud : Nat) (nu : Nat) (sd : Int64) (qn : Nat) (qw : Nat) (qo : Int32) (qb : Nat) (qp : Nat) (qa : Int64) (qi : Nat) (oc : Nat) (n : Int32) (rf : Nat → Int32) (hta : ta ≤ 1600) : skM l yX12_end cX12_end 2 (some .boolean) 0 0 0 0 D (skT cI cJ cC cZ cS) [.ref mm, .int n] [ro_ mm 12 (mo g (nI ta) (nI pa) (nI pe) pd (nI pb) pp pf pg pn rt rn (nI cd) sn (nI il) tk am at_ aa 0 0 (-1) wt wy 0 (nI rm) (nI ud) (nI nu) sd (nI qn) (nI qw) qo (nI qb) (nI qp) qa (nI qi) (nI oc)), ra_I (g 9) cI 6 rf] (skI D (skT cI cJ cC cZ cS) (fun (r : Int32) (u : va_W) => ∃ (ta2 : Nat), ∃ (rf2 : Nat → Int32), ((n < 0 ∧ ta2 = ta ∧ r = 0) ∨ (∃ k : Nat, k < 2147483648 ∧ n = nI k ∧ ((k ≤ ta ∧ ta2 = k ∧ r = 1) ∨ (ta < k ∧ ta2 = ta ∧ r = 0)))) ∧ ((r = 1 ∧ rf2 = rf) ∨ (r = 0 ∧ rf2 = upd rf 0 (rf 0 + 1))) ∧ u = [ro_ mm 12 (mo g (nI ta2) (nI pa) (nI pe) pd (nI pb) pp pf pg pn rt rn (nI cd) sn (nI il) tk am at_ aa 0 0 (-1) wt wy 0 (nI rm) (nI ud) (nI nu) sd (nI qn) (nI qw) qo (nI qb) (nI qp) qa (nI qi) (nI oc)), ra_I (g 9) cI 6 rf2])) := by
  refine skM_of pf_X12_end (Nat.le_of_ble_eq_true rfl) ?_
  intro p e s m below meth c A ls E hP hD hl
  refine skE_el E (fun hx hb hr hml hlocks hin hown hts hK hA => ?_)
  have hown : s.vm.findClass RX12 = some m.cls := hown
  have hS : va_S A s.heap s.heap [] := va_S.rf
  have hl : lv_has ls 2 [(0, .ref mm), (1, .int n)] := hl
  refine lv_iload_n hx hb dX12_end_0 rfl (lv_at hl 1 rfl) ?_
  refine lv_if_lt (tgt := 12) hx hb dX12_end_1 (by decide) (fun c_1 => ?_) (fun c_1 => ?_)
  · skip
    refine lv_aload_n hx hb dX12_end_12 rfl (lv_at hl 0 rfl) ?_
    refine sk_get (v := .ref (g 9)) (C := RX12) (T := TX12) (N := 92) hx hb hts inlX12 hown hK hP 0 rfl rfl 9 (Nat.le_of_ble_eq_true rfl) w_5_164 rfl dX12_end_13 ?_
    refine lv_iconst (v := 0) hx hb dX12_end_16 ic_0 ?_
    refine lv_dup2_11 hx hb dX12_end_17 rfl rfl ?_
    refine va_iald hx hb hK.1 hP 1 0 rfl rfl (by unfold vp_in; decide) dX12_end_18 ?_
    refine sk_top (rf 0) (rfl) ?_
    refine lv_iconst (v := 1) hx hb dX12_end_19 ic_1 ?_
    refine lv_iadd hx hb dX12_end_20 ?_
    refine sk_iastE (k := 0) (ws' := fun f_2 => [ro_ mm 12 (mo g (nI ta) (nI pa) (nI pe) pd (nI pb) pp pf pg pn rt rn (nI cd) sn (nI il) tk am at_ aa 0 0 (-1) wt wy 0 (nI rm) (nI ud) (nI nu) sd (nI qn) (nI qw) qo (nI qb) (nI qp) qa (nI qi) (nI oc)), ra_I (g 9) cI 6 f_2]) hx hb hK hP hD hS 1 0 rfl rfl (by omega) (by omega) (fun _ => rfl) dX12_end_21 (fun f_2 H locs ef_3 hP hD hS => ?_)
    refine lv_iconst (v := 0) hx hb dX12_end_22 ic_0 ?_
    exact sk_iret hx hb hr rfl hlocks hK hP hD hS (⟨ta, f_2, Or.inl ⟨c_1, rfl, rfl⟩, Or.inr ⟨rfl, ef_3⟩, rfl⟩) (Nat.le_of_ble_eq_true rfl) (Nat.le_of_ble_eq_true rfl) dX12_end_23
  · obtain ⟨k_4, hk_4, rfl⟩ := nof n c_1
    refine lv_iload_n hx hb dX12_end_4 rfl (lv_at hl 1 rfl) ?_
    refine lv_aload_n hx hb dX12_end_5 rfl (lv_at hl 0 rfl) ?_
    refine sk_get (v := .int (nI ta)) (C := RX12) (T := TX12) (N := 92) hx hb hts inlX12 hown hK hP 0 rfl rfl 1 (Nat.le_of_ble_eq_true rfl) w_5_156 rfl dX12_end_6 ?_
    refine lv_icmp_le (tgt := 24) hx hb dX12_end_9 (by decide) (fun c_5 => ?_) (fun c_5 => ?_)
    · have c_5 : k_4 ≤ ta := (nle k_4 ta (by omega) (by omega)).mp c_5
      refine lv_aload_n hx hb dX12_end_24 rfl (lv_at hl 0 rfl) ?_
      refine lv_iload_n hx hb dX12_end_25 rfl (lv_at hl 1 rfl) ?_
      refine sk_put (ws' := [ro_ mm 12 (mo g (nI k_4) (nI pa) (nI pe) pd (nI pb) pp pf pg pn rt rn (nI cd) sn (nI il) tk am at_ aa 0 0 (-1) wt wy 0 (nI rm) (nI ud) (nI nu) sd (nI qn) (nI qw) qo (nI qb) (nI qp) qa (nI qi) (nI oc)), ra_I (g 9) cI 6 rf]) (C := RX12) (T := TX12) (N := 92) (v := .int (nI k_4)) hx hb hts inlX12 tyX12 tyX12_ok nmX12 hown hK hP hD hS 0 rfl rfl 1 (Nat.le_of_ble_eq_true rfl) w_5_156 rfl rfl rfl (Nat.le_of_ble_eq_true rfl) rfl dX12_end_26 (fun H locs hP hD hS => ?_)
      refine lv_iconst (v := 1) hx hb dX12_end_29 ic_1 ?_
      exact sk_iret hx hb hr rfl hlocks hK hP hD hS (⟨k_4, rf, Or.inr ⟨k_4, by omega, rfl, Or.inl ⟨by omega, rfl, rfl⟩⟩, Or.inl ⟨rfl, rfl⟩, rfl⟩) (Nat.le_of_ble_eq_true rfl) (Nat.le_of_ble_eq_true rfl) dX12_end_30
    · have c_5 : ¬ (k_4 ≤ ta) := fun h => c_5 ((nle k_4 ta (by omega) (by omega)).mpr h)
      refine lv_aload_n hx hb dX12_end_12 rfl (lv_at hl 0 rfl) ?_
      refine sk_get (v := .ref (g 9)) (C := RX12) (T := TX12) (N := 92) hx hb hts inlX12 hown hK hP 0 rfl rfl 9 (Nat.le_of_ble_eq_true rfl) w_5_164 rfl dX12_end_13 ?_
      refine lv_iconst (v := 0) hx hb dX12_end_16 ic_0 ?_
      refine lv_dup2_11 hx hb dX12_end_17 rfl rfl ?_
      refine va_iald hx hb hK.1 hP 1 0 rfl rfl (by unfold vp_in; decide) dX12_end_18 ?_
      refine sk_top (rf 0) (rfl) ?_
      refine lv_iconst (v := 1) hx hb dX12_end_19 ic_1 ?_
      refine lv_iadd hx hb dX12_end_20 ?_
      refine sk_iastE (k := 0) (ws' := fun f_6 => [ro_ mm 12 (mo g (nI ta) (nI pa) (nI pe) pd (nI pb) pp pf pg pn rt rn (nI cd) sn (nI il) tk am at_ aa 0 0 (-1) wt wy 0 (nI rm) (nI ud) (nI nu) sd (nI qn) (nI qw) qo (nI qb) (nI qp) qa (nI qi) (nI oc)), ra_I (g 9) cI 6 f_6]) hx hb hK hP hD hS 1 0 rfl rfl (by omega) (by omega) (fun _ => rfl) dX12_end_21 (fun f_6 H locs ef_7 hP hD hS => ?_)
      refine lv_iconst (v := 0) hx hb dX12_end_22 ic_0 ?_
      exact sk_iret hx hb hr rfl hlocks hK hP hD hS (⟨ta, f_6, Or.inr ⟨k_4, by omega, rfl, Or.inr ⟨by omega, rfl, rfl⟩⟩, Or.inr ⟨rfl, ef_7⟩, rfl⟩) (Nat.le_of_ble_eq_true rfl) (Nat.le_of_ble_eq_true rfl) dX12_end_23
theorem dg_X12_seed_0_0 : bqL cX12_seed 0 [(0, [27]), (1, [156, 0, 15]), (16, [42]), (17, [27]), (18, [133]), (19, [181, 0, 110]), (22, [4]), (23, [172]), (4, [42]), (5, [180, 0, 17]), (8, [8]), (9, [92]), (10, [46]), (11, [4]), (12, [96]), (13, [79]), (14, [3]), (15, [172])] = true := by decide +kernel
theorem dX12_seed_0 : decode cX12_seed 0 = .ok (.iload_n 1, 1) := q_iload_n1 (bat_get dg_X12_seed_0_0 0 rfl rfl)
theorem dX12_seed_1 : decode cX12_seed 1 = .ok (.ifCond .ge 15, 3) := q_ifCond_ge (bat_get dg_X12_seed_0_0 1 rfl rfl) rfl
theorem dX12_seed_16 : decode cX12_seed 16 = .ok (.aload_n 0, 1) := q_aload_n0 (bat_get dg_X12_seed_0_0 2 rfl rfl)
theorem dX12_seed_17 : decode cX12_seed 17 = .ok (.iload_n 1, 1) := q_iload_n1 (bat_get dg_X12_seed_0_0 3 rfl rfl)
theorem dX12_seed_18 : decode cX12_seed 18 = .ok (.i2l, 1) := q_i2l (bat_get dg_X12_seed_0_0 4 rfl rfl)
theorem dX12_seed_19 : decode cX12_seed 19 = .ok (.putfield 110, 3) := q_putfield (bat_get dg_X12_seed_0_0 5 rfl rfl) rfl
theorem dX12_seed_22 : decode cX12_seed 22 = .ok (.iconst 1, 1) := q_iconst1 (bat_get dg_X12_seed_0_0 6 rfl rfl)
theorem dX12_seed_23 : decode cX12_seed 23 = .ok (.ireturn, 1) := q_ireturn (bat_get dg_X12_seed_0_0 7 rfl rfl)
theorem dX12_seed_4 : decode cX12_seed 4 = .ok (.aload_n 0, 1) := q_aload_n0 (bat_get dg_X12_seed_0_0 8 rfl rfl)
theorem dX12_seed_5 : decode cX12_seed 5 = .ok (.getfield 17, 3) := q_getfield (bat_get dg_X12_seed_0_0 9 rfl rfl) rfl
theorem dX12_seed_8 : decode cX12_seed 8 = .ok (.iconst 5, 1) := q_iconst5 (bat_get dg_X12_seed_0_0 10 rfl rfl)
theorem dX12_seed_9 : decode cX12_seed 9 = .ok (.dup2, 1) := q_dup2 (bat_get dg_X12_seed_0_0 11 rfl rfl)
theorem dX12_seed_10 : decode cX12_seed 10 = .ok (.iaload, 1) := q_iaload (bat_get dg_X12_seed_0_0 12 rfl rfl)
theorem dX12_seed_11 : decode cX12_seed 11 = .ok (.iconst 1, 1) := q_iconst1 (bat_get dg_X12_seed_0_0 13 rfl rfl)
theorem dX12_seed_12 : decode cX12_seed 12 = .ok (.iadd, 1) := q_iadd (bat_get dg_X12_seed_0_0 14 rfl rfl)
theorem dX12_seed_13 : decode cX12_seed 13 = .ok (.iastore, 1) := q_iastore (bat_get dg_X12_seed_0_0 15 rfl rfl)
theorem dX12_seed_14 : decode cX12_seed 14 = .ok (.iconst 0, 1) := q_iconst0 (bat_get dg_X12_seed_0_0 16 rfl rfl)
theorem dX12_seed_15 : decode cX12_seed 15 = .ok (.ireturn, 1) := q_ireturn (bat_get dg_X12_seed_0_0 17 rfl rfl)
theorem w_5_212 : (Cond.fieldLink RX12 110 "SameKeeperModel" "seeded" "J") ∈ wsL_law := sk_mem (ck_5 _ (List.mem_of_getElem? (i := 212) rfl)) rfl
theorem w_8_145 : (Cond.code yX12_seed cX12_seed 2 (some .boolean)) ∈ wsL_law := sk_mem (ck_8 _ (List.mem_of_getElem? (i := 145) rfl)) rfl
set_option maxHeartbeats 4000000 in
set_option maxRecDepth 100000 in
theorem c_nm_seed (l : Launch) (D : va_G) (cI cJ cC cZ cS : ClassId) (mm : Nat) (g : Nat → Nat) (ta : Nat) (pa : Nat) (pe : Nat) (pd : Int32) (pb : Nat) (pp : Int32) (pf : Int32) (pg : Int32) (pn : Int32) (rt : Int32) (rn : Int32) (cd : Nat) (sn : Int32) (il : Nat) (tk : Int32) (am : Int32) (at_ : Int32) (aa : Int32) (wt : Int32) (wy : Int64) (rm : Nat) (ud : Nat) (nu : Nat) (qn : Nat) (qw : Nat) (qo : Int32) (qb : Nat) (qp : Nat) (qa : Int64) (qi : Nat) (oc : Nat) (n : Int32) (rf : Nat → Int32) (sv : Nat)  : skM l yX12_seed cX12_seed 2 (some .boolean) 0 0 0 0 D (skT cI cJ cC cZ cS) [.ref mm, .int n] [ro_ mm 12 (mo g (nI ta) (nI pa) (nI pe) pd (nI pb) pp pf pg pn rt rn (nI cd) sn (nI il) tk am at_ aa 0 0 (-1) wt wy 0 (nI rm) (nI ud) (nI nu) (Int64.ofNat sv) (nI qn) (nI qw) qo (nI qb) (nI qp) qa (nI qi) (nI oc)), ra_I (g 9) cI 6 rf] (skI D (skT cI cJ cC cZ cS) (fun (r : Int32) (u : va_W) => ∃ (sv2 : Nat), ∃ (rf2 : Nat → Int32), seedR sv rf n r sv2 rf2 ∧ u = [ro_ mm 12 (mo g (nI ta) (nI pa) (nI pe) pd (nI pb) pp pf pg pn rt rn (nI cd) sn (nI il) tk am at_ aa 0 0 (-1) wt wy 0 (nI rm) (nI ud) (nI nu) (Int64.ofNat sv2) (nI qn) (nI qw) qo (nI qb) (nI qp) qa (nI qi) (nI oc)), ra_I (g 9) cI 6 rf2])) := by
  refine skM_of pf_X12_seed (Nat.le_of_ble_eq_true rfl) ?_
  intro p e s m below meth c A ls E hP hD hl
  refine skE_el E (fun hx hb hr hml hlocks hin hown hts hK hA => ?_)
  have hown : s.vm.findClass RX12 = some m.cls := hown
  have hS : va_S A s.heap s.heap [] := va_S.rf
  have hl : lv_has ls 2 [(0, .ref mm), (1, .int n)] := hl
  refine lv_iload_n hx hb dX12_seed_0 rfl (lv_at hl 1 rfl) ?_
  refine lv_if_ge (tgt := 16) hx hb dX12_seed_1 (by decide) (fun c_1 => ?_) (fun c_1 => ?_)
  · obtain ⟨k_2, hk_2, rfl⟩ := nof' n c_1
    refine lv_aload_n hx hb dX12_seed_16 rfl (lv_at hl 0 rfl) ?_
    refine lv_iload_n hx hb dX12_seed_17 rfl (lv_at hl 1 rfl) ?_
    refine lv_i2l hx hb dX12_seed_18 rfl ?_
    refine sk_topl (Int64.ofNat k_2) (kx_i2l (by omega)) ?_
    refine sk_put (ws' := [ro_ mm 12 (mo g (nI ta) (nI pa) (nI pe) pd (nI pb) pp pf pg pn rt rn (nI cd) sn (nI il) tk am at_ aa 0 0 (-1) wt wy 0 (nI rm) (nI ud) (nI nu) (Int64.ofNat k_2) (nI qn) (nI qw) qo (nI qb) (nI qp) qa (nI qi) (nI oc)), ra_I (g 9) cI 6 rf]) (C := RX12) (T := TX12) (N := 92) (v := .long (Int64.ofNat k_2)) hx hb hts inlX12 tyX12 tyX12_ok nmX12 hown hK hP hD hS 0 rfl rfl 57 (Nat.le_of_ble_eq_true rfl) w_5_212 rfl rfl rfl (Nat.le_of_ble_eq_true rfl) rfl dX12_seed_19 (fun H locs hP hD hS => ?_)
    refine lv_iconst (v := 1) hx hb dX12_seed_22 ic_1 ?_
    exact sk_iret hx hb hr rfl hlocks hK hP hD hS (⟨k_2, rf, kR_1 k_2 ⟨by omega, rfl⟩ ⟨rfl, rfl, rfl⟩, rfl⟩) (Nat.le_of_ble_eq_true rfl) (Nat.le_of_ble_eq_true rfl) dX12_seed_23
  · skip
    refine lv_aload_n hx hb dX12_seed_4 rfl (lv_at hl 0 rfl) ?_
    refine sk_get (v := .ref (g 9)) (C := RX12) (T := TX12) (N := 92) hx hb hts inlX12 hown hK hP 0 rfl rfl 9 (Nat.le_of_ble_eq_true rfl) w_5_164 rfl dX12_seed_5 ?_
    refine lv_iconst (v := 5) hx hb dX12_seed_8 ic_5 ?_
    refine lv_dup2_11 hx hb dX12_seed_9 rfl rfl ?_
    refine va_iald hx hb hK.1 hP 1 0 rfl rfl (by unfold vp_in; decide) dX12_seed_10 ?_
    refine sk_top (rf 5) (rfl) ?_
    refine lv_iconst (v := 1) hx hb dX12_seed_11 ic_1 ?_
    refine lv_iadd hx hb dX12_seed_12 ?_
    refine sk_iastE (k := 5) (ws' := fun f_3 => [ro_ mm 12 (mo g (nI ta) (nI pa) (nI pe) pd (nI pb) pp pf pg pn rt rn (nI cd) sn (nI il) tk am at_ aa 0 0 (-1) wt wy 0 (nI rm) (nI ud) (nI nu) (Int64.ofNat sv) (nI qn) (nI qw) qo (nI qb) (nI qp) qa (nI qi) (nI oc)), ra_I (g 9) cI 6 f_3]) hx hb hK hP hD hS 1 0 rfl rfl (by omega) (by omega) (fun _ => rfl) dX12_seed_13 (fun f_3 H locs ef_4 hP hD hS => ?_)
    refine lv_iconst (v := 0) hx hb dX12_seed_14 ic_0 ?_
    exact sk_iret hx hb hr rfl hlocks hK hP hD hS (⟨sv, f_3, kR_0 (fun x hq => c_1 (by rw [hq.2]; exact nI_pos' (n := x) hq.1)) ⟨rfl, rfl, ef_4⟩, rfl⟩) (Nat.le_of_ble_eq_true rfl) (Nat.le_of_ble_eq_true rfl) dX12_seed_15
theorem dg_X12_status_0_0 : bqL cX12_status 0 [(0, [27]), (1, [133]), (2, [9]), (3, [20, 2, 96]), (6, [184, 0, 238]), (9, [153, 0, 12]), (21, [2]), (22, [172]), (12, [42]), (13, [180, 0, 17]), (16, [27]), (17, [46]), (18, [167, 0, 4])] = true := by decide +kernel
theorem dX12_status_0 : decode cX12_status 0 = .ok (.iload_n 1, 1) := q_iload_n1 (bat_get dg_X12_status_0_0 0 rfl rfl)
theorem dX12_status_1 : decode cX12_status 1 = .ok (.i2l, 1) := q_i2l (bat_get dg_X12_status_0_0 1 rfl rfl)
theorem dX12_status_2 : decode cX12_status 2 = .ok (.lconst 0, 1) := q_lconst0 (bat_get dg_X12_status_0_0 2 rfl rfl)
theorem dX12_status_3 : decode cX12_status 3 = .ok (.ldc2_w 608, 3) := q_ldc2_w (bat_get dg_X12_status_0_0 3 rfl rfl) rfl
theorem dX12_status_6 : decode cX12_status 6 = .ok (.invokestatic 238, 3) := q_invokestatic (bat_get dg_X12_status_0_0 4 rfl rfl) rfl
theorem dX12_status_9 : decode cX12_status 9 = .ok (.ifCond .eq 12, 3) := q_ifCond_eq (bat_get dg_X12_status_0_0 5 rfl rfl) rfl
theorem dX12_status_21 : decode cX12_status 21 = .ok (.iconst (-1), 1) := q_iconstm1 (bat_get dg_X12_status_0_0 6 rfl rfl)
theorem dX12_status_22 : decode cX12_status 22 = .ok (.ireturn, 1) := q_ireturn (bat_get dg_X12_status_0_0 7 rfl rfl)
theorem dX12_status_12 : decode cX12_status 12 = .ok (.aload_n 0, 1) := q_aload_n0 (bat_get dg_X12_status_0_0 8 rfl rfl)
theorem dX12_status_13 : decode cX12_status 13 = .ok (.getfield 17, 3) := q_getfield (bat_get dg_X12_status_0_0 9 rfl rfl) rfl
theorem dX12_status_16 : decode cX12_status 16 = .ok (.iload_n 1, 1) := q_iload_n1 (bat_get dg_X12_status_0_0 10 rfl rfl)
theorem dX12_status_17 : decode cX12_status 17 = .ok (.iaload, 1) := q_iaload (bat_get dg_X12_status_0_0 11 rfl rfl)
theorem dX12_status_18 : decode cX12_status 18 = .ok (.goto 4, 3) := q_goto (bat_get dg_X12_status_0_0 12 rfl rfl) rfl
theorem w_8_230 : (Cond.constantLong RX12 608 (5)) ∈ wsL_law := sk_mem (ck_8 _ (List.mem_of_getElem? (i := 230) rfl)) rfl
theorem w_8_229 : (Cond.code yX12_status cX12_status 2 (some .int)) ∈ wsL_law := sk_mem (ck_8 _ (List.mem_of_getElem? (i := 229) rfl)) rfl
set_option maxHeartbeats 4000000 in
set_option maxRecDepth 100000 in
theorem c_nm_status (l : Launch) (D : va_G) (cI cJ cC cZ cS : ClassId) (mm : Nat) (g : Nat → Nat) (ta : Nat) (pa : Nat) (pe : Nat) (pd : Int32) (pb : Nat) (pp : Int32) (pf : Int32) (pg : Int32) (pn : Int32) (rt : Int32) (rn : Int32) (cd : Nat) (sn : Int32) (il : Nat) (tk : Int32) (am : Int32) (at_ : Int32) (aa : Int32) (wt : Int32) (wy : Int64) (rm : Nat) (ud : Nat) (nu : Nat) (sd : Int64) (qn : Nat) (qw : Nat) (qo : Int32) (qb : Nat) (qp : Nat) (qa : Int64) (qi : Nat) (oc : Nat) (w : Int32) (rf : Nat → Int32)  : skM l yX12_status cX12_status 2 (some .int) 1 25 0 0 D (skT cI cJ cC cZ cS) [.ref mm, .int w] [ro_ mm 12 (mo g (nI ta) (nI pa) (nI pe) pd (nI pb) pp pf pg pn rt rn (nI cd) sn (nI il) tk am at_ aa 0 0 (-1) wt wy 0 (nI rm) (nI ud) (nI nu) sd (nI qn) (nI qw) qo (nI qb) (nI qp) qa (nI qi) (nI oc)), ra_I (g 9) cI 6 rf] (skI D (skT cI cJ cC cZ cS) (fun (r : Int32) (u : va_W) => statR rf w r ∧ u = [ro_ mm 12 (mo g (nI ta) (nI pa) (nI pe) pd (nI pb) pp pf pg pn rt rn (nI cd) sn (nI il) tk am at_ aa 0 0 (-1) wt wy 0 (nI rm) (nI ud) (nI nu) sd (nI qn) (nI qw) qo (nI qb) (nI qp) qa (nI qi) (nI oc)), ra_I (g 9) cI 6 rf])) := by
  refine skM_of pf_X12_status (Nat.le_of_ble_eq_true rfl) ?_
  intro p e s m below meth c A ls E hP hD hl
  refine skE_el E (fun hx hb hr hml hlocks hin hown hts hK hA => ?_)
  have hown : s.vm.findClass RX12 = some m.cls := hown
  have hS : va_S A s.heap s.heap [] := va_S.rf
  have hl : lv_has ls 2 [(0, .ref mm), (1, .int w)] := hl
  refine lv_iload_n hx hb dX12_status_0 rfl (lv_at hl 1 rfl) ?_
  refine lv_i2l hx hb dX12_status_1 rfl ?_
  refine lv_lconst (v := 0) hx hb dX12_status_2 (by decide) ?_
  refine lv_ldc2 (v := 5) hx hb hown (hts _ w_8_230) dX12_status_3 ?_
  refine sk_Si (n := 3) (rest := []) (wr := [ro_ mm 12 (mo g (nI ta) (nI pa) (nI pe) pd (nI pb) pp pf pg pn rt rn (nI cd) sn (nI il) tk am at_ aa 0 0 (-1) wt wy 0 (nI rm) (nI ud) (nI nu) sd (nI qn) (nI qw) qo (nI qb) (nI qp) qa (nI qi) (nI oc)), ra_I (g 9) cI 6 rf]) ⟨hx, hb, hml, hown, hts⟩ hl.1 (c_nm_isIn l D cI cJ cC cZ cS (Int32.toInt64 w) 0 5) w_7_0 w_7_1 w_1_14 w_7_2 hd_X12_isIn_3 ⟨⟨(Nat.le_of_ble_eq_true rfl), (Nat.le_of_ble_eq_true rfl)⟩, (Nat.le_of_ble_eq_true rfl), (Nat.le_of_ble_eq_true rfl)⟩ hK hP hD hS hA [] [0, 1] rfl rfl (by decide +kernel) (by decide +kernel) (by decide +kernel) rfl rfl (Nat.le_of_ble_eq_true rfl) dX12_status_6 (fun r_2 u H locs hw hP hD hS => ?_)
  obtain ⟨b_1, hb1_3, rfl, rfl⟩ := hw
  refine o_re (ws' := [ro_ mm 12 (mo g (nI ta) (nI pa) (nI pe) pd (nI pb) pp pf pg pn rt rn (nI cd) sn (nI il) tk am at_ aa 0 0 (-1) wt wy 0 (nI rm) (nI ud) (nI nu) sd (nI qn) (nI qw) qo (nI qb) (nI qp) qa (nI qi) (nI oc)), ra_I (g 9) cI 6 rf]) hP hD rfl (fun hP hD => ?_)
  refine lv_if_eq (tgt := 21) hx hb dX12_status_9 (by decide) (fun c_4 => ?_) (fun c_4 => ?_)
  · have c_4 : b_1 = 0 := (neq b_1 0 (by omega) (Nat.le_of_ble_eq_true rfl)).mp c_4
    refine lv_iconst (v := (-1)) hx hb dX12_status_21 (by decide) ?_
    exact sk_iret hx hb hr rfl hlocks hK hP hD hS (⟨stat_n (fun hq => rr_0 hb1_3 (by omega) ((kin0 (n := 6) (by decide) (by omega)).mpr hq)), rfl⟩) (Nat.le_of_ble_eq_true rfl) (Nat.le_of_ble_eq_true rfl) dX12_status_22
  · have c_4 : ¬ (b_1 = 0) := fun h => c_4 ((neq b_1 0 (by omega) (Nat.le_of_ble_eq_true rfl)).mpr h)
    obtain ⟨kd_5, hkd_5, rfl⟩ := (kin0 (n := 6) (by decide) (by omega)).mp (rr_1 hb1_3 (by omega))
    refine lv_aload_n hx hb dX12_status_12 rfl (lv_at hl 0 rfl) ?_
    refine sk_get (v := .ref (g 9)) (C := RX12) (T := TX12) (N := 92) hx hb hts inlX12 hown hK hP 0 rfl rfl 9 (Nat.le_of_ble_eq_true rfl) w_5_164 rfl dX12_status_13 ?_
    refine lv_iload_n hx hb dX12_status_16 rfl (lv_at hl 1 rfl) ?_
    refine va_iald hx hb hK.1 hP 1 0 rfl rfl (vin kd_5 6 (by omega) (Nat.le_of_ble_eq_true rfl)) dX12_status_17 ?_
    refine sk_top (rf kd_5) (by rw [nI_clamp (by omega)]) ?_
    refine lv_goto (tgt := 22) hx hb dX12_status_18 (by decide) ?_
    exact sk_iret hx hb hr rfl hlocks hK hP hD hS (⟨stat_y hkd_5 rfl, rfl⟩) (Nat.le_of_ble_eq_true rfl) (Nat.le_of_ble_eq_true rfl) dX12_status_22
theorem dg_X12_keeps_0_0 : bqL cX12_keeps 0 [(0, [42]), (1, [42]), (2, [180, 1, 215]), (5, [4]), (6, [96]), (7, [16, 20]), (9, [112]), (10, [181, 1, 215]), (13, [3]), (14, [60]), (15, [27]), (16, [16, 120]), (18, [162, 0, 29]), (47, [42]), (48, [180, 1, 53]), (51, [16, 20]), (53, [162, 0, 13]), (66, [177]), (56, [42]), (57, [89]), (58, [180, 1, 53]), (61, [4]), (62, [96]), (63, [181, 1, 53]), (21, [42]), (22, [180, 0, 107]), (25, [16, 120]), (27, [42]), (28, [180, 1, 215]), (31, [104]), (32, [27]), (33, [96]), (34, [42]), (35, [180, 0, 63]), (38, [27]), (39, [46]), (40, [79]), (41, [132, 1, 1]), (44, [167, 255, 227])] = true := by decide +kernel
theorem dX12_keeps_0 : decode cX12_keeps 0 = .ok (.aload_n 0, 1) := q_aload_n0 (bat_get dg_X12_keeps_0_0 0 rfl rfl)
theorem dX12_keeps_1 : decode cX12_keeps 1 = .ok (.aload_n 0, 1) := q_aload_n0 (bat_get dg_X12_keeps_0_0 1 rfl rfl)
theorem dX12_keeps_2 : decode cX12_keeps 2 = .ok (.getfield 471, 3) := q_getfield (bat_get dg_X12_keeps_0_0 2 rfl rfl) rfl
theorem dX12_keeps_5 : decode cX12_keeps 5 = .ok (.iconst 1, 1) := q_iconst1 (bat_get dg_X12_keeps_0_0 3 rfl rfl)
theorem dX12_keeps_6 : decode cX12_keeps 6 = .ok (.iadd, 1) := q_iadd (bat_get dg_X12_keeps_0_0 4 rfl rfl)
theorem dX12_keeps_7 : decode cX12_keeps 7 = .ok (.bipush 20, 2) := q_bipush (bat_get dg_X12_keeps_0_0 5 rfl rfl) rfl
theorem dX12_keeps_9 : decode cX12_keeps 9 = .ok (.irem, 1) := q_irem (bat_get dg_X12_keeps_0_0 6 rfl rfl)
theorem dX12_keeps_10 : decode cX12_keeps 10 = .ok (.putfield 471, 3) := q_putfield (bat_get dg_X12_keeps_0_0 7 rfl rfl) rfl
theorem dX12_keeps_13 : decode cX12_keeps 13 = .ok (.iconst 0, 1) := q_iconst0 (bat_get dg_X12_keeps_0_0 8 rfl rfl)
theorem dX12_keeps_14 : decode cX12_keeps 14 = .ok (.istore_n 1, 1) := q_istore_n1 (bat_get dg_X12_keeps_0_0 9 rfl rfl)
theorem dX12_keeps_15 : decode cX12_keeps 15 = .ok (.iload_n 1, 1) := q_iload_n1 (bat_get dg_X12_keeps_0_0 10 rfl rfl)
theorem dX12_keeps_16 : decode cX12_keeps 16 = .ok (.bipush 120, 2) := q_bipush (bat_get dg_X12_keeps_0_0 11 rfl rfl) rfl
theorem dX12_keeps_18 : decode cX12_keeps 18 = .ok (.if_icmp .ge 29, 3) := q_if_icmp_ge (bat_get dg_X12_keeps_0_0 12 rfl rfl) rfl
theorem dX12_keeps_47 : decode cX12_keeps 47 = .ok (.aload_n 0, 1) := q_aload_n0 (bat_get dg_X12_keeps_0_0 13 rfl rfl)
theorem dX12_keeps_48 : decode cX12_keeps 48 = .ok (.getfield 309, 3) := q_getfield (bat_get dg_X12_keeps_0_0 14 rfl rfl) rfl
theorem dX12_keeps_51 : decode cX12_keeps 51 = .ok (.bipush 20, 2) := q_bipush (bat_get dg_X12_keeps_0_0 15 rfl rfl) rfl
theorem dX12_keeps_53 : decode cX12_keeps 53 = .ok (.if_icmp .ge 13, 3) := q_if_icmp_ge (bat_get dg_X12_keeps_0_0 16 rfl rfl) rfl
theorem dX12_keeps_66 : decode cX12_keeps 66 = .ok (.return_, 1) := q_return_ (bat_get dg_X12_keeps_0_0 17 rfl rfl)
theorem dX12_keeps_56 : decode cX12_keeps 56 = .ok (.aload_n 0, 1) := q_aload_n0 (bat_get dg_X12_keeps_0_0 18 rfl rfl)
theorem dX12_keeps_57 : decode cX12_keeps 57 = .ok (.dup, 1) := q_dup (bat_get dg_X12_keeps_0_0 19 rfl rfl)
theorem dX12_keeps_58 : decode cX12_keeps 58 = .ok (.getfield 309, 3) := q_getfield (bat_get dg_X12_keeps_0_0 20 rfl rfl) rfl
theorem dX12_keeps_61 : decode cX12_keeps 61 = .ok (.iconst 1, 1) := q_iconst1 (bat_get dg_X12_keeps_0_0 21 rfl rfl)
theorem dX12_keeps_62 : decode cX12_keeps 62 = .ok (.iadd, 1) := q_iadd (bat_get dg_X12_keeps_0_0 22 rfl rfl)
theorem dX12_keeps_63 : decode cX12_keeps 63 = .ok (.putfield 309, 3) := q_putfield (bat_get dg_X12_keeps_0_0 23 rfl rfl) rfl
theorem dX12_keeps_21 : decode cX12_keeps 21 = .ok (.aload_n 0, 1) := q_aload_n0 (bat_get dg_X12_keeps_0_0 24 rfl rfl)
theorem dX12_keeps_22 : decode cX12_keeps 22 = .ok (.getfield 107, 3) := q_getfield (bat_get dg_X12_keeps_0_0 25 rfl rfl) rfl
theorem dX12_keeps_25 : decode cX12_keeps 25 = .ok (.bipush 120, 2) := q_bipush (bat_get dg_X12_keeps_0_0 26 rfl rfl) rfl
theorem dX12_keeps_27 : decode cX12_keeps 27 = .ok (.aload_n 0, 1) := q_aload_n0 (bat_get dg_X12_keeps_0_0 27 rfl rfl)
theorem dX12_keeps_28 : decode cX12_keeps 28 = .ok (.getfield 471, 3) := q_getfield (bat_get dg_X12_keeps_0_0 28 rfl rfl) rfl
theorem dX12_keeps_31 : decode cX12_keeps 31 = .ok (.imul, 1) := q_imul (bat_get dg_X12_keeps_0_0 29 rfl rfl)
theorem dX12_keeps_32 : decode cX12_keeps 32 = .ok (.iload_n 1, 1) := q_iload_n1 (bat_get dg_X12_keeps_0_0 30 rfl rfl)
theorem dX12_keeps_33 : decode cX12_keeps 33 = .ok (.iadd, 1) := q_iadd (bat_get dg_X12_keeps_0_0 31 rfl rfl)
theorem dX12_keeps_34 : decode cX12_keeps 34 = .ok (.aload_n 0, 1) := q_aload_n0 (bat_get dg_X12_keeps_0_0 32 rfl rfl)
theorem dX12_keeps_35 : decode cX12_keeps 35 = .ok (.getfield 63, 3) := q_getfield (bat_get dg_X12_keeps_0_0 33 rfl rfl) rfl
theorem dX12_keeps_38 : decode cX12_keeps 38 = .ok (.iload_n 1, 1) := q_iload_n1 (bat_get dg_X12_keeps_0_0 34 rfl rfl)
theorem dX12_keeps_39 : decode cX12_keeps 39 = .ok (.iaload, 1) := q_iaload (bat_get dg_X12_keeps_0_0 35 rfl rfl)
theorem dX12_keeps_40 : decode cX12_keeps 40 = .ok (.iastore, 1) := q_iastore (bat_get dg_X12_keeps_0_0 36 rfl rfl)
theorem dX12_keeps_41 : decode cX12_keeps 41 = .ok (.iinc 1 1, 3) := q_iinc (bat_get dg_X12_keeps_0_0 37 rfl rfl) rfl
theorem dX12_keeps_44 : decode cX12_keeps 44 = .ok (.goto (-29), 3) := q_goto (bat_get dg_X12_keeps_0_0 38 rfl rfl) rfl
theorem w_5_211 : (Cond.fieldLink RX12 471 "SameKeeperModel" "newest" "I") ∈ wsL_law := sk_mem (ck_5 _ (List.mem_of_getElem? (i := 211) rfl)) rfl
theorem w_5_209 : (Cond.fieldLink RX12 107 "SameKeeperModel" "kept0" "[I") ∈ wsL_law := sk_mem (ck_5 _ (List.mem_of_getElem? (i := 209) rfl)) rfl
theorem w_8_133 : (Cond.code yX12_keeps cX12_keeps 2 none) ∈ wsL_law := sk_mem (ck_8 _ (List.mem_of_getElem? (i := 133) rfl)) rfl
set_option maxHeartbeats 4000000 in
set_option maxRecDepth 100000 in
theorem c_nm_keeps (l : Launch) (D : va_G) (cI cJ cC cZ cS : ClassId) (mm : Nat) (g : Nat → Nat) (ta : Nat) (pa : Nat) (pe : Nat) (pd : Int32) (pb : Nat) (pp : Int32) (pf : Int32) (pg : Int32) (pn : Int32) (rt : Int32) (rn : Int32) (cd : Nat) (sn : Int32) (il : Nat) (tk : Int32) (am : Int32) (at_ : Int32) (aa : Int32) (wt : Int32) (wy : Int64) (rm : Nat) (ud : Nat) (nu : Nat) (sd : Int64) (qn : Nat) (qw : Nat) (qo : Int32) (qb : Nat) (qp : Nat) (qa : Int64) (qi : Nat) (oc : Nat) (nw : Nat → Int32) (kp : Nat → Int32) (wn : Nat) (mN : Nat) (Ba : Nat → Nat) (We : Nat → Nat) (U : Nat → Bool) (ke : Nat) (lg : KLg) (su : Nat → KN) (hnu : nu < 20) (hud : ud ≤ 20) (hnw : nwX wn mN Ba We U ke lg nw) (hkp : kpX ud nu su lg kp) : skM l yX12_keeps cX12_keeps 2 none 0 0 0 0 D (skT cI cJ cC cZ cS) [.ref mm] [ro_ mm 12 (mo g (nI ta) (nI pa) (nI pe) pd (nI pb) pp pf pg pn rt rn (nI cd) sn (nI il) tk am at_ aa 0 0 (-1) wt wy 0 (nI rm) (nI ud) (nI nu) sd (nI qn) (nI qw) qo (nI qb) (nI qp) qa (nI qi) (nI oc)), ra_I (g 31) cI 120 nw, ra_I (g 54) cI 2400 kp] (skV D (skT cI cJ cC cZ cS) (fun (u : va_W) => ∃ (kp2 : Nat → Int32), ∃ (ud2 : Nat), ud2 = min (ud + 1) 20 ∧ kpX ud2 ((nu + 1) % 20) (psh ud su (wn, mN, Ba, We, U, ke)) lg kp2 ∧ u = [ro_ mm 12 (mo g (nI ta) (nI pa) (nI pe) pd (nI pb) pp pf pg pn rt rn (nI cd) sn (nI il) tk am at_ aa 0 0 (-1) wt wy 0 (nI rm) (nI ud2) (nI ((nu + 1) % 20)) sd (nI qn) (nI qw) qo (nI qb) (nI qp) qa (nI qi) (nI oc)), ra_I (g 31) cI 120 nw, ra_I (g 54) cI 2400 kp2])) := by
  refine skM_of pf_X12_keeps (Nat.le_of_ble_eq_true rfl) ?_
  intro p e s m below meth c A ls E hP hD hl
  refine skE_el E (fun hx hb hr hml hlocks hin hown hts hK hA => ?_)
  have hown : s.vm.findClass RX12 = some m.cls := hown
  have hS : va_S A s.heap s.heap [] := va_S.rf
  have hl : lv_has ls 2 [(0, .ref mm)] := hl
  refine lv_aload_n hx hb dX12_keeps_0 rfl (lv_at hl 0 rfl) ?_
  refine lv_aload_n hx hb dX12_keeps_1 rfl (lv_at hl 0 rfl) ?_
  refine sk_get (v := .int (nI nu)) (C := RX12) (T := TX12) (N := 92) hx hb hts inlX12 hown hK hP 0 rfl rfl 56 (Nat.le_of_ble_eq_true rfl) w_5_211 rfl dX12_keeps_2 ?_
  refine lv_iconst (v := 1) hx hb dX12_keeps_5 ic_1 ?_
  refine lv_iadd hx hb dX12_keeps_6 ?_
  refine sk_top (nI (nu + 1)) (nI_add nu 1) ?_
  refine lv_bipush (v := 20) hx hb dX12_keeps_7 (by decide) ?_
  refine lv_irem hx hb dX12_keeps_9 (by decide) ?_
  refine sk_top (nI ((nu + 1) % 20)) (nrem (nu + 1) 20 (by omega) (by omega) (by omega)) ?_
  refine sk_put (ws' := [ro_ mm 12 (mo g (nI ta) (nI pa) (nI pe) pd (nI pb) pp pf pg pn rt rn (nI cd) sn (nI il) tk am at_ aa 0 0 (-1) wt wy 0 (nI rm) (nI ud) (nI ((nu + 1) % 20)) sd (nI qn) (nI qw) qo (nI qb) (nI qp) qa (nI qi) (nI oc)), ra_I (g 31) cI 120 nw, ra_I (g 54) cI 2400 kp]) (C := RX12) (T := TX12) (N := 92) (v := .int (nI ((nu + 1) % 20))) hx hb hts inlX12 tyX12 tyX12_ok nmX12 hown hK hP hD hS 0 rfl rfl 56 (Nat.le_of_ble_eq_true rfl) w_5_211 rfl rfl rfl (Nat.le_of_ble_eq_true rfl) rfl dX12_keeps_10 (fun H locs hP hD hS => ?_)
  refine lv_iconst (v := 0) hx hb dX12_keeps_13 ic_0 ?_
  refine lv_istore_n (lv' := [(1, .int 0), (0, .ref mm)]) hx hb dX12_keeps_14 rfl hl (by decide) rfl (fun ls hl => ?_)
  have lp_1 : ∀ (n_2 : Nat) (i : Nat) (zk : Nat → Int32) (H : Heap) (locs : List Loc) (ls : Array Slot), 120 - i < n_2 → (i ≤ 120) → (kcp (120 * ((nu + 1) % 20)) i kp nw zk) → va_P D vwCl [ro_ mm 12 (mo g (nI ta) (nI pa) (nI pe) pd (nI pb) pp pf pg pn rt rn (nI cd) sn (nI il) tk am at_ aa 0 0 (-1) wt wy 0 (nI rm) (nI ud) (nI ((nu + 1) % 20)) sd (nI qn) (nI qw) qo (nI qb) (nI qp) qa (nI qi) (nI oc)), ra_I (g 31) cI 120 nw, ra_I (g 54) cI 2400 zk] H → va_D A [ro_ mm 12 (mo g (nI ta) (nI pa) (nI pe) pd (nI pb) pp pf pg pn rt rn (nI cd) sn (nI il) tk am at_ aa 0 0 (-1) wt wy 0 (nI rm) (nI ud) (nI ((nu + 1) % 20)) sd (nI qn) (nI qw) qo (nI qb) (nI qp) qa (nI qi) (nI oc)), ra_I (g 31) cI 120 nw, ra_I (g 54) cI 2400 zk] → va_S A s.heap H locs → lv_has ls 2 [(1, .int (nI i)), (0, .ref mm)] → W p l e { frames := 0, cells := 0, slots := 0, locals := 0 } s m ([.ref mm] : List Value).toArray below meth c H locs 0 0 (MQ below (skV D (skT cI cJ cC cZ cS) (fun (u : va_W) => ∃ (kp2 : Nat → Int32), ∃ (ud2 : Nat), ud2 = min (ud + 1) 20 ∧ kpX ud2 ((nu + 1) % 20) (psh ud su (wn, mN, Ba, We, U, ke)) lg kp2 ∧ u = [ro_ mm 12 (mo g (nI ta) (nI pa) (nI pe) pd (nI pb) pp pf pg pn rt rn (nI cd) sn (nI il) tk am at_ aa 0 0 (-1) wt wy 0 (nI rm) (nI ud2) (nI ((nu + 1) % 20)) sd (nI qn) (nI qw) qo (nI qb) (nI qp) qa (nI qi) (nI oc)), ra_I (g 31) cI 120 nw, ra_I (g 54) cI 2400 kp2]) A) ([.ref mm] : List Value).toArray s 0 0 A) (F0 m 15 ls []) := by
    intro n_2
    induction n_2 with
    | zero => intro i zk H locs ls hm; exact absurd hm (Nat.not_lt_zero _)
    | succ n_2 ih_lp_1 =>
      intro i zk H locs ls hm hi hcp hP hD hS hl
      refine lv_iload_n hx hb dX12_keeps_15 rfl (lv_at hl 0 rfl) ?_
      refine lv_bipush (v := 120) hx hb dX12_keeps_16 (by decide) ?_
      refine lv_icmp_ge (tgt := 47) hx hb dX12_keeps_18 (by decide) (fun c_3 => ?_) (fun c_3 => ?_)
      · have c_3 : 120 ≤ i := (nle 120 i (Nat.le_of_ble_eq_true rfl) (by omega)).mp c_3
        have hcp2 := hcp
        rw [show i = 120 by omega] at hcp2
        refine lv_aload_n hx hb dX12_keeps_47 rfl (lv_at hl 1 rfl) ?_
        refine sk_get (v := .int (nI ud)) (C := RX12) (T := TX12) (N := 92) hx hb hts inlX12 hown hK hP 0 rfl rfl 55 (Nat.le_of_ble_eq_true rfl) w_5_210 rfl dX12_keeps_48 ?_
        refine lv_bipush (v := 20) hx hb dX12_keeps_51 (by decide) ?_
        refine lv_icmp_ge (tgt := 66) hx hb dX12_keeps_53 (by decide) (fun c_4 => ?_) (fun c_4 => ?_)
        · have c_4 : 20 ≤ ud := (nle 20 ud (Nat.le_of_ble_eq_true rfl) (by omega)).mp c_4
          have heu : ud = min (ud + 1) 20 := by omega
          have hkN : kpX ud ((nu + 1) % 20) (psh ud su (wn, mN, Ba, We, U, ke)) lg zk := (by have h9 := kpX_push (n := (wn, mN, Ba, We, U, ke)) hkp hnw hnu hud (fun k hk => hcp2.1 k (by omega)) hcp2.2; rw [← heu] at h9; exact h9)
          exact sk_vret hx hb hr hlocks hK hP hD hS (⟨zk, ud, by omega, hkN, rfl⟩) (Nat.le_of_ble_eq_true rfl) (Nat.le_of_ble_eq_true rfl) dX12_keeps_66
        · have c_4 : ¬ (20 ≤ ud) := fun h => c_4 ((nle 20 ud (Nat.le_of_ble_eq_true rfl) (by omega)).mpr h)
          refine lv_aload_n hx hb dX12_keeps_56 rfl (lv_at hl 1 rfl) ?_
          refine lv_dup hx hb dX12_keeps_57 rfl ?_
          refine sk_get (v := .int (nI ud)) (C := RX12) (T := TX12) (N := 92) hx hb hts inlX12 hown hK hP 0 rfl rfl 55 (Nat.le_of_ble_eq_true rfl) w_5_210 rfl dX12_keeps_58 ?_
          refine lv_iconst (v := 1) hx hb dX12_keeps_61 ic_1 ?_
          refine lv_iadd hx hb dX12_keeps_62 ?_
          refine sk_top (nI (ud + 1)) (nI_add ud 1) ?_
          refine sk_put (ws' := [ro_ mm 12 (mo g (nI ta) (nI pa) (nI pe) pd (nI pb) pp pf pg pn rt rn (nI cd) sn (nI il) tk am at_ aa 0 0 (-1) wt wy 0 (nI rm) (nI (ud + 1)) (nI ((nu + 1) % 20)) sd (nI qn) (nI qw) qo (nI qb) (nI qp) qa (nI qi) (nI oc)), ra_I (g 31) cI 120 nw, ra_I (g 54) cI 2400 zk]) (C := RX12) (T := TX12) (N := 92) (v := .int (nI (ud + 1))) hx hb hts inlX12 tyX12 tyX12_ok nmX12 hown hK hP hD hS 0 rfl rfl 55 (Nat.le_of_ble_eq_true rfl) w_5_210 rfl rfl rfl (Nat.le_of_ble_eq_true rfl) rfl dX12_keeps_63 (fun H locs hP hD hS => ?_)
          have heu : ud + 1 = min (ud + 1) 20 := by omega
          have hkN : kpX (ud + 1) ((nu + 1) % 20) (psh ud su (wn, mN, Ba, We, U, ke)) lg zk := (by have h9 := kpX_push (n := (wn, mN, Ba, We, U, ke)) hkp hnw hnu hud (fun k hk => hcp2.1 k (by omega)) hcp2.2; rw [← heu] at h9; exact h9)
          exact sk_vret hx hb hr hlocks hK hP hD hS (⟨zk, ud + 1, by omega, hkN, rfl⟩) (Nat.le_of_ble_eq_true rfl) (Nat.le_of_ble_eq_true rfl) dX12_keeps_66
      · have c_3 : ¬ (120 ≤ i) := fun h => c_3 ((nle 120 i (Nat.le_of_ble_eq_true rfl) (by omega)).mpr h)
        refine lv_aload_n hx hb dX12_keeps_21 rfl (lv_at hl 1 rfl) ?_
        refine sk_get (v := .ref (g 54)) (C := RX12) (T := TX12) (N := 92) hx hb hts inlX12 hown hK hP 0 rfl rfl 54 (Nat.le_of_ble_eq_true rfl) w_5_209 rfl dX12_keeps_22 ?_
        refine lv_bipush (v := 120) hx hb dX12_keeps_25 (by decide) ?_
        refine lv_aload_n hx hb dX12_keeps_27 rfl (lv_at hl 1 rfl) ?_
        refine sk_get (v := .int (nI ((nu + 1) % 20))) (C := RX12) (T := TX12) (N := 92) hx hb hts inlX12 hown hK hP 0 rfl rfl 56 (Nat.le_of_ble_eq_true rfl) w_5_211 rfl dX12_keeps_28 ?_
        refine lv_imul hx hb dX12_keeps_31 ?_
        refine sk_top (nI (120 * ((nu + 1) % 20))) (nmul 120 ((nu + 1) % 20)) ?_
        refine lv_iload_n hx hb dX12_keeps_32 rfl (lv_at hl 0 rfl) ?_
        refine lv_iadd hx hb dX12_keeps_33 ?_
        refine sk_top (nI (120 * ((nu + 1) % 20) + i)) (nI_add (120 * ((nu + 1) % 20)) i) ?_
        refine lv_aload_n hx hb dX12_keeps_34 rfl (lv_at hl 1 rfl) ?_
        refine sk_get (v := .ref (g 31)) (C := RX12) (T := TX12) (N := 92) hx hb hts inlX12 hown hK hP 0 rfl rfl 31 (Nat.le_of_ble_eq_true rfl) w_5_186 rfl dX12_keeps_35 ?_
        refine lv_iload_n hx hb dX12_keeps_38 rfl (lv_at hl 0 rfl) ?_
        refine va_iald hx hb hK.1 hP 1 0 rfl rfl (vin i 120 (by omega) (Nat.le_of_ble_eq_true rfl)) dX12_keeps_39 ?_
        refine sk_top (nw i) (by rw [nI_clamp (by omega)]) ?_
        refine sk_iastE (k := (120 * ((nu + 1) % 20) + i)) (x := (nw i)) (ws' := fun f_5 => [ro_ mm 12 (mo g (nI ta) (nI pa) (nI pe) pd (nI pb) pp pf pg pn rt rn (nI cd) sn (nI il) tk am at_ aa 0 0 (-1) wt wy 0 (nI rm) (nI ud) (nI ((nu + 1) % 20)) sd (nI qn) (nI qw) qo (nI qb) (nI qp) qa (nI qi) (nI oc)), ra_I (g 31) cI 120 nw, ra_I (g 54) cI 2400 f_5]) hx hb hK hP hD hS 2 0 rfl rfl (by omega) (by omega) (fun _ => rfl) dX12_keeps_40 (fun f_5 H locs ef_6 hP hD hS => ?_)
        refine lv_iinc (v := nI (i + 1)) (lv' := [(1, .int (nI (i + 1))), (0, .ref mm)]) hx hb dX12_keeps_41 hl (k := 0) rfl (ninc i 1 (by decide)) (by decide) rfl (fun ls hl => ?_)
        refine lv_goto (tgt := 15) hx hb dX12_keeps_44 (by decide) ?_
        exact ih_lp_1 (i + 1) f_5 _ _ _ (by omega) (by omega) (kcp_s hcp ef_6 rfl (by omega)) hP hD hS (lv_sub hl [0, 1] rfl)
  exact lp_1 (120 - 0 + 1) 0 kp _ _ _ (Nat.lt_succ_self _) (by omega) (kcp_0 _ _ _) hP hD hS (lv_sub hl [0, 1] rfl)
theorem dg_X12_undo_0_0 : bqL cX12_undo 0 [(0, [42]), (1, [180, 1, 53]), (4, [154, 0, 15]), (19, [3]), (20, [60]), (21, [27]), (22, [16, 120]), (24, [162, 0, 29]), (53, [42]), (54, [42]), (55, [180, 1, 215]), (58, [16, 20]), (60, [96]), (61, [4]), (62, [100]), (63, [16, 20]), (65, [112]), (66, [181, 1, 215]), (69, [42]), (70, [89]), (71, [180, 1, 53]), (74, [4]), (75, [100]), (76, [181, 1, 53]), (79, [4]), (80, [172]), (27, [42]), (28, [180, 0, 63]), (31, [27]), (32, [42]), (33, [180, 0, 107]), (36, [16, 120]), (38, [42]), (39, [180, 1, 215]), (42, [104]), (43, [27]), (44, [96]), (45, [46]), (46, [79]), (47, [132, 1, 1])] = true := by decide +kernel
theorem dX12_undo_0 : decode cX12_undo 0 = .ok (.aload_n 0, 1) := q_aload_n0 (bat_get dg_X12_undo_0_0 0 rfl rfl)
theorem dX12_undo_1 : decode cX12_undo 1 = .ok (.getfield 309, 3) := q_getfield (bat_get dg_X12_undo_0_0 1 rfl rfl) rfl
theorem dX12_undo_4 : decode cX12_undo 4 = .ok (.ifCond .ne 15, 3) := q_ifCond_ne (bat_get dg_X12_undo_0_0 2 rfl rfl) rfl
theorem dX12_undo_19 : decode cX12_undo 19 = .ok (.iconst 0, 1) := q_iconst0 (bat_get dg_X12_undo_0_0 3 rfl rfl)
theorem dX12_undo_20 : decode cX12_undo 20 = .ok (.istore_n 1, 1) := q_istore_n1 (bat_get dg_X12_undo_0_0 4 rfl rfl)
theorem dX12_undo_21 : decode cX12_undo 21 = .ok (.iload_n 1, 1) := q_iload_n1 (bat_get dg_X12_undo_0_0 5 rfl rfl)
theorem dX12_undo_22 : decode cX12_undo 22 = .ok (.bipush 120, 2) := q_bipush (bat_get dg_X12_undo_0_0 6 rfl rfl) rfl
theorem dX12_undo_24 : decode cX12_undo 24 = .ok (.if_icmp .ge 29, 3) := q_if_icmp_ge (bat_get dg_X12_undo_0_0 7 rfl rfl) rfl
theorem dX12_undo_53 : decode cX12_undo 53 = .ok (.aload_n 0, 1) := q_aload_n0 (bat_get dg_X12_undo_0_0 8 rfl rfl)
theorem dX12_undo_54 : decode cX12_undo 54 = .ok (.aload_n 0, 1) := q_aload_n0 (bat_get dg_X12_undo_0_0 9 rfl rfl)
theorem dX12_undo_55 : decode cX12_undo 55 = .ok (.getfield 471, 3) := q_getfield (bat_get dg_X12_undo_0_0 10 rfl rfl) rfl
theorem dX12_undo_58 : decode cX12_undo 58 = .ok (.bipush 20, 2) := q_bipush (bat_get dg_X12_undo_0_0 11 rfl rfl) rfl
theorem dX12_undo_60 : decode cX12_undo 60 = .ok (.iadd, 1) := q_iadd (bat_get dg_X12_undo_0_0 12 rfl rfl)
theorem dX12_undo_61 : decode cX12_undo 61 = .ok (.iconst 1, 1) := q_iconst1 (bat_get dg_X12_undo_0_0 13 rfl rfl)
theorem dX12_undo_62 : decode cX12_undo 62 = .ok (.isub, 1) := q_isub (bat_get dg_X12_undo_0_0 14 rfl rfl)
theorem dX12_undo_63 : decode cX12_undo 63 = .ok (.bipush 20, 2) := q_bipush (bat_get dg_X12_undo_0_0 15 rfl rfl) rfl
theorem dX12_undo_65 : decode cX12_undo 65 = .ok (.irem, 1) := q_irem (bat_get dg_X12_undo_0_0 16 rfl rfl)
theorem dX12_undo_66 : decode cX12_undo 66 = .ok (.putfield 471, 3) := q_putfield (bat_get dg_X12_undo_0_0 17 rfl rfl) rfl
theorem dX12_undo_69 : decode cX12_undo 69 = .ok (.aload_n 0, 1) := q_aload_n0 (bat_get dg_X12_undo_0_0 18 rfl rfl)
theorem dX12_undo_70 : decode cX12_undo 70 = .ok (.dup, 1) := q_dup (bat_get dg_X12_undo_0_0 19 rfl rfl)
theorem dX12_undo_71 : decode cX12_undo 71 = .ok (.getfield 309, 3) := q_getfield (bat_get dg_X12_undo_0_0 20 rfl rfl) rfl
theorem dX12_undo_74 : decode cX12_undo 74 = .ok (.iconst 1, 1) := q_iconst1 (bat_get dg_X12_undo_0_0 21 rfl rfl)
theorem dX12_undo_75 : decode cX12_undo 75 = .ok (.isub, 1) := q_isub (bat_get dg_X12_undo_0_0 22 rfl rfl)
theorem dX12_undo_76 : decode cX12_undo 76 = .ok (.putfield 309, 3) := q_putfield (bat_get dg_X12_undo_0_0 23 rfl rfl) rfl
theorem dX12_undo_79 : decode cX12_undo 79 = .ok (.iconst 1, 1) := q_iconst1 (bat_get dg_X12_undo_0_0 24 rfl rfl)
theorem dX12_undo_80 : decode cX12_undo 80 = .ok (.ireturn, 1) := q_ireturn (bat_get dg_X12_undo_0_0 25 rfl rfl)
theorem dX12_undo_27 : decode cX12_undo 27 = .ok (.aload_n 0, 1) := q_aload_n0 (bat_get dg_X12_undo_0_0 26 rfl rfl)
theorem dX12_undo_28 : decode cX12_undo 28 = .ok (.getfield 63, 3) := q_getfield (bat_get dg_X12_undo_0_0 27 rfl rfl) rfl
theorem dX12_undo_31 : decode cX12_undo 31 = .ok (.iload_n 1, 1) := q_iload_n1 (bat_get dg_X12_undo_0_0 28 rfl rfl)
theorem dX12_undo_32 : decode cX12_undo 32 = .ok (.aload_n 0, 1) := q_aload_n0 (bat_get dg_X12_undo_0_0 29 rfl rfl)
theorem dX12_undo_33 : decode cX12_undo 33 = .ok (.getfield 107, 3) := q_getfield (bat_get dg_X12_undo_0_0 30 rfl rfl) rfl
theorem dX12_undo_36 : decode cX12_undo 36 = .ok (.bipush 120, 2) := q_bipush (bat_get dg_X12_undo_0_0 31 rfl rfl) rfl
theorem dX12_undo_38 : decode cX12_undo 38 = .ok (.aload_n 0, 1) := q_aload_n0 (bat_get dg_X12_undo_0_0 32 rfl rfl)
theorem dX12_undo_39 : decode cX12_undo 39 = .ok (.getfield 471, 3) := q_getfield (bat_get dg_X12_undo_0_0 33 rfl rfl) rfl
theorem dX12_undo_42 : decode cX12_undo 42 = .ok (.imul, 1) := q_imul (bat_get dg_X12_undo_0_0 34 rfl rfl)
theorem dX12_undo_43 : decode cX12_undo 43 = .ok (.iload_n 1, 1) := q_iload_n1 (bat_get dg_X12_undo_0_0 35 rfl rfl)
theorem dX12_undo_44 : decode cX12_undo 44 = .ok (.iadd, 1) := q_iadd (bat_get dg_X12_undo_0_0 36 rfl rfl)
theorem dX12_undo_45 : decode cX12_undo 45 = .ok (.iaload, 1) := q_iaload (bat_get dg_X12_undo_0_0 37 rfl rfl)
theorem dX12_undo_46 : decode cX12_undo 46 = .ok (.iastore, 1) := q_iastore (bat_get dg_X12_undo_0_0 38 rfl rfl)
theorem dX12_undo_47 : decode cX12_undo 47 = .ok (.iinc 1 1, 3) := q_iinc (bat_get dg_X12_undo_0_0 39 rfl rfl) rfl
theorem dg_X12_undo_7_50 : bqL cX12_undo 7 [(43, [167, 255, 227]), (0, [42]), (1, [180, 0, 17]), (4, [7]), (5, [92]), (6, [46]), (7, [4]), (8, [96]), (9, [79]), (10, [3]), (11, [172])] = true := by decide +kernel
theorem dX12_undo_50 : decode cX12_undo 50 = .ok (.goto (-29), 3) := q_goto (bat_get dg_X12_undo_7_50 0 rfl rfl) rfl
theorem dX12_undo_7 : decode cX12_undo 7 = .ok (.aload_n 0, 1) := q_aload_n0 (bat_get dg_X12_undo_7_50 1 rfl rfl)
theorem dX12_undo_8 : decode cX12_undo 8 = .ok (.getfield 17, 3) := q_getfield (bat_get dg_X12_undo_7_50 2 rfl rfl) rfl
theorem dX12_undo_11 : decode cX12_undo 11 = .ok (.iconst 4, 1) := q_iconst4 (bat_get dg_X12_undo_7_50 3 rfl rfl)
theorem dX12_undo_12 : decode cX12_undo 12 = .ok (.dup2, 1) := q_dup2 (bat_get dg_X12_undo_7_50 4 rfl rfl)
theorem dX12_undo_13 : decode cX12_undo 13 = .ok (.iaload, 1) := q_iaload (bat_get dg_X12_undo_7_50 5 rfl rfl)
theorem dX12_undo_14 : decode cX12_undo 14 = .ok (.iconst 1, 1) := q_iconst1 (bat_get dg_X12_undo_7_50 6 rfl rfl)
theorem dX12_undo_15 : decode cX12_undo 15 = .ok (.iadd, 1) := q_iadd (bat_get dg_X12_undo_7_50 7 rfl rfl)
theorem dX12_undo_16 : decode cX12_undo 16 = .ok (.iastore, 1) := q_iastore (bat_get dg_X12_undo_7_50 8 rfl rfl)
theorem dX12_undo_17 : decode cX12_undo 17 = .ok (.iconst 0, 1) := q_iconst0 (bat_get dg_X12_undo_7_50 9 rfl rfl)
theorem dX12_undo_18 : decode cX12_undo 18 = .ok (.ireturn, 1) := q_ireturn (bat_get dg_X12_undo_7_50 10 rfl rfl)
theorem w_8_121 : (Cond.code yX12_undo cX12_undo 2 (some .boolean)) ∈ wsL_law := sk_mem (ck_8 _ (List.mem_of_getElem? (i := 121) rfl)) rfl
set_option maxHeartbeats 4000000 in
set_option maxRecDepth 100000 in
theorem c_nm_undo (l : Launch) (D : va_G) (cI cJ cC cZ cS : ClassId) (mm : Nat) (g : Nat → Nat) (ta : Nat) (pa : Nat) (pe : Nat) (pd : Int32) (pb : Nat) (pp : Int32) (pf : Int32) (pg : Int32) (pn : Int32) (rt : Int32) (rn : Int32) (cd : Nat) (sn : Int32) (il : Nat) (tk : Int32) (am : Int32) (at_ : Int32) (aa : Int32) (wt : Int32) (wy : Int64) (rm : Nat) (ud : Nat) (nu : Nat) (sd : Int64) (qn : Nat) (qw : Nat) (qo : Int32) (qb : Nat) (qp : Nat) (qa : Int64) (qi : Nat) (oc : Nat) (nw : Nat → Int32) (kp : Nat → Int32) (rf : Nat → Int32) (wn : Nat) (mN : Nat) (Ba : Nat → Nat) (We : Nat → Nat) (U : Nat → Bool) (ke : Nat) (lg : KLg) (su : Nat → KN) (hnu : nu < 20) (hud : ud ≤ 20) (hnw : nwX wn mN Ba We U ke lg nw) (hkp : kpX ud nu su lg kp) : skM l yX12_undo cX12_undo 2 (some .boolean) 0 0 0 0 D (skT cI cJ cC cZ cS) [.ref mm] [ro_ mm 12 (mo g (nI ta) (nI pa) (nI pe) pd (nI pb) pp pf pg pn rt rn (nI cd) sn (nI il) tk am at_ aa 0 0 (-1) wt wy 0 (nI rm) (nI ud) (nI nu) sd (nI qn) (nI qw) qo (nI qb) (nI qp) qa (nI qi) (nI oc)), ra_I (g 31) cI 120 nw, ra_I (g 54) cI 2400 kp, ra_I (g 9) cI 6 rf] (skI D (skT cI cJ cC cZ cS) (fun (r : Int32) (u : va_W) => ∃ (n2 : KN), ∃ (nw2 : Nat → Int32), ∃ (kp2 : Nat → Int32), ∃ (b : Nat), ∃ (nu2 : Nat), ∃ (ud2 : Nat), ∃ (rf2 : Nat → Int32), nwN n2 lg nw2 ∧ kpX ud2 nu2 su lg kp2 ∧ nu2 < 20 ∧ ud2 ≤ 20 ∧ undoR (wn, mN, Ba, We, U, ke) ud su rf (nI b) n2 ud2 rf2 ∧ r = nI b ∧ u = [ro_ mm 12 (mo g (nI ta) (nI pa) (nI pe) pd (nI pb) pp pf pg pn rt rn (nI cd) sn (nI il) tk am at_ aa 0 0 (-1) wt wy 0 (nI rm) (nI ud2) (nI nu2) sd (nI qn) (nI qw) qo (nI qb) (nI qp) qa (nI qi) (nI oc)), ra_I (g 31) cI 120 nw2, ra_I (g 54) cI 2400 kp2, ra_I (g 9) cI 6 rf2])) := by
  refine skM_of pf_X12_undo (Nat.le_of_ble_eq_true rfl) ?_
  intro p e s m below meth c A ls E hP hD hl
  refine skE_el E (fun hx hb hr hml hlocks hin hown hts hK hA => ?_)
  have hown : s.vm.findClass RX12 = some m.cls := hown
  have hS : va_S A s.heap s.heap [] := va_S.rf
  have hl : lv_has ls 2 [(0, .ref mm)] := hl
  refine lv_aload_n hx hb dX12_undo_0 rfl (lv_at hl 0 rfl) ?_
  refine sk_get (v := .int (nI ud)) (C := RX12) (T := TX12) (N := 92) hx hb hts inlX12 hown hK hP 0 rfl rfl 55 (Nat.le_of_ble_eq_true rfl) w_5_210 rfl dX12_undo_1 ?_
  refine lv_if_ne (tgt := 19) hx hb dX12_undo_4 (by decide) (fun c_1 => ?_) (fun c_1 => ?_)
  · have c_1 : ¬ (ud = 0) := fun h => c_1 ((neq ud 0 (by omega) (Nat.le_of_ble_eq_true rfl)).mpr h)
    refine lv_iconst (v := 0) hx hb dX12_undo_19 ic_0 ?_
    refine lv_istore_n (lv' := [(1, .int 0), (0, .ref mm)]) hx hb dX12_undo_20 rfl hl (by decide) rfl (fun ls hl => ?_)
    have lp_2 : ∀ (n_3 : Nat) (i : Nat) (zn : Nat → Int32) (H : Heap) (locs : List Loc) (ls : Array Slot), 120 - i < n_3 → (i ≤ 120) → (kc0 i (fun k => kp (120 * nu + k)) zn) → va_P D vwCl [ro_ mm 12 (mo g (nI ta) (nI pa) (nI pe) pd (nI pb) pp pf pg pn rt rn (nI cd) sn (nI il) tk am at_ aa 0 0 (-1) wt wy 0 (nI rm) (nI ud) (nI nu) sd (nI qn) (nI qw) qo (nI qb) (nI qp) qa (nI qi) (nI oc)), ra_I (g 31) cI 120 zn, ra_I (g 54) cI 2400 kp, ra_I (g 9) cI 6 rf] H → va_D A [ro_ mm 12 (mo g (nI ta) (nI pa) (nI pe) pd (nI pb) pp pf pg pn rt rn (nI cd) sn (nI il) tk am at_ aa 0 0 (-1) wt wy 0 (nI rm) (nI ud) (nI nu) sd (nI qn) (nI qw) qo (nI qb) (nI qp) qa (nI qi) (nI oc)), ra_I (g 31) cI 120 zn, ra_I (g 54) cI 2400 kp, ra_I (g 9) cI 6 rf] → va_S A s.heap H locs → lv_has ls 2 [(1, .int (nI i)), (0, .ref mm)] → W p l e { frames := 0, cells := 0, slots := 0, locals := 0 } s m ([.ref mm] : List Value).toArray below meth c H locs 0 0 (MQ below (skI D (skT cI cJ cC cZ cS) (fun (r : Int32) (u : va_W) => ∃ (n2 : KN), ∃ (nw2 : Nat → Int32), ∃ (kp2 : Nat → Int32), ∃ (b : Nat), ∃ (nu2 : Nat), ∃ (ud2 : Nat), ∃ (rf2 : Nat → Int32), nwN n2 lg nw2 ∧ kpX ud2 nu2 su lg kp2 ∧ nu2 < 20 ∧ ud2 ≤ 20 ∧ undoR (wn, mN, Ba, We, U, ke) ud su rf (nI b) n2 ud2 rf2 ∧ r = nI b ∧ u = [ro_ mm 12 (mo g (nI ta) (nI pa) (nI pe) pd (nI pb) pp pf pg pn rt rn (nI cd) sn (nI il) tk am at_ aa 0 0 (-1) wt wy 0 (nI rm) (nI ud2) (nI nu2) sd (nI qn) (nI qw) qo (nI qb) (nI qp) qa (nI qi) (nI oc)), ra_I (g 31) cI 120 nw2, ra_I (g 54) cI 2400 kp2, ra_I (g 9) cI 6 rf2]) A) ([.ref mm] : List Value).toArray s 0 0 A) (F0 m 21 ls []) := by
      intro n_3
      induction n_3 with
      | zero => intro i zn H locs ls hm; exact absurd hm (Nat.not_lt_zero _)
      | succ n_3 ih_lp_2 =>
        intro i zn H locs ls hm hi hc0 hP hD hS hl
        refine lv_iload_n hx hb dX12_undo_21 rfl (lv_at hl 0 rfl) ?_
        refine lv_bipush (v := 120) hx hb dX12_undo_22 (by decide) ?_
        refine lv_icmp_ge (tgt := 53) hx hb dX12_undo_24 (by decide) (fun c_4 => ?_) (fun c_4 => ?_)
        · have c_4 : 120 ≤ i := (nle 120 i (Nat.le_of_ble_eq_true rfl) (by omega)).mp c_4
          have hc9 : kc0 120 (fun k => kp (120 * nu + k)) zn := (by have e9 : i = 120 := (by omega); have h9 := hc0; rw [e9] at h9; exact h9)
          have hnN : nwN (su (ud - 1)) lg zn := nwX_cg (kpX_top hkp (by omega) (by omega)) hc9
          refine lv_aload_n hx hb dX12_undo_53 rfl (lv_at hl 1 rfl) ?_
          refine lv_aload_n hx hb dX12_undo_54 rfl (lv_at hl 1 rfl) ?_
          refine sk_get (v := .int (nI nu)) (C := RX12) (T := TX12) (N := 92) hx hb hts inlX12 hown hK hP 0 rfl rfl 56 (Nat.le_of_ble_eq_true rfl) w_5_211 rfl dX12_undo_55 ?_
          refine lv_bipush (v := 20) hx hb dX12_undo_58 (by decide) ?_
          refine lv_iadd hx hb dX12_undo_60 ?_
          refine sk_top (nI (nu + 20)) (nI_add nu 20) ?_
          refine lv_iconst (v := 1) hx hb dX12_undo_61 ic_1 ?_
          refine lv_isub hx hb dX12_undo_62 ?_
          refine sk_top (nI (nu + 20 - 1)) (nsub (nu + 20) 1 (by omega)) ?_
          refine lv_bipush (v := 20) hx hb dX12_undo_63 (by decide) ?_
          refine lv_irem hx hb dX12_undo_65 (by decide) ?_
          refine sk_top (nI ((nu + 20 - 1) % 20)) (nrem (nu + 20 - 1) 20 (by omega) (by omega) (by omega)) ?_
          refine sk_put (ws' := [ro_ mm 12 (mo g (nI ta) (nI pa) (nI pe) pd (nI pb) pp pf pg pn rt rn (nI cd) sn (nI il) tk am at_ aa 0 0 (-1) wt wy 0 (nI rm) (nI ud) (nI ((nu + 20 - 1) % 20)) sd (nI qn) (nI qw) qo (nI qb) (nI qp) qa (nI qi) (nI oc)), ra_I (g 31) cI 120 zn, ra_I (g 54) cI 2400 kp, ra_I (g 9) cI 6 rf]) (C := RX12) (T := TX12) (N := 92) (v := .int (nI ((nu + 20 - 1) % 20))) hx hb hts inlX12 tyX12 tyX12_ok nmX12 hown hK hP hD hS 0 rfl rfl 56 (Nat.le_of_ble_eq_true rfl) w_5_211 rfl rfl rfl (Nat.le_of_ble_eq_true rfl) rfl dX12_undo_66 (fun H locs hP hD hS => ?_)
          refine lv_aload_n hx hb dX12_undo_69 rfl (lv_at hl 1 rfl) ?_
          refine lv_dup hx hb dX12_undo_70 rfl ?_
          refine sk_get (v := .int (nI ud)) (C := RX12) (T := TX12) (N := 92) hx hb hts inlX12 hown hK hP 0 rfl rfl 55 (Nat.le_of_ble_eq_true rfl) w_5_210 rfl dX12_undo_71 ?_
          refine lv_iconst (v := 1) hx hb dX12_undo_74 ic_1 ?_
          refine lv_isub hx hb dX12_undo_75 ?_
          refine sk_top (nI (ud - 1)) (nsub ud 1 (by omega)) ?_
          refine sk_put (ws' := [ro_ mm 12 (mo g (nI ta) (nI pa) (nI pe) pd (nI pb) pp pf pg pn rt rn (nI cd) sn (nI il) tk am at_ aa 0 0 (-1) wt wy 0 (nI rm) (nI (ud - 1)) (nI ((nu + 20 - 1) % 20)) sd (nI qn) (nI qw) qo (nI qb) (nI qp) qa (nI qi) (nI oc)), ra_I (g 31) cI 120 zn, ra_I (g 54) cI 2400 kp, ra_I (g 9) cI 6 rf]) (C := RX12) (T := TX12) (N := 92) (v := .int (nI (ud - 1))) hx hb hts inlX12 tyX12 tyX12_ok nmX12 hown hK hP hD hS 0 rfl rfl 55 (Nat.le_of_ble_eq_true rfl) w_5_210 rfl rfl rfl (Nat.le_of_ble_eq_true rfl) rfl dX12_undo_76 (fun H locs hP hD hS => ?_)
          have hkN := kpX_pop hkp hud
          refine lv_iconst (v := 1) hx hb dX12_undo_79 ic_1 ?_
          exact sk_iret hx hb hr rfl hlocks hK hP hD hS (⟨(su (ud - 1)), zn, kp, 1, (nu + 20 - 1) % 20, ud - 1, rf, hnN, hkN, by omega, by omega, kB_1 (by omega) ⟨rfl, rfl, rfl, rfl⟩, rfl, rfl⟩) (Nat.le_of_ble_eq_true rfl) (Nat.le_of_ble_eq_true rfl) dX12_undo_80
        · have c_4 : ¬ (120 ≤ i) := fun h => c_4 ((nle 120 i (Nat.le_of_ble_eq_true rfl) (by omega)).mpr h)
          refine lv_aload_n hx hb dX12_undo_27 rfl (lv_at hl 1 rfl) ?_
          refine sk_get (v := .ref (g 31)) (C := RX12) (T := TX12) (N := 92) hx hb hts inlX12 hown hK hP 0 rfl rfl 31 (Nat.le_of_ble_eq_true rfl) w_5_186 rfl dX12_undo_28 ?_
          refine lv_iload_n hx hb dX12_undo_31 rfl (lv_at hl 0 rfl) ?_
          refine lv_aload_n hx hb dX12_undo_32 rfl (lv_at hl 1 rfl) ?_
          refine sk_get (v := .ref (g 54)) (C := RX12) (T := TX12) (N := 92) hx hb hts inlX12 hown hK hP 0 rfl rfl 54 (Nat.le_of_ble_eq_true rfl) w_5_209 rfl dX12_undo_33 ?_
          refine lv_bipush (v := 120) hx hb dX12_undo_36 (by decide) ?_
          refine lv_aload_n hx hb dX12_undo_38 rfl (lv_at hl 1 rfl) ?_
          refine sk_get (v := .int (nI nu)) (C := RX12) (T := TX12) (N := 92) hx hb hts inlX12 hown hK hP 0 rfl rfl 56 (Nat.le_of_ble_eq_true rfl) w_5_211 rfl dX12_undo_39 ?_
          refine lv_imul hx hb dX12_undo_42 ?_
          refine sk_top (nI (120 * nu)) (nmul 120 nu) ?_
          refine lv_iload_n hx hb dX12_undo_43 rfl (lv_at hl 0 rfl) ?_
          refine lv_iadd hx hb dX12_undo_44 ?_
          refine sk_top (nI (120 * nu + i)) (nI_add (120 * nu) i) ?_
          refine va_iald hx hb hK.1 hP 2 0 rfl rfl (vin (120 * nu + i) 2400 (by omega) (Nat.le_of_ble_eq_true rfl)) dX12_undo_45 ?_
          refine sk_top (kp (120 * nu + i)) (by rw [nI_clamp (by omega)]) ?_
          refine sk_iastE (k := i) (x := (kp (120 * nu + i))) (ws' := fun f_5 => [ro_ mm 12 (mo g (nI ta) (nI pa) (nI pe) pd (nI pb) pp pf pg pn rt rn (nI cd) sn (nI il) tk am at_ aa 0 0 (-1) wt wy 0 (nI rm) (nI ud) (nI nu) sd (nI qn) (nI qw) qo (nI qb) (nI qp) qa (nI qi) (nI oc)), ra_I (g 31) cI 120 f_5, ra_I (g 54) cI 2400 kp, ra_I (g 9) cI 6 rf]) hx hb hK hP hD hS 1 0 rfl rfl (by omega) (by omega) (fun _ => rfl) dX12_undo_46 (fun f_5 H locs ef_6 hP hD hS => ?_)
          refine lv_iinc (v := nI (i + 1)) (lv' := [(1, .int (nI (i + 1))), (0, .ref mm)]) hx hb dX12_undo_47 hl (k := 0) rfl (ninc i 1 (by decide)) (by decide) rfl (fun ls hl => ?_)
          refine lv_goto (tgt := 21) hx hb dX12_undo_50 (by decide) ?_
          exact ih_lp_2 (i + 1) f_5 _ _ _ (by omega) (by omega) (kc0_s hc0 ef_6 rfl) hP hD hS (lv_sub hl [0, 1] rfl)
    exact lp_2 (120 - 0 + 1) 0 nw _ _ _ (Nat.lt_succ_self _) (by omega) (kc0_0 _ _) hP hD hS (lv_sub hl [0, 1] rfl)
  · have c_1 : ud = 0 := (neq ud 0 (by omega) (Nat.le_of_ble_eq_true rfl)).mp c_1
    refine lv_aload_n hx hb dX12_undo_7 rfl (lv_at hl 0 rfl) ?_
    refine sk_get (v := .ref (g 9)) (C := RX12) (T := TX12) (N := 92) hx hb hts inlX12 hown hK hP 0 rfl rfl 9 (Nat.le_of_ble_eq_true rfl) w_5_164 rfl dX12_undo_8 ?_
    refine lv_iconst (v := 4) hx hb dX12_undo_11 ic_4 ?_
    refine lv_dup2_11 hx hb dX12_undo_12 rfl rfl ?_
    refine va_iald hx hb hK.1 hP 3 0 rfl rfl (by unfold vp_in; decide) dX12_undo_13 ?_
    refine sk_top (rf 4) (rfl) ?_
    refine lv_iconst (v := 1) hx hb dX12_undo_14 ic_1 ?_
    refine lv_iadd hx hb dX12_undo_15 ?_
    refine sk_iastE (k := 4) (ws' := fun f_7 => [ro_ mm 12 (mo g (nI ta) (nI pa) (nI pe) pd (nI pb) pp pf pg pn rt rn (nI cd) sn (nI il) tk am at_ aa 0 0 (-1) wt wy 0 (nI rm) (nI ud) (nI nu) sd (nI qn) (nI qw) qo (nI qb) (nI qp) qa (nI qi) (nI oc)), ra_I (g 31) cI 120 nw, ra_I (g 54) cI 2400 kp, ra_I (g 9) cI 6 f_7]) hx hb hK hP hD hS 3 0 rfl rfl (by omega) (by omega) (fun _ => rfl) dX12_undo_16 (fun f_7 H locs ef_8 hP hD hS => ?_)
    refine lv_iconst (v := 0) hx hb dX12_undo_17 ic_0 ?_
    exact sk_iret hx hb hr rfl hlocks hK hP hD hS (⟨(wn, mN, Ba, We, U, ke), nw, kp, 0, nu, ud, f_7, hnw, hkp, hnu, hud, kB_0 (by omega) ⟨rfl, rfl, rfl, ef_8⟩, rfl, rfl⟩) (Nat.le_of_ble_eq_true rfl) (Nat.le_of_ble_eq_true rfl) dX12_undo_18
theorem dg_X12_becomes_0_0 : bqL cX12_becomes 0 [(0, [42]), (1, [27]), (2, [182, 1, 157]), (5, [153, 0, 24]), (29, [42]), (30, [180, 0, 17]), (33, [5]), (34, [92]), (35, [46]), (36, [4]), (37, [96]), (38, [79]), (39, [3]), (40, [172]), (8, [21, 4]), (10, [153, 0, 19])] = true := by decide +kernel
theorem dX12_becomes_0 : decode cX12_becomes 0 = .ok (.aload_n 0, 1) := q_aload_n0 (bat_get dg_X12_becomes_0_0 0 rfl rfl)
theorem dX12_becomes_1 : decode cX12_becomes 1 = .ok (.iload_n 1, 1) := q_iload_n1 (bat_get dg_X12_becomes_0_0 1 rfl rfl)
theorem dX12_becomes_2 : decode cX12_becomes 2 = .ok (.invokevirtual 413, 3) := q_invokevirtual (bat_get dg_X12_becomes_0_0 2 rfl rfl) rfl
theorem dX12_becomes_5 : decode cX12_becomes 5 = .ok (.ifCond .eq 24, 3) := q_ifCond_eq (bat_get dg_X12_becomes_0_0 3 rfl rfl) rfl
theorem dX12_becomes_29 : decode cX12_becomes 29 = .ok (.aload_n 0, 1) := q_aload_n0 (bat_get dg_X12_becomes_0_0 4 rfl rfl)
theorem dX12_becomes_30 : decode cX12_becomes 30 = .ok (.getfield 17, 3) := q_getfield (bat_get dg_X12_becomes_0_0 5 rfl rfl) rfl
theorem dX12_becomes_33 : decode cX12_becomes 33 = .ok (.iconst 2, 1) := q_iconst2 (bat_get dg_X12_becomes_0_0 6 rfl rfl)
theorem dX12_becomes_34 : decode cX12_becomes 34 = .ok (.dup2, 1) := q_dup2 (bat_get dg_X12_becomes_0_0 7 rfl rfl)
theorem dX12_becomes_35 : decode cX12_becomes 35 = .ok (.iaload, 1) := q_iaload (bat_get dg_X12_becomes_0_0 8 rfl rfl)
theorem dX12_becomes_36 : decode cX12_becomes 36 = .ok (.iconst 1, 1) := q_iconst1 (bat_get dg_X12_becomes_0_0 9 rfl rfl)
theorem dX12_becomes_37 : decode cX12_becomes 37 = .ok (.iadd, 1) := q_iadd (bat_get dg_X12_becomes_0_0 10 rfl rfl)
theorem dX12_becomes_38 : decode cX12_becomes 38 = .ok (.iastore, 1) := q_iastore (bat_get dg_X12_becomes_0_0 11 rfl rfl)
theorem dX12_becomes_39 : decode cX12_becomes 39 = .ok (.iconst 0, 1) := q_iconst0 (bat_get dg_X12_becomes_0_0 12 rfl rfl)
theorem dX12_becomes_40 : decode cX12_becomes 40 = .ok (.ireturn, 1) := q_ireturn (bat_get dg_X12_becomes_0_0 13 rfl rfl)
theorem dX12_becomes_8 : decode cX12_becomes 8 = .ok (.iload 4, 2) := q_iload (bat_get dg_X12_becomes_0_0 14 rfl rfl)
theorem dX12_becomes_10 : decode cX12_becomes 10 = .ok (.ifCond .eq 19, 3) := q_ifCond_eq (bat_get dg_X12_becomes_0_0 15 rfl rfl) rfl
theorem w_8_129 : (Cond.code yX12_becomes cX12_becomes 5 (some .boolean)) ∈ wsL_law := sk_mem (ck_8 _ (List.mem_of_getElem? (i := 129) rfl)) rfl
set_option maxHeartbeats 4000000 in
set_option maxRecDepth 100000 in
theorem c_nm_becomes0 (l : Launch) (D : va_G) (cI cJ cC cZ cS : ClassId) (mm : Nat) (g : Nat → Nat) (ta : Nat) (pa : Nat) (pe : Nat) (pd : Int32) (pb : Nat) (pp : Int32) (pf : Int32) (pg : Int32) (pn : Int32) (rt : Int32) (rn : Int32) (cd : Nat) (sn : Int32) (il : Nat) (tk : Int32) (am : Int32) (at_ : Int32) (aa : Int32) (wt : Int32) (wy : Int64) (rm : Nat) (ud : Nat) (nu : Nat) (sd : Int64) (qn : Nat) (qw : Nat) (qo : Int32) (qb : Nat) (qp : Nat) (qa : Int64) (qi : Nat) (oc : Nat) (d : Int32) (w : Int32) (o : Int32) (l0 : Nat) (l1 : Nat) (dm : Nat) (l3 : Nat) (rf : Nat → Int32) (hdm : dm ≤ 9) : skM l yX12_becomes cX12_becomes 5 (some .boolean) 2 46 0 0 D (skT cI cJ cC cZ cS) [.ref mm, .int d, .int w, .int o, .int 0] [ro_ mm 12 (mo g (nI ta) (nI pa) (nI pe) pd (nI pb) pp pf pg pn rt rn (nI cd) sn (nI il) tk am at_ aa 0 0 (-1) wt wy 0 (nI rm) (nI ud) (nI nu) sd (nI qn) (nI qw) qo (nI qb) (nI qp) qa (nI qi) (nI oc)), ra_I (g 20) cI 4 (l4 (nI l0) (nI l1) (nI dm) (nI l3)), ra_I (g 9) cI 6 rf] (skI D (skT cI cJ cC cZ cS) (fun (r : Int32) (u : va_W) => ∃ (rf2 : Nat → Int32), rf2 = upd rf 2 (rf 2 + 1) ∧ r = 0 ∧ u = [ro_ mm 12 (mo g (nI ta) (nI pa) (nI pe) pd (nI pb) pp pf pg pn rt rn (nI cd) sn (nI il) tk am at_ aa 0 0 (-1) wt wy 0 (nI rm) (nI ud) (nI nu) sd (nI qn) (nI qw) qo (nI qb) (nI qp) qa (nI qi) (nI oc)), ra_I (g 20) cI 4 (l4 (nI l0) (nI l1) (nI dm) (nI l3)), ra_I (g 9) cI 6 rf2])) := by
  refine skM_of pf_X12_becomes (Nat.le_of_ble_eq_true rfl) ?_
  intro p e s m below meth c A ls E hP hD hl
  refine skE_el E (fun hx hb hr hml hlocks hin hown hts hK hA => ?_)
  have hown : s.vm.findClass RX12 = some m.cls := hown
  have hS : va_S A s.heap s.heap [] := va_S.rf
  have hl : lv_has ls 5 [(0, .ref mm), (1, .int d), (2, .int w), (3, .int o), (4, .int 0)] := hl
  refine lv_aload_n hx hb dX12_becomes_0 rfl (lv_at hl 0 rfl) ?_
  refine lv_iload_n hx hb dX12_becomes_1 rfl (lv_at hl 1 rfl) ?_
  refine sk_Vi (q0 := 0) (n := 1) (rest := []) (wr := fmR om_3_6 _) ⟨hx, hb, hml, hown, hts⟩ hl.1 (c_nm_isDay l D cI cJ cC cZ cS mm g ta pa pe pd pb pp pf pg pn rt rn cd sn il tk am at_ aa wt wy rm ud nu sd qn qw qo qb qp qa qi oc d l0 l1 dm l3 hdm) w_7_117 w_7_119 w_0_72 w_1_14 w_7_120 hd_X12_isDay_1 ⟨⟨(Nat.le_of_ble_eq_true rfl), (Nat.le_of_ble_eq_true rfl)⟩, (Nat.le_of_ble_eq_true rfl), (Nat.le_of_ble_eq_true rfl)⟩ hK hP hD hS hA (fmT om_3_6 0) (fmF om_3_6 0) (fm_C1 rfl rfl) (fm_R rfl rfl) (fm_nT om_3_6 0) (fm_nF om_3_6 0) (fm_di om_3_6 0) rfl rfl rfl rfl (Nat.le_of_ble_eq_true rfl) dX12_becomes_2 (fun r_2 u H locs hw hP hD hS => ?_)
  refine exE hw (fun b_1 hw1 => anE hw1 (fun hb1_3 hw2 => anE hw2 (fun er_5 eu_4 => ?_)))
  clear hw hw1 hw2
  subst er_5
  refine o_mgE (ws' := [ro_ mm 12 (mo g (nI ta) (nI pa) (nI pe) pd (nI pb) pp pf pg pn rt rn (nI cd) sn (nI il) tk am at_ aa 0 0 (-1) wt wy 0 (nI rm) (nI ud) (nI nu) sd (nI qn) (nI qw) qo (nI qb) (nI qp) qa (nI qi) (nI oc)), ra_I (g 20) cI 4 (l4 (nI l0) (nI l1) (nI dm) (nI l3)), ra_I (g 9) cI 6 rf]) eu_4 hP hD rfl (fun hP hD => ?_)
  refine lv_if_eq (tgt := 29) hx hb dX12_becomes_5 (by decide) (fun c_6 => ?_) (fun c_6 => ?_)
  · have c_6 : b_1 = 0 := (neq b_1 0 (by omega) (Nat.le_of_ble_eq_true rfl)).mp c_6
    refine lv_aload_n hx hb dX12_becomes_29 rfl (lv_at hl 0 rfl) ?_
    refine sk_get (v := .ref (g 9)) (C := RX12) (T := TX12) (N := 92) hx hb hts inlX12 hown hK hP 0 rfl rfl 9 (Nat.le_of_ble_eq_true rfl) w_5_164 rfl dX12_becomes_30 ?_
    refine lv_iconst (v := 2) hx hb dX12_becomes_33 ic_2 ?_
    refine lv_dup2_11 hx hb dX12_becomes_34 rfl rfl ?_
    refine va_iald hx hb hK.1 hP 2 0 rfl rfl (by unfold vp_in; decide) dX12_becomes_35 ?_
    refine sk_top (rf 2) (rfl) ?_
    refine lv_iconst (v := 1) hx hb dX12_becomes_36 ic_1 ?_
    refine lv_iadd hx hb dX12_becomes_37 ?_
    refine sk_iastE (k := 2) (ws' := fun f_7 => [ro_ mm 12 (mo g (nI ta) (nI pa) (nI pe) pd (nI pb) pp pf pg pn rt rn (nI cd) sn (nI il) tk am at_ aa 0 0 (-1) wt wy 0 (nI rm) (nI ud) (nI nu) sd (nI qn) (nI qw) qo (nI qb) (nI qp) qa (nI qi) (nI oc)), ra_I (g 20) cI 4 (l4 (nI l0) (nI l1) (nI dm) (nI l3)), ra_I (g 9) cI 6 f_7]) hx hb hK hP hD hS 2 0 rfl rfl (by omega) (by omega) (fun _ => rfl) dX12_becomes_38 (fun f_7 H locs ef_8 hP hD hS => ?_)
    refine lv_iconst (v := 0) hx hb dX12_becomes_39 ic_0 ?_
    exact sk_iret hx hb hr rfl hlocks hK hP hD hS (⟨f_7, ef_8, rfl, rfl⟩) (Nat.le_of_ble_eq_true rfl) (Nat.le_of_ble_eq_true rfl) dX12_becomes_40
  · have c_6 : ¬ (b_1 = 0) := fun h => c_6 ((neq b_1 0 (by omega) (Nat.le_of_ble_eq_true rfl)).mpr h)
    obtain ⟨kd_9, hkd_9, rfl⟩ := rr_1 hb1_3 (by omega)
    refine lv_iload hx hb dX12_becomes_8 (lv_at hl 4 rfl) ?_
    refine lv_if_eq (tgt := 29) hx hb dX12_becomes_10 (by decide) (fun c_10 => ?_) (fun c => absurd c (by decide))
    refine lv_aload_n hx hb dX12_becomes_29 rfl (lv_at hl 0 rfl) ?_
    refine sk_get (v := .ref (g 9)) (C := RX12) (T := TX12) (N := 92) hx hb hts inlX12 hown hK hP 0 rfl rfl 9 (Nat.le_of_ble_eq_true rfl) w_5_164 rfl dX12_becomes_30 ?_
    refine lv_iconst (v := 2) hx hb dX12_becomes_33 ic_2 ?_
    refine lv_dup2_11 hx hb dX12_becomes_34 rfl rfl ?_
    refine va_iald hx hb hK.1 hP 2 0 rfl rfl (by unfold vp_in; decide) dX12_becomes_35 ?_
    refine sk_top (rf 2) (rfl) ?_
    refine lv_iconst (v := 1) hx hb dX12_becomes_36 ic_1 ?_
    refine lv_iadd hx hb dX12_becomes_37 ?_
    refine sk_iastE (k := 2) (ws' := fun f_11 => [ro_ mm 12 (mo g (nI ta) (nI pa) (nI pe) pd (nI pb) pp pf pg pn rt rn (nI cd) sn (nI il) tk am at_ aa 0 0 (-1) wt wy 0 (nI rm) (nI ud) (nI nu) sd (nI qn) (nI qw) qo (nI qb) (nI qp) qa (nI qi) (nI oc)), ra_I (g 20) cI 4 (l4 (nI l0) (nI l1) (nI dm) (nI l3)), ra_I (g 9) cI 6 f_11]) hx hb hK hP hD hS 2 0 rfl rfl (by omega) (by omega) (fun _ => rfl) dX12_becomes_38 (fun f_11 H locs ef_12 hP hD hS => ?_)
    refine lv_iconst (v := 0) hx hb dX12_becomes_39 ic_0 ?_
    exact sk_iret hx hb hr rfl hlocks hK hP hD hS (⟨f_11, ef_12, rfl, rfl⟩) (Nat.le_of_ble_eq_true rfl) (Nat.le_of_ble_eq_true rfl) dX12_becomes_40
theorem dg_X12_becomes_13_13 : bqL cX12_becomes 13 [(0, [42]), (1, [180, 0, 63]), (4, [5]), (5, [6]), (6, [27]), (7, [104]), (8, [96]), (9, [28]), (10, [96]), (11, [46]), (12, [29]), (13, [160, 0, 15]), (28, [42]), (29, [182, 1, 218]), (32, [42]), (33, [180, 0, 63]), (36, [5]), (37, [6]), (38, [27]), (39, [104]), (40, [96]), (41, [28]), (42, [96]), (43, [29]), (44, [79]), (45, [4]), (46, [172])] = true := by decide +kernel
theorem dX12_becomes_13 : decode cX12_becomes 13 = .ok (.aload_n 0, 1) := q_aload_n0 (bat_get dg_X12_becomes_13_13 0 rfl rfl)
theorem dX12_becomes_14 : decode cX12_becomes 14 = .ok (.getfield 63, 3) := q_getfield (bat_get dg_X12_becomes_13_13 1 rfl rfl) rfl
theorem dX12_becomes_17 : decode cX12_becomes 17 = .ok (.iconst 2, 1) := q_iconst2 (bat_get dg_X12_becomes_13_13 2 rfl rfl)
theorem dX12_becomes_18 : decode cX12_becomes 18 = .ok (.iconst 3, 1) := q_iconst3 (bat_get dg_X12_becomes_13_13 3 rfl rfl)
theorem dX12_becomes_19 : decode cX12_becomes 19 = .ok (.iload_n 1, 1) := q_iload_n1 (bat_get dg_X12_becomes_13_13 4 rfl rfl)
theorem dX12_becomes_20 : decode cX12_becomes 20 = .ok (.imul, 1) := q_imul (bat_get dg_X12_becomes_13_13 5 rfl rfl)
theorem dX12_becomes_21 : decode cX12_becomes 21 = .ok (.iadd, 1) := q_iadd (bat_get dg_X12_becomes_13_13 6 rfl rfl)
theorem dX12_becomes_22 : decode cX12_becomes 22 = .ok (.iload_n 2, 1) := q_iload_n2 (bat_get dg_X12_becomes_13_13 7 rfl rfl)
theorem dX12_becomes_23 : decode cX12_becomes 23 = .ok (.iadd, 1) := q_iadd (bat_get dg_X12_becomes_13_13 8 rfl rfl)
theorem dX12_becomes_24 : decode cX12_becomes 24 = .ok (.iaload, 1) := q_iaload (bat_get dg_X12_becomes_13_13 9 rfl rfl)
theorem dX12_becomes_25 : decode cX12_becomes 25 = .ok (.iload_n 3, 1) := q_iload_n3 (bat_get dg_X12_becomes_13_13 10 rfl rfl)
theorem dX12_becomes_26 : decode cX12_becomes 26 = .ok (.if_icmp .ne 15, 3) := q_if_icmp_ne (bat_get dg_X12_becomes_13_13 11 rfl rfl) rfl
theorem dX12_becomes_41 : decode cX12_becomes 41 = .ok (.aload_n 0, 1) := q_aload_n0 (bat_get dg_X12_becomes_13_13 12 rfl rfl)
theorem dX12_becomes_42 : decode cX12_becomes 42 = .ok (.invokevirtual 474, 3) := q_invokevirtual (bat_get dg_X12_becomes_13_13 13 rfl rfl) rfl
theorem dX12_becomes_45 : decode cX12_becomes 45 = .ok (.aload_n 0, 1) := q_aload_n0 (bat_get dg_X12_becomes_13_13 14 rfl rfl)
theorem dX12_becomes_46 : decode cX12_becomes 46 = .ok (.getfield 63, 3) := q_getfield (bat_get dg_X12_becomes_13_13 15 rfl rfl) rfl
theorem dX12_becomes_49 : decode cX12_becomes 49 = .ok (.iconst 2, 1) := q_iconst2 (bat_get dg_X12_becomes_13_13 16 rfl rfl)
theorem dX12_becomes_50 : decode cX12_becomes 50 = .ok (.iconst 3, 1) := q_iconst3 (bat_get dg_X12_becomes_13_13 17 rfl rfl)
theorem dX12_becomes_51 : decode cX12_becomes 51 = .ok (.iload_n 1, 1) := q_iload_n1 (bat_get dg_X12_becomes_13_13 18 rfl rfl)
theorem dX12_becomes_52 : decode cX12_becomes 52 = .ok (.imul, 1) := q_imul (bat_get dg_X12_becomes_13_13 19 rfl rfl)
theorem dX12_becomes_53 : decode cX12_becomes 53 = .ok (.iadd, 1) := q_iadd (bat_get dg_X12_becomes_13_13 20 rfl rfl)
theorem dX12_becomes_54 : decode cX12_becomes 54 = .ok (.iload_n 2, 1) := q_iload_n2 (bat_get dg_X12_becomes_13_13 21 rfl rfl)
theorem dX12_becomes_55 : decode cX12_becomes 55 = .ok (.iadd, 1) := q_iadd (bat_get dg_X12_becomes_13_13 22 rfl rfl)
theorem dX12_becomes_56 : decode cX12_becomes 56 = .ok (.iload_n 3, 1) := q_iload_n3 (bat_get dg_X12_becomes_13_13 23 rfl rfl)
theorem dX12_becomes_57 : decode cX12_becomes 57 = .ok (.iastore, 1) := q_iastore (bat_get dg_X12_becomes_13_13 24 rfl rfl)
theorem dX12_becomes_58 : decode cX12_becomes 58 = .ok (.iconst 1, 1) := q_iconst1 (bat_get dg_X12_becomes_13_13 25 rfl rfl)
theorem dX12_becomes_59 : decode cX12_becomes 59 = .ok (.ireturn, 1) := q_ireturn (bat_get dg_X12_becomes_13_13 26 rfl rfl)
theorem w_8_130 : (Cond.methodLink RX12 474 yX12_keeps) ∈ wsL_law := sk_mem (ck_8 _ (List.mem_of_getElem? (i := 130) rfl)) rfl
theorem w_8_132 : (Cond.instanceMethod yX12_keeps) ∈ wsL_law := sk_mem (ck_8 _ (List.mem_of_getElem? (i := 132) rfl)) rfl
theorem w_0_107 : (Cond.selects RX12 yX12_keeps yX12_keeps) ∈ wsL_law := sk_mem (ck_0 _ (List.mem_of_getElem? (i := 107) rfl)) rfl
def om_5_16 : List Bool := true :: false :: true :: true :: false :: []
theorem hd_X12_keeps_0 : skD yX12_keeps 0 := by decide +kernel
set_option maxHeartbeats 4000000 in
set_option maxRecDepth 100000 in
theorem c_nm_becomes10 (l : Launch) (D : va_G) (cI cJ cC cZ cS : ClassId) (mm : Nat) (g : Nat → Nat) (ta : Nat) (pa : Nat) (pe : Nat) (pd : Int32) (pb : Nat) (pp : Int32) (pf : Int32) (pg : Int32) (pn : Int32) (rt : Int32) (rn : Int32) (cd : Nat) (sn : Int32) (il : Nat) (tk : Int32) (am : Int32) (at_ : Int32) (aa : Int32) (wt : Int32) (wy : Int64) (rm : Nat) (ud : Nat) (nu : Nat) (sd : Int64) (qn : Nat) (qw : Nat) (qo : Int32) (qb : Nat) (qp : Nat) (qa : Int64) (qi : Nat) (oc : Nat) (d : Int32) (ov : Nat) (l0 : Nat) (l1 : Nat) (dm : Nat) (l3 : Nat) (nw : Nat → Int32) (kp : Nat → Int32) (rf : Nat → Int32) (wn : Nat) (mN : Nat) (Ba : Nat → Nat) (We : Nat → Nat) (U : Nat → Bool) (ke : Nat) (lg : KLg) (su : Nat → KN) (hdm : dm ≤ 9) (hnu : nu < 20) (hud : ud ≤ 20) (hov : ov < 10) (hB9 : ∀ j, Ba j ≤ 9) (hW9 : ∀ j, We j ≤ 9) (hnw : nwX wn mN Ba We U ke lg nw) (hkp : kpX ud nu su lg kp) : skM l yX12_becomes cX12_becomes 5 (some .boolean) 2 46 0 0 D (skT cI cJ cC cZ cS) [.ref mm, .int d, .int 0, .int (nI ov), .int 1] [ro_ mm 12 (mo g (nI ta) (nI pa) (nI pe) pd (nI pb) pp pf pg pn rt rn (nI cd) sn (nI il) tk am at_ aa 0 0 (-1) wt wy 0 (nI rm) (nI ud) (nI nu) sd (nI qn) (nI qw) qo (nI qb) (nI qp) qa (nI qi) (nI oc)), ra_I (g 20) cI 4 (l4 (nI l0) (nI l1) (nI dm) (nI l3)), ra_I (g 31) cI 120 nw, ra_I (g 54) cI 2400 kp, ra_I (g 9) cI 6 rf] (skI D (skT cI cJ cC cZ cS) (fun (r : Int32) (u : va_W) => ∃ (Ba2 : Nat → Nat), ∃ (We2 : Nat → Nat), ∃ (U2 : Nat → Bool), ∃ (su2 : Nat → KN), ∃ (nw2 : Nat → Int32), ∃ (kp2 : Nat → Int32), ∃ (b : Nat), ∃ (nu2 : Nat), ∃ (ud2 : Nat), ∃ (rf2 : Nat → Int32), nwX wn mN Ba2 We2 U2 ke lg nw2 ∧ kpX ud2 nu2 su2 lg kp2 ∧ nu2 < 20 ∧ ud2 ≤ 20 ∧ b ≤ 1 ∧ setR dm (wn, mN, Ba, We, U, ke) ud su rf d (nI 0) (nI ov) (nI b) (wn, mN, Ba2, We2, U2, ke) ud2 su2 rf2 ∧ r = nI b ∧ u = [ro_ mm 12 (mo g (nI ta) (nI pa) (nI pe) pd (nI pb) pp pf pg pn rt rn (nI cd) sn (nI il) tk am at_ aa 0 0 (-1) wt wy 0 (nI rm) (nI ud2) (nI nu2) sd (nI qn) (nI qw) qo (nI qb) (nI qp) qa (nI qi) (nI oc)), ra_I (g 20) cI 4 (l4 (nI l0) (nI l1) (nI dm) (nI l3)), ra_I (g 31) cI 120 nw2, ra_I (g 54) cI 2400 kp2, ra_I (g 9) cI 6 rf2])) := by
  refine skM_of pf_X12_becomes (Nat.le_of_ble_eq_true rfl) ?_
  intro p e s m below meth c A ls E hP hD hl
  refine skE_el E (fun hx hb hr hml hlocks hin hown hts hK hA => ?_)
  have hown : s.vm.findClass RX12 = some m.cls := hown
  have hS : va_S A s.heap s.heap [] := va_S.rf
  have hl : lv_has ls 5 [(0, .ref mm), (1, .int d), (2, .int 0), (3, .int (nI ov)), (4, .int 1)] := hl
  refine lv_aload_n hx hb dX12_becomes_0 rfl (lv_at hl 0 rfl) ?_
  refine lv_iload_n hx hb dX12_becomes_1 rfl (lv_at hl 1 rfl) ?_
  refine sk_Vi (q0 := 0) (n := 1) (rest := []) (wr := fmR om_5_18 _) ⟨hx, hb, hml, hown, hts⟩ hl.1 (c_nm_isDay l D cI cJ cC cZ cS mm g ta pa pe pd pb pp pf pg pn rt rn cd sn il tk am at_ aa wt wy rm ud nu sd qn qw qo qb qp qa qi oc d l0 l1 dm l3 hdm) w_7_117 w_7_119 w_0_72 w_1_14 w_7_120 hd_X12_isDay_1 ⟨⟨(Nat.le_of_ble_eq_true rfl), (Nat.le_of_ble_eq_true rfl)⟩, (Nat.le_of_ble_eq_true rfl), (Nat.le_of_ble_eq_true rfl)⟩ hK hP hD hS hA (fmT om_5_18 0) (fmF om_5_18 0) (fm_C1 rfl rfl) (fm_R rfl rfl) (fm_nT om_5_18 0) (fm_nF om_5_18 0) (fm_di om_5_18 0) rfl rfl rfl rfl (Nat.le_of_ble_eq_true rfl) dX12_becomes_2 (fun r_2 u H locs hw hP hD hS => ?_)
  refine exE hw (fun b_1 hw1 => anE hw1 (fun hb1_3 hw2 => anE hw2 (fun er_5 eu_4 => ?_)))
  clear hw hw1 hw2
  subst er_5
  refine o_mgE (ws' := [ro_ mm 12 (mo g (nI ta) (nI pa) (nI pe) pd (nI pb) pp pf pg pn rt rn (nI cd) sn (nI il) tk am at_ aa 0 0 (-1) wt wy 0 (nI rm) (nI ud) (nI nu) sd (nI qn) (nI qw) qo (nI qb) (nI qp) qa (nI qi) (nI oc)), ra_I (g 20) cI 4 (l4 (nI l0) (nI l1) (nI dm) (nI l3)), ra_I (g 31) cI 120 nw, ra_I (g 54) cI 2400 kp, ra_I (g 9) cI 6 rf]) eu_4 hP hD rfl (fun hP hD => ?_)
  refine lv_if_eq (tgt := 29) hx hb dX12_becomes_5 (by decide) (fun c_6 => ?_) (fun c_6 => ?_)
  · have c_6 : b_1 = 0 := (neq b_1 0 (by omega) (Nat.le_of_ble_eq_true rfl)).mp c_6
    refine lv_aload_n hx hb dX12_becomes_29 rfl (lv_at hl 0 rfl) ?_
    refine sk_get (v := .ref (g 9)) (C := RX12) (T := TX12) (N := 92) hx hb hts inlX12 hown hK hP 0 rfl rfl 9 (Nat.le_of_ble_eq_true rfl) w_5_164 rfl dX12_becomes_30 ?_
    refine lv_iconst (v := 2) hx hb dX12_becomes_33 ic_2 ?_
    refine lv_dup2_11 hx hb dX12_becomes_34 rfl rfl ?_
    refine va_iald hx hb hK.1 hP 4 0 rfl rfl (by unfold vp_in; decide) dX12_becomes_35 ?_
    refine sk_top (rf 2) (rfl) ?_
    refine lv_iconst (v := 1) hx hb dX12_becomes_36 ic_1 ?_
    refine lv_iadd hx hb dX12_becomes_37 ?_
    refine sk_iastE (k := 2) (ws' := fun f_7 => [ro_ mm 12 (mo g (nI ta) (nI pa) (nI pe) pd (nI pb) pp pf pg pn rt rn (nI cd) sn (nI il) tk am at_ aa 0 0 (-1) wt wy 0 (nI rm) (nI ud) (nI nu) sd (nI qn) (nI qw) qo (nI qb) (nI qp) qa (nI qi) (nI oc)), ra_I (g 20) cI 4 (l4 (nI l0) (nI l1) (nI dm) (nI l3)), ra_I (g 31) cI 120 nw, ra_I (g 54) cI 2400 kp, ra_I (g 9) cI 6 f_7]) hx hb hK hP hD hS 4 0 rfl rfl (by omega) (by omega) (fun _ => rfl) dX12_becomes_38 (fun f_7 H locs ef_8 hP hD hS => ?_)
    refine lv_iconst (v := 0) hx hb dX12_becomes_39 ic_0 ?_
    exact sk_iret hx hb hr rfl hlocks hK hP hD hS (⟨Ba, We, U, su, nw, kp, 0, nu, ud, f_7, hnw, hkp, hnu, hud, (by decide), set_0 (rr_0 hb1_3 (by omega)) ef_8, rfl, rfl⟩) (Nat.le_of_ble_eq_true rfl) (Nat.le_of_ble_eq_true rfl) dX12_becomes_40
  · have c_6 : ¬ (b_1 = 0) := fun h => c_6 ((neq b_1 0 (by omega) (Nat.le_of_ble_eq_true rfl)).mpr h)
    obtain ⟨kd_9, hkd_9, rfl⟩ := rr_1 hb1_3 (by omega)
    refine lv_iload hx hb dX12_becomes_8 (lv_at hl 4 rfl) ?_
    refine lv_if_eq (tgt := 29) hx hb dX12_becomes_10 (by decide) (fun c => absurd c (by decide)) (fun c_10 => ?_)
    refine lv_aload_n hx hb dX12_becomes_13 rfl (lv_at hl 0 rfl) ?_
    refine sk_get (v := .ref (g 31)) (C := RX12) (T := TX12) (N := 92) hx hb hts inlX12 hown hK hP 0 rfl rfl 31 (Nat.le_of_ble_eq_true rfl) w_5_186 rfl dX12_becomes_14 ?_
    refine lv_iconst (v := 2) hx hb dX12_becomes_17 ic_2 ?_
    refine lv_iconst (v := 3) hx hb dX12_becomes_18 ic_3 ?_
    refine lv_iload_n hx hb dX12_becomes_19 rfl (lv_at hl 1 rfl) ?_
    refine lv_imul hx hb dX12_becomes_20 ?_
    refine sk_top (nI (3 * kd_9)) (nmul 3 kd_9) ?_
    refine lv_iadd hx hb dX12_becomes_21 ?_
    refine sk_top (nI (2 + (3 * kd_9))) (nI_add 2 (3 * kd_9)) ?_
    refine lv_iload_n hx hb dX12_becomes_22 rfl (lv_at hl 2 rfl) ?_
    refine lv_iadd hx hb dX12_becomes_23 ?_
    refine sk_top (nI (2 + (3 * kd_9) + 0)) (nI_add (2 + (3 * kd_9)) 0) ?_
    refine va_iald hx hb hK.1 hP 2 0 rfl rfl (vin (2 + (3 * kd_9) + 0) 120 (by omega) (Nat.le_of_ble_eq_true rfl)) dX12_becomes_24 ?_
    have hv_ := hB9 kd_9
    refine sk_top (nI (Ba kd_9)) (by rw [nI_clamp (by omega)]; exact nwX_b hnw (by omega)) ?_
    refine lv_iload_n hx hb dX12_becomes_25 rfl (lv_at hl 3 rfl) ?_
    refine lv_icmp_ne (tgt := 41) hx hb dX12_becomes_26 (by decide) (fun c_11 => ?_) (fun c_11 => ?_)
    · have c_11 : ¬ (Ba kd_9 = ov) := fun h => c_11 ((neq (Ba kd_9) ov (by omega) (by omega)).mpr h)
      refine lv_aload_n hx hb dX12_becomes_41 rfl (lv_at hl 0 rfl) ?_
      refine sk_Vv (q0 := 0) (n := 0) (rest := []) (wr := fmR om_5_16 _) ⟨hx, hb, hml, hown, hts⟩ hl.1 (c_nm_keeps l D cI cJ cC cZ cS mm g ta pa pe pd pb pp pf pg pn rt rn cd sn il tk am at_ aa wt wy rm ud nu sd qn qw qo qb qp qa qi oc nw kp wn mN Ba We U ke lg su hnu hud hnw hkp) w_8_130 w_8_132 w_0_107 w_1_14 w_8_133 hd_X12_keeps_0 ⟨⟨(Nat.le_of_ble_eq_true rfl), (Nat.le_of_ble_eq_true rfl)⟩, (Nat.le_of_ble_eq_true rfl), (Nat.le_of_ble_eq_true rfl)⟩ hK hP hD hS hA (fmT om_5_16 0) (fmF om_5_16 0) (fm_C1 rfl rfl) (fm_R rfl rfl) (fm_nT om_5_16 0) (fm_nF om_5_16 0) (fm_di om_5_16 0) rfl rfl rfl rfl (Nat.le_of_ble_eq_true rfl) dX12_becomes_42 (fun u H locs hw hP hD hS => ?_)
      refine exE hw (fun kp2_12 hw1 => exE hw1 (fun ud2_13 hw2 => anE hw2 (fun hud2_14 hw3 => anE hw3 (fun hkp2_15 eu_16 => ?_))))
      clear hw hw1 hw2 hw3
      refine o_mgE (ws' := [ro_ mm 12 (mo g (nI ta) (nI pa) (nI pe) pd (nI pb) pp pf pg pn rt rn (nI cd) sn (nI il) tk am at_ aa 0 0 (-1) wt wy 0 (nI rm) (nI ud2_13) (nI ((nu + 1) % 20)) sd (nI qn) (nI qw) qo (nI qb) (nI qp) qa (nI qi) (nI oc)), ra_I (g 20) cI 4 (l4 (nI l0) (nI l1) (nI dm) (nI l3)), ra_I (g 31) cI 120 nw, ra_I (g 54) cI 2400 kp2_12, ra_I (g 9) cI 6 rf]) eu_16 hP hD rfl (fun hP hD => ?_)
      refine lv_aload_n hx hb dX12_becomes_45 rfl (lv_at hl 0 rfl) ?_
      refine sk_get (v := .ref (g 31)) (C := RX12) (T := TX12) (N := 92) hx hb hts inlX12 hown hK hP 0 rfl rfl 31 (Nat.le_of_ble_eq_true rfl) w_5_186 rfl dX12_becomes_46 ?_
      refine lv_iconst (v := 2) hx hb dX12_becomes_49 ic_2 ?_
      refine lv_iconst (v := 3) hx hb dX12_becomes_50 ic_3 ?_
      refine lv_iload_n hx hb dX12_becomes_51 rfl (lv_at hl 1 rfl) ?_
      refine lv_imul hx hb dX12_becomes_52 ?_
      refine sk_top (nI (3 * kd_9)) (nmul 3 kd_9) ?_
      refine lv_iadd hx hb dX12_becomes_53 ?_
      refine sk_top (nI (2 + (3 * kd_9))) (nI_add 2 (3 * kd_9)) ?_
      refine lv_iload_n hx hb dX12_becomes_54 rfl (lv_at hl 2 rfl) ?_
      refine lv_iadd hx hb dX12_becomes_55 ?_
      refine sk_top (nI (2 + (3 * kd_9) + 0)) (nI_add (2 + (3 * kd_9)) 0) ?_
      refine lv_iload_n hx hb dX12_becomes_56 rfl (lv_at hl 3 rfl) ?_
      refine sk_iastE (k := (2 + (3 * kd_9) + 0)) (x := (nI ov)) (ws' := fun f_17 => [ro_ mm 12 (mo g (nI ta) (nI pa) (nI pe) pd (nI pb) pp pf pg pn rt rn (nI cd) sn (nI il) tk am at_ aa 0 0 (-1) wt wy 0 (nI rm) (nI ud2_13) (nI ((nu + 1) % 20)) sd (nI qn) (nI qw) qo (nI qb) (nI qp) qa (nI qi) (nI oc)), ra_I (g 20) cI 4 (l4 (nI l0) (nI l1) (nI dm) (nI l3)), ra_I (g 31) cI 120 f_17, ra_I (g 54) cI 2400 kp2_12, ra_I (g 9) cI 6 rf]) hx hb hK hP hD hS 2 0 rfl rfl (by omega) (by omega) (fun _ => rfl) dX12_becomes_57 (fun f_17 H locs ef_18 hP hD hS => ?_)
      have hN_19 : nwX wn mN (updG Ba kd_9 ov) We U ke lg f_17 := nwX_upb hnw ef_18 (by omega)
      refine lv_iconst (v := 1) hx hb dX12_becomes_58 ic_1 ?_
      exact sk_iret hx hb hr rfl hlocks hK hP hD hS (⟨(updG Ba kd_9 ov), We, U, (psh ud su (wn, mN, Ba, We, U, ke)), f_17, kp2_12, 1, (nu + 1) % 20, ud2_13, rf, hN_19, hkp2_15, by omega, by omega, (by decide), (by rw [hud2_14]; exact set_y0 (n := (wn, mN, Ba, We, U, ke)) hkd_9 hov rfl c_11), rfl, rfl⟩) (Nat.le_of_ble_eq_true rfl) (Nat.le_of_ble_eq_true rfl) dX12_becomes_59
    · have c_11 : Ba kd_9 = ov := (neq (Ba kd_9) ov (by omega) (by omega)).mp c_11
      refine lv_aload_n hx hb dX12_becomes_29 rfl (lv_at hl 0 rfl) ?_
      refine sk_get (v := .ref (g 9)) (C := RX12) (T := TX12) (N := 92) hx hb hts inlX12 hown hK hP 0 rfl rfl 9 (Nat.le_of_ble_eq_true rfl) w_5_164 rfl dX12_becomes_30 ?_
      refine lv_iconst (v := 2) hx hb dX12_becomes_33 ic_2 ?_
      refine lv_dup2_11 hx hb dX12_becomes_34 rfl rfl ?_
      refine va_iald hx hb hK.1 hP 4 0 rfl rfl (by unfold vp_in; decide) dX12_becomes_35 ?_
      refine sk_top (rf 2) (rfl) ?_
      refine lv_iconst (v := 1) hx hb dX12_becomes_36 ic_1 ?_
      refine lv_iadd hx hb dX12_becomes_37 ?_
      refine sk_iastE (k := 2) (ws' := fun f_20 => [ro_ mm 12 (mo g (nI ta) (nI pa) (nI pe) pd (nI pb) pp pf pg pn rt rn (nI cd) sn (nI il) tk am at_ aa 0 0 (-1) wt wy 0 (nI rm) (nI ud) (nI nu) sd (nI qn) (nI qw) qo (nI qb) (nI qp) qa (nI qi) (nI oc)), ra_I (g 20) cI 4 (l4 (nI l0) (nI l1) (nI dm) (nI l3)), ra_I (g 31) cI 120 nw, ra_I (g 54) cI 2400 kp, ra_I (g 9) cI 6 f_20]) hx hb hK hP hD hS 4 0 rfl rfl (by omega) (by omega) (fun _ => rfl) dX12_becomes_38 (fun f_20 H locs ef_21 hP hD hS => ?_)
      refine lv_iconst (v := 0) hx hb dX12_becomes_39 ic_0 ?_
      exact sk_iret hx hb hr rfl hlocks hK hP hD hS (⟨Ba, We, U, su, nw, kp, 0, nu, ud, f_20, hnw, hkp, hnu, hud, (by decide), set_4 (j := 0) (n := (wn, mN, Ba, We, U, ke)) hdm hkd_9 hov (by decide) rfl c_11 ef_21, rfl, rfl⟩) (Nat.le_of_ble_eq_true rfl) (Nat.le_of_ble_eq_true rfl) dX12_becomes_40
set_option maxHeartbeats 4000000 in
set_option maxRecDepth 100000 in
theorem c_nm_becomes11 (l : Launch) (D : va_G) (cI cJ cC cZ cS : ClassId) (mm : Nat) (g : Nat → Nat) (ta : Nat) (pa : Nat) (pe : Nat) (pd : Int32) (pb : Nat) (pp : Int32) (pf : Int32) (pg : Int32) (pn : Int32) (rt : Int32) (rn : Int32) (cd : Nat) (sn : Int32) (il : Nat) (tk : Int32) (am : Int32) (at_ : Int32) (aa : Int32) (wt : Int32) (wy : Int64) (rm : Nat) (ud : Nat) (nu : Nat) (sd : Int64) (qn : Nat) (qw : Nat) (qo : Int32) (qb : Nat) (qp : Nat) (qa : Int64) (qi : Nat) (oc : Nat) (d : Int32) (ov : Nat) (l0 : Nat) (l1 : Nat) (dm : Nat) (l3 : Nat) (nw : Nat → Int32) (kp : Nat → Int32) (rf : Nat → Int32) (wn : Nat) (mN : Nat) (Ba : Nat → Nat) (We : Nat → Nat) (U : Nat → Bool) (ke : Nat) (lg : KLg) (su : Nat → KN) (hdm : dm ≤ 9) (hnu : nu < 20) (hud : ud ≤ 20) (hov : ov < 10) (hB9 : ∀ j, Ba j ≤ 9) (hW9 : ∀ j, We j ≤ 9) (hnw : nwX wn mN Ba We U ke lg nw) (hkp : kpX ud nu su lg kp) : skM l yX12_becomes cX12_becomes 5 (some .boolean) 2 46 0 0 D (skT cI cJ cC cZ cS) [.ref mm, .int d, .int 1, .int (nI ov), .int 1] [ro_ mm 12 (mo g (nI ta) (nI pa) (nI pe) pd (nI pb) pp pf pg pn rt rn (nI cd) sn (nI il) tk am at_ aa 0 0 (-1) wt wy 0 (nI rm) (nI ud) (nI nu) sd (nI qn) (nI qw) qo (nI qb) (nI qp) qa (nI qi) (nI oc)), ra_I (g 20) cI 4 (l4 (nI l0) (nI l1) (nI dm) (nI l3)), ra_I (g 31) cI 120 nw, ra_I (g 54) cI 2400 kp, ra_I (g 9) cI 6 rf] (skI D (skT cI cJ cC cZ cS) (fun (r : Int32) (u : va_W) => ∃ (Ba2 : Nat → Nat), ∃ (We2 : Nat → Nat), ∃ (U2 : Nat → Bool), ∃ (su2 : Nat → KN), ∃ (nw2 : Nat → Int32), ∃ (kp2 : Nat → Int32), ∃ (b : Nat), ∃ (nu2 : Nat), ∃ (ud2 : Nat), ∃ (rf2 : Nat → Int32), nwX wn mN Ba2 We2 U2 ke lg nw2 ∧ kpX ud2 nu2 su2 lg kp2 ∧ nu2 < 20 ∧ ud2 ≤ 20 ∧ b ≤ 1 ∧ setR dm (wn, mN, Ba, We, U, ke) ud su rf d (nI 1) (nI ov) (nI b) (wn, mN, Ba2, We2, U2, ke) ud2 su2 rf2 ∧ r = nI b ∧ u = [ro_ mm 12 (mo g (nI ta) (nI pa) (nI pe) pd (nI pb) pp pf pg pn rt rn (nI cd) sn (nI il) tk am at_ aa 0 0 (-1) wt wy 0 (nI rm) (nI ud2) (nI nu2) sd (nI qn) (nI qw) qo (nI qb) (nI qp) qa (nI qi) (nI oc)), ra_I (g 20) cI 4 (l4 (nI l0) (nI l1) (nI dm) (nI l3)), ra_I (g 31) cI 120 nw2, ra_I (g 54) cI 2400 kp2, ra_I (g 9) cI 6 rf2])) := by
  refine skM_of pf_X12_becomes (Nat.le_of_ble_eq_true rfl) ?_
  intro p e s m below meth c A ls E hP hD hl
  refine skE_el E (fun hx hb hr hml hlocks hin hown hts hK hA => ?_)
  have hown : s.vm.findClass RX12 = some m.cls := hown
  have hS : va_S A s.heap s.heap [] := va_S.rf
  have hl : lv_has ls 5 [(0, .ref mm), (1, .int d), (2, .int 1), (3, .int (nI ov)), (4, .int 1)] := hl
  refine lv_aload_n hx hb dX12_becomes_0 rfl (lv_at hl 0 rfl) ?_
  refine lv_iload_n hx hb dX12_becomes_1 rfl (lv_at hl 1 rfl) ?_
  refine sk_Vi (q0 := 0) (n := 1) (rest := []) (wr := fmR om_5_18 _) ⟨hx, hb, hml, hown, hts⟩ hl.1 (c_nm_isDay l D cI cJ cC cZ cS mm g ta pa pe pd pb pp pf pg pn rt rn cd sn il tk am at_ aa wt wy rm ud nu sd qn qw qo qb qp qa qi oc d l0 l1 dm l3 hdm) w_7_117 w_7_119 w_0_72 w_1_14 w_7_120 hd_X12_isDay_1 ⟨⟨(Nat.le_of_ble_eq_true rfl), (Nat.le_of_ble_eq_true rfl)⟩, (Nat.le_of_ble_eq_true rfl), (Nat.le_of_ble_eq_true rfl)⟩ hK hP hD hS hA (fmT om_5_18 0) (fmF om_5_18 0) (fm_C1 rfl rfl) (fm_R rfl rfl) (fm_nT om_5_18 0) (fm_nF om_5_18 0) (fm_di om_5_18 0) rfl rfl rfl rfl (Nat.le_of_ble_eq_true rfl) dX12_becomes_2 (fun r_2 u H locs hw hP hD hS => ?_)
  refine exE hw (fun b_1 hw1 => anE hw1 (fun hb1_3 hw2 => anE hw2 (fun er_5 eu_4 => ?_)))
  clear hw hw1 hw2
  subst er_5
  refine o_mgE (ws' := [ro_ mm 12 (mo g (nI ta) (nI pa) (nI pe) pd (nI pb) pp pf pg pn rt rn (nI cd) sn (nI il) tk am at_ aa 0 0 (-1) wt wy 0 (nI rm) (nI ud) (nI nu) sd (nI qn) (nI qw) qo (nI qb) (nI qp) qa (nI qi) (nI oc)), ra_I (g 20) cI 4 (l4 (nI l0) (nI l1) (nI dm) (nI l3)), ra_I (g 31) cI 120 nw, ra_I (g 54) cI 2400 kp, ra_I (g 9) cI 6 rf]) eu_4 hP hD rfl (fun hP hD => ?_)
  refine lv_if_eq (tgt := 29) hx hb dX12_becomes_5 (by decide) (fun c_6 => ?_) (fun c_6 => ?_)
  · have c_6 : b_1 = 0 := (neq b_1 0 (by omega) (Nat.le_of_ble_eq_true rfl)).mp c_6
    refine lv_aload_n hx hb dX12_becomes_29 rfl (lv_at hl 0 rfl) ?_
    refine sk_get (v := .ref (g 9)) (C := RX12) (T := TX12) (N := 92) hx hb hts inlX12 hown hK hP 0 rfl rfl 9 (Nat.le_of_ble_eq_true rfl) w_5_164 rfl dX12_becomes_30 ?_
    refine lv_iconst (v := 2) hx hb dX12_becomes_33 ic_2 ?_
    refine lv_dup2_11 hx hb dX12_becomes_34 rfl rfl ?_
    refine va_iald hx hb hK.1 hP 4 0 rfl rfl (by unfold vp_in; decide) dX12_becomes_35 ?_
    refine sk_top (rf 2) (rfl) ?_
    refine lv_iconst (v := 1) hx hb dX12_becomes_36 ic_1 ?_
    refine lv_iadd hx hb dX12_becomes_37 ?_
    refine sk_iastE (k := 2) (ws' := fun f_7 => [ro_ mm 12 (mo g (nI ta) (nI pa) (nI pe) pd (nI pb) pp pf pg pn rt rn (nI cd) sn (nI il) tk am at_ aa 0 0 (-1) wt wy 0 (nI rm) (nI ud) (nI nu) sd (nI qn) (nI qw) qo (nI qb) (nI qp) qa (nI qi) (nI oc)), ra_I (g 20) cI 4 (l4 (nI l0) (nI l1) (nI dm) (nI l3)), ra_I (g 31) cI 120 nw, ra_I (g 54) cI 2400 kp, ra_I (g 9) cI 6 f_7]) hx hb hK hP hD hS 4 0 rfl rfl (by omega) (by omega) (fun _ => rfl) dX12_becomes_38 (fun f_7 H locs ef_8 hP hD hS => ?_)
    refine lv_iconst (v := 0) hx hb dX12_becomes_39 ic_0 ?_
    exact sk_iret hx hb hr rfl hlocks hK hP hD hS (⟨Ba, We, U, su, nw, kp, 0, nu, ud, f_7, hnw, hkp, hnu, hud, (by decide), set_0 (rr_0 hb1_3 (by omega)) ef_8, rfl, rfl⟩) (Nat.le_of_ble_eq_true rfl) (Nat.le_of_ble_eq_true rfl) dX12_becomes_40
  · have c_6 : ¬ (b_1 = 0) := fun h => c_6 ((neq b_1 0 (by omega) (Nat.le_of_ble_eq_true rfl)).mpr h)
    obtain ⟨kd_9, hkd_9, rfl⟩ := rr_1 hb1_3 (by omega)
    refine lv_iload hx hb dX12_becomes_8 (lv_at hl 4 rfl) ?_
    refine lv_if_eq (tgt := 29) hx hb dX12_becomes_10 (by decide) (fun c => absurd c (by decide)) (fun c_10 => ?_)
    refine lv_aload_n hx hb dX12_becomes_13 rfl (lv_at hl 0 rfl) ?_
    refine sk_get (v := .ref (g 31)) (C := RX12) (T := TX12) (N := 92) hx hb hts inlX12 hown hK hP 0 rfl rfl 31 (Nat.le_of_ble_eq_true rfl) w_5_186 rfl dX12_becomes_14 ?_
    refine lv_iconst (v := 2) hx hb dX12_becomes_17 ic_2 ?_
    refine lv_iconst (v := 3) hx hb dX12_becomes_18 ic_3 ?_
    refine lv_iload_n hx hb dX12_becomes_19 rfl (lv_at hl 1 rfl) ?_
    refine lv_imul hx hb dX12_becomes_20 ?_
    refine sk_top (nI (3 * kd_9)) (nmul 3 kd_9) ?_
    refine lv_iadd hx hb dX12_becomes_21 ?_
    refine sk_top (nI (2 + (3 * kd_9))) (nI_add 2 (3 * kd_9)) ?_
    refine lv_iload_n hx hb dX12_becomes_22 rfl (lv_at hl 2 rfl) ?_
    refine lv_iadd hx hb dX12_becomes_23 ?_
    refine sk_top (nI (2 + (3 * kd_9) + 1)) (nI_add (2 + (3 * kd_9)) 1) ?_
    refine va_iald hx hb hK.1 hP 2 0 rfl rfl (vin (2 + (3 * kd_9) + 1) 120 (by omega) (Nat.le_of_ble_eq_true rfl)) dX12_becomes_24 ?_
    have hv_ := hW9 kd_9
    refine sk_top (nI (We kd_9)) (by rw [nI_clamp (by omega)]; exact nwX_w hnw (by omega)) ?_
    refine lv_iload_n hx hb dX12_becomes_25 rfl (lv_at hl 3 rfl) ?_
    refine lv_icmp_ne (tgt := 41) hx hb dX12_becomes_26 (by decide) (fun c_11 => ?_) (fun c_11 => ?_)
    · have c_11 : ¬ (We kd_9 = ov) := fun h => c_11 ((neq (We kd_9) ov (by omega) (by omega)).mpr h)
      refine lv_aload_n hx hb dX12_becomes_41 rfl (lv_at hl 0 rfl) ?_
      refine sk_Vv (q0 := 0) (n := 0) (rest := []) (wr := fmR om_5_16 _) ⟨hx, hb, hml, hown, hts⟩ hl.1 (c_nm_keeps l D cI cJ cC cZ cS mm g ta pa pe pd pb pp pf pg pn rt rn cd sn il tk am at_ aa wt wy rm ud nu sd qn qw qo qb qp qa qi oc nw kp wn mN Ba We U ke lg su hnu hud hnw hkp) w_8_130 w_8_132 w_0_107 w_1_14 w_8_133 hd_X12_keeps_0 ⟨⟨(Nat.le_of_ble_eq_true rfl), (Nat.le_of_ble_eq_true rfl)⟩, (Nat.le_of_ble_eq_true rfl), (Nat.le_of_ble_eq_true rfl)⟩ hK hP hD hS hA (fmT om_5_16 0) (fmF om_5_16 0) (fm_C1 rfl rfl) (fm_R rfl rfl) (fm_nT om_5_16 0) (fm_nF om_5_16 0) (fm_di om_5_16 0) rfl rfl rfl rfl (Nat.le_of_ble_eq_true rfl) dX12_becomes_42 (fun u H locs hw hP hD hS => ?_)
      refine exE hw (fun kp2_12 hw1 => exE hw1 (fun ud2_13 hw2 => anE hw2 (fun hud2_14 hw3 => anE hw3 (fun hkp2_15 eu_16 => ?_))))
      clear hw hw1 hw2 hw3
      refine o_mgE (ws' := [ro_ mm 12 (mo g (nI ta) (nI pa) (nI pe) pd (nI pb) pp pf pg pn rt rn (nI cd) sn (nI il) tk am at_ aa 0 0 (-1) wt wy 0 (nI rm) (nI ud2_13) (nI ((nu + 1) % 20)) sd (nI qn) (nI qw) qo (nI qb) (nI qp) qa (nI qi) (nI oc)), ra_I (g 20) cI 4 (l4 (nI l0) (nI l1) (nI dm) (nI l3)), ra_I (g 31) cI 120 nw, ra_I (g 54) cI 2400 kp2_12, ra_I (g 9) cI 6 rf]) eu_16 hP hD rfl (fun hP hD => ?_)
      refine lv_aload_n hx hb dX12_becomes_45 rfl (lv_at hl 0 rfl) ?_
      refine sk_get (v := .ref (g 31)) (C := RX12) (T := TX12) (N := 92) hx hb hts inlX12 hown hK hP 0 rfl rfl 31 (Nat.le_of_ble_eq_true rfl) w_5_186 rfl dX12_becomes_46 ?_
      refine lv_iconst (v := 2) hx hb dX12_becomes_49 ic_2 ?_
      refine lv_iconst (v := 3) hx hb dX12_becomes_50 ic_3 ?_
      refine lv_iload_n hx hb dX12_becomes_51 rfl (lv_at hl 1 rfl) ?_
      refine lv_imul hx hb dX12_becomes_52 ?_
      refine sk_top (nI (3 * kd_9)) (nmul 3 kd_9) ?_
      refine lv_iadd hx hb dX12_becomes_53 ?_
      refine sk_top (nI (2 + (3 * kd_9))) (nI_add 2 (3 * kd_9)) ?_
      refine lv_iload_n hx hb dX12_becomes_54 rfl (lv_at hl 2 rfl) ?_
      refine lv_iadd hx hb dX12_becomes_55 ?_
      refine sk_top (nI (2 + (3 * kd_9) + 1)) (nI_add (2 + (3 * kd_9)) 1) ?_
      refine lv_iload_n hx hb dX12_becomes_56 rfl (lv_at hl 3 rfl) ?_
      refine sk_iastE (k := (2 + (3 * kd_9) + 1)) (x := (nI ov)) (ws' := fun f_17 => [ro_ mm 12 (mo g (nI ta) (nI pa) (nI pe) pd (nI pb) pp pf pg pn rt rn (nI cd) sn (nI il) tk am at_ aa 0 0 (-1) wt wy 0 (nI rm) (nI ud2_13) (nI ((nu + 1) % 20)) sd (nI qn) (nI qw) qo (nI qb) (nI qp) qa (nI qi) (nI oc)), ra_I (g 20) cI 4 (l4 (nI l0) (nI l1) (nI dm) (nI l3)), ra_I (g 31) cI 120 f_17, ra_I (g 54) cI 2400 kp2_12, ra_I (g 9) cI 6 rf]) hx hb hK hP hD hS 2 0 rfl rfl (by omega) (by omega) (fun _ => rfl) dX12_becomes_57 (fun f_17 H locs ef_18 hP hD hS => ?_)
      have hN_19 : nwX wn mN Ba (updG We kd_9 ov) U ke lg f_17 := nwX_upw hnw ef_18 (by omega)
      refine lv_iconst (v := 1) hx hb dX12_becomes_58 ic_1 ?_
      exact sk_iret hx hb hr rfl hlocks hK hP hD hS (⟨Ba, (updG We kd_9 ov), U, (psh ud su (wn, mN, Ba, We, U, ke)), f_17, kp2_12, 1, (nu + 1) % 20, ud2_13, rf, hN_19, hkp2_15, by omega, by omega, (by decide), (by rw [hud2_14]; exact set_y1 (n := (wn, mN, Ba, We, U, ke)) hkd_9 hov rfl c_11), rfl, rfl⟩) (Nat.le_of_ble_eq_true rfl) (Nat.le_of_ble_eq_true rfl) dX12_becomes_59
    · have c_11 : We kd_9 = ov := (neq (We kd_9) ov (by omega) (by omega)).mp c_11
      refine lv_aload_n hx hb dX12_becomes_29 rfl (lv_at hl 0 rfl) ?_
      refine sk_get (v := .ref (g 9)) (C := RX12) (T := TX12) (N := 92) hx hb hts inlX12 hown hK hP 0 rfl rfl 9 (Nat.le_of_ble_eq_true rfl) w_5_164 rfl dX12_becomes_30 ?_
      refine lv_iconst (v := 2) hx hb dX12_becomes_33 ic_2 ?_
      refine lv_dup2_11 hx hb dX12_becomes_34 rfl rfl ?_
      refine va_iald hx hb hK.1 hP 4 0 rfl rfl (by unfold vp_in; decide) dX12_becomes_35 ?_
      refine sk_top (rf 2) (rfl) ?_
      refine lv_iconst (v := 1) hx hb dX12_becomes_36 ic_1 ?_
      refine lv_iadd hx hb dX12_becomes_37 ?_
      refine sk_iastE (k := 2) (ws' := fun f_20 => [ro_ mm 12 (mo g (nI ta) (nI pa) (nI pe) pd (nI pb) pp pf pg pn rt rn (nI cd) sn (nI il) tk am at_ aa 0 0 (-1) wt wy 0 (nI rm) (nI ud) (nI nu) sd (nI qn) (nI qw) qo (nI qb) (nI qp) qa (nI qi) (nI oc)), ra_I (g 20) cI 4 (l4 (nI l0) (nI l1) (nI dm) (nI l3)), ra_I (g 31) cI 120 nw, ra_I (g 54) cI 2400 kp, ra_I (g 9) cI 6 f_20]) hx hb hK hP hD hS 4 0 rfl rfl (by omega) (by omega) (fun _ => rfl) dX12_becomes_38 (fun f_20 H locs ef_21 hP hD hS => ?_)
      refine lv_iconst (v := 0) hx hb dX12_becomes_39 ic_0 ?_
      exact sk_iret hx hb hr rfl hlocks hK hP hD hS (⟨Ba, We, U, su, nw, kp, 0, nu, ud, f_20, hnw, hkp, hnu, hud, (by decide), set_4 (j := 1) (n := (wn, mN, Ba, We, U, ke)) hdm hkd_9 hov (by decide) rfl c_11 ef_21, rfl, rfl⟩) (Nat.le_of_ble_eq_true rfl) (Nat.le_of_ble_eq_true rfl) dX12_becomes_40
set_option maxHeartbeats 4000000 in
set_option maxRecDepth 100000 in
theorem c_nm_becomes12 (l : Launch) (D : va_G) (cI cJ cC cZ cS : ClassId) (mm : Nat) (g : Nat → Nat) (ta : Nat) (pa : Nat) (pe : Nat) (pd : Int32) (pb : Nat) (pp : Int32) (pf : Int32) (pg : Int32) (pn : Int32) (rt : Int32) (rn : Int32) (cd : Nat) (sn : Int32) (il : Nat) (tk : Int32) (am : Int32) (at_ : Int32) (aa : Int32) (wt : Int32) (wy : Int64) (rm : Nat) (ud : Nat) (nu : Nat) (sd : Int64) (qn : Nat) (qw : Nat) (qo : Int32) (qb : Nat) (qp : Nat) (qa : Int64) (qi : Nat) (oc : Nat) (d : Int32) (ov : Nat) (l0 : Nat) (l1 : Nat) (dm : Nat) (l3 : Nat) (nw : Nat → Int32) (kp : Nat → Int32) (rf : Nat → Int32) (wn : Nat) (mN : Nat) (Ba : Nat → Nat) (We : Nat → Nat) (U : Nat → Bool) (ke : Nat) (lg : KLg) (su : Nat → KN) (hdm : dm ≤ 9) (hnu : nu < 20) (hud : ud ≤ 20) (hov : ov < 2) (hB9 : ∀ j, Ba j ≤ 9) (hW9 : ∀ j, We j ≤ 9) (hnw : nwX wn mN Ba We U ke lg nw) (hkp : kpX ud nu su lg kp) : skM l yX12_becomes cX12_becomes 5 (some .boolean) 2 46 0 0 D (skT cI cJ cC cZ cS) [.ref mm, .int d, .int 2, .int (nI ov), .int 1] [ro_ mm 12 (mo g (nI ta) (nI pa) (nI pe) pd (nI pb) pp pf pg pn rt rn (nI cd) sn (nI il) tk am at_ aa 0 0 (-1) wt wy 0 (nI rm) (nI ud) (nI nu) sd (nI qn) (nI qw) qo (nI qb) (nI qp) qa (nI qi) (nI oc)), ra_I (g 20) cI 4 (l4 (nI l0) (nI l1) (nI dm) (nI l3)), ra_I (g 31) cI 120 nw, ra_I (g 54) cI 2400 kp, ra_I (g 9) cI 6 rf] (skI D (skT cI cJ cC cZ cS) (fun (r : Int32) (u : va_W) => ∃ (Ba2 : Nat → Nat), ∃ (We2 : Nat → Nat), ∃ (U2 : Nat → Bool), ∃ (su2 : Nat → KN), ∃ (nw2 : Nat → Int32), ∃ (kp2 : Nat → Int32), ∃ (b : Nat), ∃ (nu2 : Nat), ∃ (ud2 : Nat), ∃ (rf2 : Nat → Int32), nwX wn mN Ba2 We2 U2 ke lg nw2 ∧ kpX ud2 nu2 su2 lg kp2 ∧ nu2 < 20 ∧ ud2 ≤ 20 ∧ b ≤ 1 ∧ muteR dm (wn, mN, Ba, We, U, ke) ud su rf d (nI ov) (nI b) (wn, mN, Ba2, We2, U2, ke) ud2 su2 rf2 ∧ r = nI b ∧ u = [ro_ mm 12 (mo g (nI ta) (nI pa) (nI pe) pd (nI pb) pp pf pg pn rt rn (nI cd) sn (nI il) tk am at_ aa 0 0 (-1) wt wy 0 (nI rm) (nI ud2) (nI nu2) sd (nI qn) (nI qw) qo (nI qb) (nI qp) qa (nI qi) (nI oc)), ra_I (g 20) cI 4 (l4 (nI l0) (nI l1) (nI dm) (nI l3)), ra_I (g 31) cI 120 nw2, ra_I (g 54) cI 2400 kp2, ra_I (g 9) cI 6 rf2])) := by
  refine skM_of pf_X12_becomes (Nat.le_of_ble_eq_true rfl) ?_
  intro p e s m below meth c A ls E hP hD hl
  refine skE_el E (fun hx hb hr hml hlocks hin hown hts hK hA => ?_)
  have hown : s.vm.findClass RX12 = some m.cls := hown
  have hS : va_S A s.heap s.heap [] := va_S.rf
  have hl : lv_has ls 5 [(0, .ref mm), (1, .int d), (2, .int 2), (3, .int (nI ov)), (4, .int 1)] := hl
  refine lv_aload_n hx hb dX12_becomes_0 rfl (lv_at hl 0 rfl) ?_
  refine lv_iload_n hx hb dX12_becomes_1 rfl (lv_at hl 1 rfl) ?_
  refine sk_Vi (q0 := 0) (n := 1) (rest := []) (wr := fmR om_5_18 _) ⟨hx, hb, hml, hown, hts⟩ hl.1 (c_nm_isDay l D cI cJ cC cZ cS mm g ta pa pe pd pb pp pf pg pn rt rn cd sn il tk am at_ aa wt wy rm ud nu sd qn qw qo qb qp qa qi oc d l0 l1 dm l3 hdm) w_7_117 w_7_119 w_0_72 w_1_14 w_7_120 hd_X12_isDay_1 ⟨⟨(Nat.le_of_ble_eq_true rfl), (Nat.le_of_ble_eq_true rfl)⟩, (Nat.le_of_ble_eq_true rfl), (Nat.le_of_ble_eq_true rfl)⟩ hK hP hD hS hA (fmT om_5_18 0) (fmF om_5_18 0) (fm_C1 rfl rfl) (fm_R rfl rfl) (fm_nT om_5_18 0) (fm_nF om_5_18 0) (fm_di om_5_18 0) rfl rfl rfl rfl (Nat.le_of_ble_eq_true rfl) dX12_becomes_2 (fun r_2 u H locs hw hP hD hS => ?_)
  refine exE hw (fun b_1 hw1 => anE hw1 (fun hb1_3 hw2 => anE hw2 (fun er_5 eu_4 => ?_)))
  clear hw hw1 hw2
  subst er_5
  refine o_mgE (ws' := [ro_ mm 12 (mo g (nI ta) (nI pa) (nI pe) pd (nI pb) pp pf pg pn rt rn (nI cd) sn (nI il) tk am at_ aa 0 0 (-1) wt wy 0 (nI rm) (nI ud) (nI nu) sd (nI qn) (nI qw) qo (nI qb) (nI qp) qa (nI qi) (nI oc)), ra_I (g 20) cI 4 (l4 (nI l0) (nI l1) (nI dm) (nI l3)), ra_I (g 31) cI 120 nw, ra_I (g 54) cI 2400 kp, ra_I (g 9) cI 6 rf]) eu_4 hP hD rfl (fun hP hD => ?_)
  refine lv_if_eq (tgt := 29) hx hb dX12_becomes_5 (by decide) (fun c_6 => ?_) (fun c_6 => ?_)
  · have c_6 : b_1 = 0 := (neq b_1 0 (by omega) (Nat.le_of_ble_eq_true rfl)).mp c_6
    refine lv_aload_n hx hb dX12_becomes_29 rfl (lv_at hl 0 rfl) ?_
    refine sk_get (v := .ref (g 9)) (C := RX12) (T := TX12) (N := 92) hx hb hts inlX12 hown hK hP 0 rfl rfl 9 (Nat.le_of_ble_eq_true rfl) w_5_164 rfl dX12_becomes_30 ?_
    refine lv_iconst (v := 2) hx hb dX12_becomes_33 ic_2 ?_
    refine lv_dup2_11 hx hb dX12_becomes_34 rfl rfl ?_
    refine va_iald hx hb hK.1 hP 4 0 rfl rfl (by unfold vp_in; decide) dX12_becomes_35 ?_
    refine sk_top (rf 2) (rfl) ?_
    refine lv_iconst (v := 1) hx hb dX12_becomes_36 ic_1 ?_
    refine lv_iadd hx hb dX12_becomes_37 ?_
    refine sk_iastE (k := 2) (ws' := fun f_7 => [ro_ mm 12 (mo g (nI ta) (nI pa) (nI pe) pd (nI pb) pp pf pg pn rt rn (nI cd) sn (nI il) tk am at_ aa 0 0 (-1) wt wy 0 (nI rm) (nI ud) (nI nu) sd (nI qn) (nI qw) qo (nI qb) (nI qp) qa (nI qi) (nI oc)), ra_I (g 20) cI 4 (l4 (nI l0) (nI l1) (nI dm) (nI l3)), ra_I (g 31) cI 120 nw, ra_I (g 54) cI 2400 kp, ra_I (g 9) cI 6 f_7]) hx hb hK hP hD hS 4 0 rfl rfl (by omega) (by omega) (fun _ => rfl) dX12_becomes_38 (fun f_7 H locs ef_8 hP hD hS => ?_)
    refine lv_iconst (v := 0) hx hb dX12_becomes_39 ic_0 ?_
    exact sk_iret hx hb hr rfl hlocks hK hP hD hS (⟨Ba, We, U, su, nw, kp, 0, nu, ud, f_7, hnw, hkp, hnu, hud, (by decide), mut_0 (rr_0 hb1_3 (by omega)) ef_8, rfl, rfl⟩) (Nat.le_of_ble_eq_true rfl) (Nat.le_of_ble_eq_true rfl) dX12_becomes_40
  · have c_6 : ¬ (b_1 = 0) := fun h => c_6 ((neq b_1 0 (by omega) (Nat.le_of_ble_eq_true rfl)).mpr h)
    obtain ⟨kd_9, hkd_9, rfl⟩ := rr_1 hb1_3 (by omega)
    refine lv_iload hx hb dX12_becomes_8 (lv_at hl 4 rfl) ?_
    refine lv_if_eq (tgt := 29) hx hb dX12_becomes_10 (by decide) (fun c => absurd c (by decide)) (fun c_10 => ?_)
    refine lv_aload_n hx hb dX12_becomes_13 rfl (lv_at hl 0 rfl) ?_
    refine sk_get (v := .ref (g 31)) (C := RX12) (T := TX12) (N := 92) hx hb hts inlX12 hown hK hP 0 rfl rfl 31 (Nat.le_of_ble_eq_true rfl) w_5_186 rfl dX12_becomes_14 ?_
    refine lv_iconst (v := 2) hx hb dX12_becomes_17 ic_2 ?_
    refine lv_iconst (v := 3) hx hb dX12_becomes_18 ic_3 ?_
    refine lv_iload_n hx hb dX12_becomes_19 rfl (lv_at hl 1 rfl) ?_
    refine lv_imul hx hb dX12_becomes_20 ?_
    refine sk_top (nI (3 * kd_9)) (nmul 3 kd_9) ?_
    refine lv_iadd hx hb dX12_becomes_21 ?_
    refine sk_top (nI (2 + (3 * kd_9))) (nI_add 2 (3 * kd_9)) ?_
    refine lv_iload_n hx hb dX12_becomes_22 rfl (lv_at hl 2 rfl) ?_
    refine lv_iadd hx hb dX12_becomes_23 ?_
    refine sk_top (nI (2 + (3 * kd_9) + 2)) (nI_add (2 + (3 * kd_9)) 2) ?_
    refine va_iald hx hb hK.1 hP 2 0 rfl rfl (vin (2 + (3 * kd_9) + 2) 120 (by omega) (Nat.le_of_ble_eq_true rfl)) dX12_becomes_24 ?_
    obtain ⟨uv, huv⟩ : ∃ uv : Nat, uv = (if U kd_9 = true then 1 else 0) := ⟨_, rfl⟩
    have huv1 : uv ≤ 1 := (by rw [huv]; split <;> decide)
    refine sk_top (nI uv) (by rw [huv, nI_clamp (by omega)]; exact nwX_m1v hnw (by omega)) ?_
    refine lv_iload_n hx hb dX12_becomes_25 rfl (lv_at hl 3 rfl) ?_
    refine lv_icmp_ne (tgt := 41) hx hb dX12_becomes_26 (by decide) (fun c_11 => ?_) (fun c_11 => ?_)
    · have c_11 : ¬ (uv = ov) := fun h => c_11 ((neq uv ov (by omega) (by omega)).mpr h)
      refine lv_aload_n hx hb dX12_becomes_41 rfl (lv_at hl 0 rfl) ?_
      refine sk_Vv (q0 := 0) (n := 0) (rest := []) (wr := fmR om_5_16 _) ⟨hx, hb, hml, hown, hts⟩ hl.1 (c_nm_keeps l D cI cJ cC cZ cS mm g ta pa pe pd pb pp pf pg pn rt rn cd sn il tk am at_ aa wt wy rm ud nu sd qn qw qo qb qp qa qi oc nw kp wn mN Ba We U ke lg su hnu hud hnw hkp) w_8_130 w_8_132 w_0_107 w_1_14 w_8_133 hd_X12_keeps_0 ⟨⟨(Nat.le_of_ble_eq_true rfl), (Nat.le_of_ble_eq_true rfl)⟩, (Nat.le_of_ble_eq_true rfl), (Nat.le_of_ble_eq_true rfl)⟩ hK hP hD hS hA (fmT om_5_16 0) (fmF om_5_16 0) (fm_C1 rfl rfl) (fm_R rfl rfl) (fm_nT om_5_16 0) (fm_nF om_5_16 0) (fm_di om_5_16 0) rfl rfl rfl rfl (Nat.le_of_ble_eq_true rfl) dX12_becomes_42 (fun u H locs hw hP hD hS => ?_)
      refine exE hw (fun kp2_12 hw1 => exE hw1 (fun ud2_13 hw2 => anE hw2 (fun hud2_14 hw3 => anE hw3 (fun hkp2_15 eu_16 => ?_))))
      clear hw hw1 hw2 hw3
      refine o_mgE (ws' := [ro_ mm 12 (mo g (nI ta) (nI pa) (nI pe) pd (nI pb) pp pf pg pn rt rn (nI cd) sn (nI il) tk am at_ aa 0 0 (-1) wt wy 0 (nI rm) (nI ud2_13) (nI ((nu + 1) % 20)) sd (nI qn) (nI qw) qo (nI qb) (nI qp) qa (nI qi) (nI oc)), ra_I (g 20) cI 4 (l4 (nI l0) (nI l1) (nI dm) (nI l3)), ra_I (g 31) cI 120 nw, ra_I (g 54) cI 2400 kp2_12, ra_I (g 9) cI 6 rf]) eu_16 hP hD rfl (fun hP hD => ?_)
      refine lv_aload_n hx hb dX12_becomes_45 rfl (lv_at hl 0 rfl) ?_
      refine sk_get (v := .ref (g 31)) (C := RX12) (T := TX12) (N := 92) hx hb hts inlX12 hown hK hP 0 rfl rfl 31 (Nat.le_of_ble_eq_true rfl) w_5_186 rfl dX12_becomes_46 ?_
      refine lv_iconst (v := 2) hx hb dX12_becomes_49 ic_2 ?_
      refine lv_iconst (v := 3) hx hb dX12_becomes_50 ic_3 ?_
      refine lv_iload_n hx hb dX12_becomes_51 rfl (lv_at hl 1 rfl) ?_
      refine lv_imul hx hb dX12_becomes_52 ?_
      refine sk_top (nI (3 * kd_9)) (nmul 3 kd_9) ?_
      refine lv_iadd hx hb dX12_becomes_53 ?_
      refine sk_top (nI (2 + (3 * kd_9))) (nI_add 2 (3 * kd_9)) ?_
      refine lv_iload_n hx hb dX12_becomes_54 rfl (lv_at hl 2 rfl) ?_
      refine lv_iadd hx hb dX12_becomes_55 ?_
      refine sk_top (nI (2 + (3 * kd_9) + 2)) (nI_add (2 + (3 * kd_9)) 2) ?_
      refine lv_iload_n hx hb dX12_becomes_56 rfl (lv_at hl 3 rfl) ?_
      refine sk_iastE (k := (2 + (3 * kd_9) + 2)) (x := (nI ov)) (ws' := fun f_17 => [ro_ mm 12 (mo g (nI ta) (nI pa) (nI pe) pd (nI pb) pp pf pg pn rt rn (nI cd) sn (nI il) tk am at_ aa 0 0 (-1) wt wy 0 (nI rm) (nI ud2_13) (nI ((nu + 1) % 20)) sd (nI qn) (nI qw) qo (nI qb) (nI qp) qa (nI qi) (nI oc)), ra_I (g 20) cI 4 (l4 (nI l0) (nI l1) (nI dm) (nI l3)), ra_I (g 31) cI 120 f_17, ra_I (g 54) cI 2400 kp2_12, ra_I (g 9) cI 6 rf]) hx hb hK hP hD hS 2 0 rfl rfl (by omega) (by omega) (fun _ => rfl) dX12_becomes_57 (fun f_17 H locs ef_18 hP hD hS => ?_)
      have hN_19 : nwX wn mN Ba We (updG U kd_9 (!U kd_9)) ke lg f_17 := nwX_upm hnw ef_18 (mu_flip (by rw [← huv]; omega) (by omega)) (by omega)
      refine lv_iconst (v := 1) hx hb dX12_becomes_58 ic_1 ?_
      exact sk_iret hx hb hr rfl hlocks hK hP hD hS (⟨Ba, We, (updG U kd_9 (!U kd_9)), (psh ud su (wn, mN, Ba, We, U, ke)), f_17, kp2_12, 1, (nu + 1) % 20, ud2_13, rf, hN_19, hkp2_15, by omega, by omega, (by decide), (by rw [hud2_14]; exact mut_y (n := (wn, mN, Ba, We, U, ke)) hkd_9 (by omega) (mu_b U kd_9) (mu_c (by omega)) (by rw [← huv]; exact c_11)), rfl, rfl⟩) (Nat.le_of_ble_eq_true rfl) (Nat.le_of_ble_eq_true rfl) dX12_becomes_59
    · have c_11 : uv = ov := (neq uv ov (by omega) (by omega)).mp c_11
      refine lv_aload_n hx hb dX12_becomes_29 rfl (lv_at hl 0 rfl) ?_
      refine sk_get (v := .ref (g 9)) (C := RX12) (T := TX12) (N := 92) hx hb hts inlX12 hown hK hP 0 rfl rfl 9 (Nat.le_of_ble_eq_true rfl) w_5_164 rfl dX12_becomes_30 ?_
      refine lv_iconst (v := 2) hx hb dX12_becomes_33 ic_2 ?_
      refine lv_dup2_11 hx hb dX12_becomes_34 rfl rfl ?_
      refine va_iald hx hb hK.1 hP 4 0 rfl rfl (by unfold vp_in; decide) dX12_becomes_35 ?_
      refine sk_top (rf 2) (rfl) ?_
      refine lv_iconst (v := 1) hx hb dX12_becomes_36 ic_1 ?_
      refine lv_iadd hx hb dX12_becomes_37 ?_
      refine sk_iastE (k := 2) (ws' := fun f_20 => [ro_ mm 12 (mo g (nI ta) (nI pa) (nI pe) pd (nI pb) pp pf pg pn rt rn (nI cd) sn (nI il) tk am at_ aa 0 0 (-1) wt wy 0 (nI rm) (nI ud) (nI nu) sd (nI qn) (nI qw) qo (nI qb) (nI qp) qa (nI qi) (nI oc)), ra_I (g 20) cI 4 (l4 (nI l0) (nI l1) (nI dm) (nI l3)), ra_I (g 31) cI 120 nw, ra_I (g 54) cI 2400 kp, ra_I (g 9) cI 6 f_20]) hx hb hK hP hD hS 4 0 rfl rfl (by omega) (by omega) (fun _ => rfl) dX12_becomes_38 (fun f_20 H locs ef_21 hP hD hS => ?_)
      refine lv_iconst (v := 0) hx hb dX12_becomes_39 ic_0 ?_
      exact sk_iret hx hb hr rfl hlocks hK hP hD hS (⟨Ba, We, U, su, nw, kp, 0, nu, ud, f_20, hnw, hkp, hnu, hud, (by decide), mut_3 (n := (wn, mN, Ba, We, U, ke)) hdm hkd_9 (by omega) (mu_b U kd_9) (mu_c (by omega)) (by rw [← huv]; exact c_11) ef_21, rfl, rfl⟩) (Nat.le_of_ble_eq_true rfl) (Nat.le_of_ble_eq_true rfl) dX12_becomes_40
theorem dg_X12_set_0_0 : bqL cX12_set 0 [(0, [42]), (1, [27]), (2, [28]), (3, [4]), (4, [160, 0, 7]), (11, [3]), (12, [29]), (13, [28]), (14, [133]), (15, [9]), (16, [10]), (17, [184, 0, 238]), (20, [153, 0, 19]), (39, [3]), (40, [182, 1, 221]), (43, [172]), (23, [29]), (24, [133]), (25, [9]), (26, [20, 1, 62]), (29, [184, 0, 238]), (32, [153, 0, 7]), (35, [4]), (36, [167, 0, 4]), (7, [4]), (8, [167, 0, 4])] = true := by decide +kernel
theorem dX12_set_0 : decode cX12_set 0 = .ok (.aload_n 0, 1) := q_aload_n0 (bat_get dg_X12_set_0_0 0 rfl rfl)
theorem dX12_set_1 : decode cX12_set 1 = .ok (.iload_n 1, 1) := q_iload_n1 (bat_get dg_X12_set_0_0 1 rfl rfl)
theorem dX12_set_2 : decode cX12_set 2 = .ok (.iload_n 2, 1) := q_iload_n2 (bat_get dg_X12_set_0_0 2 rfl rfl)
theorem dX12_set_3 : decode cX12_set 3 = .ok (.iconst 1, 1) := q_iconst1 (bat_get dg_X12_set_0_0 3 rfl rfl)
theorem dX12_set_4 : decode cX12_set 4 = .ok (.if_icmp .ne 7, 3) := q_if_icmp_ne (bat_get dg_X12_set_0_0 4 rfl rfl) rfl
theorem dX12_set_11 : decode cX12_set 11 = .ok (.iconst 0, 1) := q_iconst0 (bat_get dg_X12_set_0_0 5 rfl rfl)
theorem dX12_set_12 : decode cX12_set 12 = .ok (.iload_n 3, 1) := q_iload_n3 (bat_get dg_X12_set_0_0 6 rfl rfl)
theorem dX12_set_13 : decode cX12_set 13 = .ok (.iload_n 2, 1) := q_iload_n2 (bat_get dg_X12_set_0_0 7 rfl rfl)
theorem dX12_set_14 : decode cX12_set 14 = .ok (.i2l, 1) := q_i2l (bat_get dg_X12_set_0_0 8 rfl rfl)
theorem dX12_set_15 : decode cX12_set 15 = .ok (.lconst 0, 1) := q_lconst0 (bat_get dg_X12_set_0_0 9 rfl rfl)
theorem dX12_set_16 : decode cX12_set 16 = .ok (.lconst 1, 1) := q_lconst1 (bat_get dg_X12_set_0_0 10 rfl rfl)
theorem dX12_set_17 : decode cX12_set 17 = .ok (.invokestatic 238, 3) := q_invokestatic (bat_get dg_X12_set_0_0 11 rfl rfl) rfl
theorem dX12_set_20 : decode cX12_set 20 = .ok (.ifCond .eq 19, 3) := q_ifCond_eq (bat_get dg_X12_set_0_0 12 rfl rfl) rfl
theorem dX12_set_39 : decode cX12_set 39 = .ok (.iconst 0, 1) := q_iconst0 (bat_get dg_X12_set_0_0 13 rfl rfl)
theorem dX12_set_40 : decode cX12_set 40 = .ok (.invokevirtual 477, 3) := q_invokevirtual (bat_get dg_X12_set_0_0 14 rfl rfl) rfl
theorem dX12_set_43 : decode cX12_set 43 = .ok (.ireturn, 1) := q_ireturn (bat_get dg_X12_set_0_0 15 rfl rfl)
theorem dX12_set_23 : decode cX12_set 23 = .ok (.iload_n 3, 1) := q_iload_n3 (bat_get dg_X12_set_0_0 16 rfl rfl)
theorem dX12_set_24 : decode cX12_set 24 = .ok (.i2l, 1) := q_i2l (bat_get dg_X12_set_0_0 17 rfl rfl)
theorem dX12_set_25 : decode cX12_set 25 = .ok (.lconst 0, 1) := q_lconst0 (bat_get dg_X12_set_0_0 18 rfl rfl)
theorem dX12_set_26 : decode cX12_set 26 = .ok (.ldc2_w 318, 3) := q_ldc2_w (bat_get dg_X12_set_0_0 19 rfl rfl) rfl
theorem dX12_set_29 : decode cX12_set 29 = .ok (.invokestatic 238, 3) := q_invokestatic (bat_get dg_X12_set_0_0 20 rfl rfl) rfl
theorem dX12_set_32 : decode cX12_set 32 = .ok (.ifCond .eq 7, 3) := q_ifCond_eq (bat_get dg_X12_set_0_0 21 rfl rfl) rfl
theorem dX12_set_35 : decode cX12_set 35 = .ok (.iconst 1, 1) := q_iconst1 (bat_get dg_X12_set_0_0 22 rfl rfl)
theorem dX12_set_36 : decode cX12_set 36 = .ok (.goto 4, 3) := q_goto (bat_get dg_X12_set_0_0 23 rfl rfl) rfl
theorem dX12_set_7 : decode cX12_set 7 = .ok (.iconst 1, 1) := q_iconst1 (bat_get dg_X12_set_0_0 24 rfl rfl)
theorem dX12_set_8 : decode cX12_set 8 = .ok (.goto 4, 3) := q_goto (bat_get dg_X12_set_0_0 25 rfl rfl) rfl
theorem w_8_126 : (Cond.methodLink RX12 477 yX12_becomes) ∈ wsL_law := sk_mem (ck_8 _ (List.mem_of_getElem? (i := 126) rfl)) rfl
theorem w_8_128 : (Cond.instanceMethod yX12_becomes) ∈ wsL_law := sk_mem (ck_8 _ (List.mem_of_getElem? (i := 128) rfl)) rfl
theorem w_0_106 : (Cond.selects RX12 yX12_becomes yX12_becomes) ∈ wsL_law := sk_mem (ck_0 _ (List.mem_of_getElem? (i := 106) rfl)) rfl
theorem w_8_125 : (Cond.code yX12_set cX12_set 4 (some .boolean)) ∈ wsL_law := sk_mem (ck_8 _ (List.mem_of_getElem? (i := 125) rfl)) rfl
def om_5_1f : List Bool := true :: true :: true :: true :: true :: []
theorem hd_X12_becomes_4 : skD yX12_becomes 4 := by decide +kernel
set_option maxHeartbeats 4000000 in
set_option maxRecDepth 100000 in
theorem c_nm_set (l : Launch) (D : va_G) (cI cJ cC cZ cS : ClassId) (mm : Nat) (g : Nat → Nat) (ta : Nat) (pa : Nat) (pe : Nat) (pd : Int32) (pb : Nat) (pp : Int32) (pf : Int32) (pg : Int32) (pn : Int32) (rt : Int32) (rn : Int32) (cd : Nat) (sn : Int32) (il : Nat) (tk : Int32) (am : Int32) (at_ : Int32) (aa : Int32) (wt : Int32) (wy : Int64) (rm : Nat) (ud : Nat) (nu : Nat) (sd : Int64) (qn : Nat) (qw : Nat) (qo : Int32) (qb : Nat) (qp : Nat) (qa : Int64) (qi : Nat) (oc : Nat) (d : Int32) (w : Int32) (o : Int32) (l0 : Nat) (l1 : Nat) (dm : Nat) (l3 : Nat) (nw : Nat → Int32) (kp : Nat → Int32) (rf : Nat → Int32) (wn : Nat) (mN : Nat) (Ba : Nat → Nat) (We : Nat → Nat) (U : Nat → Bool) (ke : Nat) (lg : KLg) (su : Nat → KN) (hdm : dm ≤ 9) (hnu : nu < 20) (hud : ud ≤ 20) (hB9 : ∀ j, Ba j ≤ 9) (hW9 : ∀ j, We j ≤ 9) (hnw : nwX wn mN Ba We U ke lg nw) (hkp : kpX ud nu su lg kp) : skM l yX12_set cX12_set 4 (some .boolean) 3 70 0 0 D (skT cI cJ cC cZ cS) [.ref mm, .int d, .int w, .int o] [ro_ mm 12 (mo g (nI ta) (nI pa) (nI pe) pd (nI pb) pp pf pg pn rt rn (nI cd) sn (nI il) tk am at_ aa 0 0 (-1) wt wy 0 (nI rm) (nI ud) (nI nu) sd (nI qn) (nI qw) qo (nI qb) (nI qp) qa (nI qi) (nI oc)), ra_I (g 20) cI 4 (l4 (nI l0) (nI l1) (nI dm) (nI l3)), ra_I (g 31) cI 120 nw, ra_I (g 54) cI 2400 kp, ra_I (g 9) cI 6 rf] (skI D (skT cI cJ cC cZ cS) (fun (r : Int32) (u : va_W) => ∃ (Ba2 : Nat → Nat), ∃ (We2 : Nat → Nat), ∃ (U2 : Nat → Bool), ∃ (su2 : Nat → KN), ∃ (nw2 : Nat → Int32), ∃ (kp2 : Nat → Int32), ∃ (b : Nat), ∃ (nu2 : Nat), ∃ (ud2 : Nat), ∃ (rf2 : Nat → Int32), nwX wn mN Ba2 We2 U2 ke lg nw2 ∧ kpX ud2 nu2 su2 lg kp2 ∧ nu2 < 20 ∧ ud2 ≤ 20 ∧ setR dm (wn, mN, Ba, We, U, ke) ud su rf d w o (nI b) (wn, mN, Ba2, We2, U2, ke) ud2 su2 rf2 ∧ r = nI b ∧ u = [ro_ mm 12 (mo g (nI ta) (nI pa) (nI pe) pd (nI pb) pp pf pg pn rt rn (nI cd) sn (nI il) tk am at_ aa 0 0 (-1) wt wy 0 (nI rm) (nI ud2) (nI nu2) sd (nI qn) (nI qw) qo (nI qb) (nI qp) qa (nI qi) (nI oc)), ra_I (g 20) cI 4 (l4 (nI l0) (nI l1) (nI dm) (nI l3)), ra_I (g 31) cI 120 nw2, ra_I (g 54) cI 2400 kp2, ra_I (g 9) cI 6 rf2])) := by
  refine skM_of pf_X12_set (Nat.le_of_ble_eq_true rfl) ?_
  intro p e s m below meth c A ls E hP hD hl
  refine skE_el E (fun hx hb hr hml hlocks hin hown hts hK hA => ?_)
  have hown : s.vm.findClass RX12 = some m.cls := hown
  have hS : va_S A s.heap s.heap [] := va_S.rf
  have hl : lv_has ls 4 [(0, .ref mm), (1, .int d), (2, .int w), (3, .int o)] := hl
  refine lv_aload_n hx hb dX12_set_0 rfl (lv_at hl 0 rfl) ?_
  refine lv_iload_n hx hb dX12_set_1 rfl (lv_at hl 1 rfl) ?_
  refine lv_iload_n hx hb dX12_set_2 rfl (lv_at hl 2 rfl) ?_
  refine lv_iconst (v := 1) hx hb dX12_set_3 ic_1 ?_
  refine lv_icmp_ne (tgt := 11) hx hb dX12_set_4 (by decide) (fun c_1 => ?_) (fun c_1 => ?_)
  · skip
    refine lv_iconst (v := 0) hx hb dX12_set_11 ic_0 ?_
    refine lv_iload_n hx hb dX12_set_12 rfl (lv_at hl 3 rfl) ?_
    refine lv_iload_n hx hb dX12_set_13 rfl (lv_at hl 2 rfl) ?_
    refine lv_i2l hx hb dX12_set_14 rfl ?_
    refine lv_lconst (v := 0) hx hb dX12_set_15 (by decide) ?_
    refine lv_lconst (v := 1) hx hb dX12_set_16 (by decide) ?_
    refine sk_Si (n := 3) (rest := [.int o, .int 0, .int d, .ref mm]) (wr := [ro_ mm 12 (mo g (nI ta) (nI pa) (nI pe) pd (nI pb) pp pf pg pn rt rn (nI cd) sn (nI il) tk am at_ aa 0 0 (-1) wt wy 0 (nI rm) (nI ud) (nI nu) sd (nI qn) (nI qw) qo (nI qb) (nI qp) qa (nI qi) (nI oc)), ra_I (g 20) cI 4 (l4 (nI l0) (nI l1) (nI dm) (nI l3)), ra_I (g 31) cI 120 nw, ra_I (g 54) cI 2400 kp, ra_I (g 9) cI 6 rf]) ⟨hx, hb, hml, hown, hts⟩ hl.1 (c_nm_isIn l D cI cJ cC cZ cS (Int32.toInt64 w) 0 1) w_7_0 w_7_1 w_1_14 w_7_2 hd_X12_isIn_3 ⟨⟨(Nat.le_of_ble_eq_true rfl), (Nat.le_of_ble_eq_true rfl)⟩, (Nat.le_of_ble_eq_true rfl), (Nat.le_of_ble_eq_true rfl)⟩ hK hP hD hS hA [] [0, 1, 2, 3, 4] rfl rfl (by decide +kernel) (by decide +kernel) (by decide +kernel) rfl rfl (Nat.le_of_ble_eq_true rfl) dX12_set_17 (fun r_3 u H locs hw hP hD hS => ?_)
    obtain ⟨b_2, hb1_4, rfl, rfl⟩ := hw
    refine o_re (ws' := [ro_ mm 12 (mo g (nI ta) (nI pa) (nI pe) pd (nI pb) pp pf pg pn rt rn (nI cd) sn (nI il) tk am at_ aa 0 0 (-1) wt wy 0 (nI rm) (nI ud) (nI nu) sd (nI qn) (nI qw) qo (nI qb) (nI qp) qa (nI qi) (nI oc)), ra_I (g 20) cI 4 (l4 (nI l0) (nI l1) (nI dm) (nI l3)), ra_I (g 31) cI 120 nw, ra_I (g 54) cI 2400 kp, ra_I (g 9) cI 6 rf]) hP hD rfl (fun hP hD => ?_)
    refine lv_if_eq (tgt := 39) hx hb dX12_set_20 (by decide) (fun c_5 => ?_) (fun c_5 => ?_)
    · have c_5 : b_2 = 0 := (neq b_2 0 (by omega) (Nat.le_of_ble_eq_true rfl)).mp c_5
      refine lv_iconst (v := 0) hx hb dX12_set_39 ic_0 ?_
      refine sk_Vi (q0 := 0) (n := 4) (rest := []) (wr := fmR om_5_19 _) ⟨hx, hb, hml, hown, hts⟩ hl.1 (c_nm_becomes0 l D cI cJ cC cZ cS mm g ta pa pe pd pb pp pf pg pn rt rn cd sn il tk am at_ aa wt wy rm ud nu sd qn qw qo qb qp qa qi oc d 0 o l0 l1 dm l3 rf hdm) w_8_126 w_8_128 w_0_106 w_1_14 w_8_129 hd_X12_becomes_4 ⟨⟨(Nat.le_of_ble_eq_true rfl), (Nat.le_of_ble_eq_true rfl)⟩, (Nat.le_of_ble_eq_true rfl), (Nat.le_of_ble_eq_true rfl)⟩ hK hP hD hS hA (fmT om_5_19 0) (fmF om_5_19 0) (fm_C1 rfl rfl) (fm_R rfl rfl) (fm_nT om_5_19 0) (fm_nF om_5_19 0) (fm_di om_5_19 0) rfl rfl rfl rfl (Nat.le_of_ble_eq_true rfl) dX12_set_40 (fun r_7 u H locs hw hP hD hS => ?_)
      refine exE hw (fun rf2_6 hw1 => anE hw1 (fun hrf_8 hw2 => anE hw2 (fun er_10 eu_9 => ?_)))
      clear hw hw1 hw2
      subst er_10
      refine o_mgE (ws' := [ro_ mm 12 (mo g (nI ta) (nI pa) (nI pe) pd (nI pb) pp pf pg pn rt rn (nI cd) sn (nI il) tk am at_ aa 0 0 (-1) wt wy 0 (nI rm) (nI ud) (nI nu) sd (nI qn) (nI qw) qo (nI qb) (nI qp) qa (nI qi) (nI oc)), ra_I (g 20) cI 4 (l4 (nI l0) (nI l1) (nI dm) (nI l3)), ra_I (g 31) cI 120 nw, ra_I (g 54) cI 2400 kp, ra_I (g 9) cI 6 rf2_6]) eu_9 hP hD rfl (fun hP hD => ?_)
      exact sk_iret hx hb hr rfl hlocks hK hP hD hS (⟨Ba, We, U, su, nw, kp, 0, nu, ud, rf2_6, hnw, hkp, hnu, hud, set_w (fun hq => rr_0 hb1_4 (by omega) ((kin0 (n := 2) (by decide) (by omega)).mpr hq)) hrf_8, rfl, rfl⟩) (Nat.le_of_ble_eq_true rfl) (Nat.le_of_ble_eq_true rfl) dX12_set_43
    · have c_5 : ¬ (b_2 = 0) := fun h => c_5 ((neq b_2 0 (by omega) (Nat.le_of_ble_eq_true rfl)).mpr h)
      obtain ⟨kd_11, hkd_11, rfl⟩ := (kin0 (n := 2) (by decide) (by omega)).mp (rr_1 hb1_4 (by omega))
      refine lv_iload_n hx hb dX12_set_23 rfl (lv_at hl 3 rfl) ?_
      refine lv_i2l hx hb dX12_set_24 rfl ?_
      refine lv_lconst (v := 0) hx hb dX12_set_25 (by decide) ?_
      refine lv_ldc2 (v := 9) hx hb hown (hts _ w_7_130) dX12_set_26 ?_
      refine sk_Si (n := 3) (rest := [.int o, .int 0, .int d, .ref mm]) (wr := [ro_ mm 12 (mo g (nI ta) (nI pa) (nI pe) pd (nI pb) pp pf pg pn rt rn (nI cd) sn (nI il) tk am at_ aa 0 0 (-1) wt wy 0 (nI rm) (nI ud) (nI nu) sd (nI qn) (nI qw) qo (nI qb) (nI qp) qa (nI qi) (nI oc)), ra_I (g 20) cI 4 (l4 (nI l0) (nI l1) (nI dm) (nI l3)), ra_I (g 31) cI 120 nw, ra_I (g 54) cI 2400 kp, ra_I (g 9) cI 6 rf]) ⟨hx, hb, hml, hown, hts⟩ hl.1 (c_nm_isIn l D cI cJ cC cZ cS (Int32.toInt64 o) 0 9) w_7_0 w_7_1 w_1_14 w_7_2 hd_X12_isIn_3 ⟨⟨(Nat.le_of_ble_eq_true rfl), (Nat.le_of_ble_eq_true rfl)⟩, (Nat.le_of_ble_eq_true rfl), (Nat.le_of_ble_eq_true rfl)⟩ hK hP hD hS hA [] [0, 1, 2, 3, 4] rfl rfl (by decide +kernel) (by decide +kernel) (by decide +kernel) rfl rfl (Nat.le_of_ble_eq_true rfl) dX12_set_29 (fun r_13 u H locs hw hP hD hS => ?_)
      obtain ⟨b_12, hb1_14, rfl, rfl⟩ := hw
      refine o_re (ws' := [ro_ mm 12 (mo g (nI ta) (nI pa) (nI pe) pd (nI pb) pp pf pg pn rt rn (nI cd) sn (nI il) tk am at_ aa 0 0 (-1) wt wy 0 (nI rm) (nI ud) (nI nu) sd (nI qn) (nI qw) qo (nI qb) (nI qp) qa (nI qi) (nI oc)), ra_I (g 20) cI 4 (l4 (nI l0) (nI l1) (nI dm) (nI l3)), ra_I (g 31) cI 120 nw, ra_I (g 54) cI 2400 kp, ra_I (g 9) cI 6 rf]) hP hD rfl (fun hP hD => ?_)
      refine lv_if_eq (tgt := 39) hx hb dX12_set_32 (by decide) (fun c_15 => ?_) (fun c_15 => ?_)
      · have c_15 : b_12 = 0 := (neq b_12 0 (by omega) (Nat.le_of_ble_eq_true rfl)).mp c_15
        refine lv_iconst (v := 0) hx hb dX12_set_39 ic_0 ?_
        refine sk_Vi (q0 := 0) (n := 4) (rest := []) (wr := fmR om_5_19 _) ⟨hx, hb, hml, hown, hts⟩ hl.1 (c_nm_becomes0 l D cI cJ cC cZ cS mm g ta pa pe pd pb pp pf pg pn rt rn cd sn il tk am at_ aa wt wy rm ud nu sd qn qw qo qb qp qa qi oc d 0 o l0 l1 dm l3 rf hdm) w_8_126 w_8_128 w_0_106 w_1_14 w_8_129 hd_X12_becomes_4 ⟨⟨(Nat.le_of_ble_eq_true rfl), (Nat.le_of_ble_eq_true rfl)⟩, (Nat.le_of_ble_eq_true rfl), (Nat.le_of_ble_eq_true rfl)⟩ hK hP hD hS hA (fmT om_5_19 0) (fmF om_5_19 0) (fm_C1 rfl rfl) (fm_R rfl rfl) (fm_nT om_5_19 0) (fm_nF om_5_19 0) (fm_di om_5_19 0) rfl rfl rfl rfl (Nat.le_of_ble_eq_true rfl) dX12_set_40 (fun r_17 u H locs hw hP hD hS => ?_)
        refine exE hw (fun rf2_16 hw1 => anE hw1 (fun hrf_18 hw2 => anE hw2 (fun er_20 eu_19 => ?_)))
        clear hw hw1 hw2
        subst er_20
        refine o_mgE (ws' := [ro_ mm 12 (mo g (nI ta) (nI pa) (nI pe) pd (nI pb) pp pf pg pn rt rn (nI cd) sn (nI il) tk am at_ aa 0 0 (-1) wt wy 0 (nI rm) (nI ud) (nI nu) sd (nI qn) (nI qw) qo (nI qb) (nI qp) qa (nI qi) (nI oc)), ra_I (g 20) cI 4 (l4 (nI l0) (nI l1) (nI dm) (nI l3)), ra_I (g 31) cI 120 nw, ra_I (g 54) cI 2400 kp, ra_I (g 9) cI 6 rf2_16]) eu_19 hP hD rfl (fun hP hD => ?_)
        exact sk_iret hx hb hr rfl hlocks hK hP hD hS (⟨Ba, We, U, su, nw, kp, 0, nu, ud, rf2_16, hnw, hkp, hnu, hud, set_3 (fun hq => rr_0 hb1_14 (by omega) ((kin0 (n := 10) (by decide) (by omega)).mpr hq)) hrf_18, rfl, rfl⟩) (Nat.le_of_ble_eq_true rfl) (Nat.le_of_ble_eq_true rfl) dX12_set_43
      · have c_15 : ¬ (b_12 = 0) := fun h => c_15 ((neq b_12 0 (by omega) (Nat.le_of_ble_eq_true rfl)).mpr h)
        obtain ⟨kd_21, hkd_21, rfl⟩ := (kin0 (n := 10) (by decide) (by omega)).mp (rr_1 hb1_14 (by omega))
        refine lv_iconst (v := 1) hx hb dX12_set_35 ic_1 ?_
        refine lv_goto (tgt := 40) hx hb dX12_set_36 (by decide) ?_
        have hq9 : ¬ kd_11 = 1 := fun q => c_1 ((neq kd_11 1 (by omega) (Nat.le_of_ble_eq_true rfl)).mpr q)
        obtain rfl : kd_11 = 0 := by omega
        refine sk_Vi (q0 := 0) (n := 4) (rest := []) (wr := fmR om_5_1f _) ⟨hx, hb, hml, hown, hts⟩ hl.1 (c_nm_becomes10 l D cI cJ cC cZ cS mm g ta pa pe pd pb pp pf pg pn rt rn cd sn il tk am at_ aa wt wy rm ud nu sd qn qw qo qb qp qa qi oc d kd_21 l0 l1 dm l3 nw kp rf wn mN Ba We U ke lg su hdm hnu hud (by omega) hB9 hW9 hnw hkp) w_8_126 w_8_128 w_0_106 w_1_14 w_8_129 hd_X12_becomes_4 ⟨⟨(Nat.le_of_ble_eq_true rfl), (Nat.le_of_ble_eq_true rfl)⟩, (Nat.le_of_ble_eq_true rfl), (Nat.le_of_ble_eq_true rfl)⟩ hK hP hD hS hA (fmT om_5_1f 0) (fmF om_5_1f 0) (fm_C1 rfl rfl) (fm_R rfl rfl) (fm_nT om_5_1f 0) (fm_nF om_5_1f 0) (fm_di om_5_1f 0) rfl rfl rfl rfl (Nat.le_of_ble_eq_true rfl) dX12_set_40 (fun r_32 u H locs hw hP hD hS => ?_)
        refine exE hw (fun Ba2_22 hw1 => exE hw1 (fun We2_23 hw2 => exE hw2 (fun U2_24 hw3 => exE hw3 (fun su2_25 hw4 => exE hw4 (fun nw2_26 hw5 => exE hw5 (fun kp2_27 hw6 => exE hw6 (fun b_28 hw7 => exE hw7 (fun nu2_29 hw8 => exE hw8 (fun ud2_30 hw9 => exE hw9 (fun rf2_31 hw10 => anE hw10 (fun hnw2_33 hw11 => anE hw11 (fun hkp2_34 hw12 => anE hw12 (fun hnu2_35 hw13 => anE hw13 (fun hud2_36 hw14 => anE hw14 (fun hbb_37 hw15 => anE hw15 (fun hset_38 hw16 => anE hw16 (fun er_40 eu_39 => ?_)))))))))))))))))
        clear hw hw1 hw2 hw3 hw4 hw5 hw6 hw7 hw8 hw9 hw10 hw11 hw12 hw13 hw14 hw15 hw16
        subst er_40
        refine o_mgE (ws' := [ro_ mm 12 (mo g (nI ta) (nI pa) (nI pe) pd (nI pb) pp pf pg pn rt rn (nI cd) sn (nI il) tk am at_ aa 0 0 (-1) wt wy 0 (nI rm) (nI ud2_30) (nI nu2_29) sd (nI qn) (nI qw) qo (nI qb) (nI qp) qa (nI qi) (nI oc)), ra_I (g 20) cI 4 (l4 (nI l0) (nI l1) (nI dm) (nI l3)), ra_I (g 31) cI 120 nw2_26, ra_I (g 54) cI 2400 kp2_27, ra_I (g 9) cI 6 rf2_31]) eu_39 hP hD rfl (fun hP hD => ?_)
        exact sk_iret hx hb hr (nbool b_28 (by omega)) hlocks hK hP hD hS (⟨Ba2_22, We2_23, U2_24, su2_25, nw2_26, kp2_27, b_28, nu2_29, ud2_30, rf2_31, hnw2_33, hkp2_34, hnu2_35, hud2_36, hset_38, rfl, rfl⟩) (Nat.le_of_ble_eq_true rfl) (Nat.le_of_ble_eq_true rfl) dX12_set_43
  · skip
    refine lv_iconst (v := 1) hx hb dX12_set_7 ic_1 ?_
    refine lv_goto (tgt := 12) hx hb dX12_set_8 (by decide) ?_
    refine lv_iload_n hx hb dX12_set_12 rfl (lv_at hl 3 rfl) ?_
    refine lv_iload_n hx hb dX12_set_13 rfl (lv_at hl 2 rfl) ?_
    refine lv_i2l hx hb dX12_set_14 rfl ?_
    refine lv_lconst (v := 0) hx hb dX12_set_15 (by decide) ?_
    refine lv_lconst (v := 1) hx hb dX12_set_16 (by decide) ?_
    refine sk_Si (n := 3) (rest := [.int o, .int 1, .int d, .ref mm]) (wr := [ro_ mm 12 (mo g (nI ta) (nI pa) (nI pe) pd (nI pb) pp pf pg pn rt rn (nI cd) sn (nI il) tk am at_ aa 0 0 (-1) wt wy 0 (nI rm) (nI ud) (nI nu) sd (nI qn) (nI qw) qo (nI qb) (nI qp) qa (nI qi) (nI oc)), ra_I (g 20) cI 4 (l4 (nI l0) (nI l1) (nI dm) (nI l3)), ra_I (g 31) cI 120 nw, ra_I (g 54) cI 2400 kp, ra_I (g 9) cI 6 rf]) ⟨hx, hb, hml, hown, hts⟩ hl.1 (c_nm_isIn l D cI cJ cC cZ cS (Int32.toInt64 w) 0 1) w_7_0 w_7_1 w_1_14 w_7_2 hd_X12_isIn_3 ⟨⟨(Nat.le_of_ble_eq_true rfl), (Nat.le_of_ble_eq_true rfl)⟩, (Nat.le_of_ble_eq_true rfl), (Nat.le_of_ble_eq_true rfl)⟩ hK hP hD hS hA [] [0, 1, 2, 3, 4] rfl rfl (by decide +kernel) (by decide +kernel) (by decide +kernel) rfl rfl (Nat.le_of_ble_eq_true rfl) dX12_set_17 (fun r_42 u H locs hw hP hD hS => ?_)
    obtain ⟨b_41, hb1_43, rfl, rfl⟩ := hw
    refine o_re (ws' := [ro_ mm 12 (mo g (nI ta) (nI pa) (nI pe) pd (nI pb) pp pf pg pn rt rn (nI cd) sn (nI il) tk am at_ aa 0 0 (-1) wt wy 0 (nI rm) (nI ud) (nI nu) sd (nI qn) (nI qw) qo (nI qb) (nI qp) qa (nI qi) (nI oc)), ra_I (g 20) cI 4 (l4 (nI l0) (nI l1) (nI dm) (nI l3)), ra_I (g 31) cI 120 nw, ra_I (g 54) cI 2400 kp, ra_I (g 9) cI 6 rf]) hP hD rfl (fun hP hD => ?_)
    refine lv_if_eq (tgt := 39) hx hb dX12_set_20 (by decide) (fun c_44 => ?_) (fun c_44 => ?_)
    · have c_44 : b_41 = 0 := (neq b_41 0 (by omega) (Nat.le_of_ble_eq_true rfl)).mp c_44
      refine lv_iconst (v := 0) hx hb dX12_set_39 ic_0 ?_
      refine sk_Vi (q0 := 0) (n := 4) (rest := []) (wr := fmR om_5_19 _) ⟨hx, hb, hml, hown, hts⟩ hl.1 (c_nm_becomes0 l D cI cJ cC cZ cS mm g ta pa pe pd pb pp pf pg pn rt rn cd sn il tk am at_ aa wt wy rm ud nu sd qn qw qo qb qp qa qi oc d 1 o l0 l1 dm l3 rf hdm) w_8_126 w_8_128 w_0_106 w_1_14 w_8_129 hd_X12_becomes_4 ⟨⟨(Nat.le_of_ble_eq_true rfl), (Nat.le_of_ble_eq_true rfl)⟩, (Nat.le_of_ble_eq_true rfl), (Nat.le_of_ble_eq_true rfl)⟩ hK hP hD hS hA (fmT om_5_19 0) (fmF om_5_19 0) (fm_C1 rfl rfl) (fm_R rfl rfl) (fm_nT om_5_19 0) (fm_nF om_5_19 0) (fm_di om_5_19 0) rfl rfl rfl rfl (Nat.le_of_ble_eq_true rfl) dX12_set_40 (fun r_46 u H locs hw hP hD hS => ?_)
      refine exE hw (fun rf2_45 hw1 => anE hw1 (fun hrf_47 hw2 => anE hw2 (fun er_49 eu_48 => ?_)))
      clear hw hw1 hw2
      subst er_49
      refine o_mgE (ws' := [ro_ mm 12 (mo g (nI ta) (nI pa) (nI pe) pd (nI pb) pp pf pg pn rt rn (nI cd) sn (nI il) tk am at_ aa 0 0 (-1) wt wy 0 (nI rm) (nI ud) (nI nu) sd (nI qn) (nI qw) qo (nI qb) (nI qp) qa (nI qi) (nI oc)), ra_I (g 20) cI 4 (l4 (nI l0) (nI l1) (nI dm) (nI l3)), ra_I (g 31) cI 120 nw, ra_I (g 54) cI 2400 kp, ra_I (g 9) cI 6 rf2_45]) eu_48 hP hD rfl (fun hP hD => ?_)
      exact sk_iret hx hb hr rfl hlocks hK hP hD hS (⟨Ba, We, U, su, nw, kp, 0, nu, ud, rf2_45, hnw, hkp, hnu, hud, set_w (fun hq => rr_0 hb1_43 (by omega) ((kin0 (n := 2) (by decide) (by omega)).mpr hq)) hrf_47, rfl, rfl⟩) (Nat.le_of_ble_eq_true rfl) (Nat.le_of_ble_eq_true rfl) dX12_set_43
    · have c_44 : ¬ (b_41 = 0) := fun h => c_44 ((neq b_41 0 (by omega) (Nat.le_of_ble_eq_true rfl)).mpr h)
      obtain ⟨kd_50, hkd_50, rfl⟩ := (kin0 (n := 2) (by decide) (by omega)).mp (rr_1 hb1_43 (by omega))
      refine lv_iload_n hx hb dX12_set_23 rfl (lv_at hl 3 rfl) ?_
      refine lv_i2l hx hb dX12_set_24 rfl ?_
      refine lv_lconst (v := 0) hx hb dX12_set_25 (by decide) ?_
      refine lv_ldc2 (v := 9) hx hb hown (hts _ w_7_130) dX12_set_26 ?_
      refine sk_Si (n := 3) (rest := [.int o, .int 1, .int d, .ref mm]) (wr := [ro_ mm 12 (mo g (nI ta) (nI pa) (nI pe) pd (nI pb) pp pf pg pn rt rn (nI cd) sn (nI il) tk am at_ aa 0 0 (-1) wt wy 0 (nI rm) (nI ud) (nI nu) sd (nI qn) (nI qw) qo (nI qb) (nI qp) qa (nI qi) (nI oc)), ra_I (g 20) cI 4 (l4 (nI l0) (nI l1) (nI dm) (nI l3)), ra_I (g 31) cI 120 nw, ra_I (g 54) cI 2400 kp, ra_I (g 9) cI 6 rf]) ⟨hx, hb, hml, hown, hts⟩ hl.1 (c_nm_isIn l D cI cJ cC cZ cS (Int32.toInt64 o) 0 9) w_7_0 w_7_1 w_1_14 w_7_2 hd_X12_isIn_3 ⟨⟨(Nat.le_of_ble_eq_true rfl), (Nat.le_of_ble_eq_true rfl)⟩, (Nat.le_of_ble_eq_true rfl), (Nat.le_of_ble_eq_true rfl)⟩ hK hP hD hS hA [] [0, 1, 2, 3, 4] rfl rfl (by decide +kernel) (by decide +kernel) (by decide +kernel) rfl rfl (Nat.le_of_ble_eq_true rfl) dX12_set_29 (fun r_52 u H locs hw hP hD hS => ?_)
      obtain ⟨b_51, hb1_53, rfl, rfl⟩ := hw
      refine o_re (ws' := [ro_ mm 12 (mo g (nI ta) (nI pa) (nI pe) pd (nI pb) pp pf pg pn rt rn (nI cd) sn (nI il) tk am at_ aa 0 0 (-1) wt wy 0 (nI rm) (nI ud) (nI nu) sd (nI qn) (nI qw) qo (nI qb) (nI qp) qa (nI qi) (nI oc)), ra_I (g 20) cI 4 (l4 (nI l0) (nI l1) (nI dm) (nI l3)), ra_I (g 31) cI 120 nw, ra_I (g 54) cI 2400 kp, ra_I (g 9) cI 6 rf]) hP hD rfl (fun hP hD => ?_)
      refine lv_if_eq (tgt := 39) hx hb dX12_set_32 (by decide) (fun c_54 => ?_) (fun c_54 => ?_)
      · have c_54 : b_51 = 0 := (neq b_51 0 (by omega) (Nat.le_of_ble_eq_true rfl)).mp c_54
        refine lv_iconst (v := 0) hx hb dX12_set_39 ic_0 ?_
        refine sk_Vi (q0 := 0) (n := 4) (rest := []) (wr := fmR om_5_19 _) ⟨hx, hb, hml, hown, hts⟩ hl.1 (c_nm_becomes0 l D cI cJ cC cZ cS mm g ta pa pe pd pb pp pf pg pn rt rn cd sn il tk am at_ aa wt wy rm ud nu sd qn qw qo qb qp qa qi oc d 1 o l0 l1 dm l3 rf hdm) w_8_126 w_8_128 w_0_106 w_1_14 w_8_129 hd_X12_becomes_4 ⟨⟨(Nat.le_of_ble_eq_true rfl), (Nat.le_of_ble_eq_true rfl)⟩, (Nat.le_of_ble_eq_true rfl), (Nat.le_of_ble_eq_true rfl)⟩ hK hP hD hS hA (fmT om_5_19 0) (fmF om_5_19 0) (fm_C1 rfl rfl) (fm_R rfl rfl) (fm_nT om_5_19 0) (fm_nF om_5_19 0) (fm_di om_5_19 0) rfl rfl rfl rfl (Nat.le_of_ble_eq_true rfl) dX12_set_40 (fun r_56 u H locs hw hP hD hS => ?_)
        refine exE hw (fun rf2_55 hw1 => anE hw1 (fun hrf_57 hw2 => anE hw2 (fun er_59 eu_58 => ?_)))
        clear hw hw1 hw2
        subst er_59
        refine o_mgE (ws' := [ro_ mm 12 (mo g (nI ta) (nI pa) (nI pe) pd (nI pb) pp pf pg pn rt rn (nI cd) sn (nI il) tk am at_ aa 0 0 (-1) wt wy 0 (nI rm) (nI ud) (nI nu) sd (nI qn) (nI qw) qo (nI qb) (nI qp) qa (nI qi) (nI oc)), ra_I (g 20) cI 4 (l4 (nI l0) (nI l1) (nI dm) (nI l3)), ra_I (g 31) cI 120 nw, ra_I (g 54) cI 2400 kp, ra_I (g 9) cI 6 rf2_55]) eu_58 hP hD rfl (fun hP hD => ?_)
        exact sk_iret hx hb hr rfl hlocks hK hP hD hS (⟨Ba, We, U, su, nw, kp, 0, nu, ud, rf2_55, hnw, hkp, hnu, hud, set_3 (fun hq => rr_0 hb1_53 (by omega) ((kin0 (n := 10) (by decide) (by omega)).mpr hq)) hrf_57, rfl, rfl⟩) (Nat.le_of_ble_eq_true rfl) (Nat.le_of_ble_eq_true rfl) dX12_set_43
      · have c_54 : ¬ (b_51 = 0) := fun h => c_54 ((neq b_51 0 (by omega) (Nat.le_of_ble_eq_true rfl)).mpr h)
        obtain ⟨kd_60, hkd_60, rfl⟩ := (kin0 (n := 10) (by decide) (by omega)).mp (rr_1 hb1_53 (by omega))
        refine lv_iconst (v := 1) hx hb dX12_set_35 ic_1 ?_
        refine lv_goto (tgt := 40) hx hb dX12_set_36 (by decide) ?_
        have hq9 : kd_50 = 1 := (neq kd_50 1 (by omega) (Nat.le_of_ble_eq_true rfl)).mp c_1
        obtain rfl : kd_50 = 1 := by omega
        refine sk_Vi (q0 := 0) (n := 4) (rest := []) (wr := fmR om_5_1f _) ⟨hx, hb, hml, hown, hts⟩ hl.1 (c_nm_becomes11 l D cI cJ cC cZ cS mm g ta pa pe pd pb pp pf pg pn rt rn cd sn il tk am at_ aa wt wy rm ud nu sd qn qw qo qb qp qa qi oc d kd_60 l0 l1 dm l3 nw kp rf wn mN Ba We U ke lg su hdm hnu hud (by omega) hB9 hW9 hnw hkp) w_8_126 w_8_128 w_0_106 w_1_14 w_8_129 hd_X12_becomes_4 ⟨⟨(Nat.le_of_ble_eq_true rfl), (Nat.le_of_ble_eq_true rfl)⟩, (Nat.le_of_ble_eq_true rfl), (Nat.le_of_ble_eq_true rfl)⟩ hK hP hD hS hA (fmT om_5_1f 0) (fmF om_5_1f 0) (fm_C1 rfl rfl) (fm_R rfl rfl) (fm_nT om_5_1f 0) (fm_nF om_5_1f 0) (fm_di om_5_1f 0) rfl rfl rfl rfl (Nat.le_of_ble_eq_true rfl) dX12_set_40 (fun r_71 u H locs hw hP hD hS => ?_)
        refine exE hw (fun Ba2_61 hw1 => exE hw1 (fun We2_62 hw2 => exE hw2 (fun U2_63 hw3 => exE hw3 (fun su2_64 hw4 => exE hw4 (fun nw2_65 hw5 => exE hw5 (fun kp2_66 hw6 => exE hw6 (fun b_67 hw7 => exE hw7 (fun nu2_68 hw8 => exE hw8 (fun ud2_69 hw9 => exE hw9 (fun rf2_70 hw10 => anE hw10 (fun hnw2_72 hw11 => anE hw11 (fun hkp2_73 hw12 => anE hw12 (fun hnu2_74 hw13 => anE hw13 (fun hud2_75 hw14 => anE hw14 (fun hbb_76 hw15 => anE hw15 (fun hset_77 hw16 => anE hw16 (fun er_79 eu_78 => ?_)))))))))))))))))
        clear hw hw1 hw2 hw3 hw4 hw5 hw6 hw7 hw8 hw9 hw10 hw11 hw12 hw13 hw14 hw15 hw16
        subst er_79
        refine o_mgE (ws' := [ro_ mm 12 (mo g (nI ta) (nI pa) (nI pe) pd (nI pb) pp pf pg pn rt rn (nI cd) sn (nI il) tk am at_ aa 0 0 (-1) wt wy 0 (nI rm) (nI ud2_69) (nI nu2_68) sd (nI qn) (nI qw) qo (nI qb) (nI qp) qa (nI qi) (nI oc)), ra_I (g 20) cI 4 (l4 (nI l0) (nI l1) (nI dm) (nI l3)), ra_I (g 31) cI 120 nw2_65, ra_I (g 54) cI 2400 kp2_66, ra_I (g 9) cI 6 rf2_70]) eu_78 hP hD rfl (fun hP hD => ?_)
        exact sk_iret hx hb hr (nbool b_67 (by omega)) hlocks hK hP hD hS (⟨Ba2_61, We2_62, U2_63, su2_64, nw2_65, kp2_66, b_67, nu2_68, ud2_69, rf2_70, hnw2_72, hkp2_73, hnu2_74, hud2_75, hset_77, rfl, rfl⟩) (Nat.le_of_ble_eq_true rfl) (Nat.le_of_ble_eq_true rfl) dX12_set_43
theorem dg_X12_mute_0_0 : bqL cX12_mute 0 [(0, [42]), (1, [27]), (2, [5]), (3, [28]), (4, [28]), (5, [133]), (6, [9]), (7, [10]), (8, [184, 0, 238]), (11, [182, 1, 221]), (14, [172])] = true := by decide +kernel
theorem dX12_mute_0 : decode cX12_mute 0 = .ok (.aload_n 0, 1) := q_aload_n0 (bat_get dg_X12_mute_0_0 0 rfl rfl)
theorem dX12_mute_1 : decode cX12_mute 1 = .ok (.iload_n 1, 1) := q_iload_n1 (bat_get dg_X12_mute_0_0 1 rfl rfl)
theorem dX12_mute_2 : decode cX12_mute 2 = .ok (.iconst 2, 1) := q_iconst2 (bat_get dg_X12_mute_0_0 2 rfl rfl)
theorem dX12_mute_3 : decode cX12_mute 3 = .ok (.iload_n 2, 1) := q_iload_n2 (bat_get dg_X12_mute_0_0 3 rfl rfl)
theorem dX12_mute_4 : decode cX12_mute 4 = .ok (.iload_n 2, 1) := q_iload_n2 (bat_get dg_X12_mute_0_0 4 rfl rfl)
theorem dX12_mute_5 : decode cX12_mute 5 = .ok (.i2l, 1) := q_i2l (bat_get dg_X12_mute_0_0 5 rfl rfl)
theorem dX12_mute_6 : decode cX12_mute 6 = .ok (.lconst 0, 1) := q_lconst0 (bat_get dg_X12_mute_0_0 6 rfl rfl)
theorem dX12_mute_7 : decode cX12_mute 7 = .ok (.lconst 1, 1) := q_lconst1 (bat_get dg_X12_mute_0_0 7 rfl rfl)
theorem dX12_mute_8 : decode cX12_mute 8 = .ok (.invokestatic 238, 3) := q_invokestatic (bat_get dg_X12_mute_0_0 8 rfl rfl) rfl
theorem dX12_mute_11 : decode cX12_mute 11 = .ok (.invokevirtual 477, 3) := q_invokevirtual (bat_get dg_X12_mute_0_0 9 rfl rfl) rfl
theorem dX12_mute_14 : decode cX12_mute 14 = .ok (.ireturn, 1) := q_ireturn (bat_get dg_X12_mute_0_0 10 rfl rfl)
theorem w_8_137 : (Cond.code yX12_mute cX12_mute 3 (some .boolean)) ∈ wsL_law := sk_mem (ck_8 _ (List.mem_of_getElem? (i := 137) rfl)) rfl
set_option maxHeartbeats 4000000 in
set_option maxRecDepth 100000 in
theorem c_nm_mute (l : Launch) (D : va_G) (cI cJ cC cZ cS : ClassId) (mm : Nat) (g : Nat → Nat) (ta : Nat) (pa : Nat) (pe : Nat) (pd : Int32) (pb : Nat) (pp : Int32) (pf : Int32) (pg : Int32) (pn : Int32) (rt : Int32) (rn : Int32) (cd : Nat) (sn : Int32) (il : Nat) (tk : Int32) (am : Int32) (at_ : Int32) (aa : Int32) (wt : Int32) (wy : Int64) (rm : Nat) (ud : Nat) (nu : Nat) (sd : Int64) (qn : Nat) (qw : Nat) (qo : Int32) (qb : Nat) (qp : Nat) (qa : Int64) (qi : Nat) (oc : Nat) (d : Int32) (o : Int32) (l0 : Nat) (l1 : Nat) (dm : Nat) (l3 : Nat) (nw : Nat → Int32) (kp : Nat → Int32) (rf : Nat → Int32) (wn : Nat) (mN : Nat) (Ba : Nat → Nat) (We : Nat → Nat) (U : Nat → Bool) (ke : Nat) (lg : KLg) (su : Nat → KN) (hdm : dm ≤ 9) (hnu : nu < 20) (hud : ud ≤ 20) (hB9 : ∀ j, Ba j ≤ 9) (hW9 : ∀ j, We j ≤ 9) (hnw : nwX wn mN Ba We U ke lg nw) (hkp : kpX ud nu su lg kp) : skM l yX12_mute cX12_mute 3 (some .boolean) 3 70 0 0 D (skT cI cJ cC cZ cS) [.ref mm, .int d, .int o] [ro_ mm 12 (mo g (nI ta) (nI pa) (nI pe) pd (nI pb) pp pf pg pn rt rn (nI cd) sn (nI il) tk am at_ aa 0 0 (-1) wt wy 0 (nI rm) (nI ud) (nI nu) sd (nI qn) (nI qw) qo (nI qb) (nI qp) qa (nI qi) (nI oc)), ra_I (g 20) cI 4 (l4 (nI l0) (nI l1) (nI dm) (nI l3)), ra_I (g 31) cI 120 nw, ra_I (g 54) cI 2400 kp, ra_I (g 9) cI 6 rf] (skI D (skT cI cJ cC cZ cS) (fun (r : Int32) (u : va_W) => ∃ (Ba2 : Nat → Nat), ∃ (We2 : Nat → Nat), ∃ (U2 : Nat → Bool), ∃ (su2 : Nat → KN), ∃ (nw2 : Nat → Int32), ∃ (kp2 : Nat → Int32), ∃ (b : Nat), ∃ (nu2 : Nat), ∃ (ud2 : Nat), ∃ (rf2 : Nat → Int32), nwX wn mN Ba2 We2 U2 ke lg nw2 ∧ kpX ud2 nu2 su2 lg kp2 ∧ nu2 < 20 ∧ ud2 ≤ 20 ∧ muteR dm (wn, mN, Ba, We, U, ke) ud su rf d o (nI b) (wn, mN, Ba2, We2, U2, ke) ud2 su2 rf2 ∧ r = nI b ∧ u = [ro_ mm 12 (mo g (nI ta) (nI pa) (nI pe) pd (nI pb) pp pf pg pn rt rn (nI cd) sn (nI il) tk am at_ aa 0 0 (-1) wt wy 0 (nI rm) (nI ud2) (nI nu2) sd (nI qn) (nI qw) qo (nI qb) (nI qp) qa (nI qi) (nI oc)), ra_I (g 20) cI 4 (l4 (nI l0) (nI l1) (nI dm) (nI l3)), ra_I (g 31) cI 120 nw2, ra_I (g 54) cI 2400 kp2, ra_I (g 9) cI 6 rf2])) := by
  refine skM_of pf_X12_mute (Nat.le_of_ble_eq_true rfl) ?_
  intro p e s m below meth c A ls E hP hD hl
  refine skE_el E (fun hx hb hr hml hlocks hin hown hts hK hA => ?_)
  have hown : s.vm.findClass RX12 = some m.cls := hown
  have hS : va_S A s.heap s.heap [] := va_S.rf
  have hl : lv_has ls 3 [(0, .ref mm), (1, .int d), (2, .int o)] := hl
  refine lv_aload_n hx hb dX12_mute_0 rfl (lv_at hl 0 rfl) ?_
  refine lv_iload_n hx hb dX12_mute_1 rfl (lv_at hl 1 rfl) ?_
  refine lv_iconst (v := 2) hx hb dX12_mute_2 ic_2 ?_
  refine lv_iload_n hx hb dX12_mute_3 rfl (lv_at hl 2 rfl) ?_
  refine lv_iload_n hx hb dX12_mute_4 rfl (lv_at hl 2 rfl) ?_
  refine lv_i2l hx hb dX12_mute_5 rfl ?_
  refine lv_lconst (v := 0) hx hb dX12_mute_6 (by decide) ?_
  refine lv_lconst (v := 1) hx hb dX12_mute_7 (by decide) ?_
  refine sk_Si (n := 3) (rest := [.int o, .int 2, .int d, .ref mm]) (wr := [ro_ mm 12 (mo g (nI ta) (nI pa) (nI pe) pd (nI pb) pp pf pg pn rt rn (nI cd) sn (nI il) tk am at_ aa 0 0 (-1) wt wy 0 (nI rm) (nI ud) (nI nu) sd (nI qn) (nI qw) qo (nI qb) (nI qp) qa (nI qi) (nI oc)), ra_I (g 20) cI 4 (l4 (nI l0) (nI l1) (nI dm) (nI l3)), ra_I (g 31) cI 120 nw, ra_I (g 54) cI 2400 kp, ra_I (g 9) cI 6 rf]) ⟨hx, hb, hml, hown, hts⟩ hl.1 (c_nm_isIn l D cI cJ cC cZ cS (Int32.toInt64 o) 0 1) w_7_0 w_7_1 w_1_14 w_7_2 hd_X12_isIn_3 ⟨⟨(Nat.le_of_ble_eq_true rfl), (Nat.le_of_ble_eq_true rfl)⟩, (Nat.le_of_ble_eq_true rfl), (Nat.le_of_ble_eq_true rfl)⟩ hK hP hD hS hA [] [0, 1, 2, 3, 4] rfl rfl (by decide +kernel) (by decide +kernel) (by decide +kernel) rfl rfl (Nat.le_of_ble_eq_true rfl) dX12_mute_8 (fun r_2 u H locs hw hP hD hS => ?_)
  obtain ⟨b_1, hb1_3, rfl, rfl⟩ := hw
  refine o_re (ws' := [ro_ mm 12 (mo g (nI ta) (nI pa) (nI pe) pd (nI pb) pp pf pg pn rt rn (nI cd) sn (nI il) tk am at_ aa 0 0 (-1) wt wy 0 (nI rm) (nI ud) (nI nu) sd (nI qn) (nI qw) qo (nI qb) (nI qp) qa (nI qi) (nI oc)), ra_I (g 20) cI 4 (l4 (nI l0) (nI l1) (nI dm) (nI l3)), ra_I (g 31) cI 120 nw, ra_I (g 54) cI 2400 kp, ra_I (g 9) cI 6 rf]) hP hD rfl (fun hP hD => ?_)
  rcases (show b_1 = 0 ∨ b_1 = 1 by have h9 := hb1_3; omega) with rfl | rfl
  · skip
    refine sk_Vi (q0 := 0) (n := 4) (rest := []) (wr := fmR om_5_19 _) ⟨hx, hb, hml, hown, hts⟩ hl.1 (c_nm_becomes0 l D cI cJ cC cZ cS mm g ta pa pe pd pb pp pf pg pn rt rn cd sn il tk am at_ aa wt wy rm ud nu sd qn qw qo qb qp qa qi oc d 2 o l0 l1 dm l3 rf hdm) w_8_126 w_8_128 w_0_106 w_1_14 w_8_129 hd_X12_becomes_4 ⟨⟨(Nat.le_of_ble_eq_true rfl), (Nat.le_of_ble_eq_true rfl)⟩, (Nat.le_of_ble_eq_true rfl), (Nat.le_of_ble_eq_true rfl)⟩ hK hP hD hS hA (fmT om_5_19 0) (fmF om_5_19 0) (fm_C1 rfl rfl) (fm_R rfl rfl) (fm_nT om_5_19 0) (fm_nF om_5_19 0) (fm_di om_5_19 0) rfl rfl rfl rfl (Nat.le_of_ble_eq_true rfl) dX12_mute_11 (fun r_5 u H locs hw hP hD hS => ?_)
    refine exE hw (fun rf2_4 hw1 => anE hw1 (fun hrf_6 hw2 => anE hw2 (fun er_8 eu_7 => ?_)))
    clear hw hw1 hw2
    subst er_8
    refine o_mgE (ws' := [ro_ mm 12 (mo g (nI ta) (nI pa) (nI pe) pd (nI pb) pp pf pg pn rt rn (nI cd) sn (nI il) tk am at_ aa 0 0 (-1) wt wy 0 (nI rm) (nI ud) (nI nu) sd (nI qn) (nI qw) qo (nI qb) (nI qp) qa (nI qi) (nI oc)), ra_I (g 20) cI 4 (l4 (nI l0) (nI l1) (nI dm) (nI l3)), ra_I (g 31) cI 120 nw, ra_I (g 54) cI 2400 kp, ra_I (g 9) cI 6 rf2_4]) eu_7 hP hD rfl (fun hP hD => ?_)
    exact sk_iret hx hb hr rfl hlocks hK hP hD hS (⟨Ba, We, U, su, nw, kp, 0, nu, ud, rf2_4, hnw, hkp, hnu, hud, mut_w (fun hq => rr_0 hb1_3 rfl ((kin0 (n := 2) (by decide) (by omega)).mpr hq)) hrf_6, rfl, rfl⟩) (Nat.le_of_ble_eq_true rfl) (Nat.le_of_ble_eq_true rfl) dX12_mute_14
  · obtain ⟨kj, hkj, rfl⟩ := (kin0 (n := 2) (by decide) (by omega)).mp (rr_1 hb1_3 (by decide))
    refine sk_Vi (q0 := 0) (n := 4) (rest := []) (wr := fmR om_5_1f _) ⟨hx, hb, hml, hown, hts⟩ hl.1 (c_nm_becomes12 l D cI cJ cC cZ cS mm g ta pa pe pd pb pp pf pg pn rt rn cd sn il tk am at_ aa wt wy rm ud nu sd qn qw qo qb qp qa qi oc d kj l0 l1 dm l3 nw kp rf wn mN Ba We U ke lg su hdm hnu hud (by omega) hB9 hW9 hnw hkp) w_8_126 w_8_128 w_0_106 w_1_14 w_8_129 hd_X12_becomes_4 ⟨⟨(Nat.le_of_ble_eq_true rfl), (Nat.le_of_ble_eq_true rfl)⟩, (Nat.le_of_ble_eq_true rfl), (Nat.le_of_ble_eq_true rfl)⟩ hK hP hD hS hA (fmT om_5_1f 0) (fmF om_5_1f 0) (fm_C1 rfl rfl) (fm_R rfl rfl) (fm_nT om_5_1f 0) (fm_nF om_5_1f 0) (fm_di om_5_1f 0) rfl rfl rfl rfl (Nat.le_of_ble_eq_true rfl) dX12_mute_11 (fun r_19 u H locs hw hP hD hS => ?_)
    refine exE hw (fun Ba2_9 hw1 => exE hw1 (fun We2_10 hw2 => exE hw2 (fun U2_11 hw3 => exE hw3 (fun su2_12 hw4 => exE hw4 (fun nw2_13 hw5 => exE hw5 (fun kp2_14 hw6 => exE hw6 (fun b_15 hw7 => exE hw7 (fun nu2_16 hw8 => exE hw8 (fun ud2_17 hw9 => exE hw9 (fun rf2_18 hw10 => anE hw10 (fun hnw2_20 hw11 => anE hw11 (fun hkp2_21 hw12 => anE hw12 (fun hnu2_22 hw13 => anE hw13 (fun hud2_23 hw14 => anE hw14 (fun hbb_24 hw15 => anE hw15 (fun hset_25 hw16 => anE hw16 (fun er_27 eu_26 => ?_)))))))))))))))))
    clear hw hw1 hw2 hw3 hw4 hw5 hw6 hw7 hw8 hw9 hw10 hw11 hw12 hw13 hw14 hw15 hw16
    subst er_27
    refine o_mgE (ws' := [ro_ mm 12 (mo g (nI ta) (nI pa) (nI pe) pd (nI pb) pp pf pg pn rt rn (nI cd) sn (nI il) tk am at_ aa 0 0 (-1) wt wy 0 (nI rm) (nI ud2_17) (nI nu2_16) sd (nI qn) (nI qw) qo (nI qb) (nI qp) qa (nI qi) (nI oc)), ra_I (g 20) cI 4 (l4 (nI l0) (nI l1) (nI dm) (nI l3)), ra_I (g 31) cI 120 nw2_13, ra_I (g 54) cI 2400 kp2_14, ra_I (g 9) cI 6 rf2_18]) eu_26 hP hD rfl (fun hP hD => ?_)
    exact sk_iret hx hb hr (nbool b_15 (by omega)) hlocks hK hP hD hS (⟨Ba2_9, We2_10, U2_11, su2_12, nw2_13, kp2_14, b_15, nu2_16, ud2_17, rf2_18, hnw2_20, hkp2_21, hnu2_22, hud2_23, hset_25, rfl, rfl⟩) (Nat.le_of_ble_eq_true rfl) (Nat.le_of_ble_eq_true rfl) dX12_mute_14
theorem dg_X12_isAhead_0_0 : bqL cX12_isAhead 0 [(0, [42]), (1, [180, 1, 46]), (4, [153, 0, 33]), (37, [3]), (38, [172]), (7, [27]), (8, [133]), (9, [28]), (10, [133]), (11, [29]), (12, [133]), (13, [184, 0, 238]), (16, [153, 0, 21]), (19, [42]), (20, [180, 0, 63]), (23, [3]), (24, [46]), (25, [27]), (26, [96]), (27, [17, 3, 231]), (30, [163, 0, 7]), (33, [4]), (34, [167, 0, 4])] = true := by decide +kernel
theorem dX12_isAhead_0 : decode cX12_isAhead 0 = .ok (.aload_n 0, 1) := q_aload_n0 (bat_get dg_X12_isAhead_0_0 0 rfl rfl)
theorem dX12_isAhead_1 : decode cX12_isAhead 1 = .ok (.getfield 302, 3) := q_getfield (bat_get dg_X12_isAhead_0_0 1 rfl rfl) rfl
theorem dX12_isAhead_4 : decode cX12_isAhead 4 = .ok (.ifCond .eq 33, 3) := q_ifCond_eq (bat_get dg_X12_isAhead_0_0 2 rfl rfl) rfl
theorem dX12_isAhead_37 : decode cX12_isAhead 37 = .ok (.iconst 0, 1) := q_iconst0 (bat_get dg_X12_isAhead_0_0 3 rfl rfl)
theorem dX12_isAhead_38 : decode cX12_isAhead 38 = .ok (.ireturn, 1) := q_ireturn (bat_get dg_X12_isAhead_0_0 4 rfl rfl)
theorem dX12_isAhead_7 : decode cX12_isAhead 7 = .ok (.iload_n 1, 1) := q_iload_n1 (bat_get dg_X12_isAhead_0_0 5 rfl rfl)
theorem dX12_isAhead_8 : decode cX12_isAhead 8 = .ok (.i2l, 1) := q_i2l (bat_get dg_X12_isAhead_0_0 6 rfl rfl)
theorem dX12_isAhead_9 : decode cX12_isAhead 9 = .ok (.iload_n 2, 1) := q_iload_n2 (bat_get dg_X12_isAhead_0_0 7 rfl rfl)
theorem dX12_isAhead_10 : decode cX12_isAhead 10 = .ok (.i2l, 1) := q_i2l (bat_get dg_X12_isAhead_0_0 8 rfl rfl)
theorem dX12_isAhead_11 : decode cX12_isAhead 11 = .ok (.iload_n 3, 1) := q_iload_n3 (bat_get dg_X12_isAhead_0_0 9 rfl rfl)
theorem dX12_isAhead_12 : decode cX12_isAhead 12 = .ok (.i2l, 1) := q_i2l (bat_get dg_X12_isAhead_0_0 10 rfl rfl)
theorem dX12_isAhead_13 : decode cX12_isAhead 13 = .ok (.invokestatic 238, 3) := q_invokestatic (bat_get dg_X12_isAhead_0_0 11 rfl rfl) rfl
theorem dX12_isAhead_16 : decode cX12_isAhead 16 = .ok (.ifCond .eq 21, 3) := q_ifCond_eq (bat_get dg_X12_isAhead_0_0 12 rfl rfl) rfl
theorem dX12_isAhead_19 : decode cX12_isAhead 19 = .ok (.aload_n 0, 1) := q_aload_n0 (bat_get dg_X12_isAhead_0_0 13 rfl rfl)
theorem dX12_isAhead_20 : decode cX12_isAhead 20 = .ok (.getfield 63, 3) := q_getfield (bat_get dg_X12_isAhead_0_0 14 rfl rfl) rfl
theorem dX12_isAhead_23 : decode cX12_isAhead 23 = .ok (.iconst 0, 1) := q_iconst0 (bat_get dg_X12_isAhead_0_0 15 rfl rfl)
theorem dX12_isAhead_24 : decode cX12_isAhead 24 = .ok (.iaload, 1) := q_iaload (bat_get dg_X12_isAhead_0_0 16 rfl rfl)
theorem dX12_isAhead_25 : decode cX12_isAhead 25 = .ok (.iload_n 1, 1) := q_iload_n1 (bat_get dg_X12_isAhead_0_0 17 rfl rfl)
theorem dX12_isAhead_26 : decode cX12_isAhead 26 = .ok (.iadd, 1) := q_iadd (bat_get dg_X12_isAhead_0_0 18 rfl rfl)
theorem dX12_isAhead_27 : decode cX12_isAhead 27 = .ok (.sipush 999, 3) := q_sipush (bat_get dg_X12_isAhead_0_0 19 rfl rfl) rfl
theorem dX12_isAhead_30 : decode cX12_isAhead 30 = .ok (.if_icmp .gt 7, 3) := q_if_icmp_gt (bat_get dg_X12_isAhead_0_0 20 rfl rfl) rfl
theorem dX12_isAhead_33 : decode cX12_isAhead 33 = .ok (.iconst 1, 1) := q_iconst1 (bat_get dg_X12_isAhead_0_0 21 rfl rfl)
theorem dX12_isAhead_34 : decode cX12_isAhead 34 = .ok (.goto 4, 3) := q_goto (bat_get dg_X12_isAhead_0_0 22 rfl rfl) rfl
theorem w_8_8 : (Cond.code yX12_isAhead cX12_isAhead 4 (some .boolean)) ∈ wsL_law := sk_mem (ck_8 _ (List.mem_of_getElem? (i := 8) rfl)) rfl
set_option maxHeartbeats 4000000 in
set_option maxRecDepth 100000 in
theorem c_nm_isAhead (l : Launch) (D : va_G) (cI cJ cC cZ cS : ClassId) (mm : Nat) (g : Nat → Nat) (ta : Nat) (pa : Nat) (pe : Nat) (pd : Int32) (pb : Nat) (pp : Int32) (pf : Int32) (pg : Int32) (pn : Int32) (rt : Int32) (rn : Int32) (cd : Nat) (sn : Int32) (il : Nat) (tk : Int32) (am : Int32) (at_ : Int32) (aa : Int32) (wt : Int32) (wy : Int64) (rm : Nat) (ud : Nat) (nu : Nat) (sd : Int64) (qn : Nat) (qw : Nat) (qo : Int32) (qb : Nat) (qp : Nat) (qa : Int64) (qi : Nat) (oc : Nat) (n : Int32) (lo : Nat) (hi : Nat) (nw : Nat → Int32) (wn : Nat) (mN : Nat) (Ba : Nat → Nat) (We : Nat → Nat) (U : Nat → Bool) (ke : Nat) (lg : KLg) (hil : il ≤ 1) (hwk : wn ≤ 999) (hlo : lo ≤ 99) (hhi : hi ≤ 99) (hnw : nwX wn mN Ba We U ke lg nw) : skM l yX12_isAhead cX12_isAhead 4 (some .boolean) 1 25 0 0 D (skT cI cJ cC cZ cS) [.ref mm, .int n, .int (nI lo), .int (nI hi)] [ro_ mm 12 (mo g (nI ta) (nI pa) (nI pe) pd (nI pb) pp pf pg pn rt rn (nI cd) sn (nI il) tk am at_ aa 0 0 (-1) wt wy 0 (nI rm) (nI ud) (nI nu) sd (nI qn) (nI qw) qo (nI qb) (nI qp) qa (nI qi) (nI oc)), ra_I (g 31) cI 120 nw] (skI D (skT cI cJ cC cZ cS) (fun (r : Int32) (u : va_W) => ∃ (b : Nat), ((b = 0 ∧ ¬ ahO il wn lo hi n) ∨ (b = 1 ∧ ahO il wn lo hi n)) ∧ r = nI b ∧ u = [ro_ mm 12 (mo g (nI ta) (nI pa) (nI pe) pd (nI pb) pp pf pg pn rt rn (nI cd) sn (nI il) tk am at_ aa 0 0 (-1) wt wy 0 (nI rm) (nI ud) (nI nu) sd (nI qn) (nI qw) qo (nI qb) (nI qp) qa (nI qi) (nI oc)), ra_I (g 31) cI 120 nw])) := by
  refine skM_of pf_X12_isAhead (Nat.le_of_ble_eq_true rfl) ?_
  intro p e s m below meth c A ls E hP hD hl
  refine skE_el E (fun hx hb hr hml hlocks hin hown hts hK hA => ?_)
  have hown : s.vm.findClass RX12 = some m.cls := hown
  have hS : va_S A s.heap s.heap [] := va_S.rf
  have hl : lv_has ls 4 [(0, .ref mm), (1, .int n), (2, .int (nI lo)), (3, .int (nI hi))] := hl
  refine lv_aload_n hx hb dX12_isAhead_0 rfl (lv_at hl 0 rfl) ?_
  refine sk_get (v := .int (nI il)) (C := RX12) (T := TX12) (N := 92) hx hb hts inlX12 hown hK hP 0 rfl rfl 29 (Nat.le_of_ble_eq_true rfl) w_5_184 rfl dX12_isAhead_1 ?_
  refine lv_if_eq (tgt := 37) hx hb dX12_isAhead_4 (by decide) (fun c_1 => ?_) (fun c_1 => ?_)
  · have c_1 : il = 0 := (neq il 0 (by omega) (Nat.le_of_ble_eq_true rfl)).mp c_1
    refine lv_iconst (v := 0) hx hb dX12_isAhead_37 ic_0 ?_
    exact sk_iret hx hb hr rfl hlocks hK hP hD hS (⟨0, Or.inl ⟨rfl, fun hq => absurd hq.1 (by omega)⟩, rfl, rfl⟩) (Nat.le_of_ble_eq_true rfl) (Nat.le_of_ble_eq_true rfl) dX12_isAhead_38
  · have c_1 : ¬ (il = 0) := fun h => c_1 ((neq il 0 (by omega) (Nat.le_of_ble_eq_true rfl)).mpr h)
    refine lv_iload_n hx hb dX12_isAhead_7 rfl (lv_at hl 1 rfl) ?_
    refine lv_i2l hx hb dX12_isAhead_8 rfl ?_
    refine lv_iload_n hx hb dX12_isAhead_9 rfl (lv_at hl 2 rfl) ?_
    refine lv_i2l hx hb dX12_isAhead_10 rfl ?_
    refine lv_iload_n hx hb dX12_isAhead_11 rfl (lv_at hl 3 rfl) ?_
    refine lv_i2l hx hb dX12_isAhead_12 rfl ?_
    refine sk_Si (n := 3) (rest := []) (wr := [ro_ mm 12 (mo g (nI ta) (nI pa) (nI pe) pd (nI pb) pp pf pg pn rt rn (nI cd) sn (nI il) tk am at_ aa 0 0 (-1) wt wy 0 (nI rm) (nI ud) (nI nu) sd (nI qn) (nI qw) qo (nI qb) (nI qp) qa (nI qi) (nI oc)), ra_I (g 31) cI 120 nw]) ⟨hx, hb, hml, hown, hts⟩ hl.1 (c_nm_isIn l D cI cJ cC cZ cS (Int32.toInt64 n) (Int32.toInt64 (nI lo)) (Int32.toInt64 (nI hi))) w_7_0 w_7_1 w_1_14 w_7_2 hd_X12_isIn_3 ⟨⟨(Nat.le_of_ble_eq_true rfl), (Nat.le_of_ble_eq_true rfl)⟩, (Nat.le_of_ble_eq_true rfl), (Nat.le_of_ble_eq_true rfl)⟩ hK hP hD hS hA [] [0, 1] rfl rfl (by decide +kernel) (by decide +kernel) (by decide +kernel) rfl rfl (Nat.le_of_ble_eq_true rfl) dX12_isAhead_13 (fun r_3 u H locs hw hP hD hS => ?_)
    obtain ⟨b_2, hb1_4, rfl, rfl⟩ := hw
    refine o_re (ws' := [ro_ mm 12 (mo g (nI ta) (nI pa) (nI pe) pd (nI pb) pp pf pg pn rt rn (nI cd) sn (nI il) tk am at_ aa 0 0 (-1) wt wy 0 (nI rm) (nI ud) (nI nu) sd (nI qn) (nI qw) qo (nI qb) (nI qp) qa (nI qi) (nI oc)), ra_I (g 31) cI 120 nw]) hP hD rfl (fun hP hD => ?_)
    refine lv_if_eq (tgt := 37) hx hb dX12_isAhead_16 (by decide) (fun c_5 => ?_) (fun c_5 => ?_)
    · have c_5 : b_2 = 0 := (neq b_2 0 (by omega) (Nat.le_of_ble_eq_true rfl)).mp c_5
      refine lv_iconst (v := 0) hx hb dX12_isAhead_37 ic_0 ?_
      exact sk_iret hx hb hr rfl hlocks hK hP hD hS (⟨0, Or.inl ⟨rfl, fun hq => by obtain ⟨h1, k, h2, h3, h4, h5⟩ := hq; exact rr_0 hb1_4 (by omega) ((ah_rg (by omega) (by omega)).mpr ⟨k, h2, h3, h4⟩)⟩, rfl, rfl⟩) (Nat.le_of_ble_eq_true rfl) (Nat.le_of_ble_eq_true rfl) dX12_isAhead_38
    · have c_5 : ¬ (b_2 = 0) := fun h => c_5 ((neq b_2 0 (by omega) (Nat.le_of_ble_eq_true rfl)).mpr h)
      obtain ⟨ka, hka1, hka2, rfl⟩ := (ah_rg (by omega) (by omega)).mp (rr_1 hb1_4 (by omega))
      refine lv_aload_n hx hb dX12_isAhead_19 rfl (lv_at hl 0 rfl) ?_
      refine sk_get (v := .ref (g 31)) (C := RX12) (T := TX12) (N := 92) hx hb hts inlX12 hown hK hP 0 rfl rfl 31 (Nat.le_of_ble_eq_true rfl) w_5_186 rfl dX12_isAhead_20 ?_
      refine lv_iconst (v := 0) hx hb dX12_isAhead_23 ic_0 ?_
      refine va_iald hx hb hK.1 hP 1 0 rfl rfl (by unfold vp_in; decide) dX12_isAhead_24 ?_
      refine sk_top (nI wn) (nwX_0 hnw) ?_
      refine lv_iload_n hx hb dX12_isAhead_25 rfl (lv_at hl 1 rfl) ?_
      refine lv_iadd hx hb dX12_isAhead_26 ?_
      refine sk_top (nI (wn + ka)) (nI_add wn ka) ?_
      refine lv_sipush (v := 999) hx hb dX12_isAhead_27 (by decide) ?_
      refine lv_icmp_gt (tgt := 37) hx hb dX12_isAhead_30 (by decide) (fun c_6 => ?_) (fun c_6 => ?_)
      · have c_6 : 999 < wn + ka := (nlt 999 (wn + ka) (Nat.le_of_ble_eq_true rfl) (by omega)).mp c_6
        refine lv_iconst (v := 0) hx hb dX12_isAhead_37 ic_0 ?_
        exact sk_iret hx hb hr rfl hlocks hK hP hD hS (⟨0, Or.inl ⟨rfl, fun hq => by obtain ⟨h1, k, h2, h3, h4, h5⟩ := hq; have h6 := (neq ka k (by omega) (by omega)).mp h4; omega⟩, rfl, rfl⟩) (Nat.le_of_ble_eq_true rfl) (Nat.le_of_ble_eq_true rfl) dX12_isAhead_38
      · have c_6 : ¬ (999 < wn + ka) := fun h => c_6 ((nlt 999 (wn + ka) (Nat.le_of_ble_eq_true rfl) (by omega)).mpr h)
        refine lv_iconst (v := 1) hx hb dX12_isAhead_33 ic_1 ?_
        refine lv_goto (tgt := 38) hx hb dX12_isAhead_34 (by decide) ?_
        exact sk_iret hx hb hr rfl hlocks hK hP hD hS (⟨1, Or.inr ⟨rfl, by omega, ka, by omega, by omega, rfl, by omega⟩, rfl, rfl⟩) (Nat.le_of_ble_eq_true rfl) (Nat.le_of_ble_eq_true rfl) dX12_isAhead_38
theorem dg_X12_go_0_0 : bqL cX12_go 0 [(0, [42]), (1, [4]), (2, [4]), (3, [4]), (4, [182, 1, 170]), (7, [154, 0, 9]), (16, [42]), (17, [182, 1, 144]), (20, [42]), (21, [180, 1, 126]), (24, [9]), (25, [148]), (26, [154, 0, 9]), (35, [42]), (36, [182, 1, 218]), (39, [42]), (40, [9]), (41, [182, 1, 147]), (44, [42]), (45, [180, 0, 63]), (48, [4]), (49, [46]), (50, [172]), (29, [42]), (30, [6]), (31, [182, 1, 207]), (34, [172]), (10, [42]), (11, [6]), (12, [182, 1, 207]), (15, [172])] = true := by decide +kernel
theorem dX12_go_0 : decode cX12_go 0 = .ok (.aload_n 0, 1) := q_aload_n0 (bat_get dg_X12_go_0_0 0 rfl rfl)
theorem dX12_go_1 : decode cX12_go 1 = .ok (.iconst 1, 1) := q_iconst1 (bat_get dg_X12_go_0_0 1 rfl rfl)
theorem dX12_go_2 : decode cX12_go 2 = .ok (.iconst 1, 1) := q_iconst1 (bat_get dg_X12_go_0_0 2 rfl rfl)
theorem dX12_go_3 : decode cX12_go 3 = .ok (.iconst 1, 1) := q_iconst1 (bat_get dg_X12_go_0_0 3 rfl rfl)
theorem dX12_go_4 : decode cX12_go 4 = .ok (.invokevirtual 426, 3) := q_invokevirtual (bat_get dg_X12_go_0_0 4 rfl rfl) rfl
theorem dX12_go_7 : decode cX12_go 7 = .ok (.ifCond .ne 9, 3) := q_ifCond_ne (bat_get dg_X12_go_0_0 5 rfl rfl) rfl
theorem dX12_go_16 : decode cX12_go 16 = .ok (.aload_n 0, 1) := q_aload_n0 (bat_get dg_X12_go_0_0 6 rfl rfl)
theorem dX12_go_17 : decode cX12_go 17 = .ok (.invokevirtual 400, 3) := q_invokevirtual (bat_get dg_X12_go_0_0 7 rfl rfl) rfl
theorem dX12_go_20 : decode cX12_go 20 = .ok (.aload_n 0, 1) := q_aload_n0 (bat_get dg_X12_go_0_0 8 rfl rfl)
theorem dX12_go_21 : decode cX12_go 21 = .ok (.getfield 382, 3) := q_getfield (bat_get dg_X12_go_0_0 9 rfl rfl) rfl
theorem dX12_go_24 : decode cX12_go 24 = .ok (.lconst 0, 1) := q_lconst0 (bat_get dg_X12_go_0_0 10 rfl rfl)
theorem dX12_go_25 : decode cX12_go 25 = .ok (.lcmp, 1) := q_lcmp (bat_get dg_X12_go_0_0 11 rfl rfl)
theorem dX12_go_26 : decode cX12_go 26 = .ok (.ifCond .ne 9, 3) := q_ifCond_ne (bat_get dg_X12_go_0_0 12 rfl rfl) rfl
theorem dX12_go_35 : decode cX12_go 35 = .ok (.aload_n 0, 1) := q_aload_n0 (bat_get dg_X12_go_0_0 13 rfl rfl)
theorem dX12_go_36 : decode cX12_go 36 = .ok (.invokevirtual 474, 3) := q_invokevirtual (bat_get dg_X12_go_0_0 14 rfl rfl) rfl
theorem dX12_go_39 : decode cX12_go 39 = .ok (.aload_n 0, 1) := q_aload_n0 (bat_get dg_X12_go_0_0 15 rfl rfl)
theorem dX12_go_40 : decode cX12_go 40 = .ok (.lconst 0, 1) := q_lconst0 (bat_get dg_X12_go_0_0 16 rfl rfl)
theorem dX12_go_41 : decode cX12_go 41 = .ok (.invokevirtual 403, 3) := q_invokevirtual (bat_get dg_X12_go_0_0 17 rfl rfl) rfl
theorem dX12_go_44 : decode cX12_go 44 = .ok (.aload_n 0, 1) := q_aload_n0 (bat_get dg_X12_go_0_0 18 rfl rfl)
theorem dX12_go_45 : decode cX12_go 45 = .ok (.getfield 63, 3) := q_getfield (bat_get dg_X12_go_0_0 19 rfl rfl) rfl
theorem dX12_go_48 : decode cX12_go 48 = .ok (.iconst 1, 1) := q_iconst1 (bat_get dg_X12_go_0_0 20 rfl rfl)
theorem dX12_go_49 : decode cX12_go 49 = .ok (.iaload, 1) := q_iaload (bat_get dg_X12_go_0_0 21 rfl rfl)
theorem dX12_go_50 : decode cX12_go 50 = .ok (.ireturn, 1) := q_ireturn (bat_get dg_X12_go_0_0 22 rfl rfl)
theorem dX12_go_29 : decode cX12_go 29 = .ok (.aload_n 0, 1) := q_aload_n0 (bat_get dg_X12_go_0_0 23 rfl rfl)
theorem dX12_go_30 : decode cX12_go 30 = .ok (.iconst 3, 1) := q_iconst3 (bat_get dg_X12_go_0_0 24 rfl rfl)
theorem dX12_go_31 : decode cX12_go 31 = .ok (.invokevirtual 463, 3) := q_invokevirtual (bat_get dg_X12_go_0_0 25 rfl rfl) rfl
theorem dX12_go_34 : decode cX12_go 34 = .ok (.ireturn, 1) := q_ireturn (bat_get dg_X12_go_0_0 26 rfl rfl)
theorem dX12_go_10 : decode cX12_go 10 = .ok (.aload_n 0, 1) := q_aload_n0 (bat_get dg_X12_go_0_0 27 rfl rfl)
theorem dX12_go_11 : decode cX12_go 11 = .ok (.iconst 3, 1) := q_iconst3 (bat_get dg_X12_go_0_0 28 rfl rfl)
theorem dX12_go_12 : decode cX12_go 12 = .ok (.invokevirtual 463, 3) := q_invokevirtual (bat_get dg_X12_go_0_0 29 rfl rfl) rfl
theorem dX12_go_15 : decode cX12_go 15 = .ok (.ireturn, 1) := q_ireturn (bat_get dg_X12_go_0_0 30 rfl rfl)
theorem w_8_5 : (Cond.methodLink RX12 426 yX12_isAhead) ∈ wsL_law := sk_mem (ck_8 _ (List.mem_of_getElem? (i := 5) rfl)) rfl
theorem w_8_7 : (Cond.instanceMethod yX12_isAhead) ∈ wsL_law := sk_mem (ck_8 _ (List.mem_of_getElem? (i := 7) rfl)) rfl
theorem w_0_90 : (Cond.selects RX12 yX12_isAhead yX12_isAhead) ∈ wsL_law := sk_mem (ck_0 _ (List.mem_of_getElem? (i := 90) rfl)) rfl
theorem w_8_17 : (Cond.methodLink RX12 403 yX12_goesBy) ∈ wsL_law := sk_mem (ck_8 _ (List.mem_of_getElem? (i := 17) rfl)) rfl
theorem w_8_19 : (Cond.instanceMethod yX12_goesBy) ∈ wsL_law := sk_mem (ck_8 _ (List.mem_of_getElem? (i := 19) rfl)) rfl
theorem w_0_93 : (Cond.selects RX12 yX12_goesBy yX12_goesBy) ∈ wsL_law := sk_mem (ck_0 _ (List.mem_of_getElem? (i := 93) rfl)) rfl
theorem w_8_97 : (Cond.methodLink RX12 463 yX12_refuses) ∈ wsL_law := sk_mem (ck_8 _ (List.mem_of_getElem? (i := 97) rfl)) rfl
theorem w_8_99 : (Cond.instanceMethod yX12_refuses) ∈ wsL_law := sk_mem (ck_8 _ (List.mem_of_getElem? (i := 99) rfl)) rfl
theorem w_0_104 : (Cond.selects RX12 yX12_refuses yX12_refuses) ∈ wsL_law := sk_mem (ck_0 _ (List.mem_of_getElem? (i := 104) rfl)) rfl
theorem w_8_141 : (Cond.code yX12_go cX12_go 1 (some .int)) ∈ wsL_law := sk_mem (ck_8 _ (List.mem_of_getElem? (i := 141) rfl)) rfl
def om_15_4400 : List Bool := true :: false :: false :: false :: true :: false :: false :: false :: false :: false :: false :: false :: false :: false :: false :: []
def om_15_7ffc : List Bool := true :: true :: true :: true :: true :: true :: true :: true :: true :: true :: true :: true :: true :: false :: false :: []
def om_15_4402 : List Bool := true :: false :: false :: false :: true :: false :: false :: false :: false :: false :: false :: false :: false :: true :: false :: []
def om_15_4001 : List Bool := true :: false :: false :: false :: false :: false :: false :: false :: false :: false :: false :: false :: false :: false :: true :: []
theorem hd_X12_isAhead_3 : skD yX12_isAhead 3 := by decide +kernel
theorem hd_X12_goesBy_1 : skD yX12_goesBy 1 := by decide +kernel
theorem hd_X12_refuses_1 : skD yX12_refuses 1 := by decide +kernel
set_option maxHeartbeats 4000000 in
set_option maxRecDepth 100000 in
theorem c_nm_go (l : Launch) (D : va_G) (cI cJ cC cZ cS : ClassId) (mm : Nat) (g : Nat → Nat) (ta : Nat) (pa : Nat) (pe : Nat) (pd : Int32) (pb : Nat) (pp : Int32) (pf : Int32) (pg : Int32) (pn : Int32) (rt : Int32) (rn : Int32) (cd : Nat) (sn : Int32) (il : Nat) (tk : Int32) (am : Int32) (at_ : Int32) (aa : Int32) (wt : Int32) (wy : Int64) (rm : Nat) (ud : Nat) (nu : Nat) (sd : Int64) (qn : Nat) (qw : Nat) (qo : Int32) (qb : Nat) (qp : Nat) (qa : Int64) (qi : Nat) (oc : Nat) (u0 : Int32) (u1 : Int32) (u2 : Int32) (u3 : Int32) (u4 : Int32) (u5 : Int32) (v0 : Int32) (v1 : Int32) (v2 : Int32) (v3 : Int32) (v4 : Int32) (v5 : Int32) (cs : Nat → Nat) (nw : Nat → Int32) (pt : Nat → Nat) (ql : Nat → Int64) (l0 : Nat) (l1 : Nat) (dm : Nat) (l3 : Nat) (ws_ : Nat → Int32) (yw : Nat → Int32) (yo : Nat → Int32) (be : Nat → Int64) (bf : Nat → Int64) (kp : Nat → Int32) (rf : Nat → Int32) (wn : Nat) (mN : Nat) (Ba : Nat → Nat) (We : Nat → Nat) (U : Nat → Bool) (ke : Nat) (lg : KLg) (L : LkS) (su : Nat → KN) (hil : il ≤ 1) (hild : il = 1 → 1 ≤ dm) (hilb : 1 ≤ dm → il = 1) (hdm : dm ≤ 9) (hLk : kcLk L) (hkl : (lK L).length ≤ 1600) (hmw0 : mwO L 0 u3 v3 cs) (hmw1 : mwO L 1 u4 v4 cs) (hB9 : ∀ j, Ba j ≤ 9) (hW9 : ∀ j, We j ≤ 9) (hwk : wn ≤ 999) (hnu : nu < 20) (hud : ud ≤ 20) (hlg : lgOk lg) (hsk : ∀ j, j < ud → nKe (su j) ≤ ke) (hcs : ∀ j, cs j ≤ 20000) (hnw : nwX wn mN Ba We U ke lg nw) (hpt : ∀ j, pt j ≤ 9) (hkp : kpX ud nu su lg kp) : skM l yX12_go cX12_go 1 (some .int) 6 142 0 0 D (skT cI cJ cC cZ cS) [.ref mm] [ro_ mm 12 (mo g (nI ta) (nI pa) (nI pe) pd (nI pb) pp pf pg pn rt rn (nI cd) sn (nI il) tk am at_ aa 0 0 (-1) wt wy 0 (nI rm) (nI ud) (nI nu) sd (nI qn) (nI qw) qo (nI qb) (nI qp) qa (nI qi) (nI oc)), ra_I (g 24) cI 6 (l6 u0 u1 u2 u3 u4 u5), ra_I (g 25) cI 6 (l6 v0 v1 v2 v3 v4 v5), ra_N (g 26) cI 3200 cs, ra_I (g 31) cI 120 nw, ra_N (g 46) cI 9 pt, ra_J (g 86) cJ 1700 ql, ra_I (g 20) cI 4 (l4 (nI l0) (nI l1) (nI dm) (nI l3)), ra_I (g 38) cI 90 ws_, ra_I (g 36) cZ 900 yw, ra_I (g 37) cZ 900 yo, ra_J (g 43) cJ 90 be, ra_J (g 44) cJ 90 bf, ra_I (g 54) cI 2400 kp, ra_I (g 9) cI 6 rf] (skI D (skT cI cJ cC cZ cS) (fun (r : Int32) (u : va_W) => ∃ (wn2 : Nat), ∃ (mo2 : Nat), ∃ (ke2 : Nat), ∃ (lg2 : KLg), ∃ (su2 : Nat → KN), ∃ (nw2 : Nat → Int32), ∃ (kp2 : Nat → Int32), ∃ (tk2 : Int32), ∃ (qp2 : Nat), ∃ (am2 : Int32), ∃ (at_2 : Int32), ∃ (aa2 : Int32), ∃ (wy2 : Int64), ∃ (nu2 : Nat), ∃ (ud2 : Nat), ∃ (pt2 : Nat → Nat), ∃ (ql2 : Nat → Int64), ∃ (ws_2 : Nat → Int32), ∃ (yw2 : Nat → Int32), ∃ (yo2 : Nat → Int32), ∃ (be2 : Nat → Int64), ∃ (bf2 : Nat → Int64), ∃ (rf2 : Nat → Int32), nwX wn2 mo2 Ba We U ke2 lg2 nw2 ∧ kpX ud2 nu2 su2 lg2 kp2 ∧ nu2 < 20 ∧ ud2 ≤ 20 ∧ goR L dm (wn, mN, Ba, We, U, ke) lg ud su rf r (wn2, mo2, Ba, We, U, ke2) lg2 ud2 su2 rf2 ∧ (∀ j, pt2 j ≤ 9) ∧ u = [ro_ mm 12 (mo g (nI ta) (nI pa) (nI pe) pd (nI pb) pp pf pg pn rt rn (nI cd) sn (nI il) tk2 am2 at_2 aa2 0 0 (-1) wt wy2 0 (nI rm) (nI ud2) (nI nu2) sd (nI qn) (nI qw) qo (nI qb) (nI qp2) qa (nI qi) (nI oc)), ra_I (g 24) cI 6 (l6 u0 u1 u2 u3 u4 u5), ra_I (g 25) cI 6 (l6 v0 v1 v2 v3 v4 v5), ra_N (g 26) cI 3200 cs, ra_I (g 31) cI 120 nw2, ra_N (g 46) cI 9 pt2, ra_J (g 86) cJ 1700 ql2, ra_I (g 20) cI 4 (l4 (nI l0) (nI l1) (nI dm) (nI l3)), ra_I (g 38) cI 90 ws_2, ra_I (g 36) cZ 900 yw2, ra_I (g 37) cZ 900 yo2, ra_J (g 43) cJ 90 be2, ra_J (g 44) cJ 90 bf2, ra_I (g 54) cI 2400 kp2, ra_I (g 9) cI 6 rf2])) := by
  refine skM_of pf_X12_go (Nat.le_of_ble_eq_true rfl) ?_
  intro p e s m below meth c A ls E hP hD hl
  refine skE_el E (fun hx hb hr hml hlocks hin hown hts hK hA => ?_)
  have hown : s.vm.findClass RX12 = some m.cls := hown
  have hS : va_S A s.heap s.heap [] := va_S.rf
  have hl : lv_has ls 1 [(0, .ref mm)] := hl
  refine lv_aload_n hx hb dX12_go_0 rfl (lv_at hl 0 rfl) ?_
  refine lv_iconst (v := 1) hx hb dX12_go_1 ic_1 ?_
  refine lv_iconst (v := 1) hx hb dX12_go_2 ic_1 ?_
  refine lv_iconst (v := 1) hx hb dX12_go_3 ic_1 ?_
  refine sk_Vi (q0 := 0) (n := 3) (rest := []) (wr := fmR om_15_4400 _) ⟨hx, hb, hml, hown, hts⟩ hl.1 (c_nm_isAhead l D cI cJ cC cZ cS mm g ta pa pe pd pb pp pf pg pn rt rn cd sn il tk am at_ aa wt wy rm ud nu sd qn qw qo qb qp qa qi oc 1 1 1 nw wn mN Ba We U ke lg hil hwk (by omega) (by omega) hnw) w_8_5 w_8_7 w_0_90 w_1_14 w_8_8 hd_X12_isAhead_3 ⟨⟨(Nat.le_of_ble_eq_true rfl), (Nat.le_of_ble_eq_true rfl)⟩, (Nat.le_of_ble_eq_true rfl), (Nat.le_of_ble_eq_true rfl)⟩ hK hP hD hS hA (fmT om_15_4400 0) (fmF om_15_4400 0) (fm_C1 rfl rfl) (fm_R rfl rfl) (fm_nT om_15_4400 0) (fm_nF om_15_4400 0) (fm_di om_15_4400 0) rfl rfl rfl rfl (Nat.le_of_ble_eq_true rfl) dX12_go_4 (fun r_2 u H locs hw hP hD hS => ?_)
  refine exE hw (fun b_1 hw1 => anE hw1 (fun hah_3 hw2 => anE hw2 (fun er_5 eu_4 => ?_)))
  clear hw hw1 hw2
  subst er_5
  refine o_mgE (ws' := [ro_ mm 12 (mo g (nI ta) (nI pa) (nI pe) pd (nI pb) pp pf pg pn rt rn (nI cd) sn (nI il) tk am at_ aa 0 0 (-1) wt wy 0 (nI rm) (nI ud) (nI nu) sd (nI qn) (nI qw) qo (nI qb) (nI qp) qa (nI qi) (nI oc)), ra_I (g 24) cI 6 (l6 u0 u1 u2 u3 u4 u5), ra_I (g 25) cI 6 (l6 v0 v1 v2 v3 v4 v5), ra_N (g 26) cI 3200 cs, ra_I (g 31) cI 120 nw, ra_N (g 46) cI 9 pt, ra_J (g 86) cJ 1700 ql, ra_I (g 20) cI 4 (l4 (nI l0) (nI l1) (nI dm) (nI l3)), ra_I (g 38) cI 90 ws_, ra_I (g 36) cZ 900 yw, ra_I (g 37) cZ 900 yo, ra_J (g 43) cJ 90 be, ra_J (g 44) cJ 90 bf, ra_I (g 54) cI 2400 kp, ra_I (g 9) cI 6 rf]) eu_4 hP hD rfl (fun hP hD => ?_)
  refine lv_if_ne (tgt := 16) hx hb dX12_go_7 (by decide) (fun c_6 => ?_) (fun c_6 => ?_)
  · have c_6 : ¬ (b_1 = 0) := fun h => c_6 ((neq b_1 0 (by omega) (Nat.le_of_ble_eq_true rfl)).mpr h)
    obtain ⟨hil1, kz_, hz2, hz3, hz4, hz5⟩ := rr_1 hah_3 (by omega)
    have hdm1 := hild hil1
    refine lv_aload_n hx hb dX12_go_16 rfl (lv_at hl 0 rfl) ?_
    refine sk_Vv (q0 := 0) (n := 0) (rest := []) (wr := fmR om_15_7ffc _) ⟨hx, hb, hml, hown, hts⟩ hl.1 (c_nm_laysAll l D cI cJ cC cZ cS mm g ta pa pe pd pb pp pf pg pn rt rn cd sn il tk am at_ aa wt wy 0 rm ud nu sd qn qw qo qb qp qa qi oc u0 u1 u2 u3 u4 u5 v0 v1 v2 v3 v4 v5 cs nw pt ql l0 l1 dm l3 ws_ yw yo be bf wn mN Ba We U ke lg L hdm (by omega) hLk hkl hmw0 hmw1 hB9 hW9 hwk hcs hnw hpt) w_7_189 w_7_191 w_0_82 w_1_14 w_7_192 hd_X12_laysAll_0 ⟨⟨(Nat.le_of_ble_eq_true rfl), (Nat.le_of_ble_eq_true rfl)⟩, (Nat.le_of_ble_eq_true rfl), (Nat.le_of_ble_eq_true rfl)⟩ hK hP hD hS hA (fmT om_15_7ffc 0) (fmF om_15_7ffc 0) (fm_C1 rfl rfl) (fm_R rfl rfl) (fm_nT om_15_7ffc 0) (fm_nF om_15_7ffc 0) (fm_di om_15_7ffc 0) rfl rfl rfl rfl (Nat.le_of_ble_eq_true rfl) dX12_go_17 (fun u H locs hw hP hD hS => ?_)
    refine exE hw (fun tk2_7 hw1 => exE hw1 (fun qp2_8 hw2 => exE hw2 (fun am2_9 hw3 => exE hw3 (fun at_2_10 hw4 => exE hw4 (fun aa2_11 hw5 => exE hw5 (fun wy2_12 hw6 => exE hw6 (fun ql2_13 hw7 => exE hw7 (fun ws_2_14 hw8 => exE hw8 (fun yw2_15 hw9 => exE hw9 (fun yo2_16 hw10 => exE hw10 (fun be2_17 hw11 => exE hw11 (fun bf2_18 hw12 => anE hw12 (fun hbe_19 hw13 => anE hw13 (fun hcf_20 hw14 => anE hw14 (fun hwy_21 eu_22 => ?_)))))))))))))))
    clear hw hw1 hw2 hw3 hw4 hw5 hw6 hw7 hw8 hw9 hw10 hw11 hw12 hw13 hw14
    refine o_mgE (ws' := [ro_ mm 12 (mo g (nI ta) (nI pa) (nI pe) pd (nI pb) pp pf pg pn rt rn (nI cd) sn (nI il) tk2_7 am2_9 at_2_10 aa2_11 0 0 (-1) wt wy2_12 0 (nI rm) (nI ud) (nI nu) sd (nI qn) (nI qw) qo (nI qb) (nI qp2_8) qa (nI qi) (nI oc)), ra_I (g 24) cI 6 (l6 u0 u1 u2 u3 u4 u5), ra_I (g 25) cI 6 (l6 v0 v1 v2 v3 v4 v5), ra_N (g 26) cI 3200 cs, ra_I (g 31) cI 120 nw, ra_N (g 46) cI 9 pt, ra_J (g 86) cJ 1700 ql2_13, ra_I (g 20) cI 4 (l4 (nI l0) (nI l1) (nI dm) (nI l3)), ra_I (g 38) cI 90 ws_2_14, ra_I (g 36) cZ 900 yw2_15, ra_I (g 37) cZ 900 yo2_16, ra_J (g 43) cJ 90 be2_17, ra_J (g 44) cJ 90 bf2_18, ra_I (g 54) cI 2400 kp, ra_I (g 9) cI 6 rf]) eu_22 hP hD rfl (fun hP hD => ?_)
    refine lv_aload_n hx hb dX12_go_20 rfl (lv_at hl 0 rfl) ?_
    refine sk_get (v := .long wy2_12) (C := RX12) (T := TX12) (N := 92) hx hb hts inlX12 hown hK hP 0 rfl rfl 45 (Nat.le_of_ble_eq_true rfl) w_5_200 rfl dX12_go_21 ?_
    refine lv_lconst (v := 0) hx hb dX12_go_24 (by decide) ?_
    refine W.lcmp hx hb dX12_go_25 ?_
    refine lv_if_ne (tgt := 35) hx hb dX12_go_26 (by decide) (fun c_23 => ?_) (fun c_23 => ?_)
    · have hnx : 0 < kcC (kcFo L wn Ba We U 0) dm 0 mN := Nat.pos_of_ne_zero (fun hq => c_23 (by rw [hwy_21, hq]; rfl))
      refine lv_aload_n hx hb dX12_go_35 rfl (lv_at hl 0 rfl) ?_
      refine sk_Vv (q0 := 0) (n := 0) (rest := []) (wr := fmR om_15_4402 _) ⟨hx, hb, hml, hown, hts⟩ hl.1 (c_nm_keeps l D cI cJ cC cZ cS mm g ta pa pe pd pb pp pf pg pn rt rn cd sn il tk2_7 am2_9 at_2_10 aa2_11 wt wy2_12 rm ud nu sd qn qw qo qb qp2_8 qa qi oc nw kp wn mN Ba We U ke lg su hnu hud hnw hkp) w_8_130 w_8_132 w_0_107 w_1_14 w_8_133 hd_X12_keeps_0 ⟨⟨(Nat.le_of_ble_eq_true rfl), (Nat.le_of_ble_eq_true rfl)⟩, (Nat.le_of_ble_eq_true rfl), (Nat.le_of_ble_eq_true rfl)⟩ hK hP hD hS hA (fmT om_15_4402 0) (fmF om_15_4402 0) (fm_C1 rfl rfl) (fm_R rfl rfl) (fm_nT om_15_4402 0) (fm_nF om_15_4402 0) (fm_di om_15_4402 0) rfl rfl rfl rfl (Nat.le_of_ble_eq_true rfl) dX12_go_36 (fun u H locs hw hP hD hS => ?_)
      refine exE hw (fun kp2_24 hw1 => exE hw1 (fun ud2_25 hw2 => anE hw2 (fun hud2_26 hw3 => anE hw3 (fun hkp2_27 eu_28 => ?_))))
      clear hw hw1 hw2 hw3
      refine o_mgE (ws' := [ro_ mm 12 (mo g (nI ta) (nI pa) (nI pe) pd (nI pb) pp pf pg pn rt rn (nI cd) sn (nI il) tk2_7 am2_9 at_2_10 aa2_11 0 0 (-1) wt wy2_12 0 (nI rm) (nI ud2_25) (nI ((nu + 1) % 20)) sd (nI qn) (nI qw) qo (nI qb) (nI qp2_8) qa (nI qi) (nI oc)), ra_I (g 24) cI 6 (l6 u0 u1 u2 u3 u4 u5), ra_I (g 25) cI 6 (l6 v0 v1 v2 v3 v4 v5), ra_N (g 26) cI 3200 cs, ra_I (g 31) cI 120 nw, ra_N (g 46) cI 9 pt, ra_J (g 86) cJ 1700 ql2_13, ra_I (g 20) cI 4 (l4 (nI l0) (nI l1) (nI dm) (nI l3)), ra_I (g 38) cI 90 ws_2_14, ra_I (g 36) cZ 900 yw2_15, ra_I (g 37) cZ 900 yo2_16, ra_J (g 43) cJ 90 be2_17, ra_J (g 44) cJ 90 bf2_18, ra_I (g 54) cI 2400 kp2_24, ra_I (g 9) cI 6 rf]) eu_28 hP hD rfl (fun hP hD => ?_)
      refine lv_aload_n hx hb dX12_go_39 rfl (lv_at hl 0 rfl) ?_
      refine lv_lconst (v := 0) hx hb dX12_go_40 (by decide) ?_
      refine sk_topl (nL 0) rfl ?_
      refine sk_Vv (q0 := 0) (n := 1) (rest := []) (wr := fmR om_15_46b8 _) ⟨hx, hb, hml, hown, hts⟩ hl.1 (c_nm_goesBy0 l D cI cJ cC cZ cS mm g ta pa pe pd pb pp pf pg pn rt rn cd sn il tk2_7 am2_9 at_2_10 aa2_11 wt wy2_12 rm ud2_25 ((nu + 1) % 20) sd qn qw qo qb qp2_8 qa qi oc l0 l1 dm l3 nw yo2_16 yw2_15 be2_17 pt wn mN Ba We U ke lg L 0 hdm (by omega) hbe_19 hcf_20 hwy_21 hnx hnw hpt) w_8_17 w_8_19 w_0_93 w_1_14 w_8_20 hd_X12_goesBy_1 ⟨⟨(Nat.le_of_ble_eq_true rfl), (Nat.le_of_ble_eq_true rfl)⟩, (Nat.le_of_ble_eq_true rfl), (Nat.le_of_ble_eq_true rfl)⟩ hK hP hD hS hA [0, 7, 4, 10, 9, 11, 5] (fmF om_15_46b8 0) rfl (fm_R rfl rfl) (by decide +kernel) (fm_nF om_15_46b8 0) (by decide +kernel) rfl rfl rfl rfl (Nat.le_of_ble_eq_true rfl) dX12_go_41 (fun u H locs hw hP hD hS => ?_)
      refine exE hw (fun nw2_29 hw1 => exE hw1 (fun pt2_30 hw2 => anE hw2 (fun hnw2_31 hw3 => anE hw3 (fun hpt2_32 eu_33 => ?_))))
      clear hw hw1 hw2 hw3
      refine o_mgqE (ux := [ro_ mm 12 (mo g (nI ta) (nI pa) (nI pe) pd (nI pb) pp pf pg pn rt rn (nI cd) sn (nI il) tk2_7 am2_9 at_2_10 aa2_11 0 0 (-1) wt wy2_12 0 (nI rm) (nI ud2_25) (nI ((nu + 1) % 20)) sd (nI qn) (nI qw) qo (nI qb) (nI qp2_8) qa (nI qi) (nI oc)), ra_I (g 31) cI 120 nw2_29, ra_N (g 46) cI 9 pt2_30, ra_I (g 20) cI 4 (l4 (nI l0) (nI l1) (nI dm) (nI l3)), ra_I (g 36) cZ 900 yw2_15, ra_I (g 37) cZ 900 yo2_16, ra_J (g 43) cJ 90 be2_17]) (ws' := [ro_ mm 12 (mo g (nI ta) (nI pa) (nI pe) pd (nI pb) pp pf pg pn rt rn (nI cd) sn (nI il) tk2_7 am2_9 at_2_10 aa2_11 0 0 (-1) wt wy2_12 0 (nI rm) (nI ud2_25) (nI ((nu + 1) % 20)) sd (nI qn) (nI qw) qo (nI qb) (nI qp2_8) qa (nI qi) (nI oc)), ra_I (g 24) cI 6 (l6 u0 u1 u2 u3 u4 u5), ra_I (g 25) cI 6 (l6 v0 v1 v2 v3 v4 v5), ra_N (g 26) cI 3200 cs, ra_I (g 31) cI 120 nw2_29, ra_N (g 46) cI 9 pt2_30, ra_J (g 86) cJ 1700 ql2_13, ra_I (g 20) cI 4 (l4 (nI l0) (nI l1) (nI dm) (nI l3)), ra_I (g 38) cI 90 ws_2_14, ra_I (g 36) cZ 900 yw2_15, ra_I (g 37) cZ 900 yo2_16, ra_J (g 43) cJ 90 be2_17, ra_J (g 44) cJ 90 bf2_18, ra_I (g 54) cI 2400 kp2_24, ra_I (g 9) cI 6 rf]) eu_33 [0, 2, 6, 1, 4, 3, 5] (by decide +kernel) rfl hP hD rfl (fun hP hD => ?_)
      refine lv_aload_n hx hb dX12_go_44 rfl (lv_at hl 0 rfl) ?_
      refine sk_get (v := .ref (g 31)) (C := RX12) (T := TX12) (N := 92) hx hb hts inlX12 hown hK hP 0 rfl rfl 31 (Nat.le_of_ble_eq_true rfl) w_5_186 rfl dX12_go_45 ?_
      refine lv_iconst (v := 1) hx hb dX12_go_48 ic_1 ?_
      refine va_iald hx hb hK.1 hP 4 0 rfl rfl (by unfold vp_in; decide) dX12_go_49 ?_
      refine sk_top (nI (kLast L dm (wn, mN, Ba, We, U, ke) 0)) (nwX_1 hnw2_31) ?_
      have hkL : kpX ud2_25 ((nu + 1) % 20) (psh ud su (wn, mN, Ba, We, U, ke)) (kKeep L dm (wn, mN, Ba, We, U, ke) lg 0) kp2_24 := kpX_lg hkp2_27 (psh_ke (ke := 0) hsk (by omega) (Nat.le_refl ke) hud2_26)
      exact sk_iret hx hb hr rfl hlocks hK hP hD hS (⟨(wn + 1), (kLast L dm (wn, mN, Ba, We, U, ke) 0), (ke + 1), (kKeep L dm (wn, mN, Ba, We, U, ke) lg 0), (psh ud su (wn, mN, Ba, We, U, ke)), nw2_29, kp2_24, tk2_7, qp2_8, am2_9, at_2_10, aa2_11, wy2_12, (nu + 1) % 20, ud2_25, pt2_30, ql2_13, ws_2_14, yw2_15, yo2_16, be2_17, bf2_18, rf, hnw2_31, hkL, by omega, by omega, (by rw [hud2_26]; exact go_y (n := (wn, mN, Ba, We, U, ke)) ⟨by omega, (show wn < 999 from by obtain ⟨h1, k, h2, h3, h4, h5⟩ := rr_1 hah_3 (by omega); omega), hnx⟩), hpt2_32, rfl⟩) (Nat.le_of_ble_eq_true rfl) (Nat.le_of_ble_eq_true rfl) dX12_go_50
    · have hz0 : kcC (kcFo L wn Ba We U 0) dm 0 mN = 0 := kz_0 (by rw [← hwy_21]; exact c_23) (by have := kcC_9 (kcFo L wn Ba We U 0) (show dm ≤ 9 by omega) 0 mN; omega)
      refine lv_aload_n hx hb dX12_go_29 rfl (lv_at hl 0 rfl) ?_
      refine lv_iconst (v := 3) hx hb dX12_go_30 ic_3 ?_
      refine sk_Vi (q0 := 0) (n := 1) (rest := []) (wr := fmR om_15_4001 _) ⟨hx, hb, hml, hown, hts⟩ hl.1 (c_nm_refuses l D cI cJ cC cZ cS mm g ta pa pe pd pb pp pf pg pn rt rn cd sn il tk2_7 am2_9 at_2_10 aa2_11 wt wy2_12 rm ud nu sd qn qw qo qb qp2_8 qa qi oc 3 rf (by omega)) w_8_97 w_8_99 w_0_104 w_1_14 w_8_100 hd_X12_refuses_1 ⟨⟨(Nat.le_of_ble_eq_true rfl), (Nat.le_of_ble_eq_true rfl)⟩, (Nat.le_of_ble_eq_true rfl), (Nat.le_of_ble_eq_true rfl)⟩ hK hP hD hS hA (fmT om_15_4001 0) (fmF om_15_4001 0) (fm_C1 rfl rfl) (fm_R rfl rfl) (fm_nT om_15_4001 0) (fm_nF om_15_4001 0) (fm_di om_15_4001 0) rfl rfl rfl rfl (Nat.le_of_ble_eq_true rfl) dX12_go_31 (fun r_35 u H locs hw hP hD hS => ?_)
      refine exE hw (fun rf2_34 hw1 => anE hw1 (fun hrf_36 hw2 => anE hw2 (fun er_38 eu_37 => ?_)))
      clear hw hw1 hw2
      subst er_38
      refine o_mgE (ws' := [ro_ mm 12 (mo g (nI ta) (nI pa) (nI pe) pd (nI pb) pp pf pg pn rt rn (nI cd) sn (nI il) tk2_7 am2_9 at_2_10 aa2_11 0 0 (-1) wt wy2_12 0 (nI rm) (nI ud) (nI nu) sd (nI qn) (nI qw) qo (nI qb) (nI qp2_8) qa (nI qi) (nI oc)), ra_I (g 24) cI 6 (l6 u0 u1 u2 u3 u4 u5), ra_I (g 25) cI 6 (l6 v0 v1 v2 v3 v4 v5), ra_N (g 26) cI 3200 cs, ra_I (g 31) cI 120 nw, ra_N (g 46) cI 9 pt, ra_J (g 86) cJ 1700 ql2_13, ra_I (g 20) cI 4 (l4 (nI l0) (nI l1) (nI dm) (nI l3)), ra_I (g 38) cI 90 ws_2_14, ra_I (g 36) cZ 900 yw2_15, ra_I (g 37) cZ 900 yo2_16, ra_J (g 43) cJ 90 be2_17, ra_J (g 44) cJ 90 bf2_18, ra_I (g 54) cI 2400 kp, ra_I (g 9) cI 6 rf2_34]) eu_37 hP hD rfl (fun hP hD => ?_)
      exact sk_iret hx hb hr rfl hlocks hK hP hD hS (⟨wn, mN, ke, lg, su, nw, kp, tk2_7, qp2_8, am2_9, at_2_10, aa2_11, wy2_12, nu, ud, pt, ql2_13, ws_2_14, yw2_15, yo2_16, be2_17, bf2_18, rf2_34, hnw, hkp, hnu, hud, go_n (fun hq => absurd (show 0 < kcC (kcFo L wn Ba We U 0) dm 0 mN from hq.2.2) (by omega)) hrf_36, hpt, rfl⟩) (Nat.le_of_ble_eq_true rfl) (Nat.le_of_ble_eq_true rfl) dX12_go_34
  · have c_6 : b_1 = 0 := (neq b_1 0 (by omega) (Nat.le_of_ble_eq_true rfl)).mp c_6
    refine lv_aload_n hx hb dX12_go_10 rfl (lv_at hl 0 rfl) ?_
    refine lv_iconst (v := 3) hx hb dX12_go_11 ic_3 ?_
    refine sk_Vi (q0 := 0) (n := 1) (rest := []) (wr := fmR om_15_4001 _) ⟨hx, hb, hml, hown, hts⟩ hl.1 (c_nm_refuses l D cI cJ cC cZ cS mm g ta pa pe pd pb pp pf pg pn rt rn cd sn il tk am at_ aa wt wy rm ud nu sd qn qw qo qb qp qa qi oc 3 rf (by omega)) w_8_97 w_8_99 w_0_104 w_1_14 w_8_100 hd_X12_refuses_1 ⟨⟨(Nat.le_of_ble_eq_true rfl), (Nat.le_of_ble_eq_true rfl)⟩, (Nat.le_of_ble_eq_true rfl), (Nat.le_of_ble_eq_true rfl)⟩ hK hP hD hS hA (fmT om_15_4001 0) (fmF om_15_4001 0) (fm_C1 rfl rfl) (fm_R rfl rfl) (fm_nT om_15_4001 0) (fm_nF om_15_4001 0) (fm_di om_15_4001 0) rfl rfl rfl rfl (Nat.le_of_ble_eq_true rfl) dX12_go_12 (fun r_40 u H locs hw hP hD hS => ?_)
    refine exE hw (fun rf2_39 hw1 => anE hw1 (fun hrf_41 hw2 => anE hw2 (fun er_43 eu_42 => ?_)))
    clear hw hw1 hw2
    subst er_43
    refine o_mgE (ws' := [ro_ mm 12 (mo g (nI ta) (nI pa) (nI pe) pd (nI pb) pp pf pg pn rt rn (nI cd) sn (nI il) tk am at_ aa 0 0 (-1) wt wy 0 (nI rm) (nI ud) (nI nu) sd (nI qn) (nI qw) qo (nI qb) (nI qp) qa (nI qi) (nI oc)), ra_I (g 24) cI 6 (l6 u0 u1 u2 u3 u4 u5), ra_I (g 25) cI 6 (l6 v0 v1 v2 v3 v4 v5), ra_N (g 26) cI 3200 cs, ra_I (g 31) cI 120 nw, ra_N (g 46) cI 9 pt, ra_J (g 86) cJ 1700 ql, ra_I (g 20) cI 4 (l4 (nI l0) (nI l1) (nI dm) (nI l3)), ra_I (g 38) cI 90 ws_, ra_I (g 36) cZ 900 yw, ra_I (g 37) cZ 900 yo, ra_J (g 43) cJ 90 be, ra_J (g 44) cJ 90 bf, ra_I (g 54) cI 2400 kp, ra_I (g 9) cI 6 rf2_39]) eu_42 hP hD rfl (fun hP hD => ?_)
    exact sk_iret hx hb hr rfl hlocks hK hP hD hS (⟨wn, mN, ke, lg, su, nw, kp, tk, qp, am, at_, aa, wy, nu, ud, pt, ql, ws_, yw, yo, be, bf, rf2_39, hnw, hkp, hnu, hud, go_n (fun hq => rr_0 hah_3 (by omega) ⟨hilb hq.1, 1, by omega, by omega, rfl, by have h9 : wn < 999 := hq.2.1; omega⟩) hrf_41, hpt, rfl⟩) (Nat.le_of_ble_eq_true rfl) (Nat.le_of_ble_eq_true rfl) dX12_go_15
theorem dg_X12_drawOf_0_0 : bqL cX12_drawOf 0 [(0, [42]), (1, [20, 1, 225]), (4, [42]), (5, [180, 0, 110]), (8, [105]), (9, [20, 1, 227]), (12, [97]), (13, [20, 1, 229]), (16, [113]), (17, [181, 0, 110]), (20, [42]), (21, [180, 0, 110]), (24, [20, 1, 231]), (27, [109]), (28, [31]), (29, [113]), (30, [173])] = true := by decide +kernel
theorem dX12_drawOf_0 : decode cX12_drawOf 0 = .ok (.aload_n 0, 1) := q_aload_n0 (bat_get dg_X12_drawOf_0_0 0 rfl rfl)
theorem dX12_drawOf_1 : decode cX12_drawOf 1 = .ok (.ldc2_w 481, 3) := q_ldc2_w (bat_get dg_X12_drawOf_0_0 1 rfl rfl) rfl
theorem dX12_drawOf_4 : decode cX12_drawOf 4 = .ok (.aload_n 0, 1) := q_aload_n0 (bat_get dg_X12_drawOf_0_0 2 rfl rfl)
theorem dX12_drawOf_5 : decode cX12_drawOf 5 = .ok (.getfield 110, 3) := q_getfield (bat_get dg_X12_drawOf_0_0 3 rfl rfl) rfl
theorem dX12_drawOf_8 : decode cX12_drawOf 8 = .ok (.lmul, 1) := q_lmul (bat_get dg_X12_drawOf_0_0 4 rfl rfl)
theorem dX12_drawOf_9 : decode cX12_drawOf 9 = .ok (.ldc2_w 483, 3) := q_ldc2_w (bat_get dg_X12_drawOf_0_0 5 rfl rfl) rfl
theorem dX12_drawOf_12 : decode cX12_drawOf 12 = .ok (.ladd, 1) := q_ladd (bat_get dg_X12_drawOf_0_0 6 rfl rfl)
theorem dX12_drawOf_13 : decode cX12_drawOf 13 = .ok (.ldc2_w 485, 3) := q_ldc2_w (bat_get dg_X12_drawOf_0_0 7 rfl rfl) rfl
theorem dX12_drawOf_16 : decode cX12_drawOf 16 = .ok (.lrem, 1) := q_lrem (bat_get dg_X12_drawOf_0_0 8 rfl rfl)
theorem dX12_drawOf_17 : decode cX12_drawOf 17 = .ok (.putfield 110, 3) := q_putfield (bat_get dg_X12_drawOf_0_0 9 rfl rfl) rfl
theorem dX12_drawOf_20 : decode cX12_drawOf 20 = .ok (.aload_n 0, 1) := q_aload_n0 (bat_get dg_X12_drawOf_0_0 10 rfl rfl)
theorem dX12_drawOf_21 : decode cX12_drawOf 21 = .ok (.getfield 110, 3) := q_getfield (bat_get dg_X12_drawOf_0_0 11 rfl rfl) rfl
theorem dX12_drawOf_24 : decode cX12_drawOf 24 = .ok (.ldc2_w 487, 3) := q_ldc2_w (bat_get dg_X12_drawOf_0_0 12 rfl rfl) rfl
theorem dX12_drawOf_27 : decode cX12_drawOf 27 = .ok (.ldiv, 1) := q_ldiv (bat_get dg_X12_drawOf_0_0 13 rfl rfl)
theorem dX12_drawOf_28 : decode cX12_drawOf 28 = .ok (.lload_n 1, 1) := q_lload_n1 (bat_get dg_X12_drawOf_0_0 14 rfl rfl)
theorem dX12_drawOf_29 : decode cX12_drawOf 29 = .ok (.lrem, 1) := q_lrem (bat_get dg_X12_drawOf_0_0 15 rfl rfl)
theorem dX12_drawOf_30 : decode cX12_drawOf 30 = .ok (.lreturn, 1) := q_lreturn (bat_get dg_X12_drawOf_0_0 16 rfl rfl)
theorem w_8_159 : (Cond.constantLong RX12 481 (1103515245)) ∈ wsL_law := sk_mem (ck_8 _ (List.mem_of_getElem? (i := 159) rfl)) rfl
theorem w_8_160 : (Cond.constantLong RX12 483 (12345)) ∈ wsL_law := sk_mem (ck_8 _ (List.mem_of_getElem? (i := 160) rfl)) rfl
theorem w_8_161 : (Cond.constantLong RX12 485 (2147483648)) ∈ wsL_law := sk_mem (ck_8 _ (List.mem_of_getElem? (i := 161) rfl)) rfl
theorem w_8_162 : (Cond.constantLong RX12 487 (64)) ∈ wsL_law := sk_mem (ck_8 _ (List.mem_of_getElem? (i := 162) rfl)) rfl
theorem w_8_158 : (Cond.code yX12_drawOf cX12_drawOf 3 (some .long)) ∈ wsL_law := sk_mem (ck_8 _ (List.mem_of_getElem? (i := 158) rfl)) rfl
set_option maxHeartbeats 4000000 in
set_option maxRecDepth 100000 in
theorem c_nm_drawOf (l : Launch) (D : va_G) (cI cJ cC cZ cS : ClassId) (mm : Nat) (g : Nat → Nat) (ta : Nat) (pa : Nat) (pe : Nat) (pd : Int32) (pb : Nat) (pp : Int32) (pf : Int32) (pg : Int32) (pn : Int32) (rt : Int32) (cd : Nat) (sn : Int32) (il : Nat) (tk : Int32) (am : Int32) (at_ : Int32) (aa : Int32) (wt : Int32) (wy : Int64) (rm : Nat) (ud : Nat) (nu : Nat) (qn : Nat) (qw : Nat) (qo : Int32) (qb : Nat) (qp : Nat) (qa : Int64) (qi : Nat) (oc : Nat) (sv : Nat) (L : LkS) (mq : Nat) (hsv : sv < 2147483648) (hm1 : 1 ≤ mq) (hm2 : mq ≤ 1000000000) : skM l yX12_drawOf cX12_drawOf 3 (some .long) 0 0 0 0 D (skT cI cJ cC cZ cS) [.ref mm, .long (Int64.ofNat mq)] [ro_ mm 12 (mo g (nI ta) (nI pa) (nI pe) pd (nI pb) pp pf pg pn rt (nI (lRn L)) (nI cd) sn (nI il) tk am at_ aa 0 0 (-1) wt wy 0 (nI rm) (nI ud) (nI nu) (Int64.ofNat sv) (nI qn) (nI qw) qo (nI qb) (nI qp) qa (nI qi) (nI oc))] (skL D (skT cI cJ cC cZ cS) (fun (r : Int64) (u : va_W) => r = Int64.ofNat (kdv sv mq) ∧ u = [ro_ mm 12 (mo g (nI ta) (nI pa) (nI pe) pd (nI pb) pp pf pg pn rt (nI (lRn L)) (nI cd) sn (nI il) tk am at_ aa 0 0 (-1) wt wy 0 (nI rm) (nI ud) (nI nu) (Int64.ofNat (kdr sv)) (nI qn) (nI qw) qo (nI qb) (nI qp) qa (nI qi) (nI oc))])) := by
  refine skM_of pf_X12_drawOf (Nat.le_of_ble_eq_true rfl) ?_
  intro p e s m below meth c A ls E hP hD hl
  refine skE_el E (fun hx hb hr hml hlocks hin hown hts hK hA => ?_)
  have hown : s.vm.findClass RX12 = some m.cls := hown
  have hS : va_S A s.heap s.heap [] := va_S.rf
  have hl : lv_has ls 3 [(0, .ref mm), (1, .long (Int64.ofNat mq))] := hl
  refine lv_aload_n hx hb dX12_drawOf_0 rfl (lv_at hl 0 rfl) ?_
  refine lv_ldc2 (v := 1103515245) hx hb hown (hts _ w_8_159) dX12_drawOf_1 ?_
  refine lv_aload_n hx hb dX12_drawOf_4 rfl (lv_at hl 0 rfl) ?_
  refine sk_get (v := .long (Int64.ofNat sv)) (C := RX12) (T := TX12) (N := 92) hx hb hts inlX12 hown hK hP 0 rfl rfl 57 (Nat.le_of_ble_eq_true rfl) w_5_212 rfl dX12_drawOf_5 ?_
  refine lv_lmul hx hb dX12_drawOf_8 ?_
  refine lv_ldc2 (v := 12345) hx hb hown (hts _ w_8_160) dX12_drawOf_9 ?_
  refine lv_ladd hx hb dX12_drawOf_12 ?_
  refine lv_ldc2 (v := 2147483648) hx hb hown (hts _ w_8_161) dX12_drawOf_13 ?_
  refine lv_lrem hx hb dX12_drawOf_16 (by decide) ?_
  have hkd := kdr_lt sv
  refine sk_topl (Int64.ofNat (kdr sv)) (kdr_rem sv hsv) ?_
  refine sk_put (ws' := [ro_ mm 12 (mo g (nI ta) (nI pa) (nI pe) pd (nI pb) pp pf pg pn rt (nI (lRn L)) (nI cd) sn (nI il) tk am at_ aa 0 0 (-1) wt wy 0 (nI rm) (nI ud) (nI nu) (Int64.ofNat (kdr sv)) (nI qn) (nI qw) qo (nI qb) (nI qp) qa (nI qi) (nI oc))]) (C := RX12) (T := TX12) (N := 92) (v := .long (Int64.ofNat (kdr sv))) hx hb hts inlX12 tyX12 tyX12_ok nmX12 hown hK hP hD hS 0 rfl rfl 57 (Nat.le_of_ble_eq_true rfl) w_5_212 rfl rfl rfl (Nat.le_of_ble_eq_true rfl) rfl dX12_drawOf_17 (fun H locs hP hD hS => ?_)
  refine lv_aload_n hx hb dX12_drawOf_20 rfl (lv_at hl 0 rfl) ?_
  refine sk_get (v := .long (Int64.ofNat (kdr sv))) (C := RX12) (T := TX12) (N := 92) hx hb hts inlX12 hown hK hP 0 rfl rfl 57 (Nat.le_of_ble_eq_true rfl) w_5_212 rfl dX12_drawOf_21 ?_
  refine lv_ldc2 (v := 64) hx hb hown (hts _ w_8_162) dX12_drawOf_24 ?_
  refine lv_ldiv hx hb dX12_drawOf_27 (by decide) ?_
  refine sk_topl (Int64.ofNat (kdr sv / 64)) (kofn_div (b := 64) (by omega) (by decide) (by decide)) ?_
  refine lv_lload_n hx hb dX12_drawOf_28 rfl (lv_at hl 1 rfl) ?_
  refine lv_lrem hx hb dX12_drawOf_29 (kofn_ne hm1 (by omega)) ?_
  refine sk_topl (Int64.ofNat (kdv sv mq)) (kofn_rem (by omega) (by omega) (by omega)) ?_
  exact sk_lret hx hb hr hlocks hK hP hD hS (⟨rfl, rfl⟩) (Nat.le_of_ble_eq_true rfl) (Nat.le_of_ble_eq_true rfl) dX12_drawOf_30
theorem dg_X12_drawsDays_0_0 : bqL cX12_drawsDays 0 [(0, [3]), (1, [60]), (2, [27]), (3, [42]), (4, [182, 1, 59]), (7, [162, 0, 84]), (91, [177]), (10, [5]), (11, [6]), (12, [27]), (13, [104]), (14, [96]), (15, [61]), (16, [42]), (17, [20, 1, 233]), (20, [182, 1, 235]), (23, [42]), (24, [180, 1, 50]), (27, [133]), (28, [148]), (29, [156, 0, 42]), (71, [42]), (72, [180, 0, 63]), (75, [28]), (76, [42]), (77, [20, 1, 78]), (80, [182, 1, 235]), (83, [136]), (84, [79]), (85, [132, 1, 1]), (88, [167, 255, 170]), (32, [42]), (33, [180, 0, 63]), (36, [28]), (37, [4]), (38, [96]), (39, [42]), (40, [180, 0, 63]), (43, [28]), (44, [4])] = true := by decide +kernel
theorem dX12_drawsDays_0 : decode cX12_drawsDays 0 = .ok (.iconst 0, 1) := q_iconst0 (bat_get dg_X12_drawsDays_0_0 0 rfl rfl)
theorem dX12_drawsDays_1 : decode cX12_drawsDays 1 = .ok (.istore_n 1, 1) := q_istore_n1 (bat_get dg_X12_drawsDays_0_0 1 rfl rfl)
theorem dX12_drawsDays_2 : decode cX12_drawsDays 2 = .ok (.iload_n 1, 1) := q_iload_n1 (bat_get dg_X12_drawsDays_0_0 2 rfl rfl)
theorem dX12_drawsDays_3 : decode cX12_drawsDays 3 = .ok (.aload_n 0, 1) := q_aload_n0 (bat_get dg_X12_drawsDays_0_0 3 rfl rfl)
theorem dX12_drawsDays_4 : decode cX12_drawsDays 4 = .ok (.invokevirtual 315, 3) := q_invokevirtual (bat_get dg_X12_drawsDays_0_0 4 rfl rfl) rfl
theorem dX12_drawsDays_7 : decode cX12_drawsDays 7 = .ok (.if_icmp .ge 84, 3) := q_if_icmp_ge (bat_get dg_X12_drawsDays_0_0 5 rfl rfl) rfl
theorem dX12_drawsDays_91 : decode cX12_drawsDays 91 = .ok (.return_, 1) := q_return_ (bat_get dg_X12_drawsDays_0_0 6 rfl rfl)
theorem dX12_drawsDays_10 : decode cX12_drawsDays 10 = .ok (.iconst 2, 1) := q_iconst2 (bat_get dg_X12_drawsDays_0_0 7 rfl rfl)
theorem dX12_drawsDays_11 : decode cX12_drawsDays 11 = .ok (.iconst 3, 1) := q_iconst3 (bat_get dg_X12_drawsDays_0_0 8 rfl rfl)
theorem dX12_drawsDays_12 : decode cX12_drawsDays 12 = .ok (.iload_n 1, 1) := q_iload_n1 (bat_get dg_X12_drawsDays_0_0 9 rfl rfl)
theorem dX12_drawsDays_13 : decode cX12_drawsDays 13 = .ok (.imul, 1) := q_imul (bat_get dg_X12_drawsDays_0_0 10 rfl rfl)
theorem dX12_drawsDays_14 : decode cX12_drawsDays 14 = .ok (.iadd, 1) := q_iadd (bat_get dg_X12_drawsDays_0_0 11 rfl rfl)
theorem dX12_drawsDays_15 : decode cX12_drawsDays 15 = .ok (.istore_n 2, 1) := q_istore_n2 (bat_get dg_X12_drawsDays_0_0 12 rfl rfl)
theorem dX12_drawsDays_16 : decode cX12_drawsDays 16 = .ok (.aload_n 0, 1) := q_aload_n0 (bat_get dg_X12_drawsDays_0_0 13 rfl rfl)
theorem dX12_drawsDays_17 : decode cX12_drawsDays 17 = .ok (.ldc2_w 489, 3) := q_ldc2_w (bat_get dg_X12_drawsDays_0_0 14 rfl rfl) rfl
theorem dX12_drawsDays_20 : decode cX12_drawsDays 20 = .ok (.invokevirtual 491, 3) := q_invokevirtual (bat_get dg_X12_drawsDays_0_0 15 rfl rfl) rfl
theorem dX12_drawsDays_23 : decode cX12_drawsDays 23 = .ok (.aload_n 0, 1) := q_aload_n0 (bat_get dg_X12_drawsDays_0_0 16 rfl rfl)
theorem dX12_drawsDays_24 : decode cX12_drawsDays 24 = .ok (.getfield 306, 3) := q_getfield (bat_get dg_X12_drawsDays_0_0 17 rfl rfl) rfl
theorem dX12_drawsDays_27 : decode cX12_drawsDays 27 = .ok (.i2l, 1) := q_i2l (bat_get dg_X12_drawsDays_0_0 18 rfl rfl)
theorem dX12_drawsDays_28 : decode cX12_drawsDays 28 = .ok (.lcmp, 1) := q_lcmp (bat_get dg_X12_drawsDays_0_0 19 rfl rfl)
theorem dX12_drawsDays_29 : decode cX12_drawsDays 29 = .ok (.ifCond .ge 42, 3) := q_ifCond_ge (bat_get dg_X12_drawsDays_0_0 20 rfl rfl) rfl
theorem dX12_drawsDays_71 : decode cX12_drawsDays 71 = .ok (.aload_n 0, 1) := q_aload_n0 (bat_get dg_X12_drawsDays_0_0 21 rfl rfl)
theorem dX12_drawsDays_72 : decode cX12_drawsDays 72 = .ok (.getfield 63, 3) := q_getfield (bat_get dg_X12_drawsDays_0_0 22 rfl rfl) rfl
theorem dX12_drawsDays_75 : decode cX12_drawsDays 75 = .ok (.iload_n 2, 1) := q_iload_n2 (bat_get dg_X12_drawsDays_0_0 23 rfl rfl)
theorem dX12_drawsDays_76 : decode cX12_drawsDays 76 = .ok (.aload_n 0, 1) := q_aload_n0 (bat_get dg_X12_drawsDays_0_0 24 rfl rfl)
theorem dX12_drawsDays_77 : decode cX12_drawsDays 77 = .ok (.ldc2_w 334, 3) := q_ldc2_w (bat_get dg_X12_drawsDays_0_0 25 rfl rfl) rfl
theorem dX12_drawsDays_80 : decode cX12_drawsDays 80 = .ok (.invokevirtual 491, 3) := q_invokevirtual (bat_get dg_X12_drawsDays_0_0 26 rfl rfl) rfl
theorem dX12_drawsDays_83 : decode cX12_drawsDays 83 = .ok (.l2i, 1) := q_l2i (bat_get dg_X12_drawsDays_0_0 27 rfl rfl)
theorem dX12_drawsDays_84 : decode cX12_drawsDays 84 = .ok (.iastore, 1) := q_iastore (bat_get dg_X12_drawsDays_0_0 28 rfl rfl)
theorem dX12_drawsDays_85 : decode cX12_drawsDays 85 = .ok (.iinc 1 1, 3) := q_iinc (bat_get dg_X12_drawsDays_0_0 29 rfl rfl) rfl
theorem dX12_drawsDays_88 : decode cX12_drawsDays 88 = .ok (.goto (-86), 3) := q_goto (bat_get dg_X12_drawsDays_0_0 30 rfl rfl) rfl
theorem dX12_drawsDays_32 : decode cX12_drawsDays 32 = .ok (.aload_n 0, 1) := q_aload_n0 (bat_get dg_X12_drawsDays_0_0 31 rfl rfl)
theorem dX12_drawsDays_33 : decode cX12_drawsDays 33 = .ok (.getfield 63, 3) := q_getfield (bat_get dg_X12_drawsDays_0_0 32 rfl rfl) rfl
theorem dX12_drawsDays_36 : decode cX12_drawsDays 36 = .ok (.iload_n 2, 1) := q_iload_n2 (bat_get dg_X12_drawsDays_0_0 33 rfl rfl)
theorem dX12_drawsDays_37 : decode cX12_drawsDays 37 = .ok (.iconst 1, 1) := q_iconst1 (bat_get dg_X12_drawsDays_0_0 34 rfl rfl)
theorem dX12_drawsDays_38 : decode cX12_drawsDays 38 = .ok (.iadd, 1) := q_iadd (bat_get dg_X12_drawsDays_0_0 35 rfl rfl)
theorem dX12_drawsDays_39 : decode cX12_drawsDays 39 = .ok (.aload_n 0, 1) := q_aload_n0 (bat_get dg_X12_drawsDays_0_0 36 rfl rfl)
theorem dX12_drawsDays_40 : decode cX12_drawsDays 40 = .ok (.getfield 63, 3) := q_getfield (bat_get dg_X12_drawsDays_0_0 37 rfl rfl) rfl
theorem dX12_drawsDays_43 : decode cX12_drawsDays 43 = .ok (.iload_n 2, 1) := q_iload_n2 (bat_get dg_X12_drawsDays_0_0 38 rfl rfl)
theorem dX12_drawsDays_44 : decode cX12_drawsDays 44 = .ok (.iconst 1, 1) := q_iconst1 (bat_get dg_X12_drawsDays_0_0 39 rfl rfl)
theorem dg_X12_drawsDays_45_45 : bqL cX12_drawsDays 45 [(0, [96]), (1, [46]), (2, [16, 9]), (4, [160, 0, 8]), (12, [42]), (13, [180, 0, 63]), (16, [28]), (17, [4]), (18, [96]), (19, [46]), (20, [4]), (21, [96]), (22, [79]), (23, [167, 0, 17]), (7, [16, 9]), (9, [167, 0, 13])] = true := by decide +kernel
theorem dX12_drawsDays_45 : decode cX12_drawsDays 45 = .ok (.iadd, 1) := q_iadd (bat_get dg_X12_drawsDays_45_45 0 rfl rfl)
theorem dX12_drawsDays_46 : decode cX12_drawsDays 46 = .ok (.iaload, 1) := q_iaload (bat_get dg_X12_drawsDays_45_45 1 rfl rfl)
theorem dX12_drawsDays_47 : decode cX12_drawsDays 47 = .ok (.bipush 9, 2) := q_bipush (bat_get dg_X12_drawsDays_45_45 2 rfl rfl) rfl
theorem dX12_drawsDays_49 : decode cX12_drawsDays 49 = .ok (.if_icmp .ne 8, 3) := q_if_icmp_ne (bat_get dg_X12_drawsDays_45_45 3 rfl rfl) rfl
theorem dX12_drawsDays_57 : decode cX12_drawsDays 57 = .ok (.aload_n 0, 1) := q_aload_n0 (bat_get dg_X12_drawsDays_45_45 4 rfl rfl)
theorem dX12_drawsDays_58 : decode cX12_drawsDays 58 = .ok (.getfield 63, 3) := q_getfield (bat_get dg_X12_drawsDays_45_45 5 rfl rfl) rfl
theorem dX12_drawsDays_61 : decode cX12_drawsDays 61 = .ok (.iload_n 2, 1) := q_iload_n2 (bat_get dg_X12_drawsDays_45_45 6 rfl rfl)
theorem dX12_drawsDays_62 : decode cX12_drawsDays 62 = .ok (.iconst 1, 1) := q_iconst1 (bat_get dg_X12_drawsDays_45_45 7 rfl rfl)
theorem dX12_drawsDays_63 : decode cX12_drawsDays 63 = .ok (.iadd, 1) := q_iadd (bat_get dg_X12_drawsDays_45_45 8 rfl rfl)
theorem dX12_drawsDays_64 : decode cX12_drawsDays 64 = .ok (.iaload, 1) := q_iaload (bat_get dg_X12_drawsDays_45_45 9 rfl rfl)
theorem dX12_drawsDays_65 : decode cX12_drawsDays 65 = .ok (.iconst 1, 1) := q_iconst1 (bat_get dg_X12_drawsDays_45_45 10 rfl rfl)
theorem dX12_drawsDays_66 : decode cX12_drawsDays 66 = .ok (.iadd, 1) := q_iadd (bat_get dg_X12_drawsDays_45_45 11 rfl rfl)
theorem dX12_drawsDays_67 : decode cX12_drawsDays 67 = .ok (.iastore, 1) := q_iastore (bat_get dg_X12_drawsDays_45_45 12 rfl rfl)
theorem dX12_drawsDays_68 : decode cX12_drawsDays 68 = .ok (.goto 17, 3) := q_goto (bat_get dg_X12_drawsDays_45_45 13 rfl rfl) rfl
theorem dX12_drawsDays_52 : decode cX12_drawsDays 52 = .ok (.bipush 9, 2) := q_bipush (bat_get dg_X12_drawsDays_45_45 14 rfl rfl) rfl
theorem dX12_drawsDays_54 : decode cX12_drawsDays 54 = .ok (.goto 13, 3) := q_goto (bat_get dg_X12_drawsDays_45_45 15 rfl rfl) rfl
theorem w_8_154 : (Cond.constantLong RX12 489 (100)) ∈ wsL_law := sk_mem (ck_8 _ (List.mem_of_getElem? (i := 154) rfl)) rfl
theorem w_8_155 : (Cond.methodLink RX12 491 yX12_drawOf) ∈ wsL_law := sk_mem (ck_8 _ (List.mem_of_getElem? (i := 155) rfl)) rfl
theorem w_8_157 : (Cond.instanceMethod yX12_drawOf) ∈ wsL_law := sk_mem (ck_8 _ (List.mem_of_getElem? (i := 157) rfl)) rfl
theorem w_0_109 : (Cond.selects RX12 yX12_drawOf yX12_drawOf) ∈ wsL_law := sk_mem (ck_0 _ (List.mem_of_getElem? (i := 109) rfl)) rfl
theorem w_5_178 : (Cond.fieldLink RX12 306 "SameKeeperModel" "rain" "I") ∈ wsL_law := sk_mem (ck_5 _ (List.mem_of_getElem? (i := 178) rfl)) rfl
theorem w_8_153 : (Cond.code yX12_drawsDays cX12_drawsDays 3 none) ∈ wsL_law := sk_mem (ck_8 _ (List.mem_of_getElem? (i := 153) rfl)) rfl
theorem hd_X12_drawOf_1 : skD yX12_drawOf 1 := by decide +kernel
set_option maxHeartbeats 4000000 in
set_option maxRecDepth 100000 in
theorem c_nm_drawsDays (l : Launch) (D : va_G) (cI cJ cC cZ cS : ClassId) (mm : Nat) (g : Nat → Nat) (ta : Nat) (pa : Nat) (pe : Nat) (pd : Int32) (pb : Nat) (pp : Int32) (pf : Int32) (pg : Int32) (pn : Int32) (rt : Int32) (cd : Nat) (sn : Int32) (il : Nat) (tk : Int32) (am : Int32) (at_ : Int32) (aa : Int32) (wt : Int32) (wy : Int64) (rm : Nat) (ud : Nat) (nu : Nat) (qn : Nat) (qw : Nat) (qo : Int32) (qb : Nat) (qp : Nat) (qa : Int64) (qi : Nat) (oc : Nat) (l0 : Nat) (l1 : Nat) (dm : Nat) (l3 : Nat) (nw : Nat → Int32) (wn : Nat) (mN : Nat) (Ba : Nat → Nat) (We : Nat → Nat) (U : Nat → Bool) (ke : Nat) (lg : KLg) (sv : Nat) (L : LkS) (hdm : dm ≤ 9) (hsv : sv < 2147483648) (hrn : lRn L ≤ 100) (hB9 : ∀ j, Ba j ≤ 9) (hW9 : ∀ j, We j ≤ 9) (hnw : nwX wn mN Ba We U ke lg nw) : skM l yX12_drawsDays cX12_drawsDays 3 none 1 22 0 0 D (skT cI cJ cC cZ cS) [.ref mm] [ro_ mm 12 (mo g (nI ta) (nI pa) (nI pe) pd (nI pb) pp pf pg pn rt (nI (lRn L)) (nI cd) sn (nI il) tk am at_ aa 0 0 (-1) wt wy 0 (nI rm) (nI ud) (nI nu) (Int64.ofNat sv) (nI qn) (nI qw) qo (nI qb) (nI qp) qa (nI qi) (nI oc)), ra_I (g 20) cI 4 (l4 (nI l0) (nI l1) (nI dm) (nI l3)), ra_I (g 31) cI 120 nw] (skV D (skT cI cJ cC cZ cS) (fun (u : va_W) => ∃ (nw2 : Nat → Int32), nwX wn mN ((kda (lRn L) (sv, Ba, We) dm).2.1) ((kda (lRn L) (sv, Ba, We) dm).2.2) U ke lg nw2 ∧ u = [ro_ mm 12 (mo g (nI ta) (nI pa) (nI pe) pd (nI pb) pp pf pg pn rt (nI (lRn L)) (nI cd) sn (nI il) tk am at_ aa 0 0 (-1) wt wy 0 (nI rm) (nI ud) (nI nu) (Int64.ofNat (kda (lRn L) (sv, Ba, We) dm).1) (nI qn) (nI qw) qo (nI qb) (nI qp) qa (nI qi) (nI oc)), ra_I (g 20) cI 4 (l4 (nI l0) (nI l1) (nI dm) (nI l3)), ra_I (g 31) cI 120 nw2])) := by
  refine skM_of pf_X12_drawsDays (Nat.le_of_ble_eq_true rfl) ?_
  intro p e s m below meth c A ls E hP hD hl
  refine skE_el E (fun hx hb hr hml hlocks hin hown hts hK hA => ?_)
  have hown : s.vm.findClass RX12 = some m.cls := hown
  have hS : va_S A s.heap s.heap [] := va_S.rf
  have hl : lv_has ls 3 [(0, .ref mm)] := hl
  refine lv_iconst (v := 0) hx hb dX12_drawsDays_0 ic_0 ?_
  refine lv_istore_n (lv' := [(1, .int 0), (0, .ref mm)]) hx hb dX12_drawsDays_1 rfl hl (by decide) rfl (fun ls hl => ?_)
  have lp_1 : ∀ (n_2 : Nat) (i : Nat) (zr : Int64) (zn : Nat → Int32) (SS : KDs) (H : Heap) (locs : List Loc) (ls : Array Slot), dm - i < n_2 → (i ≤ dm) → (SS = kda (lRn L) (sv, Ba, We) i) → (zr = Int64.ofNat SS.1) → ((∀ j, SS.2.1 j ≤ 9) ∧ (∀ j, SS.2.2 j ≤ 9) ∧ SS.1 < 2147483648) → (nwX wn mN SS.2.1 SS.2.2 U ke lg zn) → va_P D vwCl [ro_ mm 12 (mo g (nI ta) (nI pa) (nI pe) pd (nI pb) pp pf pg pn rt (nI (lRn L)) (nI cd) sn (nI il) tk am at_ aa 0 0 (-1) wt wy 0 (nI rm) (nI ud) (nI nu) zr (nI qn) (nI qw) qo (nI qb) (nI qp) qa (nI qi) (nI oc)), ra_I (g 20) cI 4 (l4 (nI l0) (nI l1) (nI dm) (nI l3)), ra_I (g 31) cI 120 zn] H → va_D A [ro_ mm 12 (mo g (nI ta) (nI pa) (nI pe) pd (nI pb) pp pf pg pn rt (nI (lRn L)) (nI cd) sn (nI il) tk am at_ aa 0 0 (-1) wt wy 0 (nI rm) (nI ud) (nI nu) zr (nI qn) (nI qw) qo (nI qb) (nI qp) qa (nI qi) (nI oc)), ra_I (g 20) cI 4 (l4 (nI l0) (nI l1) (nI dm) (nI l3)), ra_I (g 31) cI 120 zn] → va_S A s.heap H locs → lv_has ls 3 [(1, .int (nI i)), (0, .ref mm)] → W p l e { frames := 1, cells := 0, slots := 0, locals := 22 } s m ([.ref mm] : List Value).toArray below meth c H locs 0 0 (MQ below (skV D (skT cI cJ cC cZ cS) (fun (u : va_W) => ∃ (nw2 : Nat → Int32), nwX wn mN ((kda (lRn L) (sv, Ba, We) dm).2.1) ((kda (lRn L) (sv, Ba, We) dm).2.2) U ke lg nw2 ∧ u = [ro_ mm 12 (mo g (nI ta) (nI pa) (nI pe) pd (nI pb) pp pf pg pn rt (nI (lRn L)) (nI cd) sn (nI il) tk am at_ aa 0 0 (-1) wt wy 0 (nI rm) (nI ud) (nI nu) (Int64.ofNat (kda (lRn L) (sv, Ba, We) dm).1) (nI qn) (nI qw) qo (nI qb) (nI qp) qa (nI qi) (nI oc)), ra_I (g 20) cI 4 (l4 (nI l0) (nI l1) (nI dm) (nI l3)), ra_I (g 31) cI 120 nw2]) A) ([.ref mm] : List Value).toArray s 0 0 A) (F0 m 2 ls []) := by
    intro n_2
    induction n_2 with
    | zero => intro i zr zn SS H locs ls hm; exact absurd hm (Nat.not_lt_zero _)
    | succ n_2 ih_lp_1 =>
      intro i zr zn SS H locs ls hm hi hSS hzr h99 hzn hP hD hS hl
      refine lv_iload_n hx hb dX12_drawsDays_2 rfl (lv_at hl 0 rfl) ?_
      refine lv_aload_n hx hb dX12_drawsDays_3 rfl (lv_at hl 1 rfl) ?_
      refine sk_Vi (q0 := 0) (n := 0) (rest := [.int (nI i)]) (wr := fmR om_3_6 _) ⟨hx, hb, hml, hown, hts⟩ hl.1 (c_m_dayMany l D cI cJ cC cZ cS mm g ta pa pe pd pb pp pf pg pn rt (nI (lRn L)) cd sn il tk am at_ aa 0 0 (-1) wt wy 0 rm ud nu zr qn qw qo qb qp qa qi oc l0 l1 dm l3) w_7_98 w_7_100 w_0_69 w_1_14 w_7_101 hd_X12_dayMany_0 ⟨⟨(Nat.le_of_ble_eq_true rfl), (Nat.le_of_ble_eq_true rfl)⟩, (Nat.le_of_ble_eq_true rfl), (Nat.le_of_ble_eq_true rfl)⟩ hK hP hD hS hA (fmT om_3_6 0) (fmF om_3_6 0) (fm_C1 rfl rfl) (fm_R rfl rfl) (fm_nT om_3_6 0) (fm_nF om_3_6 0) (fm_di om_3_6 0) rfl rfl rfl rfl (Nat.le_of_ble_eq_true rfl) dX12_drawsDays_4 (fun r_3 u H locs hw hP hD hS => ?_)
      refine anE hw (fun er_5 eu_4 => ?_)
      clear hw
      subst er_5
      refine o_mgE (ws' := [ro_ mm 12 (mo g (nI ta) (nI pa) (nI pe) pd (nI pb) pp pf pg pn rt (nI (lRn L)) (nI cd) sn (nI il) tk am at_ aa 0 0 (-1) wt wy 0 (nI rm) (nI ud) (nI nu) zr (nI qn) (nI qw) qo (nI qb) (nI qp) qa (nI qi) (nI oc)), ra_I (g 20) cI 4 (l4 (nI l0) (nI l1) (nI dm) (nI l3)), ra_I (g 31) cI 120 zn]) eu_4 hP hD rfl (fun hP hD => ?_)
      refine lv_icmp_ge (tgt := 91) hx hb dX12_drawsDays_7 (by decide) (fun c_6 => ?_) (fun c_6 => ?_)
      · have c_6 : dm ≤ i := (nle dm i (by omega) (by omega)).mp c_6
        subst hzr
        obtain rfl : dm = i := by omega
        subst hSS
        exact sk_vret hx hb hr hlocks hK hP hD hS (⟨zn, hzn, rfl⟩) (Nat.le_of_ble_eq_true rfl) (Nat.le_of_ble_eq_true rfl) dX12_drawsDays_91
      · have c_6 : ¬ (dm ≤ i) := fun h => c_6 ((nle dm i (by omega) (by omega)).mpr h)
        refine lv_iconst (v := 2) hx hb dX12_drawsDays_10 ic_2 ?_
        refine lv_iconst (v := 3) hx hb dX12_drawsDays_11 ic_3 ?_
        refine lv_iload_n hx hb dX12_drawsDays_12 rfl (lv_at hl 0 rfl) ?_
        refine lv_imul hx hb dX12_drawsDays_13 ?_
        refine sk_top (nI (3 * i)) (nmul 3 i) ?_
        refine lv_iadd hx hb dX12_drawsDays_14 ?_
        refine sk_top (nI (2 + (3 * i))) (nI_add 2 (3 * i)) ?_
        refine lv_istore_n (lv' := [(2, .int (nI (2 + (3 * i)))), (1, .int (nI i)), (0, .ref mm)]) hx hb dX12_drawsDays_15 rfl hl (by decide) rfl (fun ls hl => ?_)
        subst hzr
        have hw9 := h99.2.1 i
        refine lv_aload_n hx hb dX12_drawsDays_16 rfl (lv_at hl 2 rfl) ?_
        refine lv_ldc2 (v := 100) hx hb hown (hts _ w_8_154) dX12_drawsDays_17 ?_
        refine sk_topl (Int64.ofNat 100) rfl ?_
        refine sk_Vl (q0 := 0) (n := 1) (rest := []) (wr := fmR om_3_4 _) ⟨hx, hb, hml, hown, hts⟩ hl.1 (c_nm_drawOf l D cI cJ cC cZ cS mm g ta pa pe pd pb pp pf pg pn rt cd sn il tk am at_ aa wt wy rm ud nu qn qw qo qb qp qa qi oc SS.1 L 100 (by omega) (by omega) (by omega)) w_8_155 w_8_157 w_0_109 w_1_14 w_8_158 hd_X12_drawOf_1 ⟨⟨(Nat.le_of_ble_eq_true rfl), (Nat.le_of_ble_eq_true rfl)⟩, (Nat.le_of_ble_eq_true rfl), (Nat.le_of_ble_eq_true rfl)⟩ hK hP hD hS hA (fmT om_3_4 0) (fmF om_3_4 0) (fm_C1 rfl rfl) (fm_R rfl rfl) (fm_nT om_3_4 0) (fm_nF om_3_4 0) (fm_di om_3_4 0) rfl rfl rfl rfl (Nat.le_of_ble_eq_true rfl) dX12_drawsDays_20 (fun r_7 u H locs hw hP hD hS => ?_)
        refine anE hw (fun er_9 eu_8 => ?_)
        clear hw
        subst er_9
        refine o_mgE (ws' := [ro_ mm 12 (mo g (nI ta) (nI pa) (nI pe) pd (nI pb) pp pf pg pn rt (nI (lRn L)) (nI cd) sn (nI il) tk am at_ aa 0 0 (-1) wt wy 0 (nI rm) (nI ud) (nI nu) (Int64.ofNat (kdr SS.1)) (nI qn) (nI qw) qo (nI qb) (nI qp) qa (nI qi) (nI oc)), ra_I (g 20) cI 4 (l4 (nI l0) (nI l1) (nI dm) (nI l3)), ra_I (g 31) cI 120 zn]) eu_8 hP hD rfl (fun hP hD => ?_)
        have hv_10 := kdv_lt (x := SS.1) (m := 100) (by decide)
        refine lv_aload_n hx hb dX12_drawsDays_23 rfl (lv_at hl 2 rfl) ?_
        refine sk_get (v := .int (nI (lRn L))) (C := RX12) (T := TX12) (N := 92) hx hb hts inlX12 hown hK hP 0 rfl rfl 23 (Nat.le_of_ble_eq_true rfl) w_5_178 rfl dX12_drawsDays_24 ?_
        refine lv_i2l hx hb dX12_drawsDays_27 rfl ?_
        refine W.lcmp hx hb dX12_drawsDays_28 ?_
        refine lv_if_ge (tgt := 71) hx hb dX12_drawsDays_29 (by decide) (fun c_11 => ?_) (fun c_11 => ?_)
        · have hr_12 : ¬ kdv SS.1 100 < lRn L := Nat.not_lt.mpr ((kcmp_ge (by omega) (by omega)).mp (by rw [← kx_i2l (show lRn L < 2147483648 by omega)]; exact c_11))
          refine lv_aload_n hx hb dX12_drawsDays_71 rfl (lv_at hl 2 rfl) ?_
          refine sk_get (v := .ref (g 31)) (C := RX12) (T := TX12) (N := 92) hx hb hts inlX12 hown hK hP 0 rfl rfl 31 (Nat.le_of_ble_eq_true rfl) w_5_186 rfl dX12_drawsDays_72 ?_
          refine lv_iload_n hx hb dX12_drawsDays_75 rfl (lv_at hl 0 rfl) ?_
          refine lv_aload_n hx hb dX12_drawsDays_76 rfl (lv_at hl 2 rfl) ?_
          refine lv_ldc2 (v := 10) hx hb hown (hts _ w_7_171) dX12_drawsDays_77 ?_
          have hkd9 := kdr_lt SS.1
          refine sk_topl (Int64.ofNat 10) rfl ?_
          refine sk_Vl (q0 := 0) (n := 1) (rest := [.int (nI (2 + (3 * i))), .ref (g 31)]) (wr := fmR om_3_4 _) ⟨hx, hb, hml, hown, hts⟩ hl.1 (c_nm_drawOf l D cI cJ cC cZ cS mm g ta pa pe pd pb pp pf pg pn rt cd sn il tk am at_ aa wt wy rm ud nu qn qw qo qb qp qa qi oc (kdr SS.1) L 10 (by omega) (by omega) (by omega)) w_8_155 w_8_157 w_0_109 w_1_14 w_8_158 hd_X12_drawOf_1 ⟨⟨(Nat.le_of_ble_eq_true rfl), (Nat.le_of_ble_eq_true rfl)⟩, (Nat.le_of_ble_eq_true rfl), (Nat.le_of_ble_eq_true rfl)⟩ hK hP hD hS hA (fmT om_3_4 0) (fmF om_3_4 0) (fm_C1 rfl rfl) (fm_R rfl rfl) (fm_nT om_3_4 0) (fm_nF om_3_4 0) (fm_di om_3_4 0) rfl rfl rfl rfl (Nat.le_of_ble_eq_true rfl) dX12_drawsDays_80 (fun r_13 u H locs hw hP hD hS => ?_)
          refine anE hw (fun er_15 eu_14 => ?_)
          clear hw
          subst er_15
          refine o_mgE (ws' := [ro_ mm 12 (mo g (nI ta) (nI pa) (nI pe) pd (nI pb) pp pf pg pn rt (nI (lRn L)) (nI cd) sn (nI il) tk am at_ aa 0 0 (-1) wt wy 0 (nI rm) (nI ud) (nI nu) (Int64.ofNat (kdr (kdr SS.1))) (nI qn) (nI qw) qo (nI qb) (nI qp) qa (nI qi) (nI oc)), ra_I (g 20) cI 4 (l4 (nI l0) (nI l1) (nI dm) (nI l3)), ra_I (g 31) cI 120 zn]) eu_14 hP hD rfl (fun hP hD => ?_)
          have hv_16 := kdv_lt (x := kdr SS.1) (m := 10) (by decide)
          refine lv_l2i hx hb dX12_drawsDays_83 rfl ?_
          refine sk_top (nI (kdv (kdr SS.1) 10)) (kl2i (by omega)) ?_
          refine sk_iastE (k := (2 + (3 * i))) (x := (nI (kdv (kdr SS.1) 10))) (ws' := fun f_17 => [ro_ mm 12 (mo g (nI ta) (nI pa) (nI pe) pd (nI pb) pp pf pg pn rt (nI (lRn L)) (nI cd) sn (nI il) tk am at_ aa 0 0 (-1) wt wy 0 (nI rm) (nI ud) (nI nu) (Int64.ofNat (kdr (kdr SS.1))) (nI qn) (nI qw) qo (nI qb) (nI qp) qa (nI qi) (nI oc)), ra_I (g 20) cI 4 (l4 (nI l0) (nI l1) (nI dm) (nI l3)), ra_I (g 31) cI 120 f_17]) hx hb hK hP hD hS 2 0 rfl rfl (by omega) (by omega) (fun _ => rfl) dX12_drawsDays_84 (fun f_17 H locs ef_18 hP hD hS => ?_)
          have hN_19 : nwX wn mN (kds (lRn L) i SS).2.1 (kds (lRn L) i SS).2.2 U ke lg f_17 := (by unfold kds; rw [if_neg hr_12]; exact nwX_upb hzn ef_18 (by omega))
          refine lv_iinc (v := nI (i + 1)) (lv' := [(1, .int (nI (i + 1))), (2, .int (nI (2 + (3 * i)))), (0, .ref mm)]) hx hb dX12_drawsDays_85 hl (k := 1) rfl (ninc i 1 (by decide)) (by decide) rfl (fun ls hl => ?_)
          refine lv_goto (tgt := 2) hx hb dX12_drawsDays_88 (by decide) ?_
          exact ih_lp_1 (i + 1) (Int64.ofNat (kdr (kdr SS.1))) f_17 (kda (lRn L) (sv, Ba, We) (i + 1)) _ _ _ (by omega) (by omega) rfl (by rw [kda_s, ← hSS, kds_2 hr_12]) (by rw [kda_s, ← hSS]; exact kds_9 h99.1 h99.2.1 h99.2.2) (by rw [kda_s, ← hSS]; exact hN_19) hP hD hS (lv_sub hl [0, 2] rfl)
        · have hr_20 : kdv SS.1 100 < lRn L := Nat.lt_of_not_le (fun hq => c_11 (by rw [kx_i2l (show lRn L < 2147483648 by omega)]; exact (kcmp_ge (by omega) (by omega)).mpr hq))
          refine lv_aload_n hx hb dX12_drawsDays_32 rfl (lv_at hl 2 rfl) ?_
          refine sk_get (v := .ref (g 31)) (C := RX12) (T := TX12) (N := 92) hx hb hts inlX12 hown hK hP 0 rfl rfl 31 (Nat.le_of_ble_eq_true rfl) w_5_186 rfl dX12_drawsDays_33 ?_
          refine lv_iload_n hx hb dX12_drawsDays_36 rfl (lv_at hl 0 rfl) ?_
          refine lv_iconst (v := 1) hx hb dX12_drawsDays_37 ic_1 ?_
          refine lv_iadd hx hb dX12_drawsDays_38 ?_
          refine sk_top (nI (2 + (3 * i) + 1)) (nI_add (2 + (3 * i)) 1) ?_
          refine lv_aload_n hx hb dX12_drawsDays_39 rfl (lv_at hl 2 rfl) ?_
          refine sk_get (v := .ref (g 31)) (C := RX12) (T := TX12) (N := 92) hx hb hts inlX12 hown hK hP 0 rfl rfl 31 (Nat.le_of_ble_eq_true rfl) w_5_186 rfl dX12_drawsDays_40 ?_
          refine lv_iload_n hx hb dX12_drawsDays_43 rfl (lv_at hl 0 rfl) ?_
          refine lv_iconst (v := 1) hx hb dX12_drawsDays_44 ic_1 ?_
          refine lv_iadd hx hb dX12_drawsDays_45 ?_
          refine sk_top (nI (2 + (3 * i) + 1)) (nI_add (2 + (3 * i)) 1) ?_
          refine va_iald hx hb hK.1 hP 2 0 rfl rfl (vin (2 + (3 * i) + 1) 120 (by omega) (Nat.le_of_ble_eq_true rfl)) dX12_drawsDays_46 ?_
          refine sk_top (nI (SS.2.2 i)) (by rw [nI_clamp (by omega)]; exact nwX_w hzn (by omega)) ?_
          refine lv_bipush (v := 9) hx hb dX12_drawsDays_47 (by decide) ?_
          refine lv_icmp_ne (tgt := 57) hx hb dX12_drawsDays_49 (by decide) (fun c_21 => ?_) (fun c_21 => ?_)
          · have c_21 : ¬ (SS.2.2 i = 9) := fun h => c_21 ((neq (SS.2.2 i) 9 (by omega) (Nat.le_of_ble_eq_true rfl)).mpr h)
            refine lv_aload_n hx hb dX12_drawsDays_57 rfl (lv_at hl 2 rfl) ?_
            refine sk_get (v := .ref (g 31)) (C := RX12) (T := TX12) (N := 92) hx hb hts inlX12 hown hK hP 0 rfl rfl 31 (Nat.le_of_ble_eq_true rfl) w_5_186 rfl dX12_drawsDays_58 ?_
            refine lv_iload_n hx hb dX12_drawsDays_61 rfl (lv_at hl 0 rfl) ?_
            refine lv_iconst (v := 1) hx hb dX12_drawsDays_62 ic_1 ?_
            refine lv_iadd hx hb dX12_drawsDays_63 ?_
            refine sk_top (nI (2 + (3 * i) + 1)) (nI_add (2 + (3 * i)) 1) ?_
            refine va_iald hx hb hK.1 hP 2 0 rfl rfl (vin (2 + (3 * i) + 1) 120 (by omega) (Nat.le_of_ble_eq_true rfl)) dX12_drawsDays_64 ?_
            refine sk_top (nI (SS.2.2 i)) (by rw [nI_clamp (by omega)]; exact nwX_w hzn (by omega)) ?_
            refine lv_iconst (v := 1) hx hb dX12_drawsDays_65 ic_1 ?_
            refine lv_iadd hx hb dX12_drawsDays_66 ?_
            refine sk_top (nI (SS.2.2 i + 1)) (nI_add (SS.2.2 i) 1) ?_
            refine sk_iastE (k := (2 + (3 * i) + 1)) (x := (nI (SS.2.2 i + 1))) (ws' := fun f_22 => [ro_ mm 12 (mo g (nI ta) (nI pa) (nI pe) pd (nI pb) pp pf pg pn rt (nI (lRn L)) (nI cd) sn (nI il) tk am at_ aa 0 0 (-1) wt wy 0 (nI rm) (nI ud) (nI nu) (Int64.ofNat (kdr SS.1)) (nI qn) (nI qw) qo (nI qb) (nI qp) qa (nI qi) (nI oc)), ra_I (g 20) cI 4 (l4 (nI l0) (nI l1) (nI dm) (nI l3)), ra_I (g 31) cI 120 f_22]) hx hb hK hP hD hS 2 0 rfl rfl (by omega) (by omega) (fun _ => rfl) dX12_drawsDays_67 (fun f_22 H locs ef_23 hP hD hS => ?_)
            have hN_24 : nwX wn mN (kds (lRn L) i SS).2.1 (kds (lRn L) i SS).2.2 U ke lg f_22 := (by unfold kds; rw [if_pos hr_20]; exact nwX_upw (d := i) (v := min (SS.2.2 i + 1) 9) hzn (ef_23.trans (congrArg (fun k : Nat => upd zn (2 + 3 * i + 1) (nI k)) (show SS.2.2 i + 1 = min (SS.2.2 i + 1) 9 by omega))) (by omega))
            refine lv_goto (tgt := 85) hx hb dX12_drawsDays_68 (by decide) ?_
            refine lv_iinc (v := nI (i + 1)) (lv' := [(1, .int (nI (i + 1))), (2, .int (nI (2 + (3 * i)))), (0, .ref mm)]) hx hb dX12_drawsDays_85 hl (k := 1) rfl (ninc i 1 (by decide)) (by decide) rfl (fun ls hl => ?_)
            refine lv_goto (tgt := 2) hx hb dX12_drawsDays_88 (by decide) ?_
            exact ih_lp_1 (i + 1) (Int64.ofNat (kdr SS.1)) f_22 (kda (lRn L) (sv, Ba, We) (i + 1)) _ _ _ (by omega) (by omega) rfl (by rw [kda_s, ← hSS, kds_1 hr_20]) (by rw [kda_s, ← hSS]; exact kds_9 h99.1 h99.2.1 h99.2.2) (by rw [kda_s, ← hSS]; exact hN_24) hP hD hS (lv_sub hl [0, 2] rfl)
          · have c_21 : SS.2.2 i = 9 := (neq (SS.2.2 i) 9 (by omega) (Nat.le_of_ble_eq_true rfl)).mp c_21
            refine lv_bipush (v := 9) hx hb dX12_drawsDays_52 (by decide) ?_
            refine lv_goto (tgt := 67) hx hb dX12_drawsDays_54 (by decide) ?_
            refine sk_iastE (k := (2 + (3 * i) + 1)) (x := 9) (ws' := fun f_25 => [ro_ mm 12 (mo g (nI ta) (nI pa) (nI pe) pd (nI pb) pp pf pg pn rt (nI (lRn L)) (nI cd) sn (nI il) tk am at_ aa 0 0 (-1) wt wy 0 (nI rm) (nI ud) (nI nu) (Int64.ofNat (kdr SS.1)) (nI qn) (nI qw) qo (nI qb) (nI qp) qa (nI qi) (nI oc)), ra_I (g 20) cI 4 (l4 (nI l0) (nI l1) (nI dm) (nI l3)), ra_I (g 31) cI 120 f_25]) hx hb hK hP hD hS 2 0 rfl rfl (by omega) (by omega) (fun _ => rfl) dX12_drawsDays_67 (fun f_25 H locs ef_26 hP hD hS => ?_)
            have hN_27 : nwX wn mN (kds (lRn L) i SS).2.1 (kds (lRn L) i SS).2.2 U ke lg f_25 := (by unfold kds; rw [if_pos hr_20]; exact nwX_upw (d := i) (v := min (SS.2.2 i + 1) 9) hzn (ef_26.trans (congrArg (fun k : Nat => upd zn (2 + 3 * i + 1) (nI k)) (show 9 = min (SS.2.2 i + 1) 9 by omega))) (by omega))
            refine lv_goto (tgt := 85) hx hb dX12_drawsDays_68 (by decide) ?_
            refine lv_iinc (v := nI (i + 1)) (lv' := [(1, .int (nI (i + 1))), (2, .int (nI (2 + (3 * i)))), (0, .ref mm)]) hx hb dX12_drawsDays_85 hl (k := 1) rfl (ninc i 1 (by decide)) (by decide) rfl (fun ls hl => ?_)
            refine lv_goto (tgt := 2) hx hb dX12_drawsDays_88 (by decide) ?_
            exact ih_lp_1 (i + 1) (Int64.ofNat (kdr SS.1)) f_25 (kda (lRn L) (sv, Ba, We) (i + 1)) _ _ _ (by omega) (by omega) rfl (by rw [kda_s, ← hSS, kds_1 hr_20]) (by rw [kda_s, ← hSS]; exact kds_9 h99.1 h99.2.1 h99.2.2) (by rw [kda_s, ← hSS]; exact hN_27) hP hD hS (lv_sub hl [0, 2] rfl)
  exact lp_1 (dm - 0 + 1) 0 (Int64.ofNat sv) nw (sv, Ba, We) _ _ _ (Nat.lt_succ_self _) (by omega) rfl rfl ⟨hB9, hW9, hsv⟩ hnw hP hD hS (lv_sub hl [0, 1] rfl)
theorem chl_x {L : LkS} {dy c i w mb : Nat} {s0 s1 : KC} (h : (mb = 1 ∧ w = i ∧ kch L dy c s0 = ((kch L dy (c - i) s1).1, (kch L dy (c - i) s1).2 + i)) ∨ (mb = 0 ∧ kch L dy c s0 = (s1, w))) (hx : c ≤ i ∨ mb = 0) : kch L dy c s0 = (s1, w) := by
  rcases h with ⟨h1, h2, h3⟩ | ⟨h1, h2⟩
  · rw [h2]; exact chl_e h3 (by omega)
  · exact h2
theorem dg_X12_chance_0_0 : bqL cX12_chance 0 [(0, [42]), (1, [27]), (2, [4]), (3, [16, 30]), (5, [182, 1, 170]), (8, [154, 0, 9]), (17, [42]), (18, [182, 1, 218]), (21, [3]), (22, [61]), (23, [4]), (24, [62]), (25, [3]), (26, [54, 4]), (28, [21, 4]), (30, [27]), (31, [162, 0, 58]), (89, [28]), (90, [172]), (34, [29]), (35, [153, 0, 54]), (38, [42]), (39, [182, 1, 239]), (42, [42]), (43, [182, 1, 144]), (46, [42]), (47, [180, 1, 126]), (50, [9]), (51, [148]), (52, [158, 0, 7]), (59, [3]), (60, [62]), (61, [29]), (62, [154, 0, 6]), (65, [167, 0, 18]), (83, [132, 4, 1]), (86, [167, 255, 198]), (55, [4]), (56, [167, 0, 4]), (68, [42])] = true := by decide +kernel
theorem dX12_chance_0 : decode cX12_chance 0 = .ok (.aload_n 0, 1) := q_aload_n0 (bat_get dg_X12_chance_0_0 0 rfl rfl)
theorem dX12_chance_1 : decode cX12_chance 1 = .ok (.iload_n 1, 1) := q_iload_n1 (bat_get dg_X12_chance_0_0 1 rfl rfl)
theorem dX12_chance_2 : decode cX12_chance 2 = .ok (.iconst 1, 1) := q_iconst1 (bat_get dg_X12_chance_0_0 2 rfl rfl)
theorem dX12_chance_3 : decode cX12_chance 3 = .ok (.bipush 30, 2) := q_bipush (bat_get dg_X12_chance_0_0 3 rfl rfl) rfl
theorem dX12_chance_5 : decode cX12_chance 5 = .ok (.invokevirtual 426, 3) := q_invokevirtual (bat_get dg_X12_chance_0_0 4 rfl rfl) rfl
theorem dX12_chance_8 : decode cX12_chance 8 = .ok (.ifCond .ne 9, 3) := q_ifCond_ne (bat_get dg_X12_chance_0_0 5 rfl rfl) rfl
theorem dX12_chance_17 : decode cX12_chance 17 = .ok (.aload_n 0, 1) := q_aload_n0 (bat_get dg_X12_chance_0_0 6 rfl rfl)
theorem dX12_chance_18 : decode cX12_chance 18 = .ok (.invokevirtual 474, 3) := q_invokevirtual (bat_get dg_X12_chance_0_0 7 rfl rfl) rfl
theorem dX12_chance_21 : decode cX12_chance 21 = .ok (.iconst 0, 1) := q_iconst0 (bat_get dg_X12_chance_0_0 8 rfl rfl)
theorem dX12_chance_22 : decode cX12_chance 22 = .ok (.istore_n 2, 1) := q_istore_n2 (bat_get dg_X12_chance_0_0 9 rfl rfl)
theorem dX12_chance_23 : decode cX12_chance 23 = .ok (.iconst 1, 1) := q_iconst1 (bat_get dg_X12_chance_0_0 10 rfl rfl)
theorem dX12_chance_24 : decode cX12_chance 24 = .ok (.istore_n 3, 1) := q_istore_n3 (bat_get dg_X12_chance_0_0 11 rfl rfl)
theorem dX12_chance_25 : decode cX12_chance 25 = .ok (.iconst 0, 1) := q_iconst0 (bat_get dg_X12_chance_0_0 12 rfl rfl)
theorem dX12_chance_26 : decode cX12_chance 26 = .ok (.istore 4, 2) := q_istore (bat_get dg_X12_chance_0_0 13 rfl rfl)
theorem dX12_chance_28 : decode cX12_chance 28 = .ok (.iload 4, 2) := q_iload (bat_get dg_X12_chance_0_0 14 rfl rfl)
theorem dX12_chance_30 : decode cX12_chance 30 = .ok (.iload_n 1, 1) := q_iload_n1 (bat_get dg_X12_chance_0_0 15 rfl rfl)
theorem dX12_chance_31 : decode cX12_chance 31 = .ok (.if_icmp .ge 58, 3) := q_if_icmp_ge (bat_get dg_X12_chance_0_0 16 rfl rfl) rfl
theorem dX12_chance_89 : decode cX12_chance 89 = .ok (.iload_n 2, 1) := q_iload_n2 (bat_get dg_X12_chance_0_0 17 rfl rfl)
theorem dX12_chance_90 : decode cX12_chance 90 = .ok (.ireturn, 1) := q_ireturn (bat_get dg_X12_chance_0_0 18 rfl rfl)
theorem dX12_chance_34 : decode cX12_chance 34 = .ok (.iload_n 3, 1) := q_iload_n3 (bat_get dg_X12_chance_0_0 19 rfl rfl)
theorem dX12_chance_35 : decode cX12_chance 35 = .ok (.ifCond .eq 54, 3) := q_ifCond_eq (bat_get dg_X12_chance_0_0 20 rfl rfl) rfl
theorem dX12_chance_38 : decode cX12_chance 38 = .ok (.aload_n 0, 1) := q_aload_n0 (bat_get dg_X12_chance_0_0 21 rfl rfl)
theorem dX12_chance_39 : decode cX12_chance 39 = .ok (.invokevirtual 495, 3) := q_invokevirtual (bat_get dg_X12_chance_0_0 22 rfl rfl) rfl
theorem dX12_chance_42 : decode cX12_chance 42 = .ok (.aload_n 0, 1) := q_aload_n0 (bat_get dg_X12_chance_0_0 23 rfl rfl)
theorem dX12_chance_43 : decode cX12_chance 43 = .ok (.invokevirtual 400, 3) := q_invokevirtual (bat_get dg_X12_chance_0_0 24 rfl rfl) rfl
theorem dX12_chance_46 : decode cX12_chance 46 = .ok (.aload_n 0, 1) := q_aload_n0 (bat_get dg_X12_chance_0_0 25 rfl rfl)
theorem dX12_chance_47 : decode cX12_chance 47 = .ok (.getfield 382, 3) := q_getfield (bat_get dg_X12_chance_0_0 26 rfl rfl) rfl
theorem dX12_chance_50 : decode cX12_chance 50 = .ok (.lconst 0, 1) := q_lconst0 (bat_get dg_X12_chance_0_0 27 rfl rfl)
theorem dX12_chance_51 : decode cX12_chance 51 = .ok (.lcmp, 1) := q_lcmp (bat_get dg_X12_chance_0_0 28 rfl rfl)
theorem dX12_chance_52 : decode cX12_chance 52 = .ok (.ifCond .le 7, 3) := q_ifCond_le (bat_get dg_X12_chance_0_0 29 rfl rfl) rfl
theorem dX12_chance_59 : decode cX12_chance 59 = .ok (.iconst 0, 1) := q_iconst0 (bat_get dg_X12_chance_0_0 30 rfl rfl)
theorem dX12_chance_60 : decode cX12_chance 60 = .ok (.istore_n 3, 1) := q_istore_n3 (bat_get dg_X12_chance_0_0 31 rfl rfl)
theorem dX12_chance_61 : decode cX12_chance 61 = .ok (.iload_n 3, 1) := q_iload_n3 (bat_get dg_X12_chance_0_0 32 rfl rfl)
theorem dX12_chance_62 : decode cX12_chance 62 = .ok (.ifCond .ne 6, 3) := q_ifCond_ne (bat_get dg_X12_chance_0_0 33 rfl rfl) rfl
theorem dX12_chance_65 : decode cX12_chance 65 = .ok (.goto 18, 3) := q_goto (bat_get dg_X12_chance_0_0 34 rfl rfl) rfl
theorem dX12_chance_83 : decode cX12_chance 83 = .ok (.iinc 4 1, 3) := q_iinc (bat_get dg_X12_chance_0_0 35 rfl rfl) rfl
theorem dX12_chance_86 : decode cX12_chance 86 = .ok (.goto (-58), 3) := q_goto (bat_get dg_X12_chance_0_0 36 rfl rfl) rfl
theorem dX12_chance_55 : decode cX12_chance 55 = .ok (.iconst 1, 1) := q_iconst1 (bat_get dg_X12_chance_0_0 37 rfl rfl)
theorem dX12_chance_56 : decode cX12_chance 56 = .ok (.goto 4, 3) := q_goto (bat_get dg_X12_chance_0_0 38 rfl rfl) rfl
theorem dX12_chance_68 : decode cX12_chance 68 = .ok (.aload_n 0, 1) := q_aload_n0 (bat_get dg_X12_chance_0_0 39 rfl rfl)
theorem dg_X12_chance_11_69 : bqL cX12_chance 11 [(58, [42]), (59, [42]), (60, [180, 1, 126]), (63, [182, 1, 235]), (66, [182, 1, 147]), (69, [132, 2, 1]), (0, [42]), (1, [6]), (2, [182, 1, 207]), (5, [172])] = true := by decide +kernel
theorem dX12_chance_69 : decode cX12_chance 69 = .ok (.aload_n 0, 1) := q_aload_n0 (bat_get dg_X12_chance_11_69 0 rfl rfl)
theorem dX12_chance_70 : decode cX12_chance 70 = .ok (.aload_n 0, 1) := q_aload_n0 (bat_get dg_X12_chance_11_69 1 rfl rfl)
theorem dX12_chance_71 : decode cX12_chance 71 = .ok (.getfield 382, 3) := q_getfield (bat_get dg_X12_chance_11_69 2 rfl rfl) rfl
theorem dX12_chance_74 : decode cX12_chance 74 = .ok (.invokevirtual 491, 3) := q_invokevirtual (bat_get dg_X12_chance_11_69 3 rfl rfl) rfl
theorem dX12_chance_77 : decode cX12_chance 77 = .ok (.invokevirtual 403, 3) := q_invokevirtual (bat_get dg_X12_chance_11_69 4 rfl rfl) rfl
theorem dX12_chance_80 : decode cX12_chance 80 = .ok (.iinc 2 1, 3) := q_iinc (bat_get dg_X12_chance_11_69 5 rfl rfl) rfl
theorem dX12_chance_11 : decode cX12_chance 11 = .ok (.aload_n 0, 1) := q_aload_n0 (bat_get dg_X12_chance_11_69 6 rfl rfl)
theorem dX12_chance_12 : decode cX12_chance 12 = .ok (.iconst 3, 1) := q_iconst3 (bat_get dg_X12_chance_11_69 7 rfl rfl)
theorem dX12_chance_13 : decode cX12_chance 13 = .ok (.invokevirtual 463, 3) := q_invokevirtual (bat_get dg_X12_chance_11_69 8 rfl rfl) rfl
theorem dX12_chance_16 : decode cX12_chance 16 = .ok (.ireturn, 1) := q_ireturn (bat_get dg_X12_chance_11_69 9 rfl rfl)
theorem w_8_150 : (Cond.methodLink RX12 495 yX12_drawsDays) ∈ wsL_law := sk_mem (ck_8 _ (List.mem_of_getElem? (i := 150) rfl)) rfl
theorem w_8_152 : (Cond.instanceMethod yX12_drawsDays) ∈ wsL_law := sk_mem (ck_8 _ (List.mem_of_getElem? (i := 152) rfl)) rfl
theorem w_0_108 : (Cond.selects RX12 yX12_drawsDays yX12_drawsDays) ∈ wsL_law := sk_mem (ck_0 _ (List.mem_of_getElem? (i := 108) rfl)) rfl
theorem w_8_149 : (Cond.code yX12_chance cX12_chance 5 (some .int)) ∈ wsL_law := sk_mem (ck_8 _ (List.mem_of_getElem? (i := 149) rfl)) rfl
def om_15_4480 : List Bool := true :: false :: false :: false :: true :: false :: false :: true :: false :: false :: false :: false :: false :: false :: false :: []
def om_15_4000 : List Bool := true :: false :: false :: false :: false :: false :: false :: false :: false :: false :: false :: false :: false :: false :: false :: []
theorem hd_X12_drawsDays_0 : skD yX12_drawsDays 0 := by decide +kernel
set_option maxHeartbeats 4000000 in
set_option maxRecDepth 100000 in
theorem c_nm_chance (l : Launch) (D : va_G) (cI cJ cC cZ cS : ClassId) (mm : Nat) (g : Nat → Nat) (ta : Nat) (pa : Nat) (pe : Nat) (pd : Int32) (pb : Nat) (pp : Int32) (pf : Int32) (pg : Int32) (pn : Int32) (rt : Int32) (cd : Nat) (sn : Int32) (il : Nat) (tk : Int32) (am : Int32) (at_ : Int32) (aa : Int32) (wt : Int32) (wy : Int64) (rm : Nat) (ud : Nat) (nu : Nat) (qn : Nat) (qw : Nat) (qo : Int32) (qb : Nat) (qp : Nat) (qa : Int64) (qi : Nat) (oc : Nat) (n : Int32) (u0 : Int32) (u1 : Int32) (u2 : Int32) (u3 : Int32) (u4 : Int32) (u5 : Int32) (v0 : Int32) (v1 : Int32) (v2 : Int32) (v3 : Int32) (v4 : Int32) (v5 : Int32) (cs : Nat → Nat) (nw : Nat → Int32) (pt : Nat → Nat) (ql : Nat → Int64) (l0 : Nat) (l1 : Nat) (dm : Nat) (l3 : Nat) (ws_ : Nat → Int32) (yw : Nat → Int32) (yo : Nat → Int32) (be : Nat → Int64) (bf : Nat → Int64) (kp : Nat → Int32) (rf : Nat → Int32) (wn : Nat) (mN : Nat) (Ba : Nat → Nat) (We : Nat → Nat) (U : Nat → Bool) (ke : Nat) (lg : KLg) (L : LkS) (su : Nat → KN) (sv : Nat) (hil : il ≤ 1) (hild : il = 1 → 1 ≤ dm) (hilb : 1 ≤ dm → il = 1) (hdm : dm ≤ 9) (hLk : kcLk L) (hkl : (lK L).length ≤ 1600) (hmw0 : mwO L 0 u3 v3 cs) (hmw1 : mwO L 1 u4 v4 cs) (hB9 : ∀ j, Ba j ≤ 9) (hW9 : ∀ j, We j ≤ 9) (hwk : wn ≤ 999) (hnu : nu < 20) (hud : ud ≤ 20) (hlg : lgOk lg) (hsk : ∀ j, j < ud → nKe (su j) ≤ ke) (hsv : sv < 2147483648) (hrn : lRn L ≤ 100) (hUd : ∀ j, U j = true → j < dm) (hkw : ke ≤ wn) (hcs : ∀ j, cs j ≤ 20000) (hnw : nwX wn mN Ba We U ke lg nw) (hpt : ∀ j, pt j ≤ 9) (hkp : kpX ud nu su lg kp) : skM l yX12_chance cX12_chance 5 (some .int) 6 142 0 0 D (skT cI cJ cC cZ cS) [.ref mm, .int n] [ro_ mm 12 (mo g (nI ta) (nI pa) (nI pe) pd (nI pb) pp pf pg pn rt (nI (lRn L)) (nI cd) sn (nI il) tk am at_ aa 0 0 (-1) wt wy 0 (nI rm) (nI ud) (nI nu) (Int64.ofNat sv) (nI qn) (nI qw) qo (nI qb) (nI qp) qa (nI qi) (nI oc)), ra_I (g 24) cI 6 (l6 u0 u1 u2 u3 u4 u5), ra_I (g 25) cI 6 (l6 v0 v1 v2 v3 v4 v5), ra_N (g 26) cI 3200 cs, ra_I (g 31) cI 120 nw, ra_N (g 46) cI 9 pt, ra_J (g 86) cJ 1700 ql, ra_I (g 20) cI 4 (l4 (nI l0) (nI l1) (nI dm) (nI l3)), ra_I (g 38) cI 90 ws_, ra_I (g 36) cZ 900 yw, ra_I (g 37) cZ 900 yo, ra_J (g 43) cJ 90 be, ra_J (g 44) cJ 90 bf, ra_I (g 54) cI 2400 kp, ra_I (g 9) cI 6 rf] (skI D (skT cI cJ cC cZ cS) (fun (r : Int32) (u : va_W) => ∃ (Ba2 : Nat → Nat), ∃ (We2 : Nat → Nat), ∃ (U2 : Nat → Bool), ∃ (wn2 : Nat), ∃ (mo2 : Nat), ∃ (ke2 : Nat), ∃ (sv2 : Nat), ∃ (lg2 : KLg), ∃ (su2 : Nat → KN), ∃ (nw2 : Nat → Int32), ∃ (kp2 : Nat → Int32), ∃ (tk2 : Int32), ∃ (qp2 : Nat), ∃ (am2 : Int32), ∃ (at_2 : Int32), ∃ (aa2 : Int32), ∃ (wy2 : Int64), ∃ (nu2 : Nat), ∃ (ud2 : Nat), ∃ (pt2 : Nat → Nat), ∃ (ql2 : Nat → Int64), ∃ (ws_2 : Nat → Int32), ∃ (yw2 : Nat → Int32), ∃ (yo2 : Nat → Int32), ∃ (be2 : Nat → Int64), ∃ (bf2 : Nat → Int64), ∃ (rf2 : Nat → Int32), nwX wn2 mo2 Ba2 We2 U2 ke2 lg2 nw2 ∧ kpX ud2 nu2 su2 lg2 kp2 ∧ nu2 < 20 ∧ ud2 ≤ 20 ∧ chanceR L dm (wn, mN, Ba, We, U, ke) lg ud su sv rf n r (wn2, mo2, Ba2, We2, U2, ke2) lg2 ud2 su2 sv2 rf2 ∧ (∀ j, pt2 j ≤ 9) ∧ u = [ro_ mm 12 (mo g (nI ta) (nI pa) (nI pe) pd (nI pb) pp pf pg pn rt (nI (lRn L)) (nI cd) sn (nI il) tk2 am2 at_2 aa2 0 0 (-1) wt wy2 0 (nI rm) (nI ud2) (nI nu2) (Int64.ofNat sv2) (nI qn) (nI qw) qo (nI qb) (nI qp2) qa (nI qi) (nI oc)), ra_I (g 24) cI 6 (l6 u0 u1 u2 u3 u4 u5), ra_I (g 25) cI 6 (l6 v0 v1 v2 v3 v4 v5), ra_N (g 26) cI 3200 cs, ra_I (g 31) cI 120 nw2, ra_N (g 46) cI 9 pt2, ra_J (g 86) cJ 1700 ql2, ra_I (g 20) cI 4 (l4 (nI l0) (nI l1) (nI dm) (nI l3)), ra_I (g 38) cI 90 ws_2, ra_I (g 36) cZ 900 yw2, ra_I (g 37) cZ 900 yo2, ra_J (g 43) cJ 90 be2, ra_J (g 44) cJ 90 bf2, ra_I (g 54) cI 2400 kp2, ra_I (g 9) cI 6 rf2])) := by
  refine skM_of pf_X12_chance (Nat.le_of_ble_eq_true rfl) ?_
  intro p e s m below meth c A ls E hP hD hl
  refine skE_el E (fun hx hb hr hml hlocks hin hown hts hK hA => ?_)
  have hown : s.vm.findClass RX12 = some m.cls := hown
  have hS : va_S A s.heap s.heap [] := va_S.rf
  have hl : lv_has ls 5 [(0, .ref mm), (1, .int n)] := hl
  refine lv_aload_n hx hb dX12_chance_0 rfl (lv_at hl 0 rfl) ?_
  refine lv_iload_n hx hb dX12_chance_1 rfl (lv_at hl 1 rfl) ?_
  refine lv_iconst (v := 1) hx hb dX12_chance_2 ic_1 ?_
  refine lv_bipush (v := 30) hx hb dX12_chance_3 (by decide) ?_
  refine sk_Vi (q0 := 0) (n := 3) (rest := []) (wr := fmR om_15_4400 _) ⟨hx, hb, hml, hown, hts⟩ hl.1 (c_nm_isAhead l D cI cJ cC cZ cS mm g ta pa pe pd pb pp pf pg pn rt (nI (lRn L)) cd sn il tk am at_ aa wt wy rm ud nu (Int64.ofNat sv) qn qw qo qb qp qa qi oc n 1 30 nw wn mN Ba We U ke lg hil hwk (by omega) (by omega) hnw) w_8_5 w_8_7 w_0_90 w_1_14 w_8_8 hd_X12_isAhead_3 ⟨⟨(Nat.le_of_ble_eq_true rfl), (Nat.le_of_ble_eq_true rfl)⟩, (Nat.le_of_ble_eq_true rfl), (Nat.le_of_ble_eq_true rfl)⟩ hK hP hD hS hA (fmT om_15_4400 0) (fmF om_15_4400 0) (fm_C1 rfl rfl) (fm_R rfl rfl) (fm_nT om_15_4400 0) (fm_nF om_15_4400 0) (fm_di om_15_4400 0) rfl rfl rfl rfl (Nat.le_of_ble_eq_true rfl) dX12_chance_5 (fun r_2 u H locs hw hP hD hS => ?_)
  refine exE hw (fun b_1 hw1 => anE hw1 (fun hah_3 hw2 => anE hw2 (fun er_5 eu_4 => ?_)))
  clear hw hw1 hw2
  subst er_5
  refine o_mgE (ws' := [ro_ mm 12 (mo g (nI ta) (nI pa) (nI pe) pd (nI pb) pp pf pg pn rt (nI (lRn L)) (nI cd) sn (nI il) tk am at_ aa 0 0 (-1) wt wy 0 (nI rm) (nI ud) (nI nu) (Int64.ofNat sv) (nI qn) (nI qw) qo (nI qb) (nI qp) qa (nI qi) (nI oc)), ra_I (g 24) cI 6 (l6 u0 u1 u2 u3 u4 u5), ra_I (g 25) cI 6 (l6 v0 v1 v2 v3 v4 v5), ra_N (g 26) cI 3200 cs, ra_I (g 31) cI 120 nw, ra_N (g 46) cI 9 pt, ra_J (g 86) cJ 1700 ql, ra_I (g 20) cI 4 (l4 (nI l0) (nI l1) (nI dm) (nI l3)), ra_I (g 38) cI 90 ws_, ra_I (g 36) cZ 900 yw, ra_I (g 37) cZ 900 yo, ra_J (g 43) cJ 90 be, ra_J (g 44) cJ 90 bf, ra_I (g 54) cI 2400 kp, ra_I (g 9) cI 6 rf]) eu_4 hP hD rfl (fun hP hD => ?_)
  refine lv_if_ne (tgt := 17) hx hb dX12_chance_8 (by decide) (fun c_6 => ?_) (fun c_6 => ?_)
  · have c_6 : ¬ (b_1 = 0) := fun h => c_6 ((neq b_1 0 (by omega) (Nat.le_of_ble_eq_true rfl)).mpr h)
    obtain ⟨hil1, ka, hka1, hka2, rfl, hka3⟩ := rr_1 hah_3 (by omega)
    have hdm1 := hild hil1
    refine lv_aload_n hx hb dX12_chance_17 rfl (lv_at hl 0 rfl) ?_
    refine sk_Vv (q0 := 0) (n := 0) (rest := []) (wr := fmR om_15_4402 _) ⟨hx, hb, hml, hown, hts⟩ hl.1 (c_nm_keeps l D cI cJ cC cZ cS mm g ta pa pe pd pb pp pf pg pn rt (nI (lRn L)) cd sn il tk am at_ aa wt wy rm ud nu (Int64.ofNat sv) qn qw qo qb qp qa qi oc nw kp wn mN Ba We U ke lg su hnu hud hnw hkp) w_8_130 w_8_132 w_0_107 w_1_14 w_8_133 hd_X12_keeps_0 ⟨⟨(Nat.le_of_ble_eq_true rfl), (Nat.le_of_ble_eq_true rfl)⟩, (Nat.le_of_ble_eq_true rfl), (Nat.le_of_ble_eq_true rfl)⟩ hK hP hD hS hA (fmT om_15_4402 0) (fmF om_15_4402 0) (fm_C1 rfl rfl) (fm_R rfl rfl) (fm_nT om_15_4402 0) (fm_nF om_15_4402 0) (fm_di om_15_4402 0) rfl rfl rfl rfl (Nat.le_of_ble_eq_true rfl) dX12_chance_18 (fun u H locs hw hP hD hS => ?_)
    refine exE hw (fun kp2_7 hw1 => exE hw1 (fun ud2_8 hw2 => anE hw2 (fun hud2_9 hw3 => anE hw3 (fun hkp2_10 eu_11 => ?_))))
    clear hw hw1 hw2 hw3
    refine o_mgE (ws' := [ro_ mm 12 (mo g (nI ta) (nI pa) (nI pe) pd (nI pb) pp pf pg pn rt (nI (lRn L)) (nI cd) sn (nI il) tk am at_ aa 0 0 (-1) wt wy 0 (nI rm) (nI ud2_8) (nI ((nu + 1) % 20)) (Int64.ofNat sv) (nI qn) (nI qw) qo (nI qb) (nI qp) qa (nI qi) (nI oc)), ra_I (g 24) cI 6 (l6 u0 u1 u2 u3 u4 u5), ra_I (g 25) cI 6 (l6 v0 v1 v2 v3 v4 v5), ra_N (g 26) cI 3200 cs, ra_I (g 31) cI 120 nw, ra_N (g 46) cI 9 pt, ra_J (g 86) cJ 1700 ql, ra_I (g 20) cI 4 (l4 (nI l0) (nI l1) (nI dm) (nI l3)), ra_I (g 38) cI 90 ws_, ra_I (g 36) cZ 900 yw, ra_I (g 37) cZ 900 yo, ra_J (g 43) cJ 90 be, ra_J (g 44) cJ 90 bf, ra_I (g 54) cI 2400 kp2_7, ra_I (g 9) cI 6 rf]) eu_11 hP hD rfl (fun hP hD => ?_)
    refine lv_iconst (v := 0) hx hb dX12_chance_21 ic_0 ?_
    refine lv_istore_n (lv' := [(2, .int 0), (0, .ref mm), (1, .int (nI ka))]) hx hb dX12_chance_22 rfl hl (by decide) rfl (fun ls hl => ?_)
    refine lv_iconst (v := 1) hx hb dX12_chance_23 ic_1 ?_
    refine lv_istore_n (lv' := [(3, .int 1), (2, .int 0), (0, .ref mm), (1, .int (nI ka))]) hx hb dX12_chance_24 rfl hl (by decide) rfl (fun ls hl => ?_)
    refine lv_iconst (v := 0) hx hb dX12_chance_25 ic_0 ?_
    refine lv_istore (lv' := [(4, .int 0), (3, .int 1), (2, .int 0), (0, .ref mm), (1, .int (nI ka))]) hx hb dX12_chance_26 hl (by decide) rfl (fun ls hl => ?_)
    have lp_12 : ∀ (n_13 : Nat) (i : Nat) (mb_ : Nat) (went : Nat) (zaml : Int32) (zat_l : Int32) (zaal : Int32) (ztkl : Int32) (zqpl : Nat) (zwyl : Int64) (zr : Int64) (zn : Nat → Int32) (y46l : Nat → Nat) (y86l : Nat → Int64) (y38l : Nat → Int32) (y36l : Nat → Int32) (y37l : Nat → Int32) (y43l : Nat → Int64) (y44l : Nat → Int64) (zkp : Nat → Int32) (SC : KC) (H : Heap) (locs : List Loc) (ls : Array Slot), 31 - i < n_13 → (∀ j, y46l j ≤ 9) → (i ≤ 31) → (mb_ ≤ 1) → ((mb_ = 1 ∧ went = i ∧ kch L dm ka ((wn, mN, Ba, We, U, ke), lg, sv) = ((kch L dm (ka - i) SC).1, (kch L dm (ka - i) SC).2 + i)) ∨ (mb_ = 0 ∧ kch L dm ka ((wn, mN, Ba, We, U, ke), lg, sv) = (SC, went))) → (mb_ = 0 ∨ nWk SC.1 + (ka - i) ≤ 999) → (kcOk dm SC) → (zr = Int64.ofNat SC.2.2) → (nwX (nWk SC.1) (nMo SC.1) (nBa SC.1) (nWe SC.1) (nMu SC.1) (nKe SC.1) SC.2.1 zn) → (kpX ud2_8 ((nu + 1) % 20) (psh ud su (wn, mN, Ba, We, U, ke)) SC.2.1 zkp) → (∀ j, j < ud2_8 → nKe ((psh ud su (wn, mN, Ba, We, U, ke)) j) ≤ nKe SC.1) → va_P D vwCl [ro_ mm 12 (mo g (nI ta) (nI pa) (nI pe) pd (nI pb) pp pf pg pn rt (nI (lRn L)) (nI cd) sn (nI il) ztkl zaml zat_l zaal 0 0 (-1) wt zwyl 0 (nI rm) (nI ud2_8) (nI ((nu + 1) % 20)) zr (nI qn) (nI qw) qo (nI qb) (nI zqpl) qa (nI qi) (nI oc)), ra_I (g 24) cI 6 (l6 u0 u1 u2 u3 u4 u5), ra_I (g 25) cI 6 (l6 v0 v1 v2 v3 v4 v5), ra_N (g 26) cI 3200 cs, ra_I (g 31) cI 120 zn, ra_N (g 46) cI 9 y46l, ra_J (g 86) cJ 1700 y86l, ra_I (g 20) cI 4 (l4 (nI l0) (nI l1) (nI dm) (nI l3)), ra_I (g 38) cI 90 y38l, ra_I (g 36) cZ 900 y36l, ra_I (g 37) cZ 900 y37l, ra_J (g 43) cJ 90 y43l, ra_J (g 44) cJ 90 y44l, ra_I (g 54) cI 2400 zkp, ra_I (g 9) cI 6 rf] H → va_D A [ro_ mm 12 (mo g (nI ta) (nI pa) (nI pe) pd (nI pb) pp pf pg pn rt (nI (lRn L)) (nI cd) sn (nI il) ztkl zaml zat_l zaal 0 0 (-1) wt zwyl 0 (nI rm) (nI ud2_8) (nI ((nu + 1) % 20)) zr (nI qn) (nI qw) qo (nI qb) (nI zqpl) qa (nI qi) (nI oc)), ra_I (g 24) cI 6 (l6 u0 u1 u2 u3 u4 u5), ra_I (g 25) cI 6 (l6 v0 v1 v2 v3 v4 v5), ra_N (g 26) cI 3200 cs, ra_I (g 31) cI 120 zn, ra_N (g 46) cI 9 y46l, ra_J (g 86) cJ 1700 y86l, ra_I (g 20) cI 4 (l4 (nI l0) (nI l1) (nI dm) (nI l3)), ra_I (g 38) cI 90 y38l, ra_I (g 36) cZ 900 y36l, ra_I (g 37) cZ 900 y37l, ra_J (g 43) cJ 90 y43l, ra_J (g 44) cJ 90 y44l, ra_I (g 54) cI 2400 zkp, ra_I (g 9) cI 6 rf] → va_S A s.heap H locs → lv_has ls 5 [(4, .int (nI i)), (3, .int (nI mb_)), (2, .int (nI went)), (0, .ref mm), (1, .int (nI ka))] → W p l e { frames := 6, cells := 0, slots := 0, locals := 142 } s m ([.ref mm, .int (nI ka)] : List Value).toArray below meth c H locs 0 0 (MQ below (skI D (skT cI cJ cC cZ cS) (fun (r : Int32) (u : va_W) => ∃ (Ba2 : Nat → Nat), ∃ (We2 : Nat → Nat), ∃ (U2 : Nat → Bool), ∃ (wn2 : Nat), ∃ (mo2 : Nat), ∃ (ke2 : Nat), ∃ (sv2 : Nat), ∃ (lg2 : KLg), ∃ (su2 : Nat → KN), ∃ (nw2 : Nat → Int32), ∃ (kp2 : Nat → Int32), ∃ (tk2 : Int32), ∃ (qp2 : Nat), ∃ (am2 : Int32), ∃ (at_2 : Int32), ∃ (aa2 : Int32), ∃ (wy2 : Int64), ∃ (nu2 : Nat), ∃ (ud2 : Nat), ∃ (pt2 : Nat → Nat), ∃ (ql2 : Nat → Int64), ∃ (ws_2 : Nat → Int32), ∃ (yw2 : Nat → Int32), ∃ (yo2 : Nat → Int32), ∃ (be2 : Nat → Int64), ∃ (bf2 : Nat → Int64), ∃ (rf2 : Nat → Int32), nwX wn2 mo2 Ba2 We2 U2 ke2 lg2 nw2 ∧ kpX ud2 nu2 su2 lg2 kp2 ∧ nu2 < 20 ∧ ud2 ≤ 20 ∧ chanceR L dm (wn, mN, Ba, We, U, ke) lg ud su sv rf (nI ka) r (wn2, mo2, Ba2, We2, U2, ke2) lg2 ud2 su2 sv2 rf2 ∧ (∀ j, pt2 j ≤ 9) ∧ u = [ro_ mm 12 (mo g (nI ta) (nI pa) (nI pe) pd (nI pb) pp pf pg pn rt (nI (lRn L)) (nI cd) sn (nI il) tk2 am2 at_2 aa2 0 0 (-1) wt wy2 0 (nI rm) (nI ud2) (nI nu2) (Int64.ofNat sv2) (nI qn) (nI qw) qo (nI qb) (nI qp2) qa (nI qi) (nI oc)), ra_I (g 24) cI 6 (l6 u0 u1 u2 u3 u4 u5), ra_I (g 25) cI 6 (l6 v0 v1 v2 v3 v4 v5), ra_N (g 26) cI 3200 cs, ra_I (g 31) cI 120 nw2, ra_N (g 46) cI 9 pt2, ra_J (g 86) cJ 1700 ql2, ra_I (g 20) cI 4 (l4 (nI l0) (nI l1) (nI dm) (nI l3)), ra_I (g 38) cI 90 ws_2, ra_I (g 36) cZ 900 yw2, ra_I (g 37) cZ 900 yo2, ra_J (g 43) cJ 90 be2, ra_J (g 44) cJ 90 bf2, ra_I (g 54) cI 2400 kp2, ra_I (g 9) cI 6 rf2]) A) ([.ref mm, .int (nI ka)] : List Value).toArray s 0 0 A) (F0 m 28 ls []) := by
      intro n_13
      induction n_13 with
      | zero => intro i mb_ went zaml zat_l zaal ztkl zqpl zwyl zr zn y46l y86l y38l y36l y37l y43l y44l zkp SC H locs ls hm; exact absurd hm (Nat.not_lt_zero _)
      | succ n_13 ih_lp_12 =>
        intro i mb_ went zaml zat_l zaal ztkl zqpl zwyl zr zn y46l y86l y38l y36l y37l y43l y44l zkp SC H locs ls hm hy46l hi hmb hinv hz9 hso hzr hzn hzk hsk9 hP hD hS hl
        refine lv_iload hx hb dX12_chance_28 (lv_at hl 0 rfl) ?_
        refine lv_iload_n hx hb dX12_chance_30 rfl (lv_at hl 4 rfl) ?_
        refine lv_icmp_ge (tgt := 89) hx hb dX12_chance_31 (by decide) (fun c_14 => ?_) (fun c_14 => ?_)
        · have c_14 : ka ≤ i := (nle ka i (by omega) (by omega)).mp c_14
          have hfin := chl_x hinv (by omega)
          subst hzr
          refine lv_iload_n hx hb dX12_chance_89 rfl (lv_at hl 2 rfl) ?_
          exact sk_iret hx hb hr rfl hlocks hK hP hD hS (⟨(nBa SC.1), (nWe SC.1), (nMu SC.1), (nWk SC.1), (nMo SC.1), (nKe SC.1), SC.2.2, SC.2.1, (psh ud su (wn, mN, Ba, We, U, ke)), zn, zkp, ztkl, zqpl, zaml, zat_l, zaal, zwyl, (nu + 1) % 20, ud2_8, y46l, y86l, y38l, y36l, y37l, y43l, y44l, rf, hzn, hzk, by omega, by omega, (by rw [hud2_9]; exact ch_y ⟨by omega, hka1, hka2, hka3⟩ hfin), hy46l, rfl⟩) (Nat.le_of_ble_eq_true rfl) (Nat.le_of_ble_eq_true rfl) dX12_chance_90
        · have c_14 : ¬ (ka ≤ i) := fun h => c_14 ((nle ka i (by omega) (by omega)).mpr h)
          refine lv_iload_n hx hb dX12_chance_34 rfl (lv_at hl 1 rfl) ?_
          refine lv_if_eq (tgt := 89) hx hb dX12_chance_35 (by decide) (fun c_15 => ?_) (fun c_15 => ?_)
          · have c_15 : mb_ = 0 := (neq mb_ 0 (by omega) (Nat.le_of_ble_eq_true rfl)).mp c_15
            have hfin := chl_x hinv (by omega)
            subst hzr
            refine lv_iload_n hx hb dX12_chance_89 rfl (lv_at hl 2 rfl) ?_
            exact sk_iret hx hb hr rfl hlocks hK hP hD hS (⟨(nBa SC.1), (nWe SC.1), (nMu SC.1), (nWk SC.1), (nMo SC.1), (nKe SC.1), SC.2.2, SC.2.1, (psh ud su (wn, mN, Ba, We, U, ke)), zn, zkp, ztkl, zqpl, zaml, zat_l, zaal, zwyl, (nu + 1) % 20, ud2_8, y46l, y86l, y38l, y36l, y37l, y43l, y44l, rf, hzn, hzk, by omega, by omega, (by rw [hud2_9]; exact ch_y ⟨by omega, hka1, hka2, hka3⟩ hfin), hy46l, rfl⟩) (Nat.le_of_ble_eq_true rfl) (Nat.le_of_ble_eq_true rfl) dX12_chance_90
          · have c_15 : ¬ (mb_ = 0) := fun h => c_15 ((neq mb_ 0 (by omega) (Nat.le_of_ble_eq_true rfl)).mpr h)
            subst hzr
            obtain ⟨-, hwi, hch⟩ := hinv.resolve_right (fun q => absurd q.1 (by omega))
            refine lv_aload_n hx hb dX12_chance_38 rfl (lv_at hl 3 rfl) ?_
            refine sk_Vv (q0 := 0) (n := 0) (rest := []) (wr := fmR om_15_4480 _) ⟨hx, hb, hml, hown, hts⟩ hl.1 (c_nm_drawsDays l D cI cJ cC cZ cS mm g ta pa pe pd pb pp pf pg pn rt cd sn il ztkl zaml zat_l zaal wt zwyl rm ud2_8 ((nu + 1) % 20) qn qw qo qb zqpl qa qi oc l0 l1 dm l3 zn (nWk SC.1) (nMo SC.1) (nBa SC.1) (nWe SC.1) (nMu SC.1) (nKe SC.1) SC.2.1 SC.2.2 L hdm hso.2.2 hrn hso.1.2.2.1 hso.1.2.2.2.1 hzn) w_8_150 w_8_152 w_0_108 w_1_14 w_8_153 hd_X12_drawsDays_0 ⟨⟨(Nat.le_of_ble_eq_true rfl), (Nat.le_of_ble_eq_true rfl)⟩, (Nat.le_of_ble_eq_true rfl), (Nat.le_of_ble_eq_true rfl)⟩ hK hP hD hS hA [0, 7, 4] (fmF om_15_4480 0) rfl (fm_R rfl rfl) (by decide +kernel) (fm_nF om_15_4480 0) (by decide +kernel) rfl rfl rfl rfl (Nat.le_of_ble_eq_true rfl) dX12_chance_39 (fun u H locs hw hP hD hS => ?_)
            refine exE hw (fun nw2_16 hw1 => anE hw1 (fun hnw2_17 eu_18 => ?_))
            clear hw hw1
            refine o_mgqE (ux := [ro_ mm 12 (mo g (nI ta) (nI pa) (nI pe) pd (nI pb) pp pf pg pn rt (nI (lRn L)) (nI cd) sn (nI il) ztkl zaml zat_l zaal 0 0 (-1) wt zwyl 0 (nI rm) (nI ud2_8) (nI ((nu + 1) % 20)) (Int64.ofNat (kda (lRn L) (SC.2.2, (nBa SC.1), (nWe SC.1)) dm).1) (nI qn) (nI qw) qo (nI qb) (nI zqpl) qa (nI qi) (nI oc)), ra_I (g 31) cI 120 nw2_16, ra_I (g 20) cI 4 (l4 (nI l0) (nI l1) (nI dm) (nI l3))]) (ws' := [ro_ mm 12 (mo g (nI ta) (nI pa) (nI pe) pd (nI pb) pp pf pg pn rt (nI (lRn L)) (nI cd) sn (nI il) ztkl zaml zat_l zaal 0 0 (-1) wt zwyl 0 (nI rm) (nI ud2_8) (nI ((nu + 1) % 20)) (Int64.ofNat (kda (lRn L) (SC.2.2, (nBa SC.1), (nWe SC.1)) dm).1) (nI qn) (nI qw) qo (nI qb) (nI zqpl) qa (nI qi) (nI oc)), ra_I (g 24) cI 6 (l6 u0 u1 u2 u3 u4 u5), ra_I (g 25) cI 6 (l6 v0 v1 v2 v3 v4 v5), ra_N (g 26) cI 3200 cs, ra_I (g 31) cI 120 nw2_16, ra_N (g 46) cI 9 y46l, ra_J (g 86) cJ 1700 y86l, ra_I (g 20) cI 4 (l4 (nI l0) (nI l1) (nI dm) (nI l3)), ra_I (g 38) cI 90 y38l, ra_I (g 36) cZ 900 y36l, ra_I (g 37) cZ 900 y37l, ra_J (g 43) cJ 90 y43l, ra_J (g 44) cJ 90 y44l, ra_I (g 54) cI 2400 zkp, ra_I (g 9) cI 6 rf]) eu_18 [0, 2, 1] (by decide +kernel) rfl hP hD rfl (fun hP hD => ?_)
            refine lv_aload_n hx hb dX12_chance_42 rfl (lv_at hl 3 rfl) ?_
            refine sk_Vv (q0 := 0) (n := 0) (rest := []) (wr := fmR om_15_7ffc _) ⟨hx, hb, hml, hown, hts⟩ hl.1 (c_nm_laysAll l D cI cJ cC cZ cS mm g ta pa pe pd pb pp pf pg pn rt (nI (lRn L)) cd sn il ztkl zaml zat_l zaal wt zwyl 0 rm ud2_8 ((nu + 1) % 20) (Int64.ofNat (kda (lRn L) (SC.2.2, (nBa SC.1), (nWe SC.1)) dm).1) qn qw qo qb zqpl qa qi oc u0 u1 u2 u3 u4 u5 v0 v1 v2 v3 v4 v5 cs nw2_16 y46l y86l l0 l1 dm l3 y38l y36l y37l y43l y44l (nWk SC.1) (nMo SC.1) ((kda (lRn L) (SC.2.2, (nBa SC.1), (nWe SC.1)) dm).2.1) ((kda (lRn L) (SC.2.2, (nBa SC.1), (nWe SC.1)) dm).2.2) (nMu SC.1) (nKe SC.1) SC.2.1 L hdm (by omega) hLk hkl hmw0 hmw1 (kda_9 (rn := lRn L) (s := (SC.2.2, nBa SC.1, nWe SC.1)) hso.1.2.2.1 hso.1.2.2.2.1 hso.2.2 dm).1 (kda_9 (rn := lRn L) (s := (SC.2.2, nBa SC.1, nWe SC.1)) hso.1.2.2.1 hso.1.2.2.2.1 hso.2.2 dm).2.1 hso.1.1 hcs hnw2_17 hy46l) w_7_189 w_7_191 w_0_82 w_1_14 w_7_192 hd_X12_laysAll_0 ⟨⟨(Nat.le_of_ble_eq_true rfl), (Nat.le_of_ble_eq_true rfl)⟩, (Nat.le_of_ble_eq_true rfl), (Nat.le_of_ble_eq_true rfl)⟩ hK hP hD hS hA (fmT om_15_7ffc 0) (fmF om_15_7ffc 0) (fm_C1 rfl rfl) (fm_R rfl rfl) (fm_nT om_15_7ffc 0) (fm_nF om_15_7ffc 0) (fm_di om_15_7ffc 0) rfl rfl rfl rfl (Nat.le_of_ble_eq_true rfl) dX12_chance_43 (fun u H locs hw hP hD hS => ?_)
            refine exE hw (fun tk2_19 hw1 => exE hw1 (fun qp2_20 hw2 => exE hw2 (fun am2_21 hw3 => exE hw3 (fun at_2_22 hw4 => exE hw4 (fun aa2_23 hw5 => exE hw5 (fun wy2_24 hw6 => exE hw6 (fun ql2_25 hw7 => exE hw7 (fun ws_2_26 hw8 => exE hw8 (fun yw2_27 hw9 => exE hw9 (fun yo2_28 hw10 => exE hw10 (fun be2_29 hw11 => exE hw11 (fun bf2_30 hw12 => anE hw12 (fun hbe_31 hw13 => anE hw13 (fun hcf_32 hw14 => anE hw14 (fun hwy_33 eu_34 => ?_)))))))))))))))
            clear hw hw1 hw2 hw3 hw4 hw5 hw6 hw7 hw8 hw9 hw10 hw11 hw12 hw13 hw14
            refine o_mgE (ws' := [ro_ mm 12 (mo g (nI ta) (nI pa) (nI pe) pd (nI pb) pp pf pg pn rt (nI (lRn L)) (nI cd) sn (nI il) tk2_19 am2_21 at_2_22 aa2_23 0 0 (-1) wt wy2_24 0 (nI rm) (nI ud2_8) (nI ((nu + 1) % 20)) (Int64.ofNat (kda (lRn L) (SC.2.2, (nBa SC.1), (nWe SC.1)) dm).1) (nI qn) (nI qw) qo (nI qb) (nI qp2_20) qa (nI qi) (nI oc)), ra_I (g 24) cI 6 (l6 u0 u1 u2 u3 u4 u5), ra_I (g 25) cI 6 (l6 v0 v1 v2 v3 v4 v5), ra_N (g 26) cI 3200 cs, ra_I (g 31) cI 120 nw2_16, ra_N (g 46) cI 9 y46l, ra_J (g 86) cJ 1700 ql2_25, ra_I (g 20) cI 4 (l4 (nI l0) (nI l1) (nI dm) (nI l3)), ra_I (g 38) cI 90 ws_2_26, ra_I (g 36) cZ 900 yw2_27, ra_I (g 37) cZ 900 yo2_28, ra_J (g 43) cJ 90 be2_29, ra_J (g 44) cJ 90 bf2_30, ra_I (g 54) cI 2400 zkp, ra_I (g 9) cI 6 rf]) eu_34 hP hD rfl (fun hP hD => ?_)
            refine lv_aload_n hx hb dX12_chance_46 rfl (lv_at hl 3 rfl) ?_
            refine sk_get (v := .long wy2_24) (C := RX12) (T := TX12) (N := 92) hx hb hts inlX12 hown hK hP 0 rfl rfl 45 (Nat.le_of_ble_eq_true rfl) w_5_200 rfl dX12_chance_47 ?_
            refine lv_lconst (v := 0) hx hb dX12_chance_50 (by decide) ?_
            refine W.lcmp hx hb dX12_chance_51 ?_
            refine lv_if_le (tgt := 59) hx hb dX12_chance_52 (by decide) (fun c_35 => ?_) (fun c_35 => ?_)
            · have hc9 : (kNum L dm (kchN (lRn L) dm SC)) ≤ 1000000000 := kcC_9 _ (show dm ≤ 9 by omega) _ _
              have hz0 : (kNum L dm (kchN (lRn L) dm SC)) = 0 := Nat.eq_zero_of_not_pos (fun q => absurd ((lg_cmp_le _ _).mp c_35) (by rw [hwy_33]; exact Int64.not_le.mpr ((klt (a := 0) (by decide) (Nat.lt_of_le_of_lt hc9 (by decide))).mpr q)))
              refine lv_iconst (v := 0) hx hb dX12_chance_59 ic_0 ?_
              refine lv_istore_n (lv' := [(3, .int 0), (4, .int (nI i)), (2, .int (nI went)), (0, .ref mm), (1, .int (nI ka))]) hx hb dX12_chance_60 rfl hl (by decide) rfl (fun ls hl => ?_)
              refine lv_iload_n hx hb dX12_chance_61 rfl (lv_at hl 0 rfl) ?_
              refine lv_if_ne (tgt := 68) hx hb dX12_chance_62 (by decide) (fun c => absurd c (by decide)) (fun c_36 => ?_)
              refine lv_goto (tgt := 83) hx hb dX12_chance_65 (by decide) ?_
              refine lv_iinc (v := nI (i + 1)) (lv' := [(4, .int (nI (i + 1))), (3, .int 0), (2, .int (nI went)), (0, .ref mm), (1, .int (nI ka))]) hx hb dX12_chance_83 hl (k := 1) rfl (ninc i 1 (by decide)) (by decide) rfl (fun ls hl => ?_)
              refine lv_goto (tgt := 28) hx hb dX12_chance_86 (by decide) ?_
              exact ih_lp_12 (i + 1) 0 went am2_21 at_2_22 aa2_23 tk2_19 qp2_20 wy2_24 (Int64.ofNat (kda (lRn L) (SC.2.2, (nBa SC.1), (nWe SC.1)) dm).1) nw2_16 y46l ql2_25 ws_2_26 yw2_27 yo2_28 be2_29 bf2_30 zkp (kch0 L dm SC) _ _ _ (by omega) hy46l (by omega) (by omega) (Or.inr ⟨rfl, by rw [hwi]; exact chl_z hch (by omega) hz0⟩) (Or.inl rfl) (kcOk_0 (L := L) hso).1 rfl hnw2_17 hzk hsk9 hP hD hS (lv_sub hl [0, 1, 2, 3, 4] rfl)
            · have hc9 : (kNum L dm (kchN (lRn L) dm SC)) ≤ 1000000000 := kcC_9 _ (show dm ≤ 9 by omega) _ _
              have hnz : 0 < (kNum L dm (kchN (lRn L) dm SC)) := Nat.pos_of_ne_zero (fun q => c_35 ((lg_cmp_le _ _).mpr (by rw [hwy_33]; exact (show Int64.ofNat (kNum L dm (kchN (lRn L) dm SC)) ≤ 0 by rw [q]; decide))))
              refine lv_iconst (v := 1) hx hb dX12_chance_55 ic_1 ?_
              refine lv_goto (tgt := 60) hx hb dX12_chance_56 (by decide) ?_
              refine lv_istore_n (lv' := [(3, .int 1), (4, .int (nI i)), (2, .int (nI went)), (0, .ref mm), (1, .int (nI ka))]) hx hb dX12_chance_60 rfl hl (by decide) rfl (fun ls hl => ?_)
              refine lv_iload_n hx hb dX12_chance_61 rfl (lv_at hl 0 rfl) ?_
              refine lv_if_ne (tgt := 68) hx hb dX12_chance_62 (by decide) (fun c_37 => ?_) (fun c => absurd c (by decide))
              refine lv_aload_n hx hb dX12_chance_68 rfl (lv_at hl 3 rfl) ?_
              refine lv_aload_n hx hb dX12_chance_69 rfl (lv_at hl 3 rfl) ?_
              refine lv_aload_n hx hb dX12_chance_70 rfl (lv_at hl 3 rfl) ?_
              refine sk_get (v := .long wy2_24) (C := RX12) (T := TX12) (N := 92) hx hb hts inlX12 hown hK hP 0 rfl rfl 45 (Nat.le_of_ble_eq_true rfl) w_5_200 rfl dX12_chance_71 ?_
              have hk9 := (kda_9 (rn := lRn L) (s := (SC.2.2, nBa SC.1, nWe SC.1)) hso.1.2.2.1 hso.1.2.2.2.1 hso.2.2 dm).2.2
              refine sk_topl (Int64.ofNat (kNum L dm (kchN (lRn L) dm SC))) hwy_33 ?_
              refine sk_Vl (q0 := 0) (n := 1) (rest := [.ref mm]) (wr := fmR om_15_4000 _) ⟨hx, hb, hml, hown, hts⟩ hl.1 (c_nm_drawOf l D cI cJ cC cZ cS mm g ta pa pe pd pb pp pf pg pn rt cd sn il tk2_19 am2_21 at_2_22 aa2_23 wt wy2_24 rm ud2_8 ((nu + 1) % 20) qn qw qo qb qp2_20 qa qi oc ((kda (lRn L) (SC.2.2, (nBa SC.1), (nWe SC.1)) dm).1) L (kNum L dm (kchN (lRn L) dm SC)) (by omega) hnz (by omega)) w_8_155 w_8_157 w_0_109 w_1_14 w_8_158 hd_X12_drawOf_1 ⟨⟨(Nat.le_of_ble_eq_true rfl), (Nat.le_of_ble_eq_true rfl)⟩, (Nat.le_of_ble_eq_true rfl), (Nat.le_of_ble_eq_true rfl)⟩ hK hP hD hS hA (fmT om_15_4000 0) (fmF om_15_4000 0) (fm_C1 rfl rfl) (fm_R rfl rfl) (fm_nT om_15_4000 0) (fm_nF om_15_4000 0) (fm_di om_15_4000 0) rfl rfl rfl rfl (Nat.le_of_ble_eq_true rfl) dX12_chance_74 (fun r_38 u H locs hw hP hD hS => ?_)
              refine anE hw (fun er_40 eu_39 => ?_)
              clear hw
              subst er_40
              refine o_mgE (ws' := [ro_ mm 12 (mo g (nI ta) (nI pa) (nI pe) pd (nI pb) pp pf pg pn rt (nI (lRn L)) (nI cd) sn (nI il) tk2_19 am2_21 at_2_22 aa2_23 0 0 (-1) wt wy2_24 0 (nI rm) (nI ud2_8) (nI ((nu + 1) % 20)) (Int64.ofNat (kdr ((kda (lRn L) (SC.2.2, (nBa SC.1), (nWe SC.1)) dm).1))) (nI qn) (nI qw) qo (nI qb) (nI qp2_20) qa (nI qi) (nI oc)), ra_I (g 24) cI 6 (l6 u0 u1 u2 u3 u4 u5), ra_I (g 25) cI 6 (l6 v0 v1 v2 v3 v4 v5), ra_N (g 26) cI 3200 cs, ra_I (g 31) cI 120 nw2_16, ra_N (g 46) cI 9 y46l, ra_J (g 86) cJ 1700 ql2_25, ra_I (g 20) cI 4 (l4 (nI l0) (nI l1) (nI dm) (nI l3)), ra_I (g 38) cI 90 ws_2_26, ra_I (g 36) cZ 900 yw2_27, ra_I (g 37) cZ 900 yo2_28, ra_J (g 43) cJ 90 be2_29, ra_J (g 44) cJ 90 bf2_30, ra_I (g 54) cI 2400 zkp, ra_I (g 9) cI 6 rf]) eu_39 hP hD rfl (fun hP hD => ?_)
              have hnx := kdv_lt (x := kchS (lRn L) dm SC) (m := (kNum L dm (kchN (lRn L) dm SC))) hnz
              refine sk_topl (nL (kchX L dm SC)) rfl ?_
              refine sk_Vv (q0 := 0) (n := 1) (rest := []) (wr := fmR om_15_46b8 _) ⟨hx, hb, hml, hown, hts⟩ hl.1 (c_nm_goesBy0 l D cI cJ cC cZ cS mm g ta pa pe pd pb pp pf pg pn rt (nI (lRn L)) cd sn il tk2_19 am2_21 at_2_22 aa2_23 wt wy2_24 rm ud2_8 ((nu + 1) % 20) (Int64.ofNat (kdr ((kda (lRn L) (SC.2.2, (nBa SC.1), (nWe SC.1)) dm).1))) qn qw qo qb qp2_20 qa qi oc l0 l1 dm l3 nw2_16 yo2_28 yw2_27 be2_29 y46l (nWk SC.1) (nMo SC.1) ((kda (lRn L) (SC.2.2, (nBa SC.1), (nWe SC.1)) dm).2.1) ((kda (lRn L) (SC.2.2, (nBa SC.1), (nWe SC.1)) dm).2.2) (nMu SC.1) (nKe SC.1) SC.2.1 L (kchX L dm SC) hdm (by omega) hbe_31 hcf_32 hwy_33 hnx hnw2_17 hy46l) w_8_17 w_8_19 w_0_93 w_1_14 w_8_20 hd_X12_goesBy_1 ⟨⟨(Nat.le_of_ble_eq_true rfl), (Nat.le_of_ble_eq_true rfl)⟩, (Nat.le_of_ble_eq_true rfl), (Nat.le_of_ble_eq_true rfl)⟩ hK hP hD hS hA [0, 7, 4, 10, 9, 11, 5] (fmF om_15_46b8 0) rfl (fm_R rfl rfl) (by decide +kernel) (fm_nF om_15_46b8 0) (by decide +kernel) rfl rfl rfl rfl (Nat.le_of_ble_eq_true rfl) dX12_chance_77 (fun u H locs hw hP hD hS => ?_)
              refine exE hw (fun nw2_41 hw1 => exE hw1 (fun pt2_42 hw2 => anE hw2 (fun hnw2_43 hw3 => anE hw3 (fun hpt2_44 eu_45 => ?_))))
              clear hw hw1 hw2 hw3
              refine o_mgqE (ux := [ro_ mm 12 (mo g (nI ta) (nI pa) (nI pe) pd (nI pb) pp pf pg pn rt (nI (lRn L)) (nI cd) sn (nI il) tk2_19 am2_21 at_2_22 aa2_23 0 0 (-1) wt wy2_24 0 (nI rm) (nI ud2_8) (nI ((nu + 1) % 20)) (Int64.ofNat (kdr ((kda (lRn L) (SC.2.2, (nBa SC.1), (nWe SC.1)) dm).1))) (nI qn) (nI qw) qo (nI qb) (nI qp2_20) qa (nI qi) (nI oc)), ra_I (g 31) cI 120 nw2_41, ra_N (g 46) cI 9 pt2_42, ra_I (g 20) cI 4 (l4 (nI l0) (nI l1) (nI dm) (nI l3)), ra_I (g 36) cZ 900 yw2_27, ra_I (g 37) cZ 900 yo2_28, ra_J (g 43) cJ 90 be2_29]) (ws' := [ro_ mm 12 (mo g (nI ta) (nI pa) (nI pe) pd (nI pb) pp pf pg pn rt (nI (lRn L)) (nI cd) sn (nI il) tk2_19 am2_21 at_2_22 aa2_23 0 0 (-1) wt wy2_24 0 (nI rm) (nI ud2_8) (nI ((nu + 1) % 20)) (Int64.ofNat (kdr ((kda (lRn L) (SC.2.2, (nBa SC.1), (nWe SC.1)) dm).1))) (nI qn) (nI qw) qo (nI qb) (nI qp2_20) qa (nI qi) (nI oc)), ra_I (g 24) cI 6 (l6 u0 u1 u2 u3 u4 u5), ra_I (g 25) cI 6 (l6 v0 v1 v2 v3 v4 v5), ra_N (g 26) cI 3200 cs, ra_I (g 31) cI 120 nw2_41, ra_N (g 46) cI 9 pt2_42, ra_J (g 86) cJ 1700 ql2_25, ra_I (g 20) cI 4 (l4 (nI l0) (nI l1) (nI dm) (nI l3)), ra_I (g 38) cI 90 ws_2_26, ra_I (g 36) cZ 900 yw2_27, ra_I (g 37) cZ 900 yo2_28, ra_J (g 43) cJ 90 be2_29, ra_J (g 44) cJ 90 bf2_30, ra_I (g 54) cI 2400 zkp, ra_I (g 9) cI 6 rf]) eu_45 [0, 2, 6, 1, 4, 3, 5] (by decide +kernel) rfl hP hD rfl (fun hP hD => ?_)
              refine lv_iinc (v := nI (went + 1)) (lv' := [(2, .int (nI (went + 1))), (3, .int 1), (4, .int (nI i)), (0, .ref mm), (1, .int (nI ka))]) hx hb dX12_chance_80 hl (k := 2) rfl (ninc went 1 (by decide)) (by decide) rfl (fun ls hl => ?_)
              refine lv_iinc (v := nI (i + 1)) (lv' := [(4, .int (nI (i + 1))), (2, .int (nI (went + 1))), (3, .int 1), (0, .ref mm), (1, .int (nI ka))]) hx hb dX12_chance_83 hl (k := 2) rfl (ninc i 1 (by decide)) (by decide) rfl (fun ls hl => ?_)
              refine lv_goto (tgt := 28) hx hb dX12_chance_86 (by decide) ?_
              exact ih_lp_12 (i + 1) 1 (went + 1) am2_21 at_2_22 aa2_23 tk2_19 qp2_20 wy2_24 (Int64.ofNat (kdr ((kda (lRn L) (SC.2.2, (nBa SC.1), (nWe SC.1)) dm).1))) nw2_41 pt2_42 ql2_25 ws_2_26 yw2_27 yo2_28 be2_29 bf2_30 zkp (kch1 L dm SC) _ _ _ (by omega) hpt2_44 (by omega) (by omega) (Or.inl ⟨rfl, by omega, chl_s hch (by omega) hnz⟩) (Or.inr (show nWk SC.1 + 1 + (ka - (i + 1)) ≤ 999 by omega)) (kcOk_1 (L := L) hso (by omega) (by omega) (by omega) hnz).1 rfl hnw2_43 (kpX_lg hzk hsk9) (fun j hj => Nat.le_succ_of_le (hsk9 j hj)) hP hD hS (lv_sub hl [0, 2, 1, 3, 4] rfl)
    exact lp_12 (31 - 0 + 1) 0 1 0 am at_ aa tk qp wy (Int64.ofNat sv) nw pt ql ws_ yw yo be bf kp2_7 ((wn, mN, Ba, We, U, ke), lg, sv) _ _ _ (Nat.lt_succ_self _) hpt (by omega) (by omega) (Or.inl ⟨rfl, rfl, chl_0⟩) (Or.inr (show wn + (ka - 0) ≤ 999 by omega)) ⟨⟨hwk, hnw.1, hB9, hW9, hUd, hkw⟩, hlg, hsv⟩ rfl hnw hkp2_10 (psh_ke (ke := 0) hsk (by omega) (Nat.le_refl ke) hud2_9) hP hD hS (lv_sub hl [0, 1, 2, 3, 4] rfl)
  · have c_6 : b_1 = 0 := (neq b_1 0 (by omega) (Nat.le_of_ble_eq_true rfl)).mp c_6
    refine lv_aload_n hx hb dX12_chance_11 rfl (lv_at hl 0 rfl) ?_
    refine lv_iconst (v := 3) hx hb dX12_chance_12 ic_3 ?_
    refine sk_Vi (q0 := 0) (n := 1) (rest := []) (wr := fmR om_15_4001 _) ⟨hx, hb, hml, hown, hts⟩ hl.1 (c_nm_refuses l D cI cJ cC cZ cS mm g ta pa pe pd pb pp pf pg pn rt (nI (lRn L)) cd sn il tk am at_ aa wt wy rm ud nu (Int64.ofNat sv) qn qw qo qb qp qa qi oc 3 rf (by omega)) w_8_97 w_8_99 w_0_104 w_1_14 w_8_100 hd_X12_refuses_1 ⟨⟨(Nat.le_of_ble_eq_true rfl), (Nat.le_of_ble_eq_true rfl)⟩, (Nat.le_of_ble_eq_true rfl), (Nat.le_of_ble_eq_true rfl)⟩ hK hP hD hS hA (fmT om_15_4001 0) (fmF om_15_4001 0) (fm_C1 rfl rfl) (fm_R rfl rfl) (fm_nT om_15_4001 0) (fm_nF om_15_4001 0) (fm_di om_15_4001 0) rfl rfl rfl rfl (Nat.le_of_ble_eq_true rfl) dX12_chance_13 (fun r_47 u H locs hw hP hD hS => ?_)
    refine exE hw (fun rf2_46 hw1 => anE hw1 (fun hrf_48 hw2 => anE hw2 (fun er_50 eu_49 => ?_)))
    clear hw hw1 hw2
    subst er_50
    refine o_mgE (ws' := [ro_ mm 12 (mo g (nI ta) (nI pa) (nI pe) pd (nI pb) pp pf pg pn rt (nI (lRn L)) (nI cd) sn (nI il) tk am at_ aa 0 0 (-1) wt wy 0 (nI rm) (nI ud) (nI nu) (Int64.ofNat sv) (nI qn) (nI qw) qo (nI qb) (nI qp) qa (nI qi) (nI oc)), ra_I (g 24) cI 6 (l6 u0 u1 u2 u3 u4 u5), ra_I (g 25) cI 6 (l6 v0 v1 v2 v3 v4 v5), ra_N (g 26) cI 3200 cs, ra_I (g 31) cI 120 nw, ra_N (g 46) cI 9 pt, ra_J (g 86) cJ 1700 ql, ra_I (g 20) cI 4 (l4 (nI l0) (nI l1) (nI dm) (nI l3)), ra_I (g 38) cI 90 ws_, ra_I (g 36) cZ 900 yw, ra_I (g 37) cZ 900 yo, ra_J (g 43) cJ 90 be, ra_J (g 44) cJ 90 bf, ra_I (g 54) cI 2400 kp, ra_I (g 9) cI 6 rf2_46]) eu_49 hP hD rfl (fun hP hD => ?_)
    exact sk_iret hx hb hr rfl hlocks hK hP hD hS (⟨Ba, We, U, wn, mN, ke, sv, lg, su, nw, kp, tk, qp, am, at_, aa, wy, nu, ud, pt, ql, ws_, yw, yo, be, bf, rf2_46, hnw, hkp, hnu, hud, ch_n (fun x hq => rr_0 hah_3 (by omega) ⟨hilb hq.1, x, hq.2.1, hq.2.2.1, hq.2.2.2.1, hq.2.2.2.2⟩) hrf_48, hpt, rfl⟩) (Nat.le_of_ble_eq_true rfl) (Nat.le_of_ble_eq_true rfl) dX12_chance_16
theorem dg_X12_octet_0_0 : bqL cX12_octet 0 [(0, [27]), (1, [155, 0, 20]), (21, [2]), (22, [172]), (4, [27]), (5, [42]), (6, [180, 2, 83]), (9, [162, 0, 12]), (12, [42]), (13, [180, 0, 189]), (16, [27]), (17, [46]), (18, [167, 0, 4])] = true := by decide +kernel
theorem dX12_octet_0 : decode cX12_octet 0 = .ok (.iload_n 1, 1) := q_iload_n1 (bat_get dg_X12_octet_0_0 0 rfl rfl)
theorem dX12_octet_1 : decode cX12_octet 1 = .ok (.ifCond .lt 20, 3) := q_ifCond_lt (bat_get dg_X12_octet_0_0 1 rfl rfl) rfl
theorem dX12_octet_21 : decode cX12_octet 21 = .ok (.iconst (-1), 1) := q_iconstm1 (bat_get dg_X12_octet_0_0 2 rfl rfl)
theorem dX12_octet_22 : decode cX12_octet 22 = .ok (.ireturn, 1) := q_ireturn (bat_get dg_X12_octet_0_0 3 rfl rfl)
theorem dX12_octet_4 : decode cX12_octet 4 = .ok (.iload_n 1, 1) := q_iload_n1 (bat_get dg_X12_octet_0_0 4 rfl rfl)
theorem dX12_octet_5 : decode cX12_octet 5 = .ok (.aload_n 0, 1) := q_aload_n0 (bat_get dg_X12_octet_0_0 5 rfl rfl)
theorem dX12_octet_6 : decode cX12_octet 6 = .ok (.getfield 595, 3) := q_getfield (bat_get dg_X12_octet_0_0 6 rfl rfl) rfl
theorem dX12_octet_9 : decode cX12_octet 9 = .ok (.if_icmp .ge 12, 3) := q_if_icmp_ge (bat_get dg_X12_octet_0_0 7 rfl rfl) rfl
theorem dX12_octet_12 : decode cX12_octet 12 = .ok (.aload_n 0, 1) := q_aload_n0 (bat_get dg_X12_octet_0_0 8 rfl rfl)
theorem dX12_octet_13 : decode cX12_octet 13 = .ok (.getfield 189, 3) := q_getfield (bat_get dg_X12_octet_0_0 9 rfl rfl) rfl
theorem dX12_octet_16 : decode cX12_octet 16 = .ok (.iload_n 1, 1) := q_iload_n1 (bat_get dg_X12_octet_0_0 10 rfl rfl)
theorem dX12_octet_17 : decode cX12_octet 17 = .ok (.iaload, 1) := q_iaload (bat_get dg_X12_octet_0_0 11 rfl rfl)
theorem dX12_octet_18 : decode cX12_octet 18 = .ok (.goto 4, 3) := q_goto (bat_get dg_X12_octet_0_0 12 rfl rfl) rfl
theorem w_6_6 : (Cond.fieldLink RX12 595 "SameKeeperModel" "octets" "I") ∈ wsL_law := sk_mem (ck_6 _ (List.mem_of_getElem? (i := 6) rfl)) rfl
theorem w_6_5 : (Cond.fieldLink RX12 189 "SameKeeperModel" "octet" "[I") ∈ wsL_law := sk_mem (ck_6 _ (List.mem_of_getElem? (i := 5) rfl)) rfl
theorem w_8_217 : (Cond.code yX12_octet cX12_octet 2 (some .int)) ∈ wsL_law := sk_mem (ck_8 _ (List.mem_of_getElem? (i := 217) rfl)) rfl
set_option maxHeartbeats 4000000 in
set_option maxRecDepth 100000 in
theorem c_nm_octet (l : Launch) (D : va_G) (cI cJ cC cZ cS : ClassId) (mm : Nat) (g : Nat → Nat) (ta : Nat) (pa : Nat) (pe : Nat) (pd : Int32) (pb : Nat) (pp : Int32) (pf : Int32) (pg : Int32) (pn : Int32) (rt : Int32) (rn : Int32) (cd : Nat) (sn : Int32) (il : Nat) (tk : Int32) (am : Int32) (at_ : Int32) (aa : Int32) (wt : Int32) (wy : Int64) (rm : Nat) (ud : Nat) (nu : Nat) (sd : Int64) (qn : Nat) (qw : Nat) (qo : Int32) (qb : Nat) (qp : Nat) (qa : Int64) (qi : Nat) (oc : Nat) (k : Int32) (oc_ : Nat → Int32) (pB : Nat → Nat) (hoc : oc ≤ 31) (hpo : ∀ j, j < oc → oc_ j = nI (pB j)) : skM l yX12_octet cX12_octet 2 (some .int) 0 0 0 0 D (skT cI cJ cC cZ cS) [.ref mm, .int k] [ro_ mm 12 (mo g (nI ta) (nI pa) (nI pe) pd (nI pb) pp pf pg pn rt rn (nI cd) sn (nI il) tk am at_ aa 0 0 (-1) wt wy 0 (nI rm) (nI ud) (nI nu) sd (nI qn) (nI qw) qo (nI qb) (nI qp) qa (nI qi) (nI oc)), ra_I (g 90) cI 31 oc_] (skI D (skT cI cJ cC cZ cS) (fun (r : Int32) (u : va_W) => octR oc pB k r ∧ u = [ro_ mm 12 (mo g (nI ta) (nI pa) (nI pe) pd (nI pb) pp pf pg pn rt rn (nI cd) sn (nI il) tk am at_ aa 0 0 (-1) wt wy 0 (nI rm) (nI ud) (nI nu) sd (nI qn) (nI qw) qo (nI qb) (nI qp) qa (nI qi) (nI oc)), ra_I (g 90) cI 31 oc_])) := by
  refine skM_of pf_X12_octet (Nat.le_of_ble_eq_true rfl) ?_
  intro p e s m below meth c A ls E hP hD hl
  refine skE_el E (fun hx hb hr hml hlocks hin hown hts hK hA => ?_)
  have hown : s.vm.findClass RX12 = some m.cls := hown
  have hS : va_S A s.heap s.heap [] := va_S.rf
  have hl : lv_has ls 2 [(0, .ref mm), (1, .int k)] := hl
  refine lv_iload_n hx hb dX12_octet_0 rfl (lv_at hl 1 rfl) ?_
  refine lv_if_lt (tgt := 21) hx hb dX12_octet_1 (by decide) (fun c_1 => ?_) (fun c_1 => ?_)
  · skip
    refine lv_iconst (v := (-1)) hx hb dX12_octet_21 (by decide) ?_
    exact sk_iret hx hb hr rfl hlocks hK hP hD hS (⟨kR_0 (fun x hq => absurd c_1 (by rw [hq.2]; exact nI_pos (by omega))) rfl, rfl⟩) (Nat.le_of_ble_eq_true rfl) (Nat.le_of_ble_eq_true rfl) dX12_octet_22
  · obtain ⟨k_2, hk_2, rfl⟩ := nof k c_1
    refine lv_iload_n hx hb dX12_octet_4 rfl (lv_at hl 1 rfl) ?_
    refine lv_aload_n hx hb dX12_octet_5 rfl (lv_at hl 0 rfl) ?_
    refine sk_get (v := .int (nI oc)) (C := RX12) (T := TX12) (N := 92) hx hb hts inlX12 hown hK hP 0 rfl rfl 91 (Nat.le_of_ble_eq_true rfl) w_6_6 rfl dX12_octet_6 ?_
    refine lv_icmp_ge (tgt := 21) hx hb dX12_octet_9 (by decide) (fun c_3 => ?_) (fun c_3 => ?_)
    · have c_3 : oc ≤ k_2 := (nle oc k_2 (by omega) (by omega)).mp c_3
      refine lv_iconst (v := (-1)) hx hb dX12_octet_21 (by decide) ?_
      exact sk_iret hx hb hr rfl hlocks hK hP hD hS (⟨kR_0 (fun x hq => (by have := (neq k_2 x (by omega) (by omega)).mp hq.2; omega)) rfl, rfl⟩) (Nat.le_of_ble_eq_true rfl) (Nat.le_of_ble_eq_true rfl) dX12_octet_22
    · have c_3 : ¬ (oc ≤ k_2) := fun h => c_3 ((nle oc k_2 (by omega) (by omega)).mpr h)
      refine lv_aload_n hx hb dX12_octet_12 rfl (lv_at hl 0 rfl) ?_
      refine sk_get (v := .ref (g 90)) (C := RX12) (T := TX12) (N := 92) hx hb hts inlX12 hown hK hP 0 rfl rfl 90 (Nat.le_of_ble_eq_true rfl) w_6_5 rfl dX12_octet_13 ?_
      refine lv_iload_n hx hb dX12_octet_16 rfl (lv_at hl 1 rfl) ?_
      refine va_iald hx hb hK.1 hP 1 0 rfl rfl (vin k_2 31 (by omega) (Nat.le_of_ble_eq_true rfl)) dX12_octet_17 ?_
      refine sk_top (oc_ k_2) (by rw [nI_clamp (by omega)]) ?_
      refine lv_goto (tgt := 22) hx hb dX12_octet_18 (by decide) ?_
      exact sk_iret hx hb hr rfl hlocks hK hP hD hS (⟨kR_1 k_2 ⟨by omega, rfl⟩ (hpo k_2 (by omega)), rfl⟩) (Nat.le_of_ble_eq_true rfl) (Nat.le_of_ble_eq_true rfl) dX12_octet_22
theorem dg_X12_writes_0_0 : bqL cX12_writes 0 [(0, [42]), (1, [180, 0, 189]), (4, [42]), (5, [180, 2, 83]), (8, [27]), (9, [79]), (10, [42]), (11, [89]), (12, [180, 2, 83]), (15, [4]), (16, [96]), (17, [181, 2, 83]), (20, [177])] = true := by decide +kernel
theorem dX12_writes_0 : decode cX12_writes 0 = .ok (.aload_n 0, 1) := q_aload_n0 (bat_get dg_X12_writes_0_0 0 rfl rfl)
theorem dX12_writes_1 : decode cX12_writes 1 = .ok (.getfield 189, 3) := q_getfield (bat_get dg_X12_writes_0_0 1 rfl rfl) rfl
theorem dX12_writes_4 : decode cX12_writes 4 = .ok (.aload_n 0, 1) := q_aload_n0 (bat_get dg_X12_writes_0_0 2 rfl rfl)
theorem dX12_writes_5 : decode cX12_writes 5 = .ok (.getfield 595, 3) := q_getfield (bat_get dg_X12_writes_0_0 3 rfl rfl) rfl
theorem dX12_writes_8 : decode cX12_writes 8 = .ok (.iload_n 1, 1) := q_iload_n1 (bat_get dg_X12_writes_0_0 4 rfl rfl)
theorem dX12_writes_9 : decode cX12_writes 9 = .ok (.iastore, 1) := q_iastore (bat_get dg_X12_writes_0_0 5 rfl rfl)
theorem dX12_writes_10 : decode cX12_writes 10 = .ok (.aload_n 0, 1) := q_aload_n0 (bat_get dg_X12_writes_0_0 6 rfl rfl)
theorem dX12_writes_11 : decode cX12_writes 11 = .ok (.dup, 1) := q_dup (bat_get dg_X12_writes_0_0 7 rfl rfl)
theorem dX12_writes_12 : decode cX12_writes 12 = .ok (.getfield 595, 3) := q_getfield (bat_get dg_X12_writes_0_0 8 rfl rfl) rfl
theorem dX12_writes_15 : decode cX12_writes 15 = .ok (.iconst 1, 1) := q_iconst1 (bat_get dg_X12_writes_0_0 9 rfl rfl)
theorem dX12_writes_16 : decode cX12_writes 16 = .ok (.iadd, 1) := q_iadd (bat_get dg_X12_writes_0_0 10 rfl rfl)
theorem dX12_writes_17 : decode cX12_writes 17 = .ok (.putfield 595, 3) := q_putfield (bat_get dg_X12_writes_0_0 11 rfl rfl) rfl
theorem dX12_writes_20 : decode cX12_writes 20 = .ok (.return_, 1) := q_return_ (bat_get dg_X12_writes_0_0 12 rfl rfl)
theorem w_8_210 : (Cond.code yX12_writes cX12_writes 2 none) ∈ wsL_law := sk_mem (ck_8 _ (List.mem_of_getElem? (i := 210) rfl)) rfl
set_option maxHeartbeats 4000000 in
set_option maxRecDepth 100000 in
theorem c_nm_writes (l : Launch) (D : va_G) (cI cJ cC cZ cS : ClassId) (mm : Nat) (g : Nat → Nat) (ta : Nat) (pa : Nat) (pe : Nat) (pd : Int32) (pb : Nat) (pp : Int32) (pf : Int32) (pg : Int32) (pn : Int32) (rt : Int32) (rn : Int32) (cd : Nat) (sn : Int32) (il : Nat) (tk : Int32) (am : Int32) (at_ : Int32) (aa : Int32) (wt : Int32) (wy : Int64) (rm : Nat) (ud : Nat) (nu : Nat) (sd : Int64) (qn : Nat) (qw : Nat) (qo : Int32) (qb : Nat) (qp : Nat) (qa : Int64) (qi : Nat) (oc : Nat) (v : Int32) (oc_ : Nat → Int32) (hoc : oc < 31) : skM l yX12_writes cX12_writes 2 none 0 0 0 0 D (skT cI cJ cC cZ cS) [.ref mm, .int v] [ro_ mm 12 (mo g (nI ta) (nI pa) (nI pe) pd (nI pb) pp pf pg pn rt rn (nI cd) sn (nI il) tk am at_ aa 0 0 (-1) wt wy 0 (nI rm) (nI ud) (nI nu) sd (nI qn) (nI qw) qo (nI qb) (nI qp) qa (nI qi) (nI oc)), ra_I (g 90) cI 31 oc_] (skV D (skT cI cJ cC cZ cS) (fun (u : va_W) => ∃ (oc_2 : Nat → Int32), oc_2 = upd oc_ oc v ∧ u = [ro_ mm 12 (mo g (nI ta) (nI pa) (nI pe) pd (nI pb) pp pf pg pn rt rn (nI cd) sn (nI il) tk am at_ aa 0 0 (-1) wt wy 0 (nI rm) (nI ud) (nI nu) sd (nI qn) (nI qw) qo (nI qb) (nI qp) qa (nI qi) (nI (oc + 1))), ra_I (g 90) cI 31 oc_2])) := by
  refine skM_of pf_X12_writes (Nat.le_of_ble_eq_true rfl) ?_
  intro p e s m below meth c A ls E hP hD hl
  refine skE_el E (fun hx hb hr hml hlocks hin hown hts hK hA => ?_)
  have hown : s.vm.findClass RX12 = some m.cls := hown
  have hS : va_S A s.heap s.heap [] := va_S.rf
  have hl : lv_has ls 2 [(0, .ref mm), (1, .int v)] := hl
  refine lv_aload_n hx hb dX12_writes_0 rfl (lv_at hl 0 rfl) ?_
  refine sk_get (v := .ref (g 90)) (C := RX12) (T := TX12) (N := 92) hx hb hts inlX12 hown hK hP 0 rfl rfl 90 (Nat.le_of_ble_eq_true rfl) w_6_5 rfl dX12_writes_1 ?_
  refine lv_aload_n hx hb dX12_writes_4 rfl (lv_at hl 0 rfl) ?_
  refine sk_get (v := .int (nI oc)) (C := RX12) (T := TX12) (N := 92) hx hb hts inlX12 hown hK hP 0 rfl rfl 91 (Nat.le_of_ble_eq_true rfl) w_6_6 rfl dX12_writes_5 ?_
  refine lv_iload_n hx hb dX12_writes_8 rfl (lv_at hl 1 rfl) ?_
  refine sk_iastE (k := oc) (ws' := fun f_1 => [ro_ mm 12 (mo g (nI ta) (nI pa) (nI pe) pd (nI pb) pp pf pg pn rt rn (nI cd) sn (nI il) tk am at_ aa 0 0 (-1) wt wy 0 (nI rm) (nI ud) (nI nu) sd (nI qn) (nI qw) qo (nI qb) (nI qp) qa (nI qi) (nI oc)), ra_I (g 90) cI 31 f_1]) hx hb hK hP hD hS 1 0 rfl rfl (by omega) (by omega) (fun _ => rfl) dX12_writes_9 (fun f_1 H locs ef_2 hP hD hS => ?_)
  refine lv_aload_n hx hb dX12_writes_10 rfl (lv_at hl 0 rfl) ?_
  refine lv_dup hx hb dX12_writes_11 rfl ?_
  refine sk_get (v := .int (nI oc)) (C := RX12) (T := TX12) (N := 92) hx hb hts inlX12 hown hK hP 0 rfl rfl 91 (Nat.le_of_ble_eq_true rfl) w_6_6 rfl dX12_writes_12 ?_
  refine lv_iconst (v := 1) hx hb dX12_writes_15 ic_1 ?_
  refine lv_iadd hx hb dX12_writes_16 ?_
  refine sk_top (nI (oc + 1)) (nI_add oc 1) ?_
  refine sk_put (ws' := [ro_ mm 12 (mo g (nI ta) (nI pa) (nI pe) pd (nI pb) pp pf pg pn rt rn (nI cd) sn (nI il) tk am at_ aa 0 0 (-1) wt wy 0 (nI rm) (nI ud) (nI nu) sd (nI qn) (nI qw) qo (nI qb) (nI qp) qa (nI qi) (nI (oc + 1))), ra_I (g 90) cI 31 f_1]) (C := RX12) (T := TX12) (N := 92) (v := .int (nI (oc + 1))) hx hb hts inlX12 tyX12 tyX12_ok nmX12 hown hK hP hD hS 0 rfl rfl 91 (Nat.le_of_ble_eq_true rfl) w_6_6 rfl rfl rfl (Nat.le_of_ble_eq_true rfl) rfl dX12_writes_17 (fun H locs hP hD hS => ?_)
  exact sk_vret hx hb hr hlocks hK hP hD hS (⟨f_1, ef_2, rfl⟩) (Nat.le_of_ble_eq_true rfl) (Nat.le_of_ble_eq_true rfl) dX12_writes_20
set_option maxHeartbeats 4000000 in
set_option maxRecDepth 100000 in
theorem c_nm_checkedI (l : Launch) (D : va_G) (cI cJ cC cZ cS : ClassId) (h0 : Nat) (ff : Nat → Int32) (n : Nat) (gg : Nat → Nat) (hn : n ≤ 31) (hgg : ∀ j, j < n → ff j = nI (gg j)) (hg9 : ∀ j, gg j ≤ 255) : skM l yX12_checked cX12_checked 4 (some .int) 0 0 0 0 D (skT cI cJ cC cZ cS) [.ref h0, .int (nI n)] [ra_I h0 cI 31 ff] (skI D (skT cI cJ cC cZ cS) (fun (r : Int32) (u : va_W) => ∃ (ck2 : Nat), ck2 = chkN gg n ∧ ck2 < 251 ∧ r = nI ck2 ∧ u = [ra_I h0 cI 31 ff])) := by
  refine skM_of pf_X12_checked (Nat.le_of_ble_eq_true rfl) ?_
  intro p e s m below meth c A ls E hP hD hl
  refine skE_el E (fun hx hb hr hml hlocks hin hown hts hK hA => ?_)
  have hown : s.vm.findClass RX12 = some m.cls := hown
  have hS : va_S A s.heap s.heap [] := va_S.rf
  have hl : lv_has ls 4 [(0, .ref h0), (1, .int (nI n))] := hl
  refine lv_sipush (v := 139) hx hb dX12_checked_0 (by decide) ?_
  refine lv_istore_n (lv' := [(2, .int 139), (0, .ref h0), (1, .int (nI n))]) hx hb dX12_checked_3 rfl hl (by decide) rfl (fun ls hl => ?_)
  refine lv_iconst (v := 0) hx hb dX12_checked_4 ic_0 ?_
  refine lv_istore_n (lv' := [(3, .int 0), (2, .int 139), (0, .ref h0), (1, .int (nI n))]) hx hb dX12_checked_5 rfl hl (by decide) rfl (fun ls hl => ?_)
  have lp_1 : ∀ (n_2 : Nat) (i : Nat) (ck : Nat) (H : Heap) (locs : List Loc) (ls : Array Slot), n - i < n_2 → (i ≤ n) → (ck < 251) → (ck = chkN gg i) → va_P D vwCl [ra_I h0 cI 31 ff] H → va_D A [ra_I h0 cI 31 ff] → va_S A s.heap H locs → lv_has ls 4 [(3, .int (nI i)), (2, .int (nI ck)), (0, .ref h0), (1, .int (nI n))] → W p l e { frames := 0, cells := 0, slots := 0, locals := 0 } s m ([.ref h0, .int (nI n)] : List Value).toArray below meth c H locs 0 0 (MQ below (skI D (skT cI cJ cC cZ cS) (fun (r : Int32) (u : va_W) => ∃ (ck2 : Nat), ck2 = chkN gg n ∧ ck2 < 251 ∧ r = nI ck2 ∧ u = [ra_I h0 cI 31 ff]) A) ([.ref h0, .int (nI n)] : List Value).toArray s 0 0 A) (F0 m 6 ls []) := by
    intro n_2
    induction n_2 with
    | zero => intro i ck H locs ls hm; exact absurd hm (Nat.not_lt_zero _)
    | succ n_2 ih_lp_1 =>
      intro i ck H locs ls hm hi hc9 hci hP hD hS hl
      refine lv_iload_n hx hb dX12_checked_6 rfl (lv_at hl 0 rfl) ?_
      refine lv_iload_n hx hb dX12_checked_7 rfl (lv_at hl 3 rfl) ?_
      refine lv_icmp_ge (tgt := 29) hx hb dX12_checked_8 (by decide) (fun c_3 => ?_) (fun c_3 => ?_)
      · have c_3 : n ≤ i := (nle n i (by omega) (by omega)).mp c_3
        refine lv_iload_n hx hb dX12_checked_29 rfl (lv_at hl 1 rfl) ?_
        exact sk_iret hx hb hr rfl hlocks hK hP hD hS (⟨ck, (by rw [show n = i by omega]; exact hci), hc9, rfl, rfl⟩) (Nat.le_of_ble_eq_true rfl) (Nat.le_of_ble_eq_true rfl) dX12_checked_30
      · have c_3 : ¬ (n ≤ i) := fun h => c_3 ((nle n i (by omega) (by omega)).mpr h)
        refine lv_iconst (v := 3) hx hb dX12_checked_11 ic_3 ?_
        refine lv_iload_n hx hb dX12_checked_12 rfl (lv_at hl 1 rfl) ?_
        refine lv_imul hx hb dX12_checked_13 ?_
        refine sk_top (nI (3 * ck)) (nmul 3 ck) ?_
        refine lv_aload_n hx hb dX12_checked_14 rfl (lv_at hl 2 rfl) ?_
        refine lv_iload_n hx hb dX12_checked_15 rfl (lv_at hl 0 rfl) ?_
        refine va_iald hx hb hK.1 hP 0 0 rfl rfl (vin i 31 (by omega) (Nat.le_of_ble_eq_true rfl)) dX12_checked_16 ?_
        have hg9i := hg9 i
        refine sk_top (nI (gg i)) (by rw [nI_clamp (by omega)]; exact hgg i (by omega)) ?_
        refine lv_iadd hx hb dX12_checked_17 ?_
        refine sk_top (nI (3 * ck + (gg i))) (nI_add (3 * ck) (gg i)) ?_
        refine lv_sipush (v := 251) hx hb dX12_checked_18 (by decide) ?_
        refine lv_irem hx hb dX12_checked_21 (by decide) ?_
        refine sk_top (nI ((3 * ck + (gg i)) % 251)) (nrem (3 * ck + (gg i)) 251 (by omega) (by omega) (by omega)) ?_
        refine lv_istore_n (lv' := [(2, .int (nI ((3 * ck + (gg i)) % 251))), (3, .int (nI i)), (0, .ref h0), (1, .int (nI n))]) hx hb dX12_checked_22 rfl hl (by decide) rfl (fun ls hl => ?_)
        refine lv_iinc (v := nI (i + 1)) (lv' := [(3, .int (nI (i + 1))), (2, .int (nI ((3 * ck + (gg i)) % 251))), (0, .ref h0), (1, .int (nI n))]) hx hb dX12_checked_23 hl (k := 1) rfl (ninc i 1 (by decide)) (by decide) rfl (fun ls hl => ?_)
        refine lv_goto (tgt := 6) hx hb dX12_checked_26 (by decide) ?_
        exact ih_lp_1 (i + 1) ((3 * ck + (gg i)) % 251) _ _ _ (by omega) (by omega) (by omega) (by rw [chkN, ← hci]) hP hD hS (lv_sub hl [0, 1, 2, 3] rfl)
  exact lp_1 (n - 0 + 1) 0 139 _ _ _ (Nat.lt_succ_self _) (by omega) (by omega) rfl hP hD hS (lv_sub hl [0, 1, 2, 3] rfl)
theorem dg_X12_image_0_0 : bqL cX12_image 0 [(0, [42]), (1, [3]), (2, [181, 2, 83]), (5, [42]), (6, [42]), (7, [180, 0, 63]), (10, [3]), (11, [46]), (12, [17, 1, 0]), (15, [108]), (16, [182, 2, 86]), (19, [42]), (20, [42]), (21, [180, 0, 63]), (24, [3]), (25, [46]), (26, [17, 1, 0]), (29, [112]), (30, [182, 2, 86]), (33, [42]), (34, [42]), (35, [180, 0, 63]), (38, [4]), (39, [46]), (40, [182, 2, 86]), (43, [3]), (44, [60]), (45, [27]), (46, [6]), (47, [42]), (48, [182, 1, 59]), (51, [104]), (52, [162, 0, 21]), (73, [42]), (74, [42]), (75, [180, 0, 189]), (78, [42]), (79, [180, 2, 83]), (82, [184, 2, 89]), (85, [182, 2, 86])] = true := by decide +kernel
theorem dX12_image_0 : decode cX12_image 0 = .ok (.aload_n 0, 1) := q_aload_n0 (bat_get dg_X12_image_0_0 0 rfl rfl)
theorem dX12_image_1 : decode cX12_image 1 = .ok (.iconst 0, 1) := q_iconst0 (bat_get dg_X12_image_0_0 1 rfl rfl)
theorem dX12_image_2 : decode cX12_image 2 = .ok (.putfield 595, 3) := q_putfield (bat_get dg_X12_image_0_0 2 rfl rfl) rfl
theorem dX12_image_5 : decode cX12_image 5 = .ok (.aload_n 0, 1) := q_aload_n0 (bat_get dg_X12_image_0_0 3 rfl rfl)
theorem dX12_image_6 : decode cX12_image 6 = .ok (.aload_n 0, 1) := q_aload_n0 (bat_get dg_X12_image_0_0 4 rfl rfl)
theorem dX12_image_7 : decode cX12_image 7 = .ok (.getfield 63, 3) := q_getfield (bat_get dg_X12_image_0_0 5 rfl rfl) rfl
theorem dX12_image_10 : decode cX12_image 10 = .ok (.iconst 0, 1) := q_iconst0 (bat_get dg_X12_image_0_0 6 rfl rfl)
theorem dX12_image_11 : decode cX12_image 11 = .ok (.iaload, 1) := q_iaload (bat_get dg_X12_image_0_0 7 rfl rfl)
theorem dX12_image_12 : decode cX12_image 12 = .ok (.sipush 256, 3) := q_sipush (bat_get dg_X12_image_0_0 8 rfl rfl) rfl
theorem dX12_image_15 : decode cX12_image 15 = .ok (.idiv, 1) := q_idiv (bat_get dg_X12_image_0_0 9 rfl rfl)
theorem dX12_image_16 : decode cX12_image 16 = .ok (.invokevirtual 598, 3) := q_invokevirtual (bat_get dg_X12_image_0_0 10 rfl rfl) rfl
theorem dX12_image_19 : decode cX12_image 19 = .ok (.aload_n 0, 1) := q_aload_n0 (bat_get dg_X12_image_0_0 11 rfl rfl)
theorem dX12_image_20 : decode cX12_image 20 = .ok (.aload_n 0, 1) := q_aload_n0 (bat_get dg_X12_image_0_0 12 rfl rfl)
theorem dX12_image_21 : decode cX12_image 21 = .ok (.getfield 63, 3) := q_getfield (bat_get dg_X12_image_0_0 13 rfl rfl) rfl
theorem dX12_image_24 : decode cX12_image 24 = .ok (.iconst 0, 1) := q_iconst0 (bat_get dg_X12_image_0_0 14 rfl rfl)
theorem dX12_image_25 : decode cX12_image 25 = .ok (.iaload, 1) := q_iaload (bat_get dg_X12_image_0_0 15 rfl rfl)
theorem dX12_image_26 : decode cX12_image 26 = .ok (.sipush 256, 3) := q_sipush (bat_get dg_X12_image_0_0 16 rfl rfl) rfl
theorem dX12_image_29 : decode cX12_image 29 = .ok (.irem, 1) := q_irem (bat_get dg_X12_image_0_0 17 rfl rfl)
theorem dX12_image_30 : decode cX12_image 30 = .ok (.invokevirtual 598, 3) := q_invokevirtual (bat_get dg_X12_image_0_0 18 rfl rfl) rfl
theorem dX12_image_33 : decode cX12_image 33 = .ok (.aload_n 0, 1) := q_aload_n0 (bat_get dg_X12_image_0_0 19 rfl rfl)
theorem dX12_image_34 : decode cX12_image 34 = .ok (.aload_n 0, 1) := q_aload_n0 (bat_get dg_X12_image_0_0 20 rfl rfl)
theorem dX12_image_35 : decode cX12_image 35 = .ok (.getfield 63, 3) := q_getfield (bat_get dg_X12_image_0_0 21 rfl rfl) rfl
theorem dX12_image_38 : decode cX12_image 38 = .ok (.iconst 1, 1) := q_iconst1 (bat_get dg_X12_image_0_0 22 rfl rfl)
theorem dX12_image_39 : decode cX12_image 39 = .ok (.iaload, 1) := q_iaload (bat_get dg_X12_image_0_0 23 rfl rfl)
theorem dX12_image_40 : decode cX12_image 40 = .ok (.invokevirtual 598, 3) := q_invokevirtual (bat_get dg_X12_image_0_0 24 rfl rfl) rfl
theorem dX12_image_43 : decode cX12_image 43 = .ok (.iconst 0, 1) := q_iconst0 (bat_get dg_X12_image_0_0 25 rfl rfl)
theorem dX12_image_44 : decode cX12_image 44 = .ok (.istore_n 1, 1) := q_istore_n1 (bat_get dg_X12_image_0_0 26 rfl rfl)
theorem dX12_image_45 : decode cX12_image 45 = .ok (.iload_n 1, 1) := q_iload_n1 (bat_get dg_X12_image_0_0 27 rfl rfl)
theorem dX12_image_46 : decode cX12_image 46 = .ok (.iconst 3, 1) := q_iconst3 (bat_get dg_X12_image_0_0 28 rfl rfl)
theorem dX12_image_47 : decode cX12_image 47 = .ok (.aload_n 0, 1) := q_aload_n0 (bat_get dg_X12_image_0_0 29 rfl rfl)
theorem dX12_image_48 : decode cX12_image 48 = .ok (.invokevirtual 315, 3) := q_invokevirtual (bat_get dg_X12_image_0_0 30 rfl rfl) rfl
theorem dX12_image_51 : decode cX12_image 51 = .ok (.imul, 1) := q_imul (bat_get dg_X12_image_0_0 31 rfl rfl)
theorem dX12_image_52 : decode cX12_image 52 = .ok (.if_icmp .ge 21, 3) := q_if_icmp_ge (bat_get dg_X12_image_0_0 32 rfl rfl) rfl
theorem dX12_image_73 : decode cX12_image 73 = .ok (.aload_n 0, 1) := q_aload_n0 (bat_get dg_X12_image_0_0 33 rfl rfl)
theorem dX12_image_74 : decode cX12_image 74 = .ok (.aload_n 0, 1) := q_aload_n0 (bat_get dg_X12_image_0_0 34 rfl rfl)
theorem dX12_image_75 : decode cX12_image 75 = .ok (.getfield 189, 3) := q_getfield (bat_get dg_X12_image_0_0 35 rfl rfl) rfl
theorem dX12_image_78 : decode cX12_image 78 = .ok (.aload_n 0, 1) := q_aload_n0 (bat_get dg_X12_image_0_0 36 rfl rfl)
theorem dX12_image_79 : decode cX12_image 79 = .ok (.getfield 595, 3) := q_getfield (bat_get dg_X12_image_0_0 37 rfl rfl) rfl
theorem dX12_image_82 : decode cX12_image 82 = .ok (.invokestatic 601, 3) := q_invokestatic (bat_get dg_X12_image_0_0 38 rfl rfl) rfl
theorem dX12_image_85 : decode cX12_image 85 = .ok (.invokevirtual 598, 3) := q_invokevirtual (bat_get dg_X12_image_0_0 39 rfl rfl) rfl
theorem dg_X12_image_55_88 : bqL cX12_image 55 [(33, [42]), (34, [180, 2, 83]), (37, [172]), (0, [42]), (1, [42]), (2, [180, 0, 63]), (5, [5]), (6, [27]), (7, [96]), (8, [46]), (9, [182, 2, 86]), (12, [132, 1, 1]), (15, [167, 255, 231])] = true := by decide +kernel
theorem dX12_image_88 : decode cX12_image 88 = .ok (.aload_n 0, 1) := q_aload_n0 (bat_get dg_X12_image_55_88 0 rfl rfl)
theorem dX12_image_89 : decode cX12_image 89 = .ok (.getfield 595, 3) := q_getfield (bat_get dg_X12_image_55_88 1 rfl rfl) rfl
theorem dX12_image_92 : decode cX12_image 92 = .ok (.ireturn, 1) := q_ireturn (bat_get dg_X12_image_55_88 2 rfl rfl)
theorem dX12_image_55 : decode cX12_image 55 = .ok (.aload_n 0, 1) := q_aload_n0 (bat_get dg_X12_image_55_88 3 rfl rfl)
theorem dX12_image_56 : decode cX12_image 56 = .ok (.aload_n 0, 1) := q_aload_n0 (bat_get dg_X12_image_55_88 4 rfl rfl)
theorem dX12_image_57 : decode cX12_image 57 = .ok (.getfield 63, 3) := q_getfield (bat_get dg_X12_image_55_88 5 rfl rfl) rfl
theorem dX12_image_60 : decode cX12_image 60 = .ok (.iconst 2, 1) := q_iconst2 (bat_get dg_X12_image_55_88 6 rfl rfl)
theorem dX12_image_61 : decode cX12_image 61 = .ok (.iload_n 1, 1) := q_iload_n1 (bat_get dg_X12_image_55_88 7 rfl rfl)
theorem dX12_image_62 : decode cX12_image 62 = .ok (.iadd, 1) := q_iadd (bat_get dg_X12_image_55_88 8 rfl rfl)
theorem dX12_image_63 : decode cX12_image 63 = .ok (.iaload, 1) := q_iaload (bat_get dg_X12_image_55_88 9 rfl rfl)
theorem dX12_image_64 : decode cX12_image 64 = .ok (.invokevirtual 598, 3) := q_invokevirtual (bat_get dg_X12_image_55_88 10 rfl rfl) rfl
theorem dX12_image_67 : decode cX12_image 67 = .ok (.iinc 1 1, 3) := q_iinc (bat_get dg_X12_image_55_88 11 rfl rfl) rfl
theorem dX12_image_70 : decode cX12_image 70 = .ok (.goto (-25), 3) := q_goto (bat_get dg_X12_image_55_88 12 rfl rfl) rfl
theorem w_8_207 : (Cond.methodLink RX12 598 yX12_writes) ∈ wsL_law := sk_mem (ck_8 _ (List.mem_of_getElem? (i := 207) rfl)) rfl
theorem w_8_209 : (Cond.instanceMethod yX12_writes) ∈ wsL_law := sk_mem (ck_8 _ (List.mem_of_getElem? (i := 209) rfl)) rfl
theorem w_0_119 : (Cond.selects RX12 yX12_writes yX12_writes) ∈ wsL_law := sk_mem (ck_0 _ (List.mem_of_getElem? (i := 119) rfl)) rfl
theorem w_8_206 : (Cond.code yX12_image cX12_image 2 (some .int)) ∈ wsL_law := sk_mem (ck_8 _ (List.mem_of_getElem? (i := 206) rfl)) rfl
theorem hd_X12_writes_1 : skD yX12_writes 1 := by decide +kernel
set_option maxHeartbeats 4000000 in
set_option maxRecDepth 100000 in
theorem c_nm_image (l : Launch) (D : va_G) (cI cJ cC cZ cS : ClassId) (mm : Nat) (g : Nat → Nat) (ta : Nat) (pa : Nat) (pe : Nat) (pd : Int32) (pb : Nat) (pp : Int32) (pf : Int32) (pg : Int32) (pn : Int32) (rt : Int32) (rn : Int32) (cd : Nat) (sn : Int32) (il : Nat) (tk : Int32) (am : Int32) (at_ : Int32) (aa : Int32) (wt : Int32) (wy : Int64) (rm : Nat) (ud : Nat) (nu : Nat) (sd : Int64) (qn : Nat) (qw : Nat) (qo : Int32) (qb : Nat) (qp : Nat) (qa : Int64) (qi : Nat) (oc : Nat) (l0 : Nat) (l1 : Nat) (dm : Nat) (l3 : Nat) (nw : Nat → Int32) (oc_ : Nat → Int32) (wn : Nat) (mN : Nat) (Ba : Nat → Nat) (We : Nat → Nat) (U : Nat → Bool) (ke : Nat) (lg : KLg) (hdm : dm ≤ 9) (hB9 : ∀ j, Ba j ≤ 9) (hW9 : ∀ j, We j ≤ 9) (hwk : wn ≤ 999) (hnw : nwX wn mN Ba We U ke lg nw) : skM l yX12_image cX12_image 2 (some .int) 1 23 0 0 D (skT cI cJ cC cZ cS) [.ref mm] [ro_ mm 12 (mo g (nI ta) (nI pa) (nI pe) pd (nI pb) pp pf pg pn rt rn (nI cd) sn (nI il) tk am at_ aa 0 0 (-1) wt wy 0 (nI rm) (nI ud) (nI nu) sd (nI qn) (nI qw) qo (nI qb) (nI qp) qa (nI qi) (nI oc)), ra_I (g 20) cI 4 (l4 (nI l0) (nI l1) (nI dm) (nI l3)), ra_I (g 31) cI 120 nw, ra_I (g 90) cI 31 oc_] (skI D (skT cI cJ cC cZ cS) (fun (r : Int32) (u : va_W) => ∃ (oc2 : Nat), ∃ (oc_2 : Nat → Int32), oc2 = 4 + 3 * dm ∧ (∀ j, j < 4 + 3 * dm → oc_2 j = nI (imgB (wn, mN, Ba, We, U, ke) dm j)) ∧ r = nI (4 + 3 * dm) ∧ u = [ro_ mm 12 (mo g (nI ta) (nI pa) (nI pe) pd (nI pb) pp pf pg pn rt rn (nI cd) sn (nI il) tk am at_ aa 0 0 (-1) wt wy 0 (nI rm) (nI ud) (nI nu) sd (nI qn) (nI qw) qo (nI qb) (nI qp) qa (nI qi) (nI oc2)), ra_I (g 20) cI 4 (l4 (nI l0) (nI l1) (nI dm) (nI l3)), ra_I (g 31) cI 120 nw, ra_I (g 90) cI 31 oc_2])) := by
  refine skM_of pf_X12_image (Nat.le_of_ble_eq_true rfl) ?_
  intro p e s m below meth c A ls E hP hD hl
  refine skE_el E (fun hx hb hr hml hlocks hin hown hts hK hA => ?_)
  have hown : s.vm.findClass RX12 = some m.cls := hown
  have hS : va_S A s.heap s.heap [] := va_S.rf
  have hl : lv_has ls 2 [(0, .ref mm)] := hl
  refine lv_aload_n hx hb dX12_image_0 rfl (lv_at hl 0 rfl) ?_
  refine lv_iconst (v := 0) hx hb dX12_image_1 ic_0 ?_
  refine sk_put (ws' := [ro_ mm 12 (mo g (nI ta) (nI pa) (nI pe) pd (nI pb) pp pf pg pn rt rn (nI cd) sn (nI il) tk am at_ aa 0 0 (-1) wt wy 0 (nI rm) (nI ud) (nI nu) sd (nI qn) (nI qw) qo (nI qb) (nI qp) qa (nI qi) 0), ra_I (g 20) cI 4 (l4 (nI l0) (nI l1) (nI dm) (nI l3)), ra_I (g 31) cI 120 nw, ra_I (g 90) cI 31 oc_]) (C := RX12) (T := TX12) (N := 92) (v := .int 0) hx hb hts inlX12 tyX12 tyX12_ok nmX12 hown hK hP hD hS 0 rfl rfl 91 (Nat.le_of_ble_eq_true rfl) w_6_6 rfl rfl rfl (Nat.le_of_ble_eq_true rfl) rfl dX12_image_2 (fun H locs hP hD hS => ?_)
  have hi0 := imR_0 (wn, mN, Ba, We, U, ke) oc_
  refine lv_aload_n hx hb dX12_image_5 rfl (lv_at hl 0 rfl) ?_
  refine lv_aload_n hx hb dX12_image_6 rfl (lv_at hl 0 rfl) ?_
  refine sk_get (v := .ref (g 31)) (C := RX12) (T := TX12) (N := 92) hx hb hts inlX12 hown hK hP 0 rfl rfl 31 (Nat.le_of_ble_eq_true rfl) w_5_186 rfl dX12_image_7 ?_
  refine lv_iconst (v := 0) hx hb dX12_image_10 ic_0 ?_
  refine va_iald hx hb hK.1 hP 2 0 rfl rfl (by unfold vp_in; decide) dX12_image_11 ?_
  refine sk_top (nI wn) (nwX_0 hnw) ?_
  refine lv_sipush (v := 256) hx hb dX12_image_12 (by decide) ?_
  refine lv_idiv hx hb dX12_image_15 (by decide) ?_
  refine sk_top (nI (wn / 256)) (ndiv wn 256 (by omega) (by omega) (by omega)) ?_
  refine sk_Vv (q0 := 0) (n := 1) (rest := []) (wr := fmR om_4_9 _) ⟨hx, hb, hml, hown, hts⟩ hl.1 (c_nm_writes l D cI cJ cC cZ cS mm g ta pa pe pd pb pp pf pg pn rt rn cd sn il tk am at_ aa wt wy rm ud nu sd qn qw qo qb qp qa qi 0 (nI (wn / 256)) oc_ (by omega)) w_8_207 w_8_209 w_0_119 w_1_14 w_8_210 hd_X12_writes_1 ⟨⟨(Nat.le_of_ble_eq_true rfl), (Nat.le_of_ble_eq_true rfl)⟩, (Nat.le_of_ble_eq_true rfl), (Nat.le_of_ble_eq_true rfl)⟩ hK hP hD hS hA (fmT om_4_9 0) (fmF om_4_9 0) (fm_C1 rfl rfl) (fm_R rfl rfl) (fm_nT om_4_9 0) (fm_nF om_4_9 0) (fm_di om_4_9 0) rfl rfl rfl rfl (Nat.le_of_ble_eq_true rfl) dX12_image_16 (fun u H locs hw hP hD hS => ?_)
  refine exE hw (fun oc_2_1 hw1 => anE hw1 (fun hoe_2 eu_3 => ?_))
  clear hw hw1
  refine o_mgE (ws' := [ro_ mm 12 (mo g (nI ta) (nI pa) (nI pe) pd (nI pb) pp pf pg pn rt rn (nI cd) sn (nI il) tk am at_ aa 0 0 (-1) wt wy 0 (nI rm) (nI ud) (nI nu) sd (nI qn) (nI qw) qo (nI qb) (nI qp) qa (nI qi) 1), ra_I (g 20) cI 4 (l4 (nI l0) (nI l1) (nI dm) (nI l3)), ra_I (g 31) cI 120 nw, ra_I (g 90) cI 31 oc_2_1]) eu_3 hP hD rfl (fun hP hD => ?_)
  have hi_4 : imR (wn, mN, Ba, We, U, ke) (0 + 1) oc_2_1 := imR_s hi0 hoe_2 rfl
  refine lv_aload_n hx hb dX12_image_19 rfl (lv_at hl 0 rfl) ?_
  refine lv_aload_n hx hb dX12_image_20 rfl (lv_at hl 0 rfl) ?_
  refine sk_get (v := .ref (g 31)) (C := RX12) (T := TX12) (N := 92) hx hb hts inlX12 hown hK hP 0 rfl rfl 31 (Nat.le_of_ble_eq_true rfl) w_5_186 rfl dX12_image_21 ?_
  refine lv_iconst (v := 0) hx hb dX12_image_24 ic_0 ?_
  refine va_iald hx hb hK.1 hP 2 0 rfl rfl (by unfold vp_in; decide) dX12_image_25 ?_
  refine sk_top (nI wn) (nwX_0 hnw) ?_
  refine lv_sipush (v := 256) hx hb dX12_image_26 (by decide) ?_
  refine lv_irem hx hb dX12_image_29 (by decide) ?_
  refine sk_top (nI (wn % 256)) (nrem wn 256 (by omega) (by omega) (by omega)) ?_
  refine sk_Vv (q0 := 0) (n := 1) (rest := []) (wr := fmR om_4_9 _) ⟨hx, hb, hml, hown, hts⟩ hl.1 (c_nm_writes l D cI cJ cC cZ cS mm g ta pa pe pd pb pp pf pg pn rt rn cd sn il tk am at_ aa wt wy rm ud nu sd qn qw qo qb qp qa qi 1 (nI (wn % 256)) oc_2_1 (by omega)) w_8_207 w_8_209 w_0_119 w_1_14 w_8_210 hd_X12_writes_1 ⟨⟨(Nat.le_of_ble_eq_true rfl), (Nat.le_of_ble_eq_true rfl)⟩, (Nat.le_of_ble_eq_true rfl), (Nat.le_of_ble_eq_true rfl)⟩ hK hP hD hS hA (fmT om_4_9 0) (fmF om_4_9 0) (fm_C1 rfl rfl) (fm_R rfl rfl) (fm_nT om_4_9 0) (fm_nF om_4_9 0) (fm_di om_4_9 0) rfl rfl rfl rfl (Nat.le_of_ble_eq_true rfl) dX12_image_30 (fun u H locs hw hP hD hS => ?_)
  refine exE hw (fun oc_2_5 hw1 => anE hw1 (fun hoe_6 eu_7 => ?_))
  clear hw hw1
  refine o_mgE (ws' := [ro_ mm 12 (mo g (nI ta) (nI pa) (nI pe) pd (nI pb) pp pf pg pn rt rn (nI cd) sn (nI il) tk am at_ aa 0 0 (-1) wt wy 0 (nI rm) (nI ud) (nI nu) sd (nI qn) (nI qw) qo (nI qb) (nI qp) qa (nI qi) 2), ra_I (g 20) cI 4 (l4 (nI l0) (nI l1) (nI dm) (nI l3)), ra_I (g 31) cI 120 nw, ra_I (g 90) cI 31 oc_2_5]) eu_7 hP hD rfl (fun hP hD => ?_)
  have hi_8 : imR (wn, mN, Ba, We, U, ke) (1 + 1) oc_2_5 := imR_s hi_4 hoe_6 rfl
  refine lv_aload_n hx hb dX12_image_33 rfl (lv_at hl 0 rfl) ?_
  refine lv_aload_n hx hb dX12_image_34 rfl (lv_at hl 0 rfl) ?_
  refine sk_get (v := .ref (g 31)) (C := RX12) (T := TX12) (N := 92) hx hb hts inlX12 hown hK hP 0 rfl rfl 31 (Nat.le_of_ble_eq_true rfl) w_5_186 rfl dX12_image_35 ?_
  refine lv_iconst (v := 1) hx hb dX12_image_38 ic_1 ?_
  refine va_iald hx hb hK.1 hP 2 0 rfl rfl (by unfold vp_in; decide) dX12_image_39 ?_
  refine sk_top (nI mN) (nwX_1 hnw) ?_
  refine sk_Vv (q0 := 0) (n := 1) (rest := []) (wr := fmR om_4_9 _) ⟨hx, hb, hml, hown, hts⟩ hl.1 (c_nm_writes l D cI cJ cC cZ cS mm g ta pa pe pd pb pp pf pg pn rt rn cd sn il tk am at_ aa wt wy rm ud nu sd qn qw qo qb qp qa qi 2 (nI mN) oc_2_5 (by omega)) w_8_207 w_8_209 w_0_119 w_1_14 w_8_210 hd_X12_writes_1 ⟨⟨(Nat.le_of_ble_eq_true rfl), (Nat.le_of_ble_eq_true rfl)⟩, (Nat.le_of_ble_eq_true rfl), (Nat.le_of_ble_eq_true rfl)⟩ hK hP hD hS hA (fmT om_4_9 0) (fmF om_4_9 0) (fm_C1 rfl rfl) (fm_R rfl rfl) (fm_nT om_4_9 0) (fm_nF om_4_9 0) (fm_di om_4_9 0) rfl rfl rfl rfl (Nat.le_of_ble_eq_true rfl) dX12_image_40 (fun u H locs hw hP hD hS => ?_)
  refine exE hw (fun oc_2_9 hw1 => anE hw1 (fun hoe_10 eu_11 => ?_))
  clear hw hw1
  refine o_mgE (ws' := [ro_ mm 12 (mo g (nI ta) (nI pa) (nI pe) pd (nI pb) pp pf pg pn rt rn (nI cd) sn (nI il) tk am at_ aa 0 0 (-1) wt wy 0 (nI rm) (nI ud) (nI nu) sd (nI qn) (nI qw) qo (nI qb) (nI qp) qa (nI qi) 3), ra_I (g 20) cI 4 (l4 (nI l0) (nI l1) (nI dm) (nI l3)), ra_I (g 31) cI 120 nw, ra_I (g 90) cI 31 oc_2_9]) eu_11 hP hD rfl (fun hP hD => ?_)
  have hi_12 : imR (wn, mN, Ba, We, U, ke) (2 + 1) oc_2_9 := imR_s hi_8 hoe_10 rfl
  refine lv_iconst (v := 0) hx hb dX12_image_43 ic_0 ?_
  refine lv_istore_n (lv' := [(1, .int 0), (0, .ref mm)]) hx hb dX12_image_44 rfl hl (by decide) rfl (fun ls hl => ?_)
  have lp_13 : ∀ (n_14 : Nat) (i : Nat) (zo : Nat) (zf : Nat → Int32) (H : Heap) (locs : List Loc) (ls : Array Slot), 3 * dm - i < n_14 → (i ≤ 3 * dm) → (zo = 3 + i) → (imR (wn, mN, Ba, We, U, ke) (3 + i) zf) → va_P D vwCl [ro_ mm 12 (mo g (nI ta) (nI pa) (nI pe) pd (nI pb) pp pf pg pn rt rn (nI cd) sn (nI il) tk am at_ aa 0 0 (-1) wt wy 0 (nI rm) (nI ud) (nI nu) sd (nI qn) (nI qw) qo (nI qb) (nI qp) qa (nI qi) (nI zo)), ra_I (g 20) cI 4 (l4 (nI l0) (nI l1) (nI dm) (nI l3)), ra_I (g 31) cI 120 nw, ra_I (g 90) cI 31 zf] H → va_D A [ro_ mm 12 (mo g (nI ta) (nI pa) (nI pe) pd (nI pb) pp pf pg pn rt rn (nI cd) sn (nI il) tk am at_ aa 0 0 (-1) wt wy 0 (nI rm) (nI ud) (nI nu) sd (nI qn) (nI qw) qo (nI qb) (nI qp) qa (nI qi) (nI zo)), ra_I (g 20) cI 4 (l4 (nI l0) (nI l1) (nI dm) (nI l3)), ra_I (g 31) cI 120 nw, ra_I (g 90) cI 31 zf] → va_S A s.heap H locs → lv_has ls 2 [(1, .int (nI i)), (0, .ref mm)] → W p l e { frames := 1, cells := 0, slots := 0, locals := 23 } s m ([.ref mm] : List Value).toArray below meth c H locs 0 0 (MQ below (skI D (skT cI cJ cC cZ cS) (fun (r : Int32) (u : va_W) => ∃ (oc2 : Nat), ∃ (oc_2 : Nat → Int32), oc2 = 4 + 3 * dm ∧ (∀ j, j < 4 + 3 * dm → oc_2 j = nI (imgB (wn, mN, Ba, We, U, ke) dm j)) ∧ r = nI (4 + 3 * dm) ∧ u = [ro_ mm 12 (mo g (nI ta) (nI pa) (nI pe) pd (nI pb) pp pf pg pn rt rn (nI cd) sn (nI il) tk am at_ aa 0 0 (-1) wt wy 0 (nI rm) (nI ud) (nI nu) sd (nI qn) (nI qw) qo (nI qb) (nI qp) qa (nI qi) (nI oc2)), ra_I (g 20) cI 4 (l4 (nI l0) (nI l1) (nI dm) (nI l3)), ra_I (g 31) cI 120 nw, ra_I (g 90) cI 31 oc_2]) A) ([.ref mm] : List Value).toArray s 0 0 A) (F0 m 45 ls []) := by
    intro n_14
    induction n_14 with
    | zero => intro i zo zf H locs ls hm; exact absurd hm (Nat.not_lt_zero _)
    | succ n_14 ih_lp_13 =>
      intro i zo zf H locs ls hm hi hzo hip hP hD hS hl
      refine lv_iload_n hx hb dX12_image_45 rfl (lv_at hl 0 rfl) ?_
      refine lv_iconst (v := 3) hx hb dX12_image_46 ic_3 ?_
      refine lv_aload_n hx hb dX12_image_47 rfl (lv_at hl 1 rfl) ?_
      refine sk_Vi (q0 := 0) (n := 0) (rest := [.int 3, .int (nI i)]) (wr := fmR om_4_c _) ⟨hx, hb, hml, hown, hts⟩ hl.1 (c_m_dayMany l D cI cJ cC cZ cS mm g ta pa pe pd pb pp pf pg pn rt rn cd sn il tk am at_ aa 0 0 (-1) wt wy 0 rm ud nu sd qn qw qo qb qp qa qi zo l0 l1 dm l3) w_7_98 w_7_100 w_0_69 w_1_14 w_7_101 hd_X12_dayMany_0 ⟨⟨(Nat.le_of_ble_eq_true rfl), (Nat.le_of_ble_eq_true rfl)⟩, (Nat.le_of_ble_eq_true rfl), (Nat.le_of_ble_eq_true rfl)⟩ hK hP hD hS hA (fmT om_4_c 0) (fmF om_4_c 0) (fm_C1 rfl rfl) (fm_R rfl rfl) (fm_nT om_4_c 0) (fm_nF om_4_c 0) (fm_di om_4_c 0) rfl rfl rfl rfl (Nat.le_of_ble_eq_true rfl) dX12_image_48 (fun r_15 u H locs hw hP hD hS => ?_)
      refine anE hw (fun er_17 eu_16 => ?_)
      clear hw
      subst er_17
      refine o_mgE (ws' := [ro_ mm 12 (mo g (nI ta) (nI pa) (nI pe) pd (nI pb) pp pf pg pn rt rn (nI cd) sn (nI il) tk am at_ aa 0 0 (-1) wt wy 0 (nI rm) (nI ud) (nI nu) sd (nI qn) (nI qw) qo (nI qb) (nI qp) qa (nI qi) (nI zo)), ra_I (g 20) cI 4 (l4 (nI l0) (nI l1) (nI dm) (nI l3)), ra_I (g 31) cI 120 nw, ra_I (g 90) cI 31 zf]) eu_16 hP hD rfl (fun hP hD => ?_)
      refine lv_imul hx hb dX12_image_51 ?_
      refine sk_top (nI (3 * dm)) (nmul 3 dm) ?_
      refine lv_icmp_ge (tgt := 73) hx hb dX12_image_52 (by decide) (fun c_18 => ?_) (fun c_18 => ?_)
      · have c_18 : 3 * dm ≤ i := (nle (3 * dm) i (by omega) (by omega)).mp c_18
        have him3 : imR (wn, mN, Ba, We, U, ke) (3 + 3 * dm) zf := (by rw [show 3 * dm = i by omega]; exact hip)
        refine lv_aload_n hx hb dX12_image_73 rfl (lv_at hl 1 rfl) ?_
        refine lv_aload_n hx hb dX12_image_74 rfl (lv_at hl 1 rfl) ?_
        refine sk_get (v := .ref (g 90)) (C := RX12) (T := TX12) (N := 92) hx hb hts inlX12 hown hK hP 0 rfl rfl 90 (Nat.le_of_ble_eq_true rfl) w_6_5 rfl dX12_image_75 ?_
        refine lv_aload_n hx hb dX12_image_78 rfl (lv_at hl 1 rfl) ?_
        refine sk_get (v := .int (nI zo)) (C := RX12) (T := TX12) (N := 92) hx hb hts inlX12 hown hK hP 0 rfl rfl 91 (Nat.le_of_ble_eq_true rfl) w_6_6 rfl dX12_image_79 ?_
        refine sk_Si (n := 2) (rest := [.ref mm]) (wr := fmR om_4_1 _) ⟨hx, hb, hml, hown, hts⟩ hl.1 (c_nm_checkedI l D cI cJ cC cZ cS (g 90) zf zo (imgA (wn, mN, Ba, We, U, ke)) (by omega) (fun j hj => him3 j (by omega)) (imA_9 (ke := ke) (U := U) hwk hnw.1 hB9 hW9)) w_8_211 w_8_212 w_1_14 w_8_213 hd_X12_checked_2 ⟨⟨(Nat.le_of_ble_eq_true rfl), (Nat.le_of_ble_eq_true rfl)⟩, (Nat.le_of_ble_eq_true rfl), (Nat.le_of_ble_eq_true rfl)⟩ hK hP hD hS hA (fmT om_4_1 0) (fmF om_4_1 0) (fm_C1 rfl rfl) (fm_R rfl rfl) (fm_nT om_4_1 0) (fm_nF om_4_1 0) (fm_di om_4_1 0) rfl rfl (Nat.le_of_ble_eq_true rfl) dX12_image_82 (fun r_20 u H locs hw hP hD hS => ?_)
        refine exE hw (fun ck2_19 hw1 => anE hw1 (fun hck_21 hw2 => anE hw2 (fun hck9_22 hw3 => anE hw3 (fun er_24 eu_23 => ?_))))
        clear hw hw1 hw2 hw3
        subst er_24
        refine o_mgE (ws' := [ro_ mm 12 (mo g (nI ta) (nI pa) (nI pe) pd (nI pb) pp pf pg pn rt rn (nI cd) sn (nI il) tk am at_ aa 0 0 (-1) wt wy 0 (nI rm) (nI ud) (nI nu) sd (nI qn) (nI qw) qo (nI qb) (nI qp) qa (nI qi) (nI zo)), ra_I (g 20) cI 4 (l4 (nI l0) (nI l1) (nI dm) (nI l3)), ra_I (g 31) cI 120 nw, ra_I (g 90) cI 31 zf]) eu_23 hP hD rfl (fun hP hD => ?_)
        refine sk_Vv (q0 := 0) (n := 1) (rest := []) (wr := fmR om_4_9 _) ⟨hx, hb, hml, hown, hts⟩ hl.1 (c_nm_writes l D cI cJ cC cZ cS mm g ta pa pe pd pb pp pf pg pn rt rn cd sn il tk am at_ aa wt wy rm ud nu sd qn qw qo qb qp qa qi zo (nI ck2_19) zf (by omega)) w_8_207 w_8_209 w_0_119 w_1_14 w_8_210 hd_X12_writes_1 ⟨⟨(Nat.le_of_ble_eq_true rfl), (Nat.le_of_ble_eq_true rfl)⟩, (Nat.le_of_ble_eq_true rfl), (Nat.le_of_ble_eq_true rfl)⟩ hK hP hD hS hA (fmT om_4_9 0) (fmF om_4_9 0) (fm_C1 rfl rfl) (fm_R rfl rfl) (fm_nT om_4_9 0) (fm_nF om_4_9 0) (fm_di om_4_9 0) rfl rfl rfl rfl (Nat.le_of_ble_eq_true rfl) dX12_image_85 (fun u H locs hw hP hD hS => ?_)
        refine exE hw (fun oc_2_25 hw1 => anE hw1 (fun hoe_26 eu_27 => ?_))
        clear hw hw1
        refine o_mgE (ws' := [ro_ mm 12 (mo g (nI ta) (nI pa) (nI pe) pd (nI pb) pp pf pg pn rt rn (nI cd) sn (nI il) tk am at_ aa 0 0 (-1) wt wy 0 (nI rm) (nI ud) (nI nu) sd (nI qn) (nI qw) qo (nI qb) (nI qp) qa (nI qi) (nI (zo + 1))), ra_I (g 20) cI 4 (l4 (nI l0) (nI l1) (nI dm) (nI l3)), ra_I (g 31) cI 120 nw, ra_I (g 90) cI 31 oc_2_25]) eu_27 hP hD rfl (fun hP hD => ?_)
        refine lv_aload_n hx hb dX12_image_88 rfl (lv_at hl 1 rfl) ?_
        refine sk_get (v := .int (nI (zo + 1))) (C := RX12) (T := TX12) (N := 92) hx hb hts inlX12 hown hK hP 0 rfl rfl 91 (Nat.le_of_ble_eq_true rfl) w_6_6 rfl dX12_image_89 ?_
        exact sk_iret hx hb hr rfl hlocks hK hP hD hS (⟨zo + 1, oc_2_25, by omega, imR_e him3 (by rw [show 3 + 3 * dm = zo by omega]; exact hoe_26) (congrArg nI (by rw [hck_21, show zo = 3 + 3 * dm by omega])), (congrArg nI (by omega)), rfl⟩) (Nat.le_of_ble_eq_true rfl) (Nat.le_of_ble_eq_true rfl) dX12_image_92
      · have c_18 : ¬ (3 * dm ≤ i) := fun h => c_18 ((nle (3 * dm) i (by omega) (by omega)).mpr h)
        refine lv_aload_n hx hb dX12_image_55 rfl (lv_at hl 1 rfl) ?_
        refine lv_aload_n hx hb dX12_image_56 rfl (lv_at hl 1 rfl) ?_
        refine sk_get (v := .ref (g 31)) (C := RX12) (T := TX12) (N := 92) hx hb hts inlX12 hown hK hP 0 rfl rfl 31 (Nat.le_of_ble_eq_true rfl) w_5_186 rfl dX12_image_57 ?_
        refine lv_iconst (v := 2) hx hb dX12_image_60 ic_2 ?_
        refine lv_iload_n hx hb dX12_image_61 rfl (lv_at hl 0 rfl) ?_
        refine lv_iadd hx hb dX12_image_62 ?_
        refine sk_top (nI (2 + i)) (nI_add 2 i) ?_
        refine va_iald hx hb hK.1 hP 2 0 rfl rfl (vin (2 + i) 120 (by omega) (Nat.le_of_ble_eq_true rfl)) dX12_image_63 ?_
        refine sk_top (nw (2 + i)) (by rw [nI_clamp (by omega)]) ?_
        refine sk_Vv (q0 := 0) (n := 1) (rest := []) (wr := fmR om_4_9 _) ⟨hx, hb, hml, hown, hts⟩ hl.1 (c_nm_writes l D cI cJ cC cZ cS mm g ta pa pe pd pb pp pf pg pn rt rn cd sn il tk am at_ aa wt wy rm ud nu sd qn qw qo qb qp qa qi zo (nw (2 + i)) zf (by omega)) w_8_207 w_8_209 w_0_119 w_1_14 w_8_210 hd_X12_writes_1 ⟨⟨(Nat.le_of_ble_eq_true rfl), (Nat.le_of_ble_eq_true rfl)⟩, (Nat.le_of_ble_eq_true rfl), (Nat.le_of_ble_eq_true rfl)⟩ hK hP hD hS hA (fmT om_4_9 0) (fmF om_4_9 0) (fm_C1 rfl rfl) (fm_R rfl rfl) (fm_nT om_4_9 0) (fm_nF om_4_9 0) (fm_di om_4_9 0) rfl rfl rfl rfl (Nat.le_of_ble_eq_true rfl) dX12_image_64 (fun u H locs hw hP hD hS => ?_)
        refine exE hw (fun oc_2_28 hw1 => anE hw1 (fun hoe_29 eu_30 => ?_))
        clear hw hw1
        refine o_mgE (ws' := [ro_ mm 12 (mo g (nI ta) (nI pa) (nI pe) pd (nI pb) pp pf pg pn rt rn (nI cd) sn (nI il) tk am at_ aa 0 0 (-1) wt wy 0 (nI rm) (nI ud) (nI nu) sd (nI qn) (nI qw) qo (nI qb) (nI qp) qa (nI qi) (nI (zo + 1))), ra_I (g 20) cI 4 (l4 (nI l0) (nI l1) (nI dm) (nI l3)), ra_I (g 31) cI 120 nw, ra_I (g 90) cI 31 oc_2_28]) eu_30 hP hD rfl (fun hP hD => ?_)
        have he9 := hoe_29
        rw [hzo] at he9
        have hi_31 : imR (wn, mN, Ba, We, U, ke) (3 + i + 1) oc_2_28 := imR_s hip he9 (imD_at hnw (by omega))
        refine lv_iinc (v := nI (i + 1)) (lv' := [(1, .int (nI (i + 1))), (0, .ref mm)]) hx hb dX12_image_67 hl (k := 0) rfl (ninc i 1 (by decide)) (by decide) rfl (fun ls hl => ?_)
        refine lv_goto (tgt := 45) hx hb dX12_image_70 (by decide) ?_
        exact ih_lp_13 (i + 1) (zo + 1) oc_2_28 _ _ _ (by omega) (by omega) (by omega) (by rw [show 3 + (i + 1) = 3 + i + 1 by omega]; exact hi_31) hP hD hS (lv_sub hl [0, 1] rfl)
  exact lp_13 (3 * dm - 0 + 1) 0 3 oc_2_9 _ _ _ (Nat.lt_succ_self _) (by omega) (by omega) (show imR (wn, mN, Ba, We, U, ke) (2 + 1) _ from hi_12) hP hD hS (lv_sub hl [0, 1] rfl)
