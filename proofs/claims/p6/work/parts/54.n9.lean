/-! aside -/
def asX (wn mo : Nat) (Ba We : Nat → Nat) (U : Nat → Bool) (f : Nat → Int32) : Prop := mo ≤ 9 ∧ f 0 = nI wn ∧ f 1 = nI mo ∧ ∀ d, d < 9 → f (2 + 3 * d) = nI (Ba d) ∧ f (2 + 3 * d + 1) = nI (We d) ∧ f (2 + 3 * d + 2) = (if U d = true then 1 else 0)
theorem asX_of {wn mo ke : Nat} {Ba We : Nat → Nat} {U : Nat → Bool} {lg : KLg} {f h : Nat → Int32} (a : nwX wn mo Ba We U ke lg f) (c : kc0 29 f h) : asX wn mo Ba We U h := by
  obtain ⟨h1, h2, h3, h4, h5, h6⟩ := a
  exact ⟨h1, by rw [c 0 (by omega), h2], by rw [c 1 (by omega), h3], fun d hd => by rw [c _ (by omega), c _ (by omega), c _ (by omega)]; exact h4 d hd⟩
def tbC (i : Nat) (az f h : Nat → Int32) : Prop := (∀ k, k < i → h k = az k) ∧ ∀ k, 29 ≤ k → h k = f k
theorem tbC_0 (az f : Nat → Int32) : tbC 0 az f f := ⟨fun k hk => absurd hk (Nat.not_lt_zero k), fun _ _ => rfl⟩
theorem tbC_s {i : Nat} {az f h h2 : Nat → Int32} {x : Int32} (a : tbC i az f h) (e : h2 = upd h i x) (hx : x = az i) (hi : i < 29) : tbC (i + 1) az f h2 := by
  refine ⟨fun k hk => ?_, fun k hk => by rw [kui_n e (by omega)]; exact a.2 k hk⟩
  by_cases q : k = i
  · subst q; rw [kui_s e, hx]
  · rw [kui_n e q]; exact a.1 k (by omega)
theorem tbX {wn mo wv mv ke : Nat} {Ba We B2 W2 : Nat → Nat} {U U2 : Nat → Bool} {lg : KLg} {f az h : Nat → Int32} (a : nwX wv mv B2 W2 U2 ke lg f) (b : asX wn mo Ba We U az) (c : tbC 29 az f h) : nwX wn mo Ba We U ke lg h := by
  obtain ⟨h1, h2, h3, h4⟩ := b
  obtain ⟨-, -, -, -, h5, h6⟩ := a
  exact ⟨h1, by rw [c.1 0 (by omega), h2], by rw [c.1 1 (by omega), h3], fun d hd => by rw [c.1 _ (by omega), c.1 _ (by omega), c.1 _ (by omega)]; exact h4 d hd, by rw [c.2 29 (by omega), h5], fun i hi => by rw [c.2 _ (by omega), c.2 _ (by omega), c.2 _ (by omega)]; exact h6 i hi⟩
def ahO (il wn lo hi : Nat) (n : Int32) : Prop := il = 1 ∧ ∃ k : Nat, lo ≤ k ∧ k ≤ hi ∧ n = nI k ∧ wn + k ≤ 999
theorem ah_rg {n : Int32} {lo hi : Nat} (hl : lo < 2147483648) (hh : hi < 2147483648) : (Int32.toInt64 (nI lo) ≤ n.toInt64 ∧ n.toInt64 ≤ Int32.toInt64 (nI hi)) ↔ ∃ k : Nat, lo ≤ k ∧ k ≤ hi ∧ n = nI k := by
  constructor
  · intro h
    obtain ⟨k, h1, h2, h3⟩ := inRg (lo := lo) (hi := hi) h.1 h.2 rfl rfl hl hh
    exact ⟨k, h2, h1, h3⟩
  · intro ⟨k, h1, h2, h3⟩
    subst h3
    rw [Int64.le_iff_toInt_le, Int64.le_iff_toInt_le, lgv lo hl, lgv k (by omega), lgv hi hh]
    omega
theorem upd_back {B : Nat → Nat} {BB : Nat → Nat} {k : Nat} (h : ∀ j, ¬ j = k → BB j = B j) : updG BB k (B k) = B := by
  funext j
  unfold updG
  by_cases q : j = k
  · rw [if_pos q, q]
  · rw [if_neg q]; exact h j q
/-! an image, as the reference writes it -/
def imR (n : KN) (l : Nat) (f : Nat → Int32) : Prop := ∀ j, j < l → f j = nI (imgA n j)
theorem imR_0 (n : KN) (f : Nat → Int32) : imR n 0 f := fun j hj => absurd hj (Nat.not_lt_zero j)
theorem imR_s {n : KN} {l : Nat} {f g : Nat → Int32} {x : Int32} (h : imR n l f) (e : g = upd f l x) (hx : x = nI (imgA n l)) : imR n (l + 1) g := fun j hj => by
  by_cases q : j = l
  · subst q; rw [kui_s e, hx]
  · rw [kui_n e q]; exact h j (by omega)
theorem imR_e {n : KN} {dy : Nat} {f g : Nat → Int32} {x : Int32} (h : imR n (3 + 3 * dy) f) (e : g = upd f (3 + 3 * dy) x) (hx : x = nI (chkN (imgA n) (3 + 3 * dy))) : ∀ j, j < 4 + 3 * dy → g j = nI (imgB n dy j) := fun j hj => by
  unfold imgB
  by_cases q : j = 3 + 3 * dy
  · rw [if_pos q, q, kui_s e, hx]
  · rw [if_neg q, kui_n e q]; exact h j (by omega)
theorem imD_at {wn mo ke : Nat} {Ba We : Nat → Nat} {U : Nat → Bool} {lg : KLg} {nw : Nat → Int32} (h : nwX wn mo Ba We U ke lg nw) {i : Nat} (hi : i < 27) : nw (2 + i) = nI (imgA (wn, mo, Ba, We, U, ke) (3 + i)) := by
  have e : ∀ d r, i = 3 * d + r → d < 9 → r < 3 → nw (2 + i) = nI (imgA (wn, mo, Ba, We, U, ke) (3 + i)) := fun d r h1 h2 h3 => by
    subst h1
    rcases (show r = 0 ∨ r = 1 ∨ r = 2 by omega) with rfl | rfl | rfl
    · rw [show 2 + (3 * d + 0) = 2 + 3 * d by omega, nwX_b h h2, show 3 + (3 * d + 0) = 3 + 3 * d by omega, imgA_b]
    · rw [show 2 + (3 * d + 1) = 2 + 3 * d + 1 by omega, nwX_w h h2, show 3 + (3 * d + 1) = 3 + 3 * d + 1 by omega, imgA_w]
    · rw [show 2 + (3 * d + 2) = 2 + 3 * d + 2 by omega, nwX_m h h2, show 3 + (3 * d + 2) = 3 + 3 * d + 2 by omega, imgA_m]
      show (if U d = true then (1 : Int32) else 0) = nI (if U d = true then 1 else 0)
      by_cases q : U d = true
      · rw [if_pos q, if_pos q]; rfl
      · rw [if_neg q, if_neg q]; rfl
  exact e (i / 3) (i % 3) (by omega) (by omega) (by omega)
theorem imA_9 {wn mo ke : Nat} {Ba We : Nat → Nat} {U : Nat → Bool} (h1 : wn ≤ 999) (h2 : mo ≤ 9) (h3 : ∀ j, Ba j ≤ 9) (h4 : ∀ j, We j ≤ 9) (j : Nat) : imgA (wn, mo, Ba, We, U, ke) j ≤ 255 := by
  unfold imgA
  split
  · show wn / 256 ≤ 255; omega
  · split
    · show wn % 256 ≤ 255; omega
    · split
      · show mo ≤ 255; omega
      · unfold imgD
        split
        · have := h3 ((j - 3) / 3); show Ba _ ≤ 255; omega
        · split
          · have := h4 ((j - 3) / 3); show We _ ≤ 255; omega
          · split <;> omega
/-- an image is told: so far -/
def oiR (tb : Nat → Nat) (i : Nat) (f h : Nat → Int32) : Prop := (∀ k, k < i → h (2 + k) = nI (tb (3 + k))) ∧ h 0 = f 0 ∧ h 1 = f 1 ∧ ∀ k, 2 + i ≤ k → h k = f k
theorem oiR_0 (tb : Nat → Nat) (f : Nat → Int32) : oiR tb 0 f f := ⟨fun k hk => absurd hk (Nat.not_lt_zero k), rfl, rfl, fun _ _ => rfl⟩
theorem oiR_s {tb : Nat → Nat} {i : Nat} {f h g : Nat → Int32} {x : Int32} (a : oiR tb i f h) (e : g = upd h (2 + i) x) (hx : x = nI (tb (3 + i))) : oiR tb (i + 1) f g := by
  refine ⟨fun k hk => ?_, by rw [kui_n e (by omega)]; exact a.2.1, by rw [kui_n e (by omega)]; exact a.2.2.1, fun k hk => by rw [kui_n e (by omega)]; exact a.2.2.2 k (by omega)⟩
  by_cases q : k = i
  · subst q; rw [kui_s e, hx]
  · rw [kui_n e (by omega)]; exact a.1 k (by omega)
theorem oiR_X {wn mo ke dm t : Nat} {Ba We : Nat → Nat} {U : Nat → Bool} {lg : KLg} {tb : Nat → Nat} {f h g : Nat → Int32} (a : nwX wn mo Ba We U ke lg f) (b : oiR tb (3 * dm) f h) (e : g = upd h 29 0) (hd : dm ≤ 9) (hi : imgO tb t dm) (hU : ∀ j, U j = true → j < dm) : nwX wn mo (onB tb Ba 3 dm) (onB tb We 4 dm) (onU tb dm) 0 lg g := by
  obtain ⟨h1, h2, h3, h4, h5, h6⟩ := a
  obtain ⟨b1, b2, b3, b4⟩ := b
  refine ⟨h1, by rw [kui_n e (by omega), b2, h2], by rw [kui_n e (by omega), b3, h3], fun d hd2 => ?_, by rw [kui_s e]; rfl, fun i hi2 => absurd hi2 (by omega)⟩
  rw [kui_n e (by omega), kui_n e (by omega), kui_n e (by omega)]
  unfold onB onU
  by_cases c : d < dm
  · rw [if_pos c, if_pos c, if_pos c]
    have q1 := b1 (3 * d) (by omega)
    have q2 := b1 (3 * d + 1) (by omega)
    have q3 := b1 (3 * d + 2) (by omega)
    rw [show 2 + 3 * d + 1 = 2 + (3 * d + 1) by omega, show 2 + 3 * d + 2 = 2 + (3 * d + 2) by omega, q1, q2, q3, show 3 + 3 * d = 3 * d + 3 by omega, show 3 + (3 * d + 1) = 3 * d + 4 by omega, show 3 + (3 * d + 2) = 3 * d + 5 by omega]
    refine ⟨rfl, rfl, ?_⟩
    have q4 := img_5 hi c
    rcases (show tb (3 * d + 5) = 0 ∨ tb (3 * d + 5) = 1 by omega) with q | q
    · rw [q]; rfl
    · rw [q]; rfl
  · rw [if_neg c, if_neg c, if_neg c, b4 _ (by omega), b4 _ (by omega), b4 _ (by omega)]
    have q := h4 d hd2
    refine ⟨q.1, q.2.1, ?_⟩
    rw [q.2.2, if_neg (fun z => c (hU d z)), if_neg (by decide)]
/-! the lock stands -/
def lz0 (i : Nat) (f : Nat → Int32) : Prop := ∀ k, k < i → f k = 0
theorem lz0_s {i : Nat} {f g : Nat → Int32} (h : lz0 i f) (e : g = upd f i 0) : lz0 (i + 1) g := fun k hk => by
  by_cases q : k = i
  · subst q; rw [kui_s e]
  · rw [kui_n e q]; exact h k (by omega)
def lz2 (dz : Nat → Int32) (l1 i : Nat) (f : Nat → Int32) : Prop := f 0 = 0 ∧ f 1 = nI l1 ∧ (∀ k, k < i → f (2 + k) = dz k) ∧ ∀ k, 2 + i ≤ k → k < 120 → f k = 0
theorem lz2_0 {dz f g : Nat → Int32} {l1 : Nat} (h : lz0 120 f) (e : g = upd f 1 (nI l1)) : lz2 dz l1 0 g := ⟨by rw [kui_n e (by omega)]; exact h 0 (by omega), kui_s e, fun k hk => absurd hk (Nat.not_lt_zero k), fun k h1 h2 => by rw [kui_n e (by omega)]; exact h k h2⟩
theorem lz2_s {dz f g : Nat → Int32} {l1 i : Nat} {x : Int32} (h : lz2 dz l1 i f) (e : g = upd f (2 + i) x) (hx : x = dz i) : lz2 dz l1 (i + 1) g := by
  obtain ⟨h1, h2, h3, h4⟩ := h
  refine ⟨by rw [kui_n e (by omega), h1], by rw [kui_n e (by omega), h2], fun k hk => ?_, fun k a b => by rw [kui_n e (by omega)]; exact h4 k (by omega) b⟩
  by_cases q : k = i
  · subst q; rw [kui_s e, hx]
  · rw [kui_n e (by omega)]; exact h3 k (by omega)
theorem nwX_m1v {wn mo ke : Nat} {Ba We : Nat → Nat} {U : Nat → Bool} {lg : KLg} {f : Nat → Int32} (h : nwX wn mo Ba We U ke lg f) {d : Nat} (hd : d < 9) : f (2 + 3 * d + 2) = nI (if U d = true then 1 else 0) := by
  rw [nwX_m h hd]
  by_cases q : U d = true
  · rw [if_pos q, if_pos q]; rfl
  · rw [if_neg q, if_neg q]; rfl
theorem mu_b (U : Nat → Bool) (k : Nat) : ((if U k = true then 1 else 0) = 1 ∧ U k = true) ∨ ((if U k = true then 1 else 0) = 0 ∧ ¬ U k = true) := by
  by_cases q : U k = true
  · rw [if_pos q]; exact Or.inl ⟨rfl, q⟩
  · rw [if_neg q]; exact Or.inr ⟨rfl, q⟩
theorem mu_c {j : Nat} (h : j ≤ 1) : (j = 1 ∧ j = 1) ∨ (j = 0 ∧ ¬ j = 1) := by omega
theorem mu_flip {b : Bool} {j : Nat} (h : ¬ (if b = true then 1 else 0) = j) (hj : j < 2) : nI j = if (!b) = true then (1 : Int32) else 0 := by
  cases b with
  | true =>
    rw [if_pos rfl] at h
    have e : j = 0 := by omega
    rw [e]; rfl
  | false =>
    rw [if_neg (by decide)] at h
    have e : j = 1 := by omega
    rw [e]; rfl
theorem psh_ke {ac k ke a2 : Nat} {n : KN} {su : Nat → KN} (h : ∀ j, j < ac → nKe (su j) ≤ k) (h20 : ac ≤ 20) (hk : nKe n ≤ k) (h2 : a2 = min (ac + 1) 20) : ∀ j, j < a2 → nKe (psh ac su n j) ≤ k := fun j hj => by
  subst h2
  rcases psh_c h20 hj with q | ⟨i, hi, q⟩
  · rw [q]; exact hk
  · rw [q]; exact h i hi
set_option maxHeartbeats 4000000 in
set_option maxRecDepth 100000 in
theorem c_nm_refuses (l : Launch) (D : va_G) (cI cJ cC cZ cS : ClassId) (mm : Nat) (g : Nat → Nat) (ta : Nat) (pa : Nat) (pe : Nat) (pd : Int32) (pb : Nat) (pp : Int32) (pf : Int32) (pg : Int32) (pn : Int32) (rt : Int32) (rn : Int32) (cd : Nat) (sn : Int32) (il : Nat) (tk : Int32) (am : Int32) (at_ : Int32) (aa : Int32) (wt : Int32) (wy : Int64) (rm : Nat) (ud : Nat) (nu : Nat) (sd : Int64) (qn : Nat) (qw : Nat) (qo : Int32) (qb : Nat) (qp : Nat) (qa : Int64) (qi : Nat) (oc : Nat) (w : Nat) (rf : Nat → Int32) (hw : w < 6) : skM l yX12_refuses cX12_refuses 2 (some .int) 0 0 0 0 D (skT cI cJ cC cZ cS) [.ref mm, .int (nI w)] [(mm, .inr (12, mo g (nI ta) (nI pa) (nI pe) pd (nI pb) pp pf pg pn rt rn (nI cd) sn (nI il) tk am at_ aa 0 0 (-1) wt wy 0 (nI rm) (nI ud) (nI nu) sd (nI qn) (nI qw) qo (nI qb) (nI qp) qa (nI qi) (nI oc))), (g 9, .inl (cI, 6, .inl rf))] (skI D (skT cI cJ cC cZ cS) (fun (r : Int32) (u : va_W) => ∃ (rf2 : Nat → Int32), rf2 = upd rf w (rf w + 1) ∧ r = (-1) ∧ u = [(mm, .inr (12, mo g (nI ta) (nI pa) (nI pe) pd (nI pb) pp pf pg pn rt rn (nI cd) sn (nI il) tk am at_ aa 0 0 (-1) wt wy 0 (nI rm) (nI ud) (nI nu) sd (nI qn) (nI qw) qo (nI qb) (nI qp) qa (nI qi) (nI oc))), (g 9, .inl (cI, 6, .inl rf2))])) := by
  refine skM_of (by decide +kernel) (Nat.le_of_ble_eq_true rfl) ?_
  intro p e s m below meth c A ls E hP hD hl
  obtain ⟨hx, hb, hr, hml, hlocks, hin, hown, hts, hK, hA⟩ := E
  have hown : s.vm.findClass RX12 = some m.cls := hown
  have hS : va_S A s.heap s.heap [] := va_S.rf
  have hl : lv_has ls 2 [(0, .ref mm), (1, .int (nI w))] := hl
  refine lv_aload_n hx hb dX12_refuses_0 rfl (lv_at hl 0 rfl) ?_
  refine sk_get (v := .ref (g 9)) (C := RX12) (T := TX12) (N := 92) hx hb hts inlX12 hown hK hP 0 rfl rfl 9 (by decide) w_5_164 rfl dX12_refuses_1 ?_
  refine lv_iload_n hx hb dX12_refuses_4 rfl (lv_at hl 1 rfl) ?_
  refine lv_dup2_11 hx hb dX12_refuses_5 rfl rfl ?_
  refine va_iald hx hb hK.1 hP 1 0 rfl rfl (vin w 6 (by omega) (by omega)) dX12_refuses_6 ?_
  refine sk_top (rf w) (by rw [nI_clamp (by omega)]) ?_
  refine lv_iconst (v := 1) hx hb dX12_refuses_7 (by decide) ?_
  refine lv_iadd hx hb dX12_refuses_8 ?_
  refine sk_iastE (k := w) (ws' := fun f_1 => [(mm, .inr (12, mo g (nI ta) (nI pa) (nI pe) pd (nI pb) pp pf pg pn rt rn (nI cd) sn (nI il) tk am at_ aa 0 0 (-1) wt wy 0 (nI rm) (nI ud) (nI nu) sd (nI qn) (nI qw) qo (nI qb) (nI qp) qa (nI qi) (nI oc))), (g 9, .inl (cI, 6, .inl f_1))]) hx hb hK hP hD hS 1 0 rfl rfl (by omega) (by omega) (fun _ => rfl) dX12_refuses_9 (fun f_1 H locs ef_2 hP hD hS => ?_)
  refine lv_iconst (v := (-1)) hx hb dX12_refuses_10 (by decide) ?_
  exact sk_iret hx hb hr rfl hlocks hK hP hD hS (⟨f_1, ef_2, rfl, rfl⟩) (Nat.le_of_ble_eq_true rfl) (Nat.le_of_ble_eq_true rfl) dX12_refuses_11
theorem dX12_feed_0 : decode cX12_feed 0 = .ok (.aload_n 0, 1) := by decide +kernel
theorem dX12_feed_1 : decode cX12_feed 1 = .ok (.getfield 192, 3) := by decide +kernel
theorem dX12_feed_4 : decode cX12_feed 4 = .ok (.bipush 20, 2) := by decide +kernel
theorem dX12_feed_6 : decode cX12_feed 6 = .ok (.iadd, 1) := by decide +kernel
theorem dX12_feed_7 : decode cX12_feed 7 = .ok (.sipush 1600, 3) := by decide +kernel
theorem dX12_feed_10 : decode cX12_feed 10 = .ok (.if_icmp .le 15, 3) := by decide +kernel
theorem dX12_feed_25 : decode cX12_feed 25 = .ok (.iconst 0, 1) := by decide +kernel
theorem dX12_feed_26 : decode cX12_feed 26 = .ok (.istore 6, 2) := by decide +kernel
theorem dX12_feed_28 : decode cX12_feed 28 = .ok (.iload 6, 2) := by decide +kernel
theorem dX12_feed_30 : decode cX12_feed 30 = .ok (.bipush 20, 2) := by decide +kernel
theorem dX12_feed_32 : decode cX12_feed 32 = .ok (.if_icmp .ge 92, 3) := by decide +kernel
theorem dX12_feed_124 : decode cX12_feed 124 = .ok (.aload_n 0, 1) := by decide +kernel
theorem dX12_feed_125 : decode cX12_feed 125 = .ok (.getfield 192, 3) := by decide +kernel
theorem dX12_feed_128 : decode cX12_feed 128 = .ok (.ireturn, 1) := by decide +kernel
theorem dX12_feed_35 : decode cX12_feed 35 = .ok (.iload 6, 2) := by decide +kernel
theorem dX12_feed_37 : decode cX12_feed 37 = .ok (.iconst 4, 1) := by decide +kernel
theorem dX12_feed_38 : decode cX12_feed 38 = .ok (.if_icmp .ge 7, 3) := by decide +kernel
theorem dX12_feed_45 : decode cX12_feed 45 = .ok (.iload 6, 2) := by decide +kernel
theorem dX12_feed_47 : decode cX12_feed 47 = .ok (.bipush 8, 2) := by decide +kernel
theorem dX12_feed_49 : decode cX12_feed 49 = .ok (.if_icmp .ge 7, 3) := by decide +kernel
theorem dX12_feed_56 : decode cX12_feed 56 = .ok (.iload 6, 2) := by decide +kernel
theorem dX12_feed_58 : decode cX12_feed 58 = .ok (.bipush 12, 2) := by decide +kernel
theorem dX12_feed_60 : decode cX12_feed 60 = .ok (.if_icmp .ge 7, 3) := by decide +kernel
theorem dX12_feed_67 : decode cX12_feed 67 = .ok (.iload 6, 2) := by decide +kernel
theorem dX12_feed_69 : decode cX12_feed 69 = .ok (.bipush 16, 2) := by decide +kernel
theorem dX12_feed_71 : decode cX12_feed 71 = .ok (.if_icmp .ge 8, 3) := by decide +kernel
theorem dX12_feed_79 : decode cX12_feed 79 = .ok (.iload 5, 2) := by decide +kernel
theorem dX12_feed_81 : decode cX12_feed 81 = .ok (.istore 7, 2) := by decide +kernel
theorem dX12_feed_83 : decode cX12_feed 83 = .ok (.aload_n 0, 1) := by decide +kernel
theorem dX12_feed_84 : decode cX12_feed 84 = .ok (.getfield 7, 3) := by decide +kernel
theorem dX12_feed_87 : decode cX12_feed 87 = .ok (.aload_n 0, 1) := by decide +kernel
theorem dX12_feed_88 : decode cX12_feed 88 = .ok (.getfield 192, 3) := by decide +kernel
theorem dX12_feed_91 : decode cX12_feed 91 = .ok (.iload 7, 2) := by decide +kernel
theorem dX12_feed_93 : decode cX12_feed 93 = .ok (.bipush 8, 2) := by decide +kernel
theorem dX12_feed_95 : decode cX12_feed 95 = .ok (.iconst 3, 1) := by decide +kernel
theorem dX12_feed_96 : decode cX12_feed 96 = .ok (.iload 6, 2) := by decide +kernel
theorem dX12_feed_98 : decode cX12_feed 98 = .ok (.iconst 4, 1) := by decide +kernel
theorem dX12_feed_99 : decode cX12_feed 99 = .ok (.irem, 1) := by decide +kernel
theorem dX12_feed_100 : decode cX12_feed 100 = .ok (.isub, 1) := by decide +kernel
theorem dX12_feed_101 : decode cX12_feed 101 = .ok (.imul, 1) := by decide +kernel
theorem dX12_feed_102 : decode cX12_feed 102 = .ok (.ishr, 1) := by decide +kernel
theorem dX12_feed_103 : decode cX12_feed 103 = .ok (.sipush 255, 3) := by decide +kernel
theorem dX12_feed_106 : decode cX12_feed 106 = .ok (.iand, 1) := by decide +kernel
theorem dX12_feed_107 : decode cX12_feed 107 = .ok (.iastore, 1) := by decide +kernel
theorem dX12_feed_108 : decode cX12_feed 108 = .ok (.aload_n 0, 1) := by decide +kernel
theorem dX12_feed_109 : decode cX12_feed 109 = .ok (.dup, 1) := by decide +kernel
theorem dX12_feed_110 : decode cX12_feed 110 = .ok (.getfield 192, 3) := by decide +kernel
theorem dX12_feed_113 : decode cX12_feed 113 = .ok (.iconst 1, 1) := by decide +kernel
theorem dX12_feed_114 : decode cX12_feed 114 = .ok (.iadd, 1) := by decide +kernel
theorem dX12_feed_115 : decode cX12_feed 115 = .ok (.putfield 192, 3) := by decide +kernel
theorem dX12_feed_118 : decode cX12_feed 118 = .ok (.iinc 6 1, 3) := by decide +kernel
theorem dX12_feed_121 : decode cX12_feed 121 = .ok (.goto (-93), 3) := by decide +kernel
theorem dX12_feed_74 : decode cX12_feed 74 = .ok (.iload 4, 2) := by decide +kernel
theorem dX12_feed_76 : decode cX12_feed 76 = .ok (.goto 5, 3) := by decide +kernel
theorem dX12_feed_63 : decode cX12_feed 63 = .ok (.iload_n 3, 1) := by decide +kernel
theorem dX12_feed_64 : decode cX12_feed 64 = .ok (.goto 17, 3) := by decide +kernel
theorem dX12_feed_52 : decode cX12_feed 52 = .ok (.iload_n 2, 1) := by decide +kernel
theorem dX12_feed_53 : decode cX12_feed 53 = .ok (.goto 28, 3) := by decide +kernel
theorem dX12_feed_41 : decode cX12_feed 41 = .ok (.iload_n 1, 1) := by decide +kernel
theorem dX12_feed_42 : decode cX12_feed 42 = .ok (.goto 39, 3) := by decide +kernel
theorem dX12_feed_13 : decode cX12_feed 13 = .ok (.aload_n 0, 1) := by decide +kernel
theorem dX12_feed_14 : decode cX12_feed 14 = .ok (.getfield 17, 3) := by decide +kernel
theorem dX12_feed_17 : decode cX12_feed 17 = .ok (.iconst 0, 1) := by decide +kernel
theorem dX12_feed_18 : decode cX12_feed 18 = .ok (.dup2, 1) := by decide +kernel
theorem dX12_feed_19 : decode cX12_feed 19 = .ok (.iaload, 1) := by decide +kernel
theorem dX12_feed_20 : decode cX12_feed 20 = .ok (.iconst 1, 1) := by decide +kernel
theorem dX12_feed_21 : decode cX12_feed 21 = .ok (.iadd, 1) := by decide +kernel
theorem dX12_feed_22 : decode cX12_feed 22 = .ok (.iastore, 1) := by decide +kernel
theorem dX12_feed_23 : decode cX12_feed 23 = .ok (.iconst (-1), 1) := by decide +kernel
theorem dX12_feed_24 : decode cX12_feed 24 = .ok (.ireturn, 1) := by decide +kernel
theorem w_5_156 : (Cond.fieldLink RX12 192 "SameKeeperModel" "taped" "I") ∈ wsL_law := sk_mem (ck_5 _ (List.mem_of_getElem? (i := 156) rfl)) rfl
theorem w_6_197 : (Cond.code yX12_feed cX12_feed 8 (some .int)) ∈ wsL_law := sk_mem (ck_6 _ (List.mem_of_getElem? (i := 197) rfl)) rfl
set_option maxHeartbeats 4000000 in
set_option maxRecDepth 100000 in
theorem c_nm_feed (l : Launch) (D : va_G) (cI cJ cC cZ cS : ClassId) (mm : Nat) (g : Nat → Nat) (ta : Nat) (pa : Nat) (pe : Nat) (pd : Int32) (pb : Nat) (pp : Int32) (pf : Int32) (pg : Int32) (pn : Int32) (rt : Int32) (rn : Int32) (cd : Nat) (sn : Int32) (il : Nat) (tk : Int32) (am : Int32) (at_ : Int32) (aa : Int32) (wt : Int32) (wy : Int64) (rm : Nat) (ud : Nat) (nu : Nat) (sd : Int64) (qn : Nat) (qw : Nat) (qo : Int32) (qb : Nat) (qp : Nat) (qa : Int64) (qi : Nat) (oc : Nat) (a1 : Int32) (a2 : Int32) (a3 : Int32) (a4 : Int32) (a5 : Int32) (tb : Nat → Nat) (rf : Nat → Int32) (hta : ta ≤ 1600) (htb : ∀ j, tb j ≤ 255) : skM l yX12_feed cX12_feed 8 (some .int) 0 0 0 0 D (skT cI cJ cC cZ cS) [.ref mm, .int a1, .int a2, .int a3, .int a4, .int a5] [(mm, .inr (12, mo g (nI ta) (nI pa) (nI pe) pd (nI pb) pp pf pg pn rt rn (nI cd) sn (nI il) tk am at_ aa 0 0 (-1) wt wy 0 (nI rm) (nI ud) (nI nu) sd (nI qn) (nI qw) qo (nI qb) (nI qp) qa (nI qi) (nI oc))), (g 0, .inl (cI, 1600, .inl (fun j => nI (tb j)))), (g 9, .inl (cI, 6, .inl rf))] (skI D (skT cI cJ cC cZ cS) (fun (r : Int32) (u : va_W) => ∃ (ta2 : Nat), ∃ (tb2 : Nat → Nat), ∃ (rf2 : Nat → Int32), ((ta ≤ 1580 ∧ ta2 = ta + 20 ∧ r = nI ta2 ∧ tb2 = feedT tb ta a1 a2 a3 a4 a5) ∨ (1580 < ta ∧ ta2 = ta ∧ r = -1 ∧ tb2 = tb)) ∧ ((ta ≤ 1580 ∧ rf2 = rf) ∨ (1580 < ta ∧ rf2 = upd rf 0 (rf 0 + 1))) ∧ (∀ j, tb2 j ≤ 255) ∧ u = [(mm, .inr (12, mo g (nI ta2) (nI pa) (nI pe) pd (nI pb) pp pf pg pn rt rn (nI cd) sn (nI il) tk am at_ aa 0 0 (-1) wt wy 0 (nI rm) (nI ud) (nI nu) sd (nI qn) (nI qw) qo (nI qb) (nI qp) qa (nI qi) (nI oc))), (g 0, .inl (cI, 1600, .inl (fun j => nI (tb2 j)))), (g 9, .inl (cI, 6, .inl rf2))])) := by
  refine skM_of (by decide +kernel) (Nat.le_of_ble_eq_true rfl) ?_
  intro p e s m below meth c A ls E hP hD hl
  obtain ⟨hx, hb, hr, hml, hlocks, hin, hown, hts, hK, hA⟩ := E
  have hown : s.vm.findClass RX12 = some m.cls := hown
  have hS : va_S A s.heap s.heap [] := va_S.rf
  have hl : lv_has ls 8 [(0, .ref mm), (1, .int a1), (2, .int a2), (3, .int a3), (4, .int a4), (5, .int a5)] := hl
  refine lv_aload_n hx hb dX12_feed_0 rfl (lv_at hl 0 rfl) ?_
  refine sk_get (v := .int (nI ta)) (C := RX12) (T := TX12) (N := 92) hx hb hts inlX12 hown hK hP 0 rfl rfl 1 (by decide) w_5_156 rfl dX12_feed_1 ?_
  refine lv_bipush (v := 20) hx hb dX12_feed_4 (by decide) ?_
  refine lv_iadd hx hb dX12_feed_6 ?_
  refine sk_top (nI (ta + 20)) (nI_add ta 20) ?_
  refine lv_sipush (v := 1600) hx hb dX12_feed_7 (by decide) ?_
  refine lv_icmp_le (tgt := 25) hx hb dX12_feed_10 (by decide) (fun c_1 => ?_) (fun c_1 => ?_)
  · have c_1 : ta + 20 ≤ 1600 := (nle (ta + 20) 1600 (by omega) (by omega)).mp c_1
    refine lv_iconst (v := 0) hx hb dX12_feed_25 (by decide) ?_
    refine lv_istore (lv' := [(6, .int 0), (0, .ref mm), (1, .int a1), (2, .int a2), (3, .int a3), (4, .int a4), (5, .int a5)]) hx hb dX12_feed_26 hl (by decide) rfl (fun ls hl => ?_)
    have lp_2 : ∀ (n_3 : Nat) (i : Nat) (zt : Nat) (zb : Nat → Nat) (H : Heap) (locs : List Loc) (ls : Array Slot), 20 - i < n_3 → (∀ j, zb j ≤ 255) → (i ≤ 20) → (zt = ta + i) → (zb = feedN tb ta (wByte a1 a2 a3 a4 a5) i) → va_P D vwCl [(mm, .inr (12, mo g (nI zt) (nI pa) (nI pe) pd (nI pb) pp pf pg pn rt rn (nI cd) sn (nI il) tk am at_ aa 0 0 (-1) wt wy 0 (nI rm) (nI ud) (nI nu) sd (nI qn) (nI qw) qo (nI qb) (nI qp) qa (nI qi) (nI oc))), (g 0, .inl (cI, 1600, .inl (fun j => nI (zb j)))), (g 9, .inl (cI, 6, .inl rf))] H → va_D A [(mm, .inr (12, mo g (nI zt) (nI pa) (nI pe) pd (nI pb) pp pf pg pn rt rn (nI cd) sn (nI il) tk am at_ aa 0 0 (-1) wt wy 0 (nI rm) (nI ud) (nI nu) sd (nI qn) (nI qw) qo (nI qb) (nI qp) qa (nI qi) (nI oc))), (g 0, .inl (cI, 1600, .inl (fun j => nI (zb j)))), (g 9, .inl (cI, 6, .inl rf))] → va_S A s.heap H locs → lv_has ls 8 [(6, .int (nI i)), (0, .ref mm), (1, .int a1), (2, .int a2), (3, .int a3), (4, .int a4), (5, .int a5)] → W p l e { frames := 0, cells := 0, slots := 0, locals := 0 } s m ([.ref mm, .int a1, .int a2, .int a3, .int a4, .int a5] : List Value).toArray below meth c H locs 0 0 (MQ below (skI D (skT cI cJ cC cZ cS) (fun (r : Int32) (u : va_W) => ∃ (ta2 : Nat), ∃ (tb2 : Nat → Nat), ∃ (rf2 : Nat → Int32), ((ta ≤ 1580 ∧ ta2 = ta + 20 ∧ r = nI ta2 ∧ tb2 = feedT tb ta a1 a2 a3 a4 a5) ∨ (1580 < ta ∧ ta2 = ta ∧ r = -1 ∧ tb2 = tb)) ∧ ((ta ≤ 1580 ∧ rf2 = rf) ∨ (1580 < ta ∧ rf2 = upd rf 0 (rf 0 + 1))) ∧ (∀ j, tb2 j ≤ 255) ∧ u = [(mm, .inr (12, mo g (nI ta2) (nI pa) (nI pe) pd (nI pb) pp pf pg pn rt rn (nI cd) sn (nI il) tk am at_ aa 0 0 (-1) wt wy 0 (nI rm) (nI ud) (nI nu) sd (nI qn) (nI qw) qo (nI qb) (nI qp) qa (nI qi) (nI oc))), (g 0, .inl (cI, 1600, .inl (fun j => nI (tb2 j)))), (g 9, .inl (cI, 6, .inl rf2))]) A) ([.ref mm, .int a1, .int a2, .int a3, .int a4, .int a5] : List Value).toArray s 0 0 A) (F0 m 28 ls []) := by
      intro n_3
      induction n_3 with
      | zero => intro i zt zb H locs ls hm; exact absurd hm (Nat.not_lt_zero _)
      | succ n_3 ih_lp_2 =>
        intro i zt zb H locs ls hm hzb hi hzt hzf hP hD hS hl
        refine lv_iload hx hb dX12_feed_28 (lv_at hl 0 rfl) ?_
        refine lv_bipush (v := 20) hx hb dX12_feed_30 (by decide) ?_
        refine lv_icmp_ge (tgt := 124) hx hb dX12_feed_32 (by decide) (fun c_4 => ?_) (fun c_4 => ?_)
        · have c_4 : 20 ≤ i := (nle 20 i (by omega) (by omega)).mp c_4
          refine lv_aload_n hx hb dX12_feed_124 rfl (lv_at hl 1 rfl) ?_
          refine sk_get (v := .int (nI zt)) (C := RX12) (T := TX12) (N := 92) hx hb hts inlX12 hown hK hP 0 rfl rfl 1 (by decide) w_5_156 rfl dX12_feed_125 ?_
          exact sk_iret hx hb hr rfl hlocks hK hP hD hS (⟨zt, zb, rf, Or.inl ⟨by omega, by omega, rfl, fd_20 hzf (by omega)⟩, Or.inl ⟨by omega, rfl⟩, hzb, rfl⟩) (Nat.le_of_ble_eq_true rfl) (Nat.le_of_ble_eq_true rfl) dX12_feed_128
        · have c_4 : ¬ (20 ≤ i) := fun h => c_4 ((nle 20 i (by omega) (by omega)).mpr h)
          refine lv_iload hx hb dX12_feed_35 (lv_at hl 0 rfl) ?_
          refine lv_iconst (v := 4) hx hb dX12_feed_37 (by decide) ?_
          refine lv_icmp_ge (tgt := 45) hx hb dX12_feed_38 (by decide) (fun c_5 => ?_) (fun c_5 => ?_)
          · have c_5 : 4 ≤ i := (nle 4 i (by omega) (by omega)).mp c_5
            refine lv_iload hx hb dX12_feed_45 (lv_at hl 0 rfl) ?_
            refine lv_bipush (v := 8) hx hb dX12_feed_47 (by decide) ?_
            refine lv_icmp_ge (tgt := 56) hx hb dX12_feed_49 (by decide) (fun c_6 => ?_) (fun c_6 => ?_)
            · have c_6 : 8 ≤ i := (nle 8 i (by omega) (by omega)).mp c_6
              refine lv_iload hx hb dX12_feed_56 (lv_at hl 0 rfl) ?_
              refine lv_bipush (v := 12) hx hb dX12_feed_58 (by decide) ?_
              refine lv_icmp_ge (tgt := 67) hx hb dX12_feed_60 (by decide) (fun c_7 => ?_) (fun c_7 => ?_)
              · have c_7 : 12 ≤ i := (nle 12 i (by omega) (by omega)).mp c_7
                refine lv_iload hx hb dX12_feed_67 (lv_at hl 0 rfl) ?_
                refine lv_bipush (v := 16) hx hb dX12_feed_69 (by decide) ?_
                refine lv_icmp_ge (tgt := 79) hx hb dX12_feed_71 (by decide) (fun c_8 => ?_) (fun c_8 => ?_)
                · have c_8 : 16 ≤ i := (nle 16 i (by omega) (by omega)).mp c_8
                  refine lv_iload hx hb dX12_feed_79 (lv_at hl 6 rfl) ?_
                  refine lv_istore (lv' := [(7, .int a5), (6, .int (nI i)), (0, .ref mm), (1, .int a1), (2, .int a2), (3, .int a3), (4, .int a4), (5, .int a5)]) hx hb dX12_feed_81 hl (by decide) rfl (fun ls hl => ?_)
                  refine lv_aload_n hx hb dX12_feed_83 rfl (lv_at hl 2 rfl) ?_
                  refine sk_get (v := .ref (g 0)) (C := RX12) (T := TX12) (N := 92) hx hb hts inlX12 hown hK hP 0 rfl rfl 0 (by decide) w_5_155 rfl dX12_feed_84 ?_
                  refine lv_aload_n hx hb dX12_feed_87 rfl (lv_at hl 2 rfl) ?_
                  refine sk_get (v := .int (nI zt)) (C := RX12) (T := TX12) (N := 92) hx hb hts inlX12 hown hK hP 0 rfl rfl 1 (by decide) w_5_156 rfl dX12_feed_88 ?_
                  refine lv_iload hx hb dX12_feed_91 (lv_at hl 0 rfl) ?_
                  refine lv_bipush (v := 8) hx hb dX12_feed_93 (by decide) ?_
                  refine lv_iconst (v := 3) hx hb dX12_feed_95 (by decide) ?_
                  refine lv_iload hx hb dX12_feed_96 (lv_at hl 1 rfl) ?_
                  refine lv_iconst (v := 4) hx hb dX12_feed_98 (by decide) ?_
                  refine lv_irem hx hb dX12_feed_99 (by decide) ?_
                  refine sk_top (nI (i % 4)) (nrem i 4 (by omega) (by omega) (by omega)) ?_
                  refine lv_isub hx hb dX12_feed_100 ?_
                  refine sk_top (nI (3 - (i % 4))) (nsub 3 (i % 4) (by omega)) ?_
                  refine lv_imul hx hb dX12_feed_101 ?_
                  refine sk_top (nI (8 * (3 - (i % 4)))) (nmul 8 (3 - (i % 4))) ?_
                  refine lv_ishr hx hb dX12_feed_102 ?_
                  refine lv_topi (fun v_9 ev_9 => ?_)
                  refine lv_sipush (v := 255) hx hb dX12_feed_103 (by decide) ?_
                  refine lv_iand hx hb dX12_feed_106 ?_
                  have hlo_10 := lo8_le v_9
                  refine sk_top (nI (lo8 v_9)) (lo8_eq v_9) ?_
                  refine sk_iastX (k := zt) (v := (lo8 v_9)) (B := 255) (ws' := fun f_11 => [(mm, .inr (12, mo g (nI zt) (nI pa) (nI pe) pd (nI pb) pp pf pg pn rt rn (nI cd) sn (nI il) tk am at_ aa 0 0 (-1) wt wy 0 (nI rm) (nI ud) (nI nu) sd (nI qn) (nI qw) qo (nI qb) (nI qp) qa (nI qi) (nI oc))), (g 0, .inl (cI, 1600, .inl (fun j => nI (f_11 j)))), (g 9, .inl (cI, 6, .inl rf))]) hx hb hK hP hD hS 1 0 rfl rfl (by omega) (by omega) hzb (by omega) (fun _ => rfl) dX12_feed_107 (fun f_11 H locs hf_12 ef_13 hP hD hS => ?_)
                  refine lv_aload_n hx hb dX12_feed_108 rfl (lv_at hl 2 rfl) ?_
                  refine lv_dup hx hb dX12_feed_109 rfl ?_
                  refine sk_get (v := .int (nI zt)) (C := RX12) (T := TX12) (N := 92) hx hb hts inlX12 hown hK hP 0 rfl rfl 1 (by decide) w_5_156 rfl dX12_feed_110 ?_
                  refine lv_iconst (v := 1) hx hb dX12_feed_113 (by decide) ?_
                  refine lv_iadd hx hb dX12_feed_114 ?_
                  refine sk_top (nI (zt + 1)) (nI_add zt 1) ?_
                  refine sk_put (ws' := [(mm, .inr (12, mo g (nI (zt + 1)) (nI pa) (nI pe) pd (nI pb) pp pf pg pn rt rn (nI cd) sn (nI il) tk am at_ aa 0 0 (-1) wt wy 0 (nI rm) (nI ud) (nI nu) sd (nI qn) (nI qw) qo (nI qb) (nI qp) qa (nI qi) (nI oc))), (g 0, .inl (cI, 1600, .inl (fun j => nI (f_11 j)))), (g 9, .inl (cI, 6, .inl rf))]) (C := RX12) (T := TX12) (N := 92) (v := .int (nI (zt + 1))) hx hb hts inlX12 tyX12 tyX12_ok nmX12 hown hK hP hD hS 0 rfl rfl 1 (by decide) w_5_156 rfl rfl rfl (Nat.le_of_ble_eq_true rfl) rfl dX12_feed_115 (fun H locs hP hD hS => ?_)
                  refine lv_iinc (v := nI (i + 1)) (lv' := [(6, .int (nI (i + 1))), (7, .int a5), (0, .ref mm), (1, .int a1), (2, .int a2), (3, .int a3), (4, .int a4), (5, .int a5)]) hx hb dX12_feed_118 hl (k := 1) rfl (ninc i 1 (by decide)) (by decide) rfl (fun ls hl => ?_)
                  refine lv_goto (tgt := 28) hx hb dX12_feed_121 (by decide) ?_
                  exact ih_lp_2 (i + 1) (zt + 1) f_11 _ _ _ (by omega) hf_12 (by omega) (by omega) (fd_s hzf hzt ef_13 ev_9 ((if_neg (by omega)).trans ((if_neg (by omega)).trans ((if_neg (by omega)).trans ((if_neg (by omega)).trans rfl))))) hP hD hS (lv_sub hl [0, 2, 3, 4, 5, 6, 7] rfl)
                · have c_8 : ¬ (16 ≤ i) := fun h => c_8 ((nle 16 i (by omega) (by omega)).mpr h)
                  refine lv_iload hx hb dX12_feed_74 (lv_at hl 5 rfl) ?_
                  refine lv_goto (tgt := 81) hx hb dX12_feed_76 (by decide) ?_
                  refine lv_istore (lv' := [(7, .int a4), (6, .int (nI i)), (0, .ref mm), (1, .int a1), (2, .int a2), (3, .int a3), (4, .int a4), (5, .int a5)]) hx hb dX12_feed_81 hl (by decide) rfl (fun ls hl => ?_)
                  refine lv_aload_n hx hb dX12_feed_83 rfl (lv_at hl 2 rfl) ?_
                  refine sk_get (v := .ref (g 0)) (C := RX12) (T := TX12) (N := 92) hx hb hts inlX12 hown hK hP 0 rfl rfl 0 (by decide) w_5_155 rfl dX12_feed_84 ?_
                  refine lv_aload_n hx hb dX12_feed_87 rfl (lv_at hl 2 rfl) ?_
                  refine sk_get (v := .int (nI zt)) (C := RX12) (T := TX12) (N := 92) hx hb hts inlX12 hown hK hP 0 rfl rfl 1 (by decide) w_5_156 rfl dX12_feed_88 ?_
                  refine lv_iload hx hb dX12_feed_91 (lv_at hl 0 rfl) ?_
                  refine lv_bipush (v := 8) hx hb dX12_feed_93 (by decide) ?_
                  refine lv_iconst (v := 3) hx hb dX12_feed_95 (by decide) ?_
                  refine lv_iload hx hb dX12_feed_96 (lv_at hl 1 rfl) ?_
                  refine lv_iconst (v := 4) hx hb dX12_feed_98 (by decide) ?_
                  refine lv_irem hx hb dX12_feed_99 (by decide) ?_
                  refine sk_top (nI (i % 4)) (nrem i 4 (by omega) (by omega) (by omega)) ?_
                  refine lv_isub hx hb dX12_feed_100 ?_
                  refine sk_top (nI (3 - (i % 4))) (nsub 3 (i % 4) (by omega)) ?_
                  refine lv_imul hx hb dX12_feed_101 ?_
                  refine sk_top (nI (8 * (3 - (i % 4)))) (nmul 8 (3 - (i % 4))) ?_
                  refine lv_ishr hx hb dX12_feed_102 ?_
                  refine lv_topi (fun v_14 ev_14 => ?_)
                  refine lv_sipush (v := 255) hx hb dX12_feed_103 (by decide) ?_
                  refine lv_iand hx hb dX12_feed_106 ?_
                  have hlo_15 := lo8_le v_14
                  refine sk_top (nI (lo8 v_14)) (lo8_eq v_14) ?_
                  refine sk_iastX (k := zt) (v := (lo8 v_14)) (B := 255) (ws' := fun f_16 => [(mm, .inr (12, mo g (nI zt) (nI pa) (nI pe) pd (nI pb) pp pf pg pn rt rn (nI cd) sn (nI il) tk am at_ aa 0 0 (-1) wt wy 0 (nI rm) (nI ud) (nI nu) sd (nI qn) (nI qw) qo (nI qb) (nI qp) qa (nI qi) (nI oc))), (g 0, .inl (cI, 1600, .inl (fun j => nI (f_16 j)))), (g 9, .inl (cI, 6, .inl rf))]) hx hb hK hP hD hS 1 0 rfl rfl (by omega) (by omega) hzb (by omega) (fun _ => rfl) dX12_feed_107 (fun f_16 H locs hf_17 ef_18 hP hD hS => ?_)
                  refine lv_aload_n hx hb dX12_feed_108 rfl (lv_at hl 2 rfl) ?_
                  refine lv_dup hx hb dX12_feed_109 rfl ?_
                  refine sk_get (v := .int (nI zt)) (C := RX12) (T := TX12) (N := 92) hx hb hts inlX12 hown hK hP 0 rfl rfl 1 (by decide) w_5_156 rfl dX12_feed_110 ?_
                  refine lv_iconst (v := 1) hx hb dX12_feed_113 (by decide) ?_
                  refine lv_iadd hx hb dX12_feed_114 ?_
                  refine sk_top (nI (zt + 1)) (nI_add zt 1) ?_
                  refine sk_put (ws' := [(mm, .inr (12, mo g (nI (zt + 1)) (nI pa) (nI pe) pd (nI pb) pp pf pg pn rt rn (nI cd) sn (nI il) tk am at_ aa 0 0 (-1) wt wy 0 (nI rm) (nI ud) (nI nu) sd (nI qn) (nI qw) qo (nI qb) (nI qp) qa (nI qi) (nI oc))), (g 0, .inl (cI, 1600, .inl (fun j => nI (f_16 j)))), (g 9, .inl (cI, 6, .inl rf))]) (C := RX12) (T := TX12) (N := 92) (v := .int (nI (zt + 1))) hx hb hts inlX12 tyX12 tyX12_ok nmX12 hown hK hP hD hS 0 rfl rfl 1 (by decide) w_5_156 rfl rfl rfl (Nat.le_of_ble_eq_true rfl) rfl dX12_feed_115 (fun H locs hP hD hS => ?_)
                  refine lv_iinc (v := nI (i + 1)) (lv' := [(6, .int (nI (i + 1))), (7, .int a4), (0, .ref mm), (1, .int a1), (2, .int a2), (3, .int a3), (4, .int a4), (5, .int a5)]) hx hb dX12_feed_118 hl (k := 1) rfl (ninc i 1 (by decide)) (by decide) rfl (fun ls hl => ?_)
                  refine lv_goto (tgt := 28) hx hb dX12_feed_121 (by decide) ?_
                  exact ih_lp_2 (i + 1) (zt + 1) f_16 _ _ _ (by omega) hf_17 (by omega) (by omega) (fd_s hzf hzt ef_18 ev_14 ((if_neg (by omega)).trans ((if_neg (by omega)).trans ((if_neg (by omega)).trans (if_pos (by omega)))))) hP hD hS (lv_sub hl [0, 2, 3, 4, 5, 6, 7] rfl)
              · have c_7 : ¬ (12 ≤ i) := fun h => c_7 ((nle 12 i (by omega) (by omega)).mpr h)
                refine lv_iload_n hx hb dX12_feed_63 rfl (lv_at hl 4 rfl) ?_
                refine lv_goto (tgt := 81) hx hb dX12_feed_64 (by decide) ?_
                refine lv_istore (lv' := [(7, .int a3), (6, .int (nI i)), (0, .ref mm), (1, .int a1), (2, .int a2), (3, .int a3), (4, .int a4), (5, .int a5)]) hx hb dX12_feed_81 hl (by decide) rfl (fun ls hl => ?_)
                refine lv_aload_n hx hb dX12_feed_83 rfl (lv_at hl 2 rfl) ?_
                refine sk_get (v := .ref (g 0)) (C := RX12) (T := TX12) (N := 92) hx hb hts inlX12 hown hK hP 0 rfl rfl 0 (by decide) w_5_155 rfl dX12_feed_84 ?_
                refine lv_aload_n hx hb dX12_feed_87 rfl (lv_at hl 2 rfl) ?_
                refine sk_get (v := .int (nI zt)) (C := RX12) (T := TX12) (N := 92) hx hb hts inlX12 hown hK hP 0 rfl rfl 1 (by decide) w_5_156 rfl dX12_feed_88 ?_
                refine lv_iload hx hb dX12_feed_91 (lv_at hl 0 rfl) ?_
                refine lv_bipush (v := 8) hx hb dX12_feed_93 (by decide) ?_
                refine lv_iconst (v := 3) hx hb dX12_feed_95 (by decide) ?_
                refine lv_iload hx hb dX12_feed_96 (lv_at hl 1 rfl) ?_
                refine lv_iconst (v := 4) hx hb dX12_feed_98 (by decide) ?_
                refine lv_irem hx hb dX12_feed_99 (by decide) ?_
                refine sk_top (nI (i % 4)) (nrem i 4 (by omega) (by omega) (by omega)) ?_
                refine lv_isub hx hb dX12_feed_100 ?_
                refine sk_top (nI (3 - (i % 4))) (nsub 3 (i % 4) (by omega)) ?_
                refine lv_imul hx hb dX12_feed_101 ?_
                refine sk_top (nI (8 * (3 - (i % 4)))) (nmul 8 (3 - (i % 4))) ?_
                refine lv_ishr hx hb dX12_feed_102 ?_
                refine lv_topi (fun v_19 ev_19 => ?_)
                refine lv_sipush (v := 255) hx hb dX12_feed_103 (by decide) ?_
                refine lv_iand hx hb dX12_feed_106 ?_
                have hlo_20 := lo8_le v_19
                refine sk_top (nI (lo8 v_19)) (lo8_eq v_19) ?_
                refine sk_iastX (k := zt) (v := (lo8 v_19)) (B := 255) (ws' := fun f_21 => [(mm, .inr (12, mo g (nI zt) (nI pa) (nI pe) pd (nI pb) pp pf pg pn rt rn (nI cd) sn (nI il) tk am at_ aa 0 0 (-1) wt wy 0 (nI rm) (nI ud) (nI nu) sd (nI qn) (nI qw) qo (nI qb) (nI qp) qa (nI qi) (nI oc))), (g 0, .inl (cI, 1600, .inl (fun j => nI (f_21 j)))), (g 9, .inl (cI, 6, .inl rf))]) hx hb hK hP hD hS 1 0 rfl rfl (by omega) (by omega) hzb (by omega) (fun _ => rfl) dX12_feed_107 (fun f_21 H locs hf_22 ef_23 hP hD hS => ?_)
                refine lv_aload_n hx hb dX12_feed_108 rfl (lv_at hl 2 rfl) ?_
                refine lv_dup hx hb dX12_feed_109 rfl ?_
                refine sk_get (v := .int (nI zt)) (C := RX12) (T := TX12) (N := 92) hx hb hts inlX12 hown hK hP 0 rfl rfl 1 (by decide) w_5_156 rfl dX12_feed_110 ?_
                refine lv_iconst (v := 1) hx hb dX12_feed_113 (by decide) ?_
                refine lv_iadd hx hb dX12_feed_114 ?_
                refine sk_top (nI (zt + 1)) (nI_add zt 1) ?_
                refine sk_put (ws' := [(mm, .inr (12, mo g (nI (zt + 1)) (nI pa) (nI pe) pd (nI pb) pp pf pg pn rt rn (nI cd) sn (nI il) tk am at_ aa 0 0 (-1) wt wy 0 (nI rm) (nI ud) (nI nu) sd (nI qn) (nI qw) qo (nI qb) (nI qp) qa (nI qi) (nI oc))), (g 0, .inl (cI, 1600, .inl (fun j => nI (f_21 j)))), (g 9, .inl (cI, 6, .inl rf))]) (C := RX12) (T := TX12) (N := 92) (v := .int (nI (zt + 1))) hx hb hts inlX12 tyX12 tyX12_ok nmX12 hown hK hP hD hS 0 rfl rfl 1 (by decide) w_5_156 rfl rfl rfl (Nat.le_of_ble_eq_true rfl) rfl dX12_feed_115 (fun H locs hP hD hS => ?_)
                refine lv_iinc (v := nI (i + 1)) (lv' := [(6, .int (nI (i + 1))), (7, .int a3), (0, .ref mm), (1, .int a1), (2, .int a2), (3, .int a3), (4, .int a4), (5, .int a5)]) hx hb dX12_feed_118 hl (k := 1) rfl (ninc i 1 (by decide)) (by decide) rfl (fun ls hl => ?_)
                refine lv_goto (tgt := 28) hx hb dX12_feed_121 (by decide) ?_
                exact ih_lp_2 (i + 1) (zt + 1) f_21 _ _ _ (by omega) hf_22 (by omega) (by omega) (fd_s hzf hzt ef_23 ev_19 ((if_neg (by omega)).trans ((if_neg (by omega)).trans (if_pos (by omega))))) hP hD hS (lv_sub hl [0, 2, 3, 4, 5, 6, 7] rfl)
            · have c_6 : ¬ (8 ≤ i) := fun h => c_6 ((nle 8 i (by omega) (by omega)).mpr h)
              refine lv_iload_n hx hb dX12_feed_52 rfl (lv_at hl 3 rfl) ?_
              refine lv_goto (tgt := 81) hx hb dX12_feed_53 (by decide) ?_
              refine lv_istore (lv' := [(7, .int a2), (6, .int (nI i)), (0, .ref mm), (1, .int a1), (2, .int a2), (3, .int a3), (4, .int a4), (5, .int a5)]) hx hb dX12_feed_81 hl (by decide) rfl (fun ls hl => ?_)
              refine lv_aload_n hx hb dX12_feed_83 rfl (lv_at hl 2 rfl) ?_
              refine sk_get (v := .ref (g 0)) (C := RX12) (T := TX12) (N := 92) hx hb hts inlX12 hown hK hP 0 rfl rfl 0 (by decide) w_5_155 rfl dX12_feed_84 ?_
              refine lv_aload_n hx hb dX12_feed_87 rfl (lv_at hl 2 rfl) ?_
              refine sk_get (v := .int (nI zt)) (C := RX12) (T := TX12) (N := 92) hx hb hts inlX12 hown hK hP 0 rfl rfl 1 (by decide) w_5_156 rfl dX12_feed_88 ?_
              refine lv_iload hx hb dX12_feed_91 (lv_at hl 0 rfl) ?_
              refine lv_bipush (v := 8) hx hb dX12_feed_93 (by decide) ?_
              refine lv_iconst (v := 3) hx hb dX12_feed_95 (by decide) ?_
              refine lv_iload hx hb dX12_feed_96 (lv_at hl 1 rfl) ?_
              refine lv_iconst (v := 4) hx hb dX12_feed_98 (by decide) ?_
              refine lv_irem hx hb dX12_feed_99 (by decide) ?_
              refine sk_top (nI (i % 4)) (nrem i 4 (by omega) (by omega) (by omega)) ?_
              refine lv_isub hx hb dX12_feed_100 ?_
              refine sk_top (nI (3 - (i % 4))) (nsub 3 (i % 4) (by omega)) ?_
              refine lv_imul hx hb dX12_feed_101 ?_
              refine sk_top (nI (8 * (3 - (i % 4)))) (nmul 8 (3 - (i % 4))) ?_
              refine lv_ishr hx hb dX12_feed_102 ?_
              refine lv_topi (fun v_24 ev_24 => ?_)
              refine lv_sipush (v := 255) hx hb dX12_feed_103 (by decide) ?_
              refine lv_iand hx hb dX12_feed_106 ?_
              have hlo_25 := lo8_le v_24
              refine sk_top (nI (lo8 v_24)) (lo8_eq v_24) ?_
              refine sk_iastX (k := zt) (v := (lo8 v_24)) (B := 255) (ws' := fun f_26 => [(mm, .inr (12, mo g (nI zt) (nI pa) (nI pe) pd (nI pb) pp pf pg pn rt rn (nI cd) sn (nI il) tk am at_ aa 0 0 (-1) wt wy 0 (nI rm) (nI ud) (nI nu) sd (nI qn) (nI qw) qo (nI qb) (nI qp) qa (nI qi) (nI oc))), (g 0, .inl (cI, 1600, .inl (fun j => nI (f_26 j)))), (g 9, .inl (cI, 6, .inl rf))]) hx hb hK hP hD hS 1 0 rfl rfl (by omega) (by omega) hzb (by omega) (fun _ => rfl) dX12_feed_107 (fun f_26 H locs hf_27 ef_28 hP hD hS => ?_)
              refine lv_aload_n hx hb dX12_feed_108 rfl (lv_at hl 2 rfl) ?_
              refine lv_dup hx hb dX12_feed_109 rfl ?_
              refine sk_get (v := .int (nI zt)) (C := RX12) (T := TX12) (N := 92) hx hb hts inlX12 hown hK hP 0 rfl rfl 1 (by decide) w_5_156 rfl dX12_feed_110 ?_
              refine lv_iconst (v := 1) hx hb dX12_feed_113 (by decide) ?_
              refine lv_iadd hx hb dX12_feed_114 ?_
              refine sk_top (nI (zt + 1)) (nI_add zt 1) ?_
              refine sk_put (ws' := [(mm, .inr (12, mo g (nI (zt + 1)) (nI pa) (nI pe) pd (nI pb) pp pf pg pn rt rn (nI cd) sn (nI il) tk am at_ aa 0 0 (-1) wt wy 0 (nI rm) (nI ud) (nI nu) sd (nI qn) (nI qw) qo (nI qb) (nI qp) qa (nI qi) (nI oc))), (g 0, .inl (cI, 1600, .inl (fun j => nI (f_26 j)))), (g 9, .inl (cI, 6, .inl rf))]) (C := RX12) (T := TX12) (N := 92) (v := .int (nI (zt + 1))) hx hb hts inlX12 tyX12 tyX12_ok nmX12 hown hK hP hD hS 0 rfl rfl 1 (by decide) w_5_156 rfl rfl rfl (Nat.le_of_ble_eq_true rfl) rfl dX12_feed_115 (fun H locs hP hD hS => ?_)
              refine lv_iinc (v := nI (i + 1)) (lv' := [(6, .int (nI (i + 1))), (7, .int a2), (0, .ref mm), (1, .int a1), (2, .int a2), (3, .int a3), (4, .int a4), (5, .int a5)]) hx hb dX12_feed_118 hl (k := 1) rfl (ninc i 1 (by decide)) (by decide) rfl (fun ls hl => ?_)
              refine lv_goto (tgt := 28) hx hb dX12_feed_121 (by decide) ?_
              exact ih_lp_2 (i + 1) (zt + 1) f_26 _ _ _ (by omega) hf_27 (by omega) (by omega) (fd_s hzf hzt ef_28 ev_24 ((if_neg (by omega)).trans (if_pos (by omega)))) hP hD hS (lv_sub hl [0, 2, 3, 4, 5, 6, 7] rfl)
          · have c_5 : ¬ (4 ≤ i) := fun h => c_5 ((nle 4 i (by omega) (by omega)).mpr h)
            refine lv_iload_n hx hb dX12_feed_41 rfl (lv_at hl 2 rfl) ?_
            refine lv_goto (tgt := 81) hx hb dX12_feed_42 (by decide) ?_
            refine lv_istore (lv' := [(7, .int a1), (6, .int (nI i)), (0, .ref mm), (1, .int a1), (2, .int a2), (3, .int a3), (4, .int a4), (5, .int a5)]) hx hb dX12_feed_81 hl (by decide) rfl (fun ls hl => ?_)
            refine lv_aload_n hx hb dX12_feed_83 rfl (lv_at hl 2 rfl) ?_
            refine sk_get (v := .ref (g 0)) (C := RX12) (T := TX12) (N := 92) hx hb hts inlX12 hown hK hP 0 rfl rfl 0 (by decide) w_5_155 rfl dX12_feed_84 ?_
            refine lv_aload_n hx hb dX12_feed_87 rfl (lv_at hl 2 rfl) ?_
            refine sk_get (v := .int (nI zt)) (C := RX12) (T := TX12) (N := 92) hx hb hts inlX12 hown hK hP 0 rfl rfl 1 (by decide) w_5_156 rfl dX12_feed_88 ?_
            refine lv_iload hx hb dX12_feed_91 (lv_at hl 0 rfl) ?_
            refine lv_bipush (v := 8) hx hb dX12_feed_93 (by decide) ?_
            refine lv_iconst (v := 3) hx hb dX12_feed_95 (by decide) ?_
            refine lv_iload hx hb dX12_feed_96 (lv_at hl 1 rfl) ?_
            refine lv_iconst (v := 4) hx hb dX12_feed_98 (by decide) ?_
            refine lv_irem hx hb dX12_feed_99 (by decide) ?_
            refine sk_top (nI (i % 4)) (nrem i 4 (by omega) (by omega) (by omega)) ?_
            refine lv_isub hx hb dX12_feed_100 ?_
            refine sk_top (nI (3 - (i % 4))) (nsub 3 (i % 4) (by omega)) ?_
            refine lv_imul hx hb dX12_feed_101 ?_
            refine sk_top (nI (8 * (3 - (i % 4)))) (nmul 8 (3 - (i % 4))) ?_
            refine lv_ishr hx hb dX12_feed_102 ?_
            refine lv_topi (fun v_29 ev_29 => ?_)
            refine lv_sipush (v := 255) hx hb dX12_feed_103 (by decide) ?_
            refine lv_iand hx hb dX12_feed_106 ?_
            have hlo_30 := lo8_le v_29
            refine sk_top (nI (lo8 v_29)) (lo8_eq v_29) ?_
            refine sk_iastX (k := zt) (v := (lo8 v_29)) (B := 255) (ws' := fun f_31 => [(mm, .inr (12, mo g (nI zt) (nI pa) (nI pe) pd (nI pb) pp pf pg pn rt rn (nI cd) sn (nI il) tk am at_ aa 0 0 (-1) wt wy 0 (nI rm) (nI ud) (nI nu) sd (nI qn) (nI qw) qo (nI qb) (nI qp) qa (nI qi) (nI oc))), (g 0, .inl (cI, 1600, .inl (fun j => nI (f_31 j)))), (g 9, .inl (cI, 6, .inl rf))]) hx hb hK hP hD hS 1 0 rfl rfl (by omega) (by omega) hzb (by omega) (fun _ => rfl) dX12_feed_107 (fun f_31 H locs hf_32 ef_33 hP hD hS => ?_)
            refine lv_aload_n hx hb dX12_feed_108 rfl (lv_at hl 2 rfl) ?_
            refine lv_dup hx hb dX12_feed_109 rfl ?_
            refine sk_get (v := .int (nI zt)) (C := RX12) (T := TX12) (N := 92) hx hb hts inlX12 hown hK hP 0 rfl rfl 1 (by decide) w_5_156 rfl dX12_feed_110 ?_
            refine lv_iconst (v := 1) hx hb dX12_feed_113 (by decide) ?_
            refine lv_iadd hx hb dX12_feed_114 ?_
            refine sk_top (nI (zt + 1)) (nI_add zt 1) ?_
            refine sk_put (ws' := [(mm, .inr (12, mo g (nI (zt + 1)) (nI pa) (nI pe) pd (nI pb) pp pf pg pn rt rn (nI cd) sn (nI il) tk am at_ aa 0 0 (-1) wt wy 0 (nI rm) (nI ud) (nI nu) sd (nI qn) (nI qw) qo (nI qb) (nI qp) qa (nI qi) (nI oc))), (g 0, .inl (cI, 1600, .inl (fun j => nI (f_31 j)))), (g 9, .inl (cI, 6, .inl rf))]) (C := RX12) (T := TX12) (N := 92) (v := .int (nI (zt + 1))) hx hb hts inlX12 tyX12 tyX12_ok nmX12 hown hK hP hD hS 0 rfl rfl 1 (by decide) w_5_156 rfl rfl rfl (Nat.le_of_ble_eq_true rfl) rfl dX12_feed_115 (fun H locs hP hD hS => ?_)
            refine lv_iinc (v := nI (i + 1)) (lv' := [(6, .int (nI (i + 1))), (7, .int a1), (0, .ref mm), (1, .int a1), (2, .int a2), (3, .int a3), (4, .int a4), (5, .int a5)]) hx hb dX12_feed_118 hl (k := 1) rfl (ninc i 1 (by decide)) (by decide) rfl (fun ls hl => ?_)
            refine lv_goto (tgt := 28) hx hb dX12_feed_121 (by decide) ?_
            exact ih_lp_2 (i + 1) (zt + 1) f_31 _ _ _ (by omega) hf_32 (by omega) (by omega) (fd_s hzf hzt ef_33 ev_29 (if_pos (by omega))) hP hD hS (lv_sub hl [0, 2, 3, 4, 5, 6, 7] rfl)
    exact lp_2 (20 - 0 + 1) 0 ta tb _ _ _ (Nat.lt_succ_self _) htb (by omega) (by omega) rfl hP hD hS (lv_sub hl [0, 1, 2, 3, 4, 5, 6] rfl)
  · have c_1 : ¬ (ta + 20 ≤ 1600) := fun h => c_1 ((nle (ta + 20) 1600 (by omega) (by omega)).mpr h)
    refine lv_aload_n hx hb dX12_feed_13 rfl (lv_at hl 0 rfl) ?_
    refine sk_get (v := .ref (g 9)) (C := RX12) (T := TX12) (N := 92) hx hb hts inlX12 hown hK hP 0 rfl rfl 9 (by decide) w_5_164 rfl dX12_feed_14 ?_
    refine lv_iconst (v := 0) hx hb dX12_feed_17 (by decide) ?_
    refine lv_dup2_11 hx hb dX12_feed_18 rfl rfl ?_
    refine va_iald hx hb hK.1 hP 2 0 rfl rfl (by unfold vp_in; decide) dX12_feed_19 ?_
    refine sk_top (rf 0) (rfl) ?_
    refine lv_iconst (v := 1) hx hb dX12_feed_20 (by decide) ?_
    refine lv_iadd hx hb dX12_feed_21 ?_
    refine sk_iastE (k := 0) (ws' := fun f_34 => [(mm, .inr (12, mo g (nI ta) (nI pa) (nI pe) pd (nI pb) pp pf pg pn rt rn (nI cd) sn (nI il) tk am at_ aa 0 0 (-1) wt wy 0 (nI rm) (nI ud) (nI nu) sd (nI qn) (nI qw) qo (nI qb) (nI qp) qa (nI qi) (nI oc))), (g 0, .inl (cI, 1600, .inl (fun j => nI (tb j)))), (g 9, .inl (cI, 6, .inl f_34))]) hx hb hK hP hD hS 2 0 rfl rfl (by omega) (by omega) (fun _ => rfl) dX12_feed_22 (fun f_34 H locs ef_35 hP hD hS => ?_)
    refine lv_iconst (v := (-1)) hx hb dX12_feed_23 (by decide) ?_
    exact sk_iret hx hb hr rfl hlocks hK hP hD hS (⟨ta, tb, f_34, Or.inr ⟨by omega, rfl, rfl, rfl⟩, Or.inr ⟨by omega, ef_35⟩, htb, rfl⟩) (Nat.le_of_ble_eq_true rfl) (Nat.le_of_ble_eq_true rfl) dX12_feed_24
theorem dX12_end_0 : decode cX12_end 0 = .ok (.iload_n 1, 1) := by decide +kernel
theorem dX12_end_1 : decode cX12_end 1 = .ok (.ifCond .lt 11, 3) := by decide +kernel
theorem dX12_end_12 : decode cX12_end 12 = .ok (.aload_n 0, 1) := by decide +kernel
theorem dX12_end_13 : decode cX12_end 13 = .ok (.getfield 17, 3) := by decide +kernel
theorem dX12_end_16 : decode cX12_end 16 = .ok (.iconst 0, 1) := by decide +kernel
theorem dX12_end_17 : decode cX12_end 17 = .ok (.dup2, 1) := by decide +kernel
theorem dX12_end_18 : decode cX12_end 18 = .ok (.iaload, 1) := by decide +kernel
theorem dX12_end_19 : decode cX12_end 19 = .ok (.iconst 1, 1) := by decide +kernel
theorem dX12_end_20 : decode cX12_end 20 = .ok (.iadd, 1) := by decide +kernel
theorem dX12_end_21 : decode cX12_end 21 = .ok (.iastore, 1) := by decide +kernel
theorem dX12_end_22 : decode cX12_end 22 = .ok (.iconst 0, 1) := by decide +kernel
theorem dX12_end_23 : decode cX12_end 23 = .ok (.ireturn, 1) := by decide +kernel
theorem dX12_end_4 : decode cX12_end 4 = .ok (.iload_n 1, 1) := by decide +kernel
theorem dX12_end_5 : decode cX12_end 5 = .ok (.aload_n 0, 1) := by decide +kernel
theorem dX12_end_6 : decode cX12_end 6 = .ok (.getfield 192, 3) := by decide +kernel
theorem dX12_end_9 : decode cX12_end 9 = .ok (.if_icmp .le 15, 3) := by decide +kernel
theorem dX12_end_24 : decode cX12_end 24 = .ok (.aload_n 0, 1) := by decide +kernel
theorem dX12_end_25 : decode cX12_end 25 = .ok (.iload_n 1, 1) := by decide +kernel
theorem dX12_end_26 : decode cX12_end 26 = .ok (.putfield 192, 3) := by decide +kernel
theorem dX12_end_29 : decode cX12_end 29 = .ok (.iconst 1, 1) := by decide +kernel
theorem dX12_end_30 : decode cX12_end 30 = .ok (.ireturn, 1) := by decide +kernel
theorem w_6_201 : (Cond.code yX12_end cX12_end 2 (some .boolean)) ∈ wsL_law := sk_mem (ck_6 _ (List.mem_of_getElem? (i := 201) rfl)) rfl
set_option maxHeartbeats 4000000 in
set_option maxRecDepth 100000 in
theorem c_nm_end (l : Launch) (D : va_G) (cI cJ cC cZ cS : ClassId) (mm : Nat) (g : Nat → Nat) (ta : Nat) (pa : Nat) (pe : Nat) (pd : Int32) (pb : Nat) (pp : Int32) (pf : Int32) (pg : Int32) (pn : Int32) (rt : Int32) (rn : Int32) (cd : Nat) (sn : Int32) (il : Nat) (tk : Int32) (am : Int32) (at_ : Int32) (aa : Int32) (wt : Int32) (wy : Int64) (rm : Nat) (ud : Nat) (nu : Nat) (sd : Int64) (qn : Nat) (qw : Nat) (qo : Int32) (qb : Nat) (qp : Nat) (qa : Int64) (qi : Nat) (oc : Nat) (n : Int32) (rf : Nat → Int32) (hta : ta ≤ 1600) : skM l yX12_end cX12_end 2 (some .boolean) 0 0 0 0 D (skT cI cJ cC cZ cS) [.ref mm, .int n] [(mm, .inr (12, mo g (nI ta) (nI pa) (nI pe) pd (nI pb) pp pf pg pn rt rn (nI cd) sn (nI il) tk am at_ aa 0 0 (-1) wt wy 0 (nI rm) (nI ud) (nI nu) sd (nI qn) (nI qw) qo (nI qb) (nI qp) qa (nI qi) (nI oc))), (g 9, .inl (cI, 6, .inl rf))] (skI D (skT cI cJ cC cZ cS) (fun (r : Int32) (u : va_W) => ∃ (ta2 : Nat), ∃ (rf2 : Nat → Int32), ((n < 0 ∧ ta2 = ta ∧ r = 0) ∨ (∃ k : Nat, k < 2147483648 ∧ n = nI k ∧ ((k ≤ ta ∧ ta2 = k ∧ r = 1) ∨ (ta < k ∧ ta2 = ta ∧ r = 0)))) ∧ ((r = 1 ∧ rf2 = rf) ∨ (r = 0 ∧ rf2 = upd rf 0 (rf 0 + 1))) ∧ u = [(mm, .inr (12, mo g (nI ta2) (nI pa) (nI pe) pd (nI pb) pp pf pg pn rt rn (nI cd) sn (nI il) tk am at_ aa 0 0 (-1) wt wy 0 (nI rm) (nI ud) (nI nu) sd (nI qn) (nI qw) qo (nI qb) (nI qp) qa (nI qi) (nI oc))), (g 9, .inl (cI, 6, .inl rf2))])) := by
  refine skM_of (by decide +kernel) (Nat.le_of_ble_eq_true rfl) ?_
  intro p e s m below meth c A ls E hP hD hl
  obtain ⟨hx, hb, hr, hml, hlocks, hin, hown, hts, hK, hA⟩ := E
  have hown : s.vm.findClass RX12 = some m.cls := hown
  have hS : va_S A s.heap s.heap [] := va_S.rf
  have hl : lv_has ls 2 [(0, .ref mm), (1, .int n)] := hl
  refine lv_iload_n hx hb dX12_end_0 rfl (lv_at hl 1 rfl) ?_
  refine lv_if_lt (tgt := 12) hx hb dX12_end_1 (by decide) (fun c_1 => ?_) (fun c_1 => ?_)
  · skip
    refine lv_aload_n hx hb dX12_end_12 rfl (lv_at hl 0 rfl) ?_
    refine sk_get (v := .ref (g 9)) (C := RX12) (T := TX12) (N := 92) hx hb hts inlX12 hown hK hP 0 rfl rfl 9 (by decide) w_5_164 rfl dX12_end_13 ?_
    refine lv_iconst (v := 0) hx hb dX12_end_16 (by decide) ?_
    refine lv_dup2_11 hx hb dX12_end_17 rfl rfl ?_
    refine va_iald hx hb hK.1 hP 1 0 rfl rfl (by unfold vp_in; decide) dX12_end_18 ?_
    refine sk_top (rf 0) (rfl) ?_
    refine lv_iconst (v := 1) hx hb dX12_end_19 (by decide) ?_
    refine lv_iadd hx hb dX12_end_20 ?_
    refine sk_iastE (k := 0) (ws' := fun f_2 => [(mm, .inr (12, mo g (nI ta) (nI pa) (nI pe) pd (nI pb) pp pf pg pn rt rn (nI cd) sn (nI il) tk am at_ aa 0 0 (-1) wt wy 0 (nI rm) (nI ud) (nI nu) sd (nI qn) (nI qw) qo (nI qb) (nI qp) qa (nI qi) (nI oc))), (g 9, .inl (cI, 6, .inl f_2))]) hx hb hK hP hD hS 1 0 rfl rfl (by omega) (by omega) (fun _ => rfl) dX12_end_21 (fun f_2 H locs ef_3 hP hD hS => ?_)
    refine lv_iconst (v := 0) hx hb dX12_end_22 (by decide) ?_
    exact sk_iret hx hb hr rfl hlocks hK hP hD hS (⟨ta, f_2, Or.inl ⟨c_1, rfl, rfl⟩, Or.inr ⟨rfl, ef_3⟩, rfl⟩) (Nat.le_of_ble_eq_true rfl) (Nat.le_of_ble_eq_true rfl) dX12_end_23
  · obtain ⟨k_4, hk_4, rfl⟩ := nof n c_1
    refine lv_iload_n hx hb dX12_end_4 rfl (lv_at hl 1 rfl) ?_
    refine lv_aload_n hx hb dX12_end_5 rfl (lv_at hl 0 rfl) ?_
    refine sk_get (v := .int (nI ta)) (C := RX12) (T := TX12) (N := 92) hx hb hts inlX12 hown hK hP 0 rfl rfl 1 (by decide) w_5_156 rfl dX12_end_6 ?_
    refine lv_icmp_le (tgt := 24) hx hb dX12_end_9 (by decide) (fun c_5 => ?_) (fun c_5 => ?_)
    · have c_5 : k_4 ≤ ta := (nle k_4 ta (by omega) (by omega)).mp c_5
      refine lv_aload_n hx hb dX12_end_24 rfl (lv_at hl 0 rfl) ?_
      refine lv_iload_n hx hb dX12_end_25 rfl (lv_at hl 1 rfl) ?_
      refine sk_put (ws' := [(mm, .inr (12, mo g (nI k_4) (nI pa) (nI pe) pd (nI pb) pp pf pg pn rt rn (nI cd) sn (nI il) tk am at_ aa 0 0 (-1) wt wy 0 (nI rm) (nI ud) (nI nu) sd (nI qn) (nI qw) qo (nI qb) (nI qp) qa (nI qi) (nI oc))), (g 9, .inl (cI, 6, .inl rf))]) (C := RX12) (T := TX12) (N := 92) (v := .int (nI k_4)) hx hb hts inlX12 tyX12 tyX12_ok nmX12 hown hK hP hD hS 0 rfl rfl 1 (by decide) w_5_156 rfl rfl rfl (Nat.le_of_ble_eq_true rfl) rfl dX12_end_26 (fun H locs hP hD hS => ?_)
      refine lv_iconst (v := 1) hx hb dX12_end_29 (by decide) ?_
      exact sk_iret hx hb hr rfl hlocks hK hP hD hS (⟨k_4, rf, Or.inr ⟨k_4, by omega, rfl, Or.inl ⟨by omega, rfl, rfl⟩⟩, Or.inl ⟨rfl, rfl⟩, rfl⟩) (Nat.le_of_ble_eq_true rfl) (Nat.le_of_ble_eq_true rfl) dX12_end_30
    · have c_5 : ¬ (k_4 ≤ ta) := fun h => c_5 ((nle k_4 ta (by omega) (by omega)).mpr h)
      refine lv_aload_n hx hb dX12_end_12 rfl (lv_at hl 0 rfl) ?_
      refine sk_get (v := .ref (g 9)) (C := RX12) (T := TX12) (N := 92) hx hb hts inlX12 hown hK hP 0 rfl rfl 9 (by decide) w_5_164 rfl dX12_end_13 ?_
      refine lv_iconst (v := 0) hx hb dX12_end_16 (by decide) ?_
      refine lv_dup2_11 hx hb dX12_end_17 rfl rfl ?_
      refine va_iald hx hb hK.1 hP 1 0 rfl rfl (by unfold vp_in; decide) dX12_end_18 ?_
      refine sk_top (rf 0) (rfl) ?_
      refine lv_iconst (v := 1) hx hb dX12_end_19 (by decide) ?_
      refine lv_iadd hx hb dX12_end_20 ?_
      refine sk_iastE (k := 0) (ws' := fun f_6 => [(mm, .inr (12, mo g (nI ta) (nI pa) (nI pe) pd (nI pb) pp pf pg pn rt rn (nI cd) sn (nI il) tk am at_ aa 0 0 (-1) wt wy 0 (nI rm) (nI ud) (nI nu) sd (nI qn) (nI qw) qo (nI qb) (nI qp) qa (nI qi) (nI oc))), (g 9, .inl (cI, 6, .inl f_6))]) hx hb hK hP hD hS 1 0 rfl rfl (by omega) (by omega) (fun _ => rfl) dX12_end_21 (fun f_6 H locs ef_7 hP hD hS => ?_)
      refine lv_iconst (v := 0) hx hb dX12_end_22 (by decide) ?_
      exact sk_iret hx hb hr rfl hlocks hK hP hD hS (⟨ta, f_6, Or.inr ⟨k_4, by omega, rfl, Or.inr ⟨by omega, rfl, rfl⟩⟩, Or.inr ⟨rfl, ef_7⟩, rfl⟩) (Nat.le_of_ble_eq_true rfl) (Nat.le_of_ble_eq_true rfl) dX12_end_23
theorem dX12_seed_0 : decode cX12_seed 0 = .ok (.iload_n 1, 1) := by decide +kernel
theorem dX12_seed_1 : decode cX12_seed 1 = .ok (.ifCond .ge 15, 3) := by decide +kernel
theorem dX12_seed_16 : decode cX12_seed 16 = .ok (.aload_n 0, 1) := by decide +kernel
theorem dX12_seed_17 : decode cX12_seed 17 = .ok (.iload_n 1, 1) := by decide +kernel
theorem dX12_seed_18 : decode cX12_seed 18 = .ok (.i2l, 1) := by decide +kernel
theorem dX12_seed_19 : decode cX12_seed 19 = .ok (.putfield 110, 3) := by decide +kernel
theorem dX12_seed_22 : decode cX12_seed 22 = .ok (.iconst 1, 1) := by decide +kernel
theorem dX12_seed_23 : decode cX12_seed 23 = .ok (.ireturn, 1) := by decide +kernel
theorem dX12_seed_4 : decode cX12_seed 4 = .ok (.aload_n 0, 1) := by decide +kernel
theorem dX12_seed_5 : decode cX12_seed 5 = .ok (.getfield 17, 3) := by decide +kernel
theorem dX12_seed_8 : decode cX12_seed 8 = .ok (.iconst 5, 1) := by decide +kernel
theorem dX12_seed_9 : decode cX12_seed 9 = .ok (.dup2, 1) := by decide +kernel
theorem dX12_seed_10 : decode cX12_seed 10 = .ok (.iaload, 1) := by decide +kernel
theorem dX12_seed_11 : decode cX12_seed 11 = .ok (.iconst 1, 1) := by decide +kernel
theorem dX12_seed_12 : decode cX12_seed 12 = .ok (.iadd, 1) := by decide +kernel
theorem dX12_seed_13 : decode cX12_seed 13 = .ok (.iastore, 1) := by decide +kernel
theorem dX12_seed_14 : decode cX12_seed 14 = .ok (.iconst 0, 1) := by decide +kernel
theorem dX12_seed_15 : decode cX12_seed 15 = .ok (.ireturn, 1) := by decide +kernel
theorem w_5_212 : (Cond.fieldLink RX12 110 "SameKeeperModel" "seeded" "J") ∈ wsL_law := sk_mem (ck_5 _ (List.mem_of_getElem? (i := 212) rfl)) rfl
theorem w_8_145 : (Cond.code yX12_seed cX12_seed 2 (some .boolean)) ∈ wsL_law := sk_mem (ck_8 _ (List.mem_of_getElem? (i := 145) rfl)) rfl
set_option maxHeartbeats 4000000 in
set_option maxRecDepth 100000 in
theorem c_nm_seed (l : Launch) (D : va_G) (cI cJ cC cZ cS : ClassId) (mm : Nat) (g : Nat → Nat) (ta : Nat) (pa : Nat) (pe : Nat) (pd : Int32) (pb : Nat) (pp : Int32) (pf : Int32) (pg : Int32) (pn : Int32) (rt : Int32) (rn : Int32) (cd : Nat) (sn : Int32) (il : Nat) (tk : Int32) (am : Int32) (at_ : Int32) (aa : Int32) (wt : Int32) (wy : Int64) (rm : Nat) (ud : Nat) (nu : Nat) (qn : Nat) (qw : Nat) (qo : Int32) (qb : Nat) (qp : Nat) (qa : Int64) (qi : Nat) (oc : Nat) (n : Int32) (rf : Nat → Int32) (sv : Nat)  : skM l yX12_seed cX12_seed 2 (some .boolean) 0 0 0 0 D (skT cI cJ cC cZ cS) [.ref mm, .int n] [(mm, .inr (12, mo g (nI ta) (nI pa) (nI pe) pd (nI pb) pp pf pg pn rt rn (nI cd) sn (nI il) tk am at_ aa 0 0 (-1) wt wy 0 (nI rm) (nI ud) (nI nu) (Int64.ofNat sv) (nI qn) (nI qw) qo (nI qb) (nI qp) qa (nI qi) (nI oc))), (g 9, .inl (cI, 6, .inl rf))] (skI D (skT cI cJ cC cZ cS) (fun (r : Int32) (u : va_W) => ∃ (sv2 : Nat), ∃ (rf2 : Nat → Int32), seedR sv rf n r sv2 rf2 ∧ u = [(mm, .inr (12, mo g (nI ta) (nI pa) (nI pe) pd (nI pb) pp pf pg pn rt rn (nI cd) sn (nI il) tk am at_ aa 0 0 (-1) wt wy 0 (nI rm) (nI ud) (nI nu) (Int64.ofNat sv2) (nI qn) (nI qw) qo (nI qb) (nI qp) qa (nI qi) (nI oc))), (g 9, .inl (cI, 6, .inl rf2))])) := by
  refine skM_of (by decide +kernel) (Nat.le_of_ble_eq_true rfl) ?_
  intro p e s m below meth c A ls E hP hD hl
  obtain ⟨hx, hb, hr, hml, hlocks, hin, hown, hts, hK, hA⟩ := E
  have hown : s.vm.findClass RX12 = some m.cls := hown
  have hS : va_S A s.heap s.heap [] := va_S.rf
  have hl : lv_has ls 2 [(0, .ref mm), (1, .int n)] := hl
  refine lv_iload_n hx hb dX12_seed_0 rfl (lv_at hl 1 rfl) ?_
  refine lv_if_ge (tgt := 16) hx hb dX12_seed_1 (by decide) (fun c_1 => ?_) (fun c_1 => ?_)
  · obtain ⟨k_2, hk_2, rfl⟩ := nof' n c_1
    refine lv_aload_n hx hb dX12_seed_16 rfl (lv_at hl 0 rfl) ?_
    refine lv_iload_n hx hb dX12_seed_17 rfl (lv_at hl 1 rfl) ?_
    refine lv_i2l hx hb dX12_seed_18 rfl ?_
    refine sk_topl (Int64.ofNat k_2) (kx_i2l (by omega)) ?_
    refine sk_put (ws' := [(mm, .inr (12, mo g (nI ta) (nI pa) (nI pe) pd (nI pb) pp pf pg pn rt rn (nI cd) sn (nI il) tk am at_ aa 0 0 (-1) wt wy 0 (nI rm) (nI ud) (nI nu) (Int64.ofNat k_2) (nI qn) (nI qw) qo (nI qb) (nI qp) qa (nI qi) (nI oc))), (g 9, .inl (cI, 6, .inl rf))]) (C := RX12) (T := TX12) (N := 92) (v := .long (Int64.ofNat k_2)) hx hb hts inlX12 tyX12 tyX12_ok nmX12 hown hK hP hD hS 0 rfl rfl 57 (by decide) w_5_212 rfl rfl rfl (Nat.le_of_ble_eq_true rfl) rfl dX12_seed_19 (fun H locs hP hD hS => ?_)
    refine lv_iconst (v := 1) hx hb dX12_seed_22 (by decide) ?_
    exact sk_iret hx hb hr rfl hlocks hK hP hD hS (⟨k_2, rf, kR_1 k_2 ⟨by omega, rfl⟩ ⟨rfl, rfl, rfl⟩, rfl⟩) (Nat.le_of_ble_eq_true rfl) (Nat.le_of_ble_eq_true rfl) dX12_seed_23
  · skip
    refine lv_aload_n hx hb dX12_seed_4 rfl (lv_at hl 0 rfl) ?_
    refine sk_get (v := .ref (g 9)) (C := RX12) (T := TX12) (N := 92) hx hb hts inlX12 hown hK hP 0 rfl rfl 9 (by decide) w_5_164 rfl dX12_seed_5 ?_
    refine lv_iconst (v := 5) hx hb dX12_seed_8 (by decide) ?_
    refine lv_dup2_11 hx hb dX12_seed_9 rfl rfl ?_
    refine va_iald hx hb hK.1 hP 1 0 rfl rfl (by unfold vp_in; decide) dX12_seed_10 ?_
    refine sk_top (rf 5) (rfl) ?_
    refine lv_iconst (v := 1) hx hb dX12_seed_11 (by decide) ?_
    refine lv_iadd hx hb dX12_seed_12 ?_
    refine sk_iastE (k := 5) (ws' := fun f_3 => [(mm, .inr (12, mo g (nI ta) (nI pa) (nI pe) pd (nI pb) pp pf pg pn rt rn (nI cd) sn (nI il) tk am at_ aa 0 0 (-1) wt wy 0 (nI rm) (nI ud) (nI nu) (Int64.ofNat sv) (nI qn) (nI qw) qo (nI qb) (nI qp) qa (nI qi) (nI oc))), (g 9, .inl (cI, 6, .inl f_3))]) hx hb hK hP hD hS 1 0 rfl rfl (by omega) (by omega) (fun _ => rfl) dX12_seed_13 (fun f_3 H locs ef_4 hP hD hS => ?_)
    refine lv_iconst (v := 0) hx hb dX12_seed_14 (by decide) ?_
    exact sk_iret hx hb hr rfl hlocks hK hP hD hS (⟨sv, f_3, kR_0 (fun x hq => c_1 (by rw [hq.2]; exact nI_pos' (n := x) hq.1)) ⟨rfl, rfl, ef_4⟩, rfl⟩) (Nat.le_of_ble_eq_true rfl) (Nat.le_of_ble_eq_true rfl) dX12_seed_15
theorem dX12_status_0 : decode cX12_status 0 = .ok (.iload_n 1, 1) := by decide +kernel
theorem dX12_status_1 : decode cX12_status 1 = .ok (.i2l, 1) := by decide +kernel
theorem dX12_status_2 : decode cX12_status 2 = .ok (.lconst 0, 1) := by decide +kernel
theorem dX12_status_3 : decode cX12_status 3 = .ok (.ldc2_w 608, 3) := by decide +kernel
theorem dX12_status_6 : decode cX12_status 6 = .ok (.invokestatic 238, 3) := by decide +kernel
theorem dX12_status_9 : decode cX12_status 9 = .ok (.ifCond .eq 12, 3) := by decide +kernel
theorem dX12_status_21 : decode cX12_status 21 = .ok (.iconst (-1), 1) := by decide +kernel
theorem dX12_status_22 : decode cX12_status 22 = .ok (.ireturn, 1) := by decide +kernel
theorem dX12_status_12 : decode cX12_status 12 = .ok (.aload_n 0, 1) := by decide +kernel
theorem dX12_status_13 : decode cX12_status 13 = .ok (.getfield 17, 3) := by decide +kernel
theorem dX12_status_16 : decode cX12_status 16 = .ok (.iload_n 1, 1) := by decide +kernel
theorem dX12_status_17 : decode cX12_status 17 = .ok (.iaload, 1) := by decide +kernel
theorem dX12_status_18 : decode cX12_status 18 = .ok (.goto 4, 3) := by decide +kernel
theorem w_8_230 : (Cond.constantLong RX12 608 (5)) ∈ wsL_law := sk_mem (ck_8 _ (List.mem_of_getElem? (i := 230) rfl)) rfl
theorem w_8_229 : (Cond.code yX12_status cX12_status 2 (some .int)) ∈ wsL_law := sk_mem (ck_8 _ (List.mem_of_getElem? (i := 229) rfl)) rfl
set_option maxHeartbeats 4000000 in
set_option maxRecDepth 100000 in
theorem c_nm_status (l : Launch) (D : va_G) (cI cJ cC cZ cS : ClassId) (mm : Nat) (g : Nat → Nat) (ta : Nat) (pa : Nat) (pe : Nat) (pd : Int32) (pb : Nat) (pp : Int32) (pf : Int32) (pg : Int32) (pn : Int32) (rt : Int32) (rn : Int32) (cd : Nat) (sn : Int32) (il : Nat) (tk : Int32) (am : Int32) (at_ : Int32) (aa : Int32) (wt : Int32) (wy : Int64) (rm : Nat) (ud : Nat) (nu : Nat) (sd : Int64) (qn : Nat) (qw : Nat) (qo : Int32) (qb : Nat) (qp : Nat) (qa : Int64) (qi : Nat) (oc : Nat) (w : Int32) (rf : Nat → Int32)  : skM l yX12_status cX12_status 2 (some .int) 1 25 0 0 D (skT cI cJ cC cZ cS) [.ref mm, .int w] [(mm, .inr (12, mo g (nI ta) (nI pa) (nI pe) pd (nI pb) pp pf pg pn rt rn (nI cd) sn (nI il) tk am at_ aa 0 0 (-1) wt wy 0 (nI rm) (nI ud) (nI nu) sd (nI qn) (nI qw) qo (nI qb) (nI qp) qa (nI qi) (nI oc))), (g 9, .inl (cI, 6, .inl rf))] (skI D (skT cI cJ cC cZ cS) (fun (r : Int32) (u : va_W) => statR rf w r ∧ u = [(mm, .inr (12, mo g (nI ta) (nI pa) (nI pe) pd (nI pb) pp pf pg pn rt rn (nI cd) sn (nI il) tk am at_ aa 0 0 (-1) wt wy 0 (nI rm) (nI ud) (nI nu) sd (nI qn) (nI qw) qo (nI qb) (nI qp) qa (nI qi) (nI oc))), (g 9, .inl (cI, 6, .inl rf))])) := by
  refine skM_of (by decide +kernel) (Nat.le_of_ble_eq_true rfl) ?_
  intro p e s m below meth c A ls E hP hD hl
  obtain ⟨hx, hb, hr, hml, hlocks, hin, hown, hts, hK, hA⟩ := E
  have hown : s.vm.findClass RX12 = some m.cls := hown
  have hS : va_S A s.heap s.heap [] := va_S.rf
  have hl : lv_has ls 2 [(0, .ref mm), (1, .int w)] := hl
  refine lv_iload_n hx hb dX12_status_0 rfl (lv_at hl 1 rfl) ?_
  refine lv_i2l hx hb dX12_status_1 rfl ?_
  refine lv_lconst (v := 0) hx hb dX12_status_2 (by decide) ?_
  refine lv_ldc2 (v := 5) hx hb hown (hts _ w_8_230) dX12_status_3 ?_
  refine sk_Si (n := 3) (rest := []) (wr := [(mm, .inr (12, mo g (nI ta) (nI pa) (nI pe) pd (nI pb) pp pf pg pn rt rn (nI cd) sn (nI il) tk am at_ aa 0 0 (-1) wt wy 0 (nI rm) (nI ud) (nI nu) sd (nI qn) (nI qw) qo (nI qb) (nI qp) qa (nI qi) (nI oc))), (g 9, .inl (cI, 6, .inl rf))]) ⟨hx, hb, hml, hown, hts⟩ hl.1 (c_nm_isIn l D cI cJ cC cZ cS (Int32.toInt64 w) 0 5) w_7_0 w_7_1 w_1_14 w_7_2 (by decide +kernel) ⟨⟨(Nat.le_of_ble_eq_true rfl), (Nat.le_of_ble_eq_true rfl)⟩, (Nat.le_of_ble_eq_true rfl), (Nat.le_of_ble_eq_true rfl)⟩ hK hP hD hS hA [] [0, 1] rfl rfl (by decide +kernel) (by decide +kernel) (by decide +kernel) rfl rfl (Nat.le_of_ble_eq_true rfl) dX12_status_6 (fun r_2 u H locs hw hP hD hS => ?_)
  obtain ⟨b_1, hb1_3, rfl, rfl⟩ := hw
  have hP : va_P D vwCl [(mm, .inr (12, mo g (nI ta) (nI pa) (nI pe) pd (nI pb) pp pf pg pn rt rn (nI cd) sn (nI il) tk am at_ aa 0 0 (-1) wt wy 0 (nI rm) (nI ud) (nI nu) sd (nI qn) (nI qw) qo (nI qb) (nI qp) qa (nI qi) (nI oc))), (g 9, .inl (cI, 6, .inl rf))] H := hP
  have hD : va_D A [(mm, .inr (12, mo g (nI ta) (nI pa) (nI pe) pd (nI pb) pp pf pg pn rt rn (nI cd) sn (nI il) tk am at_ aa 0 0 (-1) wt wy 0 (nI rm) (nI ud) (nI nu) sd (nI qn) (nI qw) qo (nI qb) (nI qp) qa (nI qi) (nI oc))), (g 9, .inl (cI, 6, .inl rf))] := hD
  refine lv_if_eq (tgt := 21) hx hb dX12_status_9 (by decide) (fun c_4 => ?_) (fun c_4 => ?_)
  · have c_4 : b_1 = 0 := (neq b_1 0 (by omega) (by omega)).mp c_4
    refine lv_iconst (v := (-1)) hx hb dX12_status_21 (by decide) ?_
    exact sk_iret hx hb hr rfl hlocks hK hP hD hS (⟨stat_n (fun hq => rr_0 hb1_3 (by omega) ((kin0 (n := 6) (by decide) (by omega)).mpr hq)), rfl⟩) (Nat.le_of_ble_eq_true rfl) (Nat.le_of_ble_eq_true rfl) dX12_status_22
  · have c_4 : ¬ (b_1 = 0) := fun h => c_4 ((neq b_1 0 (by omega) (by omega)).mpr h)
    obtain ⟨kd_5, hkd_5, rfl⟩ := (kin0 (n := 6) (by decide) (by omega)).mp (rr_1 hb1_3 (by omega))
    refine lv_aload_n hx hb dX12_status_12 rfl (lv_at hl 0 rfl) ?_
    refine sk_get (v := .ref (g 9)) (C := RX12) (T := TX12) (N := 92) hx hb hts inlX12 hown hK hP 0 rfl rfl 9 (by decide) w_5_164 rfl dX12_status_13 ?_
    refine lv_iload_n hx hb dX12_status_16 rfl (lv_at hl 1 rfl) ?_
    refine va_iald hx hb hK.1 hP 1 0 rfl rfl (vin kd_5 6 (by omega) (by omega)) dX12_status_17 ?_
    refine sk_top (rf kd_5) (by rw [nI_clamp (by omega)]) ?_
    refine lv_goto (tgt := 22) hx hb dX12_status_18 (by decide) ?_
    exact sk_iret hx hb hr rfl hlocks hK hP hD hS (⟨stat_y hkd_5 rfl, rfl⟩) (Nat.le_of_ble_eq_true rfl) (Nat.le_of_ble_eq_true rfl) dX12_status_22
theorem dX12_keeps_0 : decode cX12_keeps 0 = .ok (.aload_n 0, 1) := by decide +kernel
theorem dX12_keeps_1 : decode cX12_keeps 1 = .ok (.aload_n 0, 1) := by decide +kernel
theorem dX12_keeps_2 : decode cX12_keeps 2 = .ok (.getfield 471, 3) := by decide +kernel
theorem dX12_keeps_5 : decode cX12_keeps 5 = .ok (.iconst 1, 1) := by decide +kernel
theorem dX12_keeps_6 : decode cX12_keeps 6 = .ok (.iadd, 1) := by decide +kernel
theorem dX12_keeps_7 : decode cX12_keeps 7 = .ok (.bipush 20, 2) := by decide +kernel
theorem dX12_keeps_9 : decode cX12_keeps 9 = .ok (.irem, 1) := by decide +kernel
theorem dX12_keeps_10 : decode cX12_keeps 10 = .ok (.putfield 471, 3) := by decide +kernel
theorem dX12_keeps_13 : decode cX12_keeps 13 = .ok (.iconst 0, 1) := by decide +kernel
theorem dX12_keeps_14 : decode cX12_keeps 14 = .ok (.istore_n 1, 1) := by decide +kernel
theorem dX12_keeps_15 : decode cX12_keeps 15 = .ok (.iload_n 1, 1) := by decide +kernel
theorem dX12_keeps_16 : decode cX12_keeps 16 = .ok (.bipush 120, 2) := by decide +kernel
theorem dX12_keeps_18 : decode cX12_keeps 18 = .ok (.if_icmp .ge 29, 3) := by decide +kernel
theorem dX12_keeps_47 : decode cX12_keeps 47 = .ok (.aload_n 0, 1) := by decide +kernel
theorem dX12_keeps_48 : decode cX12_keeps 48 = .ok (.getfield 309, 3) := by decide +kernel
theorem dX12_keeps_51 : decode cX12_keeps 51 = .ok (.bipush 20, 2) := by decide +kernel
theorem dX12_keeps_53 : decode cX12_keeps 53 = .ok (.if_icmp .ge 13, 3) := by decide +kernel
theorem dX12_keeps_66 : decode cX12_keeps 66 = .ok (.return_, 1) := by decide +kernel
theorem dX12_keeps_56 : decode cX12_keeps 56 = .ok (.aload_n 0, 1) := by decide +kernel
theorem dX12_keeps_57 : decode cX12_keeps 57 = .ok (.dup, 1) := by decide +kernel
theorem dX12_keeps_58 : decode cX12_keeps 58 = .ok (.getfield 309, 3) := by decide +kernel
theorem dX12_keeps_61 : decode cX12_keeps 61 = .ok (.iconst 1, 1) := by decide +kernel
theorem dX12_keeps_62 : decode cX12_keeps 62 = .ok (.iadd, 1) := by decide +kernel
theorem dX12_keeps_63 : decode cX12_keeps 63 = .ok (.putfield 309, 3) := by decide +kernel
theorem dX12_keeps_21 : decode cX12_keeps 21 = .ok (.aload_n 0, 1) := by decide +kernel
theorem dX12_keeps_22 : decode cX12_keeps 22 = .ok (.getfield 107, 3) := by decide +kernel
theorem dX12_keeps_25 : decode cX12_keeps 25 = .ok (.bipush 120, 2) := by decide +kernel
theorem dX12_keeps_27 : decode cX12_keeps 27 = .ok (.aload_n 0, 1) := by decide +kernel
theorem dX12_keeps_28 : decode cX12_keeps 28 = .ok (.getfield 471, 3) := by decide +kernel
theorem dX12_keeps_31 : decode cX12_keeps 31 = .ok (.imul, 1) := by decide +kernel
theorem dX12_keeps_32 : decode cX12_keeps 32 = .ok (.iload_n 1, 1) := by decide +kernel
theorem dX12_keeps_33 : decode cX12_keeps 33 = .ok (.iadd, 1) := by decide +kernel
theorem dX12_keeps_34 : decode cX12_keeps 34 = .ok (.aload_n 0, 1) := by decide +kernel
theorem dX12_keeps_35 : decode cX12_keeps 35 = .ok (.getfield 63, 3) := by decide +kernel
theorem dX12_keeps_38 : decode cX12_keeps 38 = .ok (.iload_n 1, 1) := by decide +kernel
theorem dX12_keeps_39 : decode cX12_keeps 39 = .ok (.iaload, 1) := by decide +kernel
theorem dX12_keeps_40 : decode cX12_keeps 40 = .ok (.iastore, 1) := by decide +kernel
theorem dX12_keeps_41 : decode cX12_keeps 41 = .ok (.iinc 1 1, 3) := by decide +kernel
theorem dX12_keeps_44 : decode cX12_keeps 44 = .ok (.goto (-29), 3) := by decide +kernel
theorem w_5_211 : (Cond.fieldLink RX12 471 "SameKeeperModel" "newest" "I") ∈ wsL_law := sk_mem (ck_5 _ (List.mem_of_getElem? (i := 211) rfl)) rfl
theorem w_5_209 : (Cond.fieldLink RX12 107 "SameKeeperModel" "kept0" "[I") ∈ wsL_law := sk_mem (ck_5 _ (List.mem_of_getElem? (i := 209) rfl)) rfl
theorem w_8_133 : (Cond.code yX12_keeps cX12_keeps 2 none) ∈ wsL_law := sk_mem (ck_8 _ (List.mem_of_getElem? (i := 133) rfl)) rfl
set_option maxHeartbeats 4000000 in
set_option maxRecDepth 100000 in
theorem c_nm_keeps (l : Launch) (D : va_G) (cI cJ cC cZ cS : ClassId) (mm : Nat) (g : Nat → Nat) (ta : Nat) (pa : Nat) (pe : Nat) (pd : Int32) (pb : Nat) (pp : Int32) (pf : Int32) (pg : Int32) (pn : Int32) (rt : Int32) (rn : Int32) (cd : Nat) (sn : Int32) (il : Nat) (tk : Int32) (am : Int32) (at_ : Int32) (aa : Int32) (wt : Int32) (wy : Int64) (rm : Nat) (ud : Nat) (nu : Nat) (sd : Int64) (qn : Nat) (qw : Nat) (qo : Int32) (qb : Nat) (qp : Nat) (qa : Int64) (qi : Nat) (oc : Nat) (nw : Nat → Int32) (kp : Nat → Int32) (wn : Nat) (mN : Nat) (Ba : Nat → Nat) (We : Nat → Nat) (U : Nat → Bool) (ke : Nat) (lg : KLg) (su : Nat → KN) (hnu : nu < 20) (hud : ud ≤ 20) (hnw : nwX wn mN Ba We U ke lg nw) (hkp : kpX ud nu su lg kp) : skM l yX12_keeps cX12_keeps 2 none 0 0 0 0 D (skT cI cJ cC cZ cS) [.ref mm] [(mm, .inr (12, mo g (nI ta) (nI pa) (nI pe) pd (nI pb) pp pf pg pn rt rn (nI cd) sn (nI il) tk am at_ aa 0 0 (-1) wt wy 0 (nI rm) (nI ud) (nI nu) sd (nI qn) (nI qw) qo (nI qb) (nI qp) qa (nI qi) (nI oc))), (g 31, .inl (cI, 120, .inl nw)), (g 54, .inl (cI, 2400, .inl kp))] (skV D (skT cI cJ cC cZ cS) (fun (u : va_W) => ∃ (kp2 : Nat → Int32), ∃ (ud2 : Nat), ud2 = min (ud + 1) 20 ∧ kpX ud2 ((nu + 1) % 20) (psh ud su (wn, mN, Ba, We, U, ke)) lg kp2 ∧ u = [(mm, .inr (12, mo g (nI ta) (nI pa) (nI pe) pd (nI pb) pp pf pg pn rt rn (nI cd) sn (nI il) tk am at_ aa 0 0 (-1) wt wy 0 (nI rm) (nI ud2) (nI ((nu + 1) % 20)) sd (nI qn) (nI qw) qo (nI qb) (nI qp) qa (nI qi) (nI oc))), (g 31, .inl (cI, 120, .inl nw)), (g 54, .inl (cI, 2400, .inl kp2))])) := by
  refine skM_of (by decide +kernel) (Nat.le_of_ble_eq_true rfl) ?_
  intro p e s m below meth c A ls E hP hD hl
  obtain ⟨hx, hb, hr, hml, hlocks, hin, hown, hts, hK, hA⟩ := E
  have hown : s.vm.findClass RX12 = some m.cls := hown
  have hS : va_S A s.heap s.heap [] := va_S.rf
  have hl : lv_has ls 2 [(0, .ref mm)] := hl
  refine lv_aload_n hx hb dX12_keeps_0 rfl (lv_at hl 0 rfl) ?_
  refine lv_aload_n hx hb dX12_keeps_1 rfl (lv_at hl 0 rfl) ?_
  refine sk_get (v := .int (nI nu)) (C := RX12) (T := TX12) (N := 92) hx hb hts inlX12 hown hK hP 0 rfl rfl 56 (by decide) w_5_211 rfl dX12_keeps_2 ?_
  refine lv_iconst (v := 1) hx hb dX12_keeps_5 (by decide) ?_
  refine lv_iadd hx hb dX12_keeps_6 ?_
  refine sk_top (nI (nu + 1)) (nI_add nu 1) ?_
  refine lv_bipush (v := 20) hx hb dX12_keeps_7 (by decide) ?_
  refine lv_irem hx hb dX12_keeps_9 (by decide) ?_
  refine sk_top (nI ((nu + 1) % 20)) (nrem (nu + 1) 20 (by omega) (by omega) (by omega)) ?_
  refine sk_put (ws' := [(mm, .inr (12, mo g (nI ta) (nI pa) (nI pe) pd (nI pb) pp pf pg pn rt rn (nI cd) sn (nI il) tk am at_ aa 0 0 (-1) wt wy 0 (nI rm) (nI ud) (nI ((nu + 1) % 20)) sd (nI qn) (nI qw) qo (nI qb) (nI qp) qa (nI qi) (nI oc))), (g 31, .inl (cI, 120, .inl nw)), (g 54, .inl (cI, 2400, .inl kp))]) (C := RX12) (T := TX12) (N := 92) (v := .int (nI ((nu + 1) % 20))) hx hb hts inlX12 tyX12 tyX12_ok nmX12 hown hK hP hD hS 0 rfl rfl 56 (by decide) w_5_211 rfl rfl rfl (Nat.le_of_ble_eq_true rfl) rfl dX12_keeps_10 (fun H locs hP hD hS => ?_)
  refine lv_iconst (v := 0) hx hb dX12_keeps_13 (by decide) ?_
  refine lv_istore_n (lv' := [(1, .int 0), (0, .ref mm)]) hx hb dX12_keeps_14 rfl hl (by decide) rfl (fun ls hl => ?_)
  have lp_1 : ∀ (n_2 : Nat) (i : Nat) (zk : Nat → Int32) (H : Heap) (locs : List Loc) (ls : Array Slot), 120 - i < n_2 → (i ≤ 120) → (kcp (120 * ((nu + 1) % 20)) i kp nw zk) → va_P D vwCl [(mm, .inr (12, mo g (nI ta) (nI pa) (nI pe) pd (nI pb) pp pf pg pn rt rn (nI cd) sn (nI il) tk am at_ aa 0 0 (-1) wt wy 0 (nI rm) (nI ud) (nI ((nu + 1) % 20)) sd (nI qn) (nI qw) qo (nI qb) (nI qp) qa (nI qi) (nI oc))), (g 31, .inl (cI, 120, .inl nw)), (g 54, .inl (cI, 2400, .inl zk))] H → va_D A [(mm, .inr (12, mo g (nI ta) (nI pa) (nI pe) pd (nI pb) pp pf pg pn rt rn (nI cd) sn (nI il) tk am at_ aa 0 0 (-1) wt wy 0 (nI rm) (nI ud) (nI ((nu + 1) % 20)) sd (nI qn) (nI qw) qo (nI qb) (nI qp) qa (nI qi) (nI oc))), (g 31, .inl (cI, 120, .inl nw)), (g 54, .inl (cI, 2400, .inl zk))] → va_S A s.heap H locs → lv_has ls 2 [(1, .int (nI i)), (0, .ref mm)] → W p l e { frames := 0, cells := 0, slots := 0, locals := 0 } s m ([.ref mm] : List Value).toArray below meth c H locs 0 0 (MQ below (skV D (skT cI cJ cC cZ cS) (fun (u : va_W) => ∃ (kp2 : Nat → Int32), ∃ (ud2 : Nat), ud2 = min (ud + 1) 20 ∧ kpX ud2 ((nu + 1) % 20) (psh ud su (wn, mN, Ba, We, U, ke)) lg kp2 ∧ u = [(mm, .inr (12, mo g (nI ta) (nI pa) (nI pe) pd (nI pb) pp pf pg pn rt rn (nI cd) sn (nI il) tk am at_ aa 0 0 (-1) wt wy 0 (nI rm) (nI ud2) (nI ((nu + 1) % 20)) sd (nI qn) (nI qw) qo (nI qb) (nI qp) qa (nI qi) (nI oc))), (g 31, .inl (cI, 120, .inl nw)), (g 54, .inl (cI, 2400, .inl kp2))]) A) ([.ref mm] : List Value).toArray s 0 0 A) (F0 m 15 ls []) := by
    intro n_2
    induction n_2 with
    | zero => intro i zk H locs ls hm; exact absurd hm (Nat.not_lt_zero _)
    | succ n_2 ih_lp_1 =>
      intro i zk H locs ls hm hi hcp hP hD hS hl
      refine lv_iload_n hx hb dX12_keeps_15 rfl (lv_at hl 0 rfl) ?_
      refine lv_bipush (v := 120) hx hb dX12_keeps_16 (by decide) ?_
      refine lv_icmp_ge (tgt := 47) hx hb dX12_keeps_18 (by decide) (fun c_3 => ?_) (fun c_3 => ?_)
      · have c_3 : 120 ≤ i := (nle 120 i (by omega) (by omega)).mp c_3
        have hcp2 := hcp
        rw [show i = 120 by omega] at hcp2
        refine lv_aload_n hx hb dX12_keeps_47 rfl (lv_at hl 1 rfl) ?_
        refine sk_get (v := .int (nI ud)) (C := RX12) (T := TX12) (N := 92) hx hb hts inlX12 hown hK hP 0 rfl rfl 55 (by decide) w_5_210 rfl dX12_keeps_48 ?_
        refine lv_bipush (v := 20) hx hb dX12_keeps_51 (by decide) ?_
        refine lv_icmp_ge (tgt := 66) hx hb dX12_keeps_53 (by decide) (fun c_4 => ?_) (fun c_4 => ?_)
        · have c_4 : 20 ≤ ud := (nle 20 ud (by omega) (by omega)).mp c_4
          have heu : ud = min (ud + 1) 20 := by omega
          have hkN : kpX ud ((nu + 1) % 20) (psh ud su (wn, mN, Ba, We, U, ke)) lg zk := (by have h9 := kpX_push (n := (wn, mN, Ba, We, U, ke)) hkp hnw hnu hud (fun k hk => hcp2.1 k (by omega)) hcp2.2; rw [← heu] at h9; exact h9)
          exact sk_vret hx hb hr hlocks hK hP hD hS (⟨zk, ud, by omega, hkN, rfl⟩) (Nat.le_of_ble_eq_true rfl) (Nat.le_of_ble_eq_true rfl) dX12_keeps_66
        · have c_4 : ¬ (20 ≤ ud) := fun h => c_4 ((nle 20 ud (by omega) (by omega)).mpr h)
          refine lv_aload_n hx hb dX12_keeps_56 rfl (lv_at hl 1 rfl) ?_
          refine lv_dup hx hb dX12_keeps_57 rfl ?_
          refine sk_get (v := .int (nI ud)) (C := RX12) (T := TX12) (N := 92) hx hb hts inlX12 hown hK hP 0 rfl rfl 55 (by decide) w_5_210 rfl dX12_keeps_58 ?_
          refine lv_iconst (v := 1) hx hb dX12_keeps_61 (by decide) ?_
          refine lv_iadd hx hb dX12_keeps_62 ?_
          refine sk_top (nI (ud + 1)) (nI_add ud 1) ?_
          refine sk_put (ws' := [(mm, .inr (12, mo g (nI ta) (nI pa) (nI pe) pd (nI pb) pp pf pg pn rt rn (nI cd) sn (nI il) tk am at_ aa 0 0 (-1) wt wy 0 (nI rm) (nI (ud + 1)) (nI ((nu + 1) % 20)) sd (nI qn) (nI qw) qo (nI qb) (nI qp) qa (nI qi) (nI oc))), (g 31, .inl (cI, 120, .inl nw)), (g 54, .inl (cI, 2400, .inl zk))]) (C := RX12) (T := TX12) (N := 92) (v := .int (nI (ud + 1))) hx hb hts inlX12 tyX12 tyX12_ok nmX12 hown hK hP hD hS 0 rfl rfl 55 (by decide) w_5_210 rfl rfl rfl (Nat.le_of_ble_eq_true rfl) rfl dX12_keeps_63 (fun H locs hP hD hS => ?_)
          have heu : ud + 1 = min (ud + 1) 20 := by omega
          have hkN : kpX (ud + 1) ((nu + 1) % 20) (psh ud su (wn, mN, Ba, We, U, ke)) lg zk := (by have h9 := kpX_push (n := (wn, mN, Ba, We, U, ke)) hkp hnw hnu hud (fun k hk => hcp2.1 k (by omega)) hcp2.2; rw [← heu] at h9; exact h9)
          exact sk_vret hx hb hr hlocks hK hP hD hS (⟨zk, ud + 1, by omega, hkN, rfl⟩) (Nat.le_of_ble_eq_true rfl) (Nat.le_of_ble_eq_true rfl) dX12_keeps_66
      · have c_3 : ¬ (120 ≤ i) := fun h => c_3 ((nle 120 i (by omega) (by omega)).mpr h)
        refine lv_aload_n hx hb dX12_keeps_21 rfl (lv_at hl 1 rfl) ?_
        refine sk_get (v := .ref (g 54)) (C := RX12) (T := TX12) (N := 92) hx hb hts inlX12 hown hK hP 0 rfl rfl 54 (by decide) w_5_209 rfl dX12_keeps_22 ?_
        refine lv_bipush (v := 120) hx hb dX12_keeps_25 (by decide) ?_
        refine lv_aload_n hx hb dX12_keeps_27 rfl (lv_at hl 1 rfl) ?_
        refine sk_get (v := .int (nI ((nu + 1) % 20))) (C := RX12) (T := TX12) (N := 92) hx hb hts inlX12 hown hK hP 0 rfl rfl 56 (by decide) w_5_211 rfl dX12_keeps_28 ?_
        refine lv_imul hx hb dX12_keeps_31 ?_
        refine sk_top (nI (120 * ((nu + 1) % 20))) (nmul 120 ((nu + 1) % 20)) ?_
        refine lv_iload_n hx hb dX12_keeps_32 rfl (lv_at hl 0 rfl) ?_
        refine lv_iadd hx hb dX12_keeps_33 ?_
        refine sk_top (nI (120 * ((nu + 1) % 20) + i)) (nI_add (120 * ((nu + 1) % 20)) i) ?_
        refine lv_aload_n hx hb dX12_keeps_34 rfl (lv_at hl 1 rfl) ?_
        refine sk_get (v := .ref (g 31)) (C := RX12) (T := TX12) (N := 92) hx hb hts inlX12 hown hK hP 0 rfl rfl 31 (by decide) w_5_186 rfl dX12_keeps_35 ?_
        refine lv_iload_n hx hb dX12_keeps_38 rfl (lv_at hl 0 rfl) ?_
        refine va_iald hx hb hK.1 hP 1 0 rfl rfl (vin i 120 (by omega) (by omega)) dX12_keeps_39 ?_
        refine sk_top (nw i) (by rw [nI_clamp (by omega)]) ?_
        refine sk_iastE (k := (120 * ((nu + 1) % 20) + i)) (x := (nw i)) (ws' := fun f_5 => [(mm, .inr (12, mo g (nI ta) (nI pa) (nI pe) pd (nI pb) pp pf pg pn rt rn (nI cd) sn (nI il) tk am at_ aa 0 0 (-1) wt wy 0 (nI rm) (nI ud) (nI ((nu + 1) % 20)) sd (nI qn) (nI qw) qo (nI qb) (nI qp) qa (nI qi) (nI oc))), (g 31, .inl (cI, 120, .inl nw)), (g 54, .inl (cI, 2400, .inl f_5))]) hx hb hK hP hD hS 2 0 rfl rfl (by omega) (by omega) (fun _ => rfl) dX12_keeps_40 (fun f_5 H locs ef_6 hP hD hS => ?_)
        refine lv_iinc (v := nI (i + 1)) (lv' := [(1, .int (nI (i + 1))), (0, .ref mm)]) hx hb dX12_keeps_41 hl (k := 0) rfl (ninc i 1 (by decide)) (by decide) rfl (fun ls hl => ?_)
        refine lv_goto (tgt := 15) hx hb dX12_keeps_44 (by decide) ?_
        exact ih_lp_1 (i + 1) f_5 _ _ _ (by omega) (by omega) (kcp_s hcp ef_6 rfl (by omega)) hP hD hS (lv_sub hl [0, 1] rfl)
  exact lp_1 (120 - 0 + 1) 0 kp _ _ _ (Nat.lt_succ_self _) (by omega) (kcp_0 _ _ _) hP hD hS (lv_sub hl [0, 1] rfl)
theorem dX12_undo_0 : decode cX12_undo 0 = .ok (.aload_n 0, 1) := by decide +kernel
theorem dX12_undo_1 : decode cX12_undo 1 = .ok (.getfield 309, 3) := by decide +kernel
theorem dX12_undo_4 : decode cX12_undo 4 = .ok (.ifCond .ne 15, 3) := by decide +kernel
theorem dX12_undo_19 : decode cX12_undo 19 = .ok (.iconst 0, 1) := by decide +kernel
theorem dX12_undo_20 : decode cX12_undo 20 = .ok (.istore_n 1, 1) := by decide +kernel
theorem dX12_undo_21 : decode cX12_undo 21 = .ok (.iload_n 1, 1) := by decide +kernel
theorem dX12_undo_22 : decode cX12_undo 22 = .ok (.bipush 120, 2) := by decide +kernel
theorem dX12_undo_24 : decode cX12_undo 24 = .ok (.if_icmp .ge 29, 3) := by decide +kernel
theorem dX12_undo_53 : decode cX12_undo 53 = .ok (.aload_n 0, 1) := by decide +kernel
theorem dX12_undo_54 : decode cX12_undo 54 = .ok (.aload_n 0, 1) := by decide +kernel
theorem dX12_undo_55 : decode cX12_undo 55 = .ok (.getfield 471, 3) := by decide +kernel
theorem dX12_undo_58 : decode cX12_undo 58 = .ok (.bipush 20, 2) := by decide +kernel
theorem dX12_undo_60 : decode cX12_undo 60 = .ok (.iadd, 1) := by decide +kernel
theorem dX12_undo_61 : decode cX12_undo 61 = .ok (.iconst 1, 1) := by decide +kernel
theorem dX12_undo_62 : decode cX12_undo 62 = .ok (.isub, 1) := by decide +kernel
theorem dX12_undo_63 : decode cX12_undo 63 = .ok (.bipush 20, 2) := by decide +kernel
theorem dX12_undo_65 : decode cX12_undo 65 = .ok (.irem, 1) := by decide +kernel
theorem dX12_undo_66 : decode cX12_undo 66 = .ok (.putfield 471, 3) := by decide +kernel
theorem dX12_undo_69 : decode cX12_undo 69 = .ok (.aload_n 0, 1) := by decide +kernel
theorem dX12_undo_70 : decode cX12_undo 70 = .ok (.dup, 1) := by decide +kernel
theorem dX12_undo_71 : decode cX12_undo 71 = .ok (.getfield 309, 3) := by decide +kernel
theorem dX12_undo_74 : decode cX12_undo 74 = .ok (.iconst 1, 1) := by decide +kernel
theorem dX12_undo_75 : decode cX12_undo 75 = .ok (.isub, 1) := by decide +kernel
theorem dX12_undo_76 : decode cX12_undo 76 = .ok (.putfield 309, 3) := by decide +kernel
theorem dX12_undo_79 : decode cX12_undo 79 = .ok (.iconst 1, 1) := by decide +kernel
theorem dX12_undo_80 : decode cX12_undo 80 = .ok (.ireturn, 1) := by decide +kernel
theorem dX12_undo_27 : decode cX12_undo 27 = .ok (.aload_n 0, 1) := by decide +kernel
theorem dX12_undo_28 : decode cX12_undo 28 = .ok (.getfield 63, 3) := by decide +kernel
theorem dX12_undo_31 : decode cX12_undo 31 = .ok (.iload_n 1, 1) := by decide +kernel
theorem dX12_undo_32 : decode cX12_undo 32 = .ok (.aload_n 0, 1) := by decide +kernel
theorem dX12_undo_33 : decode cX12_undo 33 = .ok (.getfield 107, 3) := by decide +kernel
theorem dX12_undo_36 : decode cX12_undo 36 = .ok (.bipush 120, 2) := by decide +kernel
theorem dX12_undo_38 : decode cX12_undo 38 = .ok (.aload_n 0, 1) := by decide +kernel
theorem dX12_undo_39 : decode cX12_undo 39 = .ok (.getfield 471, 3) := by decide +kernel
theorem dX12_undo_42 : decode cX12_undo 42 = .ok (.imul, 1) := by decide +kernel
theorem dX12_undo_43 : decode cX12_undo 43 = .ok (.iload_n 1, 1) := by decide +kernel
theorem dX12_undo_44 : decode cX12_undo 44 = .ok (.iadd, 1) := by decide +kernel
theorem dX12_undo_45 : decode cX12_undo 45 = .ok (.iaload, 1) := by decide +kernel
theorem dX12_undo_46 : decode cX12_undo 46 = .ok (.iastore, 1) := by decide +kernel
theorem dX12_undo_47 : decode cX12_undo 47 = .ok (.iinc 1 1, 3) := by decide +kernel
theorem dX12_undo_50 : decode cX12_undo 50 = .ok (.goto (-29), 3) := by decide +kernel
theorem dX12_undo_7 : decode cX12_undo 7 = .ok (.aload_n 0, 1) := by decide +kernel
theorem dX12_undo_8 : decode cX12_undo 8 = .ok (.getfield 17, 3) := by decide +kernel
theorem dX12_undo_11 : decode cX12_undo 11 = .ok (.iconst 4, 1) := by decide +kernel
theorem dX12_undo_12 : decode cX12_undo 12 = .ok (.dup2, 1) := by decide +kernel
theorem dX12_undo_13 : decode cX12_undo 13 = .ok (.iaload, 1) := by decide +kernel
theorem dX12_undo_14 : decode cX12_undo 14 = .ok (.iconst 1, 1) := by decide +kernel
theorem dX12_undo_15 : decode cX12_undo 15 = .ok (.iadd, 1) := by decide +kernel
theorem dX12_undo_16 : decode cX12_undo 16 = .ok (.iastore, 1) := by decide +kernel
theorem dX12_undo_17 : decode cX12_undo 17 = .ok (.iconst 0, 1) := by decide +kernel
theorem dX12_undo_18 : decode cX12_undo 18 = .ok (.ireturn, 1) := by decide +kernel
theorem w_8_121 : (Cond.code yX12_undo cX12_undo 2 (some .boolean)) ∈ wsL_law := sk_mem (ck_8 _ (List.mem_of_getElem? (i := 121) rfl)) rfl
set_option maxHeartbeats 4000000 in
set_option maxRecDepth 100000 in
theorem c_nm_undo (l : Launch) (D : va_G) (cI cJ cC cZ cS : ClassId) (mm : Nat) (g : Nat → Nat) (ta : Nat) (pa : Nat) (pe : Nat) (pd : Int32) (pb : Nat) (pp : Int32) (pf : Int32) (pg : Int32) (pn : Int32) (rt : Int32) (rn : Int32) (cd : Nat) (sn : Int32) (il : Nat) (tk : Int32) (am : Int32) (at_ : Int32) (aa : Int32) (wt : Int32) (wy : Int64) (rm : Nat) (ud : Nat) (nu : Nat) (sd : Int64) (qn : Nat) (qw : Nat) (qo : Int32) (qb : Nat) (qp : Nat) (qa : Int64) (qi : Nat) (oc : Nat) (nw : Nat → Int32) (kp : Nat → Int32) (rf : Nat → Int32) (wn : Nat) (mN : Nat) (Ba : Nat → Nat) (We : Nat → Nat) (U : Nat → Bool) (ke : Nat) (lg : KLg) (su : Nat → KN) (hnu : nu < 20) (hud : ud ≤ 20) (hnw : nwX wn mN Ba We U ke lg nw) (hkp : kpX ud nu su lg kp) : skM l yX12_undo cX12_undo 2 (some .boolean) 0 0 0 0 D (skT cI cJ cC cZ cS) [.ref mm] [(mm, .inr (12, mo g (nI ta) (nI pa) (nI pe) pd (nI pb) pp pf pg pn rt rn (nI cd) sn (nI il) tk am at_ aa 0 0 (-1) wt wy 0 (nI rm) (nI ud) (nI nu) sd (nI qn) (nI qw) qo (nI qb) (nI qp) qa (nI qi) (nI oc))), (g 31, .inl (cI, 120, .inl nw)), (g 54, .inl (cI, 2400, .inl kp)), (g 9, .inl (cI, 6, .inl rf))] (skI D (skT cI cJ cC cZ cS) (fun (r : Int32) (u : va_W) => ∃ (n2 : KN), ∃ (nw2 : Nat → Int32), ∃ (kp2 : Nat → Int32), ∃ (b : Nat), ∃ (nu2 : Nat), ∃ (ud2 : Nat), ∃ (rf2 : Nat → Int32), nwN n2 lg nw2 ∧ kpX ud2 nu2 su lg kp2 ∧ nu2 < 20 ∧ ud2 ≤ 20 ∧ undoR (wn, mN, Ba, We, U, ke) ud su rf (nI b) n2 ud2 rf2 ∧ r = nI b ∧ u = [(mm, .inr (12, mo g (nI ta) (nI pa) (nI pe) pd (nI pb) pp pf pg pn rt rn (nI cd) sn (nI il) tk am at_ aa 0 0 (-1) wt wy 0 (nI rm) (nI ud2) (nI nu2) sd (nI qn) (nI qw) qo (nI qb) (nI qp) qa (nI qi) (nI oc))), (g 31, .inl (cI, 120, .inl nw2)), (g 54, .inl (cI, 2400, .inl kp2)), (g 9, .inl (cI, 6, .inl rf2))])) := by
  refine skM_of (by decide +kernel) (Nat.le_of_ble_eq_true rfl) ?_
  intro p e s m below meth c A ls E hP hD hl
  obtain ⟨hx, hb, hr, hml, hlocks, hin, hown, hts, hK, hA⟩ := E
  have hown : s.vm.findClass RX12 = some m.cls := hown
  have hS : va_S A s.heap s.heap [] := va_S.rf
  have hl : lv_has ls 2 [(0, .ref mm)] := hl
  refine lv_aload_n hx hb dX12_undo_0 rfl (lv_at hl 0 rfl) ?_
  refine sk_get (v := .int (nI ud)) (C := RX12) (T := TX12) (N := 92) hx hb hts inlX12 hown hK hP 0 rfl rfl 55 (by decide) w_5_210 rfl dX12_undo_1 ?_
  refine lv_if_ne (tgt := 19) hx hb dX12_undo_4 (by decide) (fun c_1 => ?_) (fun c_1 => ?_)
  · have c_1 : ¬ (ud = 0) := fun h => c_1 ((neq ud 0 (by omega) (by omega)).mpr h)
    refine lv_iconst (v := 0) hx hb dX12_undo_19 (by decide) ?_
    refine lv_istore_n (lv' := [(1, .int 0), (0, .ref mm)]) hx hb dX12_undo_20 rfl hl (by decide) rfl (fun ls hl => ?_)
    have lp_2 : ∀ (n_3 : Nat) (i : Nat) (zn : Nat → Int32) (H : Heap) (locs : List Loc) (ls : Array Slot), 120 - i < n_3 → (i ≤ 120) → (kc0 i (fun k => kp (120 * nu + k)) zn) → va_P D vwCl [(mm, .inr (12, mo g (nI ta) (nI pa) (nI pe) pd (nI pb) pp pf pg pn rt rn (nI cd) sn (nI il) tk am at_ aa 0 0 (-1) wt wy 0 (nI rm) (nI ud) (nI nu) sd (nI qn) (nI qw) qo (nI qb) (nI qp) qa (nI qi) (nI oc))), (g 31, .inl (cI, 120, .inl zn)), (g 54, .inl (cI, 2400, .inl kp)), (g 9, .inl (cI, 6, .inl rf))] H → va_D A [(mm, .inr (12, mo g (nI ta) (nI pa) (nI pe) pd (nI pb) pp pf pg pn rt rn (nI cd) sn (nI il) tk am at_ aa 0 0 (-1) wt wy 0 (nI rm) (nI ud) (nI nu) sd (nI qn) (nI qw) qo (nI qb) (nI qp) qa (nI qi) (nI oc))), (g 31, .inl (cI, 120, .inl zn)), (g 54, .inl (cI, 2400, .inl kp)), (g 9, .inl (cI, 6, .inl rf))] → va_S A s.heap H locs → lv_has ls 2 [(1, .int (nI i)), (0, .ref mm)] → W p l e { frames := 0, cells := 0, slots := 0, locals := 0 } s m ([.ref mm] : List Value).toArray below meth c H locs 0 0 (MQ below (skI D (skT cI cJ cC cZ cS) (fun (r : Int32) (u : va_W) => ∃ (n2 : KN), ∃ (nw2 : Nat → Int32), ∃ (kp2 : Nat → Int32), ∃ (b : Nat), ∃ (nu2 : Nat), ∃ (ud2 : Nat), ∃ (rf2 : Nat → Int32), nwN n2 lg nw2 ∧ kpX ud2 nu2 su lg kp2 ∧ nu2 < 20 ∧ ud2 ≤ 20 ∧ undoR (wn, mN, Ba, We, U, ke) ud su rf (nI b) n2 ud2 rf2 ∧ r = nI b ∧ u = [(mm, .inr (12, mo g (nI ta) (nI pa) (nI pe) pd (nI pb) pp pf pg pn rt rn (nI cd) sn (nI il) tk am at_ aa 0 0 (-1) wt wy 0 (nI rm) (nI ud2) (nI nu2) sd (nI qn) (nI qw) qo (nI qb) (nI qp) qa (nI qi) (nI oc))), (g 31, .inl (cI, 120, .inl nw2)), (g 54, .inl (cI, 2400, .inl kp2)), (g 9, .inl (cI, 6, .inl rf2))]) A) ([.ref mm] : List Value).toArray s 0 0 A) (F0 m 21 ls []) := by
      intro n_3
      induction n_3 with
      | zero => intro i zn H locs ls hm; exact absurd hm (Nat.not_lt_zero _)
      | succ n_3 ih_lp_2 =>
        intro i zn H locs ls hm hi hc0 hP hD hS hl
        refine lv_iload_n hx hb dX12_undo_21 rfl (lv_at hl 0 rfl) ?_
        refine lv_bipush (v := 120) hx hb dX12_undo_22 (by decide) ?_
        refine lv_icmp_ge (tgt := 53) hx hb dX12_undo_24 (by decide) (fun c_4 => ?_) (fun c_4 => ?_)
        · have c_4 : 120 ≤ i := (nle 120 i (by omega) (by omega)).mp c_4
          have hc9 : kc0 120 (fun k => kp (120 * nu + k)) zn := (by have e9 : i = 120 := (by omega); have h9 := hc0; rw [e9] at h9; exact h9)
          have hnN : nwN (su (ud - 1)) lg zn := nwX_cg (kpX_top hkp (by omega) (by omega)) hc9
          refine lv_aload_n hx hb dX12_undo_53 rfl (lv_at hl 1 rfl) ?_
          refine lv_aload_n hx hb dX12_undo_54 rfl (lv_at hl 1 rfl) ?_
          refine sk_get (v := .int (nI nu)) (C := RX12) (T := TX12) (N := 92) hx hb hts inlX12 hown hK hP 0 rfl rfl 56 (by decide) w_5_211 rfl dX12_undo_55 ?_
          refine lv_bipush (v := 20) hx hb dX12_undo_58 (by decide) ?_
          refine lv_iadd hx hb dX12_undo_60 ?_
          refine sk_top (nI (nu + 20)) (nI_add nu 20) ?_
          refine lv_iconst (v := 1) hx hb dX12_undo_61 (by decide) ?_
          refine lv_isub hx hb dX12_undo_62 ?_
          refine sk_top (nI (nu + 20 - 1)) (nsub (nu + 20) 1 (by omega)) ?_
          refine lv_bipush (v := 20) hx hb dX12_undo_63 (by decide) ?_
          refine lv_irem hx hb dX12_undo_65 (by decide) ?_
          refine sk_top (nI ((nu + 20 - 1) % 20)) (nrem (nu + 20 - 1) 20 (by omega) (by omega) (by omega)) ?_
          refine sk_put (ws' := [(mm, .inr (12, mo g (nI ta) (nI pa) (nI pe) pd (nI pb) pp pf pg pn rt rn (nI cd) sn (nI il) tk am at_ aa 0 0 (-1) wt wy 0 (nI rm) (nI ud) (nI ((nu + 20 - 1) % 20)) sd (nI qn) (nI qw) qo (nI qb) (nI qp) qa (nI qi) (nI oc))), (g 31, .inl (cI, 120, .inl zn)), (g 54, .inl (cI, 2400, .inl kp)), (g 9, .inl (cI, 6, .inl rf))]) (C := RX12) (T := TX12) (N := 92) (v := .int (nI ((nu + 20 - 1) % 20))) hx hb hts inlX12 tyX12 tyX12_ok nmX12 hown hK hP hD hS 0 rfl rfl 56 (by decide) w_5_211 rfl rfl rfl (Nat.le_of_ble_eq_true rfl) rfl dX12_undo_66 (fun H locs hP hD hS => ?_)
          refine lv_aload_n hx hb dX12_undo_69 rfl (lv_at hl 1 rfl) ?_
          refine lv_dup hx hb dX12_undo_70 rfl ?_
          refine sk_get (v := .int (nI ud)) (C := RX12) (T := TX12) (N := 92) hx hb hts inlX12 hown hK hP 0 rfl rfl 55 (by decide) w_5_210 rfl dX12_undo_71 ?_
          refine lv_iconst (v := 1) hx hb dX12_undo_74 (by decide) ?_
          refine lv_isub hx hb dX12_undo_75 ?_
          refine sk_top (nI (ud - 1)) (nsub ud 1 (by omega)) ?_
          refine sk_put (ws' := [(mm, .inr (12, mo g (nI ta) (nI pa) (nI pe) pd (nI pb) pp pf pg pn rt rn (nI cd) sn (nI il) tk am at_ aa 0 0 (-1) wt wy 0 (nI rm) (nI (ud - 1)) (nI ((nu + 20 - 1) % 20)) sd (nI qn) (nI qw) qo (nI qb) (nI qp) qa (nI qi) (nI oc))), (g 31, .inl (cI, 120, .inl zn)), (g 54, .inl (cI, 2400, .inl kp)), (g 9, .inl (cI, 6, .inl rf))]) (C := RX12) (T := TX12) (N := 92) (v := .int (nI (ud - 1))) hx hb hts inlX12 tyX12 tyX12_ok nmX12 hown hK hP hD hS 0 rfl rfl 55 (by decide) w_5_210 rfl rfl rfl (Nat.le_of_ble_eq_true rfl) rfl dX12_undo_76 (fun H locs hP hD hS => ?_)
          have hkN := kpX_pop hkp hud
          refine lv_iconst (v := 1) hx hb dX12_undo_79 (by decide) ?_
          exact sk_iret hx hb hr rfl hlocks hK hP hD hS (⟨(su (ud - 1)), zn, kp, 1, (nu + 20 - 1) % 20, ud - 1, rf, hnN, hkN, by omega, by omega, kB_1 (by omega) ⟨rfl, rfl, rfl, rfl⟩, rfl, rfl⟩) (Nat.le_of_ble_eq_true rfl) (Nat.le_of_ble_eq_true rfl) dX12_undo_80
        · have c_4 : ¬ (120 ≤ i) := fun h => c_4 ((nle 120 i (by omega) (by omega)).mpr h)
          refine lv_aload_n hx hb dX12_undo_27 rfl (lv_at hl 1 rfl) ?_
          refine sk_get (v := .ref (g 31)) (C := RX12) (T := TX12) (N := 92) hx hb hts inlX12 hown hK hP 0 rfl rfl 31 (by decide) w_5_186 rfl dX12_undo_28 ?_
          refine lv_iload_n hx hb dX12_undo_31 rfl (lv_at hl 0 rfl) ?_
          refine lv_aload_n hx hb dX12_undo_32 rfl (lv_at hl 1 rfl) ?_
          refine sk_get (v := .ref (g 54)) (C := RX12) (T := TX12) (N := 92) hx hb hts inlX12 hown hK hP 0 rfl rfl 54 (by decide) w_5_209 rfl dX12_undo_33 ?_
          refine lv_bipush (v := 120) hx hb dX12_undo_36 (by decide) ?_
          refine lv_aload_n hx hb dX12_undo_38 rfl (lv_at hl 1 rfl) ?_
          refine sk_get (v := .int (nI nu)) (C := RX12) (T := TX12) (N := 92) hx hb hts inlX12 hown hK hP 0 rfl rfl 56 (by decide) w_5_211 rfl dX12_undo_39 ?_
          refine lv_imul hx hb dX12_undo_42 ?_
          refine sk_top (nI (120 * nu)) (nmul 120 nu) ?_
          refine lv_iload_n hx hb dX12_undo_43 rfl (lv_at hl 0 rfl) ?_
          refine lv_iadd hx hb dX12_undo_44 ?_
          refine sk_top (nI (120 * nu + i)) (nI_add (120 * nu) i) ?_
          refine va_iald hx hb hK.1 hP 2 0 rfl rfl (vin (120 * nu + i) 2400 (by omega) (by omega)) dX12_undo_45 ?_
          refine sk_top (kp (120 * nu + i)) (by rw [nI_clamp (by omega)]) ?_
          refine sk_iastE (k := i) (x := (kp (120 * nu + i))) (ws' := fun f_5 => [(mm, .inr (12, mo g (nI ta) (nI pa) (nI pe) pd (nI pb) pp pf pg pn rt rn (nI cd) sn (nI il) tk am at_ aa 0 0 (-1) wt wy 0 (nI rm) (nI ud) (nI nu) sd (nI qn) (nI qw) qo (nI qb) (nI qp) qa (nI qi) (nI oc))), (g 31, .inl (cI, 120, .inl f_5)), (g 54, .inl (cI, 2400, .inl kp)), (g 9, .inl (cI, 6, .inl rf))]) hx hb hK hP hD hS 1 0 rfl rfl (by omega) (by omega) (fun _ => rfl) dX12_undo_46 (fun f_5 H locs ef_6 hP hD hS => ?_)
          refine lv_iinc (v := nI (i + 1)) (lv' := [(1, .int (nI (i + 1))), (0, .ref mm)]) hx hb dX12_undo_47 hl (k := 0) rfl (ninc i 1 (by decide)) (by decide) rfl (fun ls hl => ?_)
          refine lv_goto (tgt := 21) hx hb dX12_undo_50 (by decide) ?_
          exact ih_lp_2 (i + 1) f_5 _ _ _ (by omega) (by omega) (kc0_s hc0 ef_6 rfl) hP hD hS (lv_sub hl [0, 1] rfl)
    exact lp_2 (120 - 0 + 1) 0 nw _ _ _ (Nat.lt_succ_self _) (by omega) (kc0_0 _ _) hP hD hS (lv_sub hl [0, 1] rfl)
  · have c_1 : ud = 0 := (neq ud 0 (by omega) (by omega)).mp c_1
    refine lv_aload_n hx hb dX12_undo_7 rfl (lv_at hl 0 rfl) ?_
    refine sk_get (v := .ref (g 9)) (C := RX12) (T := TX12) (N := 92) hx hb hts inlX12 hown hK hP 0 rfl rfl 9 (by decide) w_5_164 rfl dX12_undo_8 ?_
    refine lv_iconst (v := 4) hx hb dX12_undo_11 (by decide) ?_
    refine lv_dup2_11 hx hb dX12_undo_12 rfl rfl ?_
    refine va_iald hx hb hK.1 hP 3 0 rfl rfl (by unfold vp_in; decide) dX12_undo_13 ?_
    refine sk_top (rf 4) (rfl) ?_
    refine lv_iconst (v := 1) hx hb dX12_undo_14 (by decide) ?_
    refine lv_iadd hx hb dX12_undo_15 ?_
    refine sk_iastE (k := 4) (ws' := fun f_7 => [(mm, .inr (12, mo g (nI ta) (nI pa) (nI pe) pd (nI pb) pp pf pg pn rt rn (nI cd) sn (nI il) tk am at_ aa 0 0 (-1) wt wy 0 (nI rm) (nI ud) (nI nu) sd (nI qn) (nI qw) qo (nI qb) (nI qp) qa (nI qi) (nI oc))), (g 31, .inl (cI, 120, .inl nw)), (g 54, .inl (cI, 2400, .inl kp)), (g 9, .inl (cI, 6, .inl f_7))]) hx hb hK hP hD hS 3 0 rfl rfl (by omega) (by omega) (fun _ => rfl) dX12_undo_16 (fun f_7 H locs ef_8 hP hD hS => ?_)
    refine lv_iconst (v := 0) hx hb dX12_undo_17 (by decide) ?_
    exact sk_iret hx hb hr rfl hlocks hK hP hD hS (⟨(wn, mN, Ba, We, U, ke), nw, kp, 0, nu, ud, f_7, hnw, hkp, by omega, by omega, kB_0 (by omega) ⟨rfl, rfl, rfl, ef_8⟩, rfl, rfl⟩) (Nat.le_of_ble_eq_true rfl) (Nat.le_of_ble_eq_true rfl) dX12_undo_18
