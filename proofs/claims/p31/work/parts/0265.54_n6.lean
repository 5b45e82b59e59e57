/-! the reference's state -/
def nwX (wn mo : Nat) (Ba We : Nat → Nat) (U : Nat → Bool) (ke : Nat) (lg : KLg) (f : Nat → Int32) : Prop := mo ≤ 9 ∧ f 0 = nI wn ∧ f 1 = nI mo ∧ (∀ d, d < 9 → f (2 + 3 * d) = nI (Ba d) ∧ f (2 + 3 * d + 1) = nI (We d) ∧ f (2 + 3 * d + 2) = (if U d = true then 1 else 0)) ∧ f 29 = nI (min ke 30) ∧ ∀ i, i < min ke 30 → f (30 + 3 * i) = nI (lg (ke - min ke 30 + i)).1 ∧ f (30 + 3 * i + 1) = nI (lg (ke - min ke 30 + i)).2.1 ∧ f (30 + 3 * i + 2) = nI (lg (ke - min ke 30 + i)).2.2
section KwX
variable {wn mo ke : Nat} {Ba We : Nat → Nat} {U : Nat → Bool} {lg : KLg} {f g : Nat → Int32}
theorem nwX_ok (h : nwX wn mo Ba We U ke lg f) : nowOk f := ⟨⟨mo, h.1, h.2.2.1⟩, ⟨min ke 30, by omega, h.2.2.2.2.1⟩⟩
theorem nwX_0 (h : nwX wn mo Ba We U ke lg f) : f (0 : Int32).toNatClampNeg = nI wn := h.2.1
theorem nwX_1 (h : nwX wn mo Ba We U ke lg f) : f (1 : Int32).toNatClampNeg = nI mo := h.2.2.1
theorem nwX_29 (h : nwX wn mo Ba We U ke lg f) : f (29 : Int32).toNatClampNeg = nI (min ke 30) := h.2.2.2.2.1
theorem nwX_b (h : nwX wn mo Ba We U ke lg f) {d : Nat} (hd : d < 9) : f (2 + 3 * d) = nI (Ba d) := (h.2.2.2.1 d hd).1
theorem nwX_w (h : nwX wn mo Ba We U ke lg f) {d : Nat} (hd : d < 9) : f (2 + 3 * d + 1) = nI (We d) := (h.2.2.2.1 d hd).2.1
theorem nwX_m (h : nwX wn mo Ba We U ke lg f) {d : Nat} (hd : d < 9) : f (2 + 3 * d + 2) = (if U d = true then 1 else 0) := (h.2.2.2.1 d hd).2.2
theorem nwX_m1 (h : nwX wn mo Ba We U ke lg f) {d : Nat} (hd : d < 9) : f (nI (2 + 3 * d + 2)).toNatClampNeg = 1 ↔ U d = true := by
  rw [nI_clamp (by omega), nwX_m h hd]
  by_cases q : U d = true
  · rw [if_pos q]; exact ⟨fun _ => q, fun _ => rfl⟩
  · rw [if_neg q]; exact ⟨fun e => absurd e (by decide), fun e => absurd e q⟩
theorem nwX_md (h : nwX wn mo Ba We U ke lg f) {d : Nat} (hd : d < 9) : mdO f wn (Ba d) (We d) d := ⟨h.2.1, nwX_b h hd, nwX_w h hd⟩
theorem nwX_a0 (h : nwX wn mo Ba We U ke lg f) : a0N f = mo := by
  have h1 := (h.2.2.1)
  unfold a0N
  rw [h1]
  exact nI_clamp (by have := h.1; omega)
theorem nwX_mt (h : nwX wn mo Ba We U ke lg f) {d : Nat} (hd : d < 9) : mtN f 0 d = U d := by
  have e0 : (0 : Int32) >>> (nI d &&& 31) &&& 1 = 0 := by
    have h1 : ∀ d, d < 9 → (0 : Int32) >>> (nI d &&& 31) &&& 1 = 0 := by decide +kernel
    exact h1 d hd
  have h1 := nwX_m1 h hd
  unfold mtN
  rw [e0]
  cases hu : U d with
  | true => rw [h1.mpr hu]; rfl
  | false =>
    have h2 : ¬ f (nI (2 + 3 * d + 2)).toNatClampNeg = 1 := fun q => by rw [h1.mp q] at hu; cases hu
    rw [decide_eq_false h2]
    rfl
end KwX
/-- the ways that may be are those of the class -/
theorem cfX {L : LkS} {wn mo ke dm : Nat} {Ba We : Nat → Nat} {U : Nat → Bool} {lg : KLg} {nw ws yw yo : Nat → Int32} (h : nwX wn mo Ba We U ke lg nw) (hm : mlD L wn Ba We 0 dm ws yw yo) (hd : dm ≤ 9) : ∀ d, d < dm → ∀ a m, a < 10 → m < 10 → cfN nw yw yo 0 d a m = kcFo L wn Ba We U 0 d a m := fun d h1 a m ha hm2 => cf_Fo hm hd (fun d h2 => nwX_mt h (by omega)) h1 ha hm2
theorem wyX {C E : Nat → Nat → Nat → Bool} {nw : Nat → Int32} {dm mo : Nat} (h : ∀ d, d < dm → ∀ a m, a < 10 → m < 10 → C d a m = E d a m) (h1 : 1 ≤ dm) (ha : a0N nw = mo) (hmo : mo ≤ 9) : wys C (a0N nw) (dm - 1) = kcC E dm 0 mo := by
  rw [wys_C C _ h1, ha]
  exact kcC_cg dm 0 mo (fun e _ h2 x m hx hm => h e (by omega) x m hx hm) (by omega)
theorem mpX {C E : Nat → Nat → Nat → Bool} {nw : Nat → Int32} {dm mo x : Nat} {f : Nat → Nat} (h : ∀ d, d < dm → ∀ a m, a < 10 → m < 10 → C d a m = E d a m) (ha : a0N nw = mo) (hmo : mo ≤ 9) (hx : x < kcC E dm 0 mo) (hp : mpO C dm (a0N nw) x dm f) : ∀ d, d < dm → f d = kcM E dm mo x d := fun d hd => by
  have e1 : kcC C dm 0 mo = kcC E dm 0 mo := kcC_cg dm 0 mo (fun e _ h2 x m hx hm => h e (by omega) x m hx hm) (by omega)
  rw [hp d hd, ha]
  unfold kcM
  rw [kcA_cg h (by omega) (by rw [e1]; exact hx) (d + 1) (by omega)]
theorem nuX {C E : Nat → Nat → Nat → Bool} {nw : Nat → Int32} {dm mo x : Nat} (h : ∀ d, d < dm → ∀ a m, a < 10 → m < 10 → C d a m = E d a m) (ha : a0N nw = mo) (hmo : mo ≤ 9) (hx : x < kcC E dm 0 mo) : x < kcC C dm 0 (a0N nw) := by
  rw [ha, kcC_cg (F := E) dm 0 mo (fun e _ h2 x m hx hm => h e (by omega) x m hx hm) (by omega)]
  exact hx
/-! a number of now becomes another one -/
section KwU
variable {wn mo ke : Nat} {Ba We : Nat → Nat} {U : Nat → Bool} {lg : KLg} {f g : Nat → Int32}
theorem nwX_up0 {v : Nat} (h : nwX wn mo Ba We U ke lg f) (e : g = upd f 0 (nI v)) : nwX v mo Ba We U ke lg g := by
  obtain ⟨h1, h2, h3, h4, h5, h6⟩ := h
  exact ⟨h1, kui_s e, by rw [kui_n e (by omega), h3], fun d hd => by rw [kui_n e (by omega), kui_n e (by omega), kui_n e (by omega)]; exact h4 d hd, by rw [kui_n e (by omega), h5], fun i hi => by rw [kui_n e (by omega), kui_n e (by omega), kui_n e (by omega)]; exact h6 i hi⟩
theorem nwX_up1 {v : Nat} (h : nwX wn mo Ba We U ke lg f) (e : g = upd f 1 (nI v)) (hv : v ≤ 9) : nwX wn v Ba We U ke lg g := by
  obtain ⟨h1, h2, h3, h4, h5, h6⟩ := h
  exact ⟨hv, by rw [kui_n e (by omega), h2], kui_s e, fun d hd => by rw [kui_n e (by omega), kui_n e (by omega), kui_n e (by omega)]; exact h4 d hd, by rw [kui_n e (by omega), h5], fun i hi => by rw [kui_n e (by omega), kui_n e (by omega), kui_n e (by omega)]; exact h6 i hi⟩
theorem nwX_upb {d v : Nat} (h : nwX wn mo Ba We U ke lg f) (e : g = upd f (2 + 3 * d) (nI v)) (hd : d < 9) : nwX wn mo (updG Ba d v) We U ke lg g := by
  obtain ⟨h1, h2, h3, h4, h5, h6⟩ := h
  refine ⟨h1, by rw [kui_n e (by omega), h2], by rw [kui_n e (by omega), h3], fun j hj => ?_, by rw [kui_n e (by omega), h5], fun i hi => by rw [kui_n e (by omega), kui_n e (by omega), kui_n e (by omega)]; exact h6 i hi⟩
  rw [kui_n e (show ¬ 2 + 3 * j + 1 = 2 + 3 * d by omega), kui_n e (show ¬ 2 + 3 * j + 2 = 2 + 3 * d by omega)]
  refine ⟨?_, (h4 j hj).2⟩
  unfold updG
  by_cases q : j = d
  · subst q; rw [if_pos rfl, kui_s e]
  · rw [if_neg q, kui_n e (by omega)]; exact (h4 j hj).1
theorem nwX_upw {d v : Nat} (h : nwX wn mo Ba We U ke lg f) (e : g = upd f (2 + 3 * d + 1) (nI v)) (hd : d < 9) : nwX wn mo Ba (updG We d v) U ke lg g := by
  obtain ⟨h1, h2, h3, h4, h5, h6⟩ := h
  refine ⟨h1, by rw [kui_n e (by omega), h2], by rw [kui_n e (by omega), h3], fun j hj => ?_, by rw [kui_n e (by omega), h5], fun i hi => by rw [kui_n e (by omega), kui_n e (by omega), kui_n e (by omega)]; exact h6 i hi⟩
  rw [kui_n e (show ¬ 2 + 3 * j = 2 + 3 * d + 1 by omega), kui_n e (show ¬ 2 + 3 * j + 2 = 2 + 3 * d + 1 by omega)]
  refine ⟨(h4 j hj).1, ?_, (h4 j hj).2.2⟩
  unfold updG
  by_cases q : j = d
  · subst q; rw [if_pos rfl, kui_s e]
  · rw [if_neg q, kui_n e (by omega)]; exact (h4 j hj).2.1
theorem nwX_upm {d : Nat} {b : Bool} {x : Int32} (h : nwX wn mo Ba We U ke lg f) (e : g = upd f (2 + 3 * d + 2) x) (hx : x = if b = true then 1 else 0) (hd : d < 9) : nwX wn mo Ba We (updG U d b) ke lg g := by
  obtain ⟨h1, h2, h3, h4, h5, h6⟩ := h
  refine ⟨h1, by rw [kui_n e (by omega), h2], by rw [kui_n e (by omega), h3], fun j hj => ?_, by rw [kui_n e (by omega), h5], fun i hi => by rw [kui_n e (by omega), kui_n e (by omega), kui_n e (by omega)]; exact h6 i hi⟩
  rw [kui_n e (show ¬ 2 + 3 * j = 2 + 3 * d + 2 by omega), kui_n e (show ¬ 2 + 3 * j + 1 = 2 + 3 * d + 2 by omega)]
  refine ⟨(h4 j hj).1, (h4 j hj).2.1, ?_⟩
  unfold updG
  by_cases q : j = d
  · subst q; rw [if_pos rfl, kui_s e, hx]
  · rw [if_neg q, kui_n e (by omega)]; exact (h4 j hj).2.2
/-! the log: thirty are told -/
/-- the first thirty-one weeks but one, shifted: weeks from i on stand as they were -/
def nwS (wn mo : Nat) (Ba We : Nat → Nat) (U : Nat → Bool) (ke : Nat) (lg : KLg) (i : Nat) (f : Nat → Int32) : Prop := mo ≤ 9 ∧ f 0 = nI wn ∧ f 1 = nI mo ∧ (∀ d, d < 9 → f (2 + 3 * d) = nI (Ba d) ∧ f (2 + 3 * d + 1) = nI (We d) ∧ f (2 + 3 * d + 2) = (if U d = true then 1 else 0)) ∧ f 29 = nI 30 ∧ ∃ h : Nat → Int32, nwX wn mo Ba We U ke lg h ∧ (∀ k, 30 ≤ k → k < i → f k = h (k + 3)) ∧ ∀ k, i ≤ k → k < 120 → f k = h k
theorem nwS_0 (h : nwX wn mo Ba We U ke lg f) (hk : 30 ≤ ke) : nwS wn mo Ba We U ke lg 30 f := by
  have h0 := h
  obtain ⟨h1, h2, h3, h4, h5, h6⟩ := h
  exact ⟨h1, h2, h3, h4, by rw [h5, Nat.min_eq_right hk], f, h0, fun k h7 h8 => absurd h7 (by omega), fun k _ _ => rfl⟩
theorem nwS_s {i : Nat} {x : Int32} (h : nwS wn mo Ba We U ke lg i f) (e : g = upd f i x) (hx : x = f (i + 3)) (h30 : 30 ≤ i) (hi : i < 117) : nwS wn mo Ba We U ke lg (i + 1) g := by
  obtain ⟨h1, h2, h3, h4, h5, z, h6, h7, h8⟩ := h
  refine ⟨h1, by rw [kui_n e (by omega), h2], by rw [kui_n e (by omega), h3], fun d hd => by rw [kui_n e (by omega), kui_n e (by omega), kui_n e (by omega)]; exact h4 d hd, by rw [kui_n e (by omega), h5], z, h6, fun k a b => ?_, fun k a b => by rw [kui_n e (by omega)]; exact h8 k (by omega) b⟩
  by_cases q : k = i
  · subst q; rw [kui_s e, hx, h8 (k + 3) (by omega) (by omega)]
  · rw [kui_n e q]; exact h7 k a (by omega)
/-- now with a place for one more -/
def nwT (wn mo : Nat) (Ba We : Nat → Nat) (U : Nat → Bool) (ke : Nat) (lg : KLg) (f : Nat → Int32) : Prop := mo ≤ 9 ∧ f 0 = nI wn ∧ f 1 = nI mo ∧ (∀ d, d < 9 → f (2 + 3 * d) = nI (Ba d) ∧ f (2 + 3 * d + 1) = nI (We d) ∧ f (2 + 3 * d + 2) = (if U d = true then 1 else 0)) ∧ f 29 = nI (min (ke + 1) 30) ∧ ∀ i, i + 1 < min (ke + 1) 30 → f (30 + 3 * i) = nI (lg (ke + 1 - min (ke + 1) 30 + i)).1 ∧ f (30 + 3 * i + 1) = nI (lg (ke + 1 - min (ke + 1) 30 + i)).2.1 ∧ f (30 + 3 * i + 2) = nI (lg (ke + 1 - min (ke + 1) 30 + i)).2.2
theorem nwT_of (h : nwS wn mo Ba We U ke lg 117 f) (hk : 30 ≤ ke) : nwT wn mo Ba We U ke lg f := by
  obtain ⟨h1, h2, h3, h4, h5, z, h6, h7, h8⟩ := h
  refine ⟨h1, h2, h3, h4, by rw [h5, Nat.min_eq_right (by omega)], fun i hi => ?_⟩
  have h9 := h6.2.2.2.2.2 (i + 1) (by omega)
  rw [h7 _ (by omega) (by omega), h7 _ (by omega) (by omega), h7 _ (by omega) (by omega), show ke + 1 - min (ke + 1) 30 + i = ke - min ke 30 + (i + 1) by omega]
  rw [show 30 + 3 * i + 3 = 30 + 3 * (i + 1) by omega, show 30 + 3 * i + 1 + 3 = 30 + 3 * (i + 1) + 1 by omega, show 30 + 3 * i + 2 + 3 = 30 + 3 * (i + 1) + 2 by omega]
  exact h9
theorem nwT_up {x : Int32} (h : nwX wn mo Ba We U ke lg f) (e : g = upd f 29 x) (hx : x = nI (min ke 30 + 1)) (hk : ke < 30) : nwT wn mo Ba We U ke lg g := by
  obtain ⟨h1, h2, h3, h4, h5, h6⟩ := h
  refine ⟨h1, by rw [kui_n e (by omega), h2], by rw [kui_n e (by omega), h3], fun d hd => by rw [kui_n e (by omega), kui_n e (by omega), kui_n e (by omega)]; exact h4 d hd, by rw [kui_s e, hx, show min ke 30 + 1 = min (ke + 1) 30 by omega], fun i hi => ?_⟩
  rw [kui_n e (by omega), kui_n e (by omega), kui_n e (by omega), show ke + 1 - min (ke + 1) 30 + i = ke - min ke 30 + i by omega]
  exact h6 i (by omega)
theorem nwT_29 (h : nwT wn mo Ba We U ke lg f) : f (29 : Int32).toNatClampNeg = nI (min (ke + 1) 30) := h.2.2.2.2.1
theorem nwT_0 (h : nwT wn mo Ba We U ke lg f) : f (0 : Int32).toNatClampNeg = nI wn := h.2.1
/-- the newest week is told -/
theorem nwT_3 {g1 g2 g3 : Nat → Int32} {k a b c : Nat} (h : nwT wn mo Ba We U ke lg f) (e1 : g1 = upd f k (nI a)) (e2 : g2 = upd g1 (k + 1) (nI b)) (e3 : g3 = upd g2 (k + 2) (nI c)) (hk : k = 30 + 3 * min (ke + 1) 30 - 3) : nwX wn mo Ba We U (ke + 1) (updG lg ke (a, b, c)) g3 := by
  obtain ⟨h1, h2, h3, h4, h5, h6⟩ := h
  have hn : ∀ j, ¬ j = k → ¬ j = k + 1 → ¬ j = k + 2 → g3 j = f j := fun j q1 q2 q3 => by rw [kui_n e3 q3, kui_n e2 q2, kui_n e1 q1]
  refine ⟨h1, by rw [hn 0 (by omega) (by omega) (by omega), h2], by rw [hn 1 (by omega) (by omega) (by omega), h3], fun d hd => by rw [hn _ (by omega) (by omega) (by omega), hn _ (by omega) (by omega) (by omega), hn _ (by omega) (by omega) (by omega)]; exact h4 d hd, by rw [hn 29 (by omega) (by omega) (by omega), h5], fun i hi => ?_⟩
  unfold updG
  by_cases q : ke + 1 - min (ke + 1) 30 + i = ke
  · rw [if_pos q]
    have ei : i = min (ke + 1) 30 - 1 := by omega
    have ek : 30 + 3 * i = k := by omega
    rw [ek]
    refine ⟨?_, ?_, ?_⟩
    · rw [kui_n e3 (by omega), kui_n e2 (by omega), kui_s e1]
    · rw [kui_n e3 (by omega), kui_s e2]
    · rw [kui_s e3]
  · rw [if_neg q, hn _ (by omega) (by omega) (by omega), hn _ (by omega) (by omega) (by omega), hn _ (by omega) (by omega) (by omega)]
    exact h6 i (by omega)
end KwU
/-! saved states -/
abbrev nwN (n : KN) (lg : KLg) (f : Nat → Int32) : Prop := nwX (nWk n) (nMo n) (nBa n) (nWe n) (nMu n) (nKe n) lg f
def kpX (ac nu : Nat) (su : Nat → KN) (lg : KLg) (kp : Nat → Int32) : Prop := ∀ j, j < ac → nwN (su j) lg (fun k => kp (120 * ((nu + 21 + j - ac) % 20) + k))
theorem nwX_lg {wn mo ke k : Nat} {Ba We : Nat → Nat} {U : Nat → Bool} {lg : KLg} {f : Nat → Int32} {x : Nat × Nat × Nat} (h : nwX wn mo Ba We U ke lg f) (hk : ke ≤ k) : nwX wn mo Ba We U ke (updG lg k x) f := by
  obtain ⟨h1, h2, h3, h4, h5, h6⟩ := h
  refine ⟨h1, h2, h3, h4, h5, fun i hi => ?_⟩
  unfold updG
  rw [if_neg (by omega)]
  exact h6 i hi
theorem kpX_lg {ac nu k : Nat} {su : Nat → KN} {lg : KLg} {kp : Nat → Int32} {x : Nat × Nat × Nat} (h : kpX ac nu su lg kp) (hk : ∀ j, j < ac → nKe (su j) ≤ k) : kpX ac nu su (updG lg k x) kp := fun j hj => nwX_lg (h j hj) (hk j hj)
theorem nwX_cg {wn mo ke : Nat} {Ba We : Nat → Nat} {U : Nat → Bool} {lg : KLg} {f g : Nat → Int32} (h : nwX wn mo Ba We U ke lg f) (e : ∀ k, k < 120 → g k = f k) : nwX wn mo Ba We U ke lg g := by
  obtain ⟨h1, h2, h3, h4, h5, h6⟩ := h
  exact ⟨h1, by rw [e 0 (by omega), h2], by rw [e 1 (by omega), h3], fun d hd => by rw [e _ (by omega), e _ (by omega), e _ (by omega)]; exact h4 d hd, by rw [e 29 (by omega), h5], fun i hi => by rw [e _ (by omega), e _ (by omega), e _ (by omega)]; exact h6 i hi⟩
theorem kpX_push {ac nu : Nat} {n : KN} {su : Nat → KN} {lg : KLg} {kp kq nw : Nat → Int32} (h : kpX ac nu su lg kp) (hn : nwN n lg nw) (hnu : nu < 20) (hac : ac ≤ 20) (e1 : ∀ k, k < 120 → kq (120 * ((nu + 1) % 20) + k) = nw k) (e2 : ∀ j, j < 120 * ((nu + 1) % 20) ∨ 120 * ((nu + 1) % 20) + 120 ≤ j → kq j = kp j) : kpX (min (ac + 1) 20) ((nu + 1) % 20) (psh ac su n) lg kq := fun j hj => by
  by_cases q : ac < 20
  · unfold psh
    rw [if_pos q]
    unfold updG
    by_cases e : j = ac
    · rw [if_pos e]
      refine nwX_cg hn (fun k hk => ?_)
      show kq (120 * (((nu + 1) % 20 + 21 + j - min (ac + 1) 20) % 20) + k) = nw k
      rw [show ((nu + 1) % 20 + 21 + j - min (ac + 1) 20) % 20 = (nu + 1) % 20 by omega]
      exact e1 k hk
    · rw [if_neg e]
      refine nwX_cg (h j (by omega)) (fun k hk => ?_)
      show kq (120 * (((nu + 1) % 20 + 21 + j - min (ac + 1) 20) % 20) + k) = kp (120 * ((nu + 21 + j - ac) % 20) + k)
      rw [show ((nu + 1) % 20 + 21 + j - min (ac + 1) 20) % 20 = (nu + 21 + j - ac) % 20 by omega]
      exact e2 _ (by omega)
  · unfold psh
    rw [if_neg q]
    unfold updG
    by_cases e : j = 19
    · rw [if_pos e]
      refine nwX_cg hn (fun k hk => ?_)
      show kq (120 * (((nu + 1) % 20 + 21 + j - min (ac + 1) 20) % 20) + k) = nw k
      rw [show ((nu + 1) % 20 + 21 + j - min (ac + 1) 20) % 20 = (nu + 1) % 20 by omega]
      exact e1 k hk
    · rw [if_neg e]
      unfold rotG
      rw [if_pos (by omega)]
      refine nwX_cg (h (j + 1) (by omega)) (fun k hk => ?_)
      show kq (120 * (((nu + 1) % 20 + 21 + j - min (ac + 1) 20) % 20) + k) = kp (120 * ((nu + 21 + (j + 1) - ac) % 20) + k)
      rw [show ((nu + 1) % 20 + 21 + j - min (ac + 1) 20) % 20 = (nu + 21 + (j + 1) - ac) % 20 by omega]
      exact e2 _ (by omega)
theorem kpX_top {ac nu : Nat} {su : Nat → KN} {lg : KLg} {kp : Nat → Int32} (h : kpX ac nu su lg kp) (h1 : 1 ≤ ac) (hnu : nu < 20) : nwN (su (ac - 1)) lg (fun k => kp (120 * nu + k)) := by
  refine nwX_cg (h (ac - 1) (by omega)) (fun k hk => ?_)
  show kp (120 * nu + k) = kp (120 * ((nu + 21 + (ac - 1) - ac) % 20) + k)
  rw [show (nu + 21 + (ac - 1) - ac) % 20 = nu by omega]
theorem kpX_pop {ac nu : Nat} {su : Nat → KN} {lg : KLg} {kp : Nat → Int32} (h : kpX ac nu su lg kp) (h20 : ac ≤ 20) : kpX (ac - 1) ((nu + 20 - 1) % 20) su lg kp := fun j hj => by
  refine nwX_cg (h j (by omega)) (fun k hk => ?_)
  show kp (120 * (((nu + 20 - 1) % 20 + 21 + j - (ac - 1)) % 20) + k) = kp (120 * ((nu + 21 + j - ac) % 20) + k)
  rw [show ((nu + 20 - 1) % 20 + 21 + j - (ac - 1)) % 20 = (nu + 21 + j - ac) % 20 by omega]
theorem kpX_0 (nu : Nat) (su : Nat → KN) (lg : KLg) (kp : Nat → Int32) : kpX 0 nu su lg kp := fun j hj => absurd hj (Nat.not_lt_zero j)
