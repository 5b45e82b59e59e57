/-! the reference's state -/
def nwX (wn mo : Nat) (Ba We : Nat → Nat) (U : Nat → Bool) (ke : Nat) (lg : KLg) (f : Nat → Int32) : Prop := mo ≤ 9 ∧ f 0 = nI wn ∧ f 1 = nI mo ∧ (∀ d, d < 9 → f (2 + 3 * d) = nI (Ba d) ∧ f (2 + 3 * d + 1) = nI (We d) ∧ f (2 + 3 * d + 2) = (if U d = true then 1 else 0)) ∧ f 29 = nI (min ke 30) ∧ ∀ i, i < min ke 30 → f (30 + 3 * i) = nI (lg (ke - min ke 30 + i)).1 ∧ f (30 + 3 * i + 1) = nI (lg (ke - min ke 30 + i)).2.1 ∧ f (30 + 3 * i + 2) = nI (lg (ke - min ke 30 + i)).2.2
section KwX
variable {wn mo ke : Nat} {Ba We : Nat → Nat} {U : Nat → Bool} {lg : KLg} {f g : Nat → Int32}
theorem nwX_ok (h : nwX wn mo Ba We U ke lg f) : nowOk f := ⟨⟨mo, h.1, h.2.2.1⟩, ⟨min ke 30, by omega, h.2.2.2.2.1⟩⟩
theorem nwX_0 (h : nwX wn mo Ba We U ke lg f) : f (0 : Int32).toNatClampNeg = nI wn := h.2.1
theorem nwX_1 (h : nwX wn mo Ba We U ke lg f) : f (1 : Int32).toNatClampNeg = nI mo := h.2.2.1
theorem nwX_29 (h : nwX wn mo Ba We U ke lg f) : f (29 : Int32).toNatClampNeg = nI (min ke 30) := h.2.2.2.2.1
theorem nwX_b (h : nwX wn mo Ba We U ke lg f) {d : Nat} (hd : d < 9) : f (2 + 3 * d) = nI (Ba d) := (h.2.2.2.1 d hd).1
theorem nwX_w (h : nwX wn mo Ba We U ke lg f) {d : Nat} (hd : d < 9) : f (2 + 3 * d + 1) = nI (We d) := (h.2.2.2.1 d hd).2.1
theorem nwX_m (h : nwX wn mo Ba We U ke lg f) {d : Nat} (hd : d < 9) : f (2 + 3 * d + 2) = (if U d = true then 1 else 0) := (h.2.2.2.1 d hd).2.2
theorem nwX_m1 (h : nwX wn mo Ba We U ke lg f) {d : Nat} (hd : d < 9) : f (nI (2 + 3 * d + 2)).toNatClampNeg = 1 ↔ U d = true := by
  rw [nI_clamp (by omega), nwX_m h hd]
  by_cases q : U d = true
  · rw [if_pos q]; exact ⟨fun _ => q, fun _ => rfl⟩
  · rw [if_neg q]; exact ⟨fun e => absurd e (by decide), fun e => absurd e q⟩
theorem nwX_md (h : nwX wn mo Ba We U ke lg f) {d : Nat} (hd : d < 9) : mdO f wn (Ba d) (We d) d := ⟨h.2.1, nwX_b h hd, nwX_w h hd⟩
theorem nwX_a0 (h : nwX wn mo Ba We U ke lg f) : a0N f = mo := by
  have h1 := (h.2.2.1)
  unfold a0N
  rw [h1]
  exact nI_clamp (by have := h.1; omega)
theorem nwX_mt (h : nwX wn mo Ba We U ke lg f) {d : Nat} (hd : d < 9) : mtN f 0 d = U d := by
  have e0 : (0 : Int32) >>> (nI d &&& 31) &&& 1 = 0 := by
    have h1 : ∀ d, d < 9 → (0 : Int32) >>> (nI d &&& 31) &&& 1 = 0 := by decide +kernel
    exact h1 d hd
  have h1 := nwX_m1 h hd
  unfold mtN
  rw [e0]
  cases hu : U d with
  | true => rw [h1.mpr hu]; rfl
  | false =>
    have h2 : ¬ f (nI (2 + 3 * d + 2)).toNatClampNeg = 1 := fun q => by rw [h1.mp q] at hu; cases hu
    rw [decide_eq_false h2]
    rfl
end KwX
/-- the ways that may be are those of the class -/
theorem cfX {L : LkS} {wn mo ke dm : Nat} {Ba We : Nat → Nat} {U : Nat → Bool} {lg : KLg} {nw ws yw yo : Nat → Int32} (h : nwX wn mo Ba We U ke lg nw) (hm : mlD L wn Ba We 0 dm ws yw yo) (hd : dm ≤ 9) : ∀ d, d < dm → ∀ a m, a < 10 → m < 10 → cfN nw yw yo 0 d a m = kcFo L wn Ba We U 0 d a m := fun d h1 a m ha hm2 => cf_Fo hm hd (fun d h2 => nwX_mt h (by omega)) h1 ha hm2
theorem wyX {C E : Nat → Nat → Nat → Bool} {nw : Nat → Int32} {dm mo : Nat} (h : ∀ d, d < dm → ∀ a m, a < 10 → m < 10 → C d a m = E d a m) (h1 : 1 ≤ dm) (ha : a0N nw = mo) (hmo : mo ≤ 9) : wys C (a0N nw) (dm - 1) = kcC E dm 0 mo := by
  rw [wys_C C _ h1, ha]
  exact kcC_cg dm 0 mo (fun e _ h2 x m hx hm => h e (by omega) x m hx hm) (by omega)
theorem mpX {C E : Nat → Nat → Nat → Bool} {nw : Nat → Int32} {dm mo x : Nat} {f : Nat → Nat} (h : ∀ d, d < dm → ∀ a m, a < 10 → m < 10 → C d a m = E d a m) (ha : a0N nw = mo) (hmo : mo ≤ 9) (hx : x < kcC E dm 0 mo) (hp : mpO C dm (a0N nw) x dm f) : ∀ d, d < dm → f d = kcM E dm mo x d := fun d hd => by
  have e1 : kcC C dm 0 mo = kcC E dm 0 mo := kcC_cg dm 0 mo (fun e _ h2 x m hx hm => h e (by omega) x m hx hm) (by omega)
  rw [hp d hd, ha]
  unfold kcM
  rw [kcA_cg h (by omega) (by rw [e1]; exact hx) (d + 1) (by omega)]
theorem nuX {C E : Nat → Nat → Nat → Bool} {nw : Nat → Int32} {dm mo x : Nat} (h : ∀ d, d < dm → ∀ a m, a < 10 → m < 10 → C d a m = E d a m) (ha : a0N nw = mo) (hmo : mo ≤ 9) (hx : x < kcC E dm 0 mo) : x < kcC C dm 0 (a0N nw) := by
  rw [ha, kcC_cg (F := E) dm 0 mo (fun e _ h2 x m hx hm => h e (by omega) x m hx hm) (by omega)]
  exact hx
/-! a number of now becomes another one -/
section KwU
variable {wn mo ke : Nat} {Ba We : Nat → Nat} {U : Nat → Bool} {lg : KLg} {f g : Nat → Int32}
theorem nwX_up0 {v : Nat} (h : nwX wn mo Ba We U ke lg f) (e : g = upd f 0 (nI v)) : nwX v mo Ba We U ke lg g := by
  obtain ⟨h1, h2, h3, h4, h5, h6⟩ := h
  exact ⟨h1, kui_s e, by rw [kui_n e (by omega), h3], fun d hd => by rw [kui_n e (by omega), kui_n e (by omega), kui_n e (by omega)]; exact h4 d hd, by rw [kui_n e (by omega), h5], fun i hi => by rw [kui_n e (by omega), kui_n e (by omega), kui_n e (by omega)]; exact h6 i hi⟩
theorem nwX_up1 {v : Nat} (h : nwX wn mo Ba We U ke lg f) (e : g = upd f 1 (nI v)) (hv : v ≤ 9) : nwX wn v Ba We U ke lg g := by
  obtain ⟨h1, h2, h3, h4, h5, h6⟩ := h
  exact ⟨hv, by rw [kui_n e (by omega), h2], kui_s e, fun d hd => by rw [kui_n e (by omega), kui_n e (by omega), kui_n e (by omega)]; exact h4 d hd, by rw [kui_n e (by omega), h5], fun i hi => by rw [kui_n e (by omega), kui_n e (by omega), kui_n e (by omega)]; exact h6 i hi⟩
theorem nwX_upb {d v : Nat} (h : nwX wn mo Ba We U ke lg f) (e : g = upd f (2 + 3 * d) (nI v)) (hd : d < 9) : nwX wn mo (updG Ba d v) We U ke lg g := by
  obtain ⟨h1, h2, h3, h4, h5, h6⟩ := h
  refine ⟨h1, by rw [kui_n e (by omega), h2], by rw [kui_n e (by omega), h3], fun j hj => ?_, by rw [kui_n e (by omega), h5], fun i hi => by rw [kui_n e (by omega), kui_n e (by omega), kui_n e (by omega)]; exact h6 i hi⟩
  rw [kui_n e (show ¬ 2 + 3 * j + 1 = 2 + 3 * d by omega), kui_n e (show ¬ 2 + 3 * j + 2 = 2 + 3 * d by omega)]
  refine ⟨?_, (h4 j hj).2⟩
  unfold updG
  by_cases q : j = d
  · subst q; rw [if_pos rfl, kui_s e]
  · rw [if_neg q, kui_n e (by omega)]; exact (h4 j hj).1
theorem nwX_upw {d v : Nat} (h : nwX wn mo Ba We U ke lg f) (e : g = upd f (2 + 3 * d + 1) (nI v)) (hd : d < 9) : nwX wn mo Ba (updG We d v) U ke lg g := by
  obtain ⟨h1, h2, h3, h4, h5, h6⟩ := h
  refine ⟨h1, by rw [kui_n e (by omega), h2], by rw [kui_n e (by omega), h3], fun j hj => ?_, by rw [kui_n e (by omega), h5], fun i hi => by rw [kui_n e (by omega), kui_n e (by omega), kui_n e (by omega)]; exact h6 i hi⟩
  rw [kui_n e (show ¬ 2 + 3 * j = 2 + 3 * d + 1 by omega), kui_n e (show ¬ 2 + 3 * j + 2 = 2 + 3 * d + 1 by omega)]
  refine ⟨(h4 j hj).1, ?_, (h4 j hj).2.2⟩
  unfold updG
  by_cases q : j = d
  · subst q; rw [if_pos rfl, kui_s e]
  · rw [if_neg q, kui_n e (by omega)]; exact (h4 j hj).2.1
theorem nwX_upm {d : Nat} {b : Bool} {x : Int32} (h : nwX wn mo Ba We U ke lg f) (e : g = upd f (2 + 3 * d + 2) x) (hx : x = if b = true then 1 else 0) (hd : d < 9) : nwX wn mo Ba We (updG U d b) ke lg g := by
  obtain ⟨h1, h2, h3, h4, h5, h6⟩ := h
  refine ⟨h1, by rw [kui_n e (by omega), h2], by rw [kui_n e (by omega), h3], fun j hj => ?_, by rw [kui_n e (by omega), h5], fun i hi => by rw [kui_n e (by omega), kui_n e (by omega), kui_n e (by omega)]; exact h6 i hi⟩
  rw [kui_n e (show ¬ 2 + 3 * j = 2 + 3 * d + 2 by omega), kui_n e (show ¬ 2 + 3 * j + 1 = 2 + 3 * d + 2 by omega)]
  refine ⟨(h4 j hj).1, (h4 j hj).2.1, ?_⟩
  unfold updG
  by_cases q : j = d
  · subst q; rw [if_pos rfl, kui_s e, hx]
  · rw [if_neg q, kui_n e (by omega)]; exact (h4 j hj).2.2
/-! the log: thirty are told -/
/-- the first thirty-one weeks but one, shifted: weeks from i on stand as they were -/
def nwS (wn mo : Nat) (Ba We : Nat → Nat) (U : Nat → Bool) (ke : Nat) (lg : KLg) (i : Nat) (f : Nat → Int32) : Prop := mo ≤ 9 ∧ f 0 = nI wn ∧ f 1 = nI mo ∧ (∀ d, d < 9 → f (2 + 3 * d) = nI (Ba d) ∧ f (2 + 3 * d + 1) = nI (We d) ∧ f (2 + 3 * d + 2) = (if U d = true then 1 else 0)) ∧ f 29 = nI 30 ∧ ∃ h : Nat → Int32, nwX wn mo Ba We U ke lg h ∧ (∀ k, 30 ≤ k → k < i → f k = h (k + 3)) ∧ ∀ k, i ≤ k → k < 120 → f k = h k
theorem nwS_0 (h : nwX wn mo Ba We U ke lg f) (hk : 30 ≤ ke) : nwS wn mo Ba We U ke lg 30 f := by
  have h0 := h
  obtain ⟨h1, h2, h3, h4, h5, h6⟩ := h
  exact ⟨h1, h2, h3, h4, by rw [h5, Nat.min_eq_right hk], f, h0, fun k h7 h8 => absurd h7 (by omega), fun k _ _ => rfl⟩
theorem nwS_s {i : Nat} {x : Int32} (h : nwS wn mo Ba We U ke lg i f) (e : g = upd f i x) (hx : x = f (i + 3)) (h30 : 30 ≤ i) (hi : i < 117) : nwS wn mo Ba We U ke lg (i + 1) g := by
  obtain ⟨h1, h2, h3, h4, h5, z, h6, h7, h8⟩ := h
  refine ⟨h1, by rw [kui_n e (by omega), h2], by rw [kui_n e (by omega), h3], fun d hd => by rw [kui_n e (by omega), kui_n e (by omega), kui_n e (by omega)]; exact h4 d hd, by rw [kui_n e (by omega), h5], z, h6, fun k a b => ?_, fun k a b => by rw [kui_n e (by omega)]; exact h8 k (by omega) b⟩
  by_cases q : k = i
  · subst q; rw [kui_s e, hx, h8 (k + 3) (by omega) (by omega)]
  · rw [kui_n e q]; exact h7 k a (by omega)
/-- now with a place for one more -/
def nwT (wn mo : Nat) (Ba We : Nat → Nat) (U : Nat → Bool) (ke : Nat) (lg : KLg) (f : Nat → Int32) : Prop := mo ≤ 9 ∧ f 0 = nI wn ∧ f 1 = nI mo ∧ (∀ d, d < 9 → f (2 + 3 * d) = nI (Ba d) ∧ f (2 + 3 * d + 1) = nI (We d) ∧ f (2 + 3 * d + 2) = (if U d = true then 1 else 0)) ∧ f 29 = nI (min (ke + 1) 30) ∧ ∀ i, i + 1 < min (ke + 1) 30 → f (30 + 3 * i) = nI (lg (ke + 1 - min (ke + 1) 30 + i)).1 ∧ f (30 + 3 * i + 1) = nI (lg (ke + 1 - min (ke + 1) 30 + i)).2.1 ∧ f (30 + 3 * i + 2) = nI (lg (ke + 1 - min (ke + 1) 30 + i)).2.2
theorem nwT_of (h : nwS wn mo Ba We U ke lg 117 f) (hk : 30 ≤ ke) : nwT wn mo Ba We U ke lg f := by
  obtain ⟨h1, h2, h3, h4, h5, z, h6, h7, h8⟩ := h
  refine ⟨h1, h2, h3, h4, by rw [h5, Nat.min_eq_right (by omega)], fun i hi => ?_⟩
  have h9 := h6.2.2.2.2.2 (i + 1) (by omega)
  rw [h7 _ (by omega) (by omega), h7 _ (by omega) (by omega), h7 _ (by omega) (by omega), show ke + 1 - min (ke + 1) 30 + i = ke - min ke 30 + (i + 1) by omega]
  rw [show 30 + 3 * i + 3 = 30 + 3 * (i + 1) by omega, show 30 + 3 * i + 1 + 3 = 30 + 3 * (i + 1) + 1 by omega, show 30 + 3 * i + 2 + 3 = 30 + 3 * (i + 1) + 2 by omega]
  exact h9
theorem nwT_up {x : Int32} (h : nwX wn mo Ba We U ke lg f) (e : g = upd f 29 x) (hx : x = nI (min ke 30 + 1)) (hk : ke < 30) : nwT wn mo Ba We U ke lg g := by
  obtain ⟨h1, h2, h3, h4, h5, h6⟩ := h
  refine ⟨h1, by rw [kui_n e (by omega), h2], by rw [kui_n e (by omega), h3], fun d hd => by rw [kui_n e (by omega), kui_n e (by omega), kui_n e (by omega)]; exact h4 d hd, by rw [kui_s e, hx, show min ke 30 + 1 = min (ke + 1) 30 by omega], fun i hi => ?_⟩
  rw [kui_n e (by omega), kui_n e (by omega), kui_n e (by omega), show ke + 1 - min (ke + 1) 30 + i = ke - min ke 30 + i by omega]
  exact h6 i (by omega)
theorem nwT_ok (h : nwT wn mo Ba We U ke lg f) : nowOk f := ⟨⟨mo, h.1, h.2.2.1⟩, ⟨min (ke + 1) 30, by omega, h.2.2.2.2.1⟩⟩
theorem nwT_29 (h : nwT wn mo Ba We U ke lg f) : f (29 : Int32).toNatClampNeg = nI (min (ke + 1) 30) := h.2.2.2.2.1
theorem nwT_0 (h : nwT wn mo Ba We U ke lg f) : f (0 : Int32).toNatClampNeg = nI wn := h.2.1
/-- the newest week is told -/
theorem nwT_3 {g1 g2 g3 : Nat → Int32} {k a b c : Nat} (h : nwT wn mo Ba We U ke lg f) (e1 : g1 = upd f k (nI a)) (e2 : g2 = upd g1 (k + 1) (nI b)) (e3 : g3 = upd g2 (k + 2) (nI c)) (hk : k = 30 + 3 * min (ke + 1) 30 - 3) : nwX wn mo Ba We U (ke + 1) (updG lg ke (a, b, c)) g3 := by
  obtain ⟨h1, h2, h3, h4, h5, h6⟩ := h
  have hn : ∀ j, ¬ j = k → ¬ j = k + 1 → ¬ j = k + 2 → g3 j = f j := fun j q1 q2 q3 => by rw [kui_n e3 q3, kui_n e2 q2, kui_n e1 q1]
  refine ⟨h1, by rw [hn 0 (by omega) (by omega) (by omega), h2], by rw [hn 1 (by omega) (by omega) (by omega), h3], fun d hd => by rw [hn _ (by omega) (by omega) (by omega), hn _ (by omega) (by omega) (by omega), hn _ (by omega) (by omega) (by omega)]; exact h4 d hd, by rw [hn 29 (by omega) (by omega) (by omega), h5], fun i hi => ?_⟩
  unfold updG
  by_cases q : ke + 1 - min (ke + 1) 30 + i = ke
  · rw [if_pos q]
    have ei : i = min (ke + 1) 30 - 1 := by omega
    have ek : 30 + 3 * i = k := by omega
    rw [ek]
    refine ⟨?_, ?_, ?_⟩
    · rw [kui_n e3 (by omega), kui_n e2 (by omega), kui_s e1]
    · rw [kui_n e3 (by omega), kui_s e2]
    · rw [kui_s e3]
  · rw [if_neg q, hn _ (by omega) (by omega) (by omega), hn _ (by omega) (by omega) (by omega), hn _ (by omega) (by omega) (by omega)]
    exact h6 i (by omega)
end KwU
/-! saved states -/
abbrev nwN (n : KN) (lg : KLg) (f : Nat → Int32) : Prop := nwX (nWk n) (nMo n) (nBa n) (nWe n) (nMu n) (nKe n) lg f
def kpX (ac nu : Nat) (su : Nat → KN) (lg : KLg) (kp : Nat → Int32) : Prop := ∀ j, j < ac → nwN (su j) lg (fun k => kp (120 * ((nu + 21 + j - ac) % 20) + k))
theorem nwX_lg {wn mo ke k : Nat} {Ba We : Nat → Nat} {U : Nat → Bool} {lg : KLg} {f : Nat → Int32} {x : Nat × Nat × Nat} (h : nwX wn mo Ba We U ke lg f) (hk : ke ≤ k) : nwX wn mo Ba We U ke (updG lg k x) f := by
  obtain ⟨h1, h2, h3, h4, h5, h6⟩ := h
  refine ⟨h1, h2, h3, h4, h5, fun i hi => ?_⟩
  unfold updG
  rw [if_neg (by omega)]
  exact h6 i hi
theorem kpX_lg {ac nu k : Nat} {su : Nat → KN} {lg : KLg} {kp : Nat → Int32} {x : Nat × Nat × Nat} (h : kpX ac nu su lg kp) (hk : ∀ j, j < ac → nKe (su j) ≤ k) : kpX ac nu su (updG lg k x) kp := fun j hj => nwX_lg (h j hj) (hk j hj)
theorem nwX_cg {wn mo ke : Nat} {Ba We : Nat → Nat} {U : Nat → Bool} {lg : KLg} {f g : Nat → Int32} (h : nwX wn mo Ba We U ke lg f) (e : ∀ k, k < 120 → g k = f k) : nwX wn mo Ba We U ke lg g := by
  obtain ⟨h1, h2, h3, h4, h5, h6⟩ := h
  exact ⟨h1, by rw [e 0 (by omega), h2], by rw [e 1 (by omega), h3], fun d hd => by rw [e _ (by omega), e _ (by omega), e _ (by omega)]; exact h4 d hd, by rw [e 29 (by omega), h5], fun i hi => by rw [e _ (by omega), e _ (by omega), e _ (by omega)]; exact h6 i hi⟩
theorem kpX_push {ac nu : Nat} {n : KN} {su : Nat → KN} {lg : KLg} {kp kq nw : Nat → Int32} (h : kpX ac nu su lg kp) (hn : nwN n lg nw) (hnu : nu < 20) (hac : ac ≤ 20) (e1 : ∀ k, k < 120 → kq (120 * ((nu + 1) % 20) + k) = nw k) (e2 : ∀ j, j < 120 * ((nu + 1) % 20) ∨ 120 * ((nu + 1) % 20) + 120 ≤ j → kq j = kp j) : kpX (min (ac + 1) 20) ((nu + 1) % 20) (psh ac su n) lg kq := fun j hj => by
  by_cases q : ac < 20
  · unfold psh
    rw [if_pos q]
    unfold updG
    by_cases e : j = ac
    · rw [if_pos e]
      refine nwX_cg hn (fun k hk => ?_)
      show kq (120 * (((nu + 1) % 20 + 21 + j - min (ac + 1) 20) % 20) + k) = nw k
      rw [show ((nu + 1) % 20 + 21 + j - min (ac + 1) 20) % 20 = (nu + 1) % 20 by omega]
      exact e1 k hk
    · rw [if_neg e]
      refine nwX_cg (h j (by omega)) (fun k hk => ?_)
      show kq (120 * (((nu + 1) % 20 + 21 + j - min (ac + 1) 20) % 20) + k) = kp (120 * ((nu + 21 + j - ac) % 20) + k)
      rw [show ((nu + 1) % 20 + 21 + j - min (ac + 1) 20) % 20 = (nu + 21 + j - ac) % 20 by omega]
      exact e2 _ (by omega)
  · unfold psh
    rw [if_neg q]
    unfold updG
    by_cases e : j = 19
    · rw [if_pos e]
      refine nwX_cg hn (fun k hk => ?_)
      show kq (120 * (((nu + 1) % 20 + 21 + j - min (ac + 1) 20) % 20) + k) = nw k
      rw [show ((nu + 1) % 20 + 21 + j - min (ac + 1) 20) % 20 = (nu + 1) % 20 by omega]
      exact e1 k hk
    · rw [if_neg e]
      unfold rotG
      rw [if_pos (by omega)]
      refine nwX_cg (h (j + 1) (by omega)) (fun k hk => ?_)
      show kq (120 * (((nu + 1) % 20 + 21 + j - min (ac + 1) 20) % 20) + k) = kp (120 * ((nu + 21 + (j + 1) - ac) % 20) + k)
      rw [show ((nu + 1) % 20 + 21 + j - min (ac + 1) 20) % 20 = (nu + 21 + (j + 1) - ac) % 20 by omega]
      exact e2 _ (by omega)
theorem kpX_top {ac nu : Nat} {su : Nat → KN} {lg : KLg} {kp : Nat → Int32} (h : kpX ac nu su lg kp) (h1 : 1 ≤ ac) (hnu : nu < 20) : nwN (su (ac - 1)) lg (fun k => kp (120 * nu + k)) := by
  refine nwX_cg (h (ac - 1) (by omega)) (fun k hk => ?_)
  show kp (120 * nu + k) = kp (120 * ((nu + 21 + (ac - 1) - ac) % 20) + k)
  rw [show (nu + 21 + (ac - 1) - ac) % 20 = nu by omega]
theorem kpX_pop {ac nu : Nat} {su : Nat → KN} {lg : KLg} {kp : Nat → Int32} (h : kpX ac nu su lg kp) (h20 : ac ≤ 20) : kpX (ac - 1) ((nu + 20 - 1) % 20) su lg kp := fun j hj => by
  refine nwX_cg (h j (by omega)) (fun k hk => ?_)
  show kp (120 * (((nu + 20 - 1) % 20 + 21 + j - (ac - 1)) % 20) + k) = kp (120 * ((nu + 21 + j - ac) % 20) + k)
  rw [show ((nu + 20 - 1) % 20 + 21 + j - (ac - 1)) % 20 = (nu + 21 + j - ac) % 20 by omega]
theorem kpX_0 (nu : Nat) (su : Nat → KN) (lg : KLg) (kp : Nat → Int32) : kpX 0 nu su lg kp := fun j hj => absurd hj (Nat.not_lt_zero j)
/-- a copy, so far -/
def kcp (o i : Nat) (f g h : Nat → Int32) : Prop := (∀ k, k < i → h (o + k) = g k) ∧ ∀ j, j < o ∨ o + 120 ≤ j → h j = f j
theorem kcp_0 (o : Nat) (f g : Nat → Int32) : kcp o 0 f g f := ⟨fun k hk => absurd hk (Nat.not_lt_zero k), fun j _ => rfl⟩
theorem kcp_s {o i : Nat} {f g h h2 : Nat → Int32} {x : Int32} (a : kcp o i f g h) (e : h2 = upd h (o + i) x) (hx : x = g i) (hi : i < 120) : kcp o (i + 1) f g h2 := by
  refine ⟨fun k hk => ?_, fun j hj => by rw [kui_n e (by omega)]; exact a.2 j hj⟩
  by_cases q : k = i
  · subst q; rw [kui_s e, hx]
  · rw [kui_n e (by omega)]; exact a.1 k (by omega)
def kc0 (i : Nat) (f h : Nat → Int32) : Prop := ∀ k, k < i → h k = f k
theorem kc0_0 (f h : Nat → Int32) : kc0 0 f h := fun k hk => absurd hk (Nat.not_lt_zero k)
theorem kc0_s {i : Nat} {f h h2 : Nat → Int32} {x : Int32} (a : kc0 i f h) (e : h2 = upd h i x) (hx : x = f i) : kc0 (i + 1) f h2 := fun k hk => by
  by_cases q : k = i
  · subst q; rw [kui_s e, hx]
  · rw [kui_n e q]; exact a k (by omega)
/-! a number, by its long -/
theorem kin0 {d : Int32} {z : Int64} {n : Nat} (hz : z.toInt + 1 = (n : Int)) (hn : n ≤ 2147483648) : ((0 : Int64) ≤ d.toInt64 ∧ d.toInt64 ≤ z) ↔ kIn d n := by
  constructor
  · intro h
    obtain ⟨k, hk, e⟩ := inK n h.1 h.2 (by omega)
    exact ⟨k, hk, e⟩
  · intro ⟨k, hk, e⟩
    subst e
    rw [Int64.le_iff_toInt_le, Int64.le_iff_toInt_le, lgv k (by omega)]
    have e0 : (0 : Int64).toInt = 0 := rfl
    omega
theorem kw_l2i {n : Nat} (h : n ≤ 1000000000) : (Int64.ofNat n).toInt32 = nI n := kten_i (by rw [kofn_int (by omega)]) (by omega)
theorem mlast {E : Nat → Nat → Nat → Bool} {dm mo x : Nat} {f : Nat → Nat} (h : ∀ d, d < dm → f d = kcM E dm mo x d) (h1 : 1 ≤ dm) : f (dm - 1) = kcM E dm mo x (dm - 1) := h _ (by omega)
set_option maxHeartbeats 4000000 in
set_option maxRecDepth 100000 in
theorem c_nm_laysAll (l : Launch) (D : va_G) (cI cJ cC cZ cS : ClassId) (mm : Nat) (g : Nat → Nat) (ta : Nat) (pa : Nat) (pe : Nat) (pd : Int32) (pb : Nat) (pp : Int32) (pf : Int32) (pg : Int32) (pn : Int32) (rt : Int32) (rn : Int32) (cd : Nat) (sn : Int32) (il : Nat) (tk : Int32) (am : Int32) (at_ : Int32) (aa : Int32) (wt : Int32) (wy : Int64) (it_ : Nat) (rm : Nat) (ud : Nat) (nu : Nat) (sd : Int64) (qn : Nat) (qw : Nat) (qo : Int32) (qb : Nat) (qp : Nat) (qa : Int64) (qi : Nat) (oc : Nat) (u0 : Int32) (u1 : Int32) (u2 : Int32) (u3 : Int32) (u4 : Int32) (u5 : Int32) (v0 : Int32) (v1 : Int32) (v2 : Int32) (v3 : Int32) (v4 : Int32) (v5 : Int32) (cs : Nat → Nat) (nw : Nat → Int32) (pt : Nat → Nat) (ql : Nat → Int64) (l0 : Nat) (l1 : Nat) (dm : Nat) (l3 : Nat) (ws_ : Nat → Int32) (yw : Nat → Int32) (yo : Nat → Int32) (be : Nat → Int64) (bf : Nat → Int64) (wn : Nat) (mN : Nat) (Ba : Nat → Nat) (We : Nat → Nat) (U : Nat → Bool) (ke : Nat) (lg : KLg) (L : LkS) (hdm : dm ≤ 9) (hdm1 : 1 ≤ dm) (hLk : kcLk L) (hkl : (lK L).length ≤ 1600) (hmw0 : mwO L 0 u3 v3 cs) (hmw1 : mwO L 1 u4 v4 cs) (hB9 : ∀ j, Ba j ≤ 9) (hW9 : ∀ j, We j ≤ 9) (hwk : wn ≤ 999) (hcs : ∀ j, cs j ≤ 20000) (hnw : nwX wn mN Ba We U ke lg nw) (hpt : ∀ j, pt j ≤ 9) : skM l yX12_laysAll cX12_laysAll 1 none 5 122 0 0 D (skT cI cJ cC cZ cS) [.ref mm] [(mm, .inr (12, mo g (nI ta) (nI pa) (nI pe) pd (nI pb) pp pf pg pn rt rn (nI cd) sn (nI il) tk am at_ aa 0 0 (-1) wt wy (nI it_) (nI rm) (nI ud) (nI nu) sd (nI qn) (nI qw) qo (nI qb) (nI qp) qa (nI qi) (nI oc))), (g 24, .inl (cI, 6, .inl (l6 u0 u1 u2 u3 u4 u5))), (g 25, .inl (cI, 6, .inl (l6 v0 v1 v2 v3 v4 v5))), (g 26, .inl (cI, 3200, .inl (fun j => nI (cs j)))), (g 31, .inl (cI, 120, .inl nw)), (g 46, .inl (cI, 9, .inl (fun j => nI (pt j)))), (g 86, .inl (cJ, 1700, .inr (.inl ql))), (g 20, .inl (cI, 4, .inl (l4 (nI l0) (nI l1) (nI dm) (nI l3)))), (g 38, .inl (cI, 90, .inl ws_)), (g 36, .inl (cZ, 900, .inl yw)), (g 37, .inl (cZ, 900, .inl yo)), (g 43, .inl (cJ, 90, .inr (.inl be))), (g 44, .inl (cJ, 90, .inr (.inl bf)))] (skV D (skT cI cJ cC cZ cS) (fun (u : va_W) => ∃ (tk2 : Int32), ∃ (qp2 : Nat), ∃ (am2 : Int32), ∃ (at_2 : Int32), ∃ (aa2 : Int32), ∃ (wy2 : Int64), ∃ (ql2 : Nat → Int64), ∃ (ws_2 : Nat → Int32), ∃ (yw2 : Nat → Int32), ∃ (yo2 : Nat → Int32), ∃ (be2 : Nat → Int64), ∃ (bf2 : Nat → Int64), beOk (cfN nw yw2 yo2 0) dm 0 be2 ∧ (∀ d, d < dm → ∀ a m, a < 10 → m < 10 → (cfN nw yw2 yo2 0) d a m = (kcFo L wn Ba We U 0) d a m) ∧ wy2 = Int64.ofNat (kcC (kcFo L wn Ba We U 0) dm 0 mN) ∧ u = [(mm, .inr (12, mo g (nI ta) (nI pa) (nI pe) pd (nI pb) pp pf pg pn rt rn (nI cd) sn (nI il) tk2 am2 at_2 aa2 0 0 (-1) wt wy2 (nI it_) (nI rm) (nI ud) (nI nu) sd (nI qn) (nI qw) qo (nI qb) (nI qp2) qa (nI qi) (nI oc))), (g 24, .inl (cI, 6, .inl (l6 u0 u1 u2 u3 u4 u5))), (g 25, .inl (cI, 6, .inl (l6 v0 v1 v2 v3 v4 v5))), (g 26, .inl (cI, 3200, .inl (fun j => nI (cs j)))), (g 31, .inl (cI, 120, .inl nw)), (g 46, .inl (cI, 9, .inl (fun j => nI (pt j)))), (g 86, .inl (cJ, 1700, .inr (.inl ql2))), (g 20, .inl (cI, 4, .inl (l4 (nI l0) (nI l1) (nI dm) (nI l3)))), (g 38, .inl (cI, 90, .inl ws_2)), (g 36, .inl (cZ, 900, .inl yw2)), (g 37, .inl (cZ, 900, .inl yo2)), (g 43, .inl (cJ, 90, .inr (.inl be2))), (g 44, .inl (cJ, 90, .inr (.inl bf2)))])) := by
  refine skM_of (by decide +kernel) (Nat.le_of_ble_eq_true rfl) ?_
  intro p e s m below meth c A ls E hP hD hl
  obtain ⟨hx, hb, hr, hml, hlocks, hin, hown, hts, hK, hA⟩ := E
  have hown : s.vm.findClass RX12 = some m.cls := hown
  have hS : va_S A s.heap s.heap [] := va_S.rf
  have hl : lv_has ls 1 [(0, .ref mm)] := hl
  refine lv_aload_n hx hb dX12_laysAll_0 rfl (lv_at hl 0 rfl) ?_
  refine lv_iconst (v := 0) hx hb dX12_laysAll_1 (by decide) ?_
  refine sk_Vv (q0 := 0) (n := 1) (rest := []) (wr := [(g 43, .inl (cJ, 90, .inr (.inl be))), (g 44, .inl (cJ, 90, .inr (.inl bf)))]) ⟨hx, hb, hml, hown, hts⟩ hl.1 (c_nm_laysDays l D cI cJ cC cZ cS mm g ta pa pe pd pb pp pf pg pn rt rn cd sn il tk am at_ aa 0 wt wy it_ rm ud nu sd qn qw qo qb qp qa qi oc 0 u0 u1 u2 u3 u4 u5 v0 v1 v2 v3 v4 v5 cs nw pt ql l0 l1 dm l3 ws_ yw yo L wn Ba We (by omega) (by decide) hLk hkl hmw0 hmw1 hB9 hW9 hwk (fun d hd => nwX_md hnw (by omega)) hcs (nwX_ok hnw) hpt) w_7_193 w_7_195 w_0_83 w_1_14 w_7_196 (by decide +kernel) ⟨⟨(Nat.le_of_ble_eq_true rfl), (Nat.le_of_ble_eq_true rfl)⟩, (Nat.le_of_ble_eq_true rfl), (Nat.le_of_ble_eq_true rfl)⟩ hK hP hD hS hA [0, 1, 2, 3, 4, 5, 6, 7, 8, 9, 10] [11, 12] rfl rfl (by decide +kernel) (by decide +kernel) (by decide +kernel) rfl rfl rfl rfl (Nat.le_of_ble_eq_true rfl) dX12_laysAll_2 (fun u H locs hw hP hD hS => ?_)
  obtain ⟨tk2_1, qp2_2, am2_3, at_2_4, aa2_5, ql2_6, ws_2_7, yw2_8, yo2_9, hld_10, rfl⟩ := hw
  have hP : va_P D vwCl [(g 43, .inl (cJ, 90, .inr (.inl be))), (g 44, .inl (cJ, 90, .inr (.inl bf))), (mm, .inr (12, mo g (nI ta) (nI pa) (nI pe) pd (nI pb) pp pf pg pn rt rn (nI cd) sn (nI il) tk2_1 am2_3 at_2_4 aa2_5 0 0 (-1) wt wy (nI it_) (nI rm) (nI ud) (nI nu) sd (nI qn) (nI qw) qo (nI qb) (nI qp2_2) qa (nI qi) (nI oc))), (g 24, .inl (cI, 6, .inl (l6 u0 u1 u2 u3 u4 u5))), (g 25, .inl (cI, 6, .inl (l6 v0 v1 v2 v3 v4 v5))), (g 26, .inl (cI, 3200, .inl (fun j => nI (cs j)))), (g 31, .inl (cI, 120, .inl nw)), (g 46, .inl (cI, 9, .inl (fun j => nI (pt j)))), (g 86, .inl (cJ, 1700, .inr (.inl ql2_6))), (g 20, .inl (cI, 4, .inl (l4 (nI l0) (nI l1) (nI dm) (nI l3)))), (g 38, .inl (cI, 90, .inl ws_2_7)), (g 36, .inl (cZ, 900, .inl yw2_8)), (g 37, .inl (cZ, 900, .inl yo2_9))] H := hP
  have hD : va_D A [(g 43, .inl (cJ, 90, .inr (.inl be))), (g 44, .inl (cJ, 90, .inr (.inl bf))), (mm, .inr (12, mo g (nI ta) (nI pa) (nI pe) pd (nI pb) pp pf pg pn rt rn (nI cd) sn (nI il) tk2_1 am2_3 at_2_4 aa2_5 0 0 (-1) wt wy (nI it_) (nI rm) (nI ud) (nI nu) sd (nI qn) (nI qw) qo (nI qb) (nI qp2_2) qa (nI qi) (nI oc))), (g 24, .inl (cI, 6, .inl (l6 u0 u1 u2 u3 u4 u5))), (g 25, .inl (cI, 6, .inl (l6 v0 v1 v2 v3 v4 v5))), (g 26, .inl (cI, 3200, .inl (fun j => nI (cs j)))), (g 31, .inl (cI, 120, .inl nw)), (g 46, .inl (cI, 9, .inl (fun j => nI (pt j)))), (g 86, .inl (cJ, 1700, .inr (.inl ql2_6))), (g 20, .inl (cI, 4, .inl (l4 (nI l0) (nI l1) (nI dm) (nI l3)))), (g 38, .inl (cI, 90, .inl ws_2_7)), (g 36, .inl (cZ, 900, .inl yw2_8)), (g 37, .inl (cZ, 900, .inl yo2_9))] := hD
  refine lv_aload_n hx hb dX12_laysAll_5 rfl (lv_at hl 0 rfl) ?_
  refine sk_Vv (q0 := 0) (n := 0) (rest := []) (wr := [(g 24, .inl (cI, 6, .inl (l6 u0 u1 u2 u3 u4 u5))), (g 25, .inl (cI, 6, .inl (l6 v0 v1 v2 v3 v4 v5))), (g 26, .inl (cI, 3200, .inl (fun j => nI (cs j)))), (g 46, .inl (cI, 9, .inl (fun j => nI (pt j)))), (g 86, .inl (cJ, 1700, .inr (.inl ql2_6))), (g 38, .inl (cI, 90, .inl ws_2_7))]) ⟨hx, hb, hml, hown, hts⟩ hl.1 (c_m_laysWays0 l D cI cJ cC cZ cS mm g ta pa pe pd pb pp pf pg pn rt rn cd sn il tk2_1 am2_3 at_2_4 aa2_5 0 wt wy it_ rm ud nu sd qn qw qo qb qp2_2 qa qi oc l0 l1 dm l3 nw yo2_9 yw2_8 be bf (by omega) (by omega) (nwX_ok hnw)) w_7_197 w_7_199 w_0_84 w_1_14 w_7_200 (by decide +kernel) ⟨⟨(Nat.le_of_ble_eq_true rfl), (Nat.le_of_ble_eq_true rfl)⟩, (Nat.le_of_ble_eq_true rfl), (Nat.le_of_ble_eq_true rfl)⟩ hK hP hD hS hA [2, 9, 6, 12, 11, 0, 1] [3, 4, 5, 7, 8, 10] rfl rfl (by decide +kernel) (by decide +kernel) (by decide +kernel) rfl rfl rfl rfl (Nat.le_of_ble_eq_true rfl) dX12_laysAll_6 (fun u H locs hw hP hD hS => ?_)
  obtain ⟨wy2_11, be2_12, bf2_13, hbe_14, hwy_15, rfl⟩ := hw
  have hP : va_P D vwCl [(g 24, .inl (cI, 6, .inl (l6 u0 u1 u2 u3 u4 u5))), (g 25, .inl (cI, 6, .inl (l6 v0 v1 v2 v3 v4 v5))), (g 26, .inl (cI, 3200, .inl (fun j => nI (cs j)))), (g 46, .inl (cI, 9, .inl (fun j => nI (pt j)))), (g 86, .inl (cJ, 1700, .inr (.inl ql2_6))), (g 38, .inl (cI, 90, .inl ws_2_7)), (mm, .inr (12, mo g (nI ta) (nI pa) (nI pe) pd (nI pb) pp pf pg pn rt rn (nI cd) sn (nI il) tk2_1 am2_3 at_2_4 aa2_5 0 0 (-1) wt wy2_11 (nI it_) (nI rm) (nI ud) (nI nu) sd (nI qn) (nI qw) qo (nI qb) (nI qp2_2) qa (nI qi) (nI oc))), (g 20, .inl (cI, 4, .inl (l4 (nI l0) (nI l1) (nI dm) (nI l3)))), (g 31, .inl (cI, 120, .inl nw)), (g 37, .inl (cZ, 900, .inl yo2_9)), (g 36, .inl (cZ, 900, .inl yw2_8)), (g 43, .inl (cJ, 90, .inr (.inl be2_12))), (g 44, .inl (cJ, 90, .inr (.inl bf2_13)))] H := hP
  have hD : va_D A [(g 24, .inl (cI, 6, .inl (l6 u0 u1 u2 u3 u4 u5))), (g 25, .inl (cI, 6, .inl (l6 v0 v1 v2 v3 v4 v5))), (g 26, .inl (cI, 3200, .inl (fun j => nI (cs j)))), (g 46, .inl (cI, 9, .inl (fun j => nI (pt j)))), (g 86, .inl (cJ, 1700, .inr (.inl ql2_6))), (g 38, .inl (cI, 90, .inl ws_2_7)), (mm, .inr (12, mo g (nI ta) (nI pa) (nI pe) pd (nI pb) pp pf pg pn rt rn (nI cd) sn (nI il) tk2_1 am2_3 at_2_4 aa2_5 0 0 (-1) wt wy2_11 (nI it_) (nI rm) (nI ud) (nI nu) sd (nI qn) (nI qw) qo (nI qb) (nI qp2_2) qa (nI qi) (nI oc))), (g 20, .inl (cI, 4, .inl (l4 (nI l0) (nI l1) (nI dm) (nI l3)))), (g 31, .inl (cI, 120, .inl nw)), (g 37, .inl (cZ, 900, .inl yo2_9)), (g 36, .inl (cZ, 900, .inl yw2_8)), (g 43, .inl (cJ, 90, .inr (.inl be2_12))), (g 44, .inl (cJ, 90, .inr (.inl bf2_13)))] := hD
  have hP := hP.sub (ws' := [(mm, .inr (12, mo g (nI ta) (nI pa) (nI pe) pd (nI pb) pp pf pg pn rt rn (nI cd) sn (nI il) tk2_1 am2_3 at_2_4 aa2_5 0 0 (-1) wt wy2_11 (nI it_) (nI rm) (nI ud) (nI nu) sd (nI qn) (nI qw) qo (nI qb) (nI qp2_2) qa (nI qi) (nI oc))), (g 24, .inl (cI, 6, .inl (l6 u0 u1 u2 u3 u4 u5))), (g 25, .inl (cI, 6, .inl (l6 v0 v1 v2 v3 v4 v5))), (g 26, .inl (cI, 3200, .inl (fun j => nI (cs j)))), (g 31, .inl (cI, 120, .inl nw)), (g 46, .inl (cI, 9, .inl (fun j => nI (pt j)))), (g 86, .inl (cJ, 1700, .inr (.inl ql2_6))), (g 20, .inl (cI, 4, .inl (l4 (nI l0) (nI l1) (nI dm) (nI l3)))), (g 38, .inl (cI, 90, .inl ws_2_7)), (g 36, .inl (cZ, 900, .inl yw2_8)), (g 37, .inl (cZ, 900, .inl yo2_9)), (g 43, .inl (cJ, 90, .inr (.inl be2_12))), (g 44, .inl (cJ, 90, .inr (.inl bf2_13)))]) [6, 0, 1, 2, 8, 3, 4, 7, 5, 10, 9, 11, 12] rfl
  have hD := hD.sub (ws' := [(mm, .inr (12, mo g (nI ta) (nI pa) (nI pe) pd (nI pb) pp pf pg pn rt rn (nI cd) sn (nI il) tk2_1 am2_3 at_2_4 aa2_5 0 0 (-1) wt wy2_11 (nI it_) (nI rm) (nI ud) (nI nu) sd (nI qn) (nI qw) qo (nI qb) (nI qp2_2) qa (nI qi) (nI oc))), (g 24, .inl (cI, 6, .inl (l6 u0 u1 u2 u3 u4 u5))), (g 25, .inl (cI, 6, .inl (l6 v0 v1 v2 v3 v4 v5))), (g 26, .inl (cI, 3200, .inl (fun j => nI (cs j)))), (g 31, .inl (cI, 120, .inl nw)), (g 46, .inl (cI, 9, .inl (fun j => nI (pt j)))), (g 86, .inl (cJ, 1700, .inr (.inl ql2_6))), (g 20, .inl (cI, 4, .inl (l4 (nI l0) (nI l1) (nI dm) (nI l3)))), (g 38, .inl (cI, 90, .inl ws_2_7)), (g 36, .inl (cZ, 900, .inl yw2_8)), (g 37, .inl (cZ, 900, .inl yo2_9)), (g 43, .inl (cJ, 90, .inr (.inl be2_12))), (g 44, .inl (cJ, 90, .inr (.inl bf2_13)))]) [6, 0, 1, 2, 8, 3, 4, 7, 5, 10, 9, 11, 12] (by decide +kernel) rfl
  exact sk_vret hx hb hr hlocks hK hP hD hS (⟨tk2_1, qp2_2, am2_3, at_2_4, aa2_5, wy2_11, ql2_6, ws_2_7, yw2_8, yo2_9, be2_12, bf2_13, hbe_14, (cfX hnw hld_10 (by omega)), (hwy_15.trans (congrArg Int64.ofNat (wyX (cfX hnw hld_10 (by omega)) (by omega) (nwX_a0 hnw) hnw.1))), rfl⟩) (Nat.le_of_ble_eq_true rfl) (Nat.le_of_ble_eq_true rfl) dX12_laysAll_9
theorem dX12_isKept_0 : decode cX12_isKept 0 = .ok (.aload_n 0, 1) := by decide +kernel
theorem dX12_isKept_1 : decode cX12_isKept 1 = .ok (.getfield 391, 3) := by decide +kernel
theorem dX12_isKept_4 : decode cX12_isKept 4 = .ok (.ifCond .eq 4, 3) := by decide +kernel
theorem dX12_isKept_63 : decode cX12_isKept 63 = .ok (.bipush 30, 2) := by decide +kernel
theorem dX12_isKept_65 : decode cX12_isKept 65 = .ok (.iconst 3, 1) := by decide +kernel
theorem dX12_isKept_66 : decode cX12_isKept 66 = .ok (.aload_n 0, 1) := by decide +kernel
theorem dX12_isKept_67 : decode cX12_isKept 67 = .ok (.getfield 63, 3) := by decide +kernel
theorem dX12_isKept_70 : decode cX12_isKept 70 = .ok (.bipush 29, 2) := by decide +kernel
theorem dX12_isKept_72 : decode cX12_isKept 72 = .ok (.iaload, 1) := by decide +kernel
theorem dX12_isKept_73 : decode cX12_isKept 73 = .ok (.imul, 1) := by decide +kernel
theorem dX12_isKept_74 : decode cX12_isKept 74 = .ok (.iadd, 1) := by decide +kernel
theorem dX12_isKept_75 : decode cX12_isKept 75 = .ok (.iconst 3, 1) := by decide +kernel
theorem dX12_isKept_76 : decode cX12_isKept 76 = .ok (.isub, 1) := by decide +kernel
theorem dX12_isKept_77 : decode cX12_isKept 77 = .ok (.istore_n 1, 1) := by decide +kernel
theorem dX12_isKept_78 : decode cX12_isKept 78 = .ok (.aload_n 0, 1) := by decide +kernel
theorem dX12_isKept_79 : decode cX12_isKept 79 = .ok (.getfield 63, 3) := by decide +kernel
theorem dX12_isKept_82 : decode cX12_isKept 82 = .ok (.iload_n 1, 1) := by decide +kernel
theorem dX12_isKept_83 : decode cX12_isKept 83 = .ok (.aload_n 0, 1) := by decide +kernel
theorem dX12_isKept_84 : decode cX12_isKept 84 = .ok (.getfield 63, 3) := by decide +kernel
theorem dX12_isKept_87 : decode cX12_isKept 87 = .ok (.iconst 0, 1) := by decide +kernel
theorem dX12_isKept_88 : decode cX12_isKept 88 = .ok (.iaload, 1) := by decide +kernel
theorem dX12_isKept_89 : decode cX12_isKept 89 = .ok (.iastore, 1) := by decide +kernel
theorem dX12_isKept_90 : decode cX12_isKept 90 = .ok (.aload_n 0, 1) := by decide +kernel
theorem dX12_isKept_91 : decode cX12_isKept 91 = .ok (.getfield 63, 3) := by decide +kernel
theorem dX12_isKept_94 : decode cX12_isKept 94 = .ok (.iload_n 1, 1) := by decide +kernel
theorem dX12_isKept_95 : decode cX12_isKept 95 = .ok (.iconst 1, 1) := by decide +kernel
theorem dX12_isKept_96 : decode cX12_isKept 96 = .ok (.iadd, 1) := by decide +kernel
theorem dX12_isKept_97 : decode cX12_isKept 97 = .ok (.aload_n 0, 1) := by decide +kernel
theorem dX12_isKept_98 : decode cX12_isKept 98 = .ok (.getfield 382, 3) := by decide +kernel
theorem dX12_isKept_101 : decode cX12_isKept 101 = .ok (.l2i, 1) := by decide +kernel
theorem dX12_isKept_102 : decode cX12_isKept 102 = .ok (.iastore, 1) := by decide +kernel
theorem dX12_isKept_103 : decode cX12_isKept 103 = .ok (.aload_n 0, 1) := by decide +kernel
theorem dX12_isKept_104 : decode cX12_isKept 104 = .ok (.getfield 63, 3) := by decide +kernel
theorem dX12_isKept_107 : decode cX12_isKept 107 = .ok (.iload_n 1, 1) := by decide +kernel
theorem dX12_isKept_108 : decode cX12_isKept 108 = .ok (.iconst 2, 1) := by decide +kernel
theorem dX12_isKept_109 : decode cX12_isKept 109 = .ok (.iadd, 1) := by decide +kernel
theorem dX12_isKept_110 : decode cX12_isKept 110 = .ok (.aload_n 0, 1) := by decide +kernel
theorem dX12_isKept_111 : decode cX12_isKept 111 = .ok (.getfield 89, 3) := by decide +kernel
theorem dX12_isKept_114 : decode cX12_isKept 114 = .ok (.aload_n 0, 1) := by decide +kernel
theorem dX12_isKept_115 : decode cX12_isKept 115 = .ok (.invokevirtual 315, 3) := by decide +kernel
theorem dX12_isKept_118 : decode cX12_isKept 118 = .ok (.iconst 1, 1) := by decide +kernel
theorem dX12_isKept_119 : decode cX12_isKept 119 = .ok (.isub, 1) := by decide +kernel
theorem dX12_isKept_120 : decode cX12_isKept 120 = .ok (.iaload, 1) := by decide +kernel
theorem dX12_isKept_121 : decode cX12_isKept 121 = .ok (.iastore, 1) := by decide +kernel
theorem dX12_isKept_122 : decode cX12_isKept 122 = .ok (.return_, 1) := by decide +kernel
theorem dX12_isKept_8 : decode cX12_isKept 8 = .ok (.aload_n 0, 1) := by decide +kernel
theorem dX12_isKept_9 : decode cX12_isKept 9 = .ok (.getfield 63, 3) := by decide +kernel
theorem dX12_isKept_12 : decode cX12_isKept 12 = .ok (.bipush 29, 2) := by decide +kernel
theorem dX12_isKept_14 : decode cX12_isKept 14 = .ok (.iaload, 1) := by decide +kernel
theorem dX12_isKept_15 : decode cX12_isKept 15 = .ok (.bipush 30, 2) := by decide +kernel
theorem dX12_isKept_17 : decode cX12_isKept 17 = .ok (.if_icmp .ne 35, 3) := by decide +kernel
theorem dX12_isKept_52 : decode cX12_isKept 52 = .ok (.aload_n 0, 1) := by decide +kernel
theorem dX12_isKept_53 : decode cX12_isKept 53 = .ok (.getfield 63, 3) := by decide +kernel
theorem dX12_isKept_56 : decode cX12_isKept 56 = .ok (.bipush 29, 2) := by decide +kernel
theorem dX12_isKept_58 : decode cX12_isKept 58 = .ok (.dup2, 1) := by decide +kernel
theorem dX12_isKept_59 : decode cX12_isKept 59 = .ok (.iaload, 1) := by decide +kernel
theorem dX12_isKept_60 : decode cX12_isKept 60 = .ok (.iconst 1, 1) := by decide +kernel
theorem dX12_isKept_61 : decode cX12_isKept 61 = .ok (.iadd, 1) := by decide +kernel
theorem dX12_isKept_62 : decode cX12_isKept 62 = .ok (.iastore, 1) := by decide +kernel
theorem dX12_isKept_20 : decode cX12_isKept 20 = .ok (.bipush 30, 2) := by decide +kernel
theorem dX12_isKept_22 : decode cX12_isKept 22 = .ok (.istore_n 1, 1) := by decide +kernel
theorem dX12_isKept_23 : decode cX12_isKept 23 = .ok (.iload_n 1, 1) := by decide +kernel
theorem dX12_isKept_24 : decode cX12_isKept 24 = .ok (.bipush 117, 2) := by decide +kernel
theorem dX12_isKept_26 : decode cX12_isKept 26 = .ok (.if_icmp .ge 23, 3) := by decide +kernel
theorem dX12_isKept_49 : decode cX12_isKept 49 = .ok (.goto 14, 3) := by decide +kernel
theorem dX12_isKept_29 : decode cX12_isKept 29 = .ok (.aload_n 0, 1) := by decide +kernel
theorem dX12_isKept_30 : decode cX12_isKept 30 = .ok (.getfield 63, 3) := by decide +kernel
theorem dX12_isKept_33 : decode cX12_isKept 33 = .ok (.iload_n 1, 1) := by decide +kernel
theorem dX12_isKept_34 : decode cX12_isKept 34 = .ok (.aload_n 0, 1) := by decide +kernel
theorem dX12_isKept_35 : decode cX12_isKept 35 = .ok (.getfield 63, 3) := by decide +kernel
theorem dX12_isKept_38 : decode cX12_isKept 38 = .ok (.iload_n 1, 1) := by decide +kernel
theorem dX12_isKept_39 : decode cX12_isKept 39 = .ok (.iconst 3, 1) := by decide +kernel
theorem dX12_isKept_40 : decode cX12_isKept 40 = .ok (.iadd, 1) := by decide +kernel
theorem dX12_isKept_41 : decode cX12_isKept 41 = .ok (.iaload, 1) := by decide +kernel
theorem dX12_isKept_42 : decode cX12_isKept 42 = .ok (.iastore, 1) := by decide +kernel
theorem dX12_isKept_43 : decode cX12_isKept 43 = .ok (.iinc 1 1, 3) := by decide +kernel
theorem dX12_isKept_46 : decode cX12_isKept 46 = .ok (.goto (-23), 3) := by decide +kernel
theorem w_5_202 : (Cond.fieldLink RX12 391 "SameKeeperModel" "isThought" "Z") ∈ wsL_law := sk_mem (ck_5 _ (List.mem_of_getElem? (i := 202) rfl)) rfl
theorem w_8_24 : (Cond.code yX12_isKept cX12_isKept 2 none) ∈ wsL_law := sk_mem (ck_8 _ (List.mem_of_getElem? (i := 24) rfl)) rfl
set_option maxHeartbeats 4000000 in
set_option maxRecDepth 100000 in
theorem c_nm_isKept (l : Launch) (D : va_G) (cI cJ cC cZ cS : ClassId) (mm : Nat) (g : Nat → Nat) (ta : Nat) (pa : Nat) (pe : Nat) (pd : Int32) (pb : Nat) (pp : Int32) (pf : Int32) (pg : Int32) (pn : Int32) (rt : Int32) (rn : Int32) (cd : Nat) (sn : Int32) (il : Nat) (tk : Int32) (am : Int32) (at_ : Int32) (aa : Int32) (wt : Int32) (wy : Int64) (rm : Nat) (ud : Nat) (nu : Nat) (sd : Int64) (qn : Nat) (qw : Nat) (qo : Int32) (qb : Nat) (qp : Nat) (qa : Int64) (qi : Nat) (oc : Nat) (l0 : Nat) (l1 : Nat) (dm : Nat) (l3 : Nat) (nw : Nat → Int32) (pt : Nat → Nat) (wn : Nat) (mN : Nat) (Ba : Nat → Nat) (We : Nat → Nat) (U : Nat → Bool) (ke : Nat) (lg : KLg) (nn : Nat) (hdm : dm ≤ 9) (hdm1 : 1 ≤ dm) (hwyn : wy = Int64.ofNat nn) (hnn9 : nn ≤ 1000000000) (hnw : nwX wn mN Ba We U ke lg nw) (hpt : ∀ j, pt j ≤ 9) : skM l yX12_isKept cX12_isKept 2 none 1 20 0 0 D (skT cI cJ cC cZ cS) [.ref mm] [(mm, .inr (12, mo g (nI ta) (nI pa) (nI pe) pd (nI pb) pp pf pg pn rt rn (nI cd) sn (nI il) tk am at_ aa 0 0 (-1) wt wy 0 (nI rm) (nI ud) (nI nu) sd (nI qn) (nI qw) qo (nI qb) (nI qp) qa (nI qi) (nI oc))), (g 20, .inl (cI, 4, .inl (l4 (nI l0) (nI l1) (nI dm) (nI l3)))), (g 31, .inl (cI, 120, .inl nw)), (g 46, .inl (cI, 9, .inl (fun j => nI (pt j))))] (skV D (skT cI cJ cC cZ cS) (fun (u : va_W) => ∃ (nw2 : Nat → Int32), nwX wn mN Ba We U (ke + 1) (updG lg ke (wn, nn, pt (dm - 1))) nw2 ∧ u = [(mm, .inr (12, mo g (nI ta) (nI pa) (nI pe) pd (nI pb) pp pf pg pn rt rn (nI cd) sn (nI il) tk am at_ aa 0 0 (-1) wt wy 0 (nI rm) (nI ud) (nI nu) sd (nI qn) (nI qw) qo (nI qb) (nI qp) qa (nI qi) (nI oc))), (g 20, .inl (cI, 4, .inl (l4 (nI l0) (nI l1) (nI dm) (nI l3)))), (g 31, .inl (cI, 120, .inl nw2)), (g 46, .inl (cI, 9, .inl (fun j => nI (pt j))))])) := by
  refine skM_of (by decide +kernel) (Nat.le_of_ble_eq_true rfl) ?_
  intro p e s m below meth c A ls E hP hD hl
  obtain ⟨hx, hb, hr, hml, hlocks, hin, hown, hts, hK, hA⟩ := E
  have hown : s.vm.findClass RX12 = some m.cls := hown
  have hS : va_S A s.heap s.heap [] := va_S.rf
  have hl : lv_has ls 2 [(0, .ref mm)] := hl
  refine lv_aload_n hx hb dX12_isKept_0 rfl (lv_at hl 0 rfl) ?_
  refine sk_get (v := .int 0) (C := RX12) (T := TX12) (N := 92) hx hb hts inlX12 hown hK hP 0 rfl rfl 47 (by decide) w_5_202 rfl dX12_isKept_1 ?_
  refine lv_if_eq (tgt := 8) hx hb dX12_isKept_4 (by decide) (fun c_1 => ?_) (fun c => absurd c (by decide))
  have jn_2 : ∀ (zT : Nat → Int32) (H : Heap) (locs : List Loc) (ls : Array Slot), (nwT wn mN Ba We U ke lg zT) → va_P D vwCl [(mm, .inr (12, mo g (nI ta) (nI pa) (nI pe) pd (nI pb) pp pf pg pn rt rn (nI cd) sn (nI il) tk am at_ aa 0 0 (-1) wt wy 0 (nI rm) (nI ud) (nI nu) sd (nI qn) (nI qw) qo (nI qb) (nI qp) qa (nI qi) (nI oc))), (g 20, .inl (cI, 4, .inl (l4 (nI l0) (nI l1) (nI dm) (nI l3)))), (g 31, .inl (cI, 120, .inl zT)), (g 46, .inl (cI, 9, .inl (fun j => nI (pt j))))] H → va_D A [(mm, .inr (12, mo g (nI ta) (nI pa) (nI pe) pd (nI pb) pp pf pg pn rt rn (nI cd) sn (nI il) tk am at_ aa 0 0 (-1) wt wy 0 (nI rm) (nI ud) (nI nu) sd (nI qn) (nI qw) qo (nI qb) (nI qp) qa (nI qi) (nI oc))), (g 20, .inl (cI, 4, .inl (l4 (nI l0) (nI l1) (nI dm) (nI l3)))), (g 31, .inl (cI, 120, .inl zT)), (g 46, .inl (cI, 9, .inl (fun j => nI (pt j))))] → va_S A s.heap H locs → lv_has ls 2 [(0, .ref mm)] → W p l e { frames := 1, cells := 0, slots := 0, locals := 20 } s m ([.ref mm] : List Value).toArray below meth c H locs 0 0 (MQ below (skV D (skT cI cJ cC cZ cS) (fun (u : va_W) => ∃ (nw2 : Nat → Int32), nwX wn mN Ba We U (ke + 1) (updG lg ke (wn, nn, pt (dm - 1))) nw2 ∧ u = [(mm, .inr (12, mo g (nI ta) (nI pa) (nI pe) pd (nI pb) pp pf pg pn rt rn (nI cd) sn (nI il) tk am at_ aa 0 0 (-1) wt wy 0 (nI rm) (nI ud) (nI nu) sd (nI qn) (nI qw) qo (nI qb) (nI qp) qa (nI qi) (nI oc))), (g 20, .inl (cI, 4, .inl (l4 (nI l0) (nI l1) (nI dm) (nI l3)))), (g 31, .inl (cI, 120, .inl nw2)), (g 46, .inl (cI, 9, .inl (fun j => nI (pt j))))]) A) ([.ref mm] : List Value).toArray s 0 0 A) (F0 m 63 ls []) := by
    intro zT H locs ls hT hP hD hS hl
    refine lv_bipush (v := 30) hx hb dX12_isKept_63 (by decide) ?_
    refine lv_iconst (v := 3) hx hb dX12_isKept_65 (by decide) ?_
    refine lv_aload_n hx hb dX12_isKept_66 rfl (lv_at hl 0 rfl) ?_
    refine sk_get (v := .ref (g 31)) (C := RX12) (T := TX12) (N := 92) hx hb hts inlX12 hown hK hP 0 rfl rfl 31 (by decide) w_5_186 rfl dX12_isKept_67 ?_
    refine lv_bipush (v := 29) hx hb dX12_isKept_70 (by decide) ?_
    refine va_iald hx hb hK.1 hP 2 0 rfl rfl (by unfold vp_in; decide) dX12_isKept_72 ?_
    refine sk_top (nI (min (ke + 1) 30)) (nwT_29 hT) ?_
    refine lv_imul hx hb dX12_isKept_73 ?_
    refine sk_top (nI (3 * (min (ke + 1) 30))) (nmul 3 (min (ke + 1) 30)) ?_
    refine lv_iadd hx hb dX12_isKept_74 ?_
    refine sk_top (nI (30 + (3 * (min (ke + 1) 30)))) (nI_add 30 (3 * (min (ke + 1) 30))) ?_
    refine lv_iconst (v := 3) hx hb dX12_isKept_75 (by decide) ?_
    refine lv_isub hx hb dX12_isKept_76 ?_
    refine sk_top (nI (30 + (3 * (min (ke + 1) 30)) - 3)) (nsub (30 + (3 * (min (ke + 1) 30))) 3 (by omega)) ?_
    refine lv_istore_n (lv' := [(1, .int (nI (30 + (3 * (min (ke + 1) 30)) - 3))), (0, .ref mm)]) hx hb dX12_isKept_77 rfl hl (by decide) rfl (fun ls hl => ?_)
    refine lv_aload_n hx hb dX12_isKept_78 rfl (lv_at hl 1 rfl) ?_
    refine sk_get (v := .ref (g 31)) (C := RX12) (T := TX12) (N := 92) hx hb hts inlX12 hown hK hP 0 rfl rfl 31 (by decide) w_5_186 rfl dX12_isKept_79 ?_
    refine lv_iload_n hx hb dX12_isKept_82 rfl (lv_at hl 0 rfl) ?_
    refine lv_aload_n hx hb dX12_isKept_83 rfl (lv_at hl 1 rfl) ?_
    refine sk_get (v := .ref (g 31)) (C := RX12) (T := TX12) (N := 92) hx hb hts inlX12 hown hK hP 0 rfl rfl 31 (by decide) w_5_186 rfl dX12_isKept_84 ?_
    refine lv_iconst (v := 0) hx hb dX12_isKept_87 (by decide) ?_
    refine va_iald hx hb hK.1 hP 2 0 rfl rfl (by unfold vp_in; decide) dX12_isKept_88 ?_
    refine sk_top (nI wn) (nwT_0 hT) ?_
    refine sk_iastE (k := (30 + (3 * (min (ke + 1) 30)) - 3)) (x := (nI wn)) (ws' := fun f_3 => [(mm, .inr (12, mo g (nI ta) (nI pa) (nI pe) pd (nI pb) pp pf pg pn rt rn (nI cd) sn (nI il) tk am at_ aa 0 0 (-1) wt wy 0 (nI rm) (nI ud) (nI nu) sd (nI qn) (nI qw) qo (nI qb) (nI qp) qa (nI qi) (nI oc))), (g 20, .inl (cI, 4, .inl (l4 (nI l0) (nI l1) (nI dm) (nI l3)))), (g 31, .inl (cI, 120, .inl f_3)), (g 46, .inl (cI, 9, .inl (fun j => nI (pt j))))]) hx hb hK hP hD hS 2 0 rfl rfl (by omega) (by omega) (fun _ => rfl) dX12_isKept_89 (fun f_3 H locs ef_4 hP hD hS => ?_)
    refine lv_aload_n hx hb dX12_isKept_90 rfl (lv_at hl 1 rfl) ?_
    refine sk_get (v := .ref (g 31)) (C := RX12) (T := TX12) (N := 92) hx hb hts inlX12 hown hK hP 0 rfl rfl 31 (by decide) w_5_186 rfl dX12_isKept_91 ?_
    refine lv_iload_n hx hb dX12_isKept_94 rfl (lv_at hl 0 rfl) ?_
    refine lv_iconst (v := 1) hx hb dX12_isKept_95 (by decide) ?_
    refine lv_iadd hx hb dX12_isKept_96 ?_
    refine sk_top (nI (30 + (3 * (min (ke + 1) 30)) - 3 + 1)) (nI_add (30 + (3 * (min (ke + 1) 30)) - 3) 1) ?_
    refine lv_aload_n hx hb dX12_isKept_97 rfl (lv_at hl 1 rfl) ?_
    refine sk_get (v := .long wy) (C := RX12) (T := TX12) (N := 92) hx hb hts inlX12 hown hK hP 0 rfl rfl 45 (by decide) w_5_200 rfl dX12_isKept_98 ?_
    refine lv_l2i hx hb dX12_isKept_101 rfl ?_
    refine sk_top (nI nn) (by rw [hwyn]; exact kw_l2i hnn9) ?_
    refine sk_iastE (k := (30 + (3 * (min (ke + 1) 30)) - 3 + 1)) (x := (nI nn)) (ws' := fun f_5 => [(mm, .inr (12, mo g (nI ta) (nI pa) (nI pe) pd (nI pb) pp pf pg pn rt rn (nI cd) sn (nI il) tk am at_ aa 0 0 (-1) wt wy 0 (nI rm) (nI ud) (nI nu) sd (nI qn) (nI qw) qo (nI qb) (nI qp) qa (nI qi) (nI oc))), (g 20, .inl (cI, 4, .inl (l4 (nI l0) (nI l1) (nI dm) (nI l3)))), (g 31, .inl (cI, 120, .inl f_5)), (g 46, .inl (cI, 9, .inl (fun j => nI (pt j))))]) hx hb hK hP hD hS 2 0 rfl rfl (by omega) (by omega) (fun _ => rfl) dX12_isKept_102 (fun f_5 H locs ef_6 hP hD hS => ?_)
    refine lv_aload_n hx hb dX12_isKept_103 rfl (lv_at hl 1 rfl) ?_
    refine sk_get (v := .ref (g 31)) (C := RX12) (T := TX12) (N := 92) hx hb hts inlX12 hown hK hP 0 rfl rfl 31 (by decide) w_5_186 rfl dX12_isKept_104 ?_
    refine lv_iload_n hx hb dX12_isKept_107 rfl (lv_at hl 0 rfl) ?_
    refine lv_iconst (v := 2) hx hb dX12_isKept_108 (by decide) ?_
    refine lv_iadd hx hb dX12_isKept_109 ?_
    refine sk_top (nI (30 + (3 * (min (ke + 1) 30)) - 3 + 2)) (nI_add (30 + (3 * (min (ke + 1) 30)) - 3) 2) ?_
    refine lv_aload_n hx hb dX12_isKept_110 rfl (lv_at hl 1 rfl) ?_
    refine sk_get (v := .ref (g 46)) (C := RX12) (T := TX12) (N := 92) hx hb hts inlX12 hown hK hP 0 rfl rfl 46 (by decide) w_5_201 rfl dX12_isKept_111 ?_
    refine lv_aload_n hx hb dX12_isKept_114 rfl (lv_at hl 1 rfl) ?_
    refine sk_Vi (q0 := 0) (n := 0) (rest := [.ref (g 46), .int (nI (30 + (3 * (min (ke + 1) 30)) - 3 + 2)), .ref (g 31)]) (wr := [(g 31, .inl (cI, 120, .inl f_5)), (g 46, .inl (cI, 9, .inl (fun j => nI (pt j))))]) ⟨hx, hb, hml, hown, hts⟩ hl.1 (c_m_dayMany l D cI cJ cC cZ cS mm g ta pa pe pd pb pp pf pg pn rt rn cd sn il tk am at_ aa 0 0 (-1) wt wy 0 rm ud nu sd qn qw qo qb qp qa qi oc l0 l1 dm l3) w_7_98 w_7_100 w_0_69 w_1_14 w_7_101 (by decide +kernel) ⟨⟨(Nat.le_of_ble_eq_true rfl), (Nat.le_of_ble_eq_true rfl)⟩, (Nat.le_of_ble_eq_true rfl), (Nat.le_of_ble_eq_true rfl)⟩ hK hP hD hS hA [0, 1] [2, 3] rfl rfl (by decide +kernel) (by decide +kernel) (by decide +kernel) rfl rfl rfl rfl (Nat.le_of_ble_eq_true rfl) dX12_isKept_115 (fun r_7 u H locs hw hP hD hS => ?_)
    obtain ⟨rfl, rfl⟩ := hw
    have hP : va_P D vwCl [(g 31, .inl (cI, 120, .inl f_5)), (g 46, .inl (cI, 9, .inl (fun j => nI (pt j)))), (mm, .inr (12, mo g (nI ta) (nI pa) (nI pe) pd (nI pb) pp pf pg pn rt rn (nI cd) sn (nI il) tk am at_ aa 0 0 (-1) wt wy 0 (nI rm) (nI ud) (nI nu) sd (nI qn) (nI qw) qo (nI qb) (nI qp) qa (nI qi) (nI oc))), (g 20, .inl (cI, 4, .inl (l4 (nI l0) (nI l1) (nI dm) (nI l3))))] H := hP
    have hD : va_D A [(g 31, .inl (cI, 120, .inl f_5)), (g 46, .inl (cI, 9, .inl (fun j => nI (pt j)))), (mm, .inr (12, mo g (nI ta) (nI pa) (nI pe) pd (nI pb) pp pf pg pn rt rn (nI cd) sn (nI il) tk am at_ aa 0 0 (-1) wt wy 0 (nI rm) (nI ud) (nI nu) sd (nI qn) (nI qw) qo (nI qb) (nI qp) qa (nI qi) (nI oc))), (g 20, .inl (cI, 4, .inl (l4 (nI l0) (nI l1) (nI dm) (nI l3))))] := hD
    refine lv_iconst (v := 1) hx hb dX12_isKept_118 (by decide) ?_
    refine lv_isub hx hb dX12_isKept_119 ?_
    refine sk_top (nI (dm - 1)) (nsub dm 1 (by omega)) ?_
    refine va_iald hx hb hK.1 hP 1 0 rfl rfl (vin (dm - 1) 9 (by omega) (by omega)) dX12_isKept_120 ?_
    refine sk_top (nI (pt (dm - 1))) (nrd pt (dm - 1) (by omega)) ?_
    have hb_8 := hpt (dm - 1)
    refine sk_iastE (k := (30 + (3 * (min (ke + 1) 30)) - 3 + 2)) (x := (nI (pt (dm - 1)))) (ws' := fun f_9 => [(g 31, .inl (cI, 120, .inl f_9)), (g 46, .inl (cI, 9, .inl (fun j => nI (pt j)))), (mm, .inr (12, mo g (nI ta) (nI pa) (nI pe) pd (nI pb) pp pf pg pn rt rn (nI cd) sn (nI il) tk am at_ aa 0 0 (-1) wt wy 0 (nI rm) (nI ud) (nI nu) sd (nI qn) (nI qw) qo (nI qb) (nI qp) qa (nI qi) (nI oc))), (g 20, .inl (cI, 4, .inl (l4 (nI l0) (nI l1) (nI dm) (nI l3))))]) hx hb hK hP hD hS 0 0 rfl rfl (by omega) (by omega) (fun _ => rfl) dX12_isKept_121 (fun f_9 H locs ef_10 hP hD hS => ?_)
    have hfin := nwT_3 hT ef_4 ef_6 ef_10 (by omega)
    have hP := hP.sub (ws' := [(mm, .inr (12, mo g (nI ta) (nI pa) (nI pe) pd (nI pb) pp pf pg pn rt rn (nI cd) sn (nI il) tk am at_ aa 0 0 (-1) wt wy 0 (nI rm) (nI ud) (nI nu) sd (nI qn) (nI qw) qo (nI qb) (nI qp) qa (nI qi) (nI oc))), (g 20, .inl (cI, 4, .inl (l4 (nI l0) (nI l1) (nI dm) (nI l3)))), (g 31, .inl (cI, 120, .inl f_9)), (g 46, .inl (cI, 9, .inl (fun j => nI (pt j))))]) [2, 3, 0, 1] rfl
    have hD := hD.sub (ws' := [(mm, .inr (12, mo g (nI ta) (nI pa) (nI pe) pd (nI pb) pp pf pg pn rt rn (nI cd) sn (nI il) tk am at_ aa 0 0 (-1) wt wy 0 (nI rm) (nI ud) (nI nu) sd (nI qn) (nI qw) qo (nI qb) (nI qp) qa (nI qi) (nI oc))), (g 20, .inl (cI, 4, .inl (l4 (nI l0) (nI l1) (nI dm) (nI l3)))), (g 31, .inl (cI, 120, .inl f_9)), (g 46, .inl (cI, 9, .inl (fun j => nI (pt j))))]) [2, 3, 0, 1] (by decide +kernel) rfl
    exact sk_vret hx hb hr hlocks hK hP hD hS (⟨f_9, hfin, rfl⟩) (Nat.le_of_ble_eq_true rfl) (Nat.le_of_ble_eq_true rfl) dX12_isKept_122
  refine lv_aload_n hx hb dX12_isKept_8 rfl (lv_at hl 0 rfl) ?_
  refine sk_get (v := .ref (g 31)) (C := RX12) (T := TX12) (N := 92) hx hb hts inlX12 hown hK hP 0 rfl rfl 31 (by decide) w_5_186 rfl dX12_isKept_9 ?_
  refine lv_bipush (v := 29) hx hb dX12_isKept_12 (by decide) ?_
  refine va_iald hx hb hK.1 hP 2 0 rfl rfl (by unfold vp_in; decide) dX12_isKept_14 ?_
  refine sk_top (nI (min ke 30)) (nwX_29 hnw) ?_
  refine lv_bipush (v := 30) hx hb dX12_isKept_15 (by decide) ?_
  refine lv_icmp_ne (tgt := 52) hx hb dX12_isKept_17 (by decide) (fun c_11 => ?_) (fun c_11 => ?_)
  · have c_11 : ¬ (min ke 30 = 30) := fun h => c_11 ((neq (min ke 30) 30 (by omega) (by omega)).mpr h)
    refine lv_aload_n hx hb dX12_isKept_52 rfl (lv_at hl 0 rfl) ?_
    refine sk_get (v := .ref (g 31)) (C := RX12) (T := TX12) (N := 92) hx hb hts inlX12 hown hK hP 0 rfl rfl 31 (by decide) w_5_186 rfl dX12_isKept_53 ?_
    refine lv_bipush (v := 29) hx hb dX12_isKept_56 (by decide) ?_
    refine lv_dup2_11 hx hb dX12_isKept_58 rfl rfl ?_
    refine va_iald hx hb hK.1 hP 2 0 rfl rfl (by unfold vp_in; decide) dX12_isKept_59 ?_
    refine sk_top (nI (min ke 30)) (nwX_29 hnw) ?_
    refine lv_iconst (v := 1) hx hb dX12_isKept_60 (by decide) ?_
    refine lv_iadd hx hb dX12_isKept_61 ?_
    refine sk_top (nI (min ke 30 + 1)) (nI_add (min ke 30) 1) ?_
    refine sk_iastE (k := 29) (x := (nI (min ke 30 + 1))) (ws' := fun f_12 => [(mm, .inr (12, mo g (nI ta) (nI pa) (nI pe) pd (nI pb) pp pf pg pn rt rn (nI cd) sn (nI il) tk am at_ aa 0 0 (-1) wt wy 0 (nI rm) (nI ud) (nI nu) sd (nI qn) (nI qw) qo (nI qb) (nI qp) qa (nI qi) (nI oc))), (g 20, .inl (cI, 4, .inl (l4 (nI l0) (nI l1) (nI dm) (nI l3)))), (g 31, .inl (cI, 120, .inl f_12)), (g 46, .inl (cI, 9, .inl (fun j => nI (pt j))))]) hx hb hK hP hD hS 2 0 rfl rfl (by omega) (by omega) (fun _ => rfl) dX12_isKept_62 (fun f_12 H locs ef_13 hP hD hS => ?_)
    have hT_14 := nwT_up hnw ef_13 rfl (by omega)
    exact jn_2 f_12 _ _ _ hT_14 hP hD hS (lv_sub hl [0] rfl)
  · have c_11 : min ke 30 = 30 := (neq (min ke 30) 30 (by omega) (by omega)).mp c_11
    refine lv_bipush (v := 30) hx hb dX12_isKept_20 (by decide) ?_
    refine lv_istore_n (lv' := [(1, .int 30), (0, .ref mm)]) hx hb dX12_isKept_22 rfl hl (by decide) rfl (fun ls hl => ?_)
    have lp_15 : ∀ (n_16 : Nat) (i : Nat) (zn : Nat → Int32) (H : Heap) (locs : List Loc) (ls : Array Slot), 117 - i < n_16 → (i ≤ 117) → (30 ≤ i) → (nwS wn mN Ba We U ke lg i zn) → va_P D vwCl [(mm, .inr (12, mo g (nI ta) (nI pa) (nI pe) pd (nI pb) pp pf pg pn rt rn (nI cd) sn (nI il) tk am at_ aa 0 0 (-1) wt wy 0 (nI rm) (nI ud) (nI nu) sd (nI qn) (nI qw) qo (nI qb) (nI qp) qa (nI qi) (nI oc))), (g 20, .inl (cI, 4, .inl (l4 (nI l0) (nI l1) (nI dm) (nI l3)))), (g 31, .inl (cI, 120, .inl zn)), (g 46, .inl (cI, 9, .inl (fun j => nI (pt j))))] H → va_D A [(mm, .inr (12, mo g (nI ta) (nI pa) (nI pe) pd (nI pb) pp pf pg pn rt rn (nI cd) sn (nI il) tk am at_ aa 0 0 (-1) wt wy 0 (nI rm) (nI ud) (nI nu) sd (nI qn) (nI qw) qo (nI qb) (nI qp) qa (nI qi) (nI oc))), (g 20, .inl (cI, 4, .inl (l4 (nI l0) (nI l1) (nI dm) (nI l3)))), (g 31, .inl (cI, 120, .inl zn)), (g 46, .inl (cI, 9, .inl (fun j => nI (pt j))))] → va_S A s.heap H locs → lv_has ls 2 [(1, .int (nI i)), (0, .ref mm)] → W p l e { frames := 1, cells := 0, slots := 0, locals := 20 } s m ([.ref mm] : List Value).toArray below meth c H locs 0 0 (MQ below (skV D (skT cI cJ cC cZ cS) (fun (u : va_W) => ∃ (nw2 : Nat → Int32), nwX wn mN Ba We U (ke + 1) (updG lg ke (wn, nn, pt (dm - 1))) nw2 ∧ u = [(mm, .inr (12, mo g (nI ta) (nI pa) (nI pe) pd (nI pb) pp pf pg pn rt rn (nI cd) sn (nI il) tk am at_ aa 0 0 (-1) wt wy 0 (nI rm) (nI ud) (nI nu) sd (nI qn) (nI qw) qo (nI qb) (nI qp) qa (nI qi) (nI oc))), (g 20, .inl (cI, 4, .inl (l4 (nI l0) (nI l1) (nI dm) (nI l3)))), (g 31, .inl (cI, 120, .inl nw2)), (g 46, .inl (cI, 9, .inl (fun j => nI (pt j))))]) A) ([.ref mm] : List Value).toArray s 0 0 A) (F0 m 23 ls []) := by
      intro n_16
      induction n_16 with
      | zero => intro i zn H locs ls hm; exact absurd hm (Nat.not_lt_zero _)
      | succ n_16 ih_lp_15 =>
        intro i zn H locs ls hm hi hi0 hsn hP hD hS hl
        refine lv_iload_n hx hb dX12_isKept_23 rfl (lv_at hl 0 rfl) ?_
        refine lv_bipush (v := 117) hx hb dX12_isKept_24 (by decide) ?_
        refine lv_icmp_ge (tgt := 49) hx hb dX12_isKept_26 (by decide) (fun c_17 => ?_) (fun c_17 => ?_)
        · have c_17 : 117 ≤ i := (nle 117 i (by omega) (by omega)).mp c_17
          have hT0 := nwT_of (show nwS wn mN Ba We U ke lg 117 zn by rw [show 117 = i by omega]; exact hsn) (by omega)
          refine lv_goto (tgt := 63) hx hb dX12_isKept_49 (by decide) ?_
          exact jn_2 zn _ _ _ hT0 hP hD hS (lv_sub hl [1] rfl)
        · have c_17 : ¬ (117 ≤ i) := fun h => c_17 ((nle 117 i (by omega) (by omega)).mpr h)
          refine lv_aload_n hx hb dX12_isKept_29 rfl (lv_at hl 1 rfl) ?_
          refine sk_get (v := .ref (g 31)) (C := RX12) (T := TX12) (N := 92) hx hb hts inlX12 hown hK hP 0 rfl rfl 31 (by decide) w_5_186 rfl dX12_isKept_30 ?_
          refine lv_iload_n hx hb dX12_isKept_33 rfl (lv_at hl 0 rfl) ?_
          refine lv_aload_n hx hb dX12_isKept_34 rfl (lv_at hl 1 rfl) ?_
          refine sk_get (v := .ref (g 31)) (C := RX12) (T := TX12) (N := 92) hx hb hts inlX12 hown hK hP 0 rfl rfl 31 (by decide) w_5_186 rfl dX12_isKept_35 ?_
          refine lv_iload_n hx hb dX12_isKept_38 rfl (lv_at hl 0 rfl) ?_
          refine lv_iconst (v := 3) hx hb dX12_isKept_39 (by decide) ?_
          refine lv_iadd hx hb dX12_isKept_40 ?_
          refine sk_top (nI (i + 3)) (nI_add i 3) ?_
          refine va_iald hx hb hK.1 hP 2 0 rfl rfl (vin (i + 3) 120 (by omega) (by omega)) dX12_isKept_41 ?_
          refine sk_top (zn (i + 3)) (by rw [nI_clamp (by omega)]) ?_
          refine sk_iastE (k := i) (x := (zn (i + 3))) (ws' := fun f_18 => [(mm, .inr (12, mo g (nI ta) (nI pa) (nI pe) pd (nI pb) pp pf pg pn rt rn (nI cd) sn (nI il) tk am at_ aa 0 0 (-1) wt wy 0 (nI rm) (nI ud) (nI nu) sd (nI qn) (nI qw) qo (nI qb) (nI qp) qa (nI qi) (nI oc))), (g 20, .inl (cI, 4, .inl (l4 (nI l0) (nI l1) (nI dm) (nI l3)))), (g 31, .inl (cI, 120, .inl f_18)), (g 46, .inl (cI, 9, .inl (fun j => nI (pt j))))]) hx hb hK hP hD hS 2 0 rfl rfl (by omega) (by omega) (fun _ => rfl) dX12_isKept_42 (fun f_18 H locs ef_19 hP hD hS => ?_)
          refine lv_iinc (v := nI (i + 1)) (lv' := [(1, .int (nI (i + 1))), (0, .ref mm)]) hx hb dX12_isKept_43 hl (k := 0) rfl (ninc i 1 (by decide)) (by decide) rfl (fun ls hl => ?_)
          refine lv_goto (tgt := 23) hx hb dX12_isKept_46 (by decide) ?_
          exact ih_lp_15 (i + 1) f_18 _ _ _ (by omega) (by omega) (by omega) (nwS_s hsn ef_19 rfl hi0 (by omega)) hP hD hS (lv_sub hl [0, 1] rfl)
    exact lp_15 (117 - 30 + 1) 30 nw _ _ _ (Nat.lt_succ_self _) (by omega) (by omega) (nwS_0 hnw (by omega)) hP hD hS (lv_sub hl [0, 1] rfl)
theorem dX12_goesBy_0 : decode cX12_goesBy 0 = .ok (.aload_n 0, 1) := by decide +kernel
theorem dX12_goesBy_1 : decode cX12_goesBy 1 = .ok (.lload_n 1, 1) := by decide +kernel
theorem dX12_goesBy_2 : decode cX12_goesBy 2 = .ok (.invokevirtual 394, 3) := by decide +kernel
theorem dX12_goesBy_5 : decode cX12_goesBy 5 = .ok (.aload_n 0, 1) := by decide +kernel
theorem dX12_goesBy_6 : decode cX12_goesBy 6 = .ok (.invokevirtual 397, 3) := by decide +kernel
theorem dX12_goesBy_9 : decode cX12_goesBy 9 = .ok (.aload_n 0, 1) := by decide +kernel
theorem dX12_goesBy_10 : decode cX12_goesBy 10 = .ok (.getfield 63, 3) := by decide +kernel
theorem dX12_goesBy_13 : decode cX12_goesBy 13 = .ok (.iconst 1, 1) := by decide +kernel
theorem dX12_goesBy_14 : decode cX12_goesBy 14 = .ok (.aload_n 0, 1) := by decide +kernel
theorem dX12_goesBy_15 : decode cX12_goesBy 15 = .ok (.getfield 89, 3) := by decide +kernel
theorem dX12_goesBy_18 : decode cX12_goesBy 18 = .ok (.aload_n 0, 1) := by decide +kernel
theorem dX12_goesBy_19 : decode cX12_goesBy 19 = .ok (.invokevirtual 315, 3) := by decide +kernel
theorem dX12_goesBy_22 : decode cX12_goesBy 22 = .ok (.iconst 1, 1) := by decide +kernel
theorem dX12_goesBy_23 : decode cX12_goesBy 23 = .ok (.isub, 1) := by decide +kernel
theorem dX12_goesBy_24 : decode cX12_goesBy 24 = .ok (.iaload, 1) := by decide +kernel
theorem dX12_goesBy_25 : decode cX12_goesBy 25 = .ok (.iastore, 1) := by decide +kernel
theorem dX12_goesBy_26 : decode cX12_goesBy 26 = .ok (.aload_n 0, 1) := by decide +kernel
theorem dX12_goesBy_27 : decode cX12_goesBy 27 = .ok (.getfield 63, 3) := by decide +kernel
theorem dX12_goesBy_30 : decode cX12_goesBy 30 = .ok (.iconst 0, 1) := by decide +kernel
theorem dX12_goesBy_31 : decode cX12_goesBy 31 = .ok (.dup2, 1) := by decide +kernel
theorem dX12_goesBy_32 : decode cX12_goesBy 32 = .ok (.iaload, 1) := by decide +kernel
theorem dX12_goesBy_33 : decode cX12_goesBy 33 = .ok (.iconst 1, 1) := by decide +kernel
theorem dX12_goesBy_34 : decode cX12_goesBy 34 = .ok (.iadd, 1) := by decide +kernel
theorem dX12_goesBy_35 : decode cX12_goesBy 35 = .ok (.iastore, 1) := by decide +kernel
theorem dX12_goesBy_36 : decode cX12_goesBy 36 = .ok (.return_, 1) := by decide +kernel
theorem w_8_21 : (Cond.methodLink RX12 397 yX12_isKept) ∈ wsL_law := sk_mem (ck_8 _ (List.mem_of_getElem? (i := 21) rfl)) rfl
theorem w_8_23 : (Cond.instanceMethod yX12_isKept) ∈ wsL_law := sk_mem (ck_8 _ (List.mem_of_getElem? (i := 23) rfl)) rfl
theorem w_0_94 : (Cond.selects RX12 yX12_isKept yX12_isKept) ∈ wsL_law := sk_mem (ck_0 _ (List.mem_of_getElem? (i := 94) rfl)) rfl
theorem w_8_20 : (Cond.code yX12_goesBy cX12_goesBy 3 none) ∈ wsL_law := sk_mem (ck_8 _ (List.mem_of_getElem? (i := 20) rfl)) rfl
set_option maxHeartbeats 4000000 in
set_option maxRecDepth 100000 in
theorem c_nm_goesBy0 (l : Launch) (D : va_G) (cI cJ cC cZ cS : ClassId) (mm : Nat) (g : Nat → Nat) (ta : Nat) (pa : Nat) (pe : Nat) (pd : Int32) (pb : Nat) (pp : Int32) (pf : Int32) (pg : Int32) (pn : Int32) (rt : Int32) (rn : Int32) (cd : Nat) (sn : Int32) (il : Nat) (tk : Int32) (am : Int32) (at_ : Int32) (aa : Int32) (wt : Int32) (wy : Int64) (rm : Nat) (ud : Nat) (nu : Nat) (sd : Int64) (qn : Nat) (qw : Nat) (qo : Int32) (qb : Nat) (qp : Nat) (qa : Int64) (qi : Nat) (oc : Nat) (l0 : Nat) (l1 : Nat) (dm : Nat) (l3 : Nat) (nw : Nat → Int32) (yo : Nat → Int32) (yw : Nat → Int32) (be : Nat → Int64) (pt : Nat → Nat) (wn : Nat) (mN : Nat) (Ba : Nat → Nat) (We : Nat → Nat) (U : Nat → Bool) (ke : Nat) (lg : KLg) (L : LkS) (nz : Nat) (hdm : dm ≤ 9) (hdm1 : 1 ≤ dm) (hbe : beOk (cfN nw yw yo 0) dm 0 be) (hcf : ∀ d, d < dm → ∀ a m, a < 10 → m < 10 → (cfN nw yw yo 0) d a m = (kcFo L wn Ba We U 0) d a m) (hwy : wy = Int64.ofNat (kcC (kcFo L wn Ba We U 0) dm 0 mN)) (hnx : nz < kcC (kcFo L wn Ba We U 0) dm 0 mN) (hnw : nwX wn mN Ba We U ke lg nw) (hpt : ∀ j, pt j ≤ 9) : skM l yX12_goesBy cX12_goesBy 3 none 4 91 0 0 D (skT cI cJ cC cZ cS) [.ref mm, .long (nL nz)] [(mm, .inr (12, mo g (nI ta) (nI pa) (nI pe) pd (nI pb) pp pf pg pn rt rn (nI cd) sn (nI il) tk am at_ aa 0 0 (-1) wt wy 0 (nI rm) (nI ud) (nI nu) sd (nI qn) (nI qw) qo (nI qb) (nI qp) qa (nI qi) (nI oc))), (g 20, .inl (cI, 4, .inl (l4 (nI l0) (nI l1) (nI dm) (nI l3)))), (g 31, .inl (cI, 120, .inl nw)), (g 37, .inl (cZ, 900, .inl yo)), (g 36, .inl (cZ, 900, .inl yw)), (g 43, .inl (cJ, 90, .inr (.inl be))), (g 46, .inl (cI, 9, .inl (fun j => nI (pt j))))] (skV D (skT cI cJ cC cZ cS) (fun (u : va_W) => ∃ (nw2 : Nat → Int32), ∃ (pt2 : Nat → Nat), nwX (wn + 1) (kLast L dm (wn, mN, Ba, We, U, ke) nz) Ba We U (ke + 1) (kKeep L dm (wn, mN, Ba, We, U, ke) lg nz) nw2 ∧ (∀ j, pt2 j ≤ 9) ∧ u = [(mm, .inr (12, mo g (nI ta) (nI pa) (nI pe) pd (nI pb) pp pf pg pn rt rn (nI cd) sn (nI il) tk am at_ aa 0 0 (-1) wt wy 0 (nI rm) (nI ud) (nI nu) sd (nI qn) (nI qw) qo (nI qb) (nI qp) qa (nI qi) (nI oc))), (g 20, .inl (cI, 4, .inl (l4 (nI l0) (nI l1) (nI dm) (nI l3)))), (g 31, .inl (cI, 120, .inl nw2)), (g 37, .inl (cZ, 900, .inl yo)), (g 36, .inl (cZ, 900, .inl yw)), (g 43, .inl (cJ, 90, .inr (.inl be))), (g 46, .inl (cI, 9, .inl (fun j => nI (pt2 j))))])) := by
  refine skM_of (by decide +kernel) (Nat.le_of_ble_eq_true rfl) ?_
  intro p e s m below meth c A ls E hP hD hl
  obtain ⟨hx, hb, hr, hml, hlocks, hin, hown, hts, hK, hA⟩ := E
  have hown : s.vm.findClass RX12 = some m.cls := hown
  have hS : va_S A s.heap s.heap [] := va_S.rf
  have hl : lv_has ls 3 [(0, .ref mm), (1, .long (nL nz))] := hl
  refine lv_aload_n hx hb dX12_goesBy_0 rfl (lv_at hl 0 rfl) ?_
  refine lv_lload_n hx hb dX12_goesBy_1 rfl (lv_at hl 1 rfl) ?_
  refine sk_Vv (q0 := 0) (n := 1) (rest := []) (wr := []) ⟨hx, hb, hml, hown, hts⟩ hl.1 (c_nm_walksTo l D cI cJ cC cZ cS mm g ta pa pe pd pb pp pf pg pn rt rn cd sn il tk am at_ aa 0 wt wy 0 rm ud nu sd qn qw qo qb qp qa qi oc l0 l1 dm l3 nw yo yw be pt nz (by omega) (by omega) hbe (nuX hcf (nwX_a0 hnw) hnw.1 hnx) (nwX_ok hnw) hpt) w_7_217 w_7_219 w_0_88 w_1_14 w_7_220 (by decide +kernel) ⟨⟨(Nat.le_of_ble_eq_true rfl), (Nat.le_of_ble_eq_true rfl)⟩, (Nat.le_of_ble_eq_true rfl), (Nat.le_of_ble_eq_true rfl)⟩ hK hP hD hS hA [0, 1, 2, 3, 4, 5, 6] [] rfl rfl (by decide +kernel) (by decide +kernel) (by decide +kernel) rfl rfl rfl rfl (Nat.le_of_ble_eq_true rfl) dX12_goesBy_2 (fun u H locs hw hP hD hS => ?_)
  obtain ⟨pt2_1, hpw_2, hpt2_3, rfl⟩ := hw
  have hP : va_P D vwCl [(mm, .inr (12, mo g (nI ta) (nI pa) (nI pe) pd (nI pb) pp pf pg pn rt rn (nI cd) sn (nI il) tk am at_ aa 0 0 (-1) wt wy 0 (nI rm) (nI ud) (nI nu) sd (nI qn) (nI qw) qo (nI qb) (nI qp) qa (nI qi) (nI oc))), (g 20, .inl (cI, 4, .inl (l4 (nI l0) (nI l1) (nI dm) (nI l3)))), (g 31, .inl (cI, 120, .inl nw)), (g 37, .inl (cZ, 900, .inl yo)), (g 36, .inl (cZ, 900, .inl yw)), (g 43, .inl (cJ, 90, .inr (.inl be))), (g 46, .inl (cI, 9, .inl (fun j => nI (pt2_1 j))))] H := hP
  have hD : va_D A [(mm, .inr (12, mo g (nI ta) (nI pa) (nI pe) pd (nI pb) pp pf pg pn rt rn (nI cd) sn (nI il) tk am at_ aa 0 0 (-1) wt wy 0 (nI rm) (nI ud) (nI nu) sd (nI qn) (nI qw) qo (nI qb) (nI qp) qa (nI qi) (nI oc))), (g 20, .inl (cI, 4, .inl (l4 (nI l0) (nI l1) (nI dm) (nI l3)))), (g 31, .inl (cI, 120, .inl nw)), (g 37, .inl (cZ, 900, .inl yo)), (g 36, .inl (cZ, 900, .inl yw)), (g 43, .inl (cJ, 90, .inr (.inl be))), (g 46, .inl (cI, 9, .inl (fun j => nI (pt2_1 j))))] := hD
  have hpx := mpX hcf (nwX_a0 hnw) hnw.1 hnx hpw_2
  refine lv_aload_n hx hb dX12_goesBy_5 rfl (lv_at hl 0 rfl) ?_
  refine sk_Vv (q0 := 0) (n := 0) (rest := []) (wr := [(g 37, .inl (cZ, 900, .inl yo)), (g 36, .inl (cZ, 900, .inl yw)), (g 43, .inl (cJ, 90, .inr (.inl be)))]) ⟨hx, hb, hml, hown, hts⟩ hl.1 (c_nm_isKept l D cI cJ cC cZ cS mm g ta pa pe pd pb pp pf pg pn rt rn cd sn il tk am at_ aa wt wy rm ud nu sd qn qw qo qb qp qa qi oc l0 l1 dm l3 nw pt2_1 wn mN Ba We U ke lg (kcC (kcFo L wn Ba We U 0) dm 0 mN) (by omega) (by omega) hwy (kcC_9 _ (show dm ≤ 9 by omega) _ _) hnw hpt2_3) w_8_21 w_8_23 w_0_94 w_1_14 w_8_24 (by decide +kernel) ⟨⟨(Nat.le_of_ble_eq_true rfl), (Nat.le_of_ble_eq_true rfl)⟩, (Nat.le_of_ble_eq_true rfl), (Nat.le_of_ble_eq_true rfl)⟩ hK hP hD hS hA [0, 1, 2, 6] [3, 4, 5] rfl rfl (by decide +kernel) (by decide +kernel) (by decide +kernel) rfl rfl rfl rfl (Nat.le_of_ble_eq_true rfl) dX12_goesBy_6 (fun u H locs hw hP hD hS => ?_)
  obtain ⟨nw2_4, hnw2_5, rfl⟩ := hw
  have hP : va_P D vwCl [(g 37, .inl (cZ, 900, .inl yo)), (g 36, .inl (cZ, 900, .inl yw)), (g 43, .inl (cJ, 90, .inr (.inl be))), (mm, .inr (12, mo g (nI ta) (nI pa) (nI pe) pd (nI pb) pp pf pg pn rt rn (nI cd) sn (nI il) tk am at_ aa 0 0 (-1) wt wy 0 (nI rm) (nI ud) (nI nu) sd (nI qn) (nI qw) qo (nI qb) (nI qp) qa (nI qi) (nI oc))), (g 20, .inl (cI, 4, .inl (l4 (nI l0) (nI l1) (nI dm) (nI l3)))), (g 31, .inl (cI, 120, .inl nw2_4)), (g 46, .inl (cI, 9, .inl (fun j => nI (pt2_1 j))))] H := hP
  have hD : va_D A [(g 37, .inl (cZ, 900, .inl yo)), (g 36, .inl (cZ, 900, .inl yw)), (g 43, .inl (cJ, 90, .inr (.inl be))), (mm, .inr (12, mo g (nI ta) (nI pa) (nI pe) pd (nI pb) pp pf pg pn rt rn (nI cd) sn (nI il) tk am at_ aa 0 0 (-1) wt wy 0 (nI rm) (nI ud) (nI nu) sd (nI qn) (nI qw) qo (nI qb) (nI qp) qa (nI qi) (nI oc))), (g 20, .inl (cI, 4, .inl (l4 (nI l0) (nI l1) (nI dm) (nI l3)))), (g 31, .inl (cI, 120, .inl nw2_4)), (g 46, .inl (cI, 9, .inl (fun j => nI (pt2_1 j))))] := hD
  have hpl : pt2_1 (dm - 1) = kLast L dm (wn, mN, Ba, We, U, ke) nz := hpx (dm - 1) (by omega)
  refine lv_aload_n hx hb dX12_goesBy_9 rfl (lv_at hl 0 rfl) ?_
  refine sk_get (v := .ref (g 31)) (C := RX12) (T := TX12) (N := 92) hx hb hts inlX12 hown hK hP 3 rfl rfl 31 (by decide) w_5_186 rfl dX12_goesBy_10 ?_
  refine lv_iconst (v := 1) hx hb dX12_goesBy_13 (by decide) ?_
  refine lv_aload_n hx hb dX12_goesBy_14 rfl (lv_at hl 0 rfl) ?_
  refine sk_get (v := .ref (g 46)) (C := RX12) (T := TX12) (N := 92) hx hb hts inlX12 hown hK hP 3 rfl rfl 46 (by decide) w_5_201 rfl dX12_goesBy_15 ?_
  refine lv_aload_n hx hb dX12_goesBy_18 rfl (lv_at hl 0 rfl) ?_
  refine sk_Vi (q0 := 0) (n := 0) (rest := [.ref (g 46), .int 1, .ref (g 31)]) (wr := [(g 37, .inl (cZ, 900, .inl yo)), (g 36, .inl (cZ, 900, .inl yw)), (g 43, .inl (cJ, 90, .inr (.inl be))), (g 31, .inl (cI, 120, .inl nw2_4)), (g 46, .inl (cI, 9, .inl (fun j => nI (pt2_1 j))))]) ⟨hx, hb, hml, hown, hts⟩ hl.1 (c_m_dayMany l D cI cJ cC cZ cS mm g ta pa pe pd pb pp pf pg pn rt rn cd sn il tk am at_ aa 0 0 (-1) wt wy 0 rm ud nu sd qn qw qo qb qp qa qi oc l0 l1 dm l3) w_7_98 w_7_100 w_0_69 w_1_14 w_7_101 (by decide +kernel) ⟨⟨(Nat.le_of_ble_eq_true rfl), (Nat.le_of_ble_eq_true rfl)⟩, (Nat.le_of_ble_eq_true rfl), (Nat.le_of_ble_eq_true rfl)⟩ hK hP hD hS hA [3, 4] [0, 1, 2, 5, 6] rfl rfl (by decide +kernel) (by decide +kernel) (by decide +kernel) rfl rfl rfl rfl (Nat.le_of_ble_eq_true rfl) dX12_goesBy_19 (fun r_6 u H locs hw hP hD hS => ?_)
  obtain ⟨rfl, rfl⟩ := hw
  have hP : va_P D vwCl [(g 37, .inl (cZ, 900, .inl yo)), (g 36, .inl (cZ, 900, .inl yw)), (g 43, .inl (cJ, 90, .inr (.inl be))), (g 31, .inl (cI, 120, .inl nw2_4)), (g 46, .inl (cI, 9, .inl (fun j => nI (pt2_1 j)))), (mm, .inr (12, mo g (nI ta) (nI pa) (nI pe) pd (nI pb) pp pf pg pn rt rn (nI cd) sn (nI il) tk am at_ aa 0 0 (-1) wt wy 0 (nI rm) (nI ud) (nI nu) sd (nI qn) (nI qw) qo (nI qb) (nI qp) qa (nI qi) (nI oc))), (g 20, .inl (cI, 4, .inl (l4 (nI l0) (nI l1) (nI dm) (nI l3))))] H := hP
  have hD : va_D A [(g 37, .inl (cZ, 900, .inl yo)), (g 36, .inl (cZ, 900, .inl yw)), (g 43, .inl (cJ, 90, .inr (.inl be))), (g 31, .inl (cI, 120, .inl nw2_4)), (g 46, .inl (cI, 9, .inl (fun j => nI (pt2_1 j)))), (mm, .inr (12, mo g (nI ta) (nI pa) (nI pe) pd (nI pb) pp pf pg pn rt rn (nI cd) sn (nI il) tk am at_ aa 0 0 (-1) wt wy 0 (nI rm) (nI ud) (nI nu) sd (nI qn) (nI qw) qo (nI qb) (nI qp) qa (nI qi) (nI oc))), (g 20, .inl (cI, 4, .inl (l4 (nI l0) (nI l1) (nI dm) (nI l3))))] := hD
  refine lv_iconst (v := 1) hx hb dX12_goesBy_22 (by decide) ?_
  refine lv_isub hx hb dX12_goesBy_23 ?_
  refine sk_top (nI (dm - 1)) (nsub dm 1 (by omega)) ?_
  refine va_iald hx hb hK.1 hP 4 0 rfl rfl (vin (dm - 1) 9 (by omega) (by omega)) dX12_goesBy_24 ?_
  refine sk_top (nI (pt2_1 (dm - 1))) (nrd pt2_1 (dm - 1) (by omega)) ?_
  have hb_7 := hpt2_3 (dm - 1)
  refine sk_iastE (k := 1) (x := (nI (pt2_1 (dm - 1)))) (ws' := fun f_8 => [(g 37, .inl (cZ, 900, .inl yo)), (g 36, .inl (cZ, 900, .inl yw)), (g 43, .inl (cJ, 90, .inr (.inl be))), (g 31, .inl (cI, 120, .inl f_8)), (g 46, .inl (cI, 9, .inl (fun j => nI (pt2_1 j)))), (mm, .inr (12, mo g (nI ta) (nI pa) (nI pe) pd (nI pb) pp pf pg pn rt rn (nI cd) sn (nI il) tk am at_ aa 0 0 (-1) wt wy 0 (nI rm) (nI ud) (nI nu) sd (nI qn) (nI qw) qo (nI qb) (nI qp) qa (nI qi) (nI oc))), (g 20, .inl (cI, 4, .inl (l4 (nI l0) (nI l1) (nI dm) (nI l3))))]) hx hb hK hP hD hS 3 0 rfl rfl (by omega) (by omega) (fun _ => rfl) dX12_goesBy_25 (fun f_8 H locs ef_9 hP hD hS => ?_)
  have hN_10 : nwX wn (pt2_1 (dm - 1)) Ba We U (ke + 1) (updG lg ke (wn, kcC (kcFo L wn Ba We U 0) dm 0 mN, pt2_1 (dm - 1))) f_8 := nwX_up1 hnw2_5 ef_9 (by omega)
  refine lv_aload_n hx hb dX12_goesBy_26 rfl (lv_at hl 0 rfl) ?_
  refine sk_get (v := .ref (g 31)) (C := RX12) (T := TX12) (N := 92) hx hb hts inlX12 hown hK hP 5 rfl rfl 31 (by decide) w_5_186 rfl dX12_goesBy_27 ?_
  refine lv_iconst (v := 0) hx hb dX12_goesBy_30 (by decide) ?_
  refine lv_dup2_11 hx hb dX12_goesBy_31 rfl rfl ?_
  refine va_iald hx hb hK.1 hP 3 0 rfl rfl (by unfold vp_in; decide) dX12_goesBy_32 ?_
  refine sk_top (nI wn) (nwX_0 hN_10) ?_
  refine lv_iconst (v := 1) hx hb dX12_goesBy_33 (by decide) ?_
  refine lv_iadd hx hb dX12_goesBy_34 ?_
  refine sk_top (nI (wn + 1)) (nI_add wn 1) ?_
  refine sk_iastE (k := 0) (x := (nI (wn + 1))) (ws' := fun f_11 => [(g 37, .inl (cZ, 900, .inl yo)), (g 36, .inl (cZ, 900, .inl yw)), (g 43, .inl (cJ, 90, .inr (.inl be))), (g 31, .inl (cI, 120, .inl f_11)), (g 46, .inl (cI, 9, .inl (fun j => nI (pt2_1 j)))), (mm, .inr (12, mo g (nI ta) (nI pa) (nI pe) pd (nI pb) pp pf pg pn rt rn (nI cd) sn (nI il) tk am at_ aa 0 0 (-1) wt wy 0 (nI rm) (nI ud) (nI nu) sd (nI qn) (nI qw) qo (nI qb) (nI qp) qa (nI qi) (nI oc))), (g 20, .inl (cI, 4, .inl (l4 (nI l0) (nI l1) (nI dm) (nI l3))))]) hx hb hK hP hD hS 3 0 rfl rfl (by omega) (by omega) (fun _ => rfl) dX12_goesBy_35 (fun f_11 H locs ef_12 hP hD hS => ?_)
  have hN_13 : nwX (wn + 1) (kLast L dm (wn, mN, Ba, We, U, ke) nz) Ba We U (ke + 1) (kKeep L dm (wn, mN, Ba, We, U, ke) lg nz) f_11 := (by have h9 := nwX_up0 hN_10 ef_12; rw [hpl] at h9; exact h9)
  have hP := hP.sub (ws' := [(mm, .inr (12, mo g (nI ta) (nI pa) (nI pe) pd (nI pb) pp pf pg pn rt rn (nI cd) sn (nI il) tk am at_ aa 0 0 (-1) wt wy 0 (nI rm) (nI ud) (nI nu) sd (nI qn) (nI qw) qo (nI qb) (nI qp) qa (nI qi) (nI oc))), (g 20, .inl (cI, 4, .inl (l4 (nI l0) (nI l1) (nI dm) (nI l3)))), (g 31, .inl (cI, 120, .inl f_11)), (g 37, .inl (cZ, 900, .inl yo)), (g 36, .inl (cZ, 900, .inl yw)), (g 43, .inl (cJ, 90, .inr (.inl be))), (g 46, .inl (cI, 9, .inl (fun j => nI (pt2_1 j))))]) [5, 6, 3, 0, 1, 2, 4] rfl
  have hD := hD.sub (ws' := [(mm, .inr (12, mo g (nI ta) (nI pa) (nI pe) pd (nI pb) pp pf pg pn rt rn (nI cd) sn (nI il) tk am at_ aa 0 0 (-1) wt wy 0 (nI rm) (nI ud) (nI nu) sd (nI qn) (nI qw) qo (nI qb) (nI qp) qa (nI qi) (nI oc))), (g 20, .inl (cI, 4, .inl (l4 (nI l0) (nI l1) (nI dm) (nI l3)))), (g 31, .inl (cI, 120, .inl f_11)), (g 37, .inl (cZ, 900, .inl yo)), (g 36, .inl (cZ, 900, .inl yw)), (g 43, .inl (cJ, 90, .inr (.inl be))), (g 46, .inl (cI, 9, .inl (fun j => nI (pt2_1 j))))]) [5, 6, 3, 0, 1, 2, 4] (by decide +kernel) rfl
  exact sk_vret hx hb hr hlocks hK hP hD hS (⟨f_11, pt2_1, hN_13, hpt2_3, rfl⟩) (Nat.le_of_ble_eq_true rfl) (Nat.le_of_ble_eq_true rfl) dX12_goesBy_36
theorem dX12_isKept_7 : decode cX12_isKept 7 = .ok (.return_, 1) := by decide +kernel
set_option maxHeartbeats 4000000 in
set_option maxRecDepth 100000 in
theorem c_nm_isKept1 (l : Launch) (D : va_G) (cI cJ cC cZ cS : ClassId) (mm : Nat) (g : Nat → Nat) (ta : Nat) (pa : Nat) (pe : Nat) (pd : Int32) (pb : Nat) (pp : Int32) (pf : Int32) (pg : Int32) (pn : Int32) (rt : Int32) (rn : Int32) (cd : Nat) (sn : Int32) (il : Nat) (tk : Int32) (am : Int32) (at_ : Int32) (aa : Int32) (wt : Int32) (wy : Int64) (rm : Nat) (ud : Nat) (nu : Nat) (sd : Int64) (qn : Nat) (qw : Nat) (qo : Int32) (qb : Nat) (qp : Nat) (qa : Int64) (qi : Nat) (oc : Nat)  : skM l yX12_isKept cX12_isKept 2 none 0 0 0 0 D (skT cI cJ cC cZ cS) [.ref mm] [(mm, .inr (12, mo g (nI ta) (nI pa) (nI pe) pd (nI pb) pp pf pg pn rt rn (nI cd) sn (nI il) tk am at_ aa 0 0 (-1) wt wy 1 (nI rm) (nI ud) (nI nu) sd (nI qn) (nI qw) qo (nI qb) (nI qp) qa (nI qi) (nI oc)))] (skV D (skT cI cJ cC cZ cS) (fun (u : va_W) => u = [(mm, .inr (12, mo g (nI ta) (nI pa) (nI pe) pd (nI pb) pp pf pg pn rt rn (nI cd) sn (nI il) tk am at_ aa 0 0 (-1) wt wy 1 (nI rm) (nI ud) (nI nu) sd (nI qn) (nI qw) qo (nI qb) (nI qp) qa (nI qi) (nI oc)))])) := by
  refine skM_of (by decide +kernel) (Nat.le_of_ble_eq_true rfl) ?_
  intro p e s m below meth c A ls E hP hD hl
  obtain ⟨hx, hb, hr, hml, hlocks, hin, hown, hts, hK, hA⟩ := E
  have hown : s.vm.findClass RX12 = some m.cls := hown
  have hS : va_S A s.heap s.heap [] := va_S.rf
  have hl : lv_has ls 2 [(0, .ref mm)] := hl
  refine lv_aload_n hx hb dX12_isKept_0 rfl (lv_at hl 0 rfl) ?_
  refine sk_get (v := .int 1) (C := RX12) (T := TX12) (N := 92) hx hb hts inlX12 hown hK hP 0 rfl rfl 47 (by decide) w_5_202 rfl dX12_isKept_1 ?_
  refine lv_if_eq (tgt := 8) hx hb dX12_isKept_4 (by decide) (fun c => absurd c (by decide)) (fun c_1 => ?_)
  exact sk_vret hx hb hr hlocks hK hP hD hS rfl (Nat.le_of_ble_eq_true rfl) (Nat.le_of_ble_eq_true rfl) dX12_isKept_7
set_option maxHeartbeats 4000000 in
set_option maxRecDepth 100000 in
theorem c_nm_goesBy1 (l : Launch) (D : va_G) (cI cJ cC cZ cS : ClassId) (mm : Nat) (g : Nat → Nat) (ta : Nat) (pa : Nat) (pe : Nat) (pd : Int32) (pb : Nat) (pp : Int32) (pf : Int32) (pg : Int32) (pn : Int32) (rt : Int32) (rn : Int32) (cd : Nat) (sn : Int32) (il : Nat) (tk : Int32) (am : Int32) (at_ : Int32) (aa : Int32) (wt : Int32) (wy : Int64) (rm : Nat) (ud : Nat) (nu : Nat) (sd : Int64) (qn : Nat) (qw : Nat) (qo : Int32) (qb : Nat) (qp : Nat) (qa : Int64) (qi : Nat) (oc : Nat) (l0 : Nat) (l1 : Nat) (dm : Nat) (l3 : Nat) (nw : Nat → Int32) (yo : Nat → Int32) (yw : Nat → Int32) (be : Nat → Int64) (pt : Nat → Nat) (wn : Nat) (mN : Nat) (Ba : Nat → Nat) (We : Nat → Nat) (U : Nat → Bool) (ke : Nat) (lg : KLg) (L : LkS) (nz : Nat) (hdm : dm ≤ 9) (hdm1 : 1 ≤ dm) (hbe : beOk (cfN nw yw yo 0) dm 0 be) (hcf : ∀ d, d < dm → ∀ a m, a < 10 → m < 10 → (cfN nw yw yo 0) d a m = (kcFo L wn Ba We U 0) d a m) (hwy : wy = Int64.ofNat (kcC (kcFo L wn Ba We U 0) dm 0 mN)) (hnx : nz < kcC (kcFo L wn Ba We U 0) dm 0 mN) (hnw : nwX wn mN Ba We U ke lg nw) (hpt : ∀ j, pt j ≤ 9) : skM l yX12_goesBy cX12_goesBy 3 none 4 91 0 0 D (skT cI cJ cC cZ cS) [.ref mm, .long (nL nz)] [(mm, .inr (12, mo g (nI ta) (nI pa) (nI pe) pd (nI pb) pp pf pg pn rt rn (nI cd) sn (nI il) tk am at_ aa 0 0 (-1) wt wy 1 (nI rm) (nI ud) (nI nu) sd (nI qn) (nI qw) qo (nI qb) (nI qp) qa (nI qi) (nI oc))), (g 20, .inl (cI, 4, .inl (l4 (nI l0) (nI l1) (nI dm) (nI l3)))), (g 31, .inl (cI, 120, .inl nw)), (g 37, .inl (cZ, 900, .inl yo)), (g 36, .inl (cZ, 900, .inl yw)), (g 43, .inl (cJ, 90, .inr (.inl be))), (g 46, .inl (cI, 9, .inl (fun j => nI (pt j))))] (skV D (skT cI cJ cC cZ cS) (fun (u : va_W) => ∃ (nw2 : Nat → Int32), ∃ (pt2 : Nat → Nat), nwX (wn + 1) (kLast L dm (wn, mN, Ba, We, U, ke) nz) Ba We U ke lg nw2 ∧ (∀ j, pt2 j ≤ 9) ∧ u = [(mm, .inr (12, mo g (nI ta) (nI pa) (nI pe) pd (nI pb) pp pf pg pn rt rn (nI cd) sn (nI il) tk am at_ aa 0 0 (-1) wt wy 1 (nI rm) (nI ud) (nI nu) sd (nI qn) (nI qw) qo (nI qb) (nI qp) qa (nI qi) (nI oc))), (g 20, .inl (cI, 4, .inl (l4 (nI l0) (nI l1) (nI dm) (nI l3)))), (g 31, .inl (cI, 120, .inl nw2)), (g 37, .inl (cZ, 900, .inl yo)), (g 36, .inl (cZ, 900, .inl yw)), (g 43, .inl (cJ, 90, .inr (.inl be))), (g 46, .inl (cI, 9, .inl (fun j => nI (pt2 j))))])) := by
  refine skM_of (by decide +kernel) (Nat.le_of_ble_eq_true rfl) ?_
  intro p e s m below meth c A ls E hP hD hl
  obtain ⟨hx, hb, hr, hml, hlocks, hin, hown, hts, hK, hA⟩ := E
  have hown : s.vm.findClass RX12 = some m.cls := hown
  have hS : va_S A s.heap s.heap [] := va_S.rf
  have hl : lv_has ls 3 [(0, .ref mm), (1, .long (nL nz))] := hl
  refine lv_aload_n hx hb dX12_goesBy_0 rfl (lv_at hl 0 rfl) ?_
  refine lv_lload_n hx hb dX12_goesBy_1 rfl (lv_at hl 1 rfl) ?_
  refine sk_Vv (q0 := 0) (n := 1) (rest := []) (wr := []) ⟨hx, hb, hml, hown, hts⟩ hl.1 (c_nm_walksTo l D cI cJ cC cZ cS mm g ta pa pe pd pb pp pf pg pn rt rn cd sn il tk am at_ aa 0 wt wy 1 rm ud nu sd qn qw qo qb qp qa qi oc l0 l1 dm l3 nw yo yw be pt nz (by omega) (by omega) hbe (nuX hcf (nwX_a0 hnw) hnw.1 hnx) (nwX_ok hnw) hpt) w_7_217 w_7_219 w_0_88 w_1_14 w_7_220 (by decide +kernel) ⟨⟨(Nat.le_of_ble_eq_true rfl), (Nat.le_of_ble_eq_true rfl)⟩, (Nat.le_of_ble_eq_true rfl), (Nat.le_of_ble_eq_true rfl)⟩ hK hP hD hS hA [0, 1, 2, 3, 4, 5, 6] [] rfl rfl (by decide +kernel) (by decide +kernel) (by decide +kernel) rfl rfl rfl rfl (Nat.le_of_ble_eq_true rfl) dX12_goesBy_2 (fun u H locs hw hP hD hS => ?_)
  obtain ⟨pt2_1, hpw_2, hpt2_3, rfl⟩ := hw
  have hP : va_P D vwCl [(mm, .inr (12, mo g (nI ta) (nI pa) (nI pe) pd (nI pb) pp pf pg pn rt rn (nI cd) sn (nI il) tk am at_ aa 0 0 (-1) wt wy 1 (nI rm) (nI ud) (nI nu) sd (nI qn) (nI qw) qo (nI qb) (nI qp) qa (nI qi) (nI oc))), (g 20, .inl (cI, 4, .inl (l4 (nI l0) (nI l1) (nI dm) (nI l3)))), (g 31, .inl (cI, 120, .inl nw)), (g 37, .inl (cZ, 900, .inl yo)), (g 36, .inl (cZ, 900, .inl yw)), (g 43, .inl (cJ, 90, .inr (.inl be))), (g 46, .inl (cI, 9, .inl (fun j => nI (pt2_1 j))))] H := hP
  have hD : va_D A [(mm, .inr (12, mo g (nI ta) (nI pa) (nI pe) pd (nI pb) pp pf pg pn rt rn (nI cd) sn (nI il) tk am at_ aa 0 0 (-1) wt wy 1 (nI rm) (nI ud) (nI nu) sd (nI qn) (nI qw) qo (nI qb) (nI qp) qa (nI qi) (nI oc))), (g 20, .inl (cI, 4, .inl (l4 (nI l0) (nI l1) (nI dm) (nI l3)))), (g 31, .inl (cI, 120, .inl nw)), (g 37, .inl (cZ, 900, .inl yo)), (g 36, .inl (cZ, 900, .inl yw)), (g 43, .inl (cJ, 90, .inr (.inl be))), (g 46, .inl (cI, 9, .inl (fun j => nI (pt2_1 j))))] := hD
  have hpx := mpX hcf (nwX_a0 hnw) hnw.1 hnx hpw_2
  refine lv_aload_n hx hb dX12_goesBy_5 rfl (lv_at hl 0 rfl) ?_
  have hpl : pt2_1 (dm - 1) = kLast L dm (wn, mN, Ba, We, U, ke) nz := hpx (dm - 1) (by omega)
  refine sk_Vv (q0 := 0) (n := 0) (rest := []) (wr := [(g 20, .inl (cI, 4, .inl (l4 (nI l0) (nI l1) (nI dm) (nI l3)))), (g 31, .inl (cI, 120, .inl nw)), (g 37, .inl (cZ, 900, .inl yo)), (g 36, .inl (cZ, 900, .inl yw)), (g 43, .inl (cJ, 90, .inr (.inl be))), (g 46, .inl (cI, 9, .inl (fun j => nI (pt2_1 j))))]) ⟨hx, hb, hml, hown, hts⟩ hl.1 (c_nm_isKept1 l D cI cJ cC cZ cS mm g ta pa pe pd pb pp pf pg pn rt rn cd sn il tk am at_ aa wt wy rm ud nu sd qn qw qo qb qp qa qi oc) w_8_21 w_8_23 w_0_94 w_1_14 w_8_24 (by decide +kernel) ⟨⟨(Nat.le_of_ble_eq_true rfl), (Nat.le_of_ble_eq_true rfl)⟩, (Nat.le_of_ble_eq_true rfl), (Nat.le_of_ble_eq_true rfl)⟩ hK hP hD hS hA [0] [1, 2, 3, 4, 5, 6] rfl rfl (by decide +kernel) (by decide +kernel) (by decide +kernel) rfl rfl rfl rfl (Nat.le_of_ble_eq_true rfl) dX12_goesBy_6 (fun u H locs hw hP hD hS => ?_)
  obtain rfl := hw
  have hP : va_P D vwCl [(g 20, .inl (cI, 4, .inl (l4 (nI l0) (nI l1) (nI dm) (nI l3)))), (g 31, .inl (cI, 120, .inl nw)), (g 37, .inl (cZ, 900, .inl yo)), (g 36, .inl (cZ, 900, .inl yw)), (g 43, .inl (cJ, 90, .inr (.inl be))), (g 46, .inl (cI, 9, .inl (fun j => nI (pt2_1 j)))), (mm, .inr (12, mo g (nI ta) (nI pa) (nI pe) pd (nI pb) pp pf pg pn rt rn (nI cd) sn (nI il) tk am at_ aa 0 0 (-1) wt wy 1 (nI rm) (nI ud) (nI nu) sd (nI qn) (nI qw) qo (nI qb) (nI qp) qa (nI qi) (nI oc)))] H := hP
  have hD : va_D A [(g 20, .inl (cI, 4, .inl (l4 (nI l0) (nI l1) (nI dm) (nI l3)))), (g 31, .inl (cI, 120, .inl nw)), (g 37, .inl (cZ, 900, .inl yo)), (g 36, .inl (cZ, 900, .inl yw)), (g 43, .inl (cJ, 90, .inr (.inl be))), (g 46, .inl (cI, 9, .inl (fun j => nI (pt2_1 j)))), (mm, .inr (12, mo g (nI ta) (nI pa) (nI pe) pd (nI pb) pp pf pg pn rt rn (nI cd) sn (nI il) tk am at_ aa 0 0 (-1) wt wy 1 (nI rm) (nI ud) (nI nu) sd (nI qn) (nI qw) qo (nI qb) (nI qp) qa (nI qi) (nI oc)))] := hD
  refine lv_aload_n hx hb dX12_goesBy_9 rfl (lv_at hl 0 rfl) ?_
  refine sk_get (v := .ref (g 31)) (C := RX12) (T := TX12) (N := 92) hx hb hts inlX12 hown hK hP 6 rfl rfl 31 (by decide) w_5_186 rfl dX12_goesBy_10 ?_
  refine lv_iconst (v := 1) hx hb dX12_goesBy_13 (by decide) ?_
  refine lv_aload_n hx hb dX12_goesBy_14 rfl (lv_at hl 0 rfl) ?_
  refine sk_get (v := .ref (g 46)) (C := RX12) (T := TX12) (N := 92) hx hb hts inlX12 hown hK hP 6 rfl rfl 46 (by decide) w_5_201 rfl dX12_goesBy_15 ?_
  refine lv_aload_n hx hb dX12_goesBy_18 rfl (lv_at hl 0 rfl) ?_
  refine sk_Vi (q0 := 0) (n := 0) (rest := [.ref (g 46), .int 1, .ref (g 31)]) (wr := [(g 31, .inl (cI, 120, .inl nw)), (g 37, .inl (cZ, 900, .inl yo)), (g 36, .inl (cZ, 900, .inl yw)), (g 43, .inl (cJ, 90, .inr (.inl be))), (g 46, .inl (cI, 9, .inl (fun j => nI (pt2_1 j))))]) ⟨hx, hb, hml, hown, hts⟩ hl.1 (c_m_dayMany l D cI cJ cC cZ cS mm g ta pa pe pd pb pp pf pg pn rt rn cd sn il tk am at_ aa 0 0 (-1) wt wy 1 rm ud nu sd qn qw qo qb qp qa qi oc l0 l1 dm l3) w_7_98 w_7_100 w_0_69 w_1_14 w_7_101 (by decide +kernel) ⟨⟨(Nat.le_of_ble_eq_true rfl), (Nat.le_of_ble_eq_true rfl)⟩, (Nat.le_of_ble_eq_true rfl), (Nat.le_of_ble_eq_true rfl)⟩ hK hP hD hS hA [6, 0] [1, 2, 3, 4, 5] rfl rfl (by decide +kernel) (by decide +kernel) (by decide +kernel) rfl rfl rfl rfl (Nat.le_of_ble_eq_true rfl) dX12_goesBy_19 (fun r_4 u H locs hw hP hD hS => ?_)
  obtain ⟨rfl, rfl⟩ := hw
  have hP : va_P D vwCl [(g 31, .inl (cI, 120, .inl nw)), (g 37, .inl (cZ, 900, .inl yo)), (g 36, .inl (cZ, 900, .inl yw)), (g 43, .inl (cJ, 90, .inr (.inl be))), (g 46, .inl (cI, 9, .inl (fun j => nI (pt2_1 j)))), (mm, .inr (12, mo g (nI ta) (nI pa) (nI pe) pd (nI pb) pp pf pg pn rt rn (nI cd) sn (nI il) tk am at_ aa 0 0 (-1) wt wy 1 (nI rm) (nI ud) (nI nu) sd (nI qn) (nI qw) qo (nI qb) (nI qp) qa (nI qi) (nI oc))), (g 20, .inl (cI, 4, .inl (l4 (nI l0) (nI l1) (nI dm) (nI l3))))] H := hP
  have hD : va_D A [(g 31, .inl (cI, 120, .inl nw)), (g 37, .inl (cZ, 900, .inl yo)), (g 36, .inl (cZ, 900, .inl yw)), (g 43, .inl (cJ, 90, .inr (.inl be))), (g 46, .inl (cI, 9, .inl (fun j => nI (pt2_1 j)))), (mm, .inr (12, mo g (nI ta) (nI pa) (nI pe) pd (nI pb) pp pf pg pn rt rn (nI cd) sn (nI il) tk am at_ aa 0 0 (-1) wt wy 1 (nI rm) (nI ud) (nI nu) sd (nI qn) (nI qw) qo (nI qb) (nI qp) qa (nI qi) (nI oc))), (g 20, .inl (cI, 4, .inl (l4 (nI l0) (nI l1) (nI dm) (nI l3))))] := hD
  refine lv_iconst (v := 1) hx hb dX12_goesBy_22 (by decide) ?_
  refine lv_isub hx hb dX12_goesBy_23 ?_
  refine sk_top (nI (dm - 1)) (nsub dm 1 (by omega)) ?_
  refine va_iald hx hb hK.1 hP 4 0 rfl rfl (vin (dm - 1) 9 (by omega) (by omega)) dX12_goesBy_24 ?_
  refine sk_top (nI (pt2_1 (dm - 1))) (nrd pt2_1 (dm - 1) (by omega)) ?_
  have hb_5 := hpt2_3 (dm - 1)
  refine sk_iastE (k := 1) (x := (nI (pt2_1 (dm - 1)))) (ws' := fun f_6 => [(g 31, .inl (cI, 120, .inl f_6)), (g 37, .inl (cZ, 900, .inl yo)), (g 36, .inl (cZ, 900, .inl yw)), (g 43, .inl (cJ, 90, .inr (.inl be))), (g 46, .inl (cI, 9, .inl (fun j => nI (pt2_1 j)))), (mm, .inr (12, mo g (nI ta) (nI pa) (nI pe) pd (nI pb) pp pf pg pn rt rn (nI cd) sn (nI il) tk am at_ aa 0 0 (-1) wt wy 1 (nI rm) (nI ud) (nI nu) sd (nI qn) (nI qw) qo (nI qb) (nI qp) qa (nI qi) (nI oc))), (g 20, .inl (cI, 4, .inl (l4 (nI l0) (nI l1) (nI dm) (nI l3))))]) hx hb hK hP hD hS 0 0 rfl rfl (by omega) (by omega) (fun _ => rfl) dX12_goesBy_25 (fun f_6 H locs ef_7 hP hD hS => ?_)
  have hN_8 : nwX wn (pt2_1 (dm - 1)) Ba We U ke lg f_6 := nwX_up1 hnw ef_7 (by omega)
  refine lv_aload_n hx hb dX12_goesBy_26 rfl (lv_at hl 0 rfl) ?_
  refine sk_get (v := .ref (g 31)) (C := RX12) (T := TX12) (N := 92) hx hb hts inlX12 hown hK hP 5 rfl rfl 31 (by decide) w_5_186 rfl dX12_goesBy_27 ?_
  refine lv_iconst (v := 0) hx hb dX12_goesBy_30 (by decide) ?_
  refine lv_dup2_11 hx hb dX12_goesBy_31 rfl rfl ?_
  refine va_iald hx hb hK.1 hP 0 0 rfl rfl (by unfold vp_in; decide) dX12_goesBy_32 ?_
  refine sk_top (nI wn) (nwX_0 hN_8) ?_
  refine lv_iconst (v := 1) hx hb dX12_goesBy_33 (by decide) ?_
  refine lv_iadd hx hb dX12_goesBy_34 ?_
  refine sk_top (nI (wn + 1)) (nI_add wn 1) ?_
  refine sk_iastE (k := 0) (x := (nI (wn + 1))) (ws' := fun f_9 => [(g 31, .inl (cI, 120, .inl f_9)), (g 37, .inl (cZ, 900, .inl yo)), (g 36, .inl (cZ, 900, .inl yw)), (g 43, .inl (cJ, 90, .inr (.inl be))), (g 46, .inl (cI, 9, .inl (fun j => nI (pt2_1 j)))), (mm, .inr (12, mo g (nI ta) (nI pa) (nI pe) pd (nI pb) pp pf pg pn rt rn (nI cd) sn (nI il) tk am at_ aa 0 0 (-1) wt wy 1 (nI rm) (nI ud) (nI nu) sd (nI qn) (nI qw) qo (nI qb) (nI qp) qa (nI qi) (nI oc))), (g 20, .inl (cI, 4, .inl (l4 (nI l0) (nI l1) (nI dm) (nI l3))))]) hx hb hK hP hD hS 0 0 rfl rfl (by omega) (by omega) (fun _ => rfl) dX12_goesBy_35 (fun f_9 H locs ef_10 hP hD hS => ?_)
  have hN_11 : nwX (wn + 1) (kLast L dm (wn, mN, Ba, We, U, ke) nz) Ba We U ke lg f_9 := (by have h9 := nwX_up0 hN_8 ef_10; rw [hpl] at h9; exact h9)
  have hP := hP.sub (ws' := [(mm, .inr (12, mo g (nI ta) (nI pa) (nI pe) pd (nI pb) pp pf pg pn rt rn (nI cd) sn (nI il) tk am at_ aa 0 0 (-1) wt wy 1 (nI rm) (nI ud) (nI nu) sd (nI qn) (nI qw) qo (nI qb) (nI qp) qa (nI qi) (nI oc))), (g 20, .inl (cI, 4, .inl (l4 (nI l0) (nI l1) (nI dm) (nI l3)))), (g 31, .inl (cI, 120, .inl f_9)), (g 37, .inl (cZ, 900, .inl yo)), (g 36, .inl (cZ, 900, .inl yw)), (g 43, .inl (cJ, 90, .inr (.inl be))), (g 46, .inl (cI, 9, .inl (fun j => nI (pt2_1 j))))]) [5, 6, 0, 1, 2, 3, 4] rfl
  have hD := hD.sub (ws' := [(mm, .inr (12, mo g (nI ta) (nI pa) (nI pe) pd (nI pb) pp pf pg pn rt rn (nI cd) sn (nI il) tk am at_ aa 0 0 (-1) wt wy 1 (nI rm) (nI ud) (nI nu) sd (nI qn) (nI qw) qo (nI qb) (nI qp) qa (nI qi) (nI oc))), (g 20, .inl (cI, 4, .inl (l4 (nI l0) (nI l1) (nI dm) (nI l3)))), (g 31, .inl (cI, 120, .inl f_9)), (g 37, .inl (cZ, 900, .inl yo)), (g 36, .inl (cZ, 900, .inl yw)), (g 43, .inl (cJ, 90, .inr (.inl be))), (g 46, .inl (cI, 9, .inl (fun j => nI (pt2_1 j))))]) [5, 6, 0, 1, 2, 3, 4] (by decide +kernel) rfl
  exact sk_vret hx hb hr hlocks hK hP hD hS (⟨f_9, pt2_1, hN_11, hpt2_3, rfl⟩) (Nat.le_of_ble_eq_true rfl) (Nat.le_of_ble_eq_true rfl) dX12_goesBy_36
