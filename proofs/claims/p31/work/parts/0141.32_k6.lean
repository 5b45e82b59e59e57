/-! how many bits -/
def kpop (m : Nat) : Nat := kcS (fun d => if m.testBit d = true then 1 else 0) 9
theorem kpop_U {m : Nat} {U : Nat → Bool} (h : ∀ d, d < 9 → m.testBit d = U d) : kpop m = kSum U 9 := kcS_cg 9 (fun d hd => by rw [h d hd])
def kush (x y : Int32) : Int32 := (x.toUInt32 >>> (y.toUInt32 &&& Int32.toUInt32 31)).toInt32
def kb2 (m : Nat) : Int32 := nI m - (nI (m / 2) &&& 1431655765)
def kb6 (x : Int32) : Int32 := (x &&& 858993459) + (kush x 2 &&& 858993459)
def kb9 (x : Int32) : Int32 := (x + kush x 4) &&& 252645135
def kbb (x y : Int32) : Int32 := x + kush x y
theorem kpop_d : ∀ m, m < 512 → kbb (kbb (kb9 (kb6 (kb2 m))) 8) 16 &&& 63 = nI (kpop m) := by decide +kernel
theorem kpop_e {m : Nat} {v1 v2 v3 v4 v5 v6 v7 v8 v9 va vb vc vd ve : Int32} (hm : m < 512) (e1 : v1 = nI (m / 2) &&& 1431655765) (e2 : v2 = nI m - v1) (e3 : v3 = v2 &&& 858993459) (e4 : v4 = kush v2 2) (e5 : v5 = v4 &&& 858993459) (e6 : v6 = v3 + v5) (e7 : v7 = kush v6 4) (e8 : v8 = v6 + v7) (e9 : v9 = v8 &&& 252645135) (ea : va = kush v9 8) (eb : vb = v9 + va) (ec : vc = kush vb 16) (ed : vd = vb + vc) (ee : ve = vd &&& 63) : ve = nI (kpop m) := by
  have h2 : v2 = kb2 m := by rw [e2, e1]; rfl
  have h6 : v6 = kb6 v2 := by rw [e6, e5, e4, e3]; rfl
  have h9 : v9 = kb9 v6 := by rw [e9, e8, e7]; rfl
  have hb : vb = kbb v9 8 := by rw [eb, ea]; rfl
  have hd : vd = kbb vb 16 := by rw [ed, ec]; rfl
  rw [ee, hd, hb, h9, h6, h2]
  exact kpop_d m hm
/-! told -/
theorem tld_0 {L : LkS} {dy wn : Nat} {Ba We : Nat → Nat} {U : Nat → Bool} {d o : Int32} (h : ¬ kIn d dy) : toldR L dy wn Ba We U d o (-1) := Or.inl ⟨fun k j a b _ _ => absurd ⟨k, a, b⟩ h, rfl⟩
theorem tld_1 {L : LkS} {dy wn : Nat} {Ba We : Nat → Nat} {U : Nat → Bool} {d o : Int32} (h : ¬ kIn o 10) : toldR L dy wn Ba We U d o (-1) := Or.inl ⟨fun k j _ _ a b => absurd ⟨j, a, b⟩ h, rfl⟩
theorem tld_2 {L : LkS} {dy wn k : Nat} {Ba We : Nat → Nat} {U : Nat → Bool} {o : Int32} (h9 : dy ≤ 9) (hk : k < dy) (h : U k = true) : toldR L dy wn Ba We U (nI k) o (-1) := Or.inl ⟨fun k2 j a b _ _ => by
  have e := (neq k k2 (by omega) (by omega)).mp b
  rw [← e]; exact h, rfl⟩
theorem tld_3 {L : LkS} {dy wn k j : Nat} {Ba We : Nat → Nat} {U : Nat → Bool} {r : Int32} (hk : k < dy) (hj : j < 10) (h : ¬ U k = true) (hr : r = nI (kcSaid L wn (Ba k) (We k) k j)) : toldR L dy wn Ba We U (nI k) (nI j) r := Or.inr ⟨k, j, hk, rfl, hj, rfl, h, hr⟩
/-! kept -/
theorem kept_no {lg : KLg} {ke : Nat} {k w : Int32} (h : ¬ kIn k (min ke 30)) : keptR lg ke k w (-1000000000000000) := kR_0 (fun x q => h ⟨x.1, q.1, q.2.1⟩) rfl
theorem kept_no2 {lg : KLg} {ke : Nat} {k w : Int32} (h0 : ¬ w = 0) (h1 : ¬ w = 1) (h2 : ¬ w = 2) : keptR lg ke k w (-1000000000000000) := kR_0 (fun x q => by
  obtain ⟨-, -, q1, q2⟩ := q
  rcases (show x.2 = 0 ∨ x.2 = 1 ∨ x.2 = 2 by omega) with e | e | e
  · exact h0 (by rw [q2, e]; rfl)
  · exact h1 (by rw [q2, e]; rfl)
  · exact h2 (by rw [q2, e]; rfl)) rfl
theorem kept_0 {lg : KLg} {ke k a : Nat} {x : Int32} (hk : k < min ke 30) (hx : x = nI (lg a).1) (ha : a = ke - min ke 30 + k) (hl : (lg a).1 < 2147483648) : keptR lg ke (nI k) 0 (Int32.toInt64 x) := by
  refine kR_1 (k, 0) ⟨hk, rfl, (show 0 < 3 by decide), rfl⟩ ?_
  rw [hx, kx_i2l hl, ha]
  rfl
theorem kept_1 {lg : KLg} {ke k a : Nat} {x : Int64} (hk : k < min ke 30) (hx : x = Int64.ofNat (lg a).2.1) (ha : a = ke - min ke 30 + k) : keptR lg ke (nI k) 1 x := by
  refine kR_1 (k, 1) ⟨hk, rfl, (show 1 < 3 by decide), rfl⟩ ?_
  rw [hx, ha]
  rfl
theorem kept_2 {lg : KLg} {ke k a : Nat} {x : Int32} (hk : k < min ke 30) (hx : x = nI (lg a).2.2) (ha : a = ke - min ke 30 + k) (hl : (lg a).2.2 < 2147483648) : keptR lg ke (nI k) 2 (Int32.toInt64 x) := by
  refine kR_1 (k, 2) ⟨hk, rfl, (show 2 < 3 by decide), rfl⟩ ?_
  rw [hx, kx_i2l hl, ha]
  rfl
/-! the week of a number -/
theorem mood_0 {E : Nat → Nat → Nat → Bool} {dy mo : Nat} {k d : Int32} (h : ¬ kIn d dy) : moodR E dy mo k d (-1) := Or.inl ⟨fun j x a b _ => absurd ⟨j, a, b⟩ h, rfl⟩
theorem mood_1 {E : Nat → Nat → Nat → Bool} {dy mo : Nat} {k d : Int32} (h : ∀ x, x < kcC E dy 0 mo → ¬ k = nI x) : moodR E dy mo k d (-1) := Or.inl ⟨fun j x _ _ a => h x a, rfl⟩
theorem mood_2 {E : Nat → Nat → Nat → Bool} {dy mo x j : Nat} {r : Int32} (hj : j < dy) (hx : x < kcC E dy 0 mo) (hr : r = nI (kcM E dy mo x j)) : moodR E dy mo (nI x) (nI j) r := Or.inr ⟨j, x, hj, rfl, hx, rfl, hr⟩
/-! saved states -/
def puO (ac : Nat) (su : Nat → KN) (swk : Nat → Int32) (smo : Nat → Nat) (smu ske : Nat → Int32) (sfb sfw : Nat → Nat → Int32) : Prop := ∀ j, j < ac → swk j = nI (nWk (su j)) ∧ smo j = nMo (su j) ∧ muO (nMu (su j)) (smu j) ∧ ske j = nI (nKe (su j)) ∧ (∀ i, i < 9 → sfb j i = nI (nBa (su j) i)) ∧ ∀ i, i < 9 → sfw j i = nI (nWe (su j) i)
theorem psh_c {ac j : Nat} (h20 : ac ≤ 20) (hj : j < min (ac + 1) 20) : (∀ {α : Type} (f : Nat → α) (x : α), psh ac f x j = x) ∨ ∃ i, i < ac ∧ ∀ {α : Type} (f : Nat → α) (x : α), psh ac f x j = f i := by
  by_cases q : ac < 20
  · by_cases e : j = ac
    · refine Or.inl (fun f x => ?_)
      unfold psh updG
      rw [if_pos q, if_pos e]
    · refine Or.inr ⟨j, by omega, fun f x => ?_⟩
      unfold psh updG
      rw [if_pos q, if_neg e]
  · by_cases e : j = 19
    · refine Or.inl (fun f x => ?_)
      unfold psh updG
      rw [if_neg q, if_pos e]
    · refine Or.inr ⟨j + 1, by omega, fun f x => ?_⟩
      unfold psh updG rotG
      rw [if_neg q, if_neg e, if_pos (by omega)]
theorem puO_push {ac wn mo ke : Nat} {su : Nat → KN} {Ba We : Nat → Nat} {U : Nat → Bool} {mu : Int32} {fb fw g1 g2 : Nat → Int32} {swk : Nat → Int32} {smo : Nat → Nat} {smu ske : Nat → Int32} {sfb sfw : Nat → Nat → Int32} {swk2 : Nat → Int32} {smo2 : Nat → Nat} {smu2 ske2 : Nat → Int32} {sfb2 sfw2 : Nat → Nat → Int32} (h : puO ac su swk smo smu ske sfb sfw) (h20 : ac ≤ 20) (e1 : swk2 = psh ac swk (nI wn)) (e2 : smo2 = psh ac smo mo) (e3 : smu2 = psh ac smu mu) (e4 : ske2 = psh ac ske (nI ke)) (e5 : sfb2 = psh ac sfb g1) (e6 : sfw2 = psh ac sfw g2) (hg1 : ∀ j, j < 9 → g1 j = fb j) (hg2 : ∀ j, j < 9 → g2 j = fw j) (hfb : ∀ j, j < 9 → fb j = nI (Ba j)) (hfw : ∀ j, j < 9 → fw j = nI (We j)) (hU : muO U mu) : puO (min (ac + 1) 20) (psh ac su (wn, mo, Ba, We, U, ke)) swk2 smo2 smu2 ske2 sfb2 sfw2 := fun j hj => by
  subst e1 e2 e3 e4 e5 e6
  rcases psh_c h20 hj with q | ⟨i, hi, q⟩
  · rw [q, q, q, q, q, q, q]
    exact ⟨rfl, rfl, hU, rfl, fun i hi => by rw [hg1 i hi, hfb i hi], fun i hi => by rw [hg2 i hi, hfw i hi]⟩
  · rw [q, q, q, q, q, q, q]
    exact h i hi
theorem fb_up {Ba : Nat → Nat} {f g : Nat → Int32} {k v : Nat} (h : ∀ j, j < 9 → f j = nI (Ba j)) (e : g = upd f k (nI v)) : ∀ j, j < 9 → g j = nI (updG Ba k v j) := fun j hj => by
  unfold updG
  by_cases q : j = k
  · rw [if_pos q, q, kui_s e]
  · rw [if_neg q, kui_n e q]; exact h j hj
theorem kkO_le {lg : KLg} {n m : Nat} {p1 p3 : Nat → Int32} {p2 : Nat → Int64} (h : kkO lg n p1 p2 p3) (hm : m ≤ n) : kkO lg m p1 p2 p3 := fun k hk => h k (by omega)
/-! set, mute: refused, done -/
section KActs
variable {dy : Nat} {n : KN} {ac : Nat} {su : Nat → KN} {rf rf2 : Nat → Int32} {d w o : Int32}
theorem set_n {P : Nat × Nat → Prop} (h : ∀ x : Nat × Nat, ¬ P x) {Q : Nat × Nat → Prop} (e : rf2 = upd rf 2 (rf 2 + 1)) : kR P ((0 : Int32) = 0 ∧ actN n ac su rf 2 n ac su rf2) Q := kR_0 h ⟨rfl, rfl, rfl, rfl, e⟩
theorem set_0 (h : ¬ kIn d dy) (e : rf2 = upd rf 2 (rf 2 + 1)) : setR dy n ac su rf d w o 0 n ac su rf2 := set_n (fun x q => h ⟨x.1, q.1, q.2.1⟩) e
theorem set_1 (h : w < 0) (e : rf2 = upd rf 2 (rf 2 + 1)) : setR dy n ac su rf d w o 0 n ac su rf2 := set_n (fun x q => by
  rcases q.2.2.2.2 with ⟨a, -⟩ | ⟨a, -⟩
  · rw [a] at h; exact absurd h (by decide)
  · rw [a] at h; exact absurd h (by decide)) e
theorem set_2 {k : Nat} (h : 1 < k) (hk : k < 2147483648) (e : rf2 = upd rf 2 (rf 2 + 1)) : setR dy n ac su rf d (nI k) o 0 n ac su rf2 := set_n (fun x q => by
  rcases q.2.2.2.2 with ⟨a, -⟩ | ⟨a, -⟩
  · have := (neq k 0 hk (by decide)).mp a; omega
  · have := (neq k 1 hk (by decide)).mp a; omega) e
theorem set_3 (h : ¬ kIn o 10) (e : rf2 = upd rf 2 (rf 2 + 1)) : setR dy n ac su rf d w o 0 n ac su rf2 := set_n (fun x q => h ⟨x.2, q.2.2.1, q.2.2.2.1⟩) e
theorem set_4 {k v j z : Nat} (h9 : dy ≤ 9) (hk : k < dy) (hv : v < 10) (hj : j ≤ 1) (hz : z = if j = 0 then nBa n k else nWe n k) (he : z = v) (e : rf2 = upd rf 2 (rf 2 + 1)) : setR dy n ac su rf (nI k) (nI j) (nI v) 0 n ac su rf2 := set_n (fun x q => by
  obtain ⟨q1, q2, q3, q4, q5⟩ := q
  have e1 := (neq k x.1 (by omega) (by omega)).mp q2
  have e2 := (neq v x.2 (by omega) (by omega)).mp q4
  rcases q5 with ⟨a, b⟩ | ⟨a, b⟩
  · have e3 := (neq j 0 (by omega) (by decide)).mp a
    rw [if_pos e3] at hz
    exact b (by rw [← e1, ← e2, ← he, hz])
  · have e3 := (neq j 1 (by omega) (by decide)).mp a
    rw [if_neg (by omega)] at hz
    exact b (by rw [← e1, ← e2, ← he, hz])) e
theorem set_y0 {k v z : Nat} (hk : k < dy) (hv : v < 10) (hz : z = if (0 : Nat) = 0 then nBa n k else nWe n k) (he : ¬ z = v) : setR dy n ac su rf (nI k) (nI 0) (nI v) 1 (nWk n, nMo n, updG (nBa n) k v, nWe n, nMu n, nKe n) (min (ac + 1) 20) (psh ac su n) rf := by
  rw [if_pos rfl] at hz
  exact kR_1 (k, v) ⟨hk, rfl, hv, rfl, Or.inl ⟨rfl, fun q => he (hz.trans q)⟩⟩ ⟨rfl, by rw [if_pos (show nI 0 = 0 from rfl), if_pos (show nI 0 = 0 from rfl)], rfl, rfl, rfl⟩
theorem set_y1 {k v z : Nat} (hk : k < dy) (hv : v < 10) (hz : z = if (1 : Nat) = 0 then nBa n k else nWe n k) (he : ¬ z = v) : setR dy n ac su rf (nI k) (nI 1) (nI v) 1 (nWk n, nMo n, nBa n, updG (nWe n) k v, nMu n, nKe n) (min (ac + 1) 20) (psh ac su n) rf := by
  rw [if_neg (by decide)] at hz
  exact kR_1 (k, v) ⟨hk, rfl, hv, rfl, Or.inr ⟨rfl, fun q => he (hz.trans q)⟩⟩ ⟨rfl, by rw [if_neg (show ¬ nI 1 = 0 by decide), if_neg (show ¬ nI 1 = 0 by decide)], rfl, rfl, rfl⟩
theorem mut_0 (h : ¬ kIn d dy) (e : rf2 = upd rf 2 (rf 2 + 1)) : muteR dy n ac su rf d w 0 n ac su rf2 := kR_0 (fun x q => h ⟨x, q.1, q.2.1⟩) ⟨rfl, rfl, rfl, rfl, e⟩
theorem mut_1 (h : w < 0) (e : rf2 = upd rf 2 (rf 2 + 1)) : muteR dy n ac su rf d w 0 n ac su rf2 := kR_0 (fun x q => by
  rcases q.2.2 with ⟨a, -⟩ | ⟨a, -⟩
  · rw [a] at h; exact absurd h (by decide)
  · rw [a] at h; exact absurd h (by decide)) ⟨rfl, rfl, rfl, rfl, e⟩
theorem mut_2 {k : Nat} (h : 1 < k) (hk : k < 2147483648) (e : rf2 = upd rf 2 (rf 2 + 1)) : muteR dy n ac su rf d (nI k) 0 n ac su rf2 := kR_0 (fun x q => by
  rcases q.2.2 with ⟨a, -⟩ | ⟨a, -⟩
  · have := (neq k 1 hk (by decide)).mp a; omega
  · have := (neq k 0 hk (by decide)).mp a; omega) ⟨rfl, rfl, rfl, rfl, e⟩
theorem mut_3 {k j b c : Nat} (h9 : dy ≤ 9) (hk : k < dy) (hj : j ≤ 1) (hb : (b = 1 ∧ nMu n k = true) ∨ (b = 0 ∧ ¬ nMu n k = true)) (hc : (c = 1 ∧ j = 1) ∨ (c = 0 ∧ ¬ j = 1)) (he : b = c) (e : rf2 = upd rf 2 (rf 2 + 1)) : muteR dy n ac su rf (nI k) (nI j) 0 n ac su rf2 := kR_0 (fun x q => by
  obtain ⟨q1, q2, q3⟩ := q
  have e1 := (neq k x (by omega) (by omega)).mp q2
  subst e1
  rcases q3 with ⟨a, p⟩ | ⟨a, p⟩
  · have e3 := (neq j 1 (by omega) (by decide)).mp a
    rcases hb with ⟨h1, h2⟩ | ⟨h1, h2⟩
    · exact p h2
    · omega
  · have e3 := (neq j 0 (by omega) (by decide)).mp a
    rcases hb with ⟨h1, h2⟩ | ⟨h1, h2⟩
    · omega
    · exact h2 p) ⟨rfl, rfl, rfl, rfl, e⟩
theorem mut_y {k j b c : Nat} (hk : k < dy) (hj : j ≤ 1) (hb : (b = 1 ∧ nMu n k = true) ∨ (b = 0 ∧ ¬ nMu n k = true)) (hc : (c = 1 ∧ j = 1) ∨ (c = 0 ∧ ¬ j = 1)) (he : ¬ b = c) : muteR dy n ac su rf (nI k) (nI j) 1 (nWk n, nMo n, nBa n, nWe n, updG (nMu n) k (!nMu n k), nKe n) (min (ac + 1) 20) (psh ac su n) rf := by
  refine kR_1 k ⟨hk, rfl, ?_⟩ ⟨rfl, rfl, rfl, rfl, rfl⟩
  rcases hb with ⟨h1, h2⟩ | ⟨h1, h2⟩
  · have : j = 0 := by omega
    subst this
    exact Or.inr ⟨rfl, h2⟩
  · have : j = 1 := by omega
    subst this
    exact Or.inl ⟨rfl, h2⟩
end KActs
theorem mu_xor {m d : Nat} (hm : m < 512) (hd : d < 9) : nI m ^^^ ((1 : Int32) <<< (nI d &&& 31)) = nI (m ^^^ 2 ^ d) ∧ m ^^^ 2 ^ d < 512 := by
  exact bt_x1 (n := 9) (by decide) hm hd
theorem muO_xor {mu : Nat → Bool} {ju : Int32} {d : Nat} (h : muO mu ju) (hd : d < 9) : muO (updG mu d (!mu d)) (ju ^^^ ((1 : Int32) <<< (nI d &&& 31))) := by
  obtain ⟨m, hm, rfl, hb⟩ := h
  have h1 := mu_xor hm hd
  refine ⟨m ^^^ 2 ^ d, h1.2, h1.1, fun j hj => ?_⟩
  rw [Nat.testBit_xor, Nat.testBit_two_pow, hb j hj]
  unfold updG
  by_cases e : j = d
  · subst e; rw [if_pos rfl]; simp
  · rw [if_neg e]
    have : decide (d = j) = false := by rw [decide_eq_false_iff_not]; exact fun q => e q.symm
    rw [this, Bool.xor_false]
/-! weeks that go: refused, done -/
theorem go_n {L : LkS} {dy : Nat} {n : KN} {lg : KLg} {ac : Nat} {su : Nat → KN} {rf rf2 : Nat → Int32} (h : ¬ (1 ≤ dy ∧ nWk n < 999 ∧ 0 < kNum L dy n)) (e : rf2 = upd rf 3 (rf 3 + 1)) : goR L dy n lg ac su rf (-1) n lg ac su rf2 := kB_0 h ⟨rfl, rfl, rfl, rfl, rfl, e⟩
theorem go_y {L : LkS} {dy : Nat} {n : KN} {lg : KLg} {ac : Nat} {su : Nat → KN} {rf : Nat → Int32} (h : 1 ≤ dy ∧ nWk n < 999 ∧ 0 < kNum L dy n) : goR L dy n lg ac su rf (nI (kLast L dy n 0)) (kPass L dy n 0) (kKeep L dy n lg 0) (min (ac + 1) 20) (psh ac su n) rf := kB_1 h ⟨rfl, rfl, rfl, rfl, rfl, rfl⟩
theorem ch_n {L : LkS} {dy : Nat} {n : KN} {lg : KLg} {ac : Nat} {su : Nat → KN} {sd : Nat} {rf rf2 : Nat → Int32} {c : Int32} (h : ∀ x, ¬ (1 ≤ dy ∧ 1 ≤ x ∧ x ≤ 30 ∧ c = nI x ∧ nWk n + x ≤ 999)) (e : rf2 = upd rf 3 (rf 3 + 1)) : chanceR L dy n lg ac su sd rf c (-1) n lg ac su sd rf2 := kR_0 h ⟨⟨rfl, rfl⟩, rfl, rfl, rfl, rfl, e⟩
theorem ch_y {L : LkS} {dy x w : Nat} {n n2 : KN} {lg lg2 : KLg} {ac : Nat} {su : Nat → KN} {sd sd2 : Nat} {rf : Nat → Int32} (h : 1 ≤ dy ∧ 1 ≤ x ∧ x ≤ 30 ∧ nWk n + x ≤ 999) (hk : kch L dy x (n, lg, sd) = ((n2, lg2, sd2), w)) : chanceR L dy n lg ac su sd rf (nI x) (nI w) n2 lg2 (min (ac + 1) 20) (psh ac su n) sd2 rf := kR_1 x ⟨h.1, h.2.1, h.2.2.1, rfl, h.2.2.2⟩ ⟨⟨by rw [hk], by rw [hk]⟩, by rw [hk], by rw [hk], rfl, rfl, rfl⟩
theorem kcl_i {k n : Nat} (hk : k < 2147483648) (hn : n < 9223372036854775808) : lg_cmp (Int32.toInt64 (nI k)) (Int64.ofNat n) < 0 ↔ k < n := by
  rw [kx_i2l hk, lg_cmp_lt, klt (by omega) hn]
/-! what is heard -/
def hrC (dy : Nat) (U : Nat → Bool) (tb : Nat → Nat) (i : Nat) : Prop := ∀ j, 2 * j < i → tb (2 * j) < dy ∧ ¬ U (tb (2 * j)) = true ∧ tb (2 * j + 1) < 10
theorem hrC_0 (dy : Nat) (U : Nat → Bool) (tb : Nat → Nat) : hrC dy U tb 0 := fun j hj => absurd hj (Nat.not_lt_zero _)
theorem hrC_s {dy : Nat} {U : Nat → Bool} {tb : Nat → Nat} {i : Nat} (h : hrC dy U tb i) (h2 : i % 2 = 0) (h1 : tb i < dy ∧ ¬ U (tb i) = true ∧ tb (i + 1) < 10) : hrC dy U tb (i + 2) := fun j hj => by
  by_cases q : 2 * j = i
  · rw [q]; exact h1
  · exact h j (by omega)
theorem hrC_n {dy : Nat} {U : Nat → Bool} {tb : Nat → Nat} {i t : Nat} (h2 : i % 2 = 0) (hi : i < t) (h : ¬ (tb i < dy ∧ ¬ U (tb i) = true ∧ tb (i + 1) < 10)) : ¬ hrC dy U tb t := fun q => h (by
  have := q (i / 2) (by omega)
  rw [show 2 * (i / 2) = i by omega] at this
  exact this)
theorem hrC_e {dy : Nat} {U : Nat → Bool} {tb : Nat → Nat} {i t : Nat} (h : hrC dy U tb i) (hi : t ≤ i) : hrC dy U tb t := fun j hj => h j (by omega)
theorem hr_s {tb : Nat → Nat} {i : Nat} {f g : Nat → Int32} (h : ∀ j, j < i → f j = nI (hrR tb j)) (e : g = upd f i (nI (tb (2 * i) * 10 + tb (2 * i + 1)))) : ∀ j, j < i + 1 → g j = nI (hrR tb j) := fun j hj => by
  by_cases q : j = i
  · subst q; rw [kui_s e]; rfl
  · rw [kui_n e q]; exact h j (by omega)
/-! the log, behind a week -/
theorem kkO_keep {L : LkS} {dy x : Nat} {n : KN} {lg : KLg} {p1 p3 r1 r3 : Nat → Int32} {p2 r2 : Nat → Int64} (h : kkO lg (nKe n) p1 p2 p3) (e1 : r1 = upd p1 (nKe n) (nI (nWk n))) (e2 : r2 = vp_updL p2 (nKe n) (Int64.ofNat (kNum L dy n))) (e3 : r3 = upd p3 (nKe n) (nI (kLast L dy n x))) : kkO (kKeep L dy n lg x) (nKe n + 1) r1 r2 r3 := kk_s h e1 e2 e3
set_option maxHeartbeats 4000000 in
set_option maxRecDepth 100000 in
theorem c_kbitCountX (l : Launch) (D : va_G) (cI cJ cC cZ cS : ClassId) (mz : Nat) (hm : mz < 512) : skM l yJ6_bitCount_0f7a4 cJ6_bitCount_0f7a4 1 (some .int) 0 0 0 0 D (skT cI cJ cC cZ cS) [.int (nI mz)] [] (skI D (skT cI cJ cC cZ cS) (fun (r : Int32) (u : va_W) => r = nI (kpop mz) ∧ u = [])) := by
  refine skM_of pf_J6_bitCount_0f7a4 (Nat.le_of_ble_eq_true rfl) ?_
  intro p e s m below meth c A ls E hP hD hl
  refine skE_el E (fun hx hb hr hml hlocks hin hown hts hK hA => ?_)
  have hown : s.vm.findClass RJ6 = some m.cls := hown
  have hS : va_S A s.heap s.heap [] := va_S.rf
  have hl : lv_has ls 1 [(0, .int (nI mz))] := hl
  refine lv_iload_n hx hb dJ6_bitCount_0f7a4_0 rfl (lv_at hl 0 rfl) ?_
  refine lv_iload_n hx hb dJ6_bitCount_0f7a4_1 rfl (lv_at hl 0 rfl) ?_
  refine lv_iconst (v := 1) hx hb dJ6_bitCount_0f7a4_2 (by decide) ?_
  refine lv_iushr (v := nI (mz / 2)) hx hb dJ6_bitCount_0f7a4_3 (nushr mz 1 (by omega) (by decide) 2 rfl) ?_
  refine lv_ldcw (v := 1431655765) hx hb hown (hts _ w_3_176) dJ6_bitCount_0f7a4_4 ?_
  refine lv_iand hx hb dJ6_bitCount_0f7a4_7 ?_
  refine lv_topi (fun v_1 ev_1 => ?_)
  refine lv_isub hx hb dJ6_bitCount_0f7a4_8 ?_
  refine lv_topi (fun v_2 ev_2 => ?_)
  refine lv_istore_n (lv' := [(0, .int v_2)]) hx hb dJ6_bitCount_0f7a4_9 rfl hl (by decide) rfl (fun ls hl => ?_)
  refine lv_iload_n hx hb dJ6_bitCount_0f7a4_10 rfl (lv_at hl 0 rfl) ?_
  refine lv_ldcw (v := 858993459) hx hb hown (hts _ w_3_177) dJ6_bitCount_0f7a4_11 ?_
  refine lv_iand hx hb dJ6_bitCount_0f7a4_14 ?_
  refine lv_topi (fun v_3 ev_3 => ?_)
  refine lv_iload_n hx hb dJ6_bitCount_0f7a4_15 rfl (lv_at hl 0 rfl) ?_
  refine lv_iconst (v := 2) hx hb dJ6_bitCount_0f7a4_16 (by decide) ?_
  refine lv_iushr hx hb dJ6_bitCount_0f7a4_17 rfl ?_
  refine lv_topi (fun v_4 ev_4 => ?_)
  refine lv_ldcw (v := 858993459) hx hb hown (hts _ w_3_177) dJ6_bitCount_0f7a4_18 ?_
  refine lv_iand hx hb dJ6_bitCount_0f7a4_21 ?_
  refine lv_topi (fun v_5 ev_5 => ?_)
  refine lv_iadd hx hb dJ6_bitCount_0f7a4_22 ?_
  refine lv_topi (fun v_6 ev_6 => ?_)
  refine lv_istore_n (lv' := [(0, .int v_6)]) hx hb dJ6_bitCount_0f7a4_23 rfl hl (by decide) rfl (fun ls hl => ?_)
  refine lv_iload_n hx hb dJ6_bitCount_0f7a4_24 rfl (lv_at hl 0 rfl) ?_
  refine lv_iload_n hx hb dJ6_bitCount_0f7a4_25 rfl (lv_at hl 0 rfl) ?_
  refine lv_iconst (v := 4) hx hb dJ6_bitCount_0f7a4_26 (by decide) ?_
  refine lv_iushr hx hb dJ6_bitCount_0f7a4_27 rfl ?_
  refine lv_topi (fun v_7 ev_7 => ?_)
  refine lv_iadd hx hb dJ6_bitCount_0f7a4_28 ?_
  refine lv_topi (fun v_8 ev_8 => ?_)
  refine lv_ldcw (v := 252645135) hx hb hown (hts _ w_3_178) dJ6_bitCount_0f7a4_29 ?_
  refine lv_iand hx hb dJ6_bitCount_0f7a4_32 ?_
  refine lv_topi (fun v_9 ev_9 => ?_)
  refine lv_istore_n (lv' := [(0, .int v_9)]) hx hb dJ6_bitCount_0f7a4_33 rfl hl (by decide) rfl (fun ls hl => ?_)
  refine lv_iload_n hx hb dJ6_bitCount_0f7a4_34 rfl (lv_at hl 0 rfl) ?_
  refine lv_iload_n hx hb dJ6_bitCount_0f7a4_35 rfl (lv_at hl 0 rfl) ?_
  refine lv_bipush (v := 8) hx hb dJ6_bitCount_0f7a4_36 (by decide) ?_
  refine lv_iushr hx hb dJ6_bitCount_0f7a4_38 rfl ?_
  refine lv_topi (fun v_10 ev_10 => ?_)
  refine lv_iadd hx hb dJ6_bitCount_0f7a4_39 ?_
  refine lv_topi (fun v_11 ev_11 => ?_)
  refine lv_istore_n (lv' := [(0, .int v_11)]) hx hb dJ6_bitCount_0f7a4_40 rfl hl (by decide) rfl (fun ls hl => ?_)
  refine lv_iload_n hx hb dJ6_bitCount_0f7a4_41 rfl (lv_at hl 0 rfl) ?_
  refine lv_iload_n hx hb dJ6_bitCount_0f7a4_42 rfl (lv_at hl 0 rfl) ?_
  refine lv_bipush (v := 16) hx hb dJ6_bitCount_0f7a4_43 (by decide) ?_
  refine lv_iushr hx hb dJ6_bitCount_0f7a4_45 rfl ?_
  refine lv_topi (fun v_12 ev_12 => ?_)
  refine lv_iadd hx hb dJ6_bitCount_0f7a4_46 ?_
  refine lv_topi (fun v_13 ev_13 => ?_)
  refine lv_istore_n (lv' := [(0, .int v_13)]) hx hb dJ6_bitCount_0f7a4_47 rfl hl (by decide) rfl (fun ls hl => ?_)
  refine lv_iload_n hx hb dJ6_bitCount_0f7a4_48 rfl (lv_at hl 0 rfl) ?_
  refine lv_bipush (v := 63) hx hb dJ6_bitCount_0f7a4_49 (by decide) ?_
  refine lv_iand hx hb dJ6_bitCount_0f7a4_51 ?_
  refine lv_topi (fun v_14 ev_14 => ?_)
  exact sk_iret hx hb hr rfl hlocks hK hP hD hS (⟨kpop_e hm ev_1 ev_2 ev_3 ev_4 ev_5 ev_6 ev_7 ev_8 ev_9 ev_10 ev_11 ev_12 ev_13 ev_14, rfl⟩) (Nat.le_of_ble_eq_true rfl) (Nat.le_of_ble_eq_true rfl) dJ6_bitCount_0f7a4_52
