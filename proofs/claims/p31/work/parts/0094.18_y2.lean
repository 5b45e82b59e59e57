/-! tests: signs, words, what is read -/
def wNot : List Nat := [110, 111, 116]
def wAnd : List Nat := [97, 110, 100]
def wOr : List Nat := [111, 114]
def wAll : List Nat := [97, 108, 108]
theorem tok275 {tb : Nat → Nat} {n : Nat} {c : Cur} (htb : ∀ j, tb j ≤ 255) : tokOf tb n c = 275 ↔ isW tb n wNot c = true := tok_W (k := 19) htb (by decide)
theorem tok274 {tb : Nat → Nat} {n : Nat} {c : Cur} (htb : ∀ j, tb j ≤ 255) : tokOf tb n c = 274 ↔ isW tb n wAnd c = true := tok_W (k := 18) htb (by decide)
theorem tok273 {tb : Nat → Nat} {n : Nat} {c : Cur} (htb : ∀ j, tb j ≤ 255) : tokOf tb n c = 273 ↔ isW tb n wOr c = true := tok_W (k := 17) htb (by decide)
theorem tok276 {tb : Nat → Nat} {n : Nat} {c : Cur} (htb : ∀ j, tb j ≤ 255) : tokOf tb n c = 276 ↔ isW tb n wAll c = true := tok_W (k := 20) htb (by decide)
theorem tok91 {tb : Nat → Nat} {n : Nat} {c : Cur} (htb : ∀ j, tb j ≤ 255) : tokOf tb n c = 91 ↔ isS tb n 91 c = true := tok_S (b := 91) htb (by decide)
theorem tok60 {tb : Nat → Nat} {n : Nat} {c : Cur} (htb : ∀ j, tb j ≤ 255) : tokOf tb n c = 60 ↔ isS tb n 60 c = true := tok_S (b := 60) htb (by decide)
theorem tok61 {tb : Nat → Nat} {n : Nat} {c : Cur} (htb : ∀ j, tb j ≤ 255) : tokOf tb n c = 61 ↔ isS tb n 61 c = true := tok_S (b := 61) htb (by decide)
theorem tok62 {tb : Nat → Nat} {n : Nat} {c : Cur} (htb : ∀ j, tb j ≤ 255) : tokOf tb n c = 62 ↔ isS tb n 62 c = true := tok_S (b := 62) htb (by decide)
theorem tk93 {tb : Nat → Nat} {n : Nat} (htb : ∀ j, tb j ≤ 255) : tkF tb n 93 = signP tb n 93 := tkF_sign (b := 93) htb (by decide)
def andR (tb : Nat → Nat) (n : Nat) (F : Cur → Res) : Nat → Cur → List Nat → Res
  | 0, _, _ => .error (0, 0)
  | f + 1, c, k => if isW tb n wAnd c = true then bindR (F (nx tb n c.1)) (fun r => andR tb n F f r.1 (k ++ r.2 ++ [10])) else .ok (c, k)
def bothR (tb : Nat → Nat) (n : Nat) (F : Cur → Res) (c : Cur) : Res := bindR (F c) (fun r => andR tb n F (n + 2) r.1 r.2)
def orR (tb : Nat → Nat) (n : Nat) (F : Cur → Res) : Nat → Cur → List Nat → Res
  | 0, _, _ => .error (0, 0)
  | f + 1, c, k => if isW tb n wOr c = true then bindR (bothR tb n F (nx tb n c.1)) (fun r => orR tb n F f r.1 (k ++ r.2 ++ [11])) else .ok (c, k)
def testR (tb : Nat → Nat) (n : Nat) (F : Cur → Res) (c : Cur) : Res := bindR (bothR tb n F c) (fun r => orR tb n F (n + 2) r.1 r.2)
def relV (tb : Nat → Nat) (n : Nat) (c : Cur) : Option Nat := if isS tb n 60 c = true then some 7 else if isS tb n 62 c = true then some 8 else if isS tb n 61 c = true then some 9 else none
def relB (tb : Nat → Nat) (n d : Nat) (r : Cur × List Nat) : Res := match relV tb n r.1 with
  | some v => bindR (sumOf tb n (rdPart tb n 2 d) (nx tb n r.1.1)) (fun q => .ok (q.1, r.2 ++ q.2 ++ [v]))
  | none => .error (1, r.1.1)
def relR (tb : Nat → Nat) (n d : Nat) (c : Cur) : Res := bindR (sumOf tb n (rdPart tb n 2 d) c) (relB tb n d)
def fcB (tb : Nat → Nat) (n d : Nat) (Q : Option (Cur → Res)) (c : Cur) : Res :=
  if isW tb n wNot c = true then
    (match Q with
     | none => .error (4, c.1)
     | some F => bindR (F (nx tb n c.1)) (fun r => .ok (r.1, r.2 ++ [12])))
  else if isS tb n 91 c = true then
    (match Q with
     | none => .error (4, c.1)
     | some F => bindR (testR tb n F (nx tb n c.1)) (fun r => bindR (signP tb n 93 r.1) (fun c1 => .ok (c1, r.2))))
  else if isW tb n wAll c = true then .ok (nx tb n c.1, [13])
  else relR tb n d c
def fcR (tb : Nat → Nat) (n : Nat) : Nat → Cur → Res
  | 0, c => fcB tb n 0 none c
  | d + 1, c => fcB tb n (d + 1) (some (fcR tb n d)) c
/-! they never go back -/
theorem andR_mono {tb : Nat → Nat} {n : Nat} {F : Cur → Res} (hF : mono F) : ∀ f c k r, andR tb n F f c k = .ok r → c.1 ≤ r.1.1
  | 0, c, k, r, h => by cases h
  | f + 1, c, k, r, h => by
    rw [andR] at h
    split at h
    · next hs =>
      have hn := nx_gt (tb := tb) (isW_lt hs)
      obtain ⟨a, h1, h2⟩ := bindR_ok h
      have b1 := hF _ _ h1
      have b2 := andR_mono hF f _ _ _ h2
      omega
    · cases h; exact Nat.le_refl _
theorem bothR_mono {tb : Nat → Nat} {n : Nat} {F : Cur → Res} (hF : mono F) : mono (bothR tb n F) := by
  intro c r h
  obtain ⟨a, h1, h2⟩ := bindR_ok h
  have b1 := hF _ _ h1
  have b2 := andR_mono hF _ _ _ _ h2
  omega
theorem orR_mono {tb : Nat → Nat} {n : Nat} {F : Cur → Res} (hF : mono F) : ∀ f c k r, orR tb n F f c k = .ok r → c.1 ≤ r.1.1
  | 0, c, k, r, h => by cases h
  | f + 1, c, k, r, h => by
    rw [orR] at h
    split at h
    · next hs =>
      have hn := nx_gt (tb := tb) (isW_lt hs)
      obtain ⟨a, h1, h2⟩ := bindR_ok h
      have b1 := bothR_mono hF _ _ h1
      have b2 := orR_mono hF f _ _ _ h2
      omega
    · cases h; exact Nat.le_refl _
theorem testR_mono {tb : Nat → Nat} {n : Nat} {F : Cur → Res} (hF : mono F) : mono (testR tb n F) := by
  intro c r h
  obtain ⟨a, h1, h2⟩ := bindR_ok h
  have b1 := bothR_mono hF _ _ h1
  have b2 := orR_mono hF _ _ _ _ h2
  omega
theorem relR_mono {tb : Nat → Nat} {n d : Nat} : mono (relR tb n d) := by
  intro c r h
  obtain ⟨a, h1, h2⟩ := bindR_ok h
  have b1 := sumOf_mono rdPart_mono _ _ h1
  unfold relB at h2
  split at h2
  · obtain ⟨q, h3, h4⟩ := bindR_ok h2
    cases h4
    have b2 := sumOf_mono rdPart_mono _ _ h3
    have b3 := nx_ge tb n a.1.1
    show c.1 ≤ q.1.1
    omega
  · cases h2
theorem fcB_mono {tb : Nat → Nat} {n d : Nat} {Q : Option (Cur → Res)} (hQ : ∀ F, Q = some F → mono F) : mono (fcB tb n d Q) := by
  intro c r h
  unfold fcB at h
  have hg := nx_ge tb n c.1
  split at h
  · cases Q with
    | none => cases h
    | some F =>
      obtain ⟨a, h1, h2⟩ := bindR_ok h
      cases h2
      have b1 := hQ F rfl _ _ h1
      show c.1 ≤ a.1.1
      omega
  · split at h
    · cases Q with
      | none => cases h
      | some F =>
        obtain ⟨a, h1, h2⟩ := bindR_ok h
        obtain ⟨c1, h3, h4⟩ := bindR_ok h2
        cases h4
        have b1 := testR_mono (hQ F rfl) _ _ h1
        have b2 := (signP_ok h3).2.2
        show c.1 ≤ c1.1
        omega
    · split at h
      · cases h; exact hg
      · exact relR_mono _ _ h
theorem fcR_mono {tb : Nat → Nat} {n : Nat} : ∀ d, mono (fcR tb n d)
  | 0 => fun c r h => fcB_mono (Q := none) (fun F hF => by cases hF) c r h
  | d + 1 => fun c r h => fcB_mono (Q := some (fcR tb n d)) (fun F hF => by cases hF; exact fcR_mono d) c r h
/-! enough rounds are enough -/
theorem andR_fuel {tb : Nat → Nat} {n : Nat} {F : Cur → Res} (hF : mono F) : ∀ f g c k, n < f + c.1 → n < g + c.1 → 1 ≤ f → 1 ≤ g → andR tb n F f c k = andR tb n F g c k
  | 0, g, c, k, _, _, h, _ => absurd h (by omega)
  | f + 1, 0, c, k, _, _, _, h => absurd h (by omega)
  | f + 1, g + 1, c, k, h1, h2, _, _ => by
    rw [andR, andR]
    split
    · next hs =>
      have hl := isW_lt hs
      have hn := nx_gt (tb := tb) hl
      refine bindR_congr _ (fun a ha => ?_)
      have h3 := hF _ _ ha
      exact andR_fuel hF f g _ _ (by omega) (by omega) (by omega) (by omega)
    · rfl
theorem orR_fuel {tb : Nat → Nat} {n : Nat} {F : Cur → Res} (hF : mono F) : ∀ f g c k, n < f + c.1 → n < g + c.1 → 1 ≤ f → 1 ≤ g → orR tb n F f c k = orR tb n F g c k
  | 0, g, c, k, _, _, h, _ => absurd h (by omega)
  | f + 1, 0, c, k, _, _, _, h => absurd h (by omega)
  | f + 1, g + 1, c, k, h1, h2, _, _ => by
    rw [orR, orR]
    split
    · next hs =>
      have hl := isW_lt hs
      have hn := nx_gt (tb := tb) hl
      refine bindR_congr _ (fun a ha => ?_)
      have h3 := bothR_mono hF _ _ ha
      exact orR_fuel hF f g _ _ (by omega) (by omega) (by omega) (by omega)
    · rfl
theorem andR_stop {tb : Nat → Nat} {n : Nat} {F : Cur → Res} {f : Nat} {c : Cur} {k : List Nat} (h : ¬ isW tb n wAnd c = true) : andR tb n F (f + 1) c k = .ok (c, k) := by rw [andR, if_neg h]
theorem orR_stop {tb : Nat → Nat} {n : Nat} {F : Cur → Res} {f : Nat} {c : Cur} {k : List Nat} (h : ¬ isW tb n wOr c = true) : orR tb n F (f + 1) c k = .ok (c, k) := by rw [orR, if_neg h]
theorem andR_pre {tb : Nat → Nat} {n : Nat} {F : Cur → Res} (k : List Nat) : ∀ f c q, andR tb n F f c (k ++ q) = bindR (andR tb n F f c q) (fun r => .ok (r.1, k ++ r.2))
  | 0, c, q => rfl
  | f + 1, c, q => by
    rw [andR, andR]
    split
    · rw [bindR_assoc]
      refine bindR_congr _ (fun a _ => ?_)
      rw [← andR_pre k f, List.append_assoc, List.append_assoc, List.append_assoc]
    · rfl
theorem orR_pre {tb : Nat → Nat} {n : Nat} {F : Cur → Res} (k : List Nat) : ∀ f c q, orR tb n F f c (k ++ q) = bindR (orR tb n F f c q) (fun r => .ok (r.1, k ++ r.2))
  | 0, c, q => rfl
  | f + 1, c, q => by
    rw [orR, orR]
    split
    · rw [bindR_assoc]
      refine bindR_congr _ (fun a _ => ?_)
      rw [← orR_pre k f, List.append_assoc, List.append_assoc, List.append_assoc]
    · rfl
/-! no more steps than bytes -/
theorem andR_len {tb : Nat → Nat} {n : Nat} {F : Cur → Res} (hF : lenP F) : ∀ f c k r, andR tb n F f c k = .ok r → r.2.length + c.1 ≤ r.1.1 + k.length
  | 0, c, k, r, h => by cases h
  | f + 1, c, k, r, h => by
    rw [andR] at h
    split at h
    · next hs =>
      have hn := nx_gt (tb := tb) (isW_lt hs)
      obtain ⟨a, h1, h2⟩ := bindR_ok h
      have b1 := hF _ _ h1
      have b2 := andR_len hF f _ _ _ h2
      rw [List.length_append, List.length_append, List.length_singleton] at b2
      omega
    · cases h; show k.length + c.1 ≤ c.1 + k.length; omega
theorem len_both {tb : Nat → Nat} {n : Nat} {F : Cur → Res} (hF : lenP F) : lenP (bothR tb n F) := fun c q h => by
  obtain ⟨a, h1, h2⟩ := bindR_ok h
  have b1 := hF _ _ h1
  have b2 := andR_len hF _ _ _ _ h2
  omega
theorem orR_len {tb : Nat → Nat} {n : Nat} {F : Cur → Res} (hF : lenP F) : ∀ f c k r, orR tb n F f c k = .ok r → r.2.length + c.1 ≤ r.1.1 + k.length
  | 0, c, k, r, h => by cases h
  | f + 1, c, k, r, h => by
    rw [orR] at h
    split at h
    · next hs =>
      have hn := nx_gt (tb := tb) (isW_lt hs)
      obtain ⟨a, h1, h2⟩ := bindR_ok h
      have b1 := len_both hF _ _ h1
      have b2 := orR_len hF f _ _ _ h2
      rw [List.length_append, List.length_append, List.length_singleton] at b2
      omega
    · cases h; show k.length + c.1 ≤ c.1 + k.length; omega
theorem len_test {tb : Nat → Nat} {n : Nat} {F : Cur → Res} (hF : lenP F) : lenP (testR tb n F) := fun c q h => by
  obtain ⟨a, h1, h2⟩ := bindR_ok h
  have b1 := len_both hF _ _ h1
  have b2 := orR_len hF _ _ _ _ h2
  omega
theorem relV_lt {tb : Nat → Nat} {n v : Nat} {c : Cur} (h : relV tb n c = some v) : c.1 < n := by
  unfold relV at h
  split at h
  · next hs => exact (isS_lt hs).1
  · split at h
    · next hs => exact (isS_lt hs).1
    · split at h
      · next hs => exact (isS_lt hs).1
      · cases h
theorem len_rel {tb : Nat → Nat} {n d : Nat} : lenP (relR tb n d) := fun c q h => by
  obtain ⟨a, h1, h2⟩ := bindR_ok h
  have b1 := len_sum (len_part d) _ _ h1
  unfold relB at h2
  split at h2
  · next v hv =>
    obtain ⟨z, h3, h4⟩ := bindR_ok h2
    cases h4
    have b2 := len_sum (len_part d) _ _ h3
    have b3 := nx_gt (tb := tb) (relV_lt hv)
    show (a.2 ++ z.2 ++ [v]).length + c.1 ≤ z.1.1
    rw [List.length_append, List.length_append, List.length_singleton]
    omega
  · cases h2
theorem len_fcB {tb : Nat → Nat} {n d : Nat} {Q : Option (Cur → Res)} (hQ : ∀ F, Q = some F → lenP F) : lenP (fcB tb n d Q) := fun c r h => by
  unfold fcB at h
  split at h
  · next hw =>
    have hn := nx_gt (tb := tb) (isW_lt hw)
    cases Q with
    | none => cases h
    | some F =>
      obtain ⟨a, h1, h2⟩ := bindR_ok h
      cases h2
      have b1 := hQ F rfl _ _ h1
      show (a.2 ++ [12]).length + c.1 ≤ a.1.1
      rw [List.length_append, List.length_singleton]
      omega
  · split at h
    · next hs =>
      have hn := nx_gt (tb := tb) (isS_lt hs).1
      cases Q with
      | none => cases h
      | some F =>
        obtain ⟨a, h1, h2⟩ := bindR_ok h
        obtain ⟨c1, h3, h4⟩ := bindR_ok h2
        cases h4
        have b1 := len_test (hQ F rfl) _ _ h1
        have b2 := (signP_ok h3).2.2
        show a.2.length + c.1 ≤ c1.1
        omega
    · split at h
      · next hw =>
        have hn := nx_gt (tb := tb) (isW_lt hw)
        cases h
        show 1 + c.1 ≤ (nx tb n c.1).1
        omega
      · exact len_rel _ _ h
theorem len_fc {tb : Nat → Nat} {n : Nat} : ∀ d, lenP (fcR tb n d)
  | 0 => fun c r h => len_fcB (Q := none) (fun F hF => by cases hF) c r h
  | d + 1 => fun c r h => len_fcB (Q := some (fcR tb n d)) (fun F hF => by cases hF; exact len_fc d) c r h
/-! a fact, by its token -/
theorem fB_not {tb : Nat → Nat} {n d : Nat} {c : Cur} (htb : ∀ j, tb j ≤ 255) (h : tokOf tb n c = 275) : fcR tb n (d + 1) c = bindR (fcR tb n d (nx tb n c.1)) (fun r => .ok (r.1, r.2 ++ [12])) := by
  rw [fcR, fcB, if_pos ((tok275 htb).mp h)]
theorem fB_not0 {tb : Nat → Nat} {n : Nat} {c : Cur} (htb : ∀ j, tb j ≤ 255) (h : tokOf tb n c = 275) : fcR tb n 0 c = .error (4, c.1) := by
  rw [fcR, fcB, if_pos ((tok275 htb).mp h)]
theorem t_noN {tb : Nat → Nat} {n : Nat} {c : Cur} (htb : ∀ j, tb j ≤ 255) {w : Int32} (h : tokOf tb n c = w) (hw : ¬ w = 275) : ¬ isW tb n wNot c = true := fun q => hw (h.symm.trans ((tok275 htb).mpr q))
theorem fB_sq {tb : Nat → Nat} {n d : Nat} {c : Cur} (htb : ∀ j, tb j ≤ 255) (h : tokOf tb n c = 91) : fcR tb n (d + 1) c = bindR (testR tb n (fcR tb n d) (nx tb n c.1)) (fun r => bindR (signP tb n 93 r.1) (fun c1 => .ok (c1, r.2))) := by
  rw [fcR, fcB, if_neg (t_noN htb h (by decide)), if_pos ((tok91 htb).mp h)]
theorem fB_sq0 {tb : Nat → Nat} {n : Nat} {c : Cur} (htb : ∀ j, tb j ≤ 255) (h : tokOf tb n c = 91) : fcR tb n 0 c = .error (4, c.1) := by
  rw [fcR, fcB, if_neg (t_noN htb h (by decide)), if_pos ((tok91 htb).mp h)]
theorem fcR_B (tb : Nat → Nat) (n d : Nat) (c : Cur) : ∃ Q, fcR tb n d c = fcB tb n d Q c := by
  cases d with
  | zero => exact ⟨none, rfl⟩
  | succ d => exact ⟨some (fcR tb n d), rfl⟩
theorem fB_all {tb : Nat → Nat} {n d : Nat} {c : Cur} (htb : ∀ j, tb j ≤ 255) (h : tokOf tb n c = 276) : fcR tb n d c = .ok (nx tb n c.1, [13]) := by
  obtain ⟨Q, e⟩ := fcR_B tb n d c
  rw [e]
  unfold fcB
  rw [if_neg (t_noN htb h (by decide)), if_neg (fun q => absurd (h.symm.trans ((tok91 htb).mpr q)) (by decide)), if_pos ((tok276 htb).mp h)]
theorem fB_rel {tb : Nat → Nat} {n d : Nat} {c : Cur} (htb : ∀ j, tb j ≤ 255) (h1 : ¬ tokOf tb n c = 275) (h2 : ¬ tokOf tb n c = 91) (h3 : ¬ tokOf tb n c = 276) : fcR tb n d c = relR tb n d c := by
  obtain ⟨Q, e⟩ := fcR_B tb n d c
  rw [e]
  unfold fcB
  rw [if_neg (fun q => h1 ((tok275 htb).mpr q)), if_neg (fun q => h2 ((tok91 htb).mpr q)), if_neg (fun q => h3 ((tok276 htb).mpr q))]
def relT (t : Int32) (v : Nat) : Prop := (t = 60 ∧ v = 7) ∨ (t = 62 ∧ v = 8) ∨ (t = 61 ∧ v = 9)
theorem relT_real {t : Int32} {v : Nat} (h : relT t v) : ¬ t = -1 ∧ ¬ t = -2 := by
  rcases h with ⟨h, -⟩ | ⟨h, -⟩ | ⟨h, -⟩ <;> (rw [h]; decide)
theorem relV_some {tb : Nat → Nat} {n v : Nat} {c : Cur} (htb : ∀ j, tb j ≤ 255) (h : relT (tokOf tb n c) v) : relV tb n c = some v := by
  unfold relV
  rcases h with ⟨h, e⟩ | ⟨h, e⟩ | ⟨h, e⟩
  · rw [if_pos ((tok60 htb).mp h), e]
  · rw [if_neg (fun q => absurd (h.symm.trans ((tok60 htb).mpr q)) (by decide)), if_pos ((tok62 htb).mp h), e]
  · rw [if_neg (fun q => absurd (h.symm.trans ((tok60 htb).mpr q)) (by decide)), if_neg (fun q => absurd (h.symm.trans ((tok62 htb).mpr q)) (by decide)), if_pos ((tok61 htb).mp h), e]
theorem relV_none {tb : Nat → Nat} {n : Nat} {c : Cur} (htb : ∀ j, tb j ≤ 255) (h1 : ¬ tokOf tb n c = 60) (h2 : ¬ tokOf tb n c = 62) (h3 : ¬ tokOf tb n c = 61) : relV tb n c = none := by
  unfold relV
  rw [if_neg (fun q => h1 ((tok60 htb).mpr q)), if_neg (fun q => h2 ((tok62 htb).mpr q)), if_neg (fun q => h3 ((tok61 htb).mpr q))]
/-! what the class does with a fact is the fact -/
theorem op_ok {tb : Nat → Nat} {n xo : Nat} {w : Int32} {r : Cur × List Nat} (ht : tokOf tb n r.1 = w) (hx : xo < 6) : bd (.ok r) (opF tb n w xo) = .ok (nx tb n r.1.1, r.2) := by
  show bindR (opF tb n w xo r.1) _ = _
  unfold opF; rw [if_pos ht, if_pos hx]; rfl
theorem f_not {tb : Nat → Nat} {n d xo : Nat} {o : Res} {xa : Nat} {xv xt : Int32} {xz : Nat} {xf xp : Int32} {cl mw : Nat} {f : Nat → Int32} (htb : ∀ j, tb j ≤ 255) (h : rsO tb n o xa xv xt xz xf xp cl mw f) (e : xt = 275) (hx : xo < 6) (hd : 1 ≤ d) : ad (bindR (bd o (opF tb n 275 xo)) (apF (fcR tb n (d - 1)))) 12 = bindR o (apF (fcR tb n d)) := by
  obtain ⟨d, rfl⟩ : ∃ m, d = m + 1 := ⟨d - 1, by omega⟩
  rw [Nat.add_sub_cancel]
  cases o with
  | error e => rfl
  | ok r =>
    have ht := (rs_t h rfl).symm.trans e
    rw [op_ok ht hx]
    show bindR (bindR (fcR tb n d (nx tb n r.1.1)) _) _ = bindR (fcR tb n (d + 1) r.1) _
    rw [fB_not htb ht, bindR_assoc, bindR_assoc]
    refine bindR_congr _ (fun a _ => ?_)
    show Except.ok (a.1, (r.2 ++ a.2) ++ [12]) = Except.ok (a.1, r.2 ++ (a.2 ++ [12]))
    rw [List.append_assoc]
