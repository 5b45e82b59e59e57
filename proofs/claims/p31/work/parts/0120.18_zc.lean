theorem chanceR_ok {L : LkS} {dy : Nat} {n : KN} {lg : KLg} {ac : Nat} {su : Nat → KN} {sd : Nat} {rf : Nat → Int32} {c r : Int32} {n2 : KN} {lg2 : KLg} {ac2 : Nat} {su2 : Nat → KN} {sd2 : Nat} {rf2 : Nat → Int32} (h : chanceR L dy n lg ac su sd rf c r n2 lg2 ac2 su2 sd2 rf2) (h9 : dy ≤ 9) (hk : sOk dy n ac su) (hl : lgOk lg) (hs : sd < 2147483648) : sOk dy n2 ac2 su2 ∧ lgOk lg2 ∧ sd2 < 2147483648 := by
  rcases h with ⟨-, ⟨rfl, rfl⟩, -, rfl, rfl, rfl, -⟩ | ⟨x, hx, ⟨rfl, rfl⟩, -, rfl, rfl, rfl, -⟩
  · exact ⟨hk, hl, hs⟩
  · have h1 := kcOk_n (L := L) hx.1 h9 x (n, lg, sd) ⟨hk.1, hl, hs⟩ hx.2.2.2.2
    exact ⟨sOk_push hk h1.1.1 h1.2, h1.1.2.1, h1.1.2.2⟩
/-! undone, the seed -/
def undoR (n : KN) (ac : Nat) (su : Nat → KN) (rf : Nat → Int32) (r : Int32) (n2 : KN) (ac2 : Nat) (rf2 : Nat → Int32) : Prop :=
  kB (1 ≤ ac) (r = 1 ∧ n2 = su (ac - 1) ∧ ac2 = ac - 1 ∧ rf2 = rf) (r = 0 ∧ n2 = n ∧ ac2 = ac ∧ rf2 = upd rf 4 (rf 4 + 1))
theorem undoR_eq {n : KN} {ac : Nat} {su : Nat → KN} {rf : Nat → Int32} {r q : Int32} {n2 n3 : KN} {ac2 ac3 : Nat} {rf2 rf3 : Nat → Int32} (h1 : undoR n ac su rf r n2 ac2 rf2) (h2 : undoR n ac su rf q n3 ac3 rf3) : r = q ∧ n2 = n3 ∧ ac2 = ac3 ∧ rf2 = rf3 :=
  kB_eq h1 h2 (fun a b => ⟨a.1.trans b.1.symm, a.2.1.trans b.2.1.symm, a.2.2.1.trans b.2.2.1.symm, a.2.2.2.trans b.2.2.2.symm⟩) (fun a b => ⟨a.1.trans b.1.symm, a.2.1.trans b.2.1.symm, a.2.2.1.trans b.2.2.1.symm, a.2.2.2.trans b.2.2.2.symm⟩)
theorem undoR_ok {dy : Nat} {n : KN} {ac : Nat} {su : Nat → KN} {rf : Nat → Int32} {r : Int32} {n2 : KN} {ac2 : Nat} {rf2 : Nat → Int32} (h : undoR n ac su rf r n2 ac2 rf2) (hk : sOk dy n ac su) : sOk dy n2 ac2 su := by
  rcases h with ⟨c, -, rfl, rfl, -⟩ | ⟨-, -, rfl, rfl, -⟩
  · exact sOk_pop hk c
  · exact hk
def seedR (sd : Nat) (rf : Nat → Int32) (s r : Int32) (sd2 : Nat) (rf2 : Nat → Int32) : Prop :=
  kR (fun x : Nat => x < 2147483648 ∧ s = nI x) (r = 0 ∧ sd2 = sd ∧ rf2 = upd rf 5 (rf 5 + 1)) (fun x => r = 1 ∧ sd2 = x ∧ rf2 = rf)
theorem seedR_eq {sd : Nat} {rf : Nat → Int32} {s r q : Int32} {sd2 sd3 : Nat} {rf2 rf3 : Nat → Int32} (h1 : seedR sd rf s r sd2 rf2) (h2 : seedR sd rf s q sd3 rf3) : r = q ∧ sd2 = sd3 ∧ rf2 = rf3 :=
  kR_eq h1 h2 (fun x y a b => kIe a.2 b.2 a.1 b.1) (fun a b => ⟨a.1.trans b.1.symm, a.2.1.trans b.2.1.symm, a.2.2.trans b.2.2.symm⟩) (fun _ a b => ⟨a.1.trans b.1.symm, a.2.1.trans b.2.1.symm, a.2.2.trans b.2.2.symm⟩)
theorem seedR_ok {sd : Nat} {rf : Nat → Int32} {s r : Int32} {sd2 : Nat} {rf2 : Nat → Int32} (h : seedR sd rf s r sd2 rf2) (hs : sd < 2147483648) : sd2 < 2147483648 := by
  rcases h with ⟨-, -, rfl, -⟩ | ⟨x, hx, -, rfl, -⟩
  · exact hs
  · exact hx.1
/-! what is heard -/
def hearC (dy : Nat) (U : Nat → Bool) (tb : Nat → Nat) (t : Nat) : Prop := 1 ≤ dy ∧ 2 ≤ t ∧ t ≤ 32 ∧ t % 2 = 0 ∧ ∀ i, 2 * i < t → tb (2 * i) < dy ∧ ¬ U (tb (2 * i)) = true ∧ tb (2 * i + 1) < 10
def hrR (tb : Nat → Nat) (i : Nat) : Nat := tb (2 * i) * 10 + tb (2 * i + 1)
def hearR (dy : Nat) (U : Nat → Bool) (tb : Nat → Nat) (t hn : Nat) (hR : Nat → Nat) (rf : Nat → Int32) (r : Int32) (hn2 : Nat) (hR2 : Nat → Nat) (rf2 : Nat → Int32) : Prop :=
  kB (hearC dy U tb t) (r = nI (t / 2) ∧ hn2 = t / 2 ∧ hR2 = hrR tb ∧ rf2 = rf) (r = -1 ∧ hn2 = hn ∧ hR2 = hR ∧ rf2 = upd rf 1 (rf 1 + 1))
theorem hearR_eq {dy : Nat} {U : Nat → Bool} {tb : Nat → Nat} {t hn : Nat} {hR : Nat → Nat} {rf : Nat → Int32} {r q : Int32} {hn2 hn3 : Nat} {hR2 hR3 : Nat → Nat} {rf2 rf3 : Nat → Int32} (h1 : hearR dy U tb t hn hR rf r hn2 hR2 rf2) (h2 : hearR dy U tb t hn hR rf q hn3 hR3 rf3) : r = q ∧ hn2 = hn3 ∧ hR2 = hR3 ∧ rf2 = rf3 :=
  kB_eq h1 h2 (fun a b => ⟨a.1.trans b.1.symm, a.2.1.trans b.2.1.symm, a.2.2.1.trans b.2.2.1.symm, a.2.2.2.trans b.2.2.2.symm⟩) (fun a b => ⟨a.1.trans b.1.symm, a.2.1.trans b.2.1.symm, a.2.2.1.trans b.2.2.1.symm, a.2.2.2.trans b.2.2.2.symm⟩)
theorem hearR_ok {dy : Nat} {U : Nat → Bool} {tb : Nat → Nat} {t hn : Nat} {hR : Nat → Nat} {rf : Nat → Int32} {r : Int32} {hn2 : Nat} {hR2 : Nat → Nat} {rf2 : Nat → Int32} (h : hearR dy U tb t hn hR rf r hn2 hR2 rf2) (h9 : dy ≤ 9) (h1 : hn ≤ 16) (h2 : ∀ j, j < hn → hR j < 10 * dy) : hn2 ≤ 16 ∧ ∀ j, j < hn2 → hR2 j < 10 * dy := by
  rcases h with ⟨⟨c1, c2, c3, c4, c5⟩, -, rfl, rfl, -⟩ | ⟨-, -, rfl, rfl, -⟩
  · refine ⟨by omega, fun j hj => ?_⟩
    have := c5 j (by omega)
    show tb (2 * j) * 10 + tb (2 * j + 1) < 10 * dy
    omega
  · exact ⟨h1, h2⟩
/-! the lock -/
def lkN (L : LkS) : KN := (0, lM L, lB L, lW L, lU L, 0)
def lockR (tb : Nat → Nat) (t : Nat) (L : LkS) (dy : Nat) (n : KN) (ac hn : Nat) (rf : Nat → Int32) (r : Int32) (L2 : LkS) (d2 : Nat) (n2 : KN) (ac2 hn2 : Nat) (rf2 : Nat → Int32) : Prop := match lockP tb t with
  | .ok x => r = nI x.2 ∧ L2 = x.1 ∧ d2 = lD x.1 ∧ n2 = lkN x.1 ∧ ac2 = 0 ∧ hn2 = 0 ∧ rf2 = rf
  | .error _ => r = -1 ∧ L2 = L ∧ d2 = dy ∧ n2 = n ∧ ac2 = ac ∧ hn2 = hn ∧ rf2 = upd rf 1 (rf 1 + 1)
theorem lockR_eq {tb : Nat → Nat} {t : Nat} {L : LkS} {dy : Nat} {n : KN} {ac hn : Nat} {rf : Nat → Int32} {r q : Int32} {L2 L3 : LkS} {d2 d3 : Nat} {n2 n3 : KN} {ac2 hn2 ac3 hn3 : Nat} {rf2 rf3 : Nat → Int32} (h1 : lockR tb t L dy n ac hn rf r L2 d2 n2 ac2 hn2 rf2) (h2 : lockR tb t L dy n ac hn rf q L3 d3 n3 ac3 hn3 rf3) : r = q ∧ L2 = L3 ∧ d2 = d3 ∧ n2 = n3 ∧ ac2 = ac3 ∧ hn2 = hn3 ∧ rf2 = rf3 := by
  unfold lockR at h1 h2
  cases hP : lockP tb t with
  | ok x =>
    rw [hP] at h1 h2
    obtain ⟨a1, a2, a3, a4, a5, a6, a7⟩ := h1
    obtain ⟨b1, b2, b3, b4, b5, b6, b7⟩ := h2
    exact ⟨a1.trans b1.symm, a2.trans b2.symm, a3.trans b3.symm, a4.trans b4.symm, a5.trans b5.symm, a6.trans b6.symm, a7.trans b7.symm⟩
  | error x =>
    rw [hP] at h1 h2
    obtain ⟨a1, a2, a3, a4, a5, a6, a7⟩ := h1
    obtain ⟨b1, b2, b3, b4, b5, b6, b7⟩ := h2
    exact ⟨a1.trans b1.symm, a2.trans b2.symm, a3.trans b3.symm, a4.trans b4.symm, a5.trans b5.symm, a6.trans b6.symm, a7.trans b7.symm⟩
theorem nOk_lock {L : LkS} (h : kcL9 L) : nOk (lD L) (lkN L) := ⟨Nat.zero_le _, h.2.2.1, h.2.2.2.1, h.2.2.2.2.1, h.2.2.2.2.2.1, Nat.le_refl _⟩

