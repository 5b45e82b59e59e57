theorem lb_no {qt : Nat → Nat} {b w : Nat} {r : Int32} (h : lbO qt b w r) (hr : r = -1) : nbr qt b w := by
  rcases h with ⟨-, h⟩ | ⟨k, k1, k2, k3, k4, k5, k6⟩
  · exact h
  · have h5 : (nI (qt k)).toInt = (qt k : Int) := ivn _ (by omega)
    rw [← k5, hr] at h5
    have h6 : ((-1 : Int32)).toInt = -1 := by decide
    rw [h6] at h5
    omega
theorem nbr_at {qt : Nat → Nat} {a w j : Nat} (h : nbr qt a w) (h1 : a ≤ j) (h2 : j < w) : ¬ (20 ≤ qt j ∧ qt j ≤ 24) := h j h1 h2
def hasQ (qt : Nat → Nat) (w : Nat) : Prop := ∃ j, j < w ∧ qt j = 25
def noQ (qt : Nat → Nat) (w : Nat) : Prop := ∀ j, j < w → ¬ qt j = 25
theorem noQ_0 {qt : Nat → Nat} : noQ qt 0 := fun j h => absurd h (by omega)
theorem noQ_s {qt : Nat → Nat} {w : Nat} (h : noQ qt w) (h1 : ¬ qt w = 25) : noQ qt (w + 1) := by
  intro j hj
  by_cases q : j = w
  · subst q; exact h1
  · exact h j (by omega)
theorem noQ_at {qt : Nat → Nat} {w j : Nat} (h : noQ qt w) (h1 : j < w) : ¬ qt j = 25 := h j h1
theorem noQ_le {qt : Nat → Nat} {w v : Nat} (h : noQ qt w) (h1 : v ≤ w) : noQ qt v := fun j hj => h j (by omega)
theorem hasQ_1 {qt : Nat → Nat} {w : Nat} (h : hasQ qt w) : 1 ≤ w := by
  obtain ⟨j, hj, -⟩ := h; omega
theorem hasQ_s {qt : Nat → Nat} {w : Nat} (h : hasQ qt w) (h1 : ¬ qt (w - 1) = 25) : hasQ qt (w - 1) := by
  obtain ⟨j, hj, e⟩ := h
  refine ⟨j, ?_, e⟩
  rcases Nat.lt_or_ge j (w - 1) with q | q
  · exact q
  · exact absurd (show qt (w - 1) = 25 by rw [show w - 1 = j by omega]; exact e) h1
theorem hasQ_i {qt : Nat → Nat} {w j : Nat} (h : j < w) (e : qt j = 25) : hasQ qt w := ⟨j, h, e⟩
def cw (w : List Nat) : Nat → Int32 := fun j => nI (w.getD j 0)

