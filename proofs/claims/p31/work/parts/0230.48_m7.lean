theorem inRg {x y z : Int32} {lo hi : Nat} (h0 : y.toInt64 ≤ x.toInt64) (h1 : x.toInt64 ≤ z.toInt64) (hy : y = nI lo) (hz : z = nI hi) (hl : lo < 2147483648 := by omega) (hh : hi < 2147483648 := by omega) : ∃ k : Nat, k ≤ hi ∧ lo ≤ k ∧ x = nI k := by
  subst hy; subst hz
  have h2 := Int64.le_iff_toInt_le.mp h0
  have h3 := Int64.le_iff_toInt_le.mp h1
  rw [lgv lo hl, Int32.toInt_toInt64] at h2
  rw [lgv hi hh, Int32.toInt_toInt64] at h3
  obtain ⟨k, hk, rfl⟩ := nof' x (by rw [Int32.le_iff_toInt_le]; exact Int.le_trans (by show (0 : Int) ≤ (lo : Int); omega) h2)
  rw [ivn k hk] at h2 h3
  exact ⟨k, by omega, by omega, rfl⟩

