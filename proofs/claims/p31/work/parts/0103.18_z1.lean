theorem kcA_ok {E : Nat → Nat → Nat → Bool} {n a0 x : Nat} (ha : a0 < 10) (h : x < kcC E n 0 a0) : ∀ d, d ≤ n → (kcA E n a0 x d).1 < 10 ∧ (kcA E n a0 x d).2 < kcC E (n - d) d (kcA E n a0 x d).1
  | 0, _ => ⟨ha, h⟩
  | d + 1, hd => by
    obtain ⟨h1, h2⟩ := kcA_ok ha h d (by omega)
    rw [← kcW_S (by omega)] at h2
    obtain ⟨h3, h4⟩ := kcP_10 h2
    rw [kcA_s]
    refine ⟨h3, ?_⟩
    generalize kcP (kcW E n d (kcA E n a0 x d).1) 10 0 (kcA E n a0 x d).2 = q at h3 h4 ⊢
    unfold kcW at h4
    split at h4
    · exact h4
    · exact absurd h4 (Nat.not_lt_zero _)
/-- the mood of a day in the week of a number -/
def kcM (E : Nat → Nat → Nat → Bool) (n a0 x d : Nat) : Nat := (kcA E n a0 x (d + 1)).1
/-! masks of ten bits -/
def kcK (P : Nat → Bool) : Nat → Nat
  | 0 => 0
  | n + 1 => kcK P n + (if P n = true then 2 ^ n else 0)
theorem kcK_lt (P : Nat → Bool) : ∀ n, kcK P n < 2 ^ n
  | 0 => Nat.le_refl 1
  | n + 1 => by
    have h := kcK_lt P n
    show kcK P n + (if P n = true then 2 ^ n else 0) < 2 ^ (n + 1)
    rw [Nat.pow_succ]
    split <;> omega
theorem kcK_s (P : Nat → Bool) (n : Nat) : kcK P (n + 1) = kcK P n + (if P n = true then 2 ^ n else 0) := rfl
theorem kcK_or (P : Nat → Bool) (n : Nat) (h : P n = true) : kcK P n ||| 2 ^ n = kcK P (n + 1) := by
  rw [kcK_s, if_pos h, Nat.or_comm, Nat.add_comm]
  have h1 := Nat.two_pow_add_eq_or_of_lt (kcK_lt P n) 1
  rw [Nat.mul_one] at h1
  exact h1.symm
theorem kcK_no (P : Nat → Bool) (n : Nat) (h : ¬ P n = true) : kcK P (n + 1) = kcK P n := by
  rw [kcK_s, if_neg h, Nat.add_zero]
theorem kcK_bit (P : Nat → Bool) : ∀ n j, (kcK P n).testBit j = (decide (j < n) && P j)
  | 0, j => by
    show Nat.testBit 0 j = _
    rw [Nat.zero_testBit]
    rfl
  | n + 1, j => by
    by_cases h : P n = true
    · rw [← kcK_or P n h, Nat.testBit_or, kcK_bit P n j, Nat.testBit_two_pow]
      by_cases e : n = j
      · subst e
        rw [h]
        simp
      · rw [show decide (n = j) = false from decide_eq_false e, Bool.or_false]
        by_cases l : j < n
        · rw [show decide (j < n) = true from decide_eq_true l, show decide (j < n + 1) = true from decide_eq_true (by omega)]
        · rw [show decide (j < n) = false from decide_eq_false l, show decide (j < n + 1) = false from decide_eq_false (by omega)]
    · rw [kcK_no P n h, kcK_bit P n j]
      by_cases e : j = n
      · subst e
        rw [Bool.not_eq_true] at h
        rw [h, Bool.and_false, Bool.and_false]
      · by_cases l : j < n
        · rw [show decide (j < n) = true from decide_eq_true l, show decide (j < n + 1) = true from decide_eq_true (by omega)]
        · rw [show decide (j < n) = false from decide_eq_false l, show decide (j < n + 1) = false from decide_eq_false (by omega)]

