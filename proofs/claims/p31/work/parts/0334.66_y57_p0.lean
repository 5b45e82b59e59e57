def pw11 (k : Nat) : List Nat := (wParts ++ [wWeeks]).getD k []
def whO (tb : Nat → Nat) (n : Nat) (c : Cur) (pb : Nat) (r : Int32) : Prop := (r = -1 ∧ (pb = 0 → ∀ j, j < 11 → isW tb n (pw11 j) c = false)) ∨ ∃ k, k < 11 ∧ r = nI k ∧ pb = 0 ∧ isW tb n (pw11 k) c = true
theorem cu_step {tb : Nat → Nat} {n a a2 pb : Nat} {pd : Int32} {X : Cur} (h : pb = 0 → cuO tb n a pd = X) (hs : (pb = 0 ∧ a2 = sk tb n a) ∨ (¬ pb = 0 ∧ a2 = a)) : pb = 0 → cuO tb n a2 pd = X := fun hb => by
  rcases hs with ⟨-, rfl⟩ | ⟨q, -⟩
  · rw [cuO_sk]; exact h hb
  · exact absurd hb q
theorem wh_n {tb : Nat → Nat} {n a pb b : Nat} {pd : Int32} {X : Cur} {w : List Nat} (h : pb = 0 → cuO tb n a pd = X) (hw : (b = 0 ∧ (pb = 0 → isW tb n w (cuO tb n a pd) = false)) ∨ (b = 1 ∧ pb = 0 ∧ isW tb n w (cuO tb n a pd) = true)) (hb : b = 0) : pb = 0 → isW tb n w X = false := fun q => by
  rw [← h q]; exact rr_0 hw hb q
theorem wh_y {tb : Nat → Nat} {n a pb b : Nat} {pd : Int32} {X : Cur} {w : List Nat} (h : pb = 0 → cuO tb n a pd = X) (hw : (b = 0 ∧ (pb = 0 → isW tb n w (cuO tb n a pd) = false)) ∨ (b = 1 ∧ pb = 0 ∧ isW tb n w (cuO tb n a pd) = true)) (hb : ¬ b = 0) : pb = 0 ∧ isW tb n w X = true := by
  have q := rr_1 hw hb
  exact ⟨q.1, by rw [← h q.1]; exact q.2⟩
theorem wh_all {tb : Nat → Nat} {n pb : Nat} {X : Cur} (h0 : pb = 0 → isW tb n (pw11 0) X = false) (h1 : pb = 0 → isW tb n (pw11 1) X = false) (h2 : pb = 0 → isW tb n (pw11 2) X = false) (h3 : pb = 0 → isW tb n (pw11 3) X = false) (h4 : pb = 0 → isW tb n (pw11 4) X = false) (h5 : pb = 0 → isW tb n (pw11 5) X = false) (h6 : pb = 0 → isW tb n (pw11 6) X = false) (h7 : pb = 0 → isW tb n (pw11 7) X = false) (h8 : pb = 0 → isW tb n (pw11 8) X = false) (h9 : pb = 0 → isW tb n (pw11 9) X = false) (h10 : pb = 0 → isW tb n (pw11 10) X = false) : pb = 0 → ∀ j, j < 11 → isW tb n (pw11 j) X = false := fun q j hj => by
  match j, hj with
  | 0, _ => exact h0 q
  | 1, _ => exact h1 q
  | 2, _ => exact h2 q
  | 3, _ => exact h3 q
  | 4, _ => exact h4 q
  | 5, _ => exact h5 q
  | 6, _ => exact h6 q
  | 7, _ => exact h7 q
  | 8, _ => exact h8 q
  | 9, _ => exact h9 q
  | 10, _ => exact h10 q
  | n + 11, h => exact absurd h (by omega)
def woO (tb : Nat → Nat) (n kn lo hi : Nat) (c : Cur) (pb : Nat) (r : Int32) : Prop := (r = -1 ∧ (pb = 0 → ∀ j, lo ≤ j → j < hi → j < 11 → isW tb n (pw11 j) c = true → allow kn j = false)) ∨ ∃ k, lo ≤ k ∧ k < hi ∧ k < 11 ∧ r = nI k ∧ pb = 0 ∧ isW tb n (pw11 k) c = true ∧ allow kn k = true
theorem pw_nd : ∀ k, k < 11 → ∀ j, j < 11 → ¬ k = j → ¬ pw11 k = pw11 j := by decide +kernel
theorem wo_0 {tb : Nat → Nat} {n kn lo hi pb : Nat} {c : Cur} (h : whO tb n c pb (-1)) : woO tb n kn lo hi c pb (-1) := by
  rcases h with ⟨-, h⟩ | ⟨k, h1, h2, -⟩
  · exact Or.inl ⟨rfl, fun q j _ _ hj hw => by rw [h q j hj] at hw; cases hw⟩
  · have := i_eq h2
    rw [i_m1, i_nI (by omega)] at this
    omega
theorem wo_1 {tb : Nat → Nat} {n kn lo hi pb k : Nat} {c : Cur} (hk : k < 2147483648) (h : whO tb n c pb (nI k)) (hn : ¬ (lo ≤ k ∧ k < hi ∧ allow kn k = true)) : woO tb n kn lo hi c pb (-1) := by
  rcases h with ⟨h1, -⟩ | ⟨k2, h1, h2, h3, h4⟩
  · have := i_eq h1
    rw [i_m1, i_nI hk] at this
    omega
  · have e : k = k2 := (nI_eq (by omega) (by omega)).mp h2
    subst e
    refine Or.inl ⟨rfl, fun q j hj1 hj2 hj3 hw => ?_⟩
    by_cases e : k = j
    · subst e
      cases ha : allow kn k with
      | false => rfl
      | true => exact absurd ⟨hj1, hj2, ha⟩ hn
    · exact absurd hw (isW_one h4 (pw_nd k h1 j hj3 e))
theorem wo_2 {tb : Nat → Nat} {n kn lo hi pb k : Nat} {c : Cur} (hk : k < 2147483648) (h : whO tb n c pb (nI k)) (h1 : lo ≤ k) (h2 : k < hi) (ha : allow kn k = true) : woO tb n kn lo hi c pb (nI k) := by
  rcases h with ⟨h3, -⟩ | ⟨k2, h3, h4, h5, h6⟩
  · have := i_eq h3
    rw [i_m1, i_nI hk] at this
    omega
  · have e : k = k2 := (nI_eq (by omega) (by omega)).mp h4
    subst e
    exact Or.inr ⟨k, h1, h2, h3, rfl, h5, h6, ha⟩
theorem wo_none {tb : Nat → Nat} {n kn pb : Nat} {c : Cur} (h : woO tb n kn 0 10 c pb (-1)) (hb : pb = 0) : partIx tb n kn c = none := by
  rcases h with ⟨-, h⟩ | ⟨k, -, -, h3, h4, -⟩
  · unfold partIx
    rw [List.find?_eq_none]
    intro j hj
    have hj := List.mem_range.mp hj
    rw [Bool.and_eq_true]
    intro q
    have e : pw11 j = wParts.getD j [] := by
      have : ∀ j, j < 10 → pw11 j = wParts.getD j [] := by decide +kernel
      exact this j hj
    have := h hb j (by omega) hj (by omega) (by rw [e]; exact q.1)
    rw [this] at q
    cases q.2
  · have := i_eq h4
    rw [i_m1, i_nI (by omega)] at this
    omega
theorem wo_some {tb : Nat → Nat} {n kn k : Nat} {c : Cur} (hk : k < 10) (hw : isW tb n (pw11 k) c = true) (ha : allow kn k = true) : partIx tb n kn c = some k := by
  unfold partIx
  have e : ∀ j, j < 10 → pw11 j = wParts.getD j [] := by decide +kernel
  cases h : (List.range 10).find? (fun k => isW tb n (wParts.getD k []) c && allow kn k) with
  | none =>
    rw [List.find?_eq_none] at h
    exact absurd (by rw [Bool.and_eq_true, ← e k hk]; exact ⟨hw, ha⟩) (h k (List.mem_range.mpr hk))
  | some j =>
    have h1 := List.find?_some h
    have h2 := List.mem_range.mp (List.mem_of_find?_eq_some h)
    rw [Bool.and_eq_true, ← e j h2] at h1
    by_cases q : k = j
    · rw [q]
    · exact absurd h1.1 (isW_one hw (pw_nd k (by omega) j (by omega) q))
theorem wo_nw {tb : Nat → Nat} {n kn pb : Nat} {c : Cur} (h : woO tb n kn 10 11 c pb (-1)) (hb : pb = 0) : ¬ (kn = 2 ∧ isW tb n wWeeks c = true) := fun q => by
  rcases h with ⟨-, h⟩ | ⟨k, -, -, h3, h4, -⟩
  · have := h hb 10 (by omega) (by omega) (by omega) q.2
    rw [q.1] at this
    cases this
  · have := i_eq h4
    rw [i_m1, i_nI (by omega)] at this
    omega
theorem wo_w {kn : Nat} (hk : kn ≤ 2) (ha : allow kn 10 = true) : kn = 2 := by
  match kn, hk with
  | 0, _ => cases ha
  | 1, _ => cases ha
  | 2, _ => rfl
  | n + 3, h => exact absurd h (by omega)

