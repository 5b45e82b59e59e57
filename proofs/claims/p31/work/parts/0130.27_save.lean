theorem updG_al {f : Nat → Nat} {k v : Nat} (h : ∀ j, j < k → f j = v) : ∀ j, j < k + 1 → updG f k v j = v := fun j hj => by
  unfold updG
  by_cases e : j = k
  · rw [if_pos e]
  · rw [if_neg e]; exact h j (by omega)
theorem rotG_al {f : Nat → Nat} {v : Nat} (h : ∀ j, j < 20 → f j = v) : ∀ j, j < 20 → updG (rotG f) 19 v j = v := fun j hj => by
  unfold updG rotG
  by_cases e : j = 19
  · rw [if_pos e]
  · rw [if_neg e, if_pos (by omega)]; exact h (j + 1) (by omega)

