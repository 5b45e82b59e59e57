theorem prt_pair0 {tb : Nat → Nat} {n kind : Nat} {L : List Nat} {c : Cur} {k : List Nat} (hw : isW tb n wMin c = true ∨ isW tb n wMax c = true) (h : isS tb n 40 (nx tb n c.1) = true) : prt tb n kind L 0 c k = .error (4, (nx tb n c.1).1) := by
  have hs : ¬ isS tb n 40 c = true := by
    rcases hw with hw | hw
    · exact isW_noS hw (by decide)
    · exact isW_noS hw (by decide)
  unfold prt
  rw [rdPart, partB, if_neg hs, if_pos hw, if_pos h]
  rfl
theorem prt_pairx {tb : Nat → Nat} {n kind d : Nat} {L : List Nat} {c : Cur} {k : List Nat} (hw : isW tb n wMin c = true ∨ isW tb n wMax c = true) (h : ¬ isS tb n 40 (nx tb n c.1) = true) : prt tb n kind L d c k = .error (1, (nx tb n c.1).1) := by
  have hs : ¬ isS tb n 40 c = true := by
    rcases hw with hw | hw
    · exact isW_noS hw (by decide)
    · exact isW_noS hw (by decide)
  unfold prt
  cases d with
  | zero => rw [rdPart, partB, if_neg hs, if_pos hw, if_neg h]; rfl
  | succ d => rw [rdPart, partB, if_neg hs, if_pos hw, if_neg h]; rfl
theorem prt_weeks0 {tb : Nat → Nat} {n : Nat} {L : List Nat} {c : Cur} {k : List Nat} (hw : isW tb n wWeeks c = true) : prt tb n 2 L 0 c k = .error (4, c.1) := by
  unfold prt
  rw [rdPart, partB, if_neg (isW_noS hw (by decide)), if_neg (fun q => Or.elim q (isW_one hw (by decide)) (isW_one hw (by decide))), if_pos ⟨rfl, hw⟩]
  rfl

