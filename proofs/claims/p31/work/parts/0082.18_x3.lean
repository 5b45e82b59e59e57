theorem c_esums (l : Launch) (D : va_G) (cI cJ cC cZ cS : ClassId) (zk zv : Nat) (zf : Value) (dd : Nat) : CT_ereadSum l D cI cJ cC cZ cS zk zv zf dd ∧ CT_ereadPart l D cI cJ cC cZ cS zk zv zf dd := by
  induction dd with
  | zero =>
    have h1 := c_ereadPair l D cI cJ cC cZ cS zk zv zf 0 (fun d h => absurd h (by omega))
    have h2 := c_ereadPart l D cI cJ cC cZ cS zk zv zf 0 (fun d h => absurd h (by omega)) (fun d h => absurd h (by omega)) h1
    exact ⟨c_ereadSum l D cI cJ cC cZ cS zk zv zf 0 (c_ereadProduct l D cI cJ cC cZ cS zk zv zf 0 h2), h2⟩
  | succ n ih =>
    have hs : ∀ d, d + 1 = n + 1 → CT_ereadSum l D cI cJ cC cZ cS zk zv zf d := fun d h => by rw [show d = n by omega]; exact ih.1
    have hp : ∀ d, d + 1 = n + 1 → CT_ereadPart l D cI cJ cC cZ cS zk zv zf d := fun d h => by rw [show d = n by omega]; exact ih.2
    have h1 := c_ereadPair l D cI cJ cC cZ cS zk zv zf (n + 1) hs
    have h2 := c_ereadPart l D cI cJ cC cZ cS zk zv zf (n + 1) hs hp h1
    exact ⟨c_ereadSum l D cI cJ cC cZ cS zk zv zf (n + 1) (c_ereadProduct l D cI cJ cC cZ cS zk zv zf (n + 1) h2), h2⟩

