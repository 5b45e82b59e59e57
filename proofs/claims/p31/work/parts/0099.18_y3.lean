theorem c_etests (l : Launch) (D : va_G) (cI cJ cC cZ cS : ClassId) (zk zv : Nat) (zf : Value) (dd : Nat) : CT_ereadTest l D cI cJ cC cZ cS zk zv zf dd ∧ CT_ereadFact l D cI cJ cC cZ cS zk zv zf dd := by
  induction dd with
  | zero =>
    have h1 := c_ereadFact l D cI cJ cC cZ cS zk zv zf 0 (fun d h => absurd h (by omega)) (fun d h => absurd h (by omega))
    exact ⟨c_ereadTest l D cI cJ cC cZ cS zk zv zf 0 (c_ereadBoth l D cI cJ cC cZ cS zk zv zf 0 h1), h1⟩
  | succ n ih =>
    have ht : ∀ d, d + 1 = n + 1 → CT_ereadTest l D cI cJ cC cZ cS zk zv zf d := fun d h => by rw [show d = n by omega]; exact ih.1
    have hf : ∀ d, d + 1 = n + 1 → CT_ereadFact l D cI cJ cC cZ cS zk zv zf d := fun d h => by rw [show d = n by omega]; exact ih.2
    have h1 := c_ereadFact l D cI cJ cC cZ cS zk zv zf (n + 1) ht hf
    exact ⟨c_ereadTest l D cI cJ cC cZ cS zk zv zf (n + 1) (c_ereadBoth l D cI cJ cC cZ cS zk zv zf (n + 1) h1), h1⟩

