theorem rs_0 {tb : Nat → Nat} {n : Nat} {c : Cur} {xa : Nat} {xv xt : Int32} {xz : Nat} {xf xp : Int32} {f : Nat → Int32} (h : rdO tb n (.ok c) xa xv xt xz xf xp) : rsO tb n (.ok (c, [])) xa xv xt xz xf xp 0 0 f := ⟨h, fun r hr => by
  cases hr
  exact ⟨rfl, ⟨fun q => absurd q (by decide), fun q => by cases q⟩, fun j hj => absurd hj (Nat.not_lt_zero j)⟩⟩
theorem lenO_0 (c : Cur) : lenO (.ok (c, [])) := fun r e => by cases e; exact Nat.zero_le _
theorem cm_9 {v : Nat} (h : v ≤ 9) : ¬ cm v = -1 := by
  match v, h with
  | 0, _ => decide
  | 1, _ => decide
  | 2, _ => decide
  | 3, _ => decide
  | 4, _ => decide
  | 5, _ => decide
  | 6, _ => decide
  | 7, _ => decide
  | 8, _ => decide
  | 9, _ => decide
  | v + 10, h => exact absurd h (by omega)
/-- the end: nothing more, or a fault here -/
theorem q_e1 {tb : Nat → Nat} {n : Nat} {o : Except Err Cur} {xa : Nat} {xv xt : Int32} {xz : Nat} {xf xp : Int32} (htb : ∀ j, tb j ≤ 255) (h : rdO tb n o xa xv xt xz xf xp) (e : xt = -1) : rdO tb n (bindR o (fiF n)) xa xv xt xz xf xp := by
  cases o with
  | error e => exact h
  | ok c =>
    have h0 : rdC tb n c xa xv xt xz xf xp := h
    have hn := (tok_E htb).mp (h0.2.2.2.2.1.symm.trans e)
    have h1 : bindR (.ok c) (fiF n) = .ok c := by show fiF n c = _; unfold fiF; rw [if_pos hn]
    rw [h1]; exact h
theorem q_e2 {tb : Nat → Nat} {n : Nat} {o : Except Err Cur} {xa : Nat} {xv xt : Int32} {xz : Nat} {xf xp : Int32} {ya : Nat} {yv yt : Int32} {yz : Nat} {yf yp : Int32} (htb : ∀ j, tb j ≤ 255) (h : rdO tb n o xa xv xt xz xf xp) (e : ¬ xt = -1) (hp : rdO tb n (bindR o (hereF 1)) ya yv yt yz yf yp) : rdO tb n (bindR o (fiF n)) ya yv yt yz yf yp :=
  rd_swap h (fun c hc => by unfold fiF; rw [if_neg (fun q => e (hc.2.2.2.2.1.trans ((tok_E htb).mpr q)))]; rfl) hp

