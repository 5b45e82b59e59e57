def lkRs (P : Except Err (LkS × Nat)) (r : Int32) (dy dy2 : Nat) (xf xp : Int32) : Prop := match P with
  | .ok x => r = nI x.2 ∧ dy2 = lD x.1 ∧ xf = 0 ∧ xp = -1
  | .error e => r = -1 ∧ dy2 = dy ∧ xf = nI e.1 ∧ xp = nI e.2
theorem lD_un (L : LkS) (w : Nat) : lD (untS L w) = lD L := by
  unfold untS
  split <;> rfl
theorem lD_F (L : LkS) : lD (lkF L) = lD L := by
  show lD (untS (untS (untS L 0) 1) 2) = _
  rw [lD_un, lD_un, lD_un]
theorem lrs_ok {tb : Nat → Nat} {n : Nat} {xf xp : Int32} {jn jd jm : Nat} {ju jr : Int32} {jc jx : Nat} {j1 jf jt jb jw : Nat → Int32} {dy : Nat} (h : finO tb n xf xp jn jd jm ju jr jc jx j1 jf jt jb jw) (hf : xf = 0) : lkRs (lockP tb n) (nI jn) dy jd xf xp := by
  unfold finO at h
  unfold lkRs
  cases hP : lockP tb n with
  | error e =>
    rw [hP] at h
    have h0 : xf = nI e.1 ∧ xp = nI e.2 ∧ 1 ≤ e.1 ∧ e.1 ≤ 5 ∧ e.2 ≤ 1700 := h
    have h1 := (neq e.1 0 (by omega) (by omega)).mp (h0.1.symm.trans hf)
    omega
  | ok r =>
    rw [hP] at h
    have h0 : xf = 0 ∧ xp = -1 ∧ jn = r.2 ∧ lkC (lkF r.1) jd jm ju jr jc jx j1 jf jt jb jw := h
    exact ⟨by rw [h0.2.2.1], h0.2.2.2.1.trans (lD_F r.1), h0.1, h0.2.1⟩
theorem lrs_er {tb : Nat → Nat} {n : Nat} {xf xp : Int32} {jn jd jm : Nat} {ju jr : Int32} {jc jx : Nat} {j1 jf jt jb jw : Nat → Int32} {dy : Nat} (h : finO tb n xf xp jn jd jm ju jr jc jx j1 jf jt jb jw) (hf : ¬ xf = 0) : lkRs (lockP tb n) (-1) dy dy xf xp := by
  unfold finO at h
  unfold lkRs
  cases hP : lockP tb n with
  | error e =>
    rw [hP] at h
    have h0 : xf = nI e.1 ∧ xp = nI e.2 ∧ 1 ≤ e.1 ∧ e.1 ≤ 5 ∧ e.2 ≤ 1700 := h
    exact ⟨rfl, rfl, h0.1, h0.2.1⟩
  | ok r =>
    rw [hP] at h
    have h0 : xf = 0 ∧ xp = -1 ∧ jn = r.2 ∧ lkC (lkF r.1) jd jm ju jr jc jx j1 jf jt jb jw := h
    exact absurd h0.1 hf

