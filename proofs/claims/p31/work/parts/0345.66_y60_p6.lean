theorem ta_bad {tb : Nat → Nat} {n : Nat} {T : Except Err Cur} {c : Cur} {qt : Nat → Nat} {w : Nat} {qo : Int32} (h : TT (aftL tb n) T c qt w qo) (ht : ¬ topO qt 0 w = 12) (hq : hasQ qt w) (h1 : isW tb n wAnd c = false) (h2 : isW tb n wOr c = false) (hs : ¬ isS tb n 93 c = true) : T = .error (1, c.1) := by
  obtain ⟨dd, g1, g2, g3, g4⟩ := h
  rw [← hd_top0] at ht
  rw [← g4]
  exact aft_sqbad (goT_stop (by rw [h1]; decide) (by rw [h2]; decide)) hs _ g3 ht (wl_hasQ w hq)
theorem se_rc {d0 m0 : Nat} {R : Res} {o : Except Err Cur} {qs : Nat → Nat} {qn : Nat} {qo : Int32} (h : sE d0 m0 R o qs qn qo) : o = rc R := by
  cases o with
  | error e =>
    have h1 : R = .error e := h
    rw [h1]; rfl
  | ok c =>
    obtain ⟨k, h1, -, -⟩ := h
    rw [h1]; rfl
theorem se_qo {tb : Nat → Nat} {n : Nat} {o : Except Err Cur} {pa : Nat} {pd : Int32} {pb : Nat} {pp : Int32} {d0 m0 : Nat} {R : Res} {qs : Nat → Nat} {qn : Nat} {qo : Int32} (h : moO tb n o pa pd pb pp) (hb : pb = 0) (hy : sE d0 m0 R o qs qn qo) : qo = nI (6 - d0) := by
  rw [(mo_ok h hb).1] at hy
  obtain ⟨k, -, -, h3⟩ := hy
  exact h3
theorem at_all {tb : Nat → Nat} {n : Nat} {o : Except Err Cur} {pa : Nat} {pd : Int32} {pb : Nat} {pp : Int32} {d : Nat} (h : moO tb n o pa pd pb pp) (hb : pb = 0) (hw : isW tb n wAll (cuO tb n pa pd) = true) : bindR o (nxF tb n) = bindR o (atC tb n d) := by
  rw [(mo_ok h hb).1]
  show _ = atC tb n d (cuO tb n pa pd)
  unfold atC
  rw [if_pos hw]; rfl
theorem at_sum {tb : Nat → Nat} {n : Nat} {o : Except Err Cur} {pa : Nat} {pd : Int32} {pb : Nat} {pp : Int32} {d : Nat} (h : moO tb n o pa pd pb pp) (hb : pb = 0) (hw : isW tb n wAll (cuO tb n pa pd) = false) : bindR (rc (sumD tb n 2 d (cuO tb n pa pd))) (relC tb n d) = bindR o (atC tb n d) := by
  rw [(mo_ok h hb).1]
  show _ = atC tb n d (cuO tb n pa pd)
  unfold atC
  rw [if_neg (by rw [hw]; decide)]
theorem at_s1 {tb : Nat → Nat} {n : Nat} {o : Except Err Cur} {pa : Nat} {pd : Int32} {pb : Nat} {pp : Int32} {d a : Nat} {e : Int32} {b : Nat} {p2 : Int32} {o1 : Except Err Cur} (h : moO tb n o pa pd pb pp) (hb : pb = 0) (hw : isW tb n wAll (cuO tb n pa pd) = false) (e1 : o1 = rc (sumD tb n 2 d (cuO tb n pa pd))) (h1 : moO tb n o1 a e b p2) (hx : ¬ b = 0) : o1 = bindR o (atC tb n d) := by
  rw [← at_sum h hb hw, ← e1]
  obtain ⟨z, rfl⟩ := mo_nz h1 hx
  rfl
theorem at_s2 {tb : Nat → Nat} {n : Nat} {o : Except Err Cur} {pa : Nat} {pd : Int32} {pb : Nat} {pp : Int32} {d a : Nat} {e : Int32} {b : Nat} {p2 : Int32} {o1 : Except Err Cur} (h : moO tb n o pa pd pb pp) (hb : pb = 0) (hw : isW tb n wAll (cuO tb n pa pd) = false) (e1 : o1 = rc (sumD tb n 2 d (cuO tb n pa pd))) (h1 : moO tb n o1 a e b p2) (hx : b = 0) (hv : relV tb n (cuO tb n a e) = none) : (Except.error (1, sk tb n a) : Except Err Cur) = bindR o (atC tb n d) := by
  rw [← at_sum h hb hw, ← e1, (mo_ok h1 hx).1]
  show _ = relC tb n d (cuO tb n a e)
  unfold relC
  rw [hv]; rfl
theorem at_s3 {tb : Nat → Nat} {n : Nat} {o : Except Err Cur} {pa : Nat} {pd : Int32} {pb : Nat} {pp : Int32} {d a v : Nat} {e : Int32} {b : Nat} {p2 : Int32} {o1 o3 : Except Err Cur} {a3 : Nat} {e3 : Int32} {b3 : Nat} {p3 : Int32} (h : moO tb n o pa pd pb pp) (hb : pb = 0) (hw : isW tb n wAll (cuO tb n pa pd) = false) (e1 : o1 = rc (sumD tb n 2 d (cuO tb n pa pd))) (h1 : moO tb n o1 a e b p2) (hx : b = 0) (hv : relV tb n (cuO tb n a e) = some v) (h3 : moO tb n (bindR o1 (nxF tb n)) a3 e3 b3 p3) (e3_ : o3 = rc (sumD tb n 2 d (cuO tb n a3 e3))) : o3 = bindR o (atC tb n d) := by
  rw [← at_sum h hb hw, ← e1, e3_]
  rw [(mo_ok h1 hx).1] at h3 ⊢
  have h4 : moO tb n (.ok (nx tb n (cuO tb n a e).1)) a3 e3 b3 p3 := h3
  rw [← h4.2.2.2.1]
  show _ = relC tb n d (cuO tb n a e)
  unfold relC
  simp only [hv]
theorem relV_60 {tb : Nat → Nat} {n : Nat} {c : Cur} (h : isS tb n 60 c = true) : relV tb n c = some 7 := by unfold relV; rw [if_pos h]
theorem relV_62 {tb : Nat → Nat} {n : Nat} {c : Cur} (h : isS tb n 62 c = true) : relV tb n c = some 8 := by unfold relV; rw [if_neg (isS_not h (by decide)), if_pos h]
theorem relV_61 {tb : Nat → Nat} {n : Nat} {c : Cur} (h : isS tb n 61 c = true) : relV tb n c = some 9 := by unfold relV; rw [if_neg (isS_not h (by decide)), if_neg (isS_not h (by decide)), if_pos h]
theorem relV_no {tb : Nat → Nat} {n : Nat} {c : Cur} (h1 : ¬ isS tb n 60 c = true) (h2 : ¬ isS tb n 62 c = true) (h3 : ¬ isS tb n 61 c = true) : relV tb n c = none := by unfold relV; rw [if_neg h1, if_neg h2, if_neg h3]
abbrev isV3 (tb : Nat → Nat) (n : Nat) (c : Cur) : Prop := isV tb n 15 c = true ∨ isV tb n 23 c = true ∨ isV tb n 24 c = true
abbrev isV6 (tb : Nat → Nat) (n : Nat) (c : Cur) : Prop := isV tb n 25 c = true ∨ isV tb n 26 c = true ∨ isV tb n 27 c = true
def vkO (tb : Nat → Nat) (n : Nat) (c : Cur) (kd : Nat) (o2 : Except Err Cur) : Prop := (kd < 3 ∧ isV3 tb n c ∧ o2 = .ok (nx tb n c.1)) ∨ (3 ≤ kd ∧ ¬ isV3 tb n c ∧ isV6 tb n c ∧ o2 = .ok (nx tb n c.1)) ∨ (3 ≤ kd ∧ ¬ isV3 tb n c ∧ ¬ isV6 tb n c ∧ o2 = .error (1, c.1))
theorem kd_t {tb : Nat → Nat} {n : Nat} {c : Cur} {kd : Nat} {o2 : Except Err Cur} {a : Nat} {d : Int32} {b : Nat} {p : Int32} (h : vkO tb n c kd o2) (hm : moO tb n o2 a d b p) (hb : b = 0) (hk : kd < 3) : quF tb n c = qtP tb n (cuO tb n a d) := by
  rcases h with ⟨-, h2, h3⟩ | ⟨h1, -⟩ | ⟨h1, -⟩
  · unfold quF
    rw [if_pos h2]
    subst h3
    rw [hm.2.2.2.1]
  · exact absurd h1 (by omega)
  · exact absurd h1 (by omega)
theorem kd_s {tb : Nat → Nat} {n : Nat} {c : Cur} {kd : Nat} {o2 : Except Err Cur} {a : Nat} {d : Int32} {b : Nat} {p : Int32} (h : vkO tb n c kd o2) (hm : moO tb n o2 a d b p) (hb : b = 0) (hk : ¬ kd < 3) : quF tb n c = rc (sumD tb n 2 6 (cuO tb n a d)) := by
  rcases h with ⟨h1, -⟩ | ⟨-, h2, h3, h4⟩ | ⟨-, -, -, h4⟩
  · exact absurd h1 hk
  · unfold quF
    rw [if_neg h2, if_pos h3]
    subst h4
    rw [hm.2.2.2.1]; rfl
  · subst h4
    have h5 := hm.1
    have : b = 1 := h5
    omega
theorem kd_e {tb : Nat → Nat} {n : Nat} {c : Cur} {kd : Nat} {o2 : Except Err Cur} {a : Nat} {d : Int32} {b : Nat} {p : Int32} (h : vkO tb n c kd o2) (hm : moO tb n o2 a d b p) (hb : ¬ b = 0) : quF tb n c = o2 := by
  rcases h with ⟨-, -, h3⟩ | ⟨-, -, -, h4⟩ | ⟨-, h2, h3, h4⟩
  · subst h3; exact absurd hm.1 hb
  · subst h4; exact absurd hm.1 hb
  · unfold quF
    rw [if_neg h2, if_neg h3, h4]
theorem qe_f {tb : Nat → Nat} {n : Nat} {o : Except Err Cur} {pa : Nat} {pd : Int32} {pb : Nat} {pp : Int32} (h : moO tb n o pa pd pb pp) (hb : ¬ pb = 0) : quO (bindR o (fiF n)) (nI pb) pp := by
  obtain ⟨e, rfl⟩ := mo_nz h hb
  exact ⟨congrArg nI h.1, h.2.1⟩
theorem qe_0 {tb : Nat → Nat} {n : Nat} {o : Except Err Cur} {pa : Nat} {pd : Int32} {pb : Nat} {pp : Int32} (h : moO tb n o pa pd pb pp) (hb : pb = 0) (hn : n ≤ sk tb n pa) : quO (bindR o (fiF n)) (nI pb) pp := by
  have h1 := mo_ok h hb
  rw [h1.1]
  show quO (fiF n (cuO tb n pa pd)) (nI pb) pp
  unfold fiF
  rw [if_pos (show n ≤ (cuO tb n pa pd).1 from hn)]
  exact ⟨by rw [hb]; rfl, h1.2.1⟩
theorem qe_1 {tb : Nat → Nat} {n : Nat} {o : Except Err Cur} {pa : Nat} {pd : Int32} {pb : Nat} {pp : Int32} (h : moO tb n o pa pd pb pp) (hb : pb = 0) (hn : ¬ n ≤ sk tb n pa) : quO (bindR o (fiF n)) (nI 1) (nI (sk tb n pa)) := by
  rw [(mo_ok h hb).1]
  show quO (fiF n (cuO tb n pa pd)) (nI 1) (nI (sk tb n pa))
  unfold fiF
  rw [if_neg (show ¬ n ≤ (cuO tb n pa pd).1 from hn)]
  exact ⟨rfl, rfl⟩

