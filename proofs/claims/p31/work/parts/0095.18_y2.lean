theorem f_not0 {tb : Nat → Nat} {n d xo : Nat} {o : Res} {xa : Nat} {xv xt : Int32} {xz : Nat} {xf xp : Int32} {cl mw : Nat} {f : Nat → Int32} (htb : ∀ j, tb j ≤ 255) (h : rsO tb n o xa xv xt xz xf xp cl mw f) (e : xt = 275) (hx : xo = 6) (hd : d = 0) : bd o (opF tb n 275 xo) = bindR o (apF (fcR tb n d)) := by
  subst hd
  cases o with
  | error e => rfl
  | ok r =>
    have ht := (rs_t h rfl).symm.trans e
    show bindR (opF tb n 275 xo r.1) _ = bindR (fcR tb n 0 r.1) _
    unfold opF; rw [if_pos ht, if_neg (by omega), fB_not0 htb ht]; rfl
theorem f_sq {tb : Nat → Nat} {n d xo : Nat} {o : Res} {xa : Nat} {xv xt : Int32} {xz : Nat} {xf xp : Int32} {cl mw : Nat} {f : Nat → Int32} (htb : ∀ j, tb j ≤ 255) (h : rsO tb n o xa xv xt xz xf xp cl mw f) (e : xt = 91) (hx : xo < 6) (hd : 1 ≤ d) : bd (bindR (bd o (opF tb n 91 xo)) (apF (testR tb n (fcR tb n (d - 1))))) (tkF tb n 93) = bindR o (apF (fcR tb n d)) := by
  obtain ⟨d, rfl⟩ : ∃ m, d = m + 1 := ⟨d - 1, by omega⟩
  rw [Nat.add_sub_cancel]
  cases o with
  | error e => rfl
  | ok r =>
    have ht := (rs_t h rfl).symm.trans e
    rw [op_ok ht hx, tk93 htb]
    show bindR (bindR (testR tb n (fcR tb n d) (nx tb n r.1.1)) _) _ = bindR (fcR tb n (d + 1) r.1) _
    rw [fB_sq htb ht, bindR_assoc, bindR_assoc]
    refine bindR_congr _ (fun a _ => ?_)
    show bindR (signP tb n 93 a.1) _ = bindR (bindR (signP tb n 93 a.1) _) _
    rw [bindR_assoc]
    rfl
theorem f_sq0 {tb : Nat → Nat} {n d xo : Nat} {o : Res} {xa : Nat} {xv xt : Int32} {xz : Nat} {xf xp : Int32} {cl mw : Nat} {f : Nat → Int32} (htb : ∀ j, tb j ≤ 255) (h : rsO tb n o xa xv xt xz xf xp cl mw f) (e : xt = 91) (hx : xo = 6) (hd : d = 0) : bd o (opF tb n 91 xo) = bindR o (apF (fcR tb n d)) := by
  subst hd
  cases o with
  | error e => rfl
  | ok r =>
    have ht := (rs_t h rfl).symm.trans e
    show bindR (opF tb n 91 xo r.1) _ = bindR (fcR tb n 0 r.1) _
    unfold opF; rw [if_pos ht, if_neg (by omega), fB_sq0 htb ht]; rfl
theorem f_all {tb : Nat → Nat} {n d : Nat} {o : Res} {xa : Nat} {xv xt : Int32} {xz : Nat} {xf xp : Int32} {cl mw : Nat} {f : Nat → Int32} (htb : ∀ j, tb j ≤ 255) (h : rsO tb n o xa xv xt xz xf xp cl mw f) (e : xt = 276) : ad (bd o (nxF tb n)) 13 = bindR o (apF (fcR tb n d)) := by
  cases o with
  | error e => rfl
  | ok r =>
    have ht := (rs_t h rfl).symm.trans e
    show _ = bindR (fcR tb n d r.1) _
    rw [fB_all htb ht]; rfl
theorem f_rel {tb : Nat → Nat} {n d : Nat} {o : Res} {xa : Nat} {xv xt : Int32} {xz : Nat} {xf xp : Int32} {cl mw : Nat} {f : Nat → Int32} (htb : ∀ j, tb j ≤ 255) (h : rsO tb n o xa xv xt xz xf xp cl mw f) (h1 : ¬ xt = 275) (h2 : ¬ xt = 91) (h3 : ¬ xt = 276) : bindR o (fun r => bindR (sumOf tb n (rdPart tb n 2 d) r.1) (fun q => bindR (relB tb n d q) (fun z => .ok (z.1, r.2 ++ z.2)))) = bindR o (apF (fcR tb n d)) := by
  cases o with
  | error e => rfl
  | ok r =>
    have ht := rs_t h rfl
    rw [ht] at h1 h2 h3
    show _ = bindR (fcR tb n d r.1) _
    rw [fB_rel htb h1 h2 h3]
    unfold relR
    rw [bindR_assoc]
    rfl
theorem f_relN {tb : Nat → Nat} {n d : Nat} {o : Res} {xa : Nat} {xv xt : Int32} {xz : Nat} {xf xp : Int32} {cl mw : Nat} {f : Nat → Int32} {ya : Nat} {yv yt : Int32} {yz : Nat} {yf yp : Int32} {c2 w2 : Nat} {g : Nat → Int32} (htb : ∀ j, tb j ≤ 255) (h : rsO tb n o xa xv xt xz xf xp cl mw f) (h1 : ¬ xt = 275) (h2 : ¬ xt = 91) (h3 : ¬ xt = 276) (hy : rsO tb n (bindR o (apF (sumOf tb n (rdPart tb n 2 d)))) ya yv yt yz yf yp c2 w2 g) (g1 : ¬ yt = 60) (g2 : ¬ yt = 62) (g3 : ¬ yt = 61) : bd (bindR o (apF (sumOf tb n (rdPart tb n 2 d)))) (hereF 1) = bindR o (apF (fcR tb n d)) := by
  rw [← f_rel htb h h1 h2 h3]
  cases o with
  | error e => rfl
  | ok r =>
    show bindR (bindR (sumOf tb n (rdPart tb n 2 d) r.1) _) _ = bindR (sumOf tb n (rdPart tb n 2 d) r.1) _
    cases hq : sumOf tb n (rdPart tb n 2 d) r.1 with
    | error e => rfl
    | ok q =>
      have e2 : bindR (.ok r) (apF (sumOf tb n (rdPart tb n 2 d))) = .ok (q.1, r.2 ++ q.2) := by
        show bindR (sumOf tb n (rdPart tb n 2 d) r.1) _ = _
        rw [hq]; rfl
      have ht := rs_t hy e2
      rw [ht] at g1 g2 g3
      show _ = bindR (relB tb n d q) _
      unfold relB
      rw [relV_none htb g1 g2 g3]
      rfl
theorem f_relY {tb : Nat → Nat} {n d v : Nat} {o : Res} {xa : Nat} {xv xt : Int32} {xz : Nat} {xf xp : Int32} {cl mw : Nat} {f : Nat → Int32} {ya : Nat} {yv yt : Int32} {yz : Nat} {yf yp : Int32} {c2 w2 : Nat} {g : Nat → Int32} (htb : ∀ j, tb j ≤ 255) (h : rsO tb n o xa xv xt xz xf xp cl mw f) (h1 : ¬ xt = 275) (h2 : ¬ xt = 91) (h3 : ¬ xt = 276) (hy : rsO tb n (bindR o (apF (sumOf tb n (rdPart tb n 2 d)))) ya yv yt yz yf yp c2 w2 g) (g1 : relT yt v) : ad (bindR (bd (bindR o (apF (sumOf tb n (rdPart tb n 2 d)))) (nxF tb n)) (apF (sumOf tb n (rdPart tb n 2 d)))) v = bindR o (apF (fcR tb n d)) := by
  rw [← f_rel htb h h1 h2 h3]
  cases o with
  | error e => rfl
  | ok r =>
    show ad (bindR (bd (bindR (sumOf tb n (rdPart tb n 2 d) r.1) _) _) _) v = bindR (sumOf tb n (rdPart tb n 2 d) r.1) _
    cases hq : sumOf tb n (rdPart tb n 2 d) r.1 with
    | error e => rfl
    | ok q =>
      have e2 : bindR (.ok r) (apF (sumOf tb n (rdPart tb n 2 d))) = .ok (q.1, r.2 ++ q.2) := by
        show bindR (sumOf tb n (rdPart tb n 2 d) r.1) _ = _
        rw [hq]; rfl
      have ht := rs_t hy e2
      rw [ht] at g1
      show bindR (bindR (sumOf tb n (rdPart tb n 2 d) (nx tb n q.1.1)) (fun z => .ok (z.1, (r.2 ++ q.2) ++ z.2))) (fun z => .ok (z.1, z.2 ++ [v])) = bindR (relB tb n d q) _
      unfold relB
      rw [relV_some htb g1, bindR_assoc]
      show _ = bindR (bindR (sumOf tb n (rdPart tb n 2 d) (nx tb n q.1.1)) _) _
      rw [bindR_assoc]
      refine bindR_congr _ (fun a _ => ?_)
      show Except.ok (a.1, ((r.2 ++ q.2) ++ a.2) ++ [v]) = Except.ok (a.1, r.2 ++ (q.2 ++ a.2 ++ [v]))
      rw [List.append_assoc, List.append_assoc, List.append_assoc]
/-! the reader's fields changed, not what was read -/
theorem rs_re {tb : Nat → Nat} {n : Nat} {o : Res} {xa : Nat} {xv xt : Int32} {xz : Nat} {xf xp : Int32} {cl mw : Nat} {f : Nat → Int32} {ya : Nat} {yv yt : Int32} {yz : Nat} {yf yp : Int32} (h : rsO tb n o xa xv xt xz xf xp cl mw f) (h2 : rdO tb n (rc o) ya yv yt yz yf yp) : rsO tb n o ya yv yt yz yf yp cl mw f := ⟨h2, h.2⟩
theorem both_0 {tb : Nat → Nat} {n : Nat} {F : Cur → Res} (o : Res) : bindR (bindR o (apF F)) (fun r => andR tb n F (n + 2) r.1 r.2) = bindR o (apF (bothR tb n F)) := by
  cases o with
  | error e => rfl
  | ok r =>
    show bindR (bindR (F r.1) _) _ = bindR (bindR (F r.1) _) _
    rw [bindR_assoc, bindR_assoc]
    refine bindR_congr _ (fun a _ => ?_)
    exact andR_pre r.2 (n + 2) a.1 a.2
theorem both_s {tb : Nat → Nat} {n : Nat} {F : Cur → Res} {T : Res} {o : Res} {xa : Nat} {xv xt : Int32} {xz : Nat} {xf xp : Int32} {cl mw : Nat} {f : Nat → Int32} (htb : ∀ j, tb j ≤ 255) (h : rsO tb n o xa xv xt xz xf xp cl mw f) (hF : mono F) (e : xt = 274) (hT : bindR o (fun r => andR tb n F (n + 2) r.1 r.2) = T) : bindR (ad (bindR (bd o (nxF tb n)) (apF F)) 10) (fun r => andR tb n F (n + 2) r.1 r.2) = T := by
  rw [← hT]
  cases o with
  | error e => rfl
  | ok r =>
    rw [rs_t h rfl] at e
    show bindR (bindR (bindR (F (nx tb n r.1.1)) (fun q => .ok (q.1, r.2 ++ q.2))) (fun q => .ok (q.1, q.2 ++ [10]))) _ = andR tb n F (n + 2) r.1 r.2
    rw [andR, bindR_assoc, bindR_assoc]
    have hs := (tok274 htb).mp e
    have hn := nx_gt (tb := tb) (isW_lt hs)
    rw [if_pos hs]
    refine bindR_congr _ (fun a ha => ?_)
    have hm := hF _ _ ha
    exact andR_fuel hF _ _ _ _ (by omega) (by omega) (by omega) (by omega)
theorem both_e {tb : Nat → Nat} {n i : Nat} {F : Cur → Res} {T : Res} {o : Res} {xa : Nat} {xv xt : Int32} {xz : Nat} {xf xp : Int32} {cl mw : Nat} {f : Nat → Int32} {ya : Nat} {yv yt : Int32} {yz : Nat} {yf yp : Int32} (htb : ∀ j, tb j ≤ 255) (h : rsO tb n o xa xv xt xz xf xp cl mw f) (hn : n ≤ 1600) (hi : iO i o) (e : 1600 ≤ i ∨ ¬ xt = 274) (hT : bindR o (fun r => andR tb n F (n + 2) r.1 r.2) = T) (h2 : rsO tb n o ya yv yt yz yf yp cl mw f) : rsO tb n T ya yv yt yz yf yp cl mw f := by
  have : T = o := by
    rw [← hT]
    cases o with
    | error e => rfl
    | ok r =>
      have hx := hi r rfl
      rw [rs_t h rfl] at e
      have a1 : ¬ isW tb n wAnd r.1 = true := fun q => by
        have q1 := isW_lt q
        have q2 := (tok274 htb).mpr q
        rcases e with e | e
        · omega
        · exact e q2
      show andR tb n F (n + 1 + 1) r.1 r.2 = _
      rw [andR_stop a1]
  rw [this]; exact h2
theorem test_0 {tb : Nat → Nat} {n : Nat} {F : Cur → Res} (o : Res) : bindR (bindR o (apF (bothR tb n F))) (fun r => orR tb n F (n + 2) r.1 r.2) = bindR o (apF (testR tb n F)) := by
  cases o with
  | error e => rfl
  | ok r =>
    show bindR (bindR ((bothR tb n F) r.1) _) _ = bindR (bindR ((bothR tb n F) r.1) _) _
    rw [bindR_assoc, bindR_assoc]
    refine bindR_congr _ (fun a _ => ?_)
    exact orR_pre r.2 (n + 2) a.1 a.2
theorem test_s {tb : Nat → Nat} {n : Nat} {F : Cur → Res} {T : Res} {o : Res} {xa : Nat} {xv xt : Int32} {xz : Nat} {xf xp : Int32} {cl mw : Nat} {f : Nat → Int32} (htb : ∀ j, tb j ≤ 255) (h : rsO tb n o xa xv xt xz xf xp cl mw f) (hF : mono F) (e : xt = 273) (hT : bindR o (fun r => orR tb n F (n + 2) r.1 r.2) = T) : bindR (ad (bindR (bd o (nxF tb n)) (apF (bothR tb n F))) 11) (fun r => orR tb n F (n + 2) r.1 r.2) = T := by
  rw [← hT]
  cases o with
  | error e => rfl
  | ok r =>
    rw [rs_t h rfl] at e
    show bindR (bindR (bindR ((bothR tb n F) (nx tb n r.1.1)) (fun q => .ok (q.1, r.2 ++ q.2))) (fun q => .ok (q.1, q.2 ++ [11]))) _ = orR tb n F (n + 2) r.1 r.2
    rw [orR, bindR_assoc, bindR_assoc]
    have hs := (tok273 htb).mp e
    have hn := nx_gt (tb := tb) (isW_lt hs)
    rw [if_pos hs]
    refine bindR_congr _ (fun a ha => ?_)
    have hm := (bothR_mono hF) _ _ ha
    exact orR_fuel hF _ _ _ _ (by omega) (by omega) (by omega) (by omega)
theorem test_e {tb : Nat → Nat} {n i : Nat} {F : Cur → Res} {T : Res} {o : Res} {xa : Nat} {xv xt : Int32} {xz : Nat} {xf xp : Int32} {cl mw : Nat} {f : Nat → Int32} {ya : Nat} {yv yt : Int32} {yz : Nat} {yf yp : Int32} (htb : ∀ j, tb j ≤ 255) (h : rsO tb n o xa xv xt xz xf xp cl mw f) (hn : n ≤ 1600) (hi : iO i o) (e : 1600 ≤ i ∨ ¬ xt = 273) (hT : bindR o (fun r => orR tb n F (n + 2) r.1 r.2) = T) (h2 : rsO tb n o ya yv yt yz yf yp cl mw f) : rsO tb n T ya yv yt yz yf yp cl mw f := by
  have : T = o := by
    rw [← hT]
    cases o with
    | error e => rfl
    | ok r =>
      have hx := hi r rfl
      rw [rs_t h rfl] at e
      have a1 : ¬ isW tb n wOr r.1 = true := fun q => by
        have q1 := isW_lt q
        have q2 := (tok273 htb).mpr q
        rcases e with e | e
        · omega
        · exact e q2
      show orR tb n F (n + 1 + 1) r.1 r.2 = _
      rw [orR_stop a1]
  rw [this]; exact h2
/-! a question -/
def qsP (tb : Nat → Nat) (n : Nat) (c : Cur) : Except Err Cur := rc (sumOf tb n (rdPart tb n 2 6) c)
def qtP (tb : Nat → Nat) (n : Nat) (c : Cur) : Except Err Cur := rc (testR tb n (fcR tb n 6) c)
def isV (tb : Nat → Nat) (n k : Nat) (c : Cur) : Bool := isW tb n (CWs.getD k []) c
def quF (tb : Nat → Nat) (n : Nat) (c : Cur) : Except Err Cur :=
  if isV tb n 15 c = true ∨ isV tb n 23 c = true ∨ isV tb n 24 c = true then qtP tb n (nx tb n c.1)
  else if isV tb n 25 c = true ∨ isV tb n 26 c = true ∨ isV tb n 27 c = true then qsP tb n (nx tb n c.1)
  else .error (1, c.1)
def fiF (n : Nat) (c : Cur) : Except Err Cur := if n ≤ c.1 then .ok c else .error (1, c.1)
def quP (tb : Nat → Nat) (n : Nat) : Except Err Cur := bindR (quF tb n (sk tb n 0, false)) (fiF n)
def quO (P : Except Err Cur) (xf xp : Int32) : Prop := match P with
  | .ok _ => xf = 0 ∧ xp = -1
  | .error e => xf = nI e.1 ∧ xp = nI e.2
theorem qu_rd {tb : Nat → Nat} {n : Nat} {P : Except Err Cur} {xa : Nat} {xv xt : Int32} {xz : Nat} {xf xp : Int32} (h : rdO tb n P xa xv xt xz xf xp) : quO P xf xp := by
  cases P with
  | ok c => exact ⟨h.1, h.2.1⟩
  | error e => exact ⟨h.1, h.2.1⟩
theorem qu_eq {P : Except Err Cur} {a b c d : Int32} (h1 : quO P a b) (h2 : quO P c d) : c = a ∧ d = b := by
  cases P with
  | ok z => exact ⟨h2.1.trans h1.1.symm, h2.2.trans h1.2.symm⟩
  | error e => exact ⟨h2.1.trans h1.1.symm, h2.2.trans h1.2.symm⟩
def ftO (w a b r : Int32) : Prop := (w = 0 ∧ r = a) ∨ (w = 1 ∧ r = b) ∨ (¬ w = 0 ∧ ¬ w = 1 ∧ r = -1)
theorem ftO_eq {w a b r q : Int32} (h1 : ftO w a b r) (h2 : ftO w a b q) : r = q := by
  rcases h1 with ⟨e, h1⟩ | ⟨e, h1⟩ | ⟨e1, e2, h1⟩
  · rcases h2 with ⟨f, h2⟩ | ⟨f, h2⟩ | ⟨f1, f2, h2⟩
    · rw [h1, h2]
    · exact absurd (e.symm.trans f) (by decide)
    · exact absurd e f1
  · rcases h2 with ⟨f, h2⟩ | ⟨f, h2⟩ | ⟨f1, f2, h2⟩
    · exact absurd (f.symm.trans e) (by decide)
    · rw [h1, h2]
    · exact absurd e f2
  · rcases h2 with ⟨f, h2⟩ | ⟨f, h2⟩ | ⟨f1, f2, h2⟩
    · exact absurd f e1
    · exact absurd f e2
    · rw [h1, h2]
def askR (tb : Nat → Nat) (tl dy : Nat) (xf xp ef ep : Int32) : Prop := (dy = 0 ∧ ef = xf ∧ ep = xp) ∨ (1 ≤ dy ∧ quO (quP tb tl) ef ep)
theorem askR_eq {tb : Nat → Nat} {tl dy : Nat} {xf xp a b c d : Int32} (h1 : askR tb tl dy xf xp a b) (h2 : askR tb tl dy xf xp c d) : c = a ∧ d = b := by
  rcases h1 with ⟨e, h1, h1'⟩ | ⟨e, h1⟩
  · rcases h2 with ⟨f, h2, h2'⟩ | ⟨f, h2⟩
    · exact ⟨h2.trans h1.symm, h2'.trans h1'.symm⟩
    · omega
  · rcases h2 with ⟨f, h2, h2'⟩ | ⟨f, h2⟩
    · omega
    · exact qu_eq h1 h2
theorem askR_il {tb : Nat → Nat} {tl dy il : Nat} {xf xp a b : Int32} (h : (il = 0 ∧ a = xf ∧ b = xp) ∨ (il = 1 ∧ quO (quP tb tl) a b)) (h1 : il = 1 → 1 ≤ dy) (h2 : 1 ≤ dy → il = 1) : askR tb tl dy xf xp a b := by
  rcases h with ⟨e, h⟩ | ⟨e, h⟩
  · refine Or.inl ⟨?_, h⟩
    rcases Nat.eq_zero_or_pos dy with q | q
    · exact q
    · have := h2 q; omega
  · exact Or.inr ⟨h1 e, h⟩
/-- by the word that a question begins with -/
theorem tokV {tb : Nat → Nat} {n k : Nat} {c : Cur} (htb : ∀ j, tb j ≤ 255) (hk : k < 28) : tokOf tb n c = nI (256 + k) ↔ isV tb n k c = true := tok_W htb hk
theorem isV_1 {tb : Nat → Nat} {n j k : Nat} {c : Cur} (htb : ∀ j, tb j ≤ 255) (hj : j < 28) (hk : k < 28) (h : isV tb n j c = true) (hne : ¬ j = k) : ¬ isV tb n k c = true := fun q => by
  have a := ((tokV htb hj).mpr h).symm.trans ((tokV htb hk).mpr q)
  have := (nI_eq (by omega) (by omega)).mp a
  omega
theorem rc_ap {P : Cur → Res} (o : Res) : rc (bindR o (apF P)) = bindR (rc o) (fun c => rc (P c)) := by
  cases o with
  | error e => rfl
  | ok r =>
    show bindR (bindR (P r.1) (fun q => .ok (q.1, r.2 ++ q.2))) _ = bindR (P r.1) _
    rw [bindR_assoc]; rfl
theorem q_t {tb : Nat → Nat} {n k : Nat} {xa : Nat} {xv xt : Int32} {xz : Nat} {xf xp : Int32} (htb : ∀ j, tb j ≤ 255) (h : rdO tb n (.ok (sk tb n 0, false)) xa xv xt xz xf xp) (e : xt = nI (256 + k)) (hk : k = 15 ∨ k = 23 ∨ k = 24) : rc (bindR (.ok (nx tb n (sk tb n 0), [])) (apF (testR tb n (fcR tb n 6)))) = quF tb n (sk tb n 0, false) := by
  have ht : tokOf tb n (sk tb n 0, false) = nI (256 + k) := h.2.2.2.2.1.symm.trans e
  have hv := (tokV htb (by omega)).mp ht
  rw [rc_ap]
  unfold quF
  rw [if_pos (by rcases hk with hk | hk | hk <;> subst hk; exact Or.inl hv; exact Or.inr (Or.inl hv); exact Or.inr (Or.inr hv))]
  rfl
theorem q_s {tb : Nat → Nat} {n k : Nat} {xa : Nat} {xv xt : Int32} {xz : Nat} {xf xp : Int32} (htb : ∀ j, tb j ≤ 255) (h : rdO tb n (.ok (sk tb n 0, false)) xa xv xt xz xf xp) (e : xt = nI (256 + k)) (hk : k = 25 ∨ k = 26 ∨ k = 27) : rc (bindR (.ok (nx tb n (sk tb n 0), [])) (apF (sumOf tb n (rdPart tb n 2 6)))) = quF tb n (sk tb n 0, false) := by
  have ht : tokOf tb n (sk tb n 0, false) = nI (256 + k) := h.2.2.2.2.1.symm.trans e
  have hv := (tokV htb (by omega)).mp ht
  rw [rc_ap]
  unfold quF
  rw [if_neg (fun q => by rcases q with q | q | q <;> exact isV_1 htb (by omega) (by omega) hv (by omega) q), if_pos (by rcases hk with hk | hk | hk <;> subst hk; exact Or.inl hv; exact Or.inr (Or.inl hv); exact Or.inr (Or.inr hv))]
  rfl
theorem q_n {tb : Nat → Nat} {n : Nat} {xa : Nat} {xv xt : Int32} {xz : Nat} {xf xp : Int32} (htb : ∀ j, tb j ≤ 255) (h : rdO tb n (.ok (sk tb n 0, false)) xa xv xt xz xf xp) (h1 : ¬ xt = 271) (h2 : ¬ xt = 279) (h3 : ¬ xt = 280) (h4 : ¬ xt = 281) (h5 : ¬ xt = 282) (h6 : ¬ xt = 283) : bindR (.ok (sk tb n 0, false)) (hereF 1) = quF tb n (sk tb n 0, false) := by
  have ht : xt = tokOf tb n (sk tb n 0, false) := h.2.2.2.2.1
  have g : ∀ k, k < 28 → ¬ xt = nI (256 + k) → ¬ isV tb n k (sk tb n 0, false) = true := fun k hk a q => a (ht.trans ((tokV htb hk).mpr q))
  unfold quF
  rw [if_neg (fun q => by rcases q with q | q | q; exact g 15 (by decide) h1 q; exact g 23 (by decide) h2 q; exact g 24 (by decide) h3 q), if_neg (fun q => by rcases q with q | q | q; exact g 25 (by decide) h4 q; exact g 26 (by decide) h5 q; exact g 27 (by decide) h6 q)]
  rfl
