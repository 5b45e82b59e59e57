theorem p_pair0 {tb : Nat → Nat} {n kind d v xo : Nat} {o : Res} {xa : Nat} {xv xt : Int32} {xz : Nat} {xf xp : Int32} {cl mw : Nat} {f : Nat → Int32} (htb : ∀ j, tb j ≤ 255) (h : rsO tb n o xa xv xt xz xf xp cl mw f) (hx : xt = 40 → xo = 6) (hd : xo + d = 6) : bd o (opF tb n 40 xo) = bindR o (apF (pairP tb n kind v d)) := by
  cases o with
  | error e => rfl
  | ok r =>
    have ht := rs_t h rfl
    show bindR (opF tb n 40 xo r.1) _ = bindR (pairP tb n kind v d r.1) _
    unfold opF
    by_cases q : tokOf tb n r.1 = 40
    · have h6 := hx (ht.trans q)
      obtain rfl : d = 0 := by omega
      rw [if_pos q, if_neg (by omega), pairP, if_pos ((tok40 htb).mp q)]; rfl
    · rw [if_neg q]
      cases d with
      | zero => rw [pairP, if_neg (fun z => q ((tok40 htb).mpr z))]; rfl
      | succ d => rw [pairP, if_neg (fun z => q ((tok40 htb).mpr z))]; rfl
theorem p_mm {tb : Nat → Nat} {n kind d v : Nat} {o : Res} {xa : Nat} {xv xt : Int32} {xz : Nat} {xf xp : Int32} {cl mw : Nat} {f : Nat → Int32} (htb : ∀ j, tb j ≤ 255) (h : rsO tb n o xa xv xt xz xf xp cl mw f) (e : (xt = 277 ∧ v = 5) ∨ (xt = 278 ∧ v = 6)) : bindR (bd o (nxF tb n)) (apF (pairP tb n kind v d)) = bindR o (apF (rdPart tb n kind d)) := by
  cases o with
  | error e => rfl
  | ok r =>
    have ht := rs_t h rfl
    rw [ht] at e
    show bindR (pairP tb n kind v d (nx tb n r.1.1)) _ = bindR (rdPart tb n kind d r.1) _
    rw [pB_pair htb e]
theorem p_weeks {tb : Nat → Nat} {n d xo : Nat} {o : Res} {xa : Nat} {xv xt : Int32} {xz : Nat} {xf xp : Int32} {cl mw : Nat} {f : Nat → Int32} (htb : ∀ j, tb j ≤ 255) (h : rsO tb n o xa xv xt xz xf xp cl mw f) (e : xt = 272) (hx : xo < 6) (hd : 1 ≤ d) : ad (bindR (bd o (opF tb n 272 xo)) (apF (rdPart tb n 2 (d - 1)))) 60 = bindR o (apF (rdPart tb n 2 d)) := by
  obtain ⟨d, rfl⟩ : ∃ m, d = m + 1 := ⟨d - 1, by omega⟩
  rw [Nat.add_sub_cancel]
  cases o with
  | error e => rfl
  | ok r =>
    have ht := (rs_t h rfl).symm.trans e
    have h1 : bd (.ok r) (opF tb n 272 xo) = .ok (nx tb n r.1.1, r.2) := by
      show bindR (opF tb n 272 xo r.1) _ = _
      unfold opF; rw [if_pos ht, if_pos hx]; rfl
    rw [h1]
    show bindR (bindR (rdPart tb n 2 d (nx tb n r.1.1)) _) _ = bindR (rdPart tb n 2 (d + 1) r.1) _
    rw [pB_weeks htb ht, bindR_assoc, bindR_assoc]
    refine bindR_congr _ (fun a _ => ?_)
    show Except.ok (a.1, (r.2 ++ a.2) ++ [60]) = Except.ok (a.1, r.2 ++ (a.2 ++ [60]))
    rw [List.append_assoc]
theorem p_weeks0 {tb : Nat → Nat} {n d xo : Nat} {o : Res} {xa : Nat} {xv xt : Int32} {xz : Nat} {xf xp : Int32} {cl mw : Nat} {f : Nat → Int32} (htb : ∀ j, tb j ≤ 255) (h : rsO tb n o xa xv xt xz xf xp cl mw f) (e : xt = 272) (hx : xo = 6) (hd : d = 0) : bd o (opF tb n 272 xo) = bindR o (apF (rdPart tb n 2 d)) := by
  subst hd
  cases o with
  | error e => rfl
  | ok r =>
    have ht := (rs_t h rfl).symm.trans e
    show bindR (opF tb n 272 xo r.1) _ = bindR (rdPart tb n 2 0 r.1) _
    unfold opF; rw [if_pos ht, if_neg (by omega), pB_weeks0 htb ht]; rfl
theorem p_name {tb : Nat → Nat} {n kind d k : Nat} {o : Res} {xa : Nat} {xv xt : Int32} {xz : Nat} {xf xp : Int32} {cl mw : Nat} {f : Nat → Int32} (htb : ∀ j, tb j ≤ 255) (h : rsO tb n o xa xv xt xz xf xp cl mw f) (h1 : ¬ xt = 40) (h2 : ¬ xt = 277) (h3 : ¬ xt = 278) (h4 : ¬ (kind = 2 ∧ xt = 272)) (hk : nIx kind xt = some k) : bd (ad o (40 + k)) (nxF tb n) = bindR o (apF (rdPart tb n kind d)) := by
  cases o with
  | error e => rfl
  | ok r =>
    have ht := rs_t h rfl
    rw [ht] at h1 h2 h3 h4 hk
    show bindR (nxF tb n r.1) (fun c => .ok (c, r.2 ++ [40 + k])) = bindR (rdPart tb n kind d r.1) _
    rw [pB_rest htb h1 h2 h3 h4, hk]; rfl
theorem p_none {tb : Nat → Nat} {n kind d : Nat} {o : Res} {xa : Nat} {xv xt : Int32} {xz : Nat} {xf xp : Int32} {cl mw : Nat} {f : Nat → Int32} (htb : ∀ j, tb j ≤ 255) (h : rsO tb n o xa xv xt xz xf xp cl mw f) (h0 : ¬ xt = -3) (h1 : ¬ xt = 40) (h2 : ¬ xt = 277) (h3 : ¬ xt = 278) (h4 : ¬ (kind = 2 ∧ xt = 272)) (hk : nIx kind xt = none) : bd o (hereF 1) = bindR o (apF (rdPart tb n kind d)) := by
  cases o with
  | error e => rfl
  | ok r =>
    have ht := rs_t h rfl
    rw [ht] at h0 h1 h2 h3 h4 hk
    show bindR (hereF 1 r.1) (fun c => .ok (c, r.2)) = bindR (rdPart tb n kind d r.1) (fun q => .ok (q.1, r.2 ++ q.2))
    rw [pB_rest htb h1 h2 h3 h4, hk]
    show _ = bindR (bindR (numP tb n 0 9999 r.1) _) _
    unfold numP
    rw [if_neg (fun q => h0 ((tok_N htb).mpr q))]; rfl
def iO (i : Nat) (o : Res) : Prop := ∀ r, o = .ok r → i ≤ r.1.1
theorem iO_0 (o : Res) : iO 0 o := fun r _ => Nat.zero_le _
theorem iO_s {tb : Nat → Nat} {n i v : Nat} {P : Cur → Res} {o : Res} {xa : Nat} {xv xt : Int32} {xz : Nat} {xf xp : Int32} {cl mw : Nat} {f : Nat → Int32} (htb : ∀ j, tb j ≤ 255) (h : rsO tb n o xa xv xt xz xf xp cl mw f) (hr : ¬ xt = -1 ∧ ¬ xt = -2) (hP : mono P) (hi : iO i o) : iO (i + 1) (ad (bindR (bd o (nxF tb n)) (apF P)) v) := fun q hq => by
  obtain ⟨r1, h1, h2⟩ := bindR_ok hq
  cases h2
  obtain ⟨r2, h3, h4⟩ := bindR_ok h1
  obtain ⟨r3, h5, h6⟩ := bindR_ok h4
  cases h6
  obtain ⟨r4, h7, h8⟩ := bindR_ok h3
  cases h8
  rw [rs_t h h7] at hr
  have a := nx_gt (tb := tb) (tok_real htb hr.1 hr.2).1
  have b := hi r4 h7
  have d := hP _ _ h5
  show i + 1 ≤ r3.1.1
  have e : (nx tb n r4.1.1).1 ≤ r3.1.1 := d
  omega
theorem tok42 {tb : Nat → Nat} {n : Nat} {c : Cur} (htb : ∀ j, tb j ≤ 255) : tokOf tb n c = 42 ↔ isS tb n 42 c = true := tok_S (b := 42) htb (by decide)
theorem tok47 {tb : Nat → Nat} {n : Nat} {c : Cur} (htb : ∀ j, tb j ≤ 255) : tokOf tb n c = 47 ↔ isS tb n 47 c = true := tok_S (b := 47) htb (by decide)
theorem prod_0 {tb : Nat → Nat} {n : Nat} {P : Cur → Res} (o : Res) : bindR (bindR o (apF P)) (fun r => mulLp tb n P (n + 2) r.1 r.2) = bindR o (apF (prodOf tb n P)) := by
  cases o with
  | error e => rfl
  | ok r =>
    show bindR (bindR (P r.1) _) _ = bindR (bindR (P r.1) _) _
    rw [bindR_assoc, bindR_assoc]
    refine bindR_congr _ (fun a _ => ?_)
    exact mulLp_pre r.2 (n + 2) a.1 a.2
theorem prod_s {tb : Nat → Nat} {n v : Nat} {P : Cur → Res} {o T : Res} {xa : Nat} {xv xt : Int32} {xz : Nat} {xf xp : Int32} {cl mw : Nat} {f : Nat → Int32} (htb : ∀ j, tb j ≤ 255) (h : rsO tb n o xa xv xt xz xf xp cl mw f) (hP : mono P) (e : (xt = 42 ∧ v = 3) ∨ (xt = 47 ∧ v = 4)) (hT : bindR o (fun r => mulLp tb n P (n + 2) r.1 r.2) = T) : bindR (ad (bindR (bd o (nxF tb n)) (apF P)) v) (fun r => mulLp tb n P (n + 2) r.1 r.2) = T := by
  rw [← hT]
  cases o with
  | error e => rfl
  | ok r =>
    rw [rs_t h rfl] at e
    show bindR (bindR (bindR (P (nx tb n r.1.1)) (fun q => .ok (q.1, r.2 ++ q.2))) (fun q => .ok (q.1, q.2 ++ [v]))) _ = mulLp tb n P (n + 2) r.1 r.2
    rw [mulLp, bindR_assoc, bindR_assoc]
    rcases e with ⟨e, rfl⟩ | ⟨e, rfl⟩
    · have hs := (tok42 htb).mp e
      have hn := nx_gt (tb := tb) (isS_lt hs).1
      rw [if_pos hs]
      refine bindR_congr _ (fun a ha => ?_)
      have hm := hP _ _ ha
      exact mulLp_fuel hP _ _ _ _ (by omega) (by omega) (by omega) (by omega)
    · have hs := (tok47 htb).mp e
      have hn := nx_gt (tb := tb) (isS_lt hs).1
      rw [if_neg (isS_not hs (by decide)), if_pos hs]
      refine bindR_congr _ (fun a ha => ?_)
      have hm := hP _ _ ha
      exact mulLp_fuel hP _ _ _ _ (by omega) (by omega) (by omega) (by omega)
theorem prod_e {tb : Nat → Nat} {n i : Nat} {P : Cur → Res} {o T : Res} {xa : Nat} {xv xt : Int32} {xz : Nat} {xf xp : Int32} {cl mw : Nat} {f : Nat → Int32} (htb : ∀ j, tb j ≤ 255) (h : rsO tb n o xa xv xt xz xf xp cl mw f) (hn : n ≤ 1600) (hi : iO i o) (e : 1600 ≤ i ∨ (¬ xt = 42 ∧ ¬ xt = 47)) (hT : bindR o (fun r => mulLp tb n P (n + 2) r.1 r.2) = T) : rsO tb n T xa xv xt xz xf xp cl mw f := by
  have : T = o := by
    rw [← hT]
    cases o with
    | error e => rfl
    | ok r =>
      have hx := hi r rfl
      rw [rs_t h rfl] at e
      have a1 : ¬ isS tb n 42 r.1 = true := fun q => by
        have q1 := (isS_lt q).1
        have q2 := (tok42 htb).mpr q
        rcases e with e | e
        · omega
        · exact e.1 q2
      have a2 : ¬ isS tb n 47 r.1 = true := fun q => by
        have q1 := (isS_lt q).1
        have q2 := (tok47 htb).mpr q
        rcases e with e | e
        · omega
        · exact e.2 q2
      show mulLp tb n P (n + 1 + 1) r.1 r.2 = _
      rw [mulLp_stop a1 a2]
  rw [this]; exact h
theorem tok43 {tb : Nat → Nat} {n : Nat} {c : Cur} (htb : ∀ j, tb j ≤ 255) : tokOf tb n c = 43 ↔ isS tb n 43 c = true := tok_S (b := 43) htb (by decide)
theorem tok45 {tb : Nat → Nat} {n : Nat} {c : Cur} (htb : ∀ j, tb j ≤ 255) : tokOf tb n c = 45 ↔ isS tb n 45 c = true := tok_S (b := 45) htb (by decide)
theorem sum_0 {tb : Nat → Nat} {n : Nat} {P : Cur → Res} (o : Res) : bindR (bindR o (apF (prodOf tb n P))) (fun r => addLp tb n P (n + 2) r.1 r.2) = bindR o (apF (sumOf tb n P)) := by
  cases o with
  | error e => rfl
  | ok r =>
    show bindR (bindR ((prodOf tb n P) r.1) _) _ = bindR (bindR ((prodOf tb n P) r.1) _) _
    rw [bindR_assoc, bindR_assoc]
    refine bindR_congr _ (fun a _ => ?_)
    exact addLp_pre r.2 (n + 2) a.1 a.2
theorem sum_s {tb : Nat → Nat} {n v : Nat} {P : Cur → Res} {o T : Res} {xa : Nat} {xv xt : Int32} {xz : Nat} {xf xp : Int32} {cl mw : Nat} {f : Nat → Int32} (htb : ∀ j, tb j ≤ 255) (h : rsO tb n o xa xv xt xz xf xp cl mw f) (hP : mono P) (e : (xt = 43 ∧ v = 1) ∨ (xt = 45 ∧ v = 2)) (hT : bindR o (fun r => addLp tb n P (n + 2) r.1 r.2) = T) : bindR (ad (bindR (bd o (nxF tb n)) (apF (prodOf tb n P))) v) (fun r => addLp tb n P (n + 2) r.1 r.2) = T := by
  rw [← hT]
  cases o with
  | error e => rfl
  | ok r =>
    rw [rs_t h rfl] at e
    show bindR (bindR (bindR ((prodOf tb n P) (nx tb n r.1.1)) (fun q => .ok (q.1, r.2 ++ q.2))) (fun q => .ok (q.1, q.2 ++ [v]))) _ = addLp tb n P (n + 2) r.1 r.2
    rw [addLp, bindR_assoc, bindR_assoc]
    rcases e with ⟨e, rfl⟩ | ⟨e, rfl⟩
    · have hs := (tok43 htb).mp e
      have hn := nx_gt (tb := tb) (isS_lt hs).1
      rw [if_pos hs]
      refine bindR_congr _ (fun a ha => ?_)
      have hm := (prodOf_mono hP) _ _ ha
      exact addLp_fuel hP _ _ _ _ (by omega) (by omega) (by omega) (by omega)
    · have hs := (tok45 htb).mp e
      have hn := nx_gt (tb := tb) (isS_lt hs).1
      rw [if_neg (isS_not hs (by decide)), if_pos hs]
      refine bindR_congr _ (fun a ha => ?_)
      have hm := (prodOf_mono hP) _ _ ha
      exact addLp_fuel hP _ _ _ _ (by omega) (by omega) (by omega) (by omega)
theorem sum_e {tb : Nat → Nat} {n i : Nat} {P : Cur → Res} {o T : Res} {xa : Nat} {xv xt : Int32} {xz : Nat} {xf xp : Int32} {cl mw : Nat} {f : Nat → Int32} (htb : ∀ j, tb j ≤ 255) (h : rsO tb n o xa xv xt xz xf xp cl mw f) (hn : n ≤ 1600) (hi : iO i o) (e : 1600 ≤ i ∨ (¬ xt = 43 ∧ ¬ xt = 45)) (hT : bindR o (fun r => addLp tb n P (n + 2) r.1 r.2) = T) : rsO tb n T xa xv xt xz xf xp cl mw f := by
  have : T = o := by
    rw [← hT]
    cases o with
    | error e => rfl
    | ok r =>
      have hx := hi r rfl
      rw [rs_t h rfl] at e
      have a1 : ¬ isS tb n 43 r.1 = true := fun q => by
        have q1 := (isS_lt q).1
        have q2 := (tok43 htb).mpr q
        rcases e with e | e
        · omega
        · exact e.1 q2
      have a2 : ¬ isS tb n 45 r.1 = true := fun q => by
        have q1 := (isS_lt q).1
        have q2 := (tok45 htb).mpr q
        rcases e with e | e
        · omega
        · exact e.2 q2
      show addLp tb n P (n + 1 + 1) r.1 r.2 = _
      rw [addLp_stop a1 a2]
  rw [this]; exact h

