/-! sums with their steps: what was read, and the steps so far -/
def rc (o : Res) : Except Err Cur := bindR o (fun r => .ok r.1)
def bd (o : Res) (F : Cur → Except Err Cur) : Res := bindR o (fun r => bindR (F r.1) (fun c => .ok (c, r.2)))
def ad (o : Res) (v : Nat) : Res := bindR o (fun r => .ok (r.1, r.2 ++ [v]))
def apF (P : Cur → Res) (r : Cur × List Nat) : Res := bindR (P r.1) (fun q => .ok (q.1, r.2 ++ q.2))
/-- the class's number for a step -/
def cm (v : Nat) : Int32 := if 1000 ≤ v then nI (v - 1000) else if v < 12 then nI (29999 + v) else if v = 12 then 20001 else if v = 13 then 1 else if v = 60 then 20000 else if v = 47 then 10003 else if v = 48 then 10007 else if v = 49 then 10008 else nI (9960 + v)
theorem cm_num (v : Nat) : nI v = cm (1000 + v) := by
  unfold cm; rw [if_pos (by omega), show 1000 + v - 1000 = v by omega]
theorem cm_week {v : Nat} (h : v ≤ 10999) : cm v = 10004 ↔ v = 44 := by
  have e1 : ((10004 : Int32)).toInt = 10004 := by decide
  refine ⟨fun q => ?_, fun q => by subst q; decide⟩
  have q := i_eq q
  rw [e1] at q
  unfold cm at q
  split at q
  · rw [i_nI (by omega)] at q; omega
  · split at q
    · rw [i_nI (by omega)] at q; omega
    · split at q
      · have : ((20001 : Int32)).toInt = 20001 := by decide
        omega
      · split at q
        · have : ((1 : Int32)).toInt = 1 := by decide
          omega
        · split at q
          · have : ((20000 : Int32)).toInt = 20000 := by decide
            omega
          · split at q
            · have : ((10003 : Int32)).toInt = 10003 := by decide
              omega
            · split at q
              · have : ((10007 : Int32)).toInt = 10007 := by decide
                omega
              · split at q
                · have : ((10008 : Int32)).toInt = 10008 := by decide
                  omega
                · rw [i_nI (by omega)] at q; omega
def cdK (k : List Nat) (cl mw : Nat) (f : Nat → Int32) : Prop := cl = k.length ∧ (mw = 1 ↔ 44 ∈ k) ∧ ∀ j, j < k.length → f j = cm (k.getD j 0)
def coO (o : Res) (cl mw : Nat) (f : Nat → Int32) : Prop := ∀ r, o = .ok r → cdK r.2 cl mw f
def rsO (tb : Nat → Nat) (n : Nat) (o : Res) (xa : Nat) (xv xt : Int32) (xz : Nat) (xf xp : Int32) (cl mw : Nat) (f : Nat → Int32) : Prop := rdO tb n (rc o) xa xv xt xz xf xp ∧ coO o cl mw f
theorem rc_ad (o : Res) (v : Nat) : rc (ad o v) = rc o := by cases o <;> rfl
theorem rc_bd (o : Res) (F : Cur → Except Err Cur) : rc (bd o F) = bindR (rc o) F := by
  cases o with
  | error e => rfl
  | ok r =>
    show bindR (bindR (F r.1) (fun c => .ok (c, r.2))) _ = F r.1
    cases F r.1 <;> rfl
theorem rs_bd {tb : Nat → Nat} {n : Nat} {o : Res} {xa : Nat} {xv xt : Int32} {xz : Nat} {xf xp : Int32} {cl mw : Nat} {f : Nat → Int32} {F : Cur → Except Err Cur} {ya : Nat} {yv yt : Int32} {yz : Nat} {yf yp : Int32} (h : rsO tb n o xa xv xt xz xf xp cl mw f) (h2 : rdO tb n (bindR (rc o) F) ya yv yt yz yf yp) : rsO tb n (bd o F) ya yv yt yz yf yp cl mw f := by
  refine ⟨by rw [rc_bd]; exact h2, fun q hq => ?_⟩
  obtain ⟨r, h3, h4⟩ := bindR_ok hq
  obtain ⟨c, h5, h6⟩ := bindR_ok h4
  cases h6
  exact h.2 r h3
theorem rs_ad {tb : Nat → Nat} {n : Nat} {o : Res} {xa : Nat} {xv xt : Int32} {xz : Nat} {xf xp : Int32} {cl mw : Nat} {f : Nat → Int32} {v c2 w2 : Nat} {g : Nat → Int32} (h : rsO tb n o xa xv xt xz xf xp cl mw f) (h2 : coO (ad o v) c2 w2 g) : rsO tb n (ad o v) xa xv xt xz xf xp c2 w2 g := ⟨by rw [rc_ad]; exact h.1, h2⟩
theorem rs_c {tb : Nat → Nat} {n : Nat} {o : Res} {xa : Nat} {xv xt : Int32} {xz : Nat} {xf xp : Int32} {cl mw : Nat} {f : Nat → Int32} {r : Cur × List Nat} (h : rsO tb n o xa xv xt xz xf xp cl mw f) (e : o = .ok r) : rdC tb n r.1 xa xv xt xz xf xp := by
  subst e; exact h.1
theorem rs_t {tb : Nat → Nat} {n : Nat} {o : Res} {xa : Nat} {xv xt : Int32} {xz : Nat} {xf xp : Int32} {cl mw : Nat} {f : Nat → Int32} {r : Cur × List Nat} (h : rsO tb n o xa xv xt xz xf xp cl mw f) (e : o = .ok r) : xt = tokOf tb n r.1 := (rs_c h e).2.2.2.2.1
/-- a step is added -/
theorem co_ad {o : Res} {cl mw v : Nat} {f : Nat → Int32} {x : Int32} (h : coO o cl mw f) (hv : x = cm v) (hv2 : v ≤ 10999) (hc : cl < 2147483648) {w2 : Nat} (hw : (mw = 1 ∨ x = 10004) ↔ w2 = 1) : coO (ad o v) (cl + 1) w2 (upd f (nI cl).toNatClampNeg x) := by
  intro q hq
  obtain ⟨r, h1, h2⟩ := bindR_ok hq
  cases h2
  obtain ⟨a1, a2, a3⟩ := h r h1
  refine ⟨by rw [List.length_append, a1]; rfl, ?_, fun j hj => ?_⟩
  · rw [← hw, List.mem_append, List.mem_singleton, a2, hv, cm_week hv2]
    exact ⟨fun t => t.elim Or.inl (fun t => Or.inr t.symm), fun t => t.elim Or.inl (fun t => Or.inr t.symm)⟩
  · rw [List.length_append, List.length_singleton] at hj
    rw [nI_clamp hc]
    by_cases e : j = cl
    · subst e
      rw [List.getD_eq_getElem?_getD, a1, List.getElem?_append_right (by omega), Nat.sub_self]
      unfold upd; rw [if_pos rfl]; exact hv
    · rw [List.getD_eq_getElem?_getD, List.getElem?_append_left (by omega), ← List.getD_eq_getElem?_getD, ← a3 j (by omega)]
      unfold upd; rw [if_neg e]
theorem co_full {o : Res} {cl mw v : Nat} {f : Nat → Int32} {c2 w2 : Nat} {g : Nat → Int32} (h : coO o cl mw f) (hr : ∀ r, o = .ok r → r.2.length < 1600) (hc : 1600 ≤ cl) : coO (ad o v) c2 w2 g := by
  intro q hq
  obtain ⟨r, h1, h2⟩ := bindR_ok hq
  have := (h r h1).1
  have := hr r h1
  omega
theorem or_w {mw : Nat} {x : Int32} (hm : mw ≤ 1) (h : x = 10004) : (mw = 1 ∨ x = 10004) ↔ max mw 1 = 1 := ⟨fun _ => by omega, fun _ => Or.inr h⟩
theorem or_n {mw : Nat} {x : Int32} (hm : mw ≤ 1) (h : ¬ x = 10004) : (mw = 1 ∨ x = 10004) ↔ max mw 0 = 1 := ⟨fun q => q.elim (fun q => by omega) (fun q => absurd q h), fun q => Or.inl (by omega)⟩
theorem nor1 (a b : Nat) (ha : a ≤ 1) (hb : b ≤ 1) : nI a ||| nI b = nI (max a b) := by
  match a, ha, b, hb with
  | 0, _, 0, _ => decide
  | 0, _, 1, _ => decide
  | 1, _, 0, _ => decide
  | 1, _, 1, _ => decide
  | n + 2, h, _, _ => exact absurd h (by omega)
  | 0, _, n + 2, h => exact absurd h (by omega)
  | 1, _, n + 2, h => exact absurd h (by omega)
/-! no more steps than bytes -/
def lenO (o : Res) : Prop := ∀ r, o = .ok r → r.2.length ≤ r.1.1
def lenS (o : Res) : Prop := ∀ r, o = .ok r → r.2.length < r.1.1
def fwd (F : Cur → Except Err Cur) : Prop := ∀ c c', F c = .ok c' → c.1 ≤ c'.1
def lenP (P : Cur → Res) : Prop := ∀ c q, P c = .ok q → q.2.length + c.1 ≤ q.1.1
theorem te_ge (tb : Nat → Nat) (n s : Nat) : s ≤ te tb n s := by
  unfold te
  split
  · exact ext_ge _ _ _ _
  · split
    · exact ext_ge _ _ _ _
    · omega
theorem nx_ge (tb : Nat → Nat) (n s : Nat) : s ≤ (nx tb n s).1 := Nat.le_trans (te_ge tb n s) (ext_ge qB tb n _)
theorem fwd_here {k : Nat} : fwd (hereF k) := fun c c' h => by cases h
theorem fwd_tk {tb : Nat → Nat} {n : Nat} {w : Int32} : fwd (tkF tb n w) := fun c c' h => by
  unfold tkF at h
  split at h
  · cases h; exact nx_ge tb n c.1
  · cases h
theorem lenO_S {o : Res} (h : lenS o) : lenO o := fun r e => Nat.le_of_lt (h r e)
theorem lenO_bd {o : Res} {F : Cur → Except Err Cur} (hF : fwd F) (h : lenO o) : lenO (bd o F) := fun q hq => by
  obtain ⟨r, h3, h4⟩ := bindR_ok hq
  obtain ⟨c, h5, h6⟩ := bindR_ok h4
  cases h6
  exact Nat.le_trans (h r h3) (hF _ _ h5)
theorem lenS_bd {o : Res} {F : Cur → Except Err Cur} (hF : fwd F) (h : lenS o) : lenS (bd o F) := fun q hq => by
  obtain ⟨r, h3, h4⟩ := bindR_ok hq
  obtain ⟨c, h5, h6⟩ := bindR_ok h4
  cases h6
  exact Nat.lt_of_lt_of_le (h r h3) (hF _ _ h5)
theorem lenO_ap {o : Res} {P : Cur → Res} (hP : lenP P) (h : lenO o) : lenO (bindR o (apF P)) := fun q hq => by
  obtain ⟨r, h3, h4⟩ := bindR_ok hq
  obtain ⟨c, h5, h6⟩ := bindR_ok h4
  cases h6
  have a := h r h3
  have b := hP _ _ h5
  show (r.2 ++ c.2).length ≤ c.1.1
  rw [List.length_append]; omega
theorem lenS_ap {o : Res} {P : Cur → Res} (hP : lenP P) (h : lenS o) : lenS (bindR o (apF P)) := fun q hq => by
  obtain ⟨r, h3, h4⟩ := bindR_ok hq
  obtain ⟨c, h5, h6⟩ := bindR_ok h4
  cases h6
  have a := h r h3
  have b := hP _ _ h5
  show (r.2 ++ c.2).length < c.1.1
  rw [List.length_append]; omega
theorem lenO_ad {o : Res} {v : Nat} (h : lenS o) : lenO (ad o v) := fun q hq => by
  obtain ⟨r, h3, h4⟩ := bindR_ok hq
  cases h4
  have a := h r h3
  show (r.2 ++ [v]).length ≤ r.1.1
  rw [List.length_append, List.length_singleton]; omega
theorem lenS_nx {tb : Nat → Nat} {n : Nat} {o : Res} {xa : Nat} {xv xt : Int32} {xz : Nat} {xf xp : Int32} {cl mw : Nat} {f : Nat → Int32} (htb : ∀ j, tb j ≤ 255) (h : rsO tb n o xa xv xt xz xf xp cl mw f) (hr : ¬ xt = -1 ∧ ¬ xt = -2) (hl : lenO o) : lenS (bd o (nxF tb n)) := fun q hq => by
  obtain ⟨r, h3, h4⟩ := bindR_ok hq
  cases h4
  rw [rs_t h h3] at hr
  have a := nx_gt (tb := tb) (tok_real htb hr.1 hr.2).1
  have b := hl r h3
  show r.2.length < (nx tb n r.1.1).1
  omega
theorem lenS_op {tb : Nat → Nat} {n : Nat} {o : Res} {w : Int32} {xo : Nat} (htb : ∀ j, tb j ≤ 255) (hr : ¬ w = -1 ∧ ¬ w = -2) (hl : lenO o) : lenS (bd o (opF tb n w xo)) := fun q hq => by
  obtain ⟨r, h3, h4⟩ := bindR_ok hq
  obtain ⟨c, h5, h6⟩ := bindR_ok h4
  cases h6
  unfold opF at h5
  split at h5
  · next e =>
    split at h5
    · cases h5
      rw [← e] at hr
      have a := nx_gt (tb := tb) (tok_real htb hr.1 hr.2).1
      have b := hl r h3
      show r.2.length < (nx tb n r.1.1).1
      omega
    · cases h5
  · cases h5
theorem lenS_nm {tb : Nat → Nat} {n lo hi : Nat} {o : Res} (hl : lenO o) : lenS (bd o (nmF tb n lo hi)) := fun q hq => by
  obtain ⟨r, h3, h4⟩ := bindR_ok hq
  obtain ⟨c, h5, h6⟩ := bindR_ok h4
  cases h6
  obtain ⟨z, h7, h8⟩ := bindR_ok h5
  cases h8
  have a := numP_ok h7
  have b := hl r h3
  have d := nx_gt (tb := tb) a.1
  show r.2.length < z.2.1
  rw [a.2]; omega
theorem rm_S {tb : Nat → Nat} {n : Nat} {o : Res} {xa : Nat} {xv xt : Int32} {xz : Nat} {xf xp : Int32} {cl mw : Nat} {f : Nat → Int32} (h : rsO tb n o xa xv xt xz xf xp cl mw f) (hn : n ≤ 1600) (hl : lenS o) : ∀ r, o = .ok r → r.2.length < 1600 := fun r e => by
  have a := hl r e
  have b := (rs_c h e).2.2.2.1
  omega
theorem rm_w {tb : Nat → Nat} {n : Nat} {o : Res} {xa : Nat} {xv xt : Int32} {xz : Nat} {xf xp : Int32} {cl mw : Nat} {f : Nat → Int32} (htb : ∀ j, tb j ≤ 255) (h : rsO tb n o xa xv xt xz xf xp cl mw f) (hn : n ≤ 1600) (hr : ¬ xt = -1 ∧ ¬ xt = -2) (hl : lenO o) : ∀ r, o = .ok r → r.2.length < 1600 := fun r e => by
  have a := hl r e
  rw [rs_t h e] at hr
  have b := (tok_real htb hr.1 hr.2).1
  omega
theorem mulLp_len {tb : Nat → Nat} {n : Nat} {P : Cur → Res} (hP : lenP P) : ∀ f c k r, mulLp tb n P f c k = .ok r → r.2.length + c.1 ≤ r.1.1 + k.length
  | 0, c, k, r, h => by cases h
  | f + 1, c, k, r, h => by
    rw [mulLp] at h
    split at h
    · next hs =>
      have hn := nx_gt (tb := tb) (isS_lt hs).1
      obtain ⟨a, h1, h2⟩ := bindR_ok h
      have b1 := hP _ _ h1
      have b2 := mulLp_len hP f _ _ _ h2
      rw [List.length_append, List.length_append, List.length_singleton] at b2
      omega
    · split at h
      · next hs =>
        have hn := nx_gt (tb := tb) (isS_lt hs).1
        obtain ⟨a, h1, h2⟩ := bindR_ok h
        have b1 := hP _ _ h1
        have b2 := mulLp_len hP f _ _ _ h2
        rw [List.length_append, List.length_append, List.length_singleton] at b2
        omega
      · cases h; show k.length + c.1 ≤ c.1 + k.length; omega
theorem len_prod {tb : Nat → Nat} {n : Nat} {P : Cur → Res} (hP : lenP P) : lenP (prodOf tb n P) := fun c q h => by
  obtain ⟨a, h1, h2⟩ := bindR_ok h
  have b1 := hP _ _ h1
  have b2 := mulLp_len hP _ _ _ _ h2
  omega
theorem addLp_len {tb : Nat → Nat} {n : Nat} {P : Cur → Res} (hP : lenP P) : ∀ f c k r, addLp tb n P f c k = .ok r → r.2.length + c.1 ≤ r.1.1 + k.length
  | 0, c, k, r, h => by cases h
  | f + 1, c, k, r, h => by
    rw [addLp] at h
    split at h
    · next hs =>
      have hn := nx_gt (tb := tb) (isS_lt hs).1
      obtain ⟨a, h1, h2⟩ := bindR_ok h
      have b1 := len_prod hP _ _ h1
      have b2 := addLp_len hP f _ _ _ h2
      rw [List.length_append, List.length_append, List.length_singleton] at b2
      omega
    · split at h
      · next hs =>
        have hn := nx_gt (tb := tb) (isS_lt hs).1
        obtain ⟨a, h1, h2⟩ := bindR_ok h
        have b1 := len_prod hP _ _ h1
        have b2 := addLp_len hP f _ _ _ h2
        rw [List.length_append, List.length_append, List.length_singleton] at b2
        omega
      · cases h; show k.length + c.1 ≤ c.1 + k.length; omega
theorem len_sum {tb : Nat → Nat} {n : Nat} {P : Cur → Res} (hP : lenP P) : lenP (sumOf tb n P) := fun c q h => by
  obtain ⟨a, h1, h2⟩ := bindR_ok h
  have b1 := len_prod hP _ _ h1
  have b2 := addLp_len hP _ _ _ _ h2
  omega
theorem len_partB {tb : Nat → Nat} {n kind : Nat} {Q : Option (Cur → Res)} (hQ : ∀ P, Q = some P → lenP P) : lenP (partB tb n kind Q) := fun c r h => by
  unfold partB at h
  split at h
  · next hs =>
    have hn := nx_gt (tb := tb) (isS_lt hs).1
    cases Q with
    | none => cases h
    | some P =>
      obtain ⟨a, h1, h2⟩ := bindR_ok h
      obtain ⟨c1, h3, h4⟩ := bindR_ok h2
      cases h4
      have q1 := len_sum (hQ P rfl) _ _ h1
      have q2 := (signP_ok h3).2.2
      show a.2.length + c.1 ≤ c1.1
      omega
  · split at h
    · next hw =>
      have hl : c.1 < n := by
        rcases hw with hw | hw
        · exact isW_lt hw
        · exact isW_lt hw
      have hn := nx_gt (tb := tb) hl
      split at h
      · next hs =>
        have hn2 := nx_gt (tb := tb) (isS_lt hs).1
        cases Q with
        | none => cases h
        | some P =>
          obtain ⟨a, h1, h2⟩ := bindR_ok h
          obtain ⟨c2, h3, h4⟩ := bindR_ok h2
          obtain ⟨a2, h5, h6⟩ := bindR_ok h4
          obtain ⟨c3, h7, h8⟩ := bindR_ok h6
          cases h8
          have q1 := len_sum (hQ P rfl) _ _ h1
          have q2 := (signP_ok h3).2.2
          have q3 := len_sum (hQ P rfl) _ _ h5
          have q4 := (signP_ok h7).2.2
          show (a.2 ++ a2.2 ++ [_]).length + c.1 ≤ c3.1
          rw [List.length_append, List.length_append, List.length_singleton]
          omega
      · cases h
    · split at h
      · next hk =>
        have hn := nx_gt (tb := tb) (isW_lt hk.2)
        cases Q with
        | none => cases h
        | some P =>
          obtain ⟨a, h1, h2⟩ := bindR_ok h
          cases h2
          have q1 := hQ P rfl _ _ h1
          show (a.2 ++ [60]).length + c.1 ≤ a.1.1
          rw [List.length_append, List.length_singleton]
          omega
      · cases hk : partIx tb n kind c with
        | some k =>
          rw [hk] at h
          cases h
          exact Nat.add_comm c.1 1 ▸ nx_gt (partIx_lt hk).1
        | none =>
          rw [hk] at h
          obtain ⟨a, h1, h2⟩ := bindR_ok h
          cases h2
          have q := numP_ok h1
          have q2 := nx_gt (tb := tb) q.1
          show 1 + c.1 ≤ a.2.1
          rw [q.2]
          omega
theorem len_part {tb : Nat → Nat} {n kind : Nat} : ∀ d, lenP (rdPart tb n kind d)
  | 0 => len_partB (Q := none) (fun P hp => by cases hp)
  | d + 1 => len_partB (Q := some (rdPart tb n kind d)) (fun P hp => by cases hp; exact len_part d)
/-! names, by the token -/
def pW : List Nat := [9, 2, 3, 10, 11, 12, 13, 14, 4, 15]
def nIx (kind : Nat) (t : Int32) : Option Nat := (List.range 10).find? (fun k => decide (t = nI (256 + pW.getD k 0)) && allow kind k)
theorem find_congr {p q : Nat → Bool} : ∀ l : List Nat, (∀ x, x ∈ l → p x = q x) → l.find? p = l.find? q
  | [], _ => rfl
  | a :: l, h => by
    rw [List.find?_cons, List.find?_cons, h a List.mem_cons_self, find_congr l (fun x hx => h x (List.mem_cons_of_mem _ hx))]
theorem pW_ok : ∀ k, k < 10 → pW.getD k 0 < 28 ∧ CWs.getD (pW.getD k 0) [] = wParts.getD k [] := by decide +kernel
theorem partIx_tok {tb : Nat → Nat} {n kind : Nat} {c : Cur} (htb : ∀ j, tb j ≤ 255) : partIx tb n kind c = nIx kind (tokOf tb n c) := by
  unfold partIx nIx
  refine find_congr _ (fun k hk => ?_)
  have h := pW_ok k (List.mem_range.mp hk)
  have h2 := tok_W (n := n) (c := c) htb h.1
  rw [h.2] at h2
  congr 1
  rw [Bool.eq_iff_iff, decide_eq_true_iff]
  exact h2.symm
theorem nIx_some {kind k : Nat} {t : Int32} (h : nIx kind t = some k) : k < 10 ∧ t = nI (256 + pW.getD k 0) := by
  unfold nIx at h
  have h1 := List.find?_some h
  have h2 := List.mem_range.mp (List.mem_of_find?_eq_some h)
  rw [Bool.and_eq_true, decide_eq_true_iff] at h1
  exact ⟨h2, h1.1⟩
theorem nIx_real {kind k : Nat} {t : Int32} (h : nIx kind t = some k) : ¬ t = -1 ∧ ¬ t = -2 := by
  obtain ⟨h1, h2⟩ := nIx_some h
  have h3 := (pW_ok k h1).1
  rw [h2]
  refine ⟨fun q => ?_, fun q => ?_⟩
  · have := i_eq q; rw [i_nI (by omega), i_m1] at this; omega
  · have := i_eq q; rw [i_nI (by omega), i_m2] at this; omega
