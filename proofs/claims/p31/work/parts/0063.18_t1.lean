theorem addLp_pre {tb : Nat → Nat} {n : Nat} {P : Cur → Res} (k : List Nat) : ∀ f c q, addLp tb n P f c (k ++ q) = bindR (addLp tb n P f c q) (fun r => .ok (r.1, k ++ r.2))
  | 0, c, q => rfl
  | f + 1, c, q => by
    rw [addLp, addLp]
    split
    · rw [bindR_assoc]
      refine bindR_congr _ (fun a _ => ?_)
      rw [← addLp_pre k f, List.append_assoc, List.append_assoc, List.append_assoc]
    · split
      · rw [bindR_assoc]
        refine bindR_congr _ (fun a _ => ?_)
        rw [← addLp_pre k f, List.append_assoc, List.append_assoc, List.append_assoc]
      · rfl
def clo (tb : Nat → Nat) (n : Nat) (P : Cur → Res) (A : Cur → List Nat → Res) (o : Nat) (r : Cur × List Nat) : Res :=
  if o = 20 then bindR (signP tb n 41 r.1) (fun c1 => A c1 r.2)
  else if o = 23 ∨ o = 24 then bindR (signP tb n 41 r.1) (fun c1 => A c1 (r.2 ++ [o - 18]))
  else if o = 21 ∨ o = 22 then bindR (signP tb n 44 r.1) (fun c1 => bindR (sumOf tb n P c1) (fun q => bindR (signP tb n 41 q.1) (fun c2 => A c2 (r.2 ++ q.2 ++ [o - 16]))))
  else .error (0, 0)
def aft (tb : Nat → Nat) (n kind : Nat) : List Nat → Nat → Nat → Cur → List Nat → Res
  | [], ph, dd, c, k => if ph = 2 then addLp tb n (rdPart tb n kind dd) (n + 2) c k else bindR (mulLp tb n (rdPart tb n kind dd) (n + 2) c k) (fun r => addLp tb n (rdPart tb n kind dd) (n + 2) r.1 r.2)
  | o :: L, ph, dd, c, k =>
    if ph = 2 then bindR (addLp tb n (rdPart tb n kind dd) (n + 2) c k) (clo tb n (rdPart tb n kind dd) (fun c k => aft tb n kind L 0 (dd + 1) c k) o)
    else if ph = 0 ∧ o = 60 then aft tb n kind L 0 (dd + 1) c (k ++ [60])
    else if ph = 0 ∧ (o = 3 ∨ o = 4) then aft tb n kind L 1 dd c (k ++ [o])
    else bindR (mulLp tb n (rdPart tb n kind dd) (n + 2) c k) (fun r => if o = 1 ∨ o = 2 then aft tb n kind L 2 dd r.1 (r.2 ++ [o]) else bindR (addLp tb n (rdPart tb n kind dd) (n + 2) r.1 r.2) (clo tb n (rdPart tb n kind dd) (fun c k => aft tb n kind L 0 (dd + 1) c k) o))
def prt (tb : Nat → Nat) (n kind : Nat) (L : List Nat) (dd : Nat) (c : Cur) (k : List Nat) : Res := bindR (rdPart tb n kind dd c) (fun r => aft tb n kind L 0 dd r.1 (k ++ r.2))
theorem prt_sum {tb : Nat → Nat} {n kind d : Nat} {c : Cur} : sumD tb n kind d c = prt tb n kind [] d c [] := by
  unfold sumD sumOf prodOf prt
  rw [bindR_assoc]
  refine bindR_congr _ (fun a _ => ?_)
  rw [aft, if_neg (by decide), List.nil_append]
theorem aft_w {tb : Nat → Nat} {n kind dd : Nat} {L : List Nat} {c : Cur} {k : List Nat} : aft tb n kind (60 :: L) 0 dd c k = aft tb n kind L 0 (dd + 1) c (k ++ [60]) := by
  rw [aft, if_neg (by decide), if_pos ⟨rfl, rfl⟩]
theorem aft_m {tb : Nat → Nat} {n kind dd o : Nat} {L : List Nat} {c : Cur} {k : List Nat} (h : o = 3 ∨ o = 4) : aft tb n kind (o :: L) 0 dd c k = aft tb n kind L 1 dd c (k ++ [o]) := by
  rw [aft, if_neg (by decide), if_neg (by omega), if_pos ⟨rfl, h⟩]
/-- nothing on top that binds as a product: as behind a product -/
theorem aft_01 {tb : Nat → Nat} {n kind dd : Nat} {L : List Nat} {c : Cur} {k : List Nat} (h : ∀ o, L.head? = some o → ¬ o = 60 ∧ ¬ o = 3 ∧ ¬ o = 4) : aft tb n kind L 0 dd c k = aft tb n kind L 1 dd c k := by
  cases L with
  | nil => rw [aft, aft, if_neg (by decide), if_neg (by decide)]
  | cons o L =>
    have h1 := h o rfl
    rw [aft, aft, if_neg (by decide), if_neg (by omega), if_neg (by omega), if_neg (by decide), if_neg (by omega), if_neg (by omega)]
theorem isS_not {tb : Nat → Nat} {n a b : Nat} {c : Cur} (h : isS tb n a c = true) (hab : ¬ a = b) : ¬ isS tb n b c = true := fun q => hab ((isS_lt h).2.symm.trans (isS_lt q).2)
theorem mulLp_stop {tb : Nat → Nat} {n : Nat} {P : Cur → Res} {f : Nat} {c : Cur} {k : List Nat} (h1 : ¬ isS tb n 42 c = true) (h2 : ¬ isS tb n 47 c = true) : mulLp tb n P (f + 1) c k = .ok (c, k) := by
  rw [mulLp, if_neg h1, if_neg h2]
theorem addLp_stop {tb : Nat → Nat} {n : Nat} {P : Cur → Res} {f : Nat} {c : Cur} {k : List Nat} (h1 : ¬ isS tb n 43 c = true) (h2 : ¬ isS tb n 45 c = true) : addLp tb n P (f + 1) c k = .ok (c, k) := by
  rw [addLp, if_neg h1, if_neg h2]
/-- a round bracket opens -/
theorem prt_round {tb : Nat → Nat} {n kind d : Nat} {L : List Nat} {c : Cur} {k : List Nat} (h : isS tb n 40 c = true) : prt tb n kind L (d + 1) c k = prt tb n kind (20 :: L) d (nx tb n c.1) k := by
  unfold prt
  rw [rdPart, partB, if_pos h]
  unfold sumOf prodOf
  rw [bindR_assoc, bindR_assoc, bindR_assoc]
  refine bindR_congr _ (fun a _ => ?_)
  rw [aft, if_neg (by decide), if_neg (by decide), if_neg (by decide), mulLp_pre, bindR_assoc]
  refine bindR_congr _ (fun b _ => ?_)
  show _ = (if (20 : Nat) = 1 ∨ (20 : Nat) = 2 then aft tb n kind L 2 d b.1 ((k ++ b.2) ++ [20]) else bindR (addLp tb n (rdPart tb n kind d) (n + 2) b.1 (k ++ b.2)) (clo tb n (rdPart tb n kind d) (fun c k => aft tb n kind L 0 (d + 1) c k) 20))
  rw [if_neg (by decide), addLp_pre, bindR_assoc]
  refine bindR_congr _ (fun e _ => ?_)
  show bindR (bindR (signP tb n 41 e.1) _) _ = clo tb n _ _ 20 (e.1, k ++ e.2)
  rw [clo, if_pos rfl, bindR_assoc]
  rfl
theorem prt_round0 {tb : Nat → Nat} {n kind : Nat} {L : List Nat} {c : Cur} {k : List Nat} (h : isS tb n 40 c = true) : prt tb n kind L 0 c k = .error (4, c.1) := by
  unfold prt
  rw [rdPart, partB, if_pos h]
  rfl
/-- a product goes on -/
theorem aft_times {tb : Nat → Nat} {n kind dd o b : Nat} {L : List Nat} {c : Cur} {k : List Nat} (hb : (b = 42 ∧ o = 3) ∨ (b = 47 ∧ o = 4)) (h : isS tb n b c = true) : aft tb n kind L 1 dd c k = prt tb n kind (o :: L) dd (nx tb n c.1) k := by
  have key : mulLp tb n (rdPart tb n kind dd) (n + 2) c k = bindR (rdPart tb n kind dd (nx tb n c.1)) (fun r => mulLp tb n (rdPart tb n kind dd) (n + 2) r.1 (k ++ r.2 ++ [o])) := by
    rw [mulLp]
    rcases hb with ⟨rfl, rfl⟩ | ⟨rfl, rfl⟩
    · rw [if_pos h]
      exact bindR_congr _ (fun a _ => mulLp_fuel rdPart_mono _ _ _ _ (by omega) (by omega) (by omega) (by omega))
    · rw [if_neg (isS_not h (by decide)), if_pos h]
      exact bindR_congr _ (fun a _ => mulLp_fuel rdPart_mono _ _ _ _ (by omega) (by omega) (by omega) (by omega))
  unfold prt
  cases L with
  | nil =>
    rw [aft, if_neg (by decide), key, bindR_assoc]
    refine bindR_congr _ (fun a _ => ?_)
    rw [aft_m (by omega), aft, if_neg (by decide)]
  | cons p L =>
    rw [aft, if_neg (by decide), if_neg (by omega), if_neg (by omega), key, bindR_assoc]
    refine bindR_congr _ (fun a _ => ?_)
    rw [aft_m (by omega), aft, if_neg (by decide), if_neg (by omega), if_neg (by omega)]
/-- a sum goes on, or ends -/
theorem aft_a {tb : Nat → Nat} {n kind dd o : Nat} {L : List Nat} {c : Cur} {k : List Nat} (ho : o = 1 ∨ o = 2) (h1 : ¬ isS tb n 42 c = true) (h2 : ¬ isS tb n 47 c = true) : aft tb n kind (o :: L) 1 dd c k = aft tb n kind L 2 dd c (k ++ [o]) := by
  rw [aft, if_neg (by decide), if_neg (by omega), if_neg (by omega), mulLp_stop h1 h2]
  show (if o = 1 ∨ o = 2 then _ else _) = _
  rw [if_pos ho]
theorem aft_12 {tb : Nat → Nat} {n kind dd : Nat} {L : List Nat} {c : Cur} {k : List Nat} (h : ∀ o, L.head? = some o → ¬ o = 1 ∧ ¬ o = 2) (h1 : ¬ isS tb n 42 c = true) (h2 : ¬ isS tb n 47 c = true) : aft tb n kind L 1 dd c k = aft tb n kind L 2 dd c k := by
  cases L with
  | nil =>
    rw [aft, aft, if_neg (by decide), if_pos rfl, mulLp_stop h1 h2]
    rfl
  | cons o L =>
    have h3 := h o rfl
    rw [aft, aft, if_neg (by decide), if_neg (by omega), if_neg (by omega), if_pos rfl, mulLp_stop h1 h2]
    show (if o = 1 ∨ o = 2 then _ else _) = _
    rw [if_neg (by omega)]
theorem aft_plus {tb : Nat → Nat} {n kind dd o b : Nat} {L : List Nat} {c : Cur} {k : List Nat} (hb : (b = 43 ∧ o = 1) ∨ (b = 45 ∧ o = 2)) (h : isS tb n b c = true) : aft tb n kind L 2 dd c k = prt tb n kind (o :: L) dd (nx tb n c.1) k := by
  have key : addLp tb n (rdPart tb n kind dd) (n + 2) c k = bindR (rdPart tb n kind dd (nx tb n c.1)) (fun r => bindR (mulLp tb n (rdPart tb n kind dd) (n + 2) r.1 r.2) (fun q => addLp tb n (rdPart tb n kind dd) (n + 2) q.1 (k ++ q.2 ++ [o]))) := by
    rw [addLp]
    rcases hb with ⟨rfl, rfl⟩ | ⟨rfl, rfl⟩
    · rw [if_pos h]
      unfold prodOf
      rw [bindR_assoc]
      exact bindR_congr _ (fun a _ => bindR_congr _ (fun e _ => addLp_fuel rdPart_mono _ _ _ _ (by omega) (by omega) (by omega) (by omega)))
    · rw [if_neg (isS_not h (by decide)), if_pos h]
      unfold prodOf
      rw [bindR_assoc]
      exact bindR_congr _ (fun a _ => bindR_congr _ (fun e _ => addLp_fuel rdPart_mono _ _ _ _ (by omega) (by omega) (by omega) (by omega)))
  unfold prt
  cases L with
  | nil =>
    rw [aft, if_pos rfl, key]
    refine bindR_congr _ (fun a _ => ?_)
    rw [aft, if_neg (by decide), if_neg (by omega), if_neg (by omega), mulLp_pre, bindR_assoc]
    refine bindR_congr _ (fun e _ => ?_)
    show _ = (if o = 1 ∨ o = 2 then _ else _)
    rw [if_pos (by omega), aft, if_pos rfl]
  | cons p L =>
    rw [aft, if_pos rfl, key, bindR_assoc]
    refine bindR_congr _ (fun a _ => ?_)
    rw [bindR_assoc, aft, if_neg (by decide), if_neg (by omega), if_neg (by omega), mulLp_pre, bindR_assoc]
    refine bindR_congr _ (fun e _ => ?_)
    show _ = (if o = 1 ∨ o = 2 then _ else _)
    rw [if_pos (by omega), aft, if_pos rfl]
theorem signP_t {tb : Nat → Nat} {n b : Nat} {c : Cur} (h : isS tb n b c = true) : signP tb n b c = .ok (nx tb n c.1) := by
  unfold signP; rw [if_pos h]
theorem signP_f {tb : Nat → Nat} {n b : Nat} {c : Cur} (h : ¬ isS tb n b c = true) : signP tb n b c = .error (1, c.1) := by
  unfold signP; rw [if_neg h]
theorem aft_round {tb : Nat → Nat} {n kind dd : Nat} {L : List Nat} {c : Cur} {k : List Nat} (h : isS tb n 41 c = true) : aft tb n kind (20 :: L) 2 dd c k = aft tb n kind L 0 (dd + 1) (nx tb n c.1) k := by
  rw [aft, if_pos rfl, addLp_stop (isS_not h (by decide)) (isS_not h (by decide))]
  show clo tb n _ _ 20 (c, k) = _
  rw [clo, if_pos rfl, signP_t h]
  rfl
theorem aft_pair {tb : Nat → Nat} {n kind dd o : Nat} {L : List Nat} {c : Cur} {k : List Nat} (ho : o = 23 ∨ o = 24) (h : isS tb n 41 c = true) : aft tb n kind (o :: L) 2 dd c k = aft tb n kind L 0 (dd + 1) (nx tb n c.1) (k ++ [o - 18]) := by
  rw [aft, if_pos rfl, addLp_stop (isS_not h (by decide)) (isS_not h (by decide))]
  show clo tb n _ _ o (c, k) = _
  rw [clo, if_neg (by omega), if_pos ho, signP_t h]
  rfl
theorem aft_comma {tb : Nat → Nat} {n kind dd o : Nat} {L : List Nat} {c : Cur} {k : List Nat} (ho : o = 21 ∨ o = 22) (h : isS tb n 44 c = true) : aft tb n kind (o :: L) 2 dd c k = prt tb n kind ((o + 2) :: L) dd (nx tb n c.1) k := by
  rw [aft, if_pos rfl, addLp_stop (isS_not h (by decide)) (isS_not h (by decide))]
  show clo tb n _ _ o (c, k) = _
  rw [clo, if_neg (by omega), if_neg (by omega), if_pos ho, signP_t h]
  show bindR (sumOf tb n _ (nx tb n c.1)) _ = _
  unfold prt sumOf prodOf
  rw [bindR_assoc, bindR_assoc]
  refine bindR_congr _ (fun a _ => ?_)
  rw [aft, if_neg (by decide), if_neg (by omega), if_neg (by omega), mulLp_pre, bindR_assoc]
  refine bindR_congr _ (fun b _ => ?_)
  show _ = (if o + 2 = 1 ∨ o + 2 = 2 then _ else _)
  rw [if_neg (by omega), addLp_pre, bindR_assoc]
  refine bindR_congr _ (fun e _ => ?_)
  show _ = clo tb n _ _ (o + 2) (e.1, k ++ e.2)
  rw [clo, if_neg (by omega), if_pos (by omega), show o + 2 - 18 = o - 16 by omega]
theorem aft_bad {tb : Nat → Nat} {n kind dd o : Nat} {L : List Nat} {c : Cur} {k : List Nat} (ho : 20 ≤ o ∧ o ≤ 24) (h1 : ¬ isS tb n 43 c = true) (h2 : ¬ isS tb n 45 c = true) (h3 : o = 20 ∨ o = 23 ∨ o = 24 → ¬ isS tb n 41 c = true) (h4 : o = 21 ∨ o = 22 → ¬ isS tb n 44 c = true) : aft tb n kind (o :: L) 2 dd c k = .error (1, c.1) := by
  rw [aft, if_pos rfl, addLp_stop h1 h2]
  show clo tb n _ _ o (c, k) = _
  unfold clo
  by_cases q1 : o = 20
  · rw [if_pos q1, signP_f (h3 (by omega))]; rfl
  · rw [if_neg q1]
    by_cases q2 : o = 23 ∨ o = 24
    · rw [if_pos q2, signP_f (h3 (by omega))]; rfl
    · rw [if_neg q2, if_pos (by omega), signP_f (h4 (by omega))]; rfl
theorem aft_end {tb : Nat → Nat} {n kind dd : Nat} {c : Cur} {k : List Nat} (h1 : ¬ isS tb n 43 c = true) (h2 : ¬ isS tb n 45 c = true) : aft tb n kind [] 2 dd c k = .ok (c, k) := by
  rw [aft, if_pos rfl, addLp_stop h1 h2]
/-- other parts -/
theorem isW_qL {tb : Nat → Nat} {n : Nat} {w : List Nat} {c : Cur} (h : isW tb n w c = true) : qL (tb c.1) = true ∧ wl tb n c.1 = w ∧ c.2 = false := by
  unfold isW at h
  rw [Bool.and_eq_true, Bool.and_eq_true, Bool.and_eq_true, beq_iff_eq] at h
  refine ⟨h.1.2, h.2, ?_⟩
  have h1 := h.1.1.2
  cases hc : c.2 with
  | false => rfl
  | true => rw [hc] at h1; cases h1
theorem isW_noS {tb : Nat → Nat} {n b : Nat} {w : List Nat} {c : Cur} (h : isW tb n w c = true) (hb : b < 97) : ¬ isS tb n b c = true := fun q => by
  have h1 := qL_t.mp (isW_qL h).1
  have h2 := (isS_lt q).2
  omega
theorem isW_one {tb : Nat → Nat} {n : Nat} {v w : List Nat} {c : Cur} (h : isW tb n w c = true) (hvw : ¬ w = v) : ¬ isW tb n v c = true := fun q => hvw ((isW_qL h).2.1.symm.trans (isW_qL q).2.1)
theorem prt_pair {tb : Nat → Nat} {n kind d o : Nat} {L : List Nat} {c : Cur} {k : List Nat} (hw : (isW tb n wMin c = true ∧ o = 21) ∨ (isW tb n wMax c = true ∧ o = 22)) (h : isS tb n 40 (nx tb n c.1) = true) : prt tb n kind L (d + 1) c k = prt tb n kind (o :: L) d (nx tb n (nx tb n c.1).1) k := by
  have hs : ¬ isS tb n 40 c = true := by
    rcases hw with ⟨hw, -⟩ | ⟨hw, -⟩
    · exact isW_noS hw (by decide)
    · exact isW_noS hw (by decide)
  have ho : (if isW tb n wMin c = true then 5 else 6) = o - 16 := by
    rcases hw with ⟨hw, rfl⟩ | ⟨hw, rfl⟩
    · rw [if_pos hw]
    · rw [if_neg (isW_one hw (by decide))]
  have ho2 : o = 21 ∨ o = 22 := by omega
  have hw2 : isW tb n wMin c = true ∨ isW tb n wMax c = true := by
    rcases hw with ⟨hw, -⟩ | ⟨hw, -⟩
    · exact Or.inl hw
    · exact Or.inr hw
  unfold prt
  rw [rdPart, partB, if_neg hs, if_pos hw2, if_pos h, ho]
  show bindR (bindR (sumOf tb n _ _) _) _ = _
  rw [bindR_assoc]
  unfold sumOf prodOf
  rw [bindR_assoc, bindR_assoc]
  refine bindR_congr _ (fun a _ => ?_)
  rw [aft, if_neg (by decide), if_neg (by omega), if_neg (by omega), mulLp_pre, bindR_assoc]
  refine bindR_congr _ (fun b _ => ?_)
  show _ = (if o = 1 ∨ o = 2 then _ else _)
  rw [if_neg (by omega), addLp_pre, bindR_assoc]
  refine bindR_congr _ (fun e _ => ?_)
  show _ = clo tb n _ _ o (e.1, k ++ e.2)
  rw [clo, if_neg (by omega), if_neg (by omega), if_pos ho2, bindR_assoc]
  refine bindR_congr _ (fun c2 _ => ?_)
  show bindR (bindR (sumOf tb n _ c2) _) _ = bindR (sumOf tb n _ c2) _
  rw [bindR_assoc]
  refine bindR_congr _ (fun q _ => ?_)
  rw [bindR_assoc]
  refine bindR_congr _ (fun c3 _ => ?_)
  show aft tb n kind L 0 (d + 1) c3 (k ++ (e.2 ++ q.2 ++ [o - 16])) = aft tb n kind L 0 (d + 1) c3 (k ++ e.2 ++ q.2 ++ [o - 16])
  rw [List.append_assoc, List.append_assoc, List.append_assoc]
theorem prt_weeks {tb : Nat → Nat} {n d : Nat} {L : List Nat} {c : Cur} {k : List Nat} (hw : isW tb n wWeeks c = true) : prt tb n 2 L (d + 1) c k = prt tb n 2 (60 :: L) d (nx tb n c.1) k := by
  unfold prt
  rw [rdPart, partB, if_neg (isW_noS hw (by decide)), if_neg (fun q => Or.elim q (isW_one hw (by decide)) (isW_one hw (by decide))), if_pos ⟨rfl, hw⟩]
  show bindR (bindR (rdPart tb n 2 d _) _) _ = _
  rw [bindR_assoc]
  refine bindR_congr _ (fun a _ => ?_)
  rw [aft_w]
  show aft tb n 2 L 0 (d + 1) a.1 (k ++ (a.2 ++ [60])) = _
  rw [List.append_assoc]
theorem prt_name {tb : Nat → Nat} {n kind d j : Nat} {L : List Nat} {c : Cur} {k : List Nat} (h0 : ¬ isS tb n 40 c = true) (h1 : ¬ (isW tb n wMin c = true ∨ isW tb n wMax c = true)) (h2 : ¬ (kind = 2 ∧ isW tb n wWeeks c = true)) (h : partIx tb n kind c = some j) : prt tb n kind L d c k = aft tb n kind L 0 d (nx tb n c.1) (k ++ [40 + j]) := by
  unfold prt
  cases d with
  | zero => rw [rdPart, partB, if_neg h0, if_neg h1, if_neg h2, h]; rfl
  | succ d => rw [rdPart, partB, if_neg h0, if_neg h1, if_neg h2, h]; rfl
theorem prt_num {tb : Nat → Nat} {n kind d : Nat} {L : List Nat} {c : Cur} {k : List Nat} (h0 : ¬ isS tb n 40 c = true) (h1 : ¬ (isW tb n wMin c = true ∨ isW tb n wMax c = true)) (h2 : ¬ (kind = 2 ∧ isW tb n wWeeks c = true)) (h : partIx tb n kind c = none) : prt tb n kind L d c k = bindR (numP tb n 0 9999 c) (fun r => aft tb n kind L 0 d r.2 (k ++ [1000 + r.1])) := by
  unfold prt
  cases d with
  | zero =>
    rw [rdPart, partB, if_neg h0, if_neg h1, if_neg h2, h]
    show bindR (bindR (numP tb n 0 9999 c) _) _ = _
    rw [bindR_assoc]
    rfl
  | succ d =>
    rw [rdPart, partB, if_neg h0, if_neg h1, if_neg h2, h]
    show bindR (bindR (numP tb n 0 9999 c) _) _ = _
    rw [bindR_assoc]
    rfl
