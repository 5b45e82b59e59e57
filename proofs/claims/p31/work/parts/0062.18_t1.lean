/-! the text as a picture: tb its bytes, n its length; a cursor is a place and whether a word or a number ended just there -/
def run (q : Nat → Bool) (tb : Nat → Nat) (n : Nat) : Nat → Nat → Nat
  | 0, a => a
  | k + 1, a => if a < n ∧ q (tb a) = true then run q tb n k (a + 1) else a
def ext (q : Nat → Bool) (tb : Nat → Nat) (n a : Nat) : Nat := run q tb n (n - a) a
theorem ext_go {q : Nat → Bool} {tb : Nat → Nat} {n a : Nat} (h : a < n) (hq : q (tb a) = true) : ext q tb n (a + 1) = ext q tb n a := by
  unfold ext
  rw [show n - a = (n - (a + 1)) + 1 by omega, run, if_pos ⟨h, hq⟩]
theorem ext_stop {q : Nat → Bool} {tb : Nat → Nat} {n a : Nat} (h : ¬ (a < n ∧ q (tb a) = true)) : ext q tb n a = a := by
  unfold ext
  cases n - a with
  | zero => rfl
  | succ k => rw [run, if_neg h]
theorem run_ge (q : Nat → Bool) (tb : Nat → Nat) (n : Nat) : ∀ k a, a ≤ run q tb n k a
  | 0, a => Nat.le_refl _
  | k + 1, a => by
    rw [run]
    split
    · have := run_ge q tb n k (a + 1); omega
    · exact Nat.le_refl _
theorem ext_ge (q : Nat → Bool) (tb : Nat → Nat) (n a : Nat) : a ≤ ext q tb n a := run_ge q tb n _ a
theorem run_le (q : Nat → Bool) (tb : Nat → Nat) (n : Nat) : ∀ k a, a ≤ n → run q tb n k a ≤ n
  | 0, a, h => h
  | k + 1, a, h => by
    rw [run]
    split
    · next hc => exact run_le q tb n k (a + 1) (by omega)
    · exact h
theorem ext_le {q : Nat → Bool} {tb : Nat → Nat} {n a : Nat} (h : a ≤ n) : ext q tb n a ≤ n := run_le q tb n _ a h
theorem run_end (q : Nat → Bool) (tb : Nat → Nat) (n : Nat) : ∀ k a, n - a ≤ k → ¬ (run q tb n k a < n ∧ q (tb (run q tb n k a)) = true)
  | 0, a, h => by
    rw [run]; omega
  | k + 1, a, h => by
    rw [run]
    split
    · exact run_end q tb n k (a + 1) (by omega)
    · next hc => exact hc
theorem ext_end (q : Nat → Bool) (tb : Nat → Nat) (n a : Nat) : ¬ (ext q tb n a < n ∧ q (tb (ext q tb n a)) = true) := run_end q tb n _ a (Nat.le_refl _)
def qB (c : Nat) : Bool := decide (c = 10 ∨ c = 32)
def qL (c : Nat) : Bool := decide (97 ≤ c ∧ c ≤ 122)
def qD (c : Nat) : Bool := decide (48 ≤ c ∧ c ≤ 57)
theorem qB_t {c : Nat} : qB c = true ↔ (c = 10 ∨ c = 32) := decide_eq_true_iff
theorem qL_t {c : Nat} : qL c = true ↔ (97 ≤ c ∧ c ≤ 122) := decide_eq_true_iff
theorem qD_t {c : Nat} : qD c = true ↔ (48 ≤ c ∧ c ≤ 57) := decide_eq_true_iff
/-- where the next token begins -/
def sk (tb : Nat → Nat) (n a : Nat) : Nat := ext qB tb n a
/-- where the token that begins at s ends -/
def te (tb : Nat → Nat) (n s : Nat) : Nat := if qL (tb s) = true then ext qL tb n s else if qD (tb s) = true then ext qD tb n s else s + 1
abbrev Cur := Nat × Bool
abbrev Err := Nat × Nat
abbrev Res := Except Err (Cur × List Nat)
def nx (tb : Nat → Nat) (n s : Nat) : Cur := (sk tb n (te tb n s), (qL (tb s) || qD (tb s)) && sk tb n (te tb n s) == te tb n s)
def wl (tb : Nat → Nat) (n s : Nat) : List Nat := (List.range (ext qL tb n s - s)).map (fun i => tb (s + i))
def isW (tb : Nat → Nat) (n : Nat) (w : List Nat) (c : Cur) : Bool := decide (c.1 < n) && !c.2 && qL (tb c.1) && wl tb n c.1 == w
def isS (tb : Nat → Nat) (n b : Nat) (c : Cur) : Bool := decide (c.1 < n) && tb c.1 == b
def vd (tb : Nat → Nat) (s : Nat) : Nat → Nat
  | 0 => 0
  | k + 1 => vd tb s k * 10 + (tb (s + k) - 48)
def numP (tb : Nat → Nat) (n lo hi : Nat) (c : Cur) : Except Err (Nat × Cur) :=
  if c.1 < n ∧ qD (tb c.1) = true ∧ c.2 = false then
    (if 4 < ext qD tb n c.1 - c.1 then .error (1, c.1 + 4)
     else if vd tb c.1 (ext qD tb n c.1 - c.1) < lo ∨ hi < vd tb c.1 (ext qD tb n c.1 - c.1) then .error (2, c.1)
     else .ok (vd tb c.1 (ext qD tb n c.1 - c.1), nx tb n c.1))
  else .error (1, c.1)
def signP (tb : Nat → Nat) (n b : Nat) (c : Cur) : Except Err Cur := if isS tb n b c = true then .ok (nx tb n c.1) else .error (1, c.1)
def wordP (tb : Nat → Nat) (n : Nat) (w : List Nat) (c : Cur) : Except Err Cur := if isW tb n w c = true then .ok (nx tb n c.1) else .error (1, c.1)
def bindR {α β : Type} (x : Except Err α) (f : α → Except Err β) : Except Err β := match x with | .error e => .error e | .ok a => f a
theorem bindR_assoc {α β γ : Type} (x : Except Err α) (f : α → Except Err β) (g : β → Except Err γ) : bindR (bindR x f) g = bindR x (fun a => bindR (f a) g) := by
  cases x <;> rfl
theorem bindR_congr {α β : Type} (x : Except Err α) {f g : α → Except Err β} (h : ∀ a, x = .ok a → f a = g a) : bindR x f = bindR x g := by
  cases x with
  | error e => rfl
  | ok a => exact h a rfl
/-- products and sums by a reader P of parts -/
def mulLp (tb : Nat → Nat) (n : Nat) (P : Cur → Res) : Nat → Cur → List Nat → Res
  | 0, _, _ => .error (0, 0)
  | f + 1, c, k =>
    if isS tb n 42 c = true then bindR (P (nx tb n c.1)) (fun r => mulLp tb n P f r.1 (k ++ r.2 ++ [3]))
    else if isS tb n 47 c = true then bindR (P (nx tb n c.1)) (fun r => mulLp tb n P f r.1 (k ++ r.2 ++ [4]))
    else .ok (c, k)
def prodOf (tb : Nat → Nat) (n : Nat) (P : Cur → Res) (c : Cur) : Res := bindR (P c) (fun r => mulLp tb n P (n + 2) r.1 r.2)
def addLp (tb : Nat → Nat) (n : Nat) (P : Cur → Res) : Nat → Cur → List Nat → Res
  | 0, _, _ => .error (0, 0)
  | f + 1, c, k =>
    if isS tb n 43 c = true then bindR (prodOf tb n P (nx tb n c.1)) (fun r => addLp tb n P f r.1 (k ++ r.2 ++ [1]))
    else if isS tb n 45 c = true then bindR (prodOf tb n P (nx tb n c.1)) (fun r => addLp tb n P f r.1 (k ++ r.2 ++ [2]))
    else .ok (c, k)
def sumOf (tb : Nat → Nat) (n : Nat) (P : Cur → Res) (c : Cur) : Res := bindR (prodOf tb n P c) (fun r => addLp tb n P (n + 2) r.1 r.2)
/-- a part never goes back -/
def mono (P : Cur → Res) : Prop := ∀ c r, P c = .ok r → c.1 ≤ r.1.1
theorem te_gt {tb : Nat → Nat} {n s : Nat} (h : s < n) : s < te tb n s := by
  unfold te
  split
  · next hq => rw [← ext_go h hq]; have := ext_ge qL tb n (s + 1); omega
  · split
    · next hq => rw [← ext_go h hq]; have := ext_ge qD tb n (s + 1); omega
    · omega
theorem nx_gt {tb : Nat → Nat} {n s : Nat} (h : s < n) : s < (nx tb n s).1 := by
  have h1 := te_gt (tb := tb) h
  have h2 := ext_ge qB tb n (te tb n s)
  show s < ext qB tb n (te tb n s)
  omega
theorem isS_lt {tb : Nat → Nat} {n b : Nat} {c : Cur} (h : isS tb n b c = true) : c.1 < n ∧ tb c.1 = b := by
  unfold isS at h
  rw [Bool.and_eq_true, decide_eq_true_iff, beq_iff_eq] at h
  exact h
theorem mulLp_mono {tb : Nat → Nat} {n : Nat} {P : Cur → Res} (hP : mono P) : ∀ f c k r, mulLp tb n P f c k = .ok r → c.1 ≤ r.1.1
  | 0, c, k, r, h => by cases h
  | f + 1, c, k, r, h => by
    rw [mulLp] at h
    split at h
    · next hs =>
      have hn := nx_gt (tb := tb) (isS_lt hs).1
      cases hp : P (nx tb n c.1) with
      | error e => rw [hp] at h; cases h
      | ok a =>
        rw [hp] at h
        have h1 := hP _ _ hp
        have h2 := mulLp_mono hP f _ _ _ h
        omega
    · split at h
      · next hs =>
        have hn := nx_gt (tb := tb) (isS_lt hs).1
        cases hp : P (nx tb n c.1) with
        | error e => rw [hp] at h; cases h
        | ok a =>
          rw [hp] at h
          have h1 := hP _ _ hp
          have h2 := mulLp_mono hP f _ _ _ h
          omega
      · cases h; exact Nat.le_refl _
theorem prodOf_mono {tb : Nat → Nat} {n : Nat} {P : Cur → Res} (hP : mono P) : mono (prodOf tb n P) := by
  intro c r h
  unfold prodOf at h
  cases hp : P c with
  | error e => rw [hp] at h; cases h
  | ok a =>
    rw [hp] at h
    have h1 := hP _ _ hp
    have h2 := mulLp_mono hP _ _ _ _ h
    omega
/-- enough rounds are enough -/
theorem mulLp_fuel {tb : Nat → Nat} {n : Nat} {P : Cur → Res} (hP : mono P) : ∀ f g c k, n < f + c.1 → n < g + c.1 → 1 ≤ f → 1 ≤ g → mulLp tb n P f c k = mulLp tb n P g c k
  | 0, g, c, k, _, _, h, _ => absurd h (by omega)
  | f + 1, 0, c, k, _, _, _, h => absurd h (by omega)
  | f + 1, g + 1, c, k, h1, h2, _, _ => by
    rw [mulLp, mulLp]
    split
    · next hs =>
      have hl := (isS_lt hs).1
      have hn := nx_gt (tb := tb) hl
      refine bindR_congr _ (fun a ha => ?_)
      have h3 := hP _ _ ha
      exact mulLp_fuel hP f g _ _ (by omega) (by omega) (by omega) (by omega)
    · split
      · next hs =>
        have hl := (isS_lt hs).1
        have hn := nx_gt (tb := tb) hl
        refine bindR_congr _ (fun a ha => ?_)
        have h3 := hP _ _ ha
        exact mulLp_fuel hP f g _ _ (by omega) (by omega) (by omega) (by omega)
      · rfl
theorem addLp_fuel {tb : Nat → Nat} {n : Nat} {P : Cur → Res} (hP : mono P) : ∀ f g c k, n < f + c.1 → n < g + c.1 → 1 ≤ f → 1 ≤ g → addLp tb n P f c k = addLp tb n P g c k
  | 0, g, c, k, _, _, h, _ => absurd h (by omega)
  | f + 1, 0, c, k, _, _, _, h => absurd h (by omega)
  | f + 1, g + 1, c, k, h1, h2, _, _ => by
    rw [addLp, addLp]
    split
    · next hs =>
      have hl := (isS_lt hs).1
      have hn := nx_gt (tb := tb) hl
      refine bindR_congr _ (fun a ha => ?_)
      have h3 := prodOf_mono hP _ _ ha
      exact addLp_fuel hP f g _ _ (by omega) (by omega) (by omega) (by omega)
    · split
      · next hs =>
        have hl := (isS_lt hs).1
        have hn := nx_gt (tb := tb) hl
        refine bindR_congr _ (fun a ha => ?_)
        have h3 := prodOf_mono hP _ _ ha
        exact addLp_fuel hP f g _ _ (by omega) (by omega) (by omega) (by omega)
      · rfl
/-! parts -/
def wMin : List Nat := [109, 105, 110]
def wMax : List Nat := [109, 97, 120]
def wWeeks : List Nat := [119, 101, 101, 107, 115]
def wParts : List (List Nat) := [[109, 111, 111, 100], [98, 97, 114, 103, 101], [119, 101, 116], [100, 97, 121], [119, 101, 101, 107], [116, 111, 108, 100], [97, 108, 111, 110, 101], [110, 117, 109, 98, 101, 114], [109, 117, 116, 101], [102, 105, 114, 115, 116]]
def allow (kind k : Nat) : Bool := if kind = 0 then decide (k < 5) else if kind = 1 then decide (k < 7) else decide (k = 1 ∨ k = 2 ∨ k = 4 ∨ 6 < k)
def partIx (tb : Nat → Nat) (n kind : Nat) (c : Cur) : Option Nat := (List.range 10).find? (fun k => isW tb n (wParts.getD k []) c && allow kind k)
def partB (tb : Nat → Nat) (n kind : Nat) (Q : Option (Cur → Res)) (c : Cur) : Res :=
  if isS tb n 40 c = true then
    (match Q with
     | none => .error (4, c.1)
     | some P => bindR (sumOf tb n P (nx tb n c.1)) (fun r => bindR (signP tb n 41 r.1) (fun c1 => .ok (c1, r.2))))
  else if isW tb n wMin c = true ∨ isW tb n wMax c = true then
    (if isS tb n 40 (nx tb n c.1) = true then
      (match Q with
       | none => .error (4, (nx tb n c.1).1)
       | some P => bindR (sumOf tb n P (nx tb n (nx tb n c.1).1)) (fun r => bindR (signP tb n 44 r.1) (fun c2 => bindR (sumOf tb n P c2) (fun q => bindR (signP tb n 41 q.1) (fun c3 => .ok (c3, r.2 ++ q.2 ++ [if isW tb n wMin c = true then 5 else 6]))))))
     else .error (1, (nx tb n c.1).1))
  else if kind = 2 ∧ isW tb n wWeeks c = true then
    (match Q with
     | none => .error (4, c.1)
     | some P => bindR (P (nx tb n c.1)) (fun r => .ok (r.1, r.2 ++ [60])))
  else
    (match partIx tb n kind c with
     | some k => .ok (nx tb n c.1, [40 + k])
     | none => bindR (numP tb n 0 9999 c) (fun r => .ok (r.2, [1000 + r.1])))
def rdPart (tb : Nat → Nat) (n kind : Nat) : Nat → Cur → Res
  | 0, c => partB tb n kind none c
  | d + 1, c => partB tb n kind (some (rdPart tb n kind d)) c
def sumD (tb : Nat → Nat) (n kind d : Nat) (c : Cur) : Res := sumOf tb n (rdPart tb n kind d) c
theorem isW_lt {tb : Nat → Nat} {n : Nat} {w : List Nat} {c : Cur} (h : isW tb n w c = true) : c.1 < n := by
  unfold isW at h
  rw [Bool.and_eq_true, Bool.and_eq_true, Bool.and_eq_true, decide_eq_true_iff] at h
  exact h.1.1.1
theorem addLp_mono {tb : Nat → Nat} {n : Nat} {P : Cur → Res} (hP : mono P) : ∀ f c k r, addLp tb n P f c k = .ok r → c.1 ≤ r.1.1
  | 0, c, k, r, h => by cases h
  | f + 1, c, k, r, h => by
    rw [addLp] at h
    split at h
    · next hs =>
      have hn := nx_gt (tb := tb) (isS_lt hs).1
      cases hp : prodOf tb n P (nx tb n c.1) with
      | error e => rw [hp] at h; cases h
      | ok a =>
        rw [hp] at h
        have h1 := prodOf_mono hP _ _ hp
        have h2 := addLp_mono hP f _ _ _ h
        omega
    · split at h
      · next hs =>
        have hn := nx_gt (tb := tb) (isS_lt hs).1
        cases hp : prodOf tb n P (nx tb n c.1) with
        | error e => rw [hp] at h; cases h
        | ok a =>
          rw [hp] at h
          have h1 := prodOf_mono hP _ _ hp
          have h2 := addLp_mono hP f _ _ _ h
          omega
      · cases h; exact Nat.le_refl _
theorem sumOf_mono {tb : Nat → Nat} {n : Nat} {P : Cur → Res} (hP : mono P) : mono (sumOf tb n P) := by
  intro c r h
  unfold sumOf at h
  cases hp : prodOf tb n P c with
  | error e => rw [hp] at h; cases h
  | ok a =>
    rw [hp] at h
    have h1 := prodOf_mono hP _ _ hp
    have h2 := addLp_mono hP _ _ _ _ h
    omega
theorem bindR_ok {α β : Type} {x : Except Err α} {f : α → Except Err β} {b : β} (h : bindR x f = .ok b) : ∃ a, x = .ok a ∧ f a = .ok b := by
  cases x with
  | error e => cases h
  | ok a => exact ⟨a, rfl, h⟩
theorem signP_ok {tb : Nat → Nat} {n b : Nat} {c c1 : Cur} (h : signP tb n b c = .ok c1) : isS tb n b c = true ∧ c1 = nx tb n c.1 ∧ c.1 < c1.1 := by
  unfold signP at h
  split at h
  · next hs => cases h; exact ⟨hs, rfl, nx_gt (isS_lt hs).1⟩
  · cases h
theorem numP_ok {tb : Nat → Nat} {n lo hi : Nat} {c : Cur} {r : Nat × Cur} (h : numP tb n lo hi c = .ok r) : c.1 < n ∧ r.2 = nx tb n c.1 := by
  unfold numP at h
  split at h
  · next hc =>
    split at h
    · cases h
    · split at h
      · cases h
      · cases h; exact ⟨hc.1, rfl⟩
  · cases h
theorem partIx_lt {tb : Nat → Nat} {n kind k : Nat} {c : Cur} (h : partIx tb n kind c = some k) : c.1 < n ∧ k < 10 := by
  unfold partIx at h
  have h1 := List.find?_some h
  have h2 := List.mem_of_find?_eq_some h
  rw [Bool.and_eq_true] at h1
  exact ⟨isW_lt h1.1, List.mem_range.mp h2⟩
theorem partB_gt {tb : Nat → Nat} {n kind : Nat} {Q : Option (Cur → Res)} (hQ : ∀ P, Q = some P → mono P) {c : Cur} {r : Cur × List Nat} (h : partB tb n kind Q c = .ok r) : c.1 < r.1.1 := by
  unfold partB at h
  split at h
  · next hs =>
    have hn := nx_gt (tb := tb) (isS_lt hs).1
    cases Q with
    | none => cases h
    | some P =>
      obtain ⟨a, h1, h2⟩ := bindR_ok h
      obtain ⟨c1, h3, h4⟩ := bindR_ok h2
      cases h4
      have q1 := sumOf_mono (hQ P rfl) _ _ h1
      have q2 := (signP_ok h3).2.2
      show c.1 < c1.1
      omega
  · split at h
    · next hw =>
      have hl : c.1 < n := by
        rcases hw with hw | hw
        · exact isW_lt hw
        · exact isW_lt hw
      have hn := nx_gt (tb := tb) hl
      split at h
      · next hs =>
        have hn2 := nx_gt (tb := tb) (isS_lt hs).1
        cases Q with
        | none => cases h
        | some P =>
          obtain ⟨a, h1, h2⟩ := bindR_ok h
          obtain ⟨c2, h3, h4⟩ := bindR_ok h2
          obtain ⟨a2, h5, h6⟩ := bindR_ok h4
          obtain ⟨c3, h7, h8⟩ := bindR_ok h6
          cases h8
          have q1 := sumOf_mono (hQ P rfl) _ _ h1
          have q2 := (signP_ok h3).2.2
          have q3 := sumOf_mono (hQ P rfl) _ _ h5
          have q4 := (signP_ok h7).2.2
          show c.1 < c3.1
          omega
      · cases h
    · split at h
      · next hk =>
        have hn := nx_gt (tb := tb) (isW_lt hk.2)
        cases Q with
        | none => cases h
        | some P =>
          obtain ⟨a, h1, h2⟩ := bindR_ok h
          cases h2
          have q1 := hQ P rfl _ _ h1
          show c.1 < a.1.1
          omega
      · cases hk : partIx tb n kind c with
        | some k =>
          rw [hk] at h
          cases h
          exact nx_gt (partIx_lt hk).1
        | none =>
          rw [hk] at h
          obtain ⟨a, h1, h2⟩ := bindR_ok h
          cases h2
          have q := numP_ok h1
          show c.1 < a.2.1
          rw [q.2]
          exact nx_gt q.1
theorem rdPart_gt {tb : Nat → Nat} {n kind : Nat} : ∀ d c r, rdPart tb n kind d c = .ok r → c.1 < r.1.1
  | 0, c, r, h => partB_gt (Q := none) (fun P hp => by cases hp) h
  | d + 1, c, r, h => partB_gt (Q := some (rdPart tb n kind d)) (fun P hp => by cases hp; exact fun c r h => Nat.le_of_lt (rdPart_gt d c r h)) h
theorem rdPart_mono {tb : Nat → Nat} {n kind d : Nat} : mono (rdPart tb n kind d) := fun c r h => Nat.le_of_lt (rdPart_gt d c r h)
/-! what is still to come behind a part, by what waits (the top first) -/
theorem mulLp_pre {tb : Nat → Nat} {n : Nat} {P : Cur → Res} (k : List Nat) : ∀ f c q, mulLp tb n P f c (k ++ q) = bindR (mulLp tb n P f c q) (fun r => .ok (r.1, k ++ r.2))
  | 0, c, q => rfl
  | f + 1, c, q => by
    rw [mulLp, mulLp]
    split
    · rw [bindR_assoc]
      refine bindR_congr _ (fun a _ => ?_)
      rw [← mulLp_pre k f, List.append_assoc, List.append_assoc, List.append_assoc]
    · split
      · rw [bindR_assoc]
        refine bindR_congr _ (fun a _ => ?_)
        rw [← mulLp_pre k f, List.append_assoc, List.append_assoc, List.append_assoc]
      · rfl
