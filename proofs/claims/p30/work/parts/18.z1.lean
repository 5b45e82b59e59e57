/-! sums: what steps give on a pile -/
def kcClip (v : Int64) : Int64 := if 1000000 < v then 1000000 else if v < -1000000 then -1000000 else v
def kcFl (a b : Int64) : Int64 := if b = 0 then 0 else if (¬ a - a / b * b = 0) ∧ ¬ (a < 0 ↔ b < 0) then a / b - 1 else a / b
def kcOp (c : Nat) (a b : Int64) : Int64 :=
  if c = 1 then kcClip (a + b) else if c = 2 then kcClip (a - b) else if c = 3 then kcClip (a * b) else if c = 4 then kcFl a b
  else if c = 5 then (if b < a then b else a) else (if a < b then b else a)
def kcSt (nm : Nat → Int64) (c : Nat) (S : List Int64) : Option (List Int64) :=
  if 1000 ≤ c then some (Int64.ofNat (c - 1000) :: S)
  else if 40 ≤ c then some (nm (c - 40) :: S)
  else match S with
    | b :: a :: r => some (kcOp c a b :: r)
    | _ => none
def kcEx (nm : Nat → Int64) (B : Nat) : List Nat → List Int64 → Option (List Int64)
  | [], S => some S
  | c :: k, S => match kcSt nm c S with
    | none => none
    | some T => if T.length ≤ B then kcEx nm B k T else none
theorem kcEx_app (nm : Nat → Int64) (B : Nat) : ∀ (k l : List Nat) (S : List Int64), kcEx nm B (k ++ l) S = (kcEx nm B k S).bind (kcEx nm B l)
  | [], l, S => rfl
  | c :: k, l, S => by
    show (match kcSt nm c S with | none => none | some T => if T.length ≤ B then kcEx nm B (k ++ l) T else none) = (match kcSt nm c S with | none => none | some T => if T.length ≤ B then kcEx nm B k T else none).bind (kcEx nm B l)
    cases kcSt nm c S with
    | none => rfl
    | some T =>
      show (if T.length ≤ B then kcEx nm B (k ++ l) T else none) = (if T.length ≤ B then kcEx nm B k T else none).bind (kcEx nm B l)
      by_cases h : T.length ≤ B
      · rw [if_pos h, if_pos h]; exact kcEx_app nm B k l T
      · rw [if_neg h, if_neg h]; rfl
theorem kcEx_1 {nm : Nat → Int64} {B c : Nat} {k : List Nat} {S T : List Int64} (h : kcSt nm c S = some T) (hB : T.length ≤ B) : kcEx nm B (c :: k) S = kcEx nm B k T := by
  show (match kcSt nm c S with | none => none | some T => if T.length ≤ B then kcEx nm B k T else none) = _
  rw [h]
  show (if T.length ≤ B then kcEx nm B k T else none) = _
  rw [if_pos hB]
/-- one step of a run that ends well -/
theorem kcEx_c {nm : Nat → Int64} {B c : Nat} {k : List Nat} {S R : List Int64} (h : kcEx nm B (c :: k) S = some R) : ∃ T, kcSt nm c S = some T ∧ T.length ≤ B ∧ kcEx nm B k T = some R := by
  have h1 : (match kcSt nm c S with | none => none | some T => if T.length ≤ B then kcEx nm B k T else none) = some R := h
  cases hs : kcSt nm c S with
  | none => rw [hs] at h1; cases h1
  | some T =>
    rw [hs] at h1
    have h2 : (if T.length ≤ B then kcEx nm B k T else none) = some R := h1
    by_cases hB : T.length ≤ B
    · rw [if_pos hB] at h2; exact ⟨T, rfl, hB, h2⟩
    · rw [if_neg hB] at h2; cases h2
theorem kcSt_num {nm : Nat → Int64} {c : Nat} {S : List Int64} (h : 1000 ≤ c) : kcSt nm c S = some (Int64.ofNat (c - 1000) :: S) := by
  unfold kcSt; rw [if_pos h]
theorem kcSt_nm {nm : Nat → Int64} {c : Nat} {S : List Int64} (h : 40 ≤ c) (h2 : c < 1000) : kcSt nm c S = some (nm (c - 40) :: S) := by
  unfold kcSt; rw [if_neg (by omega), if_pos h]
theorem kcSt_op {nm : Nat → Int64} {c : Nat} {a b : Int64} {S : List Int64} (h : c < 40) : kcSt nm c (b :: a :: S) = some (kcOp c a b :: S) := by
  unfold kcSt; rw [if_neg (by omega), if_neg (by omega)]
/-- a sign finds two -/
theorem kcSt_two {nm : Nat → Int64} {c : Nat} {S T : List Int64} (h : c < 40) (hs : kcSt nm c S = some T) : ∃ b a R, S = b :: a :: R ∧ T = kcOp c a b :: R := by
  unfold kcSt at hs
  rw [if_neg (by omega), if_neg (by omega)] at hs
  cases S with
  | nil => have h9 : (none : Option (List Int64)) = some T := hs; cases h9
  | cons b S =>
    cases S with
    | nil => have h9 : (none : Option (List Int64)) = some T := hs; cases h9
    | cons a R => exact ⟨b, a, R, rfl, (Option.some.inj hs).symm⟩
/-- steps that put one value on whatever pile, with m places -/
def kcGd (nm : Nat → Int64) (m : Nat) (k : List Nat) : Prop := ∃ v, ∀ (B : Nat) (S : List Int64), S.length + m ≤ B → kcEx nm B k S = some (v :: S)
theorem kcGd_mono {nm : Nat → Int64} {m m2 : Nat} {k : List Nat} (h : kcGd nm m k) (hm : m ≤ m2) : kcGd nm m2 k := by
  obtain ⟨v, hv⟩ := h
  exact ⟨v, fun B S hB => hv B S (by omega)⟩
theorem kcGd_bin {nm : Nat → Int64} {m m2 o : Nat} {k l : List Nat} (h1 : kcGd nm m k) (h2 : kcGd nm m2 l) (hm : m2 + 1 ≤ m) (ho : o < 40) : kcGd nm m (k ++ l ++ [o]) := by
  obtain ⟨v, hv⟩ := h1
  obtain ⟨u, hu⟩ := h2
  refine ⟨kcOp o v u, fun B S hB => ?_⟩
  rw [kcEx_app, kcEx_app, hv B S hB]
  show (kcEx nm B l (v :: S)).bind (kcEx nm B [o]) = _
  rw [hu B (v :: S) (by rw [List.length_cons]; omega)]
  show kcEx nm B [o] (u :: v :: S) = _
  rw [kcEx_1 (kcSt_op ho) (by rw [List.length_cons]; omega)]
  rfl
theorem kcGd_num {nm : Nat → Int64} {v : Nat} : kcGd nm 1 [1000 + v] := by
  refine ⟨Int64.ofNat v, fun B S hB => ?_⟩
  rw [kcEx_1 (kcSt_num (by omega)) (by rw [List.length_cons]; omega), Nat.add_sub_cancel_left]
  rfl
theorem kcGd_nm {nm : Nat → Int64} {j : Nat} (hj : j < 900) : kcGd nm 1 [40 + j] := by
  refine ⟨nm j, fun B S hB => ?_⟩
  rw [kcEx_1 (kcSt_nm (by omega) (by omega)) (by rw [List.length_cons]; omega), Nat.add_sub_cancel_left]
  rfl
/-- which names stand there -/
def kcN1 (kind c : Nat) : Prop := (1 ≤ c ∧ c ≤ 6) ∨ (1000 ≤ c ∧ c < 11000) ∨ (40 ≤ c ∧ c < 50 ∧ allow kind (c - 40) = true)
def kcNs (kind : Nat) (k : List Nat) : Prop := ∀ c, c ∈ k → kcN1 kind c
theorem kcNs_app {kind : Nat} {k l : List Nat} (h1 : kcNs kind k) (h2 : kcNs kind l) : kcNs kind (k ++ l) := fun c hc => by
  rcases List.mem_append.mp hc with h | h
  · exact h1 c h
  · exact h2 c h
theorem kcNs_1 {kind c : Nat} (h : kcN1 kind c) : kcNs kind [c] := fun x hx => by
  rw [List.mem_singleton.mp hx]; exact h
def kcG (kind m : Nat) (k : List Nat) : Prop := (∀ nm, kcGd nm m k) ∧ kcNs kind k
theorem kcG_mono {kind m m2 : Nat} {k : List Nat} (h : kcG kind m k) (hm : m ≤ m2) : kcG kind m2 k := ⟨fun nm => kcGd_mono (h.1 nm) hm, h.2⟩
theorem kcG_bin {kind m m2 o : Nat} {k l : List Nat} (h1 : kcG kind m k) (h2 : kcG kind m2 l) (hm : m2 + 1 ≤ m) (ho : 1 ≤ o ∧ o ≤ 6) : kcG kind m (k ++ l ++ [o]) :=
  ⟨fun nm => kcGd_bin (h1.1 nm) (h2.1 nm) hm (by omega), kcNs_app (kcNs_app h1.2 h2.2) (kcNs_1 (Or.inl ho))⟩
theorem numP_val {tb : Nat → Nat} {n lo hi : Nat} {c : Cur} {r : Nat × Cur} (h : numP tb n lo hi c = .ok r) : lo ≤ r.1 ∧ r.1 ≤ hi := by
  unfold numP at h
  split at h
  · split at h
    · cases h
    · split at h
      · cases h
      · next hc => cases h; exact ⟨by show lo ≤ vd tb c.1 (ext qD tb n c.1 - c.1); omega, by show vd tb c.1 (ext qD tb n c.1 - c.1) ≤ hi; omega⟩
  · cases h
theorem kc_mul {tb : Nat → Nat} {n kind h : Nat} {P : Cur → Res} (hP : ∀ c r, P c = .ok r → kcG kind h r.2) : ∀ f c k r, mulLp tb n P f c k = .ok r → kcG kind (h + 1) k → kcG kind (h + 1) r.2
  | 0, c, k, r, h, _ => by cases h
  | f + 1, c, k, r, h, hk => by
    rw [mulLp] at h
    split at h
    · obtain ⟨a, h1, h2⟩ := bindR_ok h
      exact kc_mul hP f _ _ _ h2 (kcG_bin hk (hP _ _ h1) (by omega) ⟨by decide, by decide⟩)
    · split at h
      · obtain ⟨a, h1, h2⟩ := bindR_ok h
        exact kc_mul hP f _ _ _ h2 (kcG_bin hk (hP _ _ h1) (by omega) ⟨by decide, by decide⟩)
      · cases h; exact hk
theorem kc_prod {tb : Nat → Nat} {n kind h : Nat} {P : Cur → Res} (hP : ∀ c r, P c = .ok r → kcG kind h r.2) : ∀ c r, prodOf tb n P c = .ok r → kcG kind (h + 1) r.2 := fun c r hr => by
  obtain ⟨a, h1, h2⟩ := bindR_ok (show bindR (P c) (fun r => mulLp tb n P (n + 2) r.1 r.2) = .ok r from hr)
  exact kc_mul hP _ _ _ _ h2 (kcG_mono (hP _ _ h1) (by omega))
theorem kc_add {tb : Nat → Nat} {n kind h : Nat} {P : Cur → Res} (hP : ∀ c r, P c = .ok r → kcG kind h r.2) : ∀ f c k r, addLp tb n P f c k = .ok r → kcG kind (h + 2) k → kcG kind (h + 2) r.2
  | 0, c, k, r, h, _ => by cases h
  | f + 1, c, k, r, h, hk => by
    rw [addLp] at h
    split at h
    · obtain ⟨a, h1, h2⟩ := bindR_ok h
      exact kc_add hP f _ _ _ h2 (kcG_bin hk (kc_prod hP _ _ h1) (by omega) ⟨by decide, by decide⟩)
    · split at h
      · obtain ⟨a, h1, h2⟩ := bindR_ok h
        exact kc_add hP f _ _ _ h2 (kcG_bin hk (kc_prod hP _ _ h1) (by omega) ⟨by decide, by decide⟩)
      · cases h; exact hk
theorem kc_sum {tb : Nat → Nat} {n kind h : Nat} {P : Cur → Res} (hP : ∀ c r, P c = .ok r → kcG kind h r.2) : ∀ c r, sumOf tb n P c = .ok r → kcG kind (h + 2) r.2 := fun c r hr => by
  obtain ⟨a, h1, h2⟩ := bindR_ok (show bindR (prodOf tb n P c) (fun r => addLp tb n P (n + 2) r.1 r.2) = .ok r from hr)
  exact kc_add hP _ _ _ _ h2 (kcG_mono (kc_prod hP _ _ h1) (by omega))
theorem kc_partB {tb : Nat → Nat} {n kind h : Nat} (hk2 : kind < 2) {Q : Option (Cur → Res)} (hQ : ∀ P, Q = some P → ∀ c r, P c = .ok r → kcG kind h r.2) {c : Cur} {r : Cur × List Nat} (hr : partB tb n kind Q c = .ok r) : kcG kind (h + 3) r.2 := by
  unfold partB at hr
  split at hr
  · cases Q with
    | none => cases hr
    | some P =>
      obtain ⟨a, h1, h2⟩ := bindR_ok hr
      obtain ⟨c1, h3, h4⟩ := bindR_ok h2
      cases h4
      exact kcG_mono (kc_sum (hQ P rfl) _ a h1) (by omega)
  · split at hr
    · split at hr
      · cases Q with
        | none => cases hr
        | some P =>
          obtain ⟨a, h1, h2⟩ := bindR_ok hr
          obtain ⟨c2, h3, h4⟩ := bindR_ok h2
          obtain ⟨b, h5, h6⟩ := bindR_ok h4
          obtain ⟨c3, h7, h8⟩ := bindR_ok h6
          cases h8
          refine kcG_bin (kcG_mono (kc_sum (hQ P rfl) _ _ h1) (by omega)) (kc_sum (hQ P rfl) _ _ h5) (by omega) ?_
          split
          · exact ⟨by decide, by decide⟩
          · exact ⟨by decide, by decide⟩
      · cases hr
    · split at hr
      · next hw => exact absurd hw.1 (by omega)
      · cases hx : partIx tb n kind c with
        | some j =>
          rw [hx] at hr
          cases hr
          have hj := (partIx_lt hx).2
          have ha : allow kind j = true := by
            have := List.find?_some hx
            rw [Bool.and_eq_true] at this
            exact this.2
          exact ⟨fun nm => kcGd_mono (kcGd_nm (by omega)) (by omega), kcNs_1 (Or.inr (Or.inr ⟨by omega, by omega, by rw [Nat.add_sub_cancel_left]; exact ha⟩))⟩
        | none =>
          rw [hx] at hr
          obtain ⟨a, h1, h2⟩ := bindR_ok hr
          cases h2
          have hv := numP_val h1
          exact ⟨fun nm => kcGd_mono kcGd_num (by omega), kcNs_1 (Or.inr (Or.inl ⟨by omega, by omega⟩))⟩
theorem kc_part {tb : Nat → Nat} {n kind : Nat} (hk : kind < 2) : ∀ d c r, rdPart tb n kind d c = .ok r → kcG kind (3 * d + 3) r.2
  | 0, c, r, h => kcG_mono (kc_partB (h := 0) hk (Q := none) (fun P hp => by cases hp) h) (by omega)
  | d + 1, c, r, h => kcG_mono (kc_partB (h := 3 * d + 3) hk (Q := some (rdPart tb n kind d)) (fun P hp => by cases hp; exact kc_part hk d) h) (by omega)
theorem kc_sumD {tb : Nat → Nat} {n kind : Nat} (hk : kind < 2) {c : Cur} {r : Cur × List Nat} (h : sumD tb n kind 6 c = .ok r) : kcG kind 23 r.2 := kc_sum (kc_part hk 6) c r h
/-- only the names that stand there count -/
theorem kcEx_cg {nm nm2 : Nat → Int64} {B : Nat} : ∀ (k : List Nat) (S : List Int64), (∀ c, c ∈ k → 40 ≤ c → c < 1000 → nm (c - 40) = nm2 (c - 40)) → kcEx nm B k S = kcEx nm2 B k S
  | [], S, _ => rfl
  | c :: k, S, h => by
    have e : kcSt nm c S = kcSt nm2 c S := by
      unfold kcSt
      by_cases h1 : 1000 ≤ c
      · rw [if_pos h1, if_pos h1]
      · rw [if_neg h1, if_neg h1]
        by_cases h2 : 40 ≤ c
        · rw [if_pos h2, if_pos h2, h c (List.mem_cons_self ..) h2 (by omega)]
        · rw [if_neg h2, if_neg h2]
    show (match kcSt nm c S with | none => none | some T => if T.length ≤ B then kcEx nm B k T else none) = (match kcSt nm2 c S with | none => none | some T => if T.length ≤ B then kcEx nm2 B k T else none)
    rw [e]
    cases kcSt nm2 c S with
    | none => rfl
    | some T =>
      show (if T.length ≤ B then kcEx nm B k T else none) = (if T.length ≤ B then kcEx nm2 B k T else none)
      rw [kcEx_cg k T (fun x hx => h x (List.mem_cons_of_mem c hx))]
/-! the sums of a lock -/
def kcSub (K : List Nat) (p : Nat × Nat) : List Nat := (K.drop p.1).take (p.2 - p.1)
def kcLk (L : LkS) : Prop := ∀ w p, lG L w = some p → p.1 < p.2 ∧ p.2 ≤ (lK L).length ∧ kcG (if w = 1 then 1 else 0) 23 (kcSub (lK L) p)
theorem kcSub_app {K k : List Nat} {p : Nat × Nat} (h : p.1 < p.2) (h2 : p.2 ≤ K.length) : kcSub (K ++ k) p = kcSub K p := by
  unfold kcSub
  rw [List.drop_append_of_le_length (by omega), List.take_append_of_le_length (by rw [List.length_drop]; omega)]
theorem kcSub_new {K k : List Nat} : kcSub (K ++ k) (K.length, K.length + k.length) = k := by
  unfold kcSub
  show ((K ++ k).drop K.length).take (K.length + k.length - K.length) = k
  rw [List.drop_left, Nat.add_sub_cancel_left, List.take_length]
theorem kcLk_stS {L : LkS} {w : Nat} {k : List Nat} (h : kcLk L) (hk : kcG (if w = 1 then 1 else 0) 23 k) (hl : 1 ≤ k.length) : kcLk (stS L w k) := by
  intro v p hp
  have hp2 : updG (lG L) w (some ((lK L).length, (lK L).length + k.length)) v = some p := hp
  unfold updG at hp2
  show p.1 < p.2 ∧ p.2 ≤ (lK L ++ k).length ∧ kcG (if v = 1 then 1 else 0) 23 (kcSub (lK L ++ k) p)
  by_cases e : v = w
  · rw [if_pos e] at hp2
    cases hp2
    refine ⟨by show (lK L).length < (lK L).length + k.length; omega, by rw [List.length_append]; exact Nat.le_refl _, ?_⟩
    rw [kcSub_new, e]; exact hk
  · rw [if_neg e] at hp2
    obtain ⟨h1, h2, h3⟩ := h v p hp2
    exact ⟨h1, by rw [List.length_append]; omega, by rw [kcSub_app h1 h2]; exact h3⟩
theorem kcGd_len {nm : Nat → Int64} {m : Nat} {k : List Nat} (h : kcGd nm m k) : 1 ≤ k.length := by
  obtain ⟨v, hv⟩ := h
  cases k with
  | nil =>
    have h1 := hv m [] (by rw [List.length_nil]; omega)
    have h2 : (some [] : Option (List Int64)) = some [v] := h1
    cases h2
  | cons c k => rw [List.length_cons]; omega
theorem kcLk_sumL {tb : Nat → Nat} {n : Nat} {L : LkS} {w kind : Nat} {c : Cur} {r : LkS × Cur} (hL : kcLk L) (hw : kind = if w = 1 then 1 else 0) (h : sumL tb n L w kind c = .ok r) : kcLk r.1 := by
  unfold sumL at h
  split at h
  · cases h
  · obtain ⟨a, h1, h2⟩ := bindR_ok h
    cases h2
    have hg := kc_sumD (by rw [hw]; split <;> omega) h1
    exact kcLk_stS hL (hw ▸ hg) (kcGd_len (hg.1 (fun _ => 0)))
theorem kcLk_body {tb : Nat → Nat} {n : Nat} {L : LkS} {c : Cur} {r : LkS × Cur} (hL : kcLk L) (h : bodyP tb n L c = .ok r) : kcLk r.1 := by
  unfold bodyP at h
  split at h
  · obtain ⟨x, h1, h2⟩ := bindR_ok h; cases h2; exact hL
  · split at h
    · obtain ⟨x, h1, h2⟩ := bindR_ok h; cases h2; exact hL
    · split at h
      · obtain ⟨x, h1, h2⟩ := bindR_ok h
        have h3 : (if lU L x.1 = true then (.error (2, (nx tb n c.1).1) : LkR) else .ok (stU L x.1, x.2)) = .ok r := h2
        split at h3
        · cases h3
        · cases h3; exact hL
      · split at h
        · exact kcLk_sumL hL rfl h
        · split at h
          · exact kcLk_sumL hL rfl h
          · split at h
            · exact kcLk_sumL hL rfl h
            · split at h
              · obtain ⟨x, h1, h2⟩ := bindR_ok h; cases h2; exact hL
              · cases h
theorem kcLk_stm {tb : Nat → Nat} {n : Nat} {q r : LkS × Cur} (hL : kcLk q.1) (h : stmP tb n q = .ok r) : kcLk r.1 := by
  obtain ⟨x, h1, h2⟩ := bindR_ok (show bindR (bodyP tb n q.1 q.2) (fun r => bindR (signP tb n 59 r.2) (fun c => .ok (r.1, c))) = .ok r from h)
  obtain ⟨y, h3, h4⟩ := bindR_ok h2
  cases h4
  exact kcLk_body (r := x) hL h1
theorem kcLk_stP {tb : Nat → Nat} {n : Nat} : ∀ f q r, stP tb n f q = .ok r → kcLk q.1 → kcLk r.1
  | 0, q, r, h, hL => by
    have h1 : (if n ≤ q.2.1 then (.ok (q.1, 60) : Except Err (LkS × Nat)) else .error (5, q.2.1)) = .ok r := h
    split at h1
    · cases h1; exact hL
    · cases h1
  | f + 1, q, r, h, hL => by
    have h1 : (if n ≤ q.2.1 then (.ok (q.1, 60 - (f + 1)) : Except Err (LkS × Nat)) else bindR (stmP tb n q) (stP tb n f)) = .ok r := h
    split at h1
    · cases h1; exact hL
    · obtain ⟨x, h2, h3⟩ := bindR_ok h1
      exact kcLk_stP f x r h3 (kcLk_stm hL h2)
theorem kcLk_0 (d m : Nat) : kcLk (L0 d m) := fun w p hp => by
  have h : (none : Option (Nat × Nat)) = some p := hp
  cases h
theorem kcLk_open {tb : Nat → Nat} {n : Nat} {c : Cur} {r : LkS × Cur} (h : openP tb n c = .ok r) : kcLk r.1 := by
  unfold openP at h
  obtain ⟨c1, h1, h2⟩ := bindR_ok h
  obtain ⟨d, h3, h4⟩ := bindR_ok h2
  obtain ⟨c2, h5, h6⟩ := bindR_ok h4
  obtain ⟨m, h7, h8⟩ := bindR_ok h6
  obtain ⟨c3, h9, h10⟩ := bindR_ok h8
  cases h10
  exact kcLk_0 _ _
theorem kcLk_lock {tb : Nat → Nat} {n : Nat} {r : LkS × Nat} (h : lockP tb n = .ok r) : kcLk r.1 := by
  obtain ⟨x, h1, h2⟩ := bindR_ok (show bindR (openP tb n (sk tb n 0, false)) (stP tb n 59) = .ok r from h)
  exact kcLk_stP 59 x r h2 (kcLk_open h1)
theorem kcLk_untS {L : LkS} {w : Nat} (h : kcLk L) : kcLk (untS L w) := by
  unfold untS
  split
  · exact h
  · refine kcLk_stS h ?_ (Nat.le_refl 1)
    by_cases e : w = 1
    · rw [if_pos e, if_pos e]
      exact ⟨fun nm => kcGd_mono (kcGd_nm (j := 5) (by omega)) (by omega), kcNs_1 (Or.inr (Or.inr ⟨by decide, by decide, rfl⟩))⟩
    · rw [if_neg e, if_neg e]
      exact ⟨fun nm => kcGd_mono (kcGd_nm (j := 0) (by omega)) (by omega), kcNs_1 (Or.inr (Or.inr ⟨by decide, by decide, rfl⟩))⟩
theorem kcLk_untN {L : LkS} (h : kcLk L) : ∀ i, kcLk (untN L i)
  | 0 => h
  | i + 1 => kcLk_untS (kcLk_untN h i)
theorem kcLk_F {L : LkS} (h : kcLk L) : kcLk (lkF L) := kcLk_untN h 3
/-- the steps of a sum, told or not -/
def kcSeg (L : LkS) (w : Nat) : List Nat := match lG (lkF L) w with
  | none => []
  | some p => kcSub (lK (lkF L)) p
theorem untS_G {L : LkS} {w v : Nat} : lG (untS L w) v = if (lG L w).isSome = true then lG L v else if v = w then some ((lK L).length, (lK L).length + 1) else lG L v := by
  unfold untS
  by_cases h : (lG L w).isSome = true
  · rw [if_pos h, if_pos h]
  · rw [if_neg h, if_neg h]; rfl
theorem untS_keep {L : LkS} {w v : Nat} {p : Nat × Nat} (h : lG L v = some p) : lG (untS L w) v = some p := by
  rw [untS_G]
  by_cases h0 : (lG L w).isSome = true
  · rw [if_pos h0]; exact h
  · rw [if_neg h0]
    by_cases e : v = w
    · subst e; rw [h] at h0; exact absurd rfl h0
    · rw [if_neg e]; exact h
theorem untS_app (L : LkS) (w : Nat) : ∃ k, lK (untS L w) = lK L ++ k := by
  unfold untS
  split
  · exact ⟨[], (List.append_nil _).symm⟩
  · exact ⟨_, rfl⟩
theorem untN_some {L : LkS} : ∀ i v, v < i → ∃ p, lG (untN L i) v = some p
  | 0, v, h => absurd h (Nat.not_lt_zero v)
  | i + 1, v, h => by
    show ∃ p, lG (untS (untN L i) i) v = some p
    by_cases e : v = i
    · subst e
      rw [untS_G]
      cases hv : lG (untN L v) v with
      | some p => exact ⟨p, by rw [if_pos (by rfl)]⟩
      | none => exact ⟨_, by rw [if_neg (by decide), if_pos rfl]⟩
    · obtain ⟨p, hp⟩ := untN_some i v (by omega)
      exact ⟨p, untS_keep hp⟩
theorem kcSeg_G {L : LkS} (h : kcLk L) {w : Nat} (hw : w < 3) : kcG (if w = 1 then 1 else 0) 23 (kcSeg L w) := by
  obtain ⟨p, hp⟩ := untN_some (L := L) 3 w hw
  have h1 := (kcLk_F h w p hp).2.2
  unfold kcSeg
  rw [show lG (lkF L) w = some p from hp]
  exact h1
/-- what a sum gives -/
def kcV (L : LkS) (w : Nat) (nm : Nat → Int64) : Int64 := match kcEx nm 64 (kcSeg L w) [] with
  | some (v :: _) => v
  | _ => 0
theorem kcV_ex {L : LkS} (h : kcLk L) {w : Nat} (hw : w < 3) (nm : Nat → Int64) : kcEx nm 64 (kcSeg L w) [] = some [kcV L w nm] := by
  obtain ⟨v, hv⟩ := (kcSeg_G h hw).1 nm
  have h1 := hv 64 [] (by rw [List.length_nil]; omega)
  have key : ∀ o : Option (List Int64), o = some [v] → (match o with | some (v :: _) => v | _ => (0 : Int64)) = v := by
    intro o ho; subst ho; rfl
  have h2 : kcV L w nm = v := key _ h1
  rw [h2]; exact h1
theorem kcV_cg {L : LkS} (h : kcLk L) {w : Nat} (hw : w < 3) {nm nm2 : Nat → Int64} (e : ∀ j, j < (if w = 1 then 7 else 5) → nm j = nm2 j) : kcV L w nm = kcV L w nm2 := by
  have key : ∀ c, c ∈ kcSeg L w → 40 ≤ c → c < 1000 → nm (c - 40) = nm2 (c - 40) := by
    intro c hc h1 h2
    rcases (kcSeg_G h hw).2 c hc with ⟨q, q2⟩ | ⟨q, q2⟩ | ⟨q, q2, qa⟩
    · exact absurd h1 (by omega)
    · exact absurd h2 (by omega)
    · refine e _ ?_
      unfold allow at qa
      by_cases hw1 : w = 1
      · rw [if_pos hw1, if_neg (by decide), if_pos rfl, decide_eq_true_iff] at qa
        rw [if_pos hw1]; exact qa
      · rw [if_neg hw1, if_pos rfl, decide_eq_true_iff] at qa
        rw [if_neg hw1]; exact qa
  unfold kcV
  rw [kcEx_cg (nm := nm) (nm2 := nm2) (kcSeg L w) [] key]
/-- without week the week does not count -/
theorem kcV_wk {L : LkS} (h : kcLk L) {w : Nat} (hw : w < 3) {nm nm2 : Nat → Int64} (h4 : 44 ∉ lK (lkF L)) (e : ∀ j, j < (if w = 1 then 7 else 5) → ¬ j = 4 → nm j = nm2 j) : kcV L w nm = kcV L w nm2 := by
  have key : ∀ c, c ∈ kcSeg L w → 40 ≤ c → c < 1000 → nm (c - 40) = nm2 (c - 40) := by
    intro c hc h1 h2
    have hne : ¬ c = 44 := fun q => by
      subst q
      obtain ⟨p, hp⟩ := untN_some (L := L) 3 w hw
      unfold kcSeg at hc
      rw [show lG (lkF L) w = some p from hp] at hc
      exact h4 (List.mem_of_mem_drop (List.mem_of_mem_take (show 44 ∈ ((lK (lkF L)).drop p.1).take (p.2 - p.1) from hc)))
    rcases (kcSeg_G h hw).2 c hc with ⟨q, q2⟩ | ⟨q, q2⟩ | ⟨q, q2, qa⟩
    · exact absurd h1 (by omega)
    · exact absurd h2 (by omega)
    · refine e _ ?_ (by omega)
      unfold allow at qa
      by_cases hw1 : w = 1
      · rw [if_pos hw1, if_neg (by decide), if_pos rfl, decide_eq_true_iff] at qa
        rw [if_pos hw1]; exact qa
      · rw [if_neg hw1, if_pos rfl, decide_eq_true_iff] at qa
        rw [if_neg hw1]; exact qa
  unfold kcV
  rw [kcEx_cg (nm := nm) (nm2 := nm2) (kcSeg L w) [] key]
theorem untN_keep {L : LkS} {v : Nat} {p : Nat × Nat} (h : lG L v = some p) : ∀ i, lG (untN L i) v = some p
  | 0 => h
  | i + 1 => untS_keep (untN_keep h i)
theorem untN_app (L : LkS) : ∀ i, ∃ k, lK (untN L i) = lK L ++ k
  | 0 => ⟨[], (List.append_nil _).symm⟩
  | i + 1 => by
    obtain ⟨k, hk⟩ := untN_app L i
    obtain ⟨k2, hk2⟩ := untS_app (untN L i) i
    exact ⟨k ++ k2, by show lK (untS (untN L i) i) = _; rw [hk2, hk, List.append_assoc]⟩
theorem kcSeg_some {L : LkS} (hL : kcLk L) {w : Nat} {p : Nat × Nat} (h : lG L w = some p) : kcSeg L w = kcSub (lK L) p := by
  unfold kcSeg
  rw [show lG (lkF L) w = some p from untN_keep h 3]
  obtain ⟨k, hk⟩ := untN_app L 3
  show kcSub (lK (untN L 3)) p = _
  rw [hk]
  exact kcSub_app (hL w p h).1 (hL w p h).2.1
theorem untN_none {L : LkS} {v : Nat} (h : lG L v = none) : ∀ i, i ≤ v → lG (untN L i) v = none
  | 0, _ => h
  | i + 1, hi => by
    show lG (untS (untN L i) i) v = none
    rw [untS_G]
    by_cases h0 : (lG (untN L i) i).isSome = true
    · rw [if_pos h0]; exact untN_none h i (by omega)
    · rw [if_neg h0, if_neg (show ¬ v = i by omega)]; exact untN_none h i (by omega)
theorem kcSeg_none {L : LkS} {w : Nat} (hw : w < 3) (h : lG L w = none) : kcSeg L w = [if w = 1 then 45 else 40] := by
  have h1 := untN_none h w (Nat.le_refl w)
  have e1 : untN L (w + 1) = stS (untN L w) w [if w = 1 then 45 else 40] := by
    show untS (untN L w) w = _
    unfold untS
    rw [h1, if_neg (by decide)]
  have e2 : lG (untN L (w + 1)) w = some ((lK (untN L w)).length, (lK (untN L w)).length + 1) := by
    rw [e1]
    show updG (lG (untN L w)) w _ w = _
    unfold updG
    rw [if_pos rfl]
    rfl
  have e3 : lK (untN L (w + 1)) = lK (untN L w) ++ [if w = 1 then 45 else 40] := by rw [e1]; rfl
  have key : ∀ j, ∃ k, lG (untN L (w + 1 + j)) w = some ((lK (untN L w)).length, (lK (untN L w)).length + 1) ∧ lK (untN L (w + 1 + j)) = lK (untN L (w + 1)) ++ k := by
    intro j
    induction j with
    | zero => exact ⟨[], e2, (List.append_nil _).symm⟩
    | succ j ih =>
      obtain ⟨k, a, b⟩ := ih
      obtain ⟨k2, hk2⟩ := untS_app (untN L (w + 1 + j)) (w + 1 + j)
      exact ⟨k ++ k2, untS_keep a, by show lK (untS (untN L (w + 1 + j)) (w + 1 + j)) = _; rw [hk2, b, List.append_assoc]⟩
  obtain ⟨k, a, b⟩ := key (2 - w)
  rw [show w + 1 + (2 - w) = 3 by omega] at a b
  unfold kcSeg
  rw [show lG (lkF L) w = _ from a]
  show kcSub (lK (untN L 3)) _ = _
  rw [b, kcSub_app (by show (lK (untN L w)).length < (lK (untN L w)).length + 1; omega) (by rw [e3, List.length_append, List.length_singleton]; exact Nat.le_refl _), e3]
  exact kcSub_new
theorem kcV_none {L : LkS} {w : Nat} (hw : w < 3) (h : lG L w = none) (nm : Nat → Int64) : kcV L w nm = if w = 1 then nm 5 else nm 0 := by
  unfold kcV
  rw [kcSeg_none hw h]
  by_cases e : w = 1
  · rw [if_pos e, if_pos e, kcEx_1 (kcSt_nm (by decide) (by decide)) (Nat.le_of_ble_eq_true rfl)]
    rfl
  · rw [if_neg e, if_neg e, kcEx_1 (kcSt_nm (by decide) (by decide)) (Nat.le_of_ble_eq_true rfl)]
    rfl
/-! weeks: ways through days of ten moods -/
def kcS (f : Nat → Nat) : Nat → Nat
  | 0 => 0
  | n + 1 => kcS f n + f n
theorem kcS_cg {f g : Nat → Nat} : ∀ n, (∀ m, m < n → f m = g m) → kcS f n = kcS g n
  | 0, _ => rfl
  | n + 1, h => by
    show kcS f n + f n = kcS g n + g n
    rw [kcS_cg n (fun m hm => h m (by omega)), h n (by omega)]
theorem kcS_le {f : Nat → Nat} {b : Nat} : ∀ n, (∀ m, m < n → f m ≤ b) → kcS f n ≤ n * b
  | 0, _ => Nat.zero_le _
  | n + 1, h => by
    show kcS f n + f n ≤ (n + 1) * b
    have h1 := kcS_le n (fun m hm => h m (by omega))
    have h2 := h n (by omega)
    rw [Nat.succ_mul]
    omega
theorem kcS_z {f : Nat → Nat} : ∀ n, (∀ m, m < n → f m = 0) → kcS f n = 0
  | 0, _ => rfl
  | n + 1, h => by
    show kcS f n + f n = 0
    rw [kcS_z n (fun m hm => h m (by omega)), h n (by omega)]
theorem kcS_pos {f : Nat → Nat} : ∀ n, kcS f n = 0 → ∀ m, m < n → f m = 0
  | 0, _, m, hm => absurd hm (Nat.not_lt_zero m)
  | n + 1, h, m, hm => by
    have h1 : kcS f n + f n = 0 := h
    by_cases e : m = n
    · subst e; omega
    · exact kcS_pos n (by omega) m (by omega)
theorem kcS_add {f g : Nat → Nat} : ∀ n, kcS (fun m => f m + g m) n = kcS f n + kcS g n
  | 0 => rfl
  | n + 1 => by
    show kcS (fun m => f m + g m) n + (f n + g n) = (kcS f n + f n) + (kcS g n + g n)
    rw [kcS_add n]
    omega
theorem kcS_mul {f : Nat → Nat} {b : Nat} : ∀ n, kcS (fun m => f m * b) n = kcS f n * b
  | 0 => by show 0 = 0 * b; omega
  | n + 1 => by
    show kcS (fun m => f m * b) n + f n * b = (kcS f n + f n) * b
    rw [kcS_mul n, Nat.add_mul]
theorem kcS_mulL {f : Nat → Nat} {b : Nat} (n : Nat) : kcS (fun m => b * f m) n = b * kcS f n := by
  rw [kcS_cg (g := fun m => f m * b) n (fun m _ => Nat.mul_comm _ _), kcS_mul, Nat.mul_comm]
theorem kcS_swap {f : Nat → Nat → Nat} (k : Nat) : ∀ n, kcS (fun m => kcS (fun a => f a m) k) n = kcS (fun a => kcS (fun m => f a m) n) k
  | 0 => (kcS_z (f := fun a => kcS (fun m => f a m) 0) k (fun m _ => rfl)).symm
  | n + 1 => by
    show kcS (fun m => kcS (fun a => f a m) k) n + kcS (fun a => f a n) k = kcS (fun a => kcS (fun m => f a m) n + f a n) k
    rw [kcS_swap k n, kcS_add]
def kcC (E : Nat → Nat → Nat → Bool) : Nat → Nat → Nat → Nat
  | 0, _, _ => 1
  | k + 1, d, a => kcS (fun m => if E d a m = true then kcC E k (d + 1) m else 0) 10
theorem kcC_s (E : Nat → Nat → Nat → Bool) (k d a : Nat) : kcC E (k + 1) d a = kcS (fun m => if E d a m = true then kcC E k (d + 1) m else 0) 10 := rfl
theorem kcC_le (E : Nat → Nat → Nat → Bool) : ∀ k d a, kcC E k d a ≤ 10 ^ k
  | 0, _, _ => Nat.le_refl 1
  | k + 1, d, a => by
    rw [kcC_s, Nat.pow_succ, Nat.mul_comm]
    refine kcS_le 10 (fun m _ => ?_)
    split
    · exact kcC_le E k (d + 1) m
    · exact Nat.zero_le _
theorem kcC_cg {E F : Nat → Nat → Nat → Bool} : ∀ k d a, (∀ e, d ≤ e → e < d + k → ∀ x m, x < 10 → m < 10 → E e x m = F e x m) → a < 10 → kcC E k d a = kcC F k d a
  | 0, _, _, _, _ => rfl
  | k + 1, d, a, h, ha => by
    rw [kcC_s, kcC_s]
    refine kcS_cg 10 (fun m hm => ?_)
    rw [h d (Nat.le_refl d) (by omega) a m ha hm, kcC_cg k (d + 1) m (fun e h1 h2 x y hx hy => h e (by omega) (by omega) x y hx hy) hm]
theorem kc_9 {k : Nat} (h : k ≤ 9) : 10 ^ k ≤ 1000000000 := Nat.pow_le_pow_right (by decide) h
theorem kcC_9 (E : Nat → Nat → Nat → Bool) {k : Nat} (h : k ≤ 9) (d a : Nat) : kcC E k d a ≤ 1000000000 := Nat.le_trans (kcC_le E k d a) (kc_9 h)
/-- from ahead -/
def kcB (E : Nat → Nat → Nat → Bool) (a0 : Nat) : Nat → Nat → Nat
  | 0, m => if E 0 a0 m = true then 1 else 0
  | d + 1, m => kcS (fun a => if E (d + 1) a m = true then kcB E a0 d a else 0) 10
theorem kcB_0 (E : Nat → Nat → Nat → Bool) (a0 m : Nat) : kcB E a0 0 m = if E 0 a0 m = true then 1 else 0 := rfl
theorem kcB_s (E : Nat → Nat → Nat → Bool) (a0 d m : Nat) : kcB E a0 (d + 1) m = kcS (fun a => if E (d + 1) a m = true then kcB E a0 d a else 0) 10 := rfl
theorem kcB_C (E : Nat → Nat → Nat → Bool) (a0 : Nat) : ∀ d k, kcS (fun m => kcB E a0 d m * kcC E k (d + 1) m) 10 = kcC E (k + d + 1) 0 a0
  | 0, k => by
    rw [show k + 0 + 1 = k + 1 by omega, kcC_s]
    refine kcS_cg 10 (fun m _ => ?_)
    rw [kcB_0]
    by_cases h : E 0 a0 m = true
    · rw [if_pos h, if_pos h, Nat.one_mul]
    · rw [if_neg h, if_neg h, Nat.zero_mul]
  | d + 1, k => by
    have ih := kcB_C E a0 d (k + 1)
    rw [show k + (d + 1) + 1 = (k + 1) + d + 1 by omega, ← ih]
    rw [kcS_cg (g := fun m => kcS (fun a => if E (d + 1) a m = true then kcB E a0 d a * kcC E k (d + 1 + 1) m else 0) 10) 10 (fun m _ => ?_)]
    · rw [kcS_swap 10 10]
      refine kcS_cg 10 (fun a _ => ?_)
      rw [kcC_s, ← kcS_mulL]
      refine kcS_cg 10 (fun m _ => ?_)
      by_cases h : E (d + 1) a m = true
      · rw [if_pos h, if_pos h]
      · rw [if_neg h, if_neg h, Nat.mul_zero]
    · show kcB E a0 (d + 1) m * kcC E k (d + 1 + 1) m = _
      rw [kcB_s, ← kcS_mul]
      refine kcS_cg 10 (fun a _ => ?_)
      by_cases h : E (d + 1) a m = true
      · rw [if_pos h, if_pos h]
      · rw [if_neg h, if_neg h, Nat.zero_mul]
theorem kcB_all (E : Nat → Nat → Nat → Bool) (a0 d : Nat) : kcS (kcB E a0 d) 10 = kcC E (d + 1) 0 a0 := by
  have h := kcB_C E a0 d 0
  rw [Nat.zero_add] at h
  rw [← h]
  exact kcS_cg 10 (fun m _ => (Nat.mul_one _).symm)
/-! the week of a number -/
def kcP (w : Nat → Nat) : Nat → Nat → Nat → Nat × Nat
  | 0, m, x => (m, x)
  | f + 1, m, x => if x < w m then (m, x) else kcP w f (m + 1) (x - w m)
theorem kcP_s (w : Nat → Nat) (f m x : Nat) : kcP w (f + 1) m x = if x < w m then (m, x) else kcP w f (m + 1) (x - w m) := rfl
theorem kcP_go {w : Nat → Nat} {m x : Nat} (hm : m < 10) (h : ¬ x < w m) : kcP w (10 - m) m x = kcP w (10 - (m + 1)) (m + 1) (x - w m) := by
  rw [show 10 - m = (10 - (m + 1)) + 1 by omega, kcP_s, if_neg h]
theorem kcP_at {w : Nat → Nat} {m x : Nat} (hm : m < 10) (h : x < w m) : kcP w (10 - m) m x = (m, x) := by
  rw [show 10 - m = (10 - (m + 1)) + 1 by omega, kcP_s, if_pos h]
/-- what is left of a sum from a place on -/
def kcT (w : Nat → Nat) : Nat → Nat → Nat
  | 0, _ => 0
  | f + 1, m => w m + kcT w f (m + 1)
theorem kcT_S (w : Nat → Nat) : ∀ f m, kcS w m + kcT w f m = kcS w (m + f)
  | 0, m => rfl
  | f + 1, m => by
    show kcS w m + (w m + kcT w f (m + 1)) = _
    have h := kcT_S w f (m + 1)
    rw [show m + (f + 1) = m + 1 + f by omega, ← h]
    show kcS w m + (w m + kcT w f (m + 1)) = (kcS w m + w m) + kcT w f (m + 1)
    omega
theorem kcP_in {w : Nat → Nat} : ∀ f m x, x < kcT w f m → (kcP w f m x).1 < m + f ∧ (kcP w f m x).2 < w (kcP w f m x).1
  | 0, m, x, h => absurd h (Nat.not_lt_zero x)
  | f + 1, m, x, h => by
    rw [kcP_s]
    have h1 : x < w m + kcT w f (m + 1) := h
    by_cases c : x < w m
    · rw [if_pos c]; exact ⟨by show m < m + (f + 1); omega, c⟩
    · rw [if_neg c]
      have h2 := kcP_in (w := w) f (m + 1) (x - w m) (by omega)
      exact ⟨by omega, h2.2⟩
theorem kcP_10 {w : Nat → Nat} {x : Nat} (h : x < kcS w 10) : (kcP w 10 0 x).1 < 10 ∧ (kcP w 10 0 x).2 < w (kcP w 10 0 x).1 := by
  have h0 := kcT_S w 10 0
  have h1 : kcS w 0 = 0 := rfl
  have h2 := kcP_in (w := w) 10 0 x (by rw [show 0 + 10 = 10 from rfl] at h0; omega)
  exact ⟨by omega, h2.2⟩
/-- the first with some -/
theorem kcP_zero {w : Nat → Nat} : ∀ f m j, m ≤ j → j < m + f → 0 < w j → (∀ i, m ≤ i → i < j → w i = 0) → kcP w f m 0 = (j, 0)
  | 0, m, j, h1, h2, _, _ => absurd h2 (by omega)
  | f + 1, m, j, h1, h2, h3, h4 => by
    rw [kcP_s]
    by_cases e : j = m
    · subst e; rw [if_pos h3]
    · rw [if_neg (by rw [h4 m (Nat.le_refl m) (by omega)]; omega), Nat.zero_sub]
      exact kcP_zero f (m + 1) j (by omega) (by omega) h3 (fun i hi hj => h4 i (by omega) hj)
def kcW (E : Nat → Nat → Nat → Bool) (n d a m : Nat) : Nat := if E d a m = true then kcC E (n - (d + 1)) (d + 1) m else 0
/-- ahead of a day: the mood, and what is left of the number -/
def kcA (E : Nat → Nat → Nat → Bool) (n a0 x : Nat) : Nat → Nat × Nat
  | 0 => (a0, x)
  | d + 1 => kcP (kcW E n d (kcA E n a0 x d).1) 10 0 (kcA E n a0 x d).2
theorem kcA_s (E : Nat → Nat → Nat → Bool) (n a0 x d : Nat) : kcA E n a0 x (d + 1) = kcP (kcW E n d (kcA E n a0 x d).1) 10 0 (kcA E n a0 x d).2 := rfl
theorem kcW_S {E : Nat → Nat → Nat → Bool} {n d a : Nat} (h : d < n) : kcS (kcW E n d a) 10 = kcC E (n - d) d a := by
  rw [show n - d = (n - (d + 1)) + 1 by omega, kcC_s]
  rfl
theorem kcA_ok {E : Nat → Nat → Nat → Bool} {n a0 x : Nat} (ha : a0 < 10) (h : x < kcC E n 0 a0) : ∀ d, d ≤ n → (kcA E n a0 x d).1 < 10 ∧ (kcA E n a0 x d).2 < kcC E (n - d) d (kcA E n a0 x d).1
  | 0, _ => ⟨ha, h⟩
  | d + 1, hd => by
    obtain ⟨h1, h2⟩ := kcA_ok ha h d (by omega)
    rw [← kcW_S (by omega)] at h2
    obtain ⟨h3, h4⟩ := kcP_10 h2
    rw [kcA_s]
    refine ⟨h3, ?_⟩
    generalize kcP (kcW E n d (kcA E n a0 x d).1) 10 0 (kcA E n a0 x d).2 = q at h3 h4 ⊢
    unfold kcW at h4
    split at h4
    · exact h4
    · exact absurd h4 (Nat.not_lt_zero _)
/-- the mood of a day in the week of a number -/
def kcM (E : Nat → Nat → Nat → Bool) (n a0 x d : Nat) : Nat := (kcA E n a0 x (d + 1)).1
/-! masks of ten bits -/
def kcK (P : Nat → Bool) : Nat → Nat
  | 0 => 0
  | n + 1 => kcK P n + (if P n = true then 2 ^ n else 0)
theorem kcK_lt (P : Nat → Bool) : ∀ n, kcK P n < 2 ^ n
  | 0 => Nat.le_refl 1
  | n + 1 => by
    have h := kcK_lt P n
    show kcK P n + (if P n = true then 2 ^ n else 0) < 2 ^ (n + 1)
    rw [Nat.pow_succ]
    split <;> omega
theorem kcK_s (P : Nat → Bool) (n : Nat) : kcK P (n + 1) = kcK P n + (if P n = true then 2 ^ n else 0) := rfl
theorem kcK_or (P : Nat → Bool) (n : Nat) (h : P n = true) : kcK P n ||| 2 ^ n = kcK P (n + 1) := by
  rw [kcK_s, if_pos h, Nat.or_comm, Nat.add_comm]
  have h1 := Nat.two_pow_add_eq_or_of_lt (kcK_lt P n) 1
  rw [Nat.mul_one] at h1
  exact h1.symm
theorem kcK_no (P : Nat → Bool) (n : Nat) (h : ¬ P n = true) : kcK P (n + 1) = kcK P n := by
  rw [kcK_s, if_neg h, Nat.add_zero]
theorem kcK_bit (P : Nat → Bool) : ∀ n j, (kcK P n).testBit j = (decide (j < n) && P j)
  | 0, j => by
    show Nat.testBit 0 j = _
    rw [Nat.zero_testBit]
    rfl
  | n + 1, j => by
    by_cases h : P n = true
    · rw [← kcK_or P n h, Nat.testBit_or, kcK_bit P n j, Nat.testBit_two_pow]
      by_cases e : n = j
      · subst e
        rw [h]
        simp
      · rw [show decide (n = j) = false from decide_eq_false e, Bool.or_false]
        by_cases l : j < n
        · rw [show decide (j < n) = true from decide_eq_true l, show decide (j < n + 1) = true from decide_eq_true (by omega)]
        · rw [show decide (j < n) = false from decide_eq_false l, show decide (j < n + 1) = false from decide_eq_false (by omega)]
    · rw [kcK_no P n h, kcK_bit P n j]
      by_cases e : j = n
      · subst e
        rw [Bool.not_eq_true] at h
        rw [h, Bool.and_false, Bool.and_false]
      · by_cases l : j < n
        · rw [show decide (j < n) = true from decide_eq_true l, show decide (j < n + 1) = true from decide_eq_true (by omega)]
        · rw [show decide (j < n) = false from decide_eq_false l, show decide (j < n + 1) = false from decide_eq_false (by omega)]
/-! rows: what was put, kept -/
section KxRows
variable {p : Program} {l : Launch} {e : Env} {R : Room} {s : State} {m : MethodId} {args : Array Value} {below : List Frame} {meth : Method} {c : Code} {H : Heap} {locs : List Loc} {cells slots : Nat} {Q : State → Prop}
variable {cc : ByteArray} {pc : Nat} {ls : Array Slot} {rest : List Value} {D : va_G} {tys : List (ClassId × FieldType)} {ws : va_W} {A : Nat → Prop} {H0 : Heap} {a : Nat}
theorem sk_iastE (hexec : p.tables.exec = Jvm.exec) (hb : c.code = cc) (hK : skK D tys s) (hP : va_P D vwCl ws H) (hD : va_D A ws) (hS : va_S A H0 H locs) (q0 t0 : Nat) {cA : ClassId} {n : Nat} {f : Nat → Int32} {ws' : (Nat → Int32) → va_W} (ha : ws[q0]? = some (a, .inl (cA, n, .inl f))) (ht : tys[t0]? = some (cA, .int)) {k : Nat} {x : Int32} (hk : k < n) (hn : n < 2147483648) (hw' : ∀ f', ws.set q0 (a, .inl (cA, n, .inl f')) = ws' f') (hdg : decode cc pc = .ok (.iastore, 1))
    (kk : ∀ (f' : Nat → Int32) (H1 : Heap) (locs1 : List Loc), f' = upd f k x → va_P D vwCl (ws' f') H1 → va_D A (ws' f') → va_S A H0 H1 locs1 → W p l e R s m args below meth c H1 locs1 cells slots Q (F0 m (pc + 1) ls rest)) : W p l e R s m args below meth c H locs cells slots Q (F0 m pc ls (.int x :: .int (nI k) :: .ref a :: rest)) :=
  va_iast hexec hb hK.1 hP hD hS q0 t0 ha ht (vin k n hk hn) hdg (fun H1 locs1 h1 h2 h3 => kk _ H1 locs1 (by rw [nI_clamp (by omega)]) ((hw' _) ▸ h1) ((hw' _) ▸ h2) h3)
theorem sk_lastE (hexec : p.tables.exec = Jvm.exec) (hb : c.code = cc) (hK : skK D tys s) (hP : va_P D vwCl ws H) (hD : va_D A ws) (hS : va_S A H0 H locs) (q0 t0 : Nat) {cA : ClassId} {n : Nat} {f : Nat → Int64} {ws' : (Nat → Int64) → va_W} (ha : ws[q0]? = some (a, .inl (cA, n, .inr (.inl f)))) (ht : tys[t0]? = some (cA, .long)) {k : Nat} {x : Int64} (hk : k < n) (hn : n < 2147483648) (hw' : ∀ f', ws.set q0 (a, .inl (cA, n, .inr (.inl f'))) = ws' f') (hdg : decode cc pc = .ok (.lastore, 1))
    (kk : ∀ (f' : Nat → Int64) (H1 : Heap) (locs1 : List Loc), f' = vp_updL f k x → va_P D vwCl (ws' f') H1 → va_D A (ws' f') → va_S A H0 H1 locs1 → W p l e R s m args below meth c H1 locs1 cells slots Q (F0 m (pc + 1) ls rest)) : W p l e R s m args below meth c H locs cells slots Q (F0 m pc ls (.long x :: .int (nI k) :: .ref a :: rest)) :=
  va_last hexec hb hK.1 hP hD hS q0 t0 ha ht (vin k n hk hn) hdg (fun H1 locs1 h1 h2 h3 => kk _ H1 locs1 (by rw [nI_clamp (by omega)]) ((hw' _) ▸ h1) ((hw' _) ▸ h2) h3)
theorem sk_iastNE (hexec : p.tables.exec = Jvm.exec) (hb : c.code = cc) (hK : skK D tys s) (hP : va_P D vwCl ws H) (hD : va_D A ws) (hS : va_S A H0 H locs) (q0 t0 : Nat) {cA : ClassId} {n B : Nat} {f : Nat → Nat} {ws' : (Nat → Nat) → va_W} (ha : ws[q0]? = some (a, .inl (cA, n, .inl (fun j => nI (f j))))) (ht : tys[t0]? = some (cA, .int)) {k v : Nat} (hk : k < n) (hn : n < 2147483648) (hf : ∀ j, f j ≤ B) (hv : v ≤ B) (hw' : ∀ f', ws.set q0 (a, .inl (cA, n, .inl (fun j => nI (f' j)))) = ws' f') (hdg : decode cc pc = .ok (.iastore, 1))
    (kk : ∀ (f' : Nat → Nat) (H1 : Heap) (locs1 : List Loc), (∀ j, f' j ≤ B) → f' = updN f k v → va_P D vwCl (ws' f') H1 → va_D A (ws' f') → va_S A H0 H1 locs1 → W p l e R s m args below meth c H1 locs1 cells slots Q (F0 m (pc + 1) ls rest)) : W p l e R s m args below meth c H locs cells slots Q (F0 m pc ls (.int (nI v) :: .int (nI k) :: .ref a :: rest)) := by
  refine va_iast hexec hb hK.1 hP hD hS q0 t0 ha ht (vin k n hk hn) hdg (fun H1 locs1 h1 h2 h3 => ?_)
  rw [updN_fun f k v (by omega)] at h1 h2
  exact kk _ H1 locs1 (updN_le hf hv) rfl ((hw' _) ▸ h1) ((hw' _) ▸ h2) h3
end KxRows
theorem npos_le {k : Nat} (h : 1 ≤ k) (hk : k < 2147483648) : ¬ nI k ≤ 0 := fun q => by
  have h1 := (nle k 0 hk (by decide)).mp q
  omega
theorem kx_i2l {k : Nat} (h : k < 2147483648) : Int32.toInt64 (nI k) = Int64.ofNat k := by
  refine Int64.toInt_inj.mp ?_
  rw [Int32.toInt_toInt64, nI_toInt h, Int64.toInt_ofNat_of_lt (by omega)]
/-! bounds, parts, places: as the class does them -/
theorem kclip_a {x : Int64} (h : ¬ lg_cmp x 1000000 ≤ 0) : (1000000 : Int64) = kcClip x := by
  rw [lg_cmp_le] at h
  unfold kcClip
  rw [if_pos (Int64.not_le.mp h)]
theorem kclip_b {x : Int64} (h : lg_cmp x 1000000 ≤ 0) (h2 : ¬ 0 ≤ lg_cmp x (-1000000)) : (-1000000 : Int64) = kcClip x := by
  rw [lg_cmp_le] at h
  rw [lg_cmp_ge] at h2
  unfold kcClip
  rw [if_neg (Int64.not_lt.mpr h), if_pos (Int64.not_le.mp h2)]
theorem kclip_c {x : Int64} (h : lg_cmp x 1000000 ≤ 0) (h2 : 0 ≤ lg_cmp x (-1000000)) : x = kcClip x := by
  rw [lg_cmp_le] at h
  rw [lg_cmp_ge] at h2
  unfold kcClip
  rw [if_neg (Int64.not_lt.mpr h), if_neg (Int64.not_lt.mpr h2)]
theorem kx_xor (x y : Int64) : (0 ≤ lg_cmp (x ^^^ y) 0) ↔ (x < 0 ↔ y < 0) := by
  rw [lg_cmp_ge, Int64.le_iff_toInt_le, Int64.lt_iff_toInt_lt, Int64.lt_iff_toInt_lt]
  show (0 : Int) ≤ (x ^^^ y).toBitVec.toInt ↔ (x.toBitVec.toInt < 0 ↔ y.toBitVec.toInt < 0)
  rw [Int64.toBitVec_xor]
  have a := BitVec.msb_eq_toInt (x := x.toBitVec ^^^ y.toBitVec)
  have b := BitVec.msb_eq_toInt (x := x.toBitVec)
  have d := BitVec.msb_eq_toInt (x := y.toBitVec)
  rw [BitVec.msb_xor, b, d] at a
  by_cases h1 : x.toBitVec.toInt < 0
  · by_cases h2 : y.toBitVec.toInt < 0
    · rw [decide_eq_true h1, decide_eq_true h2] at a
      have h3 := of_decide_eq_false a.symm
      exact ⟨fun _ => ⟨fun _ => h2, fun _ => h1⟩, fun _ => by omega⟩
    · rw [decide_eq_true h1, decide_eq_false h2] at a
      have h3 := of_decide_eq_true a.symm
      exact ⟨fun q => absurd q (by omega), fun q => absurd (q.mp h1) h2⟩
  · by_cases h2 : y.toBitVec.toInt < 0
    · rw [decide_eq_false h1, decide_eq_true h2] at a
      have h3 := of_decide_eq_true a.symm
      exact ⟨fun q => absurd q (by omega), fun q => absurd (q.mpr h2) h1⟩
    · rw [decide_eq_false h1, decide_eq_false h2] at a
      have h3 := of_decide_eq_false a.symm
      exact ⟨fun _ => ⟨fun q => absurd q h1, fun q => absurd q h2⟩, fun _ => by omega⟩
theorem kx_sub0 (x z : Int64) : x - z = 0 ↔ z = x := by
  constructor
  · intro h
    have h1 : x - z + z = 0 + z := by rw [h]
    rw [Int64.sub_add_cancel, Int64.zero_add] at h1
    exact h1.symm
  · intro h
    rw [h, Int64.sub_self]
theorem kfl_0 {x y : Int64} (hy : y = 0) : (0 : Int64) = kcFl x y := by
  unfold kcFl; rw [if_pos hy]
theorem kfl_a {x y : Int64} (hy : ¬ y = 0) (h : ¬ 0 ≤ lg_cmp (x ^^^ y) 0) (h2 : ¬ lg_cmp (x / y * y) x = 0) : x / y - 1 = kcFl x y := by
  unfold kcFl
  rw [if_neg hy, if_pos ⟨fun q => h2 ((lg_cmp_eq _ _).mpr ((kx_sub0 _ _).mp q)), fun q => h ((kx_xor x y).mpr q)⟩]
theorem kfl_b {x y : Int64} (hy : ¬ y = 0) (h : 0 ≤ lg_cmp (x ^^^ y) 0) : x / y = kcFl x y := by
  unfold kcFl
  rw [if_neg hy, if_neg (fun q => q.2 ((kx_xor x y).mp h))]
theorem kfl_c {x y : Int64} (hy : ¬ y = 0) (h2 : lg_cmp (x / y * y) x = 0) : x / y = kcFl x y := by
  unfold kcFl
  rw [if_neg hy, if_neg (fun q => q.1 ((kx_sub0 _ _).mpr ((lg_cmp_eq _ _).mp h2)))]
/-- by ten -/
def kcTen (v : Int64) : Nat := (v.toInt % 10).toNat
theorem kcTen_lt (v : Int64) : kcTen v < 10 := by
  unfold kcTen; omega
theorem kten_a {x v : Int64} (hv : v = x - x / 10 * 10) (h : 0 ≤ lg_cmp (x ^^^ 10) 0) : v.toInt = ((kcTen x : Nat) : Int) := by
  have h1 := (lxor10 x).mp h
  rw [hv, lrem10]
  unfold kcTen
  rw [Int.tmod_eq_emod_of_nonneg h1]
  omega
theorem kten_b {x v : Int64} (hv : v = x - x / 10 * 10) (hn : lg_cmp v 0 = 0) : v.toInt = ((kcTen x : Nat) : Int) := by
  have h1 := (lg_cmp_eq _ _).mp hn
  have h2 : v.toInt = 0 := by rw [h1]; rfl
  have h3 : x.toInt.tmod 10 = 0 := by rw [← lrem10, ← hv]; exact h2
  have h4 := Int.dvd_of_tmod_eq_zero h3
  rw [h2]
  unfold kcTen
  omega
theorem kten_c {x v r : Int64} (hv : v = x - x / 10 * 10) (h : ¬ 0 ≤ lg_cmp (x ^^^ 10) 0) (hn : ¬ lg_cmp v 0 = 0) (hr : r = v + 10) : r.toInt = ((kcTen x : Nat) : Int) := by
  obtain ⟨h1, h2⟩ := fmt10b hv h
  have e10 : (10 : Int64).toInt = 10 := rfl
  have h3 : ¬ v.toInt = 0 := fun q => hn ((lg_cmp_eq _ _).mpr (Int64.toInt_inj.mp q))
  have h4 : v.toInt = x.toInt.tmod 10 := by rw [hv, lrem10]
  have h5 := Int.mul_tdiv_add_tmod x.toInt 10
  rw [hr, Jvm.Kit.i64_add (by rw [e10]; omega) (by rw [e10]; omega), e10]
  unfold kcTen
  omega
theorem kten_i {a : Int64} {k : Nat} (h : a.toInt = (k : Int)) (hk : k < 2147483648) : a.toInt32 = nI k := by
  refine Int32.toInt_inj.mp ?_
  rw [nI_toInt hk, Int64.toInt_toInt32, h]
  rw [Int.bmod_eq_of_le (by omega) (by omega)]
theorem kop_c {c k : Nat} (h : nI (29999 + c) = nI k) (hc : c ≤ 6) (hk : k < 2147483648) : 29999 + c = k := (neq _ _ (by omega) hk).mp h
theorem kop_f {c : Nat} (h1 : 1 ≤ c) (h6 : c ≤ 6) (g0 : ¬ nI (29999 + c) = 30000) (g1 : ¬ nI (29999 + c) = 30001) (g2 : ¬ nI (29999 + c) = 30002) (g3 : ¬ nI (29999 + c) = 30003) (g4 : ¬ nI (29999 + c) = 30004) (g5 : ¬ nI (29999 + c) = 30005) : False := by
  rcases (show c = 1 ∨ c = 2 ∨ c = 3 ∨ c = 4 ∨ c = 5 ∨ c = 6 by omega) with rfl | rfl | rfl | rfl | rfl | rfl
  · exact g0 rfl
  · exact g1 rfl
  · exact g2 rfl
  · exact g3 rfl
  · exact g4 rfl
  · exact g5 rfl
theorem kop_1 {c : Nat} {x y : Int64} (h : nI (29999 + c) = 30000) (hc : c ≤ 6) : kcClip (x + y) = kcOp c x y := by
  have := kop_c (k := 30000) h hc (by decide)
  obtain rfl : c = 1 := by omega
  unfold kcOp
  rw [if_pos rfl]
theorem kop_2 {c : Nat} {x y : Int64} (h : nI (29999 + c) = 30001) (hc : c ≤ 6) : kcClip (x - y) = kcOp c x y := by
  have := kop_c (k := 30001) h hc (by decide)
  obtain rfl : c = 2 := by omega
  unfold kcOp
  rw [if_neg (by decide), if_pos rfl]
theorem kop_3 {c : Nat} {x y : Int64} (h : nI (29999 + c) = 30002) (hc : c ≤ 6) : kcClip (x * y) = kcOp c x y := by
  have := kop_c (k := 30002) h hc (by decide)
  obtain rfl : c = 3 := by omega
  unfold kcOp
  rw [if_neg (by decide), if_neg (by decide), if_pos rfl]
theorem kop_4 {c : Nat} {x y z : Int64} (h : nI (29999 + c) = 30003) (hc : c ≤ 6) (hz : z = kcFl x y) : z = kcOp c x y := by
  have := kop_c (k := 30003) h hc (by decide)
  obtain rfl : c = 4 := by omega
  exact hz
theorem kop_5 {c : Nat} {x y : Int64} (h : nI (29999 + c) = 30004) (hc : c ≤ 6) : (if y < x then y else x) = kcOp c x y := by
  have := kop_c (k := 30004) h hc (by decide)
  obtain rfl : c = 5 := by omega
  rfl
theorem kmax_c (x y : Int64) : (if y < x then x else y) = if x < y then y else x := by
  by_cases h1 : y < x
  · rw [if_pos h1, if_neg (fun q => Int64.lt_irrefl (Int64.lt_trans h1 q))]
  · by_cases h2 : x < y
    · rw [if_neg h1, if_pos h2]
    · rw [if_neg h1, if_neg h2]
      exact Int64.le_antisymm (Int64.not_lt.mp h2) (Int64.not_lt.mp h1)
theorem kop_6 {c : Nat} {x y : Int64} (h : nI (29999 + c) = 30005) (hc : c ≤ 6) : (if y < x then x else y) = kcOp c x y := by
  have := kop_c (k := 30005) h hc (by decide)
  obtain rfl : c = 6 := by omega
  rw [kmax_c]
  rfl
theorem kop_x {c k : Nat} {P : Prop} (h : nI (29999 + c) = nI k) (hc : c ≤ 6) (hk : k < 2147483648) (h2 : 30006 ≤ k) : P := by
  have := kop_c h hc hk
  exact absurd h2 (by omega)
/-! the pile -/
def stkO (f : Nat → Int64) : List Int64 → Prop
  | [] => True
  | v :: S => f S.length = v ∧ stkO f S
theorem stkO_up {f : Nat → Int64} {k : Nat} {x : Int64} : ∀ S : List Int64, S.length ≤ k → stkO f S → stkO (vp_updL f k x) S
  | [], _, _ => True.intro
  | v :: S, hk, h => by
    rw [List.length_cons] at hk
    refine ⟨?_, stkO_up S (by omega) h.2⟩
    unfold vp_updL
    rw [if_neg (by omega)]
    exact h.1
theorem stk_push {f g : Nat → Int64} {S : List Int64} {k : Nat} {x y : Int64} (h : stkO f S) (hk : k = S.length) (hg : g = vp_updL f k x) (hx : x = y) : stkO g (y :: S) := by
  subst hg hx hk
  refine ⟨?_, stkO_up S (Nat.le_refl _) h⟩
  unfold vp_updL
  rw [if_pos rfl]
theorem stk_op {f g : Nat → Int64} {R : List Int64} {k : Nat} {a b x : Int64} (h : stkO f (b :: a :: R)) (hk : k = R.length) (hg : g = vp_updL f k x) : stkO g (x :: R) := stk_push h.2.2 hk hg rfl
theorem stk_b {f : Nat → Int64} {R : List Int64} {a b : Int64} {k : Nat} (h : stkO f (b :: a :: R)) (hk : k = R.length + 1) (h2 : k < 2147483648) : f (nI k).toNatClampNeg = b := by
  rw [nI_clamp h2, hk]; exact h.1
theorem stk_a {f : Nat → Int64} {R : List Int64} {a b : Int64} {k : Nat} (h : stkO f (b :: a :: R)) (hk : k = R.length) (h2 : k < 2147483648) : f (nI k).toNatClampNeg = a := by
  rw [nI_clamp h2, hk]; exact h.2.1
theorem kcSub_c {K : List Nat} {i b : Nat} (h : i < b) (hb : b ≤ K.length) : kcSub K (i, b) = K.getD i 0 :: kcSub K (i + 1, b) := by
  unfold kcSub
  show (K.drop i).take (b - i) = K.getD i 0 :: (K.drop (i + 1)).take (b - (i + 1))
  rw [List.drop_eq_getElem_cons (by omega), show b - i = (b - (i + 1)) + 1 by omega, List.take_succ_cons, List.getD_eq_getElem?_getD, List.getElem?_eq_getElem (show i < K.length by omega)]
  rfl
theorem kcSub_e {K : List Nat} {i b : Nat} (h : b ≤ i) : kcSub K (i, b) = [] := by
  unfold kcSub
  show (K.drop i).take (b - i) = []
  rw [show b - i = 0 by omega, List.take_zero]
/-- which kind of step it is -/
theorem kx_cls {kind c : Nat} (hk : kind < 2) (h : kcN1 kind c) : (1 ≤ c ∧ c ≤ 6 ∧ cm c = nI (29999 + c)) ∨ (1000 ≤ c ∧ c < 11000 ∧ cm c = nI (c - 1000)) ∨ (40 ≤ c ∧ c < 47 ∧ cm c = nI (9960 + c)) := by
  unfold cm
  rcases h with ⟨h1, h2⟩ | ⟨h1, h2⟩ | ⟨h1, h2, h3⟩
  · exact Or.inl ⟨h1, h2, by rw [if_neg (by omega), if_pos (by omega)]⟩
  · exact Or.inr (Or.inl ⟨h1, h2, by rw [if_pos h1]⟩)
  · have h4 : c < 47 := by
      unfold allow at h3
      rcases (show kind = 0 ∨ kind = 1 by omega) with rfl | rfl
      · rw [if_pos rfl, decide_eq_true_iff] at h3; omega
      · rw [if_neg (by decide), if_pos rfl, decide_eq_true_iff] at h3; omega
    exact Or.inr (Or.inr ⟨h1, h4, by rw [if_neg (by omega), if_neg (by omega), if_neg (by omega), if_neg (by omega), if_neg (by omega), if_neg (by omega), if_neg (by omega), if_neg (by omega)]⟩)
theorem kx_neg {k : Nat} (h : k < 10000) : nI k - 10000 < 0 := by
  rw [Int32.lt_iff_toInt_lt]
  have e : (10000 : Int32).toInt = 10000 := rfl
  have e0 : (0 : Int32).toInt = 0 := rfl
  rw [Jvm.Kit.i32_sub (by rw [nI_toInt (by omega), e]; omega) (by rw [nI_toInt (by omega), e]; omega), nI_toInt (by omega), e, e0]
  omega
theorem kx_end {nm : Nat → Int64} {K : List Nat} {i b : Nat} {S : List Int64} {v : Int64} (h : kcEx nm 64 (kcSub K (i, b)) S = some [v]) (hi : b ≤ i) : S = [v] := by
  rw [kcSub_e hi] at h
  exact Option.some.inj (show some S = some [v] from h)
set_option maxHeartbeats 4000000 in
set_option maxRecDepth 100000 in
theorem c_kbounded (l : Launch) (D : va_G) (cI cJ cC cZ cS : ClassId) (x : Int64)  : skM l yX0_bounded cX0_bounded 2 (some .long) 0 0 0 0 D (skT cI cJ cC cZ cS) [.long x] [] (skL D (skT cI cJ cC cZ cS) (fun (r : Int64) (u : va_W) => r = kcClip x ∧ u = [])) := by
  refine skM_of pf_X0_bounded (Nat.le_of_ble_eq_true rfl) ?_
  intro p e s m below meth c A ls E hP hD hl
  refine skE_el E (fun hx hb hr hml hlocks hin hown hts hK hA => ?_)
  have hown : s.vm.findClass RX0 = some m.cls := hown
  have hS : va_S A s.heap s.heap [] := va_S.rf
  have hl : lv_has ls 2 [(0, .long x)] := hl
  refine lv_lload_n hx hb dX0_bounded_0 rfl (lv_at hl 0 rfl) ?_
  refine lv_ldc2 (v := 1000000) hx hb hown (hts _ w_3_231) dX0_bounded_1 ?_
  refine W.lcmp hx hb dX0_bounded_4 ?_
  refine lv_if_le (tgt := 12) hx hb dX0_bounded_5 (by decide) (fun c_1 => ?_) (fun c_1 => ?_)
  · skip
    refine lv_lload_n hx hb dX0_bounded_12 rfl (lv_at hl 0 rfl) ?_
    refine lv_ldc2 (v := (-1000000)) hx hb hown (hts _ w_3_232) dX0_bounded_13 ?_
    refine W.lcmp hx hb dX0_bounded_16 ?_
    refine lv_if_ge (tgt := 26) hx hb dX0_bounded_17 (by decide) (fun c_2 => ?_) (fun c_2 => ?_)
    · skip
      refine lv_lload_n hx hb dX0_bounded_26 rfl (lv_at hl 0 rfl) ?_
      exact sk_lret hx hb hr hlocks hK hP hD hS (⟨kclip_c c_1 c_2, rfl⟩) (Nat.le_of_ble_eq_true rfl) (Nat.le_of_ble_eq_true rfl) dX0_bounded_27
    · skip
      refine lv_ldc2 (v := (-1000000)) hx hb hown (hts _ w_3_232) dX0_bounded_20 ?_
      refine lv_goto (tgt := 27) hx hb dX0_bounded_23 (by decide) ?_
      exact sk_lret hx hb hr hlocks hK hP hD hS (⟨kclip_b c_1 c_2, rfl⟩) (Nat.le_of_ble_eq_true rfl) (Nat.le_of_ble_eq_true rfl) dX0_bounded_27
  · skip
    refine lv_ldc2 (v := 1000000) hx hb hown (hts _ w_3_231) dX0_bounded_8 ?_
    exact sk_lret hx hb hr hlocks hK hP hD hS (⟨kclip_a c_1, rfl⟩) (Nat.le_of_ble_eq_true rfl) (Nat.le_of_ble_eq_true rfl) dX0_bounded_11
set_option maxHeartbeats 4000000 in
set_option maxRecDepth 100000 in
theorem c_kfloorDiv (l : Launch) (D : va_G) (cI cJ cC cZ cS : ClassId) (x : Int64) (y : Int64) (hy : ¬ y = 0) : skM l yJ9_floorDiv_f86c9 cJ9_floorDiv_f86c9 6 (some .long) 0 0 0 0 D (skT cI cJ cC cZ cS) [.long x, .long y] [] (skL D (skT cI cJ cC cZ cS) (fun (r : Int64) (u : va_W) => r = kcFl x y ∧ u = [])) := by
  refine skM_of pf_J9_floorDiv_f86c9 (Nat.le_of_ble_eq_true rfl) ?_
  intro p e s m below meth c A ls E hP hD hl
  refine skE_el E (fun hx hb hr hml hlocks hin hown hts hK hA => ?_)
  have hown : s.vm.findClass RJ9 = some m.cls := hown
  have hS : va_S A s.heap s.heap [] := va_S.rf
  have hl : lv_has ls 6 [(0, .long x), (2, .long y)] := hl
  refine lv_lload_n hx hb dJ9_floorDiv_f86c9_0 rfl (lv_at hl 0 rfl) ?_
  refine lv_lload_n hx hb dJ9_floorDiv_f86c9_1 rfl (lv_at hl 1 rfl) ?_
  refine lv_ldiv hx hb dJ9_floorDiv_f86c9_2 hy ?_
  refine lv_lstore (lv' := [(4, .long (x / y)), (0, .long x), (2, .long y)]) hx hb dJ9_floorDiv_f86c9_3 hl (by decide) rfl (fun ls hl => ?_)
  refine lv_lload_n hx hb dJ9_floorDiv_f86c9_5 rfl (lv_at hl 1 rfl) ?_
  refine lv_lload_n hx hb dJ9_floorDiv_f86c9_6 rfl (lv_at hl 2 rfl) ?_
  refine lv_lxor hx hb dJ9_floorDiv_f86c9_7 ?_
  refine lv_lconst (v := 0) hx hb dJ9_floorDiv_f86c9_8 (by decide) ?_
  refine W.lcmp hx hb dJ9_floorDiv_f86c9_9 ?_
  refine lv_if_ge (tgt := 27) hx hb dJ9_floorDiv_f86c9_10 (by decide) (fun c_1 => ?_) (fun c_1 => ?_)
  · skip
    refine lv_lload hx hb dJ9_floorDiv_f86c9_27 (lv_at hl 0 rfl) ?_
    exact sk_lret hx hb hr hlocks hK hP hD hS (⟨kfl_b hy c_1, rfl⟩) (Nat.le_of_ble_eq_true rfl) (Nat.le_of_ble_eq_true rfl) dJ9_floorDiv_f86c9_29
  · skip
    refine lv_lload hx hb dJ9_floorDiv_f86c9_13 (lv_at hl 0 rfl) ?_
    refine lv_lload_n hx hb dJ9_floorDiv_f86c9_15 rfl (lv_at hl 2 rfl) ?_
    refine lv_lmul hx hb dJ9_floorDiv_f86c9_16 ?_
    refine lv_lload_n hx hb dJ9_floorDiv_f86c9_17 rfl (lv_at hl 1 rfl) ?_
    refine W.lcmp hx hb dJ9_floorDiv_f86c9_18 ?_
    refine lv_if_eq (tgt := 27) hx hb dJ9_floorDiv_f86c9_19 (by decide) (fun c_2 => ?_) (fun c_2 => ?_)
    · skip
      refine lv_lload hx hb dJ9_floorDiv_f86c9_27 (lv_at hl 0 rfl) ?_
      exact sk_lret hx hb hr hlocks hK hP hD hS (⟨kfl_c hy c_2, rfl⟩) (Nat.le_of_ble_eq_true rfl) (Nat.le_of_ble_eq_true rfl) dJ9_floorDiv_f86c9_29
    · skip
      refine lv_lload hx hb dJ9_floorDiv_f86c9_22 (lv_at hl 0 rfl) ?_
      refine lv_lconst (v := 1) hx hb dJ9_floorDiv_f86c9_24 (by decide) ?_
      refine lv_lsub hx hb dJ9_floorDiv_f86c9_25 ?_
      exact sk_lret hx hb hr hlocks hK hP hD hS (⟨kfl_a hy c_1 c_2, rfl⟩) (Nat.le_of_ble_eq_true rfl) (Nat.le_of_ble_eq_true rfl) dJ9_floorDiv_f86c9_26
set_option maxHeartbeats 4000000 in
set_option maxRecDepth 100000 in
theorem c_kfloorModL (l : Launch) (D : va_G) (cI cJ cC cZ cS : ClassId) (x : Int64)  : skM l yJ9_floorMod_f86c9 cJ9_floorMod_f86c9 6 (some .long) 0 0 0 0 D (skT cI cJ cC cZ cS) [.long x, .long 10] [] (skL D (skT cI cJ cC cZ cS) (fun (r : Int64) (u : va_W) => r.toInt = ((kcTen x : Nat) : Int) ∧ u = [])) := by
  refine skM_of pf_J9_floorMod_f86c9 (Nat.le_of_ble_eq_true rfl) ?_
  intro p e s m below meth c A ls E hP hD hl
  refine skE_el E (fun hx hb hr hml hlocks hin hown hts hK hA => ?_)
  have hown : s.vm.findClass RJ9 = some m.cls := hown
  have hS : va_S A s.heap s.heap [] := va_S.rf
  have hl : lv_has ls 6 [(0, .long x), (2, .long 10)] := hl
  refine lv_lload_n hx hb dJ9_floorMod_f86c9_0 rfl (lv_at hl 0 rfl) ?_
  refine lv_lload_n hx hb dJ9_floorMod_f86c9_1 rfl (lv_at hl 1 rfl) ?_
  refine lv_lrem hx hb dJ9_floorMod_f86c9_2 (by decide) ?_
  refine lv_topl (fun v_1 ev_1 => ?_)
  refine lv_lstore (lv' := [(4, .long v_1), (0, .long x), (2, .long 10)]) hx hb dJ9_floorMod_f86c9_3 hl (by decide) rfl (fun ls hl => ?_)
  refine lv_lload_n hx hb dJ9_floorMod_f86c9_5 rfl (lv_at hl 1 rfl) ?_
  refine lv_lload_n hx hb dJ9_floorMod_f86c9_6 rfl (lv_at hl 2 rfl) ?_
  refine lv_lxor hx hb dJ9_floorMod_f86c9_7 ?_
  refine lv_lconst (v := 0) hx hb dJ9_floorMod_f86c9_8 (by decide) ?_
  refine W.lcmp hx hb dJ9_floorMod_f86c9_9 ?_
  refine lv_if_ge (tgt := 25) hx hb dJ9_floorMod_f86c9_10 (by decide) (fun c_2 => ?_) (fun c_2 => ?_)
  · skip
    refine lv_lload hx hb dJ9_floorMod_f86c9_25 (lv_at hl 0 rfl) ?_
    exact sk_lret hx hb hr hlocks hK hP hD hS (⟨kten_a ev_1 c_2, rfl⟩) (Nat.le_of_ble_eq_true rfl) (Nat.le_of_ble_eq_true rfl) dJ9_floorMod_f86c9_27
  · skip
    refine lv_lload hx hb dJ9_floorMod_f86c9_13 (lv_at hl 0 rfl) ?_
    refine lv_lconst (v := 0) hx hb dJ9_floorMod_f86c9_15 (by decide) ?_
    refine W.lcmp hx hb dJ9_floorMod_f86c9_16 ?_
    refine lv_if_eq (tgt := 25) hx hb dJ9_floorMod_f86c9_17 (by decide) (fun c_3 => ?_) (fun c_3 => ?_)
    · skip
      refine lv_lload hx hb dJ9_floorMod_f86c9_25 (lv_at hl 0 rfl) ?_
      exact sk_lret hx hb hr hlocks hK hP hD hS (⟨kten_b ev_1 c_3, rfl⟩) (Nat.le_of_ble_eq_true rfl) (Nat.le_of_ble_eq_true rfl) dJ9_floorMod_f86c9_27
    · skip
      refine lv_lload hx hb dJ9_floorMod_f86c9_20 (lv_at hl 0 rfl) ?_
      refine lv_lload_n hx hb dJ9_floorMod_f86c9_22 rfl (lv_at hl 2 rfl) ?_
      refine lv_ladd hx hb dJ9_floorMod_f86c9_23 ?_
      refine lv_topl (fun v_4 ev_4 => ?_)
      exact sk_lret hx hb hr hlocks hK hP hD hS (⟨kten_c ev_1 c_2 c_3 ev_4, rfl⟩) (Nat.le_of_ble_eq_true rfl) (Nat.le_of_ble_eq_true rfl) dJ9_floorMod_f86c9_24
set_option maxHeartbeats 4000000 in
set_option maxRecDepth 100000 in
theorem c_kfloorMod (l : Launch) (D : va_G) (cI cJ cC cZ cS : ClassId) (x : Int64)  : skM l yJ9_floorMod_1978a cJ9_floorMod_1978a 3 (some .int) 1 25 0 0 D (skT cI cJ cC cZ cS) [.long x, .int 10] [] (skI D (skT cI cJ cC cZ cS) (fun (r : Int32) (u : va_W) => r = nI (kcTen x) ∧ u = [])) := by
  refine skM_of pf_J9_floorMod_1978a (Nat.le_of_ble_eq_true rfl) ?_
  intro p e s m below meth c A ls E hP hD hl
  refine skE_el E (fun hx hb hr hml hlocks hin hown hts hK hA => ?_)
  have hown : s.vm.findClass RJ9 = some m.cls := hown
  have hS : va_S A s.heap s.heap [] := va_S.rf
  have hl : lv_has ls 3 [(0, .long x), (2, .int 10)] := hl
  refine lv_lload_n hx hb dJ9_floorMod_1978a_0 rfl (lv_at hl 0 rfl) ?_
  refine lv_iload_n hx hb dJ9_floorMod_1978a_1 rfl (lv_at hl 1 rfl) ?_
  refine lv_i2l (v := 10) hx hb dJ9_floorMod_1978a_2 (by decide) ?_
  refine sk_Sl (n := 2) (rest := []) (wr := []) ⟨hx, hb, hml, hown, hts⟩ hl.1 (c_kfloorModL l D cI cJ cC cZ cS x) w_4_10 w_4_11 w_1_3 w_4_12 hd_J9_floorMod_f86c9_2 ⟨⟨(Nat.le_of_ble_eq_true rfl), (Nat.le_of_ble_eq_true rfl)⟩, (Nat.le_of_ble_eq_true rfl), (Nat.le_of_ble_eq_true rfl)⟩ hK hP hD hS hA [] [] rfl rfl (by decide +kernel) (by decide +kernel) (by decide +kernel) rfl rfl (Nat.le_of_ble_eq_true rfl) dJ9_floorMod_1978a_3 (fun r_1 u H locs hw hP hD hS => ?_)
  obtain ⟨hr_2, rfl⟩ := hw
  refine o_re (ws' := []) hP hD rfl (fun hP hD => ?_)
  refine lv_l2i hx hb dJ9_floorMod_1978a_6 rfl ?_
  have ht := kcTen_lt x
  refine sk_top (nI (kcTen x)) (kten_i hr_2 (by omega)) ?_
  exact sk_iret hx hb hr rfl hlocks hK hP hD hS (⟨rfl, rfl⟩) (Nat.le_of_ble_eq_true rfl) (Nat.le_of_ble_eq_true rfl) dJ9_floorMod_1978a_7
set_option maxHeartbeats 4000000 in
set_option maxRecDepth 100000 in
theorem c_kofTwo (l : Launch) (D : va_G) (cI cJ cC cZ cS : ClassId) (oc : Nat) (x : Int64) (y : Int64) (hc1 : 1 ≤ oc) (hc6 : oc ≤ 6) : skM l yX0_ofTwo cX0_ofTwo 5 (some .long) 1 25 0 0 D (skT cI cJ cC cZ cS) [.int (nI (29999 + oc)), .long x, .long y] [] (skL D (skT cI cJ cC cZ cS) (fun (r : Int64) (u : va_W) => r = kcOp oc x y ∧ u = [])) := by
  refine skM_of pf_X0_ofTwo (Nat.le_of_ble_eq_true rfl) ?_
  intro p e s m below meth c A ls E hP hD hl
  refine skE_el E (fun hx hb hr hml hlocks hin hown hts hK hA => ?_)
  have hown : s.vm.findClass RX0 = some m.cls := hown
  have hS : va_S A s.heap s.heap [] := va_S.rf
  have hl : lv_has ls 5 [(0, .int (nI (29999 + oc))), (1, .long x), (3, .long y)] := hl
  refine lv_iload_n hx hb dX0_ofTwo_0 rfl (lv_at hl 0 rfl) ?_
  by_cases g_1 : nI (29999 + oc) = 30000
  · refine lv_tableIn (off := 55) (tgt := 56) hx hb dX0_ofTwo_1 (by rw [g_1]; decide) (by rw [g_1]; decide) (by rw [g_1]; rfl) (by decide) ?_
    refine lv_lload_n hx hb dX0_ofTwo_56 rfl (lv_at hl 1 rfl) ?_
    refine lv_lload_n hx hb dX0_ofTwo_57 rfl (lv_at hl 2 rfl) ?_
    refine lv_ladd hx hb dX0_ofTwo_58 ?_
    refine sk_Sl (n := 1) (rest := []) (wr := []) ⟨hx, hb, hml, hown, hts⟩ hl.1 (c_kbounded l D cI cJ cC cZ cS (x + y)) w_3_228 w_3_229 w_1_8 w_3_230 hd_X0_bounded_1 ⟨⟨(Nat.le_of_ble_eq_true rfl), (Nat.le_of_ble_eq_true rfl)⟩, (Nat.le_of_ble_eq_true rfl), (Nat.le_of_ble_eq_true rfl)⟩ hK hP hD hS hA [] [] rfl rfl (by decide +kernel) (by decide +kernel) (by decide +kernel) rfl rfl (Nat.le_of_ble_eq_true rfl) dX0_ofTwo_59 (fun r_2 u H locs hw hP hD hS => ?_)
    obtain ⟨hr_3, rfl⟩ := hw
    refine o_re (ws' := []) hP hD rfl (fun hP hD => ?_)
    subst hr_3
    exact sk_lret hx hb hr hlocks hK hP hD hS (⟨kop_1 g_1 hc6, rfl⟩) (Nat.le_of_ble_eq_true rfl) (Nat.le_of_ble_eq_true rfl) dX0_ofTwo_62
  by_cases g_4 : nI (29999 + oc) = 30001
  · refine lv_tableIn (off := 62) (tgt := 63) hx hb dX0_ofTwo_1 (by rw [g_4]; decide) (by rw [g_4]; decide) (by rw [g_4]; rfl) (by decide) ?_
    refine lv_lload_n hx hb dX0_ofTwo_63 rfl (lv_at hl 1 rfl) ?_
    refine lv_lload_n hx hb dX0_ofTwo_64 rfl (lv_at hl 2 rfl) ?_
    refine lv_lsub hx hb dX0_ofTwo_65 ?_
    refine sk_Sl (n := 1) (rest := []) (wr := []) ⟨hx, hb, hml, hown, hts⟩ hl.1 (c_kbounded l D cI cJ cC cZ cS (x - y)) w_3_228 w_3_229 w_1_8 w_3_230 hd_X0_bounded_1 ⟨⟨(Nat.le_of_ble_eq_true rfl), (Nat.le_of_ble_eq_true rfl)⟩, (Nat.le_of_ble_eq_true rfl), (Nat.le_of_ble_eq_true rfl)⟩ hK hP hD hS hA [] [] rfl rfl (by decide +kernel) (by decide +kernel) (by decide +kernel) rfl rfl (Nat.le_of_ble_eq_true rfl) dX0_ofTwo_66 (fun r_5 u H locs hw hP hD hS => ?_)
    obtain ⟨hr_6, rfl⟩ := hw
    refine o_re (ws' := []) hP hD rfl (fun hP hD => ?_)
    subst hr_6
    exact sk_lret hx hb hr hlocks hK hP hD hS (⟨kop_2 g_4 hc6, rfl⟩) (Nat.le_of_ble_eq_true rfl) (Nat.le_of_ble_eq_true rfl) dX0_ofTwo_69
  by_cases g_7 : nI (29999 + oc) = 30002
  · refine lv_tableIn (off := 69) (tgt := 70) hx hb dX0_ofTwo_1 (by rw [g_7]; decide) (by rw [g_7]; decide) (by rw [g_7]; rfl) (by decide) ?_
    refine lv_lload_n hx hb dX0_ofTwo_70 rfl (lv_at hl 1 rfl) ?_
    refine lv_lload_n hx hb dX0_ofTwo_71 rfl (lv_at hl 2 rfl) ?_
    refine lv_lmul hx hb dX0_ofTwo_72 ?_
    refine sk_Sl (n := 1) (rest := []) (wr := []) ⟨hx, hb, hml, hown, hts⟩ hl.1 (c_kbounded l D cI cJ cC cZ cS (x * y)) w_3_228 w_3_229 w_1_8 w_3_230 hd_X0_bounded_1 ⟨⟨(Nat.le_of_ble_eq_true rfl), (Nat.le_of_ble_eq_true rfl)⟩, (Nat.le_of_ble_eq_true rfl), (Nat.le_of_ble_eq_true rfl)⟩ hK hP hD hS hA [] [] rfl rfl (by decide +kernel) (by decide +kernel) (by decide +kernel) rfl rfl (Nat.le_of_ble_eq_true rfl) dX0_ofTwo_73 (fun r_8 u H locs hw hP hD hS => ?_)
    obtain ⟨hr_9, rfl⟩ := hw
    refine o_re (ws' := []) hP hD rfl (fun hP hD => ?_)
    subst hr_9
    exact sk_lret hx hb hr hlocks hK hP hD hS (⟨kop_3 g_7 hc6, rfl⟩) (Nat.le_of_ble_eq_true rfl) (Nat.le_of_ble_eq_true rfl) dX0_ofTwo_76
  by_cases g_10 : nI (29999 + oc) = 30003
  · refine lv_tableIn (off := 76) (tgt := 77) hx hb dX0_ofTwo_1 (by rw [g_10]; decide) (by rw [g_10]; decide) (by rw [g_10]; rfl) (by decide) ?_
    refine lv_lload_n hx hb dX0_ofTwo_77 rfl (lv_at hl 2 rfl) ?_
    refine lv_lconst (v := 0) hx hb dX0_ofTwo_78 (by decide) ?_
    refine W.lcmp hx hb dX0_ofTwo_79 ?_
    refine lv_if_ne (tgt := 87) hx hb dX0_ofTwo_80 (by decide) (fun c_11 => ?_) (fun c_11 => ?_)
    · skip
      refine lv_lload_n hx hb dX0_ofTwo_87 rfl (lv_at hl 1 rfl) ?_
      refine lv_lload_n hx hb dX0_ofTwo_88 rfl (lv_at hl 2 rfl) ?_
      refine sk_Sl (n := 2) (rest := []) (wr := []) ⟨hx, hb, hml, hown, hts⟩ hl.1 (c_kfloorDiv l D cI cJ cC cZ cS x y (lg_ne0 c_11)) w_3_233 w_3_234 w_1_3 w_3_235 hd_J9_floorDiv_f86c9_2 ⟨⟨(Nat.le_of_ble_eq_true rfl), (Nat.le_of_ble_eq_true rfl)⟩, (Nat.le_of_ble_eq_true rfl), (Nat.le_of_ble_eq_true rfl)⟩ hK hP hD hS hA [] [] rfl rfl (by decide +kernel) (by decide +kernel) (by decide +kernel) rfl rfl (Nat.le_of_ble_eq_true rfl) dX0_ofTwo_89 (fun r_12 u H locs hw hP hD hS => ?_)
      obtain ⟨hr_13, rfl⟩ := hw
      refine o_re (ws' := []) hP hD rfl (fun hP hD => ?_)
      subst hr_13
      exact sk_lret hx hb hr hlocks hK hP hD hS (⟨kop_4 g_10 hc6 rfl, rfl⟩) (Nat.le_of_ble_eq_true rfl) (Nat.le_of_ble_eq_true rfl) dX0_ofTwo_92
    · skip
      refine lv_lconst (v := 0) hx hb dX0_ofTwo_83 (by decide) ?_
      refine lv_goto (tgt := 92) hx hb dX0_ofTwo_84 (by decide) ?_
      exact sk_lret hx hb hr hlocks hK hP hD hS (⟨kop_4 g_10 hc6 (kfl_0 ((lg_cmp_eq _ _).mp c_11)), rfl⟩) (Nat.le_of_ble_eq_true rfl) (Nat.le_of_ble_eq_true rfl) dX0_ofTwo_92
  by_cases g_14 : nI (29999 + oc) = 30004
  · refine lv_tableIn (off := 92) (tgt := 93) hx hb dX0_ofTwo_1 (by rw [g_14]; decide) (by rw [g_14]; decide) (by rw [g_14]; rfl) (by decide) ?_
    refine lv_lload_n hx hb dX0_ofTwo_93 rfl (lv_at hl 1 rfl) ?_
    refine lv_lload_n hx hb dX0_ofTwo_94 rfl (lv_at hl 2 rfl) ?_
    refine va_mmin_long hx hb (by rw [hml]; exact hl.1.symm) hown (hts _ w_3_236) (hts _ w_3_237) (hts _ w_1_3) (hts _ w_3_238) (Nat.le_of_ble_eq_true rfl) (Nat.le_of_ble_eq_true rfl) (Nat.le_of_ble_eq_true rfl) (Nat.le_of_ble_eq_true rfl) dX0_ofTwo_95 ?_
    refine lv_topl (fun v_15 ev_15 => ?_)
    exact sk_lret hx hb hr hlocks hK hP hD hS (⟨ev_15.trans (kop_5 g_14 hc6), rfl⟩) (Nat.le_of_ble_eq_true rfl) (Nat.le_of_ble_eq_true rfl) dX0_ofTwo_98
  by_cases g_16 : nI (29999 + oc) = 30005
  · refine lv_tableIn (off := 98) (tgt := 99) hx hb dX0_ofTwo_1 (by rw [g_16]; decide) (by rw [g_16]; decide) (by rw [g_16]; rfl) (by decide) ?_
    refine lv_lload_n hx hb dX0_ofTwo_99 rfl (lv_at hl 1 rfl) ?_
    refine lv_lload_n hx hb dX0_ofTwo_100 rfl (lv_at hl 2 rfl) ?_
    refine va_mmax_long hx hb (by rw [hml]; exact hl.1.symm) hown (hts _ w_3_239) (hts _ w_4_0) (hts _ w_1_3) (hts _ w_4_1) (Nat.le_of_ble_eq_true rfl) (Nat.le_of_ble_eq_true rfl) (Nat.le_of_ble_eq_true rfl) (Nat.le_of_ble_eq_true rfl) dX0_ofTwo_101 ?_
    refine lv_topl (fun v_17 ev_17 => ?_)
    exact sk_lret hx hb hr hlocks hK hP hD hS (⟨ev_17.trans (kop_6 g_16 hc6), rfl⟩) (Nat.le_of_ble_eq_true rfl) (Nat.le_of_ble_eq_true rfl) dX0_ofTwo_104
  by_cases g_18 : nI (29999 + oc) = 30006
  · refine lv_tableIn (off := 104) (tgt := 105) hx hb dX0_ofTwo_1 (by rw [g_18]; decide) (by rw [g_18]; decide) (by rw [g_18]; rfl) (by decide) ?_
    refine lv_lload_n hx hb dX0_ofTwo_105 rfl (lv_at hl 1 rfl) ?_
    refine lv_lload_n hx hb dX0_ofTwo_106 rfl (lv_at hl 2 rfl) ?_
    refine W.lcmp hx hb dX0_ofTwo_107 ?_
    refine lv_if_ge (tgt := 115) hx hb dX0_ofTwo_108 (by decide) (fun c_19 => ?_) (fun c_19 => ?_)
    · skip
      refine lv_lconst (v := 0) hx hb dX0_ofTwo_115 (by decide) ?_
      exact sk_lret hx hb hr hlocks hK hP hD hS (⟨kop_x (k := 30006) g_18 hc6 (by decide) (by decide), rfl⟩) (Nat.le_of_ble_eq_true rfl) (Nat.le_of_ble_eq_true rfl) dX0_ofTwo_116
    · skip
      refine lv_lconst (v := 1) hx hb dX0_ofTwo_111 (by decide) ?_
      refine lv_goto (tgt := 116) hx hb dX0_ofTwo_112 (by decide) ?_
      exact sk_lret hx hb hr hlocks hK hP hD hS (⟨kop_x (k := 30006) g_18 hc6 (by decide) (by decide), rfl⟩) (Nat.le_of_ble_eq_true rfl) (Nat.le_of_ble_eq_true rfl) dX0_ofTwo_116
  by_cases g_20 : nI (29999 + oc) = 30007
  · refine lv_tableIn (off := 116) (tgt := 117) hx hb dX0_ofTwo_1 (by rw [g_20]; decide) (by rw [g_20]; decide) (by rw [g_20]; rfl) (by decide) ?_
    refine lv_lload_n hx hb dX0_ofTwo_117 rfl (lv_at hl 1 rfl) ?_
    refine lv_lload_n hx hb dX0_ofTwo_118 rfl (lv_at hl 2 rfl) ?_
    refine W.lcmp hx hb dX0_ofTwo_119 ?_
    refine lv_if_le (tgt := 127) hx hb dX0_ofTwo_120 (by decide) (fun c_21 => ?_) (fun c_21 => ?_)
    · skip
      refine lv_lconst (v := 0) hx hb dX0_ofTwo_127 (by decide) ?_
      exact sk_lret hx hb hr hlocks hK hP hD hS (⟨kop_x (k := 30007) g_20 hc6 (by decide) (by decide), rfl⟩) (Nat.le_of_ble_eq_true rfl) (Nat.le_of_ble_eq_true rfl) dX0_ofTwo_128
    · skip
      refine lv_lconst (v := 1) hx hb dX0_ofTwo_123 (by decide) ?_
      refine lv_goto (tgt := 128) hx hb dX0_ofTwo_124 (by decide) ?_
      exact sk_lret hx hb hr hlocks hK hP hD hS (⟨kop_x (k := 30007) g_20 hc6 (by decide) (by decide), rfl⟩) (Nat.le_of_ble_eq_true rfl) (Nat.le_of_ble_eq_true rfl) dX0_ofTwo_128
  by_cases g_22 : nI (29999 + oc) = 30008
  · refine lv_tableIn (off := 128) (tgt := 129) hx hb dX0_ofTwo_1 (by rw [g_22]; decide) (by rw [g_22]; decide) (by rw [g_22]; rfl) (by decide) ?_
    refine lv_lload_n hx hb dX0_ofTwo_129 rfl (lv_at hl 1 rfl) ?_
    refine lv_lload_n hx hb dX0_ofTwo_130 rfl (lv_at hl 2 rfl) ?_
    refine W.lcmp hx hb dX0_ofTwo_131 ?_
    refine lv_if_ne (tgt := 139) hx hb dX0_ofTwo_132 (by decide) (fun c_23 => ?_) (fun c_23 => ?_)
    · skip
      refine lv_lconst (v := 0) hx hb dX0_ofTwo_139 (by decide) ?_
      exact sk_lret hx hb hr hlocks hK hP hD hS (⟨kop_x (k := 30008) g_22 hc6 (by decide) (by decide), rfl⟩) (Nat.le_of_ble_eq_true rfl) (Nat.le_of_ble_eq_true rfl) dX0_ofTwo_140
    · skip
      refine lv_lconst (v := 1) hx hb dX0_ofTwo_135 (by decide) ?_
      refine lv_goto (tgt := 140) hx hb dX0_ofTwo_136 (by decide) ?_
      exact sk_lret hx hb hr hlocks hK hP hD hS (⟨kop_x (k := 30008) g_22 hc6 (by decide) (by decide), rfl⟩) (Nat.le_of_ble_eq_true rfl) (Nat.le_of_ble_eq_true rfl) dX0_ofTwo_140
  by_cases g_24 : nI (29999 + oc) = 30009
  · refine lv_tableIn (off := 140) (tgt := 141) hx hb dX0_ofTwo_1 (by rw [g_24]; decide) (by rw [g_24]; decide) (by rw [g_24]; rfl) (by decide) ?_
    refine lv_lload_n hx hb dX0_ofTwo_141 rfl (lv_at hl 1 rfl) ?_
    refine lv_lconst (v := 0) hx hb dX0_ofTwo_142 (by decide) ?_
    refine W.lcmp hx hb dX0_ofTwo_143 ?_
    refine lv_if_eq (tgt := 157) hx hb dX0_ofTwo_144 (by decide) (fun c_25 => ?_) (fun c_25 => ?_)
    · skip
      refine lv_lconst (v := 0) hx hb dX0_ofTwo_157 (by decide) ?_
      exact sk_lret hx hb hr hlocks hK hP hD hS (⟨kop_x (k := 30009) g_24 hc6 (by decide) (by decide), rfl⟩) (Nat.le_of_ble_eq_true rfl) (Nat.le_of_ble_eq_true rfl) dX0_ofTwo_158
    · skip
      refine lv_lload_n hx hb dX0_ofTwo_147 rfl (lv_at hl 2 rfl) ?_
      refine lv_lconst (v := 0) hx hb dX0_ofTwo_148 (by decide) ?_
      refine W.lcmp hx hb dX0_ofTwo_149 ?_
      refine lv_if_eq (tgt := 157) hx hb dX0_ofTwo_150 (by decide) (fun c_26 => ?_) (fun c_26 => ?_)
      · skip
        refine lv_lconst (v := 0) hx hb dX0_ofTwo_157 (by decide) ?_
        exact sk_lret hx hb hr hlocks hK hP hD hS (⟨kop_x (k := 30009) g_24 hc6 (by decide) (by decide), rfl⟩) (Nat.le_of_ble_eq_true rfl) (Nat.le_of_ble_eq_true rfl) dX0_ofTwo_158
      · skip
        refine lv_lconst (v := 1) hx hb dX0_ofTwo_153 (by decide) ?_
        refine lv_goto (tgt := 158) hx hb dX0_ofTwo_154 (by decide) ?_
        exact sk_lret hx hb hr hlocks hK hP hD hS (⟨kop_x (k := 30009) g_24 hc6 (by decide) (by decide), rfl⟩) (Nat.le_of_ble_eq_true rfl) (Nat.le_of_ble_eq_true rfl) dX0_ofTwo_158
  refine lv_tableOut (tgt := 159) hx hb dX0_ofTwo_1 (sk_out2 30000 30009 (by intro k hk1 hk2; rcases (show k = 30000 ∨ k = 30001 ∨ k = 30002 ∨ k = 30003 ∨ k = 30004 ∨ k = 30005 ∨ k = 30006 ∨ k = 30007 ∨ k = 30008 ∨ k = 30009 by omega) with rfl | rfl | rfl | rfl | rfl | rfl | rfl | rfl | rfl | rfl <;> assumption)) (by decide) ?_
  refine lv_lload_n hx hb dX0_ofTwo_159 rfl (lv_at hl 1 rfl) ?_
  refine lv_lconst (v := 0) hx hb dX0_ofTwo_160 (by decide) ?_
  refine W.lcmp hx hb dX0_ofTwo_161 ?_
  refine lv_if_ne (tgt := 171) hx hb dX0_ofTwo_162 (by decide) (fun c_27 => ?_) (fun c_27 => ?_)
  · skip
    refine lv_lconst (v := 1) hx hb dX0_ofTwo_171 (by decide) ?_
    refine lv_goto (tgt := 176) hx hb dX0_ofTwo_172 (by decide) ?_
    exact sk_lret hx hb hr hlocks hK hP hD hS (⟨(kop_f hc1 hc6 (by assumption) (by assumption) (by assumption) (by assumption) (by assumption) (by assumption)).elim, rfl⟩) (Nat.le_of_ble_eq_true rfl) (Nat.le_of_ble_eq_true rfl) dX0_ofTwo_176
  · skip
    refine lv_lload_n hx hb dX0_ofTwo_165 rfl (lv_at hl 2 rfl) ?_
    refine lv_lconst (v := 0) hx hb dX0_ofTwo_166 (by decide) ?_
    refine W.lcmp hx hb dX0_ofTwo_167 ?_
    refine lv_if_eq (tgt := 175) hx hb dX0_ofTwo_168 (by decide) (fun c_28 => ?_) (fun c_28 => ?_)
    · skip
      refine lv_lconst (v := 0) hx hb dX0_ofTwo_175 (by decide) ?_
      exact sk_lret hx hb hr hlocks hK hP hD hS (⟨(kop_f hc1 hc6 (by assumption) (by assumption) (by assumption) (by assumption) (by assumption) (by assumption)).elim, rfl⟩) (Nat.le_of_ble_eq_true rfl) (Nat.le_of_ble_eq_true rfl) dX0_ofTwo_176
    · skip
      refine lv_lconst (v := 1) hx hb dX0_ofTwo_171 (by decide) ?_
      refine lv_goto (tgt := 176) hx hb dX0_ofTwo_172 (by decide) ?_
      exact sk_lret hx hb hr hlocks hK hP hD hS (⟨(kop_f hc1 hc6 (by assumption) (by assumption) (by assumption) (by assumption) (by assumption) (by assumption)).elim, rfl⟩) (Nat.le_of_ble_eq_true rfl) (Nat.le_of_ble_eq_true rfl) dX0_ofTwo_176
theorem kx_k (k : Nat) : nI (10000 + k) - 10000 = nI k := by
  have h : nI (10000 + k) - nI 10000 = nI (10000 + k - 10000) := nsub (10000 + k) 10000 (by omega)
  rw [Nat.add_sub_cancel_left] at h
  exact h
set_option maxHeartbeats 4000000 in
set_option maxRecDepth 100000 in
theorem c_kCode_name (l : Launch) (D : va_G) (cI cJ cC cZ cS : ClassId) (h0 : Nat) (k1 : Nat) (k2 : Nat) (k3 : Nat) (k4 : Nat) (cl : Nat) (mw : Nat) (f3 : Nat → Int64) (o : Int32) (k : Nat) (x : Int64) (ho : o = nI (10000 + k)) (hk : k < 9) : skM l yX0_name cX0_name 5 none 0 0 0 0 D (skT cI cJ cC cZ cS) [.ref h0, .int o, .long x] [(h0, .inr (0, [.ref k1, .ref k2, .ref k3, .ref k4, .int (nI cl), .int (nI mw)])), (k3, .inl (cJ, 9, .inr (.inl f3)))] (skV D (skT cI cJ cC cZ cS) (fun (u : va_W) => ∃ (g3 : Nat → Int64), g3 = vp_updL f3 k x ∧ u = [(h0, .inr (0, [.ref k1, .ref k2, .ref k3, .ref k4, .int (nI cl), .int (nI mw)])), (k3, .inl (cJ, 9, .inr (.inl g3)))])) := by
  refine skM_of pf_X0_name (Nat.le_of_ble_eq_true rfl) ?_
  intro p e s m below meth c A ls E hP hD hl
  refine skE_el E (fun hx hb hr hml hlocks hin hown hts hK hA => ?_)
  have hown : s.vm.findClass RX0 = some m.cls := hown
  have hS : va_S A s.heap s.heap [] := va_S.rf
  have hl : lv_has ls 5 [(0, .ref h0), (1, .int o), (2, .long x)] := hl
  refine lv_iload_n hx hb dX0_name_0 rfl (lv_at hl 1 rfl) ?_
  refine lv_sipush (v := 10000) hx hb dX0_name_1 (by decide) ?_
  refine lv_isub hx hb dX0_name_4 ?_
  refine sk_top (nI k) (by rw [ho]; exact kx_k k) ?_
  refine lv_istore (lv' := [(4, .int (nI k)), (0, .ref h0), (1, .int o), (2, .long x)]) hx hb dX0_name_5 hl (by decide) rfl (fun ls hl => ?_)
  refine lv_iload hx hb dX0_name_7 (lv_at hl 0 rfl) ?_
  refine lv_if_lt (tgt := 27) hx hb dX0_name_9 (by decide) (fun c => absurd c (nI_pos (by omega))) (fun c_1 => ?_)
  refine lv_iload hx hb dX0_name_12 (lv_at hl 0 rfl) ?_
  refine lv_bipush (v := 9) hx hb dX0_name_14 (by decide) ?_
  refine lv_icmp_ge (tgt := 27) hx hb dX0_name_16 (by decide) (fun c => absurd ((nle 9 k (Nat.le_of_ble_eq_true rfl) (by omega)).mp c) (by omega)) (fun c_2 => ?_)
  refine lv_aload_n hx hb dX0_name_19 rfl (lv_at hl 1 rfl) ?_
  refine sk_get (v := .ref k3) (C := RX0) (T := TX0) (N := 6) hx hb hts inlX0 hown hK hP 0 rfl rfl 2 (Nat.le_of_ble_eq_true rfl) w_1_131 rfl dX0_name_20 ?_
  refine lv_iload hx hb dX0_name_23 (lv_at hl 0 rfl) ?_
  refine lv_lload_n hx hb dX0_name_25 rfl (lv_at hl 3 rfl) ?_
  refine sk_lastE (k := k) (ws' := fun f_3 => [(h0, .inr (0, [.ref k1, .ref k2, .ref k3, .ref k4, .int (nI cl), .int (nI mw)])), (k3, .inl (cJ, 9, .inr (.inl f_3)))]) hx hb hK hP hD hS 1 1 rfl rfl (by omega) (by omega) (fun _ => rfl) dX0_name_26 (fun f_3 H locs ef_4 hP hD hS => ?_)
  exact sk_vret hx hb hr hlocks hK hP hD hS (⟨f_3, ef_4, rfl⟩) (Nat.le_of_ble_eq_true rfl) (Nat.le_of_ble_eq_true rfl) dX0_name_27
theorem kx_max (a : Nat) (h : a < 2147483648) : (if nI a < 0 then 0 else nI a) = nI a := if_neg (nI_pos h)
set_option maxHeartbeats 4000000 in
set_option maxRecDepth 100000 in
theorem c_kCode_run (l : Launch) (D : va_G) (cI cJ cC cZ cS : ClassId) (h0 : Nat) (k1 : Nat) (k2 : Nat) (k3 : Nat) (k4 : Nat) (cl : Nat) (mw : Nat) (f1 : Nat → Int32) (f2 : Nat → Int64) (f3 : Nat → Int64) (f4 : Nat → Int64) (a : Nat) (b : Nat) (K : List Nat) (nm : Nat → Int64) (v : Int64) (kn : Nat) (hcl : cl ≤ 1600) (hmw : mw ≤ 1) (hkl : cl = K.length) (hcd : cdK K cl mw f1) (hab : a ≤ b) (hbk : b ≤ K.length) (hkn : kn < 2) (hns : kcNs kn (kcSub K (a, b))) (hnm : ∀ j, j < 7 → f3 j = nm j) (hex : kcEx nm 64 (kcSub K (a, b)) [] = some [v]) : skM l yX0_run cX0_run 7 (some .long) 2 49 0 0 D (skT cI cJ cC cZ cS) [.ref h0, .int (nI a), .int (nI b)] [(h0, .inr (0, [.ref k1, .ref k2, .ref k3, .ref k4, .int (nI cl), .int (nI mw)])), (k1, .inl (cI, 1600, .inl f1)), (k2, .inl (cJ, 64, .inr (.inl f2))), (k3, .inl (cJ, 9, .inr (.inl f3))), (k4, .inl (cJ, 10, .inr (.inl f4)))] (skL D (skT cI cJ cC cZ cS) (fun (r : Int64) (u : va_W) => ∃ (g2 : Nat → Int64), r = v ∧ u = [(h0, .inr (0, [.ref k1, .ref k2, .ref k3, .ref k4, .int (nI cl), .int (nI mw)])), (k1, .inl (cI, 1600, .inl f1)), (k2, .inl (cJ, 64, .inr (.inl g2))), (k3, .inl (cJ, 9, .inr (.inl f3))), (k4, .inl (cJ, 10, .inr (.inl f4)))])) := by
  refine skM_of pf_X0_run (Nat.le_of_ble_eq_true rfl) ?_
  intro p e s m below meth c A ls E hP hD hl
  refine skE_el E (fun hx hb hr hml hlocks hin hown hts hK hA => ?_)
  have hown : s.vm.findClass RX0 = some m.cls := hown
  have hS : va_S A s.heap s.heap [] := va_S.rf
  have hl : lv_has ls 7 [(0, .ref h0), (1, .int (nI a)), (2, .int (nI b))] := hl
  refine lv_iconst (v := 0) hx hb dX0_run_0 ic_0 ?_
  refine lv_istore_n (lv' := [(3, .int 0), (0, .ref h0), (1, .int (nI a)), (2, .int (nI b))]) hx hb dX0_run_1 rfl hl (by decide) rfl (fun ls hl => ?_)
  refine lv_iload_n hx hb dX0_run_2 rfl (lv_at hl 2 rfl) ?_
  refine lv_iconst (v := 0) hx hb dX0_run_3 ic_0 ?_
  refine va_mmax hx hb (by rw [hml]; exact hl.1.symm) hown (hts _ w_3_224) (hts _ w_1_37) (hts _ w_1_3) (hts _ w_1_38) (Nat.le_of_ble_eq_true rfl) (Nat.le_of_ble_eq_true rfl) (Nat.le_of_ble_eq_true rfl) (Nat.le_of_ble_eq_true rfl) dX0_run_4 ?_
  refine sk_top (nI a) (kx_max a (by omega)) ?_
  refine lv_istore (lv' := [(4, .int (nI a)), (3, .int 0), (0, .ref h0), (1, .int (nI a)), (2, .int (nI b))]) hx hb dX0_run_7 hl (by decide) rfl (fun ls hl => ?_)
  have lp_1 : ∀ (n_2 : Nat) (i : Nat) (tp : Nat) (fs : Nat → Int64) (SS : List Int64) (H : Heap) (locs : List Loc) (ls : Array Slot), cl - i < n_2 → (i ≤ 1600) → (a ≤ i) → (i ≤ b) → (tp = SS.length) → (tp ≤ 64) → (stkO fs SS) → (kcNs kn (kcSub K (i, b))) → (kcEx nm 64 (kcSub K (i, b)) SS = some [v]) → va_P D vwCl [(h0, .inr (0, [.ref k1, .ref k2, .ref k3, .ref k4, .int (nI cl), .int (nI mw)])), (k1, .inl (cI, 1600, .inl f1)), (k2, .inl (cJ, 64, .inr (.inl fs))), (k3, .inl (cJ, 9, .inr (.inl f3))), (k4, .inl (cJ, 10, .inr (.inl f4)))] H → va_D A [(h0, .inr (0, [.ref k1, .ref k2, .ref k3, .ref k4, .int (nI cl), .int (nI mw)])), (k1, .inl (cI, 1600, .inl f1)), (k2, .inl (cJ, 64, .inr (.inl fs))), (k3, .inl (cJ, 9, .inr (.inl f3))), (k4, .inl (cJ, 10, .inr (.inl f4)))] → va_S A s.heap H locs → lv_has ls 7 [(4, .int (nI i)), (3, .int (nI tp)), (0, .ref h0), (1, .int (nI a)), (2, .int (nI b))] → W p l e { frames := 2, cells := 0, slots := 0, locals := 49 } s m ([.ref h0, .int (nI a), .int (nI b)] : List Value).toArray below meth c H locs 0 0 (MQ below (skL D (skT cI cJ cC cZ cS) (fun (r : Int64) (u : va_W) => ∃ (g2 : Nat → Int64), r = v ∧ u = [(h0, .inr (0, [.ref k1, .ref k2, .ref k3, .ref k4, .int (nI cl), .int (nI mw)])), (k1, .inl (cI, 1600, .inl f1)), (k2, .inl (cJ, 64, .inr (.inl g2))), (k3, .inl (cJ, 9, .inr (.inl f3))), (k4, .inl (cJ, 10, .inr (.inl f4)))]) A) ([.ref h0, .int (nI a), .int (nI b)] : List Value).toArray s 0 0 A) (F0 m 9 ls []) := by
    intro n_2
    induction n_2 with
    | zero => intro i tp fs SS H locs ls hm; exact absurd hm (Nat.not_lt_zero _)
    | succ n_2 ih_lp_1 =>
      intro i tp fs SS H locs ls hm hi hai hib0 htp htp64 hst hns2 hex2 hP hD hS hl
      refine lv_iload hx hb dX0_run_9 (lv_at hl 0 rfl) ?_
      refine lv_iload_n hx hb dX0_run_11 rfl (lv_at hl 4 rfl) ?_
      refine lv_icmp_ge (tgt := 173) hx hb dX0_run_12 (by decide) (fun c_3 => ?_) (fun c_3 => ?_)
      · have c_3 : b ≤ i := (nle b i (by omega) (by omega)).mp c_3
        obtain rfl := kx_end hex2 (by omega)
        have htp3 : tp = 1 := htp
        refine lv_iload_n hx hb dX0_run_173 rfl (lv_at hl 1 rfl) ?_
        refine lv_if_le (tgt := 186) hx hb dX0_run_174 (by decide) (fun c => absurd c (npos_le (by omega) (by omega))) (fun c_4 => ?_)
        refine lv_aload_n hx hb dX0_run_177 rfl (lv_at hl 2 rfl) ?_
        refine sk_get (v := .ref k2) (C := RX0) (T := TX0) (N := 6) hx hb hts inlX0 hown hK hP 0 rfl rfl 1 (Nat.le_of_ble_eq_true rfl) w_1_130 rfl dX0_run_178 ?_
        refine lv_iconst (v := 0) hx hb dX0_run_181 ic_0 ?_
        refine va_lald hx hb hK.1 hP 2 1 rfl rfl (by unfold vp_in; decide) dX0_run_182 ?_
        refine sk_topl v (hst.1) ?_
        refine lv_goto (tgt := 187) hx hb dX0_run_183 (by decide) ?_
        exact sk_lret hx hb hr hlocks hK hP hD hS (⟨fs, rfl, rfl⟩) (Nat.le_of_ble_eq_true rfl) (Nat.le_of_ble_eq_true rfl) dX0_run_187
      · have c_3 : ¬ (b ≤ i) := fun h => c_3 ((nle b i (by omega) (by omega)).mpr h)
        refine lv_iload hx hb dX0_run_15 (lv_at hl 0 rfl) ?_
        refine lv_aload_n hx hb dX0_run_17 rfl (lv_at hl 2 rfl) ?_
        refine sk_get (v := .int (nI cl)) (C := RX0) (T := TX0) (N := 6) hx hb hts inlX0 hown hK hP 0 rfl rfl 4 (Nat.le_of_ble_eq_true rfl) w_1_133 rfl dX0_run_18 ?_
        refine lv_icmp_ge (tgt := 173) hx hb dX0_run_21 (by decide) (fun c => absurd ((nle cl i (by omega) (by omega)).mp c) (by omega)) (fun c_5 => ?_)
        have hib : i < b := by omega
        have hld : f1 (nI i).toNatClampNeg = cm (K.getD i 0) := by rw [nI_clamp (by omega)]; exact hcd.2.2 i (by omega)
        rw [kcSub_c hib (by omega)] at hex2 hns2
        generalize K.getD i 0 = cq at hex2 hns2 hld
        have hns3 : kcNs kn (kcSub K (i + 1, b)) := fun x hx => hns2 x (List.mem_cons_of_mem _ hx)
        obtain ⟨T, hT1, hT2, hT3⟩ := kcEx_c hex2
        rcases kx_cls hkn (hns2 cq (List.mem_cons_self ..)) with ⟨hc1, hc2, hcm⟩ | ⟨hc1, hc2, hcm⟩ | ⟨hc1, hc2, hcm⟩
        · obtain ⟨b1, a1, R1, rfl, rfl⟩ := kcSt_two (by omega) hT1
          have htp2 : tp = R1.length + 2 := htp
          refine lv_aload_n hx hb dX0_run_24 rfl (lv_at hl 2 rfl) ?_
          refine sk_get (v := .ref k1) (C := RX0) (T := TX0) (N := 6) hx hb hts inlX0 hown hK hP 0 rfl rfl 0 (Nat.le_of_ble_eq_true rfl) w_1_129 rfl dX0_run_25 ?_
          refine lv_iload hx hb dX0_run_28 (lv_at hl 0 rfl) ?_
          refine va_iald hx hb hK.1 hP 1 0 rfl rfl (vin i 1600 (by omega) (Nat.le_of_ble_eq_true rfl)) dX0_run_30 ?_
          refine sk_top (nI (29999 + cq)) (by rw [hld]; exact hcm) ?_
          refine lv_istore (lv' := [(5, .int (nI (29999 + cq))), (4, .int (nI i)), (3, .int (nI tp)), (0, .ref h0), (1, .int (nI a)), (2, .int (nI b))]) hx hb dX0_run_31 hl (by decide) rfl (fun ls hl => ?_)
          refine lv_iload hx hb dX0_run_33 (lv_at hl 0 rfl) ?_
          refine lv_sipush (v := 30000) hx hb dX0_run_35 (by decide) ?_
          refine lv_icmp_lt (tgt := 79) hx hb dX0_run_38 (by decide) (fun c => absurd ((nlt (29999 + cq) 30000 (by omega) (Nat.le_of_ble_eq_true rfl)).mp c) (by omega)) (fun c_6 => ?_)
          refine lv_iload_n hx hb dX0_run_41 rfl (lv_at hl 2 rfl) ?_
          refine lv_iconst (v := 1) hx hb dX0_run_42 ic_1 ?_
          refine lv_icmp_le (tgt := 167) hx hb dX0_run_43 (by decide) (fun c => absurd ((nle tp 1 (by omega) (Nat.le_of_ble_eq_true rfl)).mp c) (by omega)) (fun c_7 => ?_)
          refine lv_iinc (v := nI (tp - 1)) (lv' := [(3, .int (nI (tp - 1))), (5, .int (nI (29999 + cq))), (4, .int (nI i)), (0, .ref h0), (1, .int (nI a)), (2, .int (nI b))]) hx hb dX0_run_46 hl (k := 2) rfl (ndec1 tp (by omega)) (by decide) rfl (fun ls hl => ?_)
          refine lv_aload_n hx hb dX0_run_49 rfl (lv_at hl 3 rfl) ?_
          refine sk_get (v := .ref k2) (C := RX0) (T := TX0) (N := 6) hx hb hts inlX0 hown hK hP 0 rfl rfl 1 (Nat.le_of_ble_eq_true rfl) w_1_130 rfl dX0_run_50 ?_
          refine lv_iload_n hx hb dX0_run_53 rfl (lv_at hl 0 rfl) ?_
          refine lv_iconst (v := 1) hx hb dX0_run_54 ic_1 ?_
          refine lv_isub hx hb dX0_run_55 ?_
          refine sk_top (nI (tp - 1 - 1)) (nsub (tp - 1) 1 (by omega)) ?_
          refine lv_iload hx hb dX0_run_56 (lv_at hl 1 rfl) ?_
          refine lv_aload_n hx hb dX0_run_58 rfl (lv_at hl 3 rfl) ?_
          refine sk_get (v := .ref k2) (C := RX0) (T := TX0) (N := 6) hx hb hts inlX0 hown hK hP 0 rfl rfl 1 (Nat.le_of_ble_eq_true rfl) w_1_130 rfl dX0_run_59 ?_
          refine lv_iload_n hx hb dX0_run_62 rfl (lv_at hl 0 rfl) ?_
          refine lv_iconst (v := 1) hx hb dX0_run_63 ic_1 ?_
          refine lv_isub hx hb dX0_run_64 ?_
          refine sk_top (nI (tp - 1 - 1)) (nsub (tp - 1) 1 (by omega)) ?_
          refine va_lald hx hb hK.1 hP 2 1 rfl rfl (vin (tp - 1 - 1) 64 (by omega) (Nat.le_of_ble_eq_true rfl)) dX0_run_65 ?_
          refine sk_topl a1 (stk_a hst (by omega) (by omega)) ?_
          refine lv_aload_n hx hb dX0_run_66 rfl (lv_at hl 3 rfl) ?_
          refine sk_get (v := .ref k2) (C := RX0) (T := TX0) (N := 6) hx hb hts inlX0 hown hK hP 0 rfl rfl 1 (Nat.le_of_ble_eq_true rfl) w_1_130 rfl dX0_run_67 ?_
          refine lv_iload_n hx hb dX0_run_70 rfl (lv_at hl 0 rfl) ?_
          refine va_lald hx hb hK.1 hP 2 1 rfl rfl (vin (tp - 1) 64 (by omega) (Nat.le_of_ble_eq_true rfl)) dX0_run_71 ?_
          refine sk_topl b1 (stk_b hst (by omega) (by omega)) ?_
          refine sk_Sl (n := 3) (rest := [.int (nI (tp - 1 - 1)), .ref k2]) (wr := [(h0, .inr (0, [.ref k1, .ref k2, .ref k3, .ref k4, .int (nI cl), .int (nI mw)])), (k1, .inl (cI, 1600, .inl f1)), (k2, .inl (cJ, 64, .inr (.inl fs))), (k3, .inl (cJ, 9, .inr (.inl f3))), (k4, .inl (cJ, 10, .inr (.inl f4)))]) ⟨hx, hb, hml, hown, hts⟩ hl.1 (c_kofTwo l D cI cJ cC cZ cS cq a1 b1 (by omega) (by omega)) w_3_225 w_3_226 w_1_8 w_3_227 hd_X0_ofTwo_3 ⟨⟨(Nat.le_of_ble_eq_true rfl), (Nat.le_of_ble_eq_true rfl)⟩, (Nat.le_of_ble_eq_true rfl), (Nat.le_of_ble_eq_true rfl)⟩ hK hP hD hS hA [] [0, 1, 2, 3, 4] rfl rfl (by decide +kernel) (by decide +kernel) (by decide +kernel) rfl rfl (Nat.le_of_ble_eq_true rfl) dX0_run_72 (fun r_8 u H locs hw hP hD hS => ?_)
          obtain ⟨hr_9, rfl⟩ := hw
          refine o_re (ws' := [(h0, .inr (0, [.ref k1, .ref k2, .ref k3, .ref k4, .int (nI cl), .int (nI mw)])), (k1, .inl (cI, 1600, .inl f1)), (k2, .inl (cJ, 64, .inr (.inl fs))), (k3, .inl (cJ, 9, .inr (.inl f3))), (k4, .inl (cJ, 10, .inr (.inl f4)))]) hP hD rfl (fun hP hD => ?_)
          subst hr_9
          refine sk_lastE (k := (tp - 1 - 1)) (ws' := fun f_10 => [(h0, .inr (0, [.ref k1, .ref k2, .ref k3, .ref k4, .int (nI cl), .int (nI mw)])), (k1, .inl (cI, 1600, .inl f1)), (k2, .inl (cJ, 64, .inr (.inl f_10))), (k3, .inl (cJ, 9, .inr (.inl f3))), (k4, .inl (cJ, 10, .inr (.inl f4)))]) hx hb hK hP hD hS 2 1 rfl rfl (by omega) (by omega) (fun _ => rfl) dX0_run_75 (fun f_10 H locs ef_11 hP hD hS => ?_)
          have hs_12 := stk_op hst (by omega) ef_11
          refine lv_goto (tgt := 167) hx hb dX0_run_76 (by decide) ?_
          refine lv_iinc (v := nI (i + 1)) (lv' := [(4, .int (nI (i + 1))), (3, .int (nI (tp - 1))), (5, .int (nI (29999 + cq))), (0, .ref h0), (1, .int (nI a)), (2, .int (nI b))]) hx hb dX0_run_167 hl (k := 2) rfl (ninc i 1 (by decide)) (by decide) rfl (fun ls hl => ?_)
          refine lv_goto (tgt := 9) hx hb dX0_run_170 (by decide) ?_
          exact ih_lp_1 (i + 1) (tp - 1) f_10 (kcOp cq a1 b1 :: R1) _ _ _ (by omega) (by omega) (by omega) (by omega) (show _ = R1.length + 1 by omega) (by omega) hs_12 hns3 hT3 hP hD hS (lv_sub hl [0, 1, 3, 4, 5] rfl)
        · rw [kcSt_num (by omega)] at hT1
          obtain rfl := Option.some.inj hT1
          have htp2 : SS.length + 1 ≤ 64 := hT2
          refine lv_aload_n hx hb dX0_run_24 rfl (lv_at hl 2 rfl) ?_
          refine sk_get (v := .ref k1) (C := RX0) (T := TX0) (N := 6) hx hb hts inlX0 hown hK hP 0 rfl rfl 0 (Nat.le_of_ble_eq_true rfl) w_1_129 rfl dX0_run_25 ?_
          refine lv_iload hx hb dX0_run_28 (lv_at hl 0 rfl) ?_
          refine va_iald hx hb hK.1 hP 1 0 rfl rfl (vin i 1600 (by omega) (Nat.le_of_ble_eq_true rfl)) dX0_run_30 ?_
          refine sk_top (nI (cq - 1000)) (by rw [hld]; exact hcm) ?_
          refine lv_istore (lv' := [(5, .int (nI (cq - 1000))), (4, .int (nI i)), (3, .int (nI tp)), (0, .ref h0), (1, .int (nI a)), (2, .int (nI b))]) hx hb dX0_run_31 hl (by decide) rfl (fun ls hl => ?_)
          refine lv_iload hx hb dX0_run_33 (lv_at hl 0 rfl) ?_
          refine lv_sipush (v := 30000) hx hb dX0_run_35 (by decide) ?_
          refine lv_icmp_lt (tgt := 79) hx hb dX0_run_38 (by decide) (fun c_13 => ?_) (fun c => absurd ((nlt (cq - 1000) 30000 (by omega) (Nat.le_of_ble_eq_true rfl)).mpr (by omega)) c)
          refine lv_iload hx hb dX0_run_79 (lv_at hl 0 rfl) ?_
          refine lv_sipush (v := 20000) hx hb dX0_run_81 (by decide) ?_
          refine lv_icmp_lt (tgt := 116) hx hb dX0_run_84 (by decide) (fun c_14 => ?_) (fun c => absurd ((nlt (cq - 1000) 20000 (by omega) (Nat.le_of_ble_eq_true rfl)).mpr (by omega)) c)
          refine lv_iload_n hx hb dX0_run_116 rfl (lv_at hl 2 rfl) ?_
          refine lv_aload_n hx hb dX0_run_117 rfl (lv_at hl 3 rfl) ?_
          refine sk_get (v := .ref k2) (C := RX0) (T := TX0) (N := 6) hx hb hts inlX0 hown hK hP 0 rfl rfl 1 (Nat.le_of_ble_eq_true rfl) w_1_130 rfl dX0_run_118 ?_
          refine va_alen (v := 64) hx hb hK.1 hP 2 1 rfl rfl rfl dX0_run_121 ?_
          refine lv_icmp_ge (tgt := 167) hx hb dX0_run_122 (by decide) (fun c => absurd ((nle 64 tp (Nat.le_of_ble_eq_true rfl) (by omega)).mp c) (by omega)) (fun c_15 => ?_)
          refine lv_iload hx hb dX0_run_125 (lv_at hl 0 rfl) ?_
          refine lv_sipush (v := 10000) hx hb dX0_run_127 (by decide) ?_
          refine lv_isub hx hb dX0_run_130 ?_
          refine lv_istore (lv' := [(6, .int (nI (cq - 1000) - 10000)), (5, .int (nI (cq - 1000))), (4, .int (nI i)), (3, .int (nI tp)), (0, .ref h0), (1, .int (nI a)), (2, .int (nI b))]) hx hb dX0_run_131 hl (by decide) rfl (fun ls hl => ?_)
          refine lv_aload_n hx hb dX0_run_133 rfl (lv_at hl 4 rfl) ?_
          refine sk_get (v := .ref k2) (C := RX0) (T := TX0) (N := 6) hx hb hts inlX0 hown hK hP 0 rfl rfl 1 (Nat.le_of_ble_eq_true rfl) w_1_130 rfl dX0_run_134 ?_
          refine lv_iload_n hx hb dX0_run_137 rfl (lv_at hl 3 rfl) ?_
          refine lv_iload hx hb dX0_run_138 (lv_at hl 0 rfl) ?_
          refine lv_if_lt (tgt := 160) hx hb dX0_run_140 (by decide) (fun c_16 => ?_) (fun c => absurd (kx_neg (by omega)) c)
          refine lv_iload hx hb dX0_run_160 (lv_at hl 1 rfl) ?_
          refine lv_i2l hx hb dX0_run_162 rfl ?_
          refine sk_lastE (k := tp) (ws' := fun f_17 => [(h0, .inr (0, [.ref k1, .ref k2, .ref k3, .ref k4, .int (nI cl), .int (nI mw)])), (k1, .inl (cI, 1600, .inl f1)), (k2, .inl (cJ, 64, .inr (.inl f_17))), (k3, .inl (cJ, 9, .inr (.inl f3))), (k4, .inl (cJ, 10, .inr (.inl f4)))]) hx hb hK hP hD hS 2 1 rfl rfl (by omega) (by omega) (fun _ => rfl) dX0_run_163 (fun f_17 H locs ef_18 hP hD hS => ?_)
          have hs_19 := stk_push hst htp ef_18 (kx_i2l (by omega))
          refine lv_iinc (v := nI (tp + 1)) (lv' := [(3, .int (nI (tp + 1))), (6, .int (nI (cq - 1000) - 10000)), (5, .int (nI (cq - 1000))), (4, .int (nI i)), (0, .ref h0), (1, .int (nI a)), (2, .int (nI b))]) hx hb dX0_run_164 hl (k := 3) rfl (ninc tp 1 (by decide)) (by decide) rfl (fun ls hl => ?_)
          refine lv_iinc (v := nI (i + 1)) (lv' := [(4, .int (nI (i + 1))), (3, .int (nI (tp + 1))), (6, .int (nI (cq - 1000) - 10000)), (5, .int (nI (cq - 1000))), (0, .ref h0), (1, .int (nI a)), (2, .int (nI b))]) hx hb dX0_run_167 hl (k := 3) rfl (ninc i 1 (by decide)) (by decide) rfl (fun ls hl => ?_)
          refine lv_goto (tgt := 9) hx hb dX0_run_170 (by decide) ?_
          exact ih_lp_1 (i + 1) (tp + 1) f_17 (Int64.ofNat (cq - 1000) :: SS) _ _ _ (by omega) (by omega) (by omega) (by omega) (show _ = SS.length + 1 by omega) (by omega) hs_19 hns3 hT3 hP hD hS (lv_sub hl [0, 1, 4, 5, 6] rfl)
        · rw [kcSt_nm (by omega) (by omega)] at hT1
          obtain rfl := Option.some.inj hT1
          have htp2 : SS.length + 1 ≤ 64 := hT2
          refine lv_aload_n hx hb dX0_run_24 rfl (lv_at hl 2 rfl) ?_
          refine sk_get (v := .ref k1) (C := RX0) (T := TX0) (N := 6) hx hb hts inlX0 hown hK hP 0 rfl rfl 0 (Nat.le_of_ble_eq_true rfl) w_1_129 rfl dX0_run_25 ?_
          refine lv_iload hx hb dX0_run_28 (lv_at hl 0 rfl) ?_
          refine va_iald hx hb hK.1 hP 1 0 rfl rfl (vin i 1600 (by omega) (Nat.le_of_ble_eq_true rfl)) dX0_run_30 ?_
          refine sk_top (nI (9960 + cq)) (by rw [hld]; exact hcm) ?_
          refine lv_istore (lv' := [(5, .int (nI (9960 + cq))), (4, .int (nI i)), (3, .int (nI tp)), (0, .ref h0), (1, .int (nI a)), (2, .int (nI b))]) hx hb dX0_run_31 hl (by decide) rfl (fun ls hl => ?_)
          refine lv_iload hx hb dX0_run_33 (lv_at hl 0 rfl) ?_
          refine lv_sipush (v := 30000) hx hb dX0_run_35 (by decide) ?_
          refine lv_icmp_lt (tgt := 79) hx hb dX0_run_38 (by decide) (fun c_20 => ?_) (fun c => absurd ((nlt (9960 + cq) 30000 (by omega) (Nat.le_of_ble_eq_true rfl)).mpr (by omega)) c)
          refine lv_iload hx hb dX0_run_79 (lv_at hl 0 rfl) ?_
          refine lv_sipush (v := 20000) hx hb dX0_run_81 (by decide) ?_
          refine lv_icmp_lt (tgt := 116) hx hb dX0_run_84 (by decide) (fun c_21 => ?_) (fun c => absurd ((nlt (9960 + cq) 20000 (by omega) (Nat.le_of_ble_eq_true rfl)).mpr (by omega)) c)
          refine lv_iload_n hx hb dX0_run_116 rfl (lv_at hl 2 rfl) ?_
          refine lv_aload_n hx hb dX0_run_117 rfl (lv_at hl 3 rfl) ?_
          refine sk_get (v := .ref k2) (C := RX0) (T := TX0) (N := 6) hx hb hts inlX0 hown hK hP 0 rfl rfl 1 (Nat.le_of_ble_eq_true rfl) w_1_130 rfl dX0_run_118 ?_
          refine va_alen (v := 64) hx hb hK.1 hP 2 1 rfl rfl rfl dX0_run_121 ?_
          refine lv_icmp_ge (tgt := 167) hx hb dX0_run_122 (by decide) (fun c => absurd ((nle 64 tp (Nat.le_of_ble_eq_true rfl) (by omega)).mp c) (by omega)) (fun c_22 => ?_)
          refine lv_iload hx hb dX0_run_125 (lv_at hl 0 rfl) ?_
          refine lv_sipush (v := 10000) hx hb dX0_run_127 (by decide) ?_
          refine lv_isub hx hb dX0_run_130 ?_
          refine sk_top (nI (9960 + cq - 10000)) (nsub (9960 + cq) 10000 (by omega)) ?_
          refine lv_istore (lv' := [(6, .int (nI (9960 + cq - 10000))), (5, .int (nI (9960 + cq))), (4, .int (nI i)), (3, .int (nI tp)), (0, .ref h0), (1, .int (nI a)), (2, .int (nI b))]) hx hb dX0_run_131 hl (by decide) rfl (fun ls hl => ?_)
          refine lv_aload_n hx hb dX0_run_133 rfl (lv_at hl 4 rfl) ?_
          refine sk_get (v := .ref k2) (C := RX0) (T := TX0) (N := 6) hx hb hts inlX0 hown hK hP 0 rfl rfl 1 (Nat.le_of_ble_eq_true rfl) w_1_130 rfl dX0_run_134 ?_
          refine lv_iload_n hx hb dX0_run_137 rfl (lv_at hl 3 rfl) ?_
          refine lv_iload hx hb dX0_run_138 (lv_at hl 0 rfl) ?_
          refine lv_if_lt (tgt := 160) hx hb dX0_run_140 (by decide) (fun c => absurd c (nI_pos (by omega))) (fun c_23 => ?_)
          refine lv_iload hx hb dX0_run_143 (lv_at hl 0 rfl) ?_
          refine lv_bipush (v := 9) hx hb dX0_run_145 (by decide) ?_
          refine lv_icmp_ge (tgt := 160) hx hb dX0_run_147 (by decide) (fun c => absurd ((nle 9 (9960 + cq - 10000) (Nat.le_of_ble_eq_true rfl) (by omega)).mp c) (by omega)) (fun c_24 => ?_)
          refine lv_aload_n hx hb dX0_run_150 rfl (lv_at hl 4 rfl) ?_
          refine sk_get (v := .ref k3) (C := RX0) (T := TX0) (N := 6) hx hb hts inlX0 hown hK hP 0 rfl rfl 2 (Nat.le_of_ble_eq_true rfl) w_1_131 rfl dX0_run_151 ?_
          refine lv_iload hx hb dX0_run_154 (lv_at hl 0 rfl) ?_
          refine va_lald hx hb hK.1 hP 3 1 rfl rfl (vin (9960 + cq - 10000) 9 (by omega) (Nat.le_of_ble_eq_true rfl)) dX0_run_156 ?_
          refine sk_topl (nm (cq - 40)) (by rw [nI_clamp (by omega), show 9960 + cq - 10000 = cq - 40 by omega]; exact hnm _ (by omega)) ?_
          refine lv_goto (tgt := 163) hx hb dX0_run_157 (by decide) ?_
          refine sk_lastE (k := tp) (ws' := fun f_25 => [(h0, .inr (0, [.ref k1, .ref k2, .ref k3, .ref k4, .int (nI cl), .int (nI mw)])), (k1, .inl (cI, 1600, .inl f1)), (k2, .inl (cJ, 64, .inr (.inl f_25))), (k3, .inl (cJ, 9, .inr (.inl f3))), (k4, .inl (cJ, 10, .inr (.inl f4)))]) hx hb hK hP hD hS 2 1 rfl rfl (by omega) (by omega) (fun _ => rfl) dX0_run_163 (fun f_25 H locs ef_26 hP hD hS => ?_)
          have hs_27 := stk_push hst htp ef_26 rfl
          refine lv_iinc (v := nI (tp + 1)) (lv' := [(3, .int (nI (tp + 1))), (6, .int (nI (9960 + cq - 10000))), (5, .int (nI (9960 + cq))), (4, .int (nI i)), (0, .ref h0), (1, .int (nI a)), (2, .int (nI b))]) hx hb dX0_run_164 hl (k := 3) rfl (ninc tp 1 (by decide)) (by decide) rfl (fun ls hl => ?_)
          refine lv_iinc (v := nI (i + 1)) (lv' := [(4, .int (nI (i + 1))), (3, .int (nI (tp + 1))), (6, .int (nI (9960 + cq - 10000))), (5, .int (nI (9960 + cq))), (0, .ref h0), (1, .int (nI a)), (2, .int (nI b))]) hx hb dX0_run_167 hl (k := 3) rfl (ninc i 1 (by decide)) (by decide) rfl (fun ls hl => ?_)
          refine lv_goto (tgt := 9) hx hb dX0_run_170 (by decide) ?_
          exact ih_lp_1 (i + 1) (tp + 1) f_25 (nm (cq - 40) :: SS) _ _ _ (by omega) (by omega) (by omega) (by omega) (show _ = SS.length + 1 by omega) (by omega) hs_27 hns3 hT3 hP hD hS (lv_sub hl [0, 1, 4, 5, 6] rfl)
  exact lp_1 (cl - a + 1) a 0 f2 ([]) _ _ _ (Nat.lt_succ_self _) (by omega) (by omega) hab rfl (by omega) True.intro hns hex hP hD hS (lv_sub hl [0, 1, 2, 3, 4] rfl)
/-! the table -/
def kcNm (wk b w d m t al : Nat) : Nat → Int64 := fun k => Int64.ofNat (if k = 0 then m else if k = 1 then b else if k = 2 then w else if k = 3 then d else if k = 4 then wk else if k = 5 then t else al)
def kcSaid (L : LkS) (wk b w d m : Nat) : Nat := kcTen (kcV L 0 (kcNm wk b w d m 0 0))
def kcWage (L : LkS) (wk b w d m : Nat) : Int64 := kcV L 2 (kcNm wk b w d m 0 0)
def kcBec (L : LkS) (wk b w d a t al : Nat) : Nat := kcTen (kcV L 1 (kcNm wk b w d a t al))
def kcMB (S T : Nat → Nat) (li : Nat) : Nat := kcK (fun m => T ((S m + li) % 10) == m) 10
theorem kcMB_lt (S T : Nat → Nat) (li : Nat) : kcMB S T li < 1024 := kcK_lt _ 10
def kcDy (f : Nat → Int64) (wk b w d : Nat) : Prop := f 1 = Int64.ofNat b ∧ f 2 = Int64.ofNat w ∧ f 3 = Int64.ofNat d ∧ f 4 = Int64.ofNat wk
def kcRow (L : LkS) (wk b w d : Nat) (sa : Nat → Nat) (ft fa fo : Nat → Int32) (fg : Nat → Int64) : Prop :=
  (∀ m, m < 10 → sa (d * 10 + m) = kcSaid L wk b w d m ∧ fg (d * 10 + m) = kcWage L wk b w d m) ∧
  ∀ p, p < 10 → (∀ t, t < 10 → ft ((d * 10 + p) * 10 + t) = nI (kcBec L wk b w d p t 0)) ∧ fa (d * 10 + p) = nI (kcBec L wk b w d p 0 1) ∧ fo (d * 10 + p) = nI (kcMB (kcSaid L wk b w d) (fun t => kcBec L wk b w d p t 0) 0)
def kcTI (L : LkS) (sa : Nat → Nat) (ft fa fo : Nat → Int32) (fg : Nat → Int64) (fk : Nat → Int32) : Prop :=
  ∀ d wk b w, d < 9 → wk ≤ 999 → b ≤ 9 → w ≤ 9 → fk d = nI ((wk * 10 + b) * 10 + w) → kcRow L wk b w d sa ft fa fo fg
theorem kup_s {f g : Nat → Int64} {k : Nat} {x : Int64} (e : g = vp_updL f k x) : g k = x := by
  rw [e]; unfold vp_updL; rw [if_pos rfl]
theorem kup_n {f g : Nat → Int64} {k j : Nat} {x : Int64} (e : g = vp_updL f k x) (h : ¬ j = k) : g j = f j := by
  rw [e]; unfold vp_updL; rw [if_neg h]
theorem kui_s {f g : Nat → Int32} {k : Nat} {x : Int32} (e : g = upd f k x) : g k = x := by
  rw [e]; unfold upd; rw [if_pos rfl]
theorem kui_n {f g : Nat → Int32} {k j : Nat} {x : Int32} (e : g = upd f k x) (h : ¬ j = k) : g j = f j := by
  rw [e]; unfold upd; rw [if_neg h]
theorem kun_s {f g : Nat → Nat} {k x : Nat} (e : g = updN f k x) : g k = x := by
  rw [e]; unfold updN; rw [if_pos rfl]
theorem kun_n {f g : Nat → Nat} {k j x : Nat} (e : g = updN f k x) (h : ¬ j = k) : g j = f j := by
  rw [e]; unfold updN; rw [if_neg h]
theorem kdy_of {f g1 g2 g3 g4 : Nat → Int64} {wk b w d : Nat} (e1 : g1 = vp_updL f 3 (Int32.toInt64 (nI d))) (e2 : g2 = vp_updL g1 1 (Int32.toInt64 (nI b))) (e3 : g3 = vp_updL g2 2 (Int32.toInt64 (nI w))) (e4 : g4 = vp_updL g3 4 (Int32.toInt64 (nI wk))) (hd : d < 2147483648) (hb : b < 2147483648) (hw : w < 2147483648) (hk : wk < 2147483648) : kcDy g4 wk b w d := by
  refine ⟨?_, ?_, ?_, ?_⟩
  · rw [kup_n e4 (by decide), kup_n e3 (by decide), kup_s e2, kx_i2l hb]
  · rw [kup_n e4 (by decide), kup_s e3, kx_i2l hw]
  · rw [kup_n e4 (by decide), kup_n e3 (by decide), kup_n e2 (by decide), kup_s e1, kx_i2l hd]
  · rw [kup_s e4, kx_i2l hk]
theorem kdy_up {f g : Nat → Int64} {wk b w d k : Nat} {x : Int64} (h : kcDy f wk b w d) (e : g = vp_updL f k x) (hk : k = 0 ∨ 5 ≤ k) : kcDy g wk b w d := by
  obtain ⟨h1, h2, h3, h4⟩ := h
  exact ⟨by rw [kup_n e (by omega), h1], by rw [kup_n e (by omega), h2], by rw [kup_n e (by omega), h3], by rw [kup_n e (by omega), h4]⟩
theorem kx_ex {L : LkS} {w : Nat} {p : Nat × Nat} (h : kcLk L) (hw : w < 3) (hp : lG (lkF L) w = some p) (nm : Nat → Int64) : kcEx nm 64 (kcSub (lK (lkF L)) (p.1, p.2)) [] = some [kcV L w nm] := by
  have h1 := kcV_ex h hw nm
  unfold kcSeg at h1
  rw [hp] at h1
  exact h1
theorem kx_ns {L : LkS} {w k : Nat} {p : Nat × Nat} (h : kcLk L) (hk : k = if w = 1 then 1 else 0) (hp : lG (lkF L) w = some p) : kcNs k (kcSub (lK (lkF L)) (p.1, p.2)) := by
  rw [hk]; exact (kcLk_F h w p hp).2.2.2
theorem kx_bk {L : LkS} {w : Nat} {p : Nat × Nat} (h : kcLk L) (hp : lG (lkF L) w = some p) : p.1 < p.2 ∧ p.2 ≤ (lK (lkF L)).length := ⟨(kcLk_F h w p hp).1, (kcLk_F h w p hp).2.1⟩
theorem kx_sg {L : LkS} {w : Nat} {p : Nat × Nat} {a b : Int32} (h : sgO (lG (lkF L) w) a b) (hp : lG (lkF L) w = some p) : a = nI p.1 ∧ b = nI p.2 ∧ p.2 ≤ 1600 := by
  rw [hp] at h
  exact ⟨h.1, h.2.1, h.2.2.2⟩
theorem kx_nm5 {f : Nat → Int64} {wk b w d m : Nat} (h : kcDy f wk b w d) (h0 : f 0 = Int64.ofNat m) : ∀ j, j < 5 → f j = kcNm wk b w d m 0 0 j := by
  intro j hj
  rcases (show j = 0 ∨ j = 1 ∨ j = 2 ∨ j = 3 ∨ j = 4 by omega) with rfl | rfl | rfl | rfl | rfl
  · exact h0
  · exact h.1
  · exact h.2.1
  · exact h.2.2.1
  · exact h.2.2.2
theorem kx_nm7 {f : Nat → Int64} {wk b w d m t al : Nat} (h : kcDy f wk b w d) (h0 : f 0 = Int64.ofNat m) (h5 : f 5 = Int64.ofNat t) (h6 : f 6 = Int64.ofNat al) : ∀ j, j < 7 → f j = kcNm wk b w d m t al j := by
  intro j hj
  rcases (show j = 0 ∨ j = 1 ∨ j = 2 ∨ j = 3 ∨ j = 4 ∨ j = 5 ∨ j = 6 by omega) with rfl | rfl | rfl | rfl | rfl | rfl | rfl
  · exact h0
  · exact h.1
  · exact h.2.1
  · exact h.2.2.1
  · exact h.2.2.2
  · exact h5
  · exact h6
theorem kx_said {L : LkS} {f : Nat → Int64} {wk b w d m : Nat} (hL : kcLk L) (h : kcDy f wk b w d) (h0 : f 0 = Int64.ofNat m) : kcTen (kcV L 0 f) = kcSaid L wk b w d m := by
  unfold kcSaid
  rw [kcV_cg (w := 0) (nm2 := kcNm wk b w d m 0 0) hL (by decide) (kx_nm5 h h0)]
theorem kx_wage {L : LkS} {f : Nat → Int64} {wk b w d m : Nat} (hL : kcLk L) (h : kcDy f wk b w d) (h0 : f 0 = Int64.ofNat m) : kcV L 2 f = kcWage L wk b w d m := by
  unfold kcWage
  rw [kcV_cg (w := 2) (nm2 := kcNm wk b w d m 0 0) hL (by decide) (kx_nm5 h h0)]
theorem kx_bec {L : LkS} {f : Nat → Int64} {wk b w d m t al : Nat} (hL : kcLk L) (h : kcDy f wk b w d) (h0 : f 0 = Int64.ofNat m) (h5 : f 5 = Int64.ofNat t) (h6 : f 6 = Int64.ofNat al) : kcTen (kcV L 1 f) = kcBec L wk b w d m t al := by
  unfold kcBec
  rw [kcV_cg (w := 1) (nm2 := kcNm wk b w d m t al) hL (by decide) (kx_nm7 h h0 h5 h6)]
/-! the words of a day -/
def kfw (L : LkS) (wk b w d i : Nat) (sa sb : Nat → Nat) (fg gb : Nat → Int64) : Prop :=
  (∀ m, m < i → sb (d * 10 + m) = kcSaid L wk b w d m ∧ gb (d * 10 + m) = kcWage L wk b w d m) ∧ ∀ j, j < d * 10 ∨ d * 10 + 10 ≤ j → sb j = sa j ∧ gb j = fg j
theorem kfw_0 (L : LkS) (wk b w d : Nat) (sa : Nat → Nat) (fg : Nat → Int64) : kfw L wk b w d 0 sa sa fg fg := ⟨fun m hm => absurd hm (Nat.not_lt_zero m), fun j _ => ⟨rfl, rfl⟩⟩
theorem kfw_s {L : LkS} {wk b w d i : Nat} {sa sb sc : Nat → Nat} {fg gb gc : Nat → Int64} {v : Nat} {x : Int64} (h : kfw L wk b w d i sa sb fg gb) (e1 : sc = updN sb (d * 10 + i) v) (e2 : gc = vp_updL gb (d * 10 + i) x) (hi : i < 10) (hv : v = kcSaid L wk b w d i) (hx : x = kcWage L wk b w d i) : kfw L wk b w d (i + 1) sa sc fg gc := by
  refine ⟨fun m hm => ?_, fun j hj => ?_⟩
  · by_cases e : m = i
    · subst e; rw [kun_s e1, kup_s e2]; exact ⟨hv, hx⟩
    · rw [kun_n e1 (by omega), kup_n e2 (by omega)]; exact h.1 m (by omega)
  · rw [kun_n e1 (by omega), kup_n e2 (by omega)]; exact h.2 j hj
/-! the deeds of a day -/
def kfd (L : LkS) (wk b w d i : Nat) (ft gt fa ga fo go : Nat → Int32) : Prop :=
  (∀ p, p < i → (∀ t, t < 10 → gt ((d * 10 + p) * 10 + t) = nI (kcBec L wk b w d p t 0)) ∧ ga (d * 10 + p) = nI (kcBec L wk b w d p 0 1) ∧ go (d * 10 + p) = nI (kcMB (kcSaid L wk b w d) (fun t => kcBec L wk b w d p t 0) 0)) ∧
  (∀ j, j < d * 100 ∨ d * 100 + 100 ≤ j → gt j = ft j) ∧ ∀ j, j < d * 10 ∨ d * 10 + 10 ≤ j → ga j = fa j ∧ go j = fo j
theorem kfd_0 (L : LkS) (wk b w d : Nat) (ft fa fo : Nat → Int32) : kfd L wk b w d 0 ft ft fa fa fo fo := ⟨fun m hm => absurd hm (Nat.not_lt_zero m), fun _ _ => rfl, fun j _ => ⟨rfl, rfl⟩⟩
def kft (L : LkS) (wk b w d i k : Nat) (gt ht : Nat → Int32) : Prop :=
  (∀ t, t < k → ht ((d * 10 + i) * 10 + t) = nI (kcBec L wk b w d i t 0)) ∧ ∀ j, j < (d * 10 + i) * 10 ∨ (d * 10 + i) * 10 + 10 ≤ j → ht j = gt j
theorem kft_0 (L : LkS) (wk b w d i : Nat) (gt : Nat → Int32) : kft L wk b w d i 0 gt gt := ⟨fun m hm => absurd hm (Nat.not_lt_zero m), fun _ _ => rfl⟩
theorem kft_s {L : LkS} {wk b w d i k : Nat} {gt ht hs : Nat → Int32} {x : Int32} (h : kft L wk b w d i k gt ht) (e : hs = upd ht ((d * 10 + i) * 10 + k) x) (hk : k < 10) (hx : x = nI (kcBec L wk b w d i k 0)) : kft L wk b w d i (k + 1) gt hs := by
  refine ⟨fun t ht2 => ?_, fun j hj => ?_⟩
  · by_cases q : t = k
    · subst q; rw [kui_s e]; exact hx
    · rw [kui_n e (by omega)]; exact h.1 t (by omega)
  · rw [kui_n e (by omega)]; exact h.2 j hj
theorem kfd_s {L : LkS} {wk b w d i : Nat} {ft gt ht fa ga hs fo go ho : Nat → Int32} {x y : Int32} (h : kfd L wk b w d i ft gt fa ga fo go) (h2 : kft L wk b w d i 10 gt ht) (e1 : hs = upd ga (d * 10 + i) x) (e2 : ho = upd go (d * 10 + i) y) (hi : i < 10) (hx : x = nI (kcBec L wk b w d i 0 1)) (hy : y = nI (kcMB (kcSaid L wk b w d) (fun t => kcBec L wk b w d i t 0) 0)) : kfd L wk b w d (i + 1) ft ht fa hs fo ho := by
  refine ⟨fun p hp => ?_, fun j hj => ?_, fun j hj => ?_⟩
  · by_cases q : p = i
    · subst q
      exact ⟨h2.1, by rw [kui_s e1]; exact hx, by rw [kui_s e2]; exact hy⟩
    · obtain ⟨a1, a2, a3⟩ := h.1 p (by omega)
      exact ⟨fun t ht2 => by rw [h2.2 _ (by omega)]; exact a1 t ht2, by rw [kui_n e1 (by omega)]; exact a2, by rw [kui_n e2 (by omega)]; exact a3⟩
  · rw [h2.2 j (by omega)]; exact h.2.1 j hj
  · rw [kui_n e1 (by omega), kui_n e2 (by omega)]; exact h.2.2 j hj
theorem kor_10 {x i : Nat} (hx : x < 1024) (hi : i < 10) : nI x ||| ((1 : Int32) <<< (nI i &&& 31)) = nI (x ||| 2 ^ i) := by
  exact (bt_o1 (n := 10) (by decide) hx hi).1
theorem kK_lt10 (P : Nat → Bool) {i : Nat} (hi : i ≤ 10) : kcK P i < 1024 := Nat.lt_of_lt_of_le (kcK_lt P i) (Nat.pow_le_pow_right (by decide) hi)
/-- a day's rows, whole -/
theorem krow_of {L : LkS} {wk b w d : Nat} {sa sb : Nat → Nat} {fg gb : Nat → Int64} {ft gt fa ga fo go : Nat → Int32} (h1 : kfw L wk b w d 10 sa sb fg gb) (h2 : kfd L wk b w d 10 ft gt fa ga fo go) : kcRow L wk b w d sb gt ga go gb := ⟨h1.1, h2.1⟩
theorem krow_ne {L : LkS} {wk b w d wk2 b2 w2 e : Nat} {sa sb : Nat → Nat} {fg gb : Nat → Int64} {ft gt fa ga fo go : Nat → Int32} (h1 : kfw L wk b w d 10 sa sb fg gb) (h2 : kfd L wk b w d 10 ft gt fa ga fo go) (he : ¬ e = d) (h : kcRow L wk2 b2 w2 e sa ft fa fo fg) : kcRow L wk2 b2 w2 e sb gt ga go gb := by
  refine ⟨fun m hm => ?_, fun p hp => ?_⟩
  · rw [(h1.2 _ (by omega)).1, (h1.2 _ (by omega)).2]; exact h.1 m hm
  · obtain ⟨a1, a2, a3⟩ := h.2 p hp
    exact ⟨fun t ht => by rw [h2.2.1 _ (by omega)]; exact a1 t ht, by rw [(h2.2.2 _ (by omega)).1]; exact a2, by rw [(h2.2.2 _ (by omega)).2]; exact a3⟩
theorem kti_up {L : LkS} {wk b w d : Nat} {sa sb : Nat → Nat} {fg gb : Nat → Int64} {ft gt fa ga fo go fk gk : Nat → Int32} (hT : kcTI L sa ft fa fo fg fk) (h1 : kfw L wk b w d 10 sa sb fg gb) (h2 : kfd L wk b w d 10 ft gt fa ga fo go) (e : gk = upd fk d (nI ((wk * 10 + b) * 10 + w))) (hk : wk ≤ 999) (hb : b ≤ 9) (hw : w ≤ 9) : kcTI L sb gt ga go gb gk := by
  intro d2 wk2 b2 w2 hd2 hk2 hb2 hw2 hq
  by_cases q : d2 = d
  · subst q
    rw [kui_s e] at hq
    have h3 := (neq _ _ (by omega) (by omega)).mp hq
    obtain rfl : wk = wk2 := by omega
    obtain rfl : b = b2 := by omega
    obtain rfl : w = w2 := by omega
    exact krow_of h1 h2
  · rw [kui_n e q] at hq
    exact krow_ne h1 h2 q (hT d2 wk2 b2 w2 hd2 hk2 hb2 hw2 hq)
theorem kwk {L : LkS} {wq wn wh ch : Nat} {y1 : Nat → Int32} (hL : kcLk L) (hc : cdK (lK (lkF L)) ch wh y1) (hq : (wh = 1 ∧ wq = wn) ∨ (wh = 0 ∧ wq = 0)) : kcSaid L wn = kcSaid L wq ∧ kcWage L wn = kcWage L wq ∧ kcBec L wn = kcBec L wq := by
  rcases hq with ⟨h1, rfl⟩ | ⟨h1, rfl⟩
  · exact ⟨rfl, rfl, rfl⟩
  · have h4 : 44 ∉ lK (lkF L) := fun q => absurd (hc.2.1.mpr q) (by omega)
    refine ⟨?_, ?_, ?_⟩
    · funext b w d m
      unfold kcSaid
      rw [kcV_wk (nm2 := kcNm 0 b w d m 0 0) hL (by decide) h4 (fun j hj hj4 => by unfold kcNm; rw [if_neg hj4, if_neg hj4])]
    · funext b w d m
      unfold kcWage
      rw [kcV_wk (nm2 := kcNm 0 b w d m 0 0) hL (by decide) h4 (fun j hj hj4 => by unfold kcNm; rw [if_neg hj4, if_neg hj4])]
    · funext b w d p t al
      unfold kcBec
      rw [kcV_wk (nm2 := kcNm 0 b w d p t al) hL (by decide) h4 (fun j hj hj4 => by unfold kcNm; rw [if_neg hj4, if_neg hj4])]
theorem kfw_wk {L : LkS} {wn wq b w d i : Nat} {sa sb : Nat → Nat} {fg gb : Nat → Int64} (hk : kcSaid L wn = kcSaid L wq ∧ kcWage L wn = kcWage L wq ∧ kcBec L wn = kcBec L wq) (h : kfw L wn b w d i sa sb fg gb) : kfw L wq b w d i sa sb fg gb := by
  unfold kfw at h ⊢
  rw [← hk.1, ← hk.2.1]
  exact h
theorem kfd_wk {L : LkS} {wn wq b w d i : Nat} {ft gt fa ga fo go : Nat → Int32} (hk : kcSaid L wn = kcSaid L wq ∧ kcWage L wn = kcWage L wq ∧ kcBec L wn = kcBec L wq) (h : kfd L wn b w d i ft gt fa ga fo go) : kfd L wq b w d i ft gt fa ga fo go := by
  unfold kfd at h ⊢
  rw [← hk.1, ← hk.2.2]
  exact h
theorem krow_kw {L : LkS} {wn wq b w d : Nat} {sa : Nat → Nat} {fg : Nat → Int64} {ft fa fo : Nat → Int32} (hk : kcSaid L wn = kcSaid L wq ∧ kcWage L wn = kcWage L wq ∧ kcBec L wn = kcBec L wq) (h : kcRow L wq b w d sa ft fa fo fg) : kcRow L wn b w d sa ft fa fo fg := by
  unfold kcRow at h ⊢
  rw [hk.1, hk.2.1, hk.2.2]
  exact h
theorem krows_s {L : LkS} {wq i : Nat} {B W : Nat → Nat} {sa sb : Nat → Nat} {fg gb : Nat → Int64} {ft gt fa ga fo go : Nat → Int32} (h : ∀ e, e < i → kcRow L wq (B e) (W e) e sa ft fa fo fg) (h1 : kfw L wq (B i) (W i) i 10 sa sb fg gb) (h2 : kfd L wq (B i) (W i) i 10 ft gt fa ga fo go) : ∀ e, e < i + 1 → kcRow L wq (B e) (W e) e sb gt ga go gb := fun e he => by
  by_cases q : e = i
  · subst q; exact krow_of h1 h2
  · exact krow_ne h1 h2 q (h e (by omega))
theorem krows_k {L : LkS} {wq i : Nat} {B W : Nat → Nat} {sa : Nat → Nat} {fg : Nat → Int64} {ft fa fo : Nat → Int32} (h : ∀ e, e < i → kcRow L wq (B e) (W e) e sa ft fa fo fg) (h1 : kcRow L wq (B i) (W i) i sa ft fa fo fg) : ∀ e, e < i + 1 → kcRow L wq (B e) (W e) e sa ft fa fo fg := fun e he => by
  by_cases q : e = i
  · subst q; exact h1
  · exact h e (by omega)
set_option maxHeartbeats 4000000 in
set_option maxRecDepth 100000 in
theorem c_knameDay (l : Launch) (D : va_G) (cI cJ cC cZ cS : ClassId) (q : Nat → Nat) (ch : Nat) (wh : Nat) (y3 : Nat → Int64) (o0 : Nat) (o1 : Nat) (o2 : Nat) (dy : Nat) (wn : Nat) (mo : Nat) (ke : Nat) (mu : Int32) (fb : Nat → Int32) (fw : Nat → Int32) (d : Nat) (b : Nat) (w : Nat) (hd : d < 9) (hfbd : fb d = nI b) (hfwd : fw d = nI w) (hb9 : b ≤ 9) (hw9 : w ≤ 9) (hwn : wn ≤ 999) : skM l yX9_nameDay cX9_nameDay 3 none 1 24 0 0 D (skT cI cJ cC cZ cS) [.ref (q 44), .ref o0, .int (nI d)] [(q 44, .inr (0, [.ref (q 49), .ref (q 50), .ref (q 51), .ref (q 52), .int (nI ch), .int (nI wh)])), (q 51, .inl (cJ, 9, .inr (.inl y3))), (o0, .inr (7, [.ref o1, .ref o2, .int (nI dy), .int (nI wn), .int (nI mo), .int mu, .int (nI ke)])), (o1, .inl (cI, 9, .inl fb)), (o2, .inl (cI, 9, .inl fw))] (skV D (skT cI cJ cC cZ cS) (fun (u : va_W) => ∃ (z3 : Nat → Int64), kcDy z3 wn b w d ∧ u = [(q 44, .inr (0, [.ref (q 49), .ref (q 50), .ref (q 51), .ref (q 52), .int (nI ch), .int (nI wh)])), (q 51, .inl (cJ, 9, .inr (.inl z3))), (o0, .inr (7, [.ref o1, .ref o2, .int (nI dy), .int (nI wn), .int (nI mo), .int mu, .int (nI ke)])), (o1, .inl (cI, 9, .inl fb)), (o2, .inl (cI, 9, .inl fw))])) := by
  refine skM_of pf_X9_nameDay (Nat.le_of_ble_eq_true rfl) ?_
  intro p e s m below meth c A ls E hP hD hl
  refine skE_el E (fun hx hb hr hml hlocks hin hown hts hK hA => ?_)
  have hown : s.vm.findClass RX9 = some m.cls := hown
  have hS : va_S A s.heap s.heap [] := va_S.rf
  have hl : lv_has ls 3 [(0, .ref (q 44)), (1, .ref o0), (2, .int (nI d))] := hl
  refine lv_aload_n hx hb dX9_nameDay_0 rfl (lv_at hl 0 rfl) ?_
  refine lv_sipush (v := 10003) hx hb dX9_nameDay_1 (by decide) ?_
  refine lv_iload_n hx hb dX9_nameDay_4 rfl (lv_at hl 2 rfl) ?_
  refine lv_i2l hx hb dX9_nameDay_5 rfl ?_
  refine sk_Vv (q0 := 0) (n := 2) (rest := []) (wr := fmR om_5_18 _) ⟨hx, hb, hml, hown, hts⟩ hl.1 (c_kCode_name l D cI cJ cC cZ cS (q 44) (q 49) (q 50) (q 51) (q 52) ch wh y3 10003 3 (Int32.toInt64 (nI d)) (by decide) (by decide)) w_3_212 w_3_213 w_3_214 w_1_8 w_3_215 hd_X0_name_2 ⟨⟨(Nat.le_of_ble_eq_true rfl), (Nat.le_of_ble_eq_true rfl)⟩, (Nat.le_of_ble_eq_true rfl), (Nat.le_of_ble_eq_true rfl)⟩ hK hP hD hS hA (fmT om_5_18 0) (fmF om_5_18 0) (fm_C1 rfl rfl) (fm_R rfl rfl) (fm_nT om_5_18 0) (fm_nF om_5_18 0) (fm_di om_5_18 0) rfl rfl rfl rfl (Nat.le_of_ble_eq_true rfl) dX9_nameDay_6 (fun u H locs hw hP hD hS => ?_)
  refine exE hw (fun g3_1 hw1 => anE hw1 (fun hg3_2 eu_3 => ?_))
  clear hw hw1
  refine o_mgE (ws' := [(q 44, .inr (0, [.ref (q 49), .ref (q 50), .ref (q 51), .ref (q 52), .int (nI ch), .int (nI wh)])), (q 51, .inl (cJ, 9, .inr (.inl g3_1))), (o0, .inr (7, [.ref o1, .ref o2, .int (nI dy), .int (nI wn), .int (nI mo), .int mu, .int (nI ke)])), (o1, .inl (cI, 9, .inl fb)), (o2, .inl (cI, 9, .inl fw))]) eu_3 hP hD rfl (fun hP hD => ?_)
  refine lv_aload_n hx hb dX9_nameDay_9 rfl (lv_at hl 0 rfl) ?_
  refine lv_sipush (v := 10001) hx hb dX9_nameDay_10 (by decide) ?_
  refine lv_aload_n hx hb dX9_nameDay_13 rfl (lv_at hl 1 rfl) ?_
  refine sk_get (v := .ref o1) (C := RX7) (T := TX7) (N := 7) hx hb hts inlX7 hown hK hP 2 rfl rfl 0 (Nat.le_of_ble_eq_true rfl) w_1_231 rfl dX9_nameDay_14 ?_
  refine lv_iload_n hx hb dX9_nameDay_17 rfl (lv_at hl 2 rfl) ?_
  refine va_iald hx hb hK.1 hP 3 0 rfl rfl (vin d 9 (by omega) (Nat.le_of_ble_eq_true rfl)) dX9_nameDay_18 ?_
  refine sk_top (nI b) (by rw [nI_clamp (by omega)]; exact hfbd) ?_
  refine lv_i2l hx hb dX9_nameDay_19 rfl ?_
  refine sk_Vv (q0 := 0) (n := 2) (rest := []) (wr := fmR om_5_18 _) ⟨hx, hb, hml, hown, hts⟩ hl.1 (c_kCode_name l D cI cJ cC cZ cS (q 44) (q 49) (q 50) (q 51) (q 52) ch wh g3_1 10001 1 (Int32.toInt64 (nI b)) (by decide) (by decide)) w_3_212 w_3_213 w_3_214 w_1_8 w_3_215 hd_X0_name_2 ⟨⟨(Nat.le_of_ble_eq_true rfl), (Nat.le_of_ble_eq_true rfl)⟩, (Nat.le_of_ble_eq_true rfl), (Nat.le_of_ble_eq_true rfl)⟩ hK hP hD hS hA (fmT om_5_18 0) (fmF om_5_18 0) (fm_C1 rfl rfl) (fm_R rfl rfl) (fm_nT om_5_18 0) (fm_nF om_5_18 0) (fm_di om_5_18 0) rfl rfl rfl rfl (Nat.le_of_ble_eq_true rfl) dX9_nameDay_20 (fun u H locs hw hP hD hS => ?_)
  refine exE hw (fun g3_4 hw1 => anE hw1 (fun hg3_5 eu_6 => ?_))
  clear hw hw1
  refine o_mgE (ws' := [(q 44, .inr (0, [.ref (q 49), .ref (q 50), .ref (q 51), .ref (q 52), .int (nI ch), .int (nI wh)])), (q 51, .inl (cJ, 9, .inr (.inl g3_4))), (o0, .inr (7, [.ref o1, .ref o2, .int (nI dy), .int (nI wn), .int (nI mo), .int mu, .int (nI ke)])), (o1, .inl (cI, 9, .inl fb)), (o2, .inl (cI, 9, .inl fw))]) eu_6 hP hD rfl (fun hP hD => ?_)
  refine lv_aload_n hx hb dX9_nameDay_23 rfl (lv_at hl 0 rfl) ?_
  refine lv_sipush (v := 10002) hx hb dX9_nameDay_24 (by decide) ?_
  refine lv_aload_n hx hb dX9_nameDay_27 rfl (lv_at hl 1 rfl) ?_
  refine sk_get (v := .ref o2) (C := RX7) (T := TX7) (N := 7) hx hb hts inlX7 hown hK hP 2 rfl rfl 1 (Nat.le_of_ble_eq_true rfl) w_1_235 rfl dX9_nameDay_28 ?_
  refine lv_iload_n hx hb dX9_nameDay_31 rfl (lv_at hl 2 rfl) ?_
  refine va_iald hx hb hK.1 hP 4 0 rfl rfl (vin d 9 (by omega) (Nat.le_of_ble_eq_true rfl)) dX9_nameDay_32 ?_
  refine sk_top (nI w) (by rw [nI_clamp (by omega)]; exact hfwd) ?_
  refine lv_i2l hx hb dX9_nameDay_33 rfl ?_
  refine sk_Vv (q0 := 0) (n := 2) (rest := []) (wr := fmR om_5_18 _) ⟨hx, hb, hml, hown, hts⟩ hl.1 (c_kCode_name l D cI cJ cC cZ cS (q 44) (q 49) (q 50) (q 51) (q 52) ch wh g3_4 10002 2 (Int32.toInt64 (nI w)) (by decide) (by decide)) w_3_212 w_3_213 w_3_214 w_1_8 w_3_215 hd_X0_name_2 ⟨⟨(Nat.le_of_ble_eq_true rfl), (Nat.le_of_ble_eq_true rfl)⟩, (Nat.le_of_ble_eq_true rfl), (Nat.le_of_ble_eq_true rfl)⟩ hK hP hD hS hA (fmT om_5_18 0) (fmF om_5_18 0) (fm_C1 rfl rfl) (fm_R rfl rfl) (fm_nT om_5_18 0) (fm_nF om_5_18 0) (fm_di om_5_18 0) rfl rfl rfl rfl (Nat.le_of_ble_eq_true rfl) dX9_nameDay_34 (fun u H locs hw hP hD hS => ?_)
  refine exE hw (fun g3_7 hw1 => anE hw1 (fun hg3_8 eu_9 => ?_))
  clear hw hw1
  refine o_mgE (ws' := [(q 44, .inr (0, [.ref (q 49), .ref (q 50), .ref (q 51), .ref (q 52), .int (nI ch), .int (nI wh)])), (q 51, .inl (cJ, 9, .inr (.inl g3_7))), (o0, .inr (7, [.ref o1, .ref o2, .int (nI dy), .int (nI wn), .int (nI mo), .int mu, .int (nI ke)])), (o1, .inl (cI, 9, .inl fb)), (o2, .inl (cI, 9, .inl fw))]) eu_9 hP hD rfl (fun hP hD => ?_)
  refine lv_aload_n hx hb dX9_nameDay_37 rfl (lv_at hl 0 rfl) ?_
  refine lv_sipush (v := 10004) hx hb dX9_nameDay_38 (by decide) ?_
  refine lv_aload_n hx hb dX9_nameDay_41 rfl (lv_at hl 1 rfl) ?_
  refine sk_get (v := .int (nI wn)) (C := RX7) (T := TX7) (N := 7) hx hb hts inlX7 hown hK hP 2 rfl rfl 3 (Nat.le_of_ble_eq_true rfl) w_2_4 rfl dX9_nameDay_42 ?_
  refine lv_i2l hx hb dX9_nameDay_45 rfl ?_
  refine sk_Vv (q0 := 0) (n := 2) (rest := []) (wr := fmR om_5_18 _) ⟨hx, hb, hml, hown, hts⟩ hl.1 (c_kCode_name l D cI cJ cC cZ cS (q 44) (q 49) (q 50) (q 51) (q 52) ch wh g3_7 10004 4 (Int32.toInt64 (nI wn)) (by decide) (by decide)) w_3_212 w_3_213 w_3_214 w_1_8 w_3_215 hd_X0_name_2 ⟨⟨(Nat.le_of_ble_eq_true rfl), (Nat.le_of_ble_eq_true rfl)⟩, (Nat.le_of_ble_eq_true rfl), (Nat.le_of_ble_eq_true rfl)⟩ hK hP hD hS hA (fmT om_5_18 0) (fmF om_5_18 0) (fm_C1 rfl rfl) (fm_R rfl rfl) (fm_nT om_5_18 0) (fm_nF om_5_18 0) (fm_di om_5_18 0) rfl rfl rfl rfl (Nat.le_of_ble_eq_true rfl) dX9_nameDay_46 (fun u H locs hw hP hD hS => ?_)
  refine exE hw (fun g3_10 hw1 => anE hw1 (fun hg3_11 eu_12 => ?_))
  clear hw hw1
  refine o_mgE (ws' := [(q 44, .inr (0, [.ref (q 49), .ref (q 50), .ref (q 51), .ref (q 52), .int (nI ch), .int (nI wh)])), (q 51, .inl (cJ, 9, .inr (.inl g3_10))), (o0, .inr (7, [.ref o1, .ref o2, .int (nI dy), .int (nI wn), .int (nI mo), .int mu, .int (nI ke)])), (o1, .inl (cI, 9, .inl fb)), (o2, .inl (cI, 9, .inl fw))]) eu_12 hP hD rfl (fun hP hD => ?_)
  exact sk_vret hx hb hr hlocks hK hP hD hS (⟨g3_10, kdy_of hg3_2 hg3_5 hg3_8 hg3_11 (by omega) (by omega) (by omega) (by omega), rfl⟩) (Nat.le_of_ble_eq_true rfl) (Nat.le_of_ble_eq_true rfl) dX9_nameDay_49
set_option maxHeartbeats 4000000 in
set_option maxRecDepth 100000 in
theorem c_kfillWords (l : Launch) (D : va_G) (cI cJ cC cZ cS : ClassId) (q : Nat → Nat) (dh : Nat) (mh : Nat) (uh : Int32) (rh : Int32) (nh : Nat) (ch : Nat) (wh : Nat) (y1 : Nat → Int32) (y2 : Nat → Int64) (y3 : Nat → Int64) (y4 : Nat → Int64) (yf : Nat → Int32) (yt : Nat → Int32) (sa : Nat → Nat) (fg : Nat → Int64) (d : Nat) (wk : Nat) (b : Nat) (w : Nat) (L : LkS) (hsa : ∀ j, sa j ≤ 9) (hch : ch ≤ 1600) (hwh : wh ≤ 1) (hd : d < 9) (hLk : kcLk L) (hcd : cdK (lK (lkF L)) ch wh y1) (hsg : ∀ v, v < 3 → sgO (lG (lkF L) v) (yf v) (yt v)) (hdy3 : kcDy y3 wk b w d) : skM l yX9_fillWords cX9_fillWords 6 none 3 75 0 0 D (skT cI cJ cC cZ cS) [.ref (q 10), .ref (q 5), .int (nI d)] [(q 10, .inr (9, [.ref (q 61), .ref (q 62), .ref (q 63), .ref (q 64), .ref (q 65), .ref (q 66)])), (q 61, .inl (cI, 90, .inl (fun j => nI (sa j)))), (q 65, .inl (cJ, 90, .inr (.inl fg))), (q 5, .inr (2, [.ref (q 44), .ref (q 45), .ref (q 46), .ref (q 47), .ref (q 48), .int (nI dh), .int (nI mh), .int uh, .int rh, .int (nI nh)])), (q 44, .inr (0, [.ref (q 49), .ref (q 50), .ref (q 51), .ref (q 52), .int (nI ch), .int (nI wh)])), (q 49, .inl (cI, 1600, .inl y1)), (q 50, .inl (cJ, 64, .inr (.inl y2))), (q 51, .inl (cJ, 9, .inr (.inl y3))), (q 52, .inl (cJ, 10, .inr (.inl y4))), (q 47, .inl (cI, 3, .inl yf)), (q 48, .inl (cI, 3, .inl yt))] (skV D (skT cI cJ cC cZ cS) (fun (u : va_W) => ∃ (sa2 : Nat → Nat), ∃ (fg2 : Nat → Int64), ∃ (z2 : Nat → Int64), ∃ (z3 : Nat → Int64), (∀ j, sa2 j ≤ 9) ∧ kfw L wk b w d 10 sa sa2 fg fg2 ∧ kcDy z3 wk b w d ∧ u = [(q 10, .inr (9, [.ref (q 61), .ref (q 62), .ref (q 63), .ref (q 64), .ref (q 65), .ref (q 66)])), (q 61, .inl (cI, 90, .inl (fun j => nI (sa2 j)))), (q 65, .inl (cJ, 90, .inr (.inl fg2))), (q 5, .inr (2, [.ref (q 44), .ref (q 45), .ref (q 46), .ref (q 47), .ref (q 48), .int (nI dh), .int (nI mh), .int uh, .int rh, .int (nI nh)])), (q 44, .inr (0, [.ref (q 49), .ref (q 50), .ref (q 51), .ref (q 52), .int (nI ch), .int (nI wh)])), (q 49, .inl (cI, 1600, .inl y1)), (q 50, .inl (cJ, 64, .inr (.inl z2))), (q 51, .inl (cJ, 9, .inr (.inl z3))), (q 52, .inl (cJ, 10, .inr (.inl y4))), (q 47, .inl (cI, 3, .inl yf)), (q 48, .inl (cI, 3, .inl yt))])) := by
  refine skM_of pf_X9_fillWords (Nat.le_of_ble_eq_true rfl) ?_
  intro p e s m below meth c A ls E hP hD hl
  refine skE_el E (fun hx hb hr hml hlocks hin hown hts hK hA => ?_)
  have hown : s.vm.findClass RX9 = some m.cls := hown
  have hS : va_S A s.heap s.heap [] := va_S.rf
  have hl : lv_has ls 6 [(0, .ref (q 10)), (1, .ref (q 5)), (2, .int (nI d))] := hl
  refine lv_aload_n hx hb dX9_fillWords_0 rfl (lv_at hl 1 rfl) ?_
  refine sk_get (v := .ref (q 44)) (C := RX2) (T := TX2) (N := 10) hx hb hts inlX2 hown hK hP 3 rfl rfl 0 (Nat.le_of_ble_eq_true rfl) w_1_176 rfl dX9_fillWords_1 ?_
  refine lv_astore_n (lv' := [(3, .ref (q 44)), (0, .ref (q 10)), (1, .ref (q 5)), (2, .int (nI d))]) hx hb dX9_fillWords_4 rfl hl (by decide) rfl (fun ls hl => ?_)
  obtain ⟨p0, hp0⟩ := untN_some (L := L) 3 0 (by decide)
  have hbp0 := kx_bk hLk hp0
  have hsp0 := kx_sg (hsg 0 (by decide)) hp0
  have hlp0 := hsp0.2.2
  obtain ⟨p2, hp2⟩ := untN_some (L := L) 3 2 (by decide)
  have hbp2 := kx_bk hLk hp2
  have hsp2 := kx_sg (hsg 2 (by decide)) hp2
  have hlp2 := hsp2.2.2
  refine lv_iconst (v := 0) hx hb dX9_fillWords_5 ic_0 ?_
  refine lv_istore (lv' := [(4, .int 0), (3, .ref (q 44)), (0, .ref (q 10)), (1, .ref (q 5)), (2, .int (nI d))]) hx hb dX9_fillWords_6 hl (by decide) rfl (fun ls hl => ?_)
  have lp_1 : ∀ (n_2 : Nat) (i : Nat) (sb : Nat → Nat) (gb : Nat → Int64) (u2 : Nat → Int64) (u3 : Nat → Int64) (H : Heap) (locs : List Loc) (ls : Array Slot), 10 - i < n_2 → (∀ j, sb j ≤ 9) → (i ≤ 10) → (kfw L wk b w d i sa sb fg gb) → (kcDy u3 wk b w d) → va_P D vwCl [(q 10, .inr (9, [.ref (q 61), .ref (q 62), .ref (q 63), .ref (q 64), .ref (q 65), .ref (q 66)])), (q 61, .inl (cI, 90, .inl (fun j => nI (sb j)))), (q 65, .inl (cJ, 90, .inr (.inl gb))), (q 5, .inr (2, [.ref (q 44), .ref (q 45), .ref (q 46), .ref (q 47), .ref (q 48), .int (nI dh), .int (nI mh), .int uh, .int rh, .int (nI nh)])), (q 44, .inr (0, [.ref (q 49), .ref (q 50), .ref (q 51), .ref (q 52), .int (nI ch), .int (nI wh)])), (q 49, .inl (cI, 1600, .inl y1)), (q 50, .inl (cJ, 64, .inr (.inl u2))), (q 51, .inl (cJ, 9, .inr (.inl u3))), (q 52, .inl (cJ, 10, .inr (.inl y4))), (q 47, .inl (cI, 3, .inl yf)), (q 48, .inl (cI, 3, .inl yt))] H → va_D A [(q 10, .inr (9, [.ref (q 61), .ref (q 62), .ref (q 63), .ref (q 64), .ref (q 65), .ref (q 66)])), (q 61, .inl (cI, 90, .inl (fun j => nI (sb j)))), (q 65, .inl (cJ, 90, .inr (.inl gb))), (q 5, .inr (2, [.ref (q 44), .ref (q 45), .ref (q 46), .ref (q 47), .ref (q 48), .int (nI dh), .int (nI mh), .int uh, .int rh, .int (nI nh)])), (q 44, .inr (0, [.ref (q 49), .ref (q 50), .ref (q 51), .ref (q 52), .int (nI ch), .int (nI wh)])), (q 49, .inl (cI, 1600, .inl y1)), (q 50, .inl (cJ, 64, .inr (.inl u2))), (q 51, .inl (cJ, 9, .inr (.inl u3))), (q 52, .inl (cJ, 10, .inr (.inl y4))), (q 47, .inl (cI, 3, .inl yf)), (q 48, .inl (cI, 3, .inl yt))] → va_S A s.heap H locs → lv_has ls 6 [(4, .int (nI i)), (3, .ref (q 44)), (0, .ref (q 10)), (1, .ref (q 5)), (2, .int (nI d))] → W p l e { frames := 3, cells := 0, slots := 0, locals := 75 } s m ([.ref (q 10), .ref (q 5), .int (nI d)] : List Value).toArray below meth c H locs 0 0 (MQ below (skV D (skT cI cJ cC cZ cS) (fun (u : va_W) => ∃ (sa2 : Nat → Nat), ∃ (fg2 : Nat → Int64), ∃ (z2 : Nat → Int64), ∃ (z3 : Nat → Int64), (∀ j, sa2 j ≤ 9) ∧ kfw L wk b w d 10 sa sa2 fg fg2 ∧ kcDy z3 wk b w d ∧ u = [(q 10, .inr (9, [.ref (q 61), .ref (q 62), .ref (q 63), .ref (q 64), .ref (q 65), .ref (q 66)])), (q 61, .inl (cI, 90, .inl (fun j => nI (sa2 j)))), (q 65, .inl (cJ, 90, .inr (.inl fg2))), (q 5, .inr (2, [.ref (q 44), .ref (q 45), .ref (q 46), .ref (q 47), .ref (q 48), .int (nI dh), .int (nI mh), .int uh, .int rh, .int (nI nh)])), (q 44, .inr (0, [.ref (q 49), .ref (q 50), .ref (q 51), .ref (q 52), .int (nI ch), .int (nI wh)])), (q 49, .inl (cI, 1600, .inl y1)), (q 50, .inl (cJ, 64, .inr (.inl z2))), (q 51, .inl (cJ, 9, .inr (.inl z3))), (q 52, .inl (cJ, 10, .inr (.inl y4))), (q 47, .inl (cI, 3, .inl yf)), (q 48, .inl (cI, 3, .inl yt))]) A) ([.ref (q 10), .ref (q 5), .int (nI d)] : List Value).toArray s 0 0 A) (F0 m 8 ls []) := by
    intro n_2
    induction n_2 with
    | zero => intro i sb gb u2 u3 H locs ls hm; exact absurd hm (Nat.not_lt_zero _)
    | succ n_2 ih_lp_1 =>
      intro i sb gb u2 u3 H locs ls hm hsb hi hfi hdi hP hD hS hl
      refine lv_iload hx hb dX9_fillWords_8 (lv_at hl 0 rfl) ?_
      refine lv_bipush (v := 10) hx hb dX9_fillWords_10 (by decide) ?_
      refine lv_icmp_ge (tgt := 91) hx hb dX9_fillWords_12 (by decide) (fun c_3 => ?_) (fun c_3 => ?_)
      · have c_3 : 10 ≤ i := (nle 10 i (Nat.le_of_ble_eq_true rfl) (by omega)).mp c_3
        exact sk_vret hx hb hr hlocks hK hP hD hS (⟨sb, gb, u2, u3, hsb, (show kfw L wk b w d 10 sa sb fg gb by rw [show 10 = i by omega]; exact hfi), hdi, rfl⟩) (Nat.le_of_ble_eq_true rfl) (Nat.le_of_ble_eq_true rfl) dX9_fillWords_91
      · have c_3 : ¬ (10 ≤ i) := fun h => c_3 ((nle 10 i (Nat.le_of_ble_eq_true rfl) (by omega)).mpr h)
        refine lv_iload_n hx hb dX9_fillWords_15 rfl (lv_at hl 4 rfl) ?_
        refine lv_bipush (v := 10) hx hb dX9_fillWords_16 (by decide) ?_
        refine lv_imul hx hb dX9_fillWords_18 ?_
        refine sk_top (nI (d * 10)) (nmul d 10) ?_
        refine lv_iload hx hb dX9_fillWords_19 (lv_at hl 0 rfl) ?_
        refine lv_iadd hx hb dX9_fillWords_21 ?_
        refine sk_top (nI (d * 10 + i)) (nI_add (d * 10) i) ?_
        refine lv_istore (lv' := [(5, .int (nI (d * 10 + i))), (4, .int (nI i)), (3, .ref (q 44)), (0, .ref (q 10)), (1, .ref (q 5)), (2, .int (nI d))]) hx hb dX9_fillWords_22 hl (by decide) rfl (fun ls hl => ?_)
        refine lv_aload_n hx hb dX9_fillWords_24 rfl (lv_at hl 2 rfl) ?_
        refine lv_sipush (v := 10000) hx hb dX9_fillWords_25 (by decide) ?_
        refine lv_iload hx hb dX9_fillWords_28 (lv_at hl 1 rfl) ?_
        refine lv_i2l hx hb dX9_fillWords_30 rfl ?_
        refine sk_Vv (q0 := 0) (n := 2) (rest := []) (wr := fmR om_11_48 _) ⟨hx, hb, hml, hown, hts⟩ hl.1 (c_kCode_name l D cI cJ cC cZ cS (q 44) (q 49) (q 50) (q 51) (q 52) ch wh u3 10000 0 (Int32.toInt64 (nI i)) (by decide) (by decide)) w_3_212 w_3_213 w_3_214 w_1_8 w_3_215 hd_X0_name_2 ⟨⟨(Nat.le_of_ble_eq_true rfl), (Nat.le_of_ble_eq_true rfl)⟩, (Nat.le_of_ble_eq_true rfl), (Nat.le_of_ble_eq_true rfl)⟩ hK hP hD hS hA (fmT om_11_48 0) (fmF om_11_48 0) (fm_C1 rfl rfl) (fm_R rfl rfl) (fm_nT om_11_48 0) (fm_nF om_11_48 0) (fm_di om_11_48 0) rfl rfl rfl rfl (Nat.le_of_ble_eq_true rfl) dX9_fillWords_31 (fun u H locs hw hP hD hS => ?_)
        refine exE hw (fun g3_4 hw1 => anE hw1 (fun hg3_5 eu_6 => ?_))
        clear hw hw1
        refine o_mgE (ws' := [(q 10, .inr (9, [.ref (q 61), .ref (q 62), .ref (q 63), .ref (q 64), .ref (q 65), .ref (q 66)])), (q 61, .inl (cI, 90, .inl (fun j => nI (sb j)))), (q 65, .inl (cJ, 90, .inr (.inl gb))), (q 5, .inr (2, [.ref (q 44), .ref (q 45), .ref (q 46), .ref (q 47), .ref (q 48), .int (nI dh), .int (nI mh), .int uh, .int rh, .int (nI nh)])), (q 44, .inr (0, [.ref (q 49), .ref (q 50), .ref (q 51), .ref (q 52), .int (nI ch), .int (nI wh)])), (q 49, .inl (cI, 1600, .inl y1)), (q 50, .inl (cJ, 64, .inr (.inl u2))), (q 51, .inl (cJ, 9, .inr (.inl g3_4))), (q 52, .inl (cJ, 10, .inr (.inl y4))), (q 47, .inl (cI, 3, .inl yf)), (q 48, .inl (cI, 3, .inl yt))]) eu_6 hP hD rfl (fun hP hD => ?_)
        have hd_7 := kdy_up hdi hg3_5 (by decide)
        have hn_8 := (kup_s hg3_5).trans (kx_i2l (by omega))
        refine lv_aload_n hx hb dX9_fillWords_34 rfl (lv_at hl 3 rfl) ?_
        refine sk_get (v := .ref (q 61)) (C := RX9) (T := TX9) (N := 6) hx hb hts inlX9 hown hK hP 0 rfl rfl 0 (Nat.le_of_ble_eq_true rfl) w_2_63 rfl dX9_fillWords_35 ?_
        refine lv_iload hx hb dX9_fillWords_38 (lv_at hl 0 rfl) ?_
        refine lv_aload_n hx hb dX9_fillWords_40 rfl (lv_at hl 2 rfl) ?_
        refine lv_aload_n hx hb dX9_fillWords_41 rfl (lv_at hl 4 rfl) ?_
        refine sk_get (v := .ref (q 47)) (C := RX2) (T := TX2) (N := 10) hx hb hts inlX2 hown hK hP 3 rfl rfl 3 (Nat.le_of_ble_eq_true rfl) w_1_185 rfl dX9_fillWords_42 ?_
        refine lv_iconst (v := 0) hx hb dX9_fillWords_45 ic_0 ?_
        refine va_iald hx hb hK.1 hP 9 0 rfl rfl (by unfold vp_in; decide) dX9_fillWords_46 ?_
        refine sk_top (nI p0.1) (hsp0.1) ?_
        refine lv_aload_n hx hb dX9_fillWords_47 rfl (lv_at hl 4 rfl) ?_
        refine sk_get (v := .ref (q 48)) (C := RX2) (T := TX2) (N := 10) hx hb hts inlX2 hown hK hP 3 rfl rfl 4 (Nat.le_of_ble_eq_true rfl) w_1_187 rfl dX9_fillWords_48 ?_
        refine lv_iconst (v := 0) hx hb dX9_fillWords_51 ic_0 ?_
        refine va_iald hx hb hK.1 hP 10 0 rfl rfl (by unfold vp_in; decide) dX9_fillWords_52 ?_
        refine sk_top (nI p0.2) (hsp0.2.1) ?_
        refine sk_Vl (q0 := 0) (n := 2) (rest := [.int (nI (d * 10 + i)), .ref (q 61)]) (wr := fmR om_11_7c _) ⟨hx, hb, hml, hown, hts⟩ hl.1 (c_kCode_run l D cI cJ cC cZ cS (q 44) (q 49) (q 50) (q 51) (q 52) ch wh y1 u2 g3_4 y4 p0.1 p0.2 (lK (lkF L)) g3_4 (kcV L 0 g3_4) 0 hch hwh hcd.1 hcd (Nat.le_of_lt hbp0.1) hbp0.2 (by omega) (kx_ns hLk rfl hp0) (fun _ _ => rfl) (kx_ex hLk (by decide) hp0 _)) w_3_220 w_3_221 w_3_222 w_1_8 w_3_223 hd_X0_run_2 ⟨⟨(Nat.le_of_ble_eq_true rfl), (Nat.le_of_ble_eq_true rfl)⟩, (Nat.le_of_ble_eq_true rfl), (Nat.le_of_ble_eq_true rfl)⟩ hK hP hD hS hA (fmT om_11_7c 0) (fmF om_11_7c 0) (fm_C1 rfl rfl) (fm_R rfl rfl) (fm_nT om_11_7c 0) (fm_nF om_11_7c 0) (fm_di om_11_7c 0) rfl rfl rfl rfl (Nat.le_of_ble_eq_true rfl) dX9_fillWords_53 (fun r_10 u H locs hw hP hD hS => ?_)
        refine exE hw (fun g2_9 hw1 => anE hw1 (fun er_12 eu_11 => ?_))
        clear hw hw1
        subst er_12
        refine o_mgE (ws' := [(q 10, .inr (9, [.ref (q 61), .ref (q 62), .ref (q 63), .ref (q 64), .ref (q 65), .ref (q 66)])), (q 61, .inl (cI, 90, .inl (fun j => nI (sb j)))), (q 65, .inl (cJ, 90, .inr (.inl gb))), (q 5, .inr (2, [.ref (q 44), .ref (q 45), .ref (q 46), .ref (q 47), .ref (q 48), .int (nI dh), .int (nI mh), .int uh, .int rh, .int (nI nh)])), (q 44, .inr (0, [.ref (q 49), .ref (q 50), .ref (q 51), .ref (q 52), .int (nI ch), .int (nI wh)])), (q 49, .inl (cI, 1600, .inl y1)), (q 50, .inl (cJ, 64, .inr (.inl g2_9))), (q 51, .inl (cJ, 9, .inr (.inl g3_4))), (q 52, .inl (cJ, 10, .inr (.inl y4))), (q 47, .inl (cI, 3, .inl yf)), (q 48, .inl (cI, 3, .inl yt))]) eu_11 hP hD rfl (fun hP hD => ?_)
        refine lv_bipush (v := 10) hx hb dX9_fillWords_56 (by decide) ?_
        refine sk_Si (n := 2) (rest := [.int (nI (d * 10 + i)), .ref (q 61)]) (wr := [(q 10, .inr (9, [.ref (q 61), .ref (q 62), .ref (q 63), .ref (q 64), .ref (q 65), .ref (q 66)])), (q 61, .inl (cI, 90, .inl (fun j => nI (sb j)))), (q 65, .inl (cJ, 90, .inr (.inl gb))), (q 5, .inr (2, [.ref (q 44), .ref (q 45), .ref (q 46), .ref (q 47), .ref (q 48), .int (nI dh), .int (nI mh), .int uh, .int rh, .int (nI nh)])), (q 44, .inr (0, [.ref (q 49), .ref (q 50), .ref (q 51), .ref (q 52), .int (nI ch), .int (nI wh)])), (q 49, .inl (cI, 1600, .inl y1)), (q 50, .inl (cJ, 64, .inr (.inl g2_9))), (q 51, .inl (cJ, 9, .inr (.inl g3_4))), (q 52, .inl (cJ, 10, .inr (.inl y4))), (q 47, .inl (cI, 3, .inl yf)), (q 48, .inl (cI, 3, .inl yt))]) ⟨hx, hb, hml, hown, hts⟩ hl.1 (c_kfloorMod l D cI cJ cC cZ cS (kcV L 0 g3_4)) w_4_7 w_4_8 w_1_3 w_4_9 hd_J9_floorMod_1978a_2 ⟨⟨(Nat.le_of_ble_eq_true rfl), (Nat.le_of_ble_eq_true rfl)⟩, (Nat.le_of_ble_eq_true rfl), (Nat.le_of_ble_eq_true rfl)⟩ hK hP hD hS hA [] [0, 1, 2, 3, 4, 5, 6, 7, 8, 9, 10] rfl rfl (by decide +kernel) (by decide +kernel) (by decide +kernel) rfl rfl (Nat.le_of_ble_eq_true rfl) dX9_fillWords_58 (fun r_13 u H locs hw hP hD hS => ?_)
        obtain ⟨rfl, rfl⟩ := hw
        refine o_re (ws' := [(q 10, .inr (9, [.ref (q 61), .ref (q 62), .ref (q 63), .ref (q 64), .ref (q 65), .ref (q 66)])), (q 61, .inl (cI, 90, .inl (fun j => nI (sb j)))), (q 65, .inl (cJ, 90, .inr (.inl gb))), (q 5, .inr (2, [.ref (q 44), .ref (q 45), .ref (q 46), .ref (q 47), .ref (q 48), .int (nI dh), .int (nI mh), .int uh, .int rh, .int (nI nh)])), (q 44, .inr (0, [.ref (q 49), .ref (q 50), .ref (q 51), .ref (q 52), .int (nI ch), .int (nI wh)])), (q 49, .inl (cI, 1600, .inl y1)), (q 50, .inl (cJ, 64, .inr (.inl g2_9))), (q 51, .inl (cJ, 9, .inr (.inl g3_4))), (q 52, .inl (cJ, 10, .inr (.inl y4))), (q 47, .inl (cI, 3, .inl yf)), (q 48, .inl (cI, 3, .inl yt))]) hP hD rfl (fun hP hD => ?_)
        have hk_14 := kcTen_lt (kcV L 0 g3_4)
        refine sk_iastNE (k := (d * 10 + i)) (v := (kcTen (kcV L 0 g3_4))) (B := 9) (ws' := fun f_15 => [(q 10, .inr (9, [.ref (q 61), .ref (q 62), .ref (q 63), .ref (q 64), .ref (q 65), .ref (q 66)])), (q 61, .inl (cI, 90, .inl (fun j => nI (f_15 j)))), (q 65, .inl (cJ, 90, .inr (.inl gb))), (q 5, .inr (2, [.ref (q 44), .ref (q 45), .ref (q 46), .ref (q 47), .ref (q 48), .int (nI dh), .int (nI mh), .int uh, .int rh, .int (nI nh)])), (q 44, .inr (0, [.ref (q 49), .ref (q 50), .ref (q 51), .ref (q 52), .int (nI ch), .int (nI wh)])), (q 49, .inl (cI, 1600, .inl y1)), (q 50, .inl (cJ, 64, .inr (.inl g2_9))), (q 51, .inl (cJ, 9, .inr (.inl g3_4))), (q 52, .inl (cJ, 10, .inr (.inl y4))), (q 47, .inl (cI, 3, .inl yf)), (q 48, .inl (cI, 3, .inl yt))]) hx hb hK hP hD hS 1 0 rfl rfl (by omega) (by omega) hsb (by omega) (fun _ => rfl) dX9_fillWords_61 (fun f_15 H locs hf_17 ef_16 hP hD hS => ?_)
        refine lv_aload_n hx hb dX9_fillWords_62 rfl (lv_at hl 3 rfl) ?_
        refine sk_get (v := .ref (q 65)) (C := RX9) (T := TX9) (N := 6) hx hb hts inlX9 hown hK hP 0 rfl rfl 4 (Nat.le_of_ble_eq_true rfl) w_2_72 rfl dX9_fillWords_63 ?_
        refine lv_iload hx hb dX9_fillWords_66 (lv_at hl 0 rfl) ?_
        refine lv_aload_n hx hb dX9_fillWords_68 rfl (lv_at hl 2 rfl) ?_
        refine lv_aload_n hx hb dX9_fillWords_69 rfl (lv_at hl 4 rfl) ?_
        refine sk_get (v := .ref (q 47)) (C := RX2) (T := TX2) (N := 10) hx hb hts inlX2 hown hK hP 3 rfl rfl 3 (Nat.le_of_ble_eq_true rfl) w_1_185 rfl dX9_fillWords_70 ?_
        refine lv_iconst (v := 2) hx hb dX9_fillWords_73 ic_2 ?_
        refine va_iald hx hb hK.1 hP 9 0 rfl rfl (by unfold vp_in; decide) dX9_fillWords_74 ?_
        refine sk_top (nI p2.1) (hsp2.1) ?_
        refine lv_aload_n hx hb dX9_fillWords_75 rfl (lv_at hl 4 rfl) ?_
        refine sk_get (v := .ref (q 48)) (C := RX2) (T := TX2) (N := 10) hx hb hts inlX2 hown hK hP 3 rfl rfl 4 (Nat.le_of_ble_eq_true rfl) w_1_187 rfl dX9_fillWords_76 ?_
        refine lv_iconst (v := 2) hx hb dX9_fillWords_79 ic_2 ?_
        refine va_iald hx hb hK.1 hP 10 0 rfl rfl (by unfold vp_in; decide) dX9_fillWords_80 ?_
        refine sk_top (nI p2.2) (hsp2.2.1) ?_
        refine sk_Vl (q0 := 0) (n := 2) (rest := [.int (nI (d * 10 + i)), .ref (q 65)]) (wr := fmR om_11_7c _) ⟨hx, hb, hml, hown, hts⟩ hl.1 (c_kCode_run l D cI cJ cC cZ cS (q 44) (q 49) (q 50) (q 51) (q 52) ch wh y1 g2_9 g3_4 y4 p2.1 p2.2 (lK (lkF L)) g3_4 (kcV L 2 g3_4) 0 hch hwh hcd.1 hcd (Nat.le_of_lt hbp2.1) hbp2.2 (by omega) (kx_ns hLk rfl hp2) (fun _ _ => rfl) (kx_ex hLk (by decide) hp2 _)) w_3_220 w_3_221 w_3_222 w_1_8 w_3_223 hd_X0_run_2 ⟨⟨(Nat.le_of_ble_eq_true rfl), (Nat.le_of_ble_eq_true rfl)⟩, (Nat.le_of_ble_eq_true rfl), (Nat.le_of_ble_eq_true rfl)⟩ hK hP hD hS hA (fmT om_11_7c 0) (fmF om_11_7c 0) (fm_C1 rfl rfl) (fm_R rfl rfl) (fm_nT om_11_7c 0) (fm_nF om_11_7c 0) (fm_di om_11_7c 0) rfl rfl rfl rfl (Nat.le_of_ble_eq_true rfl) dX9_fillWords_81 (fun r_19 u H locs hw hP hD hS => ?_)
        refine exE hw (fun g2_18 hw1 => anE hw1 (fun er_21 eu_20 => ?_))
        clear hw hw1
        subst er_21
        refine o_mgE (ws' := [(q 10, .inr (9, [.ref (q 61), .ref (q 62), .ref (q 63), .ref (q 64), .ref (q 65), .ref (q 66)])), (q 61, .inl (cI, 90, .inl (fun j => nI (f_15 j)))), (q 65, .inl (cJ, 90, .inr (.inl gb))), (q 5, .inr (2, [.ref (q 44), .ref (q 45), .ref (q 46), .ref (q 47), .ref (q 48), .int (nI dh), .int (nI mh), .int uh, .int rh, .int (nI nh)])), (q 44, .inr (0, [.ref (q 49), .ref (q 50), .ref (q 51), .ref (q 52), .int (nI ch), .int (nI wh)])), (q 49, .inl (cI, 1600, .inl y1)), (q 50, .inl (cJ, 64, .inr (.inl g2_18))), (q 51, .inl (cJ, 9, .inr (.inl g3_4))), (q 52, .inl (cJ, 10, .inr (.inl y4))), (q 47, .inl (cI, 3, .inl yf)), (q 48, .inl (cI, 3, .inl yt))]) eu_20 hP hD rfl (fun hP hD => ?_)
        refine sk_lastE (k := (d * 10 + i)) (ws' := fun f_22 => [(q 10, .inr (9, [.ref (q 61), .ref (q 62), .ref (q 63), .ref (q 64), .ref (q 65), .ref (q 66)])), (q 61, .inl (cI, 90, .inl (fun j => nI (f_15 j)))), (q 65, .inl (cJ, 90, .inr (.inl f_22))), (q 5, .inr (2, [.ref (q 44), .ref (q 45), .ref (q 46), .ref (q 47), .ref (q 48), .int (nI dh), .int (nI mh), .int uh, .int rh, .int (nI nh)])), (q 44, .inr (0, [.ref (q 49), .ref (q 50), .ref (q 51), .ref (q 52), .int (nI ch), .int (nI wh)])), (q 49, .inl (cI, 1600, .inl y1)), (q 50, .inl (cJ, 64, .inr (.inl g2_18))), (q 51, .inl (cJ, 9, .inr (.inl g3_4))), (q 52, .inl (cJ, 10, .inr (.inl y4))), (q 47, .inl (cI, 3, .inl yf)), (q 48, .inl (cI, 3, .inl yt))]) hx hb hK hP hD hS 2 1 rfl rfl (by omega) (by omega) (fun _ => rfl) dX9_fillWords_84 (fun f_22 H locs ef_23 hP hD hS => ?_)
        refine lv_iinc (v := nI (i + 1)) (lv' := [(4, .int (nI (i + 1))), (5, .int (nI (d * 10 + i))), (3, .ref (q 44)), (0, .ref (q 10)), (1, .ref (q 5)), (2, .int (nI d))]) hx hb dX9_fillWords_85 hl (k := 1) rfl (ninc i 1 (by decide)) (by decide) rfl (fun ls hl => ?_)
        refine lv_goto (tgt := 8) hx hb dX9_fillWords_88 (by decide) ?_
        exact ih_lp_1 (i + 1) f_15 f_22 g2_18 g3_4 _ _ _ (by omega) hf_17 (by omega) (kfw_s hfi ef_16 ef_23 (by omega) (kx_said hLk hd_7 hn_8) (kx_wage hLk hd_7 hn_8)) hd_7 hP hD hS (lv_sub hl [0, 2, 3, 4, 5] rfl)
  exact lp_1 (10 - 0 + 1) 0 sa fg y2 y3 _ _ _ (Nat.lt_succ_self _) hsa (by omega) (kfw_0 _ _ _ _ _ _ _) hdy3 hP hD hS (lv_sub hl [0, 1, 2, 3, 4] rfl)
theorem kbeq {a b : Nat} (h : a = b) : (a == b) = true := beq_iff_eq.mpr h
set_option maxHeartbeats 4000000 in
set_option maxRecDepth 100000 in
theorem c_kmoodsBehind (l : Launch) (D : va_G) (cI cJ cC cZ cS : ClassId) (q : Nat → Nat) (sa : Nat → Nat) (ft : Nat → Int32) (d : Nat) (ah : Nat) (li : Nat) (S : Nat → Nat) (T : Nat → Nat) (hsa : ∀ j, sa j ≤ 9) (hd : d < 9) (hah : ah < 10) (hli : li < 10) (hSm : ∀ m, m < 10 → sa (d * 10 + m) = S m) (hTm : ∀ t, t < 10 → ft ((d * 10 + ah) * 10 + t) = nI (T t)) (hT9 : ∀ t, T t < 10) : skM l yX9_moodsBehind cX9_moodsBehind 7 (some .int) 0 0 0 0 D (skT cI cJ cC cZ cS) [.ref (q 10), .int (nI d), .int (nI ah), .int (nI li)] [(q 10, .inr (9, [.ref (q 61), .ref (q 62), .ref (q 63), .ref (q 64), .ref (q 65), .ref (q 66)])), (q 61, .inl (cI, 90, .inl (fun j => nI (sa j)))), (q 62, .inl (cI, 900, .inl ft))] (skI D (skT cI cJ cC cZ cS) (fun (r : Int32) (u : va_W) => r = nI (kcMB S T li) ∧ u = [(q 10, .inr (9, [.ref (q 61), .ref (q 62), .ref (q 63), .ref (q 64), .ref (q 65), .ref (q 66)])), (q 61, .inl (cI, 90, .inl (fun j => nI (sa j)))), (q 62, .inl (cI, 900, .inl ft))])) := by
  refine skM_of pf_X9_moodsBehind (Nat.le_of_ble_eq_true rfl) ?_
  intro p e s m below meth c A ls E hP hD hl
  refine skE_el E (fun hx hb hr hml hlocks hin hown hts hK hA => ?_)
  have hown : s.vm.findClass RX9 = some m.cls := hown
  have hS : va_S A s.heap s.heap [] := va_S.rf
  have hl : lv_has ls 7 [(0, .ref (q 10)), (1, .int (nI d)), (2, .int (nI ah)), (3, .int (nI li))] := hl
  refine lv_iconst (v := 0) hx hb dX9_moodsBehind_0 ic_0 ?_
  refine lv_istore (lv' := [(4, .int 0), (0, .ref (q 10)), (1, .int (nI d)), (2, .int (nI ah)), (3, .int (nI li))]) hx hb dX9_moodsBehind_1 hl (by decide) rfl (fun ls hl => ?_)
  refine lv_iconst (v := 0) hx hb dX9_moodsBehind_3 ic_0 ?_
  refine lv_istore (lv' := [(5, .int 0), (4, .int 0), (0, .ref (q 10)), (1, .int (nI d)), (2, .int (nI ah)), (3, .int (nI li))]) hx hb dX9_moodsBehind_4 hl (by decide) rfl (fun ls hl => ?_)
  have lp_1 : ∀ (n_2 : Nat) (i : Nat) (mk : Nat) (H : Heap) (locs : List Loc) (ls : Array Slot), 10 - i < n_2 → (i ≤ 10) → (mk = kcK (fun m => T ((S m + li) % 10) == m) i) → va_P D vwCl [(q 10, .inr (9, [.ref (q 61), .ref (q 62), .ref (q 63), .ref (q 64), .ref (q 65), .ref (q 66)])), (q 61, .inl (cI, 90, .inl (fun j => nI (sa j)))), (q 62, .inl (cI, 900, .inl ft))] H → va_D A [(q 10, .inr (9, [.ref (q 61), .ref (q 62), .ref (q 63), .ref (q 64), .ref (q 65), .ref (q 66)])), (q 61, .inl (cI, 90, .inl (fun j => nI (sa j)))), (q 62, .inl (cI, 900, .inl ft))] → va_S A s.heap H locs → lv_has ls 7 [(5, .int (nI i)), (4, .int (nI mk)), (0, .ref (q 10)), (1, .int (nI d)), (2, .int (nI ah)), (3, .int (nI li))] → W p l e { frames := 0, cells := 0, slots := 0, locals := 0 } s m ([.ref (q 10), .int (nI d), .int (nI ah), .int (nI li)] : List Value).toArray below meth c H locs 0 0 (MQ below (skI D (skT cI cJ cC cZ cS) (fun (r : Int32) (u : va_W) => r = nI (kcMB S T li) ∧ u = [(q 10, .inr (9, [.ref (q 61), .ref (q 62), .ref (q 63), .ref (q 64), .ref (q 65), .ref (q 66)])), (q 61, .inl (cI, 90, .inl (fun j => nI (sa j)))), (q 62, .inl (cI, 900, .inl ft))]) A) ([.ref (q 10), .int (nI d), .int (nI ah), .int (nI li)] : List Value).toArray s 0 0 A) (F0 m 6 ls []) := by
    intro n_2
    induction n_2 with
    | zero => intro i mk H locs ls hm; exact absurd hm (Nat.not_lt_zero _)
    | succ n_2 ih_lp_1 =>
      intro i mk H locs ls hm hi hmk hP hD hS hl
      refine lv_iload hx hb dX9_moodsBehind_6 (lv_at hl 0 rfl) ?_
      refine lv_bipush (v := 10) hx hb dX9_moodsBehind_8 (by decide) ?_
      refine lv_icmp_ge (tgt := 69) hx hb dX9_moodsBehind_10 (by decide) (fun c_3 => ?_) (fun c_3 => ?_)
      · have c_3 : 10 ≤ i := (nle 10 i (Nat.le_of_ble_eq_true rfl) (by omega)).mp c_3
        obtain rfl : i = 10 := by omega
        have hmk2 : mk = kcMB S T li := hmk
        subst hmk2
        refine lv_iload hx hb dX9_moodsBehind_69 (lv_at hl 1 rfl) ?_
        exact sk_iret hx hb hr rfl hlocks hK hP hD hS (⟨rfl, rfl⟩) (Nat.le_of_ble_eq_true rfl) (Nat.le_of_ble_eq_true rfl) dX9_moodsBehind_71
      · have c_3 : ¬ (10 ≤ i) := fun h => c_3 ((nle 10 i (Nat.le_of_ble_eq_true rfl) (by omega)).mpr h)
        refine lv_aload_n hx hb dX9_moodsBehind_13 rfl (lv_at hl 2 rfl) ?_
        refine sk_get (v := .ref (q 61)) (C := RX9) (T := TX9) (N := 6) hx hb hts inlX9 hown hK hP 0 rfl rfl 0 (Nat.le_of_ble_eq_true rfl) w_2_63 rfl dX9_moodsBehind_14 ?_
        refine lv_iload_n hx hb dX9_moodsBehind_17 rfl (lv_at hl 3 rfl) ?_
        refine lv_bipush (v := 10) hx hb dX9_moodsBehind_18 (by decide) ?_
        refine lv_imul hx hb dX9_moodsBehind_20 ?_
        refine sk_top (nI (d * 10)) (nmul d 10) ?_
        refine lv_iload hx hb dX9_moodsBehind_21 (lv_at hl 0 rfl) ?_
        refine lv_iadd hx hb dX9_moodsBehind_23 ?_
        refine sk_top (nI (d * 10 + i)) (nI_add (d * 10) i) ?_
        refine va_iald hx hb hK.1 hP 1 0 rfl rfl (vin (d * 10 + i) 90 (by omega) (Nat.le_of_ble_eq_true rfl)) dX9_moodsBehind_24 ?_
        refine sk_top (nI (sa (d * 10 + i))) (nrd sa (d * 10 + i) (by omega)) ?_
        have hb_4 := hsa (d * 10 + i)
        refine lv_iload_n hx hb dX9_moodsBehind_25 rfl (lv_at hl 5 rfl) ?_
        refine lv_iadd hx hb dX9_moodsBehind_26 ?_
        refine sk_top (nI (sa (d * 10 + i) + li)) (nI_add (sa (d * 10 + i)) li) ?_
        refine lv_bipush (v := 10) hx hb dX9_moodsBehind_27 (by decide) ?_
        refine lv_irem hx hb dX9_moodsBehind_29 (by decide) ?_
        refine sk_top (nI ((sa (d * 10 + i) + li) % 10)) (nrem (sa (d * 10 + i) + li) 10 (by omega) (by omega) (by omega)) ?_
        refine lv_istore (lv' := [(6, .int (nI ((sa (d * 10 + i) + li) % 10))), (5, .int (nI i)), (4, .int (nI mk)), (0, .ref (q 10)), (1, .int (nI d)), (2, .int (nI ah)), (3, .int (nI li))]) hx hb dX9_moodsBehind_30 hl (by decide) rfl (fun ls hl => ?_)
        refine lv_aload_n hx hb dX9_moodsBehind_32 rfl (lv_at hl 3 rfl) ?_
        refine sk_get (v := .ref (q 62)) (C := RX9) (T := TX9) (N := 6) hx hb hts inlX9 hown hK hP 0 rfl rfl 1 (Nat.le_of_ble_eq_true rfl) w_2_65 rfl dX9_moodsBehind_33 ?_
        refine lv_iload_n hx hb dX9_moodsBehind_36 rfl (lv_at hl 4 rfl) ?_
        refine lv_bipush (v := 10) hx hb dX9_moodsBehind_37 (by decide) ?_
        refine lv_imul hx hb dX9_moodsBehind_39 ?_
        refine sk_top (nI (d * 10)) (nmul d 10) ?_
        refine lv_iload_n hx hb dX9_moodsBehind_40 rfl (lv_at hl 5 rfl) ?_
        refine lv_iadd hx hb dX9_moodsBehind_41 ?_
        refine sk_top (nI (d * 10 + ah)) (nI_add (d * 10) ah) ?_
        refine lv_bipush (v := 10) hx hb dX9_moodsBehind_42 (by decide) ?_
        refine lv_imul hx hb dX9_moodsBehind_44 ?_
        refine sk_top (nI ((d * 10 + ah) * 10)) (nmul (d * 10 + ah) 10) ?_
        refine lv_iload hx hb dX9_moodsBehind_45 (lv_at hl 0 rfl) ?_
        refine lv_iadd hx hb dX9_moodsBehind_47 ?_
        refine sk_top (nI ((d * 10 + ah) * 10 + ((sa (d * 10 + i) + li) % 10))) (nI_add ((d * 10 + ah) * 10) ((sa (d * 10 + i) + li) % 10)) ?_
        refine va_iald hx hb hK.1 hP 2 0 rfl rfl (vin ((d * 10 + ah) * 10 + ((sa (d * 10 + i) + li) % 10)) 900 (by omega) (by omega)) dX9_moodsBehind_48 ?_
        have hTi := hT9 ((S i + li) % 10)
        refine sk_top (nI (T ((S i + li) % 10))) (by rw [nI_clamp (by omega), hSm i (by omega)]; exact hTm _ (by omega)) ?_
        refine lv_iload hx hb dX9_moodsBehind_49 (lv_at hl 1 rfl) ?_
        refine lv_icmp_ne (tgt := 63) hx hb dX9_moodsBehind_51 (by decide) (fun c_5 => ?_) (fun c_5 => ?_)
        · have c_5 : ¬ (T ((S i + li) % 10) = i) := fun h => c_5 ((neq (T ((S i + li) % 10)) i (by omega) (by omega)).mpr h)
          refine lv_iinc (v := nI (i + 1)) (lv' := [(5, .int (nI (i + 1))), (6, .int (nI ((sa (d * 10 + i) + li) % 10))), (4, .int (nI mk)), (0, .ref (q 10)), (1, .int (nI d)), (2, .int (nI ah)), (3, .int (nI li))]) hx hb dX9_moodsBehind_63 hl (k := 1) rfl (ninc i 1 (by decide)) (by decide) rfl (fun ls hl => ?_)
          refine lv_goto (tgt := 6) hx hb dX9_moodsBehind_66 (by decide) ?_
          exact ih_lp_1 (i + 1) mk _ _ _ (by omega) (by omega) (by rw [kcK_no (fun m => T ((S m + li) % 10) == m) i (fun hq => c_5 (eq_of_beq hq))]; exact hmk) hP hD hS (lv_sub hl [0, 2, 3, 4, 5, 6] rfl)
        · have c_5 : T ((S i + li) % 10) = i := (neq (T ((S i + li) % 10)) i (by omega) (by omega)).mp c_5
          refine lv_iload hx hb dX9_moodsBehind_54 (lv_at hl 2 rfl) ?_
          refine lv_iconst (v := 1) hx hb dX9_moodsBehind_56 ic_1 ?_
          refine lv_iload hx hb dX9_moodsBehind_57 (lv_at hl 1 rfl) ?_
          refine lv_ishl hx hb dX9_moodsBehind_59 ?_
          refine lv_ior hx hb dX9_moodsBehind_60 ?_
          have hml_ := kK_lt10 (fun m => T ((S m + li) % 10) == m) (show i ≤ 10 by omega)
          rw [← hmk] at hml_
          refine sk_top (nI (mk ||| 2 ^ i)) (kor_10 (by omega) (by omega)) ?_
          refine lv_istore (lv' := [(4, .int (nI (mk ||| 2 ^ i))), (6, .int (nI ((sa (d * 10 + i) + li) % 10))), (5, .int (nI i)), (0, .ref (q 10)), (1, .int (nI d)), (2, .int (nI ah)), (3, .int (nI li))]) hx hb dX9_moodsBehind_61 hl (by decide) rfl (fun ls hl => ?_)
          refine lv_iinc (v := nI (i + 1)) (lv' := [(5, .int (nI (i + 1))), (4, .int (nI (mk ||| 2 ^ i))), (6, .int (nI ((sa (d * 10 + i) + li) % 10))), (0, .ref (q 10)), (1, .int (nI d)), (2, .int (nI ah)), (3, .int (nI li))]) hx hb dX9_moodsBehind_63 hl (k := 2) rfl (ninc i 1 (by decide)) (by decide) rfl (fun ls hl => ?_)
          refine lv_goto (tgt := 6) hx hb dX9_moodsBehind_66 (by decide) ?_
          exact ih_lp_1 (i + 1) (mk ||| 2 ^ i) _ _ _ (by omega) (by omega) (by rw [hmk]; exact kcK_or (fun m => T ((S m + li) % 10) == m) i (kbeq c_5)) hP hD hS (lv_sub hl [0, 1, 3, 4, 5, 6] rfl)
  exact lp_1 (10 - 0 + 1) 0 0 _ _ _ (Nat.lt_succ_self _) (by omega) rfl hP hD hS (lv_sub hl [0, 1, 2, 3, 4, 5] rfl)
theorem kft_10 {P : Prop} (h : P) : P := h
set_option maxHeartbeats 4000000 in
set_option maxRecDepth 100000 in
theorem c_kfillDeeds (l : Launch) (D : va_G) (cI cJ cC cZ cS : ClassId) (q : Nat → Nat) (dh : Nat) (mh : Nat) (uh : Int32) (rh : Int32) (nh : Nat) (ch : Nat) (wh : Nat) (y1 : Nat → Int32) (y2 : Nat → Int64) (y3 : Nat → Int64) (y4 : Nat → Int64) (yf : Nat → Int32) (yt : Nat → Int32) (sa : Nat → Nat) (ft : Nat → Int32) (fa : Nat → Int32) (fo : Nat → Int32) (d : Nat) (wk : Nat) (b : Nat) (w : Nat) (L : LkS) (fg : Nat → Int64) (sa0 : Nat → Nat) (fg0 : Nat → Int64) (hsa : ∀ j, sa j ≤ 9) (hch : ch ≤ 1600) (hwh : wh ≤ 1) (hd : d < 9) (hLk : kcLk L) (hcd : cdK (lK (lkF L)) ch wh y1) (hsg : ∀ v, v < 3 → sgO (lG (lkF L) v) (yf v) (yt v)) (hdy3 : kcDy y3 wk b w d) (hfw2 : kfw L wk b w d 10 sa0 sa fg0 fg) : skM l yX9_fillDeeds cX9_fillDeeds 9 none 3 75 0 0 D (skT cI cJ cC cZ cS) [.ref (q 10), .ref (q 5), .int (nI d)] [(q 10, .inr (9, [.ref (q 61), .ref (q 62), .ref (q 63), .ref (q 64), .ref (q 65), .ref (q 66)])), (q 61, .inl (cI, 90, .inl (fun j => nI (sa j)))), (q 62, .inl (cI, 900, .inl ft)), (q 63, .inl (cI, 90, .inl fa)), (q 64, .inl (cI, 90, .inl fo)), (q 5, .inr (2, [.ref (q 44), .ref (q 45), .ref (q 46), .ref (q 47), .ref (q 48), .int (nI dh), .int (nI mh), .int uh, .int rh, .int (nI nh)])), (q 44, .inr (0, [.ref (q 49), .ref (q 50), .ref (q 51), .ref (q 52), .int (nI ch), .int (nI wh)])), (q 49, .inl (cI, 1600, .inl y1)), (q 50, .inl (cJ, 64, .inr (.inl y2))), (q 51, .inl (cJ, 9, .inr (.inl y3))), (q 52, .inl (cJ, 10, .inr (.inl y4))), (q 47, .inl (cI, 3, .inl yf)), (q 48, .inl (cI, 3, .inl yt))] (skV D (skT cI cJ cC cZ cS) (fun (u : va_W) => ∃ (ft2 : Nat → Int32), ∃ (fa2 : Nat → Int32), ∃ (fo2 : Nat → Int32), ∃ (z2 : Nat → Int64), ∃ (z3 : Nat → Int64), kfd L wk b w d 10 ft ft2 fa fa2 fo fo2 ∧ u = [(q 10, .inr (9, [.ref (q 61), .ref (q 62), .ref (q 63), .ref (q 64), .ref (q 65), .ref (q 66)])), (q 61, .inl (cI, 90, .inl (fun j => nI (sa j)))), (q 62, .inl (cI, 900, .inl ft2)), (q 63, .inl (cI, 90, .inl fa2)), (q 64, .inl (cI, 90, .inl fo2)), (q 5, .inr (2, [.ref (q 44), .ref (q 45), .ref (q 46), .ref (q 47), .ref (q 48), .int (nI dh), .int (nI mh), .int uh, .int rh, .int (nI nh)])), (q 44, .inr (0, [.ref (q 49), .ref (q 50), .ref (q 51), .ref (q 52), .int (nI ch), .int (nI wh)])), (q 49, .inl (cI, 1600, .inl y1)), (q 50, .inl (cJ, 64, .inr (.inl z2))), (q 51, .inl (cJ, 9, .inr (.inl z3))), (q 52, .inl (cJ, 10, .inr (.inl y4))), (q 47, .inl (cI, 3, .inl yf)), (q 48, .inl (cI, 3, .inl yt))])) := by
  refine skM_of pf_X9_fillDeeds (Nat.le_of_ble_eq_true rfl) ?_
  intro p e s m below meth c A ls E hP hD hl
  refine skE_el E (fun hx hb hr hml hlocks hin hown hts hK hA => ?_)
  have hown : s.vm.findClass RX9 = some m.cls := hown
  have hS : va_S A s.heap s.heap [] := va_S.rf
  have hl : lv_has ls 9 [(0, .ref (q 10)), (1, .ref (q 5)), (2, .int (nI d))] := hl
  refine lv_aload_n hx hb dX9_fillDeeds_0 rfl (lv_at hl 1 rfl) ?_
  refine sk_get (v := .ref (q 44)) (C := RX2) (T := TX2) (N := 10) hx hb hts inlX2 hown hK hP 5 rfl rfl 0 (Nat.le_of_ble_eq_true rfl) w_1_176 rfl dX9_fillDeeds_1 ?_
  refine lv_astore_n (lv' := [(3, .ref (q 44)), (0, .ref (q 10)), (1, .ref (q 5)), (2, .int (nI d))]) hx hb dX9_fillDeeds_4 rfl hl (by decide) rfl (fun ls hl => ?_)
  obtain ⟨p1, hp1⟩ := untN_some (L := L) 3 1 (by decide)
  have hbp1 := kx_bk hLk hp1
  have hsp1 := kx_sg (hsg 1 (by decide)) hp1
  have hlp1 := hsp1.2.2
  refine lv_aload_n hx hb dX9_fillDeeds_5 rfl (lv_at hl 2 rfl) ?_
  refine sk_get (v := .ref (q 47)) (C := RX2) (T := TX2) (N := 10) hx hb hts inlX2 hown hK hP 5 rfl rfl 3 (Nat.le_of_ble_eq_true rfl) w_1_185 rfl dX9_fillDeeds_6 ?_
  refine lv_iconst (v := 1) hx hb dX9_fillDeeds_9 ic_1 ?_
  refine va_iald hx hb hK.1 hP 11 0 rfl rfl (by unfold vp_in; decide) dX9_fillDeeds_10 ?_
  refine sk_top (nI p1.1) (hsp1.1) ?_
  refine lv_istore (lv' := [(4, .int (nI p1.1)), (3, .ref (q 44)), (0, .ref (q 10)), (1, .ref (q 5)), (2, .int (nI d))]) hx hb dX9_fillDeeds_11 hl (by decide) rfl (fun ls hl => ?_)
  refine lv_aload_n hx hb dX9_fillDeeds_13 rfl (lv_at hl 3 rfl) ?_
  refine sk_get (v := .ref (q 48)) (C := RX2) (T := TX2) (N := 10) hx hb hts inlX2 hown hK hP 5 rfl rfl 4 (Nat.le_of_ble_eq_true rfl) w_1_187 rfl dX9_fillDeeds_14 ?_
  refine lv_iconst (v := 1) hx hb dX9_fillDeeds_17 ic_1 ?_
  refine va_iald hx hb hK.1 hP 12 0 rfl rfl (by unfold vp_in; decide) dX9_fillDeeds_18 ?_
  refine sk_top (nI p1.2) (hsp1.2.1) ?_
  refine lv_istore (lv' := [(5, .int (nI p1.2)), (4, .int (nI p1.1)), (3, .ref (q 44)), (0, .ref (q 10)), (1, .ref (q 5)), (2, .int (nI d))]) hx hb dX9_fillDeeds_19 hl (by decide) rfl (fun ls hl => ?_)
  refine lv_iconst (v := 0) hx hb dX9_fillDeeds_21 ic_0 ?_
  refine lv_istore (lv' := [(6, .int 0), (5, .int (nI p1.2)), (4, .int (nI p1.1)), (3, .ref (q 44)), (0, .ref (q 10)), (1, .ref (q 5)), (2, .int (nI d))]) hx hb dX9_fillDeeds_22 hl (by decide) rfl (fun ls hl => ?_)
  have lp_1 : ∀ (n_2 : Nat) (i : Nat) (gt : Nat → Int32) (ga : Nat → Int32) (go : Nat → Int32) (u2 : Nat → Int64) (u3 : Nat → Int64) (H : Heap) (locs : List Loc) (ls : Array Slot), 10 - i < n_2 → (i ≤ 10) → (kfd L wk b w d i ft gt fa ga fo go) → (kcDy u3 wk b w d) → va_P D vwCl [(q 10, .inr (9, [.ref (q 61), .ref (q 62), .ref (q 63), .ref (q 64), .ref (q 65), .ref (q 66)])), (q 61, .inl (cI, 90, .inl (fun j => nI (sa j)))), (q 62, .inl (cI, 900, .inl gt)), (q 63, .inl (cI, 90, .inl ga)), (q 64, .inl (cI, 90, .inl go)), (q 5, .inr (2, [.ref (q 44), .ref (q 45), .ref (q 46), .ref (q 47), .ref (q 48), .int (nI dh), .int (nI mh), .int uh, .int rh, .int (nI nh)])), (q 44, .inr (0, [.ref (q 49), .ref (q 50), .ref (q 51), .ref (q 52), .int (nI ch), .int (nI wh)])), (q 49, .inl (cI, 1600, .inl y1)), (q 50, .inl (cJ, 64, .inr (.inl u2))), (q 51, .inl (cJ, 9, .inr (.inl u3))), (q 52, .inl (cJ, 10, .inr (.inl y4))), (q 47, .inl (cI, 3, .inl yf)), (q 48, .inl (cI, 3, .inl yt))] H → va_D A [(q 10, .inr (9, [.ref (q 61), .ref (q 62), .ref (q 63), .ref (q 64), .ref (q 65), .ref (q 66)])), (q 61, .inl (cI, 90, .inl (fun j => nI (sa j)))), (q 62, .inl (cI, 900, .inl gt)), (q 63, .inl (cI, 90, .inl ga)), (q 64, .inl (cI, 90, .inl go)), (q 5, .inr (2, [.ref (q 44), .ref (q 45), .ref (q 46), .ref (q 47), .ref (q 48), .int (nI dh), .int (nI mh), .int uh, .int rh, .int (nI nh)])), (q 44, .inr (0, [.ref (q 49), .ref (q 50), .ref (q 51), .ref (q 52), .int (nI ch), .int (nI wh)])), (q 49, .inl (cI, 1600, .inl y1)), (q 50, .inl (cJ, 64, .inr (.inl u2))), (q 51, .inl (cJ, 9, .inr (.inl u3))), (q 52, .inl (cJ, 10, .inr (.inl y4))), (q 47, .inl (cI, 3, .inl yf)), (q 48, .inl (cI, 3, .inl yt))] → va_S A s.heap H locs → lv_has ls 9 [(6, .int (nI i)), (5, .int (nI p1.2)), (4, .int (nI p1.1)), (3, .ref (q 44)), (0, .ref (q 10)), (1, .ref (q 5)), (2, .int (nI d))] → W p l e { frames := 3, cells := 0, slots := 0, locals := 75 } s m ([.ref (q 10), .ref (q 5), .int (nI d)] : List Value).toArray below meth c H locs 0 0 (MQ below (skV D (skT cI cJ cC cZ cS) (fun (u : va_W) => ∃ (ft2 : Nat → Int32), ∃ (fa2 : Nat → Int32), ∃ (fo2 : Nat → Int32), ∃ (z2 : Nat → Int64), ∃ (z3 : Nat → Int64), kfd L wk b w d 10 ft ft2 fa fa2 fo fo2 ∧ u = [(q 10, .inr (9, [.ref (q 61), .ref (q 62), .ref (q 63), .ref (q 64), .ref (q 65), .ref (q 66)])), (q 61, .inl (cI, 90, .inl (fun j => nI (sa j)))), (q 62, .inl (cI, 900, .inl ft2)), (q 63, .inl (cI, 90, .inl fa2)), (q 64, .inl (cI, 90, .inl fo2)), (q 5, .inr (2, [.ref (q 44), .ref (q 45), .ref (q 46), .ref (q 47), .ref (q 48), .int (nI dh), .int (nI mh), .int uh, .int rh, .int (nI nh)])), (q 44, .inr (0, [.ref (q 49), .ref (q 50), .ref (q 51), .ref (q 52), .int (nI ch), .int (nI wh)])), (q 49, .inl (cI, 1600, .inl y1)), (q 50, .inl (cJ, 64, .inr (.inl z2))), (q 51, .inl (cJ, 9, .inr (.inl z3))), (q 52, .inl (cJ, 10, .inr (.inl y4))), (q 47, .inl (cI, 3, .inl yf)), (q 48, .inl (cI, 3, .inl yt))]) A) ([.ref (q 10), .ref (q 5), .int (nI d)] : List Value).toArray s 0 0 A) (F0 m 24 ls []) := by
    intro n_2
    induction n_2 with
    | zero => intro i gt ga go u2 u3 H locs ls hm; exact absurd hm (Nat.not_lt_zero _)
    | succ n_2 ih_lp_1 =>
      intro i gt ga go u2 u3 H locs ls hm hi hfi hdi hP hD hS hl
      refine lv_iload hx hb dX9_fillDeeds_24 (lv_at hl 0 rfl) ?_
      refine lv_bipush (v := 10) hx hb dX9_fillDeeds_26 (by decide) ?_
      refine lv_icmp_ge (tgt := 167) hx hb dX9_fillDeeds_28 (by decide) (fun c_3 => ?_) (fun c_3 => ?_)
      · have c_3 : 10 ≤ i := (nle 10 i (Nat.le_of_ble_eq_true rfl) (by omega)).mp c_3
        exact sk_vret hx hb hr hlocks hK hP hD hS (⟨gt, ga, go, u2, u3, (show kfd L wk b w d 10 ft gt fa ga fo go by rw [show 10 = i by omega]; exact hfi), rfl⟩) (Nat.le_of_ble_eq_true rfl) (Nat.le_of_ble_eq_true rfl) dX9_fillDeeds_167
      · have c_3 : ¬ (10 ≤ i) := fun h => c_3 ((nle 10 i (Nat.le_of_ble_eq_true rfl) (by omega)).mpr h)
        refine lv_iload_n hx hb dX9_fillDeeds_31 rfl (lv_at hl 6 rfl) ?_
        refine lv_bipush (v := 10) hx hb dX9_fillDeeds_32 (by decide) ?_
        refine lv_imul hx hb dX9_fillDeeds_34 ?_
        refine sk_top (nI (d * 10)) (nmul d 10) ?_
        refine lv_iload hx hb dX9_fillDeeds_35 (lv_at hl 0 rfl) ?_
        refine lv_iadd hx hb dX9_fillDeeds_37 ?_
        refine sk_top (nI (d * 10 + i)) (nI_add (d * 10) i) ?_
        refine lv_istore (lv' := [(7, .int (nI (d * 10 + i))), (6, .int (nI i)), (5, .int (nI p1.2)), (4, .int (nI p1.1)), (3, .ref (q 44)), (0, .ref (q 10)), (1, .ref (q 5)), (2, .int (nI d))]) hx hb dX9_fillDeeds_38 hl (by decide) rfl (fun ls hl => ?_)
        refine lv_aload_n hx hb dX9_fillDeeds_40 rfl (lv_at hl 4 rfl) ?_
        refine lv_sipush (v := 10000) hx hb dX9_fillDeeds_41 (by decide) ?_
        refine lv_iload hx hb dX9_fillDeeds_44 (lv_at hl 1 rfl) ?_
        refine lv_i2l hx hb dX9_fillDeeds_46 rfl ?_
        refine sk_Vv (q0 := 0) (n := 2) (rest := []) (wr := fmR om_13_48 _) ⟨hx, hb, hml, hown, hts⟩ hl.1 (c_kCode_name l D cI cJ cC cZ cS (q 44) (q 49) (q 50) (q 51) (q 52) ch wh u3 10000 0 (Int32.toInt64 (nI i)) (by decide) (by decide)) w_3_212 w_3_213 w_3_214 w_1_8 w_3_215 hd_X0_name_2 ⟨⟨(Nat.le_of_ble_eq_true rfl), (Nat.le_of_ble_eq_true rfl)⟩, (Nat.le_of_ble_eq_true rfl), (Nat.le_of_ble_eq_true rfl)⟩ hK hP hD hS hA (fmT om_13_48 0) (fmF om_13_48 0) (fm_C1 rfl rfl) (fm_R rfl rfl) (fm_nT om_13_48 0) (fm_nF om_13_48 0) (fm_di om_13_48 0) rfl rfl rfl rfl (Nat.le_of_ble_eq_true rfl) dX9_fillDeeds_47 (fun u H locs hw hP hD hS => ?_)
        refine exE hw (fun g3_4 hw1 => anE hw1 (fun hg3_5 eu_6 => ?_))
        clear hw hw1
        refine o_mgE (ws' := [(q 10, .inr (9, [.ref (q 61), .ref (q 62), .ref (q 63), .ref (q 64), .ref (q 65), .ref (q 66)])), (q 61, .inl (cI, 90, .inl (fun j => nI (sa j)))), (q 62, .inl (cI, 900, .inl gt)), (q 63, .inl (cI, 90, .inl ga)), (q 64, .inl (cI, 90, .inl go)), (q 5, .inr (2, [.ref (q 44), .ref (q 45), .ref (q 46), .ref (q 47), .ref (q 48), .int (nI dh), .int (nI mh), .int uh, .int rh, .int (nI nh)])), (q 44, .inr (0, [.ref (q 49), .ref (q 50), .ref (q 51), .ref (q 52), .int (nI ch), .int (nI wh)])), (q 49, .inl (cI, 1600, .inl y1)), (q 50, .inl (cJ, 64, .inr (.inl u2))), (q 51, .inl (cJ, 9, .inr (.inl g3_4))), (q 52, .inl (cJ, 10, .inr (.inl y4))), (q 47, .inl (cI, 3, .inl yf)), (q 48, .inl (cI, 3, .inl yt))]) eu_6 hP hD rfl (fun hP hD => ?_)
        have hd_7 := kdy_up hdi hg3_5 (by decide)
        have hn_8 := (kup_s hg3_5).trans (kx_i2l (by omega))
        refine lv_aload_n hx hb dX9_fillDeeds_50 rfl (lv_at hl 4 rfl) ?_
        refine lv_sipush (v := 10006) hx hb dX9_fillDeeds_51 (by decide) ?_
        refine lv_lconst (v := 1) hx hb dX9_fillDeeds_54 (by decide) ?_
        refine sk_Vv (q0 := 0) (n := 2) (rest := []) (wr := fmR om_13_48 _) ⟨hx, hb, hml, hown, hts⟩ hl.1 (c_kCode_name l D cI cJ cC cZ cS (q 44) (q 49) (q 50) (q 51) (q 52) ch wh g3_4 10006 6 1 (by decide) (by decide)) w_3_212 w_3_213 w_3_214 w_1_8 w_3_215 hd_X0_name_2 ⟨⟨(Nat.le_of_ble_eq_true rfl), (Nat.le_of_ble_eq_true rfl)⟩, (Nat.le_of_ble_eq_true rfl), (Nat.le_of_ble_eq_true rfl)⟩ hK hP hD hS hA (fmT om_13_48 0) (fmF om_13_48 0) (fm_C1 rfl rfl) (fm_R rfl rfl) (fm_nT om_13_48 0) (fm_nF om_13_48 0) (fm_di om_13_48 0) rfl rfl rfl rfl (Nat.le_of_ble_eq_true rfl) dX9_fillDeeds_55 (fun u H locs hw hP hD hS => ?_)
        refine exE hw (fun g3_9 hw1 => anE hw1 (fun hg3_10 eu_11 => ?_))
        clear hw hw1
        refine o_mgE (ws' := [(q 10, .inr (9, [.ref (q 61), .ref (q 62), .ref (q 63), .ref (q 64), .ref (q 65), .ref (q 66)])), (q 61, .inl (cI, 90, .inl (fun j => nI (sa j)))), (q 62, .inl (cI, 900, .inl gt)), (q 63, .inl (cI, 90, .inl ga)), (q 64, .inl (cI, 90, .inl go)), (q 5, .inr (2, [.ref (q 44), .ref (q 45), .ref (q 46), .ref (q 47), .ref (q 48), .int (nI dh), .int (nI mh), .int uh, .int rh, .int (nI nh)])), (q 44, .inr (0, [.ref (q 49), .ref (q 50), .ref (q 51), .ref (q 52), .int (nI ch), .int (nI wh)])), (q 49, .inl (cI, 1600, .inl y1)), (q 50, .inl (cJ, 64, .inr (.inl u2))), (q 51, .inl (cJ, 9, .inr (.inl g3_9))), (q 52, .inl (cJ, 10, .inr (.inl y4))), (q 47, .inl (cI, 3, .inl yf)), (q 48, .inl (cI, 3, .inl yt))]) eu_11 hP hD rfl (fun hP hD => ?_)
        have hd_12 := kdy_up hd_7 hg3_10 (by decide)
        have hn_13 := (kup_n hg3_10 (by decide)).trans hn_8
        have hn_14 := kup_s hg3_10
        refine lv_aload_n hx hb dX9_fillDeeds_58 rfl (lv_at hl 4 rfl) ?_
        refine lv_sipush (v := 10005) hx hb dX9_fillDeeds_59 (by decide) ?_
        refine lv_lconst (v := 0) hx hb dX9_fillDeeds_62 (by decide) ?_
        refine sk_Vv (q0 := 0) (n := 2) (rest := []) (wr := fmR om_13_48 _) ⟨hx, hb, hml, hown, hts⟩ hl.1 (c_kCode_name l D cI cJ cC cZ cS (q 44) (q 49) (q 50) (q 51) (q 52) ch wh g3_9 10005 5 0 (by decide) (by decide)) w_3_212 w_3_213 w_3_214 w_1_8 w_3_215 hd_X0_name_2 ⟨⟨(Nat.le_of_ble_eq_true rfl), (Nat.le_of_ble_eq_true rfl)⟩, (Nat.le_of_ble_eq_true rfl), (Nat.le_of_ble_eq_true rfl)⟩ hK hP hD hS hA (fmT om_13_48 0) (fmF om_13_48 0) (fm_C1 rfl rfl) (fm_R rfl rfl) (fm_nT om_13_48 0) (fm_nF om_13_48 0) (fm_di om_13_48 0) rfl rfl rfl rfl (Nat.le_of_ble_eq_true rfl) dX9_fillDeeds_63 (fun u H locs hw hP hD hS => ?_)
        refine exE hw (fun g3_15 hw1 => anE hw1 (fun hg3_16 eu_17 => ?_))
        clear hw hw1
        refine o_mgE (ws' := [(q 10, .inr (9, [.ref (q 61), .ref (q 62), .ref (q 63), .ref (q 64), .ref (q 65), .ref (q 66)])), (q 61, .inl (cI, 90, .inl (fun j => nI (sa j)))), (q 62, .inl (cI, 900, .inl gt)), (q 63, .inl (cI, 90, .inl ga)), (q 64, .inl (cI, 90, .inl go)), (q 5, .inr (2, [.ref (q 44), .ref (q 45), .ref (q 46), .ref (q 47), .ref (q 48), .int (nI dh), .int (nI mh), .int uh, .int rh, .int (nI nh)])), (q 44, .inr (0, [.ref (q 49), .ref (q 50), .ref (q 51), .ref (q 52), .int (nI ch), .int (nI wh)])), (q 49, .inl (cI, 1600, .inl y1)), (q 50, .inl (cJ, 64, .inr (.inl u2))), (q 51, .inl (cJ, 9, .inr (.inl g3_15))), (q 52, .inl (cJ, 10, .inr (.inl y4))), (q 47, .inl (cI, 3, .inl yf)), (q 48, .inl (cI, 3, .inl yt))]) eu_17 hP hD rfl (fun hP hD => ?_)
        have hd_18 := kdy_up hd_12 hg3_16 (by decide)
        have hn_19 := (kup_n hg3_16 (by decide)).trans hn_13
        have hn_20 := (kup_n hg3_16 (by decide)).trans hn_14
        have hn_21 := kup_s hg3_16
        refine lv_aload_n hx hb dX9_fillDeeds_66 rfl (lv_at hl 5 rfl) ?_
        refine sk_get (v := .ref (q 63)) (C := RX9) (T := TX9) (N := 6) hx hb hts inlX9 hown hK hP 0 rfl rfl 2 (Nat.le_of_ble_eq_true rfl) w_2_67 rfl dX9_fillDeeds_67 ?_
        refine lv_iload hx hb dX9_fillDeeds_70 (lv_at hl 0 rfl) ?_
        refine lv_aload_n hx hb dX9_fillDeeds_72 rfl (lv_at hl 4 rfl) ?_
        refine lv_iload hx hb dX9_fillDeeds_73 (lv_at hl 3 rfl) ?_
        refine lv_iload hx hb dX9_fillDeeds_75 (lv_at hl 2 rfl) ?_
        refine sk_Vl (q0 := 0) (n := 2) (rest := [.int (nI (d * 10 + i)), .ref (q 63)]) (wr := fmR om_13_7c _) ⟨hx, hb, hml, hown, hts⟩ hl.1 (c_kCode_run l D cI cJ cC cZ cS (q 44) (q 49) (q 50) (q 51) (q 52) ch wh y1 u2 g3_15 y4 p1.1 p1.2 (lK (lkF L)) g3_15 (kcV L 1 g3_15) 1 hch hwh hcd.1 hcd (Nat.le_of_lt hbp1.1) hbp1.2 (by omega) (kx_ns hLk rfl hp1) (fun _ _ => rfl) (kx_ex hLk (by decide) hp1 _)) w_3_220 w_3_221 w_3_222 w_1_8 w_3_223 hd_X0_run_2 ⟨⟨(Nat.le_of_ble_eq_true rfl), (Nat.le_of_ble_eq_true rfl)⟩, (Nat.le_of_ble_eq_true rfl), (Nat.le_of_ble_eq_true rfl)⟩ hK hP hD hS hA (fmT om_13_7c 0) (fmF om_13_7c 0) (fm_C1 rfl rfl) (fm_R rfl rfl) (fm_nT om_13_7c 0) (fm_nF om_13_7c 0) (fm_di om_13_7c 0) rfl rfl rfl rfl (Nat.le_of_ble_eq_true rfl) dX9_fillDeeds_77 (fun r_23 u H locs hw hP hD hS => ?_)
        refine exE hw (fun g2_22 hw1 => anE hw1 (fun er_25 eu_24 => ?_))
        clear hw hw1
        subst er_25
        refine o_mgE (ws' := [(q 10, .inr (9, [.ref (q 61), .ref (q 62), .ref (q 63), .ref (q 64), .ref (q 65), .ref (q 66)])), (q 61, .inl (cI, 90, .inl (fun j => nI (sa j)))), (q 62, .inl (cI, 900, .inl gt)), (q 63, .inl (cI, 90, .inl ga)), (q 64, .inl (cI, 90, .inl go)), (q 5, .inr (2, [.ref (q 44), .ref (q 45), .ref (q 46), .ref (q 47), .ref (q 48), .int (nI dh), .int (nI mh), .int uh, .int rh, .int (nI nh)])), (q 44, .inr (0, [.ref (q 49), .ref (q 50), .ref (q 51), .ref (q 52), .int (nI ch), .int (nI wh)])), (q 49, .inl (cI, 1600, .inl y1)), (q 50, .inl (cJ, 64, .inr (.inl g2_22))), (q 51, .inl (cJ, 9, .inr (.inl g3_15))), (q 52, .inl (cJ, 10, .inr (.inl y4))), (q 47, .inl (cI, 3, .inl yf)), (q 48, .inl (cI, 3, .inl yt))]) eu_24 hP hD rfl (fun hP hD => ?_)
        refine lv_bipush (v := 10) hx hb dX9_fillDeeds_80 (by decide) ?_
        refine sk_Si (n := 2) (rest := [.int (nI (d * 10 + i)), .ref (q 63)]) (wr := [(q 10, .inr (9, [.ref (q 61), .ref (q 62), .ref (q 63), .ref (q 64), .ref (q 65), .ref (q 66)])), (q 61, .inl (cI, 90, .inl (fun j => nI (sa j)))), (q 62, .inl (cI, 900, .inl gt)), (q 63, .inl (cI, 90, .inl ga)), (q 64, .inl (cI, 90, .inl go)), (q 5, .inr (2, [.ref (q 44), .ref (q 45), .ref (q 46), .ref (q 47), .ref (q 48), .int (nI dh), .int (nI mh), .int uh, .int rh, .int (nI nh)])), (q 44, .inr (0, [.ref (q 49), .ref (q 50), .ref (q 51), .ref (q 52), .int (nI ch), .int (nI wh)])), (q 49, .inl (cI, 1600, .inl y1)), (q 50, .inl (cJ, 64, .inr (.inl g2_22))), (q 51, .inl (cJ, 9, .inr (.inl g3_15))), (q 52, .inl (cJ, 10, .inr (.inl y4))), (q 47, .inl (cI, 3, .inl yf)), (q 48, .inl (cI, 3, .inl yt))]) ⟨hx, hb, hml, hown, hts⟩ hl.1 (c_kfloorMod l D cI cJ cC cZ cS (kcV L 1 g3_15)) w_4_7 w_4_8 w_1_3 w_4_9 hd_J9_floorMod_1978a_2 ⟨⟨(Nat.le_of_ble_eq_true rfl), (Nat.le_of_ble_eq_true rfl)⟩, (Nat.le_of_ble_eq_true rfl), (Nat.le_of_ble_eq_true rfl)⟩ hK hP hD hS hA [] [0, 1, 2, 3, 4, 5, 6, 7, 8, 9, 10, 11, 12] rfl rfl (by decide +kernel) (by decide +kernel) (by decide +kernel) rfl rfl (Nat.le_of_ble_eq_true rfl) dX9_fillDeeds_82 (fun r_26 u H locs hw hP hD hS => ?_)
        obtain ⟨rfl, rfl⟩ := hw
        refine o_re (ws' := [(q 10, .inr (9, [.ref (q 61), .ref (q 62), .ref (q 63), .ref (q 64), .ref (q 65), .ref (q 66)])), (q 61, .inl (cI, 90, .inl (fun j => nI (sa j)))), (q 62, .inl (cI, 900, .inl gt)), (q 63, .inl (cI, 90, .inl ga)), (q 64, .inl (cI, 90, .inl go)), (q 5, .inr (2, [.ref (q 44), .ref (q 45), .ref (q 46), .ref (q 47), .ref (q 48), .int (nI dh), .int (nI mh), .int uh, .int rh, .int (nI nh)])), (q 44, .inr (0, [.ref (q 49), .ref (q 50), .ref (q 51), .ref (q 52), .int (nI ch), .int (nI wh)])), (q 49, .inl (cI, 1600, .inl y1)), (q 50, .inl (cJ, 64, .inr (.inl g2_22))), (q 51, .inl (cJ, 9, .inr (.inl g3_15))), (q 52, .inl (cJ, 10, .inr (.inl y4))), (q 47, .inl (cI, 3, .inl yf)), (q 48, .inl (cI, 3, .inl yt))]) hP hD rfl (fun hP hD => ?_)
        have hk_27 := kcTen_lt (kcV L 1 g3_15)
        refine sk_iastE (k := (d * 10 + i)) (ws' := fun f_28 => [(q 10, .inr (9, [.ref (q 61), .ref (q 62), .ref (q 63), .ref (q 64), .ref (q 65), .ref (q 66)])), (q 61, .inl (cI, 90, .inl (fun j => nI (sa j)))), (q 62, .inl (cI, 900, .inl gt)), (q 63, .inl (cI, 90, .inl f_28)), (q 64, .inl (cI, 90, .inl go)), (q 5, .inr (2, [.ref (q 44), .ref (q 45), .ref (q 46), .ref (q 47), .ref (q 48), .int (nI dh), .int (nI mh), .int uh, .int rh, .int (nI nh)])), (q 44, .inr (0, [.ref (q 49), .ref (q 50), .ref (q 51), .ref (q 52), .int (nI ch), .int (nI wh)])), (q 49, .inl (cI, 1600, .inl y1)), (q 50, .inl (cJ, 64, .inr (.inl g2_22))), (q 51, .inl (cJ, 9, .inr (.inl g3_15))), (q 52, .inl (cJ, 10, .inr (.inl y4))), (q 47, .inl (cI, 3, .inl yf)), (q 48, .inl (cI, 3, .inl yt))]) hx hb hK hP hD hS 3 0 rfl rfl (by omega) (by omega) (fun _ => rfl) dX9_fillDeeds_85 (fun f_28 H locs ef_29 hP hD hS => ?_)
        refine lv_aload_n hx hb dX9_fillDeeds_86 rfl (lv_at hl 4 rfl) ?_
        refine lv_sipush (v := 10006) hx hb dX9_fillDeeds_87 (by decide) ?_
        refine lv_lconst (v := 0) hx hb dX9_fillDeeds_90 (by decide) ?_
        refine sk_Vv (q0 := 0) (n := 2) (rest := []) (wr := fmR om_13_48 _) ⟨hx, hb, hml, hown, hts⟩ hl.1 (c_kCode_name l D cI cJ cC cZ cS (q 44) (q 49) (q 50) (q 51) (q 52) ch wh g3_15 10006 6 0 (by decide) (by decide)) w_3_212 w_3_213 w_3_214 w_1_8 w_3_215 hd_X0_name_2 ⟨⟨(Nat.le_of_ble_eq_true rfl), (Nat.le_of_ble_eq_true rfl)⟩, (Nat.le_of_ble_eq_true rfl), (Nat.le_of_ble_eq_true rfl)⟩ hK hP hD hS hA (fmT om_13_48 0) (fmF om_13_48 0) (fm_C1 rfl rfl) (fm_R rfl rfl) (fm_nT om_13_48 0) (fm_nF om_13_48 0) (fm_di om_13_48 0) rfl rfl rfl rfl (Nat.le_of_ble_eq_true rfl) dX9_fillDeeds_91 (fun u H locs hw hP hD hS => ?_)
        refine exE hw (fun g3_30 hw1 => anE hw1 (fun hg3_31 eu_32 => ?_))
        clear hw hw1
        refine o_mgE (ws' := [(q 10, .inr (9, [.ref (q 61), .ref (q 62), .ref (q 63), .ref (q 64), .ref (q 65), .ref (q 66)])), (q 61, .inl (cI, 90, .inl (fun j => nI (sa j)))), (q 62, .inl (cI, 900, .inl gt)), (q 63, .inl (cI, 90, .inl f_28)), (q 64, .inl (cI, 90, .inl go)), (q 5, .inr (2, [.ref (q 44), .ref (q 45), .ref (q 46), .ref (q 47), .ref (q 48), .int (nI dh), .int (nI mh), .int uh, .int rh, .int (nI nh)])), (q 44, .inr (0, [.ref (q 49), .ref (q 50), .ref (q 51), .ref (q 52), .int (nI ch), .int (nI wh)])), (q 49, .inl (cI, 1600, .inl y1)), (q 50, .inl (cJ, 64, .inr (.inl g2_22))), (q 51, .inl (cJ, 9, .inr (.inl g3_30))), (q 52, .inl (cJ, 10, .inr (.inl y4))), (q 47, .inl (cI, 3, .inl yf)), (q 48, .inl (cI, 3, .inl yt))]) eu_32 hP hD rfl (fun hP hD => ?_)
        have hd_33 := kdy_up hd_18 hg3_31 (by decide)
        have hn_34 := (kup_n hg3_31 (by decide)).trans hn_19
        have hn_35 := (kup_n hg3_31 (by decide)).trans hn_21
        have hn_36 := kup_s hg3_31
        refine lv_iconst (v := 0) hx hb dX9_fillDeeds_94 ic_0 ?_
        refine lv_istore (lv' := [(8, .int 0), (7, .int (nI (d * 10 + i))), (6, .int (nI i)), (5, .int (nI p1.2)), (4, .int (nI p1.1)), (3, .ref (q 44)), (0, .ref (q 10)), (1, .ref (q 5)), (2, .int (nI d))]) hx hb dX9_fillDeeds_95 hl (by decide) rfl (fun ls hl => ?_)
        have lp_37 : ∀ (n_38 : Nat) (jj : Nat) (gt2 : Nat → Int32) (v2 : Nat → Int64) (v3 : Nat → Int64) (H : Heap) (locs : List Loc) (ls : Array Slot), 10 - jj < n_38 → (jj ≤ 10) → (kft L wk b w d i jj gt gt2) → (kcDy v3 wk b w d) → (v3 0 = Int64.ofNat i) → (v3 6 = Int64.ofNat 0) → va_P D vwCl [(q 10, .inr (9, [.ref (q 61), .ref (q 62), .ref (q 63), .ref (q 64), .ref (q 65), .ref (q 66)])), (q 61, .inl (cI, 90, .inl (fun j => nI (sa j)))), (q 62, .inl (cI, 900, .inl gt2)), (q 63, .inl (cI, 90, .inl f_28)), (q 64, .inl (cI, 90, .inl go)), (q 5, .inr (2, [.ref (q 44), .ref (q 45), .ref (q 46), .ref (q 47), .ref (q 48), .int (nI dh), .int (nI mh), .int uh, .int rh, .int (nI nh)])), (q 44, .inr (0, [.ref (q 49), .ref (q 50), .ref (q 51), .ref (q 52), .int (nI ch), .int (nI wh)])), (q 49, .inl (cI, 1600, .inl y1)), (q 50, .inl (cJ, 64, .inr (.inl v2))), (q 51, .inl (cJ, 9, .inr (.inl v3))), (q 52, .inl (cJ, 10, .inr (.inl y4))), (q 47, .inl (cI, 3, .inl yf)), (q 48, .inl (cI, 3, .inl yt))] H → va_D A [(q 10, .inr (9, [.ref (q 61), .ref (q 62), .ref (q 63), .ref (q 64), .ref (q 65), .ref (q 66)])), (q 61, .inl (cI, 90, .inl (fun j => nI (sa j)))), (q 62, .inl (cI, 900, .inl gt2)), (q 63, .inl (cI, 90, .inl f_28)), (q 64, .inl (cI, 90, .inl go)), (q 5, .inr (2, [.ref (q 44), .ref (q 45), .ref (q 46), .ref (q 47), .ref (q 48), .int (nI dh), .int (nI mh), .int uh, .int rh, .int (nI nh)])), (q 44, .inr (0, [.ref (q 49), .ref (q 50), .ref (q 51), .ref (q 52), .int (nI ch), .int (nI wh)])), (q 49, .inl (cI, 1600, .inl y1)), (q 50, .inl (cJ, 64, .inr (.inl v2))), (q 51, .inl (cJ, 9, .inr (.inl v3))), (q 52, .inl (cJ, 10, .inr (.inl y4))), (q 47, .inl (cI, 3, .inl yf)), (q 48, .inl (cI, 3, .inl yt))] → va_S A s.heap H locs → lv_has ls 9 [(8, .int (nI jj)), (7, .int (nI (d * 10 + i))), (6, .int (nI i)), (5, .int (nI p1.2)), (4, .int (nI p1.1)), (3, .ref (q 44)), (0, .ref (q 10)), (1, .ref (q 5)), (2, .int (nI d))] → W p l e { frames := 3, cells := 0, slots := 0, locals := 75 } s m ([.ref (q 10), .ref (q 5), .int (nI d)] : List Value).toArray below meth c H locs 0 0 (MQ below (skV D (skT cI cJ cC cZ cS) (fun (u : va_W) => ∃ (ft2 : Nat → Int32), ∃ (fa2 : Nat → Int32), ∃ (fo2 : Nat → Int32), ∃ (z2 : Nat → Int64), ∃ (z3 : Nat → Int64), kfd L wk b w d 10 ft ft2 fa fa2 fo fo2 ∧ u = [(q 10, .inr (9, [.ref (q 61), .ref (q 62), .ref (q 63), .ref (q 64), .ref (q 65), .ref (q 66)])), (q 61, .inl (cI, 90, .inl (fun j => nI (sa j)))), (q 62, .inl (cI, 900, .inl ft2)), (q 63, .inl (cI, 90, .inl fa2)), (q 64, .inl (cI, 90, .inl fo2)), (q 5, .inr (2, [.ref (q 44), .ref (q 45), .ref (q 46), .ref (q 47), .ref (q 48), .int (nI dh), .int (nI mh), .int uh, .int rh, .int (nI nh)])), (q 44, .inr (0, [.ref (q 49), .ref (q 50), .ref (q 51), .ref (q 52), .int (nI ch), .int (nI wh)])), (q 49, .inl (cI, 1600, .inl y1)), (q 50, .inl (cJ, 64, .inr (.inl z2))), (q 51, .inl (cJ, 9, .inr (.inl z3))), (q 52, .inl (cJ, 10, .inr (.inl y4))), (q 47, .inl (cI, 3, .inl yf)), (q 48, .inl (cI, 3, .inl yt))]) A) ([.ref (q 10), .ref (q 5), .int (nI d)] : List Value).toArray s 0 0 A) (F0 m 97 ls []) := by
          intro n_38
          induction n_38 with
          | zero => intro jj gt2 v2 v3 H locs ls hm; exact absurd hm (Nat.not_lt_zero _)
          | succ n_38 ih_lp_37 =>
            intro jj gt2 v2 v3 H locs ls hm hjj hfj hdj hj0 hj6 hP hD hS hl
            refine lv_iload hx hb dX9_fillDeeds_97 (lv_at hl 0 rfl) ?_
            refine lv_bipush (v := 10) hx hb dX9_fillDeeds_99 (by decide) ?_
            refine lv_icmp_ge (tgt := 146) hx hb dX9_fillDeeds_101 (by decide) (fun c_39 => ?_) (fun c_39 => ?_)
            · have c_39 : 10 ≤ jj := (nle 10 jj (Nat.le_of_ble_eq_true rfl) (by omega)).mp c_39
              refine lv_aload_n hx hb dX9_fillDeeds_146 rfl (lv_at hl 6 rfl) ?_
              refine sk_get (v := .ref (q 64)) (C := RX9) (T := TX9) (N := 6) hx hb hts inlX9 hown hK hP 0 rfl rfl 3 (Nat.le_of_ble_eq_true rfl) w_2_70 rfl dX9_fillDeeds_147 ?_
              refine lv_iload hx hb dX9_fillDeeds_150 (lv_at hl 1 rfl) ?_
              refine lv_aload_n hx hb dX9_fillDeeds_152 rfl (lv_at hl 6 rfl) ?_
              refine lv_iload_n hx hb dX9_fillDeeds_153 rfl (lv_at hl 8 rfl) ?_
              refine lv_iload hx hb dX9_fillDeeds_154 (lv_at hl 2 rfl) ?_
              refine lv_iconst (v := 0) hx hb dX9_fillDeeds_156 ic_0 ?_
              refine sk_Vi (q0 := 0) (n := 3) (rest := [.int (nI (d * 10 + i)), .ref (q 64)]) (wr := fmR om_13_1c00 _) ⟨hx, hb, hml, hown, hts⟩ hl.1 (c_kmoodsBehind l D cI cJ cC cZ cS q sa gt2 d i 0 (kcSaid L wk b w d) (fun t => kcBec L wk b w d i t 0) hsa hd (by omega) (by omega) (fun m hm => (hfw2.1 m hm).1) (kft_10 (show kft L wk b w d i 10 gt gt2 by rw [show 10 = jj by omega]; exact hfj)).1 (fun t => kcTen_lt _)) w_4_17 w_4_18 w_4_19 w_1_12 w_4_20 hd_X9_moodsBehind_3 ⟨⟨(Nat.le_of_ble_eq_true rfl), (Nat.le_of_ble_eq_true rfl)⟩, (Nat.le_of_ble_eq_true rfl), (Nat.le_of_ble_eq_true rfl)⟩ hK hP hD hS hA (fmT om_13_1c00 0) (fmF om_13_1c00 0) (fm_C1 rfl rfl) (fm_R rfl rfl) (fm_nT om_13_1c00 0) (fm_nF om_13_1c00 0) (fm_di om_13_1c00 0) rfl rfl rfl rfl (Nat.le_of_ble_eq_true rfl) dX9_fillDeeds_157 (fun r_40 u H locs hw hP hD hS => ?_)
              refine anE hw (fun er_42 eu_41 => ?_)
              clear hw
              subst er_42
              refine o_mgE (ws' := [(q 10, .inr (9, [.ref (q 61), .ref (q 62), .ref (q 63), .ref (q 64), .ref (q 65), .ref (q 66)])), (q 61, .inl (cI, 90, .inl (fun j => nI (sa j)))), (q 62, .inl (cI, 900, .inl gt2)), (q 63, .inl (cI, 90, .inl f_28)), (q 64, .inl (cI, 90, .inl go)), (q 5, .inr (2, [.ref (q 44), .ref (q 45), .ref (q 46), .ref (q 47), .ref (q 48), .int (nI dh), .int (nI mh), .int uh, .int rh, .int (nI nh)])), (q 44, .inr (0, [.ref (q 49), .ref (q 50), .ref (q 51), .ref (q 52), .int (nI ch), .int (nI wh)])), (q 49, .inl (cI, 1600, .inl y1)), (q 50, .inl (cJ, 64, .inr (.inl v2))), (q 51, .inl (cJ, 9, .inr (.inl v3))), (q 52, .inl (cJ, 10, .inr (.inl y4))), (q 47, .inl (cI, 3, .inl yf)), (q 48, .inl (cI, 3, .inl yt))]) eu_41 hP hD rfl (fun hP hD => ?_)
              refine sk_iastE (k := (d * 10 + i)) (ws' := fun f_43 => [(q 10, .inr (9, [.ref (q 61), .ref (q 62), .ref (q 63), .ref (q 64), .ref (q 65), .ref (q 66)])), (q 61, .inl (cI, 90, .inl (fun j => nI (sa j)))), (q 62, .inl (cI, 900, .inl gt2)), (q 63, .inl (cI, 90, .inl f_28)), (q 64, .inl (cI, 90, .inl f_43)), (q 5, .inr (2, [.ref (q 44), .ref (q 45), .ref (q 46), .ref (q 47), .ref (q 48), .int (nI dh), .int (nI mh), .int uh, .int rh, .int (nI nh)])), (q 44, .inr (0, [.ref (q 49), .ref (q 50), .ref (q 51), .ref (q 52), .int (nI ch), .int (nI wh)])), (q 49, .inl (cI, 1600, .inl y1)), (q 50, .inl (cJ, 64, .inr (.inl v2))), (q 51, .inl (cJ, 9, .inr (.inl v3))), (q 52, .inl (cJ, 10, .inr (.inl y4))), (q 47, .inl (cI, 3, .inl yf)), (q 48, .inl (cI, 3, .inl yt))]) hx hb hK hP hD hS 4 0 rfl rfl (by omega) (by omega) (fun _ => rfl) dX9_fillDeeds_160 (fun f_43 H locs ef_44 hP hD hS => ?_)
              refine lv_iinc (v := nI (i + 1)) (lv' := [(6, .int (nI (i + 1))), (8, .int (nI jj)), (7, .int (nI (d * 10 + i))), (5, .int (nI p1.2)), (4, .int (nI p1.1)), (3, .ref (q 44)), (0, .ref (q 10)), (1, .ref (q 5)), (2, .int (nI d))]) hx hb dX9_fillDeeds_161 hl (k := 2) rfl (ninc i 1 (by decide)) (by decide) rfl (fun ls hl => ?_)
              refine lv_goto (tgt := 24) hx hb dX9_fillDeeds_164 (by decide) ?_
              exact ih_lp_1 (i + 1) gt2 f_28 f_43 v2 v3 _ _ _ (by omega) (by omega) (kfd_s hfi (show kft L wk b w d i 10 gt gt2 by rw [show 10 = jj by omega]; exact hfj) ef_29 ef_44 (by omega) (congrArg nI (kx_bec hLk hd_18 hn_19 hn_21 hn_20)) rfl) hdj hP hD hS (lv_sub hl [0, 3, 4, 5, 6, 7, 8] rfl)
            · have c_39 : ¬ (10 ≤ jj) := fun h => c_39 ((nle 10 jj (Nat.le_of_ble_eq_true rfl) (by omega)).mpr h)
              refine lv_aload_n hx hb dX9_fillDeeds_104 rfl (lv_at hl 5 rfl) ?_
              refine lv_sipush (v := 10005) hx hb dX9_fillDeeds_105 (by decide) ?_
              refine lv_iload hx hb dX9_fillDeeds_108 (lv_at hl 0 rfl) ?_
              refine lv_i2l hx hb dX9_fillDeeds_110 rfl ?_
              refine sk_Vv (q0 := 0) (n := 2) (rest := []) (wr := fmR om_13_48 _) ⟨hx, hb, hml, hown, hts⟩ hl.1 (c_kCode_name l D cI cJ cC cZ cS (q 44) (q 49) (q 50) (q 51) (q 52) ch wh v3 10005 5 (Int32.toInt64 (nI jj)) (by decide) (by decide)) w_3_212 w_3_213 w_3_214 w_1_8 w_3_215 hd_X0_name_2 ⟨⟨(Nat.le_of_ble_eq_true rfl), (Nat.le_of_ble_eq_true rfl)⟩, (Nat.le_of_ble_eq_true rfl), (Nat.le_of_ble_eq_true rfl)⟩ hK hP hD hS hA (fmT om_13_48 0) (fmF om_13_48 0) (fm_C1 rfl rfl) (fm_R rfl rfl) (fm_nT om_13_48 0) (fm_nF om_13_48 0) (fm_di om_13_48 0) rfl rfl rfl rfl (Nat.le_of_ble_eq_true rfl) dX9_fillDeeds_111 (fun u H locs hw hP hD hS => ?_)
              refine exE hw (fun g3_45 hw1 => anE hw1 (fun hg3_46 eu_47 => ?_))
              clear hw hw1
              refine o_mgE (ws' := [(q 10, .inr (9, [.ref (q 61), .ref (q 62), .ref (q 63), .ref (q 64), .ref (q 65), .ref (q 66)])), (q 61, .inl (cI, 90, .inl (fun j => nI (sa j)))), (q 62, .inl (cI, 900, .inl gt2)), (q 63, .inl (cI, 90, .inl f_28)), (q 64, .inl (cI, 90, .inl go)), (q 5, .inr (2, [.ref (q 44), .ref (q 45), .ref (q 46), .ref (q 47), .ref (q 48), .int (nI dh), .int (nI mh), .int uh, .int rh, .int (nI nh)])), (q 44, .inr (0, [.ref (q 49), .ref (q 50), .ref (q 51), .ref (q 52), .int (nI ch), .int (nI wh)])), (q 49, .inl (cI, 1600, .inl y1)), (q 50, .inl (cJ, 64, .inr (.inl v2))), (q 51, .inl (cJ, 9, .inr (.inl g3_45))), (q 52, .inl (cJ, 10, .inr (.inl y4))), (q 47, .inl (cI, 3, .inl yf)), (q 48, .inl (cI, 3, .inl yt))]) eu_47 hP hD rfl (fun hP hD => ?_)
              have hd_48 := kdy_up hdj hg3_46 (by decide)
              have hn_49 := (kup_n hg3_46 (by decide)).trans hj0
              have hn_50 := (kup_n hg3_46 (by decide)).trans hj6
              have hn_51 := (kup_s hg3_46).trans (kx_i2l (by omega))
              refine lv_aload_n hx hb dX9_fillDeeds_114 rfl (lv_at hl 6 rfl) ?_
              refine sk_get (v := .ref (q 62)) (C := RX9) (T := TX9) (N := 6) hx hb hts inlX9 hown hK hP 0 rfl rfl 1 (Nat.le_of_ble_eq_true rfl) w_2_65 rfl dX9_fillDeeds_115 ?_
              refine lv_iload hx hb dX9_fillDeeds_118 (lv_at hl 1 rfl) ?_
              refine lv_bipush (v := 10) hx hb dX9_fillDeeds_120 (by decide) ?_
              refine lv_imul hx hb dX9_fillDeeds_122 ?_
              refine sk_top (nI ((d * 10 + i) * 10)) (nmul (d * 10 + i) 10) ?_
              refine lv_iload hx hb dX9_fillDeeds_123 (lv_at hl 0 rfl) ?_
              refine lv_iadd hx hb dX9_fillDeeds_125 ?_
              refine sk_top (nI ((d * 10 + i) * 10 + jj)) (nI_add ((d * 10 + i) * 10) jj) ?_
              refine lv_aload_n hx hb dX9_fillDeeds_126 rfl (lv_at hl 5 rfl) ?_
              refine lv_iload hx hb dX9_fillDeeds_127 (lv_at hl 4 rfl) ?_
              refine lv_iload hx hb dX9_fillDeeds_129 (lv_at hl 3 rfl) ?_
              refine sk_Vl (q0 := 0) (n := 2) (rest := [.int (nI ((d * 10 + i) * 10 + jj)), .ref (q 62)]) (wr := fmR om_13_7c _) ⟨hx, hb, hml, hown, hts⟩ hl.1 (c_kCode_run l D cI cJ cC cZ cS (q 44) (q 49) (q 50) (q 51) (q 52) ch wh y1 v2 g3_45 y4 p1.1 p1.2 (lK (lkF L)) g3_45 (kcV L 1 g3_45) 1 hch hwh hcd.1 hcd (Nat.le_of_lt hbp1.1) hbp1.2 (by omega) (kx_ns hLk rfl hp1) (fun _ _ => rfl) (kx_ex hLk (by decide) hp1 _)) w_3_220 w_3_221 w_3_222 w_1_8 w_3_223 hd_X0_run_2 ⟨⟨(Nat.le_of_ble_eq_true rfl), (Nat.le_of_ble_eq_true rfl)⟩, (Nat.le_of_ble_eq_true rfl), (Nat.le_of_ble_eq_true rfl)⟩ hK hP hD hS hA (fmT om_13_7c 0) (fmF om_13_7c 0) (fm_C1 rfl rfl) (fm_R rfl rfl) (fm_nT om_13_7c 0) (fm_nF om_13_7c 0) (fm_di om_13_7c 0) rfl rfl rfl rfl (Nat.le_of_ble_eq_true rfl) dX9_fillDeeds_131 (fun r_53 u H locs hw hP hD hS => ?_)
              refine exE hw (fun g2_52 hw1 => anE hw1 (fun er_55 eu_54 => ?_))
              clear hw hw1
              subst er_55
              refine o_mgE (ws' := [(q 10, .inr (9, [.ref (q 61), .ref (q 62), .ref (q 63), .ref (q 64), .ref (q 65), .ref (q 66)])), (q 61, .inl (cI, 90, .inl (fun j => nI (sa j)))), (q 62, .inl (cI, 900, .inl gt2)), (q 63, .inl (cI, 90, .inl f_28)), (q 64, .inl (cI, 90, .inl go)), (q 5, .inr (2, [.ref (q 44), .ref (q 45), .ref (q 46), .ref (q 47), .ref (q 48), .int (nI dh), .int (nI mh), .int uh, .int rh, .int (nI nh)])), (q 44, .inr (0, [.ref (q 49), .ref (q 50), .ref (q 51), .ref (q 52), .int (nI ch), .int (nI wh)])), (q 49, .inl (cI, 1600, .inl y1)), (q 50, .inl (cJ, 64, .inr (.inl g2_52))), (q 51, .inl (cJ, 9, .inr (.inl g3_45))), (q 52, .inl (cJ, 10, .inr (.inl y4))), (q 47, .inl (cI, 3, .inl yf)), (q 48, .inl (cI, 3, .inl yt))]) eu_54 hP hD rfl (fun hP hD => ?_)
              refine lv_bipush (v := 10) hx hb dX9_fillDeeds_134 (by decide) ?_
              refine sk_Si (n := 2) (rest := [.int (nI ((d * 10 + i) * 10 + jj)), .ref (q 62)]) (wr := [(q 10, .inr (9, [.ref (q 61), .ref (q 62), .ref (q 63), .ref (q 64), .ref (q 65), .ref (q 66)])), (q 61, .inl (cI, 90, .inl (fun j => nI (sa j)))), (q 62, .inl (cI, 900, .inl gt2)), (q 63, .inl (cI, 90, .inl f_28)), (q 64, .inl (cI, 90, .inl go)), (q 5, .inr (2, [.ref (q 44), .ref (q 45), .ref (q 46), .ref (q 47), .ref (q 48), .int (nI dh), .int (nI mh), .int uh, .int rh, .int (nI nh)])), (q 44, .inr (0, [.ref (q 49), .ref (q 50), .ref (q 51), .ref (q 52), .int (nI ch), .int (nI wh)])), (q 49, .inl (cI, 1600, .inl y1)), (q 50, .inl (cJ, 64, .inr (.inl g2_52))), (q 51, .inl (cJ, 9, .inr (.inl g3_45))), (q 52, .inl (cJ, 10, .inr (.inl y4))), (q 47, .inl (cI, 3, .inl yf)), (q 48, .inl (cI, 3, .inl yt))]) ⟨hx, hb, hml, hown, hts⟩ hl.1 (c_kfloorMod l D cI cJ cC cZ cS (kcV L 1 g3_45)) w_4_7 w_4_8 w_1_3 w_4_9 hd_J9_floorMod_1978a_2 ⟨⟨(Nat.le_of_ble_eq_true rfl), (Nat.le_of_ble_eq_true rfl)⟩, (Nat.le_of_ble_eq_true rfl), (Nat.le_of_ble_eq_true rfl)⟩ hK hP hD hS hA [] [0, 1, 2, 3, 4, 5, 6, 7, 8, 9, 10, 11, 12] rfl rfl (by decide +kernel) (by decide +kernel) (by decide +kernel) rfl rfl (Nat.le_of_ble_eq_true rfl) dX9_fillDeeds_136 (fun r_56 u H locs hw hP hD hS => ?_)
              obtain ⟨rfl, rfl⟩ := hw
              refine o_re (ws' := [(q 10, .inr (9, [.ref (q 61), .ref (q 62), .ref (q 63), .ref (q 64), .ref (q 65), .ref (q 66)])), (q 61, .inl (cI, 90, .inl (fun j => nI (sa j)))), (q 62, .inl (cI, 900, .inl gt2)), (q 63, .inl (cI, 90, .inl f_28)), (q 64, .inl (cI, 90, .inl go)), (q 5, .inr (2, [.ref (q 44), .ref (q 45), .ref (q 46), .ref (q 47), .ref (q 48), .int (nI dh), .int (nI mh), .int uh, .int rh, .int (nI nh)])), (q 44, .inr (0, [.ref (q 49), .ref (q 50), .ref (q 51), .ref (q 52), .int (nI ch), .int (nI wh)])), (q 49, .inl (cI, 1600, .inl y1)), (q 50, .inl (cJ, 64, .inr (.inl g2_52))), (q 51, .inl (cJ, 9, .inr (.inl g3_45))), (q 52, .inl (cJ, 10, .inr (.inl y4))), (q 47, .inl (cI, 3, .inl yf)), (q 48, .inl (cI, 3, .inl yt))]) hP hD rfl (fun hP hD => ?_)
              have hk_57 := kcTen_lt (kcV L 1 g3_45)
              refine sk_iastE (k := ((d * 10 + i) * 10 + jj)) (ws' := fun f_58 => [(q 10, .inr (9, [.ref (q 61), .ref (q 62), .ref (q 63), .ref (q 64), .ref (q 65), .ref (q 66)])), (q 61, .inl (cI, 90, .inl (fun j => nI (sa j)))), (q 62, .inl (cI, 900, .inl f_58)), (q 63, .inl (cI, 90, .inl f_28)), (q 64, .inl (cI, 90, .inl go)), (q 5, .inr (2, [.ref (q 44), .ref (q 45), .ref (q 46), .ref (q 47), .ref (q 48), .int (nI dh), .int (nI mh), .int uh, .int rh, .int (nI nh)])), (q 44, .inr (0, [.ref (q 49), .ref (q 50), .ref (q 51), .ref (q 52), .int (nI ch), .int (nI wh)])), (q 49, .inl (cI, 1600, .inl y1)), (q 50, .inl (cJ, 64, .inr (.inl g2_52))), (q 51, .inl (cJ, 9, .inr (.inl g3_45))), (q 52, .inl (cJ, 10, .inr (.inl y4))), (q 47, .inl (cI, 3, .inl yf)), (q 48, .inl (cI, 3, .inl yt))]) hx hb hK hP hD hS 2 0 rfl rfl (by omega) (by omega) (fun _ => rfl) dX9_fillDeeds_139 (fun f_58 H locs ef_59 hP hD hS => ?_)
              refine lv_iinc (v := nI (jj + 1)) (lv' := [(8, .int (nI (jj + 1))), (7, .int (nI (d * 10 + i))), (6, .int (nI i)), (5, .int (nI p1.2)), (4, .int (nI p1.1)), (3, .ref (q 44)), (0, .ref (q 10)), (1, .ref (q 5)), (2, .int (nI d))]) hx hb dX9_fillDeeds_140 hl (k := 0) rfl (ninc jj 1 (by decide)) (by decide) rfl (fun ls hl => ?_)
              refine lv_goto (tgt := 97) hx hb dX9_fillDeeds_143 (by decide) ?_
              exact ih_lp_37 (jj + 1) f_58 g2_52 g3_45 _ _ _ (by omega) (by omega) (kft_s hfj ef_59 (by omega) (congrArg nI (kx_bec hLk hd_48 hn_49 hn_51 hn_50))) hd_48 hn_49 hn_50 hP hD hS (lv_sub hl [0, 1, 2, 3, 4, 5, 6, 7, 8] rfl)
        exact lp_37 (10 - 0 + 1) 0 gt g2_22 g3_30 _ _ _ (Nat.lt_succ_self _) (by omega) (kft_0 _ _ _ _ _ _ _) hd_33 hn_34 hn_36 hP hD hS (lv_sub hl [0, 1, 2, 3, 4, 5, 6, 7, 8] rfl)
  exact lp_1 (10 - 0 + 1) 0 ft fa fo y2 y3 _ _ _ (Nat.lt_succ_self _) (by omega) (kfd_0 _ _ _ _ _ _ _ _) hdy3 hP hD hS (lv_sub hl [0, 1, 2, 3, 4, 5, 6] rfl)
set_option maxHeartbeats 4000000 in
set_option maxRecDepth 100000 in
theorem c_kfit (l : Launch) (D : va_G) (cI cJ cC cZ cS : ClassId) (q : Nat → Nat) (dh : Nat) (mh : Nat) (uh : Int32) (rh : Int32) (nh : Nat) (ch : Nat) (wh : Nat) (y1 : Nat → Int32) (y2 : Nat → Int64) (y3 : Nat → Int64) (y4 : Nat → Int64) (yf : Nat → Int32) (yt : Nat → Int32) (sa : Nat → Nat) (ft : Nat → Int32) (fa : Nat → Int32) (fo : Nat → Int32) (fg : Nat → Int64) (fk : Nat → Int32) (o0 : Nat) (o1 : Nat) (o2 : Nat) (dy : Nat) (wn : Nat) (mo : Nat) (ke : Nat) (mu : Int32) (fb : Nat → Int32) (fw : Nat → Int32) (Ba : Nat → Nat) (We : Nat → Nat) (L : LkS) (hsa : ∀ j, sa j ≤ 9) (hch : ch ≤ 1600) (hwh : wh ≤ 1) (hdy : dy ≤ 9) (hmo : mo ≤ 9) (hLk : kcLk L) (hcd : cdK (lK (lkF L)) ch wh y1) (hsg : ∀ v, v < 3 → sgO (lG (lkF L) v) (yf v) (yt v)) (hfb : ∀ j, j < 9 → fb j = nI (Ba j)) (hfw : ∀ j, j < 9 → fw j = nI (We j)) (hB9 : ∀ j, Ba j ≤ 9) (hW9 : ∀ j, We j ≤ 9) (hwn : wn ≤ 999) (hti : kcTI L sa ft fa fo fg fk) : skM l yX9_fit cX9_fit 6 none 4 103 0 0 D (skT cI cJ cC cZ cS) [.ref (q 10), .ref (q 5), .ref o0] [(q 10, .inr (9, [.ref (q 61), .ref (q 62), .ref (q 63), .ref (q 64), .ref (q 65), .ref (q 66)])), (q 61, .inl (cI, 90, .inl (fun j => nI (sa j)))), (q 62, .inl (cI, 900, .inl ft)), (q 63, .inl (cI, 90, .inl fa)), (q 64, .inl (cI, 90, .inl fo)), (q 65, .inl (cJ, 90, .inr (.inl fg))), (q 66, .inl (cI, 9, .inl fk)), (q 5, .inr (2, [.ref (q 44), .ref (q 45), .ref (q 46), .ref (q 47), .ref (q 48), .int (nI dh), .int (nI mh), .int uh, .int rh, .int (nI nh)])), (q 44, .inr (0, [.ref (q 49), .ref (q 50), .ref (q 51), .ref (q 52), .int (nI ch), .int (nI wh)])), (q 49, .inl (cI, 1600, .inl y1)), (q 50, .inl (cJ, 64, .inr (.inl y2))), (q 51, .inl (cJ, 9, .inr (.inl y3))), (q 52, .inl (cJ, 10, .inr (.inl y4))), (q 47, .inl (cI, 3, .inl yf)), (q 48, .inl (cI, 3, .inl yt)), (o0, .inr (7, [.ref o1, .ref o2, .int (nI dy), .int (nI wn), .int (nI mo), .int mu, .int (nI ke)])), (o1, .inl (cI, 9, .inl fb)), (o2, .inl (cI, 9, .inl fw))] (skV D (skT cI cJ cC cZ cS) (fun (u : va_W) => ∃ (sa2 : Nat → Nat), ∃ (ft2 : Nat → Int32), ∃ (fa2 : Nat → Int32), ∃ (fo2 : Nat → Int32), ∃ (fg2 : Nat → Int64), ∃ (fk2 : Nat → Int32), ∃ (z2 : Nat → Int64), ∃ (z3 : Nat → Int64), (∀ j, sa2 j ≤ 9) ∧ kcTI L sa2 ft2 fa2 fo2 fg2 fk2 ∧ (∀ e, e < dy → kcRow L wn (Ba e) (We e) e sa2 ft2 fa2 fo2 fg2) ∧ u = [(q 10, .inr (9, [.ref (q 61), .ref (q 62), .ref (q 63), .ref (q 64), .ref (q 65), .ref (q 66)])), (q 61, .inl (cI, 90, .inl (fun j => nI (sa2 j)))), (q 62, .inl (cI, 900, .inl ft2)), (q 63, .inl (cI, 90, .inl fa2)), (q 64, .inl (cI, 90, .inl fo2)), (q 65, .inl (cJ, 90, .inr (.inl fg2))), (q 66, .inl (cI, 9, .inl fk2)), (q 5, .inr (2, [.ref (q 44), .ref (q 45), .ref (q 46), .ref (q 47), .ref (q 48), .int (nI dh), .int (nI mh), .int uh, .int rh, .int (nI nh)])), (q 44, .inr (0, [.ref (q 49), .ref (q 50), .ref (q 51), .ref (q 52), .int (nI ch), .int (nI wh)])), (q 49, .inl (cI, 1600, .inl y1)), (q 50, .inl (cJ, 64, .inr (.inl z2))), (q 51, .inl (cJ, 9, .inr (.inl z3))), (q 52, .inl (cJ, 10, .inr (.inl y4))), (q 47, .inl (cI, 3, .inl yf)), (q 48, .inl (cI, 3, .inl yt)), (o0, .inr (7, [.ref o1, .ref o2, .int (nI dy), .int (nI wn), .int (nI mo), .int mu, .int (nI ke)])), (o1, .inl (cI, 9, .inl fb)), (o2, .inl (cI, 9, .inl fw))])) := by
  refine skM_of pf_X9_fit (Nat.le_of_ble_eq_true rfl) ?_
  intro p e s m below meth c A ls E hP hD hl
  refine skE_el E (fun hx hb hr hml hlocks hin hown hts hK hA => ?_)
  have hown : s.vm.findClass RX9 = some m.cls := hown
  have hS : va_S A s.heap s.heap [] := va_S.rf
  have hl : lv_has ls 6 [(0, .ref (q 10)), (1, .ref (q 5)), (2, .ref o0)] := hl
  have jn_1 : ∀ (wq : Nat) (H : Heap) (locs : List Loc) (ls : Array Slot), ((wh = 1 ∧ wq = wn) ∨ (wh = 0 ∧ wq = 0)) → (wq ≤ 999) → va_P D vwCl [(q 10, .inr (9, [.ref (q 61), .ref (q 62), .ref (q 63), .ref (q 64), .ref (q 65), .ref (q 66)])), (q 61, .inl (cI, 90, .inl (fun j => nI (sa j)))), (q 62, .inl (cI, 900, .inl ft)), (q 63, .inl (cI, 90, .inl fa)), (q 64, .inl (cI, 90, .inl fo)), (q 65, .inl (cJ, 90, .inr (.inl fg))), (q 66, .inl (cI, 9, .inl fk)), (q 5, .inr (2, [.ref (q 44), .ref (q 45), .ref (q 46), .ref (q 47), .ref (q 48), .int (nI dh), .int (nI mh), .int uh, .int rh, .int (nI nh)])), (q 44, .inr (0, [.ref (q 49), .ref (q 50), .ref (q 51), .ref (q 52), .int (nI ch), .int (nI wh)])), (q 49, .inl (cI, 1600, .inl y1)), (q 50, .inl (cJ, 64, .inr (.inl y2))), (q 51, .inl (cJ, 9, .inr (.inl y3))), (q 52, .inl (cJ, 10, .inr (.inl y4))), (q 47, .inl (cI, 3, .inl yf)), (q 48, .inl (cI, 3, .inl yt)), (o0, .inr (7, [.ref o1, .ref o2, .int (nI dy), .int (nI wn), .int (nI mo), .int mu, .int (nI ke)])), (o1, .inl (cI, 9, .inl fb)), (o2, .inl (cI, 9, .inl fw))] H → va_D A [(q 10, .inr (9, [.ref (q 61), .ref (q 62), .ref (q 63), .ref (q 64), .ref (q 65), .ref (q 66)])), (q 61, .inl (cI, 90, .inl (fun j => nI (sa j)))), (q 62, .inl (cI, 900, .inl ft)), (q 63, .inl (cI, 90, .inl fa)), (q 64, .inl (cI, 90, .inl fo)), (q 65, .inl (cJ, 90, .inr (.inl fg))), (q 66, .inl (cI, 9, .inl fk)), (q 5, .inr (2, [.ref (q 44), .ref (q 45), .ref (q 46), .ref (q 47), .ref (q 48), .int (nI dh), .int (nI mh), .int uh, .int rh, .int (nI nh)])), (q 44, .inr (0, [.ref (q 49), .ref (q 50), .ref (q 51), .ref (q 52), .int (nI ch), .int (nI wh)])), (q 49, .inl (cI, 1600, .inl y1)), (q 50, .inl (cJ, 64, .inr (.inl y2))), (q 51, .inl (cJ, 9, .inr (.inl y3))), (q 52, .inl (cJ, 10, .inr (.inl y4))), (q 47, .inl (cI, 3, .inl yf)), (q 48, .inl (cI, 3, .inl yt)), (o0, .inr (7, [.ref o1, .ref o2, .int (nI dy), .int (nI wn), .int (nI mo), .int mu, .int (nI ke)])), (o1, .inl (cI, 9, .inl fb)), (o2, .inl (cI, 9, .inl fw))] → va_S A s.heap H locs → lv_has ls 6 [(0, .ref (q 10)), (1, .ref (q 5)), (2, .ref o0)] → W p l e { frames := 4, cells := 0, slots := 0, locals := 103 } s m ([.ref (q 10), .ref (q 5), .ref o0] : List Value).toArray below meth c H locs 0 0 (MQ below (skV D (skT cI cJ cC cZ cS) (fun (u : va_W) => ∃ (sa2 : Nat → Nat), ∃ (ft2 : Nat → Int32), ∃ (fa2 : Nat → Int32), ∃ (fo2 : Nat → Int32), ∃ (fg2 : Nat → Int64), ∃ (fk2 : Nat → Int32), ∃ (z2 : Nat → Int64), ∃ (z3 : Nat → Int64), (∀ j, sa2 j ≤ 9) ∧ kcTI L sa2 ft2 fa2 fo2 fg2 fk2 ∧ (∀ e, e < dy → kcRow L wn (Ba e) (We e) e sa2 ft2 fa2 fo2 fg2) ∧ u = [(q 10, .inr (9, [.ref (q 61), .ref (q 62), .ref (q 63), .ref (q 64), .ref (q 65), .ref (q 66)])), (q 61, .inl (cI, 90, .inl (fun j => nI (sa2 j)))), (q 62, .inl (cI, 900, .inl ft2)), (q 63, .inl (cI, 90, .inl fa2)), (q 64, .inl (cI, 90, .inl fo2)), (q 65, .inl (cJ, 90, .inr (.inl fg2))), (q 66, .inl (cI, 9, .inl fk2)), (q 5, .inr (2, [.ref (q 44), .ref (q 45), .ref (q 46), .ref (q 47), .ref (q 48), .int (nI dh), .int (nI mh), .int uh, .int rh, .int (nI nh)])), (q 44, .inr (0, [.ref (q 49), .ref (q 50), .ref (q 51), .ref (q 52), .int (nI ch), .int (nI wh)])), (q 49, .inl (cI, 1600, .inl y1)), (q 50, .inl (cJ, 64, .inr (.inl z2))), (q 51, .inl (cJ, 9, .inr (.inl z3))), (q 52, .inl (cJ, 10, .inr (.inl y4))), (q 47, .inl (cI, 3, .inl yf)), (q 48, .inl (cI, 3, .inl yt)), (o0, .inr (7, [.ref o1, .ref o2, .int (nI dy), .int (nI wn), .int (nI mo), .int mu, .int (nI ke)])), (o1, .inl (cI, 9, .inl fb)), (o2, .inl (cI, 9, .inl fw))]) A) ([.ref (q 10), .ref (q 5), .ref o0] : List Value).toArray s 0 0 A) (F0 m 18 ls [.int (nI wq)]) := by
    intro wq H locs ls hwq hwq9 hP hD hS hl
    refine lv_istore_n (lv' := [(3, .int (nI wq)), (0, .ref (q 10)), (1, .ref (q 5)), (2, .ref o0)]) hx hb dX9_fit_18 rfl hl (by decide) rfl (fun ls hl => ?_)
    have hkw := kwk hLk hcd hwq
    refine lv_iconst (v := 0) hx hb dX9_fit_19 ic_0 ?_
    refine lv_istore (lv' := [(4, .int 0), (3, .int (nI wq)), (0, .ref (q 10)), (1, .ref (q 5)), (2, .ref o0)]) hx hb dX9_fit_20 hl (by decide) rfl (fun ls hl => ?_)
    have lp_2 : ∀ (n_3 : Nat) (i : Nat) (sb : Nat → Nat) (gt : Nat → Int32) (ga : Nat → Int32) (go : Nat → Int32) (gg : Nat → Int64) (gk : Nat → Int32) (u2 : Nat → Int64) (u3 : Nat → Int64) (H : Heap) (locs : List Loc) (ls : Array Slot), 9 - i < n_3 → (∀ j, sb j ≤ 9) → (i ≤ dy) → (kcTI L sb gt ga go gg gk) → (∀ e, e < i → kcRow L wq (Ba e) (We e) e sb gt ga go gg) → va_P D vwCl [(q 10, .inr (9, [.ref (q 61), .ref (q 62), .ref (q 63), .ref (q 64), .ref (q 65), .ref (q 66)])), (q 61, .inl (cI, 90, .inl (fun j => nI (sb j)))), (q 62, .inl (cI, 900, .inl gt)), (q 63, .inl (cI, 90, .inl ga)), (q 64, .inl (cI, 90, .inl go)), (q 65, .inl (cJ, 90, .inr (.inl gg))), (q 66, .inl (cI, 9, .inl gk)), (q 5, .inr (2, [.ref (q 44), .ref (q 45), .ref (q 46), .ref (q 47), .ref (q 48), .int (nI dh), .int (nI mh), .int uh, .int rh, .int (nI nh)])), (q 44, .inr (0, [.ref (q 49), .ref (q 50), .ref (q 51), .ref (q 52), .int (nI ch), .int (nI wh)])), (q 49, .inl (cI, 1600, .inl y1)), (q 50, .inl (cJ, 64, .inr (.inl u2))), (q 51, .inl (cJ, 9, .inr (.inl u3))), (q 52, .inl (cJ, 10, .inr (.inl y4))), (q 47, .inl (cI, 3, .inl yf)), (q 48, .inl (cI, 3, .inl yt)), (o0, .inr (7, [.ref o1, .ref o2, .int (nI dy), .int (nI wn), .int (nI mo), .int mu, .int (nI ke)])), (o1, .inl (cI, 9, .inl fb)), (o2, .inl (cI, 9, .inl fw))] H → va_D A [(q 10, .inr (9, [.ref (q 61), .ref (q 62), .ref (q 63), .ref (q 64), .ref (q 65), .ref (q 66)])), (q 61, .inl (cI, 90, .inl (fun j => nI (sb j)))), (q 62, .inl (cI, 900, .inl gt)), (q 63, .inl (cI, 90, .inl ga)), (q 64, .inl (cI, 90, .inl go)), (q 65, .inl (cJ, 90, .inr (.inl gg))), (q 66, .inl (cI, 9, .inl gk)), (q 5, .inr (2, [.ref (q 44), .ref (q 45), .ref (q 46), .ref (q 47), .ref (q 48), .int (nI dh), .int (nI mh), .int uh, .int rh, .int (nI nh)])), (q 44, .inr (0, [.ref (q 49), .ref (q 50), .ref (q 51), .ref (q 52), .int (nI ch), .int (nI wh)])), (q 49, .inl (cI, 1600, .inl y1)), (q 50, .inl (cJ, 64, .inr (.inl u2))), (q 51, .inl (cJ, 9, .inr (.inl u3))), (q 52, .inl (cJ, 10, .inr (.inl y4))), (q 47, .inl (cI, 3, .inl yf)), (q 48, .inl (cI, 3, .inl yt)), (o0, .inr (7, [.ref o1, .ref o2, .int (nI dy), .int (nI wn), .int (nI mo), .int mu, .int (nI ke)])), (o1, .inl (cI, 9, .inl fb)), (o2, .inl (cI, 9, .inl fw))] → va_S A s.heap H locs → lv_has ls 6 [(4, .int (nI i)), (3, .int (nI wq)), (0, .ref (q 10)), (1, .ref (q 5)), (2, .ref o0)] → W p l e { frames := 4, cells := 0, slots := 0, locals := 103 } s m ([.ref (q 10), .ref (q 5), .ref o0] : List Value).toArray below meth c H locs 0 0 (MQ below (skV D (skT cI cJ cC cZ cS) (fun (u : va_W) => ∃ (sa2 : Nat → Nat), ∃ (ft2 : Nat → Int32), ∃ (fa2 : Nat → Int32), ∃ (fo2 : Nat → Int32), ∃ (fg2 : Nat → Int64), ∃ (fk2 : Nat → Int32), ∃ (z2 : Nat → Int64), ∃ (z3 : Nat → Int64), (∀ j, sa2 j ≤ 9) ∧ kcTI L sa2 ft2 fa2 fo2 fg2 fk2 ∧ (∀ e, e < dy → kcRow L wn (Ba e) (We e) e sa2 ft2 fa2 fo2 fg2) ∧ u = [(q 10, .inr (9, [.ref (q 61), .ref (q 62), .ref (q 63), .ref (q 64), .ref (q 65), .ref (q 66)])), (q 61, .inl (cI, 90, .inl (fun j => nI (sa2 j)))), (q 62, .inl (cI, 900, .inl ft2)), (q 63, .inl (cI, 90, .inl fa2)), (q 64, .inl (cI, 90, .inl fo2)), (q 65, .inl (cJ, 90, .inr (.inl fg2))), (q 66, .inl (cI, 9, .inl fk2)), (q 5, .inr (2, [.ref (q 44), .ref (q 45), .ref (q 46), .ref (q 47), .ref (q 48), .int (nI dh), .int (nI mh), .int uh, .int rh, .int (nI nh)])), (q 44, .inr (0, [.ref (q 49), .ref (q 50), .ref (q 51), .ref (q 52), .int (nI ch), .int (nI wh)])), (q 49, .inl (cI, 1600, .inl y1)), (q 50, .inl (cJ, 64, .inr (.inl z2))), (q 51, .inl (cJ, 9, .inr (.inl z3))), (q 52, .inl (cJ, 10, .inr (.inl y4))), (q 47, .inl (cI, 3, .inl yf)), (q 48, .inl (cI, 3, .inl yt)), (o0, .inr (7, [.ref o1, .ref o2, .int (nI dy), .int (nI wn), .int (nI mo), .int mu, .int (nI ke)])), (o1, .inl (cI, 9, .inl fb)), (o2, .inl (cI, 9, .inl fw))]) A) ([.ref (q 10), .ref (q 5), .ref o0] : List Value).toArray s 0 0 A) (F0 m 22 ls []) := by
      intro n_3
      induction n_3 with
      | zero => intro i sb gt ga go gg gk u2 u3 H locs ls hm; exact absurd hm (Nat.not_lt_zero _)
      | succ n_3 ih_lp_2 =>
        intro i sb gt ga go gg gk u2 u3 H locs ls hm hsb hi hti_ hro hP hD hS hl
        refine lv_iload hx hb dX9_fit_22 (lv_at hl 0 rfl) ?_
        refine lv_aload_n hx hb dX9_fit_24 rfl (lv_at hl 4 rfl) ?_
        refine sk_get (v := .int (nI dy)) (C := RX7) (T := TX7) (N := 7) hx hb hts inlX7 hown hK hP 15 rfl rfl 2 (Nat.le_of_ble_eq_true rfl) w_2_0 rfl dX9_fit_25 ?_
        refine lv_icmp_ge (tgt := 114) hx hb dX9_fit_28 (by decide) (fun c_4 => ?_) (fun c_4 => ?_)
        · have c_4 : dy ≤ i := (nle dy i (by omega) (by omega)).mp c_4
          exact sk_vret hx hb hr hlocks hK hP hD hS (⟨sb, gt, ga, go, gg, gk, u2, u3, hsb, hti_, (fun e he => krow_kw hkw (hro e (by omega))), rfl⟩) (Nat.le_of_ble_eq_true rfl) (Nat.le_of_ble_eq_true rfl) dX9_fit_114
        · have c_4 : ¬ (dy ≤ i) := fun h => c_4 ((nle dy i (by omega) (by omega)).mpr h)
          refine lv_iload hx hb dX9_fit_31 (lv_at hl 0 rfl) ?_
          refine lv_bipush (v := 9) hx hb dX9_fit_33 (by decide) ?_
          refine lv_icmp_ge (tgt := 114) hx hb dX9_fit_35 (by decide) (fun c => absurd ((nle 9 i (Nat.le_of_ble_eq_true rfl) (by omega)).mp c) (by omega)) (fun c_5 => ?_)
          have hBi := hB9 i
          have hWi := hW9 i
          refine lv_iload_n hx hb dX9_fit_38 rfl (lv_at hl 1 rfl) ?_
          refine lv_bipush (v := 10) hx hb dX9_fit_39 (by decide) ?_
          refine lv_imul hx hb dX9_fit_41 ?_
          refine sk_top (nI (wq * 10)) (nmul wq 10) ?_
          refine lv_aload_n hx hb dX9_fit_42 rfl (lv_at hl 4 rfl) ?_
          refine sk_get (v := .ref o1) (C := RX7) (T := TX7) (N := 7) hx hb hts inlX7 hown hK hP 15 rfl rfl 0 (Nat.le_of_ble_eq_true rfl) w_1_231 rfl dX9_fit_43 ?_
          refine lv_iload hx hb dX9_fit_46 (lv_at hl 0 rfl) ?_
          refine va_iald hx hb hK.1 hP 16 0 rfl rfl (vin i 9 (by omega) (Nat.le_of_ble_eq_true rfl)) dX9_fit_48 ?_
          refine sk_top (nI (Ba i)) (by rw [nI_clamp (by omega)]; exact hfb i (by omega)) ?_
          refine lv_iadd hx hb dX9_fit_49 ?_
          refine sk_top (nI (wq * 10 + (Ba i))) (nI_add (wq * 10) (Ba i)) ?_
          refine lv_bipush (v := 10) hx hb dX9_fit_50 (by decide) ?_
          refine lv_imul hx hb dX9_fit_52 ?_
          refine sk_top (nI ((wq * 10 + (Ba i)) * 10)) (nmul (wq * 10 + (Ba i)) 10) ?_
          refine lv_aload_n hx hb dX9_fit_53 rfl (lv_at hl 4 rfl) ?_
          refine sk_get (v := .ref o2) (C := RX7) (T := TX7) (N := 7) hx hb hts inlX7 hown hK hP 15 rfl rfl 1 (Nat.le_of_ble_eq_true rfl) w_1_235 rfl dX9_fit_54 ?_
          refine lv_iload hx hb dX9_fit_57 (lv_at hl 0 rfl) ?_
          refine va_iald hx hb hK.1 hP 17 0 rfl rfl (vin i 9 (by omega) (Nat.le_of_ble_eq_true rfl)) dX9_fit_59 ?_
          refine sk_top (nI (We i)) (by rw [nI_clamp (by omega)]; exact hfw i (by omega)) ?_
          refine lv_iadd hx hb dX9_fit_60 ?_
          refine sk_top (nI ((wq * 10 + (Ba i)) * 10 + (We i))) (nI_add ((wq * 10 + (Ba i)) * 10) (We i)) ?_
          refine lv_istore (lv' := [(5, .int (nI ((wq * 10 + (Ba i)) * 10 + (We i)))), (4, .int (nI i)), (3, .int (nI wq)), (0, .ref (q 10)), (1, .ref (q 5)), (2, .ref o0)]) hx hb dX9_fit_61 hl (by decide) rfl (fun ls hl => ?_)
          refine lv_aload_n hx hb dX9_fit_63 rfl (lv_at hl 3 rfl) ?_
          refine sk_get (v := .ref (q 66)) (C := RX9) (T := TX9) (N := 6) hx hb hts inlX9 hown hK hP 0 rfl rfl 5 (Nat.le_of_ble_eq_true rfl) w_2_75 rfl dX9_fit_64 ?_
          refine lv_iload hx hb dX9_fit_67 (lv_at hl 1 rfl) ?_
          refine va_iald hx hb hK.1 hP 6 0 rfl rfl (vin i 9 (by omega) (Nat.le_of_ble_eq_true rfl)) dX9_fit_69 ?_
          refine sk_top (gk i) (by rw [nI_clamp (by omega)]) ?_
          refine lv_iload hx hb dX9_fit_70 (lv_at hl 0 rfl) ?_
          refine lv_icmp_eq (tgt := 108) hx hb dX9_fit_72 (by decide) (fun c_6 => ?_) (fun c_6 => ?_)
          · skip
            refine lv_iinc (v := nI (i + 1)) (lv' := [(4, .int (nI (i + 1))), (5, .int (nI ((wq * 10 + (Ba i)) * 10 + (We i)))), (3, .int (nI wq)), (0, .ref (q 10)), (1, .ref (q 5)), (2, .ref o0)]) hx hb dX9_fit_108 hl (k := 1) rfl (ninc i 1 (by decide)) (by decide) rfl (fun ls hl => ?_)
            refine lv_goto (tgt := 22) hx hb dX9_fit_111 (by decide) ?_
            exact ih_lp_2 (i + 1) sb gt ga go gg gk u2 u3 _ _ _ (by omega) hsb (by omega) hti_ (krows_k hro (hti_ i wq (Ba i) (We i) (by omega) (by omega) hBi hWi c_6)) hP hD hS (lv_sub hl [0, 2, 3, 4, 5] rfl)
          · skip
            refine lv_aload_n hx hb dX9_fit_75 rfl (lv_at hl 3 rfl) ?_
            refine sk_get (v := .ref (q 66)) (C := RX9) (T := TX9) (N := 6) hx hb hts inlX9 hown hK hP 0 rfl rfl 5 (Nat.le_of_ble_eq_true rfl) w_2_75 rfl dX9_fit_76 ?_
            refine lv_iload hx hb dX9_fit_79 (lv_at hl 1 rfl) ?_
            refine lv_iload hx hb dX9_fit_81 (lv_at hl 0 rfl) ?_
            refine sk_iastE (k := i) (ws' := fun f_7 => [(q 10, .inr (9, [.ref (q 61), .ref (q 62), .ref (q 63), .ref (q 64), .ref (q 65), .ref (q 66)])), (q 61, .inl (cI, 90, .inl (fun j => nI (sb j)))), (q 62, .inl (cI, 900, .inl gt)), (q 63, .inl (cI, 90, .inl ga)), (q 64, .inl (cI, 90, .inl go)), (q 65, .inl (cJ, 90, .inr (.inl gg))), (q 66, .inl (cI, 9, .inl f_7)), (q 5, .inr (2, [.ref (q 44), .ref (q 45), .ref (q 46), .ref (q 47), .ref (q 48), .int (nI dh), .int (nI mh), .int uh, .int rh, .int (nI nh)])), (q 44, .inr (0, [.ref (q 49), .ref (q 50), .ref (q 51), .ref (q 52), .int (nI ch), .int (nI wh)])), (q 49, .inl (cI, 1600, .inl y1)), (q 50, .inl (cJ, 64, .inr (.inl u2))), (q 51, .inl (cJ, 9, .inr (.inl u3))), (q 52, .inl (cJ, 10, .inr (.inl y4))), (q 47, .inl (cI, 3, .inl yf)), (q 48, .inl (cI, 3, .inl yt)), (o0, .inr (7, [.ref o1, .ref o2, .int (nI dy), .int (nI wn), .int (nI mo), .int mu, .int (nI ke)])), (o1, .inl (cI, 9, .inl fb)), (o2, .inl (cI, 9, .inl fw))]) hx hb hK hP hD hS 6 0 rfl rfl (by omega) (by omega) (fun _ => rfl) dX9_fit_83 (fun f_7 H locs ef_8 hP hD hS => ?_)
            refine lv_aload_n hx hb dX9_fit_84 rfl (lv_at hl 4 rfl) ?_
            refine sk_get (v := .ref (q 44)) (C := RX2) (T := TX2) (N := 10) hx hb hts inlX2 hown hK hP 7 rfl rfl 0 (Nat.le_of_ble_eq_true rfl) w_1_176 rfl dX9_fit_85 ?_
            refine lv_aload_n hx hb dX9_fit_88 rfl (lv_at hl 5 rfl) ?_
            refine lv_iload hx hb dX9_fit_89 (lv_at hl 1 rfl) ?_
            refine sk_Sv (n := 3) (rest := []) (wr := fmR om_18_247 _) ⟨hx, hb, hml, hown, hts⟩ hl.1 (c_knameDay l D cI cJ cC cZ cS q ch wh u3 o0 o1 o2 dy wn mo ke mu fb fw i (Ba i) (We i) (by omega) (hfb i (by omega)) (hfw i (by omega)) (hB9 i) (hW9 i) hwn) w_3_209 w_3_210 w_1_12 w_3_211 hd_X9_nameDay_3 ⟨⟨(Nat.le_of_ble_eq_true rfl), (Nat.le_of_ble_eq_true rfl)⟩, (Nat.le_of_ble_eq_true rfl), (Nat.le_of_ble_eq_true rfl)⟩ hK hP hD hS hA (fmT om_18_247 0) (fmF om_18_247 0) (fm_C1 rfl rfl) (fm_R rfl rfl) (fm_nT om_18_247 0) (fm_nF om_18_247 0) (fm_di om_18_247 0) rfl rfl (Nat.le_of_ble_eq_true rfl) dX9_fit_91 (fun u H locs hw hP hD hS => ?_)
            refine exE hw (fun z3_9 hw1 => anE hw1 (fun hdy3_10 eu_11 => ?_))
            clear hw hw1
            refine o_mgE (ws' := [(q 10, .inr (9, [.ref (q 61), .ref (q 62), .ref (q 63), .ref (q 64), .ref (q 65), .ref (q 66)])), (q 61, .inl (cI, 90, .inl (fun j => nI (sb j)))), (q 62, .inl (cI, 900, .inl gt)), (q 63, .inl (cI, 90, .inl ga)), (q 64, .inl (cI, 90, .inl go)), (q 65, .inl (cJ, 90, .inr (.inl gg))), (q 66, .inl (cI, 9, .inl f_7)), (q 5, .inr (2, [.ref (q 44), .ref (q 45), .ref (q 46), .ref (q 47), .ref (q 48), .int (nI dh), .int (nI mh), .int uh, .int rh, .int (nI nh)])), (q 44, .inr (0, [.ref (q 49), .ref (q 50), .ref (q 51), .ref (q 52), .int (nI ch), .int (nI wh)])), (q 49, .inl (cI, 1600, .inl y1)), (q 50, .inl (cJ, 64, .inr (.inl u2))), (q 51, .inl (cJ, 9, .inr (.inl z3_9))), (q 52, .inl (cJ, 10, .inr (.inl y4))), (q 47, .inl (cI, 3, .inl yf)), (q 48, .inl (cI, 3, .inl yt)), (o0, .inr (7, [.ref o1, .ref o2, .int (nI dy), .int (nI wn), .int (nI mo), .int mu, .int (nI ke)])), (o1, .inl (cI, 9, .inl fb)), (o2, .inl (cI, 9, .inl fw))]) eu_11 hP hD rfl (fun hP hD => ?_)
            refine lv_aload_n hx hb dX9_fit_94 rfl (lv_at hl 3 rfl) ?_
            refine lv_aload_n hx hb dX9_fit_95 rfl (lv_at hl 4 rfl) ?_
            refine lv_iload hx hb dX9_fit_96 (lv_at hl 1 rfl) ?_
            refine sk_Vv (q0 := 0) (n := 2) (rest := []) (wr := fmR om_18_317f8 _) ⟨hx, hb, hml, hown, hts⟩ hl.1 (c_kfillWords l D cI cJ cC cZ cS q dh mh uh rh nh ch wh y1 u2 z3_9 y4 yf yt sb gg i wn (Ba i) (We i) L hsb hch hwh (by omega) hLk hcd hsg hdy3_10) w_3_216 w_3_218 w_0_15 w_1_12 w_3_219 hd_X9_fillWords_2 ⟨⟨(Nat.le_of_ble_eq_true rfl), (Nat.le_of_ble_eq_true rfl)⟩, (Nat.le_of_ble_eq_true rfl), (Nat.le_of_ble_eq_true rfl)⟩ hK hP hD hS hA (fmT om_18_317f8 0) (fmF om_18_317f8 0) (fm_C1 rfl rfl) (fm_R rfl rfl) (fm_nT om_18_317f8 0) (fm_nF om_18_317f8 0) (fm_di om_18_317f8 0) rfl rfl rfl rfl (Nat.le_of_ble_eq_true rfl) dX9_fit_98 (fun u H locs hw hP hD hS => ?_)
            refine exE hw (fun sa2_12 hw1 => exE hw1 (fun fg2_13 hw2 => exE hw2 (fun z2_14 hw3 => exE hw3 (fun z3_15 hw4 => anE hw4 (fun hsa2_16 hw5 => anE hw5 (fun hfw2_17 hw6 => anE hw6 (fun hdy2_18 eu_19 => ?_)))))))
            clear hw hw1 hw2 hw3 hw4 hw5 hw6
            refine o_mgE (ws' := [(q 10, .inr (9, [.ref (q 61), .ref (q 62), .ref (q 63), .ref (q 64), .ref (q 65), .ref (q 66)])), (q 61, .inl (cI, 90, .inl (fun j => nI (sa2_12 j)))), (q 62, .inl (cI, 900, .inl gt)), (q 63, .inl (cI, 90, .inl ga)), (q 64, .inl (cI, 90, .inl go)), (q 65, .inl (cJ, 90, .inr (.inl fg2_13))), (q 66, .inl (cI, 9, .inl f_7)), (q 5, .inr (2, [.ref (q 44), .ref (q 45), .ref (q 46), .ref (q 47), .ref (q 48), .int (nI dh), .int (nI mh), .int uh, .int rh, .int (nI nh)])), (q 44, .inr (0, [.ref (q 49), .ref (q 50), .ref (q 51), .ref (q 52), .int (nI ch), .int (nI wh)])), (q 49, .inl (cI, 1600, .inl y1)), (q 50, .inl (cJ, 64, .inr (.inl z2_14))), (q 51, .inl (cJ, 9, .inr (.inl z3_15))), (q 52, .inl (cJ, 10, .inr (.inl y4))), (q 47, .inl (cI, 3, .inl yf)), (q 48, .inl (cI, 3, .inl yt)), (o0, .inr (7, [.ref o1, .ref o2, .int (nI dy), .int (nI wn), .int (nI mo), .int mu, .int (nI ke)])), (o1, .inl (cI, 9, .inl fb)), (o2, .inl (cI, 9, .inl fw))]) eu_19 hP hD rfl (fun hP hD => ?_)
            refine lv_aload_n hx hb dX9_fit_101 rfl (lv_at hl 3 rfl) ?_
            refine lv_aload_n hx hb dX9_fit_102 rfl (lv_at hl 4 rfl) ?_
            refine lv_iload hx hb dX9_fit_103 (lv_at hl 1 rfl) ?_
            refine sk_Vv (q0 := 0) (n := 2) (rest := []) (wr := fmR om_18_3e7f8 _) ⟨hx, hb, hml, hown, hts⟩ hl.1 (c_kfillDeeds l D cI cJ cC cZ cS q dh mh uh rh nh ch wh y1 z2_14 z3_15 y4 yf yt sa2_12 gt ga go i wn (Ba i) (We i) L fg2_13 sb gg hsa2_16 hch hwh (by omega) hLk hcd hsg hdy2_18 hfw2_17) w_4_13 w_4_15 w_0_17 w_1_12 w_4_16 hd_X9_fillDeeds_2 ⟨⟨(Nat.le_of_ble_eq_true rfl), (Nat.le_of_ble_eq_true rfl)⟩, (Nat.le_of_ble_eq_true rfl), (Nat.le_of_ble_eq_true rfl)⟩ hK hP hD hS hA (fmT om_18_3e7f8 0) (fmF om_18_3e7f8 0) (fm_C1 rfl rfl) (fm_R rfl rfl) (fm_nT om_18_3e7f8 0) (fm_nF om_18_3e7f8 0) (fm_di om_18_3e7f8 0) rfl rfl rfl rfl (Nat.le_of_ble_eq_true rfl) dX9_fit_105 (fun u H locs hw hP hD hS => ?_)
            refine exE hw (fun ft2_20 hw1 => exE hw1 (fun fa2_21 hw2 => exE hw2 (fun fo2_22 hw3 => exE hw3 (fun z2_23 hw4 => exE hw4 (fun z3_24 hw5 => anE hw5 (fun hfd2_25 eu_26 => ?_))))))
            clear hw hw1 hw2 hw3 hw4 hw5
            refine o_mgE (ws' := [(q 10, .inr (9, [.ref (q 61), .ref (q 62), .ref (q 63), .ref (q 64), .ref (q 65), .ref (q 66)])), (q 61, .inl (cI, 90, .inl (fun j => nI (sa2_12 j)))), (q 62, .inl (cI, 900, .inl ft2_20)), (q 63, .inl (cI, 90, .inl fa2_21)), (q 64, .inl (cI, 90, .inl fo2_22)), (q 65, .inl (cJ, 90, .inr (.inl fg2_13))), (q 66, .inl (cI, 9, .inl f_7)), (q 5, .inr (2, [.ref (q 44), .ref (q 45), .ref (q 46), .ref (q 47), .ref (q 48), .int (nI dh), .int (nI mh), .int uh, .int rh, .int (nI nh)])), (q 44, .inr (0, [.ref (q 49), .ref (q 50), .ref (q 51), .ref (q 52), .int (nI ch), .int (nI wh)])), (q 49, .inl (cI, 1600, .inl y1)), (q 50, .inl (cJ, 64, .inr (.inl z2_23))), (q 51, .inl (cJ, 9, .inr (.inl z3_24))), (q 52, .inl (cJ, 10, .inr (.inl y4))), (q 47, .inl (cI, 3, .inl yf)), (q 48, .inl (cI, 3, .inl yt)), (o0, .inr (7, [.ref o1, .ref o2, .int (nI dy), .int (nI wn), .int (nI mo), .int mu, .int (nI ke)])), (o1, .inl (cI, 9, .inl fb)), (o2, .inl (cI, 9, .inl fw))]) eu_26 hP hD rfl (fun hP hD => ?_)
            refine lv_iinc (v := nI (i + 1)) (lv' := [(4, .int (nI (i + 1))), (5, .int (nI ((wq * 10 + (Ba i)) * 10 + (We i)))), (3, .int (nI wq)), (0, .ref (q 10)), (1, .ref (q 5)), (2, .ref o0)]) hx hb dX9_fit_108 hl (k := 1) rfl (ninc i 1 (by decide)) (by decide) rfl (fun ls hl => ?_)
            refine lv_goto (tgt := 22) hx hb dX9_fit_111 (by decide) ?_
            exact ih_lp_2 (i + 1) sa2_12 ft2_20 fa2_21 fo2_22 fg2_13 f_7 z2_23 z3_24 _ _ _ (by omega) hsa2_16 (by omega) (kti_up hti_ (kfw_wk hkw hfw2_17) (kfd_wk hkw hfd2_25) ef_8 (by omega) hBi hWi) (krows_s hro (kfw_wk hkw hfw2_17) (kfd_wk hkw hfd2_25)) hP hD hS (lv_sub hl [0, 2, 3, 4, 5] rfl)
    exact lp_2 (9 - 0 + 1) 0 sa ft fa fo fg fk y2 y3 _ _ _ (Nat.lt_succ_self _) hsa (by omega) hti (fun e he => absurd he (Nat.not_lt_zero e)) hP hD hS (lv_sub hl [0, 1, 2, 3, 4] rfl)
  refine lv_aload_n hx hb dX9_fit_0 rfl (lv_at hl 1 rfl) ?_
  refine sk_get (v := .ref (q 44)) (C := RX2) (T := TX2) (N := 10) hx hb hts inlX2 hown hK hP 7 rfl rfl 0 (Nat.le_of_ble_eq_true rfl) w_1_176 rfl dX9_fit_1 ?_
  refine sk_get (v := .int (nI wh)) (C := RX0) (T := TX0) (N := 6) hx hb hts inlX0 hown hK hP 8 rfl rfl 5 (Nat.le_of_ble_eq_true rfl) w_1_137 rfl dX9_fit_4 ?_
  refine lv_if_eq (tgt := 17) hx hb dX9_fit_7 (by decide) (fun c_27 => ?_) (fun c_27 => ?_)
  · have c_27 : wh = 0 := (neq wh 0 (by omega) (Nat.le_of_ble_eq_true rfl)).mp c_27
    refine lv_iconst (v := 0) hx hb dX9_fit_17 ic_0 ?_
    exact jn_1 0 _ _ _ (Or.inr ⟨by omega, rfl⟩) (by omega) hP hD hS (lv_sub hl [0, 1, 2] rfl)
  · have c_27 : ¬ (wh = 0) := fun h => c_27 ((neq wh 0 (by omega) (Nat.le_of_ble_eq_true rfl)).mpr h)
    refine lv_aload_n hx hb dX9_fit_10 rfl (lv_at hl 2 rfl) ?_
    refine sk_get (v := .int (nI wn)) (C := RX7) (T := TX7) (N := 7) hx hb hts inlX7 hown hK hP 15 rfl rfl 3 (Nat.le_of_ble_eq_true rfl) w_2_4 rfl dX9_fit_11 ?_
    refine lv_goto (tgt := 18) hx hb dX9_fit_14 (by decide) ?_
    exact jn_1 wn _ _ _ (Or.inl ⟨by omega, rfl⟩) hwn hP hD hS (lv_sub hl [0, 1, 2] rfl)
/-! the graph -/
def kcFo (L : LkS) (wn : Nat) (B W : Nat → Nat) (U : Nat → Bool) (li d a m : Nat) : Bool :=
  if U d = true then kcBec L wn (B d) (W d) d a 0 1 == m else kcBec L wn (B d) (W d) d a ((kcSaid L wn (B d) (W d) d m + li) % 10) 0 == m
def kcLe (E : Nat → Nat → Nat → Bool) (d p : Nat) (v : Int32) : Prop := ∃ x, v = nI x ∧ x < 1024 ∧ ∀ m, m < 10 → x.testBit m = E d p m
def kcLd (E : Nat → Nat → Nat → Bool) (gd : Nat) (e1 e2 : Nat → Int32) : Prop := ∀ d, d < gd → ∀ p, p < 10 → ∃ x y, e1 (d * 10 + p) = nI x ∧ e2 d = nI y ∧ x < 1024 ∧ y < 1024 ∧ ∀ m, m < 10 → (x &&& y).testBit m = E d p m
def kcLv (E : Nat → Nat → Nat → Bool) (gd i : Nat) (e3 : Nat → Int32) : Prop := ∀ d, i ≤ d → d ≤ gd → ∃ z, e3 d = nI z ∧ z < 1024 ∧ ∀ m, m < 10 → (z.testBit m = true ↔ 0 < kcC E (gd - d) d m)
def kcNx (E : Nat → Nat → Nat → Bool) (gd d a x : Nat) : Prop := x < 1024 ∧ ∀ m, m < 10 → (x.testBit m = true ↔ 0 < kcW E gd d a m)
theorem knd32 {a b : Nat} (ha : a < 1024) (hb : b < 1024) : nI a &&& nI b = nI (a &&& b) ∧ a &&& b < 1024 := by
  have h3 : a &&& b < 2 ^ 10 := Nat.and_lt_two_pow a hb
  refine ⟨?_, h3⟩
  refine Int32.toBitVec_inj.mp ?_
  rw [Int32.toBitVec_and]
  show BitVec.ofNat 32 a &&& BitVec.ofNat 32 b = BitVec.ofNat 32 (a &&& b)
  refine BitVec.eq_of_toNat_eq ?_
  rw [BitVec.toNat_and, BitVec.toNat_ofNat, BitVec.toNat_ofNat, BitVec.toNat_ofNat, Nat.mod_eq_of_lt (show a < 2 ^ 32 by omega), Nat.mod_eq_of_lt (show b < 2 ^ 32 by omega), Nat.mod_eq_of_lt (show a &&& b < 2 ^ 32 by omega)]
theorem ktb {x k : Nat} (hx : x < 1024) (hk : k < 10) : ((nI x >>> (nI k &&& 31)) &&& 1 = 1) ↔ x.testBit k = true := by
  exact bt_bit (by omega) (by omega)
theorem kshl1 {k : Nat} (hk : k < 10) : ((1 : Int32) <<< (nI k &&& 31)) = nI (2 ^ k) ∧ 2 ^ k < 1024 := by
  have h : ∀ k, k < 10 → ((1 : Int32) <<< (nI k &&& 31)) = nI (2 ^ k) ∧ 2 ^ k < 1024 := by decide +kernel
  exact h k hk
theorem kW_pos {E : Nat → Nat → Nat → Bool} {n d a m : Nat} : 0 < kcW E n d a m ↔ E d a m = true ∧ 0 < kcC E (n - (d + 1)) (d + 1) m := by
  unfold kcW
  by_cases h : E d a m = true
  · rw [if_pos h]; exact ⟨fun q => ⟨h, q⟩, fun q => q.2⟩
  · rw [if_neg h]; exact ⟨fun q => absurd q (Nat.lt_irrefl 0), fun q => absurd q.1 h⟩
theorem knx_of {E : Nat → Nat → Nat → Bool} {gd d a x y z : Nat} (hx : x < 1024) (hy : y < 1024) (hz : z < 1024) (h1 : ∀ m, m < 10 → (x &&& y).testBit m = E d a m) (h2 : ∀ m, m < 10 → (z.testBit m = true ↔ 0 < kcC E (gd - (d + 1)) (d + 1) m)) : kcNx E gd d a (x &&& y &&& z) := by
  refine ⟨(knd32 (knd32 hx hy).2 hz).2, fun m hm => ?_⟩
  rw [Nat.testBit_and, Bool.and_eq_true, h1 m hm, h2 m hm, kW_pos]
theorem knx_z {E : Nat → Nat → Nat → Bool} {gd d a x : Nat} (h : kcNx E gd d a x) (hd : d < gd) : x = 0 ↔ kcC E (gd - d) d a = 0 := by
  rw [← kcW_S hd]
  constructor
  · intro q
    refine kcS_z 10 (fun m hm => ?_)
    have h1 := h.2 m hm
    rw [q, Nat.zero_testBit] at h1
    exact Nat.eq_zero_of_not_pos (fun q2 => Bool.noConfusion (h1.mpr q2))
  · intro q
    refine Nat.eq_of_testBit_eq (fun i => ?_)
    rw [Nat.zero_testBit]
    by_cases hi : i < 10
    · cases hb : x.testBit i with
      | false => rfl
      | true =>
        have h1 := (h.2 i hi).mp hb
        rw [kcS_pos 10 q i hi] at h1
        exact absurd h1 (Nat.lt_irrefl 0)
    · have h7 : (2 : Nat) ^ 10 ≤ 2 ^ i := Nat.pow_le_pow_right (by decide) (by omega)
      exact Nat.testBit_lt_two_pow (Nat.lt_of_lt_of_le h.1 h7)
theorem klv_top {E : Nat → Nat → Nat → Bool} {gd : Nat} {e f : Nat → Int32} (h : f = upd e gd 1023) : kcLv E gd gd f := by
  intro d h1 h2
  obtain rfl : d = gd := by omega
  refine ⟨1023, kui_s h, by decide, fun m hm => ?_⟩
  rw [Nat.sub_self]
  have h3 : ∀ m, m < 10 → Nat.testBit 1023 m = true := by decide
  exact ⟨fun _ => (by show 0 < 1; decide), fun _ => h3 m hm⟩
theorem klv_s {E : Nat → Nat → Nat → Bool} {gd i z : Nat} {e f : Nat → Int32} (h : kcLv E gd (i + 1) e) (hf : f = upd e i (nI z)) (hz : z = kcK (fun p => decide (0 < kcC E (gd - i) i p)) 10) : kcLv E gd i f := by
  intro d h1 h2
  by_cases q : d = i
  · subst q
    refine ⟨z, kui_s hf, by rw [hz]; exact kcK_lt _ 10, fun m hm => ?_⟩
    rw [hz, kcK_bit, decide_eq_true hm, Bool.true_and, decide_eq_true_iff]
  · obtain ⟨y, a, b, c⟩ := h d (by omega) h2
    exact ⟨y, by rw [kui_n hf q]; exact a, b, c⟩
theorem klv_i {E : Nat → Nat → Nat → Bool} {gd i j : Nat} {e : Nat → Int32} (h : kcLv E gd i e) (hj : i ≤ j) : kcLv E gd j e := fun d h1 h2 => h d (by omega) h2
/-- the lowest bit -/
def kcLow (x v : Nat) : Prop := v < 10 ∧ x.testBit v = true ∧ ∀ k, k < v → x.testBit k = false
theorem kntz {x : Nat} (h0 : 1 ≤ x) (h1 : x < 1024) : ∃ v, v < 10 ∧ kcLow x v ∧ (nI x ^^^ (-1)) &&& nI (x - 1) = nI (2 ^ v - 1) := by
  have h : ∀ x, x < 1024 → 1 ≤ x → ∃ v, v < 10 ∧ (v < 10 ∧ x.testBit v = true ∧ ∀ k, k < v → x.testBit k = false) ∧ (nI x ^^^ (-1)) &&& nI (x - 1) = nI (2 ^ v - 1) := by decide +kernel
  exact h x h1 h0
theorem klow_P {E : Nat → Nat → Nat → Bool} {gd d a x v : Nat} (h : kcNx E gd d a x) (hl : kcLow x v) : kcP (kcW E gd d a) 10 0 0 = (v, 0) := by
  refine kcP_zero 10 0 v (Nat.zero_le v) (by have := hl.1; omega) ((h.2 v hl.1).mp hl.2.1) (fun i _ hi => ?_)
  have h1 := h.2 i (by have := hl.1; omega)
  rw [hl.2.2 i hi] at h1
  exact Nat.eq_zero_of_not_pos (fun q => Bool.noConfusion (h1.mpr q))
/-! rows of a week -/
def kcRw (E : Nat → Nat → Nat → Bool) (gd a0 x i : Nat) (f : Nat → Int32) : Prop := ∀ d, d < i → f d = nI (kcM E gd a0 x d)
theorem krw_s {E : Nat → Nat → Nat → Bool} {gd a0 x i v : Nat} {f g : Nat → Int32} (h : kcRw E gd a0 x i f) (e : g = upd f i (nI v)) (hv : (kcA E gd a0 x (i + 1)).1 = v) : kcRw E gd a0 x (i + 1) g := fun d hd => by
  by_cases q : d = i
  · subst q; rw [kui_s e, ← hv]; rfl
  · rw [kui_n e q]; exact h d (by omega)
theorem krw_0 (E : Nat → Nat → Nat → Bool) (gd a0 x : Nat) (f : Nat → Int32) : kcRw E gd a0 x 0 f := fun d hd => absurd hd (Nat.not_lt_zero d)
theorem kfirst_s {E : Nat → Nat → Nat → Bool} {gd a0 i a x v : Nat} (ha : (kcA E gd a0 0 i).1 = a) (h2 : (kcA E gd a0 0 i).2 = 0) (h : kcNx E gd i a x) (hl : kcLow x v) : (kcA E gd a0 0 (i + 1)).1 = v ∧ (kcA E gd a0 0 (i + 1)).2 = 0 := by
  rw [kcA_s, ha, h2, klow_P h hl]
  exact ⟨rfl, rfl⟩
theorem knx_pos {E : Nat → Nat → Nat → Bool} {gd a0 n i a x : Nat} (h0 : a0 < 10) (hn : n < kcC E gd 0 a0) (ha : (kcA E gd a0 n i).1 = a) (h : kcNx E gd i a x) (hi : i < gd) : 1 ≤ x ∧ a < 10 := by
  have h1 := kcA_ok h0 hn i (by omega)
  rw [ha] at h1
  refine ⟨Nat.pos_of_ne_zero (fun q => ?_), h1.1⟩
  have h2 := (knx_z h hi).mp q
  rw [h2] at h1
  exact absurd h1.2 (Nat.not_lt_zero _)
/-! ways -/
def kcWy (E : Nat → Nat → Nat → Bool) (gd i : Nat) (f : Nat → Int64) : Prop := ∀ d, i ≤ d → d ≤ gd → ∀ m, m < 10 → f (d * 10 + m) = Int64.ofNat (kcC E (gd - d) d m)
theorem kwy_top {E : Nat → Nat → Nat → Bool} {gd : Nat} {f : Nat → Int64} (h : ∀ m, m < 10 → f (gd * 10 + m) = 1) : kcWy E gd gd f := by
  intro d h1 h2 m hm
  obtain rfl : d = gd := by omega
  rw [h m hm, Nat.sub_self]
  rfl
theorem kone_s {gd i : Nat} {f g : Nat → Int64} (h : ∀ m, m < i → f (gd * 10 + m) = 1) (e : g = vp_updL f (gd * 10 + i) 1) : ∀ m, m < i + 1 → g (gd * 10 + m) = 1 := fun m hm => by
  by_cases q : m = i
  · subst q; exact kup_s e
  · rw [kup_n e (by omega)]; exact h m (by omega)
/-- a day's ways, so far -/
def kcWj (E : Nat → Nat → Nat → Bool) (gd d j : Nat) (f : Nat → Int64) : Prop := kcWy E gd (d + 1) f ∧ ∀ p, p < j → f (d * 10 + p) = Int64.ofNat (kcC E (gd - d) d p)
theorem kwj_0 {E : Nat → Nat → Nat → Bool} {gd d e : Nat} {f : Nat → Int64} (h : kcWy E gd e f) (he : e = d + 1) : kcWj E gd d 0 f := ⟨he ▸ h, fun p hp => absurd hp (Nat.not_lt_zero p)⟩
theorem kwj_s {E : Nat → Nat → Nat → Bool} {gd d j : Nat} {f g : Nat → Int64} {x : Int64} (h : kcWj E gd d j f) (e : g = vp_updL f (d * 10 + j) x) (hj : j < 10) (hd : d < gd) (hx : x = Int64.ofNat (kcS (kcW E gd d j) 10)) : kcWj E gd d (j + 1) g := by
  refine ⟨fun d2 h1 h2 m hm => ?_, fun p hp => ?_⟩
  · rw [kup_n e (by omega)]; exact h.1 d2 h1 h2 m hm
  · by_cases q : p = j
    · subst q; rw [kup_s e, hx, kcW_S hd]
    · rw [kup_n e (by omega)]; exact h.2 p (by omega)
theorem kwj_10 {E : Nat → Nat → Nat → Bool} {gd d : Nat} {f : Nat → Int64} (h : kcWj E gd d 10 f) : kcWy E gd d f := fun d2 h1 h2 m hm => by
  by_cases q : d2 = d
  · subst q; exact h.2 m hm
  · exact h.1 d2 (by omega) h2 m hm
theorem kofn_add (a b : Nat) : Int64.ofNat a + Int64.ofNat b = Int64.ofNat (a + b) := (Int64.ofNat_add a b).symm
theorem ksm_y {E : Nat → Nat → Nat → Bool} {gd d a x k : Nat} {f : Nat → Int64} {s : Int64} (h : kcNx E gd d a x) (hw : kcWy E gd (d + 1) f) (hd : d < gd) (hk : k < 10) (hb : x.testBit k = true) (hs : s = Int64.ofNat (kcS (kcW E gd d a) k)) : s + f ((d + 1) * 10 + k) = Int64.ofNat (kcS (kcW E gd d a) (k + 1)) := by
  have h1 := kW_pos.mp ((h.2 k hk).mp hb)
  rw [hs, hw (d + 1) (Nat.le_refl _) (by omega) k hk, kofn_add]
  congr 1
  show _ = kcS (kcW E gd d a) k + kcW E gd d a k
  unfold kcW
  rw [if_pos h1.1]
theorem ksm_n {E : Nat → Nat → Nat → Bool} {gd d a x k : Nat} {s : Int64} (h : kcNx E gd d a x) (hk : k < 10) (hb : ¬ x.testBit k = true) (hs : s = Int64.ofNat (kcS (kcW E gd d a) k)) : s + 0 = Int64.ofNat (kcS (kcW E gd d a) (k + 1)) := by
  have h1 : kcW E gd d a k = 0 := Nat.eq_zero_of_not_pos (fun q => hb ((h.2 k hk).mpr q))
  rw [hs, Int64.add_zero]
  congr 1
  show kcS (kcW E gd d a) k = kcS (kcW E gd d a) k + kcW E gd d a k
  rw [h1, Nat.add_zero]
theorem kwh_y {E : Nat → Nat → Nat → Bool} {gd d a x k : Nat} {f : Nat → Int64} (h : kcNx E gd d a x) (hw : kcWy E gd 0 f) (hd : d < gd) (hk : k < 10) (hb : x.testBit k = true) : f ((d + 1) * 10 + k) = Int64.ofNat (kcW E gd d a k) := by
  have h1 := kW_pos.mp ((h.2 k hk).mp hb)
  rw [hw (d + 1) (Nat.zero_le _) (by omega) k hk]
  unfold kcW
  rw [if_pos h1.1]
theorem kwh_n {E : Nat → Nat → Nat → Bool} {gd d a x k : Nat} (h : kcNx E gd d a x) (hk : k < 10) (hb : ¬ x.testBit k = true) : (0 : Int64) = Int64.ofNat (kcW E gd d a k) := by
  have h1 : kcW E gd d a k = 0 := Nat.eq_zero_of_not_pos (fun q => hb ((h.2 k hk).mpr q))
  rw [h1]; rfl
theorem klt {a b : Nat} (ha : a < 9223372036854775808) (hb : b < 9223372036854775808) : Int64.ofNat a < Int64.ofNat b ↔ a < b := by
  rw [Int64.lt_iff_toInt_lt, Int64.toInt_ofNat_of_lt (by omega), Int64.toInt_ofNat_of_lt (by omega)]
  omega
theorem kcmp_ge {a b : Nat} (ha : a < 9223372036854775808) (hb : b < 9223372036854775808) : 0 ≤ lg_cmp (Int64.ofNat a) (Int64.ofNat b) ↔ b ≤ a := by
  rw [lg_cmp_ge, ← Int64.not_lt, klt ha hb, Nat.not_lt]
theorem kofn_sub {a b : Nat} (h : b ≤ a) : Int64.ofNat a - Int64.ofNat b = Int64.ofNat (a - b) := by
  have h1 : Int64.ofNat (a - b) + Int64.ofNat b = Int64.ofNat a := by rw [kofn_add, Nat.sub_add_cancel h]
  rw [← h1, Int64.add_sub_cancel]
theorem kW_le (E : Nat → Nat → Nat → Bool) {gd : Nat} (h : gd ≤ 9) (d a m : Nat) : kcW E gd d a m ≤ 1000000000 := by
  unfold kcW
  split
  · exact kcC_9 E (by omega) _ _
  · exact Nat.zero_le _
theorem kcT_10 (w : Nat → Nat) : kcT w 10 0 = kcS w 10 := by
  have h := kcT_S w 10 0
  rw [show kcS w 0 = 0 from rfl, Nat.zero_add, Nat.zero_add] at h
  exact h
theorem kcT_s {w : Nat → Nat} {j y : Nat} (hj : j < 10) (h : y < kcT w (10 - j) j) (hn : w j ≤ y) : y - w j < kcT w (10 - (j + 1)) (j + 1) := by
  rw [show 10 - j = (10 - (j + 1)) + 1 by omega] at h
  have h1 : y < w j + kcT w (10 - (j + 1)) (j + 1) := h
  omega
theorem kcT_e {w : Nat → Nat} {j y : Nat} (hj : 10 ≤ j) (h : y < kcT w (10 - j) j) : False := by
  rw [show 10 - j = 0 by omega] at h
  exact Nat.not_lt_zero y h
/-! laying -/
def kcLa (E : Nat → Nat → Nat → Bool) (i : Nat) (f : Nat → Int32) : Prop := ∀ d, d < i → ∀ p, p < 10 → kcLe E d p (f (d * 10 + p))
def kcLj (E : Nat → Nat → Nat → Bool) (i j : Nat) (f : Nat → Int32) : Prop := kcLa E i f ∧ ∀ p, p < j → kcLe E i p (f (i * 10 + p))
theorem kla_0 (E : Nat → Nat → Nat → Bool) (f : Nat → Int32) : kcLa E 0 f := fun d hd => absurd hd (Nat.not_lt_zero d)
theorem klj_0 {E : Nat → Nat → Nat → Bool} {i : Nat} {f : Nat → Int32} (h : kcLa E i f) : kcLj E i 0 f := ⟨h, fun p hp => absurd hp (Nat.not_lt_zero p)⟩
theorem klj_s {E : Nat → Nat → Nat → Bool} {i j : Nat} {f g : Nat → Int32} {v : Int32} (h : kcLj E i j f) (e : g = upd f (i * 10 + j) v) (hj : j < 10) (hv : kcLe E i j v) : kcLj E i (j + 1) g := by
  refine ⟨fun d hd p hp => ?_, fun p hp => ?_⟩
  · rw [kui_n e (by omega)]; exact h.1 d hd p hp
  · by_cases q : p = j
    · subst q; rw [kui_s e]; exact hv
    · rw [kui_n e (by omega)]; exact h.2 p (by omega)
theorem klj_10 {E : Nat → Nat → Nat → Bool} {i : Nat} {f : Nat → Int32} (h : kcLj E i 10 f) : kcLa E (i + 1) f := fun d hd p hp => by
  by_cases q : d = i
  · subst q; exact h.2 p hp
  · exact h.1 d (by omega) p hp
theorem kld_of {E : Nat → Nat → Nat → Bool} {gd : Nat} {f g : Nat → Int32} (h : kcLa E gd f) (hg : allV 1023 9 g) (h9 : gd ≤ 9) : kcLd E gd f g := fun d hd p hp => by
  obtain ⟨x, a, b, c⟩ := h d hd p hp
  refine ⟨x, 1023, a, hg d (by omega), b, by decide, fun m hm => ?_⟩
  have h3 : ∀ m, m < 10 → Nat.testBit 1023 m = true := by decide
  rw [Nat.testBit_and, h3 m hm, Bool.and_true]
  exact c m hm
theorem kle_al {L : LkS} {wn : Nat} {B W : Nat → Nat} {U : Nat → Bool} {li d p : Nat} (hu : U d = true) : kcLe (kcFo L wn B W U li) d p ((1 : Int32) <<< (nI (kcBec L wn (B d) (W d) d p 0 1) &&& 31)) := by
  have hk := kcTen_lt (kcV L 1 (kcNm wn (B d) (W d) d p 0 1))
  obtain ⟨h1, h2⟩ := kshl1 (k := kcBec L wn (B d) (W d) d p 0 1) hk
  refine ⟨_, h1, h2, fun m hm => ?_⟩
  rw [Nat.testBit_two_pow]
  unfold kcFo
  rw [if_pos hu]
  by_cases q : kcBec L wn (B d) (W d) d p 0 1 = m
  · rw [decide_eq_true q, q]; exact (beq_self_eq_true m).symm
  · rw [decide_eq_false q]; exact (beq_eq_false_iff_ne.mpr q).symm
theorem kle_mb {L : LkS} {wn : Nat} {B W : Nat → Nat} {U : Nat → Bool} {li d p : Nat} (hu : ¬ U d = true) : kcLe (kcFo L wn B W U li) d p (nI (kcMB (kcSaid L wn (B d) (W d) d) (fun t => kcBec L wn (B d) (W d) d p t 0) li)) := by
  refine ⟨_, rfl, kcMB_lt _ _ _, fun m hm => ?_⟩
  unfold kcMB kcFo
  rw [kcK_bit, decide_eq_true hm, Bool.true_and, if_neg hu]
theorem kle_mb0 {L : LkS} {wn : Nat} {B W : Nat → Nat} {U : Nat → Bool} {li d p : Nat} (hu : ¬ U d = true) (h0 : li = 0) : kcLe (kcFo L wn B W U li) d p (nI (kcMB (kcSaid L wn (B d) (W d) d) (fun t => kcBec L wn (B d) (W d) d p t 0) 0)) := by
  subst h0; exact kle_mb hu
theorem krw_e {E : Nat → Nat → Nat → Bool} {gd a0 x i : Nat} {f : Nat → Int32} (h : kcRw E gd a0 x i f) (e : gd = i) : kcRw E gd a0 x gd f := by
  subst e; exact h
set_option maxHeartbeats 4000000 in
set_option maxRecDepth 100000 in
theorem c_kntz (l : Launch) (D : va_G) (cI cJ cC cZ cS : ClassId) (x : Nat) (hx0 : 1 ≤ x) (hx1 : x < 1024) : skM l yJ6_numberOfTrailingZeros_0f7a4 cJ6_numberOfTrailingZeros_0f7a4 2 (some .int) 0 0 0 0 D (skT cI cJ cC cZ cS) [.int (nI x)] [] (skI D (skT cI cJ cC cZ cS) (fun (r : Int32) (u : va_W) => ∃ (v : Nat), kcLow x v ∧ r = nI v ∧ u = [])) := by
  refine skM_of pf_J6_numberOfTrailingZeros_0f7a4 (Nat.le_of_ble_eq_true rfl) ?_
  intro p e s m below meth c A ls E hP hD hl
  refine skE_el E (fun hx hb hr hml hlocks hin hown hts hK hA => ?_)
  have hown : s.vm.findClass RJ6 = some m.cls := hown
  have hS : va_S A s.heap s.heap [] := va_S.rf
  have hl : lv_has ls 2 [(0, .int (nI x))] := hl
  refine lv_iload_n hx hb dJ6_numberOfTrailingZeros_0f7a4_0 rfl (lv_at hl 0 rfl) ?_
  refine lv_iconst (v := (-1)) hx hb dJ6_numberOfTrailingZeros_0f7a4_1 (by decide) ?_
  refine lv_ixor hx hb dJ6_numberOfTrailingZeros_0f7a4_2 ?_
  refine lv_iload_n hx hb dJ6_numberOfTrailingZeros_0f7a4_3 rfl (lv_at hl 0 rfl) ?_
  refine lv_iconst (v := 1) hx hb dJ6_numberOfTrailingZeros_0f7a4_4 ic_1 ?_
  refine lv_isub hx hb dJ6_numberOfTrailingZeros_0f7a4_5 ?_
  refine sk_top (nI (x - 1)) (nsub x 1 (by omega)) ?_
  refine lv_iand hx hb dJ6_numberOfTrailingZeros_0f7a4_6 ?_
  obtain ⟨v, hv10, hlow, hy⟩ := kntz hx0 hx1
  rcases (show v = 0 ∨ v = 1 ∨ v = 2 ∨ v = 3 ∨ v = 4 ∨ v = 5 ∨ v = 6 ∨ v = 7 ∨ v = 8 ∨ v = 9 by omega) with rfl | rfl | rfl | rfl | rfl | rfl | rfl | rfl | rfl | rfl
  · refine sk_top 0 (hy.trans (by decide)) ?_
    refine lv_istore_n (lv' := [(0, .int 0)]) hx hb dJ6_numberOfTrailingZeros_0f7a4_7 rfl hl (by decide) rfl (fun ls hl => ?_)
    refine lv_iload_n hx hb dJ6_numberOfTrailingZeros_0f7a4_8 rfl (lv_at hl 0 rfl) ?_
    refine lv_if_gt (tgt := 17) hx hb dJ6_numberOfTrailingZeros_0f7a4_9 (by decide) (fun c => absurd c (by decide)) (fun c_1 => ?_)
    refine lv_iload_n hx hb dJ6_numberOfTrailingZeros_0f7a4_12 rfl (lv_at hl 0 rfl) ?_
    refine lv_bipush (v := 32) hx hb dJ6_numberOfTrailingZeros_0f7a4_13 (by decide) ?_
    refine lv_iand hx hb dJ6_numberOfTrailingZeros_0f7a4_15 ?_
    refine sk_top 0 (by decide) ?_
    exact sk_iret hx hb hr rfl hlocks hK hP hD hS (⟨0, hlow, rfl, rfl⟩) (Nat.le_of_ble_eq_true rfl) (Nat.le_of_ble_eq_true rfl) dJ6_numberOfTrailingZeros_0f7a4_16
  · refine sk_top 1 (hy.trans (by decide)) ?_
    refine lv_istore_n (lv' := [(0, .int 1)]) hx hb dJ6_numberOfTrailingZeros_0f7a4_7 rfl hl (by decide) rfl (fun ls hl => ?_)
    refine lv_iload_n hx hb dJ6_numberOfTrailingZeros_0f7a4_8 rfl (lv_at hl 0 rfl) ?_
    refine lv_if_gt (tgt := 17) hx hb dJ6_numberOfTrailingZeros_0f7a4_9 (by decide) (fun c_2 => ?_) (fun c => absurd c (by decide))
    refine lv_iconst (v := 1) hx hb dJ6_numberOfTrailingZeros_0f7a4_17 ic_1 ?_
    refine lv_istore_n (lv' := [(1, .int 1), (0, .int 1)]) hx hb dJ6_numberOfTrailingZeros_0f7a4_18 rfl hl (by decide) rfl (fun ls hl => ?_)
    refine lv_iload_n hx hb dJ6_numberOfTrailingZeros_0f7a4_19 rfl (lv_at hl 1 rfl) ?_
    refine lv_ldcw (v := 65536) hx hb hown (hts _ w_4_119) dJ6_numberOfTrailingZeros_0f7a4_20 ?_
    refine lv_icmp_le (tgt := 34) hx hb dJ6_numberOfTrailingZeros_0f7a4_23 (by decide) (fun c_3 => ?_) (fun c => absurd c (by decide))
    refine lv_iload_n hx hb dJ6_numberOfTrailingZeros_0f7a4_34 rfl (lv_at hl 1 rfl) ?_
    refine lv_sipush (v := 256) hx hb dJ6_numberOfTrailingZeros_0f7a4_35 (by decide) ?_
    refine lv_icmp_le (tgt := 49) hx hb dJ6_numberOfTrailingZeros_0f7a4_38 (by decide) (fun c_4 => ?_) (fun c => absurd c (by decide))
    refine lv_iload_n hx hb dJ6_numberOfTrailingZeros_0f7a4_49 rfl (lv_at hl 1 rfl) ?_
    refine lv_bipush (v := 16) hx hb dJ6_numberOfTrailingZeros_0f7a4_50 (by decide) ?_
    refine lv_icmp_le (tgt := 62) hx hb dJ6_numberOfTrailingZeros_0f7a4_52 (by decide) (fun c_5 => ?_) (fun c => absurd c (by decide))
    refine lv_iload_n hx hb dJ6_numberOfTrailingZeros_0f7a4_62 rfl (lv_at hl 1 rfl) ?_
    refine lv_iconst (v := 4) hx hb dJ6_numberOfTrailingZeros_0f7a4_63 ic_4 ?_
    refine lv_icmp_le (tgt := 74) hx hb dJ6_numberOfTrailingZeros_0f7a4_64 (by decide) (fun c_6 => ?_) (fun c => absurd c (by decide))
    refine lv_iload_n hx hb dJ6_numberOfTrailingZeros_0f7a4_74 rfl (lv_at hl 0 rfl) ?_
    refine lv_iload_n hx hb dJ6_numberOfTrailingZeros_0f7a4_75 rfl (lv_at hl 1 rfl) ?_
    refine lv_iconst (v := 1) hx hb dJ6_numberOfTrailingZeros_0f7a4_76 ic_1 ?_
    refine lv_iushr hx hb dJ6_numberOfTrailingZeros_0f7a4_77 rfl ?_
    refine sk_top 0 (by decide) ?_
    refine lv_iadd hx hb dJ6_numberOfTrailingZeros_0f7a4_78 ?_
    refine sk_top 1 (by decide) ?_
    exact sk_iret hx hb hr rfl hlocks hK hP hD hS (⟨1, hlow, rfl, rfl⟩) (Nat.le_of_ble_eq_true rfl) (Nat.le_of_ble_eq_true rfl) dJ6_numberOfTrailingZeros_0f7a4_79
  · refine sk_top 3 (hy.trans (by decide)) ?_
    refine lv_istore_n (lv' := [(0, .int 3)]) hx hb dJ6_numberOfTrailingZeros_0f7a4_7 rfl hl (by decide) rfl (fun ls hl => ?_)
    refine lv_iload_n hx hb dJ6_numberOfTrailingZeros_0f7a4_8 rfl (lv_at hl 0 rfl) ?_
    refine lv_if_gt (tgt := 17) hx hb dJ6_numberOfTrailingZeros_0f7a4_9 (by decide) (fun c_7 => ?_) (fun c => absurd c (by decide))
    refine lv_iconst (v := 1) hx hb dJ6_numberOfTrailingZeros_0f7a4_17 ic_1 ?_
    refine lv_istore_n (lv' := [(1, .int 1), (0, .int 3)]) hx hb dJ6_numberOfTrailingZeros_0f7a4_18 rfl hl (by decide) rfl (fun ls hl => ?_)
    refine lv_iload_n hx hb dJ6_numberOfTrailingZeros_0f7a4_19 rfl (lv_at hl 1 rfl) ?_
    refine lv_ldcw (v := 65536) hx hb hown (hts _ w_4_119) dJ6_numberOfTrailingZeros_0f7a4_20 ?_
    refine lv_icmp_le (tgt := 34) hx hb dJ6_numberOfTrailingZeros_0f7a4_23 (by decide) (fun c_8 => ?_) (fun c => absurd c (by decide))
    refine lv_iload_n hx hb dJ6_numberOfTrailingZeros_0f7a4_34 rfl (lv_at hl 1 rfl) ?_
    refine lv_sipush (v := 256) hx hb dJ6_numberOfTrailingZeros_0f7a4_35 (by decide) ?_
    refine lv_icmp_le (tgt := 49) hx hb dJ6_numberOfTrailingZeros_0f7a4_38 (by decide) (fun c_9 => ?_) (fun c => absurd c (by decide))
    refine lv_iload_n hx hb dJ6_numberOfTrailingZeros_0f7a4_49 rfl (lv_at hl 1 rfl) ?_
    refine lv_bipush (v := 16) hx hb dJ6_numberOfTrailingZeros_0f7a4_50 (by decide) ?_
    refine lv_icmp_le (tgt := 62) hx hb dJ6_numberOfTrailingZeros_0f7a4_52 (by decide) (fun c_10 => ?_) (fun c => absurd c (by decide))
    refine lv_iload_n hx hb dJ6_numberOfTrailingZeros_0f7a4_62 rfl (lv_at hl 1 rfl) ?_
    refine lv_iconst (v := 4) hx hb dJ6_numberOfTrailingZeros_0f7a4_63 ic_4 ?_
    refine lv_icmp_le (tgt := 74) hx hb dJ6_numberOfTrailingZeros_0f7a4_64 (by decide) (fun c_11 => ?_) (fun c => absurd c (by decide))
    refine lv_iload_n hx hb dJ6_numberOfTrailingZeros_0f7a4_74 rfl (lv_at hl 0 rfl) ?_
    refine lv_iload_n hx hb dJ6_numberOfTrailingZeros_0f7a4_75 rfl (lv_at hl 1 rfl) ?_
    refine lv_iconst (v := 1) hx hb dJ6_numberOfTrailingZeros_0f7a4_76 ic_1 ?_
    refine lv_iushr hx hb dJ6_numberOfTrailingZeros_0f7a4_77 rfl ?_
    refine sk_top 1 (by decide) ?_
    refine lv_iadd hx hb dJ6_numberOfTrailingZeros_0f7a4_78 ?_
    refine sk_top 2 (by decide) ?_
    exact sk_iret hx hb hr rfl hlocks hK hP hD hS (⟨2, hlow, rfl, rfl⟩) (Nat.le_of_ble_eq_true rfl) (Nat.le_of_ble_eq_true rfl) dJ6_numberOfTrailingZeros_0f7a4_79
  · refine sk_top 7 (hy.trans (by decide)) ?_
    refine lv_istore_n (lv' := [(0, .int 7)]) hx hb dJ6_numberOfTrailingZeros_0f7a4_7 rfl hl (by decide) rfl (fun ls hl => ?_)
    refine lv_iload_n hx hb dJ6_numberOfTrailingZeros_0f7a4_8 rfl (lv_at hl 0 rfl) ?_
    refine lv_if_gt (tgt := 17) hx hb dJ6_numberOfTrailingZeros_0f7a4_9 (by decide) (fun c_12 => ?_) (fun c => absurd c (by decide))
    refine lv_iconst (v := 1) hx hb dJ6_numberOfTrailingZeros_0f7a4_17 ic_1 ?_
    refine lv_istore_n (lv' := [(1, .int 1), (0, .int 7)]) hx hb dJ6_numberOfTrailingZeros_0f7a4_18 rfl hl (by decide) rfl (fun ls hl => ?_)
    refine lv_iload_n hx hb dJ6_numberOfTrailingZeros_0f7a4_19 rfl (lv_at hl 1 rfl) ?_
    refine lv_ldcw (v := 65536) hx hb hown (hts _ w_4_119) dJ6_numberOfTrailingZeros_0f7a4_20 ?_
    refine lv_icmp_le (tgt := 34) hx hb dJ6_numberOfTrailingZeros_0f7a4_23 (by decide) (fun c_13 => ?_) (fun c => absurd c (by decide))
    refine lv_iload_n hx hb dJ6_numberOfTrailingZeros_0f7a4_34 rfl (lv_at hl 1 rfl) ?_
    refine lv_sipush (v := 256) hx hb dJ6_numberOfTrailingZeros_0f7a4_35 (by decide) ?_
    refine lv_icmp_le (tgt := 49) hx hb dJ6_numberOfTrailingZeros_0f7a4_38 (by decide) (fun c_14 => ?_) (fun c => absurd c (by decide))
    refine lv_iload_n hx hb dJ6_numberOfTrailingZeros_0f7a4_49 rfl (lv_at hl 1 rfl) ?_
    refine lv_bipush (v := 16) hx hb dJ6_numberOfTrailingZeros_0f7a4_50 (by decide) ?_
    refine lv_icmp_le (tgt := 62) hx hb dJ6_numberOfTrailingZeros_0f7a4_52 (by decide) (fun c_15 => ?_) (fun c => absurd c (by decide))
    refine lv_iload_n hx hb dJ6_numberOfTrailingZeros_0f7a4_62 rfl (lv_at hl 1 rfl) ?_
    refine lv_iconst (v := 4) hx hb dJ6_numberOfTrailingZeros_0f7a4_63 ic_4 ?_
    refine lv_icmp_le (tgt := 74) hx hb dJ6_numberOfTrailingZeros_0f7a4_64 (by decide) (fun c => absurd c (by decide)) (fun c_16 => ?_)
    refine lv_iinc (v := 3) (lv' := [(1, .int 3), (0, .int 7)]) hx hb dJ6_numberOfTrailingZeros_0f7a4_67 hl (k := 0) rfl (by decide) (by decide) rfl (fun ls hl => ?_)
    refine lv_iload_n hx hb dJ6_numberOfTrailingZeros_0f7a4_70 rfl (lv_at hl 1 rfl) ?_
    refine lv_iconst (v := 2) hx hb dJ6_numberOfTrailingZeros_0f7a4_71 ic_2 ?_
    refine lv_iushr hx hb dJ6_numberOfTrailingZeros_0f7a4_72 rfl ?_
    refine sk_top 1 (by decide) ?_
    refine lv_istore_n (lv' := [(0, .int 1), (1, .int 3)]) hx hb dJ6_numberOfTrailingZeros_0f7a4_73 rfl hl (by decide) rfl (fun ls hl => ?_)
    refine lv_iload_n hx hb dJ6_numberOfTrailingZeros_0f7a4_74 rfl (lv_at hl 1 rfl) ?_
    refine lv_iload_n hx hb dJ6_numberOfTrailingZeros_0f7a4_75 rfl (lv_at hl 0 rfl) ?_
    refine lv_iconst (v := 1) hx hb dJ6_numberOfTrailingZeros_0f7a4_76 ic_1 ?_
    refine lv_iushr hx hb dJ6_numberOfTrailingZeros_0f7a4_77 rfl ?_
    refine sk_top 0 (by decide) ?_
    refine lv_iadd hx hb dJ6_numberOfTrailingZeros_0f7a4_78 ?_
    refine sk_top 3 (by decide) ?_
    exact sk_iret hx hb hr rfl hlocks hK hP hD hS (⟨3, hlow, rfl, rfl⟩) (Nat.le_of_ble_eq_true rfl) (Nat.le_of_ble_eq_true rfl) dJ6_numberOfTrailingZeros_0f7a4_79
  · refine sk_top 15 (hy.trans (by decide)) ?_
    refine lv_istore_n (lv' := [(0, .int 15)]) hx hb dJ6_numberOfTrailingZeros_0f7a4_7 rfl hl (by decide) rfl (fun ls hl => ?_)
    refine lv_iload_n hx hb dJ6_numberOfTrailingZeros_0f7a4_8 rfl (lv_at hl 0 rfl) ?_
    refine lv_if_gt (tgt := 17) hx hb dJ6_numberOfTrailingZeros_0f7a4_9 (by decide) (fun c_17 => ?_) (fun c => absurd c (by decide))
    refine lv_iconst (v := 1) hx hb dJ6_numberOfTrailingZeros_0f7a4_17 ic_1 ?_
    refine lv_istore_n (lv' := [(1, .int 1), (0, .int 15)]) hx hb dJ6_numberOfTrailingZeros_0f7a4_18 rfl hl (by decide) rfl (fun ls hl => ?_)
    refine lv_iload_n hx hb dJ6_numberOfTrailingZeros_0f7a4_19 rfl (lv_at hl 1 rfl) ?_
    refine lv_ldcw (v := 65536) hx hb hown (hts _ w_4_119) dJ6_numberOfTrailingZeros_0f7a4_20 ?_
    refine lv_icmp_le (tgt := 34) hx hb dJ6_numberOfTrailingZeros_0f7a4_23 (by decide) (fun c_18 => ?_) (fun c => absurd c (by decide))
    refine lv_iload_n hx hb dJ6_numberOfTrailingZeros_0f7a4_34 rfl (lv_at hl 1 rfl) ?_
    refine lv_sipush (v := 256) hx hb dJ6_numberOfTrailingZeros_0f7a4_35 (by decide) ?_
    refine lv_icmp_le (tgt := 49) hx hb dJ6_numberOfTrailingZeros_0f7a4_38 (by decide) (fun c_19 => ?_) (fun c => absurd c (by decide))
    refine lv_iload_n hx hb dJ6_numberOfTrailingZeros_0f7a4_49 rfl (lv_at hl 1 rfl) ?_
    refine lv_bipush (v := 16) hx hb dJ6_numberOfTrailingZeros_0f7a4_50 (by decide) ?_
    refine lv_icmp_le (tgt := 62) hx hb dJ6_numberOfTrailingZeros_0f7a4_52 (by decide) (fun c_20 => ?_) (fun c => absurd c (by decide))
    refine lv_iload_n hx hb dJ6_numberOfTrailingZeros_0f7a4_62 rfl (lv_at hl 1 rfl) ?_
    refine lv_iconst (v := 4) hx hb dJ6_numberOfTrailingZeros_0f7a4_63 ic_4 ?_
    refine lv_icmp_le (tgt := 74) hx hb dJ6_numberOfTrailingZeros_0f7a4_64 (by decide) (fun c => absurd c (by decide)) (fun c_21 => ?_)
    refine lv_iinc (v := 3) (lv' := [(1, .int 3), (0, .int 15)]) hx hb dJ6_numberOfTrailingZeros_0f7a4_67 hl (k := 0) rfl (by decide) (by decide) rfl (fun ls hl => ?_)
    refine lv_iload_n hx hb dJ6_numberOfTrailingZeros_0f7a4_70 rfl (lv_at hl 1 rfl) ?_
    refine lv_iconst (v := 2) hx hb dJ6_numberOfTrailingZeros_0f7a4_71 ic_2 ?_
    refine lv_iushr hx hb dJ6_numberOfTrailingZeros_0f7a4_72 rfl ?_
    refine sk_top 3 (by decide) ?_
    refine lv_istore_n (lv' := [(0, .int 3), (1, .int 3)]) hx hb dJ6_numberOfTrailingZeros_0f7a4_73 rfl hl (by decide) rfl (fun ls hl => ?_)
    refine lv_iload_n hx hb dJ6_numberOfTrailingZeros_0f7a4_74 rfl (lv_at hl 1 rfl) ?_
    refine lv_iload_n hx hb dJ6_numberOfTrailingZeros_0f7a4_75 rfl (lv_at hl 0 rfl) ?_
    refine lv_iconst (v := 1) hx hb dJ6_numberOfTrailingZeros_0f7a4_76 ic_1 ?_
    refine lv_iushr hx hb dJ6_numberOfTrailingZeros_0f7a4_77 rfl ?_
    refine sk_top 1 (by decide) ?_
    refine lv_iadd hx hb dJ6_numberOfTrailingZeros_0f7a4_78 ?_
    refine sk_top 4 (by decide) ?_
    exact sk_iret hx hb hr rfl hlocks hK hP hD hS (⟨4, hlow, rfl, rfl⟩) (Nat.le_of_ble_eq_true rfl) (Nat.le_of_ble_eq_true rfl) dJ6_numberOfTrailingZeros_0f7a4_79
  · refine sk_top 31 (hy.trans (by decide)) ?_
    refine lv_istore_n (lv' := [(0, .int 31)]) hx hb dJ6_numberOfTrailingZeros_0f7a4_7 rfl hl (by decide) rfl (fun ls hl => ?_)
    refine lv_iload_n hx hb dJ6_numberOfTrailingZeros_0f7a4_8 rfl (lv_at hl 0 rfl) ?_
    refine lv_if_gt (tgt := 17) hx hb dJ6_numberOfTrailingZeros_0f7a4_9 (by decide) (fun c_22 => ?_) (fun c => absurd c (by decide))
    refine lv_iconst (v := 1) hx hb dJ6_numberOfTrailingZeros_0f7a4_17 ic_1 ?_
    refine lv_istore_n (lv' := [(1, .int 1), (0, .int 31)]) hx hb dJ6_numberOfTrailingZeros_0f7a4_18 rfl hl (by decide) rfl (fun ls hl => ?_)
    refine lv_iload_n hx hb dJ6_numberOfTrailingZeros_0f7a4_19 rfl (lv_at hl 1 rfl) ?_
    refine lv_ldcw (v := 65536) hx hb hown (hts _ w_4_119) dJ6_numberOfTrailingZeros_0f7a4_20 ?_
    refine lv_icmp_le (tgt := 34) hx hb dJ6_numberOfTrailingZeros_0f7a4_23 (by decide) (fun c_23 => ?_) (fun c => absurd c (by decide))
    refine lv_iload_n hx hb dJ6_numberOfTrailingZeros_0f7a4_34 rfl (lv_at hl 1 rfl) ?_
    refine lv_sipush (v := 256) hx hb dJ6_numberOfTrailingZeros_0f7a4_35 (by decide) ?_
    refine lv_icmp_le (tgt := 49) hx hb dJ6_numberOfTrailingZeros_0f7a4_38 (by decide) (fun c_24 => ?_) (fun c => absurd c (by decide))
    refine lv_iload_n hx hb dJ6_numberOfTrailingZeros_0f7a4_49 rfl (lv_at hl 1 rfl) ?_
    refine lv_bipush (v := 16) hx hb dJ6_numberOfTrailingZeros_0f7a4_50 (by decide) ?_
    refine lv_icmp_le (tgt := 62) hx hb dJ6_numberOfTrailingZeros_0f7a4_52 (by decide) (fun c => absurd c (by decide)) (fun c_25 => ?_)
    refine lv_iinc (v := 5) (lv' := [(1, .int 5), (0, .int 31)]) hx hb dJ6_numberOfTrailingZeros_0f7a4_55 hl (k := 0) rfl (by decide) (by decide) rfl (fun ls hl => ?_)
    refine lv_iload_n hx hb dJ6_numberOfTrailingZeros_0f7a4_58 rfl (lv_at hl 1 rfl) ?_
    refine lv_iconst (v := 4) hx hb dJ6_numberOfTrailingZeros_0f7a4_59 ic_4 ?_
    refine lv_iushr hx hb dJ6_numberOfTrailingZeros_0f7a4_60 rfl ?_
    refine sk_top 1 (by decide) ?_
    refine lv_istore_n (lv' := [(0, .int 1), (1, .int 5)]) hx hb dJ6_numberOfTrailingZeros_0f7a4_61 rfl hl (by decide) rfl (fun ls hl => ?_)
    refine lv_iload_n hx hb dJ6_numberOfTrailingZeros_0f7a4_62 rfl (lv_at hl 0 rfl) ?_
    refine lv_iconst (v := 4) hx hb dJ6_numberOfTrailingZeros_0f7a4_63 ic_4 ?_
    refine lv_icmp_le (tgt := 74) hx hb dJ6_numberOfTrailingZeros_0f7a4_64 (by decide) (fun c_26 => ?_) (fun c => absurd c (by decide))
    refine lv_iload_n hx hb dJ6_numberOfTrailingZeros_0f7a4_74 rfl (lv_at hl 1 rfl) ?_
    refine lv_iload_n hx hb dJ6_numberOfTrailingZeros_0f7a4_75 rfl (lv_at hl 0 rfl) ?_
    refine lv_iconst (v := 1) hx hb dJ6_numberOfTrailingZeros_0f7a4_76 ic_1 ?_
    refine lv_iushr hx hb dJ6_numberOfTrailingZeros_0f7a4_77 rfl ?_
    refine sk_top 0 (by decide) ?_
    refine lv_iadd hx hb dJ6_numberOfTrailingZeros_0f7a4_78 ?_
    refine sk_top 5 (by decide) ?_
    exact sk_iret hx hb hr rfl hlocks hK hP hD hS (⟨5, hlow, rfl, rfl⟩) (Nat.le_of_ble_eq_true rfl) (Nat.le_of_ble_eq_true rfl) dJ6_numberOfTrailingZeros_0f7a4_79
  · refine sk_top 63 (hy.trans (by decide)) ?_
    refine lv_istore_n (lv' := [(0, .int 63)]) hx hb dJ6_numberOfTrailingZeros_0f7a4_7 rfl hl (by decide) rfl (fun ls hl => ?_)
    refine lv_iload_n hx hb dJ6_numberOfTrailingZeros_0f7a4_8 rfl (lv_at hl 0 rfl) ?_
    refine lv_if_gt (tgt := 17) hx hb dJ6_numberOfTrailingZeros_0f7a4_9 (by decide) (fun c_27 => ?_) (fun c => absurd c (by decide))
    refine lv_iconst (v := 1) hx hb dJ6_numberOfTrailingZeros_0f7a4_17 ic_1 ?_
    refine lv_istore_n (lv' := [(1, .int 1), (0, .int 63)]) hx hb dJ6_numberOfTrailingZeros_0f7a4_18 rfl hl (by decide) rfl (fun ls hl => ?_)
    refine lv_iload_n hx hb dJ6_numberOfTrailingZeros_0f7a4_19 rfl (lv_at hl 1 rfl) ?_
    refine lv_ldcw (v := 65536) hx hb hown (hts _ w_4_119) dJ6_numberOfTrailingZeros_0f7a4_20 ?_
    refine lv_icmp_le (tgt := 34) hx hb dJ6_numberOfTrailingZeros_0f7a4_23 (by decide) (fun c_28 => ?_) (fun c => absurd c (by decide))
    refine lv_iload_n hx hb dJ6_numberOfTrailingZeros_0f7a4_34 rfl (lv_at hl 1 rfl) ?_
    refine lv_sipush (v := 256) hx hb dJ6_numberOfTrailingZeros_0f7a4_35 (by decide) ?_
    refine lv_icmp_le (tgt := 49) hx hb dJ6_numberOfTrailingZeros_0f7a4_38 (by decide) (fun c_29 => ?_) (fun c => absurd c (by decide))
    refine lv_iload_n hx hb dJ6_numberOfTrailingZeros_0f7a4_49 rfl (lv_at hl 1 rfl) ?_
    refine lv_bipush (v := 16) hx hb dJ6_numberOfTrailingZeros_0f7a4_50 (by decide) ?_
    refine lv_icmp_le (tgt := 62) hx hb dJ6_numberOfTrailingZeros_0f7a4_52 (by decide) (fun c => absurd c (by decide)) (fun c_30 => ?_)
    refine lv_iinc (v := 5) (lv' := [(1, .int 5), (0, .int 63)]) hx hb dJ6_numberOfTrailingZeros_0f7a4_55 hl (k := 0) rfl (by decide) (by decide) rfl (fun ls hl => ?_)
    refine lv_iload_n hx hb dJ6_numberOfTrailingZeros_0f7a4_58 rfl (lv_at hl 1 rfl) ?_
    refine lv_iconst (v := 4) hx hb dJ6_numberOfTrailingZeros_0f7a4_59 ic_4 ?_
    refine lv_iushr hx hb dJ6_numberOfTrailingZeros_0f7a4_60 rfl ?_
    refine sk_top 3 (by decide) ?_
    refine lv_istore_n (lv' := [(0, .int 3), (1, .int 5)]) hx hb dJ6_numberOfTrailingZeros_0f7a4_61 rfl hl (by decide) rfl (fun ls hl => ?_)
    refine lv_iload_n hx hb dJ6_numberOfTrailingZeros_0f7a4_62 rfl (lv_at hl 0 rfl) ?_
    refine lv_iconst (v := 4) hx hb dJ6_numberOfTrailingZeros_0f7a4_63 ic_4 ?_
    refine lv_icmp_le (tgt := 74) hx hb dJ6_numberOfTrailingZeros_0f7a4_64 (by decide) (fun c_31 => ?_) (fun c => absurd c (by decide))
    refine lv_iload_n hx hb dJ6_numberOfTrailingZeros_0f7a4_74 rfl (lv_at hl 1 rfl) ?_
    refine lv_iload_n hx hb dJ6_numberOfTrailingZeros_0f7a4_75 rfl (lv_at hl 0 rfl) ?_
    refine lv_iconst (v := 1) hx hb dJ6_numberOfTrailingZeros_0f7a4_76 ic_1 ?_
    refine lv_iushr hx hb dJ6_numberOfTrailingZeros_0f7a4_77 rfl ?_
    refine sk_top 1 (by decide) ?_
    refine lv_iadd hx hb dJ6_numberOfTrailingZeros_0f7a4_78 ?_
    refine sk_top 6 (by decide) ?_
    exact sk_iret hx hb hr rfl hlocks hK hP hD hS (⟨6, hlow, rfl, rfl⟩) (Nat.le_of_ble_eq_true rfl) (Nat.le_of_ble_eq_true rfl) dJ6_numberOfTrailingZeros_0f7a4_79
  · refine sk_top 127 (hy.trans (by decide)) ?_
    refine lv_istore_n (lv' := [(0, .int 127)]) hx hb dJ6_numberOfTrailingZeros_0f7a4_7 rfl hl (by decide) rfl (fun ls hl => ?_)
    refine lv_iload_n hx hb dJ6_numberOfTrailingZeros_0f7a4_8 rfl (lv_at hl 0 rfl) ?_
    refine lv_if_gt (tgt := 17) hx hb dJ6_numberOfTrailingZeros_0f7a4_9 (by decide) (fun c_32 => ?_) (fun c => absurd c (by decide))
    refine lv_iconst (v := 1) hx hb dJ6_numberOfTrailingZeros_0f7a4_17 ic_1 ?_
    refine lv_istore_n (lv' := [(1, .int 1), (0, .int 127)]) hx hb dJ6_numberOfTrailingZeros_0f7a4_18 rfl hl (by decide) rfl (fun ls hl => ?_)
    refine lv_iload_n hx hb dJ6_numberOfTrailingZeros_0f7a4_19 rfl (lv_at hl 1 rfl) ?_
    refine lv_ldcw (v := 65536) hx hb hown (hts _ w_4_119) dJ6_numberOfTrailingZeros_0f7a4_20 ?_
    refine lv_icmp_le (tgt := 34) hx hb dJ6_numberOfTrailingZeros_0f7a4_23 (by decide) (fun c_33 => ?_) (fun c => absurd c (by decide))
    refine lv_iload_n hx hb dJ6_numberOfTrailingZeros_0f7a4_34 rfl (lv_at hl 1 rfl) ?_
    refine lv_sipush (v := 256) hx hb dJ6_numberOfTrailingZeros_0f7a4_35 (by decide) ?_
    refine lv_icmp_le (tgt := 49) hx hb dJ6_numberOfTrailingZeros_0f7a4_38 (by decide) (fun c_34 => ?_) (fun c => absurd c (by decide))
    refine lv_iload_n hx hb dJ6_numberOfTrailingZeros_0f7a4_49 rfl (lv_at hl 1 rfl) ?_
    refine lv_bipush (v := 16) hx hb dJ6_numberOfTrailingZeros_0f7a4_50 (by decide) ?_
    refine lv_icmp_le (tgt := 62) hx hb dJ6_numberOfTrailingZeros_0f7a4_52 (by decide) (fun c => absurd c (by decide)) (fun c_35 => ?_)
    refine lv_iinc (v := 5) (lv' := [(1, .int 5), (0, .int 127)]) hx hb dJ6_numberOfTrailingZeros_0f7a4_55 hl (k := 0) rfl (by decide) (by decide) rfl (fun ls hl => ?_)
    refine lv_iload_n hx hb dJ6_numberOfTrailingZeros_0f7a4_58 rfl (lv_at hl 1 rfl) ?_
    refine lv_iconst (v := 4) hx hb dJ6_numberOfTrailingZeros_0f7a4_59 ic_4 ?_
    refine lv_iushr hx hb dJ6_numberOfTrailingZeros_0f7a4_60 rfl ?_
    refine sk_top 7 (by decide) ?_
    refine lv_istore_n (lv' := [(0, .int 7), (1, .int 5)]) hx hb dJ6_numberOfTrailingZeros_0f7a4_61 rfl hl (by decide) rfl (fun ls hl => ?_)
    refine lv_iload_n hx hb dJ6_numberOfTrailingZeros_0f7a4_62 rfl (lv_at hl 0 rfl) ?_
    refine lv_iconst (v := 4) hx hb dJ6_numberOfTrailingZeros_0f7a4_63 ic_4 ?_
    refine lv_icmp_le (tgt := 74) hx hb dJ6_numberOfTrailingZeros_0f7a4_64 (by decide) (fun c => absurd c (by decide)) (fun c_36 => ?_)
    refine lv_iinc (v := 7) (lv' := [(1, .int 7), (0, .int 7)]) hx hb dJ6_numberOfTrailingZeros_0f7a4_67 hl (k := 1) rfl (by decide) (by decide) rfl (fun ls hl => ?_)
    refine lv_iload_n hx hb dJ6_numberOfTrailingZeros_0f7a4_70 rfl (lv_at hl 1 rfl) ?_
    refine lv_iconst (v := 2) hx hb dJ6_numberOfTrailingZeros_0f7a4_71 ic_2 ?_
    refine lv_iushr hx hb dJ6_numberOfTrailingZeros_0f7a4_72 rfl ?_
    refine sk_top 1 (by decide) ?_
    refine lv_istore_n (lv' := [(0, .int 1), (1, .int 7)]) hx hb dJ6_numberOfTrailingZeros_0f7a4_73 rfl hl (by decide) rfl (fun ls hl => ?_)
    refine lv_iload_n hx hb dJ6_numberOfTrailingZeros_0f7a4_74 rfl (lv_at hl 1 rfl) ?_
    refine lv_iload_n hx hb dJ6_numberOfTrailingZeros_0f7a4_75 rfl (lv_at hl 0 rfl) ?_
    refine lv_iconst (v := 1) hx hb dJ6_numberOfTrailingZeros_0f7a4_76 ic_1 ?_
    refine lv_iushr hx hb dJ6_numberOfTrailingZeros_0f7a4_77 rfl ?_
    refine sk_top 0 (by decide) ?_
    refine lv_iadd hx hb dJ6_numberOfTrailingZeros_0f7a4_78 ?_
    refine sk_top 7 (by decide) ?_
    exact sk_iret hx hb hr rfl hlocks hK hP hD hS (⟨7, hlow, rfl, rfl⟩) (Nat.le_of_ble_eq_true rfl) (Nat.le_of_ble_eq_true rfl) dJ6_numberOfTrailingZeros_0f7a4_79
  · refine sk_top 255 (hy.trans (by decide)) ?_
    refine lv_istore_n (lv' := [(0, .int 255)]) hx hb dJ6_numberOfTrailingZeros_0f7a4_7 rfl hl (by decide) rfl (fun ls hl => ?_)
    refine lv_iload_n hx hb dJ6_numberOfTrailingZeros_0f7a4_8 rfl (lv_at hl 0 rfl) ?_
    refine lv_if_gt (tgt := 17) hx hb dJ6_numberOfTrailingZeros_0f7a4_9 (by decide) (fun c_37 => ?_) (fun c => absurd c (by decide))
    refine lv_iconst (v := 1) hx hb dJ6_numberOfTrailingZeros_0f7a4_17 ic_1 ?_
    refine lv_istore_n (lv' := [(1, .int 1), (0, .int 255)]) hx hb dJ6_numberOfTrailingZeros_0f7a4_18 rfl hl (by decide) rfl (fun ls hl => ?_)
    refine lv_iload_n hx hb dJ6_numberOfTrailingZeros_0f7a4_19 rfl (lv_at hl 1 rfl) ?_
    refine lv_ldcw (v := 65536) hx hb hown (hts _ w_4_119) dJ6_numberOfTrailingZeros_0f7a4_20 ?_
    refine lv_icmp_le (tgt := 34) hx hb dJ6_numberOfTrailingZeros_0f7a4_23 (by decide) (fun c_38 => ?_) (fun c => absurd c (by decide))
    refine lv_iload_n hx hb dJ6_numberOfTrailingZeros_0f7a4_34 rfl (lv_at hl 1 rfl) ?_
    refine lv_sipush (v := 256) hx hb dJ6_numberOfTrailingZeros_0f7a4_35 (by decide) ?_
    refine lv_icmp_le (tgt := 49) hx hb dJ6_numberOfTrailingZeros_0f7a4_38 (by decide) (fun c_39 => ?_) (fun c => absurd c (by decide))
    refine lv_iload_n hx hb dJ6_numberOfTrailingZeros_0f7a4_49 rfl (lv_at hl 1 rfl) ?_
    refine lv_bipush (v := 16) hx hb dJ6_numberOfTrailingZeros_0f7a4_50 (by decide) ?_
    refine lv_icmp_le (tgt := 62) hx hb dJ6_numberOfTrailingZeros_0f7a4_52 (by decide) (fun c => absurd c (by decide)) (fun c_40 => ?_)
    refine lv_iinc (v := 5) (lv' := [(1, .int 5), (0, .int 255)]) hx hb dJ6_numberOfTrailingZeros_0f7a4_55 hl (k := 0) rfl (by decide) (by decide) rfl (fun ls hl => ?_)
    refine lv_iload_n hx hb dJ6_numberOfTrailingZeros_0f7a4_58 rfl (lv_at hl 1 rfl) ?_
    refine lv_iconst (v := 4) hx hb dJ6_numberOfTrailingZeros_0f7a4_59 ic_4 ?_
    refine lv_iushr hx hb dJ6_numberOfTrailingZeros_0f7a4_60 rfl ?_
    refine sk_top 15 (by decide) ?_
    refine lv_istore_n (lv' := [(0, .int 15), (1, .int 5)]) hx hb dJ6_numberOfTrailingZeros_0f7a4_61 rfl hl (by decide) rfl (fun ls hl => ?_)
    refine lv_iload_n hx hb dJ6_numberOfTrailingZeros_0f7a4_62 rfl (lv_at hl 0 rfl) ?_
    refine lv_iconst (v := 4) hx hb dJ6_numberOfTrailingZeros_0f7a4_63 ic_4 ?_
    refine lv_icmp_le (tgt := 74) hx hb dJ6_numberOfTrailingZeros_0f7a4_64 (by decide) (fun c => absurd c (by decide)) (fun c_41 => ?_)
    refine lv_iinc (v := 7) (lv' := [(1, .int 7), (0, .int 15)]) hx hb dJ6_numberOfTrailingZeros_0f7a4_67 hl (k := 1) rfl (by decide) (by decide) rfl (fun ls hl => ?_)
    refine lv_iload_n hx hb dJ6_numberOfTrailingZeros_0f7a4_70 rfl (lv_at hl 1 rfl) ?_
    refine lv_iconst (v := 2) hx hb dJ6_numberOfTrailingZeros_0f7a4_71 ic_2 ?_
    refine lv_iushr hx hb dJ6_numberOfTrailingZeros_0f7a4_72 rfl ?_
    refine sk_top 3 (by decide) ?_
    refine lv_istore_n (lv' := [(0, .int 3), (1, .int 7)]) hx hb dJ6_numberOfTrailingZeros_0f7a4_73 rfl hl (by decide) rfl (fun ls hl => ?_)
    refine lv_iload_n hx hb dJ6_numberOfTrailingZeros_0f7a4_74 rfl (lv_at hl 1 rfl) ?_
    refine lv_iload_n hx hb dJ6_numberOfTrailingZeros_0f7a4_75 rfl (lv_at hl 0 rfl) ?_
    refine lv_iconst (v := 1) hx hb dJ6_numberOfTrailingZeros_0f7a4_76 ic_1 ?_
    refine lv_iushr hx hb dJ6_numberOfTrailingZeros_0f7a4_77 rfl ?_
    refine sk_top 1 (by decide) ?_
    refine lv_iadd hx hb dJ6_numberOfTrailingZeros_0f7a4_78 ?_
    refine sk_top 8 (by decide) ?_
    exact sk_iret hx hb hr rfl hlocks hK hP hD hS (⟨8, hlow, rfl, rfl⟩) (Nat.le_of_ble_eq_true rfl) (Nat.le_of_ble_eq_true rfl) dJ6_numberOfTrailingZeros_0f7a4_79
  · refine sk_top 511 (hy.trans (by decide)) ?_
    refine lv_istore_n (lv' := [(0, .int 511)]) hx hb dJ6_numberOfTrailingZeros_0f7a4_7 rfl hl (by decide) rfl (fun ls hl => ?_)
    refine lv_iload_n hx hb dJ6_numberOfTrailingZeros_0f7a4_8 rfl (lv_at hl 0 rfl) ?_
    refine lv_if_gt (tgt := 17) hx hb dJ6_numberOfTrailingZeros_0f7a4_9 (by decide) (fun c_42 => ?_) (fun c => absurd c (by decide))
    refine lv_iconst (v := 1) hx hb dJ6_numberOfTrailingZeros_0f7a4_17 ic_1 ?_
    refine lv_istore_n (lv' := [(1, .int 1), (0, .int 511)]) hx hb dJ6_numberOfTrailingZeros_0f7a4_18 rfl hl (by decide) rfl (fun ls hl => ?_)
    refine lv_iload_n hx hb dJ6_numberOfTrailingZeros_0f7a4_19 rfl (lv_at hl 1 rfl) ?_
    refine lv_ldcw (v := 65536) hx hb hown (hts _ w_4_119) dJ6_numberOfTrailingZeros_0f7a4_20 ?_
    refine lv_icmp_le (tgt := 34) hx hb dJ6_numberOfTrailingZeros_0f7a4_23 (by decide) (fun c_43 => ?_) (fun c => absurd c (by decide))
    refine lv_iload_n hx hb dJ6_numberOfTrailingZeros_0f7a4_34 rfl (lv_at hl 1 rfl) ?_
    refine lv_sipush (v := 256) hx hb dJ6_numberOfTrailingZeros_0f7a4_35 (by decide) ?_
    refine lv_icmp_le (tgt := 49) hx hb dJ6_numberOfTrailingZeros_0f7a4_38 (by decide) (fun c => absurd c (by decide)) (fun c_44 => ?_)
    refine lv_iinc (v := 9) (lv' := [(1, .int 9), (0, .int 511)]) hx hb dJ6_numberOfTrailingZeros_0f7a4_41 hl (k := 0) rfl (by decide) (by decide) rfl (fun ls hl => ?_)
    refine lv_iload_n hx hb dJ6_numberOfTrailingZeros_0f7a4_44 rfl (lv_at hl 1 rfl) ?_
    refine lv_bipush (v := 8) hx hb dJ6_numberOfTrailingZeros_0f7a4_45 (by decide) ?_
    refine lv_iushr hx hb dJ6_numberOfTrailingZeros_0f7a4_47 rfl ?_
    refine sk_top 1 (by decide) ?_
    refine lv_istore_n (lv' := [(0, .int 1), (1, .int 9)]) hx hb dJ6_numberOfTrailingZeros_0f7a4_48 rfl hl (by decide) rfl (fun ls hl => ?_)
    refine lv_iload_n hx hb dJ6_numberOfTrailingZeros_0f7a4_49 rfl (lv_at hl 0 rfl) ?_
    refine lv_bipush (v := 16) hx hb dJ6_numberOfTrailingZeros_0f7a4_50 (by decide) ?_
    refine lv_icmp_le (tgt := 62) hx hb dJ6_numberOfTrailingZeros_0f7a4_52 (by decide) (fun c_45 => ?_) (fun c => absurd c (by decide))
    refine lv_iload_n hx hb dJ6_numberOfTrailingZeros_0f7a4_62 rfl (lv_at hl 0 rfl) ?_
    refine lv_iconst (v := 4) hx hb dJ6_numberOfTrailingZeros_0f7a4_63 ic_4 ?_
    refine lv_icmp_le (tgt := 74) hx hb dJ6_numberOfTrailingZeros_0f7a4_64 (by decide) (fun c_46 => ?_) (fun c => absurd c (by decide))
    refine lv_iload_n hx hb dJ6_numberOfTrailingZeros_0f7a4_74 rfl (lv_at hl 1 rfl) ?_
    refine lv_iload_n hx hb dJ6_numberOfTrailingZeros_0f7a4_75 rfl (lv_at hl 0 rfl) ?_
    refine lv_iconst (v := 1) hx hb dJ6_numberOfTrailingZeros_0f7a4_76 ic_1 ?_
    refine lv_iushr hx hb dJ6_numberOfTrailingZeros_0f7a4_77 rfl ?_
    refine sk_top 0 (by decide) ?_
    refine lv_iadd hx hb dJ6_numberOfTrailingZeros_0f7a4_78 ?_
    refine sk_top 9 (by decide) ?_
    exact sk_iret hx hb hr rfl hlocks hK hP hD hS (⟨9, hlow, rfl, rfl⟩) (Nat.le_of_ble_eq_true rfl) (Nat.le_of_ble_eq_true rfl) dJ6_numberOfTrailingZeros_0f7a4_79
set_option maxHeartbeats 4000000 in
set_option maxRecDepth 100000 in
theorem c_knext (l : Launch) (D : va_G) (cI cJ cC cZ cS : ClassId) (q : Nat → Nat) (gd : Nat) (gs : Nat) (e1 : Nat → Int32) (e2 : Nat → Int32) (e3 : Nat → Int32) (d : Nat) (ah : Nat) (Ed : Nat → Nat → Nat → Bool) (hgd : gd ≤ 9) (hd : d < gd) (hah : ah < 10) (hld : kcLd Ed gd e1 e2) (hlv : kcLv Ed gd (d + 1) e3) : skM l yX1_next cX1_next 3 (some .int) 0 0 0 0 D (skT cI cJ cC cZ cS) [.ref (q 11), .int (nI d), .int (nI ah)] [(q 11, .inr (1, [.ref (q 10), .ref (q 67), .ref (q 68), .ref (q 69), .ref (q 70), .ref (q 71), .ref (q 72), .int (nI gd), .int (nI gs)])), (q 67, .inl (cI, 90, .inl e1)), (q 68, .inl (cI, 9, .inl e2)), (q 69, .inl (cI, 10, .inl e3))] (skI D (skT cI cJ cC cZ cS) (fun (r : Int32) (u : va_W) => ∃ (nq : Nat), kcNx Ed gd d ah nq ∧ r = nI nq ∧ u = [(q 11, .inr (1, [.ref (q 10), .ref (q 67), .ref (q 68), .ref (q 69), .ref (q 70), .ref (q 71), .ref (q 72), .int (nI gd), .int (nI gs)])), (q 67, .inl (cI, 90, .inl e1)), (q 68, .inl (cI, 9, .inl e2)), (q 69, .inl (cI, 10, .inl e3))])) := by
  refine skM_of pf_X1_next (Nat.le_of_ble_eq_true rfl) ?_
  intro p e s m below meth c A ls E hP hD hl
  refine skE_el E (fun hx hb hr hml hlocks hin hown hts hK hA => ?_)
  have hown : s.vm.findClass RX1 = some m.cls := hown
  have hS : va_S A s.heap s.heap [] := va_S.rf
  have hl : lv_has ls 3 [(0, .ref (q 11)), (1, .int (nI d)), (2, .int (nI ah))] := hl
  refine lv_aload_n hx hb dX1_next_0 rfl (lv_at hl 0 rfl) ?_
  refine sk_get (v := .ref (q 67)) (C := RX1) (T := TX1) (N := 9) hx hb hts inlX1 hown hK hP 0 rfl rfl 1 (Nat.le_of_ble_eq_true rfl) w_2_96 rfl dX1_next_1 ?_
  refine lv_iload_n hx hb dX1_next_4 rfl (lv_at hl 1 rfl) ?_
  refine lv_bipush (v := 10) hx hb dX1_next_5 (by decide) ?_
  refine lv_imul hx hb dX1_next_7 ?_
  refine sk_top (nI (d * 10)) (nmul d 10) ?_
  refine lv_iload_n hx hb dX1_next_8 rfl (lv_at hl 2 rfl) ?_
  refine lv_iadd hx hb dX1_next_9 ?_
  refine sk_top (nI (d * 10 + ah)) (nI_add (d * 10) ah) ?_
  refine va_iald hx hb hK.1 hP 1 0 rfl rfl (vin (d * 10 + ah) 90 (by omega) (Nat.le_of_ble_eq_true rfl)) dX1_next_10 ?_
  obtain ⟨x, y, hx1_, hy1_, hxl, hyl, hxy⟩ := hld d (by omega) ah (by omega)
  obtain ⟨z, hz1_, hzl, hzz⟩ := hlv (d + 1) (Nat.le_refl _) (by omega)
  refine sk_top (nI x) (by rw [nI_clamp (by omega)]; exact hx1_) ?_
  refine lv_aload_n hx hb dX1_next_11 rfl (lv_at hl 0 rfl) ?_
  refine sk_get (v := .ref (q 68)) (C := RX1) (T := TX1) (N := 9) hx hb hts inlX1 hown hK hP 0 rfl rfl 2 (Nat.le_of_ble_eq_true rfl) w_2_97 rfl dX1_next_12 ?_
  refine lv_iload_n hx hb dX1_next_15 rfl (lv_at hl 1 rfl) ?_
  refine va_iald hx hb hK.1 hP 2 0 rfl rfl (vin d 9 (by omega) (Nat.le_of_ble_eq_true rfl)) dX1_next_16 ?_
  refine sk_top (nI y) (by rw [nI_clamp (by omega)]; exact hy1_) ?_
  refine lv_iand hx hb dX1_next_17 ?_
  refine sk_top (nI (x &&& y)) (knd32 hxl hyl).1 ?_
  refine lv_aload_n hx hb dX1_next_18 rfl (lv_at hl 0 rfl) ?_
  refine sk_get (v := .ref (q 69)) (C := RX1) (T := TX1) (N := 9) hx hb hts inlX1 hown hK hP 0 rfl rfl 3 (Nat.le_of_ble_eq_true rfl) w_2_98 rfl dX1_next_19 ?_
  refine lv_iload_n hx hb dX1_next_22 rfl (lv_at hl 1 rfl) ?_
  refine lv_iconst (v := 1) hx hb dX1_next_23 ic_1 ?_
  refine lv_iadd hx hb dX1_next_24 ?_
  refine sk_top (nI (d + 1)) (nI_add d 1) ?_
  refine va_iald hx hb hK.1 hP 3 0 rfl rfl (vin (d + 1) 10 (by omega) (Nat.le_of_ble_eq_true rfl)) dX1_next_25 ?_
  refine sk_top (nI z) (by rw [nI_clamp (by omega)]; exact hz1_) ?_
  refine lv_iand hx hb dX1_next_26 ?_
  refine sk_top (nI (x &&& y &&& z)) (knd32 (knd32 hxl hyl).2 hzl).1 ?_
  exact sk_iret hx hb hr rfl hlocks hK hP hD hS (⟨x &&& y &&& z, knx_of hxl hyl hzl hxy hzz, rfl, rfl⟩) (Nat.le_of_ble_eq_true rfl) (Nat.le_of_ble_eq_true rfl) dX1_next_27
set_option maxHeartbeats 4000000 in
set_option maxRecDepth 100000 in
theorem c_ksettle (l : Launch) (D : va_G) (cI cJ cC cZ cS : ClassId) (q : Nat → Nat) (gd : Nat) (gs : Nat) (e1 : Nat → Int32) (e2 : Nat → Int32) (e3 : Nat → Int32) (Ed : Nat → Nat → Nat → Bool) (hgd : gd ≤ 9) (hgs : gs ≤ 9) (hld : kcLd Ed gd e1 e2) : skM l yX1_settle cX1_settle 4 (some .boolean) 1 22 0 0 D (skT cI cJ cC cZ cS) [.ref (q 11)] [(q 11, .inr (1, [.ref (q 10), .ref (q 67), .ref (q 68), .ref (q 69), .ref (q 70), .ref (q 71), .ref (q 72), .int (nI gd), .int (nI gs)])), (q 67, .inl (cI, 90, .inl e1)), (q 68, .inl (cI, 9, .inl e2)), (q 69, .inl (cI, 10, .inl e3))] (skI D (skT cI cJ cC cZ cS) (fun (r : Int32) (u : va_W) => ∃ (b : Nat), ∃ (g3 : Nat → Int32), ((b = 0 ∧ kcC Ed gd 0 gs = 0) ∨ (b = 1 ∧ 0 < kcC Ed gd 0 gs)) ∧ kcLv Ed gd 0 g3 ∧ r = nI b ∧ u = [(q 11, .inr (1, [.ref (q 10), .ref (q 67), .ref (q 68), .ref (q 69), .ref (q 70), .ref (q 71), .ref (q 72), .int (nI gd), .int (nI gs)])), (q 67, .inl (cI, 90, .inl e1)), (q 68, .inl (cI, 9, .inl e2)), (q 69, .inl (cI, 10, .inl g3))])) := by
  refine skM_of pf_X1_settle (Nat.le_of_ble_eq_true rfl) ?_
  intro p e s m below meth c A ls E hP hD hl
  refine skE_el E (fun hx hb hr hml hlocks hin hown hts hK hA => ?_)
  have hown : s.vm.findClass RX1 = some m.cls := hown
  have hS : va_S A s.heap s.heap [] := va_S.rf
  have hl : lv_has ls 4 [(0, .ref (q 11))] := hl
  refine lv_aload_n hx hb dX1_settle_0 rfl (lv_at hl 0 rfl) ?_
  refine sk_get (v := .ref (q 69)) (C := RX1) (T := TX1) (N := 9) hx hb hts inlX1 hown hK hP 0 rfl rfl 3 (Nat.le_of_ble_eq_true rfl) w_2_98 rfl dX1_settle_1 ?_
  refine lv_aload_n hx hb dX1_settle_4 rfl (lv_at hl 0 rfl) ?_
  refine sk_get (v := .int (nI gd)) (C := RX1) (T := TX1) (N := 9) hx hb hts inlX1 hown hK hP 0 rfl rfl 7 (Nat.le_of_ble_eq_true rfl) w_2_102 rfl dX1_settle_5 ?_
  refine lv_sipush (v := 1023) hx hb dX1_settle_8 (by decide) ?_
  refine sk_iastE (k := gd) (ws' := fun f_1 => [(q 11, .inr (1, [.ref (q 10), .ref (q 67), .ref (q 68), .ref (q 69), .ref (q 70), .ref (q 71), .ref (q 72), .int (nI gd), .int (nI gs)])), (q 67, .inl (cI, 90, .inl e1)), (q 68, .inl (cI, 9, .inl e2)), (q 69, .inl (cI, 10, .inl f_1))]) hx hb hK hP hD hS 3 0 rfl rfl (by omega) (by omega) (fun _ => rfl) dX1_settle_11 (fun f_1 H locs ef_2 hP hD hS => ?_)
  refine lv_aload_n hx hb dX1_settle_12 rfl (lv_at hl 0 rfl) ?_
  refine sk_get (v := .int (nI gd)) (C := RX1) (T := TX1) (N := 9) hx hb hts inlX1 hown hK hP 0 rfl rfl 7 (Nat.le_of_ble_eq_true rfl) w_2_102 rfl dX1_settle_13 ?_
  refine lv_iconst (v := 1) hx hb dX1_settle_16 ic_1 ?_
  refine lv_isub hx hb dX1_settle_17 ?_
  refine lv_istore_n (lv' := [(1, .int (nI gd - 1)), (0, .ref (q 11))]) hx hb dX1_settle_18 rfl hl (by decide) rfl (fun ls hl => ?_)
  have lp_3 : ∀ (n_4 : Nat) (dd : Nat) (a3 : Nat → Int32) (H : Heap) (locs : List Loc) (ls : Array Slot), dd < n_4 → (dd ≤ gd) → (kcLv Ed gd dd a3) → va_P D vwCl [(q 11, .inr (1, [.ref (q 10), .ref (q 67), .ref (q 68), .ref (q 69), .ref (q 70), .ref (q 71), .ref (q 72), .int (nI gd), .int (nI gs)])), (q 67, .inl (cI, 90, .inl e1)), (q 68, .inl (cI, 9, .inl e2)), (q 69, .inl (cI, 10, .inl a3))] H → va_D A [(q 11, .inr (1, [.ref (q 10), .ref (q 67), .ref (q 68), .ref (q 69), .ref (q 70), .ref (q 71), .ref (q 72), .int (nI gd), .int (nI gs)])), (q 67, .inl (cI, 90, .inl e1)), (q 68, .inl (cI, 9, .inl e2)), (q 69, .inl (cI, 10, .inl a3))] → va_S A s.heap H locs → lv_has ls 4 [(1, .int (nI dd - 1)), (0, .ref (q 11))] → W p l e { frames := 1, cells := 0, slots := 0, locals := 22 } s m ([.ref (q 11)] : List Value).toArray below meth c H locs 0 0 (MQ below (skI D (skT cI cJ cC cZ cS) (fun (r : Int32) (u : va_W) => ∃ (b : Nat), ∃ (g3 : Nat → Int32), ((b = 0 ∧ kcC Ed gd 0 gs = 0) ∨ (b = 1 ∧ 0 < kcC Ed gd 0 gs)) ∧ kcLv Ed gd 0 g3 ∧ r = nI b ∧ u = [(q 11, .inr (1, [.ref (q 10), .ref (q 67), .ref (q 68), .ref (q 69), .ref (q 70), .ref (q 71), .ref (q 72), .int (nI gd), .int (nI gs)])), (q 67, .inl (cI, 90, .inl e1)), (q 68, .inl (cI, 9, .inl e2)), (q 69, .inl (cI, 10, .inl g3))]) A) ([.ref (q 11)] : List Value).toArray s 0 0 A) (F0 m 19 ls []) := by
    intro n_4
    induction n_4 with
    | zero => intro dd a3 H locs ls hm; exact absurd hm (Nat.not_lt_zero _)
    | succ n_4 ih_lp_3 =>
      intro dd a3 H locs ls hm hdd hlv_ hP hD hS hl
      refine lv_iload_n hx hb dX1_settle_19 rfl (lv_at hl 0 rfl) ?_
      refine lv_if_lt (tgt := 67) hx hb dX1_settle_20 (by decide) (fun c_5 => ?_) (fun c_5 => ?_)
      · have c_5 : dd = 0 := npm0 dd (by omega) c_5
        refine lv_aload_n hx hb dX1_settle_67 rfl (lv_at hl 1 rfl) ?_
        refine sk_get (v := .ref (q 69)) (C := RX1) (T := TX1) (N := 9) hx hb hts inlX1 hown hK hP 0 rfl rfl 3 (Nat.le_of_ble_eq_true rfl) w_2_98 rfl dX1_settle_68 ?_
        refine lv_iconst (v := 0) hx hb dX1_settle_71 ic_0 ?_
        refine va_iald hx hb hK.1 hP 3 0 rfl rfl (by unfold vp_in; decide) dX1_settle_72 ?_
        obtain ⟨z, hz1_, hzl, hzz⟩ := hlv_ 0 (by omega) (by omega)
        refine sk_top (nI z) hz1_ ?_
        refine lv_aload_n hx hb dX1_settle_73 rfl (lv_at hl 1 rfl) ?_
        refine sk_get (v := .int (nI gs)) (C := RX1) (T := TX1) (N := 9) hx hb hts inlX1 hown hK hP 0 rfl rfl 8 (Nat.le_of_ble_eq_true rfl) w_2_103 rfl dX1_settle_74 ?_
        refine lv_ishr hx hb dX1_settle_77 ?_
        refine lv_iconst (v := 1) hx hb dX1_settle_78 ic_1 ?_
        refine lv_iand hx hb dX1_settle_79 ?_
        refine lv_iconst (v := 1) hx hb dX1_settle_80 ic_1 ?_
        refine lv_icmp_ne (tgt := 88) hx hb dX1_settle_81 (by decide) (fun c_6 => ?_) (fun c_6 => ?_)
        · skip
          refine lv_iconst (v := 0) hx hb dX1_settle_88 ic_0 ?_
          exact sk_iret hx hb hr rfl hlocks hK hP hD hS (⟨0, a3, Or.inl ⟨rfl, Nat.eq_zero_of_not_pos (fun hq => c_6 ((ktb hzl (by omega)).mpr ((hzz gs (by omega)).mpr hq)))⟩, (klv_i hlv_ (by omega)), rfl, rfl⟩) (Nat.le_of_ble_eq_true rfl) (Nat.le_of_ble_eq_true rfl) dX1_settle_89
        · skip
          refine lv_iconst (v := 1) hx hb dX1_settle_84 ic_1 ?_
          refine lv_goto (tgt := 89) hx hb dX1_settle_85 (by decide) ?_
          exact sk_iret hx hb hr rfl hlocks hK hP hD hS (⟨1, a3, Or.inr ⟨rfl, (hzz gs (by omega)).mp ((ktb hzl (by omega)).mp c_6)⟩, (klv_i hlv_ (by omega)), rfl, rfl⟩) (Nat.le_of_ble_eq_true rfl) (Nat.le_of_ble_eq_true rfl) dX1_settle_89
      · have c_5 : 1 ≤ dd := npm1 dd c_5
        rw [npred dd (by omega)] at hl
        refine lv_iconst (v := 0) hx hb dX1_settle_23 ic_0 ?_
        refine lv_istore_n (lv' := [(2, .int 0), (1, .int (nI (dd - 1))), (0, .ref (q 11))]) hx hb dX1_settle_24 rfl hl (by decide) rfl (fun ls hl => ?_)
        refine lv_iconst (v := 0) hx hb dX1_settle_25 ic_0 ?_
        refine lv_istore_n (lv' := [(3, .int 0), (2, .int 0), (1, .int (nI (dd - 1))), (0, .ref (q 11))]) hx hb dX1_settle_26 rfl hl (by decide) rfl (fun ls hl => ?_)
        have lp_7 : ∀ (n_8 : Nat) (i : Nat) (mk : Nat) (H : Heap) (locs : List Loc) (ls : Array Slot), 10 - i < n_8 → (i ≤ 10) → (mk = kcK (fun p => decide (0 < kcC Ed (gd - (dd - 1)) (dd - 1) p)) i) → va_P D vwCl [(q 11, .inr (1, [.ref (q 10), .ref (q 67), .ref (q 68), .ref (q 69), .ref (q 70), .ref (q 71), .ref (q 72), .int (nI gd), .int (nI gs)])), (q 67, .inl (cI, 90, .inl e1)), (q 68, .inl (cI, 9, .inl e2)), (q 69, .inl (cI, 10, .inl a3))] H → va_D A [(q 11, .inr (1, [.ref (q 10), .ref (q 67), .ref (q 68), .ref (q 69), .ref (q 70), .ref (q 71), .ref (q 72), .int (nI gd), .int (nI gs)])), (q 67, .inl (cI, 90, .inl e1)), (q 68, .inl (cI, 9, .inl e2)), (q 69, .inl (cI, 10, .inl a3))] → va_S A s.heap H locs → lv_has ls 4 [(3, .int (nI i)), (2, .int (nI mk)), (1, .int (nI (dd - 1))), (0, .ref (q 11))] → W p l e { frames := 1, cells := 0, slots := 0, locals := 22 } s m ([.ref (q 11)] : List Value).toArray below meth c H locs 0 0 (MQ below (skI D (skT cI cJ cC cZ cS) (fun (r : Int32) (u : va_W) => ∃ (b : Nat), ∃ (g3 : Nat → Int32), ((b = 0 ∧ kcC Ed gd 0 gs = 0) ∨ (b = 1 ∧ 0 < kcC Ed gd 0 gs)) ∧ kcLv Ed gd 0 g3 ∧ r = nI b ∧ u = [(q 11, .inr (1, [.ref (q 10), .ref (q 67), .ref (q 68), .ref (q 69), .ref (q 70), .ref (q 71), .ref (q 72), .int (nI gd), .int (nI gs)])), (q 67, .inl (cI, 90, .inl e1)), (q 68, .inl (cI, 9, .inl e2)), (q 69, .inl (cI, 10, .inl g3))]) A) ([.ref (q 11)] : List Value).toArray s 0 0 A) (F0 m 27 ls []) := by
          intro n_8
          induction n_8 with
          | zero => intro i mk H locs ls hm; exact absurd hm (Nat.not_lt_zero _)
          | succ n_8 ih_lp_7 =>
            intro i mk H locs ls hm hi hmk hP hD hS hl
            refine lv_iload_n hx hb dX1_settle_27 rfl (lv_at hl 0 rfl) ?_
            refine lv_bipush (v := 10) hx hb dX1_settle_28 (by decide) ?_
            refine lv_icmp_ge (tgt := 54) hx hb dX1_settle_30 (by decide) (fun c_9 => ?_) (fun c_9 => ?_)
            · have c_9 : 10 ≤ i := (nle 10 i (Nat.le_of_ble_eq_true rfl) (by omega)).mp c_9
              refine lv_aload_n hx hb dX1_settle_54 rfl (lv_at hl 3 rfl) ?_
              refine sk_get (v := .ref (q 69)) (C := RX1) (T := TX1) (N := 9) hx hb hts inlX1 hown hK hP 0 rfl rfl 3 (Nat.le_of_ble_eq_true rfl) w_2_98 rfl dX1_settle_55 ?_
              refine lv_iload_n hx hb dX1_settle_58 rfl (lv_at hl 2 rfl) ?_
              refine lv_iload_n hx hb dX1_settle_59 rfl (lv_at hl 1 rfl) ?_
              refine sk_iastE (k := (dd - 1)) (ws' := fun f_10 => [(q 11, .inr (1, [.ref (q 10), .ref (q 67), .ref (q 68), .ref (q 69), .ref (q 70), .ref (q 71), .ref (q 72), .int (nI gd), .int (nI gs)])), (q 67, .inl (cI, 90, .inl e1)), (q 68, .inl (cI, 9, .inl e2)), (q 69, .inl (cI, 10, .inl f_10))]) hx hb hK hP hD hS 3 0 rfl rfl (by omega) (by omega) (fun _ => rfl) dX1_settle_60 (fun f_10 H locs ef_11 hP hD hS => ?_)
              refine lv_iinc (v := nI (dd - 1) - 1) (lv' := [(1, .int (nI (dd - 1) - 1)), (3, .int (nI i)), (2, .int (nI mk)), (0, .ref (q 11))]) hx hb dX1_settle_61 hl (k := 2) rfl (ndn _) (by decide) rfl (fun ls hl => ?_)
              refine lv_goto (tgt := 19) hx hb dX1_settle_64 (by decide) ?_
              exact ih_lp_3 (dd - 1) f_10 _ _ _ (by omega) (by omega) (klv_s (show kcLv Ed gd (dd - 1 + 1) a3 by rw [show dd - 1 + 1 = dd by omega]; exact hlv_) ef_11 (by rw [hmk, show i = 10 by omega])) hP hD hS (lv_sub hl [0, 3] rfl)
            · have c_9 : ¬ (10 ≤ i) := fun h => c_9 ((nle 10 i (Nat.le_of_ble_eq_true rfl) (by omega)).mpr h)
              refine lv_aload_n hx hb dX1_settle_33 rfl (lv_at hl 3 rfl) ?_
              refine lv_iload_n hx hb dX1_settle_34 rfl (lv_at hl 2 rfl) ?_
              refine lv_iload_n hx hb dX1_settle_35 rfl (lv_at hl 0 rfl) ?_
              refine sk_Vi (q0 := 0) (n := 2) (rest := []) (wr := fmR om_4_f _) ⟨hx, hb, hml, hown, hts⟩ hl.1 (c_knext l D cI cJ cC cZ cS q gd gs e1 e2 a3 (dd - 1) i Ed hgd (by omega) (by omega) hld (klv_i hlv_ (by omega))) w_4_57 w_4_59 w_0_20 w_1_13 w_4_60 hd_X1_next_2 ⟨⟨(Nat.le_of_ble_eq_true rfl), (Nat.le_of_ble_eq_true rfl)⟩, (Nat.le_of_ble_eq_true rfl), (Nat.le_of_ble_eq_true rfl)⟩ hK hP hD hS hA (fmT om_4_f 0) (fmF om_4_f 0) (fm_C1 rfl rfl) (fm_R rfl rfl) (fm_nT om_4_f 0) (fm_nF om_4_f 0) (fm_di om_4_f 0) rfl rfl rfl rfl (Nat.le_of_ble_eq_true rfl) dX1_settle_36 (fun r_13 u H locs hw hP hD hS => ?_)
              refine exE hw (fun nq_12 hw1 => anE hw1 (fun hnx_14 hw2 => anE hw2 (fun er_16 eu_15 => ?_)))
              clear hw hw1 hw2
              subst er_16
              refine o_mgE (ws' := [(q 11, .inr (1, [.ref (q 10), .ref (q 67), .ref (q 68), .ref (q 69), .ref (q 70), .ref (q 71), .ref (q 72), .int (nI gd), .int (nI gs)])), (q 67, .inl (cI, 90, .inl e1)), (q 68, .inl (cI, 9, .inl e2)), (q 69, .inl (cI, 10, .inl a3))]) eu_15 hP hD rfl (fun hP hD => ?_)
              have hl_17 := hnx_14.1
              refine lv_if_eq (tgt := 48) hx hb dX1_settle_39 (by decide) (fun c_18 => ?_) (fun c_18 => ?_)
              · have c_18 : nq_12 = 0 := (neq nq_12 0 (by omega) (Nat.le_of_ble_eq_true rfl)).mp c_18
                refine lv_iinc (v := nI (i + 1)) (lv' := [(3, .int (nI (i + 1))), (2, .int (nI mk)), (1, .int (nI (dd - 1))), (0, .ref (q 11))]) hx hb dX1_settle_48 hl (k := 0) rfl (ninc i 1 (by decide)) (by decide) rfl (fun ls hl => ?_)
                refine lv_goto (tgt := 27) hx hb dX1_settle_51 (by decide) ?_
                exact ih_lp_7 (i + 1) mk _ _ _ (by omega) (by omega) (by rw [kcK_no (fun p => decide (0 < kcC Ed (gd - (dd - 1)) (dd - 1) p)) i (fun hq => absurd (of_decide_eq_true hq) (by rw [(knx_z hnx_14 (by omega)).mp c_18]; exact Nat.lt_irrefl 0))]; exact hmk) hP hD hS (lv_sub hl [0, 1, 2, 3] rfl)
              · have c_18 : ¬ (nq_12 = 0) := fun h => c_18 ((neq nq_12 0 (by omega) (Nat.le_of_ble_eq_true rfl)).mpr h)
                refine lv_iload_n hx hb dX1_settle_42 rfl (lv_at hl 1 rfl) ?_
                refine lv_iconst (v := 1) hx hb dX1_settle_43 ic_1 ?_
                refine lv_iload_n hx hb dX1_settle_44 rfl (lv_at hl 0 rfl) ?_
                refine lv_ishl hx hb dX1_settle_45 ?_
                refine lv_ior hx hb dX1_settle_46 ?_
                have hml_ := kK_lt10 (fun p => decide (0 < kcC Ed (gd - (dd - 1)) (dd - 1) p)) (show i ≤ 10 by omega)
                rw [← hmk] at hml_
                refine sk_top (nI (mk ||| 2 ^ i)) (kor_10 (by omega) (by omega)) ?_
                refine lv_istore_n (lv' := [(2, .int (nI (mk ||| 2 ^ i))), (3, .int (nI i)), (1, .int (nI (dd - 1))), (0, .ref (q 11))]) hx hb dX1_settle_47 rfl hl (by decide) rfl (fun ls hl => ?_)
                refine lv_iinc (v := nI (i + 1)) (lv' := [(3, .int (nI (i + 1))), (2, .int (nI (mk ||| 2 ^ i))), (1, .int (nI (dd - 1))), (0, .ref (q 11))]) hx hb dX1_settle_48 hl (k := 1) rfl (ninc i 1 (by decide)) (by decide) rfl (fun ls hl => ?_)
                refine lv_goto (tgt := 27) hx hb dX1_settle_51 (by decide) ?_
                exact ih_lp_7 (i + 1) (mk ||| 2 ^ i) _ _ _ (by omega) (by omega) (by rw [hmk]; exact kcK_or (fun p => decide (0 < kcC Ed (gd - (dd - 1)) (dd - 1) p)) i (decide_eq_true (Nat.pos_of_ne_zero (fun hq => c_18 ((knx_z hnx_14 (by omega)).mpr hq))))) hP hD hS (lv_sub hl [0, 1, 2, 3] rfl)
        exact lp_7 (10 - 0 + 1) 0 0 _ _ _ (Nat.lt_succ_self _) (by omega) rfl hP hD hS (lv_sub hl [0, 1, 2, 3] rfl)
  exact lp_3 (gd + 1) gd f_1 _ _ _ (Nat.lt_succ_self _) (by omega) (klv_top ef_2) hP hD hS (lv_sub hl [0, 1] rfl)
set_option maxHeartbeats 4000000 in
set_option maxRecDepth 100000 in
theorem c_ktakeFirst (l : Launch) (D : va_G) (cI cJ cC cZ cS : ClassId) (q : Nat → Nat) (gd : Nat) (gs : Nat) (e1 : Nat → Int32) (e2 : Nat → Int32) (e3 : Nat → Int32) (rw : Nat) (ra : Nat → Int32) (Ed : Nat → Nat → Nat → Bool) (hgd : gd ≤ 9) (hgs : gs ≤ 9) (hld : kcLd Ed gd e1 e2) (hlv : kcLv Ed gd 0 e3) (hgo : 0 < kcC Ed gd 0 gs) : skM l yX1_takeFirst cX1_takeFirst 4 none 1 22 0 0 D (skT cI cJ cC cZ cS) [.ref (q 11), .ref rw] [(q 11, .inr (1, [.ref (q 10), .ref (q 67), .ref (q 68), .ref (q 69), .ref (q 70), .ref (q 71), .ref (q 72), .int (nI gd), .int (nI gs)])), (q 67, .inl (cI, 90, .inl e1)), (q 68, .inl (cI, 9, .inl e2)), (q 69, .inl (cI, 10, .inl e3)), (rw, .inl (cI, 9, .inl ra))] (skV D (skT cI cJ cC cZ cS) (fun (u : va_W) => ∃ (ra2 : Nat → Int32), kcRw Ed gd gs 0 gd ra2 ∧ u = [(q 11, .inr (1, [.ref (q 10), .ref (q 67), .ref (q 68), .ref (q 69), .ref (q 70), .ref (q 71), .ref (q 72), .int (nI gd), .int (nI gs)])), (q 67, .inl (cI, 90, .inl e1)), (q 68, .inl (cI, 9, .inl e2)), (q 69, .inl (cI, 10, .inl e3)), (rw, .inl (cI, 9, .inl ra2))])) := by
  refine skM_of pf_X1_takeFirst (Nat.le_of_ble_eq_true rfl) ?_
  intro p e s m below meth c A ls E hP hD hl
  refine skE_el E (fun hx hb hr hml hlocks hin hown hts hK hA => ?_)
  have hown : s.vm.findClass RX1 = some m.cls := hown
  have hS : va_S A s.heap s.heap [] := va_S.rf
  have hl : lv_has ls 4 [(0, .ref (q 11)), (1, .ref rw)] := hl
  refine lv_aload_n hx hb dX1_takeFirst_0 rfl (lv_at hl 0 rfl) ?_
  refine sk_get (v := .int (nI gs)) (C := RX1) (T := TX1) (N := 9) hx hb hts inlX1 hown hK hP 0 rfl rfl 8 (Nat.le_of_ble_eq_true rfl) w_2_103 rfl dX1_takeFirst_1 ?_
  refine lv_istore_n (lv' := [(2, .int (nI gs)), (0, .ref (q 11)), (1, .ref rw)]) hx hb dX1_takeFirst_4 rfl hl (by decide) rfl (fun ls hl => ?_)
  refine lv_iconst (v := 0) hx hb dX1_takeFirst_5 ic_0 ?_
  refine lv_istore_n (lv' := [(3, .int 0), (2, .int (nI gs)), (0, .ref (q 11)), (1, .ref rw)]) hx hb dX1_takeFirst_6 rfl hl (by decide) rfl (fun ls hl => ?_)
  have lp_1 : ∀ (n_2 : Nat) (i : Nat) (ah : Nat) (rb : Nat → Int32) (H : Heap) (locs : List Loc) (ls : Array Slot), gd - i < n_2 → (i ≤ gd) → (ah < 10) → ((kcA Ed gd gs 0 i).1 = ah) → ((kcA Ed gd gs 0 i).2 = 0) → (kcRw Ed gd gs 0 i rb) → va_P D vwCl [(q 11, .inr (1, [.ref (q 10), .ref (q 67), .ref (q 68), .ref (q 69), .ref (q 70), .ref (q 71), .ref (q 72), .int (nI gd), .int (nI gs)])), (q 67, .inl (cI, 90, .inl e1)), (q 68, .inl (cI, 9, .inl e2)), (q 69, .inl (cI, 10, .inl e3)), (rw, .inl (cI, 9, .inl rb))] H → va_D A [(q 11, .inr (1, [.ref (q 10), .ref (q 67), .ref (q 68), .ref (q 69), .ref (q 70), .ref (q 71), .ref (q 72), .int (nI gd), .int (nI gs)])), (q 67, .inl (cI, 90, .inl e1)), (q 68, .inl (cI, 9, .inl e2)), (q 69, .inl (cI, 10, .inl e3)), (rw, .inl (cI, 9, .inl rb))] → va_S A s.heap H locs → lv_has ls 4 [(3, .int (nI i)), (2, .int (nI ah)), (0, .ref (q 11)), (1, .ref rw)] → W p l e { frames := 1, cells := 0, slots := 0, locals := 22 } s m ([.ref (q 11), .ref rw] : List Value).toArray below meth c H locs 0 0 (MQ below (skV D (skT cI cJ cC cZ cS) (fun (u : va_W) => ∃ (ra2 : Nat → Int32), kcRw Ed gd gs 0 gd ra2 ∧ u = [(q 11, .inr (1, [.ref (q 10), .ref (q 67), .ref (q 68), .ref (q 69), .ref (q 70), .ref (q 71), .ref (q 72), .int (nI gd), .int (nI gs)])), (q 67, .inl (cI, 90, .inl e1)), (q 68, .inl (cI, 9, .inl e2)), (q 69, .inl (cI, 10, .inl e3)), (rw, .inl (cI, 9, .inl ra2))]) A) ([.ref (q 11), .ref rw] : List Value).toArray s 0 0 A) (F0 m 7 ls []) := by
    intro n_2
    induction n_2 with
    | zero => intro i ah rb H locs ls hm; exact absurd hm (Nat.not_lt_zero _)
    | succ n_2 ih_lp_1 =>
      intro i ah rb H locs ls hm hi hah haa hzz hrr hP hD hS hl
      refine lv_iload_n hx hb dX1_takeFirst_7 rfl (lv_at hl 0 rfl) ?_
      refine lv_aload_n hx hb dX1_takeFirst_8 rfl (lv_at hl 2 rfl) ?_
      refine sk_get (v := .int (nI gd)) (C := RX1) (T := TX1) (N := 9) hx hb hts inlX1 hown hK hP 0 rfl rfl 7 (Nat.le_of_ble_eq_true rfl) w_2_102 rfl dX1_takeFirst_9 ?_
      refine lv_icmp_ge (tgt := 38) hx hb dX1_takeFirst_12 (by decide) (fun c_3 => ?_) (fun c_3 => ?_)
      · have c_3 : gd ≤ i := (nle gd i (by omega) (by omega)).mp c_3
        exact sk_vret hx hb hr hlocks hK hP hD hS (⟨rb, krw_e hrr (by omega), rfl⟩) (Nat.le_of_ble_eq_true rfl) (Nat.le_of_ble_eq_true rfl) dX1_takeFirst_38
      · have c_3 : ¬ (gd ≤ i) := fun h => c_3 ((nle gd i (by omega) (by omega)).mpr h)
        refine lv_aload_n hx hb dX1_takeFirst_15 rfl (lv_at hl 2 rfl) ?_
        refine lv_iload_n hx hb dX1_takeFirst_16 rfl (lv_at hl 0 rfl) ?_
        refine lv_iload_n hx hb dX1_takeFirst_17 rfl (lv_at hl 1 rfl) ?_
        refine sk_Vi (q0 := 0) (n := 2) (rest := []) (wr := fmR om_5_1e _) ⟨hx, hb, hml, hown, hts⟩ hl.1 (c_knext l D cI cJ cC cZ cS q gd gs e1 e2 e3 i ah Ed hgd (by omega) hah hld (klv_i hlv (by omega))) w_4_57 w_4_59 w_0_20 w_1_13 w_4_60 hd_X1_next_2 ⟨⟨(Nat.le_of_ble_eq_true rfl), (Nat.le_of_ble_eq_true rfl)⟩, (Nat.le_of_ble_eq_true rfl), (Nat.le_of_ble_eq_true rfl)⟩ hK hP hD hS hA (fmT om_5_1e 0) (fmF om_5_1e 0) (fm_C1 rfl rfl) (fm_R rfl rfl) (fm_nT om_5_1e 0) (fm_nF om_5_1e 0) (fm_di om_5_1e 0) rfl rfl rfl rfl (Nat.le_of_ble_eq_true rfl) dX1_takeFirst_18 (fun r_5 u H locs hw hP hD hS => ?_)
        refine exE hw (fun nq_4 hw1 => anE hw1 (fun hnx_6 hw2 => anE hw2 (fun er_8 eu_7 => ?_)))
        clear hw hw1 hw2
        subst er_8
        refine o_mgE (ws' := [(q 11, .inr (1, [.ref (q 10), .ref (q 67), .ref (q 68), .ref (q 69), .ref (q 70), .ref (q 71), .ref (q 72), .int (nI gd), .int (nI gs)])), (q 67, .inl (cI, 90, .inl e1)), (q 68, .inl (cI, 9, .inl e2)), (q 69, .inl (cI, 10, .inl e3)), (rw, .inl (cI, 9, .inl rb))]) eu_7 hP hD rfl (fun hP hD => ?_)
        have hp_9 := knx_pos (by omega) hgo haa hnx_6 (by omega)
        have hl_10 := hnx_6.1
        have hl_11 := hp_9.1
        refine sk_Si (n := 1) (rest := []) (wr := [(q 11, .inr (1, [.ref (q 10), .ref (q 67), .ref (q 68), .ref (q 69), .ref (q 70), .ref (q 71), .ref (q 72), .int (nI gd), .int (nI gs)])), (q 67, .inl (cI, 90, .inl e1)), (q 68, .inl (cI, 9, .inl e2)), (q 69, .inl (cI, 10, .inl e3)), (rw, .inl (cI, 9, .inl rb))]) ⟨hx, hb, hml, hown, hts⟩ hl.1 (c_kntz l D cI cJ cC cZ cS nq_4 (by omega) (by omega)) w_4_116 w_4_117 w_1_21 w_4_118 hd_J6_numberOfTrailingZeros_0f7a4_1 ⟨⟨(Nat.le_of_ble_eq_true rfl), (Nat.le_of_ble_eq_true rfl)⟩, (Nat.le_of_ble_eq_true rfl), (Nat.le_of_ble_eq_true rfl)⟩ hK hP hD hS hA [] [0, 1, 2, 3, 4] rfl rfl (by decide +kernel) (by decide +kernel) (by decide +kernel) rfl rfl (Nat.le_of_ble_eq_true rfl) dX1_takeFirst_21 (fun r_13 u H locs hw hP hD hS => ?_)
        obtain ⟨v_12, hlow_14, rfl, rfl⟩ := hw
        refine o_re (ws' := [(q 11, .inr (1, [.ref (q 10), .ref (q 67), .ref (q 68), .ref (q 69), .ref (q 70), .ref (q 71), .ref (q 72), .int (nI gd), .int (nI gs)])), (q 67, .inl (cI, 90, .inl e1)), (q 68, .inl (cI, 9, .inl e2)), (q 69, .inl (cI, 10, .inl e3)), (rw, .inl (cI, 9, .inl rb))]) hP hD rfl (fun hP hD => ?_)
        have hl_15 := hlow_14.1
        refine lv_bipush (v := 10) hx hb dX1_takeFirst_24 (by decide) ?_
        refine lv_irem hx hb dX1_takeFirst_26 (by decide) ?_
        refine sk_top (nI v_12) ((nrem v_12 10 (by omega) (by omega) (by omega)).trans (congrArg nI (Nat.mod_eq_of_lt (by omega)))) ?_
        refine lv_istore_n (lv' := [(2, .int (nI v_12)), (3, .int (nI i)), (0, .ref (q 11)), (1, .ref rw)]) hx hb dX1_takeFirst_27 rfl hl (by decide) rfl (fun ls hl => ?_)
        refine lv_aload_n hx hb dX1_takeFirst_28 rfl (lv_at hl 3 rfl) ?_
        refine lv_iload_n hx hb dX1_takeFirst_29 rfl (lv_at hl 1 rfl) ?_
        refine lv_iload_n hx hb dX1_takeFirst_30 rfl (lv_at hl 0 rfl) ?_
        refine sk_iastE (k := i) (ws' := fun f_16 => [(q 11, .inr (1, [.ref (q 10), .ref (q 67), .ref (q 68), .ref (q 69), .ref (q 70), .ref (q 71), .ref (q 72), .int (nI gd), .int (nI gs)])), (q 67, .inl (cI, 90, .inl e1)), (q 68, .inl (cI, 9, .inl e2)), (q 69, .inl (cI, 10, .inl e3)), (rw, .inl (cI, 9, .inl f_16))]) hx hb hK hP hD hS 4 0 rfl rfl (by omega) (by omega) (fun _ => rfl) dX1_takeFirst_31 (fun f_16 H locs ef_17 hP hD hS => ?_)
        have hk_18 := kfirst_s haa hzz hnx_6 hlow_14
        refine lv_iinc (v := nI (i + 1)) (lv' := [(3, .int (nI (i + 1))), (2, .int (nI v_12)), (0, .ref (q 11)), (1, .ref rw)]) hx hb dX1_takeFirst_32 hl (k := 1) rfl (ninc i 1 (by decide)) (by decide) rfl (fun ls hl => ?_)
        refine lv_goto (tgt := 7) hx hb dX1_takeFirst_35 (by decide) ?_
        exact ih_lp_1 (i + 1) v_12 f_16 _ _ _ (by omega) (by omega) (by omega) hk_18.1 hk_18.2 (krw_s hrr ef_17 hk_18.1) hP hD hS (lv_sub hl [0, 1, 2, 3] rfl)
  exact lp_1 (gd - 0 + 1) 0 gs ra _ _ _ (Nat.lt_succ_self _) (by omega) (by omega) rfl rfl (krw_0 _ _ _ _ _) hP hD hS (lv_sub hl [0, 1, 2, 3] rfl)
set_option maxHeartbeats 4000000 in
set_option maxRecDepth 100000 in
theorem c_kcountWays (l : Launch) (D : va_G) (cI cJ cC cZ cS : ClassId) (q : Nat → Nat) (gd : Nat) (gs : Nat) (e1 : Nat → Int32) (e2 : Nat → Int32) (e3 : Nat → Int32) (e4 : Nat → Int64) (Ed : Nat → Nat → Nat → Bool) (hgd : gd ≤ 9) (hgs : gs ≤ 9) (hld : kcLd Ed gd e1 e2) (hlv : kcLv Ed gd 0 e3) : skM l yX1_countWays cX1_countWays 7 (some .long) 1 22 0 0 D (skT cI cJ cC cZ cS) [.ref (q 11)] [(q 11, .inr (1, [.ref (q 10), .ref (q 67), .ref (q 68), .ref (q 69), .ref (q 70), .ref (q 71), .ref (q 72), .int (nI gd), .int (nI gs)])), (q 67, .inl (cI, 90, .inl e1)), (q 68, .inl (cI, 9, .inl e2)), (q 69, .inl (cI, 10, .inl e3)), (q 70, .inl (cJ, 100, .inr (.inl e4)))] (skL D (skT cI cJ cC cZ cS) (fun (r : Int64) (u : va_W) => ∃ (g4 : Nat → Int64), kcWy Ed gd 0 g4 ∧ r = Int64.ofNat (kcC Ed gd 0 gs) ∧ u = [(q 11, .inr (1, [.ref (q 10), .ref (q 67), .ref (q 68), .ref (q 69), .ref (q 70), .ref (q 71), .ref (q 72), .int (nI gd), .int (nI gs)])), (q 67, .inl (cI, 90, .inl e1)), (q 68, .inl (cI, 9, .inl e2)), (q 69, .inl (cI, 10, .inl e3)), (q 70, .inl (cJ, 100, .inr (.inl g4)))])) := by
  refine skM_of pf_X1_countWays (Nat.le_of_ble_eq_true rfl) ?_
  intro p e s m below meth c A ls E hP hD hl
  refine skE_el E (fun hx hb hr hml hlocks hin hown hts hK hA => ?_)
  have hown : s.vm.findClass RX1 = some m.cls := hown
  have hS : va_S A s.heap s.heap [] := va_S.rf
  have hl : lv_has ls 7 [(0, .ref (q 11))] := hl
  refine lv_iconst (v := 0) hx hb dX1_countWays_0 ic_0 ?_
  refine lv_istore_n (lv' := [(1, .int 0), (0, .ref (q 11))]) hx hb dX1_countWays_1 rfl hl (by decide) rfl (fun ls hl => ?_)
  have lp_1 : ∀ (n_2 : Nat) (i : Nat) (a4 : Nat → Int64) (H : Heap) (locs : List Loc) (ls : Array Slot), 10 - i < n_2 → (i ≤ 10) → (∀ m, m < i → a4 (gd * 10 + m) = 1) → va_P D vwCl [(q 11, .inr (1, [.ref (q 10), .ref (q 67), .ref (q 68), .ref (q 69), .ref (q 70), .ref (q 71), .ref (q 72), .int (nI gd), .int (nI gs)])), (q 67, .inl (cI, 90, .inl e1)), (q 68, .inl (cI, 9, .inl e2)), (q 69, .inl (cI, 10, .inl e3)), (q 70, .inl (cJ, 100, .inr (.inl a4)))] H → va_D A [(q 11, .inr (1, [.ref (q 10), .ref (q 67), .ref (q 68), .ref (q 69), .ref (q 70), .ref (q 71), .ref (q 72), .int (nI gd), .int (nI gs)])), (q 67, .inl (cI, 90, .inl e1)), (q 68, .inl (cI, 9, .inl e2)), (q 69, .inl (cI, 10, .inl e3)), (q 70, .inl (cJ, 100, .inr (.inl a4)))] → va_S A s.heap H locs → lv_has ls 7 [(1, .int (nI i)), (0, .ref (q 11))] → W p l e { frames := 1, cells := 0, slots := 0, locals := 22 } s m ([.ref (q 11)] : List Value).toArray below meth c H locs 0 0 (MQ below (skL D (skT cI cJ cC cZ cS) (fun (r : Int64) (u : va_W) => ∃ (g4 : Nat → Int64), kcWy Ed gd 0 g4 ∧ r = Int64.ofNat (kcC Ed gd 0 gs) ∧ u = [(q 11, .inr (1, [.ref (q 10), .ref (q 67), .ref (q 68), .ref (q 69), .ref (q 70), .ref (q 71), .ref (q 72), .int (nI gd), .int (nI gs)])), (q 67, .inl (cI, 90, .inl e1)), (q 68, .inl (cI, 9, .inl e2)), (q 69, .inl (cI, 10, .inl e3)), (q 70, .inl (cJ, 100, .inr (.inl g4)))]) A) ([.ref (q 11)] : List Value).toArray s 0 0 A) (F0 m 2 ls []) := by
    intro n_2
    induction n_2 with
    | zero => intro i a4 H locs ls hm; exact absurd hm (Nat.not_lt_zero _)
    | succ n_2 ih_lp_1 =>
      intro i a4 H locs ls hm hi hone hP hD hS hl
      refine lv_iload_n hx hb dX1_countWays_2 rfl (lv_at hl 0 rfl) ?_
      refine lv_bipush (v := 10) hx hb dX1_countWays_3 (by decide) ?_
      refine lv_icmp_ge (tgt := 29) hx hb dX1_countWays_5 (by decide) (fun c_3 => ?_) (fun c_3 => ?_)
      · have c_3 : 10 ≤ i := (nle 10 i (Nat.le_of_ble_eq_true rfl) (by omega)).mp c_3
        refine lv_aload_n hx hb dX1_countWays_29 rfl (lv_at hl 1 rfl) ?_
        refine sk_get (v := .int (nI gd)) (C := RX1) (T := TX1) (N := 9) hx hb hts inlX1 hown hK hP 0 rfl rfl 7 (Nat.le_of_ble_eq_true rfl) w_2_102 rfl dX1_countWays_30 ?_
        refine lv_iconst (v := 1) hx hb dX1_countWays_33 ic_1 ?_
        refine lv_isub hx hb dX1_countWays_34 ?_
        refine lv_istore_n (lv' := [(1, .int (nI gd - 1)), (0, .ref (q 11))]) hx hb dX1_countWays_35 rfl hl (by decide) rfl (fun ls hl => ?_)
        have lp_4 : ∀ (n_5 : Nat) (dd : Nat) (b4 : Nat → Int64) (H : Heap) (locs : List Loc) (ls : Array Slot), dd < n_5 → (dd ≤ gd) → (kcWy Ed gd dd b4) → va_P D vwCl [(q 11, .inr (1, [.ref (q 10), .ref (q 67), .ref (q 68), .ref (q 69), .ref (q 70), .ref (q 71), .ref (q 72), .int (nI gd), .int (nI gs)])), (q 67, .inl (cI, 90, .inl e1)), (q 68, .inl (cI, 9, .inl e2)), (q 69, .inl (cI, 10, .inl e3)), (q 70, .inl (cJ, 100, .inr (.inl b4)))] H → va_D A [(q 11, .inr (1, [.ref (q 10), .ref (q 67), .ref (q 68), .ref (q 69), .ref (q 70), .ref (q 71), .ref (q 72), .int (nI gd), .int (nI gs)])), (q 67, .inl (cI, 90, .inl e1)), (q 68, .inl (cI, 9, .inl e2)), (q 69, .inl (cI, 10, .inl e3)), (q 70, .inl (cJ, 100, .inr (.inl b4)))] → va_S A s.heap H locs → lv_has ls 7 [(1, .int (nI dd - 1)), (0, .ref (q 11))] → W p l e { frames := 1, cells := 0, slots := 0, locals := 22 } s m ([.ref (q 11)] : List Value).toArray below meth c H locs 0 0 (MQ below (skL D (skT cI cJ cC cZ cS) (fun (r : Int64) (u : va_W) => ∃ (g4 : Nat → Int64), kcWy Ed gd 0 g4 ∧ r = Int64.ofNat (kcC Ed gd 0 gs) ∧ u = [(q 11, .inr (1, [.ref (q 10), .ref (q 67), .ref (q 68), .ref (q 69), .ref (q 70), .ref (q 71), .ref (q 72), .int (nI gd), .int (nI gs)])), (q 67, .inl (cI, 90, .inl e1)), (q 68, .inl (cI, 9, .inl e2)), (q 69, .inl (cI, 10, .inl e3)), (q 70, .inl (cJ, 100, .inr (.inl g4)))]) A) ([.ref (q 11)] : List Value).toArray s 0 0 A) (F0 m 36 ls []) := by
          intro n_5
          induction n_5 with
          | zero => intro dd b4 H locs ls hm; exact absurd hm (Nat.not_lt_zero _)
          | succ n_5 ih_lp_4 =>
            intro dd b4 H locs ls hm hdd hwy_ hP hD hS hl
            refine lv_iload_n hx hb dX1_countWays_36 rfl (lv_at hl 0 rfl) ?_
            refine lv_if_lt (tgt := 132) hx hb dX1_countWays_37 (by decide) (fun c_6 => ?_) (fun c_6 => ?_)
            · have c_6 : dd = 0 := npm0 dd (by omega) c_6
              refine lv_aload_n hx hb dX1_countWays_132 rfl (lv_at hl 1 rfl) ?_
              refine sk_get (v := .ref (q 70)) (C := RX1) (T := TX1) (N := 9) hx hb hts inlX1 hown hK hP 0 rfl rfl 4 (Nat.le_of_ble_eq_true rfl) w_2_99 rfl dX1_countWays_133 ?_
              refine lv_aload_n hx hb dX1_countWays_136 rfl (lv_at hl 1 rfl) ?_
              refine sk_get (v := .int (nI gs)) (C := RX1) (T := TX1) (N := 9) hx hb hts inlX1 hown hK hP 0 rfl rfl 8 (Nat.le_of_ble_eq_true rfl) w_2_103 rfl dX1_countWays_137 ?_
              refine va_lald hx hb hK.1 hP 4 1 rfl rfl (vin gs 100 (by omega) (Nat.le_of_ble_eq_true rfl)) dX1_countWays_140 ?_
              have hfin := hwy_ 0 (by omega) (by omega) gs (by omega)
              rw [Nat.zero_mul, Nat.zero_add, Nat.sub_zero] at hfin
              refine sk_topl (Int64.ofNat (kcC Ed gd 0 gs)) (by rw [nI_clamp (by omega)]; exact hfin) ?_
              exact sk_lret hx hb hr hlocks hK hP hD hS (⟨b4, (fun d h1 h2 => hwy_ d (by omega) h2), rfl, rfl⟩) (Nat.le_of_ble_eq_true rfl) (Nat.le_of_ble_eq_true rfl) dX1_countWays_141
            · have c_6 : 1 ≤ dd := npm1 dd c_6
              rw [npred dd (by omega)] at hl
              refine lv_iconst (v := 0) hx hb dX1_countWays_40 ic_0 ?_
              refine lv_istore_n (lv' := [(2, .int 0), (1, .int (nI (dd - 1))), (0, .ref (q 11))]) hx hb dX1_countWays_41 rfl hl (by decide) rfl (fun ls hl => ?_)
              have lp_7 : ∀ (n_8 : Nat) (jj : Nat) (c4 : Nat → Int64) (H : Heap) (locs : List Loc) (ls : Array Slot), 10 - jj < n_8 → (jj ≤ 10) → (kcWj Ed gd (dd - 1) jj c4) → va_P D vwCl [(q 11, .inr (1, [.ref (q 10), .ref (q 67), .ref (q 68), .ref (q 69), .ref (q 70), .ref (q 71), .ref (q 72), .int (nI gd), .int (nI gs)])), (q 67, .inl (cI, 90, .inl e1)), (q 68, .inl (cI, 9, .inl e2)), (q 69, .inl (cI, 10, .inl e3)), (q 70, .inl (cJ, 100, .inr (.inl c4)))] H → va_D A [(q 11, .inr (1, [.ref (q 10), .ref (q 67), .ref (q 68), .ref (q 69), .ref (q 70), .ref (q 71), .ref (q 72), .int (nI gd), .int (nI gs)])), (q 67, .inl (cI, 90, .inl e1)), (q 68, .inl (cI, 9, .inl e2)), (q 69, .inl (cI, 10, .inl e3)), (q 70, .inl (cJ, 100, .inr (.inl c4)))] → va_S A s.heap H locs → lv_has ls 7 [(2, .int (nI jj)), (1, .int (nI (dd - 1))), (0, .ref (q 11))] → W p l e { frames := 1, cells := 0, slots := 0, locals := 22 } s m ([.ref (q 11)] : List Value).toArray below meth c H locs 0 0 (MQ below (skL D (skT cI cJ cC cZ cS) (fun (r : Int64) (u : va_W) => ∃ (g4 : Nat → Int64), kcWy Ed gd 0 g4 ∧ r = Int64.ofNat (kcC Ed gd 0 gs) ∧ u = [(q 11, .inr (1, [.ref (q 10), .ref (q 67), .ref (q 68), .ref (q 69), .ref (q 70), .ref (q 71), .ref (q 72), .int (nI gd), .int (nI gs)])), (q 67, .inl (cI, 90, .inl e1)), (q 68, .inl (cI, 9, .inl e2)), (q 69, .inl (cI, 10, .inl e3)), (q 70, .inl (cJ, 100, .inr (.inl g4)))]) A) ([.ref (q 11)] : List Value).toArray s 0 0 A) (F0 m 42 ls []) := by
                intro n_8
                induction n_8 with
                | zero => intro jj c4 H locs ls hm; exact absurd hm (Nat.not_lt_zero _)
                | succ n_8 ih_lp_7 =>
                  intro jj c4 H locs ls hm hjj hwj hP hD hS hl
                  refine lv_iload_n hx hb dX1_countWays_42 rfl (lv_at hl 0 rfl) ?_
                  refine lv_bipush (v := 10) hx hb dX1_countWays_43 (by decide) ?_
                  refine lv_icmp_ge (tgt := 126) hx hb dX1_countWays_45 (by decide) (fun c_9 => ?_) (fun c_9 => ?_)
                  · have c_9 : 10 ≤ jj := (nle 10 jj (Nat.le_of_ble_eq_true rfl) (by omega)).mp c_9
                    refine lv_iinc (v := nI (dd - 1) - 1) (lv' := [(1, .int (nI (dd - 1) - 1)), (2, .int (nI jj)), (0, .ref (q 11))]) hx hb dX1_countWays_126 hl (k := 1) rfl (ndn _) (by decide) rfl (fun ls hl => ?_)
                    refine lv_goto (tgt := 36) hx hb dX1_countWays_129 (by decide) ?_
                    exact ih_lp_4 (dd - 1) c4 _ _ _ (by omega) (by omega) (kwj_10 (show kcWj Ed gd (dd - 1) 10 c4 by rw [show 10 = jj by omega]; exact hwj)) hP hD hS (lv_sub hl [0, 2] rfl)
                  · have c_9 : ¬ (10 ≤ jj) := fun h => c_9 ((nle 10 jj (Nat.le_of_ble_eq_true rfl) (by omega)).mpr h)
                    refine lv_aload_n hx hb dX1_countWays_48 rfl (lv_at hl 2 rfl) ?_
                    refine lv_iload_n hx hb dX1_countWays_49 rfl (lv_at hl 1 rfl) ?_
                    refine lv_iload_n hx hb dX1_countWays_50 rfl (lv_at hl 0 rfl) ?_
                    refine sk_Vi (q0 := 0) (n := 2) (rest := []) (wr := fmR om_5_1e _) ⟨hx, hb, hml, hown, hts⟩ hl.1 (c_knext l D cI cJ cC cZ cS q gd gs e1 e2 e3 (dd - 1) jj Ed hgd (by omega) (by omega) hld (klv_i hlv (by omega))) w_4_57 w_4_59 w_0_20 w_1_13 w_4_60 hd_X1_next_2 ⟨⟨(Nat.le_of_ble_eq_true rfl), (Nat.le_of_ble_eq_true rfl)⟩, (Nat.le_of_ble_eq_true rfl), (Nat.le_of_ble_eq_true rfl)⟩ hK hP hD hS hA (fmT om_5_1e 0) (fmF om_5_1e 0) (fm_C1 rfl rfl) (fm_R rfl rfl) (fm_nT om_5_1e 0) (fm_nF om_5_1e 0) (fm_di om_5_1e 0) rfl rfl rfl rfl (Nat.le_of_ble_eq_true rfl) dX1_countWays_51 (fun r_11 u H locs hw hP hD hS => ?_)
                    refine exE hw (fun nq_10 hw1 => anE hw1 (fun hnx_12 hw2 => anE hw2 (fun er_14 eu_13 => ?_)))
                    clear hw hw1 hw2
                    subst er_14
                    refine o_mgE (ws' := [(q 11, .inr (1, [.ref (q 10), .ref (q 67), .ref (q 68), .ref (q 69), .ref (q 70), .ref (q 71), .ref (q 72), .int (nI gd), .int (nI gs)])), (q 67, .inl (cI, 90, .inl e1)), (q 68, .inl (cI, 9, .inl e2)), (q 69, .inl (cI, 10, .inl e3)), (q 70, .inl (cJ, 100, .inr (.inl c4)))]) eu_13 hP hD rfl (fun hP hD => ?_)
                    have hl_15 := hnx_12.1
                    refine lv_istore_n (lv' := [(3, .int (nI nq_10)), (2, .int (nI jj)), (1, .int (nI (dd - 1))), (0, .ref (q 11))]) hx hb dX1_countWays_54 rfl hl (by decide) rfl (fun ls hl => ?_)
                    refine lv_lconst (v := 0) hx hb dX1_countWays_55 (by decide) ?_
                    refine lv_lstore (lv' := [(4, .long 0), (3, .int (nI nq_10)), (2, .int (nI jj)), (1, .int (nI (dd - 1))), (0, .ref (q 11))]) hx hb dX1_countWays_56 hl (by decide) rfl (fun ls hl => ?_)
                    refine lv_iconst (v := 0) hx hb dX1_countWays_58 ic_0 ?_
                    refine lv_istore (lv' := [(6, .int 0), (4, .long 0), (3, .int (nI nq_10)), (2, .int (nI jj)), (1, .int (nI (dd - 1))), (0, .ref (q 11))]) hx hb dX1_countWays_59 hl (by decide) rfl (fun ls hl => ?_)
                    have lp_16 : ∀ (n_17 : Nat) (kk : Nat) (sm : Int64) (H : Heap) (locs : List Loc) (ls : Array Slot), 10 - kk < n_17 → (kk ≤ 10) → (sm = Int64.ofNat (kcS (kcW Ed gd (dd - 1) jj) kk)) → va_P D vwCl [(q 11, .inr (1, [.ref (q 10), .ref (q 67), .ref (q 68), .ref (q 69), .ref (q 70), .ref (q 71), .ref (q 72), .int (nI gd), .int (nI gs)])), (q 67, .inl (cI, 90, .inl e1)), (q 68, .inl (cI, 9, .inl e2)), (q 69, .inl (cI, 10, .inl e3)), (q 70, .inl (cJ, 100, .inr (.inl c4)))] H → va_D A [(q 11, .inr (1, [.ref (q 10), .ref (q 67), .ref (q 68), .ref (q 69), .ref (q 70), .ref (q 71), .ref (q 72), .int (nI gd), .int (nI gs)])), (q 67, .inl (cI, 90, .inl e1)), (q 68, .inl (cI, 9, .inl e2)), (q 69, .inl (cI, 10, .inl e3)), (q 70, .inl (cJ, 100, .inr (.inl c4)))] → va_S A s.heap H locs → lv_has ls 7 [(6, .int (nI kk)), (4, .long sm), (3, .int (nI nq_10)), (2, .int (nI jj)), (1, .int (nI (dd - 1))), (0, .ref (q 11))] → W p l e { frames := 1, cells := 0, slots := 0, locals := 22 } s m ([.ref (q 11)] : List Value).toArray below meth c H locs 0 0 (MQ below (skL D (skT cI cJ cC cZ cS) (fun (r : Int64) (u : va_W) => ∃ (g4 : Nat → Int64), kcWy Ed gd 0 g4 ∧ r = Int64.ofNat (kcC Ed gd 0 gs) ∧ u = [(q 11, .inr (1, [.ref (q 10), .ref (q 67), .ref (q 68), .ref (q 69), .ref (q 70), .ref (q 71), .ref (q 72), .int (nI gd), .int (nI gs)])), (q 67, .inl (cI, 90, .inl e1)), (q 68, .inl (cI, 9, .inl e2)), (q 69, .inl (cI, 10, .inl e3)), (q 70, .inl (cJ, 100, .inr (.inl g4)))]) A) ([.ref (q 11)] : List Value).toArray s 0 0 A) (F0 m 61 ls []) := by
                      intro n_17
                      induction n_17 with
                      | zero => intro kk sm H locs ls hm; exact absurd hm (Nat.not_lt_zero _)
                      | succ n_17 ih_lp_16 =>
                        intro kk sm H locs ls hm hkk hsm hP hD hS hl
                        refine lv_iload hx hb dX1_countWays_61 (lv_at hl 0 rfl) ?_
                        refine lv_bipush (v := 10) hx hb dX1_countWays_63 (by decide) ?_
                        refine lv_icmp_ge (tgt := 107) hx hb dX1_countWays_65 (by decide) (fun c_18 => ?_) (fun c_18 => ?_)
                        · have c_18 : 10 ≤ kk := (nle 10 kk (Nat.le_of_ble_eq_true rfl) (by omega)).mp c_18
                          refine lv_aload_n hx hb dX1_countWays_107 rfl (lv_at hl 5 rfl) ?_
                          refine sk_get (v := .ref (q 70)) (C := RX1) (T := TX1) (N := 9) hx hb hts inlX1 hown hK hP 0 rfl rfl 4 (Nat.le_of_ble_eq_true rfl) w_2_99 rfl dX1_countWays_108 ?_
                          refine lv_iload_n hx hb dX1_countWays_111 rfl (lv_at hl 4 rfl) ?_
                          refine lv_bipush (v := 10) hx hb dX1_countWays_112 (by decide) ?_
                          refine lv_imul hx hb dX1_countWays_114 ?_
                          refine sk_top (nI ((dd - 1) * 10)) (nmul (dd - 1) 10) ?_
                          refine lv_iload_n hx hb dX1_countWays_115 rfl (lv_at hl 3 rfl) ?_
                          refine lv_iadd hx hb dX1_countWays_116 ?_
                          refine sk_top (nI ((dd - 1) * 10 + jj)) (nI_add ((dd - 1) * 10) jj) ?_
                          refine lv_lload hx hb dX1_countWays_117 (lv_at hl 1 rfl) ?_
                          refine sk_lastE (k := ((dd - 1) * 10 + jj)) (ws' := fun f_19 => [(q 11, .inr (1, [.ref (q 10), .ref (q 67), .ref (q 68), .ref (q 69), .ref (q 70), .ref (q 71), .ref (q 72), .int (nI gd), .int (nI gs)])), (q 67, .inl (cI, 90, .inl e1)), (q 68, .inl (cI, 9, .inl e2)), (q 69, .inl (cI, 10, .inl e3)), (q 70, .inl (cJ, 100, .inr (.inl f_19)))]) hx hb hK hP hD hS 4 1 rfl rfl (by omega) (by omega) (fun _ => rfl) dX1_countWays_119 (fun f_19 H locs ef_20 hP hD hS => ?_)
                          refine lv_iinc (v := nI (jj + 1)) (lv' := [(2, .int (nI (jj + 1))), (6, .int (nI kk)), (4, .long sm), (3, .int (nI nq_10)), (1, .int (nI (dd - 1))), (0, .ref (q 11))]) hx hb dX1_countWays_120 hl (k := 3) rfl (ninc jj 1 (by decide)) (by decide) rfl (fun ls hl => ?_)
                          refine lv_goto (tgt := 42) hx hb dX1_countWays_123 (by decide) ?_
                          exact ih_lp_7 (jj + 1) f_19 _ _ _ (by omega) (by omega) (kwj_s hwj ef_20 (by omega) (by omega) (by rw [hsm, show kk = 10 by omega])) hP hD hS (lv_sub hl [0, 4, 5] rfl)
                        · have c_18 : ¬ (10 ≤ kk) := fun h => c_18 ((nle 10 kk (Nat.le_of_ble_eq_true rfl) (by omega)).mpr h)
                          refine lv_lload hx hb dX1_countWays_68 (lv_at hl 1 rfl) ?_
                          refine lv_iload_n hx hb dX1_countWays_70 rfl (lv_at hl 2 rfl) ?_
                          refine lv_iload hx hb dX1_countWays_71 (lv_at hl 0 rfl) ?_
                          refine lv_ishr hx hb dX1_countWays_73 ?_
                          refine lv_iconst (v := 1) hx hb dX1_countWays_74 ic_1 ?_
                          refine lv_iand hx hb dX1_countWays_75 ?_
                          refine lv_iconst (v := 1) hx hb dX1_countWays_76 ic_1 ?_
                          refine lv_icmp_ne (tgt := 97) hx hb dX1_countWays_77 (by decide) (fun c_21 => ?_) (fun c_21 => ?_)
                          · skip
                            refine lv_lconst (v := 0) hx hb dX1_countWays_97 (by decide) ?_
                            refine lv_ladd hx hb dX1_countWays_98 ?_
                            refine lv_lstore (lv' := [(4, .long (sm + 0)), (6, .int (nI kk)), (3, .int (nI nq_10)), (2, .int (nI jj)), (1, .int (nI (dd - 1))), (0, .ref (q 11))]) hx hb dX1_countWays_99 hl (by decide) rfl (fun ls hl => ?_)
                            refine lv_iinc (v := nI (kk + 1)) (lv' := [(6, .int (nI (kk + 1))), (4, .long (sm + 0)), (3, .int (nI nq_10)), (2, .int (nI jj)), (1, .int (nI (dd - 1))), (0, .ref (q 11))]) hx hb dX1_countWays_101 hl (k := 1) rfl (ninc kk 1 (by decide)) (by decide) rfl (fun ls hl => ?_)
                            refine lv_goto (tgt := 61) hx hb dX1_countWays_104 (by decide) ?_
                            exact ih_lp_16 (kk + 1) (sm + 0) _ _ _ (by omega) (by omega) (ksm_n hnx_12 (by omega) (fun hq => c_21 ((ktb hnx_12.1 (by omega)).mpr hq)) hsm) hP hD hS (lv_sub hl [0, 1, 2, 3, 4, 5] rfl)
                          · skip
                            refine lv_aload_n hx hb dX1_countWays_80 rfl (lv_at hl 5 rfl) ?_
                            refine sk_get (v := .ref (q 70)) (C := RX1) (T := TX1) (N := 9) hx hb hts inlX1 hown hK hP 0 rfl rfl 4 (Nat.le_of_ble_eq_true rfl) w_2_99 rfl dX1_countWays_81 ?_
                            refine lv_iload_n hx hb dX1_countWays_84 rfl (lv_at hl 4 rfl) ?_
                            refine lv_iconst (v := 1) hx hb dX1_countWays_85 ic_1 ?_
                            refine lv_iadd hx hb dX1_countWays_86 ?_
                            refine sk_top (nI (dd - 1 + 1)) (nI_add (dd - 1) 1) ?_
                            refine lv_bipush (v := 10) hx hb dX1_countWays_87 (by decide) ?_
                            refine lv_imul hx hb dX1_countWays_89 ?_
                            refine sk_top (nI ((dd - 1 + 1) * 10)) (nmul (dd - 1 + 1) 10) ?_
                            refine lv_iload hx hb dX1_countWays_90 (lv_at hl 0 rfl) ?_
                            refine lv_iadd hx hb dX1_countWays_92 ?_
                            refine sk_top (nI ((dd - 1 + 1) * 10 + kk)) (nI_add ((dd - 1 + 1) * 10) kk) ?_
                            refine va_lald hx hb hK.1 hP 4 1 rfl rfl (vin ((dd - 1 + 1) * 10 + kk) 100 (by omega) (Nat.le_of_ble_eq_true rfl)) dX1_countWays_93 ?_
                            refine sk_topl (c4 ((dd - 1 + 1) * 10 + kk)) (by rw [nI_clamp (by omega)]) ?_
                            refine lv_goto (tgt := 98) hx hb dX1_countWays_94 (by decide) ?_
                            refine lv_ladd hx hb dX1_countWays_98 ?_
                            refine lv_lstore (lv' := [(4, .long (sm + (c4 ((dd - 1 + 1) * 10 + kk)))), (6, .int (nI kk)), (3, .int (nI nq_10)), (2, .int (nI jj)), (1, .int (nI (dd - 1))), (0, .ref (q 11))]) hx hb dX1_countWays_99 hl (by decide) rfl (fun ls hl => ?_)
                            refine lv_iinc (v := nI (kk + 1)) (lv' := [(6, .int (nI (kk + 1))), (4, .long (sm + (c4 ((dd - 1 + 1) * 10 + kk)))), (3, .int (nI nq_10)), (2, .int (nI jj)), (1, .int (nI (dd - 1))), (0, .ref (q 11))]) hx hb dX1_countWays_101 hl (k := 1) rfl (ninc kk 1 (by decide)) (by decide) rfl (fun ls hl => ?_)
                            refine lv_goto (tgt := 61) hx hb dX1_countWays_104 (by decide) ?_
                            exact ih_lp_16 (kk + 1) (sm + (c4 ((dd - 1 + 1) * 10 + kk))) _ _ _ (by omega) (by omega) (ksm_y hnx_12 hwj.1 (by omega) (by omega) ((ktb hnx_12.1 (by omega)).mp c_21) hsm) hP hD hS (lv_sub hl [0, 1, 2, 3, 4, 5] rfl)
                    exact lp_16 (10 - 0 + 1) 0 0 _ _ _ (Nat.lt_succ_self _) (by omega) rfl hP hD hS (lv_sub hl [0, 1, 2, 3, 4, 5] rfl)
              exact lp_7 (10 - 0 + 1) 0 b4 _ _ _ (Nat.lt_succ_self _) (by omega) (kwj_0 hwy_ (by omega)) hP hD hS (lv_sub hl [0, 1, 2] rfl)
        exact lp_4 (gd + 1) gd a4 _ _ _ (Nat.lt_succ_self _) (by omega) (kwy_top (fun m hm => hone m (by omega))) hP hD hS (lv_sub hl [0, 1] rfl)
      · have c_3 : ¬ (10 ≤ i) := fun h => c_3 ((nle 10 i (Nat.le_of_ble_eq_true rfl) (by omega)).mpr h)
        refine lv_aload_n hx hb dX1_countWays_8 rfl (lv_at hl 1 rfl) ?_
        refine sk_get (v := .ref (q 70)) (C := RX1) (T := TX1) (N := 9) hx hb hts inlX1 hown hK hP 0 rfl rfl 4 (Nat.le_of_ble_eq_true rfl) w_2_99 rfl dX1_countWays_9 ?_
        refine lv_aload_n hx hb dX1_countWays_12 rfl (lv_at hl 1 rfl) ?_
        refine sk_get (v := .int (nI gd)) (C := RX1) (T := TX1) (N := 9) hx hb hts inlX1 hown hK hP 0 rfl rfl 7 (Nat.le_of_ble_eq_true rfl) w_2_102 rfl dX1_countWays_13 ?_
        refine lv_bipush (v := 10) hx hb dX1_countWays_16 (by decide) ?_
        refine lv_imul hx hb dX1_countWays_18 ?_
        refine sk_top (nI (gd * 10)) (nmul gd 10) ?_
        refine lv_iload_n hx hb dX1_countWays_19 rfl (lv_at hl 0 rfl) ?_
        refine lv_iadd hx hb dX1_countWays_20 ?_
        refine sk_top (nI (gd * 10 + i)) (nI_add (gd * 10) i) ?_
        refine lv_lconst (v := 1) hx hb dX1_countWays_21 (by decide) ?_
        refine sk_lastE (k := (gd * 10 + i)) (ws' := fun f_22 => [(q 11, .inr (1, [.ref (q 10), .ref (q 67), .ref (q 68), .ref (q 69), .ref (q 70), .ref (q 71), .ref (q 72), .int (nI gd), .int (nI gs)])), (q 67, .inl (cI, 90, .inl e1)), (q 68, .inl (cI, 9, .inl e2)), (q 69, .inl (cI, 10, .inl e3)), (q 70, .inl (cJ, 100, .inr (.inl f_22)))]) hx hb hK hP hD hS 4 1 rfl rfl (by omega) (by omega) (fun _ => rfl) dX1_countWays_22 (fun f_22 H locs ef_23 hP hD hS => ?_)
        refine lv_iinc (v := nI (i + 1)) (lv' := [(1, .int (nI (i + 1))), (0, .ref (q 11))]) hx hb dX1_countWays_23 hl (k := 0) rfl (ninc i 1 (by decide)) (by decide) rfl (fun ls hl => ?_)
        refine lv_goto (tgt := 2) hx hb dX1_countWays_26 (by decide) ?_
        exact ih_lp_1 (i + 1) f_22 _ _ _ (by omega) (by omega) (kone_s hone ef_23) hP hD hS (lv_sub hl [0, 1] rfl)
  exact lp_1 (10 - 0 + 1) 0 e4 _ _ _ (Nat.lt_succ_self _) (by omega) (fun m hm => absurd hm (Nat.not_lt_zero m)) hP hD hS (lv_sub hl [0, 1] rfl)
set_option maxHeartbeats 4000000 in
set_option maxRecDepth 100000 in
theorem c_ktakeNumbered (l : Launch) (D : va_G) (cI cJ cC cZ cS : ClassId) (q : Nat → Nat) (gd : Nat) (gs : Nat) (e1 : Nat → Int32) (e2 : Nat → Int32) (e3 : Nat → Int32) (e4 : Nat → Int64) (rw : Nat) (ra : Nat → Int32) (Ed : Nat → Nat → Nat → Bool) (nu : Nat) (hgd : gd ≤ 9) (hgs : gs ≤ 9) (hld : kcLd Ed gd e1 e2) (hlv : kcLv Ed gd 0 e3) (hwy : kcWy Ed gd 0 e4) (hnu : nu < kcC Ed gd 0 gs) : skM l yX1_takeNumbered cX1_takeNumbered 13 none 1 22 0 0 D (skT cI cJ cC cZ cS) [.ref (q 11), .long (Int64.ofNat nu), .ref rw] [(q 11, .inr (1, [.ref (q 10), .ref (q 67), .ref (q 68), .ref (q 69), .ref (q 70), .ref (q 71), .ref (q 72), .int (nI gd), .int (nI gs)])), (q 67, .inl (cI, 90, .inl e1)), (q 68, .inl (cI, 9, .inl e2)), (q 69, .inl (cI, 10, .inl e3)), (q 70, .inl (cJ, 100, .inr (.inl e4))), (rw, .inl (cI, 9, .inl ra))] (skV D (skT cI cJ cC cZ cS) (fun (u : va_W) => ∃ (ra2 : Nat → Int32), kcRw Ed gd gs nu gd ra2 ∧ u = [(q 11, .inr (1, [.ref (q 10), .ref (q 67), .ref (q 68), .ref (q 69), .ref (q 70), .ref (q 71), .ref (q 72), .int (nI gd), .int (nI gs)])), (q 67, .inl (cI, 90, .inl e1)), (q 68, .inl (cI, 9, .inl e2)), (q 69, .inl (cI, 10, .inl e3)), (q 70, .inl (cJ, 100, .inr (.inl e4))), (rw, .inl (cI, 9, .inl ra2))])) := by
  refine skM_of pf_X1_takeNumbered (Nat.le_of_ble_eq_true rfl) ?_
  intro p e s m below meth c A ls E hP hD hl
  refine skE_el E (fun hx hb hr hml hlocks hin hown hts hK hA => ?_)
  have hown : s.vm.findClass RX1 = some m.cls := hown
  have hS : va_S A s.heap s.heap [] := va_S.rf
  have hl : lv_has ls 13 [(0, .ref (q 11)), (1, .long (Int64.ofNat nu)), (3, .ref rw)] := hl
  refine lv_lload_n hx hb dX1_takeNumbered_0 rfl (lv_at hl 1 rfl) ?_
  refine lv_lstore (lv' := [(4, .long (Int64.ofNat nu)), (0, .ref (q 11)), (1, .long (Int64.ofNat nu)), (3, .ref rw)]) hx hb dX1_takeNumbered_1 hl (by decide) rfl (fun ls hl => ?_)
  refine lv_aload_n hx hb dX1_takeNumbered_3 rfl (lv_at hl 1 rfl) ?_
  refine sk_get (v := .int (nI gs)) (C := RX1) (T := TX1) (N := 9) hx hb hts inlX1 hown hK hP 0 rfl rfl 8 (Nat.le_of_ble_eq_true rfl) w_2_103 rfl dX1_takeNumbered_4 ?_
  refine lv_istore (lv' := [(6, .int (nI gs)), (4, .long (Int64.ofNat nu)), (0, .ref (q 11)), (1, .long (Int64.ofNat nu)), (3, .ref rw)]) hx hb dX1_takeNumbered_7 hl (by decide) rfl (fun ls hl => ?_)
  refine lv_iconst (v := 0) hx hb dX1_takeNumbered_9 ic_0 ?_
  refine lv_istore (lv' := [(7, .int 0), (6, .int (nI gs)), (4, .long (Int64.ofNat nu)), (0, .ref (q 11)), (1, .long (Int64.ofNat nu)), (3, .ref rw)]) hx hb dX1_takeNumbered_10 hl (by decide) rfl (fun ls hl => ?_)
  have lp_1 : ∀ (n_2 : Nat) (i : Nat) (ah : Nat) (lf : Int64) (rb : Nat → Int32) (H : Heap) (locs : List Loc) (ls : Array Slot), gd - i < n_2 → (i ≤ gd) → (ah < 10) → ((kcA Ed gd gs nu i).1 = ah) → (lf = Int64.ofNat (kcA Ed gd gs nu i).2) → (kcRw Ed gd gs nu i rb) → va_P D vwCl [(q 11, .inr (1, [.ref (q 10), .ref (q 67), .ref (q 68), .ref (q 69), .ref (q 70), .ref (q 71), .ref (q 72), .int (nI gd), .int (nI gs)])), (q 67, .inl (cI, 90, .inl e1)), (q 68, .inl (cI, 9, .inl e2)), (q 69, .inl (cI, 10, .inl e3)), (q 70, .inl (cJ, 100, .inr (.inl e4))), (rw, .inl (cI, 9, .inl rb))] H → va_D A [(q 11, .inr (1, [.ref (q 10), .ref (q 67), .ref (q 68), .ref (q 69), .ref (q 70), .ref (q 71), .ref (q 72), .int (nI gd), .int (nI gs)])), (q 67, .inl (cI, 90, .inl e1)), (q 68, .inl (cI, 9, .inl e2)), (q 69, .inl (cI, 10, .inl e3)), (q 70, .inl (cJ, 100, .inr (.inl e4))), (rw, .inl (cI, 9, .inl rb))] → va_S A s.heap H locs → lv_has ls 13 [(7, .int (nI i)), (6, .int (nI ah)), (4, .long lf), (0, .ref (q 11)), (1, .long (Int64.ofNat nu)), (3, .ref rw)] → W p l e { frames := 1, cells := 0, slots := 0, locals := 22 } s m ([.ref (q 11), .long (Int64.ofNat nu), .ref rw] : List Value).toArray below meth c H locs 0 0 (MQ below (skV D (skT cI cJ cC cZ cS) (fun (u : va_W) => ∃ (ra2 : Nat → Int32), kcRw Ed gd gs nu gd ra2 ∧ u = [(q 11, .inr (1, [.ref (q 10), .ref (q 67), .ref (q 68), .ref (q 69), .ref (q 70), .ref (q 71), .ref (q 72), .int (nI gd), .int (nI gs)])), (q 67, .inl (cI, 90, .inl e1)), (q 68, .inl (cI, 9, .inl e2)), (q 69, .inl (cI, 10, .inl e3)), (q 70, .inl (cJ, 100, .inr (.inl e4))), (rw, .inl (cI, 9, .inl ra2))]) A) ([.ref (q 11), .long (Int64.ofNat nu), .ref rw] : List Value).toArray s 0 0 A) (F0 m 12 ls []) := by
    intro n_2
    induction n_2 with
    | zero => intro i ah lf rb H locs ls hm; exact absurd hm (Nat.not_lt_zero _)
    | succ n_2 ih_lp_1 =>
      intro i ah lf rb H locs ls hm hi hah haa hlf hrr hP hD hS hl
      refine lv_iload hx hb dX1_takeNumbered_12 (lv_at hl 0 rfl) ?_
      refine lv_aload_n hx hb dX1_takeNumbered_14 rfl (lv_at hl 3 rfl) ?_
      refine sk_get (v := .int (nI gd)) (C := RX1) (T := TX1) (N := 9) hx hb hts inlX1 hown hK hP 0 rfl rfl 7 (Nat.le_of_ble_eq_true rfl) w_2_102 rfl dX1_takeNumbered_15 ?_
      refine lv_icmp_ge (tgt := 120) hx hb dX1_takeNumbered_18 (by decide) (fun c_3 => ?_) (fun c_3 => ?_)
      · have c_3 : gd ≤ i := (nle gd i (by omega) (by omega)).mp c_3
        exact sk_vret hx hb hr hlocks hK hP hD hS (⟨rb, krw_e hrr (by omega), rfl⟩) (Nat.le_of_ble_eq_true rfl) (Nat.le_of_ble_eq_true rfl) dX1_takeNumbered_120
      · have c_3 : ¬ (gd ≤ i) := fun h => c_3 ((nle gd i (by omega) (by omega)).mpr h)
        refine lv_aload_n hx hb dX1_takeNumbered_21 rfl (lv_at hl 3 rfl) ?_
        refine lv_iload hx hb dX1_takeNumbered_22 (lv_at hl 0 rfl) ?_
        refine lv_iload hx hb dX1_takeNumbered_24 (lv_at hl 1 rfl) ?_
        refine sk_Vi (q0 := 0) (n := 2) (rest := []) (wr := fmR om_6_3c _) ⟨hx, hb, hml, hown, hts⟩ hl.1 (c_knext l D cI cJ cC cZ cS q gd gs e1 e2 e3 i ah Ed hgd (by omega) hah hld (klv_i hlv (by omega))) w_4_57 w_4_59 w_0_20 w_1_13 w_4_60 hd_X1_next_2 ⟨⟨(Nat.le_of_ble_eq_true rfl), (Nat.le_of_ble_eq_true rfl)⟩, (Nat.le_of_ble_eq_true rfl), (Nat.le_of_ble_eq_true rfl)⟩ hK hP hD hS hA (fmT om_6_3c 0) (fmF om_6_3c 0) (fm_C1 rfl rfl) (fm_R rfl rfl) (fm_nT om_6_3c 0) (fm_nF om_6_3c 0) (fm_di om_6_3c 0) rfl rfl rfl rfl (Nat.le_of_ble_eq_true rfl) dX1_takeNumbered_26 (fun r_5 u H locs hw hP hD hS => ?_)
        refine exE hw (fun nq_4 hw1 => anE hw1 (fun hnx_6 hw2 => anE hw2 (fun er_8 eu_7 => ?_)))
        clear hw hw1 hw2
        subst er_8
        refine o_mgE (ws' := [(q 11, .inr (1, [.ref (q 10), .ref (q 67), .ref (q 68), .ref (q 69), .ref (q 70), .ref (q 71), .ref (q 72), .int (nI gd), .int (nI gs)])), (q 67, .inl (cI, 90, .inl e1)), (q 68, .inl (cI, 9, .inl e2)), (q 69, .inl (cI, 10, .inl e3)), (q 70, .inl (cJ, 100, .inr (.inl e4))), (rw, .inl (cI, 9, .inl rb))]) eu_7 hP hD rfl (fun hP hD => ?_)
        have hl_9 := hnx_6.1
        have hok := kcA_ok (by omega) hnu i (by omega)
        rw [haa, ← kcW_S (show i < gd by omega), ← kcT_10] at hok
        refine lv_istore (lv' := [(8, .int (nI nq_4)), (7, .int (nI i)), (6, .int (nI ah)), (4, .long lf), (0, .ref (q 11)), (1, .long (Int64.ofNat nu)), (3, .ref rw)]) hx hb dX1_takeNumbered_29 hl (by decide) rfl (fun ls hl => ?_)
        refine lv_iconst (v := 0) hx hb dX1_takeNumbered_31 ic_0 ?_
        refine lv_istore (lv' := [(9, .int 0), (8, .int (nI nq_4)), (7, .int (nI i)), (6, .int (nI ah)), (4, .long lf), (0, .ref (q 11)), (1, .long (Int64.ofNat nu)), (3, .ref rw)]) hx hb dX1_takeNumbered_32 hl (by decide) rfl (fun ls hl => ?_)
        refine lv_iconst (v := 0) hx hb dX1_takeNumbered_34 ic_0 ?_
        refine lv_istore (lv' := [(10, .int 0), (9, .int 0), (8, .int (nI nq_4)), (7, .int (nI i)), (6, .int (nI ah)), (4, .long lf), (0, .ref (q 11)), (1, .long (Int64.ofNat nu)), (3, .ref rw)]) hx hb dX1_takeNumbered_35 hl (by decide) rfl (fun ls hl => ?_)
        have lp_10 : ∀ (n_11 : Nat) (jj : Nat) (lf2 : Int64) (yy : Nat) (H : Heap) (locs : List Loc) (ls : Array Slot), 10 - jj < n_11 → (jj ≤ 10) → (lf2 = Int64.ofNat yy) → (kcP (kcW Ed gd i ah) (10 - jj) jj yy = kcP (kcW Ed gd i ah) 10 0 (kcA Ed gd gs nu i).2) → (yy < kcT (kcW Ed gd i ah) (10 - jj) jj) → (yy ≤ 10000000000) → va_P D vwCl [(q 11, .inr (1, [.ref (q 10), .ref (q 67), .ref (q 68), .ref (q 69), .ref (q 70), .ref (q 71), .ref (q 72), .int (nI gd), .int (nI gs)])), (q 67, .inl (cI, 90, .inl e1)), (q 68, .inl (cI, 9, .inl e2)), (q 69, .inl (cI, 10, .inl e3)), (q 70, .inl (cJ, 100, .inr (.inl e4))), (rw, .inl (cI, 9, .inl rb))] H → va_D A [(q 11, .inr (1, [.ref (q 10), .ref (q 67), .ref (q 68), .ref (q 69), .ref (q 70), .ref (q 71), .ref (q 72), .int (nI gd), .int (nI gs)])), (q 67, .inl (cI, 90, .inl e1)), (q 68, .inl (cI, 9, .inl e2)), (q 69, .inl (cI, 10, .inl e3)), (q 70, .inl (cJ, 100, .inr (.inl e4))), (rw, .inl (cI, 9, .inl rb))] → va_S A s.heap H locs → lv_has ls 13 [(10, .int (nI jj)), (9, .int 0), (8, .int (nI nq_4)), (7, .int (nI i)), (6, .int (nI ah)), (4, .long lf2), (0, .ref (q 11)), (1, .long (Int64.ofNat nu)), (3, .ref rw)] → W p l e { frames := 1, cells := 0, slots := 0, locals := 22 } s m ([.ref (q 11), .long (Int64.ofNat nu), .ref rw] : List Value).toArray below meth c H locs 0 0 (MQ below (skV D (skT cI cJ cC cZ cS) (fun (u : va_W) => ∃ (ra2 : Nat → Int32), kcRw Ed gd gs nu gd ra2 ∧ u = [(q 11, .inr (1, [.ref (q 10), .ref (q 67), .ref (q 68), .ref (q 69), .ref (q 70), .ref (q 71), .ref (q 72), .int (nI gd), .int (nI gs)])), (q 67, .inl (cI, 90, .inl e1)), (q 68, .inl (cI, 9, .inl e2)), (q 69, .inl (cI, 10, .inl e3)), (q 70, .inl (cJ, 100, .inr (.inl e4))), (rw, .inl (cI, 9, .inl ra2))]) A) ([.ref (q 11), .long (Int64.ofNat nu), .ref rw] : List Value).toArray s 0 0 A) (F0 m 37 ls []) := by
          intro n_11
          induction n_11 with
          | zero => intro jj lf2 yy H locs ls hm; exact absurd hm (Nat.not_lt_zero _)
          | succ n_11 ih_lp_10 =>
            intro jj lf2 yy H locs ls hm hjj hl2 hyP hyT hyl hP hD hS hl
            refine lv_iload hx hb dX1_takeNumbered_37 (lv_at hl 0 rfl) ?_
            refine lv_bipush (v := 10) hx hb dX1_takeNumbered_39 (by decide) ?_
            refine lv_icmp_ge (tgt := 104) hx hb dX1_takeNumbered_41 (by decide) (fun c_12 => ?_) (fun c_12 => ?_)
            · have c_12 : 10 ≤ jj := (nle 10 jj (Nat.le_of_ble_eq_true rfl) (by omega)).mp c_12
              exact (kcT_e (by omega) hyT).elim
            · have c_12 : ¬ (10 ≤ jj) := fun h => c_12 ((nle 10 jj (Nat.le_of_ble_eq_true rfl) (by omega)).mpr h)
              subst hl2
              refine lv_iload hx hb dX1_takeNumbered_44 (lv_at hl 2 rfl) ?_
              refine lv_iload hx hb dX1_takeNumbered_46 (lv_at hl 0 rfl) ?_
              refine lv_ishr hx hb dX1_takeNumbered_48 ?_
              refine lv_iconst (v := 1) hx hb dX1_takeNumbered_49 ic_1 ?_
              refine lv_iand hx hb dX1_takeNumbered_50 ?_
              refine lv_iconst (v := 1) hx hb dX1_takeNumbered_51 ic_1 ?_
              refine lv_icmp_ne (tgt := 73) hx hb dX1_takeNumbered_52 (by decide) (fun c_13 => ?_) (fun c_13 => ?_)
              · skip
                refine lv_lconst (v := 0) hx hb dX1_takeNumbered_73 (by decide) ?_
                refine lv_lstore (lv' := [(11, .long 0), (10, .int (nI jj)), (9, .int 0), (8, .int (nI nq_4)), (7, .int (nI i)), (6, .int (nI ah)), (4, .long (Int64.ofNat yy)), (0, .ref (q 11)), (1, .long (Int64.ofNat nu)), (3, .ref rw)]) hx hb dX1_takeNumbered_74 hl (by decide) rfl (fun ls hl => ?_)
                have hh_14 := kwh_n hnx_6 (show jj < 10 by omega) (fun hq => c_13 ((ktb hnx_6.1 (by omega)).mpr hq))
                have hl_15 := kW_le Ed hgd i ah jj
                rw [hh_14] at hl
                refine lv_lload hx hb dX1_takeNumbered_76 (lv_at hl 6 rfl) ?_
                refine lv_lload hx hb dX1_takeNumbered_78 (lv_at hl 0 rfl) ?_
                refine W.lcmp hx hb dX1_takeNumbered_80 ?_
                refine lv_if_ge (tgt := 91) hx hb dX1_takeNumbered_81 (by decide) (fun c_16 => ?_) (fun c_16 => ?_)
                · skip
                  refine lv_lload hx hb dX1_takeNumbered_91 (lv_at hl 6 rfl) ?_
                  refine lv_lload hx hb dX1_takeNumbered_93 (lv_at hl 0 rfl) ?_
                  refine lv_lsub hx hb dX1_takeNumbered_95 ?_
                  have hge := (kcmp_ge (by omega) (by omega)).mp c_16
                  refine sk_topl (Int64.ofNat (yy - kcW Ed gd i ah jj)) (kofn_sub hge) ?_
                  refine lv_lstore (lv' := [(4, .long (Int64.ofNat (yy - kcW Ed gd i ah jj))), (11, .long (Int64.ofNat (kcW Ed gd i ah jj))), (10, .int (nI jj)), (9, .int 0), (8, .int (nI nq_4)), (7, .int (nI i)), (6, .int (nI ah)), (0, .ref (q 11)), (1, .long (Int64.ofNat nu)), (3, .ref rw)]) hx hb dX1_takeNumbered_96 hl (by decide) rfl (fun ls hl => ?_)
                  refine lv_iinc (v := nI (jj + 1)) (lv' := [(10, .int (nI (jj + 1))), (4, .long (Int64.ofNat (yy - kcW Ed gd i ah jj))), (11, .long (Int64.ofNat (kcW Ed gd i ah jj))), (9, .int 0), (8, .int (nI nq_4)), (7, .int (nI i)), (6, .int (nI ah)), (0, .ref (q 11)), (1, .long (Int64.ofNat nu)), (3, .ref rw)]) hx hb dX1_takeNumbered_98 hl (k := 2) rfl (ninc jj 1 (by decide)) (by decide) rfl (fun ls hl => ?_)
                  refine lv_goto (tgt := 37) hx hb dX1_takeNumbered_101 (by decide) ?_
                  exact ih_lp_10 (jj + 1) (Int64.ofNat (yy - kcW Ed gd i ah jj)) (yy - kcW Ed gd i ah jj) _ _ _ (by omega) (by omega) rfl ((kcP_go (by omega) (Nat.not_lt.mpr hge)).symm.trans hyP) (kcT_s (by omega) hyT hge) (by omega) hP hD hS (lv_sub hl [0, 3, 4, 5, 6, 1, 7, 8, 9] rfl)
                · skip
                  refine lv_iload hx hb dX1_takeNumbered_84 (lv_at hl 1 rfl) ?_
                  refine lv_istore (lv' := [(9, .int (nI jj)), (11, .long (Int64.ofNat (kcW Ed gd i ah jj))), (10, .int (nI jj)), (8, .int (nI nq_4)), (7, .int (nI i)), (6, .int (nI ah)), (4, .long (Int64.ofNat yy)), (0, .ref (q 11)), (1, .long (Int64.ofNat nu)), (3, .ref rw)]) hx hb dX1_takeNumbered_86 hl (by decide) rfl (fun ls hl => ?_)
                  refine lv_goto (tgt := 104) hx hb dX1_takeNumbered_88 (by decide) ?_
                  refine lv_aload_n hx hb dX1_takeNumbered_104 rfl (lv_at hl 9 rfl) ?_
                  refine lv_iload hx hb dX1_takeNumbered_105 (lv_at hl 4 rfl) ?_
                  refine lv_iload hx hb dX1_takeNumbered_107 (lv_at hl 0 rfl) ?_
                  refine sk_iastE (k := i) (ws' := fun f_17 => [(q 11, .inr (1, [.ref (q 10), .ref (q 67), .ref (q 68), .ref (q 69), .ref (q 70), .ref (q 71), .ref (q 72), .int (nI gd), .int (nI gs)])), (q 67, .inl (cI, 90, .inl e1)), (q 68, .inl (cI, 9, .inl e2)), (q 69, .inl (cI, 10, .inl e3)), (q 70, .inl (cJ, 100, .inr (.inl e4))), (rw, .inl (cI, 9, .inl f_17))]) hx hb hK hP hD hS 5 0 rfl rfl (by omega) (by omega) (fun _ => rfl) dX1_takeNumbered_109 (fun f_17 H locs ef_18 hP hD hS => ?_)
                  have hk_19 : kcA Ed gd gs nu (i + 1) = (jj, yy) := by rw [kcA_s, haa, ← hyP]; exact kcP_at (by omega) (Nat.lt_of_not_le (fun hq => c_16 ((kcmp_ge (by omega) (by omega)).mpr hq)))
                  refine lv_iload hx hb dX1_takeNumbered_110 (lv_at hl 0 rfl) ?_
                  refine lv_istore (lv' := [(6, .int (nI jj)), (9, .int (nI jj)), (11, .long (Int64.ofNat (kcW Ed gd i ah jj))), (10, .int (nI jj)), (8, .int (nI nq_4)), (7, .int (nI i)), (4, .long (Int64.ofNat yy)), (0, .ref (q 11)), (1, .long (Int64.ofNat nu)), (3, .ref rw)]) hx hb dX1_takeNumbered_112 hl (by decide) rfl (fun ls hl => ?_)
                  refine lv_iinc (v := nI (i + 1)) (lv' := [(7, .int (nI (i + 1))), (6, .int (nI jj)), (9, .int (nI jj)), (11, .long (Int64.ofNat (kcW Ed gd i ah jj))), (10, .int (nI jj)), (8, .int (nI nq_4)), (4, .long (Int64.ofNat yy)), (0, .ref (q 11)), (1, .long (Int64.ofNat nu)), (3, .ref rw)]) hx hb dX1_takeNumbered_114 hl (k := 5) rfl (ninc i 1 (by decide)) (by decide) rfl (fun ls hl => ?_)
                  refine lv_goto (tgt := 12) hx hb dX1_takeNumbered_117 (by decide) ?_
                  exact ih_lp_1 (i + 1) jj (Int64.ofNat yy) f_17 _ _ _ (by omega) (by omega) (by omega) (by rw [hk_19]) (by rw [hk_19]) (krw_s hrr ef_18 (by rw [hk_19])) hP hD hS (lv_sub hl [0, 1, 6, 7, 8, 9] rfl)
              · skip
                refine lv_aload_n hx hb dX1_takeNumbered_55 rfl (lv_at hl 6 rfl) ?_
                refine sk_get (v := .ref (q 70)) (C := RX1) (T := TX1) (N := 9) hx hb hts inlX1 hown hK hP 0 rfl rfl 4 (Nat.le_of_ble_eq_true rfl) w_2_99 rfl dX1_takeNumbered_56 ?_
                refine lv_iload hx hb dX1_takeNumbered_59 (lv_at hl 3 rfl) ?_
                refine lv_iconst (v := 1) hx hb dX1_takeNumbered_61 ic_1 ?_
                refine lv_iadd hx hb dX1_takeNumbered_62 ?_
                refine sk_top (nI (i + 1)) (nI_add i 1) ?_
                refine lv_bipush (v := 10) hx hb dX1_takeNumbered_63 (by decide) ?_
                refine lv_imul hx hb dX1_takeNumbered_65 ?_
                refine sk_top (nI ((i + 1) * 10)) (nmul (i + 1) 10) ?_
                refine lv_iload hx hb dX1_takeNumbered_66 (lv_at hl 0 rfl) ?_
                refine lv_iadd hx hb dX1_takeNumbered_68 ?_
                refine sk_top (nI ((i + 1) * 10 + jj)) (nI_add ((i + 1) * 10) jj) ?_
                refine va_lald hx hb hK.1 hP 4 1 rfl rfl (vin ((i + 1) * 10 + jj) 100 (by omega) (Nat.le_of_ble_eq_true rfl)) dX1_takeNumbered_69 ?_
                refine sk_topl (e4 ((i + 1) * 10 + jj)) (by rw [nI_clamp (by omega)]) ?_
                refine lv_goto (tgt := 74) hx hb dX1_takeNumbered_70 (by decide) ?_
                refine lv_lstore (lv' := [(11, .long (e4 ((i + 1) * 10 + jj))), (10, .int (nI jj)), (9, .int 0), (8, .int (nI nq_4)), (7, .int (nI i)), (6, .int (nI ah)), (4, .long (Int64.ofNat yy)), (0, .ref (q 11)), (1, .long (Int64.ofNat nu)), (3, .ref rw)]) hx hb dX1_takeNumbered_74 hl (by decide) rfl (fun ls hl => ?_)
                have hh_20 := kwh_y hnx_6 hwy (show i < gd by omega) (show jj < 10 by omega) ((ktb hnx_6.1 (by omega)).mp c_13)
                have hl_21 := kW_le Ed hgd i ah jj
                rw [hh_20] at hl
                refine lv_lload hx hb dX1_takeNumbered_76 (lv_at hl 6 rfl) ?_
                refine lv_lload hx hb dX1_takeNumbered_78 (lv_at hl 0 rfl) ?_
                refine W.lcmp hx hb dX1_takeNumbered_80 ?_
                refine lv_if_ge (tgt := 91) hx hb dX1_takeNumbered_81 (by decide) (fun c_22 => ?_) (fun c_22 => ?_)
                · skip
                  refine lv_lload hx hb dX1_takeNumbered_91 (lv_at hl 6 rfl) ?_
                  refine lv_lload hx hb dX1_takeNumbered_93 (lv_at hl 0 rfl) ?_
                  refine lv_lsub hx hb dX1_takeNumbered_95 ?_
                  have hge := (kcmp_ge (by omega) (by omega)).mp c_22
                  refine sk_topl (Int64.ofNat (yy - kcW Ed gd i ah jj)) (kofn_sub hge) ?_
                  refine lv_lstore (lv' := [(4, .long (Int64.ofNat (yy - kcW Ed gd i ah jj))), (11, .long (Int64.ofNat (kcW Ed gd i ah jj))), (10, .int (nI jj)), (9, .int 0), (8, .int (nI nq_4)), (7, .int (nI i)), (6, .int (nI ah)), (0, .ref (q 11)), (1, .long (Int64.ofNat nu)), (3, .ref rw)]) hx hb dX1_takeNumbered_96 hl (by decide) rfl (fun ls hl => ?_)
                  refine lv_iinc (v := nI (jj + 1)) (lv' := [(10, .int (nI (jj + 1))), (4, .long (Int64.ofNat (yy - kcW Ed gd i ah jj))), (11, .long (Int64.ofNat (kcW Ed gd i ah jj))), (9, .int 0), (8, .int (nI nq_4)), (7, .int (nI i)), (6, .int (nI ah)), (0, .ref (q 11)), (1, .long (Int64.ofNat nu)), (3, .ref rw)]) hx hb dX1_takeNumbered_98 hl (k := 2) rfl (ninc jj 1 (by decide)) (by decide) rfl (fun ls hl => ?_)
                  refine lv_goto (tgt := 37) hx hb dX1_takeNumbered_101 (by decide) ?_
                  exact ih_lp_10 (jj + 1) (Int64.ofNat (yy - kcW Ed gd i ah jj)) (yy - kcW Ed gd i ah jj) _ _ _ (by omega) (by omega) rfl ((kcP_go (by omega) (Nat.not_lt.mpr hge)).symm.trans hyP) (kcT_s (by omega) hyT hge) (by omega) hP hD hS (lv_sub hl [0, 3, 4, 5, 6, 1, 7, 8, 9] rfl)
                · skip
                  refine lv_iload hx hb dX1_takeNumbered_84 (lv_at hl 1 rfl) ?_
                  refine lv_istore (lv' := [(9, .int (nI jj)), (11, .long (Int64.ofNat (kcW Ed gd i ah jj))), (10, .int (nI jj)), (8, .int (nI nq_4)), (7, .int (nI i)), (6, .int (nI ah)), (4, .long (Int64.ofNat yy)), (0, .ref (q 11)), (1, .long (Int64.ofNat nu)), (3, .ref rw)]) hx hb dX1_takeNumbered_86 hl (by decide) rfl (fun ls hl => ?_)
                  refine lv_goto (tgt := 104) hx hb dX1_takeNumbered_88 (by decide) ?_
                  refine lv_aload_n hx hb dX1_takeNumbered_104 rfl (lv_at hl 9 rfl) ?_
                  refine lv_iload hx hb dX1_takeNumbered_105 (lv_at hl 4 rfl) ?_
                  refine lv_iload hx hb dX1_takeNumbered_107 (lv_at hl 0 rfl) ?_
                  refine sk_iastE (k := i) (ws' := fun f_23 => [(q 11, .inr (1, [.ref (q 10), .ref (q 67), .ref (q 68), .ref (q 69), .ref (q 70), .ref (q 71), .ref (q 72), .int (nI gd), .int (nI gs)])), (q 67, .inl (cI, 90, .inl e1)), (q 68, .inl (cI, 9, .inl e2)), (q 69, .inl (cI, 10, .inl e3)), (q 70, .inl (cJ, 100, .inr (.inl e4))), (rw, .inl (cI, 9, .inl f_23))]) hx hb hK hP hD hS 5 0 rfl rfl (by omega) (by omega) (fun _ => rfl) dX1_takeNumbered_109 (fun f_23 H locs ef_24 hP hD hS => ?_)
                  have hk_25 : kcA Ed gd gs nu (i + 1) = (jj, yy) := by rw [kcA_s, haa, ← hyP]; exact kcP_at (by omega) (Nat.lt_of_not_le (fun hq => c_22 ((kcmp_ge (by omega) (by omega)).mpr hq)))
                  refine lv_iload hx hb dX1_takeNumbered_110 (lv_at hl 0 rfl) ?_
                  refine lv_istore (lv' := [(6, .int (nI jj)), (9, .int (nI jj)), (11, .long (Int64.ofNat (kcW Ed gd i ah jj))), (10, .int (nI jj)), (8, .int (nI nq_4)), (7, .int (nI i)), (4, .long (Int64.ofNat yy)), (0, .ref (q 11)), (1, .long (Int64.ofNat nu)), (3, .ref rw)]) hx hb dX1_takeNumbered_112 hl (by decide) rfl (fun ls hl => ?_)
                  refine lv_iinc (v := nI (i + 1)) (lv' := [(7, .int (nI (i + 1))), (6, .int (nI jj)), (9, .int (nI jj)), (11, .long (Int64.ofNat (kcW Ed gd i ah jj))), (10, .int (nI jj)), (8, .int (nI nq_4)), (4, .long (Int64.ofNat yy)), (0, .ref (q 11)), (1, .long (Int64.ofNat nu)), (3, .ref rw)]) hx hb dX1_takeNumbered_114 hl (k := 5) rfl (ninc i 1 (by decide)) (by decide) rfl (fun ls hl => ?_)
                  refine lv_goto (tgt := 12) hx hb dX1_takeNumbered_117 (by decide) ?_
                  exact ih_lp_1 (i + 1) jj (Int64.ofNat yy) f_23 _ _ _ (by omega) (by omega) (by omega) (by rw [hk_25]) (by rw [hk_25]) (krw_s hrr ef_24 (by rw [hk_25])) hP hD hS (lv_sub hl [0, 1, 6, 7, 8, 9] rfl)
        exact lp_10 (10 - 0 + 1) 0 lf ((kcA Ed gd gs nu i).2) _ _ _ (Nat.lt_succ_self _) (by omega) hlf rfl hok.2 (by have := kcC_9 Ed (show gd - i ≤ 9 by omega) i ah; have h5 := hok.2; rw [kcT_10, kcW_S (show i < gd by omega)] at h5; omega) hP hD hS (lv_sub hl [0, 1, 2, 3, 4, 5, 6, 7, 8] rfl)
  exact lp_1 (gd - 0 + 1) 0 gs (Int64.ofNat nu) ra _ _ _ (Nat.lt_succ_self _) (by omega) (by omega) rfl rfl (krw_0 _ _ _ _ _) hP hD hS (lv_sub hl [0, 1, 2, 3, 4, 5] rfl)
theorem kbq_0 {b : Nat} {P : Prop} (h : (b = 1 ∧ P) ∨ (b = 0 ∧ ¬ P)) (e : b = 0) : ¬ P := h.elim (fun q => absurd q.1 (by omega)) (fun q => q.2)
theorem kbq_1 {b : Nat} {P : Prop} (h : (b = 1 ∧ P) ∨ (b = 0 ∧ ¬ P)) (e : ¬ b = 0) : P := h.elim (fun q => q.2) (fun q => absurd q.1 e)
set_option maxHeartbeats 4000000 in
set_option maxRecDepth 100000 in
theorem c_klay (l : Launch) (D : va_G) (cI cJ cC cZ cS : ClassId) (q : Nat → Nat) (gd : Nat) (gs : Nat) (e1 : Nat → Int32) (e2 : Nat → Int32) (sa : Nat → Nat) (ft : Nat → Int32) (fa : Nat → Int32) (fo : Nat → Int32) (o0 : Nat) (o1 : Nat) (o2 : Nat) (dy : Nat) (wn : Nat) (mo : Nat) (ke : Nat) (mu : Int32) (fb : Nat → Int32) (fw : Nat → Int32) (Ba : Nat → Nat) (We : Nat → Nat) (L : LkS) (li : Nat) (U : Nat → Bool) (o : Int32) (fg : Nat → Int64) (hsa : ∀ j, sa j ≤ 9) (hdy : dy ≤ 9) (hmo : mo ≤ 9) (hli : li < 10) (hU : muO U o) (hrows : ∀ e, e < dy → kcRow L wn (Ba e) (We e) e sa ft fa fo fg) : skM l yX1_lay cX1_lay 8 none 1 26 0 0 D (skT cI cJ cC cZ cS) [.ref (q 11), .ref o0, .int o, .int (nI li)] [(q 11, .inr (1, [.ref (q 10), .ref (q 67), .ref (q 68), .ref (q 69), .ref (q 70), .ref (q 71), .ref (q 72), .int (nI gd), .int (nI gs)])), (q 67, .inl (cI, 90, .inl e1)), (q 68, .inl (cI, 9, .inl e2)), (q 10, .inr (9, [.ref (q 61), .ref (q 62), .ref (q 63), .ref (q 64), .ref (q 65), .ref (q 66)])), (q 61, .inl (cI, 90, .inl (fun j => nI (sa j)))), (q 62, .inl (cI, 900, .inl ft)), (q 63, .inl (cI, 90, .inl fa)), (q 64, .inl (cI, 90, .inl fo)), (o0, .inr (7, [.ref o1, .ref o2, .int (nI dy), .int (nI wn), .int (nI mo), .int mu, .int (nI ke)]))] (skV D (skT cI cJ cC cZ cS) (fun (u : va_W) => ∃ (g1 : Nat → Int32), ∃ (g2 : Nat → Int32), kcLd (kcFo L wn Ba We U li) dy g1 g2 ∧ u = [(q 11, .inr (1, [.ref (q 10), .ref (q 67), .ref (q 68), .ref (q 69), .ref (q 70), .ref (q 71), .ref (q 72), .int (nI dy), .int (nI mo)])), (q 67, .inl (cI, 90, .inl g1)), (q 68, .inl (cI, 9, .inl g2)), (q 10, .inr (9, [.ref (q 61), .ref (q 62), .ref (q 63), .ref (q 64), .ref (q 65), .ref (q 66)])), (q 61, .inl (cI, 90, .inl (fun j => nI (sa j)))), (q 62, .inl (cI, 900, .inl ft)), (q 63, .inl (cI, 90, .inl fa)), (q 64, .inl (cI, 90, .inl fo)), (o0, .inr (7, [.ref o1, .ref o2, .int (nI dy), .int (nI wn), .int (nI mo), .int mu, .int (nI ke)]))])) := by
  refine skM_of pf_X1_lay (Nat.le_of_ble_eq_true rfl) ?_
  intro p e s m below meth c A ls E hP hD hl
  refine skE_el E (fun hx hb hr hml hlocks hin hown hts hK hA => ?_)
  have hown : s.vm.findClass RX1 = some m.cls := hown
  have hS : va_S A s.heap s.heap [] := va_S.rf
  have hl : lv_has ls 8 [(0, .ref (q 11)), (1, .ref o0), (2, .int o), (3, .int (nI li))] := hl
  refine lv_aload_n hx hb dX1_lay_0 rfl (lv_at hl 0 rfl) ?_
  refine lv_aload_n hx hb dX1_lay_1 rfl (lv_at hl 1 rfl) ?_
  refine sk_get (v := .int (nI dy)) (C := RX7) (T := TX7) (N := 7) hx hb hts inlX7 hown hK hP 8 rfl rfl 2 (Nat.le_of_ble_eq_true rfl) w_1_239 rfl dX1_lay_2 ?_
  refine sk_put (ws' := [(q 11, .inr (1, [.ref (q 10), .ref (q 67), .ref (q 68), .ref (q 69), .ref (q 70), .ref (q 71), .ref (q 72), .int (nI dy), .int (nI gs)])), (q 67, .inl (cI, 90, .inl e1)), (q 68, .inl (cI, 9, .inl e2)), (q 10, .inr (9, [.ref (q 61), .ref (q 62), .ref (q 63), .ref (q 64), .ref (q 65), .ref (q 66)])), (q 61, .inl (cI, 90, .inl (fun j => nI (sa j)))), (q 62, .inl (cI, 900, .inl ft)), (q 63, .inl (cI, 90, .inl fa)), (q 64, .inl (cI, 90, .inl fo)), (o0, .inr (7, [.ref o1, .ref o2, .int (nI dy), .int (nI wn), .int (nI mo), .int mu, .int (nI ke)]))]) (C := RX1) (T := TX1) (N := 9) (v := .int (nI dy)) hx hb hts inlX1 tyX1 tyX1_ok nmX1 hown hK hP hD hS 0 rfl rfl 7 (Nat.le_of_ble_eq_true rfl) w_2_102 rfl rfl rfl (Nat.le_of_ble_eq_true rfl) rfl dX1_lay_5 (fun H locs hP hD hS => ?_)
  refine lv_aload_n hx hb dX1_lay_8 rfl (lv_at hl 0 rfl) ?_
  refine lv_aload_n hx hb dX1_lay_9 rfl (lv_at hl 1 rfl) ?_
  refine sk_get (v := .int (nI mo)) (C := RX7) (T := TX7) (N := 7) hx hb hts inlX7 hown hK hP 8 rfl rfl 4 (Nat.le_of_ble_eq_true rfl) w_2_9 rfl dX1_lay_10 ?_
  refine sk_put (ws' := [(q 11, .inr (1, [.ref (q 10), .ref (q 67), .ref (q 68), .ref (q 69), .ref (q 70), .ref (q 71), .ref (q 72), .int (nI dy), .int (nI mo)])), (q 67, .inl (cI, 90, .inl e1)), (q 68, .inl (cI, 9, .inl e2)), (q 10, .inr (9, [.ref (q 61), .ref (q 62), .ref (q 63), .ref (q 64), .ref (q 65), .ref (q 66)])), (q 61, .inl (cI, 90, .inl (fun j => nI (sa j)))), (q 62, .inl (cI, 900, .inl ft)), (q 63, .inl (cI, 90, .inl fa)), (q 64, .inl (cI, 90, .inl fo)), (o0, .inr (7, [.ref o1, .ref o2, .int (nI dy), .int (nI wn), .int (nI mo), .int mu, .int (nI ke)]))]) (C := RX1) (T := TX1) (N := 9) (v := .int (nI mo)) hx hb hts inlX1 tyX1 tyX1_ok nmX1 hown hK hP hD hS 0 rfl rfl 8 (Nat.le_of_ble_eq_true rfl) w_2_103 rfl rfl rfl (Nat.le_of_ble_eq_true rfl) rfl dX1_lay_13 (fun H locs hP hD hS => ?_)
  refine lv_aload_n hx hb dX1_lay_16 rfl (lv_at hl 0 rfl) ?_
  refine sk_get (v := .ref (q 68)) (C := RX1) (T := TX1) (N := 9) hx hb hts inlX1 hown hK hP 0 rfl rfl 2 (Nat.le_of_ble_eq_true rfl) w_2_97 rfl dX1_lay_17 ?_
  refine lv_sipush (v := 1023) hx hb dX1_lay_20 (by decide) ?_
  refine sk_Sv (n := 2) (rest := []) (wr := fmR om_9_40 _) ⟨hx, hb, hml, hown, hts⟩ hl.1 (c_efillX l D cI cJ cC cZ cS (q 68) 9 e2 1023 (by omega)) w_4_51 w_2_219 w_1_15 w_2_220 hd_J7_fill_53178_2 ⟨⟨(Nat.le_of_ble_eq_true rfl), (Nat.le_of_ble_eq_true rfl)⟩, (Nat.le_of_ble_eq_true rfl), (Nat.le_of_ble_eq_true rfl)⟩ hK hP hD hS hA (fmT om_9_40 0) (fmF om_9_40 0) (fm_C1 rfl rfl) (fm_R rfl rfl) (fm_nT om_9_40 0) (fm_nF om_9_40 0) (fm_di om_9_40 0) rfl rfl (Nat.le_of_ble_eq_true rfl) dX1_lay_23 (fun u H locs hw hP hD hS => ?_)
  refine exE hw (fun g_1 hw1 => anE hw1 (fun hfl_2 eu_3 => ?_))
  clear hw hw1
  refine o_mgE (ws' := [(q 11, .inr (1, [.ref (q 10), .ref (q 67), .ref (q 68), .ref (q 69), .ref (q 70), .ref (q 71), .ref (q 72), .int (nI dy), .int (nI mo)])), (q 67, .inl (cI, 90, .inl e1)), (q 68, .inl (cI, 9, .inl g_1)), (q 10, .inr (9, [.ref (q 61), .ref (q 62), .ref (q 63), .ref (q 64), .ref (q 65), .ref (q 66)])), (q 61, .inl (cI, 90, .inl (fun j => nI (sa j)))), (q 62, .inl (cI, 900, .inl ft)), (q 63, .inl (cI, 90, .inl fa)), (q 64, .inl (cI, 90, .inl fo)), (o0, .inr (7, [.ref o1, .ref o2, .int (nI dy), .int (nI wn), .int (nI mo), .int mu, .int (nI ke)]))]) eu_3 hP hD rfl (fun hP hD => ?_)
  refine lv_iconst (v := 0) hx hb dX1_lay_26 ic_0 ?_
  refine lv_istore (lv' := [(4, .int 0), (0, .ref (q 11)), (1, .ref o0), (2, .int o), (3, .int (nI li))]) hx hb dX1_lay_27 hl (by decide) rfl (fun ls hl => ?_)
  have lp_4 : ∀ (n_5 : Nat) (i : Nat) (a1 : Nat → Int32) (H : Heap) (locs : List Loc) (ls : Array Slot), dy - i < n_5 → (i ≤ dy) → (kcLa (kcFo L wn Ba We U li) i a1) → va_P D vwCl [(q 11, .inr (1, [.ref (q 10), .ref (q 67), .ref (q 68), .ref (q 69), .ref (q 70), .ref (q 71), .ref (q 72), .int (nI dy), .int (nI mo)])), (q 67, .inl (cI, 90, .inl a1)), (q 68, .inl (cI, 9, .inl g_1)), (q 10, .inr (9, [.ref (q 61), .ref (q 62), .ref (q 63), .ref (q 64), .ref (q 65), .ref (q 66)])), (q 61, .inl (cI, 90, .inl (fun j => nI (sa j)))), (q 62, .inl (cI, 900, .inl ft)), (q 63, .inl (cI, 90, .inl fa)), (q 64, .inl (cI, 90, .inl fo)), (o0, .inr (7, [.ref o1, .ref o2, .int (nI dy), .int (nI wn), .int (nI mo), .int mu, .int (nI ke)]))] H → va_D A [(q 11, .inr (1, [.ref (q 10), .ref (q 67), .ref (q 68), .ref (q 69), .ref (q 70), .ref (q 71), .ref (q 72), .int (nI dy), .int (nI mo)])), (q 67, .inl (cI, 90, .inl a1)), (q 68, .inl (cI, 9, .inl g_1)), (q 10, .inr (9, [.ref (q 61), .ref (q 62), .ref (q 63), .ref (q 64), .ref (q 65), .ref (q 66)])), (q 61, .inl (cI, 90, .inl (fun j => nI (sa j)))), (q 62, .inl (cI, 900, .inl ft)), (q 63, .inl (cI, 90, .inl fa)), (q 64, .inl (cI, 90, .inl fo)), (o0, .inr (7, [.ref o1, .ref o2, .int (nI dy), .int (nI wn), .int (nI mo), .int mu, .int (nI ke)]))] → va_S A s.heap H locs → lv_has ls 8 [(4, .int (nI i)), (0, .ref (q 11)), (1, .ref o0), (2, .int o), (3, .int (nI li))] → W p l e { frames := 1, cells := 0, slots := 0, locals := 26 } s m ([.ref (q 11), .ref o0, .int o, .int (nI li)] : List Value).toArray below meth c H locs 0 0 (MQ below (skV D (skT cI cJ cC cZ cS) (fun (u : va_W) => ∃ (g1 : Nat → Int32), ∃ (g2 : Nat → Int32), kcLd (kcFo L wn Ba We U li) dy g1 g2 ∧ u = [(q 11, .inr (1, [.ref (q 10), .ref (q 67), .ref (q 68), .ref (q 69), .ref (q 70), .ref (q 71), .ref (q 72), .int (nI dy), .int (nI mo)])), (q 67, .inl (cI, 90, .inl g1)), (q 68, .inl (cI, 9, .inl g2)), (q 10, .inr (9, [.ref (q 61), .ref (q 62), .ref (q 63), .ref (q 64), .ref (q 65), .ref (q 66)])), (q 61, .inl (cI, 90, .inl (fun j => nI (sa j)))), (q 62, .inl (cI, 900, .inl ft)), (q 63, .inl (cI, 90, .inl fa)), (q 64, .inl (cI, 90, .inl fo)), (o0, .inr (7, [.ref o1, .ref o2, .int (nI dy), .int (nI wn), .int (nI mo), .int mu, .int (nI ke)]))]) A) ([.ref (q 11), .ref o0, .int o, .int (nI li)] : List Value).toArray s 0 0 A) (F0 m 29 ls []) := by
    intro n_5
    induction n_5 with
    | zero => intro i a1 H locs ls hm; exact absurd hm (Nat.not_lt_zero _)
    | succ n_5 ih_lp_4 =>
      intro i a1 H locs ls hm hi hla hP hD hS hl
      refine lv_iload hx hb dX1_lay_29 (lv_at hl 0 rfl) ?_
      refine lv_aload_n hx hb dX1_lay_31 rfl (lv_at hl 1 rfl) ?_
      refine sk_get (v := .int (nI dy)) (C := RX1) (T := TX1) (N := 9) hx hb hts inlX1 hown hK hP 0 rfl rfl 7 (Nat.le_of_ble_eq_true rfl) w_2_102 rfl dX1_lay_32 ?_
      refine lv_icmp_ge (tgt := 150) hx hb dX1_lay_35 (by decide) (fun c_6 => ?_) (fun c_6 => ?_)
      · have c_6 : dy ≤ i := (nle dy i (by omega) (by omega)).mp c_6
        exact sk_vret hx hb hr hlocks hK hP hD hS (⟨a1, g_1, (kld_of (show kcLa (kcFo L wn Ba We U li) dy a1 by rw [show dy = i by omega]; exact hla) hfl_2 hdy), rfl⟩) (Nat.le_of_ble_eq_true rfl) (Nat.le_of_ble_eq_true rfl) dX1_lay_150
      · have c_6 : ¬ (dy ≤ i) := fun h => c_6 ((nle dy i (by omega) (by omega)).mpr h)
        have jn_7 : ∀ (bq : Nat) (H : Heap) (locs : List Loc) (ls : Array Slot), (bq ≤ 1) → ((bq = 1 ∧ U i = true) ∨ (bq = 0 ∧ ¬ U i = true)) → va_P D vwCl [(q 11, .inr (1, [.ref (q 10), .ref (q 67), .ref (q 68), .ref (q 69), .ref (q 70), .ref (q 71), .ref (q 72), .int (nI dy), .int (nI mo)])), (q 67, .inl (cI, 90, .inl a1)), (q 68, .inl (cI, 9, .inl g_1)), (q 10, .inr (9, [.ref (q 61), .ref (q 62), .ref (q 63), .ref (q 64), .ref (q 65), .ref (q 66)])), (q 61, .inl (cI, 90, .inl (fun j => nI (sa j)))), (q 62, .inl (cI, 900, .inl ft)), (q 63, .inl (cI, 90, .inl fa)), (q 64, .inl (cI, 90, .inl fo)), (o0, .inr (7, [.ref o1, .ref o2, .int (nI dy), .int (nI wn), .int (nI mo), .int mu, .int (nI ke)]))] H → va_D A [(q 11, .inr (1, [.ref (q 10), .ref (q 67), .ref (q 68), .ref (q 69), .ref (q 70), .ref (q 71), .ref (q 72), .int (nI dy), .int (nI mo)])), (q 67, .inl (cI, 90, .inl a1)), (q 68, .inl (cI, 9, .inl g_1)), (q 10, .inr (9, [.ref (q 61), .ref (q 62), .ref (q 63), .ref (q 64), .ref (q 65), .ref (q 66)])), (q 61, .inl (cI, 90, .inl (fun j => nI (sa j)))), (q 62, .inl (cI, 900, .inl ft)), (q 63, .inl (cI, 90, .inl fa)), (q 64, .inl (cI, 90, .inl fo)), (o0, .inr (7, [.ref o1, .ref o2, .int (nI dy), .int (nI wn), .int (nI mo), .int mu, .int (nI ke)]))] → va_S A s.heap H locs → lv_has ls 8 [(4, .int (nI i)), (0, .ref (q 11)), (1, .ref o0), (2, .int o), (3, .int (nI li))] → W p l e { frames := 1, cells := 0, slots := 0, locals := 26 } s m ([.ref (q 11), .ref o0, .int o, .int (nI li)] : List Value).toArray below meth c H locs 0 0 (MQ below (skV D (skT cI cJ cC cZ cS) (fun (u : va_W) => ∃ (g1 : Nat → Int32), ∃ (g2 : Nat → Int32), kcLd (kcFo L wn Ba We U li) dy g1 g2 ∧ u = [(q 11, .inr (1, [.ref (q 10), .ref (q 67), .ref (q 68), .ref (q 69), .ref (q 70), .ref (q 71), .ref (q 72), .int (nI dy), .int (nI mo)])), (q 67, .inl (cI, 90, .inl g1)), (q 68, .inl (cI, 9, .inl g2)), (q 10, .inr (9, [.ref (q 61), .ref (q 62), .ref (q 63), .ref (q 64), .ref (q 65), .ref (q 66)])), (q 61, .inl (cI, 90, .inl (fun j => nI (sa j)))), (q 62, .inl (cI, 900, .inl ft)), (q 63, .inl (cI, 90, .inl fa)), (q 64, .inl (cI, 90, .inl fo)), (o0, .inr (7, [.ref o1, .ref o2, .int (nI dy), .int (nI wn), .int (nI mo), .int mu, .int (nI ke)]))]) A) ([.ref (q 11), .ref o0, .int o, .int (nI li)] : List Value).toArray s 0 0 A) (F0 m 53 ls [.int (nI bq)]) := by
          intro bq H locs ls hbq1 hbq hP hD hS hl
          refine lv_istore (lv' := [(5, .int (nI bq)), (4, .int (nI i)), (0, .ref (q 11)), (1, .ref o0), (2, .int o), (3, .int (nI li))]) hx hb dX1_lay_53 hl (by decide) rfl (fun ls hl => ?_)
          refine lv_iconst (v := 0) hx hb dX1_lay_55 ic_0 ?_
          refine lv_istore (lv' := [(6, .int 0), (5, .int (nI bq)), (4, .int (nI i)), (0, .ref (q 11)), (1, .ref o0), (2, .int o), (3, .int (nI li))]) hx hb dX1_lay_56 hl (by decide) rfl (fun ls hl => ?_)
          have lp_8 : ∀ (n_9 : Nat) (jj : Nat) (a2 : Nat → Int32) (H : Heap) (locs : List Loc) (ls : Array Slot), 10 - jj < n_9 → (jj ≤ 10) → (kcLj (kcFo L wn Ba We U li) i jj a2) → va_P D vwCl [(q 11, .inr (1, [.ref (q 10), .ref (q 67), .ref (q 68), .ref (q 69), .ref (q 70), .ref (q 71), .ref (q 72), .int (nI dy), .int (nI mo)])), (q 67, .inl (cI, 90, .inl a2)), (q 68, .inl (cI, 9, .inl g_1)), (q 10, .inr (9, [.ref (q 61), .ref (q 62), .ref (q 63), .ref (q 64), .ref (q 65), .ref (q 66)])), (q 61, .inl (cI, 90, .inl (fun j => nI (sa j)))), (q 62, .inl (cI, 900, .inl ft)), (q 63, .inl (cI, 90, .inl fa)), (q 64, .inl (cI, 90, .inl fo)), (o0, .inr (7, [.ref o1, .ref o2, .int (nI dy), .int (nI wn), .int (nI mo), .int mu, .int (nI ke)]))] H → va_D A [(q 11, .inr (1, [.ref (q 10), .ref (q 67), .ref (q 68), .ref (q 69), .ref (q 70), .ref (q 71), .ref (q 72), .int (nI dy), .int (nI mo)])), (q 67, .inl (cI, 90, .inl a2)), (q 68, .inl (cI, 9, .inl g_1)), (q 10, .inr (9, [.ref (q 61), .ref (q 62), .ref (q 63), .ref (q 64), .ref (q 65), .ref (q 66)])), (q 61, .inl (cI, 90, .inl (fun j => nI (sa j)))), (q 62, .inl (cI, 900, .inl ft)), (q 63, .inl (cI, 90, .inl fa)), (q 64, .inl (cI, 90, .inl fo)), (o0, .inr (7, [.ref o1, .ref o2, .int (nI dy), .int (nI wn), .int (nI mo), .int mu, .int (nI ke)]))] → va_S A s.heap H locs → lv_has ls 8 [(6, .int (nI jj)), (5, .int (nI bq)), (4, .int (nI i)), (0, .ref (q 11)), (1, .ref o0), (2, .int o), (3, .int (nI li))] → W p l e { frames := 1, cells := 0, slots := 0, locals := 26 } s m ([.ref (q 11), .ref o0, .int o, .int (nI li)] : List Value).toArray below meth c H locs 0 0 (MQ below (skV D (skT cI cJ cC cZ cS) (fun (u : va_W) => ∃ (g1 : Nat → Int32), ∃ (g2 : Nat → Int32), kcLd (kcFo L wn Ba We U li) dy g1 g2 ∧ u = [(q 11, .inr (1, [.ref (q 10), .ref (q 67), .ref (q 68), .ref (q 69), .ref (q 70), .ref (q 71), .ref (q 72), .int (nI dy), .int (nI mo)])), (q 67, .inl (cI, 90, .inl g1)), (q 68, .inl (cI, 9, .inl g2)), (q 10, .inr (9, [.ref (q 61), .ref (q 62), .ref (q 63), .ref (q 64), .ref (q 65), .ref (q 66)])), (q 61, .inl (cI, 90, .inl (fun j => nI (sa j)))), (q 62, .inl (cI, 900, .inl ft)), (q 63, .inl (cI, 90, .inl fa)), (q 64, .inl (cI, 90, .inl fo)), (o0, .inr (7, [.ref o1, .ref o2, .int (nI dy), .int (nI wn), .int (nI mo), .int mu, .int (nI ke)]))]) A) ([.ref (q 11), .ref o0, .int o, .int (nI li)] : List Value).toArray s 0 0 A) (F0 m 58 ls []) := by
            intro n_9
            induction n_9 with
            | zero => intro jj a2 H locs ls hm; exact absurd hm (Nat.not_lt_zero _)
            | succ n_9 ih_lp_8 =>
              intro jj a2 H locs ls hm hjj hlj hP hD hS hl
              refine lv_iload hx hb dX1_lay_58 (lv_at hl 0 rfl) ?_
              refine lv_bipush (v := 10) hx hb dX1_lay_60 (by decide) ?_
              refine lv_icmp_ge (tgt := 144) hx hb dX1_lay_62 (by decide) (fun c_10 => ?_) (fun c_10 => ?_)
              · have c_10 : 10 ≤ jj := (nle 10 jj (Nat.le_of_ble_eq_true rfl) (by omega)).mp c_10
                refine lv_iinc (v := nI (i + 1)) (lv' := [(4, .int (nI (i + 1))), (6, .int (nI jj)), (5, .int (nI bq)), (0, .ref (q 11)), (1, .ref o0), (2, .int o), (3, .int (nI li))]) hx hb dX1_lay_144 hl (k := 2) rfl (ninc i 1 (by decide)) (by decide) rfl (fun ls hl => ?_)
                refine lv_goto (tgt := 29) hx hb dX1_lay_147 (by decide) ?_
                exact ih_lp_4 (i + 1) a2 _ _ _ (by omega) (by omega) (klj_10 (show kcLj (kcFo L wn Ba We U li) i 10 a2 by rw [show 10 = jj by omega]; exact hlj)) hP hD hS (lv_sub hl [0, 3, 4, 5, 6] rfl)
              · have c_10 : ¬ (10 ≤ jj) := fun h => c_10 ((nle 10 jj (Nat.le_of_ble_eq_true rfl) (by omega)).mpr h)
                refine lv_iload hx hb dX1_lay_65 (lv_at hl 2 rfl) ?_
                refine lv_bipush (v := 10) hx hb dX1_lay_67 (by decide) ?_
                refine lv_imul hx hb dX1_lay_69 ?_
                refine sk_top (nI (i * 10)) (nmul i 10) ?_
                refine lv_iload hx hb dX1_lay_70 (lv_at hl 0 rfl) ?_
                refine lv_iadd hx hb dX1_lay_72 ?_
                refine sk_top (nI (i * 10 + jj)) (nI_add (i * 10) jj) ?_
                refine lv_istore (lv' := [(7, .int (nI (i * 10 + jj))), (6, .int (nI jj)), (5, .int (nI bq)), (4, .int (nI i)), (0, .ref (q 11)), (1, .ref o0), (2, .int o), (3, .int (nI li))]) hx hb dX1_lay_73 hl (by decide) rfl (fun ls hl => ?_)
                refine lv_iload hx hb dX1_lay_75 (lv_at hl 2 rfl) ?_
                refine lv_if_eq (tgt := 102) hx hb dX1_lay_77 (by decide) (fun c_11 => ?_) (fun c_11 => ?_)
                · have c_11 : bq = 0 := (neq bq 0 (by omega) (Nat.le_of_ble_eq_true rfl)).mp c_11
                  refine lv_aload_n hx hb dX1_lay_102 rfl (lv_at hl 4 rfl) ?_
                  refine sk_get (v := .ref (q 67)) (C := RX1) (T := TX1) (N := 9) hx hb hts inlX1 hown hK hP 0 rfl rfl 1 (Nat.le_of_ble_eq_true rfl) w_2_96 rfl dX1_lay_103 ?_
                  refine lv_iload hx hb dX1_lay_106 (lv_at hl 0 rfl) ?_
                  refine lv_iload_n hx hb dX1_lay_108 rfl (lv_at hl 7 rfl) ?_
                  refine lv_if_ne (tgt := 125) hx hb dX1_lay_109 (by decide) (fun c_12 => ?_) (fun c_12 => ?_)
                  · have c_12 : ¬ (li = 0) := fun h => c_12 ((neq li 0 (by omega) (Nat.le_of_ble_eq_true rfl)).mpr h)
                    refine lv_aload_n hx hb dX1_lay_125 rfl (lv_at hl 4 rfl) ?_
                    refine sk_get (v := .ref (q 10)) (C := RX1) (T := TX1) (N := 9) hx hb hts inlX1 hown hK hP 0 rfl rfl 0 (Nat.le_of_ble_eq_true rfl) w_2_95 rfl dX1_lay_126 ?_
                    refine lv_iload hx hb dX1_lay_129 (lv_at hl 3 rfl) ?_
                    refine lv_iload hx hb dX1_lay_131 (lv_at hl 1 rfl) ?_
                    refine lv_iload_n hx hb dX1_lay_133 rfl (lv_at hl 7 rfl) ?_
                    refine sk_Vi (q0 := 0) (n := 3) (rest := [.int (nI (i * 10 + jj)), .ref (q 67)]) (wr := fmR om_9_38 _) ⟨hx, hb, hml, hown, hts⟩ hl.1 (c_kmoodsBehind l D cI cJ cC cZ cS q sa ft i jj li (kcSaid L wn (Ba i) (We i) i) (fun t => kcBec L wn (Ba i) (We i) i jj t 0) hsa (by omega) (by omega) hli (fun m hm => ((hrows i (by omega)).1 m hm).1) ((hrows i (by omega)).2 jj (by omega)).1 (fun t => kcTen_lt _)) w_4_52 w_4_18 w_4_19 w_1_12 w_4_20 hd_X9_moodsBehind_3 ⟨⟨(Nat.le_of_ble_eq_true rfl), (Nat.le_of_ble_eq_true rfl)⟩, (Nat.le_of_ble_eq_true rfl), (Nat.le_of_ble_eq_true rfl)⟩ hK hP hD hS hA (fmT om_9_38 0) (fmF om_9_38 0) (fm_C1 rfl rfl) (fm_R rfl rfl) (fm_nT om_9_38 0) (fm_nF om_9_38 0) (fm_di om_9_38 0) rfl rfl rfl rfl (Nat.le_of_ble_eq_true rfl) dX1_lay_134 (fun r_13 u H locs hw hP hD hS => ?_)
                    refine anE hw (fun er_15 eu_14 => ?_)
                    clear hw
                    subst er_15
                    refine o_mgE (ws' := [(q 11, .inr (1, [.ref (q 10), .ref (q 67), .ref (q 68), .ref (q 69), .ref (q 70), .ref (q 71), .ref (q 72), .int (nI dy), .int (nI mo)])), (q 67, .inl (cI, 90, .inl a2)), (q 68, .inl (cI, 9, .inl g_1)), (q 10, .inr (9, [.ref (q 61), .ref (q 62), .ref (q 63), .ref (q 64), .ref (q 65), .ref (q 66)])), (q 61, .inl (cI, 90, .inl (fun j => nI (sa j)))), (q 62, .inl (cI, 900, .inl ft)), (q 63, .inl (cI, 90, .inl fa)), (q 64, .inl (cI, 90, .inl fo)), (o0, .inr (7, [.ref o1, .ref o2, .int (nI dy), .int (nI wn), .int (nI mo), .int mu, .int (nI ke)]))]) eu_14 hP hD rfl (fun hP hD => ?_)
                    refine sk_iastE (k := (i * 10 + jj)) (ws' := fun f_16 => [(q 11, .inr (1, [.ref (q 10), .ref (q 67), .ref (q 68), .ref (q 69), .ref (q 70), .ref (q 71), .ref (q 72), .int (nI dy), .int (nI mo)])), (q 67, .inl (cI, 90, .inl f_16)), (q 68, .inl (cI, 9, .inl g_1)), (q 10, .inr (9, [.ref (q 61), .ref (q 62), .ref (q 63), .ref (q 64), .ref (q 65), .ref (q 66)])), (q 61, .inl (cI, 90, .inl (fun j => nI (sa j)))), (q 62, .inl (cI, 900, .inl ft)), (q 63, .inl (cI, 90, .inl fa)), (q 64, .inl (cI, 90, .inl fo)), (o0, .inr (7, [.ref o1, .ref o2, .int (nI dy), .int (nI wn), .int (nI mo), .int mu, .int (nI ke)]))]) hx hb hK hP hD hS 1 0 rfl rfl (by omega) (by omega) (fun _ => rfl) dX1_lay_137 (fun f_16 H locs ef_17 hP hD hS => ?_)
                    refine lv_iinc (v := nI (jj + 1)) (lv' := [(6, .int (nI (jj + 1))), (7, .int (nI (i * 10 + jj))), (5, .int (nI bq)), (4, .int (nI i)), (0, .ref (q 11)), (1, .ref o0), (2, .int o), (3, .int (nI li))]) hx hb dX1_lay_138 hl (k := 1) rfl (ninc jj 1 (by decide)) (by decide) rfl (fun ls hl => ?_)
                    refine lv_goto (tgt := 58) hx hb dX1_lay_141 (by decide) ?_
                    exact ih_lp_8 (jj + 1) f_16 _ _ _ (by omega) (by omega) (klj_s hlj ef_17 (by omega) (kle_mb (kbq_0 hbq c_11))) hP hD hS (lv_sub hl [0, 2, 3, 4, 5, 6, 7] rfl)
                  · have c_12 : li = 0 := (neq li 0 (by omega) (Nat.le_of_ble_eq_true rfl)).mp c_12
                    refine lv_aload_n hx hb dX1_lay_112 rfl (lv_at hl 4 rfl) ?_
                    refine sk_get (v := .ref (q 10)) (C := RX1) (T := TX1) (N := 9) hx hb hts inlX1 hown hK hP 0 rfl rfl 0 (Nat.le_of_ble_eq_true rfl) w_2_95 rfl dX1_lay_113 ?_
                    refine sk_get (v := .ref (q 64)) (C := RX9) (T := TX9) (N := 6) hx hb hts inlX9 hown hK hP 3 rfl rfl 3 (Nat.le_of_ble_eq_true rfl) w_2_71 rfl dX1_lay_116 ?_
                    refine lv_iload hx hb dX1_lay_119 (lv_at hl 0 rfl) ?_
                    refine va_iald hx hb hK.1 hP 7 0 rfl rfl (vin (i * 10 + jj) 90 (by omega) (Nat.le_of_ble_eq_true rfl)) dX1_lay_121 ?_
                    refine sk_top (nI (kcMB (kcSaid L wn (Ba i) (We i) i) (fun t => kcBec L wn (Ba i) (We i) i jj t 0) 0)) (by rw [nI_clamp (by omega)]; exact ((hrows i (by omega)).2 jj (by omega)).2.2) ?_
                    refine lv_goto (tgt := 137) hx hb dX1_lay_122 (by decide) ?_
                    refine sk_iastE (k := (i * 10 + jj)) (ws' := fun f_18 => [(q 11, .inr (1, [.ref (q 10), .ref (q 67), .ref (q 68), .ref (q 69), .ref (q 70), .ref (q 71), .ref (q 72), .int (nI dy), .int (nI mo)])), (q 67, .inl (cI, 90, .inl f_18)), (q 68, .inl (cI, 9, .inl g_1)), (q 10, .inr (9, [.ref (q 61), .ref (q 62), .ref (q 63), .ref (q 64), .ref (q 65), .ref (q 66)])), (q 61, .inl (cI, 90, .inl (fun j => nI (sa j)))), (q 62, .inl (cI, 900, .inl ft)), (q 63, .inl (cI, 90, .inl fa)), (q 64, .inl (cI, 90, .inl fo)), (o0, .inr (7, [.ref o1, .ref o2, .int (nI dy), .int (nI wn), .int (nI mo), .int mu, .int (nI ke)]))]) hx hb hK hP hD hS 1 0 rfl rfl (by omega) (by omega) (fun _ => rfl) dX1_lay_137 (fun f_18 H locs ef_19 hP hD hS => ?_)
                    refine lv_iinc (v := nI (jj + 1)) (lv' := [(6, .int (nI (jj + 1))), (7, .int (nI (i * 10 + jj))), (5, .int (nI bq)), (4, .int (nI i)), (0, .ref (q 11)), (1, .ref o0), (2, .int o), (3, .int (nI li))]) hx hb dX1_lay_138 hl (k := 1) rfl (ninc jj 1 (by decide)) (by decide) rfl (fun ls hl => ?_)
                    refine lv_goto (tgt := 58) hx hb dX1_lay_141 (by decide) ?_
                    exact ih_lp_8 (jj + 1) f_18 _ _ _ (by omega) (by omega) (klj_s hlj ef_19 (by omega) (kle_mb0 (kbq_0 hbq c_11) c_12)) hP hD hS (lv_sub hl [0, 2, 3, 4, 5, 6, 7] rfl)
                · have c_11 : ¬ (bq = 0) := fun h => c_11 ((neq bq 0 (by omega) (Nat.le_of_ble_eq_true rfl)).mpr h)
                  refine lv_aload_n hx hb dX1_lay_80 rfl (lv_at hl 4 rfl) ?_
                  refine sk_get (v := .ref (q 67)) (C := RX1) (T := TX1) (N := 9) hx hb hts inlX1 hown hK hP 0 rfl rfl 1 (Nat.le_of_ble_eq_true rfl) w_2_96 rfl dX1_lay_81 ?_
                  refine lv_iload hx hb dX1_lay_84 (lv_at hl 0 rfl) ?_
                  refine lv_iconst (v := 1) hx hb dX1_lay_86 ic_1 ?_
                  refine lv_aload_n hx hb dX1_lay_87 rfl (lv_at hl 4 rfl) ?_
                  refine sk_get (v := .ref (q 10)) (C := RX1) (T := TX1) (N := 9) hx hb hts inlX1 hown hK hP 0 rfl rfl 0 (Nat.le_of_ble_eq_true rfl) w_2_95 rfl dX1_lay_88 ?_
                  refine sk_get (v := .ref (q 63)) (C := RX9) (T := TX9) (N := 6) hx hb hts inlX9 hown hK hP 3 rfl rfl 2 (Nat.le_of_ble_eq_true rfl) w_2_68 rfl dX1_lay_91 ?_
                  refine lv_iload hx hb dX1_lay_94 (lv_at hl 0 rfl) ?_
                  refine va_iald hx hb hK.1 hP 6 0 rfl rfl (vin (i * 10 + jj) 90 (by omega) (Nat.le_of_ble_eq_true rfl)) dX1_lay_96 ?_
                  refine sk_top (nI (kcBec L wn (Ba i) (We i) i jj 0 1)) (by rw [nI_clamp (by omega)]; exact ((hrows i (by omega)).2 jj (by omega)).2.1) ?_
                  refine lv_ishl hx hb dX1_lay_97 ?_
                  refine sk_iastE (k := (i * 10 + jj)) (ws' := fun f_20 => [(q 11, .inr (1, [.ref (q 10), .ref (q 67), .ref (q 68), .ref (q 69), .ref (q 70), .ref (q 71), .ref (q 72), .int (nI dy), .int (nI mo)])), (q 67, .inl (cI, 90, .inl f_20)), (q 68, .inl (cI, 9, .inl g_1)), (q 10, .inr (9, [.ref (q 61), .ref (q 62), .ref (q 63), .ref (q 64), .ref (q 65), .ref (q 66)])), (q 61, .inl (cI, 90, .inl (fun j => nI (sa j)))), (q 62, .inl (cI, 900, .inl ft)), (q 63, .inl (cI, 90, .inl fa)), (q 64, .inl (cI, 90, .inl fo)), (o0, .inr (7, [.ref o1, .ref o2, .int (nI dy), .int (nI wn), .int (nI mo), .int mu, .int (nI ke)]))]) hx hb hK hP hD hS 1 0 rfl rfl (by omega) (by omega) (fun _ => rfl) dX1_lay_98 (fun f_20 H locs ef_21 hP hD hS => ?_)
                  refine lv_goto (tgt := 138) hx hb dX1_lay_99 (by decide) ?_
                  refine lv_iinc (v := nI (jj + 1)) (lv' := [(6, .int (nI (jj + 1))), (7, .int (nI (i * 10 + jj))), (5, .int (nI bq)), (4, .int (nI i)), (0, .ref (q 11)), (1, .ref o0), (2, .int o), (3, .int (nI li))]) hx hb dX1_lay_138 hl (k := 1) rfl (ninc jj 1 (by decide)) (by decide) rfl (fun ls hl => ?_)
                  refine lv_goto (tgt := 58) hx hb dX1_lay_141 (by decide) ?_
                  exact ih_lp_8 (jj + 1) f_20 _ _ _ (by omega) (by omega) (klj_s hlj ef_21 (by omega) (kle_al (kbq_1 hbq c_11))) hP hD hS (lv_sub hl [0, 2, 3, 4, 5, 6, 7] rfl)
          exact lp_8 (10 - 0 + 1) 0 a1 _ _ _ (Nat.lt_succ_self _) (by omega) (klj_0 hla) hP hD hS (lv_sub hl [0, 1, 2, 3, 4, 5, 6] rfl)
        refine lv_iload_n hx hb dX1_lay_38 rfl (lv_at hl 3 rfl) ?_
        refine lv_iload hx hb dX1_lay_39 (lv_at hl 0 rfl) ?_
        refine lv_ishr hx hb dX1_lay_41 ?_
        refine lv_iconst (v := 1) hx hb dX1_lay_42 ic_1 ?_
        refine lv_iand hx hb dX1_lay_43 ?_
        refine lv_iconst (v := 1) hx hb dX1_lay_44 ic_1 ?_
        refine lv_icmp_ne (tgt := 52) hx hb dX1_lay_45 (by decide) (fun c_22 => ?_) (fun c_22 => ?_)
        · skip
          refine lv_iconst (v := 0) hx hb dX1_lay_52 ic_0 ?_
          exact jn_7 0 _ _ _ (by omega) (Or.inr ⟨rfl, fun hq => c_22 ((muO_bit hU (by omega)).mpr hq)⟩) hP hD hS (lv_sub hl [0, 1, 2, 3, 4] rfl)
        · skip
          refine lv_iconst (v := 1) hx hb dX1_lay_48 ic_1 ?_
          refine lv_goto (tgt := 53) hx hb dX1_lay_49 (by decide) ?_
          exact jn_7 1 _ _ _ (by omega) (Or.inl ⟨rfl, (muO_bit hU (by omega)).mp c_22⟩) hP hD hS (lv_sub hl [0, 1, 2, 3, 4] rfl)
  exact lp_4 (dy - 0 + 1) 0 e1 _ _ _ (Nat.lt_succ_self _) (by omega) (kla_0 _ _) hP hD hS (lv_sub hl [0, 1, 2, 3, 4] rfl)
/-! a state -/
section KxCopy
variable {p : Program} {l : Launch} {e : Env} {R : Room} {s : State} {m : MethodId} {args : Array Value} {below : List Frame} {meth : Method} {c : Code} {H : Heap} {locs : List Loc} {cells slots : Nat} {Q : State → Prop}
variable {cc : ByteArray} {pc : Nat} {ls : Array Slot} {rest : List Value} {D : va_G} {tys : List (ClassId × FieldType)} {ws : va_W} {A : Nat → Prop} {H0 : Heap} {a : Nat}
theorem sk_copyE (hexec : p.tables.exec = Jvm.exec) (hb : c.code = cc) (hml : c.maxLocals = ls.size) {own : String} {index : Nat} (hts : ∀ w ∈ wsL_law, w.before args s = true) (hown : s.vm.findClass own = some m.cls) (hlink : Cond.methodLink own index arraycopyName ∈ wsL_law) (hnat : Cond.native arraycopyName ∈ wsL_law) (hstat : Cond.static arraycopyName ∈ wsL_law) (hini : Cond.initialized "java/lang/System" ∈ wsL_law)
    (hK : skK D tys s) (hP : va_P D vwCl ws H) (hD : va_D A ws) (hS : va_S A H0 H locs) (q0 q1 t0 : Nat) {a0 : Nat} {c0 : ClassId} {n0 n1 : Nat} {f g : Nat → Int32} {ws' : (Nat → Int32) → va_W} (ha0 : ws[q0]? = some (a0, .inl (c0, n0, .inl f))) (ha1 : ws[q1]? = some (a, .inl (c0, n1, .inl g))) (ht0 : tys[t0]? = some (c0, .int))
    {n : Int32} (h3 : ¬ n < 0) (h4 : n.toNatClampNeg ≤ n0) (h5 : n.toNatClampNeg ≤ n1) (hframes : 1 ≤ R.frames) (hlocals : (rest.map fun v => v.category).sum + (nativeFrameWords "java/lang/System" "arraycopy" 5 + 11) ≤ R.locals) (hw' : ∀ f', ws.set q1 (a, .inl (c0, n1, .inl f')) = ws' f') (hdg : decode cc pc = .ok (.invokestatic index, 3))
    (kk : ∀ (f' : Nat → Int32) (H1 : Heap) (locs1 : List Loc), f' = va_cpy f g 0 0 n.toNatClampNeg → va_P D vwCl (ws' f') H1 → va_D A (ws' f') → va_S A H0 H1 locs1 → W p l e R s m args below meth c H1 locs1 cells slots Q (F0 m (pc + 3) ls rest)) : W p l e R s m args below meth c H locs cells slots Q (F0 m pc ls (.int n :: .int 0 :: .ref a :: .int 0 :: .ref a0 :: rest)) :=
  va_copyi hexec hb hml hown (hts _ hlink) (hts _ hnat) (hts _ hstat) (hts _ hini) hK.1 hP hD hS q0 q1 t0 t0 ha0 ha1 ht0 ht0 rfl (by decide) (by decide) h3 (by rw [show (0 : Int32).toNatClampNeg = 0 from rfl, Nat.zero_add]; exact h4) (by rw [show (0 : Int32).toNatClampNeg = 0 from rfl, Nat.zero_add]; exact h5) (fun _ _ => rfl) hframes hlocals hdg (fun H1 locs1 h1 h2 h3 => kk _ H1 locs1 rfl ((hw' _) ▸ h1) ((hw' _) ▸ h2) h3)
end KxCopy
theorem cpy9 {f g h : Nat → Int32} (e : h = va_cpy f g 0 0 (9 : Int32).toNatClampNeg) : ∀ j, j < 9 → h j = f j := fun j hj => by
  rw [e, show (9 : Int32).toNatClampNeg = 9 from rfl]
  unfold va_cpy
  rw [if_pos ⟨by omega, by omega⟩, Nat.zero_add, Nat.sub_zero]
set_option maxHeartbeats 4000000 in
set_option maxRecDepth 100000 in
theorem c_kState_copy (l : Launch) (D : va_G) (cI cJ cC cZ cS : ClassId) (h0 : Nat) (k1 : Nat) (k2 : Nat) (dy : Nat) (mo : Nat) (wk : Int32) (mu : Int32) (ke : Int32) (fb : Nat → Int32) (fw : Nat → Int32) (o0 : Nat) (o1 : Nat) (o2 : Nat) (dy2 : Nat) (mo2 : Nat) (wk2 : Int32) (mu2 : Int32) (ke2 : Int32) (fb2 : Nat → Int32) (fw2 : Nat → Int32)  : skM l yX7_copy cX7_copy 2 none 1 80 0 0 D (skT cI cJ cC cZ cS) [.ref h0, .ref o0] [(h0, .inr (7, [.ref k1, .ref k2, .int (nI dy), .int wk, .int (nI mo), .int mu, .int ke])), (k1, .inl (cI, 9, .inl fb)), (k2, .inl (cI, 9, .inl fw)), (o0, .inr (7, [.ref o1, .ref o2, .int (nI dy2), .int wk2, .int (nI mo2), .int mu2, .int ke2])), (o1, .inl (cI, 9, .inl fb2)), (o2, .inl (cI, 9, .inl fw2))] (skV D (skT cI cJ cC cZ cS) (fun (u : va_W) => ∃ (g1 : Nat → Int32), ∃ (g2 : Nat → Int32), (∀ j, j < 9 → g1 j = fb2 j) ∧ (∀ j, j < 9 → g2 j = fw2 j) ∧ u = [(h0, .inr (7, [.ref k1, .ref k2, .int (nI dy2), .int wk2, .int (nI mo2), .int mu2, .int ke2])), (k1, .inl (cI, 9, .inl g1)), (k2, .inl (cI, 9, .inl g2)), (o0, .inr (7, [.ref o1, .ref o2, .int (nI dy2), .int wk2, .int (nI mo2), .int mu2, .int ke2])), (o1, .inl (cI, 9, .inl fb2)), (o2, .inl (cI, 9, .inl fw2))])) := by
  refine skM_of pf_X7_copy (Nat.le_of_ble_eq_true rfl) ?_
  intro p e s m below meth c A ls E hP hD hl
  refine skE_el E (fun hx hb hr hml hlocks hin hown hts hK hA => ?_)
  have hown : s.vm.findClass RX7 = some m.cls := hown
  have hS : va_S A s.heap s.heap [] := va_S.rf
  have hl : lv_has ls 2 [(0, .ref h0), (1, .ref o0)] := hl
  refine lv_aload_n hx hb dX7_copy_0 rfl (lv_at hl 0 rfl) ?_
  refine lv_aload_n hx hb dX7_copy_1 rfl (lv_at hl 1 rfl) ?_
  refine sk_get (v := .int (nI dy2)) (C := RX7) (T := TX7) (N := 7) hx hb hts inlX7 hown hK hP 3 rfl rfl 2 (Nat.le_of_ble_eq_true rfl) w_1_238 rfl dX7_copy_2 ?_
  refine sk_put (ws' := [(h0, .inr (7, [.ref k1, .ref k2, .int (nI dy2), .int wk, .int (nI mo), .int mu, .int ke])), (k1, .inl (cI, 9, .inl fb)), (k2, .inl (cI, 9, .inl fw)), (o0, .inr (7, [.ref o1, .ref o2, .int (nI dy2), .int wk2, .int (nI mo2), .int mu2, .int ke2])), (o1, .inl (cI, 9, .inl fb2)), (o2, .inl (cI, 9, .inl fw2))]) (C := RX7) (T := TX7) (N := 7) (v := .int (nI dy2)) hx hb hts inlX7 tyX7 tyX7_ok nmX7 hown hK hP hD hS 0 rfl rfl 2 (Nat.le_of_ble_eq_true rfl) w_1_238 rfl rfl rfl (Nat.le_of_ble_eq_true rfl) rfl dX7_copy_5 (fun H locs hP hD hS => ?_)
  refine lv_aload_n hx hb dX7_copy_8 rfl (lv_at hl 0 rfl) ?_
  refine lv_aload_n hx hb dX7_copy_9 rfl (lv_at hl 1 rfl) ?_
  refine sk_get (v := .int wk2) (C := RX7) (T := TX7) (N := 7) hx hb hts inlX7 hown hK hP 3 rfl rfl 3 (Nat.le_of_ble_eq_true rfl) w_2_3 rfl dX7_copy_10 ?_
  refine sk_put (ws' := [(h0, .inr (7, [.ref k1, .ref k2, .int (nI dy2), .int wk2, .int (nI mo), .int mu, .int ke])), (k1, .inl (cI, 9, .inl fb)), (k2, .inl (cI, 9, .inl fw)), (o0, .inr (7, [.ref o1, .ref o2, .int (nI dy2), .int wk2, .int (nI mo2), .int mu2, .int ke2])), (o1, .inl (cI, 9, .inl fb2)), (o2, .inl (cI, 9, .inl fw2))]) (C := RX7) (T := TX7) (N := 7) (v := .int wk2) hx hb hts inlX7 tyX7 tyX7_ok nmX7 hown hK hP hD hS 0 rfl rfl 3 (Nat.le_of_ble_eq_true rfl) w_2_3 rfl rfl rfl (Nat.le_of_ble_eq_true rfl) rfl dX7_copy_13 (fun H locs hP hD hS => ?_)
  refine lv_aload_n hx hb dX7_copy_16 rfl (lv_at hl 0 rfl) ?_
  refine lv_aload_n hx hb dX7_copy_17 rfl (lv_at hl 1 rfl) ?_
  refine sk_get (v := .int (nI mo2)) (C := RX7) (T := TX7) (N := 7) hx hb hts inlX7 hown hK hP 3 rfl rfl 4 (Nat.le_of_ble_eq_true rfl) w_2_8 rfl dX7_copy_18 ?_
  refine sk_put (ws' := [(h0, .inr (7, [.ref k1, .ref k2, .int (nI dy2), .int wk2, .int (nI mo2), .int mu, .int ke])), (k1, .inl (cI, 9, .inl fb)), (k2, .inl (cI, 9, .inl fw)), (o0, .inr (7, [.ref o1, .ref o2, .int (nI dy2), .int wk2, .int (nI mo2), .int mu2, .int ke2])), (o1, .inl (cI, 9, .inl fb2)), (o2, .inl (cI, 9, .inl fw2))]) (C := RX7) (T := TX7) (N := 7) (v := .int (nI mo2)) hx hb hts inlX7 tyX7 tyX7_ok nmX7 hown hK hP hD hS 0 rfl rfl 4 (Nat.le_of_ble_eq_true rfl) w_2_8 rfl rfl rfl (Nat.le_of_ble_eq_true rfl) rfl dX7_copy_21 (fun H locs hP hD hS => ?_)
  refine lv_aload_n hx hb dX7_copy_24 rfl (lv_at hl 0 rfl) ?_
  refine lv_aload_n hx hb dX7_copy_25 rfl (lv_at hl 1 rfl) ?_
  refine sk_get (v := .int mu2) (C := RX7) (T := TX7) (N := 7) hx hb hts inlX7 hown hK hP 3 rfl rfl 5 (Nat.le_of_ble_eq_true rfl) w_2_11 rfl dX7_copy_26 ?_
  refine sk_put (ws' := [(h0, .inr (7, [.ref k1, .ref k2, .int (nI dy2), .int wk2, .int (nI mo2), .int mu2, .int ke])), (k1, .inl (cI, 9, .inl fb)), (k2, .inl (cI, 9, .inl fw)), (o0, .inr (7, [.ref o1, .ref o2, .int (nI dy2), .int wk2, .int (nI mo2), .int mu2, .int ke2])), (o1, .inl (cI, 9, .inl fb2)), (o2, .inl (cI, 9, .inl fw2))]) (C := RX7) (T := TX7) (N := 7) (v := .int mu2) hx hb hts inlX7 tyX7 tyX7_ok nmX7 hown hK hP hD hS 0 rfl rfl 5 (Nat.le_of_ble_eq_true rfl) w_2_11 rfl rfl rfl (Nat.le_of_ble_eq_true rfl) rfl dX7_copy_29 (fun H locs hP hD hS => ?_)
  refine lv_aload_n hx hb dX7_copy_32 rfl (lv_at hl 0 rfl) ?_
  refine lv_aload_n hx hb dX7_copy_33 rfl (lv_at hl 1 rfl) ?_
  refine sk_get (v := .int ke2) (C := RX7) (T := TX7) (N := 7) hx hb hts inlX7 hown hK hP 3 rfl rfl 6 (Nat.le_of_ble_eq_true rfl) w_2_13 rfl dX7_copy_34 ?_
  refine sk_put (ws' := [(h0, .inr (7, [.ref k1, .ref k2, .int (nI dy2), .int wk2, .int (nI mo2), .int mu2, .int ke2])), (k1, .inl (cI, 9, .inl fb)), (k2, .inl (cI, 9, .inl fw)), (o0, .inr (7, [.ref o1, .ref o2, .int (nI dy2), .int wk2, .int (nI mo2), .int mu2, .int ke2])), (o1, .inl (cI, 9, .inl fb2)), (o2, .inl (cI, 9, .inl fw2))]) (C := RX7) (T := TX7) (N := 7) (v := .int ke2) hx hb hts inlX7 tyX7 tyX7_ok nmX7 hown hK hP hD hS 0 rfl rfl 6 (Nat.le_of_ble_eq_true rfl) w_2_13 rfl rfl rfl (Nat.le_of_ble_eq_true rfl) rfl dX7_copy_37 (fun H locs hP hD hS => ?_)
  refine lv_aload_n hx hb dX7_copy_40 rfl (lv_at hl 1 rfl) ?_
  refine sk_get (v := .ref o1) (C := RX7) (T := TX7) (N := 7) hx hb hts inlX7 hown hK hP 3 rfl rfl 0 (Nat.le_of_ble_eq_true rfl) w_1_230 rfl dX7_copy_41 ?_
  refine lv_iconst (v := 0) hx hb dX7_copy_44 ic_0 ?_
  refine lv_aload_n hx hb dX7_copy_45 rfl (lv_at hl 0 rfl) ?_
  refine sk_get (v := .ref k1) (C := RX7) (T := TX7) (N := 7) hx hb hts inlX7 hown hK hP 0 rfl rfl 0 (Nat.le_of_ble_eq_true rfl) w_1_230 rfl dX7_copy_46 ?_
  refine lv_iconst (v := 0) hx hb dX7_copy_49 ic_0 ?_
  refine lv_bipush (v := 9) hx hb dX7_copy_50 (by decide) ?_
  refine sk_copyE (ws' := fun f_1 => [(h0, .inr (7, [.ref k1, .ref k2, .int (nI dy2), .int wk2, .int (nI mo2), .int mu2, .int ke2])), (k1, .inl (cI, 9, .inl f_1)), (k2, .inl (cI, 9, .inl fw)), (o0, .inr (7, [.ref o1, .ref o2, .int (nI dy2), .int wk2, .int (nI mo2), .int mu2, .int ke2])), (o1, .inl (cI, 9, .inl fb2)), (o2, .inl (cI, 9, .inl fw2))]) hx hb (by rw [hml]; exact hl.1.symm) hts hown w_3_152 w_3_154 w_3_153 w_1_20 hK hP hD hS 4 1 0 rfl rfl rfl (by decide) (by decide) (by decide) (Nat.le_of_ble_eq_true rfl) (Nat.le_of_ble_eq_true rfl) (fun _ => rfl) dX7_copy_52 (fun f_1 H locs ec_2 hP hD hS => ?_)
  refine lv_aload_n hx hb dX7_copy_55 rfl (lv_at hl 1 rfl) ?_
  refine sk_get (v := .ref o2) (C := RX7) (T := TX7) (N := 7) hx hb hts inlX7 hown hK hP 3 rfl rfl 1 (Nat.le_of_ble_eq_true rfl) w_1_234 rfl dX7_copy_56 ?_
  refine lv_iconst (v := 0) hx hb dX7_copy_59 ic_0 ?_
  refine lv_aload_n hx hb dX7_copy_60 rfl (lv_at hl 0 rfl) ?_
  refine sk_get (v := .ref k2) (C := RX7) (T := TX7) (N := 7) hx hb hts inlX7 hown hK hP 0 rfl rfl 1 (Nat.le_of_ble_eq_true rfl) w_1_234 rfl dX7_copy_61 ?_
  refine lv_iconst (v := 0) hx hb dX7_copy_64 ic_0 ?_
  refine lv_bipush (v := 9) hx hb dX7_copy_65 (by decide) ?_
  refine sk_copyE (ws' := fun f_3 => [(h0, .inr (7, [.ref k1, .ref k2, .int (nI dy2), .int wk2, .int (nI mo2), .int mu2, .int ke2])), (k1, .inl (cI, 9, .inl f_1)), (k2, .inl (cI, 9, .inl f_3)), (o0, .inr (7, [.ref o1, .ref o2, .int (nI dy2), .int wk2, .int (nI mo2), .int mu2, .int ke2])), (o1, .inl (cI, 9, .inl fb2)), (o2, .inl (cI, 9, .inl fw2))]) hx hb (by rw [hml]; exact hl.1.symm) hts hown w_3_152 w_3_154 w_3_153 w_1_20 hK hP hD hS 5 2 0 rfl rfl rfl (by decide) (by decide) (by decide) (Nat.le_of_ble_eq_true rfl) (Nat.le_of_ble_eq_true rfl) (fun _ => rfl) dX7_copy_67 (fun f_3 H locs ec_4 hP hD hS => ?_)
  exact sk_vret hx hb hr hlocks hK hP hD hS (⟨f_1, f_3, cpy9 ec_2, cpy9 ec_4, rfl⟩) (Nat.le_of_ble_eq_true rfl) (Nat.le_of_ble_eq_true rfl) dX7_copy_70
set_option maxHeartbeats 4000000 in
set_option maxRecDepth 100000 in
theorem c_kState_begin (l : Launch) (D : va_G) (cI cJ cC cZ cS : ClassId) (h0 : Nat) (k1 : Nat) (k2 : Nat) (dy : Nat) (mo : Nat) (wk : Int32) (mu : Int32) (ke : Int32) (fb : Nat → Int32) (fw : Nat → Int32) (o0 : Nat) (o1 : Nat) (o2 : Nat) (o3 : Nat) (o4 : Nat) (o5 : Nat) (dl : Nat) (ml : Nat) (nl : Nat) (ul : Int32) (rl : Int32) (xb : Nat → Int32) (xw : Nat → Int32)  : skM l yX7_begin cX7_begin 2 none 1 80 0 0 D (skT cI cJ cC cZ cS) [.ref h0, .ref o0] [(h0, .inr (7, [.ref k1, .ref k2, .int (nI dy), .int wk, .int (nI mo), .int mu, .int ke])), (k1, .inl (cI, 9, .inl fb)), (k2, .inl (cI, 9, .inl fw)), (o0, .inr (2, [.ref o1, .ref o2, .ref o3, .ref o4, .ref o5, .int (nI dl), .int (nI ml), .int ul, .int rl, .int (nI nl)])), (o2, .inl (cI, 9, .inl xb)), (o3, .inl (cI, 9, .inl xw))] (skV D (skT cI cJ cC cZ cS) (fun (u : va_W) => ∃ (g1 : Nat → Int32), ∃ (g2 : Nat → Int32), (∀ j, j < 9 → g1 j = xb j) ∧ (∀ j, j < 9 → g2 j = xw j) ∧ u = [(h0, .inr (7, [.ref k1, .ref k2, .int (nI dl), .int 0, .int (nI ml), .int ul, .int 0])), (k1, .inl (cI, 9, .inl g1)), (k2, .inl (cI, 9, .inl g2)), (o0, .inr (2, [.ref o1, .ref o2, .ref o3, .ref o4, .ref o5, .int (nI dl), .int (nI ml), .int ul, .int rl, .int (nI nl)])), (o2, .inl (cI, 9, .inl xb)), (o3, .inl (cI, 9, .inl xw))])) := by
  refine skM_of pf_X7_begin (Nat.le_of_ble_eq_true rfl) ?_
  intro p e s m below meth c A ls E hP hD hl
  refine skE_el E (fun hx hb hr hml hlocks hin hown hts hK hA => ?_)
  have hown : s.vm.findClass RX7 = some m.cls := hown
  have hS : va_S A s.heap s.heap [] := va_S.rf
  have hl : lv_has ls 2 [(0, .ref h0), (1, .ref o0)] := hl
  refine lv_aload_n hx hb dX7_begin_0 rfl (lv_at hl 0 rfl) ?_
  refine lv_aload_n hx hb dX7_begin_1 rfl (lv_at hl 1 rfl) ?_
  refine sk_get (v := .int (nI dl)) (C := RX2) (T := TX2) (N := 10) hx hb hts inlX2 hown hK hP 3 rfl rfl 5 (Nat.le_of_ble_eq_true rfl) w_1_189 rfl dX7_begin_2 ?_
  refine sk_put (ws' := [(h0, .inr (7, [.ref k1, .ref k2, .int (nI dl), .int wk, .int (nI mo), .int mu, .int ke])), (k1, .inl (cI, 9, .inl fb)), (k2, .inl (cI, 9, .inl fw)), (o0, .inr (2, [.ref o1, .ref o2, .ref o3, .ref o4, .ref o5, .int (nI dl), .int (nI ml), .int ul, .int rl, .int (nI nl)])), (o2, .inl (cI, 9, .inl xb)), (o3, .inl (cI, 9, .inl xw))]) (C := RX7) (T := TX7) (N := 7) (v := .int (nI dl)) hx hb hts inlX7 tyX7 tyX7_ok nmX7 hown hK hP hD hS 0 rfl rfl 2 (Nat.le_of_ble_eq_true rfl) w_1_238 rfl rfl rfl (Nat.le_of_ble_eq_true rfl) rfl dX7_begin_5 (fun H locs hP hD hS => ?_)
  refine lv_aload_n hx hb dX7_begin_8 rfl (lv_at hl 0 rfl) ?_
  refine lv_iconst (v := 0) hx hb dX7_begin_9 ic_0 ?_
  refine sk_put (ws' := [(h0, .inr (7, [.ref k1, .ref k2, .int (nI dl), .int 0, .int (nI mo), .int mu, .int ke])), (k1, .inl (cI, 9, .inl fb)), (k2, .inl (cI, 9, .inl fw)), (o0, .inr (2, [.ref o1, .ref o2, .ref o3, .ref o4, .ref o5, .int (nI dl), .int (nI ml), .int ul, .int rl, .int (nI nl)])), (o2, .inl (cI, 9, .inl xb)), (o3, .inl (cI, 9, .inl xw))]) (C := RX7) (T := TX7) (N := 7) (v := .int 0) hx hb hts inlX7 tyX7 tyX7_ok nmX7 hown hK hP hD hS 0 rfl rfl 3 (Nat.le_of_ble_eq_true rfl) w_2_3 rfl rfl rfl (Nat.le_of_ble_eq_true rfl) rfl dX7_begin_10 (fun H locs hP hD hS => ?_)
  refine lv_aload_n hx hb dX7_begin_13 rfl (lv_at hl 0 rfl) ?_
  refine lv_aload_n hx hb dX7_begin_14 rfl (lv_at hl 1 rfl) ?_
  refine sk_get (v := .int (nI ml)) (C := RX2) (T := TX2) (N := 10) hx hb hts inlX2 hown hK hP 3 rfl rfl 6 (Nat.le_of_ble_eq_true rfl) w_1_192 rfl dX7_begin_15 ?_
  refine sk_put (ws' := [(h0, .inr (7, [.ref k1, .ref k2, .int (nI dl), .int 0, .int (nI ml), .int mu, .int ke])), (k1, .inl (cI, 9, .inl fb)), (k2, .inl (cI, 9, .inl fw)), (o0, .inr (2, [.ref o1, .ref o2, .ref o3, .ref o4, .ref o5, .int (nI dl), .int (nI ml), .int ul, .int rl, .int (nI nl)])), (o2, .inl (cI, 9, .inl xb)), (o3, .inl (cI, 9, .inl xw))]) (C := RX7) (T := TX7) (N := 7) (v := .int (nI ml)) hx hb hts inlX7 tyX7 tyX7_ok nmX7 hown hK hP hD hS 0 rfl rfl 4 (Nat.le_of_ble_eq_true rfl) w_2_8 rfl rfl rfl (Nat.le_of_ble_eq_true rfl) rfl dX7_begin_18 (fun H locs hP hD hS => ?_)
  refine lv_aload_n hx hb dX7_begin_21 rfl (lv_at hl 0 rfl) ?_
  refine lv_aload_n hx hb dX7_begin_22 rfl (lv_at hl 1 rfl) ?_
  refine sk_get (v := .int ul) (C := RX2) (T := TX2) (N := 10) hx hb hts inlX2 hown hK hP 3 rfl rfl 7 (Nat.le_of_ble_eq_true rfl) w_1_195 rfl dX7_begin_23 ?_
  refine sk_put (ws' := [(h0, .inr (7, [.ref k1, .ref k2, .int (nI dl), .int 0, .int (nI ml), .int ul, .int ke])), (k1, .inl (cI, 9, .inl fb)), (k2, .inl (cI, 9, .inl fw)), (o0, .inr (2, [.ref o1, .ref o2, .ref o3, .ref o4, .ref o5, .int (nI dl), .int (nI ml), .int ul, .int rl, .int (nI nl)])), (o2, .inl (cI, 9, .inl xb)), (o3, .inl (cI, 9, .inl xw))]) (C := RX7) (T := TX7) (N := 7) (v := .int ul) hx hb hts inlX7 tyX7 tyX7_ok nmX7 hown hK hP hD hS 0 rfl rfl 5 (Nat.le_of_ble_eq_true rfl) w_2_11 rfl rfl rfl (Nat.le_of_ble_eq_true rfl) rfl dX7_begin_26 (fun H locs hP hD hS => ?_)
  refine lv_aload_n hx hb dX7_begin_29 rfl (lv_at hl 0 rfl) ?_
  refine lv_iconst (v := 0) hx hb dX7_begin_30 ic_0 ?_
  refine sk_put (ws' := [(h0, .inr (7, [.ref k1, .ref k2, .int (nI dl), .int 0, .int (nI ml), .int ul, .int 0])), (k1, .inl (cI, 9, .inl fb)), (k2, .inl (cI, 9, .inl fw)), (o0, .inr (2, [.ref o1, .ref o2, .ref o3, .ref o4, .ref o5, .int (nI dl), .int (nI ml), .int ul, .int rl, .int (nI nl)])), (o2, .inl (cI, 9, .inl xb)), (o3, .inl (cI, 9, .inl xw))]) (C := RX7) (T := TX7) (N := 7) (v := .int 0) hx hb hts inlX7 tyX7 tyX7_ok nmX7 hown hK hP hD hS 0 rfl rfl 6 (Nat.le_of_ble_eq_true rfl) w_2_13 rfl rfl rfl (Nat.le_of_ble_eq_true rfl) rfl dX7_begin_31 (fun H locs hP hD hS => ?_)
  refine lv_aload_n hx hb dX7_begin_34 rfl (lv_at hl 1 rfl) ?_
  refine sk_get (v := .ref o2) (C := RX2) (T := TX2) (N := 10) hx hb hts inlX2 hown hK hP 3 rfl rfl 1 (Nat.le_of_ble_eq_true rfl) w_1_179 rfl dX7_begin_35 ?_
  refine lv_iconst (v := 0) hx hb dX7_begin_38 ic_0 ?_
  refine lv_aload_n hx hb dX7_begin_39 rfl (lv_at hl 0 rfl) ?_
  refine sk_get (v := .ref k1) (C := RX7) (T := TX7) (N := 7) hx hb hts inlX7 hown hK hP 0 rfl rfl 0 (Nat.le_of_ble_eq_true rfl) w_1_230 rfl dX7_begin_40 ?_
  refine lv_iconst (v := 0) hx hb dX7_begin_43 ic_0 ?_
  refine lv_bipush (v := 9) hx hb dX7_begin_44 (by decide) ?_
  refine sk_copyE (ws' := fun f_1 => [(h0, .inr (7, [.ref k1, .ref k2, .int (nI dl), .int 0, .int (nI ml), .int ul, .int 0])), (k1, .inl (cI, 9, .inl f_1)), (k2, .inl (cI, 9, .inl fw)), (o0, .inr (2, [.ref o1, .ref o2, .ref o3, .ref o4, .ref o5, .int (nI dl), .int (nI ml), .int ul, .int rl, .int (nI nl)])), (o2, .inl (cI, 9, .inl xb)), (o3, .inl (cI, 9, .inl xw))]) hx hb (by rw [hml]; exact hl.1.symm) hts hown w_3_152 w_3_154 w_3_153 w_1_20 hK hP hD hS 4 1 0 rfl rfl rfl (by decide) (by decide) (by decide) (Nat.le_of_ble_eq_true rfl) (Nat.le_of_ble_eq_true rfl) (fun _ => rfl) dX7_begin_46 (fun f_1 H locs ec_2 hP hD hS => ?_)
  refine lv_aload_n hx hb dX7_begin_49 rfl (lv_at hl 1 rfl) ?_
  refine sk_get (v := .ref o3) (C := RX2) (T := TX2) (N := 10) hx hb hts inlX2 hown hK hP 3 rfl rfl 2 (Nat.le_of_ble_eq_true rfl) w_1_182 rfl dX7_begin_50 ?_
  refine lv_iconst (v := 0) hx hb dX7_begin_53 ic_0 ?_
  refine lv_aload_n hx hb dX7_begin_54 rfl (lv_at hl 0 rfl) ?_
  refine sk_get (v := .ref k2) (C := RX7) (T := TX7) (N := 7) hx hb hts inlX7 hown hK hP 0 rfl rfl 1 (Nat.le_of_ble_eq_true rfl) w_1_234 rfl dX7_begin_55 ?_
  refine lv_iconst (v := 0) hx hb dX7_begin_58 ic_0 ?_
  refine lv_bipush (v := 9) hx hb dX7_begin_59 (by decide) ?_
  refine sk_copyE (ws' := fun f_3 => [(h0, .inr (7, [.ref k1, .ref k2, .int (nI dl), .int 0, .int (nI ml), .int ul, .int 0])), (k1, .inl (cI, 9, .inl f_1)), (k2, .inl (cI, 9, .inl f_3)), (o0, .inr (2, [.ref o1, .ref o2, .ref o3, .ref o4, .ref o5, .int (nI dl), .int (nI ml), .int ul, .int rl, .int (nI nl)])), (o2, .inl (cI, 9, .inl xb)), (o3, .inl (cI, 9, .inl xw))]) hx hb (by rw [hml]; exact hl.1.symm) hts hown w_3_152 w_3_154 w_3_153 w_1_20 hK hP hD hS 5 2 0 rfl rfl rfl (by decide) (by decide) (by decide) (Nat.le_of_ble_eq_true rfl) (Nat.le_of_ble_eq_true rfl) (fun _ => rfl) dX7_begin_61 (fun f_3 H locs ec_4 hP hD hS => ?_)
  exact sk_vret hx hb hr hlocks hK hP hD hS (⟨f_1, f_3, cpy9 ec_2, cpy9 ec_4, rfl⟩) (Nat.le_of_ble_eq_true rfl) (Nat.le_of_ble_eq_true rfl) dX7_begin_64
set_option maxHeartbeats 4000000 in
set_option maxRecDepth 100000 in
theorem c_kState_isMute (l : Launch) (D : va_G) (cI cJ cC cZ cS : ClassId) (h0 : Nat) (k1 : Nat) (k2 : Nat) (dy : Nat) (mo : Nat) (wk : Int32) (mu : Int32) (ke : Int32) (d : Nat) (U : Nat → Bool) (hd : d < 9) (hU : muO U mu) : skM l yX7_isMute cX7_isMute 2 (some .boolean) 0 0 0 0 D (skT cI cJ cC cZ cS) [.ref h0, .int (nI d)] [(h0, .inr (7, [.ref k1, .ref k2, .int (nI dy), .int wk, .int (nI mo), .int mu, .int ke]))] (skI D (skT cI cJ cC cZ cS) (fun (r : Int32) (u : va_W) => ∃ (b : Nat), ((b = 1 ∧ U d = true) ∨ (b = 0 ∧ ¬ U d = true)) ∧ r = nI b ∧ u = [(h0, .inr (7, [.ref k1, .ref k2, .int (nI dy), .int wk, .int (nI mo), .int mu, .int ke]))])) := by
  refine skM_of pf_X7_isMute (Nat.le_of_ble_eq_true rfl) ?_
  intro p e s m below meth c A ls E hP hD hl
  refine skE_el E (fun hx hb hr hml hlocks hin hown hts hK hA => ?_)
  have hown : s.vm.findClass RX7 = some m.cls := hown
  have hS : va_S A s.heap s.heap [] := va_S.rf
  have hl : lv_has ls 2 [(0, .ref h0), (1, .int (nI d))] := hl
  refine lv_aload_n hx hb dX7_isMute_0 rfl (lv_at hl 0 rfl) ?_
  refine sk_get (v := .int mu) (C := RX7) (T := TX7) (N := 7) hx hb hts inlX7 hown hK hP 0 rfl rfl 5 (Nat.le_of_ble_eq_true rfl) w_2_11 rfl dX7_isMute_1 ?_
  refine lv_iload_n hx hb dX7_isMute_4 rfl (lv_at hl 1 rfl) ?_
  refine lv_ishr hx hb dX7_isMute_5 ?_
  refine lv_iconst (v := 1) hx hb dX7_isMute_6 ic_1 ?_
  refine lv_iand hx hb dX7_isMute_7 ?_
  refine lv_iconst (v := 1) hx hb dX7_isMute_8 ic_1 ?_
  refine lv_icmp_ne (tgt := 16) hx hb dX7_isMute_9 (by decide) (fun c_1 => ?_) (fun c_1 => ?_)
  · skip
    refine lv_iconst (v := 0) hx hb dX7_isMute_16 ic_0 ?_
    exact sk_iret hx hb hr rfl hlocks hK hP hD hS (⟨0, Or.inr ⟨rfl, fun hq => c_1 ((muO_bit hU (by omega)).mpr hq)⟩, rfl, rfl⟩) (Nat.le_of_ble_eq_true rfl) (Nat.le_of_ble_eq_true rfl) dX7_isMute_17
  · skip
    refine lv_iconst (v := 1) hx hb dX7_isMute_12 ic_1 ?_
    refine lv_goto (tgt := 17) hx hb dX7_isMute_13 (by decide) ?_
    exact sk_iret hx hb hr rfl hlocks hK hP hD hS (⟨1, Or.inl ⟨rfl, (muO_bit hU (by omega)).mp c_1⟩, rfl, rfl⟩) (Nat.le_of_ble_eq_true rfl) (Nat.le_of_ble_eq_true rfl) dX7_isMute_17
set_option maxHeartbeats 4000000 in
set_option maxRecDepth 100000 in
theorem c_kState_amount (l : Launch) (D : va_G) (cI cJ cC cZ cS : ClassId) (h0 : Nat) (k1 : Nat) (k2 : Nat) (dy : Nat) (mo : Nat) (wk : Int32) (mu : Int32) (ke : Int32) (fb : Nat → Int32) (fw : Nat → Int32) (d : Nat) (w : Nat) (Ba : Nat → Nat) (We : Nat → Nat) (hd : d < 9) (hfb : ∀ j, j < 9 → fb j = nI (Ba j)) (hfw : ∀ j, j < 9 → fw j = nI (We j)) (hw : w ≤ 1) : skM l yX7_amount cX7_amount 3 (some .int) 0 0 0 0 D (skT cI cJ cC cZ cS) [.ref h0, .int (nI d), .int (nI w)] [(h0, .inr (7, [.ref k1, .ref k2, .int (nI dy), .int wk, .int (nI mo), .int mu, .int ke])), (k1, .inl (cI, 9, .inl fb)), (k2, .inl (cI, 9, .inl fw))] (skI D (skT cI cJ cC cZ cS) (fun (r : Int32) (u : va_W) => ∃ (v : Nat), v = (if w = 0 then Ba d else We d) ∧ r = nI v ∧ u = [(h0, .inr (7, [.ref k1, .ref k2, .int (nI dy), .int wk, .int (nI mo), .int mu, .int ke])), (k1, .inl (cI, 9, .inl fb)), (k2, .inl (cI, 9, .inl fw))])) := by
  refine skM_of pf_X7_amount (Nat.le_of_ble_eq_true rfl) ?_
  intro p e s m below meth c A ls E hP hD hl
  refine skE_el E (fun hx hb hr hml hlocks hin hown hts hK hA => ?_)
  have hown : s.vm.findClass RX7 = some m.cls := hown
  have hS : va_S A s.heap s.heap [] := va_S.rf
  have hl : lv_has ls 3 [(0, .ref h0), (1, .int (nI d)), (2, .int (nI w))] := hl
  refine lv_iload_n hx hb dX7_amount_0 rfl (lv_at hl 2 rfl) ?_
  refine lv_if_ne (tgt := 13) hx hb dX7_amount_1 (by decide) (fun c_1 => ?_) (fun c_1 => ?_)
  · have c_1 : ¬ (w = 0) := fun h => c_1 ((neq w 0 (by omega) (Nat.le_of_ble_eq_true rfl)).mpr h)
    refine lv_aload_n hx hb dX7_amount_13 rfl (lv_at hl 0 rfl) ?_
    refine sk_get (v := .ref k2) (C := RX7) (T := TX7) (N := 7) hx hb hts inlX7 hown hK hP 0 rfl rfl 1 (Nat.le_of_ble_eq_true rfl) w_1_234 rfl dX7_amount_14 ?_
    refine lv_iload_n hx hb dX7_amount_17 rfl (lv_at hl 1 rfl) ?_
    refine va_iald hx hb hK.1 hP 2 0 rfl rfl (vin d 9 (by omega) (Nat.le_of_ble_eq_true rfl)) dX7_amount_18 ?_
    refine sk_top (nI (We d)) (by rw [nI_clamp (by omega)]; exact hfw d hd) ?_
    exact sk_iret hx hb hr rfl hlocks hK hP hD hS (⟨We d, (if_neg c_1).symm, rfl, rfl⟩) (Nat.le_of_ble_eq_true rfl) (Nat.le_of_ble_eq_true rfl) dX7_amount_19
  · have c_1 : w = 0 := (neq w 0 (by omega) (Nat.le_of_ble_eq_true rfl)).mp c_1
    refine lv_aload_n hx hb dX7_amount_4 rfl (lv_at hl 0 rfl) ?_
    refine sk_get (v := .ref k1) (C := RX7) (T := TX7) (N := 7) hx hb hts inlX7 hown hK hP 0 rfl rfl 0 (Nat.le_of_ble_eq_true rfl) w_1_230 rfl dX7_amount_5 ?_
    refine lv_iload_n hx hb dX7_amount_8 rfl (lv_at hl 1 rfl) ?_
    refine va_iald hx hb hK.1 hP 1 0 rfl rfl (vin d 9 (by omega) (Nat.le_of_ble_eq_true rfl)) dX7_amount_9 ?_
    refine sk_top (nI (Ba d)) (by rw [nI_clamp (by omega)]; exact hfb d hd) ?_
    refine lv_goto (tgt := 19) hx hb dX7_amount_10 (by decide) ?_
    exact sk_iret hx hb hr rfl hlocks hK hP hD hS (⟨Ba d, (if_pos c_1).symm, rfl, rfl⟩) (Nat.le_of_ble_eq_true rfl) (Nat.le_of_ble_eq_true rfl) dX7_amount_19
set_option maxHeartbeats 4000000 in
set_option maxRecDepth 100000 in
theorem c_kState_put0 (l : Launch) (D : va_G) (cI cJ cC cZ cS : ClassId) (h0 : Nat) (k1 : Nat) (k2 : Nat) (dy : Nat) (mo : Nat) (wk : Int32) (mu : Int32) (ke : Int32) (fb : Nat → Int32) (fw : Nat → Int32) (d : Nat) (o : Int32) (hd : d < 9) : skM l yX7_put cX7_put 4 none 0 0 0 0 D (skT cI cJ cC cZ cS) [.ref h0, .int (nI d), .int 0, .int o] [(h0, .inr (7, [.ref k1, .ref k2, .int (nI dy), .int wk, .int (nI mo), .int mu, .int ke])), (k1, .inl (cI, 9, .inl fb)), (k2, .inl (cI, 9, .inl fw))] (skV D (skT cI cJ cC cZ cS) (fun (u : va_W) => ∃ (g1 : Nat → Int32), g1 = upd fb d o ∧ u = [(h0, .inr (7, [.ref k1, .ref k2, .int (nI dy), .int wk, .int (nI mo), .int mu, .int ke])), (k1, .inl (cI, 9, .inl g1)), (k2, .inl (cI, 9, .inl fw))])) := by
  refine skM_of pf_X7_put (Nat.le_of_ble_eq_true rfl) ?_
  intro p e s m below meth c A ls E hP hD hl
  refine skE_el E (fun hx hb hr hml hlocks hin hown hts hK hA => ?_)
  have hown : s.vm.findClass RX7 = some m.cls := hown
  have hS : va_S A s.heap s.heap [] := va_S.rf
  have hl : lv_has ls 4 [(0, .ref h0), (1, .int (nI d)), (2, .int 0), (3, .int o)] := hl
  refine lv_iload_n hx hb dX7_put_0 rfl (lv_at hl 2 rfl) ?_
  refine lv_if_ne (tgt := 14) hx hb dX7_put_1 (by decide) (fun c => absurd c (by decide)) (fun c_1 => ?_)
  refine lv_aload_n hx hb dX7_put_4 rfl (lv_at hl 0 rfl) ?_
  refine sk_get (v := .ref k1) (C := RX7) (T := TX7) (N := 7) hx hb hts inlX7 hown hK hP 0 rfl rfl 0 (Nat.le_of_ble_eq_true rfl) w_1_230 rfl dX7_put_5 ?_
  refine lv_iload_n hx hb dX7_put_8 rfl (lv_at hl 1 rfl) ?_
  refine lv_iload_n hx hb dX7_put_9 rfl (lv_at hl 3 rfl) ?_
  refine sk_iastE (k := d) (ws' := fun f_2 => [(h0, .inr (7, [.ref k1, .ref k2, .int (nI dy), .int wk, .int (nI mo), .int mu, .int ke])), (k1, .inl (cI, 9, .inl f_2)), (k2, .inl (cI, 9, .inl fw))]) hx hb hK hP hD hS 1 0 rfl rfl (by omega) (by omega) (fun _ => rfl) dX7_put_10 (fun f_2 H locs ef_3 hP hD hS => ?_)
  refine lv_goto (tgt := 21) hx hb dX7_put_11 (by decide) ?_
  exact sk_vret hx hb hr hlocks hK hP hD hS (⟨f_2, ef_3, rfl⟩) (Nat.le_of_ble_eq_true rfl) (Nat.le_of_ble_eq_true rfl) dX7_put_21
set_option maxHeartbeats 4000000 in
set_option maxRecDepth 100000 in
theorem c_kState_put1 (l : Launch) (D : va_G) (cI cJ cC cZ cS : ClassId) (h0 : Nat) (k1 : Nat) (k2 : Nat) (dy : Nat) (mo : Nat) (wk : Int32) (mu : Int32) (ke : Int32) (fb : Nat → Int32) (fw : Nat → Int32) (d : Nat) (o : Int32) (hd : d < 9) : skM l yX7_put cX7_put 4 none 0 0 0 0 D (skT cI cJ cC cZ cS) [.ref h0, .int (nI d), .int 1, .int o] [(h0, .inr (7, [.ref k1, .ref k2, .int (nI dy), .int wk, .int (nI mo), .int mu, .int ke])), (k1, .inl (cI, 9, .inl fb)), (k2, .inl (cI, 9, .inl fw))] (skV D (skT cI cJ cC cZ cS) (fun (u : va_W) => ∃ (g1 : Nat → Int32), g1 = upd fw d o ∧ u = [(h0, .inr (7, [.ref k1, .ref k2, .int (nI dy), .int wk, .int (nI mo), .int mu, .int ke])), (k1, .inl (cI, 9, .inl fb)), (k2, .inl (cI, 9, .inl g1))])) := by
  refine skM_of pf_X7_put (Nat.le_of_ble_eq_true rfl) ?_
  intro p e s m below meth c A ls E hP hD hl
  refine skE_el E (fun hx hb hr hml hlocks hin hown hts hK hA => ?_)
  have hown : s.vm.findClass RX7 = some m.cls := hown
  have hS : va_S A s.heap s.heap [] := va_S.rf
  have hl : lv_has ls 4 [(0, .ref h0), (1, .int (nI d)), (2, .int 1), (3, .int o)] := hl
  refine lv_iload_n hx hb dX7_put_0 rfl (lv_at hl 2 rfl) ?_
  refine lv_if_ne (tgt := 14) hx hb dX7_put_1 (by decide) (fun c_1 => ?_) (fun c => absurd c (by decide))
  refine lv_aload_n hx hb dX7_put_14 rfl (lv_at hl 0 rfl) ?_
  refine sk_get (v := .ref k2) (C := RX7) (T := TX7) (N := 7) hx hb hts inlX7 hown hK hP 0 rfl rfl 1 (Nat.le_of_ble_eq_true rfl) w_1_234 rfl dX7_put_15 ?_
  refine lv_iload_n hx hb dX7_put_18 rfl (lv_at hl 1 rfl) ?_
  refine lv_iload_n hx hb dX7_put_19 rfl (lv_at hl 3 rfl) ?_
  refine sk_iastE (k := d) (ws' := fun f_2 => [(h0, .inr (7, [.ref k1, .ref k2, .int (nI dy), .int wk, .int (nI mo), .int mu, .int ke])), (k1, .inl (cI, 9, .inl fb)), (k2, .inl (cI, 9, .inl f_2))]) hx hb hK hP hD hS 2 0 rfl rfl (by omega) (by omega) (fun _ => rfl) dX7_put_20 (fun f_2 H locs ef_3 hP hD hS => ?_)
  exact sk_vret hx hb hr hlocks hK hP hD hS (⟨f_2, ef_3, rfl⟩) (Nat.le_of_ble_eq_true rfl) (Nat.le_of_ble_eq_true rfl) dX7_put_21
