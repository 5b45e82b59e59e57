/-! sums: what steps give on a pile -/
def kcClip (v : Int64) : Int64 := if 1000000 < v then 1000000 else if v < -1000000 then -1000000 else v
def kcFl (a b : Int64) : Int64 := if b = 0 then 0 else if (¬ a - a / b * b = 0) ∧ ¬ (a < 0 ↔ b < 0) then a / b - 1 else a / b
def kcOp (c : Nat) (a b : Int64) : Int64 :=
  if c = 1 then kcClip (a + b) else if c = 2 then kcClip (a - b) else if c = 3 then kcClip (a * b) else if c = 4 then kcFl a b
  else if c = 5 then (if b < a then b else a) else (if a < b then b else a)
def kcSt (nm : Nat → Int64) (c : Nat) (S : List Int64) : Option (List Int64) :=
  if 1000 ≤ c then some (Int64.ofNat (c - 1000) :: S)
  else if 40 ≤ c then some (nm (c - 40) :: S)
  else match S with
    | b :: a :: r => some (kcOp c a b :: r)
    | _ => none
def kcEx (nm : Nat → Int64) (B : Nat) : List Nat → List Int64 → Option (List Int64)
  | [], S => some S
  | c :: k, S => match kcSt nm c S with
    | none => none
    | some T => if T.length ≤ B then kcEx nm B k T else none
theorem kcEx_app (nm : Nat → Int64) (B : Nat) : ∀ (k l : List Nat) (S : List Int64), kcEx nm B (k ++ l) S = (kcEx nm B k S).bind (kcEx nm B l)
  | [], l, S => rfl
  | c :: k, l, S => by
    show (match kcSt nm c S with | none => none | some T => if T.length ≤ B then kcEx nm B (k ++ l) T else none) = (match kcSt nm c S with | none => none | some T => if T.length ≤ B then kcEx nm B k T else none).bind (kcEx nm B l)
    cases kcSt nm c S with
    | none => rfl
    | some T =>
      show (if T.length ≤ B then kcEx nm B (k ++ l) T else none) = (if T.length ≤ B then kcEx nm B k T else none).bind (kcEx nm B l)
      by_cases h : T.length ≤ B
      · rw [if_pos h, if_pos h]; exact kcEx_app nm B k l T
      · rw [if_neg h, if_neg h]; rfl
theorem kcEx_1 {nm : Nat → Int64} {B c : Nat} {k : List Nat} {S T : List Int64} (h : kcSt nm c S = some T) (hB : T.length ≤ B) : kcEx nm B (c :: k) S = kcEx nm B k T := by
  show (match kcSt nm c S with | none => none | some T => if T.length ≤ B then kcEx nm B k T else none) = _
  rw [h]
  show (if T.length ≤ B then kcEx nm B k T else none) = _
  rw [if_pos hB]
/-- one step of a run that ends well -/
theorem kcEx_c {nm : Nat → Int64} {B c : Nat} {k : List Nat} {S R : List Int64} (h : kcEx nm B (c :: k) S = some R) : ∃ T, kcSt nm c S = some T ∧ T.length ≤ B ∧ kcEx nm B k T = some R := by
  have h1 : (match kcSt nm c S with | none => none | some T => if T.length ≤ B then kcEx nm B k T else none) = some R := h
  cases hs : kcSt nm c S with
  | none => rw [hs] at h1; cases h1
  | some T =>
    rw [hs] at h1
    have h2 : (if T.length ≤ B then kcEx nm B k T else none) = some R := h1
    by_cases hB : T.length ≤ B
    · rw [if_pos hB] at h2; exact ⟨T, rfl, hB, h2⟩
    · rw [if_neg hB] at h2; cases h2
theorem kcSt_num {nm : Nat → Int64} {c : Nat} {S : List Int64} (h : 1000 ≤ c) : kcSt nm c S = some (Int64.ofNat (c - 1000) :: S) := by
  unfold kcSt; rw [if_pos h]
theorem kcSt_nm {nm : Nat → Int64} {c : Nat} {S : List Int64} (h : 40 ≤ c) (h2 : c < 1000) : kcSt nm c S = some (nm (c - 40) :: S) := by
  unfold kcSt; rw [if_neg (by omega), if_pos h]
theorem kcSt_op {nm : Nat → Int64} {c : Nat} {a b : Int64} {S : List Int64} (h : c < 40) : kcSt nm c (b :: a :: S) = some (kcOp c a b :: S) := by
  unfold kcSt; rw [if_neg (by omega), if_neg (by omega)]
/-- a sign finds two -/
theorem kcSt_two {nm : Nat → Int64} {c : Nat} {S T : List Int64} (h : c < 40) (hs : kcSt nm c S = some T) : ∃ b a R, S = b :: a :: R ∧ T = kcOp c a b :: R := by
  unfold kcSt at hs
  rw [if_neg (by omega), if_neg (by omega)] at hs
  cases S with
  | nil => have h9 : (none : Option (List Int64)) = some T := hs; cases h9
  | cons b S =>
    cases S with
    | nil => have h9 : (none : Option (List Int64)) = some T := hs; cases h9
    | cons a R => exact ⟨b, a, R, rfl, (Option.some.inj hs).symm⟩
/-- steps that put one value on whatever pile, with m places -/
def kcGd (nm : Nat → Int64) (m : Nat) (k : List Nat) : Prop := ∃ v, ∀ (B : Nat) (S : List Int64), S.length + m ≤ B → kcEx nm B k S = some (v :: S)
theorem kcGd_mono {nm : Nat → Int64} {m m2 : Nat} {k : List Nat} (h : kcGd nm m k) (hm : m ≤ m2) : kcGd nm m2 k := by
  obtain ⟨v, hv⟩ := h
  exact ⟨v, fun B S hB => hv B S (by omega)⟩
theorem kcGd_bin {nm : Nat → Int64} {m m2 o : Nat} {k l : List Nat} (h1 : kcGd nm m k) (h2 : kcGd nm m2 l) (hm : m2 + 1 ≤ m) (ho : o < 40) : kcGd nm m (k ++ l ++ [o]) := by
  obtain ⟨v, hv⟩ := h1
  obtain ⟨u, hu⟩ := h2
  refine ⟨kcOp o v u, fun B S hB => ?_⟩
  rw [kcEx_app, kcEx_app, hv B S hB]
  show (kcEx nm B l (v :: S)).bind (kcEx nm B [o]) = _
  rw [hu B (v :: S) (by rw [List.length_cons]; omega)]
  show kcEx nm B [o] (u :: v :: S) = _
  rw [kcEx_1 (kcSt_op ho) (by rw [List.length_cons]; omega)]
  rfl
theorem kcGd_num {nm : Nat → Int64} {v : Nat} : kcGd nm 1 [1000 + v] := by
  refine ⟨Int64.ofNat v, fun B S hB => ?_⟩
  rw [kcEx_1 (kcSt_num (by omega)) (by rw [List.length_cons]; omega), Nat.add_sub_cancel_left]
  rfl
theorem kcGd_nm {nm : Nat → Int64} {j : Nat} (hj : j < 900) : kcGd nm 1 [40 + j] := by
  refine ⟨nm j, fun B S hB => ?_⟩
  rw [kcEx_1 (kcSt_nm (by omega) (by omega)) (by rw [List.length_cons]; omega), Nat.add_sub_cancel_left]
  rfl
/-- which names stand there -/
def kcN1 (kind c : Nat) : Prop := (1 ≤ c ∧ c ≤ 6) ∨ (1000 ≤ c ∧ c < 11000) ∨ (40 ≤ c ∧ c < 50 ∧ allow kind (c - 40) = true)
def kcNs (kind : Nat) (k : List Nat) : Prop := ∀ c, c ∈ k → kcN1 kind c
theorem kcNs_app {kind : Nat} {k l : List Nat} (h1 : kcNs kind k) (h2 : kcNs kind l) : kcNs kind (k ++ l) := fun c hc => by
  rcases List.mem_append.mp hc with h | h
  · exact h1 c h
  · exact h2 c h
theorem kcNs_1 {kind c : Nat} (h : kcN1 kind c) : kcNs kind [c] := fun x hx => by
  rw [List.mem_singleton.mp hx]; exact h
def kcG (kind m : Nat) (k : List Nat) : Prop := (∀ nm, kcGd nm m k) ∧ kcNs kind k
theorem kcG_mono {kind m m2 : Nat} {k : List Nat} (h : kcG kind m k) (hm : m ≤ m2) : kcG kind m2 k := ⟨fun nm => kcGd_mono (h.1 nm) hm, h.2⟩
theorem kcG_bin {kind m m2 o : Nat} {k l : List Nat} (h1 : kcG kind m k) (h2 : kcG kind m2 l) (hm : m2 + 1 ≤ m) (ho : 1 ≤ o ∧ o ≤ 6) : kcG kind m (k ++ l ++ [o]) :=
  ⟨fun nm => kcGd_bin (h1.1 nm) (h2.1 nm) hm (by omega), kcNs_app (kcNs_app h1.2 h2.2) (kcNs_1 (Or.inl ho))⟩
theorem numP_val {tb : Nat → Nat} {n lo hi : Nat} {c : Cur} {r : Nat × Cur} (h : numP tb n lo hi c = .ok r) : lo ≤ r.1 ∧ r.1 ≤ hi := by
  unfold numP at h
  split at h
  · split at h
    · cases h
    · split at h
      · cases h
      · next hc => cases h; exact ⟨by show lo ≤ vd tb c.1 (ext qD tb n c.1 - c.1); omega, by show vd tb c.1 (ext qD tb n c.1 - c.1) ≤ hi; omega⟩
  · cases h
theorem kc_mul {tb : Nat → Nat} {n kind h : Nat} {P : Cur → Res} (hP : ∀ c r, P c = .ok r → kcG kind h r.2) : ∀ f c k r, mulLp tb n P f c k = .ok r → kcG kind (h + 1) k → kcG kind (h + 1) r.2
  | 0, c, k, r, h, _ => by cases h
  | f + 1, c, k, r, h, hk => by
    rw [mulLp] at h
    split at h
    · obtain ⟨a, h1, h2⟩ := bindR_ok h
      exact kc_mul hP f _ _ _ h2 (kcG_bin hk (hP _ _ h1) (by omega) ⟨by decide, by decide⟩)
    · split at h
      · obtain ⟨a, h1, h2⟩ := bindR_ok h
        exact kc_mul hP f _ _ _ h2 (kcG_bin hk (hP _ _ h1) (by omega) ⟨by decide, by decide⟩)
      · cases h; exact hk
theorem kc_prod {tb : Nat → Nat} {n kind h : Nat} {P : Cur → Res} (hP : ∀ c r, P c = .ok r → kcG kind h r.2) : ∀ c r, prodOf tb n P c = .ok r → kcG kind (h + 1) r.2 := fun c r hr => by
  obtain ⟨a, h1, h2⟩ := bindR_ok (show bindR (P c) (fun r => mulLp tb n P (n + 2) r.1 r.2) = .ok r from hr)
  exact kc_mul hP _ _ _ _ h2 (kcG_mono (hP _ _ h1) (by omega))
theorem kc_add {tb : Nat → Nat} {n kind h : Nat} {P : Cur → Res} (hP : ∀ c r, P c = .ok r → kcG kind h r.2) : ∀ f c k r, addLp tb n P f c k = .ok r → kcG kind (h + 2) k → kcG kind (h + 2) r.2
  | 0, c, k, r, h, _ => by cases h
  | f + 1, c, k, r, h, hk => by
    rw [addLp] at h
    split at h
    · obtain ⟨a, h1, h2⟩ := bindR_ok h
      exact kc_add hP f _ _ _ h2 (kcG_bin hk (kc_prod hP _ _ h1) (by omega) ⟨by decide, by decide⟩)
    · split at h
      · obtain ⟨a, h1, h2⟩ := bindR_ok h
        exact kc_add hP f _ _ _ h2 (kcG_bin hk (kc_prod hP _ _ h1) (by omega) ⟨by decide, by decide⟩)
      · cases h; exact hk
theorem kc_sum {tb : Nat → Nat} {n kind h : Nat} {P : Cur → Res} (hP : ∀ c r, P c = .ok r → kcG kind h r.2) : ∀ c r, sumOf tb n P c = .ok r → kcG kind (h + 2) r.2 := fun c r hr => by
  obtain ⟨a, h1, h2⟩ := bindR_ok (show bindR (prodOf tb n P c) (fun r => addLp tb n P (n + 2) r.1 r.2) = .ok r from hr)
  exact kc_add hP _ _ _ _ h2 (kcG_mono (kc_prod hP _ _ h1) (by omega))
theorem kc_partB {tb : Nat → Nat} {n kind h : Nat} (hk2 : kind < 2) {Q : Option (Cur → Res)} (hQ : ∀ P, Q = some P → ∀ c r, P c = .ok r → kcG kind h r.2) {c : Cur} {r : Cur × List Nat} (hr : partB tb n kind Q c = .ok r) : kcG kind (h + 3) r.2 := by
  unfold partB at hr
  split at hr
  · cases Q with
    | none => cases hr
    | some P =>
      obtain ⟨a, h1, h2⟩ := bindR_ok hr
      obtain ⟨c1, h3, h4⟩ := bindR_ok h2
      cases h4
      exact kcG_mono (kc_sum (hQ P rfl) _ a h1) (by omega)
  · split at hr
    · split at hr
      · cases Q with
        | none => cases hr
        | some P =>
          obtain ⟨a, h1, h2⟩ := bindR_ok hr
          obtain ⟨c2, h3, h4⟩ := bindR_ok h2
          obtain ⟨b, h5, h6⟩ := bindR_ok h4
          obtain ⟨c3, h7, h8⟩ := bindR_ok h6
          cases h8
          refine kcG_bin (kcG_mono (kc_sum (hQ P rfl) _ _ h1) (by omega)) (kc_sum (hQ P rfl) _ _ h5) (by omega) ?_
          split
          · exact ⟨by decide, by decide⟩
          · exact ⟨by decide, by decide⟩
      · cases hr
    · split at hr
      · next hw => exact absurd hw.1 (by omega)
      · cases hx : partIx tb n kind c with
        | some j =>
          rw [hx] at hr
          cases hr
          have hj := (partIx_lt hx).2
          have ha : allow kind j = true := by
            have := List.find?_some hx
            rw [Bool.and_eq_true] at this
            exact this.2
          exact ⟨fun nm => kcGd_mono (kcGd_nm (by omega)) (by omega), kcNs_1 (Or.inr (Or.inr ⟨by omega, by omega, by rw [Nat.add_sub_cancel_left]; exact ha⟩))⟩
        | none =>
          rw [hx] at hr
          obtain ⟨a, h1, h2⟩ := bindR_ok hr
          cases h2
          have hv := numP_val h1
          exact ⟨fun nm => kcGd_mono kcGd_num (by omega), kcNs_1 (Or.inr (Or.inl ⟨by omega, by omega⟩))⟩
theorem kc_part {tb : Nat → Nat} {n kind : Nat} (hk : kind < 2) : ∀ d c r, rdPart tb n kind d c = .ok r → kcG kind (3 * d + 3) r.2
  | 0, c, r, h => kcG_mono (kc_partB (h := 0) hk (Q := none) (fun P hp => by cases hp) h) (by omega)
  | d + 1, c, r, h => kcG_mono (kc_partB (h := 3 * d + 3) hk (Q := some (rdPart tb n kind d)) (fun P hp => by cases hp; exact kc_part hk d) h) (by omega)
theorem kc_sumD {tb : Nat → Nat} {n kind : Nat} (hk : kind < 2) {c : Cur} {r : Cur × List Nat} (h : sumD tb n kind 6 c = .ok r) : kcG kind 23 r.2 := kc_sum (kc_part hk 6) c r h
/-- only the names that stand there count -/
theorem kcEx_cg {nm nm2 : Nat → Int64} {B : Nat} : ∀ (k : List Nat) (S : List Int64), (∀ c, c ∈ k → 40 ≤ c → c < 1000 → nm (c - 40) = nm2 (c - 40)) → kcEx nm B k S = kcEx nm2 B k S
  | [], S, _ => rfl
  | c :: k, S, h => by
    have e : kcSt nm c S = kcSt nm2 c S := by
      unfold kcSt
      by_cases h1 : 1000 ≤ c
      · rw [if_pos h1, if_pos h1]
      · rw [if_neg h1, if_neg h1]
        by_cases h2 : 40 ≤ c
        · rw [if_pos h2, if_pos h2, h c (List.mem_cons_self ..) h2 (by omega)]
        · rw [if_neg h2, if_neg h2]
    show (match kcSt nm c S with | none => none | some T => if T.length ≤ B then kcEx nm B k T else none) = (match kcSt nm2 c S with | none => none | some T => if T.length ≤ B then kcEx nm2 B k T else none)
    rw [e]
    cases kcSt nm2 c S with
    | none => rfl
    | some T =>
      show (if T.length ≤ B then kcEx nm B k T else none) = (if T.length ≤ B then kcEx nm2 B k T else none)
      rw [kcEx_cg k T (fun x hx => h x (List.mem_cons_of_mem c hx))]
/-! the sums of a lock -/
def kcSub (K : List Nat) (p : Nat × Nat) : List Nat := (K.drop p.1).take (p.2 - p.1)
def kcLk (L : LkS) : Prop := ∀ w p, lG L w = some p → p.1 < p.2 ∧ p.2 ≤ (lK L).length ∧ kcG (if w = 1 then 1 else 0) 23 (kcSub (lK L) p)
theorem kcSub_app {K k : List Nat} {p : Nat × Nat} (h : p.1 < p.2) (h2 : p.2 ≤ K.length) : kcSub (K ++ k) p = kcSub K p := by
  unfold kcSub
  rw [List.drop_append_of_le_length (by omega), List.take_append_of_le_length (by rw [List.length_drop]; omega)]
theorem kcSub_new {K k : List Nat} : kcSub (K ++ k) (K.length, K.length + k.length) = k := by
  unfold kcSub
  show ((K ++ k).drop K.length).take (K.length + k.length - K.length) = k
  rw [List.drop_left, Nat.add_sub_cancel_left, List.take_length]
theorem kcLk_stS {L : LkS} {w : Nat} {k : List Nat} (h : kcLk L) (hk : kcG (if w = 1 then 1 else 0) 23 k) (hl : 1 ≤ k.length) : kcLk (stS L w k) := by
  intro v p hp
  have hp2 : updG (lG L) w (some ((lK L).length, (lK L).length + k.length)) v = some p := hp
  unfold updG at hp2
  show p.1 < p.2 ∧ p.2 ≤ (lK L ++ k).length ∧ kcG (if v = 1 then 1 else 0) 23 (kcSub (lK L ++ k) p)
  by_cases e : v = w
  · rw [if_pos e] at hp2
    cases hp2
    refine ⟨by show (lK L).length < (lK L).length + k.length; omega, by rw [List.length_append]; exact Nat.le_refl _, ?_⟩
    rw [kcSub_new, e]; exact hk
  · rw [if_neg e] at hp2
    obtain ⟨h1, h2, h3⟩ := h v p hp2
    exact ⟨h1, by rw [List.length_append]; omega, by rw [kcSub_app h1 h2]; exact h3⟩
theorem kcGd_len {nm : Nat → Int64} {m : Nat} {k : List Nat} (h : kcGd nm m k) : 1 ≤ k.length := by
  obtain ⟨v, hv⟩ := h
  cases k with
  | nil =>
    have h1 := hv m [] (by rw [List.length_nil]; omega)
    have h2 : (some [] : Option (List Int64)) = some [v] := h1
    cases h2
  | cons c k => rw [List.length_cons]; omega
theorem kcLk_sumL {tb : Nat → Nat} {n : Nat} {L : LkS} {w kind : Nat} {c : Cur} {r : LkS × Cur} (hL : kcLk L) (hw : kind = if w = 1 then 1 else 0) (h : sumL tb n L w kind c = .ok r) : kcLk r.1 := by
  unfold sumL at h
  split at h
  · cases h
  · obtain ⟨a, h1, h2⟩ := bindR_ok h
    cases h2
    have hg := kc_sumD (by rw [hw]; split <;> omega) h1
    exact kcLk_stS hL (hw ▸ hg) (kcGd_len (hg.1 (fun _ => 0)))
theorem kcLk_body {tb : Nat → Nat} {n : Nat} {L : LkS} {c : Cur} {r : LkS × Cur} (hL : kcLk L) (h : bodyP tb n L c = .ok r) : kcLk r.1 := by
  unfold bodyP at h
  split at h
  · obtain ⟨x, h1, h2⟩ := bindR_ok h; cases h2; exact hL
  · split at h
    · obtain ⟨x, h1, h2⟩ := bindR_ok h; cases h2; exact hL
    · split at h
      · obtain ⟨x, h1, h2⟩ := bindR_ok h
        have h3 : (if lU L x.1 = true then (.error (2, (nx tb n c.1).1) : LkR) else .ok (stU L x.1, x.2)) = .ok r := h2
        split at h3
        · cases h3
        · cases h3; exact hL
      · split at h
        · exact kcLk_sumL hL rfl h
        · split at h
          · exact kcLk_sumL hL rfl h
          · split at h
            · exact kcLk_sumL hL rfl h
            · split at h
              · obtain ⟨x, h1, h2⟩ := bindR_ok h; cases h2; exact hL
              · cases h
theorem kcLk_stm {tb : Nat → Nat} {n : Nat} {q r : LkS × Cur} (hL : kcLk q.1) (h : stmP tb n q = .ok r) : kcLk r.1 := by
  obtain ⟨x, h1, h2⟩ := bindR_ok (show bindR (bodyP tb n q.1 q.2) (fun r => bindR (signP tb n 59 r.2) (fun c => .ok (r.1, c))) = .ok r from h)
  obtain ⟨y, h3, h4⟩ := bindR_ok h2
  cases h4
  exact kcLk_body (r := x) hL h1
theorem kcLk_stP {tb : Nat → Nat} {n : Nat} : ∀ f q r, stP tb n f q = .ok r → kcLk q.1 → kcLk r.1
  | 0, q, r, h, hL => by
    have h1 : (if n ≤ q.2.1 then (.ok (q.1, 60) : Except Err (LkS × Nat)) else .error (5, q.2.1)) = .ok r := h
    split at h1
    · cases h1; exact hL
    · cases h1
  | f + 1, q, r, h, hL => by
    have h1 : (if n ≤ q.2.1 then (.ok (q.1, 60 - (f + 1)) : Except Err (LkS × Nat)) else bindR (stmP tb n q) (stP tb n f)) = .ok r := h
    split at h1
    · cases h1; exact hL
    · obtain ⟨x, h2, h3⟩ := bindR_ok h1
      exact kcLk_stP f x r h3 (kcLk_stm hL h2)
theorem kcLk_0 (d m : Nat) : kcLk (L0 d m) := fun w p hp => by
  have h : (none : Option (Nat × Nat)) = some p := hp
  cases h
theorem kcLk_open {tb : Nat → Nat} {n : Nat} {c : Cur} {r : LkS × Cur} (h : openP tb n c = .ok r) : kcLk r.1 := by
  unfold openP at h
  obtain ⟨c1, h1, h2⟩ := bindR_ok h
  obtain ⟨d, h3, h4⟩ := bindR_ok h2
  obtain ⟨c2, h5, h6⟩ := bindR_ok h4
  obtain ⟨m, h7, h8⟩ := bindR_ok h6
  obtain ⟨c3, h9, h10⟩ := bindR_ok h8
  cases h10
  exact kcLk_0 _ _
