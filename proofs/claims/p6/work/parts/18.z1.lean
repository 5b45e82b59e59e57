/-! sums: what steps give on a pile -/
def kcClip (v : Int64) : Int64 := if 1000000 < v then 1000000 else if v < -1000000 then -1000000 else v
def kcFl (a b : Int64) : Int64 := if b = 0 then 0 else if (¬ a - a / b * b = 0) ∧ ¬ (a < 0 ↔ b < 0) then a / b - 1 else a / b
def kcOp (c : Nat) (a b : Int64) : Int64 :=
  if c = 1 then kcClip (a + b) else if c = 2 then kcClip (a - b) else if c = 3 then kcClip (a * b) else if c = 4 then kcFl a b
  else if c = 5 then (if b < a then b else a) else (if a < b then b else a)
def kcSt (nm : Nat → Int64) (c : Nat) (S : List Int64) : Option (List Int64) :=
  if 1000 ≤ c then some (Int64.ofNat (c - 1000) :: S)
  else if 40 ≤ c then some (nm (c - 40) :: S)
  else match S with
    | b :: a :: r => some (kcOp c a b :: r)
    | _ => none
def kcEx (nm : Nat → Int64) (B : Nat) : List Nat → List Int64 → Option (List Int64)
  | [], S => some S
  | c :: k, S => match kcSt nm c S with
    | none => none
    | some T => if T.length ≤ B then kcEx nm B k T else none
theorem kcEx_app (nm : Nat → Int64) (B : Nat) : ∀ (k l : List Nat) (S : List Int64), kcEx nm B (k ++ l) S = (kcEx nm B k S).bind (kcEx nm B l)
  | [], l, S => rfl
  | c :: k, l, S => by
    show (match kcSt nm c S with | none => none | some T => if T.length ≤ B then kcEx nm B (k ++ l) T else none) = (match kcSt nm c S with | none => none | some T => if T.length ≤ B then kcEx nm B k T else none).bind (kcEx nm B l)
    cases kcSt nm c S with
    | none => rfl
    | some T =>
      show (if T.length ≤ B then kcEx nm B (k ++ l) T else none) = (if T.length ≤ B then kcEx nm B k T else none).bind (kcEx nm B l)
      by_cases h : T.length ≤ B
      · rw [if_pos h, if_pos h]; exact kcEx_app nm B k l T
      · rw [if_neg h, if_neg h]; rfl
theorem kcEx_1 {nm : Nat → Int64} {B c : Nat} {k : List Nat} {S T : List Int64} (h : kcSt nm c S = some T) (hB : T.length ≤ B) : kcEx nm B (c :: k) S = kcEx nm B k T := by
  show (match kcSt nm c S with | none => none | some T => if T.length ≤ B then kcEx nm B k T else none) = _
  rw [h]
  show (if T.length ≤ B then kcEx nm B k T else none) = _
  rw [if_pos hB]
/-- one step of a run that ends well -/
theorem kcEx_c {nm : Nat → Int64} {B c : Nat} {k : List Nat} {S R : List Int64} (h : kcEx nm B (c :: k) S = some R) : ∃ T, kcSt nm c S = some T ∧ T.length ≤ B ∧ kcEx nm B k T = some R := by
  have h1 : (match kcSt nm c S with | none => none | some T => if T.length ≤ B then kcEx nm B k T else none) = some R := h
  cases hs : kcSt nm c S with
  | none => rw [hs] at h1; cases h1
  | some T =>
    rw [hs] at h1
    have h2 : (if T.length ≤ B then kcEx nm B k T else none) = some R := h1
    by_cases hB : T.length ≤ B
    · rw [if_pos hB] at h2; exact ⟨T, rfl, hB, h2⟩
    · rw [if_neg hB] at h2; cases h2
theorem kcSt_num {nm : Nat → Int64} {c : Nat} {S : List Int64} (h : 1000 ≤ c) : kcSt nm c S = some (Int64.ofNat (c - 1000) :: S) := by
  unfold kcSt; rw [if_pos h]
theorem kcSt_nm {nm : Nat → Int64} {c : Nat} {S : List Int64} (h : 40 ≤ c) (h2 : c < 1000) : kcSt nm c S = some (nm (c - 40) :: S) := by
  unfold kcSt; rw [if_neg (by omega), if_pos h]
theorem kcSt_op {nm : Nat → Int64} {c : Nat} {a b : Int64} {S : List Int64} (h : c < 40) : kcSt nm c (b :: a :: S) = some (kcOp c a b :: S) := by
  unfold kcSt; rw [if_neg (by omega), if_neg (by omega)]
/-- a sign finds two -/
theorem kcSt_two {nm : Nat → Int64} {c : Nat} {S T : List Int64} (h : c < 40) (hs : kcSt nm c S = some T) : ∃ b a R, S = b :: a :: R ∧ T = kcOp c a b :: R := by
  unfold kcSt at hs
  rw [if_neg (by omega), if_neg (by omega)] at hs
  cases S with
  | nil => have h9 : (none : Option (List Int64)) = some T := hs; cases h9
  | cons b S =>
    cases S with
    | nil => have h9 : (none : Option (List Int64)) = some T := hs; cases h9
    | cons a R => exact ⟨b, a, R, rfl, (Option.some.inj hs).symm⟩
/-- steps that put one value on whatever pile, with m places -/
def kcGd (nm : Nat → Int64) (m : Nat) (k : List Nat) : Prop := ∃ v, ∀ (B : Nat) (S : List Int64), S.length + m ≤ B → kcEx nm B k S = some (v :: S)
theorem kcGd_mono {nm : Nat → Int64} {m m2 : Nat} {k : List Nat} (h : kcGd nm m k) (hm : m ≤ m2) : kcGd nm m2 k := by
  obtain ⟨v, hv⟩ := h
  exact ⟨v, fun B S hB => hv B S (by omega)⟩
theorem kcGd_bin {nm : Nat → Int64} {m m2 o : Nat} {k l : List Nat} (h1 : kcGd nm m k) (h2 : kcGd nm m2 l) (hm : m2 + 1 ≤ m) (ho : o < 40) : kcGd nm m (k ++ l ++ [o]) := by
  obtain ⟨v, hv⟩ := h1
  obtain ⟨u, hu⟩ := h2
  refine ⟨kcOp o v u, fun B S hB => ?_⟩
  rw [kcEx_app, kcEx_app, hv B S hB]
  show (kcEx nm B l (v :: S)).bind (kcEx nm B [o]) = _
  rw [hu B (v :: S) (by rw [List.length_cons]; omega)]
  show kcEx nm B [o] (u :: v :: S) = _
  rw [kcEx_1 (kcSt_op ho) (by rw [List.length_cons]; omega)]
  rfl
theorem kcGd_num {nm : Nat → Int64} {v : Nat} : kcGd nm 1 [1000 + v] := by
  refine ⟨Int64.ofNat v, fun B S hB => ?_⟩
  rw [kcEx_1 (kcSt_num (by omega)) (by rw [List.length_cons]; omega), Nat.add_sub_cancel_left]
  rfl
theorem kcGd_nm {nm : Nat → Int64} {j : Nat} (hj : j < 900) : kcGd nm 1 [40 + j] := by
  refine ⟨nm j, fun B S hB => ?_⟩
  rw [kcEx_1 (kcSt_nm (by omega) (by omega)) (by rw [List.length_cons]; omega), Nat.add_sub_cancel_left]
  rfl
/-- which names stand there -/
def kcN1 (kind c : Nat) : Prop := (1 ≤ c ∧ c ≤ 6) ∨ (1000 ≤ c ∧ c < 11000) ∨ (40 ≤ c ∧ c < 50 ∧ allow kind (c - 40) = true)
def kcNs (kind : Nat) (k : List Nat) : Prop := ∀ c, c ∈ k → kcN1 kind c
theorem kcNs_app {kind : Nat} {k l : List Nat} (h1 : kcNs kind k) (h2 : kcNs kind l) : kcNs kind (k ++ l) := fun c hc => by
  rcases List.mem_append.mp hc with h | h
  · exact h1 c h
  · exact h2 c h
theorem kcNs_1 {kind c : Nat} (h : kcN1 kind c) : kcNs kind [c] := fun x hx => by
  rw [List.mem_singleton.mp hx]; exact h
def kcG (kind m : Nat) (k : List Nat) : Prop := (∀ nm, kcGd nm m k) ∧ kcNs kind k
theorem kcG_mono {kind m m2 : Nat} {k : List Nat} (h : kcG kind m k) (hm : m ≤ m2) : kcG kind m2 k := ⟨fun nm => kcGd_mono (h.1 nm) hm, h.2⟩
theorem kcG_bin {kind m m2 o : Nat} {k l : List Nat} (h1 : kcG kind m k) (h2 : kcG kind m2 l) (hm : m2 + 1 ≤ m) (ho : 1 ≤ o ∧ o ≤ 6) : kcG kind m (k ++ l ++ [o]) :=
  ⟨fun nm => kcGd_bin (h1.1 nm) (h2.1 nm) hm (by omega), kcNs_app (kcNs_app h1.2 h2.2) (kcNs_1 (Or.inl ho))⟩
theorem numP_val {tb : Nat → Nat} {n lo hi : Nat} {c : Cur} {r : Nat × Cur} (h : numP tb n lo hi c = .ok r) : lo ≤ r.1 ∧ r.1 ≤ hi := by
  unfold numP at h
  split at h
  · split at h
    · cases h
    · split at h
      · cases h
      · next hc => cases h; exact ⟨by show lo ≤ vd tb c.1 (ext qD tb n c.1 - c.1); omega, by show vd tb c.1 (ext qD tb n c.1 - c.1) ≤ hi; omega⟩
  · cases h
theorem kc_mul {tb : Nat → Nat} {n kind h : Nat} {P : Cur → Res} (hP : ∀ c r, P c = .ok r → kcG kind h r.2) : ∀ f c k r, mulLp tb n P f c k = .ok r → kcG kind (h + 1) k → kcG kind (h + 1) r.2
  | 0, c, k, r, h, _ => by cases h
  | f + 1, c, k, r, h, hk => by
    rw [mulLp] at h
    split at h
    · obtain ⟨a, h1, h2⟩ := bindR_ok h
      exact kc_mul hP f _ _ _ h2 (kcG_bin hk (hP _ _ h1) (by omega) ⟨by decide, by decide⟩)
    · split at h
      · obtain ⟨a, h1, h2⟩ := bindR_ok h
        exact kc_mul hP f _ _ _ h2 (kcG_bin hk (hP _ _ h1) (by omega) ⟨by decide, by decide⟩)
      · cases h; exact hk
theorem kc_prod {tb : Nat → Nat} {n kind h : Nat} {P : Cur → Res} (hP : ∀ c r, P c = .ok r → kcG kind h r.2) : ∀ c r, prodOf tb n P c = .ok r → kcG kind (h + 1) r.2 := fun c r hr => by
  obtain ⟨a, h1, h2⟩ := bindR_ok (show bindR (P c) (fun r => mulLp tb n P (n + 2) r.1 r.2) = .ok r from hr)
  exact kc_mul hP _ _ _ _ h2 (kcG_mono (hP _ _ h1) (by omega))
theorem kc_add {tb : Nat → Nat} {n kind h : Nat} {P : Cur → Res} (hP : ∀ c r, P c = .ok r → kcG kind h r.2) : ∀ f c k r, addLp tb n P f c k = .ok r → kcG kind (h + 2) k → kcG kind (h + 2) r.2
  | 0, c, k, r, h, _ => by cases h
  | f + 1, c, k, r, h, hk => by
    rw [addLp] at h
    split at h
    · obtain ⟨a, h1, h2⟩ := bindR_ok h
      exact kc_add hP f _ _ _ h2 (kcG_bin hk (kc_prod hP _ _ h1) (by omega) ⟨by decide, by decide⟩)
    · split at h
      · obtain ⟨a, h1, h2⟩ := bindR_ok h
        exact kc_add hP f _ _ _ h2 (kcG_bin hk (kc_prod hP _ _ h1) (by omega) ⟨by decide, by decide⟩)
      · cases h; exact hk
theorem kc_sum {tb : Nat → Nat} {n kind h : Nat} {P : Cur → Res} (hP : ∀ c r, P c = .ok r → kcG kind h r.2) : ∀ c r, sumOf tb n P c = .ok r → kcG kind (h + 2) r.2 := fun c r hr => by
  obtain ⟨a, h1, h2⟩ := bindR_ok (show bindR (prodOf tb n P c) (fun r => addLp tb n P (n + 2) r.1 r.2) = .ok r from hr)
  exact kc_add hP _ _ _ _ h2 (kcG_mono (kc_prod hP _ _ h1) (by omega))
theorem kc_partB {tb : Nat → Nat} {n kind h : Nat} (hk2 : kind < 2) {Q : Option (Cur → Res)} (hQ : ∀ P, Q = some P → ∀ c r, P c = .ok r → kcG kind h r.2) {c : Cur} {r : Cur × List Nat} (hr : partB tb n kind Q c = .ok r) : kcG kind (h + 3) r.2 := by
  unfold partB at hr
  split at hr
  · cases Q with
    | none => cases hr
    | some P =>
      obtain ⟨a, h1, h2⟩ := bindR_ok hr
      obtain ⟨c1, h3, h4⟩ := bindR_ok h2
      cases h4
      exact kcG_mono (kc_sum (hQ P rfl) _ a h1) (by omega)
  · split at hr
    · split at hr
      · cases Q with
        | none => cases hr
        | some P =>
          obtain ⟨a, h1, h2⟩ := bindR_ok hr
          obtain ⟨c2, h3, h4⟩ := bindR_ok h2
          obtain ⟨b, h5, h6⟩ := bindR_ok h4
          obtain ⟨c3, h7, h8⟩ := bindR_ok h6
          cases h8
          refine kcG_bin (kcG_mono (kc_sum (hQ P rfl) _ _ h1) (by omega)) (kc_sum (hQ P rfl) _ _ h5) (by omega) ?_
          split
          · exact ⟨by decide, by decide⟩
          · exact ⟨by decide, by decide⟩
      · cases hr
    · split at hr
      · next hw => exact absurd hw.1 (by omega)
      · cases hx : partIx tb n kind c with
        | some j =>
          rw [hx] at hr
          cases hr
          have hj := (partIx_lt hx).2
          have ha : allow kind j = true := by
            have := List.find?_some hx
            rw [Bool.and_eq_true] at this
            exact this.2
          exact ⟨fun nm => kcGd_mono (kcGd_nm (by omega)) (by omega), kcNs_1 (Or.inr (Or.inr ⟨by omega, by omega, by rw [Nat.add_sub_cancel_left]; exact ha⟩))⟩
        | none =>
          rw [hx] at hr
          obtain ⟨a, h1, h2⟩ := bindR_ok hr
          cases h2
          have hv := numP_val h1
          exact ⟨fun nm => kcGd_mono kcGd_num (by omega), kcNs_1 (Or.inr (Or.inl ⟨by omega, by omega⟩))⟩
theorem kc_part {tb : Nat → Nat} {n kind : Nat} (hk : kind < 2) : ∀ d c r, rdPart tb n kind d c = .ok r → kcG kind (3 * d + 3) r.2
  | 0, c, r, h => kcG_mono (kc_partB (h := 0) hk (Q := none) (fun P hp => by cases hp) h) (by omega)
  | d + 1, c, r, h => kcG_mono (kc_partB (h := 3 * d + 3) hk (Q := some (rdPart tb n kind d)) (fun P hp => by cases hp; exact kc_part hk d) h) (by omega)
theorem kc_sumD {tb : Nat → Nat} {n kind : Nat} (hk : kind < 2) {c : Cur} {r : Cur × List Nat} (h : sumD tb n kind 6 c = .ok r) : kcG kind 23 r.2 := kc_sum (kc_part hk 6) c r h
/-- only the names that stand there count -/
theorem kcEx_cg {nm nm2 : Nat → Int64} {B : Nat} : ∀ (k : List Nat) (S : List Int64), (∀ c, c ∈ k → 40 ≤ c → c < 1000 → nm (c - 40) = nm2 (c - 40)) → kcEx nm B k S = kcEx nm2 B k S
  | [], S, _ => rfl
  | c :: k, S, h => by
    have e : kcSt nm c S = kcSt nm2 c S := by
      unfold kcSt
      by_cases h1 : 1000 ≤ c
      · rw [if_pos h1, if_pos h1]
      · rw [if_neg h1, if_neg h1]
        by_cases h2 : 40 ≤ c
        · rw [if_pos h2, if_pos h2, h c (List.mem_cons_self ..) h2 (by omega)]
        · rw [if_neg h2, if_neg h2]
    show (match kcSt nm c S with | none => none | some T => if T.length ≤ B then kcEx nm B k T else none) = (match kcSt nm2 c S with | none => none | some T => if T.length ≤ B then kcEx nm2 B k T else none)
    rw [e]
    cases kcSt nm2 c S with
    | none => rfl
    | some T =>
      show (if T.length ≤ B then kcEx nm B k T else none) = (if T.length ≤ B then kcEx nm2 B k T else none)
      rw [kcEx_cg k T (fun x hx => h x (List.mem_cons_of_mem c hx))]
/-! the sums of a lock -/
def kcSub (K : List Nat) (p : Nat × Nat) : List Nat := (K.drop p.1).take (p.2 - p.1)
def kcLk (L : LkS) : Prop := ∀ w p, lG L w = some p → p.1 < p.2 ∧ p.2 ≤ (lK L).length ∧ kcG (if w = 1 then 1 else 0) 23 (kcSub (lK L) p)
theorem kcSub_app {K k : List Nat} {p : Nat × Nat} (h : p.1 < p.2) (h2 : p.2 ≤ K.length) : kcSub (K ++ k) p = kcSub K p := by
  unfold kcSub
  rw [List.drop_append_of_le_length (by omega), List.take_append_of_le_length (by rw [List.length_drop]; omega)]
theorem kcSub_new {K k : List Nat} : kcSub (K ++ k) (K.length, K.length + k.length) = k := by
  unfold kcSub
  show ((K ++ k).drop K.length).take (K.length + k.length - K.length) = k
  rw [List.drop_left, Nat.add_sub_cancel_left, List.take_length]
theorem kcLk_stS {L : LkS} {w : Nat} {k : List Nat} (h : kcLk L) (hk : kcG (if w = 1 then 1 else 0) 23 k) (hl : 1 ≤ k.length) : kcLk (stS L w k) := by
  intro v p hp
  have hp2 : updG (lG L) w (some ((lK L).length, (lK L).length + k.length)) v = some p := hp
  unfold updG at hp2
  show p.1 < p.2 ∧ p.2 ≤ (lK L ++ k).length ∧ kcG (if v = 1 then 1 else 0) 23 (kcSub (lK L ++ k) p)
  by_cases e : v = w
  · rw [if_pos e] at hp2
    cases hp2
    refine ⟨by show (lK L).length < (lK L).length + k.length; omega, by rw [List.length_append]; exact Nat.le_refl _, ?_⟩
    rw [kcSub_new, e]; exact hk
  · rw [if_neg e] at hp2
    obtain ⟨h1, h2, h3⟩ := h v p hp2
    exact ⟨h1, by rw [List.length_append]; omega, by rw [kcSub_app h1 h2]; exact h3⟩
theorem kcGd_len {nm : Nat → Int64} {m : Nat} {k : List Nat} (h : kcGd nm m k) : 1 ≤ k.length := by
  obtain ⟨v, hv⟩ := h
  cases k with
  | nil =>
    have h1 := hv m [] (by rw [List.length_nil]; omega)
    have h2 : (some [] : Option (List Int64)) = some [v] := h1
    cases h2
  | cons c k => rw [List.length_cons]; omega
theorem kcLk_sumL {tb : Nat → Nat} {n : Nat} {L : LkS} {w kind : Nat} {c : Cur} {r : LkS × Cur} (hL : kcLk L) (hw : kind = if w = 1 then 1 else 0) (h : sumL tb n L w kind c = .ok r) : kcLk r.1 := by
  unfold sumL at h
  split at h
  · cases h
  · obtain ⟨a, h1, h2⟩ := bindR_ok h
    cases h2
    have hg := kc_sumD (by rw [hw]; split <;> omega) h1
    exact kcLk_stS hL (hw ▸ hg) (kcGd_len (hg.1 (fun _ => 0)))
theorem kcLk_body {tb : Nat → Nat} {n : Nat} {L : LkS} {c : Cur} {r : LkS × Cur} (hL : kcLk L) (h : bodyP tb n L c = .ok r) : kcLk r.1 := by
  unfold bodyP at h
  split at h
  · obtain ⟨x, h1, h2⟩ := bindR_ok h; cases h2; exact hL
  · split at h
    · obtain ⟨x, h1, h2⟩ := bindR_ok h; cases h2; exact hL
    · split at h
      · obtain ⟨x, h1, h2⟩ := bindR_ok h
        have h3 : (if lU L x.1 = true then (.error (2, (nx tb n c.1).1) : LkR) else .ok (stU L x.1, x.2)) = .ok r := h2
        split at h3
        · cases h3
        · cases h3; exact hL
      · split at h
        · exact kcLk_sumL hL rfl h
        · split at h
          · exact kcLk_sumL hL rfl h
          · split at h
            · exact kcLk_sumL hL rfl h
            · split at h
              · obtain ⟨x, h1, h2⟩ := bindR_ok h; cases h2; exact hL
              · cases h
theorem kcLk_stm {tb : Nat → Nat} {n : Nat} {q r : LkS × Cur} (hL : kcLk q.1) (h : stmP tb n q = .ok r) : kcLk r.1 := by
  obtain ⟨x, h1, h2⟩ := bindR_ok (show bindR (bodyP tb n q.1 q.2) (fun r => bindR (signP tb n 59 r.2) (fun c => .ok (r.1, c))) = .ok r from h)
  obtain ⟨y, h3, h4⟩ := bindR_ok h2
  cases h4
  exact kcLk_body (r := x) hL h1
theorem kcLk_stP {tb : Nat → Nat} {n : Nat} : ∀ f q r, stP tb n f q = .ok r → kcLk q.1 → kcLk r.1
  | 0, q, r, h, hL => by
    have h1 : (if n ≤ q.2.1 then (.ok (q.1, 60) : Except Err (LkS × Nat)) else .error (5, q.2.1)) = .ok r := h
    split at h1
    · cases h1; exact hL
    · cases h1
  | f + 1, q, r, h, hL => by
    have h1 : (if n ≤ q.2.1 then (.ok (q.1, 60 - (f + 1)) : Except Err (LkS × Nat)) else bindR (stmP tb n q) (stP tb n f)) = .ok r := h
    split at h1
    · cases h1; exact hL
    · obtain ⟨x, h2, h3⟩ := bindR_ok h1
      exact kcLk_stP f x r h3 (kcLk_stm hL h2)
theorem kcLk_0 (d m : Nat) : kcLk (L0 d m) := fun w p hp => by
  have h : (none : Option (Nat × Nat)) = some p := hp
  cases h
theorem kcLk_open {tb : Nat → Nat} {n : Nat} {c : Cur} {r : LkS × Cur} (h : openP tb n c = .ok r) : kcLk r.1 := by
  unfold openP at h
  obtain ⟨c1, h1, h2⟩ := bindR_ok h
  obtain ⟨d, h3, h4⟩ := bindR_ok h2
  obtain ⟨c2, h5, h6⟩ := bindR_ok h4
  obtain ⟨m, h7, h8⟩ := bindR_ok h6
  obtain ⟨c3, h9, h10⟩ := bindR_ok h8
  cases h10
  exact kcLk_0 _ _
theorem kcLk_lock {tb : Nat → Nat} {n : Nat} {r : LkS × Nat} (h : lockP tb n = .ok r) : kcLk r.1 := by
  obtain ⟨x, h1, h2⟩ := bindR_ok (show bindR (openP tb n (sk tb n 0, false)) (stP tb n 59) = .ok r from h)
  exact kcLk_stP 59 x r h2 (kcLk_open h1)
theorem kcLk_untS {L : LkS} {w : Nat} (h : kcLk L) : kcLk (untS L w) := by
  unfold untS
  split
  · exact h
  · refine kcLk_stS h ?_ (Nat.le_refl 1)
    by_cases e : w = 1
    · rw [if_pos e, if_pos e]
      exact ⟨fun nm => kcGd_mono (kcGd_nm (j := 5) (by omega)) (by omega), kcNs_1 (Or.inr (Or.inr ⟨by decide, by decide, rfl⟩))⟩
    · rw [if_neg e, if_neg e]
      exact ⟨fun nm => kcGd_mono (kcGd_nm (j := 0) (by omega)) (by omega), kcNs_1 (Or.inr (Or.inr ⟨by decide, by decide, rfl⟩))⟩
theorem kcLk_untN {L : LkS} (h : kcLk L) : ∀ i, kcLk (untN L i)
  | 0 => h
  | i + 1 => kcLk_untS (kcLk_untN h i)
theorem kcLk_F {L : LkS} (h : kcLk L) : kcLk (lkF L) := kcLk_untN h 3
/-- the steps of a sum, told or not -/
def kcSeg (L : LkS) (w : Nat) : List Nat := match lG (lkF L) w with
  | none => []
  | some p => kcSub (lK (lkF L)) p
theorem untS_G {L : LkS} {w v : Nat} : lG (untS L w) v = if (lG L w).isSome = true then lG L v else if v = w then some ((lK L).length, (lK L).length + 1) else lG L v := by
  unfold untS
  by_cases h : (lG L w).isSome = true
  · rw [if_pos h, if_pos h]
  · rw [if_neg h, if_neg h]; rfl
theorem untS_keep {L : LkS} {w v : Nat} {p : Nat × Nat} (h : lG L v = some p) : lG (untS L w) v = some p := by
  rw [untS_G]
  by_cases h0 : (lG L w).isSome = true
  · rw [if_pos h0]; exact h
  · rw [if_neg h0]
    by_cases e : v = w
    · subst e; rw [h] at h0; exact absurd rfl h0
    · rw [if_neg e]; exact h
theorem untS_app (L : LkS) (w : Nat) : ∃ k, lK (untS L w) = lK L ++ k := by
  unfold untS
  split
  · exact ⟨[], (List.append_nil _).symm⟩
  · exact ⟨_, rfl⟩
theorem untN_some {L : LkS} : ∀ i v, v < i → ∃ p, lG (untN L i) v = some p
  | 0, v, h => absurd h (Nat.not_lt_zero v)
  | i + 1, v, h => by
    show ∃ p, lG (untS (untN L i) i) v = some p
    by_cases e : v = i
    · subst e
      rw [untS_G]
      cases hv : lG (untN L v) v with
      | some p => exact ⟨p, by rw [if_pos (by rfl)]⟩
      | none => exact ⟨_, by rw [if_neg (by decide), if_pos rfl]⟩
    · obtain ⟨p, hp⟩ := untN_some i v (by omega)
      exact ⟨p, untS_keep hp⟩
theorem kcSeg_G {L : LkS} (h : kcLk L) {w : Nat} (hw : w < 3) : kcG (if w = 1 then 1 else 0) 23 (kcSeg L w) := by
  obtain ⟨p, hp⟩ := untN_some (L := L) 3 w hw
  have h1 := (kcLk_F h w p hp).2.2
  unfold kcSeg
  rw [show lG (lkF L) w = some p from hp]
  exact h1
/-- what a sum gives -/
def kcV (L : LkS) (w : Nat) (nm : Nat → Int64) : Int64 := match kcEx nm 64 (kcSeg L w) [] with
  | some (v :: _) => v
  | _ => 0
theorem kcV_ex {L : LkS} (h : kcLk L) {w : Nat} (hw : w < 3) (nm : Nat → Int64) : kcEx nm 64 (kcSeg L w) [] = some [kcV L w nm] := by
  obtain ⟨v, hv⟩ := (kcSeg_G h hw).1 nm
  have h1 := hv 64 [] (by rw [List.length_nil]; omega)
  have key : ∀ o : Option (List Int64), o = some [v] → (match o with | some (v :: _) => v | _ => (0 : Int64)) = v := by
    intro o ho; subst ho; rfl
  have h2 : kcV L w nm = v := key _ h1
  rw [h2]; exact h1
theorem kcV_cg {L : LkS} (h : kcLk L) {w : Nat} (hw : w < 3) {nm nm2 : Nat → Int64} (e : ∀ j, j < (if w = 1 then 7 else 5) → nm j = nm2 j) : kcV L w nm = kcV L w nm2 := by
  have key : ∀ c, c ∈ kcSeg L w → 40 ≤ c → c < 1000 → nm (c - 40) = nm2 (c - 40) := by
    intro c hc h1 h2
    rcases (kcSeg_G h hw).2 c hc with ⟨q, q2⟩ | ⟨q, q2⟩ | ⟨q, q2, qa⟩
    · exact absurd h1 (by omega)
    · exact absurd h2 (by omega)
    · refine e _ ?_
      unfold allow at qa
      by_cases hw1 : w = 1
      · rw [if_pos hw1, if_neg (by decide), if_pos rfl, decide_eq_true_iff] at qa
        rw [if_pos hw1]; exact qa
      · rw [if_neg hw1, if_pos rfl, decide_eq_true_iff] at qa
        rw [if_neg hw1]; exact qa
  unfold kcV
  rw [kcEx_cg (nm := nm) (nm2 := nm2) (kcSeg L w) [] key]
/-- without week the week does not count -/
theorem kcV_wk {L : LkS} (h : kcLk L) {w : Nat} (hw : w < 3) {nm nm2 : Nat → Int64} (h4 : 44 ∉ lK (lkF L)) (e : ∀ j, j < (if w = 1 then 7 else 5) → ¬ j = 4 → nm j = nm2 j) : kcV L w nm = kcV L w nm2 := by
  have key : ∀ c, c ∈ kcSeg L w → 40 ≤ c → c < 1000 → nm (c - 40) = nm2 (c - 40) := by
    intro c hc h1 h2
    have hne : ¬ c = 44 := fun q => by
      subst q
      obtain ⟨p, hp⟩ := untN_some (L := L) 3 w hw
      unfold kcSeg at hc
      rw [show lG (lkF L) w = some p from hp] at hc
      exact h4 (List.mem_of_mem_drop (List.mem_of_mem_take (show 44 ∈ ((lK (lkF L)).drop p.1).take (p.2 - p.1) from hc)))
    rcases (kcSeg_G h hw).2 c hc with ⟨q, q2⟩ | ⟨q, q2⟩ | ⟨q, q2, qa⟩
    · exact absurd h1 (by omega)
    · exact absurd h2 (by omega)
    · refine e _ ?_ (by omega)
      unfold allow at qa
      by_cases hw1 : w = 1
      · rw [if_pos hw1, if_neg (by decide), if_pos rfl, decide_eq_true_iff] at qa
        rw [if_pos hw1]; exact qa
      · rw [if_neg hw1, if_pos rfl, decide_eq_true_iff] at qa
        rw [if_neg hw1]; exact qa
  unfold kcV
  rw [kcEx_cg (nm := nm) (nm2 := nm2) (kcSeg L w) [] key]
theorem untN_keep {L : LkS} {v : Nat} {p : Nat × Nat} (h : lG L v = some p) : ∀ i, lG (untN L i) v = some p
  | 0 => h
  | i + 1 => untS_keep (untN_keep h i)
theorem untN_app (L : LkS) : ∀ i, ∃ k, lK (untN L i) = lK L ++ k
  | 0 => ⟨[], (List.append_nil _).symm⟩
  | i + 1 => by
    obtain ⟨k, hk⟩ := untN_app L i
    obtain ⟨k2, hk2⟩ := untS_app (untN L i) i
    exact ⟨k ++ k2, by show lK (untS (untN L i) i) = _; rw [hk2, hk, List.append_assoc]⟩
theorem kcSeg_some {L : LkS} (hL : kcLk L) {w : Nat} {p : Nat × Nat} (h : lG L w = some p) : kcSeg L w = kcSub (lK L) p := by
  unfold kcSeg
  rw [show lG (lkF L) w = some p from untN_keep h 3]
  obtain ⟨k, hk⟩ := untN_app L 3
  show kcSub (lK (untN L 3)) p = _
  rw [hk]
  exact kcSub_app (hL w p h).1 (hL w p h).2.1
theorem untN_none {L : LkS} {v : Nat} (h : lG L v = none) : ∀ i, i ≤ v → lG (untN L i) v = none
  | 0, _ => h
  | i + 1, hi => by
    show lG (untS (untN L i) i) v = none
    rw [untS_G]
    by_cases h0 : (lG (untN L i) i).isSome = true
    · rw [if_pos h0]; exact untN_none h i (by omega)
    · rw [if_neg h0, if_neg (show ¬ v = i by omega)]; exact untN_none h i (by omega)
theorem kcSeg_none {L : LkS} {w : Nat} (hw : w < 3) (h : lG L w = none) : kcSeg L w = [if w = 1 then 45 else 40] := by
  have h1 := untN_none h w (Nat.le_refl w)
  have e1 : untN L (w + 1) = stS (untN L w) w [if w = 1 then 45 else 40] := by
    show untS (untN L w) w = _
    unfold untS
    rw [h1, if_neg (by decide)]
  have e2 : lG (untN L (w + 1)) w = some ((lK (untN L w)).length, (lK (untN L w)).length + 1) := by
    rw [e1]
    show updG (lG (untN L w)) w _ w = _
    unfold updG
    rw [if_pos rfl]
    rfl
  have e3 : lK (untN L (w + 1)) = lK (untN L w) ++ [if w = 1 then 45 else 40] := by rw [e1]; rfl
  have key : ∀ j, ∃ k, lG (untN L (w + 1 + j)) w = some ((lK (untN L w)).length, (lK (untN L w)).length + 1) ∧ lK (untN L (w + 1 + j)) = lK (untN L (w + 1)) ++ k := by
    intro j
    induction j with
    | zero => exact ⟨[], e2, (List.append_nil _).symm⟩
    | succ j ih =>
      obtain ⟨k, a, b⟩ := ih
      obtain ⟨k2, hk2⟩ := untS_app (untN L (w + 1 + j)) (w + 1 + j)
      exact ⟨k ++ k2, untS_keep a, by show lK (untS (untN L (w + 1 + j)) (w + 1 + j)) = _; rw [hk2, b, List.append_assoc]⟩
  obtain ⟨k, a, b⟩ := key (2 - w)
  rw [show w + 1 + (2 - w) = 3 by omega] at a b
  unfold kcSeg
  rw [show lG (lkF L) w = _ from a]
  show kcSub (lK (untN L 3)) _ = _
  rw [b, kcSub_app (by show (lK (untN L w)).length < (lK (untN L w)).length + 1; omega) (by rw [e3, List.length_append, List.length_singleton]; exact Nat.le_refl _), e3]
  exact kcSub_new
theorem kcV_none {L : LkS} {w : Nat} (hw : w < 3) (h : lG L w = none) (nm : Nat → Int64) : kcV L w nm = if w = 1 then nm 5 else nm 0 := by
  unfold kcV
  rw [kcSeg_none hw h]
  by_cases e : w = 1
  · rw [if_pos e, if_pos e, kcEx_1 (kcSt_nm (by decide) (by decide)) (Nat.le_of_ble_eq_true rfl)]
    rfl
  · rw [if_neg e, if_neg e, kcEx_1 (kcSt_nm (by decide) (by decide)) (Nat.le_of_ble_eq_true rfl)]
    rfl
/-! weeks: ways through days of ten moods -/
def kcS (f : Nat → Nat) : Nat → Nat
  | 0 => 0
  | n + 1 => kcS f n + f n
theorem kcS_cg {f g : Nat → Nat} : ∀ n, (∀ m, m < n → f m = g m) → kcS f n = kcS g n
  | 0, _ => rfl
  | n + 1, h => by
    show kcS f n + f n = kcS g n + g n
    rw [kcS_cg n (fun m hm => h m (by omega)), h n (by omega)]
theorem kcS_le {f : Nat → Nat} {b : Nat} : ∀ n, (∀ m, m < n → f m ≤ b) → kcS f n ≤ n * b
  | 0, _ => Nat.zero_le _
  | n + 1, h => by
    show kcS f n + f n ≤ (n + 1) * b
    have h1 := kcS_le n (fun m hm => h m (by omega))
    have h2 := h n (by omega)
    rw [Nat.succ_mul]
    omega
theorem kcS_z {f : Nat → Nat} : ∀ n, (∀ m, m < n → f m = 0) → kcS f n = 0
  | 0, _ => rfl
  | n + 1, h => by
    show kcS f n + f n = 0
    rw [kcS_z n (fun m hm => h m (by omega)), h n (by omega)]
theorem kcS_pos {f : Nat → Nat} : ∀ n, kcS f n = 0 → ∀ m, m < n → f m = 0
  | 0, _, m, hm => absurd hm (Nat.not_lt_zero m)
  | n + 1, h, m, hm => by
    have h1 : kcS f n + f n = 0 := h
    by_cases e : m = n
    · subst e; omega
    · exact kcS_pos n (by omega) m (by omega)
theorem kcS_add {f g : Nat → Nat} : ∀ n, kcS (fun m => f m + g m) n = kcS f n + kcS g n
  | 0 => rfl
  | n + 1 => by
    show kcS (fun m => f m + g m) n + (f n + g n) = (kcS f n + f n) + (kcS g n + g n)
    rw [kcS_add n]
    omega
theorem kcS_mul {f : Nat → Nat} {b : Nat} : ∀ n, kcS (fun m => f m * b) n = kcS f n * b
  | 0 => by show 0 = 0 * b; omega
  | n + 1 => by
    show kcS (fun m => f m * b) n + f n * b = (kcS f n + f n) * b
    rw [kcS_mul n, Nat.add_mul]
theorem kcS_mulL {f : Nat → Nat} {b : Nat} (n : Nat) : kcS (fun m => b * f m) n = b * kcS f n := by
  rw [kcS_cg (g := fun m => f m * b) n (fun m _ => Nat.mul_comm _ _), kcS_mul, Nat.mul_comm]
theorem kcS_swap {f : Nat → Nat → Nat} (k : Nat) : ∀ n, kcS (fun m => kcS (fun a => f a m) k) n = kcS (fun a => kcS (fun m => f a m) n) k
  | 0 => (kcS_z (f := fun a => kcS (fun m => f a m) 0) k (fun m _ => rfl)).symm
  | n + 1 => by
    show kcS (fun m => kcS (fun a => f a m) k) n + kcS (fun a => f a n) k = kcS (fun a => kcS (fun m => f a m) n + f a n) k
    rw [kcS_swap k n, kcS_add]
def kcC (E : Nat → Nat → Nat → Bool) : Nat → Nat → Nat → Nat
  | 0, _, _ => 1
  | k + 1, d, a => kcS (fun m => if E d a m = true then kcC E k (d + 1) m else 0) 10
theorem kcC_s (E : Nat → Nat → Nat → Bool) (k d a : Nat) : kcC E (k + 1) d a = kcS (fun m => if E d a m = true then kcC E k (d + 1) m else 0) 10 := rfl
theorem kcC_le (E : Nat → Nat → Nat → Bool) : ∀ k d a, kcC E k d a ≤ 10 ^ k
  | 0, _, _ => Nat.le_refl 1
  | k + 1, d, a => by
    rw [kcC_s, Nat.pow_succ, Nat.mul_comm]
    refine kcS_le 10 (fun m _ => ?_)
    split
    · exact kcC_le E k (d + 1) m
    · exact Nat.zero_le _
theorem kcC_cg {E F : Nat → Nat → Nat → Bool} : ∀ k d a, (∀ e, d ≤ e → e < d + k → ∀ x m, x < 10 → m < 10 → E e x m = F e x m) → a < 10 → kcC E k d a = kcC F k d a
  | 0, _, _, _, _ => rfl
  | k + 1, d, a, h, ha => by
    rw [kcC_s, kcC_s]
    refine kcS_cg 10 (fun m hm => ?_)
    rw [h d (Nat.le_refl d) (by omega) a m ha hm, kcC_cg k (d + 1) m (fun e h1 h2 x y hx hy => h e (by omega) (by omega) x y hx hy) hm]
theorem kc_9 {k : Nat} (h : k ≤ 9) : 10 ^ k ≤ 1000000000 := Nat.pow_le_pow_right (by decide) h
theorem kcC_9 (E : Nat → Nat → Nat → Bool) {k : Nat} (h : k ≤ 9) (d a : Nat) : kcC E k d a ≤ 1000000000 := Nat.le_trans (kcC_le E k d a) (kc_9 h)
/-- from ahead -/
def kcB (E : Nat → Nat → Nat → Bool) (a0 : Nat) : Nat → Nat → Nat
  | 0, m => if E 0 a0 m = true then 1 else 0
  | d + 1, m => kcS (fun a => if E (d + 1) a m = true then kcB E a0 d a else 0) 10
theorem kcB_0 (E : Nat → Nat → Nat → Bool) (a0 m : Nat) : kcB E a0 0 m = if E 0 a0 m = true then 1 else 0 := rfl
theorem kcB_s (E : Nat → Nat → Nat → Bool) (a0 d m : Nat) : kcB E a0 (d + 1) m = kcS (fun a => if E (d + 1) a m = true then kcB E a0 d a else 0) 10 := rfl
theorem kcB_C (E : Nat → Nat → Nat → Bool) (a0 : Nat) : ∀ d k, kcS (fun m => kcB E a0 d m * kcC E k (d + 1) m) 10 = kcC E (k + d + 1) 0 a0
  | 0, k => by
    rw [show k + 0 + 1 = k + 1 by omega, kcC_s]
    refine kcS_cg 10 (fun m _ => ?_)
    rw [kcB_0]
    by_cases h : E 0 a0 m = true
    · rw [if_pos h, if_pos h, Nat.one_mul]
    · rw [if_neg h, if_neg h, Nat.zero_mul]
  | d + 1, k => by
    have ih := kcB_C E a0 d (k + 1)
    rw [show k + (d + 1) + 1 = (k + 1) + d + 1 by omega, ← ih]
    rw [kcS_cg (g := fun m => kcS (fun a => if E (d + 1) a m = true then kcB E a0 d a * kcC E k (d + 1 + 1) m else 0) 10) 10 (fun m _ => ?_)]
    · rw [kcS_swap 10 10]
      refine kcS_cg 10 (fun a _ => ?_)
      rw [kcC_s, ← kcS_mulL]
      refine kcS_cg 10 (fun m _ => ?_)
      by_cases h : E (d + 1) a m = true
      · rw [if_pos h, if_pos h]
      · rw [if_neg h, if_neg h, Nat.mul_zero]
    · show kcB E a0 (d + 1) m * kcC E k (d + 1 + 1) m = _
      rw [kcB_s, ← kcS_mul]
      refine kcS_cg 10 (fun a _ => ?_)
      by_cases h : E (d + 1) a m = true
      · rw [if_pos h, if_pos h]
      · rw [if_neg h, if_neg h, Nat.zero_mul]
theorem kcB_all (E : Nat → Nat → Nat → Bool) (a0 d : Nat) : kcS (kcB E a0 d) 10 = kcC E (d + 1) 0 a0 := by
  have h := kcB_C E a0 d 0
  rw [Nat.zero_add] at h
  rw [← h]
  exact kcS_cg 10 (fun m _ => (Nat.mul_one _).symm)
/-! the week of a number -/
def kcP (w : Nat → Nat) : Nat → Nat → Nat → Nat × Nat
  | 0, m, x => (m, x)
  | f + 1, m, x => if x < w m then (m, x) else kcP w f (m + 1) (x - w m)
theorem kcP_s (w : Nat → Nat) (f m x : Nat) : kcP w (f + 1) m x = if x < w m then (m, x) else kcP w f (m + 1) (x - w m) := rfl
theorem kcP_go {w : Nat → Nat} {m x : Nat} (hm : m < 10) (h : ¬ x < w m) : kcP w (10 - m) m x = kcP w (10 - (m + 1)) (m + 1) (x - w m) := by
  rw [show 10 - m = (10 - (m + 1)) + 1 by omega, kcP_s, if_neg h]
theorem kcP_at {w : Nat → Nat} {m x : Nat} (hm : m < 10) (h : x < w m) : kcP w (10 - m) m x = (m, x) := by
  rw [show 10 - m = (10 - (m + 1)) + 1 by omega, kcP_s, if_pos h]
/-- what is left of a sum from a place on -/
def kcT (w : Nat → Nat) : Nat → Nat → Nat
  | 0, _ => 0
  | f + 1, m => w m + kcT w f (m + 1)
theorem kcT_S (w : Nat → Nat) : ∀ f m, kcS w m + kcT w f m = kcS w (m + f)
  | 0, m => rfl
  | f + 1, m => by
    show kcS w m + (w m + kcT w f (m + 1)) = _
    have h := kcT_S w f (m + 1)
    rw [show m + (f + 1) = m + 1 + f by omega, ← h]
    show kcS w m + (w m + kcT w f (m + 1)) = (kcS w m + w m) + kcT w f (m + 1)
    omega
theorem kcP_in {w : Nat → Nat} : ∀ f m x, x < kcT w f m → (kcP w f m x).1 < m + f ∧ (kcP w f m x).2 < w (kcP w f m x).1
  | 0, m, x, h => absurd h (Nat.not_lt_zero x)
  | f + 1, m, x, h => by
    rw [kcP_s]
    have h1 : x < w m + kcT w f (m + 1) := h
    by_cases c : x < w m
    · rw [if_pos c]; exact ⟨by show m < m + (f + 1); omega, c⟩
    · rw [if_neg c]
      have h2 := kcP_in (w := w) f (m + 1) (x - w m) (by omega)
      exact ⟨by omega, h2.2⟩
theorem kcP_10 {w : Nat → Nat} {x : Nat} (h : x < kcS w 10) : (kcP w 10 0 x).1 < 10 ∧ (kcP w 10 0 x).2 < w (kcP w 10 0 x).1 := by
  have h0 := kcT_S w 10 0
  have h1 : kcS w 0 = 0 := rfl
  have h2 := kcP_in (w := w) 10 0 x (by rw [show 0 + 10 = 10 from rfl] at h0; omega)
  exact ⟨by omega, h2.2⟩
/-- the first with some -/
theorem kcP_zero {w : Nat → Nat} : ∀ f m j, m ≤ j → j < m + f → 0 < w j → (∀ i, m ≤ i → i < j → w i = 0) → kcP w f m 0 = (j, 0)
  | 0, m, j, h1, h2, _, _ => absurd h2 (by omega)
  | f + 1, m, j, h1, h2, h3, h4 => by
    rw [kcP_s]
    by_cases e : j = m
    · subst e; rw [if_pos h3]
    · rw [if_neg (by rw [h4 m (Nat.le_refl m) (by omega)]; omega), Nat.zero_sub]
      exact kcP_zero f (m + 1) j (by omega) (by omega) h3 (fun i hi hj => h4 i (by omega) hj)
def kcW (E : Nat → Nat → Nat → Bool) (n d a m : Nat) : Nat := if E d a m = true then kcC E (n - (d + 1)) (d + 1) m else 0
/-- ahead of a day: the mood, and what is left of the number -/
def kcA (E : Nat → Nat → Nat → Bool) (n a0 x : Nat) : Nat → Nat × Nat
  | 0 => (a0, x)
  | d + 1 => kcP (kcW E n d (kcA E n a0 x d).1) 10 0 (kcA E n a0 x d).2
theorem kcA_s (E : Nat → Nat → Nat → Bool) (n a0 x d : Nat) : kcA E n a0 x (d + 1) = kcP (kcW E n d (kcA E n a0 x d).1) 10 0 (kcA E n a0 x d).2 := rfl
theorem kcW_S {E : Nat → Nat → Nat → Bool} {n d a : Nat} (h : d < n) : kcS (kcW E n d a) 10 = kcC E (n - d) d a := by
  rw [show n - d = (n - (d + 1)) + 1 by omega, kcC_s]
  rfl
theorem kcA_ok {E : Nat → Nat → Nat → Bool} {n a0 x : Nat} (ha : a0 < 10) (h : x < kcC E n 0 a0) : ∀ d, d ≤ n → (kcA E n a0 x d).1 < 10 ∧ (kcA E n a0 x d).2 < kcC E (n - d) d (kcA E n a0 x d).1
  | 0, _ => ⟨ha, h⟩
  | d + 1, hd => by
    obtain ⟨h1, h2⟩ := kcA_ok ha h d (by omega)
    rw [← kcW_S (by omega)] at h2
    obtain ⟨h3, h4⟩ := kcP_10 h2
    rw [kcA_s]
    refine ⟨h3, ?_⟩
    generalize kcP (kcW E n d (kcA E n a0 x d).1) 10 0 (kcA E n a0 x d).2 = q at h3 h4 ⊢
    unfold kcW at h4
    split at h4
    · exact h4
    · exact absurd h4 (Nat.not_lt_zero _)
/-- the mood of a day in the week of a number -/
def kcM (E : Nat → Nat → Nat → Bool) (n a0 x d : Nat) : Nat := (kcA E n a0 x (d + 1)).1
/-! masks of ten bits -/
def kcK (P : Nat → Bool) : Nat → Nat
  | 0 => 0
  | n + 1 => kcK P n + (if P n = true then 2 ^ n else 0)
theorem kcK_lt (P : Nat → Bool) : ∀ n, kcK P n < 2 ^ n
  | 0 => Nat.le_refl 1
  | n + 1 => by
    have h := kcK_lt P n
    show kcK P n + (if P n = true then 2 ^ n else 0) < 2 ^ (n + 1)
    rw [Nat.pow_succ]
    split <;> omega
theorem kcK_s (P : Nat → Bool) (n : Nat) : kcK P (n + 1) = kcK P n + (if P n = true then 2 ^ n else 0) := rfl
theorem kcK_or (P : Nat → Bool) (n : Nat) (h : P n = true) : kcK P n ||| 2 ^ n = kcK P (n + 1) := by
  rw [kcK_s, if_pos h, Nat.or_comm, Nat.add_comm]
  have h1 := Nat.two_pow_add_eq_or_of_lt (kcK_lt P n) 1
  rw [Nat.mul_one] at h1
  exact h1.symm
theorem kcK_no (P : Nat → Bool) (n : Nat) (h : ¬ P n = true) : kcK P (n + 1) = kcK P n := by
  rw [kcK_s, if_neg h, Nat.add_zero]
theorem kcK_bit (P : Nat → Bool) : ∀ n j, (kcK P n).testBit j = (decide (j < n) && P j)
  | 0, j => by
    show Nat.testBit 0 j = _
    rw [Nat.zero_testBit]
    rfl
  | n + 1, j => by
    by_cases h : P n = true
    · rw [← kcK_or P n h, Nat.testBit_or, kcK_bit P n j, Nat.testBit_two_pow]
      by_cases e : n = j
      · subst e
        rw [h]
        simp
      · rw [show decide (n = j) = false from decide_eq_false e, Bool.or_false]
        by_cases l : j < n
        · rw [show decide (j < n) = true from decide_eq_true l, show decide (j < n + 1) = true from decide_eq_true (by omega)]
        · rw [show decide (j < n) = false from decide_eq_false l, show decide (j < n + 1) = false from decide_eq_false (by omega)]
    · rw [kcK_no P n h, kcK_bit P n j]
      by_cases e : j = n
      · subst e
        rw [Bool.not_eq_true] at h
        rw [h, Bool.and_false, Bool.and_false]
      · by_cases l : j < n
        · rw [show decide (j < n) = true from decide_eq_true l, show decide (j < n + 1) = true from decide_eq_true (by omega)]
        · rw [show decide (j < n) = false from decide_eq_false l, show decide (j < n + 1) = false from decide_eq_false (by omega)]
theorem kcK_z (P : Nat → Bool) : ∀ n, kcK P n = 0 ↔ ∀ j, j < n → P j = false
  | 0 => ⟨fun _ j hj => absurd hj (Nat.not_lt_zero j), fun _ => rfl⟩
  | n + 1 => by
    have hp : 0 < 2 ^ n := Nat.two_pow_pos n
    constructor
    · intro h j hj
      rw [kcK_s] at h
      by_cases c : P n = true
      · rw [if_pos c] at h; omega
      · rw [if_neg c, Nat.add_zero] at h
        by_cases e : j = n
        · subst e
          cases hq : P j with
          | false => rfl
          | true => exact absurd hq c
        · exact (kcK_z P n).mp h j (by omega)
    · intro h
      rw [kcK_s, (kcK_z P n).mpr (fun j hj => h j (by omega)), h n (by omega)]
      rfl
