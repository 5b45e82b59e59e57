def CWs : List (List Nat) := [[108, 111, 99, 107], [102, 114, 111, 109], [98, 97, 114, 103, 101], [119, 101, 116], [109, 117, 116, 101], [115, 97, 121, 115], [100, 111, 101, 115], [119, 97, 103, 101], [114, 97, 105, 110], [109, 111, 111, 100], [100, 97, 121], [119, 101, 101, 107], [116, 111, 108, 100], [97, 108, 111, 110, 101], [110, 117, 109, 98, 101, 114], [102, 105, 114, 115, 116], [119, 101, 101, 107, 115], [111, 114], [97, 110, 100], [110, 111, 116], [97, 108, 108], [109, 105, 110], [109, 97, 120], [108, 97, 115, 116], [111, 102, 116, 101, 110], [116, 111, 116, 97, 108], [109, 111, 115, 116], [108, 101, 97, 115, 116]]
theorem rr_1 {b : Nat} {P Q : Prop} (h : (b = 0 ∧ P) ∨ (b = 1 ∧ Q)) (hb : ¬ b = 0) : Q := (h.resolve_left (fun q => hb q.1)).2
theorem rr_0 {b : Nat} {P Q : Prop} (h : (b = 0 ∧ P) ∨ (b = 1 ∧ Q)) (hb : b = 0) : P := (h.resolve_right (fun q => absurd (hb.symm.trans q.1) (by decide))).2
theorem run_all (q : Nat → Bool) (tb : Nat → Nat) (n : Nat) : ∀ k a j, a ≤ j → j < run q tb n k a → j < n ∧ q (tb j) = true
  | 0, a, j, h1, h2 => by rw [run] at h2; omega
  | k + 1, a, j, h1, h2 => by
    rw [run] at h2
    split at h2
    · next hc =>
      by_cases e : j = a
      · subst e; exact hc
      · exact run_all q tb n k (a + 1) j (by omega) h2
    · omega
theorem ext_all {q : Nat → Bool} {tb : Nat → Nat} {n a j : Nat} (h1 : a ≤ j) (h2 : j < ext q tb n a) : j < n ∧ q (tb j) = true := run_all q tb n _ a j h1 h2
theorem ext_fin {q : Nat → Bool} {tb : Nat → Nat} {n x z : Nat} (hz : ext q tb n z = ext q tb n x) (h : ¬ (z < n ∧ q (tb z) = true)) : z = ext q tb n x := (ext_stop h).symm.trans hz
theorem ext_nxt {q : Nat → Bool} {tb : Nat → Nat} {n x z : Nat} (hz : ext q tb n z = ext q tb n x) (h : z < n) (hq : q (tb z) = true) : ext q tb n (z + 1) = ext q tb n x := (ext_go h hq).trans hz
theorem wl_len {tb : Nat → Nat} {n s : Nat} : (wl tb n s).length = ext qL tb n s - s := by simp [wl]
theorem wl_getD {tb : Nat → Nat} {n s t : Nat} : (wl tb n s).getD t 32 = if s + t < ext qL tb n s then tb (s + t) else 32 := by
  unfold wl
  rw [List.getD_eq_getElem?_getD, List.getElem?_map]
  by_cases h : t < ext qL tb n s - s
  · rw [if_pos (by omega), List.getElem?_eq_getElem (by rw [List.length_range]; exact h), List.getElem_range]; rfl
  · rw [if_neg (by omega), List.getElem?_eq_none (by rw [List.length_range]; omega)]; rfl
theorem wl_let {tb : Nat → Nat} {n s : Nat} : ∀ x ∈ wl tb n s, 97 ≤ x ∧ x ≤ 122 := by
  intro x hx
  unfold wl at hx
  obtain ⟨i, hi, rfl⟩ := List.mem_map.mp hx
  have h1 := List.mem_range.mp hi
  exact qL_t.mp (ext_all (n := n) (a := s) (by omega) (by omega)).2
theorem gd_in {u : List Nat} {t : Nat} (h : t < u.length) : u.getD t 32 = u[t] := by rw [List.getD_eq_getElem?_getD, List.getElem?_eq_getElem h, Option.getD_some]
theorem gd_out {u : List Nat} {t : Nat} (h : u.length ≤ t) : u.getD t 32 = 32 := by rw [List.getD_eq_getElem?_getD, List.getElem?_eq_none h, Option.getD_none]
theorem pad_eq {u w : List Nat} (hu : ∀ x ∈ u, 97 ≤ x) (hw : ∀ x ∈ w, 97 ≤ x) (lu : u.length ≤ 6) (lw : w.length ≤ 6) (h : ∀ t, t < 6 → u.getD t 32 = w.getD t 32) : u = w := by
  refine List.ext_getElem? (fun t => ?_)
  by_cases a : t < u.length
  · have h1 := h t (by omega)
    rw [gd_in a] at h1
    have h2 := hu _ (List.getElem_mem a)
    by_cases b : t < w.length
    · rw [gd_in b] at h1
      rw [List.getElem?_eq_getElem a, List.getElem?_eq_getElem b, h1]
    · rw [gd_out (by omega)] at h1; omega
  · by_cases b : t < w.length
    · have h1 := h t (by omega)
      rw [gd_in b, gd_out (by omega)] at h1
      have h2 := hw _ (List.getElem_mem b)
      omega
    · rw [List.getElem?_eq_none (by omega), List.getElem?_eq_none (by omega)]
theorem gd_le {w : List Nat} (hw : ∀ x ∈ w, 97 ≤ x ∧ x ≤ 122) (t : Nat) : w.getD t 32 ≤ 122 := by
  by_cases b : t < w.length
  · rw [gd_in b]; exact (hw _ (List.getElem_mem b)).2
  · rw [gd_out (by omega)]; omega
theorem cw_by : ∀ k, k < 28 → ∀ t, t < 6 → skBy.getD (6 * k + t) 0 = nI ((CWs.getD k []).getD t 32) := by decide +kernel
theorem cw_let : ∀ k, k < 28 → (∀ x ∈ CWs.getD k [], 97 ≤ x ∧ x ≤ 122) ∧ (CWs.getD k []).length ≤ 6 := by decide +kernel
theorem cw_nd : ∀ k, k < 28 → ∀ j, j < k → ¬ CWs.getD j [] = CWs.getD k [] := by decide +kernel
/-! the class's own list of words, searched from its beginning -/
def cwF (w : List Nat) : Nat → Nat → Option Nat
  | 0, _ => none
  | m + 1, k => if CWs.getD k [] = w then some k else cwF w m (k + 1)
theorem cwF_some {w : List Nat} : ∀ m k i, (∀ j, k ≤ j → j < i → ¬ CWs.getD j [] = w) → CWs.getD i [] = w → k ≤ i → i < k + m → cwF w m k = some i
  | 0, k, i, _, _, h1, h2 => absurd h2 (by omega)
  | m + 1, k, i, h, e, h1, h2 => by
    rw [cwF]
    by_cases q : k = i
    · subst q; rw [if_pos e]
    · rw [if_neg (h k (Nat.le_refl _) (by omega))]
      exact cwF_some m (k + 1) i (fun j a b => h j (by omega) b) e (by omega) (by omega)
theorem cwF_none {w : List Nat} : ∀ m k, (∀ j, k ≤ j → j < k + m → ¬ CWs.getD j [] = w) → cwF w m k = none
  | 0, k, _ => rfl
  | m + 1, k, h => by
    rw [cwF, if_neg (h k (Nat.le_refl _) (by omega))]
    exact cwF_none m (k + 1) (fun j a b => h j (by omega) (by omega))
theorem cwF_spec {w : List Nat} : ∀ m k i, cwF w m k = some i → CWs.getD i [] = w ∧ k ≤ i ∧ i < k + m
  | 0, k, i, h => by cases h
  | m + 1, k, i, h => by
    rw [cwF] at h
    split at h
    · next e => cases h; exact ⟨e, by omega, by omega⟩
    · have := cwF_spec m (k + 1) i h
      exact ⟨this.1, by omega, by omega⟩
def wordTok (w : List Nat) : Int32 := match cwF w 28 0 with | some k => nI (256 + k) | none => -2
def noW (k : Nat) (w : List Nat) : Prop := ∀ j, j < k → ¬ CWs.getD j [] = w
theorem noW_0 (w : List Nat) : noW 0 w := fun j h => absurd h (by omega)
theorem noW_s {k : Nat} {w : List Nat} (h : noW k w) (h1 : ¬ CWs.getD k [] = w) : noW (k + 1) w := by
  intro j hj
  by_cases q : j = k
  · subst q; exact h1
  · exact h j (by omega)
theorem wt_some {k : Nat} {w : List Nat} (hk : k < 28) (h : noW k w) (e : CWs.getD k [] = w) : wordTok w = nI (256 + k) := by
  unfold wordTok
  rw [cwF_some 28 0 k (fun j _ b => h j b) e (by omega) (by omega)]
theorem wt_none {w : List Nat} (h : noW 28 w) : wordTok w = -2 := by
  unfold wordTok
  rw [cwF_none 28 0 (fun j _ b => h j (by omega))]
theorem wt_cw {k : Nat} (hk : k < 28) : wordTok (CWs.getD k []) = nI (256 + k) := wt_some hk (fun j hj => cw_nd k hk j hj) rfl
theorem wt_cases (w : List Nat) : (wordTok w = -2 ∧ ∀ k, k < 28 → ¬ CWs.getD k [] = w) ∨ ∃ k, k < 28 ∧ CWs.getD k [] = w ∧ wordTok w = nI (256 + k) := by
  cases h : cwF w 28 0 with
  | some k =>
    have := cwF_spec 28 0 k h
    exact Or.inr ⟨k, by omega, this.1, by unfold wordTok; rw [h]⟩
  | none =>
    refine Or.inl ⟨by unfold wordTok; rw [h], fun k hk e => ?_⟩
    rw [← e] at h
    have := cwF_some (w := CWs.getD k []) 28 0 k (fun j _ b => cw_nd k hk j b) rfl (by omega) (by omega)
    rw [this] at h
    cases h
theorem wt_long {w : List Nat} (h : 6 < w.length) : wordTok w = -2 := wt_none (fun j hj e => by
  have := (cw_let j hj).2
  rw [e] at this
  omega)
/-! letters alike -/
def eqP (k : Nat) (w : List Nat) (j : Nat) : Prop := ∀ t, t < j → skBy.getD (k + t) 0 = nI (w.getD t 32)
theorem eqP_0 (k : Nat) (w : List Nat) : eqP k w 0 := fun t h => absurd h (by omega)
theorem eqP_s {k j : Nat} {w : List Nat} (h : eqP k w j) (h1 : skBy.getD (k + j) 0 = nI (w.getD j 32)) : eqP k w (j + 1) := by
  intro t ht
  by_cases q : t = j
  · subst q; exact h1
  · exact h t (by omega)
theorem eqP_n {k j : Nat} {w : List Nat} (h1 : ¬ skBy.getD (k + j) 0 = nI (w.getD j 32)) : ¬ eqP k w (j + 1) := fun h => h1 (h j (by omega))
theorem eqP_cw {i : Nat} {w : List Nat} (hi : i < 168) (h6 : i % 6 = 0) (hw : ∀ x ∈ w, 97 ≤ x ∧ x ≤ 122) (lw : w.length ≤ 6) (h : eqP i w 6) : CWs.getD (i / 6) [] = w := by
  have hk : i / 6 < 28 := by omega
  refine pad_eq (fun x hx => ((cw_let _ hk).1 x hx).1) (fun x hx => (hw x hx).1) (cw_let _ hk).2 lw (fun t ht => ?_)
  have h1 := h t ht
  rw [show i + t = 6 * (i / 6) + t by omega, cw_by _ hk t ht] at h1
  have b1 := gd_le (cw_let _ hk).1 t
  have b2 := gd_le hw t
  exact (nI_eq (by omega) (by omega)).mp h1
theorem eqP_no {i j : Nat} {w : List Nat} (hi : i < 168) (h6 : i % 6 = 0) (hj : j ≤ 6) (h : ¬ eqP i w j) : ¬ CWs.getD (i / 6) [] = w := fun e => h (fun t ht => by
  have h1 := cw_by (i / 6) (by omega) t (by omega)
  rw [show 6 * (i / 6) + t = i + t by omega, e] at h1
  exact h1)
/-! the token at a cursor, as the class numbers them -/
def tokOf (tb : Nat → Nat) (n : Nat) (c : Cur) : Int32 := if c.1 < n then (if qL (tb c.1) = true then (if c.2 = true then -2 else wordTok (wl tb n c.1)) else if qD (tb c.1) = true then (if c.2 = true then -2 else -3) else nI (tb c.1)) else -1
theorem tok_cases (tb : Nat → Nat) (n : Nat) (c : Cur) : (n ≤ c.1 ∧ tokOf tb n c = -1) ∨ (c.1 < n ∧ (qL (tb c.1) = true ∨ qD (tb c.1) = true) ∧ c.2 = true ∧ tokOf tb n c = -2) ∨ (c.1 < n ∧ qL (tb c.1) = true ∧ c.2 = false ∧ tokOf tb n c = wordTok (wl tb n c.1)) ∨ (c.1 < n ∧ qL (tb c.1) = false ∧ qD (tb c.1) = true ∧ c.2 = false ∧ tokOf tb n c = -3) ∨ (c.1 < n ∧ qL (tb c.1) = false ∧ qD (tb c.1) = false ∧ tokOf tb n c = nI (tb c.1)) := by
  unfold tokOf
  by_cases h : c.1 < n
  · rw [if_pos h]
    cases hl : qL (tb c.1) with
    | true =>
      rw [if_pos rfl]
      cases hc : c.2 with
      | true => rw [if_pos rfl]; exact Or.inr (Or.inl ⟨h, Or.inl rfl, rfl, rfl⟩)
      | false => rw [if_neg (by decide)]; exact Or.inr (Or.inr (Or.inl ⟨h, rfl, rfl, rfl⟩))
    | false =>
      rw [if_neg (by decide)]
      cases hd : qD (tb c.1) with
      | true =>
        rw [if_pos rfl]
        cases hc : c.2 with
        | true => rw [if_pos rfl]; exact Or.inr (Or.inl ⟨h, Or.inr rfl, rfl, rfl⟩)
        | false => rw [if_neg (by decide)]; exact Or.inr (Or.inr (Or.inr (Or.inl ⟨h, rfl, rfl, rfl, rfl⟩)))
      | false => rw [if_neg (by decide)]; exact Or.inr (Or.inr (Or.inr (Or.inr ⟨h, rfl, rfl, rfl⟩)))
  · rw [if_neg h]; exact Or.inl ⟨by omega, rfl⟩
theorem i_m1 : ((-1 : Int32)).toInt = -1 := by decide
theorem i_m2 : ((-2 : Int32)).toInt = -2 := by decide
theorem i_m3 : ((-3 : Int32)).toInt = -3 := by decide
theorem i_nI {k : Nat} (h : k < 2147483648) : (nI k).toInt = (k : Int) := nI_toInt h
theorem i_eq {x y : Int32} (h : x = y) : x.toInt = y.toInt := by rw [h]
theorem tok_W {tb : Nat → Nat} {n k : Nat} {c : Cur} (htb : ∀ j, tb j ≤ 255) (hk : k < 28) : tokOf tb n c = nI (256 + k) ↔ isW tb n (CWs.getD k []) c = true := by
  have e0 := i_nI (k := 256 + k) (by omega)
  have hb := htb c.1
  unfold isW
  rw [Bool.and_eq_true, Bool.and_eq_true, Bool.and_eq_true, decide_eq_true_iff, beq_iff_eq, Bool.not_eq_true']
  rcases tok_cases tb n c with ⟨h1, h2⟩ | ⟨h1, h2, h3, h4⟩ | ⟨h1, h2, h3, h4⟩ | ⟨h1, h2, h3, h4, h5⟩ | ⟨h1, h2, h3, h4⟩
  · exact ⟨fun q => by have := i_eq (h2.symm.trans q); rw [e0, i_m1] at this; omega, fun q => absurd q.1.1.1 (by omega)⟩
  · exact ⟨fun q => by have := i_eq (h4.symm.trans q); rw [e0, i_m2] at this; omega, fun q => by have := q.1.1.2; rw [h3] at this; cases this⟩
  · rw [h4]
    rcases wt_cases (wl tb n c.1) with ⟨w1, w2⟩ | ⟨j, w1, w2, w3⟩
    · rw [w1]
      exact ⟨fun q => by have := i_eq q; rw [e0, i_m2] at this; omega, fun q => absurd q.2.symm (w2 k hk)⟩
    · rw [w3]
      have e1 := i_nI (k := 256 + j) (by omega)
      refine ⟨fun q => ?_, fun q => ?_⟩
      · have := i_eq q
        rw [e0, e1] at this
        have : j = k := by omega
        subst this
        exact ⟨⟨⟨h1, h3⟩, h2⟩, w2.symm⟩
      · have e3 : wordTok (wl tb n c.1) = nI (256 + k) := by rw [q.2]; exact wt_cw hk
        rw [← w3, e3]
  · exact ⟨fun q => by have := i_eq (h5.symm.trans q); rw [e0, i_m3] at this; omega, fun q => by have := q.1.2; rw [h2] at this; cases this⟩
  · exact ⟨fun q => by have := i_eq (h4.symm.trans q); rw [e0, i_nI (by omega)] at this; omega, fun q => by have := q.1.2; rw [h2] at this; cases this⟩
theorem tok_S {tb : Nat → Nat} {n b : Nat} {c : Cur} (htb : ∀ j, tb j ≤ 255) (hb : b < 256 ∧ ¬ (97 ≤ b ∧ b ≤ 122) ∧ ¬ (48 ≤ b ∧ b ≤ 57)) : tokOf tb n c = nI b ↔ isS tb n b c = true := by
  have e0 := i_nI (k := b) (by omega)
  have hx := htb c.1
  unfold isS
  rw [Bool.and_eq_true, decide_eq_true_iff, beq_iff_eq]
  rcases tok_cases tb n c with ⟨h1, h2⟩ | ⟨h1, h2, h3, h4⟩ | ⟨h1, h2, h3, h4⟩ | ⟨h1, h2, h3, h4, h5⟩ | ⟨h1, h2, h3, h4⟩
  · exact ⟨fun q => by have := i_eq (h2.symm.trans q); rw [e0, i_m1] at this; omega, fun q => absurd q.1 (by omega)⟩
  · refine ⟨fun q => by have := i_eq (h4.symm.trans q); rw [e0, i_m2] at this; omega, fun q => ?_⟩
    rw [q.2, qL_t, qD_t] at h2; omega
  · refine ⟨fun q => ?_, fun q => by rw [q.2, qL_t] at h2; omega⟩
    rw [h4] at q
    rcases wt_cases (wl tb n c.1) with ⟨w1, w2⟩ | ⟨j, w1, w2, w3⟩
    · rw [w1] at q; have := i_eq q; rw [e0, i_m2] at this; omega
    · rw [w3] at q; have := i_eq q; rw [e0, i_nI (by omega)] at this; omega
  · exact ⟨fun q => by have := i_eq (h5.symm.trans q); rw [e0, i_m3] at this; omega, fun q => by rw [q.2, qD_t] at h3; omega⟩
  · rw [h4]
    refine ⟨fun q => ⟨h1, (nI_eq (by omega) (by omega)).mp q⟩, fun q => by rw [q.2]⟩
theorem tok_N {tb : Nat → Nat} {n : Nat} {c : Cur} (htb : ∀ j, tb j ≤ 255) : tokOf tb n c = -3 ↔ (c.1 < n ∧ qD (tb c.1) = true ∧ c.2 = false) := by
  have hx := htb c.1
  rcases tok_cases tb n c with ⟨h1, h2⟩ | ⟨h1, h2, h3, h4⟩ | ⟨h1, h2, h3, h4⟩ | ⟨h1, h2, h3, h4, h5⟩ | ⟨h1, h2, h3, h4⟩
  · exact ⟨fun q => by have := i_eq (h2.symm.trans q); rw [i_m3, i_m1] at this; omega, fun q => absurd q.1 (by omega)⟩
  · exact ⟨fun q => by have := i_eq (h4.symm.trans q); rw [i_m3, i_m2] at this; omega, fun q => by rw [q.2.2] at h3; cases h3⟩
  · refine ⟨fun q => ?_, fun q => by rw [qL_t] at h2; have := qD_t.mp q.2.1; omega⟩
    rw [h4] at q
    rcases wt_cases (wl tb n c.1) with ⟨w1, w2⟩ | ⟨j, w1, w2, w3⟩
    · rw [w1] at q; have := i_eq q; rw [i_m3, i_m2] at this; omega
    · rw [w3] at q; have := i_eq q; rw [i_m3, i_nI (by omega)] at this; omega
  · exact ⟨fun _ => ⟨h1, h3, h4⟩, fun _ => h5⟩
  · exact ⟨fun q => by have := i_eq (h4.symm.trans q); rw [i_m3, i_nI (by omega)] at this; omega, fun q => by rw [q.2.1] at h3; cases h3⟩
theorem tok_E {tb : Nat → Nat} {n : Nat} {c : Cur} (htb : ∀ j, tb j ≤ 255) : tokOf tb n c = -1 ↔ n ≤ c.1 := by
  have hx := htb c.1
  rcases tok_cases tb n c with ⟨h1, h2⟩ | ⟨h1, h2, h3, h4⟩ | ⟨h1, h2, h3, h4⟩ | ⟨h1, h2, h3, h4, h5⟩ | ⟨h1, h2, h3, h4⟩
  · exact ⟨fun _ => h1, fun _ => h2⟩
  · exact ⟨fun q => by have := i_eq (h4.symm.trans q); rw [i_m1, i_m2] at this; omega, fun q => absurd q (by omega)⟩
  · refine ⟨fun q => ?_, fun q => absurd q (by omega)⟩
    rw [h4] at q
    rcases wt_cases (wl tb n c.1) with ⟨w1, w2⟩ | ⟨j, w1, w2, w3⟩
    · rw [w1] at q; have := i_eq q; rw [i_m1, i_m2] at this; omega
    · rw [w3] at q; have := i_eq q; rw [i_m1, i_nI (by omega)] at this; omega
  · exact ⟨fun q => by have := i_eq (h5.symm.trans q); rw [i_m1, i_m3] at this; omega, fun q => absurd q (by omega)⟩
  · exact ⟨fun q => by have := i_eq (h4.symm.trans q); rw [i_m1, i_nI (by omega)] at this; omega, fun q => absurd q (by omega)⟩
/-- a token from which one can step: neither the end nor a wrong one; whether it is a word or a number -/
theorem tok_real {tb : Nat → Nat} {n : Nat} {c : Cur} (htb : ∀ j, tb j ≤ 255) (h1 : ¬ tokOf tb n c = -1) (h2 : ¬ tokOf tb n c = -2) : c.1 < n ∧ ((qL (tb c.1) || qD (tb c.1)) = true ↔ (tokOf tb n c = -3 ∨ (256 : Int32) ≤ tokOf tb n c)) := by
  have hx := htb c.1
  have e256 : ((256 : Int32)).toInt = 256 := by decide
  rw [Int32.le_iff_toInt_le, e256]
  rcases tok_cases tb n c with ⟨q1, q2⟩ | ⟨q1, q2, q3, q4⟩ | ⟨q1, q2, q3, q4⟩ | ⟨q1, q2, q3, q4, q5⟩ | ⟨q1, q2, q3, q4⟩
  · exact absurd q2 h1
  · exact absurd q4 h2
  · refine ⟨q1, fun _ => ?_, fun _ => by rw [q2]; rfl⟩
    rw [q4] at h2 ⊢
    rcases wt_cases (wl tb n c.1) with ⟨w1, w2⟩ | ⟨j, w1, w2, w3⟩
    · exact absurd w1 h2
    · rw [w3, i_nI (by omega)]; exact Or.inr (by omega)
  · exact ⟨q1, fun _ => Or.inl q5, fun _ => by rw [q3, Bool.or_true]⟩
  · refine ⟨q1, fun q => (by rw [q2, q3] at q; cases q), fun q => ?_⟩
    rw [q4] at q
    rw [i_nI (by omega)] at q
    rcases q with q | q
    · have := i_eq q; rw [i_m3, i_nI (by omega)] at this; omega
    · omega
/-! numbers -/
def numV (tb : Nat → Nat) (n a : Nat) : Nat := vd tb a (min 4 (ext qD tb n a - a))
