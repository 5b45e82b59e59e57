def CWs : List (List Nat) := [[108, 111, 99, 107], [102, 114, 111, 109], [98, 97, 114, 103, 101], [119, 101, 116], [109, 117, 116, 101], [115, 97, 121, 115], [100, 111, 101, 115], [119, 97, 103, 101], [114, 97, 105, 110], [109, 111, 111, 100], [100, 97, 121], [119, 101, 101, 107], [116, 111, 108, 100], [97, 108, 111, 110, 101], [110, 117, 109, 98, 101, 114], [102, 105, 114, 115, 116], [119, 101, 101, 107, 115], [111, 114], [97, 110, 100], [110, 111, 116], [97, 108, 108], [109, 105, 110], [109, 97, 120], [108, 97, 115, 116], [111, 102, 116, 101, 110], [116, 111, 116, 97, 108], [109, 111, 115, 116], [108, 101, 97, 115, 116]]
theorem rr_1 {b : Nat} {P Q : Prop} (h : (b = 0 ∧ P) ∨ (b = 1 ∧ Q)) (hb : ¬ b = 0) : Q := (h.resolve_left (fun q => hb q.1)).2
theorem rr_0 {b : Nat} {P Q : Prop} (h : (b = 0 ∧ P) ∨ (b = 1 ∧ Q)) (hb : b = 0) : P := (h.resolve_right (fun q => absurd (hb.symm.trans q.1) (by decide))).2
theorem run_all (q : Nat → Bool) (tb : Nat → Nat) (n : Nat) : ∀ k a j, a ≤ j → j < run q tb n k a → j < n ∧ q (tb j) = true
  | 0, a, j, h1, h2 => by rw [run] at h2; omega
  | k + 1, a, j, h1, h2 => by
    rw [run] at h2
    split at h2
    · next hc =>
      by_cases e : j = a
      · subst e; exact hc
      · exact run_all q tb n k (a + 1) j (by omega) h2
    · omega
theorem ext_all {q : Nat → Bool} {tb : Nat → Nat} {n a j : Nat} (h1 : a ≤ j) (h2 : j < ext q tb n a) : j < n ∧ q (tb j) = true := run_all q tb n _ a j h1 h2
theorem ext_fin {q : Nat → Bool} {tb : Nat → Nat} {n x z : Nat} (hz : ext q tb n z = ext q tb n x) (h : ¬ (z < n ∧ q (tb z) = true)) : z = ext q tb n x := (ext_stop h).symm.trans hz
theorem ext_nxt {q : Nat → Bool} {tb : Nat → Nat} {n x z : Nat} (hz : ext q tb n z = ext q tb n x) (h : z < n) (hq : q (tb z) = true) : ext q tb n (z + 1) = ext q tb n x := (ext_go h hq).trans hz
theorem wl_len {tb : Nat → Nat} {n s : Nat} : (wl tb n s).length = ext qL tb n s - s := by simp [wl]
theorem wl_getD {tb : Nat → Nat} {n s t : Nat} : (wl tb n s).getD t 32 = if s + t < ext qL tb n s then tb (s + t) else 32 := by
  unfold wl
  rw [List.getD_eq_getElem?_getD, List.getElem?_map]
  by_cases h : t < ext qL tb n s - s
  · rw [if_pos (by omega), List.getElem?_eq_getElem (by rw [List.length_range]; exact h), List.getElem_range]; rfl
  · rw [if_neg (by omega), List.getElem?_eq_none (by rw [List.length_range]; omega)]; rfl
theorem wl_let {tb : Nat → Nat} {n s : Nat} : ∀ x ∈ wl tb n s, 97 ≤ x ∧ x ≤ 122 := by
  intro x hx
  unfold wl at hx
  obtain ⟨i, hi, rfl⟩ := List.mem_map.mp hx
  have h1 := List.mem_range.mp hi
  exact qL_t.mp (ext_all (n := n) (a := s) (by omega) (by omega)).2
theorem gd_in {u : List Nat} {t : Nat} (h : t < u.length) : u.getD t 32 = u[t] := by rw [List.getD_eq_getElem?_getD, List.getElem?_eq_getElem h, Option.getD_some]
theorem gd_out {u : List Nat} {t : Nat} (h : u.length ≤ t) : u.getD t 32 = 32 := by rw [List.getD_eq_getElem?_getD, List.getElem?_eq_none h, Option.getD_none]
theorem pad_eq {u w : List Nat} (hu : ∀ x ∈ u, 97 ≤ x) (hw : ∀ x ∈ w, 97 ≤ x) (lu : u.length ≤ 6) (lw : w.length ≤ 6) (h : ∀ t, t < 6 → u.getD t 32 = w.getD t 32) : u = w := by
  refine List.ext_getElem? (fun t => ?_)
  by_cases a : t < u.length
  · have h1 := h t (by omega)
    rw [gd_in a] at h1
    have h2 := hu _ (List.getElem_mem a)
    by_cases b : t < w.length
    · rw [gd_in b] at h1
      rw [List.getElem?_eq_getElem a, List.getElem?_eq_getElem b, h1]
    · rw [gd_out (by omega)] at h1; omega
  · by_cases b : t < w.length
    · have h1 := h t (by omega)
      rw [gd_in b, gd_out (by omega)] at h1
      have h2 := hw _ (List.getElem_mem b)
      omega
    · rw [List.getElem?_eq_none (by omega), List.getElem?_eq_none (by omega)]
theorem gd_le {w : List Nat} (hw : ∀ x ∈ w, 97 ≤ x ∧ x ≤ 122) (t : Nat) : w.getD t 32 ≤ 122 := by
  by_cases b : t < w.length
  · rw [gd_in b]; exact (hw _ (List.getElem_mem b)).2
  · rw [gd_out (by omega)]; omega
theorem cw_by : ∀ k, k < 28 → ∀ t, t < 6 → skBy.getD (6 * k + t) 0 = nI ((CWs.getD k []).getD t 32) := by decide +kernel
theorem cw_let : ∀ k, k < 28 → (∀ x ∈ CWs.getD k [], 97 ≤ x ∧ x ≤ 122) ∧ (CWs.getD k []).length ≤ 6 := by decide +kernel
theorem cw_nd : ∀ k, k < 28 → ∀ j, j < k → ¬ CWs.getD j [] = CWs.getD k [] := by decide +kernel
/-! the class's own list of words, searched from its beginning -/
def cwF (w : List Nat) : Nat → Nat → Option Nat
  | 0, _ => none
  | m + 1, k => if CWs.getD k [] = w then some k else cwF w m (k + 1)
theorem cwF_some {w : List Nat} : ∀ m k i, (∀ j, k ≤ j → j < i → ¬ CWs.getD j [] = w) → CWs.getD i [] = w → k ≤ i → i < k + m → cwF w m k = some i
  | 0, k, i, _, _, h1, h2 => absurd h2 (by omega)
  | m + 1, k, i, h, e, h1, h2 => by
    rw [cwF]
    by_cases q : k = i
    · subst q; rw [if_pos e]
    · rw [if_neg (h k (Nat.le_refl _) (by omega))]
      exact cwF_some m (k + 1) i (fun j a b => h j (by omega) b) e (by omega) (by omega)
theorem cwF_none {w : List Nat} : ∀ m k, (∀ j, k ≤ j → j < k + m → ¬ CWs.getD j [] = w) → cwF w m k = none
  | 0, k, _ => rfl
  | m + 1, k, h => by
    rw [cwF, if_neg (h k (Nat.le_refl _) (by omega))]
    exact cwF_none m (k + 1) (fun j a b => h j (by omega) (by omega))
theorem cwF_spec {w : List Nat} : ∀ m k i, cwF w m k = some i → CWs.getD i [] = w ∧ k ≤ i ∧ i < k + m
  | 0, k, i, h => by cases h
  | m + 1, k, i, h => by
    rw [cwF] at h
    split at h
    · next e => cases h; exact ⟨e, by omega, by omega⟩
    · have := cwF_spec m (k + 1) i h
      exact ⟨this.1, by omega, by omega⟩
def wordTok (w : List Nat) : Int32 := match cwF w 28 0 with | some k => nI (256 + k) | none => -2
def noW (k : Nat) (w : List Nat) : Prop := ∀ j, j < k → ¬ CWs.getD j [] = w
theorem noW_0 (w : List Nat) : noW 0 w := fun j h => absurd h (by omega)
theorem noW_s {k : Nat} {w : List Nat} (h : noW k w) (h1 : ¬ CWs.getD k [] = w) : noW (k + 1) w := by
  intro j hj
  by_cases q : j = k
  · subst q; exact h1
  · exact h j (by omega)
theorem wt_some {k : Nat} {w : List Nat} (hk : k < 28) (h : noW k w) (e : CWs.getD k [] = w) : wordTok w = nI (256 + k) := by
  unfold wordTok
  rw [cwF_some 28 0 k (fun j _ b => h j b) e (by omega) (by omega)]
theorem wt_none {w : List Nat} (h : noW 28 w) : wordTok w = -2 := by
  unfold wordTok
  rw [cwF_none 28 0 (fun j _ b => h j (by omega))]
theorem wt_cw {k : Nat} (hk : k < 28) : wordTok (CWs.getD k []) = nI (256 + k) := wt_some hk (fun j hj => cw_nd k hk j hj) rfl
theorem wt_cases (w : List Nat) : (wordTok w = -2 ∧ ∀ k, k < 28 → ¬ CWs.getD k [] = w) ∨ ∃ k, k < 28 ∧ CWs.getD k [] = w ∧ wordTok w = nI (256 + k) := by
  cases h : cwF w 28 0 with
  | some k =>
    have := cwF_spec 28 0 k h
    exact Or.inr ⟨k, by omega, this.1, by unfold wordTok; rw [h]⟩
  | none =>
    refine Or.inl ⟨by unfold wordTok; rw [h], fun k hk e => ?_⟩
    rw [← e] at h
    have := cwF_some (w := CWs.getD k []) 28 0 k (fun j _ b => cw_nd k hk j b) rfl (by omega) (by omega)
    rw [this] at h
    cases h
theorem wt_long {w : List Nat} (h : 6 < w.length) : wordTok w = -2 := wt_none (fun j hj e => by
  have := (cw_let j hj).2
  rw [e] at this
  omega)
/-! letters alike -/
def eqP (k : Nat) (w : List Nat) (j : Nat) : Prop := ∀ t, t < j → skBy.getD (k + t) 0 = nI (w.getD t 32)
theorem eqP_0 (k : Nat) (w : List Nat) : eqP k w 0 := fun t h => absurd h (by omega)
theorem eqP_s {k j : Nat} {w : List Nat} (h : eqP k w j) (h1 : skBy.getD (k + j) 0 = nI (w.getD j 32)) : eqP k w (j + 1) := by
  intro t ht
  by_cases q : t = j
  · subst q; exact h1
  · exact h t (by omega)
theorem eqP_n {k j : Nat} {w : List Nat} (h1 : ¬ skBy.getD (k + j) 0 = nI (w.getD j 32)) : ¬ eqP k w (j + 1) := fun h => h1 (h j (by omega))
theorem eqP_cw {i : Nat} {w : List Nat} (hi : i < 168) (h6 : i % 6 = 0) (hw : ∀ x ∈ w, 97 ≤ x ∧ x ≤ 122) (lw : w.length ≤ 6) (h : eqP i w 6) : CWs.getD (i / 6) [] = w := by
  have hk : i / 6 < 28 := by omega
  refine pad_eq (fun x hx => ((cw_let _ hk).1 x hx).1) (fun x hx => (hw x hx).1) (cw_let _ hk).2 lw (fun t ht => ?_)
  have h1 := h t ht
  rw [show i + t = 6 * (i / 6) + t by omega, cw_by _ hk t ht] at h1
  have b1 := gd_le (cw_let _ hk).1 t
  have b2 := gd_le hw t
  exact (nI_eq (by omega) (by omega)).mp h1
theorem eqP_no {i j : Nat} {w : List Nat} (hi : i < 168) (h6 : i % 6 = 0) (hj : j ≤ 6) (h : ¬ eqP i w j) : ¬ CWs.getD (i / 6) [] = w := fun e => h (fun t ht => by
  have h1 := cw_by (i / 6) (by omega) t (by omega)
  rw [show 6 * (i / 6) + t = i + t by omega, e] at h1
  exact h1)
/-! the token at a cursor, as the class numbers them -/
def tokOf (tb : Nat → Nat) (n : Nat) (c : Cur) : Int32 := if c.1 < n then (if qL (tb c.1) = true then (if c.2 = true then -2 else wordTok (wl tb n c.1)) else if qD (tb c.1) = true then (if c.2 = true then -2 else -3) else nI (tb c.1)) else -1
theorem tok_cases (tb : Nat → Nat) (n : Nat) (c : Cur) : (n ≤ c.1 ∧ tokOf tb n c = -1) ∨ (c.1 < n ∧ (qL (tb c.1) = true ∨ qD (tb c.1) = true) ∧ c.2 = true ∧ tokOf tb n c = -2) ∨ (c.1 < n ∧ qL (tb c.1) = true ∧ c.2 = false ∧ tokOf tb n c = wordTok (wl tb n c.1)) ∨ (c.1 < n ∧ qL (tb c.1) = false ∧ qD (tb c.1) = true ∧ c.2 = false ∧ tokOf tb n c = -3) ∨ (c.1 < n ∧ qL (tb c.1) = false ∧ qD (tb c.1) = false ∧ tokOf tb n c = nI (tb c.1)) := by
  unfold tokOf
  by_cases h : c.1 < n
  · rw [if_pos h]
    cases hl : qL (tb c.1) with
    | true =>
      rw [if_pos rfl]
      cases hc : c.2 with
      | true => rw [if_pos rfl]; exact Or.inr (Or.inl ⟨h, Or.inl rfl, rfl, rfl⟩)
      | false => rw [if_neg (by decide)]; exact Or.inr (Or.inr (Or.inl ⟨h, rfl, rfl, rfl⟩))
    | false =>
      rw [if_neg (by decide)]
      cases hd : qD (tb c.1) with
      | true =>
        rw [if_pos rfl]
        cases hc : c.2 with
        | true => rw [if_pos rfl]; exact Or.inr (Or.inl ⟨h, Or.inr rfl, rfl, rfl⟩)
        | false => rw [if_neg (by decide)]; exact Or.inr (Or.inr (Or.inr (Or.inl ⟨h, rfl, rfl, rfl, rfl⟩)))
      | false => rw [if_neg (by decide)]; exact Or.inr (Or.inr (Or.inr (Or.inr ⟨h, rfl, rfl, rfl⟩)))
  · rw [if_neg h]; exact Or.inl ⟨by omega, rfl⟩
theorem i_m1 : ((-1 : Int32)).toInt = -1 := by decide
theorem i_m2 : ((-2 : Int32)).toInt = -2 := by decide
theorem i_m3 : ((-3 : Int32)).toInt = -3 := by decide
theorem i_nI {k : Nat} (h : k < 2147483648) : (nI k).toInt = (k : Int) := nI_toInt h
theorem i_eq {x y : Int32} (h : x = y) : x.toInt = y.toInt := by rw [h]
theorem tok_W {tb : Nat → Nat} {n k : Nat} {c : Cur} (htb : ∀ j, tb j ≤ 255) (hk : k < 28) : tokOf tb n c = nI (256 + k) ↔ isW tb n (CWs.getD k []) c = true := by
  have e0 := i_nI (k := 256 + k) (by omega)
  have hb := htb c.1
  unfold isW
  rw [Bool.and_eq_true, Bool.and_eq_true, Bool.and_eq_true, decide_eq_true_iff, beq_iff_eq, Bool.not_eq_true']
  rcases tok_cases tb n c with ⟨h1, h2⟩ | ⟨h1, h2, h3, h4⟩ | ⟨h1, h2, h3, h4⟩ | ⟨h1, h2, h3, h4, h5⟩ | ⟨h1, h2, h3, h4⟩
  · exact ⟨fun q => by have := i_eq (h2.symm.trans q); rw [e0, i_m1] at this; omega, fun q => absurd q.1.1.1 (by omega)⟩
  · exact ⟨fun q => by have := i_eq (h4.symm.trans q); rw [e0, i_m2] at this; omega, fun q => by have := q.1.1.2; rw [h3] at this; cases this⟩
  · rw [h4]
    rcases wt_cases (wl tb n c.1) with ⟨w1, w2⟩ | ⟨j, w1, w2, w3⟩
    · rw [w1]
      exact ⟨fun q => by have := i_eq q; rw [e0, i_m2] at this; omega, fun q => absurd q.2.symm (w2 k hk)⟩
    · rw [w3]
      have e1 := i_nI (k := 256 + j) (by omega)
      refine ⟨fun q => ?_, fun q => ?_⟩
      · have := i_eq q
        rw [e0, e1] at this
        have : j = k := by omega
        subst this
        exact ⟨⟨⟨h1, h3⟩, h2⟩, w2.symm⟩
      · have e3 : wordTok (wl tb n c.1) = nI (256 + k) := by rw [q.2]; exact wt_cw hk
        rw [← w3, e3]
  · exact ⟨fun q => by have := i_eq (h5.symm.trans q); rw [e0, i_m3] at this; omega, fun q => by have := q.1.2; rw [h2] at this; cases this⟩
  · exact ⟨fun q => by have := i_eq (h4.symm.trans q); rw [e0, i_nI (by omega)] at this; omega, fun q => by have := q.1.2; rw [h2] at this; cases this⟩
theorem tok_S {tb : Nat → Nat} {n b : Nat} {c : Cur} (htb : ∀ j, tb j ≤ 255) (hb : b < 256 ∧ ¬ (97 ≤ b ∧ b ≤ 122) ∧ ¬ (48 ≤ b ∧ b ≤ 57)) : tokOf tb n c = nI b ↔ isS tb n b c = true := by
  have e0 := i_nI (k := b) (by omega)
  have hx := htb c.1
  unfold isS
  rw [Bool.and_eq_true, decide_eq_true_iff, beq_iff_eq]
  rcases tok_cases tb n c with ⟨h1, h2⟩ | ⟨h1, h2, h3, h4⟩ | ⟨h1, h2, h3, h4⟩ | ⟨h1, h2, h3, h4, h5⟩ | ⟨h1, h2, h3, h4⟩
  · exact ⟨fun q => by have := i_eq (h2.symm.trans q); rw [e0, i_m1] at this; omega, fun q => absurd q.1 (by omega)⟩
  · refine ⟨fun q => by have := i_eq (h4.symm.trans q); rw [e0, i_m2] at this; omega, fun q => ?_⟩
    rw [q.2, qL_t, qD_t] at h2; omega
  · refine ⟨fun q => ?_, fun q => by rw [q.2, qL_t] at h2; omega⟩
    rw [h4] at q
    rcases wt_cases (wl tb n c.1) with ⟨w1, w2⟩ | ⟨j, w1, w2, w3⟩
    · rw [w1] at q; have := i_eq q; rw [e0, i_m2] at this; omega
    · rw [w3] at q; have := i_eq q; rw [e0, i_nI (by omega)] at this; omega
  · exact ⟨fun q => by have := i_eq (h5.symm.trans q); rw [e0, i_m3] at this; omega, fun q => by rw [q.2, qD_t] at h3; omega⟩
  · rw [h4]
    refine ⟨fun q => ⟨h1, (nI_eq (by omega) (by omega)).mp q⟩, fun q => by rw [q.2]⟩
theorem tok_N {tb : Nat → Nat} {n : Nat} {c : Cur} (htb : ∀ j, tb j ≤ 255) : tokOf tb n c = -3 ↔ (c.1 < n ∧ qD (tb c.1) = true ∧ c.2 = false) := by
  have hx := htb c.1
  rcases tok_cases tb n c with ⟨h1, h2⟩ | ⟨h1, h2, h3, h4⟩ | ⟨h1, h2, h3, h4⟩ | ⟨h1, h2, h3, h4, h5⟩ | ⟨h1, h2, h3, h4⟩
  · exact ⟨fun q => by have := i_eq (h2.symm.trans q); rw [i_m3, i_m1] at this; omega, fun q => absurd q.1 (by omega)⟩
  · exact ⟨fun q => by have := i_eq (h4.symm.trans q); rw [i_m3, i_m2] at this; omega, fun q => by rw [q.2.2] at h3; cases h3⟩
  · refine ⟨fun q => ?_, fun q => by rw [qL_t] at h2; have := qD_t.mp q.2.1; omega⟩
    rw [h4] at q
    rcases wt_cases (wl tb n c.1) with ⟨w1, w2⟩ | ⟨j, w1, w2, w3⟩
    · rw [w1] at q; have := i_eq q; rw [i_m3, i_m2] at this; omega
    · rw [w3] at q; have := i_eq q; rw [i_m3, i_nI (by omega)] at this; omega
  · exact ⟨fun _ => ⟨h1, h3, h4⟩, fun _ => h5⟩
  · exact ⟨fun q => by have := i_eq (h4.symm.trans q); rw [i_m3, i_nI (by omega)] at this; omega, fun q => by rw [q.2.1] at h3; cases h3⟩
theorem tok_E {tb : Nat → Nat} {n : Nat} {c : Cur} (htb : ∀ j, tb j ≤ 255) : tokOf tb n c = -1 ↔ n ≤ c.1 := by
  have hx := htb c.1
  rcases tok_cases tb n c with ⟨h1, h2⟩ | ⟨h1, h2, h3, h4⟩ | ⟨h1, h2, h3, h4⟩ | ⟨h1, h2, h3, h4, h5⟩ | ⟨h1, h2, h3, h4⟩
  · exact ⟨fun _ => h1, fun _ => h2⟩
  · exact ⟨fun q => by have := i_eq (h4.symm.trans q); rw [i_m1, i_m2] at this; omega, fun q => absurd q (by omega)⟩
  · refine ⟨fun q => ?_, fun q => absurd q (by omega)⟩
    rw [h4] at q
    rcases wt_cases (wl tb n c.1) with ⟨w1, w2⟩ | ⟨j, w1, w2, w3⟩
    · rw [w1] at q; have := i_eq q; rw [i_m1, i_m2] at this; omega
    · rw [w3] at q; have := i_eq q; rw [i_m1, i_nI (by omega)] at this; omega
  · exact ⟨fun q => by have := i_eq (h5.symm.trans q); rw [i_m1, i_m3] at this; omega, fun q => absurd q (by omega)⟩
  · exact ⟨fun q => by have := i_eq (h4.symm.trans q); rw [i_m1, i_nI (by omega)] at this; omega, fun q => absurd q (by omega)⟩
/-- a token from which one can step: neither the end nor a wrong one; whether it is a word or a number -/
theorem tok_real {tb : Nat → Nat} {n : Nat} {c : Cur} (htb : ∀ j, tb j ≤ 255) (h1 : ¬ tokOf tb n c = -1) (h2 : ¬ tokOf tb n c = -2) : c.1 < n ∧ ((qL (tb c.1) || qD (tb c.1)) = true ↔ (tokOf tb n c = -3 ∨ (256 : Int32) ≤ tokOf tb n c)) := by
  have hx := htb c.1
  have e256 : ((256 : Int32)).toInt = 256 := by decide
  rw [Int32.le_iff_toInt_le, e256]
  rcases tok_cases tb n c with ⟨q1, q2⟩ | ⟨q1, q2, q3, q4⟩ | ⟨q1, q2, q3, q4⟩ | ⟨q1, q2, q3, q4, q5⟩ | ⟨q1, q2, q3, q4⟩
  · exact absurd q2 h1
  · exact absurd q4 h2
  · refine ⟨q1, fun _ => ?_, fun _ => by rw [q2]; rfl⟩
    rw [q4] at h2 ⊢
    rcases wt_cases (wl tb n c.1) with ⟨w1, w2⟩ | ⟨j, w1, w2, w3⟩
    · exact absurd w1 h2
    · rw [w3, i_nI (by omega)]; exact Or.inr (by omega)
  · exact ⟨q1, fun _ => Or.inl q5, fun _ => by rw [q3, Bool.or_true]⟩
  · refine ⟨q1, fun q => (by rw [q2, q3] at q; cases q), fun q => ?_⟩
    rw [q4] at q
    rw [i_nI (by omega)] at q
    rcases q with q | q
    · have := i_eq q; rw [i_m3, i_nI (by omega)] at this; omega
    · omega
/-! numbers -/
def numV (tb : Nat → Nat) (n a : Nat) : Nat := vd tb a (min 4 (ext qD tb n a - a))
theorem vd_up {tb : Nat → Nat} {x z w : Nat} (hx : x ≤ z) (h4 : z - x < 4) (h : w = vd tb x (min 4 (z - x))) (hb : 48 ≤ tb z) : w * 10 + tb z - 48 = vd tb x (min 4 (z + 1 - x)) := by
  rw [show min 4 (z + 1 - x) = (z - x) + 1 by omega, vd, show x + (z - x) = z by omega, h, show min 4 (z - x) = z - x by omega]
  omega
theorem vd_st {tb : Nat → Nat} {x z w : Nat} (h4 : ¬ (z - x < 4)) (h : w = vd tb x (min 4 (z - x))) : w = vd tb x (min 4 (z + 1 - x)) := by
  rw [h, show min 4 (z + 1 - x) = min 4 (z - x) by omega]
theorem vd_fin {tb : Nat → Nat} {n x z w : Nat} (h : w = vd tb x (min 4 (z - x))) (e : z = ext qD tb n x) : w = numV tb n x := by
  rw [h, e]; rfl
theorem vd_lt {tb : Nat → Nat} {a : Nat} : ∀ k, (∀ i, i < k → tb (a + i) ≤ 57) → vd tb a k < 10 ^ k
  | 0, _ => by show (0 : Nat) < 10 ^ 0; decide
  | k + 1, h => by
    have h1 := vd_lt k (fun i hi => h i (by omega))
    have h2 := h k (by omega)
    rw [vd, Nat.pow_succ]
    generalize 10 ^ k = p at *
    omega
theorem numV_le (tb : Nat → Nat) (n a : Nat) : numV tb n a ≤ 9999 := by
  unfold numV
  have h1 := vd_lt (tb := tb) (a := a) (min 4 (ext qD tb n a - a)) (fun i hi => (qD_t.mp (ext_all (n := n) (a := a) (j := a + i) (by omega) (by omega)).2).2)
  have h2 : 10 ^ (min 4 (ext qD tb n a - a)) ≤ 10 ^ 4 := Nat.pow_le_pow_right (by decide) (by omega)
  have h3 : (10 : Nat) ^ 4 = 10000 := by decide
  rw [h3] at h2
  omega
/-! the reader's fields: what was read so far -/
def teN (tb : Nat → Nat) (n a : Nat) : Nat := if a < n then te tb n a else a
def erO (e : Err) (xt xf xp : Int32) : Prop := xf = nI e.1 ∧ xp = nI e.2 ∧ 1 ≤ e.1 ∧ e.1 ≤ 5 ∧ e.2 ≤ 1700 ∧ xt = -2
def rdC (tb : Nat → Nat) (n : Nat) (c : Cur) (xa : Nat) (xv xt : Int32) (xz : Nat) (xf xp : Int32) : Prop := xf = 0 ∧ xp = -1 ∧ xz = c.1 ∧ c.1 ≤ n ∧ xt = tokOf tb n c ∧ xa = teN tb n c.1 ∧ (xt = -3 → xv = nI (numV tb n c.1))
def rdO (tb : Nat → Nat) (n : Nat) (o : Except Err Cur) (xa : Nat) (xv xt : Int32) (xz : Nat) (xf xp : Int32) : Prop := match o with
  | .ok c => rdC tb n c xa xv xt xz xf xp
  | .error e => erO e xt xf xp
/-- before a step: where it goes on, and whether a word or a number stood there -/
def stO (n : Nat) (b : Except Err Cur) (xa : Nat) (xt xf xp : Int32) : Prop := match b with
  | .ok c => xf = 0 ∧ xp = -1 ∧ xa = c.1 ∧ c.1 ≤ n ∧ (c.2 = true ↔ (xt = -3 ∨ (256 : Int32) ≤ xt))
  | .error e => erO e xt xf xp
def stF (tb : Nat → Nat) (n : Nat) (p : Cur) : Except Err Cur := .ok (sk tb n p.1, p.2 && sk tb n p.1 == p.1)
def beF (tb : Nat → Nat) (n : Nat) (c : Cur) : Except Err Cur := .ok (te tb n c.1, qL (tb c.1) || qD (tb c.1))
theorem stF_beF {tb : Nat → Nat} {n : Nat} (o : Except Err Cur) : bindR (bindR o (beF tb n)) (stF tb n) = bindR o (fun c => .ok (nx tb n c.1)) := by
  cases o <;> rfl
theorem er_ne {e : Err} {xt xf xp : Int32} (h : erO e xt xf xp) : ¬ xf = 0 := fun q => by
  obtain ⟨h1, -, h3, h4, -, -⟩ := h
  have := i_eq (h1.symm.trans q)
  rw [i_nI (by omega)] at this
  have e0 : ((0 : Int32)).toInt = 0 := by decide
  rw [e0] at this
  omega
theorem rdO_ok {tb : Nat → Nat} {n : Nat} {o : Except Err Cur} {xa : Nat} {xv xt : Int32} {xz : Nat} {xf xp : Int32} (h : rdO tb n o xa xv xt xz xf xp) (hf : xf = 0) : ∃ c, o = .ok c ∧ rdC tb n c xa xv xt xz xf xp := by
  cases o with
  | ok c => exact ⟨c, rfl, h⟩
  | error e => exact absurd hf (er_ne h)
theorem rdO_tok {tb : Nat → Nat} {n : Nat} {o : Except Err Cur} {xa : Nat} {xv xt : Int32} {xz : Nat} {xf xp : Int32} (h : rdO tb n o xa xv xt xz xf xp) (ht : ¬ xt = -2) : ∃ c, o = .ok c ∧ rdC tb n c xa xv xt xz xf xp := by
  cases o with
  | ok c => exact ⟨c, rfl, h⟩
  | error e => exact absurd h.2.2.2.2.2 ht
theorem rdO_er {tb : Nat → Nat} {n : Nat} {o : Except Err Cur} {xa : Nat} {xv xt : Int32} {xz : Nat} {xf xp : Int32} (h : rdO tb n o xa xv xt xz xf xp) (hf : ¬ xf = 0) : ∃ e, o = .error e ∧ erO e xt xf xp := by
  cases o with
  | ok c => exact absurd h.1 hf
  | error e => exact ⟨e, rfl, h⟩
theorem stO_ok {n : Nat} {b : Except Err Cur} {xa : Nat} {xt xf xp : Int32} (h : stO n b xa xt xf xp) (hf : xf = 0) : ∃ c : Cur, b = .ok c ∧ xp = -1 ∧ xa = c.1 ∧ c.1 ≤ n ∧ (c.2 = true ↔ (xt = -3 ∨ (256 : Int32) ≤ xt)) := by
  cases b with
  | ok c => exact ⟨c, rfl, h.2⟩
  | error e => exact absurd hf (er_ne h)
theorem te_le {tb : Nat → Nat} {n s : Nat} (h : s < n) : te tb n s ≤ n := by
  unfold te
  split
  · exact ext_le (by omega)
  · split
    · exact ext_le (by omega)
    · omega
/-- where a token can be stepped over -/
theorem rd_st {tb : Nat → Nat} {n : Nat} {o : Except Err Cur} {xa : Nat} {xv xt : Int32} {xz : Nat} {xf xp : Int32} (htb : ∀ j, tb j ≤ 255) (h : rdO tb n o xa xv xt xz xf xp) (hr : ¬ xt = -1 ∧ ¬ xt = -2) : stO n (bindR o (beF tb n)) xa xt xf xp := by
  cases o with
  | error e => exact h
  | ok c =>
    obtain ⟨h1, h2, h3, h4, h5, h6, -⟩ := h
    rw [h5] at hr
    have h9 := tok_real htb hr.1 hr.2
    refine ⟨h1, h2, ?_, te_le h9.1, by rw [h5]; exact h9.2⟩
    show xa = te tb n c.1
    rw [h6]; unfold teN; rw [if_pos h9.1]
theorem st_err {tb : Nat → Nat} {n : Nat} {b : Except Err Cur} {xa : Nat} {xv xt : Int32} {xz : Nat} {xf xp : Int32} (h : stO n b xa xt xf xp) (hf : ¬ xf = 0) : rdO tb n (bindR b (stF tb n)) xa xv xt xz xf xp := by
  cases b with
  | ok c => exact absurd h.1 hf
  | error e => exact h
/-- what was taken for what is behind: the place, or none -/
def bhO (c : Cur) (bh : Int32) : Prop := (c.2 = true ∧ bh = nI c.1) ∨ (c.2 = false ∧ bh = -1)
theorem bh_1 {c : Cur} {xa : Nat} {xt : Int32} (hx : xa = c.1) (h : c.2 = true ↔ (xt = -3 ∨ (256 : Int32) ≤ xt)) (ht : xt = -3 ∨ (256 : Int32) ≤ xt) : bhO c (nI xa) := Or.inl ⟨h.mpr ht, by rw [hx]⟩
theorem bh_2 {c : Cur} {xt : Int32} (h : c.2 = true ↔ (xt = -3 ∨ (256 : Int32) ≤ xt)) (ht : ¬ (xt = -3 ∨ (256 : Int32) ≤ xt)) : bhO c (-1) := Or.inr ⟨by
  cases hc : c.2 with
  | false => rfl
  | true => exact absurd (h.mp hc) ht, rfl⟩
/-- whether it stands side by side with what is behind -/
theorem bh_eq {c : Cur} {bh : Int32} {z : Nat} (h : bhO c bh) (hz : z < 2147483648) (hc : c.1 < 2147483648) : (nI z = bh) ↔ (c.2 && z == c.1) = true := by
  rcases h with ⟨h1, rfl⟩ | ⟨h1, rfl⟩
  · rw [h1, Bool.true_and, beq_iff_eq]; exact nI_eq (by omega) (by omega)
  · rw [h1, Bool.false_and]
    exact ⟨fun q => by have := i_eq q; rw [i_nI hz, i_m1] at this; omega, fun q => by cases q⟩
def tkU (tb : Nat → Nat) (n s : Nat) (yk yv : Int32) : Prop := (qL (tb s) = true ∧ yk = wordTok (wl tb n s)) ∨ (qL (tb s) = false ∧ qD (tb s) = true ∧ yk = -3 ∧ yv = nI (numV tb n s))
theorem st_end {tb : Nat → Nat} {n : Nat} {b : Except Err Cur} {c : Cur} {xv : Int32} {z : Nat} {xf xp : Int32} (hb : b = .ok c) (hf : xf = 0) (hp : xp = -1) (hn : c.1 ≤ n) (hz : z = sk tb n c.1) (h : n ≤ z) : rdO tb n (bindR b (stF tb n)) z xv (-1) z xf xp := by
  subst hb
  have hl : z ≤ n := by rw [hz]; exact ext_le hn
  refine ⟨hf, hp, hz, by rw [← hz]; omega, ?_, ?_, fun q => by have := i_eq q; rw [i_m1, i_m3] at this; omega⟩
  · unfold tokOf; rw [if_neg (by show ¬ sk tb n c.1 < n; omega)]
  · show z = teN tb n (sk tb n c.1)
    unfold teN; rw [if_neg (by omega)]; exact hz
theorem st_sign {tb : Nat → Nat} {n : Nat} {b : Except Err Cur} {c : Cur} {xv : Int32} {z : Nat} {xf xp : Int32} (htb : ∀ j, tb j ≤ 255) (hb : b = .ok c) (hf : xf = 0) (hp : xp = -1) (hz : z = sk tb n c.1) (h : z < n) (h1 : qL (tb z) = false) (h2 : qD (tb z) = false) : rdO tb n (bindR b (stF tb n)) (z + 1) xv (nI (tb z)) z xf xp := by
  subst hb
  subst hz
  have hx := htb (sk tb n c.1)
  refine ⟨hf, hp, rfl, Nat.le_of_lt h, ?_, ?_, fun q => ?_⟩
  · unfold tokOf
    dsimp only
    rw [if_pos h, h1, if_neg (by decide), h2, if_neg (by decide)]
  · unfold teN te
    dsimp only
    rw [if_pos h, h1, if_neg (by decide), h2, if_neg (by decide)]
  · have := i_eq q
    rw [i_nI (by omega), i_m3] at this
    omega
theorem st_wnE {tb : Nat → Nat} {n : Nat} {b : Except Err Cur} {c : Cur} {yv yk bh : Int32} {y z : Nat} {xf xp : Int32} (hb : b = .ok c) (hf : xf = 0) (hp : xp = -1) (hz : z = sk tb n c.1) (h : z < n) (hn : n ≤ 1600) (hc : c.1 ≤ n) (ht : tkU tb n z yk yv) (hy : y = te tb n z) (hbh : bhO c bh) (e : nI z = bh) : rdO tb n (bindR b (stF tb n)) y yv (-2) z xf xp := by
  have hfl := (bh_eq hbh (show z < 2147483648 by omega) (by omega)).mp e
  subst hb
  subst hz
  refine ⟨hf, hp, rfl, Nat.le_of_lt h, ?_, ?_, fun q => ?_⟩
  · unfold tokOf
    dsimp only
    rw [if_pos h]
    rcases ht with ⟨t1, -⟩ | ⟨t1, t2, -, -⟩
    · rw [if_pos t1, if_pos hfl]
    · rw [if_neg (by rw [t1]; decide), if_pos t2, if_pos hfl]
  · unfold teN
    dsimp only
    rw [if_pos h]; exact hy
  · have := i_eq q
    rw [i_m2, i_m3] at this
    omega
theorem st_wnN {tb : Nat → Nat} {n : Nat} {b : Except Err Cur} {c : Cur} {yv yk bh : Int32} {y z : Nat} {xf xp : Int32} (hb : b = .ok c) (hf : xf = 0) (hp : xp = -1) (hz : z = sk tb n c.1) (h : z < n) (hn : n ≤ 1600) (hc : c.1 ≤ n) (ht : tkU tb n z yk yv) (hy : y = te tb n z) (hbh : bhO c bh) (e : ¬ nI z = bh) : rdO tb n (bindR b (stF tb n)) y yv yk z xf xp := by
  have hfl : ¬ (c.2 && z == c.1) = true := fun q => e ((bh_eq hbh (show z < 2147483648 by omega) (by omega)).mpr q)
  subst hb
  subst hz
  refine ⟨hf, hp, rfl, Nat.le_of_lt h, ?_, ?_, fun q => ?_⟩
  · unfold tokOf
    dsimp only
    rw [if_pos h]
    rcases ht with ⟨t1, t2⟩ | ⟨t1, t2, t3, -⟩
    · rw [if_pos t1, if_neg hfl]; exact t2
    · rw [if_neg (by rw [t1]; decide), if_pos t2, if_neg hfl]; exact t3
  · unfold teN
    dsimp only
    rw [if_pos h]; exact hy
  · rcases ht with ⟨t1, t2⟩ | ⟨t1, t2, t3, t4⟩
    · exfalso
      rcases wt_cases (wl tb n (sk tb n c.1)) with ⟨w1, w2⟩ | ⟨j, w1, w2, w3⟩
      · rw [t2, w1] at q; have := i_eq q; rw [i_m3, i_m2] at this; omega
      · rw [t2, w3] at q; have := i_eq q; rw [i_m3, i_nI (by omega)] at this; omega
    · exact t4
theorem te_w {tb : Nat → Nat} {n z : Nat} (h : qL (tb z) = true) : te tb n z = ext qL tb n z := by unfold te; rw [if_pos h]
theorem te_n {tb : Nat → Nat} {n z : Nat} (h1 : qL (tb z) = false) (h : qD (tb z) = true) : te tb n z = ext qD tb n z := by unfold te; rw [if_neg (by rw [h1]; decide), if_pos h]
theorem qL_f {c : Nat} (h : ¬ (97 ≤ c ∧ c ≤ 122)) : qL c = false := by
  cases q : qL c with
  | false => rfl
  | true => exact absurd (qL_t.mp q) h
theorem qD_f {c : Nat} (h : ¬ (48 ≤ c ∧ c ≤ 57)) : qD c = false := by
  cases q : qD c with
  | false => rfl
  | true => exact absurd (qD_t.mp q) h
/-! what each call of the reader does to what was read -/
def nxF (tb : Nat → Nat) (n : Nat) (c : Cur) : Except Err Cur := .ok (nx tb n c.1)
def hereF (k : Nat) (c : Cur) : Except Err Cur := .error (k, c.1)
def tkF (tb : Nat → Nat) (n : Nat) (w : Int32) (c : Cur) : Except Err Cur := if tokOf tb n c = w then .ok (nx tb n c.1) else .error (1, c.1)
def nmF (tb : Nat → Nat) (n lo hi : Nat) (c : Cur) : Except Err Cur := bindR (numP tb n lo hi c) (fun r => .ok r.2)
def opF (tb : Nat → Nat) (n : Nat) (w : Int32) (xo : Nat) (c : Cur) : Except Err Cur := if tokOf tb n c = w then (if xo < 6 then .ok (nx tb n c.1) else .error (4, c.1)) else .error (1, c.1)
theorem stF_nx {tb : Nat → Nat} {n : Nat} (o : Except Err Cur) : bindR (bindR o (beF tb n)) (stF tb n) = bindR o (nxF tb n) := stF_beF o
theorem st_0 (tb : Nat → Nat) (n : Nat) : stO n (.ok (0, false)) 0 (-1) 0 (-1) := ⟨rfl, rfl, rfl, Nat.zero_le _, by decide⟩
theorem fail_er {tb : Nat → Nat} {n : Nat} {o : Except Err Cur} {xa : Nat} {xv xt : Int32} {xz : Nat} {xf xp : Int32} {f : Cur → Except Err Cur} (h : rdO tb n o xa xv xt xz xf xp) (hf : ¬ xf = 0) : rdO tb n (bindR o f) xa xv (-2) xz xf xp := by
  cases o with
  | ok c => exact absurd h.1 hf
  | error e => exact ⟨h.1, h.2.1, h.2.2.1, h.2.2.2.1, h.2.2.2.2.1, rfl⟩
theorem fail_ok {tb : Nat → Nat} {n : Nat} {o : Except Err Cur} {xa : Nat} {xv xt : Int32} {xz : Nat} {xf xp : Int32} {k w : Nat} (h : rdO tb n o xa xv xt xz xf xp) (hf : xf = 0) (hk : 1 ≤ k) (hk5 : k ≤ 5) (hw : w ≤ 1700) : rdO tb n (bindR o (fun _ => .error (k, w))) xa xv (-2) xz (nI k) (nI w) := by
  cases o with
  | ok c => exact ⟨rfl, rfl, hk, hk5, hw, rfl⟩
  | error e => exact absurd hf (er_ne h)
theorem rd_swap {tb : Nat → Nat} {n : Nat} {o : Except Err Cur} {xa : Nat} {xv xt : Int32} {xz : Nat} {xf xp : Int32} {f g : Cur → Except Err Cur} {ya : Nat} {yv yt : Int32} {yz : Nat} {yf yp : Int32} (h : rdO tb n o xa xv xt xz xf xp) (e : ∀ c, rdC tb n c xa xv xt xz xf xp → f c = g c) (hp : rdO tb n (bindR o f) ya yv yt yz yf yp) : rdO tb n (bindR o g) ya yv yt yz yf yp := by
  cases o with
  | error e => exact hp
  | ok c =>
    have : bindR (.ok c) f = bindR (.ok c) g := e c h
    rw [← this]; exact hp
theorem fh_eq {tb : Nat → Nat} {n : Nat} {o : Except Err Cur} {xa : Nat} {xv xt : Int32} {xz : Nat} {xf xp : Int32} {k : Nat} {yv yt : Int32} {ya yz : Nat} {yf yp : Int32} (h : rdO tb n o xa xv xt xz xf xp) (hp : rdO tb n (bindR o (fun _ => .error (k, xz))) ya yv yt yz yf yp) : rdO tb n (bindR o (hereF k)) ya yv yt yz yf yp :=
  rd_swap h (fun c hc => by rw [hc.2.2.1]; rfl) hp
theorem nd_t {tb : Nat → Nat} {n : Nat} {o : Except Err Cur} {xa : Nat} {xv xt : Int32} {xz : Nat} {xf xp : Int32} {w yv yt : Int32} {ya yz : Nat} {yf yp : Int32} (h : rdO tb n o xa xv xt xz xf xp) (e : xt = w) (hp : rdO tb n (bindR o (nxF tb n)) ya yv yt yz yf yp) : rdO tb n (bindR o (tkF tb n w)) ya yv yt yz yf yp :=
  rd_swap h (fun c hc => by unfold tkF; rw [if_pos (hc.2.2.2.2.1.symm.trans e)]; rfl) hp
theorem nd_f {tb : Nat → Nat} {n : Nat} {o : Except Err Cur} {xa : Nat} {xv xt : Int32} {xz : Nat} {xf xp : Int32} {w yv yt : Int32} {ya yz : Nat} {yf yp : Int32} (h : rdO tb n o xa xv xt xz xf xp) (e : ¬ xt = w) (hp : rdO tb n (bindR o (hereF 1)) ya yv yt yz yf yp) : rdO tb n (bindR o (tkF tb n w)) ya yv yt yz yf yp :=
  rd_swap h (fun c hc => by unfold tkF; rw [if_neg (fun q => e (hc.2.2.2.2.1.trans q))]; rfl) hp
theorem op_1 {tb : Nat → Nat} {n : Nat} {o : Except Err Cur} {xa : Nat} {xv xt : Int32} {xz : Nat} {xf xp : Int32} {xo : Nat} {w yv yt : Int32} {ya yz : Nat} {yf yp : Int32} (h : rdO tb n o xa xv xt xz xf xp) (e : xt = w) (hx : xo < 6) (hp : rdO tb n (bindR o (nxF tb n)) ya yv yt yz yf yp) : rdO tb n (bindR o (opF tb n w xo)) ya yv yt yz yf yp :=
  rd_swap h (fun c hc => by unfold opF; rw [if_pos (hc.2.2.2.2.1.symm.trans e), if_pos hx]; rfl) hp
theorem op_2 {tb : Nat → Nat} {n : Nat} {o : Except Err Cur} {xa : Nat} {xv xt : Int32} {xz : Nat} {xf xp : Int32} {xo : Nat} {w yv yt : Int32} {ya yz : Nat} {yf yp : Int32} (h : rdO tb n o xa xv xt xz xf xp) (e : xt = w) (hx : ¬ xo < 6) (hp : rdO tb n (bindR o (fun _ => .error (4, xz))) ya yv yt yz yf yp) : rdO tb n (bindR o (opF tb n w xo)) ya yv yt yz yf yp :=
  rd_swap h (fun c hc => by unfold opF; rw [if_pos (hc.2.2.2.2.1.symm.trans e), if_neg hx, hc.2.2.1]) hp
theorem op_3 {tb : Nat → Nat} {n : Nat} {o : Except Err Cur} {xa : Nat} {xv xt : Int32} {xz : Nat} {xf xp : Int32} {xo : Nat} {w yv yt : Int32} {ya yz : Nat} {yf yp : Int32} (h : rdO tb n o xa xv xt xz xf xp) (e : ¬ xt = w) (hp : rdO tb n (bindR o (hereF 1)) ya yv yt yz yf yp) : rdO tb n (bindR o (opF tb n w xo)) ya yv yt yz yf yp :=
  rd_swap h (fun c hc => by unfold opF; rw [if_neg (fun q => e (hc.2.2.2.2.1.trans q))]; rfl) hp
/-- a number: how the reader's numbers look at one -/
theorem nm_c {tb : Nat → Nat} {n : Nat} {o : Except Err Cur} {xa : Nat} {xv xt : Int32} {xz : Nat} {xf xp : Int32} (htb : ∀ j, tb j ≤ 255) (h : rdO tb n o xa xv xt xz xf xp) (e : xt = -3) : xv = nI (numV tb n xz) ∧ xz ≤ xa ∧ (∀ c, rdC tb n c xa xv xt xz xf xp → c.1 = xz ∧ xa = ext qD tb n xz ∧ (c.1 < n ∧ qD (tb c.1) = true ∧ c.2 = false)) := by
  have key : ∀ c, rdC tb n c xa xv xt xz xf xp → c.1 = xz ∧ xa = ext qD tb n xz ∧ (c.1 < n ∧ qD (tb c.1) = true ∧ c.2 = false) := by
    intro c hc
    obtain ⟨h1, h2, h3, h4, h5, h6, h7⟩ := hc
    have h8 := (tok_N htb).mp (h5.symm.trans e)
    have h9 := qD_t.mp h8.2.1
    refine ⟨h3.symm, ?_, h8⟩
    rw [h6, h3]; unfold teN; rw [if_pos h8.1]
    exact te_n (qL_f (by omega)) h8.2.1
  obtain ⟨c, ho, hc⟩ := rdO_tok h (by rw [e]; decide)
  have h8 := key c hc
  refine ⟨by rw [← h8.1]; exact hc.2.2.2.2.2.2 e, by rw [h8.2.1]; exact ext_ge _ _ _ _, key⟩
theorem nm_in {tb : Nat → Nat} {n lo hi xz xa : Nat} {c : Cur} (hc : c.1 = xz ∧ xa = ext qD tb n xz ∧ (c.1 < n ∧ qD (tb c.1) = true ∧ c.2 = false)) : numP tb n lo hi c = if 4 < xa - xz then .error (1, c.1 + 4) else if vd tb c.1 (xa - xz) < lo ∨ hi < vd tb c.1 (xa - xz) then .error (2, c.1) else .ok (vd tb c.1 (xa - xz), nx tb n c.1) := by
  unfold numP
  rw [if_pos hc.2.2, hc.1, ← hc.2.1]
theorem numV_in {tb : Nat → Nat} {n xz xa : Nat} (h : xa = ext qD tb n xz) (h4 : ¬ 4 < xa - xz) : numV tb n xz = vd tb xz (xa - xz) := by
  unfold numV; rw [← h, show min 4 (xa - xz) = xa - xz by omega]
theorem nm_1 {tb : Nat → Nat} {n lo hi : Nat} {o : Except Err Cur} {xa : Nat} {xv xt : Int32} {xz : Nat} {xf xp : Int32} {yv yt : Int32} {ya yz : Nat} {yf yp : Int32} (htb : ∀ j, tb j ≤ 255) (h : rdO tb n o xa xv xt xz xf xp) (e : ¬ xt = -3) (hp : rdO tb n (bindR o (hereF 1)) ya yv yt yz yf yp) : rdO tb n (bindR o (nmF tb n lo hi)) ya yv yt yz yf yp :=
  rd_swap h (fun c hc => by
    unfold nmF numP
    rw [if_neg (fun q => e (hc.2.2.2.2.1.trans ((tok_N htb).mpr q)))]; rfl) hp
theorem nm_2 {tb : Nat → Nat} {n lo hi : Nat} {o : Except Err Cur} {xa : Nat} {xv xt : Int32} {xz : Nat} {xf xp : Int32} {yv yt : Int32} {ya yz : Nat} {yf yp : Int32} (htb : ∀ j, tb j ≤ 255) (h : rdO tb n o xa xv xt xz xf xp) (e : xt = -3) (h4 : 4 < xa - xz) (hp : rdO tb n (bindR o (fun _ => .error (1, xz + 4))) ya yv yt yz yf yp) : rdO tb n (bindR o (nmF tb n lo hi)) ya yv yt yz yf yp :=
  rd_swap h (fun c hc => by
    have hq := (nm_c htb h e).2.2 c hc
    unfold nmF
    rw [nm_in hq, if_pos h4, hq.1]; rfl) hp
theorem nm_3 {tb : Nat → Nat} {n lo hi : Nat} {o : Except Err Cur} {xa : Nat} {xv xt : Int32} {xz : Nat} {xf xp : Int32} {yv yt : Int32} {ya yz : Nat} {yf yp : Int32} (htb : ∀ j, tb j ≤ 255) (h : rdO tb n o xa xv xt xz xf xp) (e : xt = -3) (h4 : ¬ 4 < xa - xz) (hv : numV tb n xz < lo ∨ hi < numV tb n xz) (hp : rdO tb n (bindR o (fun _ => .error (2, xz))) ya yv yt yz yf yp) : rdO tb n (bindR o (nmF tb n lo hi)) ya yv yt yz yf yp :=
  rd_swap h (fun c hc => by
    have hq := (nm_c htb h e).2.2 c hc
    unfold nmF
    rw [numV_in hq.2.1 h4] at hv
    rw [nm_in hq, if_neg h4, hq.1, if_pos hv]; rfl) hp
theorem nm_4 {tb : Nat → Nat} {n lo hi : Nat} {o : Except Err Cur} {xa : Nat} {xv xt : Int32} {xz : Nat} {xf xp : Int32} {yv yt : Int32} {ya yz : Nat} {yf yp : Int32} (htb : ∀ j, tb j ≤ 255) (h : rdO tb n o xa xv xt xz xf xp) (e : xt = -3) (h4 : ¬ 4 < xa - xz) (hv : lo ≤ numV tb n xz ∧ numV tb n xz ≤ hi) (hp : rdO tb n (bindR o (nxF tb n)) ya yv yt yz yf yp) : rdO tb n (bindR o (nmF tb n lo hi)) ya yv yt yz yf yp :=
  rd_swap h (fun c hc => by
    have hq := (nm_c htb h e).2.2 c hc
    unfold nmF
    rw [numV_in hq.2.1 h4] at hv
    rw [nm_in hq, if_neg h4, hq.1, if_neg (by omega)]
    unfold nxF; rw [← hq.1]; rfl) hp
/-- what the number is, where there is one -/
def nvO (tb : Nat → Nat) (n lo hi : Nat) (o : Except Err Cur) (v : Nat) : Prop := ∀ c r, o = .ok c → numP tb n lo hi c = .ok r → v = r.1
theorem nv_no {tb : Nat → Nat} {n lo hi v : Nat} {o : Except Err Cur} {ya : Nat} {yv yt : Int32} {yz : Nat} {yf yp : Int32} (h : rdO tb n (bindR o (nmF tb n lo hi)) ya yv yt yz yf yp) (ht : yf = 0 → False) : nvO tb n lo hi o v := by
  intro c r hc hr
  subst hc
  have e1 : bindR (.ok c) (nmF tb n lo hi) = .ok r.2 := by show nmF tb n lo hi c = _; unfold nmF; rw [hr]; rfl
  rw [e1] at h
  exact absurd h.1 (fun q => ht q)
theorem nv_yes {tb : Nat → Nat} {n lo hi : Nat} {o : Except Err Cur} {xa : Nat} {xv xt : Int32} {xz : Nat} {xf xp : Int32} (htb : ∀ j, tb j ≤ 255) (h : rdO tb n o xa xv xt xz xf xp) (e : xt = -3) (h4 : ¬ 4 < xa - xz) : nvO tb n lo hi o (numV tb n xz) := by
  intro c r hc hr
  subst hc
  have hq := (nm_c htb h e).2.2 c h
  rw [nm_in hq, if_neg h4, hq.1] at hr
  split at hr
  · cases hr
  · cases hr; exact numV_in hq.2.1 h4
theorem er_f {tb : Nat → Nat} {n : Nat} {o : Except Err Cur} {f : Cur → Except Err Cur} {ya : Nat} {yv yt : Int32} {yz : Nat} {yf yp : Int32} (h : rdO tb n (bindR o f) ya yv yt yz yf yp) (hf : ∀ c, ∃ e, f c = .error e) : yf = 0 → False := fun q => by
  cases o with
  | error e => exact er_ne h q
  | ok c =>
    obtain ⟨e, he⟩ := hf c
    have h1 : bindR (.ok c) f = .error e := he
    rw [h1] at h
    exact er_ne h q
