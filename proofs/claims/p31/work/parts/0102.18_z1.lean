theorem kcLk_lock {tb : Nat → Nat} {n : Nat} {r : LkS × Nat} (h : lockP tb n = .ok r) : kcLk r.1 := by
  obtain ⟨x, h1, h2⟩ := bindR_ok (show bindR (openP tb n (sk tb n 0, false)) (stP tb n 59) = .ok r from h)
  exact kcLk_stP 59 x r h2 (kcLk_open h1)
theorem kcLk_untS {L : LkS} {w : Nat} (h : kcLk L) : kcLk (untS L w) := by
  unfold untS
  split
  · exact h
  · refine kcLk_stS h ?_ (Nat.le_refl 1)
    by_cases e : w = 1
    · rw [if_pos e, if_pos e]
      exact ⟨fun nm => kcGd_mono (kcGd_nm (j := 5) (by omega)) (by omega), kcNs_1 (Or.inr (Or.inr ⟨by decide, by decide, rfl⟩))⟩
    · rw [if_neg e, if_neg e]
      exact ⟨fun nm => kcGd_mono (kcGd_nm (j := 0) (by omega)) (by omega), kcNs_1 (Or.inr (Or.inr ⟨by decide, by decide, rfl⟩))⟩
theorem kcLk_untN {L : LkS} (h : kcLk L) : ∀ i, kcLk (untN L i)
  | 0 => h
  | i + 1 => kcLk_untS (kcLk_untN h i)
theorem kcLk_F {L : LkS} (h : kcLk L) : kcLk (lkF L) := kcLk_untN h 3
/-- the steps of a sum, told or not -/
def kcSeg (L : LkS) (w : Nat) : List Nat := match lG (lkF L) w with
  | none => []
  | some p => kcSub (lK (lkF L)) p
theorem untS_G {L : LkS} {w v : Nat} : lG (untS L w) v = if (lG L w).isSome = true then lG L v else if v = w then some ((lK L).length, (lK L).length + 1) else lG L v := by
  unfold untS
  by_cases h : (lG L w).isSome = true
  · rw [if_pos h, if_pos h]
  · rw [if_neg h, if_neg h]; rfl
theorem untS_keep {L : LkS} {w v : Nat} {p : Nat × Nat} (h : lG L v = some p) : lG (untS L w) v = some p := by
  rw [untS_G]
  by_cases h0 : (lG L w).isSome = true
  · rw [if_pos h0]; exact h
  · rw [if_neg h0]
    by_cases e : v = w
    · subst e; rw [h] at h0; exact absurd rfl h0
    · rw [if_neg e]; exact h
theorem untS_app (L : LkS) (w : Nat) : ∃ k, lK (untS L w) = lK L ++ k := by
  unfold untS
  split
  · exact ⟨[], (List.append_nil _).symm⟩
  · exact ⟨_, rfl⟩
theorem untN_some {L : LkS} : ∀ i v, v < i → ∃ p, lG (untN L i) v = some p
  | 0, v, h => absurd h (Nat.not_lt_zero v)
  | i + 1, v, h => by
    show ∃ p, lG (untS (untN L i) i) v = some p
    by_cases e : v = i
    · subst e
      rw [untS_G]
      cases hv : lG (untN L v) v with
      | some p => exact ⟨p, by rw [if_pos (by rfl)]⟩
      | none => exact ⟨_, by rw [if_neg (by decide), if_pos rfl]⟩
    · obtain ⟨p, hp⟩ := untN_some i v (by omega)
      exact ⟨p, untS_keep hp⟩
theorem kcSeg_G {L : LkS} (h : kcLk L) {w : Nat} (hw : w < 3) : kcG (if w = 1 then 1 else 0) 23 (kcSeg L w) := by
  obtain ⟨p, hp⟩ := untN_some (L := L) 3 w hw
  have h1 := (kcLk_F h w p hp).2.2
  unfold kcSeg
  rw [show lG (lkF L) w = some p from hp]
  exact h1
/-- what a sum gives -/
def kcV (L : LkS) (w : Nat) (nm : Nat → Int64) : Int64 := match kcEx nm 64 (kcSeg L w) [] with
  | some (v :: _) => v
  | _ => 0
theorem kcV_ex {L : LkS} (h : kcLk L) {w : Nat} (hw : w < 3) (nm : Nat → Int64) : kcEx nm 64 (kcSeg L w) [] = some [kcV L w nm] := by
  obtain ⟨v, hv⟩ := (kcSeg_G h hw).1 nm
  have h1 := hv 64 [] (by rw [List.length_nil]; omega)
  have key : ∀ o : Option (List Int64), o = some [v] → (match o with | some (v :: _) => v | _ => (0 : Int64)) = v := by
    intro o ho; subst ho; rfl
  have h2 : kcV L w nm = v := key _ h1
  rw [h2]; exact h1
theorem kcV_cg {L : LkS} (h : kcLk L) {w : Nat} (hw : w < 3) {nm nm2 : Nat → Int64} (e : ∀ j, j < (if w = 1 then 7 else 5) → nm j = nm2 j) : kcV L w nm = kcV L w nm2 := by
  have key : ∀ c, c ∈ kcSeg L w → 40 ≤ c → c < 1000 → nm (c - 40) = nm2 (c - 40) := by
    intro c hc h1 h2
    rcases (kcSeg_G h hw).2 c hc with ⟨q, q2⟩ | ⟨q, q2⟩ | ⟨q, q2, qa⟩
    · exact absurd h1 (by omega)
    · exact absurd h2 (by omega)
    · refine e _ ?_
      unfold allow at qa
      by_cases hw1 : w = 1
      · rw [if_pos hw1, if_neg (by decide), if_pos rfl, decide_eq_true_iff] at qa
        rw [if_pos hw1]; exact qa
      · rw [if_neg hw1, if_pos rfl, decide_eq_true_iff] at qa
        rw [if_neg hw1]; exact qa
  unfold kcV
  rw [kcEx_cg (nm := nm) (nm2 := nm2) (kcSeg L w) [] key]
/-- without week the week does not count -/
theorem kcV_wk {L : LkS} (h : kcLk L) {w : Nat} (hw : w < 3) {nm nm2 : Nat → Int64} (h4 : 44 ∉ lK (lkF L)) (e : ∀ j, j < (if w = 1 then 7 else 5) → ¬ j = 4 → nm j = nm2 j) : kcV L w nm = kcV L w nm2 := by
  have key : ∀ c, c ∈ kcSeg L w → 40 ≤ c → c < 1000 → nm (c - 40) = nm2 (c - 40) := by
    intro c hc h1 h2
    have hne : ¬ c = 44 := fun q => by
      subst q
      obtain ⟨p, hp⟩ := untN_some (L := L) 3 w hw
      unfold kcSeg at hc
      rw [show lG (lkF L) w = some p from hp] at hc
      exact h4 (List.mem_of_mem_drop (List.mem_of_mem_take (show 44 ∈ ((lK (lkF L)).drop p.1).take (p.2 - p.1) from hc)))
    rcases (kcSeg_G h hw).2 c hc with ⟨q, q2⟩ | ⟨q, q2⟩ | ⟨q, q2, qa⟩
    · exact absurd h1 (by omega)
    · exact absurd h2 (by omega)
    · refine e _ ?_ (by omega)
      unfold allow at qa
      by_cases hw1 : w = 1
      · rw [if_pos hw1, if_neg (by decide), if_pos rfl, decide_eq_true_iff] at qa
        rw [if_pos hw1]; exact qa
      · rw [if_neg hw1, if_pos rfl, decide_eq_true_iff] at qa
        rw [if_neg hw1]; exact qa
  unfold kcV
  rw [kcEx_cg (nm := nm) (nm2 := nm2) (kcSeg L w) [] key]
theorem untN_keep {L : LkS} {v : Nat} {p : Nat × Nat} (h : lG L v = some p) : ∀ i, lG (untN L i) v = some p
  | 0 => h
  | i + 1 => untS_keep (untN_keep h i)
theorem untN_app (L : LkS) : ∀ i, ∃ k, lK (untN L i) = lK L ++ k
  | 0 => ⟨[], (List.append_nil _).symm⟩
  | i + 1 => by
    obtain ⟨k, hk⟩ := untN_app L i
    obtain ⟨k2, hk2⟩ := untS_app (untN L i) i
    exact ⟨k ++ k2, by show lK (untS (untN L i) i) = _; rw [hk2, hk, List.append_assoc]⟩
theorem kcSeg_some {L : LkS} (hL : kcLk L) {w : Nat} {p : Nat × Nat} (h : lG L w = some p) : kcSeg L w = kcSub (lK L) p := by
  unfold kcSeg
  rw [show lG (lkF L) w = some p from untN_keep h 3]
  obtain ⟨k, hk⟩ := untN_app L 3
  show kcSub (lK (untN L 3)) p = _
  rw [hk]
  exact kcSub_app (hL w p h).1 (hL w p h).2.1
theorem untN_none {L : LkS} {v : Nat} (h : lG L v = none) : ∀ i, i ≤ v → lG (untN L i) v = none
  | 0, _ => h
  | i + 1, hi => by
    show lG (untS (untN L i) i) v = none
    rw [untS_G]
    by_cases h0 : (lG (untN L i) i).isSome = true
    · rw [if_pos h0]; exact untN_none h i (by omega)
    · rw [if_neg h0, if_neg (show ¬ v = i by omega)]; exact untN_none h i (by omega)
theorem kcSeg_none {L : LkS} {w : Nat} (hw : w < 3) (h : lG L w = none) : kcSeg L w = [if w = 1 then 45 else 40] := by
  have h1 := untN_none h w (Nat.le_refl w)
  have e1 : untN L (w + 1) = stS (untN L w) w [if w = 1 then 45 else 40] := by
    show untS (untN L w) w = _
    unfold untS
    rw [h1, if_neg (by decide)]
  have e2 : lG (untN L (w + 1)) w = some ((lK (untN L w)).length, (lK (untN L w)).length + 1) := by
    rw [e1]
    show updG (lG (untN L w)) w _ w = _
    unfold updG
    rw [if_pos rfl]
    rfl
  have e3 : lK (untN L (w + 1)) = lK (untN L w) ++ [if w = 1 then 45 else 40] := by rw [e1]; rfl
  have key : ∀ j, ∃ k, lG (untN L (w + 1 + j)) w = some ((lK (untN L w)).length, (lK (untN L w)).length + 1) ∧ lK (untN L (w + 1 + j)) = lK (untN L (w + 1)) ++ k := by
    intro j
    induction j with
    | zero => exact ⟨[], e2, (List.append_nil _).symm⟩
    | succ j ih =>
      obtain ⟨k, a, b⟩ := ih
      obtain ⟨k2, hk2⟩ := untS_app (untN L (w + 1 + j)) (w + 1 + j)
      exact ⟨k ++ k2, untS_keep a, by show lK (untS (untN L (w + 1 + j)) (w + 1 + j)) = _; rw [hk2, b, List.append_assoc]⟩
  obtain ⟨k, a, b⟩ := key (2 - w)
  rw [show w + 1 + (2 - w) = 3 by omega] at a b
  unfold kcSeg
  rw [show lG (lkF L) w = _ from a]
  show kcSub (lK (untN L 3)) _ = _
  rw [b, kcSub_app (by show (lK (untN L w)).length < (lK (untN L w)).length + 1; omega) (by rw [e3, List.length_append, List.length_singleton]; exact Nat.le_refl _), e3]
  exact kcSub_new
theorem kcV_none {L : LkS} {w : Nat} (hw : w < 3) (h : lG L w = none) (nm : Nat → Int64) : kcV L w nm = if w = 1 then nm 5 else nm 0 := by
  unfold kcV
  rw [kcSeg_none hw h]
  by_cases e : w = 1
  · rw [if_pos e, if_pos e, kcEx_1 (kcSt_nm (by decide) (by decide)) (Nat.le_of_ble_eq_true rfl)]
    rfl
  · rw [if_neg e, if_neg e, kcEx_1 (kcSt_nm (by decide) (by decide)) (Nat.le_of_ble_eq_true rfl)]
    rfl
/-! weeks: ways through days of ten moods -/
def kcS (f : Nat → Nat) : Nat → Nat
  | 0 => 0
  | n + 1 => kcS f n + f n
theorem kcS_cg {f g : Nat → Nat} : ∀ n, (∀ m, m < n → f m = g m) → kcS f n = kcS g n
  | 0, _ => rfl
  | n + 1, h => by
    show kcS f n + f n = kcS g n + g n
    rw [kcS_cg n (fun m hm => h m (by omega)), h n (by omega)]
theorem kcS_le {f : Nat → Nat} {b : Nat} : ∀ n, (∀ m, m < n → f m ≤ b) → kcS f n ≤ n * b
  | 0, _ => Nat.zero_le _
  | n + 1, h => by
    show kcS f n + f n ≤ (n + 1) * b
    have h1 := kcS_le n (fun m hm => h m (by omega))
    have h2 := h n (by omega)
    rw [Nat.succ_mul]
    omega
theorem kcS_z {f : Nat → Nat} : ∀ n, (∀ m, m < n → f m = 0) → kcS f n = 0
  | 0, _ => rfl
  | n + 1, h => by
    show kcS f n + f n = 0
    rw [kcS_z n (fun m hm => h m (by omega)), h n (by omega)]
theorem kcS_pos {f : Nat → Nat} : ∀ n, kcS f n = 0 → ∀ m, m < n → f m = 0
  | 0, _, m, hm => absurd hm (Nat.not_lt_zero m)
  | n + 1, h, m, hm => by
    have h1 : kcS f n + f n = 0 := h
    by_cases e : m = n
    · subst e; omega
    · exact kcS_pos n (by omega) m (by omega)
theorem kcS_add {f g : Nat → Nat} : ∀ n, kcS (fun m => f m + g m) n = kcS f n + kcS g n
  | 0 => rfl
  | n + 1 => by
    show kcS (fun m => f m + g m) n + (f n + g n) = (kcS f n + f n) + (kcS g n + g n)
    rw [kcS_add n]
    omega
theorem kcS_mul {f : Nat → Nat} {b : Nat} : ∀ n, kcS (fun m => f m * b) n = kcS f n * b
  | 0 => by show 0 = 0 * b; omega
  | n + 1 => by
    show kcS (fun m => f m * b) n + f n * b = (kcS f n + f n) * b
    rw [kcS_mul n, Nat.add_mul]
theorem kcS_mulL {f : Nat → Nat} {b : Nat} (n : Nat) : kcS (fun m => b * f m) n = b * kcS f n := by
  rw [kcS_cg (g := fun m => f m * b) n (fun m _ => Nat.mul_comm _ _), kcS_mul, Nat.mul_comm]
theorem kcS_swap {f : Nat → Nat → Nat} (k : Nat) : ∀ n, kcS (fun m => kcS (fun a => f a m) k) n = kcS (fun a => kcS (fun m => f a m) n) k
  | 0 => (kcS_z (f := fun a => kcS (fun m => f a m) 0) k (fun m _ => rfl)).symm
  | n + 1 => by
    show kcS (fun m => kcS (fun a => f a m) k) n + kcS (fun a => f a n) k = kcS (fun a => kcS (fun m => f a m) n + f a n) k
    rw [kcS_swap k n, kcS_add]
def kcC (E : Nat → Nat → Nat → Bool) : Nat → Nat → Nat → Nat
  | 0, _, _ => 1
  | k + 1, d, a => kcS (fun m => if E d a m = true then kcC E k (d + 1) m else 0) 10
theorem kcC_s (E : Nat → Nat → Nat → Bool) (k d a : Nat) : kcC E (k + 1) d a = kcS (fun m => if E d a m = true then kcC E k (d + 1) m else 0) 10 := rfl
theorem kcC_le (E : Nat → Nat → Nat → Bool) : ∀ k d a, kcC E k d a ≤ 10 ^ k
  | 0, _, _ => Nat.le_refl 1
  | k + 1, d, a => by
    rw [kcC_s, Nat.pow_succ, Nat.mul_comm]
    refine kcS_le 10 (fun m _ => ?_)
    split
    · exact kcC_le E k (d + 1) m
    · exact Nat.zero_le _
theorem kcC_cg {E F : Nat → Nat → Nat → Bool} : ∀ k d a, (∀ e, d ≤ e → e < d + k → ∀ x m, x < 10 → m < 10 → E e x m = F e x m) → a < 10 → kcC E k d a = kcC F k d a
  | 0, _, _, _, _ => rfl
  | k + 1, d, a, h, ha => by
    rw [kcC_s, kcC_s]
    refine kcS_cg 10 (fun m hm => ?_)
    rw [h d (Nat.le_refl d) (by omega) a m ha hm, kcC_cg k (d + 1) m (fun e h1 h2 x y hx hy => h e (by omega) (by omega) x y hx hy) hm]
theorem kc_9 {k : Nat} (h : k ≤ 9) : 10 ^ k ≤ 1000000000 := Nat.pow_le_pow_right (by decide) h
theorem kcC_9 (E : Nat → Nat → Nat → Bool) {k : Nat} (h : k ≤ 9) (d a : Nat) : kcC E k d a ≤ 1000000000 := Nat.le_trans (kcC_le E k d a) (kc_9 h)
/-- from ahead -/
def kcB (E : Nat → Nat → Nat → Bool) (a0 : Nat) : Nat → Nat → Nat
  | 0, m => if E 0 a0 m = true then 1 else 0
  | d + 1, m => kcS (fun a => if E (d + 1) a m = true then kcB E a0 d a else 0) 10
theorem kcB_0 (E : Nat → Nat → Nat → Bool) (a0 m : Nat) : kcB E a0 0 m = if E 0 a0 m = true then 1 else 0 := rfl
theorem kcB_s (E : Nat → Nat → Nat → Bool) (a0 d m : Nat) : kcB E a0 (d + 1) m = kcS (fun a => if E (d + 1) a m = true then kcB E a0 d a else 0) 10 := rfl
theorem kcB_C (E : Nat → Nat → Nat → Bool) (a0 : Nat) : ∀ d k, kcS (fun m => kcB E a0 d m * kcC E k (d + 1) m) 10 = kcC E (k + d + 1) 0 a0
  | 0, k => by
    rw [show k + 0 + 1 = k + 1 by omega, kcC_s]
    refine kcS_cg 10 (fun m _ => ?_)
    rw [kcB_0]
    by_cases h : E 0 a0 m = true
    · rw [if_pos h, if_pos h, Nat.one_mul]
    · rw [if_neg h, if_neg h, Nat.zero_mul]
  | d + 1, k => by
    have ih := kcB_C E a0 d (k + 1)
    rw [show k + (d + 1) + 1 = (k + 1) + d + 1 by omega, ← ih]
    rw [kcS_cg (g := fun m => kcS (fun a => if E (d + 1) a m = true then kcB E a0 d a * kcC E k (d + 1 + 1) m else 0) 10) 10 (fun m _ => ?_)]
    · rw [kcS_swap 10 10]
      refine kcS_cg 10 (fun a _ => ?_)
      rw [kcC_s, ← kcS_mulL]
      refine kcS_cg 10 (fun m _ => ?_)
      by_cases h : E (d + 1) a m = true
      · rw [if_pos h, if_pos h]
      · rw [if_neg h, if_neg h, Nat.mul_zero]
    · show kcB E a0 (d + 1) m * kcC E k (d + 1 + 1) m = _
      rw [kcB_s, ← kcS_mul]
      refine kcS_cg 10 (fun a _ => ?_)
      by_cases h : E (d + 1) a m = true
      · rw [if_pos h, if_pos h]
      · rw [if_neg h, if_neg h, Nat.zero_mul]
theorem kcB_all (E : Nat → Nat → Nat → Bool) (a0 d : Nat) : kcS (kcB E a0 d) 10 = kcC E (d + 1) 0 a0 := by
  have h := kcB_C E a0 d 0
  rw [Nat.zero_add] at h
  rw [← h]
  exact kcS_cg 10 (fun m _ => (Nat.mul_one _).symm)
/-! the week of a number -/
def kcP (w : Nat → Nat) : Nat → Nat → Nat → Nat × Nat
  | 0, m, x => (m, x)
  | f + 1, m, x => if x < w m then (m, x) else kcP w f (m + 1) (x - w m)
theorem kcP_s (w : Nat → Nat) (f m x : Nat) : kcP w (f + 1) m x = if x < w m then (m, x) else kcP w f (m + 1) (x - w m) := rfl
theorem kcP_go {w : Nat → Nat} {m x : Nat} (hm : m < 10) (h : ¬ x < w m) : kcP w (10 - m) m x = kcP w (10 - (m + 1)) (m + 1) (x - w m) := by
  rw [show 10 - m = (10 - (m + 1)) + 1 by omega, kcP_s, if_neg h]
theorem kcP_at {w : Nat → Nat} {m x : Nat} (hm : m < 10) (h : x < w m) : kcP w (10 - m) m x = (m, x) := by
  rw [show 10 - m = (10 - (m + 1)) + 1 by omega, kcP_s, if_pos h]
/-- what is left of a sum from a place on -/
def kcT (w : Nat → Nat) : Nat → Nat → Nat
  | 0, _ => 0
  | f + 1, m => w m + kcT w f (m + 1)
theorem kcT_S (w : Nat → Nat) : ∀ f m, kcS w m + kcT w f m = kcS w (m + f)
  | 0, m => rfl
  | f + 1, m => by
    show kcS w m + (w m + kcT w f (m + 1)) = _
    have h := kcT_S w f (m + 1)
    rw [show m + (f + 1) = m + 1 + f by omega, ← h]
    show kcS w m + (w m + kcT w f (m + 1)) = (kcS w m + w m) + kcT w f (m + 1)
    omega
theorem kcP_in {w : Nat → Nat} : ∀ f m x, x < kcT w f m → (kcP w f m x).1 < m + f ∧ (kcP w f m x).2 < w (kcP w f m x).1
  | 0, m, x, h => absurd h (Nat.not_lt_zero x)
  | f + 1, m, x, h => by
    rw [kcP_s]
    have h1 : x < w m + kcT w f (m + 1) := h
    by_cases c : x < w m
    · rw [if_pos c]; exact ⟨by show m < m + (f + 1); omega, c⟩
    · rw [if_neg c]
      have h2 := kcP_in (w := w) f (m + 1) (x - w m) (by omega)
      exact ⟨by omega, h2.2⟩
theorem kcP_10 {w : Nat → Nat} {x : Nat} (h : x < kcS w 10) : (kcP w 10 0 x).1 < 10 ∧ (kcP w 10 0 x).2 < w (kcP w 10 0 x).1 := by
  have h0 := kcT_S w 10 0
  have h1 : kcS w 0 = 0 := rfl
  have h2 := kcP_in (w := w) 10 0 x (by rw [show 0 + 10 = 10 from rfl] at h0; omega)
  exact ⟨by omega, h2.2⟩
/-- the first with some -/
theorem kcP_zero {w : Nat → Nat} : ∀ f m j, m ≤ j → j < m + f → 0 < w j → (∀ i, m ≤ i → i < j → w i = 0) → kcP w f m 0 = (j, 0)
  | 0, m, j, h1, h2, _, _ => absurd h2 (by omega)
  | f + 1, m, j, h1, h2, h3, h4 => by
    rw [kcP_s]
    by_cases e : j = m
    · subst e; rw [if_pos h3]
    · rw [if_neg (by rw [h4 m (Nat.le_refl m) (by omega)]; omega), Nat.zero_sub]
      exact kcP_zero f (m + 1) j (by omega) (by omega) h3 (fun i hi hj => h4 i (by omega) hj)
def kcW (E : Nat → Nat → Nat → Bool) (n d a m : Nat) : Nat := if E d a m = true then kcC E (n - (d + 1)) (d + 1) m else 0
/-- ahead of a day: the mood, and what is left of the number -/
def kcA (E : Nat → Nat → Nat → Bool) (n a0 x : Nat) : Nat → Nat × Nat
  | 0 => (a0, x)
  | d + 1 => kcP (kcW E n d (kcA E n a0 x d).1) 10 0 (kcA E n a0 x d).2
theorem kcA_s (E : Nat → Nat → Nat → Bool) (n a0 x d : Nat) : kcA E n a0 x (d + 1) = kcP (kcW E n d (kcA E n a0 x d).1) 10 0 (kcA E n a0 x d).2 := rfl
theorem kcW_S {E : Nat → Nat → Nat → Bool} {n d a : Nat} (h : d < n) : kcS (kcW E n d a) 10 = kcC E (n - d) d a := by
  rw [show n - d = (n - (d + 1)) + 1 by omega, kcC_s]
  rfl
