theorem cc_0 (qs : Nat → Nat) (m0 : Nat) : ccO qs m0 m0 [] := ⟨rfl, fun j hj => absurd hj (Nat.not_lt_zero j)⟩
def YY (X : List Nat → Nat → Cur → List Nat → Res) (d0 m0 b : Nat) (T : Res) (c : Cur) (qs : Nat → Nat) (qn : Nat) (qt : Nat → Nat) (w : Nat) (qo : Int32) : Prop := ∃ k dd, dd + ops (wlist qt b (w - b)) = d0 ∧ d0 ≤ 6 ∧ qo = nI (6 - dd) ∧ ccO qs m0 qn k ∧ shp (wlist qt b (w - b)) ∧ b ≤ w ∧ X (wlist qt b (w - b)) dd c k = T
def yO (X : List Nat → Nat → Cur → List Nat → Res) (d0 m0 b : Nat) (T : Res) (o : Except Err Cur) (qs : Nat → Nat) (qn : Nat) (qt : Nat → Nat) (w : Nat) (qo : Int32) : Prop := match o with
  | .error e => T = .error e
  | .ok c => YY X d0 m0 b T c qs qn qt w qo
abbrev Xp (tb : Nat → Nat) (n kind : Nat) : List Nat → Nat → Cur → List Nat → Res := fun L dd c k => prt tb n kind L dd c k
abbrev Xa (tb : Nat → Nat) (n kind ph : Nat) : List Nat → Nat → Cur → List Nat → Res := fun L dd c k => aft tb n kind L ph dd c k
theorem nI_sub1 {dd : Nat} (h : dd + 1 ≤ 6) : nI (6 - dd) - 1 = nI (6 - (dd + 1)) := by
  rw [npred _ (by omega)]; congr 1
theorem nI_add1 {dd : Nat} (h : 1 ≤ dd) (h6 : dd ≤ 6) : nI (6 - dd) + 1 = nI (6 - (dd - 1)) := by
  rw [show (1 : Int32) = nI 1 from rfl, nI_add]; congr 1; omega
theorem qo_6 {dd : Nat} (h : dd ≤ 6) : nI (6 - dd) = 6 ↔ dd = 0 := by
  rw [show (6 : Int32) = nI 6 from rfl, nI_eq (by omega) (by omega)]; omega
theorem y_full {tb : Nat → Nat} {n kind d0 m0 b : Nat} {T : Res} {c : Cur} {qs : Nat → Nat} {qn : Nat} {qt : Nat → Nat} {w : Nat} {qo : Int32} {e : Err} (h : YY (Xp tb n kind) d0 m0 b T c qs qn qt w qo) (hq : qo = 6) (he : ∀ L k, prt tb n kind L 0 c k = .error e) : T = .error e := by
  obtain ⟨k, dd, h1, h2, h3, h4, h5, h6, h7⟩ := h
  have h0 := (qo_6 (by omega)).mp (h3.symm.trans hq)
  subst h0
  rw [← h7]; exact he _ _
theorem y_open {tb : Nat → Nat} {n kind d0 m0 b : Nat} {T : Res} {c c2 : Cur} {qs : Nat → Nat} {qn : Nat} {qt : Nat → Nat} {w v : Nat} {qo : Int32} (h : YY (Xp tb n kind) d0 m0 b T c qs qn qt w qo) (hq : ¬ qo = 6) (hv : v = 60 ∨ v = 20 ∨ v = 21 ∨ v = 22) (he : ∀ L d k, prt tb n kind L (d + 1) c k = prt tb n kind (v :: L) d c2 k) : YY (Xp tb n kind) d0 m0 b T c2 qs qn (updN qt w v) (w + 1) (qo + 1) := by
  obtain ⟨k, dd, h1, h2, h3, h4, h5, h6, h7⟩ := h
  have h0 : 1 ≤ dd := by
    rcases Nat.eq_zero_or_pos dd with q | q
    · exact absurd (h3.trans ((qo_6 (by omega)).mpr q)) hq
    · exact q
  have hw := wlist_push (qt := qt) (v := v) h6
  refine ⟨k, dd - 1, ?_, h2, by rw [h3]; exact nI_add1 h0 (by omega), h4, ?_, by omega, ?_⟩
  · rw [hw, ops, if_pos (by omega)]; omega
  · rw [hw]; exact ⟨h5, Or.inl (by omega)⟩
  · rw [hw]
    show prt tb n kind (v :: wlist qt b (w - b)) (dd - 1) c2 k = T
    rw [← he, show dd - 1 + 1 = dd by omega]; exact h7
theorem y_name {tb : Nat → Nat} {n kind d0 m0 b v : Nat} {T : Res} {c c2 : Cur} {qs : Nat → Nat} {qn : Nat} {qt : Nat → Nat} {w : Nat} {qo : Int32} (h : YY (Xp tb n kind) d0 m0 b T c qs qn qt w qo) (he : ∀ L d k, prt tb n kind L d c k = aft tb n kind L 0 d c2 (k ++ [v])) : YY (Xa tb n kind 0) d0 m0 b T c2 (updN qs qn v) (qn + 1) qt w qo := by
  obtain ⟨k, dd, h1, h2, h3, h4, h5, h6, h7⟩ := h
  exact ⟨k ++ [v], dd, h1, h2, h3, cc_push h4, h5, h6, by rw [← h7]; exact (he _ _ _).symm⟩
theorem y_err {X : List Nat → Nat → Cur → List Nat → Res} {d0 m0 b : Nat} {T : Res} {c : Cur} {qs : Nat → Nat} {qn : Nat} {qt : Nat → Nat} {w : Nat} {qo : Int32} {e : Err} (h : YY X d0 m0 b T c qs qn qt w qo) (he : ∀ L d k, shp L → X L d c k = .error e) : T = .error e := by
  obtain ⟨k, dd, h1, h2, h3, h4, h5, h6, h7⟩ := h
  rw [← h7]; exact he _ _ _ h5
theorem y_drop {tb : Nat → Nat} {n kind d0 m0 b ph ph2 : Nat} {T : Res} {c : Cur} {qs : Nat → Nat} {qn : Nat} {qt : Nat → Nat} {w : Nat} {qo : Int32} (h : YY (Xa tb n kind ph) d0 m0 b T c qs qn qt w qo) (hw : b + 1 ≤ w) (hv : qt (w - 1) < 20) (he : ∀ L d k, shp (qt (w - 1) :: L) → aft tb n kind (qt (w - 1) :: L) ph d c k = aft tb n kind L ph2 d c (k ++ [qt (w - 1)])) : YY (Xa tb n kind ph2) d0 m0 b T c (updN qs qn (qt (w - 1))) (qn + 1) qt (w - 1) qo := by
  obtain ⟨k, dd, h1, h2, h3, h4, h5, h6, h7⟩ := h
  rw [wlist_pop hw] at h1 h5 h7
  rw [ops, if_neg (by omega)] at h1
  refine ⟨k ++ [qt (w - 1)], dd, by omega, h2, h3, cc_push h4, h5.1, by omega, ?_⟩
  rw [← h7]; exact (he _ _ _ h5).symm
theorem y_weeks {tb : Nat → Nat} {n kind d0 m0 b : Nat} {T : Res} {c : Cur} {qs : Nat → Nat} {qn : Nat} {qt : Nat → Nat} {w : Nat} {qo : Int32} (h : YY (Xa tb n kind 0) d0 m0 b T c qs qn qt w qo) (hw : b + 1 ≤ w) (hv : 60 ≤ qt (w - 1)) : YY (Xa tb n kind 0) d0 m0 b T c (updN qs qn (qt (w - 1))) (qn + 1) qt (w - 1) (qo - 1) := by
  obtain ⟨k, dd, h1, h2, h3, h4, h5, h6, h7⟩ := h
  rw [wlist_pop hw] at h1 h5 h7
  rw [ops, if_pos (by omega)] at h1
  have e : qt (w - 1) = 60 := by
    have := h5.2
    omega
  rw [e] at h7 ⊢
  refine ⟨k ++ [60], dd + 1, by omega, h2, by rw [h3]; exact nI_sub1 (by omega), cc_push h4, h5.1, by omega, ?_⟩
  rw [← h7]
  show aft tb n kind _ 0 (dd + 1) c (k ++ [60]) = aft tb n kind (60 :: _) 0 dd c k
  rw [aft_w]
def topO (qt : Nat → Nat) (b w : Nat) : Nat := if b < w then qt (w - 1) else 0
theorem hd_top {qt : Nat → Nat} {b w : Nat} : hdL (wlist qt b (w - b)) = topO qt b w := by
  unfold topO
  by_cases h : b < w
  · rw [if_pos h, wlist_pop (by omega)]; rfl
  · rw [if_neg h, wlist_0 (by omega)]; rfl
theorem hd_some {L : List Nat} {o : Nat} (h : L.head? = some o) : hdL L = o := by
  cases L with
  | nil => cases h
  | cons a L => cases h; rfl
theorem y_01 {tb : Nat → Nat} {n kind d0 m0 b : Nat} {T : Res} {c : Cur} {qs : Nat → Nat} {qn : Nat} {qt : Nat → Nat} {w : Nat} {qo : Int32} (h : YY (Xa tb n kind 0) d0 m0 b T c qs qn qt w qo) (h1 : ¬ topO qt b w = 60) (h2 : ¬ topO qt b w = 3) (h3 : ¬ topO qt b w = 4) : YY (Xa tb n kind 1) d0 m0 b T c qs qn qt w qo := by
  obtain ⟨k, dd, g1, g2, g3, g4, g5, g6, g7⟩ := h
  refine ⟨k, dd, g1, g2, g3, g4, g5, g6, ?_⟩
  rw [← g7]
  exact (aft_01 (fun o ho => by rw [← hd_some ho, hd_top]; exact ⟨h1, h2, h3⟩)).symm
theorem y_12 {tb : Nat → Nat} {n kind d0 m0 b : Nat} {T : Res} {c : Cur} {qs : Nat → Nat} {qn : Nat} {qt : Nat → Nat} {w : Nat} {qo : Int32} (h : YY (Xa tb n kind 1) d0 m0 b T c qs qn qt w qo) (h1 : ¬ topO qt b w = 1) (h2 : ¬ topO qt b w = 2) (s1 : ¬ isS tb n 42 c = true) (s2 : ¬ isS tb n 47 c = true) : YY (Xa tb n kind 2) d0 m0 b T c qs qn qt w qo := by
  obtain ⟨k, dd, g1, g2, g3, g4, g5, g6, g7⟩ := h
  refine ⟨k, dd, g1, g2, g3, g4, g5, g6, ?_⟩
  rw [← g7]
  exact (aft_12 (fun o ho => by rw [← hd_some ho, hd_top]; exact ⟨h1, h2⟩) s1 s2).symm
theorem y_d3 {tb : Nat → Nat} {n kind d0 m0 b : Nat} {T : Res} {c : Cur} {qs : Nat → Nat} {qn : Nat} {qt : Nat → Nat} {w : Nat} {qo : Int32} (h : YY (Xa tb n kind 0) d0 m0 b T c qs qn qt w qo) (hw : b + 1 ≤ w) (hv : qt (w - 1) = 3 ∨ qt (w - 1) = 4) : YY (Xa tb n kind 1) d0 m0 b T c (updN qs qn (qt (w - 1))) (qn + 1) qt (w - 1) qo :=
  y_drop h hw (by omega) (fun L d k _ => aft_m hv)
theorem y_d1 {tb : Nat → Nat} {n kind d0 m0 b : Nat} {T : Res} {c : Cur} {qs : Nat → Nat} {qn : Nat} {qt : Nat → Nat} {w : Nat} {qo : Int32} (h : YY (Xa tb n kind 1) d0 m0 b T c qs qn qt w qo) (hw : b + 1 ≤ w) (hv : qt (w - 1) = 1 ∨ qt (w - 1) = 2) (s1 : ¬ isS tb n 42 c = true) (s2 : ¬ isS tb n 47 c = true) : YY (Xa tb n kind 2) d0 m0 b T c (updN qs qn (qt (w - 1))) (qn + 1) qt (w - 1) qo :=
  y_drop h hw (by omega) (fun L d k _ => aft_a hv s1 s2)
theorem y_shp {X : List Nat → Nat → Cur → List Nat → Res} {d0 m0 b : Nat} {T : Res} {c : Cur} {qs : Nat → Nat} {qn : Nat} {qt : Nat → Nat} {w : Nat} {qo : Int32} (h : YY X d0 m0 b T c qs qn qt w qo) (hw : b + 1 ≤ w) : ((qt (w - 1) = 60 ∨ (20 ≤ qt (w - 1) ∧ qt (w - 1) ≤ 24)) ∨ ((qt (w - 1) = 3 ∨ qt (w - 1) = 4) ∧ ¬ topO qt b (w - 1) = 60 ∧ ¬ topO qt b (w - 1) = 3 ∧ ¬ topO qt b (w - 1) = 4) ∨ ((qt (w - 1) = 1 ∨ qt (w - 1) = 2) ∧ ¬ topO qt b (w - 1) = 60 ∧ ¬ topO qt b (w - 1) = 3 ∧ ¬ topO qt b (w - 1) = 4 ∧ ¬ topO qt b (w - 1) = 1 ∧ ¬ topO qt b (w - 1) = 2)) := by
  obtain ⟨k, dd, g1, g2, g3, g4, g5, g6, g7⟩ := h
  rw [wlist_pop hw] at g5
  have := g5.2
  rw [hd_top] at this
  exact this
def phO (ph t : Nat) : Prop := (ph = 0 ∧ ¬ t = 60) ∨ (ph = 1 ∧ ¬ t = 60 ∧ ¬ t = 3 ∧ ¬ t = 4) ∨ (ph = 2 ∧ ¬ t = 60 ∧ ¬ t = 3 ∧ ¬ t = 4 ∧ ¬ t = 1 ∧ ¬ t = 2)
def YD (tb : Nat → Nat) (n kind d0 m0 b : Nat) (T : Res) (c : Cur) (qs : Nat → Nat) (qn : Nat) (qt : Nat → Nat) (w : Nat) (qo : Int32) : Prop := ∃ ph, phO ph (topO qt b w) ∧ YY (Xa tb n kind ph) d0 m0 b T c qs qn qt w qo
theorem yd_drop {tb : Nat → Nat} {n kind d0 m0 b : Nat} {T : Res} {c : Cur} {qs qs2 : Nat → Nat} {qn : Nat} {qt : Nat → Nat} {w : Nat} {qo : Int32} (h : YD tb n kind d0 m0 b T c qs qn qt w qo) (hw : b + 1 ≤ w) (hb : ¬ (20 ≤ qt (w - 1) ∧ qt (w - 1) ≤ 24)) (s1 : ¬ isS tb n 42 c = true) (s2 : ¬ isS tb n 47 c = true) (e : qs2 = updN qs qn (qt (w - 1))) : YD tb n kind d0 m0 b T c qs2 (qn + 1) qt (w - 1) qo := by
  subst e
  obtain ⟨ph, hp, h⟩ := h
  have ht : topO qt b w = qt (w - 1) := by unfold topO; rw [if_pos (by omega)]
  rw [ht] at hp
  have hs := y_shp h hw
  unfold phO at hp
  by_cases c3 : qt (w - 1) = 3 ∨ qt (w - 1) = 4
  · obtain rfl : ph = 0 := by omega
    exact ⟨1, by unfold phO; omega, y_d3 h hw c3⟩
  · have h1 : YY (Xa tb n kind 1) d0 m0 b T c qs qn qt w qo := by
      rcases hp with ⟨rfl, q⟩ | ⟨rfl, q⟩ | ⟨rfl, q⟩
      · exact y_01 h (by rw [ht]; omega) (by rw [ht]; omega) (by rw [ht]; omega)
      · exact h
      · exfalso; omega
    exact ⟨2, by unfold phO; omega, y_d1 h1 hw (by omega) s1 s2⟩
theorem yd_2 {tb : Nat → Nat} {n kind d0 m0 b : Nat} {T : Res} {c : Cur} {qs : Nat → Nat} {qn : Nat} {qt : Nat → Nat} {w : Nat} {qo : Int32} (h : YD tb n kind d0 m0 b T c qs qn qt w qo) (ht : ¬ topO qt b w = 1 ∧ ¬ topO qt b w = 2 ∧ ¬ topO qt b w = 3 ∧ ¬ topO qt b w = 4) (s1 : ¬ isS tb n 42 c = true) (s2 : ¬ isS tb n 47 c = true) : YY (Xa tb n kind 2) d0 m0 b T c qs qn qt w qo := by
  obtain ⟨ph, hp, h⟩ := h
  unfold phO at hp
  have h1 : YY (Xa tb n kind 1) d0 m0 b T c qs qn qt w qo ∨ YY (Xa tb n kind 2) d0 m0 b T c qs qn qt w qo := by
    rcases hp with ⟨rfl, q⟩ | ⟨rfl, q⟩ | ⟨rfl, q⟩
    · exact Or.inl (y_01 h (by omega) (by omega) (by omega))
    · exact Or.inl h
    · exact Or.inr h
  rcases h1 with h1 | h1
  · exact y_12 h1 (by omega) (by omega) s1 s2
  · exact h1
theorem yd_0 {tb : Nat → Nat} {n kind d0 m0 b : Nat} {T : Res} {c : Cur} {qs : Nat → Nat} {qn : Nat} {qt : Nat → Nat} {w : Nat} {qo : Int32} (h : YY (Xa tb n kind 0) d0 m0 b T c qs qn qt w qo) (ht : ¬ topO qt b w = 60) : YD tb n kind d0 m0 b T c qs qn qt w qo := ⟨0, Or.inl ⟨rfl, ht⟩, h⟩
theorem y_close {tb : Nat → Nat} {n kind d0 m0 b : Nat} {T : Res} {c : Cur} {qs : Nat → Nat} {qn : Nat} {qt : Nat → Nat} {w : Nat} {qo : Int32} (h : YY (Xa tb n kind 2) d0 m0 b T c qs qn qt w qo) (hw : b + 1 ≤ w) (hv : qt (w - 1) = 20) (hs : isS tb n 41 c = true) : YY (Xa tb n kind 0) d0 m0 b T (nx tb n c.1) qs qn qt (w - 1) (qo - 1) := by
  obtain ⟨k, dd, h1, h2, h3, h4, h5, h6, h7⟩ := h
  rw [wlist_pop hw, hv] at h1 h5 h7
  rw [ops, if_pos (by omega)] at h1
  refine ⟨k, dd + 1, by omega, h2, by rw [h3]; exact nI_sub1 (by omega), h4, h5.1, by omega, ?_⟩
  rw [← h7]; exact (aft_round hs).symm
theorem y_closem {tb : Nat → Nat} {n kind d0 m0 b v : Nat} {T : Res} {c : Cur} {qs : Nat → Nat} {qn : Nat} {qt : Nat → Nat} {w : Nat} {qo : Int32} (h : YY (Xa tb n kind 2) d0 m0 b T c qs qn qt w qo) (hw : b + 1 ≤ w) (hv : qt (w - 1) = 23 ∨ qt (w - 1) = 24) (hv2 : v + 18 = qt (w - 1)) (hs : isS tb n 41 c = true) : YY (Xa tb n kind 0) d0 m0 b T (nx tb n c.1) (updN qs qn v) (qn + 1) qt (w - 1) (qo - 1) := by
  obtain ⟨k, dd, h1, h2, h3, h4, h5, h6, h7⟩ := h
  rw [wlist_pop hw] at h1 h5 h7
  rw [ops, if_pos (by omega)] at h1
  refine ⟨k ++ [v], dd + 1, by omega, h2, by rw [h3]; exact nI_sub1 (by omega), cc_push h4, h5.1, by omega, ?_⟩
  rw [← h7]
  have e := aft_pair (tb := tb) (n := n) (kind := kind) (dd := dd) (L := wlist qt b (w - 1 - b)) (k := k) hv hs
  rw [show qt (w - 1) - 18 = v by omega] at e
  exact e.symm
theorem y_sign {tb : Nat → Nat} {n kind d0 m0 b v ch ph : Nat} {T : Res} {c : Cur} {qs : Nat → Nat} {qn : Nat} {qt : Nat → Nat} {w : Nat} {qo : Int32} (h : YY (Xa tb n kind ph) d0 m0 b T c qs qn qt w qo) (hp : phO ph (topO qt b w)) (hv : (ph = 1 ∧ ((ch = 42 ∧ v = 3) ∨ (ch = 47 ∧ v = 4))) ∨ (ph = 2 ∧ ((ch = 43 ∧ v = 1) ∨ (ch = 45 ∧ v = 2)))) (hs : isS tb n ch c = true) : YY (Xp tb n kind) d0 m0 b T (nx tb n c.1) qs qn (updN qt w v) (w + 1) qo := by
  obtain ⟨k, dd, h1, h2, h3, h4, h5, h6, h7⟩ := h
  have hw := wlist_push (qt := qt) (v := v) h6
  unfold phO at hp
  refine ⟨k, dd, ?_, h2, h3, h4, ?_, by omega, ?_⟩
  · rw [hw, ops, if_neg (by omega)]; omega
  · rw [hw]
    refine ⟨h5, ?_⟩
    rw [hd_top]
    omega
  · rw [hw, ← h7]
    rcases hv with ⟨rfl, hv⟩ | ⟨rfl, hv⟩
    · exact (aft_times hv hs).symm
    · exact (aft_plus hv hs).symm
theorem y_comma {tb : Nat → Nat} {n kind d0 m0 b v : Nat} {T : Res} {c : Cur} {qs : Nat → Nat} {qn : Nat} {qt : Nat → Nat} {w : Nat} {qo : Int32} (h : YY (Xa tb n kind 2) d0 m0 b T c qs qn qt w qo) (hw : b + 1 ≤ w) (hv : qt (w - 1) = 21 ∨ qt (w - 1) = 22) (hv2 : v = qt (w - 1) + 2) (hs : isS tb n 44 c = true) : YY (Xp tb n kind) d0 m0 b T (nx tb n c.1) qs qn (updN qt (w - 1) v) w qo := by
  obtain ⟨k, dd, h1, h2, h3, h4, h5, h6, h7⟩ := h
  rw [wlist_pop hw] at h1 h5 h7
  rw [ops, if_pos (by omega)] at h1
  have hset := wlist_set (qt := qt) (v := v) hw
  refine ⟨k, dd, ?_, h2, h3, h4, ?_, h6, ?_⟩
  · rw [hset, ops, if_pos (by omega)]; omega
  · rw [hset]; exact ⟨h5.1, Or.inl (by omega)⟩
  · rw [hset, ← h7, hv2]; exact (aft_comma hv hs).symm
theorem y_bad {tb : Nat → Nat} {n kind d0 m0 b : Nat} {T : Res} {c : Cur} {qs : Nat → Nat} {qn : Nat} {qt : Nat → Nat} {w : Nat} {qo : Int32} (h : YY (Xa tb n kind 2) d0 m0 b T c qs qn qt w qo) (hw : b + 1 ≤ w) (hv : 20 ≤ qt (w - 1) ∧ qt (w - 1) ≤ 24) (h1 : ¬ isS tb n 43 c = true) (h2 : ¬ isS tb n 45 c = true) (h3 : qt (w - 1) = 20 ∨ qt (w - 1) = 23 ∨ qt (w - 1) = 24 → ¬ isS tb n 41 c = true) (h4 : qt (w - 1) = 21 ∨ qt (w - 1) = 22 → ¬ isS tb n 44 c = true) : T = .error (1, c.1) := by
  obtain ⟨k, dd, g1, g2, g3, g4, g5, g6, g7⟩ := h
  rw [wlist_pop hw] at g7
  rw [← g7]; exact aft_bad hv h1 h2 h3 h4
theorem y_end {tb : Nat → Nat} {n kind d0 m0 b : Nat} {T : Res} {c : Cur} {qs : Nat → Nat} {qn : Nat} {qt : Nat → Nat} {w : Nat} {qo : Int32} (h : YY (Xa tb n kind 2) d0 m0 b T c qs qn qt w qo) (hw : w ≤ b) (h1 : ¬ isS tb n 43 c = true) (h2 : ¬ isS tb n 45 c = true) : ∃ k, T = .ok (c, k) ∧ ccO qs m0 qn k ∧ qo = nI (6 - d0) := by
  obtain ⟨k, dd, g1, g2, g3, g4, g5, g6, g7⟩ := h
  rw [wlist_0 hw] at g7 g1
  have e : dd = d0 := by
    have : ops [] = 0 := rfl
    omega
  exact ⟨k, by rw [← g7]; exact aft_end h1 h2, g4, by rw [← e]; exact g3⟩
theorem y_start {tb : Nat → Nat} {n kind d0 w : Nat} {c : Cur} {qs : Nat → Nat} {qn : Nat} {qt : Nat → Nat} {qo : Int32} (h6 : d0 ≤ 6) (hq : qo = nI (6 - d0)) : YY (Xp tb n kind) d0 qn w (sumD tb n kind d0 c) c qs qn qt w qo :=
  ⟨[], d0, by rw [wlist_0 (Nat.le_refl w)]; rfl, h6, hq, cc_0 qs qn, by rw [wlist_0 (Nat.le_refl w)]; trivial, Nat.le_refl w, by rw [wlist_0 (Nat.le_refl w)]; exact prt_sum.symm⟩
theorem mo_two {tb : Nat → Nat} {n : Nat} {o : Except Err Cur} {pa : Nat} {pd : Int32} {pb : Nat} {pp : Int32} {a : Nat} {d : Int32} {b2 : Nat} {p2 : Int32} (h : moO tb n o pa pd pb pp) (h2 : moO tb n o a d b2 p2) (hb : pb = 0) (hb2 : b2 = 0) : cuO tb n pa pd = cuO tb n a d := by
  have e := (mo_ok h hb).1.symm.trans (mo_ok h2 hb2).1
  exact Except.ok.inj e
theorem yo_at {tb : Nat → Nat} {n : Nat} {o : Except Err Cur} {pa : Nat} {pd : Int32} {pb : Nat} {pp : Int32} {X : List Nat → Nat → Cur → List Nat → Res} {d0 m0 b : Nat} {T : Res} {qs : Nat → Nat} {qn : Nat} {qt : Nat → Nat} {w : Nat} {qo : Int32} (h : moO tb n o pa pd pb pp) (hb : pb = 0) (hy : yO X d0 m0 b T o qs qn qt w qo) : YY X d0 m0 b T (cuO tb n pa pd) qs qn qt w qo := by
  rw [(mo_ok h hb).1] at hy
  exact hy
theorem yo_e {X : List Nat → Nat → Cur → List Nat → Res} {d0 m0 b : Nat} {T : Res} {o : Except Err Cur} {qs : Nat → Nat} {qn : Nat} {qt : Nat → Nat} {w : Nat} {qo : Int32} (hy : yO X d0 m0 b T o qs qn qt w qo) : ∀ e, o = .error e → T = .error e := by
  intro e he
  subst he
  exact hy
