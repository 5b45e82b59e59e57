theorem lb_uniq {qt : Nat → Nat} {b w : Nat} {r r2 : Int32} (h : lbO qt b w r) (h2 : lbO qt b w r2) : r = r2 := by
  rcases h with ⟨e, h⟩ | ⟨k, k1, k2, k3, k4, k5, k6⟩
  · rcases h2 with ⟨e2, -⟩ | ⟨j, j1, j2, j3, j4, -, -⟩
    · rw [e, e2]
    · exact absurd ⟨j3, j4⟩ (h j j1 j2)
  · rcases h2 with ⟨-, h⟩ | ⟨j, j1, j2, j3, j4, j5, j6⟩
    · exact absurd ⟨k3, k4⟩ (h k k1 k2)
    · have e : k = j := by
        rcases Nat.lt_trichotomy k j with q | q | q
        · exact absurd ⟨j3, j4⟩ (k6 j q j2)
        · exact q
        · exact absurd ⟨k3, k4⟩ (j6 k q k2)
      subst e
      rw [k5, j5]
def brno (qt : Nat → Nat) (b w : Nat) : Prop := ∀ r, lbO qt b w r → ¬ r = 20 ∧ ¬ r = 23 ∧ ¬ r = 24
theorem brno_of {qt : Nat → Nat} {b w : Nat} {r1 r2 r3 : Int32} (h1 : lbO qt b w r1) (h2 : lbO qt b w r2) (h3 : lbO qt b w r3) (c1 : ¬ r1 = 20) (c2 : ¬ r2 = 23) (c3 : ¬ r3 = 24) : brno qt b w := fun r h => by
  rw [lb_uniq h h1]
  exact ⟨c1, by rw [lb_uniq h1 h2]; exact c2, by rw [lb_uniq h1 h3]; exact c3⟩
def YM (tb : Nat → Nat) (n kind d0 m0 b : Nat) (T : Res) (c : Cur) (qs : Nat → Nat) (qn : Nat) (qt : Nat → Nat) (w : Nat) (qo : Int32) : Prop := ∃ ph, ph ≤ 1 ∧ phO ph (topO qt b w) ∧ YY (Xa tb n kind ph) d0 m0 b T c qs qn qt w qo
theorem ym_0 {tb : Nat → Nat} {n kind d0 m0 b : Nat} {T : Res} {c : Cur} {qs : Nat → Nat} {qn : Nat} {qt : Nat → Nat} {w : Nat} {qo : Int32} (h : YY (Xa tb n kind 0) d0 m0 b T c qs qn qt w qo) (ht : ¬ topO qt b w = 60) : YM tb n kind d0 m0 b T c qs qn qt w qo := ⟨0, by omega, Or.inl ⟨rfl, ht⟩, h⟩
theorem ym_drop {tb : Nat → Nat} {n kind d0 m0 b : Nat} {T : Res} {c : Cur} {qs : Nat → Nat} {qn : Nat} {qt : Nat → Nat} {w : Nat} {qo : Int32} {qs2 : Nat → Nat} (h : YM tb n kind d0 m0 b T c qs qn qt w qo) (hw : b + 1 ≤ w) (hv : qt (w - 1) = 3 ∨ qt (w - 1) = 4) (e : qs2 = updN qs qn (qt (w - 1))) : YM tb n kind d0 m0 b T c qs2 (qn + 1) qt (w - 1) qo := by
  subst e
  obtain ⟨ph, h1, hp, h⟩ := h
  have ht : topO qt b w = qt (w - 1) := by unfold topO; rw [if_pos (by omega)]
  rw [ht] at hp
  unfold phO at hp
  obtain rfl : ph = 0 := by omega
  have hs := y_shp h hw
  exact ⟨1, by omega, by unfold phO; omega, y_d3 h hw hv⟩
theorem ym_1 {tb : Nat → Nat} {n kind d0 m0 b : Nat} {T : Res} {c : Cur} {qs : Nat → Nat} {qn : Nat} {qt : Nat → Nat} {w : Nat} {qo : Int32} (h : YM tb n kind d0 m0 b T c qs qn qt w qo) (h3 : ¬ topO qt b w = 3) (h4 : ¬ topO qt b w = 4) : YY (Xa tb n kind 1) d0 m0 b T c qs qn qt w qo ∧ phO 1 (topO qt b w) := by
  obtain ⟨ph, h1, hp, h⟩ := h
  unfold phO at hp ⊢
  refine ⟨?_, by omega⟩
  rcases hp with ⟨rfl, q⟩ | ⟨rfl, q⟩ | ⟨rfl, q⟩
  · exact y_01 h q h3 h4
  · exact h
  · omega
theorem yd_ph {tb : Nat → Nat} {n kind d0 m0 b : Nat} {T : Res} {c : Cur} {qs : Nat → Nat} {qn : Nat} {qt : Nat → Nat} {w : Nat} {qo : Int32} (h : YD tb n kind d0 m0 b T c qs qn qt w qo) : ¬ topO qt b w = 60 := by
  obtain ⟨ph, hp, h⟩ := h
  unfold phO at hp
  omega
theorem yd_bad {tb : Nat → Nat} {n kind d0 m0 b k : Nat} {T : Res} {c : Cur} {qt : Nat → Nat} {qo : Int32} (hk : b ≤ k) (hb : 20 ≤ qt k ∧ qt k ≤ 24) (s1 : ¬ isS tb n 42 c = true) (s2 : ¬ isS tb n 47 c = true) (s3 : ¬ isS tb n 43 c = true) (s4 : ¬ isS tb n 45 c = true) (h3 : qt k = 20 ∨ qt k = 23 ∨ qt k = 24 → ¬ isS tb n 41 c = true) (h4 : qt k = 21 ∨ qt k = 22 → ¬ isS tb n 44 c = true) : ∀ m qs qn, (∀ j, k < j → j < k + 1 + m → ¬ (20 ≤ qt j ∧ qt j ≤ 24)) → YD tb n kind d0 m0 b T c qs qn qt (k + 1 + m) qo → T = .error (1, c.1)
  | 0, qs, qn, _, h => by
    have ht : topO qt b (k + 1 + 0) = qt k := by unfold topO; rw [if_pos (by omega)]; rfl
    exact y_bad (yd_2 h (by rw [ht]; omega) s1 s2) (by omega) hb s3 s4 h3 h4
  | m + 1, qs, qn, hn, h => by
    have h1 := yd_drop h (by omega) (hn (k + 1 + m) (by omega) (by omega)) s1 s2 rfl
    exact yd_bad hk hb s1 s2 s3 s4 h3 h4 m _ _ (fun j a b => hn j a (by omega)) h1
theorem yd_badL {tb : Nat → Nat} {n kind d0 m0 b : Nat} {T : Res} {c : Cur} {qs : Nat → Nat} {qn : Nat} {qt : Nat → Nat} {w : Nat} {qo : Int32} {r : Int32} {v : Nat} (h : YD tb n kind d0 m0 b T c qs qn qt w qo) (hl : lbO qt b w r) (hr : ¬ r = -1) (s1 : ¬ isS tb n 42 c = true) (s2 : ¬ isS tb n 47 c = true) (s3 : ¬ isS tb n 43 c = true) (s4 : ¬ isS tb n 45 c = true) (h3 : isS tb n 41 c = true → brno qt b w) (h4 : r = 21 ∨ r = 22 → ¬ isS tb n 44 c = true) : T = .error (1, c.1) := by
  have hl0 := hl
  rcases hl with ⟨e, -⟩ | ⟨k, k1, k2, k3, k4, k5, k6⟩
  · exact absurd e hr
  · obtain ⟨m, rfl⟩ : ∃ m, w = k + 1 + m := ⟨w - (k + 1), by omega⟩
    refine yd_bad k1 ⟨k3, k4⟩ s1 s2 s3 s4 (fun q hs => ?_) (fun q => h4 ?_) m _ _ (fun j a d => k6 j a d) h
    · have := h3 hs r hl0
      rw [k5] at this
      rcases q with q | q | q
      · exact this.1 (by rw [q]; rfl)
      · exact this.2.1 (by rw [q]; rfl)
      · exact this.2.2 (by rw [q]; rfl)
    · rw [k5]
      rcases q with q | q
      · exact Or.inl (by rw [q]; rfl)
      · exact Or.inr (by rw [q]; rfl)
def gE (tb : Nat → Nat) (n kn d0 m0 b : Nat) (T : Res) (o : Except Err Cur) (qs : Nat → Nat) (qn : Nat) (qt : Nat → Nat) (w : Nat) (qo : Int32) : Prop := match o with
  | .error e => T = .error e
  | .ok c => YD tb n kn d0 m0 b T c qs qn qt w qo ∧ ¬ isS tb n 42 c = true ∧ ¬ isS tb n 47 c = true ∧ ¬ isS tb n 43 c = true ∧ ¬ isS tb n 45 c = true
def sE (d0 m0 : Nat) (T : Res) (o : Except Err Cur) (qs : Nat → Nat) (qn : Nat) (qo : Int32) : Prop := match o with
  | .error e => T = .error e
  | .ok c => ∃ k, T = .ok (c, k) ∧ ccO qs m0 qn k ∧ qo = nI (6 - d0)
theorem ya_at {tb : Nat → Nat} {n kn : Nat} {o : Except Err Cur} {pa : Nat} {pd : Int32} {pb : Nat} {pp : Int32} {d0 m0 b : Nat} {T : Res} {qs : Nat → Nat} {qn : Nat} {qt : Nat → Nat} {w : Nat} {qo : Int32} (h : moO tb n o pa pd pb pp) (hb : pb = 0) (hy : yA tb n kn d0 m0 b T o qs qn qt w qo) : YY (Xa tb n kn 0) d0 m0 b T (cuO tb n pa pd) qs qn qt w qo ∧ ¬ topO qt b w = 60 := by
  rw [(mo_ok h hb).1] at hy
  exact hy
theorem ya_e {tb : Nat → Nat} {n kn d0 m0 b : Nat} {T : Res} {o : Except Err Cur} {qs : Nat → Nat} {qn : Nat} {qt : Nat → Nat} {w : Nat} {qo : Int32} (hy : yA tb n kn d0 m0 b T o qs qn qt w qo) : ∀ e, o = .error e → T = .error e := by
  intro e he
  subst he
  exact hy
theorem ge_at {tb : Nat → Nat} {n kn : Nat} {o : Except Err Cur} {pa : Nat} {pd : Int32} {pb : Nat} {pp : Int32} {d0 m0 b : Nat} {T : Res} {qs : Nat → Nat} {qn : Nat} {qt : Nat → Nat} {w : Nat} {qo : Int32} (h : moO tb n o pa pd pb pp) (hb : pb = 0) (hy : gE tb n kn d0 m0 b T o qs qn qt w qo) : YD tb n kn d0 m0 b T (cuO tb n pa pd) qs qn qt w qo ∧ ¬ isS tb n 42 (cuO tb n pa pd) = true ∧ ¬ isS tb n 47 (cuO tb n pa pd) = true ∧ ¬ isS tb n 43 (cuO tb n pa pd) = true ∧ ¬ isS tb n 45 (cuO tb n pa pd) = true := by
  rw [(mo_ok h hb).1] at hy
  exact hy
theorem ge_e {tb : Nat → Nat} {n kn d0 m0 b : Nat} {T : Res} {o : Except Err Cur} {qs : Nat → Nat} {qn : Nat} {qt : Nat → Nat} {w : Nat} {qo : Int32} (hy : gE tb n kn d0 m0 b T o qs qn qt w qo) : ∀ e, o = .error e → T = .error e := by
  intro e he
  subst he
  exact hy
theorem se_of {tb : Nat → Nat} {n kn : Nat} {o : Except Err Cur} {pa : Nat} {pd : Int32} {pb : Nat} {pp : Int32} {d0 m0 b : Nat} {T : Res} {qs : Nat → Nat} {qn : Nat} {qt : Nat → Nat} {w : Nat} {qo : Int32} (h : moO tb n o pa pd pb pp) (he : ∀ e, o = .error e → T = .error e) (hy : pb = 0 → (YD tb n kn d0 m0 b T (cuO tb n pa pd) qs qn qt w qo ∧ w ≤ b ∧ ¬ isS tb n 42 (cuO tb n pa pd) = true ∧ ¬ isS tb n 47 (cuO tb n pa pd) = true ∧ ¬ isS tb n 43 (cuO tb n pa pd) = true ∧ ¬ isS tb n 45 (cuO tb n pa pd) = true)) : sE d0 m0 T o qs qn qo := by
  cases o with
  | error e => exact he e rfl
  | ok c =>
    have hc := mo_cu h rfl
    obtain ⟨h1, h2, h3, h4, h5, h6⟩ := hy hc.1
    have ht : topO qt b w = 0 := by unfold topO; rw [if_neg (by omega)]
    obtain ⟨k, k1, k2, k3⟩ := y_end (yd_2 h1 (by rw [ht]; omega) h3 h4) h2 h5 h6
    exact ⟨k, by rw [hc.2]; exact k1, k2, k3⟩

