theorem sk_sk (tb : Nat → Nat) (n a : Nat) : sk tb n (sk tb n a) = sk tb n a := ext_stop (ext_end qB tb n a)
def cuO (tb : Nat → Nat) (n pa : Nat) (pd : Int32) : Cur := (sk tb n pa, decide (pd = nI (sk tb n pa)))
def pdO (pa : Nat) (pd : Int32) : Prop := pd = -1 ∨ ∃ e : Nat, e ≤ pa ∧ pd = nI e
def moO (tb : Nat → Nat) (n : Nat) (o : Except Err Cur) (pa : Nat) (pd : Int32) (pb : Nat) (pp : Int32) : Prop := match o with
  | .ok c => pb = 0 ∧ pp = -1 ∧ pa ≤ n ∧ c = cuO tb n pa pd ∧ pdO pa pd
  | .error e => pb = e.1 ∧ pp = nI e.2 ∧ 1 ≤ e.1 ∧ e.1 ≤ 5
theorem pdO_up {a b : Nat} {pd : Int32} (h : pdO a pd) (hb : a ≤ b) : pdO b pd := by
  rcases h with h | ⟨e, h1, h2⟩
  · exact Or.inl h
  · exact Or.inr ⟨e, by omega, h2⟩
theorem cuO_sk (tb : Nat → Nat) (n pa : Nat) (pd : Int32) : cuO tb n (sk tb n pa) pd = cuO tb n pa pd := by
  unfold cuO; rw [sk_sk]
theorem mo_look {tb : Nat → Nat} {n : Nat} {o : Except Err Cur} {pa : Nat} {pd : Int32} {pb : Nat} {pp : Int32} (h : moO tb n o pa pd pb pp) : moO tb n o (sk tb n pa) pd pb pp := by
  cases o with
  | error e => exact h
  | ok c => exact ⟨h.1, h.2.1, ext_le h.2.2.1, by rw [cuO_sk]; exact h.2.2.2.1, pdO_up h.2.2.2.2 (ext_ge qB tb n pa)⟩
theorem mo_ok {tb : Nat → Nat} {n : Nat} {o : Except Err Cur} {pa : Nat} {pd : Int32} {pb : Nat} {pp : Int32} (h : moO tb n o pa pd pb pp) (hb : pb = 0) : o = .ok (cuO tb n pa pd) ∧ pp = -1 ∧ pa ≤ n ∧ pdO pa pd := by
  cases o with
  | error e =>
    have h1 := h.1
    have h2 := h.2.2.1
    omega
  | ok c => exact ⟨by rw [h.2.2.2.1], h.2.1, h.2.2.1, h.2.2.2.2⟩
theorem mo_nz {tb : Nat → Nat} {n : Nat} {o : Except Err Cur} {pa : Nat} {pd : Int32} {pb : Nat} {pp : Int32} (h : moO tb n o pa pd pb pp) (hb : ¬ pb = 0) : ∃ e, o = .error e := by
  cases o with
  | error e => exact ⟨e, rfl⟩
  | ok c => exact absurd h.1 hb
theorem mo_er {tb : Nat → Nat} {n : Nat} {o : Except Err Cur} {pa : Nat} {pd : Int32} {pb : Nat} {pp : Int32} {F : Cur → Except Err Cur} {pa2 : Nat} {pd2 : Int32} (h : moO tb n o pa pd pb pp) (hb : ¬ pb = 0) : moO tb n (bindR o F) pa2 pd2 pb pp := by
  obtain ⟨e, rfl⟩ := mo_nz h hb
  exact h
theorem mo_fail {tb : Nat → Nat} {n : Nat} {o : Except Err Cur} {pa : Nat} {pd : Int32} {pb : Nat} {pp : Int32} {F : Cur → Except Err Cur} {pa2 : Nat} {pd2 : Int32} {k w : Nat} (h : moO tb n o pa pd pb pp) (hb : pb = 0) (hk : 1 ≤ k) (hk5 : k ≤ 5) (e : F (cuO tb n pa pd) = .error (k, w)) : moO tb n (bindR o F) pa2 pd2 k (nI w) := by
  rw [(mo_ok h hb).1]
  show moO tb n (F (cuO tb n pa pd)) pa2 pd2 k (nI w)
  rw [e]
  exact ⟨rfl, rfl, hk, hk5⟩
theorem qLD {c : Nat} (h : qD c = true) : qL c = false := by
  have := qD_t.mp h
  exact qL_f (by omega)
theorem mo_nxW {tb : Nat → Nat} {n : Nat} {o : Except Err Cur} {pa : Nat} {pd : Int32} {pb : Nat} {pp : Int32} {F : Cur → Except Err Cur} {x : Nat} (h : moO tb n o pa pd pb pp) (hb : pb = 0) (hn : n ≤ 1600) (hx : x = te tb n (sk tb n pa)) (hw : (qL (tb (sk tb n pa)) || qD (tb (sk tb n pa))) = true) (hl : sk tb n pa < n) (e : F (cuO tb n pa pd) = .ok (nx tb n (sk tb n pa))) : moO tb n (bindR o F) x (nI x) pb pp := by
  obtain ⟨h1, h2, h3, h4⟩ := mo_ok h hb
  rw [h1]
  show moO tb n (F (cuO tb n pa pd)) x (nI x) pb pp
  rw [e]
  have hle : x ≤ n := by rw [hx]; exact te_le hl
  refine ⟨hb, h2, hle, ?_, Or.inr ⟨x, Nat.le_refl _, rfl⟩⟩
  unfold nx cuO
  rw [hw, Bool.true_and, ← hx]
  have hs : sk tb n x ≤ n := ext_le hle
  congr 1
  rw [Bool.eq_iff_iff, beq_iff_eq, decide_eq_true_iff, nI_eq (by omega) (by omega)]
  exact ⟨fun q => q.symm, fun q => q.symm⟩
theorem mo_nxS {tb : Nat → Nat} {n : Nat} {o : Except Err Cur} {pa : Nat} {pd : Int32} {pb : Nat} {pp : Int32} {F : Cur → Except Err Cur} {x : Nat} (h : moO tb n o pa pd pb pp) (hb : pb = 0) (hn : n ≤ 1600) (hx : x = sk tb n pa + 1) (h1 : qL (tb (sk tb n pa)) = false) (h2 : qD (tb (sk tb n pa)) = false) (hl : sk tb n pa < n) (e : F (cuO tb n pa pd) = .ok (nx tb n (sk tb n pa))) : moO tb n (bindR o F) x pd pb pp := by
  obtain ⟨g1, g2, g3, g4⟩ := mo_ok h hb
  rw [g1]
  show moO tb n (F (cuO tb n pa pd)) x pd pb pp
  rw [e]
  have ht : te tb n (sk tb n pa) = x := by unfold te; rw [h1, if_neg (by decide), h2, if_neg (by decide), hx]
  have hle : x ≤ n := by omega
  have hs := ext_ge qB tb n x
  have hs2 : sk tb n x ≤ n := ext_le hle
  have hp := ext_ge qB tb n pa
  refine ⟨hb, g2, hle, ?_, pdO_up g4 (by rw [hx]; unfold sk; omega)⟩
  unfold nx cuO
  rw [h1, h2, ht]
  show (sk tb n x, false) = _
  congr 1
  symm
  rw [decide_eq_false_iff_not]
  rcases g4 with g4 | ⟨e1, g5, g6⟩
  · rw [g4]
    intro q
    have := i_eq q
    rw [i_m1, i_nI (by omega)] at this
    omega
  · rw [g6]
    intro q
    have := (nI_eq (by omega) (by omega)).mp q
    unfold sk at *
    omega
theorem isW_no {tb : Nat → Nat} {n : Nat} {w : List Nat} {c : Cur} (h : ¬ (c.1 < n ∧ qL (tb c.1) = true)) : isW tb n w c = false := by
  cases q : isW tb n w c with
  | false => rfl
  | true => exact absurd ⟨isW_lt q, (isW_qL q).1⟩ h
theorem isW_fl {tb : Nat → Nat} {n pa : Nat} {pd : Int32} {w : List Nat} (h : pd = nI (sk tb n pa)) : isW tb n w (cuO tb n pa pd) = false := by
  cases q : isW tb n w (cuO tb n pa pd) with
  | false => rfl
  | true =>
    have := (isW_qL q).2.2
    unfold cuO at this
    rw [h] at this
    simp at this
theorem isW_len {tb : Nat → Nat} {n : Nat} {w : List Nat} {c : Cur} {k : Nat} (hk : k = ext qL tb n c.1) (h : ¬ k - c.1 = w.length) : isW tb n w c = false := by
  cases q : isW tb n w c with
  | false => rfl
  | true =>
    have := (isW_qL q).2.1
    rw [← this, wl_len] at h
    exact absurd (by rw [hk]) h
theorem wl_get {tb : Nat → Nat} {n s i : Nat} (h : i < ext qL tb n s - s) : (wl tb n s).getD i 0 = tb (s + i) := by
  unfold wl
  rw [List.getD_eq_getElem?_getD, List.getElem?_map, List.getElem?_eq_getElem (by rw [List.length_range]; exact h), List.getElem_range]; rfl
theorem isW_ne {tb : Nat → Nat} {n : Nat} {w : List Nat} {c : Cur} {k i : Nat} (hk : k = ext qL tb n c.1) (hl : k - c.1 = w.length) (hi : i < w.length) (h : ¬ tb (c.1 + i) = w.getD i 0) : isW tb n w c = false := by
  cases q : isW tb n w c with
  | false => rfl
  | true =>
    have := (isW_qL q).2.1
    exact absurd (by rw [← this, wl_get (by rw [← hk]; omega)]) h
theorem isW_yes {tb : Nat → Nat} {n : Nat} {w : List Nat} {c : Cur} {k : Nat} (h1 : c.1 < n) (h2 : qL (tb c.1) = true) (h3 : c.2 = false) (hk : k = ext qL tb n c.1) (hl : k - c.1 = w.length) (h : ∀ i, i < w.length → tb (c.1 + i) = w.getD i 0) : isW tb n w c = true := by
  unfold isW
  rw [Bool.and_eq_true, Bool.and_eq_true, Bool.and_eq_true, decide_eq_true_iff, h3, h2, beq_iff_eq]
  refine ⟨⟨⟨h1, rfl⟩, rfl⟩, List.ext_getElem? (fun i => ?_)⟩
  by_cases q : i < w.length
  · have a : i < (wl tb n c.1).length := by rw [wl_len, ← hk]; omega
    have b := wl_get (tb := tb) (n := n) (s := c.1) (i := i) (by rw [← hk]; omega)
    have d := h i q
    rw [List.getD_eq_getElem?_getD, List.getElem?_eq_getElem a, Option.getD_some] at b
    rw [List.getD_eq_getElem?_getD, List.getElem?_eq_getElem q, Option.getD_some] at d
    rw [List.getElem?_eq_getElem a, List.getElem?_eq_getElem q, b, d]
  · rw [List.getElem?_eq_none (by rw [wl_len, ← hk]; omega), List.getElem?_eq_none (by omega)]
theorem cu_f {tb : Nat → Nat} {n pa : Nat} {pd : Int32} (h : ¬ pd = nI (sk tb n pa)) : (cuO tb n pa pd).2 = false := decide_eq_false_iff_not.mpr h
theorem lk_L {tb : Nat → Nat} {r : Int32} {a e : Nat} (hb : ∀ j, tb j ≤ 255) (h : lkOk tb r a e) : ((97 : Int32) ≤ r ∧ r ≤ 122) ↔ (a < e ∧ qL (tb a) = true) := by
  have e1 : ((97 : Int32)).toInt = 97 := by decide
  have e2 : ((122 : Int32)).toInt = 122 := by decide
  rw [Int32.le_iff_toInt_le, Int32.le_iff_toInt_le, e1, e2, qL_t]
  have := hb a
  rcases h with ⟨h1, h2⟩ | ⟨h1, h2, -, -⟩
  · rw [h1, i_m1]; omega
  · rw [h2, i_nI (by omega)]; omega
theorem lk_D {tb : Nat → Nat} {r : Int32} {a e : Nat} (hb : ∀ j, tb j ≤ 255) (h : lkOk tb r a e) : ((48 : Int32) ≤ r ∧ r ≤ 57) ↔ (a < e ∧ qD (tb a) = true) := by
  have e1 : ((48 : Int32)).toInt = 48 := by decide
  have e2 : ((57 : Int32)).toInt = 57 := by decide
  rw [Int32.le_iff_toInt_le, Int32.le_iff_toInt_le, e1, e2, qD_t]
  have := hb a
  rcases h with ⟨h1, h2⟩ | ⟨h1, h2, -, -⟩
  · rw [h1, i_m1]; omega
  · rw [h2, i_nI (by omega)]; omega
theorem lk_S {tb : Nat → Nat} {r : Int32} {a e w : Nat} (hb : ∀ j, tb j ≤ 255) (hw : w ≤ 255) (h : lkOk tb r a e) : r = nI w ↔ (a < e ∧ tb a = w) := by
  have := hb a
  rcases h with ⟨h1, h2⟩ | ⟨h1, h2, -, -⟩
  · refine ⟨fun q => ?_, fun q => by omega⟩
    have := i_eq (h1.symm.trans q)
    rw [i_m1, i_nI (by omega)] at this
    omega
  · rw [h2, nI_eq (by omega) (by omega)]
    exact ⟨fun q => ⟨h1, q⟩, fun q => q.2⟩
theorem isS_cu {tb : Nat → Nat} {n pa b : Nat} {pd : Int32} : isS tb n b (cuO tb n pa pd) = true ↔ (sk tb n pa < n ∧ tb (sk tb n pa) = b) := by
  unfold isS
  rw [Bool.and_eq_true, decide_eq_true_iff, beq_iff_eq]
  exact Iff.rfl
theorem mo_takeW {tb : Nat → Nat} {n : Nat} {o : Except Err Cur} {pa : Nat} {pd : Int32} {pb : Nat} {pp : Int32} {w : List Nat} {F : Cur → Except Err Cur} {x : Nat} (h : moO tb n o pa pd pb pp) (hb : pb = 0) (hn : n ≤ 1600) (hw : isW tb n w (cuO tb n pa pd) = true) (hx : x = sk tb n pa + w.length) (e : F (cuO tb n pa pd) = .ok (nx tb n (sk tb n pa))) : moO tb n (bindR o F) x (nI x) pb pp := by
  have a := isW_qL hw
  have b : qL (tb (sk tb n pa)) = true := a.1
  have d : wl tb n (sk tb n pa) = w := a.2.1
  refine mo_nxW h hb hn ?_ (by rw [b]; rfl) (isW_lt hw) e
  rw [te_w b, hx, ← d, wl_len]
  have := ext_ge qL tb n (sk tb n pa)
  omega
theorem mo_asks1 {tb : Nat → Nat} {n : Nat} {w : List Nat} {c : Cur} (h : isW tb n w c = false) : wordP tb n w c = .error (1, c.1) := by
  unfold wordP; rw [h, if_neg (by decide)]
theorem mo_asks2 {tb : Nat → Nat} {n : Nat} {w : List Nat} {c : Cur} (h : isW tb n w c = true) : wordP tb n w c = .ok (nx tb n c.1) := by
  unfold wordP; rw [if_pos h]
theorem mo_takeS {tb : Nat → Nat} {n b : Nat} {o : Except Err Cur} {pa : Nat} {pd : Int32} {pb : Nat} {pp : Int32} {F : Cur → Except Err Cur} {x : Nat} (h : moO tb n o pa pd pb pp) (hb : pb = 0) (hn : n ≤ 1600) (hs : sk tb n pa < n ∧ tb (sk tb n pa) = b) (h9 : b < 256 ∧ ¬ (97 ≤ b ∧ b ≤ 122) ∧ ¬ (48 ≤ b ∧ b ≤ 57)) (hx : x = sk tb n pa + 1) (e : F (cuO tb n pa pd) = .ok (nx tb n (sk tb n pa))) : moO tb n (bindR o F) x pd pb pp :=
  mo_nxS h hb hn hx (qL_f (by rw [hs.2]; exact h9.2.1)) (qD_f (by rw [hs.2]; exact h9.2.2)) hs.1 e
theorem nm_no {tb : Nat → Nat} {n lo hi : Nat} {c : Cur} (h : ¬ (c.1 < n ∧ qD (tb c.1) = true ∧ c.2 = false)) : nmF tb n lo hi c = .error (1, c.1) := by
  unfold nmF numP; rw [if_neg h]; rfl
theorem nm_many {tb : Nat → Nat} {n lo hi : Nat} {c : Cur} (h : c.1 < n ∧ qD (tb c.1) = true ∧ c.2 = false) (h4 : 4 < ext qD tb n c.1 - c.1) : nmF tb n lo hi c = .error (1, c.1 + 4) := by
  unfold nmF numP; rw [if_pos h, if_pos h4]; rfl
theorem nm_out {tb : Nat → Nat} {n lo hi v : Nat} {c : Cur} (h : c.1 < n ∧ qD (tb c.1) = true ∧ c.2 = false) (h4 : ¬ 4 < ext qD tb n c.1 - c.1) (hv : v = vd tb c.1 (ext qD tb n c.1 - c.1)) (ho : ¬ (lo ≤ v ∧ v ≤ hi)) : nmF tb n lo hi c = .error (2, c.1) := by
  unfold nmF numP; rw [if_pos h, if_neg h4, ← hv, if_pos (by omega)]; rfl
theorem nm_ok {tb : Nat → Nat} {n lo hi v : Nat} {c : Cur} (h : c.1 < n ∧ qD (tb c.1) = true ∧ c.2 = false) (h4 : ¬ 4 < ext qD tb n c.1 - c.1) (hv : v = vd tb c.1 (ext qD tb n c.1 - c.1)) (ho : lo ≤ v ∧ v ≤ hi) : numP tb n lo hi c = .ok (v, nx tb n c.1) := by
  unfold numP; rw [if_pos h, if_neg h4, ← hv, if_neg (by omega)]
theorem nm_okF {tb : Nat → Nat} {n lo hi v : Nat} {c : Cur} (h : numP tb n lo hi c = .ok (v, nx tb n c.1)) : nmF tb n lo hi c = .ok (nx tb n c.1) := by
  unfold nmF; rw [h]; rfl
theorem nv_of {tb : Nat → Nat} {n lo hi v : Nat} {o : Except Err Cur} {pa : Nat} {pd : Int32} {pb : Nat} {pp : Int32} (h : moO tb n o pa pd pb pp) (hb : pb = 0) (hq : numP tb n lo hi (cuO tb n pa pd) = .ok (v, nx tb n (sk tb n pa))) : nvO tb n lo hi o v := by
  intro c r hc hr
  rw [(mo_ok h hb).1] at hc
  cases hc
  rw [hq] at hr
  cases hr
  rfl
theorem nv_er {tb : Nat → Nat} {n lo hi v : Nat} {o : Except Err Cur} {pa : Nat} {pd : Int32} {pb : Nat} {pp : Int32} (h : moO tb n o pa pd pb pp) (hb : ¬ pb = 0) : nvO tb n lo hi o v := by
  intro c r hc hr
  obtain ⟨e, rfl⟩ := mo_nz h hb
  cases hc
theorem nv_bad {tb : Nat → Nat} {n lo hi v : Nat} {o : Except Err Cur} {pa : Nat} {pd : Int32} {pb : Nat} {pp : Int32} {e : Err} (h : moO tb n o pa pd pb pp) (hb : pb = 0) (hq : nmF tb n lo hi (cuO tb n pa pd) = .error e) : nvO tb n lo hi o v := by
  intro c r hc hr
  rw [(mo_ok h hb).1] at hc
  cases hc
  unfold nmF at hq
  rw [hr] at hq
  cases hq
theorem mo_here {tb : Nat → Nat} {n : Nat} {o : Except Err Cur} {pa : Nat} {pd : Int32} {pb : Nat} {pp : Int32} {x : Nat} (h : moO tb n o pa pd pb pp) (hs : (pb = 0 ∧ x = sk tb n pa) ∨ (¬ pb = 0 ∧ x = pa)) : moO tb n o x pd pb pp := by
  rcases hs with ⟨-, rfl⟩ | ⟨-, rfl⟩
  · exact mo_look h
  · exact h
theorem mo_cu {tb : Nat → Nat} {n : Nat} {o : Except Err Cur} {pa : Nat} {pd : Int32} {pb : Nat} {pp : Int32} {c : Cur} (h : moO tb n o pa pd pb pp) (e : o = .ok c) : pb = 0 ∧ c = cuO tb n pa pd := by
  subst e
  exact ⟨h.1, h.2.2.2.1⟩
theorem mo_swap {tb : Nat → Nat} {n : Nat} {o : Except Err Cur} {pa : Nat} {pd : Int32} {pb : Nat} {pp : Int32} {F G : Cur → Except Err Cur} {pa2 : Nat} {pd2 : Int32} {pb2 : Nat} {pp2 : Int32} (h : moO tb n o pa pd pb pp) (e : pb = 0 → F (cuO tb n pa pd) = G (cuO tb n pa pd)) (h2 : moO tb n (bindR o F) pa2 pd2 pb2 pp2) : moO tb n (bindR o G) pa2 pd2 pb2 pp2 := by
  cases o with
  | error e => exact h2
  | ok c =>
    have hc := mo_cu h rfl
    have e2 : bindR (.ok c) F = bindR (.ok c) G := by
      show F c = G c
      rw [hc.2]; exact e hc.1
    rw [← e2]; exact h2
theorem ext_gt {q : Nat → Bool} {tb : Nat → Nat} {n a : Nat} (h : a < n) (hq : q (tb a) = true) : a + 1 ≤ ext q tb n a := by
  rw [← ext_go h hq]; exact ext_ge q tb n (a + 1)
theorem vd_s {tb : Nat → Nat} {b z v : Nat} (hb : b ≤ z) (h : v = vd tb b (z - b)) (h1 : 48 ≤ tb z) : 10 * v + tb z - 48 = vd tb b (z + 1 - b) := by
  rw [show z + 1 - b = (z - b) + 1 by omega, vd, show b + (z - b) = z by omega, ← h]
  omega
def wlist (qt : Nat → Nat) (b : Nat) : Nat → List Nat
  | 0 => []
  | k + 1 => qt (b + k) :: wlist qt b k
theorem wlist_cg {f g : Nat → Nat} {b : Nat} : ∀ k, (∀ j, j < k → f (b + j) = g (b + j)) → wlist f b k = wlist g b k
  | 0, _ => rfl
  | k + 1, h => by rw [wlist, wlist, h k (by omega), wlist_cg k (fun j hj => h j (by omega))]
theorem wlist_push {qt : Nat → Nat} {b w v : Nat} (h : b ≤ w) : wlist (updN qt w v) b (w + 1 - b) = v :: wlist qt b (w - b) := by
  rw [show w + 1 - b = (w - b) + 1 by omega, wlist, show b + (w - b) = w by omega, updN_at, wlist_cg (g := qt) (w - b) (fun j hj => updN_ne qt (by omega))]
theorem wlist_pop {qt : Nat → Nat} {b w : Nat} (h : b + 1 ≤ w) : wlist qt b (w - b) = qt (w - 1) :: wlist qt b (w - 1 - b) := by
  rw [show w - b = (w - 1 - b) + 1 by omega, wlist, show b + (w - 1 - b) = w - 1 by omega]
theorem wlist_set {qt : Nat → Nat} {b w v : Nat} (h : b + 1 ≤ w) : wlist (updN qt (w - 1) v) b (w - b) = v :: wlist qt b (w - 1 - b) := by
  rw [wlist_pop h, updN_at, wlist_cg (g := qt) (w - 1 - b) (fun j hj => updN_ne qt (by omega))]
theorem wlist_0 {qt : Nat → Nat} {b w : Nat} (h : w ≤ b) : wlist qt b (w - b) = [] := by
  rw [show w - b = 0 by omega]; rfl
def ops : List Nat → Nat
  | [] => 0
  | o :: L => (if 20 ≤ o then 1 else 0) + ops L
def hdL (L : List Nat) : Nat := L.headD 0
def shp : List Nat → Prop
  | [] => True
  | o :: L => shp L ∧ ((o = 60 ∨ (20 ≤ o ∧ o ≤ 24)) ∨ ((o = 3 ∨ o = 4) ∧ ¬ hdL L = 60 ∧ ¬ hdL L = 3 ∧ ¬ hdL L = 4) ∨ ((o = 1 ∨ o = 2) ∧ ¬ hdL L = 60 ∧ ¬ hdL L = 3 ∧ ¬ hdL L = 4 ∧ ¬ hdL L = 1 ∧ ¬ hdL L = 2))
def ccO (qs : Nat → Nat) (m0 qn : Nat) (k : List Nat) : Prop := qn = m0 + k.length ∧ ∀ j, j < k.length → qs (m0 + j) = k.getD j 0
theorem cc_push {qs : Nat → Nat} {m0 qn v : Nat} {k : List Nat} (h : ccO qs m0 qn k) : ccO (updN qs qn v) m0 (qn + 1) (k ++ [v]) := by
  refine ⟨by rw [List.length_append, List.length_singleton, h.1]; omega, fun j hj => ?_⟩
  rw [List.length_append, List.length_singleton] at hj
  by_cases e : j = k.length
  · subst e
    rw [← h.1, updN_at, List.getD_eq_getElem?_getD, List.getElem?_append_right (by omega), Nat.sub_self]; rfl
  · rw [updN_ne qs (by rw [h.1]; omega), List.getD_eq_getElem?_getD, List.getElem?_append_left (by omega), ← List.getD_eq_getElem?_getD]
    exact h.2 j (by omega)
