theorem sk_sk (tb : Nat → Nat) (n a : Nat) : sk tb n (sk tb n a) = sk tb n a := ext_stop (ext_end qB tb n a)
def cuO (tb : Nat → Nat) (n pa : Nat) (pd : Int32) : Cur := (sk tb n pa, decide (pd = nI (sk tb n pa)))
def pdO (pa : Nat) (pd : Int32) : Prop := pd = -1 ∨ ∃ e : Nat, e ≤ pa ∧ pd = nI e
def moO (tb : Nat → Nat) (n : Nat) (o : Except Err Cur) (pa : Nat) (pd : Int32) (pb : Nat) (pp : Int32) : Prop := match o with
  | .ok c => pb = 0 ∧ pp = -1 ∧ pa ≤ n ∧ c = cuO tb n pa pd ∧ pdO pa pd
  | .error e => pb = e.1 ∧ pp = nI e.2 ∧ 1 ≤ e.1 ∧ e.1 ≤ 5
theorem pdO_up {a b : Nat} {pd : Int32} (h : pdO a pd) (hb : a ≤ b) : pdO b pd := by
  rcases h with h | ⟨e, h1, h2⟩
  · exact Or.inl h
  · exact Or.inr ⟨e, by omega, h2⟩
theorem cuO_sk (tb : Nat → Nat) (n pa : Nat) (pd : Int32) : cuO tb n (sk tb n pa) pd = cuO tb n pa pd := by
  unfold cuO; rw [sk_sk]
theorem mo_look {tb : Nat → Nat} {n : Nat} {o : Except Err Cur} {pa : Nat} {pd : Int32} {pb : Nat} {pp : Int32} (h : moO tb n o pa pd pb pp) : moO tb n o (sk tb n pa) pd pb pp := by
  cases o with
  | error e => exact h
  | ok c => exact ⟨h.1, h.2.1, ext_le h.2.2.1, by rw [cuO_sk]; exact h.2.2.2.1, pdO_up h.2.2.2.2 (ext_ge qB tb n pa)⟩
theorem mo_ok {tb : Nat → Nat} {n : Nat} {o : Except Err Cur} {pa : Nat} {pd : Int32} {pb : Nat} {pp : Int32} (h : moO tb n o pa pd pb pp) (hb : pb = 0) : o = .ok (cuO tb n pa pd) ∧ pp = -1 ∧ pa ≤ n ∧ pdO pa pd := by
  cases o with
  | error e =>
    have h1 := h.1
    have h2 := h.2.2.1
    omega
  | ok c => exact ⟨by rw [h.2.2.2.1], h.2.1, h.2.2.1, h.2.2.2.2⟩
theorem mo_nz {tb : Nat → Nat} {n : Nat} {o : Except Err Cur} {pa : Nat} {pd : Int32} {pb : Nat} {pp : Int32} (h : moO tb n o pa pd pb pp) (hb : ¬ pb = 0) : ∃ e, o = .error e := by
  cases o with
  | error e => exact ⟨e, rfl⟩
  | ok c => exact absurd h.1 hb
theorem mo_er {tb : Nat → Nat} {n : Nat} {o : Except Err Cur} {pa : Nat} {pd : Int32} {pb : Nat} {pp : Int32} {F : Cur → Except Err Cur} {pa2 : Nat} {pd2 : Int32} (h : moO tb n o pa pd pb pp) (hb : ¬ pb = 0) : moO tb n (bindR o F) pa2 pd2 pb pp := by
  obtain ⟨e, rfl⟩ := mo_nz h hb
  exact h
theorem mo_fail {tb : Nat → Nat} {n : Nat} {o : Except Err Cur} {pa : Nat} {pd : Int32} {pb : Nat} {pp : Int32} {F : Cur → Except Err Cur} {pa2 : Nat} {pd2 : Int32} {k w : Nat} (h : moO tb n o pa pd pb pp) (hb : pb = 0) (hk : 1 ≤ k) (hk5 : k ≤ 5) (e : F (cuO tb n pa pd) = .error (k, w)) : moO tb n (bindR o F) pa2 pd2 k (nI w) := by
  rw [(mo_ok h hb).1]
  show moO tb n (F (cuO tb n pa pd)) pa2 pd2 k (nI w)
  rw [e]
  exact ⟨rfl, rfl, hk, hk5⟩
theorem qLD {c : Nat} (h : qD c = true) : qL c = false := by
  have := qD_t.mp h
  exact qL_f (by omega)
theorem mo_nxW {tb : Nat → Nat} {n : Nat} {o : Except Err Cur} {pa : Nat} {pd : Int32} {pb : Nat} {pp : Int32} {F : Cur → Except Err Cur} {x : Nat} (h : moO tb n o pa pd pb pp) (hb : pb = 0) (hn : n ≤ 1600) (hx : x = te tb n (sk tb n pa)) (hw : (qL (tb (sk tb n pa)) || qD (tb (sk tb n pa))) = true) (hl : sk tb n pa < n) (e : F (cuO tb n pa pd) = .ok (nx tb n (sk tb n pa))) : moO tb n (bindR o F) x (nI x) pb pp := by
  obtain ⟨h1, h2, h3, h4⟩ := mo_ok h hb
  rw [h1]
  show moO tb n (F (cuO tb n pa pd)) x (nI x) pb pp
  rw [e]
  have hle : x ≤ n := by rw [hx]; exact te_le hl
  refine ⟨hb, h2, hle, ?_, Or.inr ⟨x, Nat.le_refl _, rfl⟩⟩
  unfold nx cuO
  rw [hw, Bool.true_and, ← hx]
  have hs : sk tb n x ≤ n := ext_le hle
  congr 1
  rw [Bool.eq_iff_iff, beq_iff_eq, decide_eq_true_iff, nI_eq (by omega) (by omega)]
  exact ⟨fun q => q.symm, fun q => q.symm⟩
theorem mo_nxS {tb : Nat → Nat} {n : Nat} {o : Except Err Cur} {pa : Nat} {pd : Int32} {pb : Nat} {pp : Int32} {F : Cur → Except Err Cur} {x : Nat} (h : moO tb n o pa pd pb pp) (hb : pb = 0) (hn : n ≤ 1600) (hx : x = sk tb n pa + 1) (h1 : qL (tb (sk tb n pa)) = false) (h2 : qD (tb (sk tb n pa)) = false) (hl : sk tb n pa < n) (e : F (cuO tb n pa pd) = .ok (nx tb n (sk tb n pa))) : moO tb n (bindR o F) x pd pb pp := by
  obtain ⟨g1, g2, g3, g4⟩ := mo_ok h hb
  rw [g1]
  show moO tb n (F (cuO tb n pa pd)) x pd pb pp
  rw [e]
  have ht : te tb n (sk tb n pa) = x := by unfold te; rw [h1, if_neg (by decide), h2, if_neg (by decide), hx]
  have hle : x ≤ n := by omega
  have hs := ext_ge qB tb n x
  have hs2 : sk tb n x ≤ n := ext_le hle
  have hp := ext_ge qB tb n pa
  refine ⟨hb, g2, hle, ?_, pdO_up g4 (by rw [hx]; unfold sk; omega)⟩
  unfold nx cuO
  rw [h1, h2, ht]
  show (sk tb n x, false) = _
  congr 1
  symm
  rw [decide_eq_false_iff_not]
  rcases g4 with g4 | ⟨e1, g5, g6⟩
  · rw [g4]
    intro q
    have := i_eq q
    rw [i_m1, i_nI (by omega)] at this
    omega
  · rw [g6]
    intro q
    have := (nI_eq (by omega) (by omega)).mp q
    unfold sk at *
    omega
theorem isW_no {tb : Nat → Nat} {n : Nat} {w : List Nat} {c : Cur} (h : ¬ (c.1 < n ∧ qL (tb c.1) = true)) : isW tb n w c = false := by
  cases q : isW tb n w c with
  | false => rfl
  | true => exact absurd ⟨isW_lt q, (isW_qL q).1⟩ h
theorem isW_fl {tb : Nat → Nat} {n pa : Nat} {pd : Int32} {w : List Nat} (h : pd = nI (sk tb n pa)) : isW tb n w (cuO tb n pa pd) = false := by
  cases q : isW tb n w (cuO tb n pa pd) with
  | false => rfl
  | true =>
    have := (isW_qL q).2.2
    unfold cuO at this
    rw [h] at this
    simp at this
theorem isW_len {tb : Nat → Nat} {n : Nat} {w : List Nat} {c : Cur} {k : Nat} (hk : k = ext qL tb n c.1) (h : ¬ k - c.1 = w.length) : isW tb n w c = false := by
  cases q : isW tb n w c with
  | false => rfl
  | true =>
    have := (isW_qL q).2.1
    rw [← this, wl_len] at h
    exact absurd (by rw [hk]) h
theorem wl_get {tb : Nat → Nat} {n s i : Nat} (h : i < ext qL tb n s - s) : (wl tb n s).getD i 0 = tb (s + i) := by
  unfold wl
  rw [List.getD_eq_getElem?_getD, List.getElem?_map, List.getElem?_eq_getElem (by rw [List.length_range]; exact h), List.getElem_range]; rfl
theorem isW_ne {tb : Nat → Nat} {n : Nat} {w : List Nat} {c : Cur} {k i : Nat} (hk : k = ext qL tb n c.1) (hl : k - c.1 = w.length) (hi : i < w.length) (h : ¬ tb (c.1 + i) = w.getD i 0) : isW tb n w c = false := by
  cases q : isW tb n w c with
  | false => rfl
  | true =>
    have := (isW_qL q).2.1
    exact absurd (by rw [← this, wl_get (by rw [← hk]; omega)]) h
theorem isW_yes {tb : Nat → Nat} {n : Nat} {w : List Nat} {c : Cur} {k : Nat} (h1 : c.1 < n) (h2 : qL (tb c.1) = true) (h3 : c.2 = false) (hk : k = ext qL tb n c.1) (hl : k - c.1 = w.length) (h : ∀ i, i < w.length → tb (c.1 + i) = w.getD i 0) : isW tb n w c = true := by
  unfold isW
  rw [Bool.and_eq_true, Bool.and_eq_true, Bool.and_eq_true, decide_eq_true_iff, h3, h2, beq_iff_eq]
  refine ⟨⟨⟨h1, rfl⟩, rfl⟩, List.ext_getElem? (fun i => ?_)⟩
  by_cases q : i < w.length
  · have a : i < (wl tb n c.1).length := by rw [wl_len, ← hk]; omega
    have b := wl_get (tb := tb) (n := n) (s := c.1) (i := i) (by rw [← hk]; omega)
    have d := h i q
    rw [List.getD_eq_getElem?_getD, List.getElem?_eq_getElem a, Option.getD_some] at b
    rw [List.getD_eq_getElem?_getD, List.getElem?_eq_getElem q, Option.getD_some] at d
    rw [List.getElem?_eq_getElem a, List.getElem?_eq_getElem q, b, d]
  · rw [List.getElem?_eq_none (by rw [wl_len, ← hk]; omega), List.getElem?_eq_none (by omega)]
theorem cu_1 {tb : Nat → Nat} {n pa : Nat} {pd : Int32} : (cuO tb n pa pd).1 = sk tb n pa := rfl
theorem cu_f {tb : Nat → Nat} {n pa : Nat} {pd : Int32} (h : ¬ pd = nI (sk tb n pa)) : (cuO tb n pa pd).2 = false := decide_eq_false_iff_not.mpr h
theorem lk_L {tb : Nat → Nat} {r : Int32} {a e : Nat} (hb : ∀ j, tb j ≤ 255) (h : lkOk tb r a e) : ((97 : Int32) ≤ r ∧ r ≤ 122) ↔ (a < e ∧ qL (tb a) = true) := by
  have e1 : ((97 : Int32)).toInt = 97 := by decide
  have e2 : ((122 : Int32)).toInt = 122 := by decide
  rw [Int32.le_iff_toInt_le, Int32.le_iff_toInt_le, e1, e2, qL_t]
  have := hb a
  rcases h with ⟨h1, h2⟩ | ⟨h1, h2, -, -⟩
  · rw [h1, i_m1]; omega
  · rw [h2, i_nI (by omega)]; omega
theorem lk_D {tb : Nat → Nat} {r : Int32} {a e : Nat} (hb : ∀ j, tb j ≤ 255) (h : lkOk tb r a e) : ((48 : Int32) ≤ r ∧ r ≤ 57) ↔ (a < e ∧ qD (tb a) = true) := by
  have e1 : ((48 : Int32)).toInt = 48 := by decide
  have e2 : ((57 : Int32)).toInt = 57 := by decide
  rw [Int32.le_iff_toInt_le, Int32.le_iff_toInt_le, e1, e2, qD_t]
  have := hb a
  rcases h with ⟨h1, h2⟩ | ⟨h1, h2, -, -⟩
  · rw [h1, i_m1]; omega
  · rw [h2, i_nI (by omega)]; omega
theorem lk_S {tb : Nat → Nat} {r : Int32} {a e w : Nat} (hb : ∀ j, tb j ≤ 255) (hw : w ≤ 255) (h : lkOk tb r a e) : r = nI w ↔ (a < e ∧ tb a = w) := by
  have := hb a
  rcases h with ⟨h1, h2⟩ | ⟨h1, h2, -, -⟩
  · refine ⟨fun q => ?_, fun q => by omega⟩
    have := i_eq (h1.symm.trans q)
    rw [i_m1, i_nI (by omega)] at this
    omega
  · rw [h2, nI_eq (by omega) (by omega)]
    exact ⟨fun q => ⟨h1, q⟩, fun q => q.2⟩
theorem isS_cu {tb : Nat → Nat} {n pa b : Nat} {pd : Int32} : isS tb n b (cuO tb n pa pd) = true ↔ (sk tb n pa < n ∧ tb (sk tb n pa) = b) := by
  unfold isS
  rw [Bool.and_eq_true, decide_eq_true_iff, beq_iff_eq]
  exact Iff.rfl
theorem mo_takeW {tb : Nat → Nat} {n : Nat} {o : Except Err Cur} {pa : Nat} {pd : Int32} {pb : Nat} {pp : Int32} {w : List Nat} {F : Cur → Except Err Cur} {x : Nat} (h : moO tb n o pa pd pb pp) (hb : pb = 0) (hn : n ≤ 1600) (hw : isW tb n w (cuO tb n pa pd) = true) (hx : x = sk tb n pa + w.length) (e : F (cuO tb n pa pd) = .ok (nx tb n (sk tb n pa))) : moO tb n (bindR o F) x (nI x) pb pp := by
  have a := isW_qL hw
  have b : qL (tb (sk tb n pa)) = true := a.1
  have d : wl tb n (sk tb n pa) = w := a.2.1
  refine mo_nxW h hb hn ?_ (by rw [b]; rfl) (isW_lt hw) e
  rw [te_w b, hx, ← d, wl_len]
  have := ext_ge qL tb n (sk tb n pa)
  omega
theorem mo_asks1 {tb : Nat → Nat} {n : Nat} {w : List Nat} {c : Cur} (h : isW tb n w c = false) : wordP tb n w c = .error (1, c.1) := by
  unfold wordP; rw [h, if_neg (by decide)]
theorem mo_asks2 {tb : Nat → Nat} {n : Nat} {w : List Nat} {c : Cur} (h : isW tb n w c = true) : wordP tb n w c = .ok (nx tb n c.1) := by
  unfold wordP; rw [if_pos h]
theorem mo_takeS {tb : Nat → Nat} {n b : Nat} {o : Except Err Cur} {pa : Nat} {pd : Int32} {pb : Nat} {pp : Int32} {F : Cur → Except Err Cur} {x : Nat} (h : moO tb n o pa pd pb pp) (hb : pb = 0) (hn : n ≤ 1600) (hs : sk tb n pa < n ∧ tb (sk tb n pa) = b) (h9 : b < 256 ∧ ¬ (97 ≤ b ∧ b ≤ 122) ∧ ¬ (48 ≤ b ∧ b ≤ 57)) (hx : x = sk tb n pa + 1) (e : F (cuO tb n pa pd) = .ok (nx tb n (sk tb n pa))) : moO tb n (bindR o F) x pd pb pp :=
  mo_nxS h hb hn hx (qL_f (by rw [hs.2]; exact h9.2.1)) (qD_f (by rw [hs.2]; exact h9.2.2)) hs.1 e
theorem nm_no {tb : Nat → Nat} {n lo hi : Nat} {c : Cur} (h : ¬ (c.1 < n ∧ qD (tb c.1) = true ∧ c.2 = false)) : nmF tb n lo hi c = .error (1, c.1) := by
  unfold nmF numP; rw [if_neg h]; rfl
theorem nm_many {tb : Nat → Nat} {n lo hi : Nat} {c : Cur} (h : c.1 < n ∧ qD (tb c.1) = true ∧ c.2 = false) (h4 : 4 < ext qD tb n c.1 - c.1) : nmF tb n lo hi c = .error (1, c.1 + 4) := by
  unfold nmF numP; rw [if_pos h, if_pos h4]; rfl
theorem nm_out {tb : Nat → Nat} {n lo hi v : Nat} {c : Cur} (h : c.1 < n ∧ qD (tb c.1) = true ∧ c.2 = false) (h4 : ¬ 4 < ext qD tb n c.1 - c.1) (hv : v = vd tb c.1 (ext qD tb n c.1 - c.1)) (ho : ¬ (lo ≤ v ∧ v ≤ hi)) : nmF tb n lo hi c = .error (2, c.1) := by
  unfold nmF numP; rw [if_pos h, if_neg h4, ← hv, if_pos (by omega)]; rfl
theorem nm_ok {tb : Nat → Nat} {n lo hi v : Nat} {c : Cur} (h : c.1 < n ∧ qD (tb c.1) = true ∧ c.2 = false) (h4 : ¬ 4 < ext qD tb n c.1 - c.1) (hv : v = vd tb c.1 (ext qD tb n c.1 - c.1)) (ho : lo ≤ v ∧ v ≤ hi) : numP tb n lo hi c = .ok (v, nx tb n c.1) := by
  unfold numP; rw [if_pos h, if_neg h4, ← hv, if_neg (by omega)]
theorem nm_okF {tb : Nat → Nat} {n lo hi v : Nat} {c : Cur} (h : numP tb n lo hi c = .ok (v, nx tb n c.1)) : nmF tb n lo hi c = .ok (nx tb n c.1) := by
  unfold nmF; rw [h]; rfl
theorem nv_of {tb : Nat → Nat} {n lo hi v : Nat} {o : Except Err Cur} {pa : Nat} {pd : Int32} {pb : Nat} {pp : Int32} (h : moO tb n o pa pd pb pp) (hb : pb = 0) (hq : numP tb n lo hi (cuO tb n pa pd) = .ok (v, nx tb n (sk tb n pa))) : nvO tb n lo hi o v := by
  intro c r hc hr
  rw [(mo_ok h hb).1] at hc
  cases hc
  rw [hq] at hr
  cases hr
  rfl
theorem nv_er {tb : Nat → Nat} {n lo hi v : Nat} {o : Except Err Cur} {pa : Nat} {pd : Int32} {pb : Nat} {pp : Int32} (h : moO tb n o pa pd pb pp) (hb : ¬ pb = 0) : nvO tb n lo hi o v := by
  intro c r hc hr
  obtain ⟨e, rfl⟩ := mo_nz h hb
  cases hc
theorem nv_bad {tb : Nat → Nat} {n lo hi v : Nat} {o : Except Err Cur} {pa : Nat} {pd : Int32} {pb : Nat} {pp : Int32} {e : Err} (h : moO tb n o pa pd pb pp) (hb : pb = 0) (hq : nmF tb n lo hi (cuO tb n pa pd) = .error e) : nvO tb n lo hi o v := by
  intro c r hc hr
  rw [(mo_ok h hb).1] at hc
  cases hc
  unfold nmF at hq
  rw [hr] at hq
  cases hq
theorem mo_here {tb : Nat → Nat} {n : Nat} {o : Except Err Cur} {pa : Nat} {pd : Int32} {pb : Nat} {pp : Int32} {x : Nat} (h : moO tb n o pa pd pb pp) (hs : (pb = 0 ∧ x = sk tb n pa) ∨ (¬ pb = 0 ∧ x = pa)) : moO tb n o x pd pb pp := by
  rcases hs with ⟨-, rfl⟩ | ⟨-, rfl⟩
  · exact mo_look h
  · exact h
theorem mo_cu {tb : Nat → Nat} {n : Nat} {o : Except Err Cur} {pa : Nat} {pd : Int32} {pb : Nat} {pp : Int32} {c : Cur} (h : moO tb n o pa pd pb pp) (e : o = .ok c) : pb = 0 ∧ c = cuO tb n pa pd := by
  subst e
  exact ⟨h.1, h.2.2.2.1⟩
theorem mo_swap {tb : Nat → Nat} {n : Nat} {o : Except Err Cur} {pa : Nat} {pd : Int32} {pb : Nat} {pp : Int32} {F G : Cur → Except Err Cur} {pa2 : Nat} {pd2 : Int32} {pb2 : Nat} {pp2 : Int32} (h : moO tb n o pa pd pb pp) (e : pb = 0 → F (cuO tb n pa pd) = G (cuO tb n pa pd)) (h2 : moO tb n (bindR o F) pa2 pd2 pb2 pp2) : moO tb n (bindR o G) pa2 pd2 pb2 pp2 := by
  cases o with
  | error e => exact h2
  | ok c =>
    have hc := mo_cu h rfl
    have e2 : bindR (.ok c) F = bindR (.ok c) G := by
      show F c = G c
      rw [hc.2]; exact e hc.1
    rw [← e2]; exact h2
theorem ext_gt {q : Nat → Bool} {tb : Nat → Nat} {n a : Nat} (h : a < n) (hq : q (tb a) = true) : a + 1 ≤ ext q tb n a := by
  rw [← ext_go h hq]; exact ext_ge q tb n (a + 1)
theorem vd_s {tb : Nat → Nat} {b z v : Nat} (hb : b ≤ z) (h : v = vd tb b (z - b)) (h1 : 48 ≤ tb z) : 10 * v + tb z - 48 = vd tb b (z + 1 - b) := by
  rw [show z + 1 - b = (z - b) + 1 by omega, vd, show b + (z - b) = z by omega, ← h]
  omega
def wlist (qt : Nat → Nat) (b : Nat) : Nat → List Nat
  | 0 => []
  | k + 1 => qt (b + k) :: wlist qt b k
theorem wlist_cg {f g : Nat → Nat} {b : Nat} : ∀ k, (∀ j, j < k → f (b + j) = g (b + j)) → wlist f b k = wlist g b k
  | 0, _ => rfl
  | k + 1, h => by rw [wlist, wlist, h k (by omega), wlist_cg k (fun j hj => h j (by omega))]
theorem wlist_push {qt : Nat → Nat} {b w v : Nat} (h : b ≤ w) : wlist (updN qt w v) b (w + 1 - b) = v :: wlist qt b (w - b) := by
  rw [show w + 1 - b = (w - b) + 1 by omega, wlist, show b + (w - b) = w by omega, updN_at, wlist_cg (g := qt) (w - b) (fun j hj => updN_ne qt (by omega))]
theorem wlist_pop {qt : Nat → Nat} {b w : Nat} (h : b + 1 ≤ w) : wlist qt b (w - b) = qt (w - 1) :: wlist qt b (w - 1 - b) := by
  rw [show w - b = (w - 1 - b) + 1 by omega, wlist, show b + (w - 1 - b) = w - 1 by omega]
theorem wlist_set {qt : Nat → Nat} {b w v : Nat} (h : b + 1 ≤ w) : wlist (updN qt (w - 1) v) b (w - b) = v :: wlist qt b (w - 1 - b) := by
  rw [wlist_pop h, updN_at, wlist_cg (g := qt) (w - 1 - b) (fun j hj => updN_ne qt (by omega))]
theorem wlist_0 {qt : Nat → Nat} {b w : Nat} (h : w ≤ b) : wlist qt b (w - b) = [] := by
  rw [show w - b = 0 by omega]; rfl
def ops : List Nat → Nat
  | [] => 0
  | o :: L => (if 20 ≤ o then 1 else 0) + ops L
def hdL (L : List Nat) : Nat := L.headD 0
def shp : List Nat → Prop
  | [] => True
  | o :: L => shp L ∧ ((o = 60 ∨ (20 ≤ o ∧ o ≤ 24)) ∨ ((o = 3 ∨ o = 4) ∧ ¬ hdL L = 60 ∧ ¬ hdL L = 3 ∧ ¬ hdL L = 4) ∨ ((o = 1 ∨ o = 2) ∧ ¬ hdL L = 60 ∧ ¬ hdL L = 3 ∧ ¬ hdL L = 4 ∧ ¬ hdL L = 1 ∧ ¬ hdL L = 2))
def ccO (qs : Nat → Nat) (m0 qn : Nat) (k : List Nat) : Prop := qn = m0 + k.length ∧ ∀ j, j < k.length → qs (m0 + j) = k.getD j 0
theorem cc_push {qs : Nat → Nat} {m0 qn v : Nat} {k : List Nat} (h : ccO qs m0 qn k) : ccO (updN qs qn v) m0 (qn + 1) (k ++ [v]) := by
  refine ⟨by rw [List.length_append, List.length_singleton, h.1]; omega, fun j hj => ?_⟩
  rw [List.length_append, List.length_singleton] at hj
  by_cases e : j = k.length
  · subst e
    rw [← h.1, updN_at, List.getD_eq_getElem?_getD, List.getElem?_append_right (by omega), Nat.sub_self]; rfl
  · rw [updN_ne qs (by rw [h.1]; omega), List.getD_eq_getElem?_getD, List.getElem?_append_left (by omega), ← List.getD_eq_getElem?_getD]
    exact h.2 j (by omega)
theorem cc_0 (qs : Nat → Nat) (m0 : Nat) : ccO qs m0 m0 [] := ⟨rfl, fun j hj => absurd hj (Nat.not_lt_zero j)⟩
def YY (X : List Nat → Nat → Cur → List Nat → Res) (d0 m0 b : Nat) (T : Res) (c : Cur) (qs : Nat → Nat) (qn : Nat) (qt : Nat → Nat) (w : Nat) (qo : Int32) : Prop := ∃ k dd, dd + ops (wlist qt b (w - b)) = d0 ∧ d0 ≤ 6 ∧ qo = nI (6 - dd) ∧ ccO qs m0 qn k ∧ shp (wlist qt b (w - b)) ∧ b ≤ w ∧ X (wlist qt b (w - b)) dd c k = T
def yO (X : List Nat → Nat → Cur → List Nat → Res) (d0 m0 b : Nat) (T : Res) (o : Except Err Cur) (qs : Nat → Nat) (qn : Nat) (qt : Nat → Nat) (w : Nat) (qo : Int32) : Prop := match o with
  | .error e => T = .error e
  | .ok c => YY X d0 m0 b T c qs qn qt w qo
abbrev Xp (tb : Nat → Nat) (n kind : Nat) : List Nat → Nat → Cur → List Nat → Res := fun L dd c k => prt tb n kind L dd c k
abbrev Xa (tb : Nat → Nat) (n kind ph : Nat) : List Nat → Nat → Cur → List Nat → Res := fun L dd c k => aft tb n kind L ph dd c k
theorem nI_sub1 {dd : Nat} (h : dd + 1 ≤ 6) : nI (6 - dd) - 1 = nI (6 - (dd + 1)) := by
  rw [npred _ (by omega)]; congr 1
theorem nI_add1 {dd : Nat} (h : 1 ≤ dd) (h6 : dd ≤ 6) : nI (6 - dd) + 1 = nI (6 - (dd - 1)) := by
  rw [show (1 : Int32) = nI 1 from rfl, nI_add]; congr 1; omega
theorem qo_6 {dd : Nat} (h : dd ≤ 6) : nI (6 - dd) = 6 ↔ dd = 0 := by
  rw [show (6 : Int32) = nI 6 from rfl, nI_eq (by omega) (by omega)]; omega
theorem y_full {tb : Nat → Nat} {n kind d0 m0 b : Nat} {T : Res} {c : Cur} {qs : Nat → Nat} {qn : Nat} {qt : Nat → Nat} {w : Nat} {qo : Int32} {e : Err} (h : YY (Xp tb n kind) d0 m0 b T c qs qn qt w qo) (hq : qo = 6) (he : ∀ L k, prt tb n kind L 0 c k = .error e) : T = .error e := by
  obtain ⟨k, dd, h1, h2, h3, h4, h5, h6, h7⟩ := h
  have h0 := (qo_6 (by omega)).mp (h3.symm.trans hq)
  subst h0
  rw [← h7]; exact he _ _
theorem y_open {tb : Nat → Nat} {n kind d0 m0 b : Nat} {T : Res} {c c2 : Cur} {qs : Nat → Nat} {qn : Nat} {qt : Nat → Nat} {w v : Nat} {qo : Int32} (h : YY (Xp tb n kind) d0 m0 b T c qs qn qt w qo) (hq : ¬ qo = 6) (hv : v = 60 ∨ v = 20 ∨ v = 21 ∨ v = 22) (he : ∀ L d k, prt tb n kind L (d + 1) c k = prt tb n kind (v :: L) d c2 k) : YY (Xp tb n kind) d0 m0 b T c2 qs qn (updN qt w v) (w + 1) (qo + 1) := by
  obtain ⟨k, dd, h1, h2, h3, h4, h5, h6, h7⟩ := h
  have h0 : 1 ≤ dd := by
    rcases Nat.eq_zero_or_pos dd with q | q
    · exact absurd (h3.trans ((qo_6 (by omega)).mpr q)) hq
    · exact q
  have hw := wlist_push (qt := qt) (v := v) h6
  refine ⟨k, dd - 1, ?_, h2, by rw [h3]; exact nI_add1 h0 (by omega), h4, ?_, by omega, ?_⟩
  · rw [hw, ops, if_pos (by omega)]; omega
  · rw [hw]; exact ⟨h5, Or.inl (by omega)⟩
  · rw [hw]
    show prt tb n kind (v :: wlist qt b (w - b)) (dd - 1) c2 k = T
    rw [← he, show dd - 1 + 1 = dd by omega]; exact h7
theorem y_name {tb : Nat → Nat} {n kind d0 m0 b v : Nat} {T : Res} {c c2 : Cur} {qs : Nat → Nat} {qn : Nat} {qt : Nat → Nat} {w : Nat} {qo : Int32} (h : YY (Xp tb n kind) d0 m0 b T c qs qn qt w qo) (he : ∀ L d k, prt tb n kind L d c k = aft tb n kind L 0 d c2 (k ++ [v])) : YY (Xa tb n kind 0) d0 m0 b T c2 (updN qs qn v) (qn + 1) qt w qo := by
  obtain ⟨k, dd, h1, h2, h3, h4, h5, h6, h7⟩ := h
  exact ⟨k ++ [v], dd, h1, h2, h3, cc_push h4, h5, h6, by rw [← h7]; exact (he _ _ _).symm⟩
theorem y_err {X : List Nat → Nat → Cur → List Nat → Res} {d0 m0 b : Nat} {T : Res} {c : Cur} {qs : Nat → Nat} {qn : Nat} {qt : Nat → Nat} {w : Nat} {qo : Int32} {e : Err} (h : YY X d0 m0 b T c qs qn qt w qo) (he : ∀ L d k, shp L → X L d c k = .error e) : T = .error e := by
  obtain ⟨k, dd, h1, h2, h3, h4, h5, h6, h7⟩ := h
  rw [← h7]; exact he _ _ _ h5
theorem y_drop {tb : Nat → Nat} {n kind d0 m0 b ph ph2 : Nat} {T : Res} {c : Cur} {qs : Nat → Nat} {qn : Nat} {qt : Nat → Nat} {w : Nat} {qo : Int32} (h : YY (Xa tb n kind ph) d0 m0 b T c qs qn qt w qo) (hw : b + 1 ≤ w) (hv : qt (w - 1) < 20) (he : ∀ L d k, shp (qt (w - 1) :: L) → aft tb n kind (qt (w - 1) :: L) ph d c k = aft tb n kind L ph2 d c (k ++ [qt (w - 1)])) : YY (Xa tb n kind ph2) d0 m0 b T c (updN qs qn (qt (w - 1))) (qn + 1) qt (w - 1) qo := by
  obtain ⟨k, dd, h1, h2, h3, h4, h5, h6, h7⟩ := h
  rw [wlist_pop hw] at h1 h5 h7
  rw [ops, if_neg (by omega)] at h1
  refine ⟨k ++ [qt (w - 1)], dd, by omega, h2, h3, cc_push h4, h5.1, by omega, ?_⟩
  rw [← h7]; exact (he _ _ _ h5).symm
theorem y_weeks {tb : Nat → Nat} {n kind d0 m0 b : Nat} {T : Res} {c : Cur} {qs : Nat → Nat} {qn : Nat} {qt : Nat → Nat} {w : Nat} {qo : Int32} (h : YY (Xa tb n kind 0) d0 m0 b T c qs qn qt w qo) (hw : b + 1 ≤ w) (hv : 60 ≤ qt (w - 1)) : YY (Xa tb n kind 0) d0 m0 b T c (updN qs qn (qt (w - 1))) (qn + 1) qt (w - 1) (qo - 1) := by
  obtain ⟨k, dd, h1, h2, h3, h4, h5, h6, h7⟩ := h
  rw [wlist_pop hw] at h1 h5 h7
  rw [ops, if_pos (by omega)] at h1
  have e : qt (w - 1) = 60 := by
    have := h5.2
    omega
  rw [e] at h7 ⊢
  refine ⟨k ++ [60], dd + 1, by omega, h2, by rw [h3]; exact nI_sub1 (by omega), cc_push h4, h5.1, by omega, ?_⟩
  rw [← h7]
  show aft tb n kind _ 0 (dd + 1) c (k ++ [60]) = aft tb n kind (60 :: _) 0 dd c k
  rw [aft_w]
def topO (qt : Nat → Nat) (b w : Nat) : Nat := if b < w then qt (w - 1) else 0
theorem hd_top {qt : Nat → Nat} {b w : Nat} : hdL (wlist qt b (w - b)) = topO qt b w := by
  unfold topO
  by_cases h : b < w
  · rw [if_pos h, wlist_pop (by omega)]; rfl
  · rw [if_neg h, wlist_0 (by omega)]; rfl
theorem hd_some {L : List Nat} {o : Nat} (h : L.head? = some o) : hdL L = o := by
  cases L with
  | nil => cases h
  | cons a L => cases h; rfl
theorem y_01 {tb : Nat → Nat} {n kind d0 m0 b : Nat} {T : Res} {c : Cur} {qs : Nat → Nat} {qn : Nat} {qt : Nat → Nat} {w : Nat} {qo : Int32} (h : YY (Xa tb n kind 0) d0 m0 b T c qs qn qt w qo) (h1 : ¬ topO qt b w = 60) (h2 : ¬ topO qt b w = 3) (h3 : ¬ topO qt b w = 4) : YY (Xa tb n kind 1) d0 m0 b T c qs qn qt w qo := by
  obtain ⟨k, dd, g1, g2, g3, g4, g5, g6, g7⟩ := h
  refine ⟨k, dd, g1, g2, g3, g4, g5, g6, ?_⟩
  rw [← g7]
  exact (aft_01 (fun o ho => by rw [← hd_some ho, hd_top]; exact ⟨h1, h2, h3⟩)).symm
theorem y_12 {tb : Nat → Nat} {n kind d0 m0 b : Nat} {T : Res} {c : Cur} {qs : Nat → Nat} {qn : Nat} {qt : Nat → Nat} {w : Nat} {qo : Int32} (h : YY (Xa tb n kind 1) d0 m0 b T c qs qn qt w qo) (h1 : ¬ topO qt b w = 1) (h2 : ¬ topO qt b w = 2) (s1 : ¬ isS tb n 42 c = true) (s2 : ¬ isS tb n 47 c = true) : YY (Xa tb n kind 2) d0 m0 b T c qs qn qt w qo := by
  obtain ⟨k, dd, g1, g2, g3, g4, g5, g6, g7⟩ := h
  refine ⟨k, dd, g1, g2, g3, g4, g5, g6, ?_⟩
  rw [← g7]
  exact (aft_12 (fun o ho => by rw [← hd_some ho, hd_top]; exact ⟨h1, h2⟩) s1 s2).symm
theorem y_d3 {tb : Nat → Nat} {n kind d0 m0 b : Nat} {T : Res} {c : Cur} {qs : Nat → Nat} {qn : Nat} {qt : Nat → Nat} {w : Nat} {qo : Int32} (h : YY (Xa tb n kind 0) d0 m0 b T c qs qn qt w qo) (hw : b + 1 ≤ w) (hv : qt (w - 1) = 3 ∨ qt (w - 1) = 4) : YY (Xa tb n kind 1) d0 m0 b T c (updN qs qn (qt (w - 1))) (qn + 1) qt (w - 1) qo :=
  y_drop h hw (by omega) (fun L d k _ => aft_m hv)
theorem y_d1 {tb : Nat → Nat} {n kind d0 m0 b : Nat} {T : Res} {c : Cur} {qs : Nat → Nat} {qn : Nat} {qt : Nat → Nat} {w : Nat} {qo : Int32} (h : YY (Xa tb n kind 1) d0 m0 b T c qs qn qt w qo) (hw : b + 1 ≤ w) (hv : qt (w - 1) = 1 ∨ qt (w - 1) = 2) (s1 : ¬ isS tb n 42 c = true) (s2 : ¬ isS tb n 47 c = true) : YY (Xa tb n kind 2) d0 m0 b T c (updN qs qn (qt (w - 1))) (qn + 1) qt (w - 1) qo :=
  y_drop h hw (by omega) (fun L d k _ => aft_a hv s1 s2)
theorem y_shp {X : List Nat → Nat → Cur → List Nat → Res} {d0 m0 b : Nat} {T : Res} {c : Cur} {qs : Nat → Nat} {qn : Nat} {qt : Nat → Nat} {w : Nat} {qo : Int32} (h : YY X d0 m0 b T c qs qn qt w qo) (hw : b + 1 ≤ w) : ((qt (w - 1) = 60 ∨ (20 ≤ qt (w - 1) ∧ qt (w - 1) ≤ 24)) ∨ ((qt (w - 1) = 3 ∨ qt (w - 1) = 4) ∧ ¬ topO qt b (w - 1) = 60 ∧ ¬ topO qt b (w - 1) = 3 ∧ ¬ topO qt b (w - 1) = 4) ∨ ((qt (w - 1) = 1 ∨ qt (w - 1) = 2) ∧ ¬ topO qt b (w - 1) = 60 ∧ ¬ topO qt b (w - 1) = 3 ∧ ¬ topO qt b (w - 1) = 4 ∧ ¬ topO qt b (w - 1) = 1 ∧ ¬ topO qt b (w - 1) = 2)) := by
  obtain ⟨k, dd, g1, g2, g3, g4, g5, g6, g7⟩ := h
  rw [wlist_pop hw] at g5
  have := g5.2
  rw [hd_top] at this
  exact this
theorem y_b {X : List Nat → Nat → Cur → List Nat → Res} {d0 m0 b : Nat} {T : Res} {c : Cur} {qs : Nat → Nat} {qn : Nat} {qt : Nat → Nat} {w : Nat} {qo : Int32} (h : YY X d0 m0 b T c qs qn qt w qo) : b ≤ w := by
  obtain ⟨k, dd, g1, g2, g3, g4, g5, g6, g7⟩ := h
  exact g6
def phO (ph t : Nat) : Prop := (ph = 0 ∧ ¬ t = 60) ∨ (ph = 1 ∧ ¬ t = 60 ∧ ¬ t = 3 ∧ ¬ t = 4) ∨ (ph = 2 ∧ ¬ t = 60 ∧ ¬ t = 3 ∧ ¬ t = 4 ∧ ¬ t = 1 ∧ ¬ t = 2)
def YD (tb : Nat → Nat) (n kind d0 m0 b : Nat) (T : Res) (c : Cur) (qs : Nat → Nat) (qn : Nat) (qt : Nat → Nat) (w : Nat) (qo : Int32) : Prop := ∃ ph, phO ph (topO qt b w) ∧ YY (Xa tb n kind ph) d0 m0 b T c qs qn qt w qo
theorem yd_drop {tb : Nat → Nat} {n kind d0 m0 b : Nat} {T : Res} {c : Cur} {qs qs2 : Nat → Nat} {qn : Nat} {qt : Nat → Nat} {w : Nat} {qo : Int32} (h : YD tb n kind d0 m0 b T c qs qn qt w qo) (hw : b + 1 ≤ w) (hb : ¬ (20 ≤ qt (w - 1) ∧ qt (w - 1) ≤ 24)) (s1 : ¬ isS tb n 42 c = true) (s2 : ¬ isS tb n 47 c = true) (e : qs2 = updN qs qn (qt (w - 1))) : YD tb n kind d0 m0 b T c qs2 (qn + 1) qt (w - 1) qo := by
  subst e
  obtain ⟨ph, hp, h⟩ := h
  have ht : topO qt b w = qt (w - 1) := by unfold topO; rw [if_pos (by omega)]
  rw [ht] at hp
  have hs := y_shp h hw
  unfold phO at hp
  by_cases c3 : qt (w - 1) = 3 ∨ qt (w - 1) = 4
  · obtain rfl : ph = 0 := by omega
    exact ⟨1, by unfold phO; omega, y_d3 h hw c3⟩
  · have h1 : YY (Xa tb n kind 1) d0 m0 b T c qs qn qt w qo := by
      rcases hp with ⟨rfl, q⟩ | ⟨rfl, q⟩ | ⟨rfl, q⟩
      · exact y_01 h (by rw [ht]; omega) (by rw [ht]; omega) (by rw [ht]; omega)
      · exact h
      · exfalso; omega
    exact ⟨2, by unfold phO; omega, y_d1 h1 hw (by omega) s1 s2⟩
theorem yd_2 {tb : Nat → Nat} {n kind d0 m0 b : Nat} {T : Res} {c : Cur} {qs : Nat → Nat} {qn : Nat} {qt : Nat → Nat} {w : Nat} {qo : Int32} (h : YD tb n kind d0 m0 b T c qs qn qt w qo) (ht : ¬ topO qt b w = 1 ∧ ¬ topO qt b w = 2 ∧ ¬ topO qt b w = 3 ∧ ¬ topO qt b w = 4) (s1 : ¬ isS tb n 42 c = true) (s2 : ¬ isS tb n 47 c = true) : YY (Xa tb n kind 2) d0 m0 b T c qs qn qt w qo := by
  obtain ⟨ph, hp, h⟩ := h
  unfold phO at hp
  have h1 : YY (Xa tb n kind 1) d0 m0 b T c qs qn qt w qo ∨ YY (Xa tb n kind 2) d0 m0 b T c qs qn qt w qo := by
    rcases hp with ⟨rfl, q⟩ | ⟨rfl, q⟩ | ⟨rfl, q⟩
    · exact Or.inl (y_01 h (by omega) (by omega) (by omega))
    · exact Or.inl h
    · exact Or.inr h
  rcases h1 with h1 | h1
  · exact y_12 h1 (by omega) (by omega) s1 s2
  · exact h1
theorem yd_0 {tb : Nat → Nat} {n kind d0 m0 b : Nat} {T : Res} {c : Cur} {qs : Nat → Nat} {qn : Nat} {qt : Nat → Nat} {w : Nat} {qo : Int32} (h : YY (Xa tb n kind 0) d0 m0 b T c qs qn qt w qo) (ht : ¬ topO qt b w = 60) : YD tb n kind d0 m0 b T c qs qn qt w qo := ⟨0, Or.inl ⟨rfl, ht⟩, h⟩
theorem y_close {tb : Nat → Nat} {n kind d0 m0 b : Nat} {T : Res} {c : Cur} {qs : Nat → Nat} {qn : Nat} {qt : Nat → Nat} {w : Nat} {qo : Int32} (h : YY (Xa tb n kind 2) d0 m0 b T c qs qn qt w qo) (hw : b + 1 ≤ w) (hv : qt (w - 1) = 20) (hs : isS tb n 41 c = true) : YY (Xa tb n kind 0) d0 m0 b T (nx tb n c.1) qs qn qt (w - 1) (qo - 1) := by
  obtain ⟨k, dd, h1, h2, h3, h4, h5, h6, h7⟩ := h
  rw [wlist_pop hw, hv] at h1 h5 h7
  rw [ops, if_pos (by omega)] at h1
  refine ⟨k, dd + 1, by omega, h2, by rw [h3]; exact nI_sub1 (by omega), h4, h5.1, by omega, ?_⟩
  rw [← h7]; exact (aft_round hs).symm
theorem y_closem {tb : Nat → Nat} {n kind d0 m0 b v : Nat} {T : Res} {c : Cur} {qs : Nat → Nat} {qn : Nat} {qt : Nat → Nat} {w : Nat} {qo : Int32} (h : YY (Xa tb n kind 2) d0 m0 b T c qs qn qt w qo) (hw : b + 1 ≤ w) (hv : qt (w - 1) = 23 ∨ qt (w - 1) = 24) (hv2 : v + 18 = qt (w - 1)) (hs : isS tb n 41 c = true) : YY (Xa tb n kind 0) d0 m0 b T (nx tb n c.1) (updN qs qn v) (qn + 1) qt (w - 1) (qo - 1) := by
  obtain ⟨k, dd, h1, h2, h3, h4, h5, h6, h7⟩ := h
  rw [wlist_pop hw] at h1 h5 h7
  rw [ops, if_pos (by omega)] at h1
  refine ⟨k ++ [v], dd + 1, by omega, h2, by rw [h3]; exact nI_sub1 (by omega), cc_push h4, h5.1, by omega, ?_⟩
  rw [← h7]
  have e := aft_pair (tb := tb) (n := n) (kind := kind) (dd := dd) (L := wlist qt b (w - 1 - b)) (k := k) hv hs
  rw [show qt (w - 1) - 18 = v by omega] at e
  exact e.symm
theorem y_sign {tb : Nat → Nat} {n kind d0 m0 b v ch ph : Nat} {T : Res} {c : Cur} {qs : Nat → Nat} {qn : Nat} {qt : Nat → Nat} {w : Nat} {qo : Int32} (h : YY (Xa tb n kind ph) d0 m0 b T c qs qn qt w qo) (hp : phO ph (topO qt b w)) (hv : (ph = 1 ∧ ((ch = 42 ∧ v = 3) ∨ (ch = 47 ∧ v = 4))) ∨ (ph = 2 ∧ ((ch = 43 ∧ v = 1) ∨ (ch = 45 ∧ v = 2)))) (hs : isS tb n ch c = true) : YY (Xp tb n kind) d0 m0 b T (nx tb n c.1) qs qn (updN qt w v) (w + 1) qo := by
  obtain ⟨k, dd, h1, h2, h3, h4, h5, h6, h7⟩ := h
  have hw := wlist_push (qt := qt) (v := v) h6
  unfold phO at hp
  refine ⟨k, dd, ?_, h2, h3, h4, ?_, by omega, ?_⟩
  · rw [hw, ops, if_neg (by omega)]; omega
  · rw [hw]
    refine ⟨h5, ?_⟩
    rw [hd_top]
    omega
  · rw [hw, ← h7]
    rcases hv with ⟨rfl, hv⟩ | ⟨rfl, hv⟩
    · exact (aft_times hv hs).symm
    · exact (aft_plus hv hs).symm
theorem y_comma {tb : Nat → Nat} {n kind d0 m0 b v : Nat} {T : Res} {c : Cur} {qs : Nat → Nat} {qn : Nat} {qt : Nat → Nat} {w : Nat} {qo : Int32} (h : YY (Xa tb n kind 2) d0 m0 b T c qs qn qt w qo) (hw : b + 1 ≤ w) (hv : qt (w - 1) = 21 ∨ qt (w - 1) = 22) (hv2 : v = qt (w - 1) + 2) (hs : isS tb n 44 c = true) : YY (Xp tb n kind) d0 m0 b T (nx tb n c.1) qs qn (updN qt (w - 1) v) w qo := by
  obtain ⟨k, dd, h1, h2, h3, h4, h5, h6, h7⟩ := h
  rw [wlist_pop hw] at h1 h5 h7
  rw [ops, if_pos (by omega)] at h1
  have hset := wlist_set (qt := qt) (v := v) hw
  refine ⟨k, dd, ?_, h2, h3, h4, ?_, h6, ?_⟩
  · rw [hset, ops, if_pos (by omega)]; omega
  · rw [hset]; exact ⟨h5.1, Or.inl (by omega)⟩
  · rw [hset, ← h7, hv2]; exact (aft_comma hv hs).symm
theorem y_bad {tb : Nat → Nat} {n kind d0 m0 b : Nat} {T : Res} {c : Cur} {qs : Nat → Nat} {qn : Nat} {qt : Nat → Nat} {w : Nat} {qo : Int32} (h : YY (Xa tb n kind 2) d0 m0 b T c qs qn qt w qo) (hw : b + 1 ≤ w) (hv : 20 ≤ qt (w - 1) ∧ qt (w - 1) ≤ 24) (h1 : ¬ isS tb n 43 c = true) (h2 : ¬ isS tb n 45 c = true) (h3 : qt (w - 1) = 20 ∨ qt (w - 1) = 23 ∨ qt (w - 1) = 24 → ¬ isS tb n 41 c = true) (h4 : qt (w - 1) = 21 ∨ qt (w - 1) = 22 → ¬ isS tb n 44 c = true) : T = .error (1, c.1) := by
  obtain ⟨k, dd, g1, g2, g3, g4, g5, g6, g7⟩ := h
  rw [wlist_pop hw] at g7
  rw [← g7]; exact aft_bad hv h1 h2 h3 h4
theorem y_end {tb : Nat → Nat} {n kind d0 m0 b : Nat} {T : Res} {c : Cur} {qs : Nat → Nat} {qn : Nat} {qt : Nat → Nat} {w : Nat} {qo : Int32} (h : YY (Xa tb n kind 2) d0 m0 b T c qs qn qt w qo) (hw : w ≤ b) (h1 : ¬ isS tb n 43 c = true) (h2 : ¬ isS tb n 45 c = true) : ∃ k, T = .ok (c, k) ∧ ccO qs m0 qn k ∧ qo = nI (6 - d0) := by
  obtain ⟨k, dd, g1, g2, g3, g4, g5, g6, g7⟩ := h
  rw [wlist_0 hw] at g7 g1
  have e : dd = d0 := by
    have : ops [] = 0 := rfl
    omega
  exact ⟨k, by rw [← g7]; exact aft_end h1 h2, g4, by rw [← e]; exact g3⟩
theorem y_start {tb : Nat → Nat} {n kind d0 w : Nat} {c : Cur} {qs : Nat → Nat} {qn : Nat} {qt : Nat → Nat} {qo : Int32} (h6 : d0 ≤ 6) (hq : qo = nI (6 - d0)) : YY (Xp tb n kind) d0 qn w (sumD tb n kind d0 c) c qs qn qt w qo :=
  ⟨[], d0, by rw [wlist_0 (Nat.le_refl w)]; rfl, h6, hq, cc_0 qs qn, by rw [wlist_0 (Nat.le_refl w)]; trivial, Nat.le_refl w, by rw [wlist_0 (Nat.le_refl w)]; exact prt_sum.symm⟩
theorem mo_two {tb : Nat → Nat} {n : Nat} {o : Except Err Cur} {pa : Nat} {pd : Int32} {pb : Nat} {pp : Int32} {a : Nat} {d : Int32} {b2 : Nat} {p2 : Int32} (h : moO tb n o pa pd pb pp) (h2 : moO tb n o a d b2 p2) (hb : pb = 0) (hb2 : b2 = 0) : cuO tb n pa pd = cuO tb n a d := by
  have e := (mo_ok h hb).1.symm.trans (mo_ok h2 hb2).1
  exact Except.ok.inj e
theorem yo_at {tb : Nat → Nat} {n : Nat} {o : Except Err Cur} {pa : Nat} {pd : Int32} {pb : Nat} {pp : Int32} {X : List Nat → Nat → Cur → List Nat → Res} {d0 m0 b : Nat} {T : Res} {qs : Nat → Nat} {qn : Nat} {qt : Nat → Nat} {w : Nat} {qo : Int32} (h : moO tb n o pa pd pb pp) (hb : pb = 0) (hy : yO X d0 m0 b T o qs qn qt w qo) : YY X d0 m0 b T (cuO tb n pa pd) qs qn qt w qo := by
  rw [(mo_ok h hb).1] at hy
  exact hy
theorem yo_e {X : List Nat → Nat → Cur → List Nat → Res} {d0 m0 b : Nat} {T : Res} {o : Except Err Cur} {qs : Nat → Nat} {qn : Nat} {qt : Nat → Nat} {w : Nat} {qo : Int32} (hy : yO X d0 m0 b T o qs qn qt w qo) : ∀ e, o = .error e → T = .error e := by
  intro e he
  subst he
  exact hy
def yA (tb : Nat → Nat) (n kn d0 m0 b : Nat) (T : Res) (o : Except Err Cur) (qs : Nat → Nat) (qn : Nat) (qt : Nat → Nat) (w : Nat) (qo : Int32) : Prop := match o with
  | .error e => T = .error e
  | .ok c => YY (Xa tb n kn 0) d0 m0 b T c qs qn qt w qo ∧ ¬ topO qt b w = 60
theorem ya_of {tb : Nat → Nat} {n kn : Nat} {o : Except Err Cur} {pa : Nat} {pd : Int32} {pb : Nat} {pp : Int32} {d0 m0 b : Nat} {T : Res} {qs : Nat → Nat} {qn : Nat} {qt : Nat → Nat} {w : Nat} {qo : Int32} (h : moO tb n o pa pd pb pp) (he : ∀ e, o = .error e → T = .error e) (hy : pb = 0 → (YY (Xa tb n kn 0) d0 m0 b T (cuO tb n pa pd) qs qn qt w qo ∧ ¬ topO qt b w = 60)) : yA tb n kn d0 m0 b T o qs qn qt w qo := by
  cases o with
  | error e => exact he e rfl
  | ok c =>
    have hc := mo_cu h rfl
    rw [hc.2]
    exact hy hc.1
def notO (tb : Nat → Nat) (n kn : Nat) (c : Cur) : Prop := ¬ isS tb n 40 c = true ∧ ¬ (isW tb n wMin c = true ∨ isW tb n wMax c = true) ∧ ¬ (kn = 2 ∧ isW tb n wWeeks c = true)
theorem y_num {tb : Nat → Nat} {n kn d0 m0 b nv : Nat} {T : Res} {c : Cur} {qs : Nat → Nat} {qn : Nat} {qt : Nat → Nat} {w : Nat} {qo : Int32} (h : YY (Xp tb n kn) d0 m0 b T c qs qn qt w qo) (hn : notO tb n kn c) (hp : partIx tb n kn c = none) (hv : nvO tb n 0 9999 (.ok c) nv) : yO (Xa tb n kn 0) d0 m0 b T (nmF tb n 0 9999 c) (updN qs qn (1000 + nv)) (qn + 1) qt w qo := by
  have key : ∀ L d k, prt tb n kn L d c k = bindR (numP tb n 0 9999 c) (fun r => aft tb n kn L 0 d r.2 (k ++ [1000 + r.1])) := fun L d k => prt_num hn.1 hn.2.1 hn.2.2 hp
  unfold nmF
  cases hq : numP tb n 0 9999 c with
  | error e =>
    exact y_err h (fun L d k _ => by show prt tb n kn L d c k = _; rw [key, hq]; rfl)
  | ok r =>
    have e := hv c r rfl hq
    subst e
    exact y_name h (fun L d k => by rw [key, hq]; rfl)
theorem y_nameK {tb : Nat → Nat} {n kn d0 m0 b j : Nat} {T : Res} {c : Cur} {qs : Nat → Nat} {qn : Nat} {qt : Nat → Nat} {w : Nat} {qo : Int32} (h : YY (Xp tb n kn) d0 m0 b T c qs qn qt w qo) (hn : notO tb n kn c) (hp : partIx tb n kn c = some j) : YY (Xa tb n kn 0) d0 m0 b T (nx tb n c.1) (updN qs qn (40 + j)) (qn + 1) qt w qo :=
  y_name h (fun L d k => prt_name hn.1 hn.2.1 hn.2.2 hp)
