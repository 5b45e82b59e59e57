/-! the codes of sums and tests: what waits, how deep the pile stands -/
theorem sk_iastB {p : Program} {l : Launch} {e : Env} {R : Room} {s : State} {m : MethodId} {args : Array Value} {below : List Frame} {meth : Method} {c : Code} {H : Heap} {locs : List Loc} {cells slots : Nat} {Q : State → Prop} {cc : ByteArray} {pc : Nat} {ls : Array Slot} {rest : List Value} {D : va_G} {tys : List (ClassId × FieldType)} {ws : va_W} {A : Nat → Prop} {H0 : Heap} {a : Nat} (hexec : p.tables.exec = Jvm.exec) (hb : c.code = cc) (hK : skK D tys s) (hP : va_P D vwCl ws H) (hD : va_D A ws) (hS : va_S A H0 H locs) (q0 t0 : Nat) {cA : ClassId} {n B : Nat} {f : Nat → Nat} {ws' : (Nat → Nat) → va_W} (ha : ws[q0]? = some (a, .inl (cA, n, .inl (fun j => nI (f j))))) (ht : tys[t0]? = some (cA, .int)) {k v : Nat} (hk : k < n) (hn : n < 2147483648) (hf : ∀ j, f j ≤ B) (hv : v ≤ B) (hw' : ∀ f', ws.set q0 (a, .inl (cA, n, .inl (fun j => nI (f' j)))) = ws' f') (hdg : decode cc pc = .ok (.iastore, 1))
    (kk : ∀ (f' : Nat → Nat) (H1 : Heap) (locs1 : List Loc), (∀ j, f' j ≤ B) → f' = updN f k v → va_P D vwCl (ws' f') H1 → va_D A (ws' f') → va_S A H0 H1 locs1 → W p l e R s m args below meth c H1 locs1 cells slots Q (F0 m (pc + 1) ls rest)) : W p l e R s m args below meth c H locs cells slots Q (F0 m pc ls (.int (nI v) :: .int (nI k) :: .ref a :: rest)) := by
  refine va_iast hexec hb hK.1 hP hD hS q0 t0 ha ht (vin k n hk hn) hdg (fun H1 locs1 h1 h2 h3 => ?_)
  rw [updN_fun f k v (by omega)] at h1 h2
  exact kk _ H1 locs1 (updN_le hf hv) rfl ((hw' _) ▸ h1) ((hw' _) ▸ h2) h3
theorem updN_at (f : Nat → Nat) (k v : Nat) : updN f k v k = v := by unfold updN; rw [if_pos rfl]
theorem updN_ne (f : Nat → Nat) {k v j : Nat} (h : j ≠ k) : updN f k v j = f j := by unfold updN; rw [if_neg h]
/-- what the next byte is -/
def lkOk (tb : Nat → Nat) (r : Int32) (a e : Nat) : Prop := (r = -1 ∧ a = e) ∨ (a < e ∧ r = nI (tb a) ∧ ¬ tb a = 10 ∧ ¬ tb a = 32)
theorem lk_at {tb : Nat → Nat} {r : Int32} {a e w : Nat} (h : lkOk tb r a e) (hb : ∀ j, tb j ≤ 255) (hw : w < 2147483648) (c : r = nI w) : a < e ∧ tb a = w ∧ ¬ tb a = 10 ∧ ¬ tb a = 32 := by
  rcases h with ⟨h1, -⟩ | ⟨h1, h2, h3, h4⟩
  · have h5 : (nI w).toInt = (w : Int) := ivn w hw
    rw [← c, h1] at h5
    have h6 : ((-1 : Int32)).toInt = -1 := by decide
    rw [h6] at h5
    omega
  · have := hb a
    exact ⟨h1, (neq _ _ (by omega) hw).mp (h2.symm.trans c), h3, h4⟩
def stay (tb : Nat → Nat) (e a b : Nat) : Prop := a < e → ¬ tb a = 10 → ¬ tb a = 32 → b = a
theorem stay_tr {tb : Nat → Nat} {e a b c : Nat} (h1 : stay tb e a b) (h2 : stay tb e b c) : stay tb e a c := by
  intro q1 q2 q3
  have e1 := h1 q1 q2 q3
  subst e1
  exact h2 q1 q2 q3
theorem stay_rf {tb : Nat → Nat} {e a : Nat} : stay tb e a a := fun _ _ _ => rfl
theorem stay_bl {tb : Nat → Nat} {e a b : Nat} (h : tb a = 10 ∨ tb a = 32) : stay tb e a b := fun _ q2 q3 => absurd h (by omega)
/-- the pile's depth -/
def de (f : Nat → Nat) : Nat → Nat
  | 0 => 0
  | n + 1 => if 1000 ≤ f n ∨ (40 ≤ f n ∧ f n < 60) ∨ f n = 13 then de f n + 1 else if (60 ≤ f n ∧ f n < 1000) ∨ f n = 12 then de f n else de f n - 1
theorem de_p {f : Nat → Nat} {n : Nat} (h : 1000 ≤ f n ∨ (40 ≤ f n ∧ f n < 60) ∨ f n = 13) : de f (n + 1) = de f n + 1 := by rw [de, if_pos h]
theorem de_u {f : Nat → Nat} {n : Nat} (h : (60 ≤ f n ∧ f n < 1000) ∨ f n = 12) : de f (n + 1) = de f n := by rw [de, if_neg (by omega), if_pos h]
theorem de_b {f : Nat → Nat} {n : Nat} (h : f n < 40) (h2 : ¬ f n = 12) (h3 : ¬ f n = 13) : de f (n + 1) = de f n - 1 := by rw [de, if_neg (by omega), if_neg (by omega)]
theorem de_congr {f g : Nat → Nat} {n : Nat} (h : ∀ j, j < n → f j = g j) : de f n = de g n := by
  induction n with
  | zero => rfl
  | succ n ih => rw [de, de, ih (fun j hj => h j (by omega)), h n (by omega)]
def wf (f : Nat → Nat) (n : Nat) : Prop := ∀ j, j < n → ((60 ≤ f j ∧ f j < 1000) ∨ f j = 12 → 1 ≤ de f j) ∧ (f j < 40 → ¬ f j = 12 → ¬ f j = 13 → 2 ≤ de f j)
theorem wf_up {f : Nat → Nat} {n v : Nat} (h : wf f n) (h1 : (60 ≤ v ∧ v < 1000) ∨ v = 12 → 1 ≤ de f n) (h2 : v < 40 → ¬ v = 12 → ¬ v = 13 → 2 ≤ de f n) : wf (updN f n v) (n + 1) := by
  intro j hj
  have e1 : de (updN f n v) j = de f j := de_congr (fun i hi => updN_ne f (by omega))
  rw [e1]
  by_cases q : j = n
  · subst q; rw [updN_at]; exact ⟨h1, h2⟩
  · rw [updN_ne f q]; exact h j (by omega)
theorem de_upd {f : Nat → Nat} {n v : Nat} : de (updN f n v) n = de f n := de_congr (fun i hi => updN_ne f (by omega))
def wt (c : Nat) : Nat := if c = 1 ∨ c = 2 ∨ c = 3 ∨ c = 4 ∨ c = 10 ∨ c = 11 ∨ c = 23 ∨ c = 24 then 1 else 0
def wsum (f : Nat → Nat) : Nat → Nat
  | 0 => 0
  | n + 1 => wsum f n + wt (f n)
theorem wsum_congr {f g : Nat → Nat} {n : Nat} (h : ∀ j, j < n → f j = g j) : wsum f n = wsum g n := by
  induction n with
  | zero => rfl
  | succ n ih => rw [wsum, wsum, ih (fun j hj => h j (by omega)), h n (by omega)]
theorem wsum_pred {f : Nat → Nat} {n : Nat} (h : 1 ≤ n) : wsum f n = wsum f (n - 1) + wt (f (n - 1)) := by
  obtain ⟨m, rfl⟩ : ∃ m, n = m + 1 := ⟨n - 1, by omega⟩
  rw [Nat.add_sub_cancel]; rfl
theorem wt_1 {c : Nat} (h : c = 1 ∨ c = 2 ∨ c = 3 ∨ c = 4 ∨ c = 10 ∨ c = 11 ∨ c = 23 ∨ c = 24) : wt c = 1 := if_pos h
theorem wt_0 {c : Nat} (h : ¬ (c = 1 ∨ c = 2 ∨ c = 3 ∨ c = 4 ∨ c = 10 ∨ c = 11 ∨ c = 23 ∨ c = 24)) : wt c = 0 := if_neg h
def tst (c : Nat) : Prop := c = 10 ∨ c = 11 ∨ c = 12 ∨ c = 25
def sme (c : Nat) : Prop := c = 1 ∨ c = 2 ∨ c = 3 ∨ c = 4 ∨ c = 20 ∨ c = 21 ∨ c = 22 ∨ c = 23 ∨ c = 24 ∨ c = 60
def nnc (f : Nat → Nat) (n0 n : Nat) : Prop := ∀ j, n0 ≤ j → j < n → ¬ f j = 12 ∧ ¬ f j = 13
theorem nnc_up {f : Nat → Nat} {n0 n v : Nat} (h : nnc f n0 n) (hv : n0 ≤ n → ¬ v = 12 ∧ ¬ v = 13) : nnc (updN f n v) n0 (n + 1) := by
  intro j h1 h2
  by_cases q : j = n
  · subst q; rw [updN_at]; exact hv h1
  · rw [updN_ne f q]; exact h j h1 (by omega)
/-- sums under way: K more on the pile than what waits takes; below b tests wait, from b on sums -/
def SJ (K n0 : Nat) (qs : Nat → Nat) (qn : Nat) (qt : Nat → Nat) (b w : Nat) : Prop :=
  de qs qn = K + wsum qt w ∧ wf qs qn ∧ nnc qs n0 qn ∧ b ≤ w ∧ (∀ j, j < b → tst (qt j)) ∧ (∀ j, b ≤ j → j < w → sme (qt j))
theorem SJ_init {n0 : Nat} {qs qt : Nat → Nat} : SJ 0 n0 qs 0 qt 0 0 :=
  ⟨rfl, fun j hj => absurd hj (by omega), fun j _ hj => absurd hj (by omega), Nat.le_refl _, fun j hj => absurd hj (by omega), fun j _ hj => absurd hj (by omega)⟩
theorem SJ_code {K n0 qn b w v : Nat} {qs qt qs2 : Nat → Nat} (h : SJ K n0 qs qn qt b w) (hv : 1000 ≤ v ∨ (40 ≤ v ∧ v < 60) ∨ v = 13) (h0 : n0 ≤ qn → ¬ v = 13) (e : qs2 = updN qs qn v) : SJ (K + 1) n0 qs2 (qn + 1) qt b w := by
  subst e
  obtain ⟨h1, h2, h3, h4, h5, h6⟩ := h
  refine ⟨?_, wf_up h2 (fun q => absurd q (by omega)) (fun q1 q2 q3 => absurd hv (by omega)), nnc_up h3 (fun q => ⟨by omega, h0 q⟩), h4, h5, h6⟩
  rw [de_p (by rw [updN_at]; exact hv), de_upd]; omega
theorem SJ_bin {K n0 qn b w v : Nat} {qs qt qs2 : Nat → Nat} (h : SJ (K + 2) n0 qs qn qt b w) (hv : v < 12) (e : qs2 = updN qs qn v) : SJ (K + 1) n0 qs2 (qn + 1) qt b w := by
  subst e
  obtain ⟨h1, h2, h3, h4, h5, h6⟩ := h
  refine ⟨?_, wf_up h2 (fun q => absurd q (by omega)) (fun q1 q2 q3 => by omega), nnc_up h3 (fun q => ⟨by omega, by omega⟩), h4, h5, h6⟩
  rw [de_b (by rw [updN_at]; omega) (by rw [updN_at]; omega) (by rw [updN_at]; omega), de_upd]; omega
theorem SJ_drop {K n0 qn b w : Nat} {qs qt qs2 : Nat → Nat} (h : SJ (K + 1) n0 qs qn qt b w) (hw : b + 1 ≤ w) (hb : ¬ (20 ≤ qt (w - 1) ∧ qt (w - 1) ≤ 24)) (e : qs2 = updN qs qn (qt (w - 1))) : SJ (K + 1) n0 qs2 (qn + 1) qt b (w - 1) := by
  subst e
  obtain ⟨h1, h2, h3, h4, h5, h6⟩ := h
  have hs := h6 (w - 1) (by omega) (by omega)
  rw [wsum_pred (show 1 ≤ w by omega)] at h1
  generalize qt (w - 1) = v at *
  unfold sme at hs
  by_cases q : v = 60
  · rw [wt_0 (by omega)] at h1
    refine ⟨?_, wf_up h2 (fun _ => by omega) (fun q1 q2 q3 => by omega), nnc_up h3 (fun _ => ⟨by omega, by omega⟩), by omega, h5, fun j q1 q2 => h6 j q1 (by omega)⟩
    rw [de_u (by rw [updN_at]; omega), de_upd]; omega
  · rw [wt_1 (by omega)] at h1
    refine ⟨?_, wf_up h2 (fun _ => by omega) (fun q1 q2 q3 => by omega), nnc_up h3 (fun _ => ⟨by omega, by omega⟩), by omega, h5, fun j q1 q2 => h6 j q1 (by omega)⟩
    rw [de_b (by rw [updN_at]; omega) (by rw [updN_at]; omega) (by rw [updN_at]; omega), de_upd]; omega
theorem SJ_push0 {K n0 qn b w v : Nat} {qs qt qt2 : Nat → Nat} (h : SJ K n0 qs qn qt b w) (hv : v = 20 ∨ v = 21 ∨ v = 22 ∨ v = 60) (e : qt2 = updN qt w v) : SJ K n0 qs qn qt2 b (w + 1) := by
  subst e
  obtain ⟨h1, h2, h3, h4, h5, h6⟩ := h
  refine ⟨?_, h2, h3, by omega, fun j hj => by rw [updN_ne qt (by omega)]; exact h5 j hj, fun j q1 q2 => ?_⟩
  · rw [wsum, updN_at, wt_0 (by omega), wsum_congr (g := qt) (fun j hj => updN_ne qt (by omega))]; exact h1
  · by_cases q : j = w
    · subst q; rw [updN_at]; unfold sme; omega
    · rw [updN_ne qt q]; exact h6 j q1 (by omega)
theorem SJ_push1 {K n0 qn b w v : Nat} {qs qt qt2 : Nat → Nat} (h : SJ (K + 1) n0 qs qn qt b w) (hv : v = 1 ∨ v = 2 ∨ v = 3 ∨ v = 4) (e : qt2 = updN qt w v) : SJ K n0 qs qn qt2 b (w + 1) := by
  subst e
  obtain ⟨h1, h2, h3, h4, h5, h6⟩ := h
  refine ⟨?_, h2, h3, by omega, fun j hj => by rw [updN_ne qt (by omega)]; exact h5 j hj, fun j q1 q2 => ?_⟩
  · rw [wsum, updN_at, wt_1 (by omega), wsum_congr (g := qt) (fun j hj => updN_ne qt (by omega))]; omega
  · by_cases q : j = w
    · subst q; rw [updN_at]; unfold sme; omega
    · rw [updN_ne qt q]; exact h6 j q1 (by omega)
theorem SJ_pop {K n0 qn b w : Nat} {qs qt : Nat → Nat} (h : SJ K n0 qs qn qt b w) (hw : b + 1 ≤ w) (hv : qt (w - 1) = 20) : SJ K n0 qs qn qt b (w - 1) := by
  obtain ⟨h1, h2, h3, h4, h5, h6⟩ := h
  rw [wsum_pred (show 1 ≤ w by omega), hv, wt_0 (by omega)] at h1
  exact ⟨h1, h2, h3, by omega, h5, fun j q1 q2 => h6 j q1 (by omega)⟩
theorem SJ_popm {K n0 qn b w v : Nat} {qs qt qs2 : Nat → Nat} (h : SJ (K + 1) n0 qs qn qt b w) (hw : b + 1 ≤ w) (hv : qt (w - 1) = 23 ∨ qt (w - 1) = 24) (hv2 : v < 12) (e : qs2 = updN qs qn v) : SJ (K + 1) n0 qs2 (qn + 1) qt b (w - 1) := by
  subst e
  obtain ⟨h1, h2, h3, h4, h5, h6⟩ := h
  rw [wsum_pred (show 1 ≤ w by omega), wt_1 (by omega)] at h1
  refine ⟨?_, wf_up h2 (fun _ => by omega) (fun q1 q2 q3 => by omega), nnc_up h3 (fun _ => ⟨by omega, by omega⟩), by omega, h5, fun j q1 q2 => h6 j q1 (by omega)⟩
  rw [de_b (by rw [updN_at]; omega) (by rw [updN_at]; omega) (by rw [updN_at]; omega), de_upd]; omega
theorem SJ_next {K n0 qn b w v : Nat} {qs qt qt2 : Nat → Nat} (h : SJ (K + 1) n0 qs qn qt b w) (hw : b + 1 ≤ w) (hv : qt (w - 1) = 21 ∨ qt (w - 1) = 22) (hv2 : v = qt (w - 1) + 2) (e : qt2 = updN qt (w - 1) v) : SJ K n0 qs qn qt2 b w := by
  subst e
  obtain ⟨h1, h2, h3, h4, h5, h6⟩ := h
  have hw1 : 1 ≤ w := by omega
  rw [wsum_pred hw1, wt_0 (by omega)] at h1
  refine ⟨?_, h2, h3, by omega, fun j hj => by rw [updN_ne qt (by omega)]; exact h5 j hj, fun j q1 q2 => ?_⟩
  · rw [wsum_pred hw1, updN_at, wt_1 (by omega), wsum_congr (g := qt) (fun j hj => updN_ne qt (by omega))]; omega
  · by_cases q : j = w - 1
    · subst q; rw [updN_at]; unfold sme; omega
    · rw [updN_ne qt q]; exact h6 j q1 q2
/-- drops by a sign: what is on top is a sign of sums, so it stands above b -/
theorem SJ_top {K n0 qn b w : Nat} {qs qt : Nat → Nat} (h : SJ K n0 qs qn qt b w) (hw : 1 ≤ w) (hv : qt (w - 1) < 10) : b + 1 ≤ w := by
  obtain ⟨-, -, -, h4, h5, -⟩ := h
  rcases Nat.lt_or_ge b w with q | q
  · exact q
  · have := h5 (w - 1) (by omega)
    unfold tst at this
    omega
theorem SJ_le {K n0 qn b w : Nat} {qs qt : Nat → Nat} (h : SJ K n0 qs qn qt b w) : b ≤ w := h.2.2.2.1
theorem SJ_wf {K n0 qn b w : Nat} {qs qt : Nat → Nat} (h : SJ K n0 qs qn qt b w) : wf qs qn := h.2.1
/-- tests: everything that waits waits for tests -/
theorem SJ_T {K n0 qn b w : Nat} {qs qt : Nat → Nat} (h : SJ K n0 qs qn qt b w) (e : w = b) : SJ K n0 qs qn qt w w := by subst e; exact h
theorem SJ_push0T {K n0 qn w v : Nat} {qs qt qt2 : Nat → Nat} (h : SJ K n0 qs qn qt w w) (hv : v = 12 ∨ v = 25) (e : qt2 = updN qt w v) : SJ K n0 qs qn qt2 (w + 1) (w + 1) := by
  subst e
  obtain ⟨h1, h2, h3, h4, h5, h6⟩ := h
  refine ⟨?_, h2, h3, by omega, fun j hj => ?_, fun j q1 q2 => absurd q1 (by omega)⟩
  · rw [wsum, updN_at, wt_0 (by omega), wsum_congr (g := qt) (fun j hj => updN_ne qt (by omega))]; exact h1
  · by_cases q : j = w
    · subst q; rw [updN_at]; unfold tst; omega
    · rw [updN_ne qt q]; exact h5 j (by omega)
theorem SJ_push1T {K n0 qn w v : Nat} {qs qt qt2 : Nat → Nat} (h : SJ (K + 1) n0 qs qn qt w w) (hv : v = 10 ∨ v = 11) (e : qt2 = updN qt w v) : SJ K n0 qs qn qt2 (w + 1) (w + 1) := by
  subst e
  obtain ⟨h1, h2, h3, h4, h5, h6⟩ := h
  refine ⟨?_, h2, h3, by omega, fun j hj => ?_, fun j q1 q2 => absurd q1 (by omega)⟩
  · rw [wsum, updN_at, wt_1 (by omega), wsum_congr (g := qt) (fun j hj => updN_ne qt (by omega))]; omega
  · by_cases q : j = w
    · subst q; rw [updN_at]; unfold tst; omega
    · rw [updN_ne qt q]; exact h5 j (by omega)
theorem SJ_dropT {K n0 qn w : Nat} {qs qt qs2 : Nat → Nat} (h : SJ (K + 1) n0 qs qn qt w w) (hw : 1 ≤ w) (hb : ¬ qt (w - 1) = 25) (h0 : qn < n0) (e : qs2 = updN qs qn (qt (w - 1))) : SJ (K + 1) n0 qs2 (qn + 1) qt (w - 1) (w - 1) := by
  subst e
  obtain ⟨h1, h2, h3, h4, h5, h6⟩ := h
  have hs := h5 (w - 1) (by omega)
  rw [wsum_pred hw] at h1
  have h5' : ∀ j, j < w - 1 → tst (qt j) := fun j hj => h5 j (by omega)
  generalize qt (w - 1) = v at *
  unfold tst at hs
  by_cases q : v = 12
  · rw [wt_0 (by omega)] at h1
    refine ⟨?_, wf_up h2 (fun _ => by omega) (fun q1 q2 q3 => by omega), nnc_up h3 (fun q0 => absurd q0 (by omega)), Nat.le_refl _, h5', fun j q1 q2 => absurd q1 (by omega)⟩
    rw [de_u (by rw [updN_at]; omega), de_upd]; omega
  · rw [wt_1 (by omega)] at h1
    refine ⟨?_, wf_up h2 (fun _ => by omega) (fun q1 q2 q3 => by omega), nnc_up h3 (fun q0 => absurd q0 (by omega)), Nat.le_refl _, h5', fun j q1 q2 => absurd q1 (by omega)⟩
    rw [de_b (by rw [updN_at]; omega) (by rw [updN_at]; omega) (by rw [updN_at]; omega), de_upd]; omega
theorem SJ_popT {K n0 qn w : Nat} {qs qt : Nat → Nat} (h : SJ K n0 qs qn qt w w) (hw : 1 ≤ w) (hv : qt (w - 1) = 25) : SJ K n0 qs qn qt (w - 1) (w - 1) := by
  obtain ⟨h1, h2, h3, h4, h5, h6⟩ := h
  rw [wsum_pred hw, hv, wt_0 (by omega)] at h1
  exact ⟨h1, h2, h3, Nat.le_refl _, fun j hj => h5 j (by omega), fun j q1 q2 => absurd q1 (by omega)⟩
/-- the last bracket from b on -/
def lbO (qt : Nat → Nat) (b w : Nat) (r : Int32) : Prop := (r = -1 ∧ ∀ j, b ≤ j → j < w → ¬ (20 ≤ qt j ∧ qt j ≤ 24)) ∨ ∃ k, b ≤ k ∧ k < w ∧ 20 ≤ qt k ∧ qt k ≤ 24 ∧ r = nI (qt k) ∧ ∀ j, k < j → j < w → ¬ (20 ≤ qt j ∧ qt j ≤ 24)
def nbr (qt : Nat → Nat) (a w : Nat) : Prop := ∀ j, a ≤ j → j < w → ¬ (20 ≤ qt j ∧ qt j ≤ 24)
theorem nbr_0 {qt : Nat → Nat} {w : Nat} : nbr qt w w := fun j h1 h2 => absurd h1 (by omega)
theorem nbr_s {qt : Nat → Nat} {a w : Nat} (h : nbr qt a w) (h1 : ¬ (20 ≤ qt (a - 1) ∧ qt (a - 1) ≤ 24)) : nbr qt (a - 1) w := by
  intro j q1 q2
  by_cases q : j = a - 1
  · subst q; exact h1
  · exact h j (by omega) q2
theorem lb_none {qt : Nat → Nat} {a b w : Nat} (h : nbr qt a w) (hb : a ≤ b) : lbO qt b w (-1) := Or.inl ⟨rfl, fun j q1 q2 => h j (by omega) q2⟩
theorem lb_some {qt : Nat → Nat} {a b w : Nat} (h : nbr qt a w) (ha : 1 ≤ a) (hw : a ≤ w) (hb : b ≤ a - 1) (h1 : 20 ≤ qt (a - 1)) (h2 : qt (a - 1) ≤ 24) : lbO qt b w (nI (qt (a - 1))) := Or.inr ⟨a - 1, hb, by omega, h1, h2, rfl, fun j q1 q2 => h j (by omega) q2⟩
theorem lb_drop {qt : Nat → Nat} {b w w2 : Nat} {v : Nat} {r : Int32} (h : lbO qt b w r) (hv : v < 2147483648) (hr : r = nI v) (hle : w2 ≤ w) (h2 : w2 ≤ b ∨ (20 ≤ qt (w2 - 1) ∧ qt (w2 - 1) ≤ 24)) (h3 : nbr qt w2 w) : b + 1 ≤ w2 ∧ qt (w2 - 1) = v := by
  rcases h with ⟨h, -⟩ | ⟨k, k1, k2, k3, k4, k5, k6⟩
  · have h5 : (nI v).toInt = (v : Int) := ivn v hv
    rw [← hr, h] at h5
    have h6 : ((-1 : Int32)).toInt = -1 := by decide
    rw [h6] at h5
    omega
  · have e1 : qt k = v := (neq _ _ (by omega) hv).mp (k5.symm.trans hr)
    have q1 : k < w2 := by
      rcases Nat.lt_or_ge k w2 with q | q
      · exact q
      · exact absurd ⟨k3, k4⟩ (h3 k q k2)
    have q2 : w2 - 1 = k := by
      rcases Nat.lt_or_ge k (w2 - 1) with q | q
      · rcases h2 with h2 | h2
        · omega
        · exact absurd h2 (k6 (w2 - 1) q (by omega))
      · omega
    exact ⟨by omega, by rw [q2]; exact e1⟩
