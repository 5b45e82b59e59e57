/-! the codes of sums and tests: what waits, how deep the pile stands -/
theorem sk_iastB {p : Program} {l : Launch} {e : Env} {R : Room} {s : State} {m : MethodId} {args : Array Value} {below : List Frame} {meth : Method} {c : Code} {H : Heap} {locs : List Loc} {cells slots : Nat} {Q : State → Prop} {cc : ByteArray} {pc : Nat} {ls : Array Slot} {rest : List Value} {D : va_G} {tys : List (ClassId × FieldType)} {ws : va_W} {A : Nat → Prop} {H0 : Heap} {a : Nat} (hexec : p.tables.exec = Jvm.exec) (hb : c.code = cc) (hK : skK D tys s) (hP : va_P D vwCl ws H) (hD : va_D A ws) (hS : va_S A H0 H locs) (q0 t0 : Nat) {cA : ClassId} {n B : Nat} {f : Nat → Nat} {ws' : (Nat → Nat) → va_W} (ha : ws[q0]? = some (a, .inl (cA, n, .inl (fun j => nI (f j))))) (ht : tys[t0]? = some (cA, .int)) {k v : Nat} (hk : k < n) (hn : n < 2147483648) (hf : ∀ j, f j ≤ B) (hv : v ≤ B) (hw' : ∀ f', ws.set q0 (a, .inl (cA, n, .inl (fun j => nI (f' j)))) = ws' f') (hdg : decode cc pc = .ok (.iastore, 1))
    (kk : ∀ (f' : Nat → Nat) (H1 : Heap) (locs1 : List Loc), (∀ j, f' j ≤ B) → f' = updN f k v → va_P D vwCl (ws' f') H1 → va_D A (ws' f') → va_S A H0 H1 locs1 → W p l e R s m args below meth c H1 locs1 cells slots Q (F0 m (pc + 1) ls rest)) : W p l e R s m args below meth c H locs cells slots Q (F0 m pc ls (.int (nI v) :: .int (nI k) :: .ref a :: rest)) := by
  refine va_iast hexec hb hK.1 hP hD hS q0 t0 ha ht (vin k n hk hn) hdg (fun H1 locs1 h1 h2 h3 => ?_)
  rw [updN_fun f k v (by omega)] at h1 h2
  exact kk _ H1 locs1 (updN_le hf hv) rfl ((hw' _) ▸ h1) ((hw' _) ▸ h2) h3
theorem updN_at (f : Nat → Nat) (k v : Nat) : updN f k v k = v := by unfold updN; rw [if_pos rfl]
theorem updN_ne (f : Nat → Nat) {k v j : Nat} (h : j ≠ k) : updN f k v j = f j := by unfold updN; rw [if_neg h]
/-- what the next byte is -/
def lkOk (tb : Nat → Nat) (r : Int32) (a e : Nat) : Prop := (r = -1 ∧ a = e) ∨ (a < e ∧ r = nI (tb a) ∧ ¬ tb a = 10 ∧ ¬ tb a = 32)
theorem lk_at {tb : Nat → Nat} {r : Int32} {a e w : Nat} (h : lkOk tb r a e) (hb : ∀ j, tb j ≤ 255) (hw : w < 2147483648) (c : r = nI w) : a < e ∧ tb a = w ∧ ¬ tb a = 10 ∧ ¬ tb a = 32 := by
  rcases h with ⟨h1, -⟩ | ⟨h1, h2, h3, h4⟩
  · have h5 : (nI w).toInt = (w : Int) := ivn w hw
    rw [← c, h1] at h5
    have h6 : ((-1 : Int32)).toInt = -1 := by decide
    rw [h6] at h5
    omega
  · have := hb a
    exact ⟨h1, (neq _ _ (by omega) hw).mp (h2.symm.trans c), h3, h4⟩
def stay (tb : Nat → Nat) (e a b : Nat) : Prop := a < e → ¬ tb a = 10 → ¬ tb a = 32 → b = a
theorem stay_tr {tb : Nat → Nat} {e a b c : Nat} (h1 : stay tb e a b) (h2 : stay tb e b c) : stay tb e a c := by
  intro q1 q2 q3
  have e1 := h1 q1 q2 q3
  subst e1
  exact h2 q1 q2 q3
theorem stay_rf {tb : Nat → Nat} {e a : Nat} : stay tb e a a := fun _ _ _ => rfl
theorem stay_bl {tb : Nat → Nat} {e a b : Nat} (h : tb a = 10 ∨ tb a = 32) : stay tb e a b := fun _ q2 q3 => absurd h (by omega)
/-- the pile's depth -/
def de (f : Nat → Nat) : Nat → Nat
  | 0 => 0
  | n + 1 => if 1000 ≤ f n ∨ (40 ≤ f n ∧ f n < 60) ∨ f n = 13 then de f n + 1 else if (60 ≤ f n ∧ f n < 1000) ∨ f n = 12 then de f n else de f n - 1
theorem de_p {f : Nat → Nat} {n : Nat} (h : 1000 ≤ f n ∨ (40 ≤ f n ∧ f n < 60) ∨ f n = 13) : de f (n + 1) = de f n + 1 := by rw [de, if_pos h]
theorem de_u {f : Nat → Nat} {n : Nat} (h : (60 ≤ f n ∧ f n < 1000) ∨ f n = 12) : de f (n + 1) = de f n := by rw [de, if_neg (by omega), if_pos h]
theorem de_b {f : Nat → Nat} {n : Nat} (h : f n < 40) (h2 : ¬ f n = 12) (h3 : ¬ f n = 13) : de f (n + 1) = de f n - 1 := by rw [de, if_neg (by omega), if_neg (by omega)]
theorem de_congr {f g : Nat → Nat} {n : Nat} (h : ∀ j, j < n → f j = g j) : de f n = de g n := by
  induction n with
  | zero => rfl
  | succ n ih => rw [de, de, ih (fun j hj => h j (by omega)), h n (by omega)]
def wf (f : Nat → Nat) (n : Nat) : Prop := ∀ j, j < n → ((60 ≤ f j ∧ f j < 1000) ∨ f j = 12 → 1 ≤ de f j) ∧ (f j < 40 → ¬ f j = 12 → ¬ f j = 13 → 2 ≤ de f j)
theorem wf_up {f : Nat → Nat} {n v : Nat} (h : wf f n) (h1 : (60 ≤ v ∧ v < 1000) ∨ v = 12 → 1 ≤ de f n) (h2 : v < 40 → ¬ v = 12 → ¬ v = 13 → 2 ≤ de f n) : wf (updN f n v) (n + 1) := by
  intro j hj
  have e1 : de (updN f n v) j = de f j := de_congr (fun i hi => updN_ne f (by omega))
  rw [e1]
  by_cases q : j = n
  · subst q; rw [updN_at]; exact ⟨h1, h2⟩
  · rw [updN_ne f q]; exact h j (by omega)
theorem de_upd {f : Nat → Nat} {n v : Nat} : de (updN f n v) n = de f n := de_congr (fun i hi => updN_ne f (by omega))
def wt (c : Nat) : Nat := if c = 1 ∨ c = 2 ∨ c = 3 ∨ c = 4 ∨ c = 10 ∨ c = 11 ∨ c = 23 ∨ c = 24 then 1 else 0
def wsum (f : Nat → Nat) : Nat → Nat
  | 0 => 0
  | n + 1 => wsum f n + wt (f n)
theorem wsum_congr {f g : Nat → Nat} {n : Nat} (h : ∀ j, j < n → f j = g j) : wsum f n = wsum g n := by
  induction n with
  | zero => rfl
  | succ n ih => rw [wsum, wsum, ih (fun j hj => h j (by omega)), h n (by omega)]
theorem wsum_pred {f : Nat → Nat} {n : Nat} (h : 1 ≤ n) : wsum f n = wsum f (n - 1) + wt (f (n - 1)) := by
  obtain ⟨m, rfl⟩ : ∃ m, n = m + 1 := ⟨n - 1, by omega⟩
  rw [Nat.add_sub_cancel]; rfl
theorem wt_1 {c : Nat} (h : c = 1 ∨ c = 2 ∨ c = 3 ∨ c = 4 ∨ c = 10 ∨ c = 11 ∨ c = 23 ∨ c = 24) : wt c = 1 := if_pos h
theorem wt_0 {c : Nat} (h : ¬ (c = 1 ∨ c = 2 ∨ c = 3 ∨ c = 4 ∨ c = 10 ∨ c = 11 ∨ c = 23 ∨ c = 24)) : wt c = 0 := if_neg h
def tst (c : Nat) : Prop := c = 10 ∨ c = 11 ∨ c = 12 ∨ c = 25
def sme (c : Nat) : Prop := c = 1 ∨ c = 2 ∨ c = 3 ∨ c = 4 ∨ c = 20 ∨ c = 21 ∨ c = 22 ∨ c = 23 ∨ c = 24 ∨ c = 60
def nnc (f : Nat → Nat) (n0 n : Nat) : Prop := ∀ j, n0 ≤ j → j < n → ¬ f j = 12 ∧ ¬ f j = 13
theorem nnc_up {f : Nat → Nat} {n0 n v : Nat} (h : nnc f n0 n) (hv : n0 ≤ n → ¬ v = 12 ∧ ¬ v = 13) : nnc (updN f n v) n0 (n + 1) := by
  intro j h1 h2
  by_cases q : j = n
  · subst q; rw [updN_at]; exact hv h1
  · rw [updN_ne f q]; exact h j h1 (by omega)
/-- sums under way: K more on the pile than what waits takes; below b tests wait, from b on sums -/
def SJ (K n0 : Nat) (qs : Nat → Nat) (qn : Nat) (qt : Nat → Nat) (b w : Nat) : Prop :=
  de qs qn = K + wsum qt w ∧ wf qs qn ∧ nnc qs n0 qn ∧ b ≤ w ∧ (∀ j, j < b → tst (qt j)) ∧ (∀ j, b ≤ j → j < w → sme (qt j))
theorem SJ_init {n0 : Nat} {qs qt : Nat → Nat} : SJ 0 n0 qs 0 qt 0 0 :=
  ⟨rfl, fun j hj => absurd hj (by omega), fun j _ hj => absurd hj (by omega), Nat.le_refl _, fun j hj => absurd hj (by omega), fun j _ hj => absurd hj (by omega)⟩
theorem SJ_code {K n0 qn b w v : Nat} {qs qt qs2 : Nat → Nat} (h : SJ K n0 qs qn qt b w) (hv : 1000 ≤ v ∨ (40 ≤ v ∧ v < 60) ∨ v = 13) (h0 : n0 ≤ qn → ¬ v = 13) (e : qs2 = updN qs qn v) : SJ (K + 1) n0 qs2 (qn + 1) qt b w := by
  subst e
  obtain ⟨h1, h2, h3, h4, h5, h6⟩ := h
  refine ⟨?_, wf_up h2 (fun q => absurd q (by omega)) (fun q1 q2 q3 => absurd hv (by omega)), nnc_up h3 (fun q => ⟨by omega, h0 q⟩), h4, h5, h6⟩
  rw [de_p (by rw [updN_at]; exact hv), de_upd]; omega
theorem SJ_bin {K n0 qn b w v : Nat} {qs qt qs2 : Nat → Nat} (h : SJ (K + 2) n0 qs qn qt b w) (hv : v < 12) (e : qs2 = updN qs qn v) : SJ (K + 1) n0 qs2 (qn + 1) qt b w := by
  subst e
  obtain ⟨h1, h2, h3, h4, h5, h6⟩ := h
  refine ⟨?_, wf_up h2 (fun q => absurd q (by omega)) (fun q1 q2 q3 => by omega), nnc_up h3 (fun q => ⟨by omega, by omega⟩), h4, h5, h6⟩
  rw [de_b (by rw [updN_at]; omega) (by rw [updN_at]; omega) (by rw [updN_at]; omega), de_upd]; omega
theorem SJ_drop {K n0 qn b w : Nat} {qs qt qs2 : Nat → Nat} (h : SJ (K + 1) n0 qs qn qt b w) (hw : b + 1 ≤ w) (hb : ¬ (20 ≤ qt (w - 1) ∧ qt (w - 1) ≤ 24)) (e : qs2 = updN qs qn (qt (w - 1))) : SJ (K + 1) n0 qs2 (qn + 1) qt b (w - 1) := by
  subst e
  obtain ⟨h1, h2, h3, h4, h5, h6⟩ := h
  have hs := h6 (w - 1) (by omega) (by omega)
  rw [wsum_pred (show 1 ≤ w by omega)] at h1
  generalize qt (w - 1) = v at *
  unfold sme at hs
  by_cases q : v = 60
  · rw [wt_0 (by omega)] at h1
    refine ⟨?_, wf_up h2 (fun _ => by omega) (fun q1 q2 q3 => by omega), nnc_up h3 (fun _ => ⟨by omega, by omega⟩), by omega, h5, fun j q1 q2 => h6 j q1 (by omega)⟩
    rw [de_u (by rw [updN_at]; omega), de_upd]; omega
  · rw [wt_1 (by omega)] at h1
    refine ⟨?_, wf_up h2 (fun _ => by omega) (fun q1 q2 q3 => by omega), nnc_up h3 (fun _ => ⟨by omega, by omega⟩), by omega, h5, fun j q1 q2 => h6 j q1 (by omega)⟩
    rw [de_b (by rw [updN_at]; omega) (by rw [updN_at]; omega) (by rw [updN_at]; omega), de_upd]; omega
theorem SJ_push0 {K n0 qn b w v : Nat} {qs qt qt2 : Nat → Nat} (h : SJ K n0 qs qn qt b w) (hv : v = 20 ∨ v = 21 ∨ v = 22 ∨ v = 60) (e : qt2 = updN qt w v) : SJ K n0 qs qn qt2 b (w + 1) := by
  subst e
  obtain ⟨h1, h2, h3, h4, h5, h6⟩ := h
  refine ⟨?_, h2, h3, by omega, fun j hj => by rw [updN_ne qt (by omega)]; exact h5 j hj, fun j q1 q2 => ?_⟩
  · rw [wsum, updN_at, wt_0 (by omega), wsum_congr (g := qt) (fun j hj => updN_ne qt (by omega))]; exact h1
  · by_cases q : j = w
    · subst q; rw [updN_at]; unfold sme; omega
    · rw [updN_ne qt q]; exact h6 j q1 (by omega)
theorem SJ_push1 {K n0 qn b w v : Nat} {qs qt qt2 : Nat → Nat} (h : SJ (K + 1) n0 qs qn qt b w) (hv : v = 1 ∨ v = 2 ∨ v = 3 ∨ v = 4) (e : qt2 = updN qt w v) : SJ K n0 qs qn qt2 b (w + 1) := by
  subst e
  obtain ⟨h1, h2, h3, h4, h5, h6⟩ := h
  refine ⟨?_, h2, h3, by omega, fun j hj => by rw [updN_ne qt (by omega)]; exact h5 j hj, fun j q1 q2 => ?_⟩
  · rw [wsum, updN_at, wt_1 (by omega), wsum_congr (g := qt) (fun j hj => updN_ne qt (by omega))]; omega
  · by_cases q : j = w
    · subst q; rw [updN_at]; unfold sme; omega
    · rw [updN_ne qt q]; exact h6 j q1 (by omega)
theorem SJ_pop {K n0 qn b w : Nat} {qs qt : Nat → Nat} (h : SJ K n0 qs qn qt b w) (hw : b + 1 ≤ w) (hv : qt (w - 1) = 20) : SJ K n0 qs qn qt b (w - 1) := by
  obtain ⟨h1, h2, h3, h4, h5, h6⟩ := h
  rw [wsum_pred (show 1 ≤ w by omega), hv, wt_0 (by omega)] at h1
  exact ⟨h1, h2, h3, by omega, h5, fun j q1 q2 => h6 j q1 (by omega)⟩
theorem SJ_popm {K n0 qn b w v : Nat} {qs qt qs2 : Nat → Nat} (h : SJ (K + 1) n0 qs qn qt b w) (hw : b + 1 ≤ w) (hv : qt (w - 1) = 23 ∨ qt (w - 1) = 24) (hv2 : v < 12) (e : qs2 = updN qs qn v) : SJ (K + 1) n0 qs2 (qn + 1) qt b (w - 1) := by
  subst e
  obtain ⟨h1, h2, h3, h4, h5, h6⟩ := h
  rw [wsum_pred (show 1 ≤ w by omega), wt_1 (by omega)] at h1
  refine ⟨?_, wf_up h2 (fun _ => by omega) (fun q1 q2 q3 => by omega), nnc_up h3 (fun _ => ⟨by omega, by omega⟩), by omega, h5, fun j q1 q2 => h6 j q1 (by omega)⟩
  rw [de_b (by rw [updN_at]; omega) (by rw [updN_at]; omega) (by rw [updN_at]; omega), de_upd]; omega
theorem SJ_next {K n0 qn b w v : Nat} {qs qt qt2 : Nat → Nat} (h : SJ (K + 1) n0 qs qn qt b w) (hw : b + 1 ≤ w) (hv : qt (w - 1) = 21 ∨ qt (w - 1) = 22) (hv2 : v = qt (w - 1) + 2) (e : qt2 = updN qt (w - 1) v) : SJ K n0 qs qn qt2 b w := by
  subst e
  obtain ⟨h1, h2, h3, h4, h5, h6⟩ := h
  have hw1 : 1 ≤ w := by omega
  rw [wsum_pred hw1, wt_0 (by omega)] at h1
  refine ⟨?_, h2, h3, by omega, fun j hj => by rw [updN_ne qt (by omega)]; exact h5 j hj, fun j q1 q2 => ?_⟩
  · rw [wsum_pred hw1, updN_at, wt_1 (by omega), wsum_congr (g := qt) (fun j hj => updN_ne qt (by omega))]; omega
  · by_cases q : j = w - 1
    · subst q; rw [updN_at]; unfold sme; omega
    · rw [updN_ne qt q]; exact h6 j q1 q2
/-- drops by a sign: what is on top is a sign of sums, so it stands above b -/
theorem SJ_top {K n0 qn b w : Nat} {qs qt : Nat → Nat} (h : SJ K n0 qs qn qt b w) (hw : 1 ≤ w) (hv : qt (w - 1) < 10) : b + 1 ≤ w := by
  obtain ⟨-, -, -, h4, h5, -⟩ := h
  rcases Nat.lt_or_ge b w with q | q
  · exact q
  · have := h5 (w - 1) (by omega)
    unfold tst at this
    omega
theorem SJ_le {K n0 qn b w : Nat} {qs qt : Nat → Nat} (h : SJ K n0 qs qn qt b w) : b ≤ w := h.2.2.2.1
theorem SJ_wf {K n0 qn b w : Nat} {qs qt : Nat → Nat} (h : SJ K n0 qs qn qt b w) : wf qs qn := h.2.1
/-- tests: everything that waits waits for tests -/
theorem SJ_T {K n0 qn b w : Nat} {qs qt : Nat → Nat} (h : SJ K n0 qs qn qt b w) (e : w = b) : SJ K n0 qs qn qt w w := by subst e; exact h
theorem SJ_push0T {K n0 qn w v : Nat} {qs qt qt2 : Nat → Nat} (h : SJ K n0 qs qn qt w w) (hv : v = 12 ∨ v = 25) (e : qt2 = updN qt w v) : SJ K n0 qs qn qt2 (w + 1) (w + 1) := by
  subst e
  obtain ⟨h1, h2, h3, h4, h5, h6⟩ := h
  refine ⟨?_, h2, h3, by omega, fun j hj => ?_, fun j q1 q2 => absurd q1 (by omega)⟩
  · rw [wsum, updN_at, wt_0 (by omega), wsum_congr (g := qt) (fun j hj => updN_ne qt (by omega))]; exact h1
  · by_cases q : j = w
    · subst q; rw [updN_at]; unfold tst; omega
    · rw [updN_ne qt q]; exact h5 j (by omega)
theorem SJ_push1T {K n0 qn w v : Nat} {qs qt qt2 : Nat → Nat} (h : SJ (K + 1) n0 qs qn qt w w) (hv : v = 10 ∨ v = 11) (e : qt2 = updN qt w v) : SJ K n0 qs qn qt2 (w + 1) (w + 1) := by
  subst e
  obtain ⟨h1, h2, h3, h4, h5, h6⟩ := h
  refine ⟨?_, h2, h3, by omega, fun j hj => ?_, fun j q1 q2 => absurd q1 (by omega)⟩
  · rw [wsum, updN_at, wt_1 (by omega), wsum_congr (g := qt) (fun j hj => updN_ne qt (by omega))]; omega
  · by_cases q : j = w
    · subst q; rw [updN_at]; unfold tst; omega
    · rw [updN_ne qt q]; exact h5 j (by omega)
theorem SJ_dropT {K n0 qn w : Nat} {qs qt qs2 : Nat → Nat} (h : SJ (K + 1) n0 qs qn qt w w) (hw : 1 ≤ w) (hb : ¬ qt (w - 1) = 25) (h0 : qn < n0) (e : qs2 = updN qs qn (qt (w - 1))) : SJ (K + 1) n0 qs2 (qn + 1) qt (w - 1) (w - 1) := by
  subst e
  obtain ⟨h1, h2, h3, h4, h5, h6⟩ := h
  have hs := h5 (w - 1) (by omega)
  rw [wsum_pred hw] at h1
  have h5' : ∀ j, j < w - 1 → tst (qt j) := fun j hj => h5 j (by omega)
  generalize qt (w - 1) = v at *
  unfold tst at hs
  by_cases q : v = 12
  · rw [wt_0 (by omega)] at h1
    refine ⟨?_, wf_up h2 (fun _ => by omega) (fun q1 q2 q3 => by omega), nnc_up h3 (fun q0 => absurd q0 (by omega)), Nat.le_refl _, h5', fun j q1 q2 => absurd q1 (by omega)⟩
    rw [de_u (by rw [updN_at]; omega), de_upd]; omega
  · rw [wt_1 (by omega)] at h1
    refine ⟨?_, wf_up h2 (fun _ => by omega) (fun q1 q2 q3 => by omega), nnc_up h3 (fun q0 => absurd q0 (by omega)), Nat.le_refl _, h5', fun j q1 q2 => absurd q1 (by omega)⟩
    rw [de_b (by rw [updN_at]; omega) (by rw [updN_at]; omega) (by rw [updN_at]; omega), de_upd]; omega
theorem SJ_popT {K n0 qn w : Nat} {qs qt : Nat → Nat} (h : SJ K n0 qs qn qt w w) (hw : 1 ≤ w) (hv : qt (w - 1) = 25) : SJ K n0 qs qn qt (w - 1) (w - 1) := by
  obtain ⟨h1, h2, h3, h4, h5, h6⟩ := h
  rw [wsum_pred hw, hv, wt_0 (by omega)] at h1
  exact ⟨h1, h2, h3, Nat.le_refl _, fun j hj => h5 j (by omega), fun j q1 q2 => absurd q1 (by omega)⟩
/-- the last bracket from b on -/
def lbO (qt : Nat → Nat) (b w : Nat) (r : Int32) : Prop := (r = -1 ∧ ∀ j, b ≤ j → j < w → ¬ (20 ≤ qt j ∧ qt j ≤ 24)) ∨ ∃ k, b ≤ k ∧ k < w ∧ 20 ≤ qt k ∧ qt k ≤ 24 ∧ r = nI (qt k) ∧ ∀ j, k < j → j < w → ¬ (20 ≤ qt j ∧ qt j ≤ 24)
def nbr (qt : Nat → Nat) (a w : Nat) : Prop := ∀ j, a ≤ j → j < w → ¬ (20 ≤ qt j ∧ qt j ≤ 24)
theorem nbr_0 {qt : Nat → Nat} {w : Nat} : nbr qt w w := fun j h1 h2 => absurd h1 (by omega)
theorem nbr_s {qt : Nat → Nat} {a w : Nat} (h : nbr qt a w) (h1 : ¬ (20 ≤ qt (a - 1) ∧ qt (a - 1) ≤ 24)) : nbr qt (a - 1) w := by
  intro j q1 q2
  by_cases q : j = a - 1
  · subst q; exact h1
  · exact h j (by omega) q2
theorem lb_none {qt : Nat → Nat} {a b w : Nat} (h : nbr qt a w) (hb : a ≤ b) : lbO qt b w (-1) := Or.inl ⟨rfl, fun j q1 q2 => h j (by omega) q2⟩
theorem lb_some {qt : Nat → Nat} {a b w : Nat} (h : nbr qt a w) (ha : 1 ≤ a) (hw : a ≤ w) (hb : b ≤ a - 1) (h1 : 20 ≤ qt (a - 1)) (h2 : qt (a - 1) ≤ 24) : lbO qt b w (nI (qt (a - 1))) := Or.inr ⟨a - 1, hb, by omega, h1, h2, rfl, fun j q1 q2 => h j (by omega) q2⟩
theorem lb_drop {qt : Nat → Nat} {b w w2 : Nat} {v : Nat} {r : Int32} (h : lbO qt b w r) (hv : v < 2147483648) (hr : r = nI v) (hle : w2 ≤ w) (h2 : w2 ≤ b ∨ (20 ≤ qt (w2 - 1) ∧ qt (w2 - 1) ≤ 24)) (h3 : nbr qt w2 w) : b + 1 ≤ w2 ∧ qt (w2 - 1) = v := by
  rcases h with ⟨h, -⟩ | ⟨k, k1, k2, k3, k4, k5, k6⟩
  · have h5 : (nI v).toInt = (v : Int) := ivn v hv
    rw [← hr, h] at h5
    have h6 : ((-1 : Int32)).toInt = -1 := by decide
    rw [h6] at h5
    omega
  · have e1 : qt k = v := (neq _ _ (by omega) hv).mp (k5.symm.trans hr)
    have q1 : k < w2 := by
      rcases Nat.lt_or_ge k w2 with q | q
      · exact q
      · exact absurd ⟨k3, k4⟩ (h3 k q k2)
    have q2 : w2 - 1 = k := by
      rcases Nat.lt_or_ge k (w2 - 1) with q | q
      · rcases h2 with h2 | h2
        · omega
        · exact absurd h2 (k6 (w2 - 1) q (by omega))
      · omega
    exact ⟨by omega, by rw [q2]; exact e1⟩
theorem lb_no {qt : Nat → Nat} {b w : Nat} {r : Int32} (h : lbO qt b w r) (hr : r = -1) : nbr qt b w := by
  rcases h with ⟨-, h⟩ | ⟨k, k1, k2, k3, k4, k5, k6⟩
  · exact h
  · have h5 : (nI (qt k)).toInt = (qt k : Int) := ivn _ (by omega)
    rw [← k5, hr] at h5
    have h6 : ((-1 : Int32)).toInt = -1 := by decide
    rw [h6] at h5
    omega
theorem nbr_at {qt : Nat → Nat} {a w j : Nat} (h : nbr qt a w) (h1 : a ≤ j) (h2 : j < w) : ¬ (20 ≤ qt j ∧ qt j ≤ 24) := h j h1 h2
def hasQ (qt : Nat → Nat) (w : Nat) : Prop := ∃ j, j < w ∧ qt j = 25
def noQ (qt : Nat → Nat) (w : Nat) : Prop := ∀ j, j < w → ¬ qt j = 25
theorem noQ_0 {qt : Nat → Nat} : noQ qt 0 := fun j h => absurd h (by omega)
theorem noQ_s {qt : Nat → Nat} {w : Nat} (h : noQ qt w) (h1 : ¬ qt w = 25) : noQ qt (w + 1) := by
  intro j hj
  by_cases q : j = w
  · subst q; exact h1
  · exact h j (by omega)
theorem noQ_at {qt : Nat → Nat} {w j : Nat} (h : noQ qt w) (h1 : j < w) : ¬ qt j = 25 := h j h1
theorem noQ_le {qt : Nat → Nat} {w v : Nat} (h : noQ qt w) (h1 : v ≤ w) : noQ qt v := fun j hj => h j (by omega)
theorem hasQ_1 {qt : Nat → Nat} {w : Nat} (h : hasQ qt w) : 1 ≤ w := by
  obtain ⟨j, hj, -⟩ := h; omega
theorem hasQ_s {qt : Nat → Nat} {w : Nat} (h : hasQ qt w) (h1 : ¬ qt (w - 1) = 25) : hasQ qt (w - 1) := by
  obtain ⟨j, hj, e⟩ := h
  refine ⟨j, ?_, e⟩
  rcases Nat.lt_or_ge j (w - 1) with q | q
  · exact q
  · exact absurd (show qt (w - 1) = 25 by rw [show w - 1 = j by omega]; exact e) h1
theorem hasQ_i {qt : Nat → Nat} {w j : Nat} (h : j < w) (e : qt j = 25) : hasQ qt w := ⟨j, h, e⟩
def cw (w : List Nat) : Nat → Int32 := fun j => nI (w.getD j 0)
theorem dX12_fail_0 : decode cX12_fail 0 = .ok (.aload_n 0, 1) := by decide +kernel
theorem dX12_fail_1 : decode cX12_fail 1 = .ok (.getfield 195, 3) := by decide +kernel
theorem dX12_fail_4 : decode cX12_fail 4 = .ok (.ifCond .eq 4, 3) := by decide +kernel
theorem dX12_fail_8 : decode cX12_fail 8 = .ok (.aload_n 0, 1) := by decide +kernel
theorem dX12_fail_9 : decode cX12_fail 9 = .ok (.iload_n 1, 1) := by decide +kernel
theorem dX12_fail_10 : decode cX12_fail 10 = .ok (.putfield 195, 3) := by decide +kernel
theorem dX12_fail_13 : decode cX12_fail 13 = .ok (.aload_n 0, 1) := by decide +kernel
theorem dX12_fail_14 : decode cX12_fail 14 = .ok (.iload_n 2, 1) := by decide +kernel
theorem dX12_fail_15 : decode cX12_fail 15 = .ok (.putfield 198, 3) := by decide +kernel
theorem dX12_fail_18 : decode cX12_fail 18 = .ok (.return_, 1) := by decide +kernel
theorem dX12_fail_7 : decode cX12_fail 7 = .ok (.return_, 1) := by decide +kernel
theorem w_5_160 : (Cond.fieldLink RX12 195 "SameKeeperModel" "bad" "I") ∈ wsL_law := sk_mem (ck_5 _ (List.mem_of_getElem? (i := 160) rfl)) rfl
theorem w_5_161 : (Cond.fieldLink RX12 198 "SameKeeperModel" "badPlace" "I") ∈ wsL_law := sk_mem (ck_5 _ (List.mem_of_getElem? (i := 161) rfl)) rfl
theorem w_6_232 : (Cond.code yX12_fail cX12_fail 3 none) ∈ wsL_law := sk_mem (ck_6 _ (List.mem_of_getElem? (i := 232) rfl)) rfl
theorem dX12_look_0 : decode cX12_look 0 = .ok (.aload_n 0, 1) := by decide +kernel
theorem dX12_look_1 : decode cX12_look 1 = .ok (.getfield 201, 3) := by decide +kernel
theorem dX12_look_4 : decode cX12_look 4 = .ok (.aload_n 0, 1) := by decide +kernel
theorem dX12_look_5 : decode cX12_look 5 = .ok (.getfield 204, 3) := by decide +kernel
theorem dX12_look_8 : decode cX12_look 8 = .ok (.if_icmp .ge 44, 3) := by decide +kernel
theorem dX12_look_52 : decode cX12_look 52 = .ok (.aload_n 0, 1) := by decide +kernel
theorem dX12_look_53 : decode cX12_look 53 = .ok (.getfield 201, 3) := by decide +kernel
theorem dX12_look_56 : decode cX12_look 56 = .ok (.aload_n 0, 1) := by decide +kernel
theorem dX12_look_57 : decode cX12_look 57 = .ok (.getfield 204, 3) := by decide +kernel
theorem dX12_look_60 : decode cX12_look 60 = .ok (.if_icmp .ge 15, 3) := by decide +kernel
theorem dX12_look_75 : decode cX12_look 75 = .ok (.iconst (-1), 1) := by decide +kernel
theorem dX12_look_76 : decode cX12_look 76 = .ok (.ireturn, 1) := by decide +kernel
theorem dX12_look_63 : decode cX12_look 63 = .ok (.aload_n 0, 1) := by decide +kernel
theorem dX12_look_64 : decode cX12_look 64 = .ok (.getfield 7, 3) := by decide +kernel
theorem dX12_look_67 : decode cX12_look 67 = .ok (.aload_n 0, 1) := by decide +kernel
theorem dX12_look_68 : decode cX12_look 68 = .ok (.getfield 201, 3) := by decide +kernel
theorem dX12_look_71 : decode cX12_look 71 = .ok (.iaload, 1) := by decide +kernel
theorem dX12_look_72 : decode cX12_look 72 = .ok (.goto 4, 3) := by decide +kernel
theorem dX12_look_11 : decode cX12_look 11 = .ok (.aload_n 0, 1) := by decide +kernel
theorem dX12_look_12 : decode cX12_look 12 = .ok (.getfield 7, 3) := by decide +kernel
theorem dX12_look_15 : decode cX12_look 15 = .ok (.aload_n 0, 1) := by decide +kernel
theorem dX12_look_16 : decode cX12_look 16 = .ok (.getfield 201, 3) := by decide +kernel
theorem dX12_look_19 : decode cX12_look 19 = .ok (.iaload, 1) := by decide +kernel
theorem dX12_look_20 : decode cX12_look 20 = .ok (.bipush 10, 2) := by decide +kernel
theorem dX12_look_22 : decode cX12_look 22 = .ok (.if_icmp .eq 17, 3) := by decide +kernel
theorem dX12_look_39 : decode cX12_look 39 = .ok (.aload_n 0, 1) := by decide +kernel
theorem dX12_look_40 : decode cX12_look 40 = .ok (.dup, 1) := by decide +kernel
theorem dX12_look_41 : decode cX12_look 41 = .ok (.getfield 201, 3) := by decide +kernel
theorem dX12_look_44 : decode cX12_look 44 = .ok (.iconst 1, 1) := by decide +kernel
theorem dX12_look_45 : decode cX12_look 45 = .ok (.iadd, 1) := by decide +kernel
theorem dX12_look_46 : decode cX12_look 46 = .ok (.putfield 201, 3) := by decide +kernel
theorem dX12_look_49 : decode cX12_look 49 = .ok (.goto (-49), 3) := by decide +kernel
theorem dX12_look_25 : decode cX12_look 25 = .ok (.aload_n 0, 1) := by decide +kernel
theorem dX12_look_26 : decode cX12_look 26 = .ok (.getfield 7, 3) := by decide +kernel
theorem dX12_look_29 : decode cX12_look 29 = .ok (.aload_n 0, 1) := by decide +kernel
theorem dX12_look_30 : decode cX12_look 30 = .ok (.getfield 201, 3) := by decide +kernel
theorem dX12_look_33 : decode cX12_look 33 = .ok (.iaload, 1) := by decide +kernel
theorem dX12_look_34 : decode cX12_look 34 = .ok (.bipush 32, 2) := by decide +kernel
theorem dX12_look_36 : decode cX12_look 36 = .ok (.if_icmp .ne 16, 3) := by decide +kernel
theorem w_5_157 : (Cond.fieldLink RX12 201 "SameKeeperModel" "at" "I") ∈ wsL_law := sk_mem (ck_5 _ (List.mem_of_getElem? (i := 157) rfl)) rfl
theorem w_5_158 : (Cond.fieldLink RX12 204 "SameKeeperModel" "end" "I") ∈ wsL_law := sk_mem (ck_5 _ (List.mem_of_getElem? (i := 158) rfl)) rfl
theorem w_6_225 : (Cond.code yX12_look cX12_look 1 (some .int)) ∈ wsL_law := sk_mem (ck_6 _ (List.mem_of_getElem? (i := 225) rfl)) rfl
theorem dX12_isHere_0 : decode cX12_isHere 0 = .ok (.aload_n 0, 1) := by decide +kernel
theorem dX12_isHere_1 : decode cX12_isHere 1 = .ok (.getfield 195, 3) := by decide +kernel
theorem dX12_isHere_4 : decode cX12_isHere 4 = .ok (.ifCond .ne 24, 3) := by decide +kernel
theorem dX12_isHere_28 : decode cX12_isHere 28 = .ok (.iconst 0, 1) := by decide +kernel
theorem dX12_isHere_29 : decode cX12_isHere 29 = .ok (.ireturn, 1) := by decide +kernel
theorem dX12_isHere_7 : decode cX12_isHere 7 = .ok (.aload_n 0, 1) := by decide +kernel
theorem dX12_isHere_8 : decode cX12_isHere 8 = .ok (.invokevirtual 207, 3) := by decide +kernel
theorem dX12_isHere_11 : decode cX12_isHere 11 = .ok (.invokestatic 211, 3) := by decide +kernel
theorem dX12_isHere_14 : decode cX12_isHere 14 = .ok (.ifCond .eq 14, 3) := by decide +kernel
theorem dX12_isHere_17 : decode cX12_isHere 17 = .ok (.aload_n 0, 1) := by decide +kernel
theorem dX12_isHere_18 : decode cX12_isHere 18 = .ok (.getfield 201, 3) := by decide +kernel
theorem dX12_isHere_21 : decode cX12_isHere 21 = .ok (.aload_n 0, 1) := by decide +kernel
theorem dX12_isHere_22 : decode cX12_isHere 22 = .ok (.getfield 215, 3) := by decide +kernel
theorem dX12_isHere_25 : decode cX12_isHere 25 = .ok (.if_icmp .ne 5, 3) := by decide +kernel
theorem dX12_isHere_30 : decode cX12_isHere 30 = .ok (.aload_n 0, 1) := by decide +kernel
theorem dX12_isHere_31 : decode cX12_isHere 31 = .ok (.getfield 201, 3) := by decide +kernel
theorem dX12_isHere_34 : decode cX12_isHere 34 = .ok (.istore_n 2, 1) := by decide +kernel
theorem dX12_isHere_35 : decode cX12_isHere 35 = .ok (.iload_n 2, 1) := by decide +kernel
theorem dX12_isHere_36 : decode cX12_isHere 36 = .ok (.aload_n 0, 1) := by decide +kernel
theorem dX12_isHere_37 : decode cX12_isHere 37 = .ok (.getfield 204, 3) := by decide +kernel
theorem dX12_isHere_40 : decode cX12_isHere 40 = .ok (.if_icmp .ge 21, 3) := by decide +kernel
theorem dX12_isHere_61 : decode cX12_isHere 61 = .ok (.iload_n 2, 1) := by decide +kernel
theorem dX12_isHere_62 : decode cX12_isHere 62 = .ok (.aload_n 0, 1) := by decide +kernel
theorem dX12_isHere_63 : decode cX12_isHere 63 = .ok (.getfield 201, 3) := by decide +kernel
theorem dX12_isHere_66 : decode cX12_isHere 66 = .ok (.isub, 1) := by decide +kernel
theorem dX12_isHere_67 : decode cX12_isHere 67 = .ok (.aload_n 1, 1) := by decide +kernel
theorem dX12_isHere_68 : decode cX12_isHere 68 = .ok (.arraylength, 1) := by decide +kernel
theorem dX12_isHere_69 : decode cX12_isHere 69 = .ok (.if_icmp .eq 5, 3) := by decide +kernel
theorem dX12_isHere_74 : decode cX12_isHere 74 = .ok (.iconst 0, 1) := by decide +kernel
theorem dX12_isHere_75 : decode cX12_isHere 75 = .ok (.istore_n 3, 1) := by decide +kernel
theorem dX12_isHere_76 : decode cX12_isHere 76 = .ok (.iload_n 3, 1) := by decide +kernel
theorem dX12_isHere_77 : decode cX12_isHere 77 = .ok (.aload_n 1, 1) := by decide +kernel
theorem dX12_isHere_78 : decode cX12_isHere 78 = .ok (.arraylength, 1) := by decide +kernel
theorem dX12_isHere_79 : decode cX12_isHere 79 = .ok (.if_icmp .ge 28, 3) := by decide +kernel
theorem dX12_isHere_107 : decode cX12_isHere 107 = .ok (.iconst 1, 1) := by decide +kernel
theorem dX12_isHere_108 : decode cX12_isHere 108 = .ok (.ireturn, 1) := by decide +kernel
theorem dX12_isHere_82 : decode cX12_isHere 82 = .ok (.aload_n 0, 1) := by decide +kernel
theorem dX12_isHere_83 : decode cX12_isHere 83 = .ok (.getfield 7, 3) := by decide +kernel
theorem dX12_isHere_86 : decode cX12_isHere 86 = .ok (.aload_n 0, 1) := by decide +kernel
theorem dX12_isHere_87 : decode cX12_isHere 87 = .ok (.getfield 201, 3) := by decide +kernel
theorem dX12_isHere_90 : decode cX12_isHere 90 = .ok (.iload_n 3, 1) := by decide +kernel
theorem dX12_isHere_91 : decode cX12_isHere 91 = .ok (.iadd, 1) := by decide +kernel
theorem dX12_isHere_92 : decode cX12_isHere 92 = .ok (.iaload, 1) := by decide +kernel
theorem dX12_isHere_93 : decode cX12_isHere 93 = .ok (.aload_n 1, 1) := by decide +kernel
theorem dX12_isHere_94 : decode cX12_isHere 94 = .ok (.iload_n 3, 1) := by decide +kernel
theorem dX12_isHere_95 : decode cX12_isHere 95 = .ok (.caload, 1) := by decide +kernel
theorem dX12_isHere_96 : decode cX12_isHere 96 = .ok (.if_icmp .eq 5, 3) := by decide +kernel
theorem dX12_isHere_101 : decode cX12_isHere 101 = .ok (.iinc 3 1, 3) := by decide +kernel
theorem dX12_isHere_104 : decode cX12_isHere 104 = .ok (.goto (-28), 3) := by decide +kernel
theorem dX12_isHere_99 : decode cX12_isHere 99 = .ok (.iconst 0, 1) := by decide +kernel
theorem dX12_isHere_100 : decode cX12_isHere 100 = .ok (.ireturn, 1) := by decide +kernel
theorem dX12_isHere_72 : decode cX12_isHere 72 = .ok (.iconst 0, 1) := by decide +kernel
theorem dX12_isHere_73 : decode cX12_isHere 73 = .ok (.ireturn, 1) := by decide +kernel
theorem dX12_isHere_43 : decode cX12_isHere 43 = .ok (.aload_n 0, 1) := by decide +kernel
theorem dX12_isHere_44 : decode cX12_isHere 44 = .ok (.getfield 7, 3) := by decide +kernel
theorem dX12_isHere_47 : decode cX12_isHere 47 = .ok (.iload_n 2, 1) := by decide +kernel
theorem dX12_isHere_48 : decode cX12_isHere 48 = .ok (.iaload, 1) := by decide +kernel
theorem dX12_isHere_49 : decode cX12_isHere 49 = .ok (.invokestatic 211, 3) := by decide +kernel
theorem dX12_isHere_52 : decode cX12_isHere 52 = .ok (.ifCond .eq 9, 3) := by decide +kernel
theorem dX12_isHere_55 : decode cX12_isHere 55 = .ok (.iinc 2 1, 3) := by decide +kernel
theorem dX12_isHere_58 : decode cX12_isHere 58 = .ok (.goto (-23), 3) := by decide +kernel
theorem w_6_222 : (Cond.methodLink RX12 207 yX12_look) ∈ wsL_law := sk_mem (ck_6 _ (List.mem_of_getElem? (i := 222) rfl)) rfl
theorem w_6_224 : (Cond.instanceMethod yX12_look) ∈ wsL_law := sk_mem (ck_6 _ (List.mem_of_getElem? (i := 224) rfl)) rfl
theorem w_0_45 : (Cond.selects RX12 yX12_look yX12_look) ∈ wsL_law := sk_mem (ck_0 _ (List.mem_of_getElem? (i := 45) rfl)) rfl
theorem w_6_226 : (Cond.methodLink RX12 211 yX12_isLetter) ∈ wsL_law := sk_mem (ck_6 _ (List.mem_of_getElem? (i := 226) rfl)) rfl
theorem w_6_227 : (Cond.static yX12_isLetter) ∈ wsL_law := sk_mem (ck_6 _ (List.mem_of_getElem? (i := 227) rfl)) rfl
theorem w_5_159 : (Cond.fieldLink RX12 215 "SameKeeperModel" "ended" "I") ∈ wsL_law := sk_mem (ck_5 _ (List.mem_of_getElem? (i := 159) rfl)) rfl
theorem w_6_221 : (Cond.code yX12_isHere cX12_isHere 4 (some .boolean)) ∈ wsL_law := sk_mem (ck_6 _ (List.mem_of_getElem? (i := 221) rfl)) rfl
theorem dX12_takes_0 : decode cX12_takes 0 = .ok (.aload_n 0, 1) := by decide +kernel
theorem dX12_takes_1 : decode cX12_takes 1 = .ok (.aload_n 1, 1) := by decide +kernel
theorem dX12_takes_2 : decode cX12_takes 2 = .ok (.invokevirtual 218, 3) := by decide +kernel
theorem dX12_takes_5 : decode cX12_takes 5 = .ok (.ifCond .ne 5, 3) := by decide +kernel
theorem dX12_takes_10 : decode cX12_takes 10 = .ok (.aload_n 0, 1) := by decide +kernel
theorem dX12_takes_11 : decode cX12_takes 11 = .ok (.dup, 1) := by decide +kernel
theorem dX12_takes_12 : decode cX12_takes 12 = .ok (.getfield 201, 3) := by decide +kernel
theorem dX12_takes_15 : decode cX12_takes 15 = .ok (.aload_n 1, 1) := by decide +kernel
theorem dX12_takes_16 : decode cX12_takes 16 = .ok (.arraylength, 1) := by decide +kernel
theorem dX12_takes_17 : decode cX12_takes 17 = .ok (.iadd, 1) := by decide +kernel
theorem dX12_takes_18 : decode cX12_takes 18 = .ok (.putfield 201, 3) := by decide +kernel
theorem dX12_takes_21 : decode cX12_takes 21 = .ok (.aload_n 0, 1) := by decide +kernel
theorem dX12_takes_22 : decode cX12_takes 22 = .ok (.aload_n 0, 1) := by decide +kernel
theorem dX12_takes_23 : decode cX12_takes 23 = .ok (.getfield 201, 3) := by decide +kernel
theorem dX12_takes_26 : decode cX12_takes 26 = .ok (.putfield 215, 3) := by decide +kernel
theorem dX12_takes_29 : decode cX12_takes 29 = .ok (.iconst 1, 1) := by decide +kernel
theorem dX12_takes_30 : decode cX12_takes 30 = .ok (.ireturn, 1) := by decide +kernel
theorem dX12_takes_8 : decode cX12_takes 8 = .ok (.iconst 0, 1) := by decide +kernel
theorem dX12_takes_9 : decode cX12_takes 9 = .ok (.ireturn, 1) := by decide +kernel
theorem w_6_218 : (Cond.methodLink RX12 218 yX12_isHere) ∈ wsL_law := sk_mem (ck_6 _ (List.mem_of_getElem? (i := 218) rfl)) rfl
theorem w_6_220 : (Cond.instanceMethod yX12_isHere) ∈ wsL_law := sk_mem (ck_6 _ (List.mem_of_getElem? (i := 220) rfl)) rfl
theorem w_0_44 : (Cond.selects RX12 yX12_isHere yX12_isHere) ∈ wsL_law := sk_mem (ck_0 _ (List.mem_of_getElem? (i := 44) rfl)) rfl
theorem w_6_217 : (Cond.code yX12_takes cX12_takes 2 (some .boolean)) ∈ wsL_law := sk_mem (ck_6 _ (List.mem_of_getElem? (i := 217) rfl)) rfl
theorem dX12_asks_0 : decode cX12_asks 0 = .ok (.aload_n 0, 1) := by decide +kernel
theorem dX12_asks_1 : decode cX12_asks 1 = .ok (.getfield 195, 3) := by decide +kernel
theorem dX12_asks_4 : decode cX12_asks 4 = .ok (.ifCond .ne 20, 3) := by decide +kernel
theorem dX12_asks_24 : decode cX12_asks 24 = .ok (.return_, 1) := by decide +kernel
theorem dX12_asks_7 : decode cX12_asks 7 = .ok (.aload_n 0, 1) := by decide +kernel
theorem dX12_asks_8 : decode cX12_asks 8 = .ok (.aload_n 1, 1) := by decide +kernel
theorem dX12_asks_9 : decode cX12_asks 9 = .ok (.invokevirtual 222, 3) := by decide +kernel
theorem dX12_asks_12 : decode cX12_asks 12 = .ok (.ifCond .ne 12, 3) := by decide +kernel
theorem dX12_asks_15 : decode cX12_asks 15 = .ok (.aload_n 0, 1) := by decide +kernel
theorem dX12_asks_16 : decode cX12_asks 16 = .ok (.iconst 1, 1) := by decide +kernel
theorem dX12_asks_17 : decode cX12_asks 17 = .ok (.aload_n 0, 1) := by decide +kernel
theorem dX12_asks_18 : decode cX12_asks 18 = .ok (.getfield 201, 3) := by decide +kernel
theorem dX12_asks_21 : decode cX12_asks 21 = .ok (.invokevirtual 225, 3) := by decide +kernel
theorem w_6_214 : (Cond.methodLink RX12 222 yX12_takes) ∈ wsL_law := sk_mem (ck_6 _ (List.mem_of_getElem? (i := 214) rfl)) rfl
theorem w_6_216 : (Cond.instanceMethod yX12_takes) ∈ wsL_law := sk_mem (ck_6 _ (List.mem_of_getElem? (i := 216) rfl)) rfl
theorem w_0_43 : (Cond.selects RX12 yX12_takes yX12_takes) ∈ wsL_law := sk_mem (ck_0 _ (List.mem_of_getElem? (i := 43) rfl)) rfl
theorem w_6_229 : (Cond.methodLink RX12 225 yX12_fail) ∈ wsL_law := sk_mem (ck_6 _ (List.mem_of_getElem? (i := 229) rfl)) rfl
theorem w_6_231 : (Cond.instanceMethod yX12_fail) ∈ wsL_law := sk_mem (ck_6 _ (List.mem_of_getElem? (i := 231) rfl)) rfl
theorem w_0_46 : (Cond.selects RX12 yX12_fail yX12_fail) ∈ wsL_law := sk_mem (ck_0 _ (List.mem_of_getElem? (i := 46) rfl)) rfl
theorem w_6_213 : (Cond.code yX12_asks cX12_asks 2 none) ∈ wsL_law := sk_mem (ck_6 _ (List.mem_of_getElem? (i := 213) rfl)) rfl
theorem dX12_takesSign_0 : decode cX12_takesSign 0 = .ok (.aload_n 0, 1) := by decide +kernel
theorem dX12_takesSign_1 : decode cX12_takesSign 1 = .ok (.getfield 195, 3) := by decide +kernel
theorem dX12_takesSign_4 : decode cX12_takesSign 4 = .ok (.ifCond .ne 11, 3) := by decide +kernel
theorem dX12_takesSign_15 : decode cX12_takesSign 15 = .ok (.iconst 0, 1) := by decide +kernel
theorem dX12_takesSign_16 : decode cX12_takesSign 16 = .ok (.ireturn, 1) := by decide +kernel
theorem dX12_takesSign_7 : decode cX12_takesSign 7 = .ok (.aload_n 0, 1) := by decide +kernel
theorem dX12_takesSign_8 : decode cX12_takesSign 8 = .ok (.invokevirtual 207, 3) := by decide +kernel
theorem dX12_takesSign_11 : decode cX12_takesSign 11 = .ok (.iload_n 1, 1) := by decide +kernel
theorem dX12_takesSign_12 : decode cX12_takesSign 12 = .ok (.if_icmp .eq 5, 3) := by decide +kernel
theorem dX12_takesSign_17 : decode cX12_takesSign 17 = .ok (.aload_n 0, 1) := by decide +kernel
theorem dX12_takesSign_18 : decode cX12_takesSign 18 = .ok (.dup, 1) := by decide +kernel
theorem dX12_takesSign_19 : decode cX12_takesSign 19 = .ok (.getfield 201, 3) := by decide +kernel
theorem dX12_takesSign_22 : decode cX12_takesSign 22 = .ok (.iconst 1, 1) := by decide +kernel
theorem dX12_takesSign_23 : decode cX12_takesSign 23 = .ok (.iadd, 1) := by decide +kernel
theorem dX12_takesSign_24 : decode cX12_takesSign 24 = .ok (.putfield 201, 3) := by decide +kernel
theorem dX12_takesSign_27 : decode cX12_takesSign 27 = .ok (.iconst 1, 1) := by decide +kernel
theorem dX12_takesSign_28 : decode cX12_takesSign 28 = .ok (.ireturn, 1) := by decide +kernel
theorem w_7_10 : (Cond.code yX12_takesSign cX12_takesSign 2 (some .boolean)) ∈ wsL_law := sk_mem (ck_7 _ (List.mem_of_getElem? (i := 10) rfl)) rfl
theorem dX12_asksSign_0 : decode cX12_asksSign 0 = .ok (.aload_n 0, 1) := by decide +kernel
theorem dX12_asksSign_1 : decode cX12_asksSign 1 = .ok (.getfield 195, 3) := by decide +kernel
theorem dX12_asksSign_4 : decode cX12_asksSign 4 = .ok (.ifCond .ne 20, 3) := by decide +kernel
theorem dX12_asksSign_24 : decode cX12_asksSign 24 = .ok (.return_, 1) := by decide +kernel
theorem dX12_asksSign_7 : decode cX12_asksSign 7 = .ok (.aload_n 0, 1) := by decide +kernel
theorem dX12_asksSign_8 : decode cX12_asksSign 8 = .ok (.iload_n 1, 1) := by decide +kernel
theorem dX12_asksSign_9 : decode cX12_asksSign 9 = .ok (.invokevirtual 229, 3) := by decide +kernel
theorem dX12_asksSign_12 : decode cX12_asksSign 12 = .ok (.ifCond .ne 12, 3) := by decide +kernel
theorem dX12_asksSign_15 : decode cX12_asksSign 15 = .ok (.aload_n 0, 1) := by decide +kernel
theorem dX12_asksSign_16 : decode cX12_asksSign 16 = .ok (.iconst 1, 1) := by decide +kernel
theorem dX12_asksSign_17 : decode cX12_asksSign 17 = .ok (.aload_n 0, 1) := by decide +kernel
theorem dX12_asksSign_18 : decode cX12_asksSign 18 = .ok (.getfield 201, 3) := by decide +kernel
theorem dX12_asksSign_21 : decode cX12_asksSign 21 = .ok (.invokevirtual 225, 3) := by decide +kernel
theorem w_7_7 : (Cond.methodLink RX12 229 yX12_takesSign) ∈ wsL_law := sk_mem (ck_7 _ (List.mem_of_getElem? (i := 7) rfl)) rfl
theorem w_7_9 : (Cond.instanceMethod yX12_takesSign) ∈ wsL_law := sk_mem (ck_7 _ (List.mem_of_getElem? (i := 9) rfl)) rfl
theorem w_0_49 : (Cond.selects RX12 yX12_takesSign yX12_takesSign) ∈ wsL_law := sk_mem (ck_0 _ (List.mem_of_getElem? (i := 49) rfl)) rfl
theorem w_7_6 : (Cond.code yX12_asksSign cX12_asksSign 2 none) ∈ wsL_law := sk_mem (ck_7 _ (List.mem_of_getElem? (i := 6) rfl)) rfl
theorem i2l_le {a b : Nat} (ha : a < 2147483648) (hb : b < 2147483648) (h : Int32.toInt64 (nI a) ≤ Int32.toInt64 (nI b)) : a ≤ b := by
  have h1 := Int64.le_iff_toInt_le.mp h
  rw [lgv a ha, lgv b hb] at h1
  omega
theorem dX12_number_0 : decode cX12_number 0 = .ok (.aload_n 0, 1) := by decide +kernel
theorem dX12_number_1 : decode cX12_number 1 = .ok (.getfield 195, 3) := by decide +kernel
theorem dX12_number_4 : decode cX12_number 4 = .ok (.ifCond .eq 5, 3) := by decide +kernel
theorem dX12_number_9 : decode cX12_number 9 = .ok (.aload_n 0, 1) := by decide +kernel
theorem dX12_number_10 : decode cX12_number 10 = .ok (.invokevirtual 207, 3) := by decide +kernel
theorem dX12_number_13 : decode cX12_number 13 = .ok (.invokestatic 232, 3) := by decide +kernel
theorem dX12_number_16 : decode cX12_number 16 = .ok (.ifCond .eq 14, 3) := by decide +kernel
theorem dX12_number_30 : decode cX12_number 30 = .ok (.aload_n 0, 1) := by decide +kernel
theorem dX12_number_31 : decode cX12_number 31 = .ok (.iconst 1, 1) := by decide +kernel
theorem dX12_number_32 : decode cX12_number 32 = .ok (.aload_n 0, 1) := by decide +kernel
theorem dX12_number_33 : decode cX12_number 33 = .ok (.getfield 201, 3) := by decide +kernel
theorem dX12_number_36 : decode cX12_number 36 = .ok (.invokevirtual 225, 3) := by decide +kernel
theorem dX12_number_39 : decode cX12_number 39 = .ok (.iconst 0, 1) := by decide +kernel
theorem dX12_number_40 : decode cX12_number 40 = .ok (.ireturn, 1) := by decide +kernel
theorem dX12_number_19 : decode cX12_number 19 = .ok (.aload_n 0, 1) := by decide +kernel
theorem dX12_number_20 : decode cX12_number 20 = .ok (.getfield 201, 3) := by decide +kernel
theorem dX12_number_23 : decode cX12_number 23 = .ok (.aload_n 0, 1) := by decide +kernel
theorem dX12_number_24 : decode cX12_number 24 = .ok (.getfield 215, 3) := by decide +kernel
theorem dX12_number_27 : decode cX12_number 27 = .ok (.if_icmp .ne 14, 3) := by decide +kernel
theorem dX12_number_41 : decode cX12_number 41 = .ok (.aload_n 0, 1) := by decide +kernel
theorem dX12_number_42 : decode cX12_number 42 = .ok (.getfield 201, 3) := by decide +kernel
theorem dX12_number_45 : decode cX12_number 45 = .ok (.istore_n 3, 1) := by decide +kernel
theorem dX12_number_46 : decode cX12_number 46 = .ok (.iconst 0, 1) := by decide +kernel
theorem dX12_number_47 : decode cX12_number 47 = .ok (.istore 4, 2) := by decide +kernel
theorem dX12_number_49 : decode cX12_number 49 = .ok (.aload_n 0, 1) := by decide +kernel
theorem dX12_number_50 : decode cX12_number 50 = .ok (.getfield 201, 3) := by decide +kernel
theorem dX12_number_53 : decode cX12_number 53 = .ok (.aload_n 0, 1) := by decide +kernel
theorem dX12_number_54 : decode cX12_number 54 = .ok (.getfield 204, 3) := by decide +kernel
theorem dX12_number_57 : decode cX12_number 57 = .ok (.if_icmp .ge 72, 3) := by decide +kernel
theorem dX12_number_129 : decode cX12_number 129 = .ok (.aload_n 0, 1) := by decide +kernel
theorem dX12_number_130 : decode cX12_number 130 = .ok (.aload_n 0, 1) := by decide +kernel
theorem dX12_number_131 : decode cX12_number 131 = .ok (.getfield 201, 3) := by decide +kernel
theorem dX12_number_134 : decode cX12_number 134 = .ok (.putfield 215, 3) := by decide +kernel
theorem dX12_number_137 : decode cX12_number 137 = .ok (.aload_n 0, 1) := by decide +kernel
theorem dX12_number_138 : decode cX12_number 138 = .ok (.iload_n 3, 1) := by decide +kernel
theorem dX12_number_139 : decode cX12_number 139 = .ok (.putfield 235, 3) := by decide +kernel
theorem dX12_number_142 : decode cX12_number 142 = .ok (.iload 4, 2) := by decide +kernel
theorem dX12_number_144 : decode cX12_number 144 = .ok (.i2l, 1) := by decide +kernel
theorem dX12_number_145 : decode cX12_number 145 = .ok (.iload_n 1, 1) := by decide +kernel
theorem dX12_number_146 : decode cX12_number 146 = .ok (.i2l, 1) := by decide +kernel
theorem dX12_number_147 : decode cX12_number 147 = .ok (.iload_n 2, 1) := by decide +kernel
theorem dX12_number_148 : decode cX12_number 148 = .ok (.i2l, 1) := by decide +kernel
theorem dX12_number_149 : decode cX12_number 149 = .ok (.invokestatic 238, 3) := by decide +kernel
theorem dX12_number_152 : decode cX12_number 152 = .ok (.ifCond .ne 9, 3) := by decide +kernel
theorem dX12_number_161 : decode cX12_number 161 = .ok (.iload 4, 2) := by decide +kernel
theorem dX12_number_163 : decode cX12_number 163 = .ok (.ireturn, 1) := by decide +kernel
theorem dX12_number_155 : decode cX12_number 155 = .ok (.aload_n 0, 1) := by decide +kernel
theorem dX12_number_156 : decode cX12_number 156 = .ok (.iconst 2, 1) := by decide +kernel
theorem dX12_number_157 : decode cX12_number 157 = .ok (.iload_n 3, 1) := by decide +kernel
theorem dX12_number_158 : decode cX12_number 158 = .ok (.invokevirtual 225, 3) := by decide +kernel
theorem dX12_number_60 : decode cX12_number 60 = .ok (.aload_n 0, 1) := by decide +kernel
theorem dX12_number_61 : decode cX12_number 61 = .ok (.getfield 7, 3) := by decide +kernel
theorem dX12_number_64 : decode cX12_number 64 = .ok (.aload_n 0, 1) := by decide +kernel
theorem dX12_number_65 : decode cX12_number 65 = .ok (.getfield 201, 3) := by decide +kernel
theorem dX12_number_68 : decode cX12_number 68 = .ok (.iaload, 1) := by decide +kernel
theorem dX12_number_69 : decode cX12_number 69 = .ok (.invokestatic 232, 3) := by decide +kernel
theorem dX12_number_72 : decode cX12_number 72 = .ok (.ifCond .eq 57, 3) := by decide +kernel
theorem dX12_number_75 : decode cX12_number 75 = .ok (.aload_n 0, 1) := by decide +kernel
theorem dX12_number_76 : decode cX12_number 76 = .ok (.getfield 201, 3) := by decide +kernel
theorem dX12_number_79 : decode cX12_number 79 = .ok (.iload_n 3, 1) := by decide +kernel
theorem dX12_number_80 : decode cX12_number 80 = .ok (.isub, 1) := by decide +kernel
theorem dX12_number_81 : decode cX12_number 81 = .ok (.iconst 4, 1) := by decide +kernel
theorem dX12_number_82 : decode cX12_number 82 = .ok (.if_icmp .ne 14, 3) := by decide +kernel
theorem dX12_number_96 : decode cX12_number 96 = .ok (.bipush 10, 2) := by decide +kernel
theorem dX12_number_98 : decode cX12_number 98 = .ok (.iload 4, 2) := by decide +kernel
theorem dX12_number_100 : decode cX12_number 100 = .ok (.imul, 1) := by decide +kernel
theorem dX12_number_101 : decode cX12_number 101 = .ok (.aload_n 0, 1) := by decide +kernel
theorem dX12_number_102 : decode cX12_number 102 = .ok (.getfield 7, 3) := by decide +kernel
theorem dX12_number_105 : decode cX12_number 105 = .ok (.aload_n 0, 1) := by decide +kernel
theorem dX12_number_106 : decode cX12_number 106 = .ok (.getfield 201, 3) := by decide +kernel
theorem dX12_number_109 : decode cX12_number 109 = .ok (.iaload, 1) := by decide +kernel
theorem dX12_number_110 : decode cX12_number 110 = .ok (.iadd, 1) := by decide +kernel
theorem dX12_number_111 : decode cX12_number 111 = .ok (.bipush 48, 2) := by decide +kernel
theorem dX12_number_113 : decode cX12_number 113 = .ok (.isub, 1) := by decide +kernel
theorem dX12_number_114 : decode cX12_number 114 = .ok (.istore 4, 2) := by decide +kernel
theorem dX12_number_116 : decode cX12_number 116 = .ok (.aload_n 0, 1) := by decide +kernel
theorem dX12_number_117 : decode cX12_number 117 = .ok (.dup, 1) := by decide +kernel
theorem dX12_number_118 : decode cX12_number 118 = .ok (.getfield 201, 3) := by decide +kernel
theorem dX12_number_121 : decode cX12_number 121 = .ok (.iconst 1, 1) := by decide +kernel
theorem dX12_number_122 : decode cX12_number 122 = .ok (.iadd, 1) := by decide +kernel
theorem dX12_number_123 : decode cX12_number 123 = .ok (.putfield 201, 3) := by decide +kernel
theorem dX12_number_126 : decode cX12_number 126 = .ok (.goto (-77), 3) := by decide +kernel
theorem dX12_number_85 : decode cX12_number 85 = .ok (.aload_n 0, 1) := by decide +kernel
theorem dX12_number_86 : decode cX12_number 86 = .ok (.iconst 1, 1) := by decide +kernel
theorem dX12_number_87 : decode cX12_number 87 = .ok (.aload_n 0, 1) := by decide +kernel
theorem dX12_number_88 : decode cX12_number 88 = .ok (.getfield 201, 3) := by decide +kernel
theorem dX12_number_91 : decode cX12_number 91 = .ok (.invokevirtual 225, 3) := by decide +kernel
theorem dX12_number_94 : decode cX12_number 94 = .ok (.iconst 0, 1) := by decide +kernel
theorem dX12_number_95 : decode cX12_number 95 = .ok (.ireturn, 1) := by decide +kernel
theorem dX12_number_7 : decode cX12_number 7 = .ok (.iconst 0, 1) := by decide +kernel
theorem dX12_number_8 : decode cX12_number 8 = .ok (.ireturn, 1) := by decide +kernel
theorem w_6_237 : (Cond.methodLink RX12 232 yX12_isDigit) ∈ wsL_law := sk_mem (ck_6 _ (List.mem_of_getElem? (i := 237) rfl)) rfl
theorem w_6_238 : (Cond.static yX12_isDigit) ∈ wsL_law := sk_mem (ck_6 _ (List.mem_of_getElem? (i := 238) rfl)) rfl
theorem w_5_165 : (Cond.fieldLink RX12 235 "SameKeeperModel" "numberPlace" "I") ∈ wsL_law := sk_mem (ck_5 _ (List.mem_of_getElem? (i := 165) rfl)) rfl
theorem w_6_236 : (Cond.code yX12_number cX12_number 5 (some .int)) ∈ wsL_law := sk_mem (ck_6 _ (List.mem_of_getElem? (i := 236) rfl)) rfl
theorem dX12_isAllowed_0 : decode cX12_isAllowed 0 = .ok (.aload_n 0, 1) := by decide +kernel
theorem dX12_isAllowed_1 : decode cX12_isAllowed 1 = .ok (.getfield 242, 3) := by decide +kernel
theorem dX12_isAllowed_4 : decode cX12_isAllowed 4 = .ok (.ifCond .ne 16, 3) := by decide +kernel
theorem dX12_isAllowed_20 : decode cX12_isAllowed 20 = .ok (.aload_n 0, 1) := by decide +kernel
theorem dX12_isAllowed_21 : decode cX12_isAllowed 21 = .ok (.getfield 242, 3) := by decide +kernel
theorem dX12_isAllowed_24 : decode cX12_isAllowed 24 = .ok (.iconst 1, 1) := by decide +kernel
theorem dX12_isAllowed_25 : decode cX12_isAllowed 25 = .ok (.if_icmp .ne 17, 3) := by decide +kernel
theorem dX12_isAllowed_42 : decode cX12_isAllowed 42 = .ok (.iload_n 1, 1) := by decide +kernel
theorem dX12_isAllowed_43 : decode cX12_isAllowed 43 = .ok (.iconst 1, 1) := by decide +kernel
theorem dX12_isAllowed_44 : decode cX12_isAllowed 44 = .ok (.if_icmp .eq 19, 3) := by decide +kernel
theorem dX12_isAllowed_63 : decode cX12_isAllowed 63 = .ok (.iconst 1, 1) := by decide +kernel
theorem dX12_isAllowed_64 : decode cX12_isAllowed 64 = .ok (.goto 4, 3) := by decide +kernel
theorem dX12_isAllowed_68 : decode cX12_isAllowed 68 = .ok (.ireturn, 1) := by decide +kernel
theorem dX12_isAllowed_47 : decode cX12_isAllowed 47 = .ok (.iload_n 1, 1) := by decide +kernel
theorem dX12_isAllowed_48 : decode cX12_isAllowed 48 = .ok (.iconst 2, 1) := by decide +kernel
theorem dX12_isAllowed_49 : decode cX12_isAllowed 49 = .ok (.if_icmp .eq 14, 3) := by decide +kernel
theorem dX12_isAllowed_52 : decode cX12_isAllowed 52 = .ok (.iload_n 1, 1) := by decide +kernel
theorem dX12_isAllowed_53 : decode cX12_isAllowed 53 = .ok (.iconst 4, 1) := by decide +kernel
theorem dX12_isAllowed_54 : decode cX12_isAllowed 54 = .ok (.if_icmp .eq 9, 3) := by decide +kernel
theorem dX12_isAllowed_57 : decode cX12_isAllowed 57 = .ok (.iload_n 1, 1) := by decide +kernel
theorem dX12_isAllowed_58 : decode cX12_isAllowed 58 = .ok (.bipush 6, 2) := by decide +kernel
theorem dX12_isAllowed_60 : decode cX12_isAllowed 60 = .ok (.if_icmp .le 7, 3) := by decide +kernel
theorem dX12_isAllowed_67 : decode cX12_isAllowed 67 = .ok (.iconst 0, 1) := by decide +kernel
theorem dX12_isAllowed_28 : decode cX12_isAllowed 28 = .ok (.iload_n 1, 1) := by decide +kernel
theorem dX12_isAllowed_29 : decode cX12_isAllowed 29 = .ok (.bipush 7, 2) := by decide +kernel
theorem dX12_isAllowed_31 : decode cX12_isAllowed 31 = .ok (.if_icmp .ge 7, 3) := by decide +kernel
theorem dX12_isAllowed_38 : decode cX12_isAllowed 38 = .ok (.iconst 0, 1) := by decide +kernel
theorem dX12_isAllowed_39 : decode cX12_isAllowed 39 = .ok (.goto 29, 3) := by decide +kernel
theorem dX12_isAllowed_34 : decode cX12_isAllowed 34 = .ok (.iconst 1, 1) := by decide +kernel
theorem dX12_isAllowed_35 : decode cX12_isAllowed 35 = .ok (.goto 33, 3) := by decide +kernel
theorem dX12_isAllowed_7 : decode cX12_isAllowed 7 = .ok (.iload_n 1, 1) := by decide +kernel
theorem dX12_isAllowed_8 : decode cX12_isAllowed 8 = .ok (.iconst 5, 1) := by decide +kernel
theorem dX12_isAllowed_9 : decode cX12_isAllowed 9 = .ok (.if_icmp .ge 7, 3) := by decide +kernel
theorem dX12_isAllowed_16 : decode cX12_isAllowed 16 = .ok (.iconst 0, 1) := by decide +kernel
theorem dX12_isAllowed_17 : decode cX12_isAllowed 17 = .ok (.goto 51, 3) := by decide +kernel
theorem dX12_isAllowed_12 : decode cX12_isAllowed 12 = .ok (.iconst 1, 1) := by decide +kernel
theorem dX12_isAllowed_13 : decode cX12_isAllowed 13 = .ok (.goto 55, 3) := by decide +kernel
theorem w_7_46 : (Cond.code yX12_isAllowed cX12_isAllowed 2 (some .boolean)) ∈ wsL_law := sk_mem (ck_7 _ (List.mem_of_getElem? (i := 46) rfl)) rfl
theorem dX12_qWordHere_0 : decode cX12_qWordHere 0 = .ok (.aload_n 0, 1) := by decide +kernel
theorem dX12_qWordHere_1 : decode cX12_qWordHere 1 = .ok (.aload_n 0, 1) := by decide +kernel
theorem dX12_qWordHere_2 : decode cX12_qWordHere 2 = .ok (.getfield 150, 3) := by decide +kernel
theorem dX12_qWordHere_5 : decode cX12_qWordHere 5 = .ok (.invokevirtual 218, 3) := by decide +kernel
theorem dX12_qWordHere_8 : decode cX12_qWordHere 8 = .ok (.ifCond .eq 5, 3) := by decide +kernel
theorem dX12_qWordHere_13 : decode cX12_qWordHere 13 = .ok (.aload_n 0, 1) := by decide +kernel
theorem dX12_qWordHere_14 : decode cX12_qWordHere 14 = .ok (.aload_n 0, 1) := by decide +kernel
theorem dX12_qWordHere_15 : decode cX12_qWordHere 15 = .ok (.getfield 153, 3) := by decide +kernel
theorem dX12_qWordHere_18 : decode cX12_qWordHere 18 = .ok (.invokevirtual 218, 3) := by decide +kernel
theorem dX12_qWordHere_21 : decode cX12_qWordHere 21 = .ok (.ifCond .eq 5, 3) := by decide +kernel
theorem dX12_qWordHere_26 : decode cX12_qWordHere 26 = .ok (.aload_n 0, 1) := by decide +kernel
theorem dX12_qWordHere_27 : decode cX12_qWordHere 27 = .ok (.aload_n 0, 1) := by decide +kernel
theorem dX12_qWordHere_28 : decode cX12_qWordHere 28 = .ok (.getfield 156, 3) := by decide +kernel
theorem dX12_qWordHere_31 : decode cX12_qWordHere 31 = .ok (.invokevirtual 218, 3) := by decide +kernel
theorem dX12_qWordHere_34 : decode cX12_qWordHere 34 = .ok (.ifCond .eq 5, 3) := by decide +kernel
theorem dX12_qWordHere_39 : decode cX12_qWordHere 39 = .ok (.aload_n 0, 1) := by decide +kernel
theorem dX12_qWordHere_40 : decode cX12_qWordHere 40 = .ok (.aload_n 0, 1) := by decide +kernel
theorem dX12_qWordHere_41 : decode cX12_qWordHere 41 = .ok (.getfield 159, 3) := by decide +kernel
theorem dX12_qWordHere_44 : decode cX12_qWordHere 44 = .ok (.invokevirtual 218, 3) := by decide +kernel
theorem dX12_qWordHere_47 : decode cX12_qWordHere 47 = .ok (.ifCond .eq 5, 3) := by decide +kernel
theorem dX12_qWordHere_52 : decode cX12_qWordHere 52 = .ok (.aload_n 0, 1) := by decide +kernel
theorem dX12_qWordHere_53 : decode cX12_qWordHere 53 = .ok (.aload_n 0, 1) := by decide +kernel
theorem dX12_qWordHere_54 : decode cX12_qWordHere 54 = .ok (.getfield 162, 3) := by decide +kernel
theorem dX12_qWordHere_57 : decode cX12_qWordHere 57 = .ok (.invokevirtual 218, 3) := by decide +kernel
theorem dX12_qWordHere_60 : decode cX12_qWordHere 60 = .ok (.ifCond .eq 5, 3) := by decide +kernel
theorem dX12_qWordHere_65 : decode cX12_qWordHere 65 = .ok (.aload_n 0, 1) := by decide +kernel
theorem dX12_qWordHere_66 : decode cX12_qWordHere 66 = .ok (.aload_n 0, 1) := by decide +kernel
theorem dX12_qWordHere_67 : decode cX12_qWordHere 67 = .ok (.getfield 165, 3) := by decide +kernel
theorem dX12_qWordHere_70 : decode cX12_qWordHere 70 = .ok (.invokevirtual 218, 3) := by decide +kernel
theorem dX12_qWordHere_73 : decode cX12_qWordHere 73 = .ok (.ifCond .eq 5, 3) := by decide +kernel
theorem dX12_qWordHere_78 : decode cX12_qWordHere 78 = .ok (.aload_n 0, 1) := by decide +kernel
theorem dX12_qWordHere_79 : decode cX12_qWordHere 79 = .ok (.aload_n 0, 1) := by decide +kernel
theorem dX12_qWordHere_80 : decode cX12_qWordHere 80 = .ok (.getfield 168, 3) := by decide +kernel
theorem dX12_qWordHere_83 : decode cX12_qWordHere 83 = .ok (.invokevirtual 218, 3) := by decide +kernel
theorem dX12_qWordHere_86 : decode cX12_qWordHere 86 = .ok (.ifCond .eq 6, 3) := by decide +kernel
theorem dX12_qWordHere_92 : decode cX12_qWordHere 92 = .ok (.aload_n 0, 1) := by decide +kernel
theorem dX12_qWordHere_93 : decode cX12_qWordHere 93 = .ok (.aload_n 0, 1) := by decide +kernel
theorem dX12_qWordHere_94 : decode cX12_qWordHere 94 = .ok (.getfield 171, 3) := by decide +kernel
theorem dX12_qWordHere_97 : decode cX12_qWordHere 97 = .ok (.invokevirtual 218, 3) := by decide +kernel
theorem dX12_qWordHere_100 : decode cX12_qWordHere 100 = .ok (.ifCond .eq 6, 3) := by decide +kernel
theorem dX12_qWordHere_106 : decode cX12_qWordHere 106 = .ok (.aload_n 0, 1) := by decide +kernel
theorem dX12_qWordHere_107 : decode cX12_qWordHere 107 = .ok (.aload_n 0, 1) := by decide +kernel
theorem dX12_qWordHere_108 : decode cX12_qWordHere 108 = .ok (.getfield 174, 3) := by decide +kernel
theorem dX12_qWordHere_111 : decode cX12_qWordHere 111 = .ok (.invokevirtual 218, 3) := by decide +kernel
theorem dX12_qWordHere_114 : decode cX12_qWordHere 114 = .ok (.ifCond .eq 6, 3) := by decide +kernel
theorem dX12_qWordHere_120 : decode cX12_qWordHere 120 = .ok (.aload_n 0, 1) := by decide +kernel
theorem dX12_qWordHere_121 : decode cX12_qWordHere 121 = .ok (.aload_n 0, 1) := by decide +kernel
theorem dX12_qWordHere_122 : decode cX12_qWordHere 122 = .ok (.getfield 114, 3) := by decide +kernel
theorem dX12_qWordHere_125 : decode cX12_qWordHere 125 = .ok (.invokevirtual 218, 3) := by decide +kernel
theorem dX12_qWordHere_128 : decode cX12_qWordHere 128 = .ok (.ifCond .eq 6, 3) := by decide +kernel
theorem dX12_qWordHere_134 : decode cX12_qWordHere 134 = .ok (.aload_n 0, 1) := by decide +kernel
theorem dX12_qWordHere_135 : decode cX12_qWordHere 135 = .ok (.aload_n 0, 1) := by decide +kernel
theorem dX12_qWordHere_136 : decode cX12_qWordHere 136 = .ok (.getfield 177, 3) := by decide +kernel
theorem dX12_qWordHere_139 : decode cX12_qWordHere 139 = .ok (.invokevirtual 218, 3) := by decide +kernel
theorem dX12_qWordHere_142 : decode cX12_qWordHere 142 = .ok (.ifCond .eq 6, 3) := by decide +kernel
theorem dX12_qWordHere_148 : decode cX12_qWordHere 148 = .ok (.iconst (-1), 1) := by decide +kernel
theorem dX12_qWordHere_149 : decode cX12_qWordHere 149 = .ok (.ireturn, 1) := by decide +kernel
theorem dX12_qWordHere_145 : decode cX12_qWordHere 145 = .ok (.bipush 10, 2) := by decide +kernel
theorem dX12_qWordHere_147 : decode cX12_qWordHere 147 = .ok (.ireturn, 1) := by decide +kernel
theorem dX12_qWordHere_131 : decode cX12_qWordHere 131 = .ok (.bipush 9, 2) := by decide +kernel
theorem dX12_qWordHere_133 : decode cX12_qWordHere 133 = .ok (.ireturn, 1) := by decide +kernel
theorem dX12_qWordHere_117 : decode cX12_qWordHere 117 = .ok (.bipush 8, 2) := by decide +kernel
theorem dX12_qWordHere_119 : decode cX12_qWordHere 119 = .ok (.ireturn, 1) := by decide +kernel
theorem dX12_qWordHere_103 : decode cX12_qWordHere 103 = .ok (.bipush 7, 2) := by decide +kernel
theorem dX12_qWordHere_105 : decode cX12_qWordHere 105 = .ok (.ireturn, 1) := by decide +kernel
theorem dX12_qWordHere_89 : decode cX12_qWordHere 89 = .ok (.bipush 6, 2) := by decide +kernel
theorem dX12_qWordHere_91 : decode cX12_qWordHere 91 = .ok (.ireturn, 1) := by decide +kernel
theorem dX12_qWordHere_76 : decode cX12_qWordHere 76 = .ok (.iconst 5, 1) := by decide +kernel
theorem dX12_qWordHere_77 : decode cX12_qWordHere 77 = .ok (.ireturn, 1) := by decide +kernel
theorem dX12_qWordHere_63 : decode cX12_qWordHere 63 = .ok (.iconst 4, 1) := by decide +kernel
theorem dX12_qWordHere_64 : decode cX12_qWordHere 64 = .ok (.ireturn, 1) := by decide +kernel
theorem dX12_qWordHere_50 : decode cX12_qWordHere 50 = .ok (.iconst 3, 1) := by decide +kernel
theorem dX12_qWordHere_51 : decode cX12_qWordHere 51 = .ok (.ireturn, 1) := by decide +kernel
theorem dX12_qWordHere_37 : decode cX12_qWordHere 37 = .ok (.iconst 2, 1) := by decide +kernel
theorem dX12_qWordHere_38 : decode cX12_qWordHere 38 = .ok (.ireturn, 1) := by decide +kernel
theorem dX12_qWordHere_24 : decode cX12_qWordHere 24 = .ok (.iconst 1, 1) := by decide +kernel
theorem dX12_qWordHere_25 : decode cX12_qWordHere 25 = .ok (.ireturn, 1) := by decide +kernel
theorem dX12_qWordHere_11 : decode cX12_qWordHere 11 = .ok (.iconst 0, 1) := by decide +kernel
theorem dX12_qWordHere_12 : decode cX12_qWordHere 12 = .ok (.ireturn, 1) := by decide +kernel
theorem w_5_225 : (Cond.fieldLink RX12 150 "SameKeeperModel" "moodAsked" "[C") ∈ wsL_law := sk_mem (ck_5 _ (List.mem_of_getElem? (i := 225) rfl)) rfl
theorem w_5_226 : (Cond.fieldLink RX12 153 "SameKeeperModel" "bargeAsked" "[C") ∈ wsL_law := sk_mem (ck_5 _ (List.mem_of_getElem? (i := 226) rfl)) rfl
theorem w_5_227 : (Cond.fieldLink RX12 156 "SameKeeperModel" "wetAsked" "[C") ∈ wsL_law := sk_mem (ck_5 _ (List.mem_of_getElem? (i := 227) rfl)) rfl
theorem w_5_228 : (Cond.fieldLink RX12 159 "SameKeeperModel" "dayAsked" "[C") ∈ wsL_law := sk_mem (ck_5 _ (List.mem_of_getElem? (i := 228) rfl)) rfl
theorem w_5_229 : (Cond.fieldLink RX12 162 "SameKeeperModel" "weekAsked" "[C") ∈ wsL_law := sk_mem (ck_5 _ (List.mem_of_getElem? (i := 229) rfl)) rfl
theorem w_5_230 : (Cond.fieldLink RX12 165 "SameKeeperModel" "toldAsked" "[C") ∈ wsL_law := sk_mem (ck_5 _ (List.mem_of_getElem? (i := 230) rfl)) rfl
theorem w_5_231 : (Cond.fieldLink RX12 168 "SameKeeperModel" "aloneAsked" "[C") ∈ wsL_law := sk_mem (ck_5 _ (List.mem_of_getElem? (i := 231) rfl)) rfl
theorem w_5_232 : (Cond.fieldLink RX12 171 "SameKeeperModel" "numberAsked" "[C") ∈ wsL_law := sk_mem (ck_5 _ (List.mem_of_getElem? (i := 232) rfl)) rfl
theorem w_5_233 : (Cond.fieldLink RX12 174 "SameKeeperModel" "muteAsked" "[C") ∈ wsL_law := sk_mem (ck_5 _ (List.mem_of_getElem? (i := 233) rfl)) rfl
theorem w_5_213 : (Cond.fieldLink RX12 114 "SameKeeperModel" "firstAsked" "[C") ∈ wsL_law := sk_mem (ck_5 _ (List.mem_of_getElem? (i := 213) rfl)) rfl
theorem w_5_234 : (Cond.fieldLink RX12 177 "SameKeeperModel" "weeksAsked" "[C") ∈ wsL_law := sk_mem (ck_5 _ (List.mem_of_getElem? (i := 234) rfl)) rfl
theorem w_7_42 : (Cond.code yX12_qWordHere cX12_qWordHere 1 (some .int)) ∈ wsL_law := sk_mem (ck_7 _ (List.mem_of_getElem? (i := 42) rfl)) rfl
theorem dX12_qWordOf_0 : decode cX12_qWordOf 0 = .ok (.aload_n 0, 1) := by decide +kernel
theorem dX12_qWordOf_1 : decode cX12_qWordOf 1 = .ok (.invokevirtual 507, 3) := by decide +kernel
theorem dX12_qWordOf_4 : decode cX12_qWordOf 4 = .ok (.istore_n 3, 1) := by decide +kernel
theorem dX12_qWordOf_5 : decode cX12_qWordOf 5 = .ok (.iload_n 3, 1) := by decide +kernel
theorem dX12_qWordOf_6 : decode cX12_qWordOf 6 = .ok (.iload_n 1, 1) := by decide +kernel
theorem dX12_qWordOf_7 : decode cX12_qWordOf 7 = .ok (.if_icmp .lt 20, 3) := by decide +kernel
theorem dX12_qWordOf_27 : decode cX12_qWordOf 27 = .ok (.iconst (-1), 1) := by decide +kernel
theorem dX12_qWordOf_28 : decode cX12_qWordOf 28 = .ok (.ireturn, 1) := by decide +kernel
theorem dX12_qWordOf_10 : decode cX12_qWordOf 10 = .ok (.iload_n 3, 1) := by decide +kernel
theorem dX12_qWordOf_11 : decode cX12_qWordOf 11 = .ok (.iload_n 2, 1) := by decide +kernel
theorem dX12_qWordOf_12 : decode cX12_qWordOf 12 = .ok (.if_icmp .ge 15, 3) := by decide +kernel
theorem dX12_qWordOf_15 : decode cX12_qWordOf 15 = .ok (.aload_n 0, 1) := by decide +kernel
theorem dX12_qWordOf_16 : decode cX12_qWordOf 16 = .ok (.iload_n 3, 1) := by decide +kernel
theorem dX12_qWordOf_17 : decode cX12_qWordOf 17 = .ok (.invokevirtual 510, 3) := by decide +kernel
theorem dX12_qWordOf_20 : decode cX12_qWordOf 20 = .ok (.ifCond .eq 7, 3) := by decide +kernel
theorem dX12_qWordOf_23 : decode cX12_qWordOf 23 = .ok (.iload_n 3, 1) := by decide +kernel
theorem dX12_qWordOf_24 : decode cX12_qWordOf 24 = .ok (.goto 4, 3) := by decide +kernel
theorem w_7_39 : (Cond.methodLink RX12 507 yX12_qWordHere) ∈ wsL_law := sk_mem (ck_7 _ (List.mem_of_getElem? (i := 39) rfl)) rfl
theorem w_7_41 : (Cond.instanceMethod yX12_qWordHere) ∈ wsL_law := sk_mem (ck_7 _ (List.mem_of_getElem? (i := 41) rfl)) rfl
theorem w_0_57 : (Cond.selects RX12 yX12_qWordHere yX12_qWordHere) ∈ wsL_law := sk_mem (ck_0 _ (List.mem_of_getElem? (i := 57) rfl)) rfl
theorem w_7_43 : (Cond.methodLink RX12 510 yX12_isAllowed) ∈ wsL_law := sk_mem (ck_7 _ (List.mem_of_getElem? (i := 43) rfl)) rfl
theorem w_7_45 : (Cond.instanceMethod yX12_isAllowed) ∈ wsL_law := sk_mem (ck_7 _ (List.mem_of_getElem? (i := 45) rfl)) rfl
theorem w_0_58 : (Cond.selects RX12 yX12_isAllowed yX12_isAllowed) ∈ wsL_law := sk_mem (ck_0 _ (List.mem_of_getElem? (i := 58) rfl)) rfl
theorem w_7_38 : (Cond.code yX12_qWordOf cX12_qWordOf 4 (some .int)) ∈ wsL_law := sk_mem (ck_7 _ (List.mem_of_getElem? (i := 38) rfl)) rfl
theorem dX12_qAsksWord_0 : decode cX12_qAsksWord 0 = .ok (.iload_n 1, 1) := by decide +kernel
theorem dX12_qAsksWord_1 : decode cX12_qAsksWord 1 = .ok (.tableswitch 165 0 9 #[55, 66, 77, 88, 99, 110, 121, 132, 143, 154], 55) := by decide +kernel
theorem dX12_qAsksWord_56 : decode cX12_qAsksWord 56 = .ok (.aload_n 0, 1) := by decide +kernel
theorem dX12_qAsksWord_57 : decode cX12_qAsksWord 57 = .ok (.aload_n 0, 1) := by decide +kernel
theorem dX12_qAsksWord_58 : decode cX12_qAsksWord 58 = .ok (.getfield 150, 3) := by decide +kernel
theorem dX12_qAsksWord_61 : decode cX12_qAsksWord 61 = .ok (.invokevirtual 245, 3) := by decide +kernel
theorem dX12_qAsksWord_64 : decode cX12_qAsksWord 64 = .ok (.goto 110, 3) := by decide +kernel
theorem dX12_qAsksWord_174 : decode cX12_qAsksWord 174 = .ok (.return_, 1) := by decide +kernel
theorem dX12_qAsksWord_67 : decode cX12_qAsksWord 67 = .ok (.aload_n 0, 1) := by decide +kernel
theorem dX12_qAsksWord_68 : decode cX12_qAsksWord 68 = .ok (.aload_n 0, 1) := by decide +kernel
theorem dX12_qAsksWord_69 : decode cX12_qAsksWord 69 = .ok (.getfield 153, 3) := by decide +kernel
theorem dX12_qAsksWord_72 : decode cX12_qAsksWord 72 = .ok (.invokevirtual 245, 3) := by decide +kernel
theorem dX12_qAsksWord_75 : decode cX12_qAsksWord 75 = .ok (.goto 99, 3) := by decide +kernel
theorem dX12_qAsksWord_78 : decode cX12_qAsksWord 78 = .ok (.aload_n 0, 1) := by decide +kernel
theorem dX12_qAsksWord_79 : decode cX12_qAsksWord 79 = .ok (.aload_n 0, 1) := by decide +kernel
theorem dX12_qAsksWord_80 : decode cX12_qAsksWord 80 = .ok (.getfield 156, 3) := by decide +kernel
theorem dX12_qAsksWord_83 : decode cX12_qAsksWord 83 = .ok (.invokevirtual 245, 3) := by decide +kernel
theorem dX12_qAsksWord_86 : decode cX12_qAsksWord 86 = .ok (.goto 88, 3) := by decide +kernel
theorem dX12_qAsksWord_89 : decode cX12_qAsksWord 89 = .ok (.aload_n 0, 1) := by decide +kernel
theorem dX12_qAsksWord_90 : decode cX12_qAsksWord 90 = .ok (.aload_n 0, 1) := by decide +kernel
theorem dX12_qAsksWord_91 : decode cX12_qAsksWord 91 = .ok (.getfield 159, 3) := by decide +kernel
theorem dX12_qAsksWord_94 : decode cX12_qAsksWord 94 = .ok (.invokevirtual 245, 3) := by decide +kernel
theorem dX12_qAsksWord_97 : decode cX12_qAsksWord 97 = .ok (.goto 77, 3) := by decide +kernel
theorem dX12_qAsksWord_100 : decode cX12_qAsksWord 100 = .ok (.aload_n 0, 1) := by decide +kernel
theorem dX12_qAsksWord_101 : decode cX12_qAsksWord 101 = .ok (.aload_n 0, 1) := by decide +kernel
theorem dX12_qAsksWord_102 : decode cX12_qAsksWord 102 = .ok (.getfield 162, 3) := by decide +kernel
theorem dX12_qAsksWord_105 : decode cX12_qAsksWord 105 = .ok (.invokevirtual 245, 3) := by decide +kernel
theorem dX12_qAsksWord_108 : decode cX12_qAsksWord 108 = .ok (.goto 66, 3) := by decide +kernel
theorem dX12_qAsksWord_111 : decode cX12_qAsksWord 111 = .ok (.aload_n 0, 1) := by decide +kernel
theorem dX12_qAsksWord_112 : decode cX12_qAsksWord 112 = .ok (.aload_n 0, 1) := by decide +kernel
theorem dX12_qAsksWord_113 : decode cX12_qAsksWord 113 = .ok (.getfield 165, 3) := by decide +kernel
theorem dX12_qAsksWord_116 : decode cX12_qAsksWord 116 = .ok (.invokevirtual 245, 3) := by decide +kernel
theorem dX12_qAsksWord_119 : decode cX12_qAsksWord 119 = .ok (.goto 55, 3) := by decide +kernel
theorem dX12_qAsksWord_122 : decode cX12_qAsksWord 122 = .ok (.aload_n 0, 1) := by decide +kernel
theorem dX12_qAsksWord_123 : decode cX12_qAsksWord 123 = .ok (.aload_n 0, 1) := by decide +kernel
theorem dX12_qAsksWord_124 : decode cX12_qAsksWord 124 = .ok (.getfield 168, 3) := by decide +kernel
theorem dX12_qAsksWord_127 : decode cX12_qAsksWord 127 = .ok (.invokevirtual 245, 3) := by decide +kernel
theorem dX12_qAsksWord_130 : decode cX12_qAsksWord 130 = .ok (.goto 44, 3) := by decide +kernel
theorem dX12_qAsksWord_133 : decode cX12_qAsksWord 133 = .ok (.aload_n 0, 1) := by decide +kernel
theorem dX12_qAsksWord_134 : decode cX12_qAsksWord 134 = .ok (.aload_n 0, 1) := by decide +kernel
theorem dX12_qAsksWord_135 : decode cX12_qAsksWord 135 = .ok (.getfield 171, 3) := by decide +kernel
theorem dX12_qAsksWord_138 : decode cX12_qAsksWord 138 = .ok (.invokevirtual 245, 3) := by decide +kernel
theorem dX12_qAsksWord_141 : decode cX12_qAsksWord 141 = .ok (.goto 33, 3) := by decide +kernel
theorem dX12_qAsksWord_144 : decode cX12_qAsksWord 144 = .ok (.aload_n 0, 1) := by decide +kernel
theorem dX12_qAsksWord_145 : decode cX12_qAsksWord 145 = .ok (.aload_n 0, 1) := by decide +kernel
theorem dX12_qAsksWord_146 : decode cX12_qAsksWord 146 = .ok (.getfield 174, 3) := by decide +kernel
theorem dX12_qAsksWord_149 : decode cX12_qAsksWord 149 = .ok (.invokevirtual 245, 3) := by decide +kernel
theorem dX12_qAsksWord_152 : decode cX12_qAsksWord 152 = .ok (.goto 22, 3) := by decide +kernel
theorem dX12_qAsksWord_155 : decode cX12_qAsksWord 155 = .ok (.aload_n 0, 1) := by decide +kernel
theorem dX12_qAsksWord_156 : decode cX12_qAsksWord 156 = .ok (.aload_n 0, 1) := by decide +kernel
theorem dX12_qAsksWord_157 : decode cX12_qAsksWord 157 = .ok (.getfield 114, 3) := by decide +kernel
theorem dX12_qAsksWord_160 : decode cX12_qAsksWord 160 = .ok (.invokevirtual 245, 3) := by decide +kernel
theorem dX12_qAsksWord_163 : decode cX12_qAsksWord 163 = .ok (.goto 11, 3) := by decide +kernel
theorem dX12_qAsksWord_166 : decode cX12_qAsksWord 166 = .ok (.aload_n 0, 1) := by decide +kernel
theorem dX12_qAsksWord_167 : decode cX12_qAsksWord 167 = .ok (.aload_n 0, 1) := by decide +kernel
theorem dX12_qAsksWord_168 : decode cX12_qAsksWord 168 = .ok (.getfield 177, 3) := by decide +kernel
theorem dX12_qAsksWord_171 : decode cX12_qAsksWord 171 = .ok (.invokevirtual 245, 3) := by decide +kernel
theorem w_6_210 : (Cond.methodLink RX12 245 yX12_asks) ∈ wsL_law := sk_mem (ck_6 _ (List.mem_of_getElem? (i := 210) rfl)) rfl
theorem w_6_212 : (Cond.instanceMethod yX12_asks) ∈ wsL_law := sk_mem (ck_6 _ (List.mem_of_getElem? (i := 212) rfl)) rfl
theorem w_0_42 : (Cond.selects RX12 yX12_asks yX12_asks) ∈ wsL_law := sk_mem (ck_0 _ (List.mem_of_getElem? (i := 42) rfl)) rfl
theorem w_7_54 : (Cond.code yX12_qAsksWord cX12_qAsksWord 2 none) ∈ wsL_law := sk_mem (ck_7 _ (List.mem_of_getElem? (i := 54) rfl)) rfl
theorem dX12_qCode_0 : decode cX12_qCode 0 = .ok (.aload_n 0, 1) := by decide +kernel
theorem dX12_qCode_1 : decode cX12_qCode 1 = .ok (.getfield 180, 3) := by decide +kernel
theorem dX12_qCode_4 : decode cX12_qCode 4 = .ok (.aload_n 0, 1) := by decide +kernel
theorem dX12_qCode_5 : decode cX12_qCode 5 = .ok (.getfield 257, 3) := by decide +kernel
theorem dX12_qCode_8 : decode cX12_qCode 8 = .ok (.iload_n 1, 1) := by decide +kernel
theorem dX12_qCode_9 : decode cX12_qCode 9 = .ok (.iastore, 1) := by decide +kernel
theorem dX12_qCode_10 : decode cX12_qCode 10 = .ok (.aload_n 0, 1) := by decide +kernel
theorem dX12_qCode_11 : decode cX12_qCode 11 = .ok (.dup, 1) := by decide +kernel
theorem dX12_qCode_12 : decode cX12_qCode 12 = .ok (.getfield 257, 3) := by decide +kernel
theorem dX12_qCode_15 : decode cX12_qCode 15 = .ok (.iconst 1, 1) := by decide +kernel
theorem dX12_qCode_16 : decode cX12_qCode 16 = .ok (.iadd, 1) := by decide +kernel
theorem dX12_qCode_17 : decode cX12_qCode 17 = .ok (.putfield 257, 3) := by decide +kernel
theorem dX12_qCode_20 : decode cX12_qCode 20 = .ok (.return_, 1) := by decide +kernel
theorem w_5_235 : (Cond.fieldLink RX12 180 "SameKeeperModel" "qCodes" "[I") ∈ wsL_law := sk_mem (ck_5 _ (List.mem_of_getElem? (i := 235) rfl)) rfl
theorem w_5_236 : (Cond.fieldLink RX12 257 "SameKeeperModel" "qCoded" "I") ∈ wsL_law := sk_mem (ck_5 _ (List.mem_of_getElem? (i := 236) rfl)) rfl
theorem w_7_58 : (Cond.code yX12_qCode cX12_qCode 2 none) ∈ wsL_law := sk_mem (ck_7 _ (List.mem_of_getElem? (i := 58) rfl)) rfl
theorem dX12_qOpens_0 : decode cX12_qOpens 0 = .ok (.aload_n 0, 1) := by decide +kernel
theorem dX12_qOpens_1 : decode cX12_qOpens 1 = .ok (.getfield 195, 3) := by decide +kernel
theorem dX12_qOpens_4 : decode cX12_qOpens 4 = .ok (.ifCond .eq 4, 3) := by decide +kernel
theorem dX12_qOpens_8 : decode cX12_qOpens 8 = .ok (.aload_n 0, 1) := by decide +kernel
theorem dX12_qOpens_9 : decode cX12_qOpens 9 = .ok (.getfield 263, 3) := by decide +kernel
theorem dX12_qOpens_12 : decode cX12_qOpens 12 = .ok (.bipush 6, 2) := by decide +kernel
theorem dX12_qOpens_14 : decode cX12_qOpens 14 = .ok (.if_icmp .ne 10, 3) := by decide +kernel
theorem dX12_qOpens_24 : decode cX12_qOpens 24 = .ok (.aload_n 0, 1) := by decide +kernel
theorem dX12_qOpens_25 : decode cX12_qOpens 25 = .ok (.dup, 1) := by decide +kernel
theorem dX12_qOpens_26 : decode cX12_qOpens 26 = .ok (.getfield 263, 3) := by decide +kernel
theorem dX12_qOpens_29 : decode cX12_qOpens 29 = .ok (.iconst 1, 1) := by decide +kernel
theorem dX12_qOpens_30 : decode cX12_qOpens 30 = .ok (.iadd, 1) := by decide +kernel
theorem dX12_qOpens_31 : decode cX12_qOpens 31 = .ok (.putfield 263, 3) := by decide +kernel
theorem dX12_qOpens_34 : decode cX12_qOpens 34 = .ok (.aload_n 0, 1) := by decide +kernel
theorem dX12_qOpens_35 : decode cX12_qOpens 35 = .ok (.getfield 183, 3) := by decide +kernel
theorem dX12_qOpens_38 : decode cX12_qOpens 38 = .ok (.aload_n 0, 1) := by decide +kernel
theorem dX12_qOpens_39 : decode cX12_qOpens 39 = .ok (.getfield 260, 3) := by decide +kernel
theorem dX12_qOpens_42 : decode cX12_qOpens 42 = .ok (.iload_n 1, 1) := by decide +kernel
theorem dX12_qOpens_43 : decode cX12_qOpens 43 = .ok (.iastore, 1) := by decide +kernel
theorem dX12_qOpens_44 : decode cX12_qOpens 44 = .ok (.aload_n 0, 1) := by decide +kernel
theorem dX12_qOpens_45 : decode cX12_qOpens 45 = .ok (.dup, 1) := by decide +kernel
theorem dX12_qOpens_46 : decode cX12_qOpens 46 = .ok (.getfield 260, 3) := by decide +kernel
theorem dX12_qOpens_49 : decode cX12_qOpens 49 = .ok (.iconst 1, 1) := by decide +kernel
theorem dX12_qOpens_50 : decode cX12_qOpens 50 = .ok (.iadd, 1) := by decide +kernel
theorem dX12_qOpens_51 : decode cX12_qOpens 51 = .ok (.putfield 260, 3) := by decide +kernel
theorem dX12_qOpens_54 : decode cX12_qOpens 54 = .ok (.return_, 1) := by decide +kernel
theorem dX12_qOpens_17 : decode cX12_qOpens 17 = .ok (.aload_n 0, 1) := by decide +kernel
theorem dX12_qOpens_18 : decode cX12_qOpens 18 = .ok (.iconst 4, 1) := by decide +kernel
theorem dX12_qOpens_19 : decode cX12_qOpens 19 = .ok (.iload_n 2, 1) := by decide +kernel
theorem dX12_qOpens_20 : decode cX12_qOpens 20 = .ok (.invokevirtual 225, 3) := by decide +kernel
theorem dX12_qOpens_23 : decode cX12_qOpens 23 = .ok (.return_, 1) := by decide +kernel
theorem dX12_qOpens_7 : decode cX12_qOpens 7 = .ok (.return_, 1) := by decide +kernel
theorem w_5_239 : (Cond.fieldLink RX12 263 "SameKeeperModel" "qOpened" "I") ∈ wsL_law := sk_mem (ck_5 _ (List.mem_of_getElem? (i := 239) rfl)) rfl
theorem w_5_237 : (Cond.fieldLink RX12 183 "SameKeeperModel" "qWait" "[I") ∈ wsL_law := sk_mem (ck_5 _ (List.mem_of_getElem? (i := 237) rfl)) rfl
theorem w_5_238 : (Cond.fieldLink RX12 260 "SameKeeperModel" "qWaits" "I") ∈ wsL_law := sk_mem (ck_5 _ (List.mem_of_getElem? (i := 238) rfl)) rfl
theorem w_7_50 : (Cond.code yX12_qOpens cX12_qOpens 3 none) ∈ wsL_law := sk_mem (ck_7 _ (List.mem_of_getElem? (i := 50) rfl)) rfl
theorem dX12_qIsOn_0 : decode cX12_qIsOn 0 = .ok (.aload_n 0, 1) := by decide +kernel
theorem dX12_qIsOn_1 : decode cX12_qIsOn 1 = .ok (.getfield 260, 3) := by decide +kernel
theorem dX12_qIsOn_4 : decode cX12_qIsOn 4 = .ok (.ifCond .le 22, 3) := by decide +kernel
theorem dX12_qIsOn_26 : decode cX12_qIsOn 26 = .ok (.iconst 0, 1) := by decide +kernel
theorem dX12_qIsOn_27 : decode cX12_qIsOn 27 = .ok (.ireturn, 1) := by decide +kernel
theorem dX12_qIsOn_7 : decode cX12_qIsOn 7 = .ok (.aload_n 0, 1) := by decide +kernel
theorem dX12_qIsOn_8 : decode cX12_qIsOn 8 = .ok (.getfield 183, 3) := by decide +kernel
theorem dX12_qIsOn_11 : decode cX12_qIsOn 11 = .ok (.aload_n 0, 1) := by decide +kernel
theorem dX12_qIsOn_12 : decode cX12_qIsOn 12 = .ok (.getfield 260, 3) := by decide +kernel
theorem dX12_qIsOn_15 : decode cX12_qIsOn 15 = .ok (.iconst 1, 1) := by decide +kernel
theorem dX12_qIsOn_16 : decode cX12_qIsOn 16 = .ok (.isub, 1) := by decide +kernel
theorem dX12_qIsOn_17 : decode cX12_qIsOn 17 = .ok (.iaload, 1) := by decide +kernel
theorem dX12_qIsOn_18 : decode cX12_qIsOn 18 = .ok (.iload_n 1, 1) := by decide +kernel
theorem dX12_qIsOn_19 : decode cX12_qIsOn 19 = .ok (.if_icmp .ne 7, 3) := by decide +kernel
theorem dX12_qIsOn_22 : decode cX12_qIsOn 22 = .ok (.iconst 1, 1) := by decide +kernel
theorem dX12_qIsOn_23 : decode cX12_qIsOn 23 = .ok (.goto 4, 3) := by decide +kernel
theorem w_7_85 : (Cond.code yX12_qIsOn cX12_qIsOn 2 (some .boolean)) ∈ wsL_law := sk_mem (ck_7 _ (List.mem_of_getElem? (i := 85) rfl)) rfl
theorem dX12_qDrops_0 : decode cX12_qDrops 0 = .ok (.aload_n 0, 1) := by decide +kernel
theorem dX12_qDrops_1 : decode cX12_qDrops 1 = .ok (.dup, 1) := by decide +kernel
theorem dX12_qDrops_2 : decode cX12_qDrops 2 = .ok (.getfield 260, 3) := by decide +kernel
theorem dX12_qDrops_5 : decode cX12_qDrops 5 = .ok (.iconst 1, 1) := by decide +kernel
theorem dX12_qDrops_6 : decode cX12_qDrops 6 = .ok (.isub, 1) := by decide +kernel
theorem dX12_qDrops_7 : decode cX12_qDrops 7 = .ok (.putfield 260, 3) := by decide +kernel
theorem dX12_qDrops_10 : decode cX12_qDrops 10 = .ok (.aload_n 0, 1) := by decide +kernel
theorem dX12_qDrops_11 : decode cX12_qDrops 11 = .ok (.aload_n 0, 1) := by decide +kernel
theorem dX12_qDrops_12 : decode cX12_qDrops 12 = .ok (.getfield 183, 3) := by decide +kernel
theorem dX12_qDrops_15 : decode cX12_qDrops 15 = .ok (.aload_n 0, 1) := by decide +kernel
theorem dX12_qDrops_16 : decode cX12_qDrops 16 = .ok (.getfield 260, 3) := by decide +kernel
theorem dX12_qDrops_19 : decode cX12_qDrops 19 = .ok (.iaload, 1) := by decide +kernel
theorem dX12_qDrops_20 : decode cX12_qDrops 20 = .ok (.invokevirtual 498, 3) := by decide +kernel
theorem dX12_qDrops_23 : decode cX12_qDrops 23 = .ok (.return_, 1) := by decide +kernel
theorem w_7_55 : (Cond.methodLink RX12 498 yX12_qCode) ∈ wsL_law := sk_mem (ck_7 _ (List.mem_of_getElem? (i := 55) rfl)) rfl
theorem w_7_57 : (Cond.instanceMethod yX12_qCode) ∈ wsL_law := sk_mem (ck_7 _ (List.mem_of_getElem? (i := 57) rfl)) rfl
theorem w_0_61 : (Cond.selects RX12 yX12_qCode yX12_qCode) ∈ wsL_law := sk_mem (ck_0 _ (List.mem_of_getElem? (i := 61) rfl)) rfl
theorem w_7_66 : (Cond.code yX12_qDrops cX12_qDrops 1 none) ∈ wsL_law := sk_mem (ck_7 _ (List.mem_of_getElem? (i := 66) rfl)) rfl
theorem dX12_qIsBracket_0 : decode cX12_qIsBracket 0 = .ok (.iload_n 0, 1) := by decide +kernel
theorem dX12_qIsBracket_1 : decode cX12_qIsBracket 1 = .ok (.bipush 20, 2) := by decide +kernel
theorem dX12_qIsBracket_3 : decode cX12_qIsBracket 3 = .ok (.if_icmp .lt 13, 3) := by decide +kernel
theorem dX12_qIsBracket_16 : decode cX12_qIsBracket 16 = .ok (.iconst 0, 1) := by decide +kernel
theorem dX12_qIsBracket_17 : decode cX12_qIsBracket 17 = .ok (.ireturn, 1) := by decide +kernel
theorem dX12_qIsBracket_6 : decode cX12_qIsBracket 6 = .ok (.iload_n 0, 1) := by decide +kernel
theorem dX12_qIsBracket_7 : decode cX12_qIsBracket 7 = .ok (.bipush 24, 2) := by decide +kernel
theorem dX12_qIsBracket_9 : decode cX12_qIsBracket 9 = .ok (.if_icmp .gt 7, 3) := by decide +kernel
theorem dX12_qIsBracket_12 : decode cX12_qIsBracket 12 = .ok (.iconst 1, 1) := by decide +kernel
theorem dX12_qIsBracket_13 : decode cX12_qIsBracket 13 = .ok (.goto 4, 3) := by decide +kernel
theorem w_7_77 : (Cond.code yX12_qIsBracket cX12_qIsBracket 1 (some .boolean)) ∈ wsL_law := sk_mem (ck_7 _ (List.mem_of_getElem? (i := 77) rfl)) rfl
theorem dX12_qBracket_0 : decode cX12_qBracket 0 = .ok (.aload_n 0, 1) := by decide +kernel
theorem dX12_qBracket_1 : decode cX12_qBracket 1 = .ok (.getfield 260, 3) := by decide +kernel
theorem dX12_qBracket_4 : decode cX12_qBracket 4 = .ok (.iconst 1, 1) := by decide +kernel
theorem dX12_qBracket_5 : decode cX12_qBracket 5 = .ok (.isub, 1) := by decide +kernel
theorem dX12_qBracket_6 : decode cX12_qBracket 6 = .ok (.istore_n 1, 1) := by decide +kernel
theorem dX12_qBracket_7 : decode cX12_qBracket 7 = .ok (.iload_n 1, 1) := by decide +kernel
theorem dX12_qBracket_8 : decode cX12_qBracket 8 = .ok (.aload_n 0, 1) := by decide +kernel
theorem dX12_qBracket_9 : decode cX12_qBracket 9 = .ok (.getfield 266, 3) := by decide +kernel
theorem dX12_qBracket_12 : decode cX12_qBracket 12 = .ok (.if_icmp .lt 21, 3) := by decide +kernel
theorem dX12_qBracket_33 : decode cX12_qBracket 33 = .ok (.iload_n 1, 1) := by decide +kernel
theorem dX12_qBracket_34 : decode cX12_qBracket 34 = .ok (.aload_n 0, 1) := by decide +kernel
theorem dX12_qBracket_35 : decode cX12_qBracket 35 = .ok (.getfield 266, 3) := by decide +kernel
theorem dX12_qBracket_38 : decode cX12_qBracket 38 = .ok (.if_icmp .lt 12, 3) := by decide +kernel
theorem dX12_qBracket_50 : decode cX12_qBracket 50 = .ok (.iconst (-1), 1) := by decide +kernel
theorem dX12_qBracket_51 : decode cX12_qBracket 51 = .ok (.ireturn, 1) := by decide +kernel
theorem dX12_qBracket_15 : decode cX12_qBracket 15 = .ok (.aload_n 0, 1) := by decide +kernel
theorem dX12_qBracket_16 : decode cX12_qBracket 16 = .ok (.getfield 183, 3) := by decide +kernel
theorem dX12_qBracket_19 : decode cX12_qBracket 19 = .ok (.iload_n 1, 1) := by decide +kernel
theorem dX12_qBracket_20 : decode cX12_qBracket 20 = .ok (.iaload, 1) := by decide +kernel
theorem dX12_qBracket_21 : decode cX12_qBracket 21 = .ok (.invokestatic 501, 3) := by decide +kernel
theorem dX12_qBracket_24 : decode cX12_qBracket 24 = .ok (.ifCond .ne 9, 3) := by decide +kernel
theorem dX12_qBracket_41 : decode cX12_qBracket 41 = .ok (.aload_n 0, 1) := by decide +kernel
theorem dX12_qBracket_42 : decode cX12_qBracket 42 = .ok (.getfield 183, 3) := by decide +kernel
theorem dX12_qBracket_45 : decode cX12_qBracket 45 = .ok (.iload_n 1, 1) := by decide +kernel
theorem dX12_qBracket_46 : decode cX12_qBracket 46 = .ok (.iaload, 1) := by decide +kernel
theorem dX12_qBracket_47 : decode cX12_qBracket 47 = .ok (.goto 4, 3) := by decide +kernel
theorem dX12_qBracket_27 : decode cX12_qBracket 27 = .ok (.iinc 1 (-1), 3) := by decide +kernel
theorem dX12_qBracket_30 : decode cX12_qBracket 30 = .ok (.goto (-23), 3) := by decide +kernel
theorem w_6_0 : (Cond.fieldLink RX12 266 "SameKeeperModel" "qBase" "I") ∈ wsL_law := sk_mem (ck_6 _ (List.mem_of_getElem? (i := 0) rfl)) rfl
theorem w_7_75 : (Cond.methodLink RX12 501 yX12_qIsBracket) ∈ wsL_law := sk_mem (ck_7 _ (List.mem_of_getElem? (i := 75) rfl)) rfl
theorem w_7_76 : (Cond.static yX12_qIsBracket) ∈ wsL_law := sk_mem (ck_7 _ (List.mem_of_getElem? (i := 76) rfl)) rfl
theorem w_7_74 : (Cond.code yX12_qBracket cX12_qBracket 2 (some .int)) ∈ wsL_law := sk_mem (ck_7 _ (List.mem_of_getElem? (i := 74) rfl)) rfl
theorem dX12_qDropsToBracket_0 : decode cX12_qDropsToBracket 0 = .ok (.aload_n 0, 1) := by decide +kernel
theorem dX12_qDropsToBracket_1 : decode cX12_qDropsToBracket 1 = .ok (.getfield 260, 3) := by decide +kernel
theorem dX12_qDropsToBracket_4 : decode cX12_qDropsToBracket 4 = .ok (.aload_n 0, 1) := by decide +kernel
theorem dX12_qDropsToBracket_5 : decode cX12_qDropsToBracket 5 = .ok (.getfield 266, 3) := by decide +kernel
theorem dX12_qDropsToBracket_8 : decode cX12_qDropsToBracket 8 = .ok (.if_icmp .le 27, 3) := by decide +kernel
theorem dX12_qDropsToBracket_35 : decode cX12_qDropsToBracket 35 = .ok (.return_, 1) := by decide +kernel
theorem dX12_qDropsToBracket_11 : decode cX12_qDropsToBracket 11 = .ok (.aload_n 0, 1) := by decide +kernel
theorem dX12_qDropsToBracket_12 : decode cX12_qDropsToBracket 12 = .ok (.getfield 183, 3) := by decide +kernel
theorem dX12_qDropsToBracket_15 : decode cX12_qDropsToBracket 15 = .ok (.aload_n 0, 1) := by decide +kernel
theorem dX12_qDropsToBracket_16 : decode cX12_qDropsToBracket 16 = .ok (.getfield 260, 3) := by decide +kernel
theorem dX12_qDropsToBracket_19 : decode cX12_qDropsToBracket 19 = .ok (.iconst 1, 1) := by decide +kernel
theorem dX12_qDropsToBracket_20 : decode cX12_qDropsToBracket 20 = .ok (.isub, 1) := by decide +kernel
theorem dX12_qDropsToBracket_21 : decode cX12_qDropsToBracket 21 = .ok (.iaload, 1) := by decide +kernel
theorem dX12_qDropsToBracket_22 : decode cX12_qDropsToBracket 22 = .ok (.invokestatic 501, 3) := by decide +kernel
theorem dX12_qDropsToBracket_25 : decode cX12_qDropsToBracket 25 = .ok (.ifCond .ne 10, 3) := by decide +kernel
theorem dX12_qDropsToBracket_28 : decode cX12_qDropsToBracket 28 = .ok (.aload_n 0, 1) := by decide +kernel
theorem dX12_qDropsToBracket_29 : decode cX12_qDropsToBracket 29 = .ok (.invokevirtual 504, 3) := by decide +kernel
theorem dX12_qDropsToBracket_32 : decode cX12_qDropsToBracket 32 = .ok (.goto (-32), 3) := by decide +kernel
theorem w_7_63 : (Cond.methodLink RX12 504 yX12_qDrops) ∈ wsL_law := sk_mem (ck_7 _ (List.mem_of_getElem? (i := 63) rfl)) rfl
theorem w_7_65 : (Cond.instanceMethod yX12_qDrops) ∈ wsL_law := sk_mem (ck_7 _ (List.mem_of_getElem? (i := 65) rfl)) rfl
theorem w_0_63 : (Cond.selects RX12 yX12_qDrops yX12_qDrops) ∈ wsL_law := sk_mem (ck_0 _ (List.mem_of_getElem? (i := 63) rfl)) rfl
theorem w_7_81 : (Cond.code yX12_qDropsToBracket cX12_qDropsToBracket 1 none) ∈ wsL_law := sk_mem (ck_7 _ (List.mem_of_getElem? (i := 81) rfl)) rfl
theorem dX12_qEndsPart_0 : decode cX12_qEndsPart 0 = .ok (.aload_n 0, 1) := by decide +kernel
theorem dX12_qEndsPart_1 : decode cX12_qEndsPart 1 = .ok (.getfield 195, 3) := by decide +kernel
theorem dX12_qEndsPart_4 : decode cX12_qEndsPart 4 = .ok (.ifCond .ne 47, 3) := by decide +kernel
theorem dX12_qEndsPart_51 : decode cX12_qEndsPart 51 = .ok (.return_, 1) := by decide +kernel
theorem dX12_qEndsPart_7 : decode cX12_qEndsPart 7 = .ok (.aload_n 0, 1) := by decide +kernel
theorem dX12_qEndsPart_8 : decode cX12_qEndsPart 8 = .ok (.getfield 260, 3) := by decide +kernel
theorem dX12_qEndsPart_11 : decode cX12_qEndsPart 11 = .ok (.aload_n 0, 1) := by decide +kernel
theorem dX12_qEndsPart_12 : decode cX12_qEndsPart 12 = .ok (.getfield 266, 3) := by decide +kernel
theorem dX12_qEndsPart_15 : decode cX12_qEndsPart 15 = .ok (.if_icmp .le 36, 3) := by decide +kernel
theorem dX12_qEndsPart_18 : decode cX12_qEndsPart 18 = .ok (.aload_n 0, 1) := by decide +kernel
theorem dX12_qEndsPart_19 : decode cX12_qEndsPart 19 = .ok (.getfield 183, 3) := by decide +kernel
theorem dX12_qEndsPart_22 : decode cX12_qEndsPart 22 = .ok (.aload_n 0, 1) := by decide +kernel
theorem dX12_qEndsPart_23 : decode cX12_qEndsPart 23 = .ok (.getfield 260, 3) := by decide +kernel
theorem dX12_qEndsPart_26 : decode cX12_qEndsPart 26 = .ok (.iconst 1, 1) := by decide +kernel
theorem dX12_qEndsPart_27 : decode cX12_qEndsPart 27 = .ok (.isub, 1) := by decide +kernel
theorem dX12_qEndsPart_28 : decode cX12_qEndsPart 28 = .ok (.iaload, 1) := by decide +kernel
theorem dX12_qEndsPart_29 : decode cX12_qEndsPart 29 = .ok (.bipush 60, 2) := by decide +kernel
theorem dX12_qEndsPart_31 : decode cX12_qEndsPart 31 = .ok (.if_icmp .lt 20, 3) := by decide +kernel
theorem dX12_qEndsPart_34 : decode cX12_qEndsPart 34 = .ok (.aload_n 0, 1) := by decide +kernel
theorem dX12_qEndsPart_35 : decode cX12_qEndsPart 35 = .ok (.dup, 1) := by decide +kernel
theorem dX12_qEndsPart_36 : decode cX12_qEndsPart 36 = .ok (.getfield 263, 3) := by decide +kernel
theorem dX12_qEndsPart_39 : decode cX12_qEndsPart 39 = .ok (.iconst 1, 1) := by decide +kernel
theorem dX12_qEndsPart_40 : decode cX12_qEndsPart 40 = .ok (.isub, 1) := by decide +kernel
theorem dX12_qEndsPart_41 : decode cX12_qEndsPart 41 = .ok (.putfield 263, 3) := by decide +kernel
theorem dX12_qEndsPart_44 : decode cX12_qEndsPart 44 = .ok (.aload_n 0, 1) := by decide +kernel
theorem dX12_qEndsPart_45 : decode cX12_qEndsPart 45 = .ok (.invokevirtual 504, 3) := by decide +kernel
theorem dX12_qEndsPart_48 : decode cX12_qEndsPart 48 = .ok (.goto (-48), 3) := by decide +kernel
theorem w_7_62 : (Cond.code yX12_qEndsPart cX12_qEndsPart 1 none) ∈ wsL_law := sk_mem (ck_7 _ (List.mem_of_getElem? (i := 62) rfl)) rfl
theorem dX12_qPartTold_0 : decode cX12_qPartTold 0 = .ok (.iconst 1, 1) := by decide +kernel
theorem dX12_qPartTold_1 : decode cX12_qPartTold 1 = .ok (.istore_n 1, 1) := by decide +kernel
theorem dX12_qPartTold_2 : decode cX12_qPartTold 2 = .ok (.iload_n 1, 1) := by decide +kernel
theorem dX12_qPartTold_3 : decode cX12_qPartTold 3 = .ok (.ifCond .eq 183, 3) := by decide +kernel
theorem dX12_qPartTold_186 : decode cX12_qPartTold 186 = .ok (.aload_n 0, 1) := by decide +kernel
theorem dX12_qPartTold_187 : decode cX12_qPartTold 187 = .ok (.getfield 195, 3) := by decide +kernel
theorem dX12_qPartTold_190 : decode cX12_qPartTold 190 = .ok (.ifCond .eq 4, 3) := by decide +kernel
theorem dX12_qPartTold_194 : decode cX12_qPartTold 194 = .ok (.aload_n 0, 1) := by decide +kernel
theorem dX12_qPartTold_195 : decode cX12_qPartTold 195 = .ok (.iconst 0, 1) := by decide +kernel
theorem dX12_qPartTold_196 : decode cX12_qPartTold 196 = .ok (.bipush 10, 2) := by decide +kernel
theorem dX12_qPartTold_198 : decode cX12_qPartTold 198 = .ok (.invokevirtual 513, 3) := by decide +kernel
theorem dX12_qPartTold_201 : decode cX12_qPartTold 201 = .ok (.istore_n 2, 1) := by decide +kernel
theorem dX12_qPartTold_202 : decode cX12_qPartTold 202 = .ok (.iload_n 2, 1) := by decide +kernel
theorem dX12_qPartTold_203 : decode cX12_qPartTold 203 = .ok (.iconst (-1), 1) := by decide +kernel
theorem dX12_qPartTold_204 : decode cX12_qPartTold 204 = .ok (.if_icmp .eq 8, 3) := by decide +kernel
theorem dX12_qPartTold_212 : decode cX12_qPartTold 212 = .ok (.aload_n 0, 1) := by decide +kernel
theorem dX12_qPartTold_213 : decode cX12_qPartTold 213 = .ok (.iload_n 2, 1) := by decide +kernel
theorem dX12_qPartTold_214 : decode cX12_qPartTold 214 = .ok (.iconst (-1), 1) := by decide +kernel
theorem dX12_qPartTold_215 : decode cX12_qPartTold 215 = .ok (.if_icmp .eq 10, 3) := by decide +kernel
theorem dX12_qPartTold_225 : decode cX12_qPartTold 225 = .ok (.sipush 1000, 3) := by decide +kernel
theorem dX12_qPartTold_228 : decode cX12_qPartTold 228 = .ok (.aload_n 0, 1) := by decide +kernel
theorem dX12_qPartTold_229 : decode cX12_qPartTold 229 = .ok (.iconst 0, 1) := by decide +kernel
theorem dX12_qPartTold_230 : decode cX12_qPartTold 230 = .ok (.sipush 9999, 3) := by decide +kernel
theorem dX12_qPartTold_233 : decode cX12_qPartTold 233 = .ok (.invokevirtual 249, 3) := by decide +kernel
theorem dX12_qPartTold_236 : decode cX12_qPartTold 236 = .ok (.iadd, 1) := by decide +kernel
theorem dX12_qPartTold_237 : decode cX12_qPartTold 237 = .ok (.invokevirtual 498, 3) := by decide +kernel
theorem dX12_qPartTold_240 : decode cX12_qPartTold 240 = .ok (.aload_n 0, 1) := by decide +kernel
theorem dX12_qPartTold_241 : decode cX12_qPartTold 241 = .ok (.invokevirtual 522, 3) := by decide +kernel
theorem dX12_qPartTold_244 : decode cX12_qPartTold 244 = .ok (.return_, 1) := by decide +kernel
theorem dX12_qPartTold_207 : decode cX12_qPartTold 207 = .ok (.aload_n 0, 1) := by decide +kernel
theorem dX12_qPartTold_208 : decode cX12_qPartTold 208 = .ok (.iload_n 2, 1) := by decide +kernel
theorem dX12_qPartTold_209 : decode cX12_qPartTold 209 = .ok (.invokevirtual 519, 3) := by decide +kernel
theorem dX12_qPartTold_218 : decode cX12_qPartTold 218 = .ok (.bipush 40, 2) := by decide +kernel
theorem dX12_qPartTold_220 : decode cX12_qPartTold 220 = .ok (.iload_n 2, 1) := by decide +kernel
theorem dX12_qPartTold_221 : decode cX12_qPartTold 221 = .ok (.iadd, 1) := by decide +kernel
theorem dX12_qPartTold_222 : decode cX12_qPartTold 222 = .ok (.goto 15, 3) := by decide +kernel
theorem dX12_qPartTold_193 : decode cX12_qPartTold 193 = .ok (.return_, 1) := by decide +kernel
theorem dX12_qPartTold_6 : decode cX12_qPartTold 6 = .ok (.aload_n 0, 1) := by decide +kernel
theorem dX12_qPartTold_7 : decode cX12_qPartTold 7 = .ok (.getfield 195, 3) := by decide +kernel
theorem dX12_qPartTold_10 : decode cX12_qPartTold 10 = .ok (.ifCond .ne 176, 3) := by decide +kernel
theorem dX12_qPartTold_13 : decode cX12_qPartTold 13 = .ok (.aload_n 0, 1) := by decide +kernel
theorem dX12_qPartTold_14 : decode cX12_qPartTold 14 = .ok (.invokevirtual 207, 3) := by decide +kernel
theorem dX12_qPartTold_17 : decode cX12_qPartTold 17 = .ok (.istore_n 2, 1) := by decide +kernel
theorem dX12_qPartTold_18 : decode cX12_qPartTold 18 = .ok (.aload_n 0, 1) := by decide +kernel
theorem dX12_qPartTold_19 : decode cX12_qPartTold 19 = .ok (.bipush 10, 2) := by decide +kernel
theorem dX12_qPartTold_21 : decode cX12_qPartTold 21 = .ok (.bipush 11, 2) := by decide +kernel
theorem dX12_qPartTold_23 : decode cX12_qPartTold 23 = .ok (.invokevirtual 513, 3) := by decide +kernel
theorem dX12_qPartTold_26 : decode cX12_qPartTold 26 = .ok (.istore_n 3, 1) := by decide +kernel
theorem dX12_qPartTold_27 : decode cX12_qPartTold 27 = .ok (.iload_n 2, 1) := by decide +kernel
theorem dX12_qPartTold_28 : decode cX12_qPartTold 28 = .ok (.bipush 40, 2) := by decide +kernel
theorem dX12_qPartTold_30 : decode cX12_qPartTold 30 = .ok (.if_icmp .ne 26, 3) := by decide +kernel
theorem dX12_qPartTold_56 : decode cX12_qPartTold 56 = .ok (.aload_n 0, 1) := by decide +kernel
theorem dX12_qPartTold_57 : decode cX12_qPartTold 57 = .ok (.aload_n 0, 1) := by decide +kernel
theorem dX12_qPartTold_58 : decode cX12_qPartTold 58 = .ok (.getfield 144, 3) := by decide +kernel
theorem dX12_qPartTold_61 : decode cX12_qPartTold 61 = .ok (.invokevirtual 218, 3) := by decide +kernel
theorem dX12_qPartTold_64 : decode cX12_qPartTold 64 = .ok (.ifCond .ne 14, 3) := by decide +kernel
theorem dX12_qPartTold_78 : decode cX12_qPartTold 78 = .ok (.aload_n 0, 1) := by decide +kernel
theorem dX12_qPartTold_79 : decode cX12_qPartTold 79 = .ok (.aload_n 0, 1) := by decide +kernel
theorem dX12_qPartTold_80 : decode cX12_qPartTold 80 = .ok (.getfield 144, 3) := by decide +kernel
theorem dX12_qPartTold_83 : decode cX12_qPartTold 83 = .ok (.invokevirtual 222, 3) := by decide +kernel
theorem dX12_qPartTold_86 : decode cX12_qPartTold 86 = .ok (.istore 4, 2) := by decide +kernel
theorem dX12_qPartTold_88 : decode cX12_qPartTold 88 = .ok (.iload 4, 2) := by decide +kernel
theorem dX12_qPartTold_90 : decode cX12_qPartTold 90 = .ok (.ifCond .ne 11, 3) := by decide +kernel
theorem dX12_qPartTold_101 : decode cX12_qPartTold 101 = .ok (.aload_n 0, 1) := by decide +kernel
theorem dX12_qPartTold_102 : decode cX12_qPartTold 102 = .ok (.invokevirtual 207, 3) := by decide +kernel
theorem dX12_qPartTold_105 : decode cX12_qPartTold 105 = .ok (.bipush 40, 2) := by decide +kernel
theorem dX12_qPartTold_107 : decode cX12_qPartTold 107 = .ok (.if_icmp .ne 10, 3) := by decide +kernel
theorem dX12_qPartTold_117 : decode cX12_qPartTold 117 = .ok (.iconst (-1), 1) := by decide +kernel
theorem dX12_qPartTold_118 : decode cX12_qPartTold 118 = .ok (.istore 5, 2) := by decide +kernel
theorem dX12_qPartTold_120 : decode cX12_qPartTold 120 = .ok (.iload 5, 2) := by decide +kernel
theorem dX12_qPartTold_122 : decode cX12_qPartTold 122 = .ok (.iconst (-1), 1) := by decide +kernel
theorem dX12_qPartTold_123 : decode cX12_qPartTold 123 = .ok (.if_icmp .eq 21, 3) := by decide +kernel
theorem dX12_qPartTold_144 : decode cX12_qPartTold 144 = .ok (.aload_n 0, 1) := by decide +kernel
theorem dX12_qPartTold_145 : decode cX12_qPartTold 145 = .ok (.bipush 40, 2) := by decide +kernel
theorem dX12_qPartTold_147 : decode cX12_qPartTold 147 = .ok (.invokevirtual 253, 3) := by decide +kernel
theorem dX12_qPartTold_150 : decode cX12_qPartTold 150 = .ok (.goto 33, 3) := by decide +kernel
theorem dX12_qPartTold_183 : decode cX12_qPartTold 183 = .ok (.goto (-181), 3) := by decide +kernel
theorem dX12_qPartTold_110 : decode cX12_qPartTold 110 = .ok (.aload_n 0, 1) := by decide +kernel
theorem dX12_qPartTold_111 : decode cX12_qPartTold 111 = .ok (.getfield 201, 3) := by decide +kernel
theorem dX12_qPartTold_114 : decode cX12_qPartTold 114 = .ok (.goto 4, 3) := by decide +kernel
theorem dX12_qPartTold_126 : decode cX12_qPartTold 126 = .ok (.aload_n 0, 1) := by decide +kernel
theorem dX12_qPartTold_127 : decode cX12_qPartTold 127 = .ok (.iload 4, 2) := by decide +kernel
theorem dX12_qPartTold_129 : decode cX12_qPartTold 129 = .ok (.ifCond .eq 8, 3) := by decide +kernel
theorem dX12_qPartTold_137 : decode cX12_qPartTold 137 = .ok (.bipush 22, 2) := by decide +kernel
theorem dX12_qPartTold_139 : decode cX12_qPartTold 139 = .ok (.iload 5, 2) := by decide +kernel
theorem dX12_qPartTold_141 : decode cX12_qPartTold 141 = .ok (.invokevirtual 516, 3) := by decide +kernel
theorem dX12_qPartTold_132 : decode cX12_qPartTold 132 = .ok (.bipush 21, 2) := by decide +kernel
theorem dX12_qPartTold_134 : decode cX12_qPartTold 134 = .ok (.goto 5, 3) := by decide +kernel
theorem dX12_qPartTold_93 : decode cX12_qPartTold 93 = .ok (.aload_n 0, 1) := by decide +kernel
theorem dX12_qPartTold_94 : decode cX12_qPartTold 94 = .ok (.aload_n 0, 1) := by decide +kernel
theorem dX12_qPartTold_95 : decode cX12_qPartTold 95 = .ok (.getfield 147, 3) := by decide +kernel
theorem dX12_qPartTold_98 : decode cX12_qPartTold 98 = .ok (.invokevirtual 245, 3) := by decide +kernel
theorem dX12_qPartTold_67 : decode cX12_qPartTold 67 = .ok (.aload_n 0, 1) := by decide +kernel
theorem dX12_qPartTold_68 : decode cX12_qPartTold 68 = .ok (.aload_n 0, 1) := by decide +kernel
theorem dX12_qPartTold_69 : decode cX12_qPartTold 69 = .ok (.getfield 147, 3) := by decide +kernel
theorem dX12_qPartTold_72 : decode cX12_qPartTold 72 = .ok (.invokevirtual 218, 3) := by decide +kernel
theorem dX12_qPartTold_75 : decode cX12_qPartTold 75 = .ok (.ifCond .eq 78, 3) := by decide +kernel
theorem dX12_qPartTold_153 : decode cX12_qPartTold 153 = .ok (.iload_n 3, 1) := by decide +kernel
theorem dX12_qPartTold_154 : decode cX12_qPartTold 154 = .ok (.iconst (-1), 1) := by decide +kernel
theorem dX12_qPartTold_155 : decode cX12_qPartTold 155 = .ok (.if_icmp .eq 26, 3) := by decide +kernel
theorem dX12_qPartTold_181 : decode cX12_qPartTold 181 = .ok (.iconst 0, 1) := by decide +kernel
theorem dX12_qPartTold_182 : decode cX12_qPartTold 182 = .ok (.istore_n 1, 1) := by decide +kernel
theorem dX12_qPartTold_158 : decode cX12_qPartTold 158 = .ok (.aload_n 0, 1) := by decide +kernel
theorem dX12_qPartTold_159 : decode cX12_qPartTold 159 = .ok (.bipush 60, 2) := by decide +kernel
theorem dX12_qPartTold_161 : decode cX12_qPartTold 161 = .ok (.iload_n 3, 1) := by decide +kernel
theorem dX12_qPartTold_162 : decode cX12_qPartTold 162 = .ok (.iadd, 1) := by decide +kernel
theorem dX12_qPartTold_163 : decode cX12_qPartTold 163 = .ok (.bipush 10, 2) := by decide +kernel
theorem dX12_qPartTold_165 : decode cX12_qPartTold 165 = .ok (.isub, 1) := by decide +kernel
theorem dX12_qPartTold_166 : decode cX12_qPartTold 166 = .ok (.aload_n 0, 1) := by decide +kernel
theorem dX12_qPartTold_167 : decode cX12_qPartTold 167 = .ok (.getfield 201, 3) := by decide +kernel
theorem dX12_qPartTold_170 : decode cX12_qPartTold 170 = .ok (.invokevirtual 516, 3) := by decide +kernel
theorem dX12_qPartTold_173 : decode cX12_qPartTold 173 = .ok (.aload_n 0, 1) := by decide +kernel
theorem dX12_qPartTold_174 : decode cX12_qPartTold 174 = .ok (.iload_n 3, 1) := by decide +kernel
theorem dX12_qPartTold_175 : decode cX12_qPartTold 175 = .ok (.invokevirtual 519, 3) := by decide +kernel
theorem dX12_qPartTold_178 : decode cX12_qPartTold 178 = .ok (.goto 5, 3) := by decide +kernel
theorem dX12_qPartTold_33 : decode cX12_qPartTold 33 = .ok (.aload_n 0, 1) := by decide +kernel
theorem dX12_qPartTold_34 : decode cX12_qPartTold 34 = .ok (.bipush 20, 2) := by decide +kernel
theorem dX12_qPartTold_36 : decode cX12_qPartTold 36 = .ok (.aload_n 0, 1) := by decide +kernel
theorem dX12_qPartTold_37 : decode cX12_qPartTold 37 = .ok (.getfield 201, 3) := by decide +kernel
theorem dX12_qPartTold_40 : decode cX12_qPartTold 40 = .ok (.invokevirtual 516, 3) := by decide +kernel
theorem dX12_qPartTold_43 : decode cX12_qPartTold 43 = .ok (.aload_n 0, 1) := by decide +kernel
theorem dX12_qPartTold_44 : decode cX12_qPartTold 44 = .ok (.dup, 1) := by decide +kernel
theorem dX12_qPartTold_45 : decode cX12_qPartTold 45 = .ok (.getfield 201, 3) := by decide +kernel
theorem dX12_qPartTold_48 : decode cX12_qPartTold 48 = .ok (.iconst 1, 1) := by decide +kernel
theorem dX12_qPartTold_49 : decode cX12_qPartTold 49 = .ok (.iadd, 1) := by decide +kernel
theorem dX12_qPartTold_50 : decode cX12_qPartTold 50 = .ok (.putfield 201, 3) := by decide +kernel
theorem dX12_qPartTold_53 : decode cX12_qPartTold 53 = .ok (.goto 130, 3) := by decide +kernel
theorem w_7_35 : (Cond.methodLink RX12 513 yX12_qWordOf) ∈ wsL_law := sk_mem (ck_7 _ (List.mem_of_getElem? (i := 35) rfl)) rfl
theorem w_7_37 : (Cond.instanceMethod yX12_qWordOf) ∈ wsL_law := sk_mem (ck_7 _ (List.mem_of_getElem? (i := 37) rfl)) rfl
theorem w_0_56 : (Cond.selects RX12 yX12_qWordOf yX12_qWordOf) ∈ wsL_law := sk_mem (ck_0 _ (List.mem_of_getElem? (i := 56) rfl)) rfl
theorem w_6_233 : (Cond.methodLink RX12 249 yX12_number) ∈ wsL_law := sk_mem (ck_6 _ (List.mem_of_getElem? (i := 233) rfl)) rfl
theorem w_6_235 : (Cond.instanceMethod yX12_number) ∈ wsL_law := sk_mem (ck_6 _ (List.mem_of_getElem? (i := 235) rfl)) rfl
theorem w_0_47 : (Cond.selects RX12 yX12_number yX12_number) ∈ wsL_law := sk_mem (ck_0 _ (List.mem_of_getElem? (i := 47) rfl)) rfl
theorem w_7_59 : (Cond.methodLink RX12 522 yX12_qEndsPart) ∈ wsL_law := sk_mem (ck_7 _ (List.mem_of_getElem? (i := 59) rfl)) rfl
theorem w_7_61 : (Cond.instanceMethod yX12_qEndsPart) ∈ wsL_law := sk_mem (ck_7 _ (List.mem_of_getElem? (i := 61) rfl)) rfl
theorem w_0_62 : (Cond.selects RX12 yX12_qEndsPart yX12_qEndsPart) ∈ wsL_law := sk_mem (ck_0 _ (List.mem_of_getElem? (i := 62) rfl)) rfl
theorem w_7_51 : (Cond.methodLink RX12 519 yX12_qAsksWord) ∈ wsL_law := sk_mem (ck_7 _ (List.mem_of_getElem? (i := 51) rfl)) rfl
theorem w_7_53 : (Cond.instanceMethod yX12_qAsksWord) ∈ wsL_law := sk_mem (ck_7 _ (List.mem_of_getElem? (i := 53) rfl)) rfl
theorem w_0_60 : (Cond.selects RX12 yX12_qAsksWord yX12_qAsksWord) ∈ wsL_law := sk_mem (ck_0 _ (List.mem_of_getElem? (i := 60) rfl)) rfl
theorem w_5_223 : (Cond.fieldLink RX12 144 "SameKeeperModel" "minAsked" "[C") ∈ wsL_law := sk_mem (ck_5 _ (List.mem_of_getElem? (i := 223) rfl)) rfl
theorem w_7_3 : (Cond.methodLink RX12 253 yX12_asksSign) ∈ wsL_law := sk_mem (ck_7 _ (List.mem_of_getElem? (i := 3) rfl)) rfl
theorem w_7_5 : (Cond.instanceMethod yX12_asksSign) ∈ wsL_law := sk_mem (ck_7 _ (List.mem_of_getElem? (i := 5) rfl)) rfl
theorem w_0_48 : (Cond.selects RX12 yX12_asksSign yX12_asksSign) ∈ wsL_law := sk_mem (ck_0 _ (List.mem_of_getElem? (i := 48) rfl)) rfl
theorem w_7_47 : (Cond.methodLink RX12 516 yX12_qOpens) ∈ wsL_law := sk_mem (ck_7 _ (List.mem_of_getElem? (i := 47) rfl)) rfl
theorem w_7_49 : (Cond.instanceMethod yX12_qOpens) ∈ wsL_law := sk_mem (ck_7 _ (List.mem_of_getElem? (i := 49) rfl)) rfl
theorem w_0_59 : (Cond.selects RX12 yX12_qOpens yX12_qOpens) ∈ wsL_law := sk_mem (ck_0 _ (List.mem_of_getElem? (i := 59) rfl)) rfl
theorem w_5_224 : (Cond.fieldLink RX12 147 "SameKeeperModel" "maxAsked" "[C") ∈ wsL_law := sk_mem (ck_5 _ (List.mem_of_getElem? (i := 224) rfl)) rfl
theorem w_7_34 : (Cond.code yX12_qPartTold cX12_qPartTold 6 none) ∈ wsL_law := sk_mem (ck_7 _ (List.mem_of_getElem? (i := 34) rfl)) rfl
theorem dX12_qGoesOn_0 : decode cX12_qGoesOn 0 = .ok (.aload_n 0, 1) := by decide +kernel
theorem dX12_qGoesOn_1 : decode cX12_qGoesOn 1 = .ok (.getfield 195, 3) := by decide +kernel
theorem dX12_qGoesOn_4 : decode cX12_qGoesOn 4 = .ok (.ifCond .ne 118, 3) := by decide +kernel
theorem dX12_qGoesOn_122 : decode cX12_qGoesOn 122 = .ok (.aload_n 0, 1) := by decide +kernel
theorem dX12_qGoesOn_140 : decode cX12_qGoesOn 140 = .ok (.aload_n 0, 1) := by decide +kernel
theorem dX12_qGoesOn_141 : decode cX12_qGoesOn 141 = .ok (.getfield 7, 3) := by decide +kernel
theorem dX12_qGoesOn_144 : decode cX12_qGoesOn 144 = .ok (.aload_n 0, 1) := by decide +kernel
theorem dX12_qGoesOn_145 : decode cX12_qGoesOn 145 = .ok (.getfield 201, 3) := by decide +kernel
theorem dX12_qGoesOn_148 : decode cX12_qGoesOn 148 = .ok (.iconst 1, 1) := by decide +kernel
theorem dX12_qGoesOn_149 : decode cX12_qGoesOn 149 = .ok (.isub, 1) := by decide +kernel
theorem dX12_qGoesOn_150 : decode cX12_qGoesOn 150 = .ok (.iaload, 1) := by decide +kernel
theorem dX12_qGoesOn_151 : decode cX12_qGoesOn 151 = .ok (.bipush 42, 2) := by decide +kernel
theorem dX12_qGoesOn_153 : decode cX12_qGoesOn 153 = .ok (.if_icmp .ne 7, 3) := by decide +kernel
theorem dX12_qGoesOn_160 : decode cX12_qGoesOn 160 = .ok (.iconst 4, 1) := by decide +kernel
theorem dX12_qGoesOn_161 : decode cX12_qGoesOn 161 = .ok (.istore_n 1, 1) := by decide +kernel
theorem dX12_qGoesOn_162 : decode cX12_qGoesOn 162 = .ok (.aload_n 0, 1) := by decide +kernel
theorem dX12_qGoesOn_163 : decode cX12_qGoesOn 163 = .ok (.iconst 3, 1) := by decide +kernel
theorem dX12_qGoesOn_164 : decode cX12_qGoesOn 164 = .ok (.invokevirtual 531, 3) := by decide +kernel
theorem dX12_qGoesOn_167 : decode cX12_qGoesOn 167 = .ok (.ifCond .ne 11, 3) := by decide +kernel
theorem dX12_qGoesOn_178 : decode cX12_qGoesOn 178 = .ok (.aload_n 0, 1) := by decide +kernel
theorem dX12_qGoesOn_179 : decode cX12_qGoesOn 179 = .ok (.invokevirtual 504, 3) := by decide +kernel
theorem dX12_qGoesOn_182 : decode cX12_qGoesOn 182 = .ok (.goto (-20), 3) := by decide +kernel
theorem dX12_qGoesOn_170 : decode cX12_qGoesOn 170 = .ok (.aload_n 0, 1) := by decide +kernel
theorem dX12_qGoesOn_171 : decode cX12_qGoesOn 171 = .ok (.iconst 4, 1) := by decide +kernel
theorem dX12_qGoesOn_172 : decode cX12_qGoesOn 172 = .ok (.invokevirtual 531, 3) := by decide +kernel
theorem dX12_qGoesOn_175 : decode cX12_qGoesOn 175 = .ok (.ifCond .eq 10, 3) := by decide +kernel
theorem dX12_qGoesOn_185 : decode cX12_qGoesOn 185 = .ok (.aload_n 0, 1) := by decide +kernel
theorem dX12_qGoesOn_186 : decode cX12_qGoesOn 186 = .ok (.getfield 183, 3) := by decide +kernel
theorem dX12_qGoesOn_189 : decode cX12_qGoesOn 189 = .ok (.aload_n 0, 1) := by decide +kernel
theorem dX12_qGoesOn_190 : decode cX12_qGoesOn 190 = .ok (.getfield 260, 3) := by decide +kernel
theorem dX12_qGoesOn_193 : decode cX12_qGoesOn 193 = .ok (.iload_n 1, 1) := by decide +kernel
theorem dX12_qGoesOn_194 : decode cX12_qGoesOn 194 = .ok (.iastore, 1) := by decide +kernel
theorem dX12_qGoesOn_195 : decode cX12_qGoesOn 195 = .ok (.aload_n 0, 1) := by decide +kernel
theorem dX12_qGoesOn_196 : decode cX12_qGoesOn 196 = .ok (.dup, 1) := by decide +kernel
theorem dX12_qGoesOn_197 : decode cX12_qGoesOn 197 = .ok (.getfield 260, 3) := by decide +kernel
theorem dX12_qGoesOn_200 : decode cX12_qGoesOn 200 = .ok (.iconst 1, 1) := by decide +kernel
theorem dX12_qGoesOn_201 : decode cX12_qGoesOn 201 = .ok (.iadd, 1) := by decide +kernel
theorem dX12_qGoesOn_202 : decode cX12_qGoesOn 202 = .ok (.putfield 260, 3) := by decide +kernel
theorem dX12_qGoesOn_205 : decode cX12_qGoesOn 205 = .ok (.iconst 1, 1) := by decide +kernel
theorem dX12_qGoesOn_206 : decode cX12_qGoesOn 206 = .ok (.ireturn, 1) := by decide +kernel
theorem dX12_qGoesOn_156 : decode cX12_qGoesOn 156 = .ok (.iconst 3, 1) := by decide +kernel
theorem dX12_qGoesOn_157 : decode cX12_qGoesOn 157 = .ok (.goto 4, 3) := by decide +kernel
theorem dX12_qGoesOn_225 : decode cX12_qGoesOn 225 = .ok (.aload_n 0, 1) := by decide +kernel
theorem dX12_qGoesOn_226 : decode cX12_qGoesOn 226 = .ok (.getfield 7, 3) := by decide +kernel
theorem dX12_qGoesOn_229 : decode cX12_qGoesOn 229 = .ok (.aload_n 0, 1) := by decide +kernel
theorem dX12_qGoesOn_230 : decode cX12_qGoesOn 230 = .ok (.getfield 201, 3) := by decide +kernel
theorem dX12_qGoesOn_233 : decode cX12_qGoesOn 233 = .ok (.iconst 1, 1) := by decide +kernel
theorem dX12_qGoesOn_234 : decode cX12_qGoesOn 234 = .ok (.isub, 1) := by decide +kernel
theorem dX12_qGoesOn_235 : decode cX12_qGoesOn 235 = .ok (.iaload, 1) := by decide +kernel
theorem dX12_qGoesOn_236 : decode cX12_qGoesOn 236 = .ok (.bipush 43, 2) := by decide +kernel
theorem dX12_qGoesOn_238 : decode cX12_qGoesOn 238 = .ok (.if_icmp .ne 7, 3) := by decide +kernel
theorem dX12_qGoesOn_245 : decode cX12_qGoesOn 245 = .ok (.iconst 2, 1) := by decide +kernel
theorem dX12_qGoesOn_246 : decode cX12_qGoesOn 246 = .ok (.istore_n 1, 1) := by decide +kernel
theorem dX12_qGoesOn_247 : decode cX12_qGoesOn 247 = .ok (.aload_n 0, 1) := by decide +kernel
theorem dX12_qGoesOn_248 : decode cX12_qGoesOn 248 = .ok (.iconst 3, 1) := by decide +kernel
theorem dX12_qGoesOn_249 : decode cX12_qGoesOn 249 = .ok (.invokevirtual 531, 3) := by decide +kernel
theorem dX12_qGoesOn_252 : decode cX12_qGoesOn 252 = .ok (.ifCond .ne 27, 3) := by decide +kernel
theorem dX12_qGoesOn_279 : decode cX12_qGoesOn 279 = .ok (.aload_n 0, 1) := by decide +kernel
theorem dX12_qGoesOn_280 : decode cX12_qGoesOn 280 = .ok (.invokevirtual 504, 3) := by decide +kernel
theorem dX12_qGoesOn_283 : decode cX12_qGoesOn 283 = .ok (.goto (-36), 3) := by decide +kernel
theorem dX12_qGoesOn_255 : decode cX12_qGoesOn 255 = .ok (.aload_n 0, 1) := by decide +kernel
theorem dX12_qGoesOn_256 : decode cX12_qGoesOn 256 = .ok (.iconst 4, 1) := by decide +kernel
theorem dX12_qGoesOn_257 : decode cX12_qGoesOn 257 = .ok (.invokevirtual 531, 3) := by decide +kernel
theorem dX12_qGoesOn_260 : decode cX12_qGoesOn 260 = .ok (.ifCond .ne 19, 3) := by decide +kernel
theorem dX12_qGoesOn_263 : decode cX12_qGoesOn 263 = .ok (.aload_n 0, 1) := by decide +kernel
theorem dX12_qGoesOn_264 : decode cX12_qGoesOn 264 = .ok (.iconst 1, 1) := by decide +kernel
theorem dX12_qGoesOn_265 : decode cX12_qGoesOn 265 = .ok (.invokevirtual 531, 3) := by decide +kernel
theorem dX12_qGoesOn_268 : decode cX12_qGoesOn 268 = .ok (.ifCond .ne 11, 3) := by decide +kernel
theorem dX12_qGoesOn_271 : decode cX12_qGoesOn 271 = .ok (.aload_n 0, 1) := by decide +kernel
theorem dX12_qGoesOn_272 : decode cX12_qGoesOn 272 = .ok (.iconst 2, 1) := by decide +kernel
theorem dX12_qGoesOn_273 : decode cX12_qGoesOn 273 = .ok (.invokevirtual 531, 3) := by decide +kernel
theorem dX12_qGoesOn_276 : decode cX12_qGoesOn 276 = .ok (.ifCond .eq 10, 3) := by decide +kernel
theorem dX12_qGoesOn_286 : decode cX12_qGoesOn 286 = .ok (.aload_n 0, 1) := by decide +kernel
theorem dX12_qGoesOn_287 : decode cX12_qGoesOn 287 = .ok (.getfield 183, 3) := by decide +kernel
theorem dX12_qGoesOn_290 : decode cX12_qGoesOn 290 = .ok (.aload_n 0, 1) := by decide +kernel
theorem dX12_qGoesOn_291 : decode cX12_qGoesOn 291 = .ok (.getfield 260, 3) := by decide +kernel
theorem dX12_qGoesOn_294 : decode cX12_qGoesOn 294 = .ok (.iload_n 1, 1) := by decide +kernel
theorem dX12_qGoesOn_295 : decode cX12_qGoesOn 295 = .ok (.iastore, 1) := by decide +kernel
theorem dX12_qGoesOn_296 : decode cX12_qGoesOn 296 = .ok (.aload_n 0, 1) := by decide +kernel
theorem dX12_qGoesOn_297 : decode cX12_qGoesOn 297 = .ok (.dup, 1) := by decide +kernel
theorem dX12_qGoesOn_298 : decode cX12_qGoesOn 298 = .ok (.getfield 260, 3) := by decide +kernel
theorem dX12_qGoesOn_301 : decode cX12_qGoesOn 301 = .ok (.iconst 1, 1) := by decide +kernel
theorem dX12_qGoesOn_302 : decode cX12_qGoesOn 302 = .ok (.iadd, 1) := by decide +kernel
theorem dX12_qGoesOn_303 : decode cX12_qGoesOn 303 = .ok (.putfield 260, 3) := by decide +kernel
theorem dX12_qGoesOn_306 : decode cX12_qGoesOn 306 = .ok (.iconst 1, 1) := by decide +kernel
theorem dX12_qGoesOn_307 : decode cX12_qGoesOn 307 = .ok (.ireturn, 1) := by decide +kernel
theorem dX12_qGoesOn_241 : decode cX12_qGoesOn 241 = .ok (.iconst 1, 1) := by decide +kernel
theorem dX12_qGoesOn_242 : decode cX12_qGoesOn 242 = .ok (.goto 4, 3) := by decide +kernel
theorem dX12_qGoesOn_123 : decode cX12_qGoesOn 123 = .ok (.bipush 42, 2) := by decide +kernel
theorem dX12_qGoesOn_125 : decode cX12_qGoesOn 125 = .ok (.invokevirtual 229, 3) := by decide +kernel
theorem dX12_qGoesOn_128 : decode cX12_qGoesOn 128 = .ok (.ifCond .ne 12, 3) := by decide +kernel
theorem dX12_qGoesOn_131 : decode cX12_qGoesOn 131 = .ok (.aload_n 0, 1) := by decide +kernel
theorem dX12_qGoesOn_132 : decode cX12_qGoesOn 132 = .ok (.bipush 47, 2) := by decide +kernel
theorem dX12_qGoesOn_134 : decode cX12_qGoesOn 134 = .ok (.invokevirtual 229, 3) := by decide +kernel
theorem dX12_qGoesOn_137 : decode cX12_qGoesOn 137 = .ok (.ifCond .eq 70, 3) := by decide +kernel
theorem dX12_qGoesOn_207 : decode cX12_qGoesOn 207 = .ok (.aload_n 0, 1) := by decide +kernel
theorem dX12_qGoesOn_208 : decode cX12_qGoesOn 208 = .ok (.bipush 43, 2) := by decide +kernel
theorem dX12_qGoesOn_210 : decode cX12_qGoesOn 210 = .ok (.invokevirtual 229, 3) := by decide +kernel
theorem dX12_qGoesOn_213 : decode cX12_qGoesOn 213 = .ok (.ifCond .ne 12, 3) := by decide +kernel
theorem dX12_qGoesOn_216 : decode cX12_qGoesOn 216 = .ok (.aload_n 0, 1) := by decide +kernel
theorem dX12_qGoesOn_217 : decode cX12_qGoesOn 217 = .ok (.bipush 45, 2) := by decide +kernel
theorem dX12_qGoesOn_219 : decode cX12_qGoesOn 219 = .ok (.invokevirtual 229, 3) := by decide +kernel
theorem dX12_qGoesOn_222 : decode cX12_qGoesOn 222 = .ok (.ifCond .eq 86, 3) := by decide +kernel
theorem dX12_qGoesOn_308 : decode cX12_qGoesOn 308 = .ok (.aload_n 0, 1) := by decide +kernel
theorem dX12_qGoesOn_309 : decode cX12_qGoesOn 309 = .ok (.invokevirtual 525, 3) := by decide +kernel
theorem dX12_qGoesOn_312 : decode cX12_qGoesOn 312 = .ok (.bipush 21, 2) := by decide +kernel
theorem dX12_qGoesOn_314 : decode cX12_qGoesOn 314 = .ok (.if_icmp .eq 12, 3) := by decide +kernel
theorem dX12_qGoesOn_326 : decode cX12_qGoesOn 326 = .ok (.aload_n 0, 1) := by decide +kernel
theorem dX12_qGoesOn_327 : decode cX12_qGoesOn 327 = .ok (.bipush 44, 2) := by decide +kernel
theorem dX12_qGoesOn_329 : decode cX12_qGoesOn 329 = .ok (.invokevirtual 253, 3) := by decide +kernel
theorem dX12_qGoesOn_332 : decode cX12_qGoesOn 332 = .ok (.aload_n 0, 1) := by decide +kernel
theorem dX12_qGoesOn_333 : decode cX12_qGoesOn 333 = .ok (.getfield 195, 3) := by decide +kernel
theorem dX12_qGoesOn_336 : decode cX12_qGoesOn 336 = .ok (.ifCond .eq 5, 3) := by decide +kernel
theorem dX12_qGoesOn_341 : decode cX12_qGoesOn 341 = .ok (.aload_n 0, 1) := by decide +kernel
theorem dX12_qGoesOn_342 : decode cX12_qGoesOn 342 = .ok (.invokevirtual 528, 3) := by decide +kernel
theorem dX12_qGoesOn_345 : decode cX12_qGoesOn 345 = .ok (.aload_n 0, 1) := by decide +kernel
theorem dX12_qGoesOn_346 : decode cX12_qGoesOn 346 = .ok (.getfield 183, 3) := by decide +kernel
theorem dX12_qGoesOn_349 : decode cX12_qGoesOn 349 = .ok (.aload_n 0, 1) := by decide +kernel
theorem dX12_qGoesOn_350 : decode cX12_qGoesOn 350 = .ok (.getfield 260, 3) := by decide +kernel
theorem dX12_qGoesOn_353 : decode cX12_qGoesOn 353 = .ok (.iconst 1, 1) := by decide +kernel
theorem dX12_qGoesOn_354 : decode cX12_qGoesOn 354 = .ok (.isub, 1) := by decide +kernel
theorem dX12_qGoesOn_355 : decode cX12_qGoesOn 355 = .ok (.dup2, 1) := by decide +kernel
theorem dX12_qGoesOn_356 : decode cX12_qGoesOn 356 = .ok (.iaload, 1) := by decide +kernel
theorem dX12_qGoesOn_357 : decode cX12_qGoesOn 357 = .ok (.iconst 2, 1) := by decide +kernel
theorem dX12_qGoesOn_358 : decode cX12_qGoesOn 358 = .ok (.iadd, 1) := by decide +kernel
theorem dX12_qGoesOn_359 : decode cX12_qGoesOn 359 = .ok (.iastore, 1) := by decide +kernel
theorem dX12_qGoesOn_360 : decode cX12_qGoesOn 360 = .ok (.iconst 1, 1) := by decide +kernel
theorem dX12_qGoesOn_361 : decode cX12_qGoesOn 361 = .ok (.ireturn, 1) := by decide +kernel
theorem dX12_qGoesOn_339 : decode cX12_qGoesOn 339 = .ok (.iconst 0, 1) := by decide +kernel
theorem dX12_qGoesOn_340 : decode cX12_qGoesOn 340 = .ok (.ireturn, 1) := by decide +kernel
theorem dX12_qGoesOn_317 : decode cX12_qGoesOn 317 = .ok (.aload_n 0, 1) := by decide +kernel
theorem dX12_qGoesOn_318 : decode cX12_qGoesOn 318 = .ok (.invokevirtual 525, 3) := by decide +kernel
theorem dX12_qGoesOn_321 : decode cX12_qGoesOn 321 = .ok (.bipush 22, 2) := by decide +kernel
theorem dX12_qGoesOn_323 : decode cX12_qGoesOn 323 = .ok (.if_icmp .ne 39, 3) := by decide +kernel
theorem dX12_qGoesOn_362 : decode cX12_qGoesOn 362 = .ok (.aload_n 0, 1) := by decide +kernel
theorem dX12_qGoesOn_363 : decode cX12_qGoesOn 363 = .ok (.invokevirtual 525, 3) := by decide +kernel
theorem dX12_qGoesOn_366 : decode cX12_qGoesOn 366 = .ok (.iconst (-1), 1) := by decide +kernel
theorem dX12_qGoesOn_367 : decode cX12_qGoesOn 367 = .ok (.if_icmp .eq 19, 3) := by decide +kernel
theorem dX12_qGoesOn_386 : decode cX12_qGoesOn 386 = .ok (.iconst 0, 1) := by decide +kernel
theorem dX12_qGoesOn_387 : decode cX12_qGoesOn 387 = .ok (.ireturn, 1) := by decide +kernel
theorem dX12_qGoesOn_370 : decode cX12_qGoesOn 370 = .ok (.aload_n 0, 1) := by decide +kernel
theorem dX12_qGoesOn_371 : decode cX12_qGoesOn 371 = .ok (.getfield 195, 3) := by decide +kernel
theorem dX12_qGoesOn_374 : decode cX12_qGoesOn 374 = .ok (.ifCond .ne 12, 3) := by decide +kernel
theorem dX12_qGoesOn_377 : decode cX12_qGoesOn 377 = .ok (.aload_n 0, 1) := by decide +kernel
theorem dX12_qGoesOn_378 : decode cX12_qGoesOn 378 = .ok (.iconst 1, 1) := by decide +kernel
theorem dX12_qGoesOn_379 : decode cX12_qGoesOn 379 = .ok (.aload_n 0, 1) := by decide +kernel
theorem dX12_qGoesOn_380 : decode cX12_qGoesOn 380 = .ok (.getfield 201, 3) := by decide +kernel
theorem dX12_qGoesOn_383 : decode cX12_qGoesOn 383 = .ok (.invokevirtual 225, 3) := by decide +kernel
theorem dX12_qGoesOn_7 : decode cX12_qGoesOn 7 = .ok (.aload_n 0, 1) := by decide +kernel
theorem dX12_qGoesOn_8 : decode cX12_qGoesOn 8 = .ok (.invokevirtual 207, 3) := by decide +kernel
theorem dX12_qGoesOn_11 : decode cX12_qGoesOn 11 = .ok (.bipush 41, 2) := by decide +kernel
theorem dX12_qGoesOn_13 : decode cX12_qGoesOn 13 = .ok (.if_icmp .ne 109, 3) := by decide +kernel
theorem dX12_qGoesOn_16 : decode cX12_qGoesOn 16 = .ok (.aload_n 0, 1) := by decide +kernel
theorem dX12_qGoesOn_17 : decode cX12_qGoesOn 17 = .ok (.invokevirtual 525, 3) := by decide +kernel
theorem dX12_qGoesOn_20 : decode cX12_qGoesOn 20 = .ok (.bipush 20, 2) := by decide +kernel
theorem dX12_qGoesOn_22 : decode cX12_qGoesOn 22 = .ok (.if_icmp .eq 21, 3) := by decide +kernel
theorem dX12_qGoesOn_43 : decode cX12_qGoesOn 43 = .ok (.aload_n 0, 1) := by decide +kernel
theorem dX12_qGoesOn_44 : decode cX12_qGoesOn 44 = .ok (.dup, 1) := by decide +kernel
theorem dX12_qGoesOn_45 : decode cX12_qGoesOn 45 = .ok (.getfield 201, 3) := by decide +kernel
theorem dX12_qGoesOn_48 : decode cX12_qGoesOn 48 = .ok (.iconst 1, 1) := by decide +kernel
theorem dX12_qGoesOn_49 : decode cX12_qGoesOn 49 = .ok (.iadd, 1) := by decide +kernel
theorem dX12_qGoesOn_50 : decode cX12_qGoesOn 50 = .ok (.putfield 201, 3) := by decide +kernel
theorem dX12_qGoesOn_53 : decode cX12_qGoesOn 53 = .ok (.aload_n 0, 1) := by decide +kernel
theorem dX12_qGoesOn_54 : decode cX12_qGoesOn 54 = .ok (.invokevirtual 528, 3) := by decide +kernel
theorem dX12_qGoesOn_57 : decode cX12_qGoesOn 57 = .ok (.aload_n 0, 1) := by decide +kernel
theorem dX12_qGoesOn_58 : decode cX12_qGoesOn 58 = .ok (.dup, 1) := by decide +kernel
theorem dX12_qGoesOn_59 : decode cX12_qGoesOn 59 = .ok (.getfield 260, 3) := by decide +kernel
theorem dX12_qGoesOn_62 : decode cX12_qGoesOn 62 = .ok (.iconst 1, 1) := by decide +kernel
theorem dX12_qGoesOn_63 : decode cX12_qGoesOn 63 = .ok (.isub, 1) := by decide +kernel
theorem dX12_qGoesOn_64 : decode cX12_qGoesOn 64 = .ok (.putfield 260, 3) := by decide +kernel
theorem dX12_qGoesOn_67 : decode cX12_qGoesOn 67 = .ok (.aload_n 0, 1) := by decide +kernel
theorem dX12_qGoesOn_68 : decode cX12_qGoesOn 68 = .ok (.dup, 1) := by decide +kernel
theorem dX12_qGoesOn_69 : decode cX12_qGoesOn 69 = .ok (.getfield 263, 3) := by decide +kernel
theorem dX12_qGoesOn_72 : decode cX12_qGoesOn 72 = .ok (.iconst 1, 1) := by decide +kernel
theorem dX12_qGoesOn_73 : decode cX12_qGoesOn 73 = .ok (.isub, 1) := by decide +kernel
theorem dX12_qGoesOn_74 : decode cX12_qGoesOn 74 = .ok (.putfield 263, 3) := by decide +kernel
theorem dX12_qGoesOn_77 : decode cX12_qGoesOn 77 = .ok (.aload_n 0, 1) := by decide +kernel
theorem dX12_qGoesOn_78 : decode cX12_qGoesOn 78 = .ok (.getfield 183, 3) := by decide +kernel
theorem dX12_qGoesOn_81 : decode cX12_qGoesOn 81 = .ok (.aload_n 0, 1) := by decide +kernel
theorem dX12_qGoesOn_82 : decode cX12_qGoesOn 82 = .ok (.getfield 260, 3) := by decide +kernel
theorem dX12_qGoesOn_85 : decode cX12_qGoesOn 85 = .ok (.iaload, 1) := by decide +kernel
theorem dX12_qGoesOn_86 : decode cX12_qGoesOn 86 = .ok (.bipush 20, 2) := by decide +kernel
theorem dX12_qGoesOn_88 : decode cX12_qGoesOn 88 = .ok (.if_icmp .eq 27, 3) := by decide +kernel
theorem dX12_qGoesOn_115 : decode cX12_qGoesOn 115 = .ok (.aload_n 0, 1) := by decide +kernel
theorem dX12_qGoesOn_116 : decode cX12_qGoesOn 116 = .ok (.invokevirtual 522, 3) := by decide +kernel
theorem dX12_qGoesOn_119 : decode cX12_qGoesOn 119 = .ok (.goto (-119), 3) := by decide +kernel
theorem dX12_qGoesOn_25 : decode cX12_qGoesOn 25 = .ok (.aload_n 0, 1) := by decide +kernel
theorem dX12_qGoesOn_26 : decode cX12_qGoesOn 26 = .ok (.invokevirtual 525, 3) := by decide +kernel
theorem dX12_qGoesOn_29 : decode cX12_qGoesOn 29 = .ok (.bipush 23, 2) := by decide +kernel
theorem dX12_qGoesOn_31 : decode cX12_qGoesOn 31 = .ok (.if_icmp .eq 12, 3) := by decide +kernel
theorem dX12_qGoesOn_91 : decode cX12_qGoesOn 91 = .ok (.aload_n 0, 1) := by decide +kernel
theorem dX12_qGoesOn_92 : decode cX12_qGoesOn 92 = .ok (.aload_n 0, 1) := by decide +kernel
theorem dX12_qGoesOn_93 : decode cX12_qGoesOn 93 = .ok (.getfield 183, 3) := by decide +kernel
theorem dX12_qGoesOn_96 : decode cX12_qGoesOn 96 = .ok (.aload_n 0, 1) := by decide +kernel
theorem dX12_qGoesOn_97 : decode cX12_qGoesOn 97 = .ok (.getfield 260, 3) := by decide +kernel
theorem dX12_qGoesOn_100 : decode cX12_qGoesOn 100 = .ok (.iaload, 1) := by decide +kernel
theorem dX12_qGoesOn_101 : decode cX12_qGoesOn 101 = .ok (.bipush 23, 2) := by decide +kernel
theorem dX12_qGoesOn_103 : decode cX12_qGoesOn 103 = .ok (.if_icmp .ne 7, 3) := by decide +kernel
theorem dX12_qGoesOn_106 : decode cX12_qGoesOn 106 = .ok (.iconst 5, 1) := by decide +kernel
theorem dX12_qGoesOn_107 : decode cX12_qGoesOn 107 = .ok (.goto 5, 3) := by decide +kernel
theorem dX12_qGoesOn_112 : decode cX12_qGoesOn 112 = .ok (.invokevirtual 498, 3) := by decide +kernel
theorem dX12_qGoesOn_34 : decode cX12_qGoesOn 34 = .ok (.aload_n 0, 1) := by decide +kernel
theorem dX12_qGoesOn_35 : decode cX12_qGoesOn 35 = .ok (.invokevirtual 525, 3) := by decide +kernel
theorem dX12_qGoesOn_38 : decode cX12_qGoesOn 38 = .ok (.bipush 24, 2) := by decide +kernel
theorem dX12_qGoesOn_40 : decode cX12_qGoesOn 40 = .ok (.if_icmp .ne 82, 3) := by decide +kernel
theorem dX12_qGoesOn_110 : decode cX12_qGoesOn 110 = .ok (.bipush 6, 2) := by decide +kernel
theorem w_7_82 : (Cond.methodLink RX12 531 yX12_qIsOn) ∈ wsL_law := sk_mem (ck_7 _ (List.mem_of_getElem? (i := 82) rfl)) rfl
theorem w_7_84 : (Cond.instanceMethod yX12_qIsOn) ∈ wsL_law := sk_mem (ck_7 _ (List.mem_of_getElem? (i := 84) rfl)) rfl
theorem w_0_67 : (Cond.selects RX12 yX12_qIsOn yX12_qIsOn) ∈ wsL_law := sk_mem (ck_0 _ (List.mem_of_getElem? (i := 67) rfl)) rfl
theorem w_7_71 : (Cond.methodLink RX12 525 yX12_qBracket) ∈ wsL_law := sk_mem (ck_7 _ (List.mem_of_getElem? (i := 71) rfl)) rfl
theorem w_7_73 : (Cond.instanceMethod yX12_qBracket) ∈ wsL_law := sk_mem (ck_7 _ (List.mem_of_getElem? (i := 73) rfl)) rfl
theorem w_0_65 : (Cond.selects RX12 yX12_qBracket yX12_qBracket) ∈ wsL_law := sk_mem (ck_0 _ (List.mem_of_getElem? (i := 65) rfl)) rfl
theorem w_7_78 : (Cond.methodLink RX12 528 yX12_qDropsToBracket) ∈ wsL_law := sk_mem (ck_7 _ (List.mem_of_getElem? (i := 78) rfl)) rfl
theorem w_7_80 : (Cond.instanceMethod yX12_qDropsToBracket) ∈ wsL_law := sk_mem (ck_7 _ (List.mem_of_getElem? (i := 80) rfl)) rfl
theorem w_0_66 : (Cond.selects RX12 yX12_qDropsToBracket yX12_qDropsToBracket) ∈ wsL_law := sk_mem (ck_0 _ (List.mem_of_getElem? (i := 66) rfl)) rfl
theorem w_7_70 : (Cond.code yX12_qGoesOn cX12_qGoesOn 2 (some .boolean)) ∈ wsL_law := sk_mem (ck_7 _ (List.mem_of_getElem? (i := 70) rfl)) rfl
theorem dX12_qSums_0 : decode cX12_qSums 0 = .ok (.aload_n 0, 1) := by decide +kernel
theorem dX12_qSums_1 : decode cX12_qSums 1 = .ok (.getfield 266, 3) := by decide +kernel
theorem dX12_qSums_4 : decode cX12_qSums 4 = .ok (.istore_n 1, 1) := by decide +kernel
theorem dX12_qSums_5 : decode cX12_qSums 5 = .ok (.aload_n 0, 1) := by decide +kernel
theorem dX12_qSums_6 : decode cX12_qSums 6 = .ok (.aload_n 0, 1) := by decide +kernel
theorem dX12_qSums_7 : decode cX12_qSums 7 = .ok (.getfield 260, 3) := by decide +kernel
theorem dX12_qSums_10 : decode cX12_qSums 10 = .ok (.putfield 266, 3) := by decide +kernel
theorem dX12_qSums_13 : decode cX12_qSums 13 = .ok (.iconst 1, 1) := by decide +kernel
theorem dX12_qSums_14 : decode cX12_qSums 14 = .ok (.istore_n 2, 1) := by decide +kernel
theorem dX12_qSums_15 : decode cX12_qSums 15 = .ok (.iload_n 2, 1) := by decide +kernel
theorem dX12_qSums_16 : decode cX12_qSums 16 = .ok (.ifCond .eq 37, 3) := by decide +kernel
theorem dX12_qSums_53 : decode cX12_qSums 53 = .ok (.aload_n 0, 1) := by decide +kernel
theorem dX12_qSums_54 : decode cX12_qSums 54 = .ok (.getfield 195, 3) := by decide +kernel
theorem dX12_qSums_57 : decode cX12_qSums 57 = .ok (.ifCond .ne 21, 3) := by decide +kernel
theorem dX12_qSums_78 : decode cX12_qSums 78 = .ok (.aload_n 0, 1) := by decide +kernel
theorem dX12_qSums_79 : decode cX12_qSums 79 = .ok (.iload_n 1, 1) := by decide +kernel
theorem dX12_qSums_80 : decode cX12_qSums 80 = .ok (.putfield 266, 3) := by decide +kernel
theorem dX12_qSums_83 : decode cX12_qSums 83 = .ok (.return_, 1) := by decide +kernel
theorem dX12_qSums_60 : decode cX12_qSums 60 = .ok (.aload_n 0, 1) := by decide +kernel
theorem dX12_qSums_61 : decode cX12_qSums 61 = .ok (.getfield 260, 3) := by decide +kernel
theorem dX12_qSums_64 : decode cX12_qSums 64 = .ok (.aload_n 0, 1) := by decide +kernel
theorem dX12_qSums_65 : decode cX12_qSums 65 = .ok (.getfield 266, 3) := by decide +kernel
theorem dX12_qSums_68 : decode cX12_qSums 68 = .ok (.if_icmp .le 10, 3) := by decide +kernel
theorem dX12_qSums_71 : decode cX12_qSums 71 = .ok (.aload_n 0, 1) := by decide +kernel
theorem dX12_qSums_72 : decode cX12_qSums 72 = .ok (.invokevirtual 504, 3) := by decide +kernel
theorem dX12_qSums_75 : decode cX12_qSums 75 = .ok (.goto (-22), 3) := by decide +kernel
theorem dX12_qSums_19 : decode cX12_qSums 19 = .ok (.aload_n 0, 1) := by decide +kernel
theorem dX12_qSums_20 : decode cX12_qSums 20 = .ok (.getfield 195, 3) := by decide +kernel
theorem dX12_qSums_23 : decode cX12_qSums 23 = .ok (.ifCond .ne 30, 3) := by decide +kernel
theorem dX12_qSums_26 : decode cX12_qSums 26 = .ok (.aload_n 0, 1) := by decide +kernel
theorem dX12_qSums_27 : decode cX12_qSums 27 = .ok (.invokevirtual 534, 3) := by decide +kernel
theorem dX12_qSums_30 : decode cX12_qSums 30 = .ok (.aload_n 0, 1) := by decide +kernel
theorem dX12_qSums_31 : decode cX12_qSums 31 = .ok (.getfield 195, 3) := by decide +kernel
theorem dX12_qSums_34 : decode cX12_qSums 34 = .ok (.ifCond .ne 14, 3) := by decide +kernel
theorem dX12_qSums_48 : decode cX12_qSums 48 = .ok (.iconst 0, 1) := by decide +kernel
theorem dX12_qSums_49 : decode cX12_qSums 49 = .ok (.istore_n 2, 1) := by decide +kernel
theorem dX12_qSums_50 : decode cX12_qSums 50 = .ok (.goto (-35), 3) := by decide +kernel
theorem dX12_qSums_37 : decode cX12_qSums 37 = .ok (.aload_n 0, 1) := by decide +kernel
theorem dX12_qSums_38 : decode cX12_qSums 38 = .ok (.invokevirtual 537, 3) := by decide +kernel
theorem dX12_qSums_41 : decode cX12_qSums 41 = .ok (.ifCond .eq 7, 3) := by decide +kernel
theorem dX12_qSums_44 : decode cX12_qSums 44 = .ok (.iconst 1, 1) := by decide +kernel
theorem dX12_qSums_45 : decode cX12_qSums 45 = .ok (.goto 4, 3) := by decide +kernel
theorem w_7_31 : (Cond.methodLink RX12 534 yX12_qPartTold) ∈ wsL_law := sk_mem (ck_7 _ (List.mem_of_getElem? (i := 31) rfl)) rfl
theorem w_7_33 : (Cond.instanceMethod yX12_qPartTold) ∈ wsL_law := sk_mem (ck_7 _ (List.mem_of_getElem? (i := 33) rfl)) rfl
theorem w_0_55 : (Cond.selects RX12 yX12_qPartTold yX12_qPartTold) ∈ wsL_law := sk_mem (ck_0 _ (List.mem_of_getElem? (i := 55) rfl)) rfl
theorem w_7_67 : (Cond.methodLink RX12 537 yX12_qGoesOn) ∈ wsL_law := sk_mem (ck_7 _ (List.mem_of_getElem? (i := 67) rfl)) rfl
theorem w_7_69 : (Cond.instanceMethod yX12_qGoesOn) ∈ wsL_law := sk_mem (ck_7 _ (List.mem_of_getElem? (i := 69) rfl)) rfl
theorem w_0_64 : (Cond.selects RX12 yX12_qGoesOn yX12_qGoesOn) ∈ wsL_law := sk_mem (ck_0 _ (List.mem_of_getElem? (i := 64) rfl)) rfl
theorem w_7_30 : (Cond.code yX12_qSums cX12_qSums 3 none) ∈ wsL_law := sk_mem (ck_7 _ (List.mem_of_getElem? (i := 30) rfl)) rfl
theorem dX12_qFact_0 : decode cX12_qFact 0 = .ok (.aload_n 0, 1) := by decide +kernel
theorem dX12_qFact_1 : decode cX12_qFact 1 = .ok (.aload_n 0, 1) := by decide +kernel
theorem dX12_qFact_2 : decode cX12_qFact 2 = .ok (.getfield 141, 3) := by decide +kernel
theorem dX12_qFact_5 : decode cX12_qFact 5 = .ok (.invokevirtual 222, 3) := by decide +kernel
theorem dX12_qFact_8 : decode cX12_qFact 8 = .ok (.ifCond .eq 10, 3) := by decide +kernel
theorem dX12_qFact_18 : decode cX12_qFact 18 = .ok (.aload_n 0, 1) := by decide +kernel
theorem dX12_qFact_19 : decode cX12_qFact 19 = .ok (.invokevirtual 269, 3) := by decide +kernel
theorem dX12_qFact_22 : decode cX12_qFact 22 = .ok (.aload_n 0, 1) := by decide +kernel
theorem dX12_qFact_23 : decode cX12_qFact 23 = .ok (.getfield 195, 3) := by decide +kernel
theorem dX12_qFact_26 : decode cX12_qFact 26 = .ok (.ifCond .eq 4, 3) := by decide +kernel
theorem dX12_qFact_30 : decode cX12_qFact 30 = .ok (.aload_n 0, 1) := by decide +kernel
theorem dX12_qFact_31 : decode cX12_qFact 31 = .ok (.invokevirtual 207, 3) := by decide +kernel
theorem dX12_qFact_34 : decode cX12_qFact 34 = .ok (.istore_n 1, 1) := by decide +kernel
theorem dX12_qFact_35 : decode cX12_qFact 35 = .ok (.iload_n 1, 1) := by decide +kernel
theorem dX12_qFact_36 : decode cX12_qFact 36 = .ok (.bipush 60, 2) := by decide +kernel
theorem dX12_qFact_38 : decode cX12_qFact 38 = .ok (.if_icmp .eq 25, 3) := by decide +kernel
theorem dX12_qFact_63 : decode cX12_qFact 63 = .ok (.aload_n 0, 1) := by decide +kernel
theorem dX12_qFact_64 : decode cX12_qFact 64 = .ok (.dup, 1) := by decide +kernel
theorem dX12_qFact_65 : decode cX12_qFact 65 = .ok (.getfield 201, 3) := by decide +kernel
theorem dX12_qFact_68 : decode cX12_qFact 68 = .ok (.iconst 1, 1) := by decide +kernel
theorem dX12_qFact_69 : decode cX12_qFact 69 = .ok (.iadd, 1) := by decide +kernel
theorem dX12_qFact_70 : decode cX12_qFact 70 = .ok (.putfield 201, 3) := by decide +kernel
theorem dX12_qFact_73 : decode cX12_qFact 73 = .ok (.aload_n 0, 1) := by decide +kernel
theorem dX12_qFact_74 : decode cX12_qFact 74 = .ok (.invokevirtual 269, 3) := by decide +kernel
theorem dX12_qFact_77 : decode cX12_qFact 77 = .ok (.aload_n 0, 1) := by decide +kernel
theorem dX12_qFact_78 : decode cX12_qFact 78 = .ok (.iload_n 1, 1) := by decide +kernel
theorem dX12_qFact_79 : decode cX12_qFact 79 = .ok (.bipush 60, 2) := by decide +kernel
theorem dX12_qFact_81 : decode cX12_qFact 81 = .ok (.if_icmp .ne 8, 3) := by decide +kernel
theorem dX12_qFact_84 : decode cX12_qFact 84 = .ok (.bipush 7, 2) := by decide +kernel
theorem dX12_qFact_86 : decode cX12_qFact 86 = .ok (.goto 16, 3) := by decide +kernel
theorem dX12_qFact_102 : decode cX12_qFact 102 = .ok (.invokevirtual 498, 3) := by decide +kernel
theorem dX12_qFact_105 : decode cX12_qFact 105 = .ok (.return_, 1) := by decide +kernel
theorem dX12_qFact_41 : decode cX12_qFact 41 = .ok (.iload_n 1, 1) := by decide +kernel
theorem dX12_qFact_42 : decode cX12_qFact 42 = .ok (.bipush 62, 2) := by decide +kernel
theorem dX12_qFact_44 : decode cX12_qFact 44 = .ok (.if_icmp .eq 19, 3) := by decide +kernel
theorem dX12_qFact_89 : decode cX12_qFact 89 = .ok (.iload_n 1, 1) := by decide +kernel
theorem dX12_qFact_90 : decode cX12_qFact 90 = .ok (.bipush 62, 2) := by decide +kernel
theorem dX12_qFact_92 : decode cX12_qFact 92 = .ok (.if_icmp .ne 8, 3) := by decide +kernel
theorem dX12_qFact_95 : decode cX12_qFact 95 = .ok (.bipush 8, 2) := by decide +kernel
theorem dX12_qFact_97 : decode cX12_qFact 97 = .ok (.goto 5, 3) := by decide +kernel
theorem dX12_qFact_47 : decode cX12_qFact 47 = .ok (.iload_n 1, 1) := by decide +kernel
theorem dX12_qFact_48 : decode cX12_qFact 48 = .ok (.bipush 61, 2) := by decide +kernel
theorem dX12_qFact_50 : decode cX12_qFact 50 = .ok (.if_icmp .eq 13, 3) := by decide +kernel
theorem dX12_qFact_100 : decode cX12_qFact 100 = .ok (.bipush 9, 2) := by decide +kernel
theorem dX12_qFact_53 : decode cX12_qFact 53 = .ok (.aload_n 0, 1) := by decide +kernel
theorem dX12_qFact_54 : decode cX12_qFact 54 = .ok (.iconst 1, 1) := by decide +kernel
theorem dX12_qFact_55 : decode cX12_qFact 55 = .ok (.aload_n 0, 1) := by decide +kernel
theorem dX12_qFact_56 : decode cX12_qFact 56 = .ok (.getfield 201, 3) := by decide +kernel
theorem dX12_qFact_59 : decode cX12_qFact 59 = .ok (.invokevirtual 225, 3) := by decide +kernel
theorem dX12_qFact_62 : decode cX12_qFact 62 = .ok (.return_, 1) := by decide +kernel
theorem dX12_qFact_29 : decode cX12_qFact 29 = .ok (.return_, 1) := by decide +kernel
theorem dX12_qFact_11 : decode cX12_qFact 11 = .ok (.aload_n 0, 1) := by decide +kernel
theorem dX12_qFact_12 : decode cX12_qFact 12 = .ok (.bipush 13, 2) := by decide +kernel
theorem dX12_qFact_14 : decode cX12_qFact 14 = .ok (.invokevirtual 498, 3) := by decide +kernel
theorem dX12_qFact_17 : decode cX12_qFact 17 = .ok (.return_, 1) := by decide +kernel
theorem w_5_222 : (Cond.fieldLink RX12 141 "SameKeeperModel" "allAsked" "[C") ∈ wsL_law := sk_mem (ck_5 _ (List.mem_of_getElem? (i := 222) rfl)) rfl
theorem w_7_27 : (Cond.methodLink RX12 269 yX12_qSums) ∈ wsL_law := sk_mem (ck_7 _ (List.mem_of_getElem? (i := 27) rfl)) rfl
theorem w_7_29 : (Cond.instanceMethod yX12_qSums) ∈ wsL_law := sk_mem (ck_7 _ (List.mem_of_getElem? (i := 29) rfl)) rfl
theorem w_0_54 : (Cond.selects RX12 yX12_qSums yX12_qSums) ∈ wsL_law := sk_mem (ck_0 _ (List.mem_of_getElem? (i := 54) rfl)) rfl
theorem w_8_178 : (Cond.code yX12_qFact cX12_qFact 2 none) ∈ wsL_law := sk_mem (ck_8 _ (List.mem_of_getElem? (i := 178) rfl)) rfl
theorem dX12_qHasSquare_0 : decode cX12_qHasSquare 0 = .ok (.iconst 0, 1) := by decide +kernel
theorem dX12_qHasSquare_1 : decode cX12_qHasSquare 1 = .ok (.istore_n 1, 1) := by decide +kernel
theorem dX12_qHasSquare_2 : decode cX12_qHasSquare 2 = .ok (.iload_n 1, 1) := by decide +kernel
theorem dX12_qHasSquare_3 : decode cX12_qHasSquare 3 = .ok (.aload_n 0, 1) := by decide +kernel
theorem dX12_qHasSquare_4 : decode cX12_qHasSquare 4 = .ok (.getfield 260, 3) := by decide +kernel
theorem dX12_qHasSquare_7 : decode cX12_qHasSquare 7 = .ok (.if_icmp .ge 22, 3) := by decide +kernel
theorem dX12_qHasSquare_29 : decode cX12_qHasSquare 29 = .ok (.iconst 0, 1) := by decide +kernel
theorem dX12_qHasSquare_30 : decode cX12_qHasSquare 30 = .ok (.ireturn, 1) := by decide +kernel
theorem dX12_qHasSquare_10 : decode cX12_qHasSquare 10 = .ok (.aload_n 0, 1) := by decide +kernel
theorem dX12_qHasSquare_11 : decode cX12_qHasSquare 11 = .ok (.getfield 183, 3) := by decide +kernel
theorem dX12_qHasSquare_14 : decode cX12_qHasSquare 14 = .ok (.iload_n 1, 1) := by decide +kernel
theorem dX12_qHasSquare_15 : decode cX12_qHasSquare 15 = .ok (.iaload, 1) := by decide +kernel
theorem dX12_qHasSquare_16 : decode cX12_qHasSquare 16 = .ok (.bipush 25, 2) := by decide +kernel
theorem dX12_qHasSquare_18 : decode cX12_qHasSquare 18 = .ok (.if_icmp .ne 5, 3) := by decide +kernel
theorem dX12_qHasSquare_23 : decode cX12_qHasSquare 23 = .ok (.iinc 1 1, 3) := by decide +kernel
theorem dX12_qHasSquare_26 : decode cX12_qHasSquare 26 = .ok (.goto (-24), 3) := by decide +kernel
theorem dX12_qHasSquare_21 : decode cX12_qHasSquare 21 = .ok (.iconst 1, 1) := by decide +kernel
theorem dX12_qHasSquare_22 : decode cX12_qHasSquare 22 = .ok (.ireturn, 1) := by decide +kernel
theorem w_8_190 : (Cond.code yX12_qHasSquare cX12_qHasSquare 2 (some .boolean)) ∈ wsL_law := sk_mem (ck_8 _ (List.mem_of_getElem? (i := 190) rfl)) rfl
set_option maxHeartbeats 4000000 in
set_option maxRecDepth 100000 in
theorem c_m_qHasSquare (l : Launch) (D : va_G) (cI cJ cC cZ cS : ClassId) (mm : Nat) (g : Nat → Nat) (ta : Nat) (pa : Nat) (pe : Nat) (pd : Int32) (pb : Nat) (pp : Int32) (pf : Int32) (pg : Int32) (pn : Int32) (rt : Int32) (rn : Int32) (cd : Nat) (sn : Int32) (il : Nat) (tk : Int32) (am : Int32) (at_ : Int32) (aa : Int32) (wt : Int32) (wy : Int64) (rm : Nat) (ud : Nat) (nu : Nat) (sd : Int64) (qn : Nat) (qw : Nat) (qo : Int32) (qb : Nat) (qp : Nat) (qa : Int64) (qi : Nat) (oc : Nat) (qt : Nat → Nat) (hqw : qw ≤ 1700) (hqt : ∀ j, qt j ≤ 100) : skM l yX12_qHasSquare cX12_qHasSquare 2 (some .boolean) 0 0 0 0 D (skT cI cJ cC cZ cS) [.ref mm] [(mm, .inr (12, mo g (nI ta) (nI pa) (nI pe) pd (nI pb) pp pf pg pn rt rn (nI cd) sn (nI il) tk am at_ aa 0 0 (-1) wt wy 0 (nI rm) (nI ud) (nI nu) sd (nI qn) (nI qw) qo (nI qb) (nI qp) qa (nI qi) (nI oc))), (g 82, .inl (cI, 1700, .inl (fun j => nI (qt j))))] (skI D (skT cI cJ cC cZ cS) (fun (r : Int32) (u : va_W) => ∃ (b : Nat), ((b = 0 ∧ noQ qt qw) ∨ (b = 1 ∧ hasQ qt qw)) ∧ r = nI b ∧ u = [(mm, .inr (12, mo g (nI ta) (nI pa) (nI pe) pd (nI pb) pp pf pg pn rt rn (nI cd) sn (nI il) tk am at_ aa 0 0 (-1) wt wy 0 (nI rm) (nI ud) (nI nu) sd (nI qn) (nI qw) qo (nI qb) (nI qp) qa (nI qi) (nI oc))), (g 82, .inl (cI, 1700, .inl (fun j => nI (qt j))))])) := by
  refine skM_of (by decide +kernel) (Nat.le_of_ble_eq_true rfl) ?_
  intro p e s m below meth c A ls E hP hD hl
  obtain ⟨hx, hb, hr, hml, hlocks, hin, hown, hts, hK, hA⟩ := E
  have hown : s.vm.findClass RX12 = some m.cls := hown
  have hS : va_S A s.heap s.heap [] := va_S.rf
  have hl : lv_has ls 2 [(0, .ref mm)] := hl
  refine lv_iconst (v := 0) hx hb dX12_qHasSquare_0 (by decide) ?_
  refine lv_istore_n (lv' := [(1, .int 0), (0, .ref mm)]) hx hb dX12_qHasSquare_1 rfl hl (by decide) rfl (fun ls hl => ?_)
  have lp_1 : ∀ (n_2 : Nat) (i : Nat) (H : Heap) (locs : List Loc) (ls : Array Slot), qw - i < n_2 → (i ≤ qw) → (noQ qt i) → va_P D vwCl [(mm, .inr (12, mo g (nI ta) (nI pa) (nI pe) pd (nI pb) pp pf pg pn rt rn (nI cd) sn (nI il) tk am at_ aa 0 0 (-1) wt wy 0 (nI rm) (nI ud) (nI nu) sd (nI qn) (nI qw) qo (nI qb) (nI qp) qa (nI qi) (nI oc))), (g 82, .inl (cI, 1700, .inl (fun j => nI (qt j))))] H → va_D A [(mm, .inr (12, mo g (nI ta) (nI pa) (nI pe) pd (nI pb) pp pf pg pn rt rn (nI cd) sn (nI il) tk am at_ aa 0 0 (-1) wt wy 0 (nI rm) (nI ud) (nI nu) sd (nI qn) (nI qw) qo (nI qb) (nI qp) qa (nI qi) (nI oc))), (g 82, .inl (cI, 1700, .inl (fun j => nI (qt j))))] → va_S A s.heap H locs → lv_has ls 2 [(1, .int (nI i)), (0, .ref mm)] → W p l e { frames := 0, cells := 0, slots := 0, locals := 0 } s m ([.ref mm] : List Value).toArray below meth c H locs 0 0 (MQ below (skI D (skT cI cJ cC cZ cS) (fun (r : Int32) (u : va_W) => ∃ (b : Nat), ((b = 0 ∧ noQ qt qw) ∨ (b = 1 ∧ hasQ qt qw)) ∧ r = nI b ∧ u = [(mm, .inr (12, mo g (nI ta) (nI pa) (nI pe) pd (nI pb) pp pf pg pn rt rn (nI cd) sn (nI il) tk am at_ aa 0 0 (-1) wt wy 0 (nI rm) (nI ud) (nI nu) sd (nI qn) (nI qw) qo (nI qb) (nI qp) qa (nI qi) (nI oc))), (g 82, .inl (cI, 1700, .inl (fun j => nI (qt j))))]) A) ([.ref mm] : List Value).toArray s 0 0 A) (F0 m 2 ls []) := by
    intro n_2
    induction n_2 with
    | zero => intro i H locs ls hm; exact absurd hm (Nat.not_lt_zero _)
    | succ n_2 ih_lp_1 =>
      intro i H locs ls hm hi hnq hP hD hS hl
      refine lv_iload_n hx hb dX12_qHasSquare_2 rfl (lv_at hl 0 rfl) ?_
      refine lv_aload_n hx hb dX12_qHasSquare_3 rfl (lv_at hl 1 rfl) ?_
      refine sk_get (v := .int (nI qw)) (C := RX12) (T := TX12) (N := 92) hx hb hts inlX12 hown hK hP 0 rfl rfl 83 (by decide) w_5_238 rfl dX12_qHasSquare_4 ?_
      refine lv_icmp_ge (tgt := 29) hx hb dX12_qHasSquare_7 (by decide) (fun c_3 => ?_) (fun c_3 => ?_)
      · have c_3 : qw ≤ i := (nle qw i (by omega) (by omega)).mp c_3
        refine lv_iconst (v := 0) hx hb dX12_qHasSquare_29 (by decide) ?_
        exact sk_iret hx hb hr rfl hlocks hK hP hD hS (⟨0, (Or.inl ⟨rfl, noQ_le hnq (by omega)⟩), rfl, rfl⟩) (Nat.le_of_ble_eq_true rfl) (Nat.le_of_ble_eq_true rfl) dX12_qHasSquare_30
      · have c_3 : ¬ (qw ≤ i) := fun h => c_3 ((nle qw i (by omega) (by omega)).mpr h)
        refine lv_aload_n hx hb dX12_qHasSquare_10 rfl (lv_at hl 1 rfl) ?_
        refine sk_get (v := .ref (g 82)) (C := RX12) (T := TX12) (N := 92) hx hb hts inlX12 hown hK hP 0 rfl rfl 82 (by decide) w_5_237 rfl dX12_qHasSquare_11 ?_
        refine lv_iload_n hx hb dX12_qHasSquare_14 rfl (lv_at hl 0 rfl) ?_
        refine va_iald hx hb hK.1 hP 1 0 rfl rfl (vin i 1700 (by omega) (by omega)) dX12_qHasSquare_15 ?_
        refine sk_top (nI (qt i)) (nrd qt i (by omega)) ?_
        have hb_4 := hqt i
        refine lv_bipush (v := 25) hx hb dX12_qHasSquare_16 (by decide) ?_
        refine lv_icmp_ne (tgt := 23) hx hb dX12_qHasSquare_18 (by decide) (fun c_5 => ?_) (fun c_5 => ?_)
        · have c_5 : ¬ (qt i = 25) := fun h => c_5 ((neq (qt i) 25 (by omega) (by omega)).mpr h)
          refine lv_iinc (v := nI (i + 1)) (lv' := [(1, .int (nI (i + 1))), (0, .ref mm)]) hx hb dX12_qHasSquare_23 hl (k := 0) rfl (ninc i 1 (by decide)) (by decide) rfl (fun ls hl => ?_)
          refine lv_goto (tgt := 2) hx hb dX12_qHasSquare_26 (by decide) ?_
          exact ih_lp_1 (i + 1) _ _ _ (by omega) (by omega) (noQ_s hnq (by omega)) hP hD hS (lv_sub hl [0, 1] rfl)
        · have c_5 : qt i = 25 := (neq (qt i) 25 (by omega) (by omega)).mp c_5
          refine lv_iconst (v := 1) hx hb dX12_qHasSquare_21 (by decide) ?_
          exact sk_iret hx hb hr rfl hlocks hK hP hD hS (⟨1, (Or.inr ⟨rfl, hasQ_i (by omega) c_5⟩), rfl, rfl⟩) (Nat.le_of_ble_eq_true rfl) (Nat.le_of_ble_eq_true rfl) dX12_qHasSquare_22
  exact lp_1 (qw - 0 + 1) 0 _ _ _ (Nat.lt_succ_self _) (by omega) noQ_0 hP hD hS (lv_sub hl [0, 1] rfl)
theorem dX12_qDropsNots_0 : decode cX12_qDropsNots 0 = .ok (.aload_n 0, 1) := by decide +kernel
theorem dX12_qDropsNots_1 : decode cX12_qDropsNots 1 = .ok (.getfield 195, 3) := by decide +kernel
theorem dX12_qDropsNots_4 : decode cX12_qDropsNots 4 = .ok (.ifCond .ne 29, 3) := by decide +kernel
theorem dX12_qDropsNots_33 : decode cX12_qDropsNots 33 = .ok (.return_, 1) := by decide +kernel
theorem dX12_qDropsNots_7 : decode cX12_qDropsNots 7 = .ok (.aload_n 0, 1) := by decide +kernel
theorem dX12_qDropsNots_8 : decode cX12_qDropsNots 8 = .ok (.bipush 12, 2) := by decide +kernel
theorem dX12_qDropsNots_10 : decode cX12_qDropsNots 10 = .ok (.invokevirtual 531, 3) := by decide +kernel
theorem dX12_qDropsNots_13 : decode cX12_qDropsNots 13 = .ok (.ifCond .eq 20, 3) := by decide +kernel
theorem dX12_qDropsNots_16 : decode cX12_qDropsNots 16 = .ok (.aload_n 0, 1) := by decide +kernel
theorem dX12_qDropsNots_17 : decode cX12_qDropsNots 17 = .ok (.dup, 1) := by decide +kernel
theorem dX12_qDropsNots_18 : decode cX12_qDropsNots 18 = .ok (.getfield 263, 3) := by decide +kernel
theorem dX12_qDropsNots_21 : decode cX12_qDropsNots 21 = .ok (.iconst 1, 1) := by decide +kernel
theorem dX12_qDropsNots_22 : decode cX12_qDropsNots 22 = .ok (.isub, 1) := by decide +kernel
theorem dX12_qDropsNots_23 : decode cX12_qDropsNots 23 = .ok (.putfield 263, 3) := by decide +kernel
theorem dX12_qDropsNots_26 : decode cX12_qDropsNots 26 = .ok (.aload_n 0, 1) := by decide +kernel
theorem dX12_qDropsNots_27 : decode cX12_qDropsNots 27 = .ok (.invokevirtual 504, 3) := by decide +kernel
theorem dX12_qDropsNots_30 : decode cX12_qDropsNots 30 = .ok (.goto (-30), 3) := by decide +kernel
theorem w_8_182 : (Cond.code yX12_qDropsNots cX12_qDropsNots 1 none) ∈ wsL_law := sk_mem (ck_8 _ (List.mem_of_getElem? (i := 182) rfl)) rfl
theorem dX12_qGoesOnTest_0 : decode cX12_qGoesOnTest 0 = .ok (.aload_n 0, 1) := by decide +kernel
theorem dX12_qGoesOnTest_1 : decode cX12_qGoesOnTest 1 = .ok (.getfield 195, 3) := by decide +kernel
theorem dX12_qGoesOnTest_4 : decode cX12_qGoesOnTest 4 = .ok (.ifCond .ne 72, 3) := by decide +kernel
theorem dX12_qGoesOnTest_76 : decode cX12_qGoesOnTest 76 = .ok (.aload_n 0, 1) := by decide +kernel
theorem dX12_qGoesOnTest_77 : decode cX12_qGoesOnTest 77 = .ok (.aload_n 0, 1) := by decide +kernel
theorem dX12_qGoesOnTest_78 : decode cX12_qGoesOnTest 78 = .ok (.getfield 135, 3) := by decide +kernel
theorem dX12_qGoesOnTest_81 : decode cX12_qGoesOnTest 81 = .ok (.invokevirtual 222, 3) := by decide +kernel
theorem dX12_qGoesOnTest_84 : decode cX12_qGoesOnTest 84 = .ok (.ifCond .eq 42, 3) := by decide +kernel
theorem dX12_qGoesOnTest_126 : decode cX12_qGoesOnTest 126 = .ok (.aload_n 0, 1) := by decide +kernel
theorem dX12_qGoesOnTest_127 : decode cX12_qGoesOnTest 127 = .ok (.aload_n 0, 1) := by decide +kernel
theorem dX12_qGoesOnTest_128 : decode cX12_qGoesOnTest 128 = .ok (.getfield 138, 3) := by decide +kernel
theorem dX12_qGoesOnTest_131 : decode cX12_qGoesOnTest 131 = .ok (.invokevirtual 222, 3) := by decide +kernel
theorem dX12_qGoesOnTest_134 : decode cX12_qGoesOnTest 134 = .ok (.ifCond .eq 51, 3) := by decide +kernel
theorem dX12_qGoesOnTest_185 : decode cX12_qGoesOnTest 185 = .ok (.aload_n 0, 1) := by decide +kernel
theorem dX12_qGoesOnTest_186 : decode cX12_qGoesOnTest 186 = .ok (.getfield 195, 3) := by decide +kernel
theorem dX12_qGoesOnTest_189 : decode cX12_qGoesOnTest 189 = .ok (.ifCond .ne 19, 3) := by decide +kernel
theorem dX12_qGoesOnTest_208 : decode cX12_qGoesOnTest 208 = .ok (.iconst 0, 1) := by decide +kernel
theorem dX12_qGoesOnTest_209 : decode cX12_qGoesOnTest 209 = .ok (.ireturn, 1) := by decide +kernel
theorem dX12_qGoesOnTest_192 : decode cX12_qGoesOnTest 192 = .ok (.aload_n 0, 1) := by decide +kernel
theorem dX12_qGoesOnTest_193 : decode cX12_qGoesOnTest 193 = .ok (.invokevirtual 549, 3) := by decide +kernel
theorem dX12_qGoesOnTest_196 : decode cX12_qGoesOnTest 196 = .ok (.ifCond .eq 12, 3) := by decide +kernel
theorem dX12_qGoesOnTest_199 : decode cX12_qGoesOnTest 199 = .ok (.aload_n 0, 1) := by decide +kernel
theorem dX12_qGoesOnTest_200 : decode cX12_qGoesOnTest 200 = .ok (.iconst 1, 1) := by decide +kernel
theorem dX12_qGoesOnTest_201 : decode cX12_qGoesOnTest 201 = .ok (.aload_n 0, 1) := by decide +kernel
theorem dX12_qGoesOnTest_202 : decode cX12_qGoesOnTest 202 = .ok (.getfield 201, 3) := by decide +kernel
theorem dX12_qGoesOnTest_205 : decode cX12_qGoesOnTest 205 = .ok (.invokevirtual 225, 3) := by decide +kernel
theorem dX12_qGoesOnTest_137 : decode cX12_qGoesOnTest 137 = .ok (.aload_n 0, 1) := by decide +kernel
theorem dX12_qGoesOnTest_138 : decode cX12_qGoesOnTest 138 = .ok (.bipush 10, 2) := by decide +kernel
theorem dX12_qGoesOnTest_140 : decode cX12_qGoesOnTest 140 = .ok (.invokevirtual 531, 3) := by decide +kernel
theorem dX12_qGoesOnTest_143 : decode cX12_qGoesOnTest 143 = .ok (.ifCond .ne 12, 3) := by decide +kernel
theorem dX12_qGoesOnTest_155 : decode cX12_qGoesOnTest 155 = .ok (.aload_n 0, 1) := by decide +kernel
theorem dX12_qGoesOnTest_156 : decode cX12_qGoesOnTest 156 = .ok (.invokevirtual 504, 3) := by decide +kernel
theorem dX12_qGoesOnTest_159 : decode cX12_qGoesOnTest 159 = .ok (.goto (-22), 3) := by decide +kernel
theorem dX12_qGoesOnTest_146 : decode cX12_qGoesOnTest 146 = .ok (.aload_n 0, 1) := by decide +kernel
theorem dX12_qGoesOnTest_147 : decode cX12_qGoesOnTest 147 = .ok (.bipush 11, 2) := by decide +kernel
theorem dX12_qGoesOnTest_149 : decode cX12_qGoesOnTest 149 = .ok (.invokevirtual 531, 3) := by decide +kernel
theorem dX12_qGoesOnTest_152 : decode cX12_qGoesOnTest 152 = .ok (.ifCond .eq 10, 3) := by decide +kernel
theorem dX12_qGoesOnTest_162 : decode cX12_qGoesOnTest 162 = .ok (.aload_n 0, 1) := by decide +kernel
theorem dX12_qGoesOnTest_163 : decode cX12_qGoesOnTest 163 = .ok (.getfield 183, 3) := by decide +kernel
theorem dX12_qGoesOnTest_166 : decode cX12_qGoesOnTest 166 = .ok (.aload_n 0, 1) := by decide +kernel
theorem dX12_qGoesOnTest_167 : decode cX12_qGoesOnTest 167 = .ok (.getfield 260, 3) := by decide +kernel
theorem dX12_qGoesOnTest_170 : decode cX12_qGoesOnTest 170 = .ok (.bipush 11, 2) := by decide +kernel
theorem dX12_qGoesOnTest_172 : decode cX12_qGoesOnTest 172 = .ok (.iastore, 1) := by decide +kernel
theorem dX12_qGoesOnTest_173 : decode cX12_qGoesOnTest 173 = .ok (.aload_n 0, 1) := by decide +kernel
theorem dX12_qGoesOnTest_174 : decode cX12_qGoesOnTest 174 = .ok (.dup, 1) := by decide +kernel
theorem dX12_qGoesOnTest_175 : decode cX12_qGoesOnTest 175 = .ok (.getfield 260, 3) := by decide +kernel
theorem dX12_qGoesOnTest_178 : decode cX12_qGoesOnTest 178 = .ok (.iconst 1, 1) := by decide +kernel
theorem dX12_qGoesOnTest_179 : decode cX12_qGoesOnTest 179 = .ok (.iadd, 1) := by decide +kernel
theorem dX12_qGoesOnTest_180 : decode cX12_qGoesOnTest 180 = .ok (.putfield 260, 3) := by decide +kernel
theorem dX12_qGoesOnTest_183 : decode cX12_qGoesOnTest 183 = .ok (.iconst 1, 1) := by decide +kernel
theorem dX12_qGoesOnTest_184 : decode cX12_qGoesOnTest 184 = .ok (.ireturn, 1) := by decide +kernel
theorem dX12_qGoesOnTest_87 : decode cX12_qGoesOnTest 87 = .ok (.aload_n 0, 1) := by decide +kernel
theorem dX12_qGoesOnTest_88 : decode cX12_qGoesOnTest 88 = .ok (.bipush 10, 2) := by decide +kernel
theorem dX12_qGoesOnTest_90 : decode cX12_qGoesOnTest 90 = .ok (.invokevirtual 531, 3) := by decide +kernel
theorem dX12_qGoesOnTest_93 : decode cX12_qGoesOnTest 93 = .ok (.ifCond .eq 10, 3) := by decide +kernel
theorem dX12_qGoesOnTest_103 : decode cX12_qGoesOnTest 103 = .ok (.aload_n 0, 1) := by decide +kernel
theorem dX12_qGoesOnTest_104 : decode cX12_qGoesOnTest 104 = .ok (.getfield 183, 3) := by decide +kernel
theorem dX12_qGoesOnTest_107 : decode cX12_qGoesOnTest 107 = .ok (.aload_n 0, 1) := by decide +kernel
theorem dX12_qGoesOnTest_108 : decode cX12_qGoesOnTest 108 = .ok (.getfield 260, 3) := by decide +kernel
theorem dX12_qGoesOnTest_111 : decode cX12_qGoesOnTest 111 = .ok (.bipush 10, 2) := by decide +kernel
theorem dX12_qGoesOnTest_113 : decode cX12_qGoesOnTest 113 = .ok (.iastore, 1) := by decide +kernel
theorem dX12_qGoesOnTest_114 : decode cX12_qGoesOnTest 114 = .ok (.aload_n 0, 1) := by decide +kernel
theorem dX12_qGoesOnTest_115 : decode cX12_qGoesOnTest 115 = .ok (.dup, 1) := by decide +kernel
theorem dX12_qGoesOnTest_116 : decode cX12_qGoesOnTest 116 = .ok (.getfield 260, 3) := by decide +kernel
theorem dX12_qGoesOnTest_119 : decode cX12_qGoesOnTest 119 = .ok (.iconst 1, 1) := by decide +kernel
theorem dX12_qGoesOnTest_120 : decode cX12_qGoesOnTest 120 = .ok (.iadd, 1) := by decide +kernel
theorem dX12_qGoesOnTest_121 : decode cX12_qGoesOnTest 121 = .ok (.putfield 260, 3) := by decide +kernel
theorem dX12_qGoesOnTest_124 : decode cX12_qGoesOnTest 124 = .ok (.iconst 1, 1) := by decide +kernel
theorem dX12_qGoesOnTest_125 : decode cX12_qGoesOnTest 125 = .ok (.ireturn, 1) := by decide +kernel
theorem dX12_qGoesOnTest_96 : decode cX12_qGoesOnTest 96 = .ok (.aload_n 0, 1) := by decide +kernel
theorem dX12_qGoesOnTest_97 : decode cX12_qGoesOnTest 97 = .ok (.invokevirtual 504, 3) := by decide +kernel
theorem dX12_qGoesOnTest_100 : decode cX12_qGoesOnTest 100 = .ok (.goto (-13), 3) := by decide +kernel
theorem dX12_qGoesOnTest_7 : decode cX12_qGoesOnTest 7 = .ok (.aload_n 0, 1) := by decide +kernel
theorem dX12_qGoesOnTest_8 : decode cX12_qGoesOnTest 8 = .ok (.invokevirtual 207, 3) := by decide +kernel
theorem dX12_qGoesOnTest_11 : decode cX12_qGoesOnTest 11 = .ok (.bipush 93, 2) := by decide +kernel
theorem dX12_qGoesOnTest_13 : decode cX12_qGoesOnTest 13 = .ok (.if_icmp .ne 63, 3) := by decide +kernel
theorem dX12_qGoesOnTest_16 : decode cX12_qGoesOnTest 16 = .ok (.aload_n 0, 1) := by decide +kernel
theorem dX12_qGoesOnTest_17 : decode cX12_qGoesOnTest 17 = .ok (.invokevirtual 549, 3) := by decide +kernel
theorem dX12_qGoesOnTest_20 : decode cX12_qGoesOnTest 20 = .ok (.ifCond .eq 56, 3) := by decide +kernel
theorem dX12_qGoesOnTest_23 : decode cX12_qGoesOnTest 23 = .ok (.aload_n 0, 1) := by decide +kernel
theorem dX12_qGoesOnTest_24 : decode cX12_qGoesOnTest 24 = .ok (.dup, 1) := by decide +kernel
theorem dX12_qGoesOnTest_25 : decode cX12_qGoesOnTest 25 = .ok (.getfield 201, 3) := by decide +kernel
theorem dX12_qGoesOnTest_28 : decode cX12_qGoesOnTest 28 = .ok (.iconst 1, 1) := by decide +kernel
theorem dX12_qGoesOnTest_29 : decode cX12_qGoesOnTest 29 = .ok (.iadd, 1) := by decide +kernel
theorem dX12_qGoesOnTest_30 : decode cX12_qGoesOnTest 30 = .ok (.putfield 201, 3) := by decide +kernel
theorem dX12_qGoesOnTest_33 : decode cX12_qGoesOnTest 33 = .ok (.aload_n 0, 1) := by decide +kernel
theorem dX12_qGoesOnTest_34 : decode cX12_qGoesOnTest 34 = .ok (.bipush 25, 2) := by decide +kernel
theorem dX12_qGoesOnTest_36 : decode cX12_qGoesOnTest 36 = .ok (.invokevirtual 531, 3) := by decide +kernel
theorem dX12_qGoesOnTest_39 : decode cX12_qGoesOnTest 39 = .ok (.ifCond .ne 10, 3) := by decide +kernel
theorem dX12_qGoesOnTest_49 : decode cX12_qGoesOnTest 49 = .ok (.aload_n 0, 1) := by decide +kernel
theorem dX12_qGoesOnTest_50 : decode cX12_qGoesOnTest 50 = .ok (.dup, 1) := by decide +kernel
theorem dX12_qGoesOnTest_51 : decode cX12_qGoesOnTest 51 = .ok (.getfield 260, 3) := by decide +kernel
theorem dX12_qGoesOnTest_54 : decode cX12_qGoesOnTest 54 = .ok (.iconst 1, 1) := by decide +kernel
theorem dX12_qGoesOnTest_55 : decode cX12_qGoesOnTest 55 = .ok (.isub, 1) := by decide +kernel
theorem dX12_qGoesOnTest_56 : decode cX12_qGoesOnTest 56 = .ok (.putfield 260, 3) := by decide +kernel
theorem dX12_qGoesOnTest_59 : decode cX12_qGoesOnTest 59 = .ok (.aload_n 0, 1) := by decide +kernel
theorem dX12_qGoesOnTest_60 : decode cX12_qGoesOnTest 60 = .ok (.dup, 1) := by decide +kernel
theorem dX12_qGoesOnTest_61 : decode cX12_qGoesOnTest 61 = .ok (.getfield 263, 3) := by decide +kernel
theorem dX12_qGoesOnTest_64 : decode cX12_qGoesOnTest 64 = .ok (.iconst 1, 1) := by decide +kernel
theorem dX12_qGoesOnTest_65 : decode cX12_qGoesOnTest 65 = .ok (.isub, 1) := by decide +kernel
theorem dX12_qGoesOnTest_66 : decode cX12_qGoesOnTest 66 = .ok (.putfield 263, 3) := by decide +kernel
theorem dX12_qGoesOnTest_69 : decode cX12_qGoesOnTest 69 = .ok (.aload_n 0, 1) := by decide +kernel
theorem dX12_qGoesOnTest_70 : decode cX12_qGoesOnTest 70 = .ok (.invokevirtual 543, 3) := by decide +kernel
theorem dX12_qGoesOnTest_73 : decode cX12_qGoesOnTest 73 = .ok (.goto (-73), 3) := by decide +kernel
theorem dX12_qGoesOnTest_42 : decode cX12_qGoesOnTest 42 = .ok (.aload_n 0, 1) := by decide +kernel
theorem dX12_qGoesOnTest_43 : decode cX12_qGoesOnTest 43 = .ok (.invokevirtual 504, 3) := by decide +kernel
theorem dX12_qGoesOnTest_46 : decode cX12_qGoesOnTest 46 = .ok (.goto (-13), 3) := by decide +kernel
theorem w_5_220 : (Cond.fieldLink RX12 135 "SameKeeperModel" "andAsked" "[C") ∈ wsL_law := sk_mem (ck_5 _ (List.mem_of_getElem? (i := 220) rfl)) rfl
theorem w_5_221 : (Cond.fieldLink RX12 138 "SameKeeperModel" "orAsked" "[C") ∈ wsL_law := sk_mem (ck_5 _ (List.mem_of_getElem? (i := 221) rfl)) rfl
theorem w_8_187 : (Cond.methodLink RX12 549 yX12_qHasSquare) ∈ wsL_law := sk_mem (ck_8 _ (List.mem_of_getElem? (i := 187) rfl)) rfl
theorem w_8_189 : (Cond.instanceMethod yX12_qHasSquare) ∈ wsL_law := sk_mem (ck_8 _ (List.mem_of_getElem? (i := 189) rfl)) rfl
theorem w_0_115 : (Cond.selects RX12 yX12_qHasSquare yX12_qHasSquare) ∈ wsL_law := sk_mem (ck_0 _ (List.mem_of_getElem? (i := 115) rfl)) rfl
theorem w_8_179 : (Cond.methodLink RX12 543 yX12_qDropsNots) ∈ wsL_law := sk_mem (ck_8 _ (List.mem_of_getElem? (i := 179) rfl)) rfl
theorem w_8_181 : (Cond.instanceMethod yX12_qDropsNots) ∈ wsL_law := sk_mem (ck_8 _ (List.mem_of_getElem? (i := 181) rfl)) rfl
theorem w_0_113 : (Cond.selects RX12 yX12_qDropsNots yX12_qDropsNots) ∈ wsL_law := sk_mem (ck_0 _ (List.mem_of_getElem? (i := 113) rfl)) rfl
theorem w_8_186 : (Cond.code yX12_qGoesOnTest cX12_qGoesOnTest 1 (some .boolean)) ∈ wsL_law := sk_mem (ck_8 _ (List.mem_of_getElem? (i := 186) rfl)) rfl
theorem dX12_qTest_0 : decode cX12_qTest 0 = .ok (.iconst 1, 1) := by decide +kernel
theorem dX12_qTest_1 : decode cX12_qTest 1 = .ok (.istore_n 1, 1) := by decide +kernel
theorem dX12_qTest_2 : decode cX12_qTest 2 = .ok (.iload_n 1, 1) := by decide +kernel
theorem dX12_qTest_3 : decode cX12_qTest 3 = .ok (.ifCond .eq 107, 3) := by decide +kernel
theorem dX12_qTest_110 : decode cX12_qTest 110 = .ok (.aload_n 0, 1) := by decide +kernel
theorem dX12_qTest_111 : decode cX12_qTest 111 = .ok (.getfield 195, 3) := by decide +kernel
theorem dX12_qTest_114 : decode cX12_qTest 114 = .ok (.ifCond .ne 17, 3) := by decide +kernel
theorem dX12_qTest_131 : decode cX12_qTest 131 = .ok (.return_, 1) := by decide +kernel
theorem dX12_qTest_117 : decode cX12_qTest 117 = .ok (.aload_n 0, 1) := by decide +kernel
theorem dX12_qTest_118 : decode cX12_qTest 118 = .ok (.getfield 260, 3) := by decide +kernel
theorem dX12_qTest_121 : decode cX12_qTest 121 = .ok (.ifCond .le 10, 3) := by decide +kernel
theorem dX12_qTest_124 : decode cX12_qTest 124 = .ok (.aload_n 0, 1) := by decide +kernel
theorem dX12_qTest_125 : decode cX12_qTest 125 = .ok (.invokevirtual 504, 3) := by decide +kernel
theorem dX12_qTest_128 : decode cX12_qTest 128 = .ok (.goto (-18), 3) := by decide +kernel
theorem dX12_qTest_6 : decode cX12_qTest 6 = .ok (.aload_n 0, 1) := by decide +kernel
theorem dX12_qTest_7 : decode cX12_qTest 7 = .ok (.getfield 195, 3) := by decide +kernel
theorem dX12_qTest_10 : decode cX12_qTest 10 = .ok (.ifCond .ne 100, 3) := by decide +kernel
theorem dX12_qTest_13 : decode cX12_qTest 13 = .ok (.aload_n 0, 1) := by decide +kernel
theorem dX12_qTest_14 : decode cX12_qTest 14 = .ok (.invokevirtual 207, 3) := by decide +kernel
theorem dX12_qTest_17 : decode cX12_qTest 17 = .ok (.istore_n 2, 1) := by decide +kernel
theorem dX12_qTest_18 : decode cX12_qTest 18 = .ok (.iload_n 2, 1) := by decide +kernel
theorem dX12_qTest_19 : decode cX12_qTest 19 = .ok (.bipush 91, 2) := by decide +kernel
theorem dX12_qTest_21 : decode cX12_qTest 21 = .ok (.if_icmp .ne 26, 3) := by decide +kernel
theorem dX12_qTest_47 : decode cX12_qTest 47 = .ok (.aload_n 0, 1) := by decide +kernel
theorem dX12_qTest_48 : decode cX12_qTest 48 = .ok (.aload_n 0, 1) := by decide +kernel
theorem dX12_qTest_49 : decode cX12_qTest 49 = .ok (.getfield 132, 3) := by decide +kernel
theorem dX12_qTest_52 : decode cX12_qTest 52 = .ok (.invokevirtual 218, 3) := by decide +kernel
theorem dX12_qTest_55 : decode cX12_qTest 55 = .ok (.ifCond .eq 24, 3) := by decide +kernel
theorem dX12_qTest_79 : decode cX12_qTest 79 = .ok (.aload_n 0, 1) := by decide +kernel
theorem dX12_qTest_80 : decode cX12_qTest 80 = .ok (.invokevirtual 540, 3) := by decide +kernel
theorem dX12_qTest_83 : decode cX12_qTest 83 = .ok (.aload_n 0, 1) := by decide +kernel
theorem dX12_qTest_84 : decode cX12_qTest 84 = .ok (.invokevirtual 543, 3) := by decide +kernel
theorem dX12_qTest_87 : decode cX12_qTest 87 = .ok (.aload_n 0, 1) := by decide +kernel
theorem dX12_qTest_88 : decode cX12_qTest 88 = .ok (.getfield 195, 3) := by decide +kernel
theorem dX12_qTest_91 : decode cX12_qTest 91 = .ok (.ifCond .ne 14, 3) := by decide +kernel
theorem dX12_qTest_105 : decode cX12_qTest 105 = .ok (.iconst 0, 1) := by decide +kernel
theorem dX12_qTest_106 : decode cX12_qTest 106 = .ok (.istore_n 1, 1) := by decide +kernel
theorem dX12_qTest_107 : decode cX12_qTest 107 = .ok (.goto (-105), 3) := by decide +kernel
theorem dX12_qTest_94 : decode cX12_qTest 94 = .ok (.aload_n 0, 1) := by decide +kernel
theorem dX12_qTest_95 : decode cX12_qTest 95 = .ok (.invokevirtual 546, 3) := by decide +kernel
theorem dX12_qTest_98 : decode cX12_qTest 98 = .ok (.ifCond .eq 7, 3) := by decide +kernel
theorem dX12_qTest_101 : decode cX12_qTest 101 = .ok (.iconst 1, 1) := by decide +kernel
theorem dX12_qTest_102 : decode cX12_qTest 102 = .ok (.goto 4, 3) := by decide +kernel
theorem dX12_qTest_58 : decode cX12_qTest 58 = .ok (.aload_n 0, 1) := by decide +kernel
theorem dX12_qTest_59 : decode cX12_qTest 59 = .ok (.bipush 12, 2) := by decide +kernel
theorem dX12_qTest_61 : decode cX12_qTest 61 = .ok (.aload_n 0, 1) := by decide +kernel
theorem dX12_qTest_62 : decode cX12_qTest 62 = .ok (.getfield 201, 3) := by decide +kernel
theorem dX12_qTest_65 : decode cX12_qTest 65 = .ok (.invokevirtual 516, 3) := by decide +kernel
theorem dX12_qTest_68 : decode cX12_qTest 68 = .ok (.aload_n 0, 1) := by decide +kernel
theorem dX12_qTest_69 : decode cX12_qTest 69 = .ok (.aload_n 0, 1) := by decide +kernel
theorem dX12_qTest_70 : decode cX12_qTest 70 = .ok (.getfield 132, 3) := by decide +kernel
theorem dX12_qTest_73 : decode cX12_qTest 73 = .ok (.invokevirtual 245, 3) := by decide +kernel
theorem dX12_qTest_76 : decode cX12_qTest 76 = .ok (.goto (-74), 3) := by decide +kernel
theorem dX12_qTest_24 : decode cX12_qTest 24 = .ok (.aload_n 0, 1) := by decide +kernel
theorem dX12_qTest_25 : decode cX12_qTest 25 = .ok (.bipush 25, 2) := by decide +kernel
theorem dX12_qTest_27 : decode cX12_qTest 27 = .ok (.aload_n 0, 1) := by decide +kernel
theorem dX12_qTest_28 : decode cX12_qTest 28 = .ok (.getfield 201, 3) := by decide +kernel
theorem dX12_qTest_31 : decode cX12_qTest 31 = .ok (.invokevirtual 516, 3) := by decide +kernel
theorem dX12_qTest_34 : decode cX12_qTest 34 = .ok (.aload_n 0, 1) := by decide +kernel
theorem dX12_qTest_35 : decode cX12_qTest 35 = .ok (.dup, 1) := by decide +kernel
theorem dX12_qTest_36 : decode cX12_qTest 36 = .ok (.getfield 201, 3) := by decide +kernel
theorem dX12_qTest_39 : decode cX12_qTest 39 = .ok (.iconst 1, 1) := by decide +kernel
theorem dX12_qTest_40 : decode cX12_qTest 40 = .ok (.iadd, 1) := by decide +kernel
theorem dX12_qTest_41 : decode cX12_qTest 41 = .ok (.putfield 201, 3) := by decide +kernel
theorem dX12_qTest_44 : decode cX12_qTest 44 = .ok (.goto (-42), 3) := by decide +kernel
theorem w_5_219 : (Cond.fieldLink RX12 132 "SameKeeperModel" "notAsked" "[C") ∈ wsL_law := sk_mem (ck_5 _ (List.mem_of_getElem? (i := 219) rfl)) rfl
theorem w_8_175 : (Cond.methodLink RX12 540 yX12_qFact) ∈ wsL_law := sk_mem (ck_8 _ (List.mem_of_getElem? (i := 175) rfl)) rfl
theorem w_8_177 : (Cond.instanceMethod yX12_qFact) ∈ wsL_law := sk_mem (ck_8 _ (List.mem_of_getElem? (i := 177) rfl)) rfl
theorem w_0_112 : (Cond.selects RX12 yX12_qFact yX12_qFact) ∈ wsL_law := sk_mem (ck_0 _ (List.mem_of_getElem? (i := 112) rfl)) rfl
theorem w_8_183 : (Cond.methodLink RX12 546 yX12_qGoesOnTest) ∈ wsL_law := sk_mem (ck_8 _ (List.mem_of_getElem? (i := 183) rfl)) rfl
theorem w_8_185 : (Cond.instanceMethod yX12_qGoesOnTest) ∈ wsL_law := sk_mem (ck_8 _ (List.mem_of_getElem? (i := 185) rfl)) rfl
theorem w_0_114 : (Cond.selects RX12 yX12_qGoesOnTest yX12_qGoesOnTest) ∈ wsL_law := sk_mem (ck_0 _ (List.mem_of_getElem? (i := 114) rfl)) rfl
theorem w_8_174 : (Cond.code yX12_qTest cX12_qTest 3 none) ∈ wsL_law := sk_mem (ck_8 _ (List.mem_of_getElem? (i := 174) rfl)) rfl
theorem dk_congr {f g : Nat → Nat} {n : Nat} (h : ∀ j, j < n → f j = g j) : dk f n = dk g n := by
  induction n with
  | zero => rfl
  | succ n ih => rw [dk, dk, ih (fun j hj => h j (by omega)), h n (by omega)]
theorem de_dk {f : Nat → Nat} {n : Nat} (h : nnc f 0 n) : de f n ≤ dk f n := by
  induction n with
  | zero => exact Nat.le_refl _
  | succ n ih =>
    have h1 := ih (fun j q1 q2 => h j q1 (by omega))
    have h2 := h n (by omega) (by omega)
    rw [dk, de]
    split
    · rw [if_neg (by omega)]; omega
    · split
      · rw [if_neg (by omega)]; omega
      · rw [if_pos (by omega)]; omega
def cpy (cs qs : Nat → Nat) (c i : Nat) (zs : Nat → Nat) : Prop := ∀ j, zs j = if c ≤ j ∧ j < c + i then qs (j - c) else cs j
theorem cpy_0 {cs qs : Nat → Nat} {c : Nat} : cpy cs qs c 0 cs := fun j => by rw [if_neg (by omega)]
theorem cpy_s {cs qs zs zs2 : Nat → Nat} {c i k v : Nat} (h : cpy cs qs c i zs) (hk : k = c + i) (e : zs2 = updN zs k v) (hv : v = qs i) : cpy cs qs c (i + 1) zs2 := by
  subst e; subst hk; subst hv
  intro j
  by_cases q : j = c + i
  · subst q; rw [updN_at, if_pos (by omega), show c + i - c = i by omega]
  · rw [updN_ne zs q, h j]
    by_cases q2 : c ≤ j ∧ j < c + i
    · rw [if_pos q2, if_pos (by omega)]
    · rw [if_neg q2, if_neg (by omega)]
theorem cpy_in {cs qs zs : Nat → Nat} {c i j : Nat} (h : cpy cs qs c i zs) (hj : j < i) : zs (c + j) = qs j := by
  rw [h (c + j), if_pos (by omega), show c + j - c = j by omega]
theorem cpy_out {cs qs zs : Nat → Nat} {c i j : Nat} (h : cpy cs qs c i zs) (hj : ¬ (c ≤ j ∧ j < c + i)) : zs j = cs j := by
  rw [h j, if_neg hj]
theorem pv_congr {f g : Nat → Nat} {o o' n : Nat} (h : ∀ j, j < n → f (o + j) = g (o' + j)) (hp : pv f o n) : pv g o' n := by
  intro j hj hc
  rw [← h j hj] at hc
  have h1 := hp j hj hc
  rw [dk_congr (f := fun i => g (o' + i)) (g := fun i => f (o + i)) (fun i hi => (h i (by omega)).symm)]
  exact h1
def lowOk (cs : Nat → Nat) (c : Nat) (x y : Int32) : Prop := x = -1 ∨ ∃ a b : Nat, a ≤ b ∧ b ≤ c ∧ x = nI a ∧ y = nI b ∧ pv cs a (b - a)
theorem low_cpy {cs qs zs : Nat → Nat} {c i k : Nat} {x y : Int32} (h : lowOk cs c x y) (hk : k = c + i) (hc : cpy cs qs c i zs) : lowOk zs k x y := by
  rcases h with h | ⟨a, b, h1, h2, h3, h4, h5⟩
  · exact Or.inl h
  · exact Or.inr ⟨a, b, h1, by omega, h3, h4, pv_congr (fun j hj => (cpy_out hc (by omega)).symm) h5⟩
theorem low_fin {cs qs zs qt : Nat → Nat} {K c i k n b w : Nat} (hk : k = c + i) (hi : i = n) (h : SJ K 0 qs n qt b w) (hc : cpy cs qs c i zs) : lowOk zs k (nI c) (nI k) := by
  subst hk; subst hi
  obtain ⟨-, h2, h3, -⟩ := h
  refine Or.inr ⟨c, c + i, by omega, by omega, rfl, rfl, ?_⟩
  rw [show c + i - c = i by omega]
  intro j hj hcc
  rw [cpy_in hc hj] at hcc
  rw [dk_congr (f := fun i => zs (c + i)) (g := qs) (fun q hq => cpy_in hc (by omega))]
  have h4 := h3 j (by omega) hj
  have h5 := (h2 j hj).2 hcc h4.1 h4.2
  have h6 := de_dk (f := qs) (n := j) (fun q q1 q2 => h3 q q1 (by omega))
  omega
theorem low_prog {cs zs : Nat → Nat} {c i : Nat} {x y : Int32} (h : lowOk cs c x y) (hi : c ≤ i) (hc2 : c ≤ 1600) (hc : cpy cs cs 1600 i zs) : progOk zs x y := by
  rcases h with h | ⟨a, b, h1, h2, h3, h4, h5⟩
  · exact Or.inl h
  · exact Or.inr ⟨a, b, h1, by omega, h3, h4, pv_congr (fun j hj => by rw [show 1600 + a + j = 1600 + (a + j) by omega, cpy_in hc (by omega)]) h5⟩
def upE (cs cs2 : Nat → Nat) : Prop := ∀ j, 1600 ≤ j → cs2 j = cs j
theorem upE_rf {cs : Nat → Nat} : upE cs cs := fun _ _ => rfl
theorem upE_tr {a b c : Nat → Nat} (h1 : upE a b) (h2 : upE b c) : upE a c := fun j h => (h2 j h).trans (h1 j h)
theorem upE_cpy {cs qs zs : Nat → Nat} {c i : Nat} (hc : cpy cs qs c i zs) (h : c + i ≤ 1600) : upE cs zs := fun j hj => cpy_out hc (by omega)
theorem prog_up {cs zs : Nat → Nat} {x y : Int32} (h : progOk cs x y) (hu : upE cs zs) : progOk zs x y := by
  rcases h with h | ⟨a, b, h1, h2, h3, h4, h5⟩
  · exact Or.inl h
  · exact Or.inr ⟨a, b, h1, h2, h3, h4, pv_congr (fun j hj => (hu _ (by omega)).symm) h5⟩
theorem dq {qs : Nat → Nat} {i z z' : Nat} (hz : z = de qs i) (h : ((1000 ≤ qs i ∨ (40 ≤ qs i ∧ qs i < 60) ∨ qs i = 13) ∧ z' = z + 1) ∨ (((60 ≤ qs i ∧ qs i < 1000) ∨ qs i = 12) ∧ z' = z) ∨ (qs i < 40 ∧ ¬ qs i = 12 ∧ ¬ qs i = 13 ∧ z' = z - 1)) : z' = de qs (i + 1) := by
  rcases h with ⟨h1, h2⟩ | ⟨h1, h2⟩ | ⟨h1, h2, h3, h4⟩
  · rw [de_p h1]; omega
  · rw [de_u h1]; omega
  · rw [de_b h1 h2 h3]; omega
theorem qof_k {b : Nat} {x : Int64} (h : b = 0 ∨ (b = 1 ∧ (0 : Int64) ≤ x ∧ x ≤ 9)) (hb : ¬ b = 0) : ∃ k : Nat, k < 10 ∧ x.toInt32 = nI k := by
  obtain ⟨-, h1, h2⟩ := h.resolve_left hb
  have q1 := Int64.le_iff_toInt_le.mp h1
  have q2 := Int64.le_iff_toInt_le.mp h2
  have e0 : (0 : Int64).toInt = 0 := rfl
  have e9 : (9 : Int64).toInt = 9 := rfl
  rw [e0] at q1
  rw [e9] at q2
  exact nl2i (n := 10) q1 (by omega) (by omega)
theorem dX12_lockTold_0 : decode cX12_lockTold 0 = .ok (.aload_n 0, 1) := by decide +kernel
theorem dX12_lockTold_1 : decode cX12_lockTold 1 = .ok (.aload_n 0, 1) := by decide +kernel
theorem dX12_lockTold_2 : decode cX12_lockTold 2 = .ok (.getfield 20, 3) := by decide +kernel
theorem dX12_lockTold_5 : decode cX12_lockTold 5 = .ok (.invokevirtual 245, 3) := by decide +kernel
theorem dX12_lockTold_8 : decode cX12_lockTold 8 = .ok (.aload_n 0, 1) := by decide +kernel
theorem dX12_lockTold_9 : decode cX12_lockTold 9 = .ok (.getfield 48, 3) := by decide +kernel
theorem dX12_lockTold_12 : decode cX12_lockTold 12 = .ok (.iconst 0, 1) := by decide +kernel
theorem dX12_lockTold_13 : decode cX12_lockTold 13 = .ok (.aload_n 0, 1) := by decide +kernel
theorem dX12_lockTold_14 : decode cX12_lockTold 14 = .ok (.iconst 2, 1) := by decide +kernel
theorem dX12_lockTold_15 : decode cX12_lockTold 15 = .ok (.bipush 9, 2) := by decide +kernel
theorem dX12_lockTold_17 : decode cX12_lockTold 17 = .ok (.invokevirtual 249, 3) := by decide +kernel
theorem dX12_lockTold_20 : decode cX12_lockTold 20 = .ok (.iastore, 1) := by decide +kernel
theorem dX12_lockTold_21 : decode cX12_lockTold 21 = .ok (.aload_n 0, 1) := by decide +kernel
theorem dX12_lockTold_22 : decode cX12_lockTold 22 = .ok (.aload_n 0, 1) := by decide +kernel
theorem dX12_lockTold_23 : decode cX12_lockTold 23 = .ok (.getfield 24, 3) := by decide +kernel
theorem dX12_lockTold_26 : decode cX12_lockTold 26 = .ok (.invokevirtual 245, 3) := by decide +kernel
theorem dX12_lockTold_29 : decode cX12_lockTold 29 = .ok (.aload_n 0, 1) := by decide +kernel
theorem dX12_lockTold_30 : decode cX12_lockTold 30 = .ok (.getfield 48, 3) := by decide +kernel
theorem dX12_lockTold_33 : decode cX12_lockTold 33 = .ok (.iconst 1, 1) := by decide +kernel
theorem dX12_lockTold_34 : decode cX12_lockTold 34 = .ok (.aload_n 0, 1) := by decide +kernel
theorem dX12_lockTold_35 : decode cX12_lockTold 35 = .ok (.iconst 0, 1) := by decide +kernel
theorem dX12_lockTold_36 : decode cX12_lockTold 36 = .ok (.bipush 9, 2) := by decide +kernel
theorem dX12_lockTold_38 : decode cX12_lockTold 38 = .ok (.invokevirtual 249, 3) := by decide +kernel
theorem dX12_lockTold_41 : decode cX12_lockTold 41 = .ok (.iastore, 1) := by decide +kernel
theorem dX12_lockTold_42 : decode cX12_lockTold 42 = .ok (.aload_n 0, 1) := by decide +kernel
theorem dX12_lockTold_43 : decode cX12_lockTold 43 = .ok (.bipush 59, 2) := by decide +kernel
theorem dX12_lockTold_45 : decode cX12_lockTold 45 = .ok (.invokevirtual 253, 3) := by decide +kernel
theorem dX12_lockTold_48 : decode cX12_lockTold 48 = .ok (.return_, 1) := by decide +kernel
theorem w_5_166 : (Cond.fieldLink RX12 20 "SameKeeperModel" "lockWord" "[C") ∈ wsL_law := sk_mem (ck_5 _ (List.mem_of_getElem? (i := 166) rfl)) rfl
theorem w_5_167 : (Cond.fieldLink RX12 24 "SameKeeperModel" "fromWord" "[C") ∈ wsL_law := sk_mem (ck_5 _ (List.mem_of_getElem? (i := 167) rfl)) rfl
theorem w_6_209 : (Cond.code yX12_lockTold cX12_lockTold 1 none) ∈ wsL_law := sk_mem (ck_6 _ (List.mem_of_getElem? (i := 209) rfl)) rfl
theorem dX12_dayTold_0 : decode cX12_dayTold 0 = .ok (.aload_n 0, 1) := by decide +kernel
theorem dX12_dayTold_1 : decode cX12_dayTold 1 = .ok (.iconst 0, 1) := by decide +kernel
theorem dX12_dayTold_2 : decode cX12_dayTold 2 = .ok (.aload_n 0, 1) := by decide +kernel
theorem dX12_dayTold_3 : decode cX12_dayTold 3 = .ok (.getfield 48, 3) := by decide +kernel
theorem dX12_dayTold_6 : decode cX12_dayTold 6 = .ok (.iconst 0, 1) := by decide +kernel
theorem dX12_dayTold_7 : decode cX12_dayTold 7 = .ok (.iaload, 1) := by decide +kernel
theorem dX12_dayTold_8 : decode cX12_dayTold 8 = .ok (.iconst 1, 1) := by decide +kernel
theorem dX12_dayTold_9 : decode cX12_dayTold 9 = .ok (.isub, 1) := by decide +kernel
theorem dX12_dayTold_10 : decode cX12_dayTold 10 = .ok (.invokevirtual 249, 3) := by decide +kernel
theorem dX12_dayTold_13 : decode cX12_dayTold 13 = .ok (.istore_n 2, 1) := by decide +kernel
theorem dX12_dayTold_14 : decode cX12_dayTold 14 = .ok (.aload_n 0, 1) := by decide +kernel
theorem dX12_dayTold_15 : decode cX12_dayTold 15 = .ok (.iconst 0, 1) := by decide +kernel
theorem dX12_dayTold_16 : decode cX12_dayTold 16 = .ok (.bipush 9, 2) := by decide +kernel
theorem dX12_dayTold_18 : decode cX12_dayTold 18 = .ok (.invokevirtual 249, 3) := by decide +kernel
theorem dX12_dayTold_21 : decode cX12_dayTold 21 = .ok (.istore_n 3, 1) := by decide +kernel
theorem dX12_dayTold_22 : decode cX12_dayTold 22 = .ok (.aload_n 0, 1) := by decide +kernel
theorem dX12_dayTold_23 : decode cX12_dayTold 23 = .ok (.getfield 195, 3) := by decide +kernel
theorem dX12_dayTold_26 : decode cX12_dayTold 26 = .ok (.ifCond .ne 14, 3) := by decide +kernel
theorem dX12_dayTold_40 : decode cX12_dayTold 40 = .ok (.return_, 1) := by decide +kernel
theorem dX12_dayTold_29 : decode cX12_dayTold 29 = .ok (.aload_n 0, 1) := by decide +kernel
theorem dX12_dayTold_30 : decode cX12_dayTold 30 = .ok (.getfield 51, 3) := by decide +kernel
theorem dX12_dayTold_33 : decode cX12_dayTold 33 = .ok (.iconst 3, 1) := by decide +kernel
theorem dX12_dayTold_34 : decode cX12_dayTold 34 = .ok (.iload_n 2, 1) := by decide +kernel
theorem dX12_dayTold_35 : decode cX12_dayTold 35 = .ok (.imul, 1) := by decide +kernel
theorem dX12_dayTold_36 : decode cX12_dayTold 36 = .ok (.iload_n 1, 1) := by decide +kernel
theorem dX12_dayTold_37 : decode cX12_dayTold 37 = .ok (.iadd, 1) := by decide +kernel
theorem dX12_dayTold_38 : decode cX12_dayTold 38 = .ok (.iload_n 3, 1) := by decide +kernel
theorem dX12_dayTold_39 : decode cX12_dayTold 39 = .ok (.iastore, 1) := by decide +kernel
theorem w_5_176 : (Cond.fieldLink RX12 51 "SameKeeperModel" "days0" "[I") ∈ wsL_law := sk_mem (ck_5 _ (List.mem_of_getElem? (i := 176) rfl)) rfl
theorem w_7_18 : (Cond.code yX12_dayTold cX12_dayTold 4 none) ∈ wsL_law := sk_mem (ck_7 _ (List.mem_of_getElem? (i := 18) rfl)) rfl
theorem dX12_muteTold_0 : decode cX12_muteTold 0 = .ok (.aload_n 0, 1) := by decide +kernel
theorem dX12_muteTold_1 : decode cX12_muteTold 1 = .ok (.iconst 0, 1) := by decide +kernel
theorem dX12_muteTold_2 : decode cX12_muteTold 2 = .ok (.aload_n 0, 1) := by decide +kernel
theorem dX12_muteTold_3 : decode cX12_muteTold 3 = .ok (.getfield 48, 3) := by decide +kernel
theorem dX12_muteTold_6 : decode cX12_muteTold 6 = .ok (.iconst 0, 1) := by decide +kernel
theorem dX12_muteTold_7 : decode cX12_muteTold 7 = .ok (.iaload, 1) := by decide +kernel
theorem dX12_muteTold_8 : decode cX12_muteTold 8 = .ok (.iconst 1, 1) := by decide +kernel
theorem dX12_muteTold_9 : decode cX12_muteTold 9 = .ok (.isub, 1) := by decide +kernel
theorem dX12_muteTold_10 : decode cX12_muteTold 10 = .ok (.invokevirtual 249, 3) := by decide +kernel
theorem dX12_muteTold_13 : decode cX12_muteTold 13 = .ok (.istore_n 1, 1) := by decide +kernel
theorem dX12_muteTold_14 : decode cX12_muteTold 14 = .ok (.aload_n 0, 1) := by decide +kernel
theorem dX12_muteTold_15 : decode cX12_muteTold 15 = .ok (.getfield 195, 3) := by decide +kernel
theorem dX12_muteTold_18 : decode cX12_muteTold 18 = .ok (.ifCond .ne 26, 3) := by decide +kernel
theorem dX12_muteTold_44 : decode cX12_muteTold 44 = .ok (.aload_n 0, 1) := by decide +kernel
theorem dX12_muteTold_45 : decode cX12_muteTold 45 = .ok (.getfield 195, 3) := by decide +kernel
theorem dX12_muteTold_48 : decode cX12_muteTold 48 = .ok (.ifCond .ne 14, 3) := by decide +kernel
theorem dX12_muteTold_62 : decode cX12_muteTold 62 = .ok (.return_, 1) := by decide +kernel
theorem dX12_muteTold_51 : decode cX12_muteTold 51 = .ok (.aload_n 0, 1) := by decide +kernel
theorem dX12_muteTold_52 : decode cX12_muteTold 52 = .ok (.getfield 51, 3) := by decide +kernel
theorem dX12_muteTold_55 : decode cX12_muteTold 55 = .ok (.iconst 3, 1) := by decide +kernel
theorem dX12_muteTold_56 : decode cX12_muteTold 56 = .ok (.iload_n 1, 1) := by decide +kernel
theorem dX12_muteTold_57 : decode cX12_muteTold 57 = .ok (.imul, 1) := by decide +kernel
theorem dX12_muteTold_58 : decode cX12_muteTold 58 = .ok (.iconst 2, 1) := by decide +kernel
theorem dX12_muteTold_59 : decode cX12_muteTold 59 = .ok (.iadd, 1) := by decide +kernel
theorem dX12_muteTold_60 : decode cX12_muteTold 60 = .ok (.iconst 1, 1) := by decide +kernel
theorem dX12_muteTold_61 : decode cX12_muteTold 61 = .ok (.iastore, 1) := by decide +kernel
theorem dX12_muteTold_21 : decode cX12_muteTold 21 = .ok (.aload_n 0, 1) := by decide +kernel
theorem dX12_muteTold_22 : decode cX12_muteTold 22 = .ok (.getfield 51, 3) := by decide +kernel
theorem dX12_muteTold_25 : decode cX12_muteTold 25 = .ok (.iconst 3, 1) := by decide +kernel
theorem dX12_muteTold_26 : decode cX12_muteTold 26 = .ok (.iload_n 1, 1) := by decide +kernel
theorem dX12_muteTold_27 : decode cX12_muteTold 27 = .ok (.imul, 1) := by decide +kernel
theorem dX12_muteTold_28 : decode cX12_muteTold 28 = .ok (.iconst 2, 1) := by decide +kernel
theorem dX12_muteTold_29 : decode cX12_muteTold 29 = .ok (.iadd, 1) := by decide +kernel
theorem dX12_muteTold_30 : decode cX12_muteTold 30 = .ok (.iaload, 1) := by decide +kernel
theorem dX12_muteTold_31 : decode cX12_muteTold 31 = .ok (.iconst 1, 1) := by decide +kernel
theorem dX12_muteTold_32 : decode cX12_muteTold 32 = .ok (.if_icmp .ne 12, 3) := by decide +kernel
theorem dX12_muteTold_35 : decode cX12_muteTold 35 = .ok (.aload_n 0, 1) := by decide +kernel
theorem dX12_muteTold_36 : decode cX12_muteTold 36 = .ok (.iconst 2, 1) := by decide +kernel
theorem dX12_muteTold_37 : decode cX12_muteTold 37 = .ok (.aload_n 0, 1) := by decide +kernel
theorem dX12_muteTold_38 : decode cX12_muteTold 38 = .ok (.getfield 235, 3) := by decide +kernel
theorem dX12_muteTold_41 : decode cX12_muteTold 41 = .ok (.invokevirtual 225, 3) := by decide +kernel
theorem w_7_22 : (Cond.code yX12_muteTold cX12_muteTold 2 none) ∈ wsL_law := sk_mem (ck_7 _ (List.mem_of_getElem? (i := 22) rfl)) rfl
theorem dX12_codesTold_0 : decode cX12_codesTold 0 = .ok (.aload_n 0, 1) := by decide +kernel
theorem dX12_codesTold_1 : decode cX12_codesTold 1 = .ok (.getfield 195, 3) := by decide +kernel
theorem dX12_codesTold_4 : decode cX12_codesTold 4 = .ok (.ifCond .ne 19, 3) := by decide +kernel
theorem dX12_codesTold_23 : decode cX12_codesTold 23 = .ok (.aload_n 0, 1) := by decide +kernel
theorem dX12_codesTold_24 : decode cX12_codesTold 24 = .ok (.getfield 195, 3) := by decide +kernel
theorem dX12_codesTold_27 : decode cX12_codesTold 27 = .ok (.ifCond .eq 4, 3) := by decide +kernel
theorem dX12_codesTold_31 : decode cX12_codesTold 31 = .ok (.aload_n 0, 1) := by decide +kernel
theorem dX12_codesTold_32 : decode cX12_codesTold 32 = .ok (.iload_n 1, 1) := by decide +kernel
theorem dX12_codesTold_33 : decode cX12_codesTold 33 = .ok (.iconst 1, 1) := by decide +kernel
theorem dX12_codesTold_34 : decode cX12_codesTold 34 = .ok (.if_icmp .ne 7, 3) := by decide +kernel
theorem dX12_codesTold_41 : decode cX12_codesTold 41 = .ok (.iconst 0, 1) := by decide +kernel
theorem dX12_codesTold_42 : decode cX12_codesTold 42 = .ok (.putfield 242, 3) := by decide +kernel
theorem dX12_codesTold_45 : decode cX12_codesTold 45 = .ok (.aload_n 0, 1) := by decide +kernel
theorem dX12_codesTold_46 : decode cX12_codesTold 46 = .ok (.iconst 0, 1) := by decide +kernel
theorem dX12_codesTold_47 : decode cX12_codesTold 47 = .ok (.putfield 257, 3) := by decide +kernel
theorem dX12_codesTold_50 : decode cX12_codesTold 50 = .ok (.aload_n 0, 1) := by decide +kernel
theorem dX12_codesTold_51 : decode cX12_codesTold 51 = .ok (.iconst 0, 1) := by decide +kernel
theorem dX12_codesTold_52 : decode cX12_codesTold 52 = .ok (.putfield 260, 3) := by decide +kernel
theorem dX12_codesTold_55 : decode cX12_codesTold 55 = .ok (.aload_n 0, 1) := by decide +kernel
theorem dX12_codesTold_56 : decode cX12_codesTold 56 = .ok (.iconst 0, 1) := by decide +kernel
theorem dX12_codesTold_57 : decode cX12_codesTold 57 = .ok (.putfield 263, 3) := by decide +kernel
theorem dX12_codesTold_60 : decode cX12_codesTold 60 = .ok (.aload_n 0, 1) := by decide +kernel
theorem dX12_codesTold_61 : decode cX12_codesTold 61 = .ok (.iconst 0, 1) := by decide +kernel
theorem dX12_codesTold_62 : decode cX12_codesTold 62 = .ok (.putfield 266, 3) := by decide +kernel
theorem dX12_codesTold_65 : decode cX12_codesTold 65 = .ok (.aload_n 0, 1) := by decide +kernel
theorem dX12_codesTold_66 : decode cX12_codesTold 66 = .ok (.invokevirtual 269, 3) := by decide +kernel
theorem dX12_codesTold_69 : decode cX12_codesTold 69 = .ok (.aload_n 0, 1) := by decide +kernel
theorem dX12_codesTold_70 : decode cX12_codesTold 70 = .ok (.getfield 195, 3) := by decide +kernel
theorem dX12_codesTold_73 : decode cX12_codesTold 73 = .ok (.ifCond .eq 4, 3) := by decide +kernel
theorem dX12_codesTold_77 : decode cX12_codesTold 77 = .ok (.aload_n 0, 1) := by decide +kernel
theorem dX12_codesTold_78 : decode cX12_codesTold 78 = .ok (.getfield 54, 3) := by decide +kernel
theorem dX12_codesTold_81 : decode cX12_codesTold 81 = .ok (.iload_n 1, 1) := by decide +kernel
theorem dX12_codesTold_82 : decode cX12_codesTold 82 = .ok (.aload_n 0, 1) := by decide +kernel
theorem dX12_codesTold_83 : decode cX12_codesTold 83 = .ok (.getfield 272, 3) := by decide +kernel
theorem dX12_codesTold_86 : decode cX12_codesTold 86 = .ok (.iastore, 1) := by decide +kernel
theorem dX12_codesTold_87 : decode cX12_codesTold 87 = .ok (.iconst 0, 1) := by decide +kernel
theorem dX12_codesTold_88 : decode cX12_codesTold 88 = .ok (.istore_n 3, 1) := by decide +kernel
theorem dX12_codesTold_89 : decode cX12_codesTold 89 = .ok (.iload_n 3, 1) := by decide +kernel
theorem dX12_codesTold_90 : decode cX12_codesTold 90 = .ok (.aload_n 0, 1) := by decide +kernel
theorem dX12_codesTold_91 : decode cX12_codesTold 91 = .ok (.getfield 257, 3) := by decide +kernel
theorem dX12_codesTold_94 : decode cX12_codesTold 94 = .ok (.if_icmp .ge 34, 3) := by decide +kernel
theorem dX12_codesTold_128 : decode cX12_codesTold 128 = .ok (.aload_n 0, 1) := by decide +kernel
theorem dX12_codesTold_129 : decode cX12_codesTold 129 = .ok (.getfield 57, 3) := by decide +kernel
theorem dX12_codesTold_132 : decode cX12_codesTold 132 = .ok (.iload_n 1, 1) := by decide +kernel
theorem dX12_codesTold_133 : decode cX12_codesTold 133 = .ok (.aload_n 0, 1) := by decide +kernel
theorem dX12_codesTold_134 : decode cX12_codesTold 134 = .ok (.getfield 272, 3) := by decide +kernel
theorem dX12_codesTold_137 : decode cX12_codesTold 137 = .ok (.iastore, 1) := by decide +kernel
theorem dX12_codesTold_138 : decode cX12_codesTold 138 = .ok (.return_, 1) := by decide +kernel
theorem dX12_codesTold_97 : decode cX12_codesTold 97 = .ok (.aload_n 0, 1) := by decide +kernel
theorem dX12_codesTold_98 : decode cX12_codesTold 98 = .ok (.getfield 60, 3) := by decide +kernel
theorem dX12_codesTold_101 : decode cX12_codesTold 101 = .ok (.aload_n 0, 1) := by decide +kernel
theorem dX12_codesTold_102 : decode cX12_codesTold 102 = .ok (.getfield 272, 3) := by decide +kernel
theorem dX12_codesTold_105 : decode cX12_codesTold 105 = .ok (.aload_n 0, 1) := by decide +kernel
theorem dX12_codesTold_106 : decode cX12_codesTold 106 = .ok (.getfield 180, 3) := by decide +kernel
theorem dX12_codesTold_109 : decode cX12_codesTold 109 = .ok (.iload_n 3, 1) := by decide +kernel
theorem dX12_codesTold_110 : decode cX12_codesTold 110 = .ok (.iaload, 1) := by decide +kernel
theorem dX12_codesTold_111 : decode cX12_codesTold 111 = .ok (.iastore, 1) := by decide +kernel
theorem dX12_codesTold_112 : decode cX12_codesTold 112 = .ok (.aload_n 0, 1) := by decide +kernel
theorem dX12_codesTold_113 : decode cX12_codesTold 113 = .ok (.dup, 1) := by decide +kernel
theorem dX12_codesTold_114 : decode cX12_codesTold 114 = .ok (.getfield 272, 3) := by decide +kernel
theorem dX12_codesTold_117 : decode cX12_codesTold 117 = .ok (.iconst 1, 1) := by decide +kernel
theorem dX12_codesTold_118 : decode cX12_codesTold 118 = .ok (.iadd, 1) := by decide +kernel
theorem dX12_codesTold_119 : decode cX12_codesTold 119 = .ok (.putfield 272, 3) := by decide +kernel
theorem dX12_codesTold_122 : decode cX12_codesTold 122 = .ok (.iinc 3 1, 3) := by decide +kernel
theorem dX12_codesTold_125 : decode cX12_codesTold 125 = .ok (.goto (-36), 3) := by decide +kernel
theorem dX12_codesTold_76 : decode cX12_codesTold 76 = .ok (.return_, 1) := by decide +kernel
theorem dX12_codesTold_30 : decode cX12_codesTold 30 = .ok (.return_, 1) := by decide +kernel
theorem dX12_codesTold_7 : decode cX12_codesTold 7 = .ok (.aload_n 0, 1) := by decide +kernel
theorem dX12_codesTold_8 : decode cX12_codesTold 8 = .ok (.getfield 54, 3) := by decide +kernel
theorem dX12_codesTold_11 : decode cX12_codesTold 11 = .ok (.iload_n 1, 1) := by decide +kernel
theorem dX12_codesTold_12 : decode cX12_codesTold 12 = .ok (.iaload, 1) := by decide +kernel
theorem dX12_codesTold_13 : decode cX12_codesTold 13 = .ok (.iconst (-1), 1) := by decide +kernel
theorem dX12_codesTold_14 : decode cX12_codesTold 14 = .ok (.if_icmp .eq 9, 3) := by decide +kernel
theorem dX12_codesTold_17 : decode cX12_codesTold 17 = .ok (.aload_n 0, 1) := by decide +kernel
theorem dX12_codesTold_18 : decode cX12_codesTold 18 = .ok (.iconst 5, 1) := by decide +kernel
theorem dX12_codesTold_19 : decode cX12_codesTold 19 = .ok (.iload_n 2, 1) := by decide +kernel
theorem dX12_codesTold_20 : decode cX12_codesTold 20 = .ok (.invokevirtual 225, 3) := by decide +kernel
theorem w_5_182 : (Cond.fieldLink RX12 272 "SameKeeperModel" "coded" "I") ∈ wsL_law := sk_mem (ck_5 _ (List.mem_of_getElem? (i := 182) rfl)) rfl
theorem w_7_26 : (Cond.code yX12_codesTold cX12_codesTold 4 none) ∈ wsL_law := sk_mem (ck_7 _ (List.mem_of_getElem? (i := 26) rfl)) rfl
theorem dX12_codesTold_37 : decode cX12_codesTold 37 = .ok (.iconst 1, 1) := by decide +kernel
theorem dX12_codesTold_38 : decode cX12_codesTold 38 = .ok (.goto 4, 3) := by decide +kernel
theorem dX12_statementTold_0 : decode cX12_statementTold 0 = .ok (.aload_n 0, 1) := by decide +kernel
theorem dX12_statementTold_1 : decode cX12_statementTold 1 = .ok (.getfield 201, 3) := by decide +kernel
theorem dX12_statementTold_4 : decode cX12_statementTold 4 = .ok (.istore_n 1, 1) := by decide +kernel
theorem dX12_statementTold_5 : decode cX12_statementTold 5 = .ok (.aload_n 0, 1) := by decide +kernel
theorem dX12_statementTold_6 : decode cX12_statementTold 6 = .ok (.getfield 275, 3) := by decide +kernel
theorem dX12_statementTold_9 : decode cX12_statementTold 9 = .ok (.bipush 60, 2) := by decide +kernel
theorem dX12_statementTold_11 : decode cX12_statementTold 11 = .ok (.if_icmp .ne 10, 3) := by decide +kernel
theorem dX12_statementTold_21 : decode cX12_statementTold 21 = .ok (.aload_n 0, 1) := by decide +kernel
theorem dX12_statementTold_22 : decode cX12_statementTold 22 = .ok (.aload_n 0, 1) := by decide +kernel
theorem dX12_statementTold_23 : decode cX12_statementTold 23 = .ok (.getfield 27, 3) := by decide +kernel
theorem dX12_statementTold_26 : decode cX12_statementTold 26 = .ok (.invokevirtual 222, 3) := by decide +kernel
theorem dX12_statementTold_29 : decode cX12_statementTold 29 = .ok (.ifCond .eq 11, 3) := by decide +kernel
theorem dX12_statementTold_40 : decode cX12_statementTold 40 = .ok (.aload_n 0, 1) := by decide +kernel
theorem dX12_statementTold_41 : decode cX12_statementTold 41 = .ok (.aload_n 0, 1) := by decide +kernel
theorem dX12_statementTold_42 : decode cX12_statementTold 42 = .ok (.getfield 30, 3) := by decide +kernel
theorem dX12_statementTold_45 : decode cX12_statementTold 45 = .ok (.invokevirtual 222, 3) := by decide +kernel
theorem dX12_statementTold_48 : decode cX12_statementTold 48 = .ok (.ifCond .eq 11, 3) := by decide +kernel
theorem dX12_statementTold_59 : decode cX12_statementTold 59 = .ok (.aload_n 0, 1) := by decide +kernel
theorem dX12_statementTold_60 : decode cX12_statementTold 60 = .ok (.aload_n 0, 1) := by decide +kernel
theorem dX12_statementTold_61 : decode cX12_statementTold 61 = .ok (.getfield 33, 3) := by decide +kernel
theorem dX12_statementTold_64 : decode cX12_statementTold 64 = .ok (.invokevirtual 222, 3) := by decide +kernel
theorem dX12_statementTold_67 : decode cX12_statementTold 67 = .ok (.ifCond .eq 10, 3) := by decide +kernel
theorem dX12_statementTold_77 : decode cX12_statementTold 77 = .ok (.aload_n 0, 1) := by decide +kernel
theorem dX12_statementTold_78 : decode cX12_statementTold 78 = .ok (.aload_n 0, 1) := by decide +kernel
theorem dX12_statementTold_79 : decode cX12_statementTold 79 = .ok (.getfield 36, 3) := by decide +kernel
theorem dX12_statementTold_82 : decode cX12_statementTold 82 = .ok (.invokevirtual 222, 3) := by decide +kernel
theorem dX12_statementTold_85 : decode cX12_statementTold 85 = .ok (.ifCond .eq 12, 3) := by decide +kernel
theorem dX12_statementTold_97 : decode cX12_statementTold 97 = .ok (.aload_n 0, 1) := by decide +kernel
theorem dX12_statementTold_98 : decode cX12_statementTold 98 = .ok (.aload_n 0, 1) := by decide +kernel
theorem dX12_statementTold_99 : decode cX12_statementTold 99 = .ok (.getfield 39, 3) := by decide +kernel
theorem dX12_statementTold_102 : decode cX12_statementTold 102 = .ok (.invokevirtual 222, 3) := by decide +kernel
theorem dX12_statementTold_105 : decode cX12_statementTold 105 = .ok (.ifCond .eq 12, 3) := by decide +kernel
theorem dX12_statementTold_117 : decode cX12_statementTold 117 = .ok (.aload_n 0, 1) := by decide +kernel
theorem dX12_statementTold_118 : decode cX12_statementTold 118 = .ok (.aload_n 0, 1) := by decide +kernel
theorem dX12_statementTold_119 : decode cX12_statementTold 119 = .ok (.getfield 42, 3) := by decide +kernel
theorem dX12_statementTold_122 : decode cX12_statementTold 122 = .ok (.invokevirtual 222, 3) := by decide +kernel
theorem dX12_statementTold_125 : decode cX12_statementTold 125 = .ok (.ifCond .eq 12, 3) := by decide +kernel
theorem dX12_statementTold_137 : decode cX12_statementTold 137 = .ok (.aload_n 0, 1) := by decide +kernel
theorem dX12_statementTold_138 : decode cX12_statementTold 138 = .ok (.aload_n 0, 1) := by decide +kernel
theorem dX12_statementTold_139 : decode cX12_statementTold 139 = .ok (.getfield 45, 3) := by decide +kernel
theorem dX12_statementTold_142 : decode cX12_statementTold 142 = .ok (.invokevirtual 245, 3) := by decide +kernel
theorem dX12_statementTold_145 : decode cX12_statementTold 145 = .ok (.aload_n 0, 1) := by decide +kernel
theorem dX12_statementTold_146 : decode cX12_statementTold 146 = .ok (.aload_n 0, 1) := by decide +kernel
theorem dX12_statementTold_147 : decode cX12_statementTold 147 = .ok (.iconst 0, 1) := by decide +kernel
theorem dX12_statementTold_148 : decode cX12_statementTold 148 = .ok (.bipush 100, 2) := by decide +kernel
theorem dX12_statementTold_150 : decode cX12_statementTold 150 = .ok (.invokevirtual 249, 3) := by decide +kernel
theorem dX12_statementTold_153 : decode cX12_statementTold 153 = .ok (.putfield 287, 3) := by decide +kernel
theorem dX12_statementTold_156 : decode cX12_statementTold 156 = .ok (.aload_n 0, 1) := by decide +kernel
theorem dX12_statementTold_157 : decode cX12_statementTold 157 = .ok (.bipush 59, 2) := by decide +kernel
theorem dX12_statementTold_159 : decode cX12_statementTold 159 = .ok (.invokevirtual 253, 3) := by decide +kernel
theorem dX12_statementTold_162 : decode cX12_statementTold 162 = .ok (.aload_n 0, 1) := by decide +kernel
theorem dX12_statementTold_163 : decode cX12_statementTold 163 = .ok (.dup, 1) := by decide +kernel
theorem dX12_statementTold_164 : decode cX12_statementTold 164 = .ok (.getfield 275, 3) := by decide +kernel
theorem dX12_statementTold_167 : decode cX12_statementTold 167 = .ok (.iconst 1, 1) := by decide +kernel
theorem dX12_statementTold_168 : decode cX12_statementTold 168 = .ok (.iadd, 1) := by decide +kernel
theorem dX12_statementTold_169 : decode cX12_statementTold 169 = .ok (.putfield 275, 3) := by decide +kernel
theorem dX12_statementTold_172 : decode cX12_statementTold 172 = .ok (.return_, 1) := by decide +kernel
theorem dX12_statementTold_128 : decode cX12_statementTold 128 = .ok (.aload_n 0, 1) := by decide +kernel
theorem dX12_statementTold_129 : decode cX12_statementTold 129 = .ok (.iconst 2, 1) := by decide +kernel
theorem dX12_statementTold_130 : decode cX12_statementTold 130 = .ok (.iload_n 1, 1) := by decide +kernel
theorem dX12_statementTold_131 : decode cX12_statementTold 131 = .ok (.invokevirtual 284, 3) := by decide +kernel
theorem dX12_statementTold_134 : decode cX12_statementTold 134 = .ok (.goto 22, 3) := by decide +kernel
theorem dX12_statementTold_108 : decode cX12_statementTold 108 = .ok (.aload_n 0, 1) := by decide +kernel
theorem dX12_statementTold_109 : decode cX12_statementTold 109 = .ok (.iconst 1, 1) := by decide +kernel
theorem dX12_statementTold_110 : decode cX12_statementTold 110 = .ok (.iload_n 1, 1) := by decide +kernel
theorem dX12_statementTold_111 : decode cX12_statementTold 111 = .ok (.invokevirtual 284, 3) := by decide +kernel
theorem dX12_statementTold_114 : decode cX12_statementTold 114 = .ok (.goto 42, 3) := by decide +kernel
theorem dX12_statementTold_88 : decode cX12_statementTold 88 = .ok (.aload_n 0, 1) := by decide +kernel
theorem dX12_statementTold_89 : decode cX12_statementTold 89 = .ok (.iconst 0, 1) := by decide +kernel
theorem dX12_statementTold_90 : decode cX12_statementTold 90 = .ok (.iload_n 1, 1) := by decide +kernel
theorem dX12_statementTold_91 : decode cX12_statementTold 91 = .ok (.invokevirtual 284, 3) := by decide +kernel
theorem dX12_statementTold_94 : decode cX12_statementTold 94 = .ok (.goto 62, 3) := by decide +kernel
theorem dX12_statementTold_70 : decode cX12_statementTold 70 = .ok (.aload_n 0, 1) := by decide +kernel
theorem dX12_statementTold_71 : decode cX12_statementTold 71 = .ok (.invokevirtual 281, 3) := by decide +kernel
theorem dX12_statementTold_74 : decode cX12_statementTold 74 = .ok (.goto 82, 3) := by decide +kernel
theorem dX12_statementTold_51 : decode cX12_statementTold 51 = .ok (.aload_n 0, 1) := by decide +kernel
theorem dX12_statementTold_52 : decode cX12_statementTold 52 = .ok (.iconst 1, 1) := by decide +kernel
theorem dX12_statementTold_53 : decode cX12_statementTold 53 = .ok (.invokevirtual 278, 3) := by decide +kernel
theorem dX12_statementTold_56 : decode cX12_statementTold 56 = .ok (.goto 100, 3) := by decide +kernel
theorem dX12_statementTold_32 : decode cX12_statementTold 32 = .ok (.aload_n 0, 1) := by decide +kernel
theorem dX12_statementTold_33 : decode cX12_statementTold 33 = .ok (.iconst 0, 1) := by decide +kernel
theorem dX12_statementTold_34 : decode cX12_statementTold 34 = .ok (.invokevirtual 278, 3) := by decide +kernel
theorem dX12_statementTold_37 : decode cX12_statementTold 37 = .ok (.goto 119, 3) := by decide +kernel
theorem dX12_statementTold_14 : decode cX12_statementTold 14 = .ok (.aload_n 0, 1) := by decide +kernel
theorem dX12_statementTold_15 : decode cX12_statementTold 15 = .ok (.iconst 5, 1) := by decide +kernel
theorem dX12_statementTold_16 : decode cX12_statementTold 16 = .ok (.iload_n 1, 1) := by decide +kernel
theorem dX12_statementTold_17 : decode cX12_statementTold 17 = .ok (.invokevirtual 225, 3) := by decide +kernel
theorem dX12_statementTold_20 : decode cX12_statementTold 20 = .ok (.return_, 1) := by decide +kernel
theorem w_5_183 : (Cond.fieldLink RX12 275 "SameKeeperModel" "statements" "I") ∈ wsL_law := sk_mem (ck_5 _ (List.mem_of_getElem? (i := 183) rfl)) rfl
theorem w_5_168 : (Cond.fieldLink RX12 27 "SameKeeperModel" "bargeWord" "[C") ∈ wsL_law := sk_mem (ck_5 _ (List.mem_of_getElem? (i := 168) rfl)) rfl
theorem w_5_169 : (Cond.fieldLink RX12 30 "SameKeeperModel" "wetWord" "[C") ∈ wsL_law := sk_mem (ck_5 _ (List.mem_of_getElem? (i := 169) rfl)) rfl
theorem w_5_170 : (Cond.fieldLink RX12 33 "SameKeeperModel" "muteWord" "[C") ∈ wsL_law := sk_mem (ck_5 _ (List.mem_of_getElem? (i := 170) rfl)) rfl
theorem w_5_171 : (Cond.fieldLink RX12 36 "SameKeeperModel" "saysWord" "[C") ∈ wsL_law := sk_mem (ck_5 _ (List.mem_of_getElem? (i := 171) rfl)) rfl
theorem w_5_172 : (Cond.fieldLink RX12 39 "SameKeeperModel" "doesWord" "[C") ∈ wsL_law := sk_mem (ck_5 _ (List.mem_of_getElem? (i := 172) rfl)) rfl
theorem w_5_173 : (Cond.fieldLink RX12 42 "SameKeeperModel" "wageWord" "[C") ∈ wsL_law := sk_mem (ck_5 _ (List.mem_of_getElem? (i := 173) rfl)) rfl
theorem w_5_174 : (Cond.fieldLink RX12 45 "SameKeeperModel" "rainWord" "[C") ∈ wsL_law := sk_mem (ck_5 _ (List.mem_of_getElem? (i := 174) rfl)) rfl
theorem w_5_177 : (Cond.fieldLink RX12 287 "SameKeeperModel" "rainTold" "I") ∈ wsL_law := sk_mem (ck_5 _ (List.mem_of_getElem? (i := 177) rfl)) rfl
theorem w_7_23 : (Cond.methodLink RX12 284 yX12_codesTold) ∈ wsL_law := sk_mem (ck_7 _ (List.mem_of_getElem? (i := 23) rfl)) rfl
theorem w_7_25 : (Cond.instanceMethod yX12_codesTold) ∈ wsL_law := sk_mem (ck_7 _ (List.mem_of_getElem? (i := 25) rfl)) rfl
theorem w_0_53 : (Cond.selects RX12 yX12_codesTold yX12_codesTold) ∈ wsL_law := sk_mem (ck_0 _ (List.mem_of_getElem? (i := 53) rfl)) rfl
theorem w_7_19 : (Cond.methodLink RX12 281 yX12_muteTold) ∈ wsL_law := sk_mem (ck_7 _ (List.mem_of_getElem? (i := 19) rfl)) rfl
theorem w_7_21 : (Cond.instanceMethod yX12_muteTold) ∈ wsL_law := sk_mem (ck_7 _ (List.mem_of_getElem? (i := 21) rfl)) rfl
theorem w_0_52 : (Cond.selects RX12 yX12_muteTold yX12_muteTold) ∈ wsL_law := sk_mem (ck_0 _ (List.mem_of_getElem? (i := 52) rfl)) rfl
theorem w_7_15 : (Cond.methodLink RX12 278 yX12_dayTold) ∈ wsL_law := sk_mem (ck_7 _ (List.mem_of_getElem? (i := 15) rfl)) rfl
theorem w_7_17 : (Cond.instanceMethod yX12_dayTold) ∈ wsL_law := sk_mem (ck_7 _ (List.mem_of_getElem? (i := 17) rfl)) rfl
theorem w_0_51 : (Cond.selects RX12 yX12_dayTold yX12_dayTold) ∈ wsL_law := sk_mem (ck_0 _ (List.mem_of_getElem? (i := 51) rfl)) rfl
theorem w_7_14 : (Cond.code yX12_statementTold cX12_statementTold 2 none) ∈ wsL_law := sk_mem (ck_7 _ (List.mem_of_getElem? (i := 14) rfl)) rfl
theorem dX12_qOf_0 : decode cX12_qOf 0 = .ok (.iload_n 1, 1) := by decide +kernel
theorem dX12_qOf_1 : decode cX12_qOf 1 = .ok (.lookupswitch 11 #[], 11) := by decide +kernel
theorem dX12_qOf_12 : decode cX12_qOf 12 = .ok (.lload_n 2, 1) := by decide +kernel
theorem dX12_qOf_13 : decode cX12_qOf 13 = .ok (.lconst 0, 1) := by decide +kernel
theorem dX12_qOf_14 : decode cX12_qOf 14 = .ok (.ldc2_w 318, 3) := by decide +kernel
theorem dX12_qOf_17 : decode cX12_qOf 17 = .ok (.invokestatic 238, 3) := by decide +kernel
theorem dX12_qOf_20 : decode cX12_qOf 20 = .ok (.ifCond .eq 33, 3) := by decide +kernel
theorem dX12_qOf_53 : decode cX12_qOf 53 = .ok (.lconst 0, 1) := by decide +kernel
theorem dX12_qOf_54 : decode cX12_qOf 54 = .ok (.lreturn, 1) := by decide +kernel
theorem dX12_qOf_23 : decode cX12_qOf 23 = .ok (.aload_n 0, 1) := by decide +kernel
theorem dX12_qOf_24 : decode cX12_qOf 24 = .ok (.getfield 86, 3) := by decide +kernel
theorem dX12_qOf_27 : decode cX12_qOf 27 = .ok (.bipush 10, 2) := by decide +kernel
theorem dX12_qOf_29 : decode cX12_qOf 29 = .ok (.iload 4, 2) := by decide +kernel
theorem dX12_qOf_31 : decode cX12_qOf 31 = .ok (.imul, 1) := by decide +kernel
theorem dX12_qOf_32 : decode cX12_qOf 32 = .ok (.lload_n 2, 1) := by decide +kernel
theorem dX12_qOf_33 : decode cX12_qOf 33 = .ok (.l2i, 1) := by decide +kernel
theorem dX12_qOf_34 : decode cX12_qOf 34 = .ok (.iadd, 1) := by decide +kernel
theorem dX12_qOf_35 : decode cX12_qOf 35 = .ok (.laload, 1) := by decide +kernel
theorem dX12_qOf_36 : decode cX12_qOf 36 = .ok (.aload_n 0, 1) := by decide +kernel
theorem dX12_qOf_37 : decode cX12_qOf 37 = .ok (.getfield 82, 3) := by decide +kernel
theorem dX12_qOf_40 : decode cX12_qOf 40 = .ok (.bipush 10, 2) := by decide +kernel
theorem dX12_qOf_42 : decode cX12_qOf 42 = .ok (.iload 4, 2) := by decide +kernel
theorem dX12_qOf_44 : decode cX12_qOf 44 = .ok (.imul, 1) := by decide +kernel
theorem dX12_qOf_45 : decode cX12_qOf 45 = .ok (.lload_n 2, 1) := by decide +kernel
theorem dX12_qOf_46 : decode cX12_qOf 46 = .ok (.l2i, 1) := by decide +kernel
theorem dX12_qOf_47 : decode cX12_qOf 47 = .ok (.iadd, 1) := by decide +kernel
theorem dX12_qOf_48 : decode cX12_qOf 48 = .ok (.laload, 1) := by decide +kernel
theorem dX12_qOf_49 : decode cX12_qOf 49 = .ok (.lmul, 1) := by decide +kernel
theorem dX12_qOf_50 : decode cX12_qOf 50 = .ok (.goto 4, 3) := by decide +kernel
theorem w_8_198 : (Cond.code yX12_qOf cX12_qOf 5 (some .long)) ∈ wsL_law := sk_mem (ck_8 _ (List.mem_of_getElem? (i := 198) rfl)) rfl
set_option maxHeartbeats 4000000 in
set_option maxRecDepth 100000 in
theorem c_m_qOf (l : Launch) (D : va_G) (cI cJ cC cZ cS : ClassId) (mm : Nat) (g : Nat → Nat) (ta : Nat) (pa : Nat) (pe : Nat) (pd : Int32) (pb : Nat) (pp : Int32) (pf : Int32) (pg : Int32) (pn : Int32) (rt : Int32) (rn : Int32) (cd : Nat) (sn : Int32) (il : Nat) (tk : Int32) (am : Int32) (at_ : Int32) (aa : Int32) (wt : Int32) (wy : Int64) (rm : Nat) (ud : Nat) (nu : Nat) (sd : Int64) (qn : Nat) (qw : Nat) (qo : Int32) (qb : Nat) (qp : Nat) (qa : Int64) (qi : Nat) (oc : Nat) (w : Int32) (x : Int64) (d : Nat) (bf : Nat → Int64) (be : Nat → Int64) (hd : d < 9) : skM l yX12_qOf cX12_qOf 5 (some .long) 1 25 0 0 D (skT cI cJ cC cZ cS) [.ref mm, .int w, .long x, .int (nI d)] [(mm, .inr (12, mo g (nI ta) (nI pa) (nI pe) pd (nI pb) pp pf pg pn rt rn (nI cd) sn (nI il) tk am at_ aa 0 0 (-1) wt wy 0 (nI rm) (nI ud) (nI nu) sd (nI qn) (nI qw) qo (nI qb) (nI qp) qa (nI qi) (nI oc))), (g 44, .inl (cJ, 90, .inr (.inl bf))), (g 43, .inl (cJ, 90, .inr (.inl be)))] (skL D (skT cI cJ cC cZ cS) (fun (r : Int64) (u : va_W) => u = [(mm, .inr (12, mo g (nI ta) (nI pa) (nI pe) pd (nI pb) pp pf pg pn rt rn (nI cd) sn (nI il) tk am at_ aa 0 0 (-1) wt wy 0 (nI rm) (nI ud) (nI nu) sd (nI qn) (nI qw) qo (nI qb) (nI qp) qa (nI qi) (nI oc))), (g 44, .inl (cJ, 90, .inr (.inl bf))), (g 43, .inl (cJ, 90, .inr (.inl be)))])) := by
  refine skM_of (by decide +kernel) (Nat.le_of_ble_eq_true rfl) ?_
  intro p e s m below meth c A ls E hP hD hl
  obtain ⟨hx, hb, hr, hml, hlocks, hin, hown, hts, hK, hA⟩ := E
  have hown : s.vm.findClass RX12 = some m.cls := hown
  have hS : va_S A s.heap s.heap [] := va_S.rf
  have hl : lv_has ls 5 [(0, .ref mm), (1, .int w), (2, .long x), (4, .int (nI d))] := hl
  refine lv_iload_n hx hb dX12_qOf_0 rfl (lv_at hl 1 rfl) ?_
  refine lv_lookup (off := 11) (tgt := 12) hx hb dX12_qOf_1 (by decide) (by rfl) (by decide) ?_
  refine lv_lload_n hx hb dX12_qOf_12 rfl (lv_at hl 2 rfl) ?_
  refine lv_lconst (v := 0) hx hb dX12_qOf_13 (by decide) ?_
  refine lv_ldc2 (v := 9) hx hb hown (hts _ w_7_130) dX12_qOf_14 ?_
  refine sk_Si (n := 3) (rest := []) (wr := [(mm, .inr (12, mo g (nI ta) (nI pa) (nI pe) pd (nI pb) pp pf pg pn rt rn (nI cd) sn (nI il) tk am at_ aa 0 0 (-1) wt wy 0 (nI rm) (nI ud) (nI nu) sd (nI qn) (nI qw) qo (nI qb) (nI qp) qa (nI qi) (nI oc))), (g 44, .inl (cJ, 90, .inr (.inl bf))), (g 43, .inl (cJ, 90, .inr (.inl be)))]) ⟨hx, hb, hml, hown, hts⟩ hl.1 (c_m_isIn l D cI cJ cC cZ cS x 0 9) w_7_0 w_7_1 w_1_14 w_7_2 (by decide +kernel) ⟨⟨(Nat.le_of_ble_eq_true rfl), (Nat.le_of_ble_eq_true rfl)⟩, (Nat.le_of_ble_eq_true rfl), (Nat.le_of_ble_eq_true rfl)⟩ hK hP hD hS hA [] [0, 1, 2] rfl rfl (by decide +kernel) (by decide +kernel) (by decide +kernel) rfl rfl (Nat.le_of_ble_eq_true rfl) dX12_qOf_17 (fun r_2 u H locs hw hP hD hS => ?_)
  obtain ⟨b_1, hb1_3, rfl, rfl⟩ := hw
  have hP : va_P D vwCl [(mm, .inr (12, mo g (nI ta) (nI pa) (nI pe) pd (nI pb) pp pf pg pn rt rn (nI cd) sn (nI il) tk am at_ aa 0 0 (-1) wt wy 0 (nI rm) (nI ud) (nI nu) sd (nI qn) (nI qw) qo (nI qb) (nI qp) qa (nI qi) (nI oc))), (g 44, .inl (cJ, 90, .inr (.inl bf))), (g 43, .inl (cJ, 90, .inr (.inl be)))] H := hP
  have hD : va_D A [(mm, .inr (12, mo g (nI ta) (nI pa) (nI pe) pd (nI pb) pp pf pg pn rt rn (nI cd) sn (nI il) tk am at_ aa 0 0 (-1) wt wy 0 (nI rm) (nI ud) (nI nu) sd (nI qn) (nI qw) qo (nI qb) (nI qp) qa (nI qi) (nI oc))), (g 44, .inl (cJ, 90, .inr (.inl bf))), (g 43, .inl (cJ, 90, .inr (.inl be)))] := hD
  refine lv_if_eq (tgt := 53) hx hb dX12_qOf_20 (by decide) (fun c_4 => ?_) (fun c_4 => ?_)
  · have c_4 : b_1 = 0 := (neq b_1 0 (by omega) (by omega)).mp c_4
    refine lv_lconst (v := 0) hx hb dX12_qOf_53 (by decide) ?_
    exact sk_lret hx hb hr hlocks hK hP hD hS rfl (Nat.le_of_ble_eq_true rfl) (Nat.le_of_ble_eq_true rfl) dX12_qOf_54
  · have c_4 : ¬ (b_1 = 0) := fun h => c_4 ((neq b_1 0 (by omega) (by omega)).mpr h)
    obtain ⟨kq, hkq, ekq⟩ := qof_k hb1_3 (by omega)
    refine lv_aload_n hx hb dX12_qOf_23 rfl (lv_at hl 0 rfl) ?_
    refine sk_get (v := .ref (g 44)) (C := RX12) (T := TX12) (N := 92) hx hb hts inlX12 hown hK hP 0 rfl rfl 44 (by decide) w_5_199 rfl dX12_qOf_24 ?_
    refine lv_bipush (v := 10) hx hb dX12_qOf_27 (by decide) ?_
    refine lv_iload hx hb dX12_qOf_29 (lv_at hl 3 rfl) ?_
    refine lv_imul hx hb dX12_qOf_31 ?_
    refine sk_top (nI (10 * d)) (nmul 10 d) ?_
    refine lv_lload_n hx hb dX12_qOf_32 rfl (lv_at hl 2 rfl) ?_
    refine lv_l2i hx hb dX12_qOf_33 rfl ?_
    refine sk_top (nI kq) ekq ?_
    refine lv_iadd hx hb dX12_qOf_34 ?_
    refine sk_top (nI (10 * d + kq)) (nI_add (10 * d) kq) ?_
    refine va_lald hx hb hK.1 hP 1 1 rfl rfl (vin (10 * d + kq) 90 (by omega) (by omega)) dX12_qOf_35 ?_
    refine lv_topl (fun v_5 ev_5 => ?_)
    refine lv_aload_n hx hb dX12_qOf_36 rfl (lv_at hl 0 rfl) ?_
    refine sk_get (v := .ref (g 43)) (C := RX12) (T := TX12) (N := 92) hx hb hts inlX12 hown hK hP 0 rfl rfl 43 (by decide) w_5_198 rfl dX12_qOf_37 ?_
    refine lv_bipush (v := 10) hx hb dX12_qOf_40 (by decide) ?_
    refine lv_iload hx hb dX12_qOf_42 (lv_at hl 3 rfl) ?_
    refine lv_imul hx hb dX12_qOf_44 ?_
    refine sk_top (nI (10 * d)) (nmul 10 d) ?_
    refine lv_lload_n hx hb dX12_qOf_45 rfl (lv_at hl 2 rfl) ?_
    refine lv_l2i hx hb dX12_qOf_46 rfl ?_
    refine sk_top (nI kq) ekq ?_
    refine lv_iadd hx hb dX12_qOf_47 ?_
    refine sk_top (nI (10 * d + kq)) (nI_add (10 * d) kq) ?_
    refine va_lald hx hb hK.1 hP 2 1 rfl rfl (vin (10 * d + kq) 90 (by omega) (by omega)) dX12_qOf_48 ?_
    refine lv_topl (fun v_6 ev_6 => ?_)
    refine lv_lmul hx hb dX12_qOf_49 ?_
    refine lv_topl (fun v_7 ev_7 => ?_)
    refine lv_goto (tgt := 54) hx hb dX12_qOf_50 (by decide) ?_
    exact sk_lret hx hb hr hlocks hK hP hD hS rfl (Nat.le_of_ble_eq_true rfl) (Nat.le_of_ble_eq_true rfl) dX12_qOf_54
theorem dX12_qTold_0 : decode cX12_qTold 0 = .ok (.aload_n 0, 1) := by decide +kernel
theorem dX12_qTold_1 : decode cX12_qTold 1 = .ok (.iconst 0, 1) := by decide +kernel
theorem dX12_qTold_2 : decode cX12_qTold 2 = .ok (.putfield 320, 3) := by decide +kernel
theorem dX12_qTold_5 : decode cX12_qTold 5 = .ok (.iconst 0, 1) := by decide +kernel
theorem dX12_qTold_6 : decode cX12_qTold 6 = .ok (.istore_n 2, 1) := by decide +kernel
theorem dX12_qTold_7 : decode cX12_qTold 7 = .ok (.iload_n 2, 1) := by decide +kernel
theorem dX12_qTold_8 : decode cX12_qTold 8 = .ok (.aload_n 0, 1) := by decide +kernel
theorem dX12_qTold_9 : decode cX12_qTold 9 = .ok (.getfield 257, 3) := by decide +kernel
theorem dX12_qTold_12 : decode cX12_qTold 12 = .ok (.if_icmp .ge 156, 3) := by decide +kernel
theorem dX12_qTold_168 : decode cX12_qTold 168 = .ok (.aload_n 0, 1) := by decide +kernel
theorem dX12_qTold_169 : decode cX12_qTold 169 = .ok (.getfield 186, 3) := by decide +kernel
theorem dX12_qTold_172 : decode cX12_qTold 172 = .ok (.iconst 0, 1) := by decide +kernel
theorem dX12_qTold_173 : decode cX12_qTold 173 = .ok (.laload, 1) := by decide +kernel
theorem dX12_qTold_174 : decode cX12_qTold 174 = .ok (.lreturn, 1) := by decide +kernel
theorem dX12_qTold_15 : decode cX12_qTold 15 = .ok (.aload_n 0, 1) := by decide +kernel
theorem dX12_qTold_16 : decode cX12_qTold 16 = .ok (.getfield 180, 3) := by decide +kernel
theorem dX12_qTold_19 : decode cX12_qTold 19 = .ok (.iload_n 2, 1) := by decide +kernel
theorem dX12_qTold_20 : decode cX12_qTold 20 = .ok (.iaload, 1) := by decide +kernel
theorem dX12_qTold_21 : decode cX12_qTold 21 = .ok (.istore_n 3, 1) := by decide +kernel
theorem dX12_qTold_22 : decode cX12_qTold 22 = .ok (.iload_n 3, 1) := by decide +kernel
theorem dX12_qTold_23 : decode cX12_qTold 23 = .ok (.sipush 1000, 3) := by decide +kernel
theorem dX12_qTold_26 : decode cX12_qTold 26 = .ok (.if_icmp .lt 16, 3) := by decide +kernel
theorem dX12_qTold_42 : decode cX12_qTold 42 = .ok (.iload_n 3, 1) := by decide +kernel
theorem dX12_qTold_43 : decode cX12_qTold 43 = .ok (.bipush 60, 2) := by decide +kernel
theorem dX12_qTold_45 : decode cX12_qTold 45 = .ok (.if_icmp .lt 40, 3) := by decide +kernel
theorem dX12_qTold_85 : decode cX12_qTold 85 = .ok (.iload_n 3, 1) := by decide +kernel
theorem dX12_qTold_86 : decode cX12_qTold 86 = .ok (.bipush 40, 2) := by decide +kernel
theorem dX12_qTold_88 : decode cX12_qTold 88 = .ok (.if_icmp .lt 22, 3) := by decide +kernel
theorem dX12_qTold_110 : decode cX12_qTold 110 = .ok (.iload_n 3, 1) := by decide +kernel
theorem dX12_qTold_111 : decode cX12_qTold 111 = .ok (.bipush 13, 2) := by decide +kernel
theorem dX12_qTold_113 : decode cX12_qTold 113 = .ok (.if_icmp .ne 11, 3) := by decide +kernel
theorem dX12_qTold_124 : decode cX12_qTold 124 = .ok (.iload_n 3, 1) := by decide +kernel
theorem dX12_qTold_125 : decode cX12_qTold 125 = .ok (.bipush 12, 2) := by decide +kernel
theorem dX12_qTold_127 : decode cX12_qTold 127 = .ok (.if_icmp .ne 30, 3) := by decide +kernel
theorem dX12_qTold_157 : decode cX12_qTold 157 = .ok (.aload_n 0, 1) := by decide +kernel
theorem dX12_qTold_158 : decode cX12_qTold 158 = .ok (.iload_n 3, 1) := by decide +kernel
theorem dX12_qTold_159 : decode cX12_qTold 159 = .ok (.invokevirtual 331, 3) := by decide +kernel
theorem dX12_qTold_162 : decode cX12_qTold 162 = .ok (.iinc 2 1, 3) := by decide +kernel
theorem dX12_qTold_165 : decode cX12_qTold 165 = .ok (.goto (-158), 3) := by decide +kernel
theorem dX12_qTold_130 : decode cX12_qTold 130 = .ok (.aload_n 0, 1) := by decide +kernel
theorem dX12_qTold_131 : decode cX12_qTold 131 = .ok (.getfield 186, 3) := by decide +kernel
theorem dX12_qTold_134 : decode cX12_qTold 134 = .ok (.aload_n 0, 1) := by decide +kernel
theorem dX12_qTold_135 : decode cX12_qTold 135 = .ok (.getfield 320, 3) := by decide +kernel
theorem dX12_qTold_138 : decode cX12_qTold 138 = .ok (.iconst 1, 1) := by decide +kernel
theorem dX12_qTold_139 : decode cX12_qTold 139 = .ok (.isub, 1) := by decide +kernel
theorem dX12_qTold_140 : decode cX12_qTold 140 = .ok (.lconst 1, 1) := by decide +kernel
theorem dX12_qTold_141 : decode cX12_qTold 141 = .ok (.aload_n 0, 1) := by decide +kernel
theorem dX12_qTold_142 : decode cX12_qTold 142 = .ok (.getfield 186, 3) := by decide +kernel
theorem dX12_qTold_145 : decode cX12_qTold 145 = .ok (.aload_n 0, 1) := by decide +kernel
theorem dX12_qTold_146 : decode cX12_qTold 146 = .ok (.getfield 320, 3) := by decide +kernel
theorem dX12_qTold_149 : decode cX12_qTold 149 = .ok (.iconst 1, 1) := by decide +kernel
theorem dX12_qTold_150 : decode cX12_qTold 150 = .ok (.isub, 1) := by decide +kernel
theorem dX12_qTold_151 : decode cX12_qTold 151 = .ok (.laload, 1) := by decide +kernel
theorem dX12_qTold_152 : decode cX12_qTold 152 = .ok (.lsub, 1) := by decide +kernel
theorem dX12_qTold_153 : decode cX12_qTold 153 = .ok (.lastore, 1) := by decide +kernel
theorem dX12_qTold_154 : decode cX12_qTold 154 = .ok (.goto 8, 3) := by decide +kernel
theorem dX12_qTold_116 : decode cX12_qTold 116 = .ok (.aload_n 0, 1) := by decide +kernel
theorem dX12_qTold_117 : decode cX12_qTold 117 = .ok (.lconst 1, 1) := by decide +kernel
theorem dX12_qTold_118 : decode cX12_qTold 118 = .ok (.invokevirtual 323, 3) := by decide +kernel
theorem dX12_qTold_121 : decode cX12_qTold 121 = .ok (.goto 41, 3) := by decide +kernel
theorem dX12_qTold_91 : decode cX12_qTold 91 = .ok (.aload_n 0, 1) := by decide +kernel
theorem dX12_qTold_92 : decode cX12_qTold 92 = .ok (.aload_n 0, 1) := by decide +kernel
theorem dX12_qTold_93 : decode cX12_qTold 93 = .ok (.iload_n 3, 1) := by decide +kernel
theorem dX12_qTold_94 : decode cX12_qTold 94 = .ok (.bipush 40, 2) := by decide +kernel
theorem dX12_qTold_96 : decode cX12_qTold 96 = .ok (.isub, 1) := by decide +kernel
theorem dX12_qTold_97 : decode cX12_qTold 97 = .ok (.iload_n 1, 1) := by decide +kernel
theorem dX12_qTold_98 : decode cX12_qTold 98 = .ok (.invokevirtual 327, 3) := by decide +kernel
theorem dX12_qTold_101 : decode cX12_qTold 101 = .ok (.invokestatic 556, 3) := by decide +kernel
theorem dX12_qTold_104 : decode cX12_qTold 104 = .ok (.invokevirtual 323, 3) := by decide +kernel
theorem dX12_qTold_107 : decode cX12_qTold 107 = .ok (.goto 55, 3) := by decide +kernel
theorem dX12_qTold_48 : decode cX12_qTold 48 = .ok (.aload_n 0, 1) := by decide +kernel
theorem dX12_qTold_49 : decode cX12_qTold 49 = .ok (.getfield 186, 3) := by decide +kernel
theorem dX12_qTold_52 : decode cX12_qTold 52 = .ok (.aload_n 0, 1) := by decide +kernel
theorem dX12_qTold_53 : decode cX12_qTold 53 = .ok (.getfield 320, 3) := by decide +kernel
theorem dX12_qTold_56 : decode cX12_qTold 56 = .ok (.iconst 1, 1) := by decide +kernel
theorem dX12_qTold_57 : decode cX12_qTold 57 = .ok (.isub, 1) := by decide +kernel
theorem dX12_qTold_58 : decode cX12_qTold 58 = .ok (.aload_n 0, 1) := by decide +kernel
theorem dX12_qTold_59 : decode cX12_qTold 59 = .ok (.iload_n 3, 1) := by decide +kernel
theorem dX12_qTold_60 : decode cX12_qTold 60 = .ok (.bipush 60, 2) := by decide +kernel
theorem dX12_qTold_62 : decode cX12_qTold 62 = .ok (.isub, 1) := by decide +kernel
theorem dX12_qTold_63 : decode cX12_qTold 63 = .ok (.aload_n 0, 1) := by decide +kernel
theorem dX12_qTold_64 : decode cX12_qTold 64 = .ok (.getfield 186, 3) := by decide +kernel
theorem dX12_qTold_67 : decode cX12_qTold 67 = .ok (.aload_n 0, 1) := by decide +kernel
theorem dX12_qTold_68 : decode cX12_qTold 68 = .ok (.getfield 320, 3) := by decide +kernel
theorem dX12_qTold_71 : decode cX12_qTold 71 = .ok (.iconst 1, 1) := by decide +kernel
theorem dX12_qTold_72 : decode cX12_qTold 72 = .ok (.isub, 1) := by decide +kernel
theorem dX12_qTold_73 : decode cX12_qTold 73 = .ok (.laload, 1) := by decide +kernel
theorem dX12_qTold_74 : decode cX12_qTold 74 = .ok (.iload_n 1, 1) := by decide +kernel
theorem dX12_qTold_75 : decode cX12_qTold 75 = .ok (.invokevirtual 571, 3) := by decide +kernel
theorem dX12_qTold_78 : decode cX12_qTold 78 = .ok (.invokestatic 556, 3) := by decide +kernel
theorem dX12_qTold_81 : decode cX12_qTold 81 = .ok (.lastore, 1) := by decide +kernel
theorem dX12_qTold_82 : decode cX12_qTold 82 = .ok (.goto 80, 3) := by decide +kernel
theorem dX12_qTold_29 : decode cX12_qTold 29 = .ok (.aload_n 0, 1) := by decide +kernel
theorem dX12_qTold_30 : decode cX12_qTold 30 = .ok (.iload_n 3, 1) := by decide +kernel
theorem dX12_qTold_31 : decode cX12_qTold 31 = .ok (.sipush 1000, 3) := by decide +kernel
theorem dX12_qTold_34 : decode cX12_qTold 34 = .ok (.isub, 1) := by decide +kernel
theorem dX12_qTold_35 : decode cX12_qTold 35 = .ok (.i2l, 1) := by decide +kernel
theorem dX12_qTold_36 : decode cX12_qTold 36 = .ok (.invokevirtual 323, 3) := by decide +kernel
theorem dX12_qTold_39 : decode cX12_qTold 39 = .ok (.goto 123, 3) := by decide +kernel
theorem w_8_195 : (Cond.methodLink RX12 571 yX12_qOf) ∈ wsL_law := sk_mem (ck_8 _ (List.mem_of_getElem? (i := 195) rfl)) rfl
theorem w_8_197 : (Cond.instanceMethod yX12_qOf) ∈ wsL_law := sk_mem (ck_8 _ (List.mem_of_getElem? (i := 197) rfl)) rfl
theorem w_0_117 : (Cond.selects RX12 yX12_qOf yX12_qOf) ∈ wsL_law := sk_mem (ck_0 _ (List.mem_of_getElem? (i := 117) rfl)) rfl
theorem w_8_194 : (Cond.code yX12_qTold cX12_qTold 4 (some .long)) ∈ wsL_law := sk_mem (ck_8 _ (List.mem_of_getElem? (i := 194) rfl)) rfl
set_option maxHeartbeats 4000000 in
set_option maxRecDepth 100000 in
theorem c_m_qTold (l : Launch) (D : va_G) (cI cJ cC cZ cS : ClassId) (mm : Nat) (g : Nat → Nat) (ta : Nat) (pa : Nat) (pe : Nat) (pd : Int32) (pb : Nat) (pp : Int32) (pf : Int32) (pg : Int32) (pn : Int32) (rt : Int32) (rn : Int32) (cd : Nat) (sn : Int32) (il : Nat) (tk : Int32) (am : Int32) (at_ : Int32) (aa : Int32) (wt : Int32) (wy : Int64) (rm : Nat) (ud : Nat) (nu : Nat) (sd : Int64) (qn : Nat) (qw : Nat) (qo : Int32) (qb : Nat) (qp : Nat) (qa : Int64) (qi : Nat) (oc : Nat) (d : Nat) (qs : Nat → Nat) (ql : Nat → Int64) (nw : Nat → Int32) (pt : Nat → Nat) (bf : Nat → Int64) (be : Nat → Int64) (hd : d < 9) (hqn : qn ≤ 1700) (hwf : wf qs qn) (hqs : ∀ j, qs j ≤ 20000) (hnw : nowOk nw) (hpt : ∀ j, pt j ≤ 9) : skM l yX12_qTold cX12_qTold 4 (some .long) 2 50 0 0 D (skT cI cJ cC cZ cS) [.ref mm, .int (nI d)] [(mm, .inr (12, mo g (nI ta) (nI pa) (nI pe) pd (nI pb) pp pf pg pn rt rn (nI cd) sn (nI il) tk am at_ aa 0 0 (-1) wt wy 0 (nI rm) (nI ud) (nI nu) sd (nI qn) (nI qw) qo (nI qb) (nI qp) qa (nI qi) (nI oc))), (g 80, .inl (cI, 1700, .inl (fun j => nI (qs j)))), (g 86, .inl (cJ, 1700, .inr (.inl ql))), (g 31, .inl (cI, 120, .inl nw)), (g 46, .inl (cI, 9, .inl (fun j => nI (pt j)))), (g 44, .inl (cJ, 90, .inr (.inl bf))), (g 43, .inl (cJ, 90, .inr (.inl be)))] (skL D (skT cI cJ cC cZ cS) (fun (r : Int64) (u : va_W) => ∃ (qp2 : Nat), ∃ (ql2 : Nat → Int64), u = [(mm, .inr (12, mo g (nI ta) (nI pa) (nI pe) pd (nI pb) pp pf pg pn rt rn (nI cd) sn (nI il) tk am at_ aa 0 0 (-1) wt wy 0 (nI rm) (nI ud) (nI nu) sd (nI qn) (nI qw) qo (nI qb) (nI qp2) qa (nI qi) (nI oc))), (g 80, .inl (cI, 1700, .inl (fun j => nI (qs j)))), (g 86, .inl (cJ, 1700, .inr (.inl ql2))), (g 31, .inl (cI, 120, .inl nw)), (g 46, .inl (cI, 9, .inl (fun j => nI (pt j)))), (g 44, .inl (cJ, 90, .inr (.inl bf))), (g 43, .inl (cJ, 90, .inr (.inl be)))])) := by
  refine skM_of (by decide +kernel) (Nat.le_of_ble_eq_true rfl) ?_
  intro p e s m below meth c A ls E hP hD hl
  obtain ⟨hx, hb, hr, hml, hlocks, hin, hown, hts, hK, hA⟩ := E
  have hown : s.vm.findClass RX12 = some m.cls := hown
  have hS : va_S A s.heap s.heap [] := va_S.rf
  have hl : lv_has ls 4 [(0, .ref mm), (1, .int (nI d))] := hl
  refine lv_aload_n hx hb dX12_qTold_0 rfl (lv_at hl 0 rfl) ?_
  refine lv_iconst (v := 0) hx hb dX12_qTold_1 (by decide) ?_
  refine sk_put (ws' := [(mm, .inr (12, mo g (nI ta) (nI pa) (nI pe) pd (nI pb) pp pf pg pn rt rn (nI cd) sn (nI il) tk am at_ aa 0 0 (-1) wt wy 0 (nI rm) (nI ud) (nI nu) sd (nI qn) (nI qw) qo (nI qb) 0 qa (nI qi) (nI oc))), (g 80, .inl (cI, 1700, .inl (fun j => nI (qs j)))), (g 86, .inl (cJ, 1700, .inr (.inl ql))), (g 31, .inl (cI, 120, .inl nw)), (g 46, .inl (cI, 9, .inl (fun j => nI (pt j)))), (g 44, .inl (cJ, 90, .inr (.inl bf))), (g 43, .inl (cJ, 90, .inr (.inl be)))]) (C := RX12) (T := TX12) (N := 92) (v := .int 0) hx hb hts inlX12 tyX12 tyX12_ok nmX12 hown hK hP hD hS 0 rfl rfl 87 (by decide) w_6_2 rfl rfl rfl (Nat.le_of_ble_eq_true rfl) rfl dX12_qTold_2 (fun H locs hP hD hS => ?_)
  refine lv_iconst (v := 0) hx hb dX12_qTold_5 (by decide) ?_
  refine lv_istore_n (lv' := [(2, .int 0), (0, .ref mm), (1, .int (nI d))]) hx hb dX12_qTold_6 rfl hl (by decide) rfl (fun ls hl => ?_)
  have lp_1 : ∀ (n_2 : Nat) (i : Nat) (zq : Nat) (zl : Nat → Int64) (H : Heap) (locs : List Loc) (ls : Array Slot), qn - i < n_2 → (i ≤ qn) → (zq ≤ i) → (zq = de qs i) → va_P D vwCl [(mm, .inr (12, mo g (nI ta) (nI pa) (nI pe) pd (nI pb) pp pf pg pn rt rn (nI cd) sn (nI il) tk am at_ aa 0 0 (-1) wt wy 0 (nI rm) (nI ud) (nI nu) sd (nI qn) (nI qw) qo (nI qb) (nI zq) qa (nI qi) (nI oc))), (g 80, .inl (cI, 1700, .inl (fun j => nI (qs j)))), (g 86, .inl (cJ, 1700, .inr (.inl zl))), (g 31, .inl (cI, 120, .inl nw)), (g 46, .inl (cI, 9, .inl (fun j => nI (pt j)))), (g 44, .inl (cJ, 90, .inr (.inl bf))), (g 43, .inl (cJ, 90, .inr (.inl be)))] H → va_D A [(mm, .inr (12, mo g (nI ta) (nI pa) (nI pe) pd (nI pb) pp pf pg pn rt rn (nI cd) sn (nI il) tk am at_ aa 0 0 (-1) wt wy 0 (nI rm) (nI ud) (nI nu) sd (nI qn) (nI qw) qo (nI qb) (nI zq) qa (nI qi) (nI oc))), (g 80, .inl (cI, 1700, .inl (fun j => nI (qs j)))), (g 86, .inl (cJ, 1700, .inr (.inl zl))), (g 31, .inl (cI, 120, .inl nw)), (g 46, .inl (cI, 9, .inl (fun j => nI (pt j)))), (g 44, .inl (cJ, 90, .inr (.inl bf))), (g 43, .inl (cJ, 90, .inr (.inl be)))] → va_S A s.heap H locs → lv_has ls 4 [(2, .int (nI i)), (0, .ref mm), (1, .int (nI d))] → W p l e { frames := 2, cells := 0, slots := 0, locals := 50 } s m ([.ref mm, .int (nI d)] : List Value).toArray below meth c H locs 0 0 (MQ below (skL D (skT cI cJ cC cZ cS) (fun (r : Int64) (u : va_W) => ∃ (qp2 : Nat), ∃ (ql2 : Nat → Int64), u = [(mm, .inr (12, mo g (nI ta) (nI pa) (nI pe) pd (nI pb) pp pf pg pn rt rn (nI cd) sn (nI il) tk am at_ aa 0 0 (-1) wt wy 0 (nI rm) (nI ud) (nI nu) sd (nI qn) (nI qw) qo (nI qb) (nI qp2) qa (nI qi) (nI oc))), (g 80, .inl (cI, 1700, .inl (fun j => nI (qs j)))), (g 86, .inl (cJ, 1700, .inr (.inl ql2))), (g 31, .inl (cI, 120, .inl nw)), (g 46, .inl (cI, 9, .inl (fun j => nI (pt j)))), (g 44, .inl (cJ, 90, .inr (.inl bf))), (g 43, .inl (cJ, 90, .inr (.inl be)))]) A) ([.ref mm, .int (nI d)] : List Value).toArray s 0 0 A) (F0 m 7 ls []) := by
    intro n_2
    induction n_2 with
    | zero => intro i zq zl H locs ls hm; exact absurd hm (Nat.not_lt_zero _)
    | succ n_2 ih_lp_1 =>
      intro i zq zl H locs ls hm hi hzq1 hzq hP hD hS hl
      refine lv_iload_n hx hb dX12_qTold_7 rfl (lv_at hl 0 rfl) ?_
      refine lv_aload_n hx hb dX12_qTold_8 rfl (lv_at hl 1 rfl) ?_
      refine sk_get (v := .int (nI qn)) (C := RX12) (T := TX12) (N := 92) hx hb hts inlX12 hown hK hP 0 rfl rfl 81 (by decide) w_5_236 rfl dX12_qTold_9 ?_
      refine lv_icmp_ge (tgt := 168) hx hb dX12_qTold_12 (by decide) (fun c_3 => ?_) (fun c_3 => ?_)
      · have c_3 : qn ≤ i := (nle qn i (by omega) (by omega)).mp c_3
        refine lv_aload_n hx hb dX12_qTold_168 rfl (lv_at hl 1 rfl) ?_
        refine sk_get (v := .ref (g 86)) (C := RX12) (T := TX12) (N := 92) hx hb hts inlX12 hown hK hP 0 rfl rfl 86 (by decide) w_6_1 rfl dX12_qTold_169 ?_
        refine lv_iconst (v := 0) hx hb dX12_qTold_172 (by decide) ?_
        refine va_lald hx hb hK.1 hP 2 1 rfl rfl (by unfold vp_in; decide) dX12_qTold_173 ?_
        refine lv_topl (fun v_4 ev_4 => ?_)
        exact sk_lret hx hb hr hlocks hK hP hD hS (⟨zq, zl, rfl⟩) (Nat.le_of_ble_eq_true rfl) (Nat.le_of_ble_eq_true rfl) dX12_qTold_174
      · have c_3 : ¬ (qn ≤ i) := fun h => c_3 ((nle qn i (by omega) (by omega)).mpr h)
        have hwi := hwf i (by omega)
        refine lv_aload_n hx hb dX12_qTold_15 rfl (lv_at hl 1 rfl) ?_
        refine sk_get (v := .ref (g 80)) (C := RX12) (T := TX12) (N := 92) hx hb hts inlX12 hown hK hP 0 rfl rfl 80 (by decide) w_5_235 rfl dX12_qTold_16 ?_
        refine lv_iload_n hx hb dX12_qTold_19 rfl (lv_at hl 0 rfl) ?_
        refine va_iald hx hb hK.1 hP 1 0 rfl rfl (vin i 1700 (by omega) (by omega)) dX12_qTold_20 ?_
        refine sk_top (nI (qs i)) (nrd qs i (by omega)) ?_
        have hb_5 := hqs i
        refine lv_istore_n (lv' := [(3, .int (nI (qs i))), (2, .int (nI i)), (0, .ref mm), (1, .int (nI d))]) hx hb dX12_qTold_21 rfl hl (by decide) rfl (fun ls hl => ?_)
        refine lv_iload_n hx hb dX12_qTold_22 rfl (lv_at hl 0 rfl) ?_
        refine lv_sipush (v := 1000) hx hb dX12_qTold_23 (by decide) ?_
        refine lv_icmp_lt (tgt := 42) hx hb dX12_qTold_26 (by decide) (fun c_6 => ?_) (fun c_6 => ?_)
        · have c_6 : qs i < 1000 := (nlt (qs i) 1000 (by omega) (by omega)).mp c_6
          refine lv_iload_n hx hb dX12_qTold_42 rfl (lv_at hl 0 rfl) ?_
          refine lv_bipush (v := 60) hx hb dX12_qTold_43 (by decide) ?_
          refine lv_icmp_lt (tgt := 85) hx hb dX12_qTold_45 (by decide) (fun c_7 => ?_) (fun c_7 => ?_)
          · have c_7 : qs i < 60 := (nlt (qs i) 60 (by omega) (by omega)).mp c_7
            refine lv_iload_n hx hb dX12_qTold_85 rfl (lv_at hl 0 rfl) ?_
            refine lv_bipush (v := 40) hx hb dX12_qTold_86 (by decide) ?_
            refine lv_icmp_lt (tgt := 110) hx hb dX12_qTold_88 (by decide) (fun c_8 => ?_) (fun c_8 => ?_)
            · have c_8 : qs i < 40 := (nlt (qs i) 40 (by omega) (by omega)).mp c_8
              refine lv_iload_n hx hb dX12_qTold_110 rfl (lv_at hl 0 rfl) ?_
              refine lv_bipush (v := 13) hx hb dX12_qTold_111 (by decide) ?_
              refine lv_icmp_ne (tgt := 124) hx hb dX12_qTold_113 (by decide) (fun c_9 => ?_) (fun c_9 => ?_)
              · have c_9 : ¬ (qs i = 13) := fun h => c_9 ((neq (qs i) 13 (by omega) (by omega)).mpr h)
                refine lv_iload_n hx hb dX12_qTold_124 rfl (lv_at hl 0 rfl) ?_
                refine lv_bipush (v := 12) hx hb dX12_qTold_125 (by decide) ?_
                refine lv_icmp_ne (tgt := 157) hx hb dX12_qTold_127 (by decide) (fun c_10 => ?_) (fun c_10 => ?_)
                · have c_10 : ¬ (qs i = 12) := fun h => c_10 ((neq (qs i) 12 (by omega) (by omega)).mpr h)
                  refine lv_aload_n hx hb dX12_qTold_157 rfl (lv_at hl 2 rfl) ?_
                  refine lv_iload_n hx hb dX12_qTold_158 rfl (lv_at hl 0 rfl) ?_
                  refine sk_Vv (q0 := 0) (n := 1) (rest := []) (wr := [(g 80, .inl (cI, 1700, .inl (fun j => nI (qs j)))), (g 31, .inl (cI, 120, .inl nw)), (g 46, .inl (cI, 9, .inl (fun j => nI (pt j)))), (g 44, .inl (cJ, 90, .inr (.inl bf))), (g 43, .inl (cJ, 90, .inr (.inl be)))]) ⟨hx, hb, hml, hown, hts⟩ hl.1 (c_m_qJoins l D cI cJ cC cZ cS mm g ta pa pe pd pb pp pf pg pn rt rn cd sn il tk am at_ aa 0 0 (-1) wt wy 0 rm ud nu sd qn qw qo qb zq qa qi oc (nI (qs i)) zl (by omega) (by omega)) w_7_156 w_7_158 w_0_80 w_1_14 w_7_159 (by decide +kernel) ⟨⟨(Nat.le_of_ble_eq_true rfl), (Nat.le_of_ble_eq_true rfl)⟩, (Nat.le_of_ble_eq_true rfl), (Nat.le_of_ble_eq_true rfl)⟩ hK hP hD hS hA [0, 2] [1, 3, 4, 5, 6] rfl rfl (by decide +kernel) (by decide +kernel) (by decide +kernel) rfl rfl rfl rfl (Nat.le_of_ble_eq_true rfl) dX12_qTold_159 (fun u H locs hw hP hD hS => ?_)
                  obtain ⟨ql2_11, rfl⟩ := hw
                  have hP : va_P D vwCl [(g 80, .inl (cI, 1700, .inl (fun j => nI (qs j)))), (g 31, .inl (cI, 120, .inl nw)), (g 46, .inl (cI, 9, .inl (fun j => nI (pt j)))), (g 44, .inl (cJ, 90, .inr (.inl bf))), (g 43, .inl (cJ, 90, .inr (.inl be))), (mm, .inr (12, mo g (nI ta) (nI pa) (nI pe) pd (nI pb) pp pf pg pn rt rn (nI cd) sn (nI il) tk am at_ aa 0 0 (-1) wt wy 0 (nI rm) (nI ud) (nI nu) sd (nI qn) (nI qw) qo (nI qb) (nI (zq - 2 + 1)) qa (nI qi) (nI oc))), (g 86, .inl (cJ, 1700, .inr (.inl ql2_11)))] H := hP
                  have hD : va_D A [(g 80, .inl (cI, 1700, .inl (fun j => nI (qs j)))), (g 31, .inl (cI, 120, .inl nw)), (g 46, .inl (cI, 9, .inl (fun j => nI (pt j)))), (g 44, .inl (cJ, 90, .inr (.inl bf))), (g 43, .inl (cJ, 90, .inr (.inl be))), (mm, .inr (12, mo g (nI ta) (nI pa) (nI pe) pd (nI pb) pp pf pg pn rt rn (nI cd) sn (nI il) tk am at_ aa 0 0 (-1) wt wy 0 (nI rm) (nI ud) (nI nu) sd (nI qn) (nI qw) qo (nI qb) (nI (zq - 2 + 1)) qa (nI qi) (nI oc))), (g 86, .inl (cJ, 1700, .inr (.inl ql2_11)))] := hD
                  refine lv_iinc (v := nI (i + 1)) (lv' := [(2, .int (nI (i + 1))), (3, .int (nI (qs i))), (0, .ref mm), (1, .int (nI d))]) hx hb dX12_qTold_162 hl (k := 1) rfl (ninc i 1 (by decide)) (by decide) rfl (fun ls hl => ?_)
                  refine lv_goto (tgt := 7) hx hb dX12_qTold_165 (by decide) ?_
                  have hP := hP.sub (ws' := [(mm, .inr (12, mo g (nI ta) (nI pa) (nI pe) pd (nI pb) pp pf pg pn rt rn (nI cd) sn (nI il) tk am at_ aa 0 0 (-1) wt wy 0 (nI rm) (nI ud) (nI nu) sd (nI qn) (nI qw) qo (nI qb) (nI (zq - 2 + 1)) qa (nI qi) (nI oc))), (g 80, .inl (cI, 1700, .inl (fun j => nI (qs j)))), (g 86, .inl (cJ, 1700, .inr (.inl ql2_11))), (g 31, .inl (cI, 120, .inl nw)), (g 46, .inl (cI, 9, .inl (fun j => nI (pt j)))), (g 44, .inl (cJ, 90, .inr (.inl bf))), (g 43, .inl (cJ, 90, .inr (.inl be)))]) [5, 0, 6, 1, 2, 3, 4] rfl
                  have hD := hD.sub (ws' := [(mm, .inr (12, mo g (nI ta) (nI pa) (nI pe) pd (nI pb) pp pf pg pn rt rn (nI cd) sn (nI il) tk am at_ aa 0 0 (-1) wt wy 0 (nI rm) (nI ud) (nI nu) sd (nI qn) (nI qw) qo (nI qb) (nI (zq - 2 + 1)) qa (nI qi) (nI oc))), (g 80, .inl (cI, 1700, .inl (fun j => nI (qs j)))), (g 86, .inl (cJ, 1700, .inr (.inl ql2_11))), (g 31, .inl (cI, 120, .inl nw)), (g 46, .inl (cI, 9, .inl (fun j => nI (pt j)))), (g 44, .inl (cJ, 90, .inr (.inl bf))), (g 43, .inl (cJ, 90, .inr (.inl be)))]) [5, 0, 6, 1, 2, 3, 4] (by decide +kernel) rfl
                  exact ih_lp_1 (i + 1) (zq - 2 + 1) ql2_11 _ _ _ (by omega) (by omega) (by omega) (dq hzq (by omega)) hP hD hS (lv_sub hl [0, 2, 3] rfl)
                · have c_10 : qs i = 12 := (neq (qs i) 12 (by omega) (by omega)).mp c_10
                  refine lv_aload_n hx hb dX12_qTold_130 rfl (lv_at hl 2 rfl) ?_
                  refine sk_get (v := .ref (g 86)) (C := RX12) (T := TX12) (N := 92) hx hb hts inlX12 hown hK hP 0 rfl rfl 86 (by decide) w_6_1 rfl dX12_qTold_131 ?_
                  refine lv_aload_n hx hb dX12_qTold_134 rfl (lv_at hl 2 rfl) ?_
                  refine sk_get (v := .int (nI zq)) (C := RX12) (T := TX12) (N := 92) hx hb hts inlX12 hown hK hP 0 rfl rfl 87 (by decide) w_6_2 rfl dX12_qTold_135 ?_
                  refine lv_iconst (v := 1) hx hb dX12_qTold_138 (by decide) ?_
                  refine lv_isub hx hb dX12_qTold_139 ?_
                  refine sk_top (nI (zq - 1)) (nsub zq 1 (by omega)) ?_
                  refine lv_lconst (v := 1) hx hb dX12_qTold_140 (by decide) ?_
                  refine lv_aload_n hx hb dX12_qTold_141 rfl (lv_at hl 2 rfl) ?_
                  refine sk_get (v := .ref (g 86)) (C := RX12) (T := TX12) (N := 92) hx hb hts inlX12 hown hK hP 0 rfl rfl 86 (by decide) w_6_1 rfl dX12_qTold_142 ?_
                  refine lv_aload_n hx hb dX12_qTold_145 rfl (lv_at hl 2 rfl) ?_
                  refine sk_get (v := .int (nI zq)) (C := RX12) (T := TX12) (N := 92) hx hb hts inlX12 hown hK hP 0 rfl rfl 87 (by decide) w_6_2 rfl dX12_qTold_146 ?_
                  refine lv_iconst (v := 1) hx hb dX12_qTold_149 (by decide) ?_
                  refine lv_isub hx hb dX12_qTold_150 ?_
                  refine sk_top (nI (zq - 1)) (nsub zq 1 (by omega)) ?_
                  refine va_lald hx hb hK.1 hP 2 1 rfl rfl (vin (zq - 1) 1700 (by omega) (by omega)) dX12_qTold_151 ?_
                  refine lv_topl (fun v_12 ev_12 => ?_)
                  refine lv_lsub hx hb dX12_qTold_152 ?_
                  refine lv_topl (fun v_13 ev_13 => ?_)
                  refine sk_lastO (ws' := fun f_14 => [(mm, .inr (12, mo g (nI ta) (nI pa) (nI pe) pd (nI pb) pp pf pg pn rt rn (nI cd) sn (nI il) tk am at_ aa 0 0 (-1) wt wy 0 (nI rm) (nI ud) (nI nu) sd (nI qn) (nI qw) qo (nI qb) (nI zq) qa (nI qi) (nI oc))), (g 80, .inl (cI, 1700, .inl (fun j => nI (qs j)))), (g 86, .inl (cJ, 1700, .inr (.inl f_14))), (g 31, .inl (cI, 120, .inl nw)), (g 46, .inl (cI, 9, .inl (fun j => nI (pt j)))), (g 44, .inl (cJ, 90, .inr (.inl bf))), (g 43, .inl (cJ, 90, .inr (.inl be)))]) hx hb hK hP hD hS 2 1 rfl rfl (vin (zq - 1) 1700 (by omega) (by omega)) (fun _ => rfl) dX12_qTold_153 (fun f_14 H locs hP hD hS => ?_)
                  refine lv_goto (tgt := 162) hx hb dX12_qTold_154 (by decide) ?_
                  refine lv_iinc (v := nI (i + 1)) (lv' := [(2, .int (nI (i + 1))), (3, .int (nI (qs i))), (0, .ref mm), (1, .int (nI d))]) hx hb dX12_qTold_162 hl (k := 1) rfl (ninc i 1 (by decide)) (by decide) rfl (fun ls hl => ?_)
                  refine lv_goto (tgt := 7) hx hb dX12_qTold_165 (by decide) ?_
                  exact ih_lp_1 (i + 1) zq f_14 _ _ _ (by omega) (by omega) (by omega) (dq hzq (by omega)) hP hD hS (lv_sub hl [0, 2, 3] rfl)
              · have c_9 : qs i = 13 := (neq (qs i) 13 (by omega) (by omega)).mp c_9
                refine lv_aload_n hx hb dX12_qTold_116 rfl (lv_at hl 2 rfl) ?_
                refine lv_lconst (v := 1) hx hb dX12_qTold_117 (by decide) ?_
                refine sk_Vv (q0 := 0) (n := 1) (rest := []) (wr := [(g 80, .inl (cI, 1700, .inl (fun j => nI (qs j)))), (g 31, .inl (cI, 120, .inl nw)), (g 46, .inl (cI, 9, .inl (fun j => nI (pt j)))), (g 44, .inl (cJ, 90, .inr (.inl bf))), (g 43, .inl (cJ, 90, .inr (.inl be)))]) ⟨hx, hb, hml, hown, hts⟩ hl.1 (c_m_qPuts l D cI cJ cC cZ cS mm g ta pa pe pd pb pp pf pg pn rt rn cd sn il tk am at_ aa 0 0 (-1) wt wy 0 rm ud nu sd qn qw qo qb zq qa qi oc 1 zl (by omega)) w_7_139 w_7_141 w_0_76 w_1_14 w_7_142 (by decide +kernel) ⟨⟨(Nat.le_of_ble_eq_true rfl), (Nat.le_of_ble_eq_true rfl)⟩, (Nat.le_of_ble_eq_true rfl), (Nat.le_of_ble_eq_true rfl)⟩ hK hP hD hS hA [0, 2] [1, 3, 4, 5, 6] rfl rfl (by decide +kernel) (by decide +kernel) (by decide +kernel) rfl rfl rfl rfl (Nat.le_of_ble_eq_true rfl) dX12_qTold_118 (fun u H locs hw hP hD hS => ?_)
                obtain ⟨ql2_15, rfl⟩ := hw
                have hP : va_P D vwCl [(g 80, .inl (cI, 1700, .inl (fun j => nI (qs j)))), (g 31, .inl (cI, 120, .inl nw)), (g 46, .inl (cI, 9, .inl (fun j => nI (pt j)))), (g 44, .inl (cJ, 90, .inr (.inl bf))), (g 43, .inl (cJ, 90, .inr (.inl be))), (mm, .inr (12, mo g (nI ta) (nI pa) (nI pe) pd (nI pb) pp pf pg pn rt rn (nI cd) sn (nI il) tk am at_ aa 0 0 (-1) wt wy 0 (nI rm) (nI ud) (nI nu) sd (nI qn) (nI qw) qo (nI qb) (nI (zq + 1)) qa (nI qi) (nI oc))), (g 86, .inl (cJ, 1700, .inr (.inl ql2_15)))] H := hP
                have hD : va_D A [(g 80, .inl (cI, 1700, .inl (fun j => nI (qs j)))), (g 31, .inl (cI, 120, .inl nw)), (g 46, .inl (cI, 9, .inl (fun j => nI (pt j)))), (g 44, .inl (cJ, 90, .inr (.inl bf))), (g 43, .inl (cJ, 90, .inr (.inl be))), (mm, .inr (12, mo g (nI ta) (nI pa) (nI pe) pd (nI pb) pp pf pg pn rt rn (nI cd) sn (nI il) tk am at_ aa 0 0 (-1) wt wy 0 (nI rm) (nI ud) (nI nu) sd (nI qn) (nI qw) qo (nI qb) (nI (zq + 1)) qa (nI qi) (nI oc))), (g 86, .inl (cJ, 1700, .inr (.inl ql2_15)))] := hD
                refine lv_goto (tgt := 162) hx hb dX12_qTold_121 (by decide) ?_
                refine lv_iinc (v := nI (i + 1)) (lv' := [(2, .int (nI (i + 1))), (3, .int (nI (qs i))), (0, .ref mm), (1, .int (nI d))]) hx hb dX12_qTold_162 hl (k := 1) rfl (ninc i 1 (by decide)) (by decide) rfl (fun ls hl => ?_)
                refine lv_goto (tgt := 7) hx hb dX12_qTold_165 (by decide) ?_
                have hP := hP.sub (ws' := [(mm, .inr (12, mo g (nI ta) (nI pa) (nI pe) pd (nI pb) pp pf pg pn rt rn (nI cd) sn (nI il) tk am at_ aa 0 0 (-1) wt wy 0 (nI rm) (nI ud) (nI nu) sd (nI qn) (nI qw) qo (nI qb) (nI (zq + 1)) qa (nI qi) (nI oc))), (g 80, .inl (cI, 1700, .inl (fun j => nI (qs j)))), (g 86, .inl (cJ, 1700, .inr (.inl ql2_15))), (g 31, .inl (cI, 120, .inl nw)), (g 46, .inl (cI, 9, .inl (fun j => nI (pt j)))), (g 44, .inl (cJ, 90, .inr (.inl bf))), (g 43, .inl (cJ, 90, .inr (.inl be)))]) [5, 0, 6, 1, 2, 3, 4] rfl
                have hD := hD.sub (ws' := [(mm, .inr (12, mo g (nI ta) (nI pa) (nI pe) pd (nI pb) pp pf pg pn rt rn (nI cd) sn (nI il) tk am at_ aa 0 0 (-1) wt wy 0 (nI rm) (nI ud) (nI nu) sd (nI qn) (nI qw) qo (nI qb) (nI (zq + 1)) qa (nI qi) (nI oc))), (g 80, .inl (cI, 1700, .inl (fun j => nI (qs j)))), (g 86, .inl (cJ, 1700, .inr (.inl ql2_15))), (g 31, .inl (cI, 120, .inl nw)), (g 46, .inl (cI, 9, .inl (fun j => nI (pt j)))), (g 44, .inl (cJ, 90, .inr (.inl bf))), (g 43, .inl (cJ, 90, .inr (.inl be)))]) [5, 0, 6, 1, 2, 3, 4] (by decide +kernel) rfl
                exact ih_lp_1 (i + 1) (zq + 1) ql2_15 _ _ _ (by omega) (by omega) (by omega) (dq hzq (by omega)) hP hD hS (lv_sub hl [0, 2, 3] rfl)
            · have c_8 : ¬ (qs i < 40) := fun h => c_8 ((nlt (qs i) 40 (by omega) (by omega)).mpr h)
              refine lv_aload_n hx hb dX12_qTold_91 rfl (lv_at hl 2 rfl) ?_
              refine lv_aload_n hx hb dX12_qTold_92 rfl (lv_at hl 2 rfl) ?_
              refine lv_iload_n hx hb dX12_qTold_93 rfl (lv_at hl 0 rfl) ?_
              refine lv_bipush (v := 40) hx hb dX12_qTold_94 (by decide) ?_
              refine lv_isub hx hb dX12_qTold_96 ?_
              refine sk_top (nI (qs i - 40)) (nsub (qs i) 40 (by omega)) ?_
              refine lv_iload_n hx hb dX12_qTold_97 rfl (lv_at hl 3 rfl) ?_
              refine sk_Vl (q0 := 0) (n := 2) (rest := [.ref mm]) (wr := [(g 80, .inl (cI, 1700, .inl (fun j => nI (qs j)))), (g 86, .inl (cJ, 1700, .inr (.inl zl))), (g 44, .inl (cJ, 90, .inr (.inl bf))), (g 43, .inl (cJ, 90, .inr (.inl be)))]) ⟨hx, hb, hml, hown, hts⟩ hl.1 (c_m_qPartOf l D cI cJ cC cZ cS mm g ta pa pe pd pb pp pf pg pn rt rn cd sn il tk am at_ aa 0 0 (-1) wt wy 0 rm ud nu sd qn qw qo qb zq qa qi oc (nI (qs i - 40)) d nw pt (by omega) hnw hpt) w_7_143 w_7_145 w_0_77 w_1_14 w_7_146 (by decide +kernel) ⟨⟨(Nat.le_of_ble_eq_true rfl), (Nat.le_of_ble_eq_true rfl)⟩, (Nat.le_of_ble_eq_true rfl), (Nat.le_of_ble_eq_true rfl)⟩ hK hP hD hS hA [0, 3, 4] [1, 2, 5, 6] rfl rfl (by decide +kernel) (by decide +kernel) (by decide +kernel) rfl rfl rfl rfl (Nat.le_of_ble_eq_true rfl) dX12_qTold_98 (fun r_16 u H locs hw hP hD hS => ?_)
              obtain rfl := hw
              have hP : va_P D vwCl [(g 80, .inl (cI, 1700, .inl (fun j => nI (qs j)))), (g 86, .inl (cJ, 1700, .inr (.inl zl))), (g 44, .inl (cJ, 90, .inr (.inl bf))), (g 43, .inl (cJ, 90, .inr (.inl be))), (mm, .inr (12, mo g (nI ta) (nI pa) (nI pe) pd (nI pb) pp pf pg pn rt rn (nI cd) sn (nI il) tk am at_ aa 0 0 (-1) wt wy 0 (nI rm) (nI ud) (nI nu) sd (nI qn) (nI qw) qo (nI qb) (nI zq) qa (nI qi) (nI oc))), (g 31, .inl (cI, 120, .inl nw)), (g 46, .inl (cI, 9, .inl (fun j => nI (pt j))))] H := hP
              have hD : va_D A [(g 80, .inl (cI, 1700, .inl (fun j => nI (qs j)))), (g 86, .inl (cJ, 1700, .inr (.inl zl))), (g 44, .inl (cJ, 90, .inr (.inl bf))), (g 43, .inl (cJ, 90, .inr (.inl be))), (mm, .inr (12, mo g (nI ta) (nI pa) (nI pe) pd (nI pb) pp pf pg pn rt rn (nI cd) sn (nI il) tk am at_ aa 0 0 (-1) wt wy 0 (nI rm) (nI ud) (nI nu) sd (nI qn) (nI qw) qo (nI qb) (nI zq) qa (nI qi) (nI oc))), (g 31, .inl (cI, 120, .inl nw)), (g 46, .inl (cI, 9, .inl (fun j => nI (pt j))))] := hD
              refine sk_Sl (n := 1) (rest := [.ref mm]) (wr := [(g 80, .inl (cI, 1700, .inl (fun j => nI (qs j)))), (g 86, .inl (cJ, 1700, .inr (.inl zl))), (g 44, .inl (cJ, 90, .inr (.inl bf))), (g 43, .inl (cJ, 90, .inr (.inl be))), (mm, .inr (12, mo g (nI ta) (nI pa) (nI pe) pd (nI pb) pp pf pg pn rt rn (nI cd) sn (nI il) tk am at_ aa 0 0 (-1) wt wy 0 (nI rm) (nI ud) (nI nu) sd (nI qn) (nI qw) qo (nI qb) (nI zq) qa (nI qi) (nI oc))), (g 31, .inl (cI, 120, .inl nw)), (g 46, .inl (cI, 9, .inl (fun j => nI (pt j))))]) ⟨hx, hb, hml, hown, hts⟩ hl.1 (c_m_qClip l D cI cJ cC cZ cS r_16) w_7_160 w_7_161 w_1_14 w_7_162 (by decide +kernel) ⟨⟨(Nat.le_of_ble_eq_true rfl), (Nat.le_of_ble_eq_true rfl)⟩, (Nat.le_of_ble_eq_true rfl), (Nat.le_of_ble_eq_true rfl)⟩ hK hP hD hS hA [] [0, 1, 2, 3, 4, 5, 6] rfl rfl (by decide +kernel) (by decide +kernel) (by decide +kernel) rfl rfl (Nat.le_of_ble_eq_true rfl) dX12_qTold_101 (fun r_17 u H locs hw hP hD hS => ?_)
              obtain rfl := hw
              have hP : va_P D vwCl [(g 80, .inl (cI, 1700, .inl (fun j => nI (qs j)))), (g 86, .inl (cJ, 1700, .inr (.inl zl))), (g 44, .inl (cJ, 90, .inr (.inl bf))), (g 43, .inl (cJ, 90, .inr (.inl be))), (mm, .inr (12, mo g (nI ta) (nI pa) (nI pe) pd (nI pb) pp pf pg pn rt rn (nI cd) sn (nI il) tk am at_ aa 0 0 (-1) wt wy 0 (nI rm) (nI ud) (nI nu) sd (nI qn) (nI qw) qo (nI qb) (nI zq) qa (nI qi) (nI oc))), (g 31, .inl (cI, 120, .inl nw)), (g 46, .inl (cI, 9, .inl (fun j => nI (pt j))))] H := hP
              have hD : va_D A [(g 80, .inl (cI, 1700, .inl (fun j => nI (qs j)))), (g 86, .inl (cJ, 1700, .inr (.inl zl))), (g 44, .inl (cJ, 90, .inr (.inl bf))), (g 43, .inl (cJ, 90, .inr (.inl be))), (mm, .inr (12, mo g (nI ta) (nI pa) (nI pe) pd (nI pb) pp pf pg pn rt rn (nI cd) sn (nI il) tk am at_ aa 0 0 (-1) wt wy 0 (nI rm) (nI ud) (nI nu) sd (nI qn) (nI qw) qo (nI qb) (nI zq) qa (nI qi) (nI oc))), (g 31, .inl (cI, 120, .inl nw)), (g 46, .inl (cI, 9, .inl (fun j => nI (pt j))))] := hD
              refine sk_Vv (q0 := 0) (n := 1) (rest := []) (wr := [(g 80, .inl (cI, 1700, .inl (fun j => nI (qs j)))), (g 44, .inl (cJ, 90, .inr (.inl bf))), (g 43, .inl (cJ, 90, .inr (.inl be))), (g 31, .inl (cI, 120, .inl nw)), (g 46, .inl (cI, 9, .inl (fun j => nI (pt j))))]) ⟨hx, hb, hml, hown, hts⟩ hl.1 (c_m_qPuts l D cI cJ cC cZ cS mm g ta pa pe pd pb pp pf pg pn rt rn cd sn il tk am at_ aa 0 0 (-1) wt wy 0 rm ud nu sd qn qw qo qb zq qa qi oc r_17 zl (by omega)) w_7_139 w_7_141 w_0_76 w_1_14 w_7_142 (by decide +kernel) ⟨⟨(Nat.le_of_ble_eq_true rfl), (Nat.le_of_ble_eq_true rfl)⟩, (Nat.le_of_ble_eq_true rfl), (Nat.le_of_ble_eq_true rfl)⟩ hK hP hD hS hA [4, 1] [0, 2, 3, 5, 6] rfl rfl (by decide +kernel) (by decide +kernel) (by decide +kernel) rfl rfl rfl rfl (Nat.le_of_ble_eq_true rfl) dX12_qTold_104 (fun u H locs hw hP hD hS => ?_)
              obtain ⟨ql2_18, rfl⟩ := hw
              have hP : va_P D vwCl [(g 80, .inl (cI, 1700, .inl (fun j => nI (qs j)))), (g 44, .inl (cJ, 90, .inr (.inl bf))), (g 43, .inl (cJ, 90, .inr (.inl be))), (g 31, .inl (cI, 120, .inl nw)), (g 46, .inl (cI, 9, .inl (fun j => nI (pt j)))), (mm, .inr (12, mo g (nI ta) (nI pa) (nI pe) pd (nI pb) pp pf pg pn rt rn (nI cd) sn (nI il) tk am at_ aa 0 0 (-1) wt wy 0 (nI rm) (nI ud) (nI nu) sd (nI qn) (nI qw) qo (nI qb) (nI (zq + 1)) qa (nI qi) (nI oc))), (g 86, .inl (cJ, 1700, .inr (.inl ql2_18)))] H := hP
              have hD : va_D A [(g 80, .inl (cI, 1700, .inl (fun j => nI (qs j)))), (g 44, .inl (cJ, 90, .inr (.inl bf))), (g 43, .inl (cJ, 90, .inr (.inl be))), (g 31, .inl (cI, 120, .inl nw)), (g 46, .inl (cI, 9, .inl (fun j => nI (pt j)))), (mm, .inr (12, mo g (nI ta) (nI pa) (nI pe) pd (nI pb) pp pf pg pn rt rn (nI cd) sn (nI il) tk am at_ aa 0 0 (-1) wt wy 0 (nI rm) (nI ud) (nI nu) sd (nI qn) (nI qw) qo (nI qb) (nI (zq + 1)) qa (nI qi) (nI oc))), (g 86, .inl (cJ, 1700, .inr (.inl ql2_18)))] := hD
              refine lv_goto (tgt := 162) hx hb dX12_qTold_107 (by decide) ?_
              refine lv_iinc (v := nI (i + 1)) (lv' := [(2, .int (nI (i + 1))), (3, .int (nI (qs i))), (0, .ref mm), (1, .int (nI d))]) hx hb dX12_qTold_162 hl (k := 1) rfl (ninc i 1 (by decide)) (by decide) rfl (fun ls hl => ?_)
              refine lv_goto (tgt := 7) hx hb dX12_qTold_165 (by decide) ?_
              have hP := hP.sub (ws' := [(mm, .inr (12, mo g (nI ta) (nI pa) (nI pe) pd (nI pb) pp pf pg pn rt rn (nI cd) sn (nI il) tk am at_ aa 0 0 (-1) wt wy 0 (nI rm) (nI ud) (nI nu) sd (nI qn) (nI qw) qo (nI qb) (nI (zq + 1)) qa (nI qi) (nI oc))), (g 80, .inl (cI, 1700, .inl (fun j => nI (qs j)))), (g 86, .inl (cJ, 1700, .inr (.inl ql2_18))), (g 31, .inl (cI, 120, .inl nw)), (g 46, .inl (cI, 9, .inl (fun j => nI (pt j)))), (g 44, .inl (cJ, 90, .inr (.inl bf))), (g 43, .inl (cJ, 90, .inr (.inl be)))]) [5, 0, 6, 3, 4, 1, 2] rfl
              have hD := hD.sub (ws' := [(mm, .inr (12, mo g (nI ta) (nI pa) (nI pe) pd (nI pb) pp pf pg pn rt rn (nI cd) sn (nI il) tk am at_ aa 0 0 (-1) wt wy 0 (nI rm) (nI ud) (nI nu) sd (nI qn) (nI qw) qo (nI qb) (nI (zq + 1)) qa (nI qi) (nI oc))), (g 80, .inl (cI, 1700, .inl (fun j => nI (qs j)))), (g 86, .inl (cJ, 1700, .inr (.inl ql2_18))), (g 31, .inl (cI, 120, .inl nw)), (g 46, .inl (cI, 9, .inl (fun j => nI (pt j)))), (g 44, .inl (cJ, 90, .inr (.inl bf))), (g 43, .inl (cJ, 90, .inr (.inl be)))]) [5, 0, 6, 3, 4, 1, 2] (by decide +kernel) rfl
              exact ih_lp_1 (i + 1) (zq + 1) ql2_18 _ _ _ (by omega) (by omega) (by omega) (dq hzq (by omega)) hP hD hS (lv_sub hl [0, 2, 3] rfl)
          · have c_7 : ¬ (qs i < 60) := fun h => c_7 ((nlt (qs i) 60 (by omega) (by omega)).mpr h)
            refine lv_aload_n hx hb dX12_qTold_48 rfl (lv_at hl 2 rfl) ?_
            refine sk_get (v := .ref (g 86)) (C := RX12) (T := TX12) (N := 92) hx hb hts inlX12 hown hK hP 0 rfl rfl 86 (by decide) w_6_1 rfl dX12_qTold_49 ?_
            refine lv_aload_n hx hb dX12_qTold_52 rfl (lv_at hl 2 rfl) ?_
            refine sk_get (v := .int (nI zq)) (C := RX12) (T := TX12) (N := 92) hx hb hts inlX12 hown hK hP 0 rfl rfl 87 (by decide) w_6_2 rfl dX12_qTold_53 ?_
            refine lv_iconst (v := 1) hx hb dX12_qTold_56 (by decide) ?_
            refine lv_isub hx hb dX12_qTold_57 ?_
            refine sk_top (nI (zq - 1)) (nsub zq 1 (by omega)) ?_
            refine lv_aload_n hx hb dX12_qTold_58 rfl (lv_at hl 2 rfl) ?_
            refine lv_iload_n hx hb dX12_qTold_59 rfl (lv_at hl 0 rfl) ?_
            refine lv_bipush (v := 60) hx hb dX12_qTold_60 (by decide) ?_
            refine lv_isub hx hb dX12_qTold_62 ?_
            refine sk_top (nI (qs i - 60)) (nsub (qs i) 60 (by omega)) ?_
            refine lv_aload_n hx hb dX12_qTold_63 rfl (lv_at hl 2 rfl) ?_
            refine sk_get (v := .ref (g 86)) (C := RX12) (T := TX12) (N := 92) hx hb hts inlX12 hown hK hP 0 rfl rfl 86 (by decide) w_6_1 rfl dX12_qTold_64 ?_
            refine lv_aload_n hx hb dX12_qTold_67 rfl (lv_at hl 2 rfl) ?_
            refine sk_get (v := .int (nI zq)) (C := RX12) (T := TX12) (N := 92) hx hb hts inlX12 hown hK hP 0 rfl rfl 87 (by decide) w_6_2 rfl dX12_qTold_68 ?_
            refine lv_iconst (v := 1) hx hb dX12_qTold_71 (by decide) ?_
            refine lv_isub hx hb dX12_qTold_72 ?_
            refine sk_top (nI (zq - 1)) (nsub zq 1 (by omega)) ?_
            refine va_lald hx hb hK.1 hP 2 1 rfl rfl (vin (zq - 1) 1700 (by omega) (by omega)) dX12_qTold_73 ?_
            refine lv_topl (fun v_19 ev_19 => ?_)
            refine lv_iload_n hx hb dX12_qTold_74 rfl (lv_at hl 3 rfl) ?_
            refine sk_Vl (q0 := 0) (n := 3) (rest := [.int (nI (zq - 1)), .ref (g 86)]) (wr := [(g 80, .inl (cI, 1700, .inl (fun j => nI (qs j)))), (g 86, .inl (cJ, 1700, .inr (.inl zl))), (g 31, .inl (cI, 120, .inl nw)), (g 46, .inl (cI, 9, .inl (fun j => nI (pt j))))]) ⟨hx, hb, hml, hown, hts⟩ hl.1 (c_m_qOf l D cI cJ cC cZ cS mm g ta pa pe pd pb pp pf pg pn rt rn cd sn il tk am at_ aa wt wy rm ud nu sd qn qw qo qb zq qa qi oc (nI (qs i - 60)) v_19 d bf be (by omega)) w_8_195 w_8_197 w_0_117 w_1_14 w_8_198 (by decide +kernel) ⟨⟨(Nat.le_of_ble_eq_true rfl), (Nat.le_of_ble_eq_true rfl)⟩, (Nat.le_of_ble_eq_true rfl), (Nat.le_of_ble_eq_true rfl)⟩ hK hP hD hS hA [0, 5, 6] [1, 2, 3, 4] rfl rfl (by decide +kernel) (by decide +kernel) (by decide +kernel) rfl rfl rfl rfl (Nat.le_of_ble_eq_true rfl) dX12_qTold_75 (fun r_20 u H locs hw hP hD hS => ?_)
            obtain rfl := hw
            have hP : va_P D vwCl [(g 80, .inl (cI, 1700, .inl (fun j => nI (qs j)))), (g 86, .inl (cJ, 1700, .inr (.inl zl))), (g 31, .inl (cI, 120, .inl nw)), (g 46, .inl (cI, 9, .inl (fun j => nI (pt j)))), (mm, .inr (12, mo g (nI ta) (nI pa) (nI pe) pd (nI pb) pp pf pg pn rt rn (nI cd) sn (nI il) tk am at_ aa 0 0 (-1) wt wy 0 (nI rm) (nI ud) (nI nu) sd (nI qn) (nI qw) qo (nI qb) (nI zq) qa (nI qi) (nI oc))), (g 44, .inl (cJ, 90, .inr (.inl bf))), (g 43, .inl (cJ, 90, .inr (.inl be)))] H := hP
            have hD : va_D A [(g 80, .inl (cI, 1700, .inl (fun j => nI (qs j)))), (g 86, .inl (cJ, 1700, .inr (.inl zl))), (g 31, .inl (cI, 120, .inl nw)), (g 46, .inl (cI, 9, .inl (fun j => nI (pt j)))), (mm, .inr (12, mo g (nI ta) (nI pa) (nI pe) pd (nI pb) pp pf pg pn rt rn (nI cd) sn (nI il) tk am at_ aa 0 0 (-1) wt wy 0 (nI rm) (nI ud) (nI nu) sd (nI qn) (nI qw) qo (nI qb) (nI zq) qa (nI qi) (nI oc))), (g 44, .inl (cJ, 90, .inr (.inl bf))), (g 43, .inl (cJ, 90, .inr (.inl be)))] := hD
            refine sk_Sl (n := 1) (rest := [.int (nI (zq - 1)), .ref (g 86)]) (wr := [(g 80, .inl (cI, 1700, .inl (fun j => nI (qs j)))), (g 86, .inl (cJ, 1700, .inr (.inl zl))), (g 31, .inl (cI, 120, .inl nw)), (g 46, .inl (cI, 9, .inl (fun j => nI (pt j)))), (mm, .inr (12, mo g (nI ta) (nI pa) (nI pe) pd (nI pb) pp pf pg pn rt rn (nI cd) sn (nI il) tk am at_ aa 0 0 (-1) wt wy 0 (nI rm) (nI ud) (nI nu) sd (nI qn) (nI qw) qo (nI qb) (nI zq) qa (nI qi) (nI oc))), (g 44, .inl (cJ, 90, .inr (.inl bf))), (g 43, .inl (cJ, 90, .inr (.inl be)))]) ⟨hx, hb, hml, hown, hts⟩ hl.1 (c_m_qClip l D cI cJ cC cZ cS r_20) w_7_160 w_7_161 w_1_14 w_7_162 (by decide +kernel) ⟨⟨(Nat.le_of_ble_eq_true rfl), (Nat.le_of_ble_eq_true rfl)⟩, (Nat.le_of_ble_eq_true rfl), (Nat.le_of_ble_eq_true rfl)⟩ hK hP hD hS hA [] [0, 1, 2, 3, 4, 5, 6] rfl rfl (by decide +kernel) (by decide +kernel) (by decide +kernel) rfl rfl (Nat.le_of_ble_eq_true rfl) dX12_qTold_78 (fun r_21 u H locs hw hP hD hS => ?_)
            obtain rfl := hw
            have hP : va_P D vwCl [(g 80, .inl (cI, 1700, .inl (fun j => nI (qs j)))), (g 86, .inl (cJ, 1700, .inr (.inl zl))), (g 31, .inl (cI, 120, .inl nw)), (g 46, .inl (cI, 9, .inl (fun j => nI (pt j)))), (mm, .inr (12, mo g (nI ta) (nI pa) (nI pe) pd (nI pb) pp pf pg pn rt rn (nI cd) sn (nI il) tk am at_ aa 0 0 (-1) wt wy 0 (nI rm) (nI ud) (nI nu) sd (nI qn) (nI qw) qo (nI qb) (nI zq) qa (nI qi) (nI oc))), (g 44, .inl (cJ, 90, .inr (.inl bf))), (g 43, .inl (cJ, 90, .inr (.inl be)))] H := hP
            have hD : va_D A [(g 80, .inl (cI, 1700, .inl (fun j => nI (qs j)))), (g 86, .inl (cJ, 1700, .inr (.inl zl))), (g 31, .inl (cI, 120, .inl nw)), (g 46, .inl (cI, 9, .inl (fun j => nI (pt j)))), (mm, .inr (12, mo g (nI ta) (nI pa) (nI pe) pd (nI pb) pp pf pg pn rt rn (nI cd) sn (nI il) tk am at_ aa 0 0 (-1) wt wy 0 (nI rm) (nI ud) (nI nu) sd (nI qn) (nI qw) qo (nI qb) (nI zq) qa (nI qi) (nI oc))), (g 44, .inl (cJ, 90, .inr (.inl bf))), (g 43, .inl (cJ, 90, .inr (.inl be)))] := hD
            refine sk_lastO (ws' := fun f_22 => [(g 80, .inl (cI, 1700, .inl (fun j => nI (qs j)))), (g 86, .inl (cJ, 1700, .inr (.inl f_22))), (g 31, .inl (cI, 120, .inl nw)), (g 46, .inl (cI, 9, .inl (fun j => nI (pt j)))), (mm, .inr (12, mo g (nI ta) (nI pa) (nI pe) pd (nI pb) pp pf pg pn rt rn (nI cd) sn (nI il) tk am at_ aa 0 0 (-1) wt wy 0 (nI rm) (nI ud) (nI nu) sd (nI qn) (nI qw) qo (nI qb) (nI zq) qa (nI qi) (nI oc))), (g 44, .inl (cJ, 90, .inr (.inl bf))), (g 43, .inl (cJ, 90, .inr (.inl be)))]) hx hb hK hP hD hS 1 1 rfl rfl (vin (zq - 1) 1700 (by omega) (by omega)) (fun _ => rfl) dX12_qTold_81 (fun f_22 H locs hP hD hS => ?_)
            refine lv_goto (tgt := 162) hx hb dX12_qTold_82 (by decide) ?_
            refine lv_iinc (v := nI (i + 1)) (lv' := [(2, .int (nI (i + 1))), (3, .int (nI (qs i))), (0, .ref mm), (1, .int (nI d))]) hx hb dX12_qTold_162 hl (k := 1) rfl (ninc i 1 (by decide)) (by decide) rfl (fun ls hl => ?_)
            refine lv_goto (tgt := 7) hx hb dX12_qTold_165 (by decide) ?_
            have hP := hP.sub (ws' := [(mm, .inr (12, mo g (nI ta) (nI pa) (nI pe) pd (nI pb) pp pf pg pn rt rn (nI cd) sn (nI il) tk am at_ aa 0 0 (-1) wt wy 0 (nI rm) (nI ud) (nI nu) sd (nI qn) (nI qw) qo (nI qb) (nI zq) qa (nI qi) (nI oc))), (g 80, .inl (cI, 1700, .inl (fun j => nI (qs j)))), (g 86, .inl (cJ, 1700, .inr (.inl f_22))), (g 31, .inl (cI, 120, .inl nw)), (g 46, .inl (cI, 9, .inl (fun j => nI (pt j)))), (g 44, .inl (cJ, 90, .inr (.inl bf))), (g 43, .inl (cJ, 90, .inr (.inl be)))]) [4, 0, 1, 2, 3, 5, 6] rfl
            have hD := hD.sub (ws' := [(mm, .inr (12, mo g (nI ta) (nI pa) (nI pe) pd (nI pb) pp pf pg pn rt rn (nI cd) sn (nI il) tk am at_ aa 0 0 (-1) wt wy 0 (nI rm) (nI ud) (nI nu) sd (nI qn) (nI qw) qo (nI qb) (nI zq) qa (nI qi) (nI oc))), (g 80, .inl (cI, 1700, .inl (fun j => nI (qs j)))), (g 86, .inl (cJ, 1700, .inr (.inl f_22))), (g 31, .inl (cI, 120, .inl nw)), (g 46, .inl (cI, 9, .inl (fun j => nI (pt j)))), (g 44, .inl (cJ, 90, .inr (.inl bf))), (g 43, .inl (cJ, 90, .inr (.inl be)))]) [4, 0, 1, 2, 3, 5, 6] (by decide +kernel) rfl
            exact ih_lp_1 (i + 1) zq f_22 _ _ _ (by omega) (by omega) (by omega) (dq hzq (by omega)) hP hD hS (lv_sub hl [0, 2, 3] rfl)
        · have c_6 : ¬ (qs i < 1000) := fun h => c_6 ((nlt (qs i) 1000 (by omega) (by omega)).mpr h)
          refine lv_aload_n hx hb dX12_qTold_29 rfl (lv_at hl 2 rfl) ?_
          refine lv_iload_n hx hb dX12_qTold_30 rfl (lv_at hl 0 rfl) ?_
          refine lv_sipush (v := 1000) hx hb dX12_qTold_31 (by decide) ?_
          refine lv_isub hx hb dX12_qTold_34 ?_
          refine sk_top (nI (qs i - 1000)) (nsub (qs i) 1000 (by omega)) ?_
          refine lv_i2l hx hb dX12_qTold_35 rfl ?_
          refine sk_Vv (q0 := 0) (n := 1) (rest := []) (wr := [(g 80, .inl (cI, 1700, .inl (fun j => nI (qs j)))), (g 31, .inl (cI, 120, .inl nw)), (g 46, .inl (cI, 9, .inl (fun j => nI (pt j)))), (g 44, .inl (cJ, 90, .inr (.inl bf))), (g 43, .inl (cJ, 90, .inr (.inl be)))]) ⟨hx, hb, hml, hown, hts⟩ hl.1 (c_m_qPuts l D cI cJ cC cZ cS mm g ta pa pe pd pb pp pf pg pn rt rn cd sn il tk am at_ aa 0 0 (-1) wt wy 0 rm ud nu sd qn qw qo qb zq qa qi oc (Int32.toInt64 (nI (qs i - 1000))) zl (by omega)) w_7_139 w_7_141 w_0_76 w_1_14 w_7_142 (by decide +kernel) ⟨⟨(Nat.le_of_ble_eq_true rfl), (Nat.le_of_ble_eq_true rfl)⟩, (Nat.le_of_ble_eq_true rfl), (Nat.le_of_ble_eq_true rfl)⟩ hK hP hD hS hA [0, 2] [1, 3, 4, 5, 6] rfl rfl (by decide +kernel) (by decide +kernel) (by decide +kernel) rfl rfl rfl rfl (Nat.le_of_ble_eq_true rfl) dX12_qTold_36 (fun u H locs hw hP hD hS => ?_)
          obtain ⟨ql2_23, rfl⟩ := hw
          have hP : va_P D vwCl [(g 80, .inl (cI, 1700, .inl (fun j => nI (qs j)))), (g 31, .inl (cI, 120, .inl nw)), (g 46, .inl (cI, 9, .inl (fun j => nI (pt j)))), (g 44, .inl (cJ, 90, .inr (.inl bf))), (g 43, .inl (cJ, 90, .inr (.inl be))), (mm, .inr (12, mo g (nI ta) (nI pa) (nI pe) pd (nI pb) pp pf pg pn rt rn (nI cd) sn (nI il) tk am at_ aa 0 0 (-1) wt wy 0 (nI rm) (nI ud) (nI nu) sd (nI qn) (nI qw) qo (nI qb) (nI (zq + 1)) qa (nI qi) (nI oc))), (g 86, .inl (cJ, 1700, .inr (.inl ql2_23)))] H := hP
          have hD : va_D A [(g 80, .inl (cI, 1700, .inl (fun j => nI (qs j)))), (g 31, .inl (cI, 120, .inl nw)), (g 46, .inl (cI, 9, .inl (fun j => nI (pt j)))), (g 44, .inl (cJ, 90, .inr (.inl bf))), (g 43, .inl (cJ, 90, .inr (.inl be))), (mm, .inr (12, mo g (nI ta) (nI pa) (nI pe) pd (nI pb) pp pf pg pn rt rn (nI cd) sn (nI il) tk am at_ aa 0 0 (-1) wt wy 0 (nI rm) (nI ud) (nI nu) sd (nI qn) (nI qw) qo (nI qb) (nI (zq + 1)) qa (nI qi) (nI oc))), (g 86, .inl (cJ, 1700, .inr (.inl ql2_23)))] := hD
          refine lv_goto (tgt := 162) hx hb dX12_qTold_39 (by decide) ?_
          refine lv_iinc (v := nI (i + 1)) (lv' := [(2, .int (nI (i + 1))), (3, .int (nI (qs i))), (0, .ref mm), (1, .int (nI d))]) hx hb dX12_qTold_162 hl (k := 1) rfl (ninc i 1 (by decide)) (by decide) rfl (fun ls hl => ?_)
          refine lv_goto (tgt := 7) hx hb dX12_qTold_165 (by decide) ?_
          have hP := hP.sub (ws' := [(mm, .inr (12, mo g (nI ta) (nI pa) (nI pe) pd (nI pb) pp pf pg pn rt rn (nI cd) sn (nI il) tk am at_ aa 0 0 (-1) wt wy 0 (nI rm) (nI ud) (nI nu) sd (nI qn) (nI qw) qo (nI qb) (nI (zq + 1)) qa (nI qi) (nI oc))), (g 80, .inl (cI, 1700, .inl (fun j => nI (qs j)))), (g 86, .inl (cJ, 1700, .inr (.inl ql2_23))), (g 31, .inl (cI, 120, .inl nw)), (g 46, .inl (cI, 9, .inl (fun j => nI (pt j)))), (g 44, .inl (cJ, 90, .inr (.inl bf))), (g 43, .inl (cJ, 90, .inr (.inl be)))]) [5, 0, 6, 1, 2, 3, 4] rfl
          have hD := hD.sub (ws' := [(mm, .inr (12, mo g (nI ta) (nI pa) (nI pe) pd (nI pb) pp pf pg pn rt rn (nI cd) sn (nI il) tk am at_ aa 0 0 (-1) wt wy 0 (nI rm) (nI ud) (nI nu) sd (nI qn) (nI qw) qo (nI qb) (nI (zq + 1)) qa (nI qi) (nI oc))), (g 80, .inl (cI, 1700, .inl (fun j => nI (qs j)))), (g 86, .inl (cJ, 1700, .inr (.inl ql2_23))), (g 31, .inl (cI, 120, .inl nw)), (g 46, .inl (cI, 9, .inl (fun j => nI (pt j)))), (g 44, .inl (cJ, 90, .inr (.inl bf))), (g 43, .inl (cJ, 90, .inr (.inl be)))]) [5, 0, 6, 1, 2, 3, 4] (by decide +kernel) rfl
          exact ih_lp_1 (i + 1) (zq + 1) ql2_23 _ _ _ (by omega) (by omega) (by omega) (dq hzq (by omega)) hP hD hS (lv_sub hl [0, 2, 3] rfl)
  exact lp_1 (qn - 0 + 1) 0 0 ql _ _ _ (Nat.lt_succ_self _) (by omega) (by omega) rfl hP hD hS (lv_sub hl [0, 1, 2] rfl)
theorem dX12_qTakes_16 : decode cX12_qTakes 16 = .ok (.istore 5, 2) := by decide +kernel
theorem dX12_qTakes_90 : decode cX12_qTakes 90 = .ok (.iload_n 1, 1) := by decide +kernel
theorem dX12_qTakes_91 : decode cX12_qTakes 91 = .ok (.iconst 3, 1) := by decide +kernel
theorem dX12_qTakes_92 : decode cX12_qTakes 92 = .ok (.if_icmp .le 41, 3) := by decide +kernel
theorem dX12_qTakes_133 : decode cX12_qTakes 133 = .ok (.aload_n 0, 1) := by decide +kernel
theorem dX12_qTakes_134 : decode cX12_qTakes 134 = .ok (.iconst 0, 1) := by decide +kernel
theorem dX12_qTakes_135 : decode cX12_qTakes 135 = .ok (.putfield 578, 3) := by decide +kernel
theorem dX12_qTakes_138 : decode cX12_qTakes 138 = .ok (.return_, 1) := by decide +kernel
theorem dX12_qTakes_95 : decode cX12_qTakes 95 = .ok (.aload_n 0, 1) := by decide +kernel
theorem dX12_qTakes_96 : decode cX12_qTakes 96 = .ok (.getfield 578, 3) := by decide +kernel
theorem dX12_qTakes_99 : decode cX12_qTakes 99 = .ok (.ifCond .ne 29, 3) := by decide +kernel
theorem dX12_qTakes_128 : decode cX12_qTakes 128 = .ok (.aload_n 0, 1) := by decide +kernel
theorem dX12_qTakes_129 : decode cX12_qTakes 129 = .ok (.lload_n 2, 1) := by decide +kernel
theorem dX12_qTakes_130 : decode cX12_qTakes 130 = .ok (.putfield 575, 3) := by decide +kernel
theorem dX12_qTakes_102 : decode cX12_qTakes 102 = .ok (.iload_n 1, 1) := by decide +kernel
theorem dX12_qTakes_103 : decode cX12_qTakes 103 = .ok (.iconst 4, 1) := by decide +kernel
theorem dX12_qTakes_104 : decode cX12_qTakes 104 = .ok (.if_icmp .ne 15, 3) := by decide +kernel
theorem dX12_qTakes_119 : decode cX12_qTakes 119 = .ok (.lload_n 2, 1) := by decide +kernel
theorem dX12_qTakes_120 : decode cX12_qTakes 120 = .ok (.aload_n 0, 1) := by decide +kernel
theorem dX12_qTakes_121 : decode cX12_qTakes 121 = .ok (.getfield 575, 3) := by decide +kernel
theorem dX12_qTakes_124 : decode cX12_qTakes 124 = .ok (.lcmp, 1) := by decide +kernel
theorem dX12_qTakes_125 : decode cX12_qTakes 125 = .ok (.ifCond .ge 8, 3) := by decide +kernel
theorem dX12_qTakes_107 : decode cX12_qTakes 107 = .ok (.lload_n 2, 1) := by decide +kernel
theorem dX12_qTakes_108 : decode cX12_qTakes 108 = .ok (.aload_n 0, 1) := by decide +kernel
theorem dX12_qTakes_109 : decode cX12_qTakes 109 = .ok (.getfield 575, 3) := by decide +kernel
theorem dX12_qTakes_112 : decode cX12_qTakes 112 = .ok (.lcmp, 1) := by decide +kernel
theorem dX12_qTakes_113 : decode cX12_qTakes 113 = .ok (.ifCond .le 20, 3) := by decide +kernel
theorem dX12_qTakes_116 : decode cX12_qTakes 116 = .ok (.goto 12, 3) := by decide +kernel
theorem dX12_qTakes_75 : decode cX12_qTakes 75 = .ok (.iload_n 1, 1) := by decide +kernel
theorem dX12_qTakes_76 : decode cX12_qTakes 76 = .ok (.iconst 3, 1) := by decide +kernel
theorem dX12_qTakes_77 : decode cX12_qTakes 77 = .ok (.if_icmp .ne 13, 3) := by decide +kernel
theorem dX12_qTakes_80 : decode cX12_qTakes 80 = .ok (.aload_n 0, 1) := by decide +kernel
theorem dX12_qTakes_81 : decode cX12_qTakes 81 = .ok (.dup, 1) := by decide +kernel
theorem dX12_qTakes_82 : decode cX12_qTakes 82 = .ok (.getfield 575, 3) := by decide +kernel
theorem dX12_qTakes_85 : decode cX12_qTakes 85 = .ok (.lload_n 2, 1) := by decide +kernel
theorem dX12_qTakes_86 : decode cX12_qTakes 86 = .ok (.ladd, 1) := by decide +kernel
theorem dX12_qTakes_87 : decode cX12_qTakes 87 = .ok (.putfield 575, 3) := by decide +kernel
theorem dX12_qTakes_55 : decode cX12_qTakes 55 = .ok (.iload_n 1, 1) := by decide +kernel
theorem dX12_qTakes_56 : decode cX12_qTakes 56 = .ok (.iconst 2, 1) := by decide +kernel
theorem dX12_qTakes_57 : decode cX12_qTakes 57 = .ok (.if_icmp .ne 18, 3) := by decide +kernel
theorem dX12_qTakes_60 : decode cX12_qTakes 60 = .ok (.iload 5, 2) := by decide +kernel
theorem dX12_qTakes_62 : decode cX12_qTakes 62 = .ok (.ifCond .eq 13, 3) := by decide +kernel
theorem dX12_qTakes_65 : decode cX12_qTakes 65 = .ok (.aload_n 0, 1) := by decide +kernel
theorem dX12_qTakes_66 : decode cX12_qTakes 66 = .ok (.dup, 1) := by decide +kernel
theorem dX12_qTakes_67 : decode cX12_qTakes 67 = .ok (.getfield 575, 3) := by decide +kernel
theorem dX12_qTakes_70 : decode cX12_qTakes 70 = .ok (.lconst 1, 1) := by decide +kernel
theorem dX12_qTakes_71 : decode cX12_qTakes 71 = .ok (.ladd, 1) := by decide +kernel
theorem dX12_qTakes_72 : decode cX12_qTakes 72 = .ok (.putfield 575, 3) := by decide +kernel
theorem dX12_qTakes_18 : decode cX12_qTakes 18 = .ok (.iload_n 1, 1) := by decide +kernel
theorem dX12_qTakes_19 : decode cX12_qTakes 19 = .ok (.ifCond .ne 19, 3) := by decide +kernel
theorem dX12_qTakes_38 : decode cX12_qTakes 38 = .ok (.iload_n 1, 1) := by decide +kernel
theorem dX12_qTakes_39 : decode cX12_qTakes 39 = .ok (.iconst 1, 1) := by decide +kernel
theorem dX12_qTakes_40 : decode cX12_qTakes 40 = .ok (.if_icmp .ne 15, 3) := by decide +kernel
theorem dX12_qTakes_43 : decode cX12_qTakes 43 = .ok (.iload 5, 2) := by decide +kernel
theorem dX12_qTakes_45 : decode cX12_qTakes 45 = .ok (.ifCond .eq 10, 3) := by decide +kernel
theorem dX12_qTakes_48 : decode cX12_qTakes 48 = .ok (.aload_n 0, 1) := by decide +kernel
theorem dX12_qTakes_49 : decode cX12_qTakes 49 = .ok (.iload 4, 2) := by decide +kernel
theorem dX12_qTakes_51 : decode cX12_qTakes 51 = .ok (.i2l, 1) := by decide +kernel
theorem dX12_qTakes_52 : decode cX12_qTakes 52 = .ok (.putfield 575, 3) := by decide +kernel
theorem dX12_qTakes_22 : decode cX12_qTakes 22 = .ok (.iload 5, 2) := by decide +kernel
theorem dX12_qTakes_24 : decode cX12_qTakes 24 = .ok (.ifCond .eq 14, 3) := by decide +kernel
theorem dX12_qTakes_27 : decode cX12_qTakes 27 = .ok (.aload_n 0, 1) := by decide +kernel
theorem dX12_qTakes_28 : decode cX12_qTakes 28 = .ok (.getfield 575, 3) := by decide +kernel
theorem dX12_qTakes_31 : decode cX12_qTakes 31 = .ok (.ldc2_w 569, 3) := by decide +kernel
theorem dX12_qTakes_34 : decode cX12_qTakes 34 = .ok (.lcmp, 1) := by decide +kernel
theorem dX12_qTakes_35 : decode cX12_qTakes 35 = .ok (.ifCond .eq 13, 3) := by decide +kernel
theorem dX12_qTakes_0 : decode cX12_qTakes 0 = .ok (.iload_n 1, 1) := by decide +kernel
theorem dX12_qTakes_1 : decode cX12_qTakes 1 = .ok (.iconst 3, 1) := by decide +kernel
theorem dX12_qTakes_2 : decode cX12_qTakes 2 = .ok (.if_icmp .ge 13, 3) := by decide +kernel
theorem dX12_qTakes_15 : decode cX12_qTakes 15 = .ok (.iconst 0, 1) := by decide +kernel
theorem dX12_qTakes_5 : decode cX12_qTakes 5 = .ok (.lload_n 2, 1) := by decide +kernel
theorem dX12_qTakes_6 : decode cX12_qTakes 6 = .ok (.lconst 1, 1) := by decide +kernel
theorem dX12_qTakes_7 : decode cX12_qTakes 7 = .ok (.lcmp, 1) := by decide +kernel
theorem dX12_qTakes_8 : decode cX12_qTakes 8 = .ok (.ifCond .ne 7, 3) := by decide +kernel
theorem dX12_qTakes_11 : decode cX12_qTakes 11 = .ok (.iconst 1, 1) := by decide +kernel
theorem dX12_qTakes_12 : decode cX12_qTakes 12 = .ok (.goto 4, 3) := by decide +kernel
theorem w_6_4 : (Cond.fieldLink RX12 578 "SameKeeperModel" "qIsNew" "Z") ∈ wsL_law := sk_mem (ck_6 _ (List.mem_of_getElem? (i := 4) rfl)) rfl
theorem w_6_3 : (Cond.fieldLink RX12 575 "SameKeeperModel" "qAnswer" "J") ∈ wsL_law := sk_mem (ck_6 _ (List.mem_of_getElem? (i := 3) rfl)) rfl
theorem w_8_202 : (Cond.code yX12_qTakes cX12_qTakes 6 none) ∈ wsL_law := sk_mem (ck_8 _ (List.mem_of_getElem? (i := 202) rfl)) rfl
set_option maxHeartbeats 4000000 in
set_option maxRecDepth 100000 in
theorem c_m_qTakes (l : Launch) (D : va_G) (cI cJ cC cZ cS : ClassId) (mm : Nat) (g : Nat → Nat) (ta : Nat) (pa : Nat) (pe : Nat) (pd : Int32) (pb : Nat) (pp : Int32) (pf : Int32) (pg : Int32) (pn : Int32) (rt : Int32) (rn : Int32) (cd : Nat) (sn : Int32) (il : Nat) (tk : Int32) (am : Int32) (at_ : Int32) (aa : Int32) (wt : Int32) (wy : Int64) (rm : Nat) (ud : Nat) (nu : Nat) (sd : Int64) (qn : Nat) (qw : Nat) (qo : Int32) (qb : Nat) (qp : Nat) (qa : Int64) (qi : Nat) (oc : Nat) (o : Int32) (x : Int64) (d : Nat) (hqi : qi ≤ 1) : skM l yX12_qTakes cX12_qTakes 6 none 0 0 0 0 D (skT cI cJ cC cZ cS) [.ref mm, .int o, .long x, .int (nI d)] [(mm, .inr (12, mo g (nI ta) (nI pa) (nI pe) pd (nI pb) pp pf pg pn rt rn (nI cd) sn (nI il) tk am at_ aa 0 0 (-1) wt wy 0 (nI rm) (nI ud) (nI nu) sd (nI qn) (nI qw) qo (nI qb) (nI qp) qa (nI qi) (nI oc)))] (skV D (skT cI cJ cC cZ cS) (fun (u : va_W) => ∃ (qa2 : Int64), u = [(mm, .inr (12, mo g (nI ta) (nI pa) (nI pe) pd (nI pb) pp pf pg pn rt rn (nI cd) sn (nI il) tk am at_ aa 0 0 (-1) wt wy 0 (nI rm) (nI ud) (nI nu) sd (nI qn) (nI qw) qo (nI qb) (nI qp) qa2 0 (nI oc)))])) := by
  refine skM_of (by decide +kernel) (Nat.le_of_ble_eq_true rfl) ?_
  intro p e s m below meth c A ls E hP hD hl
  obtain ⟨hx, hb, hr, hml, hlocks, hin, hown, hts, hK, hA⟩ := E
  have hown : s.vm.findClass RX12 = some m.cls := hown
  have hS : va_S A s.heap s.heap [] := va_S.rf
  have hl : lv_has ls 6 [(0, .ref mm), (1, .int o), (2, .long x), (4, .int (nI d))] := hl
  have jn_1 : ∀ (bq : Nat) (H : Heap) (locs : List Loc) (ls : Array Slot), (bq ≤ 1) → va_P D vwCl [(mm, .inr (12, mo g (nI ta) (nI pa) (nI pe) pd (nI pb) pp pf pg pn rt rn (nI cd) sn (nI il) tk am at_ aa 0 0 (-1) wt wy 0 (nI rm) (nI ud) (nI nu) sd (nI qn) (nI qw) qo (nI qb) (nI qp) qa (nI qi) (nI oc)))] H → va_D A [(mm, .inr (12, mo g (nI ta) (nI pa) (nI pe) pd (nI pb) pp pf pg pn rt rn (nI cd) sn (nI il) tk am at_ aa 0 0 (-1) wt wy 0 (nI rm) (nI ud) (nI nu) sd (nI qn) (nI qw) qo (nI qb) (nI qp) qa (nI qi) (nI oc)))] → va_S A s.heap H locs → lv_has ls 6 [(0, .ref mm), (1, .int o), (2, .long x), (4, .int (nI d))] → W p l e { frames := 0, cells := 0, slots := 0, locals := 0 } s m ([.ref mm, .int o, .long x, .int (nI d)] : List Value).toArray below meth c H locs 0 0 (MQ below (skV D (skT cI cJ cC cZ cS) (fun (u : va_W) => ∃ (qa2 : Int64), u = [(mm, .inr (12, mo g (nI ta) (nI pa) (nI pe) pd (nI pb) pp pf pg pn rt rn (nI cd) sn (nI il) tk am at_ aa 0 0 (-1) wt wy 0 (nI rm) (nI ud) (nI nu) sd (nI qn) (nI qw) qo (nI qb) (nI qp) qa2 0 (nI oc)))]) A) ([.ref mm, .int o, .long x, .int (nI d)] : List Value).toArray s 0 0 A) (F0 m 16 ls [.int (nI bq)]) := by
    intro bq H locs ls hbq hP hD hS hl
    refine lv_istore (lv' := [(5, .int (nI bq)), (0, .ref mm), (1, .int o), (2, .long x), (4, .int (nI d))]) hx hb dX12_qTakes_16 hl (by decide) rfl (fun ls hl => ?_)
    have jn_2 : ∀ (z90 : Int64) (H : Heap) (locs : List Loc) (ls : Array Slot), va_P D vwCl [(mm, .inr (12, mo g (nI ta) (nI pa) (nI pe) pd (nI pb) pp pf pg pn rt rn (nI cd) sn (nI il) tk am at_ aa 0 0 (-1) wt wy 0 (nI rm) (nI ud) (nI nu) sd (nI qn) (nI qw) qo (nI qb) (nI qp) z90 (nI qi) (nI oc)))] H → va_D A [(mm, .inr (12, mo g (nI ta) (nI pa) (nI pe) pd (nI pb) pp pf pg pn rt rn (nI cd) sn (nI il) tk am at_ aa 0 0 (-1) wt wy 0 (nI rm) (nI ud) (nI nu) sd (nI qn) (nI qw) qo (nI qb) (nI qp) z90 (nI qi) (nI oc)))] → va_S A s.heap H locs → lv_has ls 6 [(5, .int (nI bq)), (0, .ref mm), (1, .int o), (2, .long x), (4, .int (nI d))] → W p l e { frames := 0, cells := 0, slots := 0, locals := 0 } s m ([.ref mm, .int o, .long x, .int (nI d)] : List Value).toArray below meth c H locs 0 0 (MQ below (skV D (skT cI cJ cC cZ cS) (fun (u : va_W) => ∃ (qa2 : Int64), u = [(mm, .inr (12, mo g (nI ta) (nI pa) (nI pe) pd (nI pb) pp pf pg pn rt rn (nI cd) sn (nI il) tk am at_ aa 0 0 (-1) wt wy 0 (nI rm) (nI ud) (nI nu) sd (nI qn) (nI qw) qo (nI qb) (nI qp) qa2 0 (nI oc)))]) A) ([.ref mm, .int o, .long x, .int (nI d)] : List Value).toArray s 0 0 A) (F0 m 90 ls []) := by
      intro z90 H locs ls  hP hD hS hl
      refine lv_iload_n hx hb dX12_qTakes_90 rfl (lv_at hl 2 rfl) ?_
      refine lv_iconst (v := 3) hx hb dX12_qTakes_91 (by decide) ?_
      refine lv_icmp_le (tgt := 133) hx hb dX12_qTakes_92 (by decide) (fun c_3 => ?_) (fun c_3 => ?_)
      · skip
        refine lv_aload_n hx hb dX12_qTakes_133 rfl (lv_at hl 1 rfl) ?_
        refine lv_iconst (v := 0) hx hb dX12_qTakes_134 (by decide) ?_
        refine sk_put (ws' := [(mm, .inr (12, mo g (nI ta) (nI pa) (nI pe) pd (nI pb) pp pf pg pn rt rn (nI cd) sn (nI il) tk am at_ aa 0 0 (-1) wt wy 0 (nI rm) (nI ud) (nI nu) sd (nI qn) (nI qw) qo (nI qb) (nI qp) z90 0 (nI oc)))]) (C := RX12) (T := TX12) (N := 92) (v := .int 0) hx hb hts inlX12 tyX12 tyX12_ok nmX12 hown hK hP hD hS 0 rfl rfl 89 (by decide) w_6_4 rfl rfl rfl (Nat.le_of_ble_eq_true rfl) rfl dX12_qTakes_135 (fun H locs hP hD hS => ?_)
        exact sk_vret hx hb hr hlocks hK hP hD hS (⟨z90, rfl⟩) (Nat.le_of_ble_eq_true rfl) (Nat.le_of_ble_eq_true rfl) dX12_qTakes_138
      · skip
        refine lv_aload_n hx hb dX12_qTakes_95 rfl (lv_at hl 1 rfl) ?_
        refine sk_get (v := .int (nI qi)) (C := RX12) (T := TX12) (N := 92) hx hb hts inlX12 hown hK hP 0 rfl rfl 89 (by decide) w_6_4 rfl dX12_qTakes_96 ?_
        refine lv_if_ne (tgt := 128) hx hb dX12_qTakes_99 (by decide) (fun c_4 => ?_) (fun c_4 => ?_)
        · have c_4 : ¬ (qi = 0) := fun h => c_4 ((neq qi 0 (by omega) (by omega)).mpr h)
          refine lv_aload_n hx hb dX12_qTakes_128 rfl (lv_at hl 1 rfl) ?_
          refine lv_lload_n hx hb dX12_qTakes_129 rfl (lv_at hl 3 rfl) ?_
          refine sk_put (ws' := [(mm, .inr (12, mo g (nI ta) (nI pa) (nI pe) pd (nI pb) pp pf pg pn rt rn (nI cd) sn (nI il) tk am at_ aa 0 0 (-1) wt wy 0 (nI rm) (nI ud) (nI nu) sd (nI qn) (nI qw) qo (nI qb) (nI qp) x (nI qi) (nI oc)))]) (C := RX12) (T := TX12) (N := 92) (v := .long x) hx hb hts inlX12 tyX12 tyX12_ok nmX12 hown hK hP hD hS 0 rfl rfl 88 (by decide) w_6_3 rfl rfl rfl (Nat.le_of_ble_eq_true rfl) rfl dX12_qTakes_130 (fun H locs hP hD hS => ?_)
          refine lv_aload_n hx hb dX12_qTakes_133 rfl (lv_at hl 1 rfl) ?_
          refine lv_iconst (v := 0) hx hb dX12_qTakes_134 (by decide) ?_
          refine sk_put (ws' := [(mm, .inr (12, mo g (nI ta) (nI pa) (nI pe) pd (nI pb) pp pf pg pn rt rn (nI cd) sn (nI il) tk am at_ aa 0 0 (-1) wt wy 0 (nI rm) (nI ud) (nI nu) sd (nI qn) (nI qw) qo (nI qb) (nI qp) x 0 (nI oc)))]) (C := RX12) (T := TX12) (N := 92) (v := .int 0) hx hb hts inlX12 tyX12 tyX12_ok nmX12 hown hK hP hD hS 0 rfl rfl 89 (by decide) w_6_4 rfl rfl rfl (Nat.le_of_ble_eq_true rfl) rfl dX12_qTakes_135 (fun H locs hP hD hS => ?_)
          exact sk_vret hx hb hr hlocks hK hP hD hS (⟨x, rfl⟩) (Nat.le_of_ble_eq_true rfl) (Nat.le_of_ble_eq_true rfl) dX12_qTakes_138
        · have c_4 : qi = 0 := (neq qi 0 (by omega) (by omega)).mp c_4
          refine lv_iload_n hx hb dX12_qTakes_102 rfl (lv_at hl 2 rfl) ?_
          refine lv_iconst (v := 4) hx hb dX12_qTakes_103 (by decide) ?_
          refine lv_icmp_ne (tgt := 119) hx hb dX12_qTakes_104 (by decide) (fun c_5 => ?_) (fun c_5 => ?_)
          · skip
            refine lv_lload_n hx hb dX12_qTakes_119 rfl (lv_at hl 3 rfl) ?_
            refine lv_aload_n hx hb dX12_qTakes_120 rfl (lv_at hl 1 rfl) ?_
            refine sk_get (v := .long z90) (C := RX12) (T := TX12) (N := 92) hx hb hts inlX12 hown hK hP 0 rfl rfl 88 (by decide) w_6_3 rfl dX12_qTakes_121 ?_
            refine W.lcmp hx hb dX12_qTakes_124 ?_
            refine lv_if_ge (tgt := 133) hx hb dX12_qTakes_125 (by decide) (fun c_6 => ?_) (fun c_6 => ?_)
            · skip
              refine lv_aload_n hx hb dX12_qTakes_133 rfl (lv_at hl 1 rfl) ?_
              refine lv_iconst (v := 0) hx hb dX12_qTakes_134 (by decide) ?_
              refine sk_put (ws' := [(mm, .inr (12, mo g (nI ta) (nI pa) (nI pe) pd (nI pb) pp pf pg pn rt rn (nI cd) sn (nI il) tk am at_ aa 0 0 (-1) wt wy 0 (nI rm) (nI ud) (nI nu) sd (nI qn) (nI qw) qo (nI qb) (nI qp) z90 0 (nI oc)))]) (C := RX12) (T := TX12) (N := 92) (v := .int 0) hx hb hts inlX12 tyX12 tyX12_ok nmX12 hown hK hP hD hS 0 rfl rfl 89 (by decide) w_6_4 rfl rfl rfl (Nat.le_of_ble_eq_true rfl) rfl dX12_qTakes_135 (fun H locs hP hD hS => ?_)
              exact sk_vret hx hb hr hlocks hK hP hD hS (⟨z90, rfl⟩) (Nat.le_of_ble_eq_true rfl) (Nat.le_of_ble_eq_true rfl) dX12_qTakes_138
            · skip
              refine lv_aload_n hx hb dX12_qTakes_128 rfl (lv_at hl 1 rfl) ?_
              refine lv_lload_n hx hb dX12_qTakes_129 rfl (lv_at hl 3 rfl) ?_
              refine sk_put (ws' := [(mm, .inr (12, mo g (nI ta) (nI pa) (nI pe) pd (nI pb) pp pf pg pn rt rn (nI cd) sn (nI il) tk am at_ aa 0 0 (-1) wt wy 0 (nI rm) (nI ud) (nI nu) sd (nI qn) (nI qw) qo (nI qb) (nI qp) x (nI qi) (nI oc)))]) (C := RX12) (T := TX12) (N := 92) (v := .long x) hx hb hts inlX12 tyX12 tyX12_ok nmX12 hown hK hP hD hS 0 rfl rfl 88 (by decide) w_6_3 rfl rfl rfl (Nat.le_of_ble_eq_true rfl) rfl dX12_qTakes_130 (fun H locs hP hD hS => ?_)
              refine lv_aload_n hx hb dX12_qTakes_133 rfl (lv_at hl 1 rfl) ?_
              refine lv_iconst (v := 0) hx hb dX12_qTakes_134 (by decide) ?_
              refine sk_put (ws' := [(mm, .inr (12, mo g (nI ta) (nI pa) (nI pe) pd (nI pb) pp pf pg pn rt rn (nI cd) sn (nI il) tk am at_ aa 0 0 (-1) wt wy 0 (nI rm) (nI ud) (nI nu) sd (nI qn) (nI qw) qo (nI qb) (nI qp) x 0 (nI oc)))]) (C := RX12) (T := TX12) (N := 92) (v := .int 0) hx hb hts inlX12 tyX12 tyX12_ok nmX12 hown hK hP hD hS 0 rfl rfl 89 (by decide) w_6_4 rfl rfl rfl (Nat.le_of_ble_eq_true rfl) rfl dX12_qTakes_135 (fun H locs hP hD hS => ?_)
              exact sk_vret hx hb hr hlocks hK hP hD hS (⟨x, rfl⟩) (Nat.le_of_ble_eq_true rfl) (Nat.le_of_ble_eq_true rfl) dX12_qTakes_138
          · skip
            refine lv_lload_n hx hb dX12_qTakes_107 rfl (lv_at hl 3 rfl) ?_
            refine lv_aload_n hx hb dX12_qTakes_108 rfl (lv_at hl 1 rfl) ?_
            refine sk_get (v := .long z90) (C := RX12) (T := TX12) (N := 92) hx hb hts inlX12 hown hK hP 0 rfl rfl 88 (by decide) w_6_3 rfl dX12_qTakes_109 ?_
            refine W.lcmp hx hb dX12_qTakes_112 ?_
            refine lv_if_le (tgt := 133) hx hb dX12_qTakes_113 (by decide) (fun c_7 => ?_) (fun c_7 => ?_)
            · skip
              refine lv_aload_n hx hb dX12_qTakes_133 rfl (lv_at hl 1 rfl) ?_
              refine lv_iconst (v := 0) hx hb dX12_qTakes_134 (by decide) ?_
              refine sk_put (ws' := [(mm, .inr (12, mo g (nI ta) (nI pa) (nI pe) pd (nI pb) pp pf pg pn rt rn (nI cd) sn (nI il) tk am at_ aa 0 0 (-1) wt wy 0 (nI rm) (nI ud) (nI nu) sd (nI qn) (nI qw) qo (nI qb) (nI qp) z90 0 (nI oc)))]) (C := RX12) (T := TX12) (N := 92) (v := .int 0) hx hb hts inlX12 tyX12 tyX12_ok nmX12 hown hK hP hD hS 0 rfl rfl 89 (by decide) w_6_4 rfl rfl rfl (Nat.le_of_ble_eq_true rfl) rfl dX12_qTakes_135 (fun H locs hP hD hS => ?_)
              exact sk_vret hx hb hr hlocks hK hP hD hS (⟨z90, rfl⟩) (Nat.le_of_ble_eq_true rfl) (Nat.le_of_ble_eq_true rfl) dX12_qTakes_138
            · skip
              refine lv_goto (tgt := 128) hx hb dX12_qTakes_116 (by decide) ?_
              refine lv_aload_n hx hb dX12_qTakes_128 rfl (lv_at hl 1 rfl) ?_
              refine lv_lload_n hx hb dX12_qTakes_129 rfl (lv_at hl 3 rfl) ?_
              refine sk_put (ws' := [(mm, .inr (12, mo g (nI ta) (nI pa) (nI pe) pd (nI pb) pp pf pg pn rt rn (nI cd) sn (nI il) tk am at_ aa 0 0 (-1) wt wy 0 (nI rm) (nI ud) (nI nu) sd (nI qn) (nI qw) qo (nI qb) (nI qp) x (nI qi) (nI oc)))]) (C := RX12) (T := TX12) (N := 92) (v := .long x) hx hb hts inlX12 tyX12 tyX12_ok nmX12 hown hK hP hD hS 0 rfl rfl 88 (by decide) w_6_3 rfl rfl rfl (Nat.le_of_ble_eq_true rfl) rfl dX12_qTakes_130 (fun H locs hP hD hS => ?_)
              refine lv_aload_n hx hb dX12_qTakes_133 rfl (lv_at hl 1 rfl) ?_
              refine lv_iconst (v := 0) hx hb dX12_qTakes_134 (by decide) ?_
              refine sk_put (ws' := [(mm, .inr (12, mo g (nI ta) (nI pa) (nI pe) pd (nI pb) pp pf pg pn rt rn (nI cd) sn (nI il) tk am at_ aa 0 0 (-1) wt wy 0 (nI rm) (nI ud) (nI nu) sd (nI qn) (nI qw) qo (nI qb) (nI qp) x 0 (nI oc)))]) (C := RX12) (T := TX12) (N := 92) (v := .int 0) hx hb hts inlX12 tyX12 tyX12_ok nmX12 hown hK hP hD hS 0 rfl rfl 89 (by decide) w_6_4 rfl rfl rfl (Nat.le_of_ble_eq_true rfl) rfl dX12_qTakes_135 (fun H locs hP hD hS => ?_)
              exact sk_vret hx hb hr hlocks hK hP hD hS (⟨x, rfl⟩) (Nat.le_of_ble_eq_true rfl) (Nat.le_of_ble_eq_true rfl) dX12_qTakes_138
    have jn_8 : ∀ (z75 : Int64) (H : Heap) (locs : List Loc) (ls : Array Slot), va_P D vwCl [(mm, .inr (12, mo g (nI ta) (nI pa) (nI pe) pd (nI pb) pp pf pg pn rt rn (nI cd) sn (nI il) tk am at_ aa 0 0 (-1) wt wy 0 (nI rm) (nI ud) (nI nu) sd (nI qn) (nI qw) qo (nI qb) (nI qp) z75 (nI qi) (nI oc)))] H → va_D A [(mm, .inr (12, mo g (nI ta) (nI pa) (nI pe) pd (nI pb) pp pf pg pn rt rn (nI cd) sn (nI il) tk am at_ aa 0 0 (-1) wt wy 0 (nI rm) (nI ud) (nI nu) sd (nI qn) (nI qw) qo (nI qb) (nI qp) z75 (nI qi) (nI oc)))] → va_S A s.heap H locs → lv_has ls 6 [(5, .int (nI bq)), (0, .ref mm), (1, .int o), (2, .long x), (4, .int (nI d))] → W p l e { frames := 0, cells := 0, slots := 0, locals := 0 } s m ([.ref mm, .int o, .long x, .int (nI d)] : List Value).toArray below meth c H locs 0 0 (MQ below (skV D (skT cI cJ cC cZ cS) (fun (u : va_W) => ∃ (qa2 : Int64), u = [(mm, .inr (12, mo g (nI ta) (nI pa) (nI pe) pd (nI pb) pp pf pg pn rt rn (nI cd) sn (nI il) tk am at_ aa 0 0 (-1) wt wy 0 (nI rm) (nI ud) (nI nu) sd (nI qn) (nI qw) qo (nI qb) (nI qp) qa2 0 (nI oc)))]) A) ([.ref mm, .int o, .long x, .int (nI d)] : List Value).toArray s 0 0 A) (F0 m 75 ls []) := by
      intro z75 H locs ls  hP hD hS hl
      refine lv_iload_n hx hb dX12_qTakes_75 rfl (lv_at hl 2 rfl) ?_
      refine lv_iconst (v := 3) hx hb dX12_qTakes_76 (by decide) ?_
      refine lv_icmp_ne (tgt := 90) hx hb dX12_qTakes_77 (by decide) (fun c_9 => ?_) (fun c_9 => ?_)
      · skip
        exact jn_2 z75 _ _ _  hP hD hS (lv_sub hl [0, 1, 2, 3, 4] rfl)
      · skip
        refine lv_aload_n hx hb dX12_qTakes_80 rfl (lv_at hl 1 rfl) ?_
        refine lv_dup hx hb dX12_qTakes_81 rfl ?_
        refine sk_get (v := .long z75) (C := RX12) (T := TX12) (N := 92) hx hb hts inlX12 hown hK hP 0 rfl rfl 88 (by decide) w_6_3 rfl dX12_qTakes_82 ?_
        refine lv_lload_n hx hb dX12_qTakes_85 rfl (lv_at hl 3 rfl) ?_
        refine lv_ladd hx hb dX12_qTakes_86 ?_
        refine lv_topl (fun v_10 ev_10 => ?_)
        refine sk_put (ws' := [(mm, .inr (12, mo g (nI ta) (nI pa) (nI pe) pd (nI pb) pp pf pg pn rt rn (nI cd) sn (nI il) tk am at_ aa 0 0 (-1) wt wy 0 (nI rm) (nI ud) (nI nu) sd (nI qn) (nI qw) qo (nI qb) (nI qp) v_10 (nI qi) (nI oc)))]) (C := RX12) (T := TX12) (N := 92) (v := .long v_10) hx hb hts inlX12 tyX12 tyX12_ok nmX12 hown hK hP hD hS 0 rfl rfl 88 (by decide) w_6_3 rfl rfl rfl (Nat.le_of_ble_eq_true rfl) rfl dX12_qTakes_87 (fun H locs hP hD hS => ?_)
        exact jn_2 v_10 _ _ _  hP hD hS (lv_sub hl [0, 1, 2, 3, 4] rfl)
    have jn_11 : ∀ (z55 : Int64) (H : Heap) (locs : List Loc) (ls : Array Slot), va_P D vwCl [(mm, .inr (12, mo g (nI ta) (nI pa) (nI pe) pd (nI pb) pp pf pg pn rt rn (nI cd) sn (nI il) tk am at_ aa 0 0 (-1) wt wy 0 (nI rm) (nI ud) (nI nu) sd (nI qn) (nI qw) qo (nI qb) (nI qp) z55 (nI qi) (nI oc)))] H → va_D A [(mm, .inr (12, mo g (nI ta) (nI pa) (nI pe) pd (nI pb) pp pf pg pn rt rn (nI cd) sn (nI il) tk am at_ aa 0 0 (-1) wt wy 0 (nI rm) (nI ud) (nI nu) sd (nI qn) (nI qw) qo (nI qb) (nI qp) z55 (nI qi) (nI oc)))] → va_S A s.heap H locs → lv_has ls 6 [(5, .int (nI bq)), (0, .ref mm), (1, .int o), (2, .long x), (4, .int (nI d))] → W p l e { frames := 0, cells := 0, slots := 0, locals := 0 } s m ([.ref mm, .int o, .long x, .int (nI d)] : List Value).toArray below meth c H locs 0 0 (MQ below (skV D (skT cI cJ cC cZ cS) (fun (u : va_W) => ∃ (qa2 : Int64), u = [(mm, .inr (12, mo g (nI ta) (nI pa) (nI pe) pd (nI pb) pp pf pg pn rt rn (nI cd) sn (nI il) tk am at_ aa 0 0 (-1) wt wy 0 (nI rm) (nI ud) (nI nu) sd (nI qn) (nI qw) qo (nI qb) (nI qp) qa2 0 (nI oc)))]) A) ([.ref mm, .int o, .long x, .int (nI d)] : List Value).toArray s 0 0 A) (F0 m 55 ls []) := by
      intro z55 H locs ls  hP hD hS hl
      refine lv_iload_n hx hb dX12_qTakes_55 rfl (lv_at hl 2 rfl) ?_
      refine lv_iconst (v := 2) hx hb dX12_qTakes_56 (by decide) ?_
      refine lv_icmp_ne (tgt := 75) hx hb dX12_qTakes_57 (by decide) (fun c_12 => ?_) (fun c_12 => ?_)
      · skip
        exact jn_8 z55 _ _ _  hP hD hS (lv_sub hl [0, 1, 2, 3, 4] rfl)
      · skip
        refine lv_iload hx hb dX12_qTakes_60 (lv_at hl 0 rfl) ?_
        refine lv_if_eq (tgt := 75) hx hb dX12_qTakes_62 (by decide) (fun c_13 => ?_) (fun c_13 => ?_)
        · have c_13 : bq = 0 := (neq bq 0 (by omega) (by omega)).mp c_13
          exact jn_8 z55 _ _ _  hP hD hS (lv_sub hl [0, 1, 2, 3, 4] rfl)
        · have c_13 : ¬ (bq = 0) := fun h => c_13 ((neq bq 0 (by omega) (by omega)).mpr h)
          refine lv_aload_n hx hb dX12_qTakes_65 rfl (lv_at hl 1 rfl) ?_
          refine lv_dup hx hb dX12_qTakes_66 rfl ?_
          refine sk_get (v := .long z55) (C := RX12) (T := TX12) (N := 92) hx hb hts inlX12 hown hK hP 0 rfl rfl 88 (by decide) w_6_3 rfl dX12_qTakes_67 ?_
          refine lv_lconst (v := 1) hx hb dX12_qTakes_70 (by decide) ?_
          refine lv_ladd hx hb dX12_qTakes_71 ?_
          refine lv_topl (fun v_14 ev_14 => ?_)
          refine sk_put (ws' := [(mm, .inr (12, mo g (nI ta) (nI pa) (nI pe) pd (nI pb) pp pf pg pn rt rn (nI cd) sn (nI il) tk am at_ aa 0 0 (-1) wt wy 0 (nI rm) (nI ud) (nI nu) sd (nI qn) (nI qw) qo (nI qb) (nI qp) v_14 (nI qi) (nI oc)))]) (C := RX12) (T := TX12) (N := 92) (v := .long v_14) hx hb hts inlX12 tyX12 tyX12_ok nmX12 hown hK hP hD hS 0 rfl rfl 88 (by decide) w_6_3 rfl rfl rfl (Nat.le_of_ble_eq_true rfl) rfl dX12_qTakes_72 (fun H locs hP hD hS => ?_)
          exact jn_8 v_14 _ _ _  hP hD hS (lv_sub hl [0, 1, 2, 3, 4] rfl)
    refine lv_iload_n hx hb dX12_qTakes_18 rfl (lv_at hl 2 rfl) ?_
    refine lv_if_ne (tgt := 38) hx hb dX12_qTakes_19 (by decide) (fun c_15 => ?_) (fun c_15 => ?_)
    · skip
      refine lv_iload_n hx hb dX12_qTakes_38 rfl (lv_at hl 2 rfl) ?_
      refine lv_iconst (v := 1) hx hb dX12_qTakes_39 (by decide) ?_
      refine lv_icmp_ne (tgt := 55) hx hb dX12_qTakes_40 (by decide) (fun c_16 => ?_) (fun c_16 => ?_)
      · skip
        exact jn_11 qa _ _ _  hP hD hS (lv_sub hl [0, 1, 2, 3, 4] rfl)
      · skip
        refine lv_iload hx hb dX12_qTakes_43 (lv_at hl 0 rfl) ?_
        refine lv_if_eq (tgt := 55) hx hb dX12_qTakes_45 (by decide) (fun c_17 => ?_) (fun c_17 => ?_)
        · have c_17 : bq = 0 := (neq bq 0 (by omega) (by omega)).mp c_17
          exact jn_11 qa _ _ _  hP hD hS (lv_sub hl [0, 1, 2, 3, 4] rfl)
        · have c_17 : ¬ (bq = 0) := fun h => c_17 ((neq bq 0 (by omega) (by omega)).mpr h)
          refine lv_aload_n hx hb dX12_qTakes_48 rfl (lv_at hl 1 rfl) ?_
          refine lv_iload hx hb dX12_qTakes_49 (lv_at hl 4 rfl) ?_
          refine lv_i2l hx hb dX12_qTakes_51 rfl ?_
          refine sk_put (ws' := [(mm, .inr (12, mo g (nI ta) (nI pa) (nI pe) pd (nI pb) pp pf pg pn rt rn (nI cd) sn (nI il) tk am at_ aa 0 0 (-1) wt wy 0 (nI rm) (nI ud) (nI nu) sd (nI qn) (nI qw) qo (nI qb) (nI qp) (Int32.toInt64 (nI d)) (nI qi) (nI oc)))]) (C := RX12) (T := TX12) (N := 92) (v := .long (Int32.toInt64 (nI d))) hx hb hts inlX12 tyX12 tyX12_ok nmX12 hown hK hP hD hS 0 rfl rfl 88 (by decide) w_6_3 rfl rfl rfl (Nat.le_of_ble_eq_true rfl) rfl dX12_qTakes_52 (fun H locs hP hD hS => ?_)
          exact jn_11 (Int32.toInt64 (nI d)) _ _ _  hP hD hS (lv_sub hl [0, 1, 2, 3, 4] rfl)
    · skip
      refine lv_iload hx hb dX12_qTakes_22 (lv_at hl 0 rfl) ?_
      refine lv_if_eq (tgt := 38) hx hb dX12_qTakes_24 (by decide) (fun c_18 => ?_) (fun c_18 => ?_)
      · have c_18 : bq = 0 := (neq bq 0 (by omega) (by omega)).mp c_18
        refine lv_iload_n hx hb dX12_qTakes_38 rfl (lv_at hl 2 rfl) ?_
        refine lv_iconst (v := 1) hx hb dX12_qTakes_39 (by decide) ?_
        refine lv_icmp_ne (tgt := 55) hx hb dX12_qTakes_40 (by decide) (fun c_19 => ?_) (fun c_19 => ?_)
        · skip
          exact jn_11 qa _ _ _  hP hD hS (lv_sub hl [0, 1, 2, 3, 4] rfl)
        · skip
          refine lv_iload hx hb dX12_qTakes_43 (lv_at hl 0 rfl) ?_
          refine lv_if_eq (tgt := 55) hx hb dX12_qTakes_45 (by decide) (fun c_20 => ?_) (fun c_20 => ?_)
          · have c_20 : bq = 0 := (neq bq 0 (by omega) (by omega)).mp c_20
            exact jn_11 qa _ _ _  hP hD hS (lv_sub hl [0, 1, 2, 3, 4] rfl)
          · have c_20 : ¬ (bq = 0) := fun h => c_20 ((neq bq 0 (by omega) (by omega)).mpr h)
            refine lv_aload_n hx hb dX12_qTakes_48 rfl (lv_at hl 1 rfl) ?_
            refine lv_iload hx hb dX12_qTakes_49 (lv_at hl 4 rfl) ?_
            refine lv_i2l hx hb dX12_qTakes_51 rfl ?_
            refine sk_put (ws' := [(mm, .inr (12, mo g (nI ta) (nI pa) (nI pe) pd (nI pb) pp pf pg pn rt rn (nI cd) sn (nI il) tk am at_ aa 0 0 (-1) wt wy 0 (nI rm) (nI ud) (nI nu) sd (nI qn) (nI qw) qo (nI qb) (nI qp) (Int32.toInt64 (nI d)) (nI qi) (nI oc)))]) (C := RX12) (T := TX12) (N := 92) (v := .long (Int32.toInt64 (nI d))) hx hb hts inlX12 tyX12 tyX12_ok nmX12 hown hK hP hD hS 0 rfl rfl 88 (by decide) w_6_3 rfl rfl rfl (Nat.le_of_ble_eq_true rfl) rfl dX12_qTakes_52 (fun H locs hP hD hS => ?_)
            exact jn_11 (Int32.toInt64 (nI d)) _ _ _  hP hD hS (lv_sub hl [0, 1, 2, 3, 4] rfl)
      · have c_18 : ¬ (bq = 0) := fun h => c_18 ((neq bq 0 (by omega) (by omega)).mpr h)
        refine lv_aload_n hx hb dX12_qTakes_27 rfl (lv_at hl 1 rfl) ?_
        refine sk_get (v := .long qa) (C := RX12) (T := TX12) (N := 92) hx hb hts inlX12 hown hK hP 0 rfl rfl 88 (by decide) w_6_3 rfl dX12_qTakes_28 ?_
        refine lv_ldc2 (v := (-1)) hx hb hown (hts _ w_7_155) dX12_qTakes_31 ?_
        refine W.lcmp hx hb dX12_qTakes_34 ?_
        refine lv_if_eq (tgt := 48) hx hb dX12_qTakes_35 (by decide) (fun c_21 => ?_) (fun c_21 => ?_)
        · skip
          refine lv_aload_n hx hb dX12_qTakes_48 rfl (lv_at hl 1 rfl) ?_
          refine lv_iload hx hb dX12_qTakes_49 (lv_at hl 4 rfl) ?_
          refine lv_i2l hx hb dX12_qTakes_51 rfl ?_
          refine sk_put (ws' := [(mm, .inr (12, mo g (nI ta) (nI pa) (nI pe) pd (nI pb) pp pf pg pn rt rn (nI cd) sn (nI il) tk am at_ aa 0 0 (-1) wt wy 0 (nI rm) (nI ud) (nI nu) sd (nI qn) (nI qw) qo (nI qb) (nI qp) (Int32.toInt64 (nI d)) (nI qi) (nI oc)))]) (C := RX12) (T := TX12) (N := 92) (v := .long (Int32.toInt64 (nI d))) hx hb hts inlX12 tyX12 tyX12_ok nmX12 hown hK hP hD hS 0 rfl rfl 88 (by decide) w_6_3 rfl rfl rfl (Nat.le_of_ble_eq_true rfl) rfl dX12_qTakes_52 (fun H locs hP hD hS => ?_)
          exact jn_11 (Int32.toInt64 (nI d)) _ _ _  hP hD hS (lv_sub hl [0, 1, 2, 3, 4] rfl)
        · skip
          refine lv_iload_n hx hb dX12_qTakes_38 rfl (lv_at hl 2 rfl) ?_
          refine lv_iconst (v := 1) hx hb dX12_qTakes_39 (by decide) ?_
          refine lv_icmp_ne (tgt := 55) hx hb dX12_qTakes_40 (by decide) (fun c_22 => ?_) (fun c_22 => ?_)
          · skip
            exact jn_11 qa _ _ _  hP hD hS (lv_sub hl [0, 1, 2, 3, 4] rfl)
          · skip
            refine lv_iload hx hb dX12_qTakes_43 (lv_at hl 0 rfl) ?_
            refine lv_if_eq (tgt := 55) hx hb dX12_qTakes_45 (by decide) (fun c_23 => ?_) (fun c_23 => ?_)
            · have c_23 : bq = 0 := (neq bq 0 (by omega) (by omega)).mp c_23
              exact jn_11 qa _ _ _  hP hD hS (lv_sub hl [0, 1, 2, 3, 4] rfl)
            · have c_23 : ¬ (bq = 0) := fun h => c_23 ((neq bq 0 (by omega) (by omega)).mpr h)
              refine lv_aload_n hx hb dX12_qTakes_48 rfl (lv_at hl 1 rfl) ?_
              refine lv_iload hx hb dX12_qTakes_49 (lv_at hl 4 rfl) ?_
              refine lv_i2l hx hb dX12_qTakes_51 rfl ?_
              refine sk_put (ws' := [(mm, .inr (12, mo g (nI ta) (nI pa) (nI pe) pd (nI pb) pp pf pg pn rt rn (nI cd) sn (nI il) tk am at_ aa 0 0 (-1) wt wy 0 (nI rm) (nI ud) (nI nu) sd (nI qn) (nI qw) qo (nI qb) (nI qp) (Int32.toInt64 (nI d)) (nI qi) (nI oc)))]) (C := RX12) (T := TX12) (N := 92) (v := .long (Int32.toInt64 (nI d))) hx hb hts inlX12 tyX12 tyX12_ok nmX12 hown hK hP hD hS 0 rfl rfl 88 (by decide) w_6_3 rfl rfl rfl (Nat.le_of_ble_eq_true rfl) rfl dX12_qTakes_52 (fun H locs hP hD hS => ?_)
              exact jn_11 (Int32.toInt64 (nI d)) _ _ _  hP hD hS (lv_sub hl [0, 1, 2, 3, 4] rfl)
  refine lv_iload_n hx hb dX12_qTakes_0 rfl (lv_at hl 1 rfl) ?_
  refine lv_iconst (v := 3) hx hb dX12_qTakes_1 (by decide) ?_
  refine lv_icmp_ge (tgt := 15) hx hb dX12_qTakes_2 (by decide) (fun c_24 => ?_) (fun c_24 => ?_)
  · obtain ⟨k_25, hk_25, h1k_25, rfl⟩ := nofge' o 3 (by omega) c_24
    refine lv_iconst (v := 0) hx hb dX12_qTakes_15 (by decide) ?_
    exact jn_1 0 _ _ _ (by omega) hP hD hS (lv_sub hl [0, 1, 2, 3] rfl)
  · skip
    refine lv_lload_n hx hb dX12_qTakes_5 rfl (lv_at hl 2 rfl) ?_
    refine lv_lconst (v := 1) hx hb dX12_qTakes_6 (by decide) ?_
    refine W.lcmp hx hb dX12_qTakes_7 ?_
    refine lv_if_ne (tgt := 15) hx hb dX12_qTakes_8 (by decide) (fun c_26 => ?_) (fun c_26 => ?_)
    · skip
      refine lv_iconst (v := 0) hx hb dX12_qTakes_15 (by decide) ?_
      exact jn_1 0 _ _ _ (by omega) hP hD hS (lv_sub hl [0, 1, 2, 3] rfl)
    · skip
      refine lv_iconst (v := 1) hx hb dX12_qTakes_11 (by decide) ?_
      refine lv_goto (tgt := 16) hx hb dX12_qTakes_12 (by decide) ?_
      exact jn_1 1 _ _ _ (by omega) hP hD hS (lv_sub hl [0, 1, 2, 3] rfl)
theorem dX12_qKind_0 : decode cX12_qKind 0 = .ok (.aload_n 0, 1) := by decide +kernel
theorem dX12_qKind_1 : decode cX12_qKind 1 = .ok (.aload_n 0, 1) := by decide +kernel
theorem dX12_qKind_2 : decode cX12_qKind 2 = .ok (.getfield 114, 3) := by decide +kernel
theorem dX12_qKind_5 : decode cX12_qKind 5 = .ok (.invokevirtual 222, 3) := by decide +kernel
theorem dX12_qKind_8 : decode cX12_qKind 8 = .ok (.ifCond .eq 7, 3) := by decide +kernel
theorem dX12_qKind_15 : decode cX12_qKind 15 = .ok (.aload_n 0, 1) := by decide +kernel
theorem dX12_qKind_16 : decode cX12_qKind 16 = .ok (.aload_n 0, 1) := by decide +kernel
theorem dX12_qKind_17 : decode cX12_qKind 17 = .ok (.getfield 117, 3) := by decide +kernel
theorem dX12_qKind_20 : decode cX12_qKind 20 = .ok (.invokevirtual 222, 3) := by decide +kernel
theorem dX12_qKind_23 : decode cX12_qKind 23 = .ok (.ifCond .eq 7, 3) := by decide +kernel
theorem dX12_qKind_30 : decode cX12_qKind 30 = .ok (.aload_n 0, 1) := by decide +kernel
theorem dX12_qKind_31 : decode cX12_qKind 31 = .ok (.aload_n 0, 1) := by decide +kernel
theorem dX12_qKind_32 : decode cX12_qKind 32 = .ok (.getfield 120, 3) := by decide +kernel
theorem dX12_qKind_35 : decode cX12_qKind 35 = .ok (.invokevirtual 222, 3) := by decide +kernel
theorem dX12_qKind_38 : decode cX12_qKind 38 = .ok (.ifCond .eq 7, 3) := by decide +kernel
theorem dX12_qKind_45 : decode cX12_qKind 45 = .ok (.aload_n 0, 1) := by decide +kernel
theorem dX12_qKind_46 : decode cX12_qKind 46 = .ok (.aload_n 0, 1) := by decide +kernel
theorem dX12_qKind_47 : decode cX12_qKind 47 = .ok (.getfield 123, 3) := by decide +kernel
theorem dX12_qKind_50 : decode cX12_qKind 50 = .ok (.invokevirtual 222, 3) := by decide +kernel
theorem dX12_qKind_53 : decode cX12_qKind 53 = .ok (.ifCond .eq 7, 3) := by decide +kernel
theorem dX12_qKind_60 : decode cX12_qKind 60 = .ok (.aload_n 0, 1) := by decide +kernel
theorem dX12_qKind_61 : decode cX12_qKind 61 = .ok (.aload_n 0, 1) := by decide +kernel
theorem dX12_qKind_62 : decode cX12_qKind 62 = .ok (.getfield 126, 3) := by decide +kernel
theorem dX12_qKind_65 : decode cX12_qKind 65 = .ok (.invokevirtual 222, 3) := by decide +kernel
theorem dX12_qKind_68 : decode cX12_qKind 68 = .ok (.ifCond .eq 7, 3) := by decide +kernel
theorem dX12_qKind_75 : decode cX12_qKind 75 = .ok (.iconst 5, 1) := by decide +kernel
theorem dX12_qKind_76 : decode cX12_qKind 76 = .ok (.istore_n 1, 1) := by decide +kernel
theorem dX12_qKind_77 : decode cX12_qKind 77 = .ok (.iload_n 1, 1) := by decide +kernel
theorem dX12_qKind_78 : decode cX12_qKind 78 = .ok (.iconst 5, 1) := by decide +kernel
theorem dX12_qKind_79 : decode cX12_qKind 79 = .ok (.if_icmp .ne 11, 3) := by decide +kernel
theorem dX12_qKind_82 : decode cX12_qKind 82 = .ok (.aload_n 0, 1) := by decide +kernel
theorem dX12_qKind_83 : decode cX12_qKind 83 = .ok (.aload_n 0, 1) := by decide +kernel
theorem dX12_qKind_84 : decode cX12_qKind 84 = .ok (.getfield 129, 3) := by decide +kernel
theorem dX12_qKind_87 : decode cX12_qKind 87 = .ok (.invokevirtual 245, 3) := by decide +kernel
theorem dX12_qKind_90 : decode cX12_qKind 90 = .ok (.iload_n 1, 1) := by decide +kernel
theorem dX12_qKind_91 : decode cX12_qKind 91 = .ok (.ireturn, 1) := by decide +kernel
theorem dX12_qKind_71 : decode cX12_qKind 71 = .ok (.iconst 4, 1) := by decide +kernel
theorem dX12_qKind_72 : decode cX12_qKind 72 = .ok (.goto 4, 3) := by decide +kernel
theorem dX12_qKind_56 : decode cX12_qKind 56 = .ok (.iconst 3, 1) := by decide +kernel
theorem dX12_qKind_57 : decode cX12_qKind 57 = .ok (.goto 19, 3) := by decide +kernel
theorem dX12_qKind_41 : decode cX12_qKind 41 = .ok (.iconst 2, 1) := by decide +kernel
theorem dX12_qKind_42 : decode cX12_qKind 42 = .ok (.goto 34, 3) := by decide +kernel
theorem dX12_qKind_26 : decode cX12_qKind 26 = .ok (.iconst 1, 1) := by decide +kernel
theorem dX12_qKind_27 : decode cX12_qKind 27 = .ok (.goto 49, 3) := by decide +kernel
theorem dX12_qKind_11 : decode cX12_qKind 11 = .ok (.iconst 0, 1) := by decide +kernel
theorem dX12_qKind_12 : decode cX12_qKind 12 = .ok (.goto 64, 3) := by decide +kernel
theorem w_5_214 : (Cond.fieldLink RX12 117 "SameKeeperModel" "lastAsked" "[C") ∈ wsL_law := sk_mem (ck_5 _ (List.mem_of_getElem? (i := 214) rfl)) rfl
theorem w_5_215 : (Cond.fieldLink RX12 120 "SameKeeperModel" "oftenAsked" "[C") ∈ wsL_law := sk_mem (ck_5 _ (List.mem_of_getElem? (i := 215) rfl)) rfl
theorem w_5_216 : (Cond.fieldLink RX12 123 "SameKeeperModel" "totalAsked" "[C") ∈ wsL_law := sk_mem (ck_5 _ (List.mem_of_getElem? (i := 216) rfl)) rfl
theorem w_5_217 : (Cond.fieldLink RX12 126 "SameKeeperModel" "mostAsked" "[C") ∈ wsL_law := sk_mem (ck_5 _ (List.mem_of_getElem? (i := 217) rfl)) rfl
theorem w_5_218 : (Cond.fieldLink RX12 129 "SameKeeperModel" "leastAsked" "[C") ∈ wsL_law := sk_mem (ck_5 _ (List.mem_of_getElem? (i := 218) rfl)) rfl
theorem w_8_170 : (Cond.code yX12_qKind cX12_qKind 2 (some .int)) ∈ wsL_law := sk_mem (ck_8 _ (List.mem_of_getElem? (i := 170) rfl)) rfl
theorem dX12_ask_0 : decode cX12_ask 0 = .ok (.aload_n 0, 1) := by decide +kernel
theorem dX12_ask_1 : decode cX12_ask 1 = .ok (.getfield 302, 3) := by decide +kernel
theorem dX12_ask_4 : decode cX12_ask 4 = .ok (.ifCond .ne 12, 3) := by decide +kernel
theorem dX12_ask_16 : decode cX12_ask 16 = .ok (.aload_n 0, 1) := by decide +kernel
theorem dX12_ask_17 : decode cX12_ask 17 = .ok (.aload_n 0, 1) := by decide +kernel
theorem dX12_ask_18 : decode cX12_ask 18 = .ok (.getfield 192, 3) := by decide +kernel
theorem dX12_ask_21 : decode cX12_ask 21 = .ok (.putfield 204, 3) := by decide +kernel
theorem dX12_ask_24 : decode cX12_ask 24 = .ok (.aload_n 0, 1) := by decide +kernel
theorem dX12_ask_25 : decode cX12_ask 25 = .ok (.iconst 0, 1) := by decide +kernel
theorem dX12_ask_26 : decode cX12_ask 26 = .ok (.putfield 192, 3) := by decide +kernel
theorem dX12_ask_29 : decode cX12_ask 29 = .ok (.aload_n 0, 1) := by decide +kernel
theorem dX12_ask_30 : decode cX12_ask 30 = .ok (.iconst 0, 1) := by decide +kernel
theorem dX12_ask_31 : decode cX12_ask 31 = .ok (.putfield 201, 3) := by decide +kernel
theorem dX12_ask_34 : decode cX12_ask 34 = .ok (.aload_n 0, 1) := by decide +kernel
theorem dX12_ask_35 : decode cX12_ask 35 = .ok (.iconst (-1), 1) := by decide +kernel
theorem dX12_ask_36 : decode cX12_ask 36 = .ok (.putfield 215, 3) := by decide +kernel
theorem dX12_ask_39 : decode cX12_ask 39 = .ok (.aload_n 0, 1) := by decide +kernel
theorem dX12_ask_40 : decode cX12_ask 40 = .ok (.iconst 0, 1) := by decide +kernel
theorem dX12_ask_41 : decode cX12_ask 41 = .ok (.putfield 195, 3) := by decide +kernel
theorem dX12_ask_44 : decode cX12_ask 44 = .ok (.aload_n 0, 1) := by decide +kernel
theorem dX12_ask_45 : decode cX12_ask 45 = .ok (.iconst (-1), 1) := by decide +kernel
theorem dX12_ask_46 : decode cX12_ask 46 = .ok (.putfield 198, 3) := by decide +kernel
theorem dX12_ask_49 : decode cX12_ask 49 = .ok (.aload_n 0, 1) := by decide +kernel
theorem dX12_ask_50 : decode cX12_ask 50 = .ok (.iconst 2, 1) := by decide +kernel
theorem dX12_ask_51 : decode cX12_ask 51 = .ok (.putfield 242, 3) := by decide +kernel
theorem dX12_ask_54 : decode cX12_ask 54 = .ok (.aload_n 0, 1) := by decide +kernel
theorem dX12_ask_55 : decode cX12_ask 55 = .ok (.iconst 0, 1) := by decide +kernel
theorem dX12_ask_56 : decode cX12_ask 56 = .ok (.putfield 257, 3) := by decide +kernel
theorem dX12_ask_59 : decode cX12_ask 59 = .ok (.aload_n 0, 1) := by decide +kernel
theorem dX12_ask_60 : decode cX12_ask 60 = .ok (.iconst 0, 1) := by decide +kernel
theorem dX12_ask_61 : decode cX12_ask 61 = .ok (.putfield 260, 3) := by decide +kernel
theorem dX12_ask_64 : decode cX12_ask 64 = .ok (.aload_n 0, 1) := by decide +kernel
theorem dX12_ask_65 : decode cX12_ask 65 = .ok (.iconst 0, 1) := by decide +kernel
theorem dX12_ask_66 : decode cX12_ask 66 = .ok (.putfield 263, 3) := by decide +kernel
theorem dX12_ask_69 : decode cX12_ask 69 = .ok (.aload_n 0, 1) := by decide +kernel
theorem dX12_ask_70 : decode cX12_ask 70 = .ok (.iconst 0, 1) := by decide +kernel
theorem dX12_ask_71 : decode cX12_ask 71 = .ok (.putfield 266, 3) := by decide +kernel
theorem dX12_ask_74 : decode cX12_ask 74 = .ok (.aload_n 0, 1) := by decide +kernel
theorem dX12_ask_75 : decode cX12_ask 75 = .ok (.invokevirtual 581, 3) := by decide +kernel
theorem dX12_ask_78 : decode cX12_ask 78 = .ok (.istore_n 1, 1) := by decide +kernel
theorem dX12_ask_109 : decode cX12_ask 109 = .ok (.aload_n 0, 1) := by decide +kernel
theorem dX12_ask_110 : decode cX12_ask 110 = .ok (.getfield 195, 3) := by decide +kernel
theorem dX12_ask_113 : decode cX12_ask 113 = .ok (.ifCond .ne 20, 3) := by decide +kernel
theorem dX12_ask_133 : decode cX12_ask 133 = .ok (.aload_n 0, 1) := by decide +kernel
theorem dX12_ask_134 : decode cX12_ask 134 = .ok (.aload_n 0, 1) := by decide +kernel
theorem dX12_ask_135 : decode cX12_ask 135 = .ok (.getfield 195, 3) := by decide +kernel
theorem dX12_ask_138 : decode cX12_ask 138 = .ok (.putfield 296, 3) := by decide +kernel
theorem dX12_ask_141 : decode cX12_ask 141 = .ok (.aload_n 0, 1) := by decide +kernel
theorem dX12_ask_142 : decode cX12_ask 142 = .ok (.aload_n 0, 1) := by decide +kernel
theorem dX12_ask_143 : decode cX12_ask 143 = .ok (.getfield 198, 3) := by decide +kernel
theorem dX12_ask_146 : decode cX12_ask 146 = .ok (.putfield 13, 3) := by decide +kernel
theorem dX12_ask_149 : decode cX12_ask 149 = .ok (.aload_n 0, 1) := by decide +kernel
theorem dX12_ask_150 : decode cX12_ask 150 = .ok (.getfield 195, 3) := by decide +kernel
theorem dX12_ask_153 : decode cX12_ask 153 = .ok (.ifCond .eq 7, 3) := by decide +kernel
theorem dX12_ask_156 : decode cX12_ask 156 = .ok (.ldc2_w 421, 3) := by decide +kernel
theorem dX12_ask_159 : decode cX12_ask 159 = .ok (.lreturn, 1) := by decide +kernel
theorem dX12_ask_116 : decode cX12_ask 116 = .ok (.aload_n 0, 1) := by decide +kernel
theorem dX12_ask_117 : decode cX12_ask 117 = .ok (.invokevirtual 207, 3) := by decide +kernel
theorem dX12_ask_120 : decode cX12_ask 120 = .ok (.iconst (-1), 1) := by decide +kernel
theorem dX12_ask_121 : decode cX12_ask 121 = .ok (.if_icmp .eq 12, 3) := by decide +kernel
theorem dX12_ask_160 : decode cX12_ask 160 = .ok (.aload_n 0, 1) := by decide +kernel
theorem dX12_ask_161 : decode cX12_ask 161 = .ok (.iload_n 1, 1) := by decide +kernel
theorem dX12_ask_162 : decode cX12_ask 162 = .ok (.iconst 2, 1) := by decide +kernel
theorem dX12_ask_163 : decode cX12_ask 163 = .ok (.if_icmp .ge 9, 3) := by decide +kernel
theorem dX12_ask_172 : decode cX12_ask 172 = .ok (.lconst 0, 1) := by decide +kernel
theorem dX12_ask_173 : decode cX12_ask 173 = .ok (.putfield 575, 3) := by decide +kernel
theorem dX12_ask_176 : decode cX12_ask 176 = .ok (.aload_n 0, 1) := by decide +kernel
theorem dX12_ask_177 : decode cX12_ask 177 = .ok (.iconst 1, 1) := by decide +kernel
theorem dX12_ask_178 : decode cX12_ask 178 = .ok (.putfield 578, 3) := by decide +kernel
theorem dX12_ask_181 : decode cX12_ask 181 = .ok (.aload_n 0, 1) := by decide +kernel
theorem dX12_ask_182 : decode cX12_ask 182 = .ok (.invokevirtual 400, 3) := by decide +kernel
theorem dX12_ask_185 : decode cX12_ask 185 = .ok (.aload_n 0, 1) := by decide +kernel
theorem dX12_ask_186 : decode cX12_ask 186 = .ok (.getfield 382, 3) := by decide +kernel
theorem dX12_ask_189 : decode cX12_ask 189 = .ok (.lconst 0, 1) := by decide +kernel
theorem dX12_ask_190 : decode cX12_ask 190 = .ok (.lcmp, 1) := by decide +kernel
theorem dX12_ask_191 : decode cX12_ask 191 = .ok (.ifCond .le 8, 3) := by decide +kernel
theorem dX12_ask_199 : decode cX12_ask 199 = .ok (.aload_n 0, 1) := by decide +kernel
theorem dX12_ask_200 : decode cX12_ask 200 = .ok (.iconst 2, 1) := by decide +kernel
theorem dX12_ask_201 : decode cX12_ask 201 = .ok (.putfield 242, 3) := by decide +kernel
theorem dX12_ask_204 : decode cX12_ask 204 = .ok (.iconst 0, 1) := by decide +kernel
theorem dX12_ask_205 : decode cX12_ask 205 = .ok (.istore_n 2, 1) := by decide +kernel
theorem dX12_ask_206 : decode cX12_ask 206 = .ok (.iload_n 2, 1) := by decide +kernel
theorem dX12_ask_207 : decode cX12_ask 207 = .ok (.aload_n 0, 1) := by decide +kernel
theorem dX12_ask_208 : decode cX12_ask 208 = .ok (.invokevirtual 315, 3) := by decide +kernel
theorem dX12_ask_211 : decode cX12_ask 211 = .ok (.if_icmp .ge 20, 3) := by decide +kernel
theorem dX12_ask_231 : decode cX12_ask 231 = .ok (.aload_n 0, 1) := by decide +kernel
theorem dX12_ask_232 : decode cX12_ask 232 = .ok (.getfield 575, 3) := by decide +kernel
theorem dX12_ask_235 : decode cX12_ask 235 = .ok (.lreturn, 1) := by decide +kernel
theorem dX12_ask_214 : decode cX12_ask 214 = .ok (.aload_n 0, 1) := by decide +kernel
theorem dX12_ask_215 : decode cX12_ask 215 = .ok (.iload_n 1, 1) := by decide +kernel
theorem dX12_ask_216 : decode cX12_ask 216 = .ok (.aload_n 0, 1) := by decide +kernel
theorem dX12_ask_217 : decode cX12_ask 217 = .ok (.iload_n 2, 1) := by decide +kernel
theorem dX12_ask_218 : decode cX12_ask 218 = .ok (.invokevirtual 587, 3) := by decide +kernel
theorem dX12_ask_221 : decode cX12_ask 221 = .ok (.iload_n 2, 1) := by decide +kernel
theorem dX12_ask_222 : decode cX12_ask 222 = .ok (.invokevirtual 591, 3) := by decide +kernel
theorem dX12_ask_225 : decode cX12_ask 225 = .ok (.iinc 2 1, 3) := by decide +kernel
theorem dX12_ask_228 : decode cX12_ask 228 = .ok (.goto (-22), 3) := by decide +kernel
theorem dX12_ask_194 : decode cX12_ask 194 = .ok (.aload_n 0, 1) := by decide +kernel
theorem dX12_ask_195 : decode cX12_ask 195 = .ok (.lconst 0, 1) := by decide +kernel
theorem dX12_ask_196 : decode cX12_ask 196 = .ok (.invokevirtual 394, 3) := by decide +kernel
theorem dX12_ask_166 : decode cX12_ask 166 = .ok (.ldc2_w 569, 3) := by decide +kernel
theorem dX12_ask_169 : decode cX12_ask 169 = .ok (.goto 4, 3) := by decide +kernel
theorem dX12_ask_124 : decode cX12_ask 124 = .ok (.aload_n 0, 1) := by decide +kernel
theorem dX12_ask_125 : decode cX12_ask 125 = .ok (.iconst 1, 1) := by decide +kernel
theorem dX12_ask_126 : decode cX12_ask 126 = .ok (.aload_n 0, 1) := by decide +kernel
theorem dX12_ask_127 : decode cX12_ask 127 = .ok (.getfield 201, 3) := by decide +kernel
theorem dX12_ask_130 : decode cX12_ask 130 = .ok (.invokevirtual 225, 3) := by decide +kernel
theorem dX12_ask_79 : decode cX12_ask 79 = .ok (.aload_n 0, 1) := by decide +kernel
theorem dX12_ask_80 : decode cX12_ask 80 = .ok (.getfield 195, 3) := by decide +kernel
theorem dX12_ask_83 : decode cX12_ask 83 = .ok (.ifCond .ne 15, 3) := by decide +kernel
theorem dX12_ask_98 : decode cX12_ask 98 = .ok (.aload_n 0, 1) := by decide +kernel
theorem dX12_ask_99 : decode cX12_ask 99 = .ok (.getfield 195, 3) := by decide +kernel
theorem dX12_ask_102 : decode cX12_ask 102 = .ok (.ifCond .ne 7, 3) := by decide +kernel
theorem dX12_ask_105 : decode cX12_ask 105 = .ok (.aload_n 0, 1) := by decide +kernel
theorem dX12_ask_106 : decode cX12_ask 106 = .ok (.invokevirtual 269, 3) := by decide +kernel
theorem dX12_ask_86 : decode cX12_ask 86 = .ok (.iload_n 1, 1) := by decide +kernel
theorem dX12_ask_87 : decode cX12_ask 87 = .ok (.iconst 3, 1) := by decide +kernel
theorem dX12_ask_88 : decode cX12_ask 88 = .ok (.if_icmp .ge 10, 3) := by decide +kernel
theorem dX12_ask_91 : decode cX12_ask 91 = .ok (.aload_n 0, 1) := by decide +kernel
theorem dX12_ask_92 : decode cX12_ask 92 = .ok (.invokevirtual 584, 3) := by decide +kernel
theorem dX12_ask_95 : decode cX12_ask 95 = .ok (.goto 14, 3) := by decide +kernel
theorem dX12_ask_7 : decode cX12_ask 7 = .ok (.aload_n 0, 1) := by decide +kernel
theorem dX12_ask_8 : decode cX12_ask 8 = .ok (.iconst 0, 1) := by decide +kernel
theorem dX12_ask_9 : decode cX12_ask 9 = .ok (.putfield 192, 3) := by decide +kernel
theorem dX12_ask_12 : decode cX12_ask 12 = .ok (.ldc2_w 421, 3) := by decide +kernel
theorem dX12_ask_15 : decode cX12_ask 15 = .ok (.lreturn, 1) := by decide +kernel
theorem w_8_167 : (Cond.methodLink RX12 581 yX12_qKind) ∈ wsL_law := sk_mem (ck_8 _ (List.mem_of_getElem? (i := 167) rfl)) rfl
theorem w_8_169 : (Cond.instanceMethod yX12_qKind) ∈ wsL_law := sk_mem (ck_8 _ (List.mem_of_getElem? (i := 169) rfl)) rfl
theorem w_0_110 : (Cond.selects RX12 yX12_qKind yX12_qKind) ∈ wsL_law := sk_mem (ck_0 _ (List.mem_of_getElem? (i := 110) rfl)) rfl
theorem w_8_191 : (Cond.methodLink RX12 587 yX12_qTold) ∈ wsL_law := sk_mem (ck_8 _ (List.mem_of_getElem? (i := 191) rfl)) rfl
theorem w_8_193 : (Cond.instanceMethod yX12_qTold) ∈ wsL_law := sk_mem (ck_8 _ (List.mem_of_getElem? (i := 193) rfl)) rfl
theorem w_0_116 : (Cond.selects RX12 yX12_qTold yX12_qTold) ∈ wsL_law := sk_mem (ck_0 _ (List.mem_of_getElem? (i := 116) rfl)) rfl
theorem w_8_199 : (Cond.methodLink RX12 591 yX12_qTakes) ∈ wsL_law := sk_mem (ck_8 _ (List.mem_of_getElem? (i := 199) rfl)) rfl
theorem w_8_201 : (Cond.instanceMethod yX12_qTakes) ∈ wsL_law := sk_mem (ck_8 _ (List.mem_of_getElem? (i := 201) rfl)) rfl
theorem w_0_118 : (Cond.selects RX12 yX12_qTakes yX12_qTakes) ∈ wsL_law := sk_mem (ck_0 _ (List.mem_of_getElem? (i := 118) rfl)) rfl
theorem w_8_171 : (Cond.methodLink RX12 584 yX12_qTest) ∈ wsL_law := sk_mem (ck_8 _ (List.mem_of_getElem? (i := 171) rfl)) rfl
theorem w_8_173 : (Cond.instanceMethod yX12_qTest) ∈ wsL_law := sk_mem (ck_8 _ (List.mem_of_getElem? (i := 173) rfl)) rfl
theorem w_0_111 : (Cond.selects RX12 yX12_qTest yX12_qTest) ∈ wsL_law := sk_mem (ck_0 _ (List.mem_of_getElem? (i := 111) rfl)) rfl
theorem w_8_166 : (Cond.code yX12_ask cX12_ask 3 (some .long)) ∈ wsL_law := sk_mem (ck_8 _ (List.mem_of_getElem? (i := 166) rfl)) rfl
theorem sk_sk (tb : Nat → Nat) (n a : Nat) : sk tb n (sk tb n a) = sk tb n a := ext_stop (ext_end qB tb n a)
def cuO (tb : Nat → Nat) (n pa : Nat) (pd : Int32) : Cur := (sk tb n pa, decide (pd = nI (sk tb n pa)))
def pdO (pa : Nat) (pd : Int32) : Prop := pd = -1 ∨ ∃ e : Nat, e ≤ pa ∧ pd = nI e
def moO (tb : Nat → Nat) (n : Nat) (o : Except Err Cur) (pa : Nat) (pd : Int32) (pb : Nat) (pp : Int32) : Prop := match o with
  | .ok c => pb = 0 ∧ pp = -1 ∧ pa ≤ n ∧ c = cuO tb n pa pd ∧ pdO pa pd
  | .error e => pb = e.1 ∧ pp = nI e.2 ∧ 1 ≤ e.1 ∧ e.1 ≤ 5
theorem pdO_up {a b : Nat} {pd : Int32} (h : pdO a pd) (hb : a ≤ b) : pdO b pd := by
  rcases h with h | ⟨e, h1, h2⟩
  · exact Or.inl h
  · exact Or.inr ⟨e, by omega, h2⟩
theorem cuO_sk (tb : Nat → Nat) (n pa : Nat) (pd : Int32) : cuO tb n (sk tb n pa) pd = cuO tb n pa pd := by
  unfold cuO; rw [sk_sk]
theorem mo_look {tb : Nat → Nat} {n : Nat} {o : Except Err Cur} {pa : Nat} {pd : Int32} {pb : Nat} {pp : Int32} (h : moO tb n o pa pd pb pp) : moO tb n o (sk tb n pa) pd pb pp := by
  cases o with
  | error e => exact h
  | ok c => exact ⟨h.1, h.2.1, ext_le h.2.2.1, by rw [cuO_sk]; exact h.2.2.2.1, pdO_up h.2.2.2.2 (ext_ge qB tb n pa)⟩
theorem mo_ok {tb : Nat → Nat} {n : Nat} {o : Except Err Cur} {pa : Nat} {pd : Int32} {pb : Nat} {pp : Int32} (h : moO tb n o pa pd pb pp) (hb : pb = 0) : o = .ok (cuO tb n pa pd) ∧ pp = -1 ∧ pa ≤ n ∧ pdO pa pd := by
  cases o with
  | error e =>
    have h1 := h.1
    have h2 := h.2.2.1
    omega
  | ok c => exact ⟨by rw [h.2.2.2.1], h.2.1, h.2.2.1, h.2.2.2.2⟩
theorem mo_nz {tb : Nat → Nat} {n : Nat} {o : Except Err Cur} {pa : Nat} {pd : Int32} {pb : Nat} {pp : Int32} (h : moO tb n o pa pd pb pp) (hb : ¬ pb = 0) : ∃ e, o = .error e := by
  cases o with
  | error e => exact ⟨e, rfl⟩
  | ok c => exact absurd h.1 hb
theorem mo_er {tb : Nat → Nat} {n : Nat} {o : Except Err Cur} {pa : Nat} {pd : Int32} {pb : Nat} {pp : Int32} {F : Cur → Except Err Cur} {pa2 : Nat} {pd2 : Int32} (h : moO tb n o pa pd pb pp) (hb : ¬ pb = 0) : moO tb n (bindR o F) pa2 pd2 pb pp := by
  obtain ⟨e, rfl⟩ := mo_nz h hb
  exact h
theorem mo_fail {tb : Nat → Nat} {n : Nat} {o : Except Err Cur} {pa : Nat} {pd : Int32} {pb : Nat} {pp : Int32} {F : Cur → Except Err Cur} {pa2 : Nat} {pd2 : Int32} {k w : Nat} (h : moO tb n o pa pd pb pp) (hb : pb = 0) (hk : 1 ≤ k) (hk5 : k ≤ 5) (e : F (cuO tb n pa pd) = .error (k, w)) : moO tb n (bindR o F) pa2 pd2 k (nI w) := by
  rw [(mo_ok h hb).1]
  show moO tb n (F (cuO tb n pa pd)) pa2 pd2 k (nI w)
  rw [e]
  exact ⟨rfl, rfl, hk, hk5⟩
theorem qLD {c : Nat} (h : qD c = true) : qL c = false := by
  have := qD_t.mp h
  exact qL_f (by omega)
theorem mo_nxW {tb : Nat → Nat} {n : Nat} {o : Except Err Cur} {pa : Nat} {pd : Int32} {pb : Nat} {pp : Int32} {F : Cur → Except Err Cur} {x : Nat} (h : moO tb n o pa pd pb pp) (hb : pb = 0) (hn : n ≤ 1600) (hx : x = te tb n (sk tb n pa)) (hw : (qL (tb (sk tb n pa)) || qD (tb (sk tb n pa))) = true) (hl : sk tb n pa < n) (e : F (cuO tb n pa pd) = .ok (nx tb n (sk tb n pa))) : moO tb n (bindR o F) x (nI x) pb pp := by
  obtain ⟨h1, h2, h3, h4⟩ := mo_ok h hb
  rw [h1]
  show moO tb n (F (cuO tb n pa pd)) x (nI x) pb pp
  rw [e]
  have hle : x ≤ n := by rw [hx]; exact te_le hl
  refine ⟨hb, h2, hle, ?_, Or.inr ⟨x, Nat.le_refl _, rfl⟩⟩
  unfold nx cuO
  rw [hw, Bool.true_and, ← hx]
  have hs : sk tb n x ≤ n := ext_le hle
  congr 1
  rw [Bool.eq_iff_iff, beq_iff_eq, decide_eq_true_iff, nI_eq (by omega) (by omega)]
  exact ⟨fun q => q.symm, fun q => q.symm⟩
theorem mo_nxS {tb : Nat → Nat} {n : Nat} {o : Except Err Cur} {pa : Nat} {pd : Int32} {pb : Nat} {pp : Int32} {F : Cur → Except Err Cur} {x : Nat} (h : moO tb n o pa pd pb pp) (hb : pb = 0) (hn : n ≤ 1600) (hx : x = sk tb n pa + 1) (h1 : qL (tb (sk tb n pa)) = false) (h2 : qD (tb (sk tb n pa)) = false) (hl : sk tb n pa < n) (e : F (cuO tb n pa pd) = .ok (nx tb n (sk tb n pa))) : moO tb n (bindR o F) x pd pb pp := by
  obtain ⟨g1, g2, g3, g4⟩ := mo_ok h hb
  rw [g1]
  show moO tb n (F (cuO tb n pa pd)) x pd pb pp
  rw [e]
  have ht : te tb n (sk tb n pa) = x := by unfold te; rw [h1, if_neg (by decide), h2, if_neg (by decide), hx]
  have hle : x ≤ n := by omega
  have hs := ext_ge qB tb n x
  have hs2 : sk tb n x ≤ n := ext_le hle
  have hp := ext_ge qB tb n pa
  refine ⟨hb, g2, hle, ?_, pdO_up g4 (by rw [hx]; unfold sk; omega)⟩
  unfold nx cuO
  rw [h1, h2, ht]
  show (sk tb n x, false) = _
  congr 1
  symm
  rw [decide_eq_false_iff_not]
  rcases g4 with g4 | ⟨e1, g5, g6⟩
  · rw [g4]
    intro q
    have := i_eq q
    rw [i_m1, i_nI (by omega)] at this
    omega
  · rw [g6]
    intro q
    have := (nI_eq (by omega) (by omega)).mp q
    unfold sk at *
    omega
theorem isW_no {tb : Nat → Nat} {n : Nat} {w : List Nat} {c : Cur} (h : ¬ (c.1 < n ∧ qL (tb c.1) = true)) : isW tb n w c = false := by
  cases q : isW tb n w c with
  | false => rfl
  | true => exact absurd ⟨isW_lt q, (isW_qL q).1⟩ h
theorem isW_fl {tb : Nat → Nat} {n pa : Nat} {pd : Int32} {w : List Nat} (h : pd = nI (sk tb n pa)) : isW tb n w (cuO tb n pa pd) = false := by
  cases q : isW tb n w (cuO tb n pa pd) with
  | false => rfl
  | true =>
    have := (isW_qL q).2.2
    unfold cuO at this
    rw [h] at this
    simp at this
theorem isW_len {tb : Nat → Nat} {n : Nat} {w : List Nat} {c : Cur} {k : Nat} (hk : k = ext qL tb n c.1) (h : ¬ k - c.1 = w.length) : isW tb n w c = false := by
  cases q : isW tb n w c with
  | false => rfl
  | true =>
    have := (isW_qL q).2.1
    rw [← this, wl_len] at h
    exact absurd (by rw [hk]) h
theorem wl_get {tb : Nat → Nat} {n s i : Nat} (h : i < ext qL tb n s - s) : (wl tb n s).getD i 0 = tb (s + i) := by
  unfold wl
  rw [List.getD_eq_getElem?_getD, List.getElem?_map, List.getElem?_eq_getElem (by rw [List.length_range]; exact h), List.getElem_range]; rfl
theorem isW_ne {tb : Nat → Nat} {n : Nat} {w : List Nat} {c : Cur} {k i : Nat} (hk : k = ext qL tb n c.1) (hl : k - c.1 = w.length) (hi : i < w.length) (h : ¬ tb (c.1 + i) = w.getD i 0) : isW tb n w c = false := by
  cases q : isW tb n w c with
  | false => rfl
  | true =>
    have := (isW_qL q).2.1
    exact absurd (by rw [← this, wl_get (by rw [← hk]; omega)]) h
theorem isW_yes {tb : Nat → Nat} {n : Nat} {w : List Nat} {c : Cur} {k : Nat} (h1 : c.1 < n) (h2 : qL (tb c.1) = true) (h3 : c.2 = false) (hk : k = ext qL tb n c.1) (hl : k - c.1 = w.length) (h : ∀ i, i < w.length → tb (c.1 + i) = w.getD i 0) : isW tb n w c = true := by
  unfold isW
  rw [Bool.and_eq_true, Bool.and_eq_true, Bool.and_eq_true, decide_eq_true_iff, h3, h2, beq_iff_eq]
  refine ⟨⟨⟨h1, rfl⟩, rfl⟩, List.ext_getElem? (fun i => ?_)⟩
  by_cases q : i < w.length
  · have a : i < (wl tb n c.1).length := by rw [wl_len, ← hk]; omega
    have b := wl_get (tb := tb) (n := n) (s := c.1) (i := i) (by rw [← hk]; omega)
    have d := h i q
    rw [List.getD_eq_getElem?_getD, List.getElem?_eq_getElem a, Option.getD_some] at b
    rw [List.getD_eq_getElem?_getD, List.getElem?_eq_getElem q, Option.getD_some] at d
    rw [List.getElem?_eq_getElem a, List.getElem?_eq_getElem q, b, d]
  · rw [List.getElem?_eq_none (by rw [wl_len, ← hk]; omega), List.getElem?_eq_none (by omega)]
theorem cu_f {tb : Nat → Nat} {n pa : Nat} {pd : Int32} (h : ¬ pd = nI (sk tb n pa)) : (cuO tb n pa pd).2 = false := decide_eq_false_iff_not.mpr h
theorem lk_L {tb : Nat → Nat} {r : Int32} {a e : Nat} (hb : ∀ j, tb j ≤ 255) (h : lkOk tb r a e) : ((97 : Int32) ≤ r ∧ r ≤ 122) ↔ (a < e ∧ qL (tb a) = true) := by
  have e1 : ((97 : Int32)).toInt = 97 := by decide
  have e2 : ((122 : Int32)).toInt = 122 := by decide
  rw [Int32.le_iff_toInt_le, Int32.le_iff_toInt_le, e1, e2, qL_t]
  have := hb a
  rcases h with ⟨h1, h2⟩ | ⟨h1, h2, -, -⟩
  · rw [h1, i_m1]; omega
  · rw [h2, i_nI (by omega)]; omega
theorem lk_D {tb : Nat → Nat} {r : Int32} {a e : Nat} (hb : ∀ j, tb j ≤ 255) (h : lkOk tb r a e) : ((48 : Int32) ≤ r ∧ r ≤ 57) ↔ (a < e ∧ qD (tb a) = true) := by
  have e1 : ((48 : Int32)).toInt = 48 := by decide
  have e2 : ((57 : Int32)).toInt = 57 := by decide
  rw [Int32.le_iff_toInt_le, Int32.le_iff_toInt_le, e1, e2, qD_t]
  have := hb a
  rcases h with ⟨h1, h2⟩ | ⟨h1, h2, -, -⟩
  · rw [h1, i_m1]; omega
  · rw [h2, i_nI (by omega)]; omega
theorem lk_S {tb : Nat → Nat} {r : Int32} {a e w : Nat} (hb : ∀ j, tb j ≤ 255) (hw : w ≤ 255) (h : lkOk tb r a e) : r = nI w ↔ (a < e ∧ tb a = w) := by
  have := hb a
  rcases h with ⟨h1, h2⟩ | ⟨h1, h2, -, -⟩
  · refine ⟨fun q => ?_, fun q => by omega⟩
    have := i_eq (h1.symm.trans q)
    rw [i_m1, i_nI (by omega)] at this
    omega
  · rw [h2, nI_eq (by omega) (by omega)]
    exact ⟨fun q => ⟨h1, q⟩, fun q => q.2⟩
theorem isS_cu {tb : Nat → Nat} {n pa b : Nat} {pd : Int32} : isS tb n b (cuO tb n pa pd) = true ↔ (sk tb n pa < n ∧ tb (sk tb n pa) = b) := by
  unfold isS
  rw [Bool.and_eq_true, decide_eq_true_iff, beq_iff_eq]
  exact Iff.rfl
theorem mo_takeW {tb : Nat → Nat} {n : Nat} {o : Except Err Cur} {pa : Nat} {pd : Int32} {pb : Nat} {pp : Int32} {w : List Nat} {F : Cur → Except Err Cur} {x : Nat} (h : moO tb n o pa pd pb pp) (hb : pb = 0) (hn : n ≤ 1600) (hw : isW tb n w (cuO tb n pa pd) = true) (hx : x = sk tb n pa + w.length) (e : F (cuO tb n pa pd) = .ok (nx tb n (sk tb n pa))) : moO tb n (bindR o F) x (nI x) pb pp := by
  have a := isW_qL hw
  have b : qL (tb (sk tb n pa)) = true := a.1
  have d : wl tb n (sk tb n pa) = w := a.2.1
  refine mo_nxW h hb hn ?_ (by rw [b]; rfl) (isW_lt hw) e
  rw [te_w b, hx, ← d, wl_len]
  have := ext_ge qL tb n (sk tb n pa)
  omega
theorem mo_asks1 {tb : Nat → Nat} {n : Nat} {w : List Nat} {c : Cur} (h : isW tb n w c = false) : wordP tb n w c = .error (1, c.1) := by
  unfold wordP; rw [h, if_neg (by decide)]
theorem mo_asks2 {tb : Nat → Nat} {n : Nat} {w : List Nat} {c : Cur} (h : isW tb n w c = true) : wordP tb n w c = .ok (nx tb n c.1) := by
  unfold wordP; rw [if_pos h]
theorem mo_takeS {tb : Nat → Nat} {n b : Nat} {o : Except Err Cur} {pa : Nat} {pd : Int32} {pb : Nat} {pp : Int32} {F : Cur → Except Err Cur} {x : Nat} (h : moO tb n o pa pd pb pp) (hb : pb = 0) (hn : n ≤ 1600) (hs : sk tb n pa < n ∧ tb (sk tb n pa) = b) (h9 : b < 256 ∧ ¬ (97 ≤ b ∧ b ≤ 122) ∧ ¬ (48 ≤ b ∧ b ≤ 57)) (hx : x = sk tb n pa + 1) (e : F (cuO tb n pa pd) = .ok (nx tb n (sk tb n pa))) : moO tb n (bindR o F) x pd pb pp :=
  mo_nxS h hb hn hx (qL_f (by rw [hs.2]; exact h9.2.1)) (qD_f (by rw [hs.2]; exact h9.2.2)) hs.1 e
theorem nm_no {tb : Nat → Nat} {n lo hi : Nat} {c : Cur} (h : ¬ (c.1 < n ∧ qD (tb c.1) = true ∧ c.2 = false)) : nmF tb n lo hi c = .error (1, c.1) := by
  unfold nmF numP; rw [if_neg h]; rfl
theorem nm_many {tb : Nat → Nat} {n lo hi : Nat} {c : Cur} (h : c.1 < n ∧ qD (tb c.1) = true ∧ c.2 = false) (h4 : 4 < ext qD tb n c.1 - c.1) : nmF tb n lo hi c = .error (1, c.1 + 4) := by
  unfold nmF numP; rw [if_pos h, if_pos h4]; rfl
theorem nm_out {tb : Nat → Nat} {n lo hi v : Nat} {c : Cur} (h : c.1 < n ∧ qD (tb c.1) = true ∧ c.2 = false) (h4 : ¬ 4 < ext qD tb n c.1 - c.1) (hv : v = vd tb c.1 (ext qD tb n c.1 - c.1)) (ho : ¬ (lo ≤ v ∧ v ≤ hi)) : nmF tb n lo hi c = .error (2, c.1) := by
  unfold nmF numP; rw [if_pos h, if_neg h4, ← hv, if_pos (by omega)]; rfl
theorem nm_ok {tb : Nat → Nat} {n lo hi v : Nat} {c : Cur} (h : c.1 < n ∧ qD (tb c.1) = true ∧ c.2 = false) (h4 : ¬ 4 < ext qD tb n c.1 - c.1) (hv : v = vd tb c.1 (ext qD tb n c.1 - c.1)) (ho : lo ≤ v ∧ v ≤ hi) : numP tb n lo hi c = .ok (v, nx tb n c.1) := by
  unfold numP; rw [if_pos h, if_neg h4, ← hv, if_neg (by omega)]
theorem nm_okF {tb : Nat → Nat} {n lo hi v : Nat} {c : Cur} (h : numP tb n lo hi c = .ok (v, nx tb n c.1)) : nmF tb n lo hi c = .ok (nx tb n c.1) := by
  unfold nmF; rw [h]; rfl
theorem nv_of {tb : Nat → Nat} {n lo hi v : Nat} {o : Except Err Cur} {pa : Nat} {pd : Int32} {pb : Nat} {pp : Int32} (h : moO tb n o pa pd pb pp) (hb : pb = 0) (hq : numP tb n lo hi (cuO tb n pa pd) = .ok (v, nx tb n (sk tb n pa))) : nvO tb n lo hi o v := by
  intro c r hc hr
  rw [(mo_ok h hb).1] at hc
  cases hc
  rw [hq] at hr
  cases hr
  rfl
theorem nv_er {tb : Nat → Nat} {n lo hi v : Nat} {o : Except Err Cur} {pa : Nat} {pd : Int32} {pb : Nat} {pp : Int32} (h : moO tb n o pa pd pb pp) (hb : ¬ pb = 0) : nvO tb n lo hi o v := by
  intro c r hc hr
  obtain ⟨e, rfl⟩ := mo_nz h hb
  cases hc
theorem nv_bad {tb : Nat → Nat} {n lo hi v : Nat} {o : Except Err Cur} {pa : Nat} {pd : Int32} {pb : Nat} {pp : Int32} {e : Err} (h : moO tb n o pa pd pb pp) (hb : pb = 0) (hq : nmF tb n lo hi (cuO tb n pa pd) = .error e) : nvO tb n lo hi o v := by
  intro c r hc hr
  rw [(mo_ok h hb).1] at hc
  cases hc
  unfold nmF at hq
  rw [hr] at hq
  cases hq
theorem mo_here {tb : Nat → Nat} {n : Nat} {o : Except Err Cur} {pa : Nat} {pd : Int32} {pb : Nat} {pp : Int32} {x : Nat} (h : moO tb n o pa pd pb pp) (hs : (pb = 0 ∧ x = sk tb n pa) ∨ (¬ pb = 0 ∧ x = pa)) : moO tb n o x pd pb pp := by
  rcases hs with ⟨-, rfl⟩ | ⟨-, rfl⟩
  · exact mo_look h
  · exact h
theorem mo_cu {tb : Nat → Nat} {n : Nat} {o : Except Err Cur} {pa : Nat} {pd : Int32} {pb : Nat} {pp : Int32} {c : Cur} (h : moO tb n o pa pd pb pp) (e : o = .ok c) : pb = 0 ∧ c = cuO tb n pa pd := by
  subst e
  exact ⟨h.1, h.2.2.2.1⟩
theorem mo_swap {tb : Nat → Nat} {n : Nat} {o : Except Err Cur} {pa : Nat} {pd : Int32} {pb : Nat} {pp : Int32} {F G : Cur → Except Err Cur} {pa2 : Nat} {pd2 : Int32} {pb2 : Nat} {pp2 : Int32} (h : moO tb n o pa pd pb pp) (e : pb = 0 → F (cuO tb n pa pd) = G (cuO tb n pa pd)) (h2 : moO tb n (bindR o F) pa2 pd2 pb2 pp2) : moO tb n (bindR o G) pa2 pd2 pb2 pp2 := by
  cases o with
  | error e => exact h2
  | ok c =>
    have hc := mo_cu h rfl
    have e2 : bindR (.ok c) F = bindR (.ok c) G := by
      show F c = G c
      rw [hc.2]; exact e hc.1
    rw [← e2]; exact h2
theorem ext_gt {q : Nat → Bool} {tb : Nat → Nat} {n a : Nat} (h : a < n) (hq : q (tb a) = true) : a + 1 ≤ ext q tb n a := by
  rw [← ext_go h hq]; exact ext_ge q tb n (a + 1)
theorem vd_s {tb : Nat → Nat} {b z v : Nat} (hb : b ≤ z) (h : v = vd tb b (z - b)) (h1 : 48 ≤ tb z) : 10 * v + tb z - 48 = vd tb b (z + 1 - b) := by
  rw [show z + 1 - b = (z - b) + 1 by omega, vd, show b + (z - b) = z by omega, ← h]
  omega
def wlist (qt : Nat → Nat) (b : Nat) : Nat → List Nat
  | 0 => []
  | k + 1 => qt (b + k) :: wlist qt b k
theorem wlist_cg {f g : Nat → Nat} {b : Nat} : ∀ k, (∀ j, j < k → f (b + j) = g (b + j)) → wlist f b k = wlist g b k
  | 0, _ => rfl
  | k + 1, h => by rw [wlist, wlist, h k (by omega), wlist_cg k (fun j hj => h j (by omega))]
theorem wlist_push {qt : Nat → Nat} {b w v : Nat} (h : b ≤ w) : wlist (updN qt w v) b (w + 1 - b) = v :: wlist qt b (w - b) := by
  rw [show w + 1 - b = (w - b) + 1 by omega, wlist, show b + (w - b) = w by omega, updN_at, wlist_cg (g := qt) (w - b) (fun j hj => updN_ne qt (by omega))]
theorem wlist_pop {qt : Nat → Nat} {b w : Nat} (h : b + 1 ≤ w) : wlist qt b (w - b) = qt (w - 1) :: wlist qt b (w - 1 - b) := by
  rw [show w - b = (w - 1 - b) + 1 by omega, wlist, show b + (w - 1 - b) = w - 1 by omega]
theorem wlist_set {qt : Nat → Nat} {b w v : Nat} (h : b + 1 ≤ w) : wlist (updN qt (w - 1) v) b (w - b) = v :: wlist qt b (w - 1 - b) := by
  rw [wlist_pop h, updN_at, wlist_cg (g := qt) (w - 1 - b) (fun j hj => updN_ne qt (by omega))]
theorem wlist_0 {qt : Nat → Nat} {b w : Nat} (h : w ≤ b) : wlist qt b (w - b) = [] := by
  rw [show w - b = 0 by omega]; rfl
def ops : List Nat → Nat
  | [] => 0
  | o :: L => (if 20 ≤ o then 1 else 0) + ops L
def hdL (L : List Nat) : Nat := L.headD 0
def shp : List Nat → Prop
  | [] => True
  | o :: L => shp L ∧ ((o = 60 ∨ (20 ≤ o ∧ o ≤ 24)) ∨ ((o = 3 ∨ o = 4) ∧ ¬ hdL L = 60 ∧ ¬ hdL L = 3 ∧ ¬ hdL L = 4) ∨ ((o = 1 ∨ o = 2) ∧ ¬ hdL L = 60 ∧ ¬ hdL L = 3 ∧ ¬ hdL L = 4 ∧ ¬ hdL L = 1 ∧ ¬ hdL L = 2))
def ccO (qs : Nat → Nat) (m0 qn : Nat) (k : List Nat) : Prop := qn = m0 + k.length ∧ ∀ j, j < k.length → qs (m0 + j) = k.getD j 0
theorem cc_push {qs : Nat → Nat} {m0 qn v : Nat} {k : List Nat} (h : ccO qs m0 qn k) : ccO (updN qs qn v) m0 (qn + 1) (k ++ [v]) := by
  refine ⟨by rw [List.length_append, List.length_singleton, h.1]; omega, fun j hj => ?_⟩
  rw [List.length_append, List.length_singleton] at hj
  by_cases e : j = k.length
  · subst e
    rw [← h.1, updN_at, List.getD_eq_getElem?_getD, List.getElem?_append_right (by omega), Nat.sub_self]; rfl
  · rw [updN_ne qs (by rw [h.1]; omega), List.getD_eq_getElem?_getD, List.getElem?_append_left (by omega), ← List.getD_eq_getElem?_getD]
    exact h.2 j (by omega)
theorem cc_0 (qs : Nat → Nat) (m0 : Nat) : ccO qs m0 m0 [] := ⟨rfl, fun j hj => absurd hj (Nat.not_lt_zero j)⟩
def YY (X : List Nat → Nat → Cur → List Nat → Res) (d0 m0 b : Nat) (T : Res) (c : Cur) (qs : Nat → Nat) (qn : Nat) (qt : Nat → Nat) (w : Nat) (qo : Int32) : Prop := ∃ k dd, dd + ops (wlist qt b (w - b)) = d0 ∧ d0 ≤ 6 ∧ qo = nI (6 - dd) ∧ ccO qs m0 qn k ∧ shp (wlist qt b (w - b)) ∧ b ≤ w ∧ X (wlist qt b (w - b)) dd c k = T
def yO (X : List Nat → Nat → Cur → List Nat → Res) (d0 m0 b : Nat) (T : Res) (o : Except Err Cur) (qs : Nat → Nat) (qn : Nat) (qt : Nat → Nat) (w : Nat) (qo : Int32) : Prop := match o with
  | .error e => T = .error e
  | .ok c => YY X d0 m0 b T c qs qn qt w qo
abbrev Xp (tb : Nat → Nat) (n kind : Nat) : List Nat → Nat → Cur → List Nat → Res := fun L dd c k => prt tb n kind L dd c k
abbrev Xa (tb : Nat → Nat) (n kind ph : Nat) : List Nat → Nat → Cur → List Nat → Res := fun L dd c k => aft tb n kind L ph dd c k
theorem nI_sub1 {dd : Nat} (h : dd + 1 ≤ 6) : nI (6 - dd) - 1 = nI (6 - (dd + 1)) := by
  rw [npred _ (by omega)]; congr 1
theorem nI_add1 {dd : Nat} (h : 1 ≤ dd) (h6 : dd ≤ 6) : nI (6 - dd) + 1 = nI (6 - (dd - 1)) := by
  rw [show (1 : Int32) = nI 1 from rfl, nI_add]; congr 1; omega
theorem qo_6 {dd : Nat} (h : dd ≤ 6) : nI (6 - dd) = 6 ↔ dd = 0 := by
  rw [show (6 : Int32) = nI 6 from rfl, nI_eq (by omega) (by omega)]; omega
theorem y_full {tb : Nat → Nat} {n kind d0 m0 b : Nat} {T : Res} {c : Cur} {qs : Nat → Nat} {qn : Nat} {qt : Nat → Nat} {w : Nat} {qo : Int32} {e : Err} (h : YY (Xp tb n kind) d0 m0 b T c qs qn qt w qo) (hq : qo = 6) (he : ∀ L k, prt tb n kind L 0 c k = .error e) : T = .error e := by
  obtain ⟨k, dd, h1, h2, h3, h4, h5, h6, h7⟩ := h
  have h0 := (qo_6 (by omega)).mp (h3.symm.trans hq)
  subst h0
  rw [← h7]; exact he _ _
theorem y_open {tb : Nat → Nat} {n kind d0 m0 b : Nat} {T : Res} {c c2 : Cur} {qs : Nat → Nat} {qn : Nat} {qt : Nat → Nat} {w v : Nat} {qo : Int32} (h : YY (Xp tb n kind) d0 m0 b T c qs qn qt w qo) (hq : ¬ qo = 6) (hv : v = 60 ∨ v = 20 ∨ v = 21 ∨ v = 22) (he : ∀ L d k, prt tb n kind L (d + 1) c k = prt tb n kind (v :: L) d c2 k) : YY (Xp tb n kind) d0 m0 b T c2 qs qn (updN qt w v) (w + 1) (qo + 1) := by
  obtain ⟨k, dd, h1, h2, h3, h4, h5, h6, h7⟩ := h
  have h0 : 1 ≤ dd := by
    rcases Nat.eq_zero_or_pos dd with q | q
    · exact absurd (h3.trans ((qo_6 (by omega)).mpr q)) hq
    · exact q
  have hw := wlist_push (qt := qt) (v := v) h6
  refine ⟨k, dd - 1, ?_, h2, by rw [h3]; exact nI_add1 h0 (by omega), h4, ?_, by omega, ?_⟩
  · rw [hw, ops, if_pos (by omega)]; omega
  · rw [hw]; exact ⟨h5, Or.inl (by omega)⟩
  · rw [hw]
    show prt tb n kind (v :: wlist qt b (w - b)) (dd - 1) c2 k = T
    rw [← he, show dd - 1 + 1 = dd by omega]; exact h7
theorem y_name {tb : Nat → Nat} {n kind d0 m0 b v : Nat} {T : Res} {c c2 : Cur} {qs : Nat → Nat} {qn : Nat} {qt : Nat → Nat} {w : Nat} {qo : Int32} (h : YY (Xp tb n kind) d0 m0 b T c qs qn qt w qo) (he : ∀ L d k, prt tb n kind L d c k = aft tb n kind L 0 d c2 (k ++ [v])) : YY (Xa tb n kind 0) d0 m0 b T c2 (updN qs qn v) (qn + 1) qt w qo := by
  obtain ⟨k, dd, h1, h2, h3, h4, h5, h6, h7⟩ := h
  exact ⟨k ++ [v], dd, h1, h2, h3, cc_push h4, h5, h6, by rw [← h7]; exact (he _ _ _).symm⟩
theorem y_err {X : List Nat → Nat → Cur → List Nat → Res} {d0 m0 b : Nat} {T : Res} {c : Cur} {qs : Nat → Nat} {qn : Nat} {qt : Nat → Nat} {w : Nat} {qo : Int32} {e : Err} (h : YY X d0 m0 b T c qs qn qt w qo) (he : ∀ L d k, shp L → X L d c k = .error e) : T = .error e := by
  obtain ⟨k, dd, h1, h2, h3, h4, h5, h6, h7⟩ := h
  rw [← h7]; exact he _ _ _ h5
theorem y_drop {tb : Nat → Nat} {n kind d0 m0 b ph ph2 : Nat} {T : Res} {c : Cur} {qs : Nat → Nat} {qn : Nat} {qt : Nat → Nat} {w : Nat} {qo : Int32} (h : YY (Xa tb n kind ph) d0 m0 b T c qs qn qt w qo) (hw : b + 1 ≤ w) (hv : qt (w - 1) < 20) (he : ∀ L d k, shp (qt (w - 1) :: L) → aft tb n kind (qt (w - 1) :: L) ph d c k = aft tb n kind L ph2 d c (k ++ [qt (w - 1)])) : YY (Xa tb n kind ph2) d0 m0 b T c (updN qs qn (qt (w - 1))) (qn + 1) qt (w - 1) qo := by
  obtain ⟨k, dd, h1, h2, h3, h4, h5, h6, h7⟩ := h
  rw [wlist_pop hw] at h1 h5 h7
  rw [ops, if_neg (by omega)] at h1
  refine ⟨k ++ [qt (w - 1)], dd, by omega, h2, h3, cc_push h4, h5.1, by omega, ?_⟩
  rw [← h7]; exact (he _ _ _ h5).symm
theorem y_weeks {tb : Nat → Nat} {n kind d0 m0 b : Nat} {T : Res} {c : Cur} {qs : Nat → Nat} {qn : Nat} {qt : Nat → Nat} {w : Nat} {qo : Int32} (h : YY (Xa tb n kind 0) d0 m0 b T c qs qn qt w qo) (hw : b + 1 ≤ w) (hv : 60 ≤ qt (w - 1)) : YY (Xa tb n kind 0) d0 m0 b T c (updN qs qn (qt (w - 1))) (qn + 1) qt (w - 1) (qo - 1) := by
  obtain ⟨k, dd, h1, h2, h3, h4, h5, h6, h7⟩ := h
  rw [wlist_pop hw] at h1 h5 h7
  rw [ops, if_pos (by omega)] at h1
  have e : qt (w - 1) = 60 := by
    have := h5.2
    omega
  rw [e] at h7 ⊢
  refine ⟨k ++ [60], dd + 1, by omega, h2, by rw [h3]; exact nI_sub1 (by omega), cc_push h4, h5.1, by omega, ?_⟩
  rw [← h7]
  show aft tb n kind _ 0 (dd + 1) c (k ++ [60]) = aft tb n kind (60 :: _) 0 dd c k
  rw [aft_w]
def topO (qt : Nat → Nat) (b w : Nat) : Nat := if b < w then qt (w - 1) else 0
theorem hd_top {qt : Nat → Nat} {b w : Nat} : hdL (wlist qt b (w - b)) = topO qt b w := by
  unfold topO
  by_cases h : b < w
  · rw [if_pos h, wlist_pop (by omega)]; rfl
  · rw [if_neg h, wlist_0 (by omega)]; rfl
theorem hd_some {L : List Nat} {o : Nat} (h : L.head? = some o) : hdL L = o := by
  cases L with
  | nil => cases h
  | cons a L => cases h; rfl
theorem y_01 {tb : Nat → Nat} {n kind d0 m0 b : Nat} {T : Res} {c : Cur} {qs : Nat → Nat} {qn : Nat} {qt : Nat → Nat} {w : Nat} {qo : Int32} (h : YY (Xa tb n kind 0) d0 m0 b T c qs qn qt w qo) (h1 : ¬ topO qt b w = 60) (h2 : ¬ topO qt b w = 3) (h3 : ¬ topO qt b w = 4) : YY (Xa tb n kind 1) d0 m0 b T c qs qn qt w qo := by
  obtain ⟨k, dd, g1, g2, g3, g4, g5, g6, g7⟩ := h
  refine ⟨k, dd, g1, g2, g3, g4, g5, g6, ?_⟩
  rw [← g7]
  exact (aft_01 (fun o ho => by rw [← hd_some ho, hd_top]; exact ⟨h1, h2, h3⟩)).symm
theorem y_12 {tb : Nat → Nat} {n kind d0 m0 b : Nat} {T : Res} {c : Cur} {qs : Nat → Nat} {qn : Nat} {qt : Nat → Nat} {w : Nat} {qo : Int32} (h : YY (Xa tb n kind 1) d0 m0 b T c qs qn qt w qo) (h1 : ¬ topO qt b w = 1) (h2 : ¬ topO qt b w = 2) (s1 : ¬ isS tb n 42 c = true) (s2 : ¬ isS tb n 47 c = true) : YY (Xa tb n kind 2) d0 m0 b T c qs qn qt w qo := by
  obtain ⟨k, dd, g1, g2, g3, g4, g5, g6, g7⟩ := h
  refine ⟨k, dd, g1, g2, g3, g4, g5, g6, ?_⟩
  rw [← g7]
  exact (aft_12 (fun o ho => by rw [← hd_some ho, hd_top]; exact ⟨h1, h2⟩) s1 s2).symm
theorem y_d3 {tb : Nat → Nat} {n kind d0 m0 b : Nat} {T : Res} {c : Cur} {qs : Nat → Nat} {qn : Nat} {qt : Nat → Nat} {w : Nat} {qo : Int32} (h : YY (Xa tb n kind 0) d0 m0 b T c qs qn qt w qo) (hw : b + 1 ≤ w) (hv : qt (w - 1) = 3 ∨ qt (w - 1) = 4) : YY (Xa tb n kind 1) d0 m0 b T c (updN qs qn (qt (w - 1))) (qn + 1) qt (w - 1) qo :=
  y_drop h hw (by omega) (fun L d k _ => aft_m hv)
theorem y_d1 {tb : Nat → Nat} {n kind d0 m0 b : Nat} {T : Res} {c : Cur} {qs : Nat → Nat} {qn : Nat} {qt : Nat → Nat} {w : Nat} {qo : Int32} (h : YY (Xa tb n kind 1) d0 m0 b T c qs qn qt w qo) (hw : b + 1 ≤ w) (hv : qt (w - 1) = 1 ∨ qt (w - 1) = 2) (s1 : ¬ isS tb n 42 c = true) (s2 : ¬ isS tb n 47 c = true) : YY (Xa tb n kind 2) d0 m0 b T c (updN qs qn (qt (w - 1))) (qn + 1) qt (w - 1) qo :=
  y_drop h hw (by omega) (fun L d k _ => aft_a hv s1 s2)
theorem y_shp {X : List Nat → Nat → Cur → List Nat → Res} {d0 m0 b : Nat} {T : Res} {c : Cur} {qs : Nat → Nat} {qn : Nat} {qt : Nat → Nat} {w : Nat} {qo : Int32} (h : YY X d0 m0 b T c qs qn qt w qo) (hw : b + 1 ≤ w) : ((qt (w - 1) = 60 ∨ (20 ≤ qt (w - 1) ∧ qt (w - 1) ≤ 24)) ∨ ((qt (w - 1) = 3 ∨ qt (w - 1) = 4) ∧ ¬ topO qt b (w - 1) = 60 ∧ ¬ topO qt b (w - 1) = 3 ∧ ¬ topO qt b (w - 1) = 4) ∨ ((qt (w - 1) = 1 ∨ qt (w - 1) = 2) ∧ ¬ topO qt b (w - 1) = 60 ∧ ¬ topO qt b (w - 1) = 3 ∧ ¬ topO qt b (w - 1) = 4 ∧ ¬ topO qt b (w - 1) = 1 ∧ ¬ topO qt b (w - 1) = 2)) := by
  obtain ⟨k, dd, g1, g2, g3, g4, g5, g6, g7⟩ := h
  rw [wlist_pop hw] at g5
  have := g5.2
  rw [hd_top] at this
  exact this
def phO (ph t : Nat) : Prop := (ph = 0 ∧ ¬ t = 60) ∨ (ph = 1 ∧ ¬ t = 60 ∧ ¬ t = 3 ∧ ¬ t = 4) ∨ (ph = 2 ∧ ¬ t = 60 ∧ ¬ t = 3 ∧ ¬ t = 4 ∧ ¬ t = 1 ∧ ¬ t = 2)
def YD (tb : Nat → Nat) (n kind d0 m0 b : Nat) (T : Res) (c : Cur) (qs : Nat → Nat) (qn : Nat) (qt : Nat → Nat) (w : Nat) (qo : Int32) : Prop := ∃ ph, phO ph (topO qt b w) ∧ YY (Xa tb n kind ph) d0 m0 b T c qs qn qt w qo
theorem yd_drop {tb : Nat → Nat} {n kind d0 m0 b : Nat} {T : Res} {c : Cur} {qs qs2 : Nat → Nat} {qn : Nat} {qt : Nat → Nat} {w : Nat} {qo : Int32} (h : YD tb n kind d0 m0 b T c qs qn qt w qo) (hw : b + 1 ≤ w) (hb : ¬ (20 ≤ qt (w - 1) ∧ qt (w - 1) ≤ 24)) (s1 : ¬ isS tb n 42 c = true) (s2 : ¬ isS tb n 47 c = true) (e : qs2 = updN qs qn (qt (w - 1))) : YD tb n kind d0 m0 b T c qs2 (qn + 1) qt (w - 1) qo := by
  subst e
  obtain ⟨ph, hp, h⟩ := h
  have ht : topO qt b w = qt (w - 1) := by unfold topO; rw [if_pos (by omega)]
  rw [ht] at hp
  have hs := y_shp h hw
  unfold phO at hp
  by_cases c3 : qt (w - 1) = 3 ∨ qt (w - 1) = 4
  · obtain rfl : ph = 0 := by omega
    exact ⟨1, by unfold phO; omega, y_d3 h hw c3⟩
  · have h1 : YY (Xa tb n kind 1) d0 m0 b T c qs qn qt w qo := by
      rcases hp with ⟨rfl, q⟩ | ⟨rfl, q⟩ | ⟨rfl, q⟩
      · exact y_01 h (by rw [ht]; omega) (by rw [ht]; omega) (by rw [ht]; omega)
      · exact h
      · exfalso; omega
    exact ⟨2, by unfold phO; omega, y_d1 h1 hw (by omega) s1 s2⟩
theorem yd_2 {tb : Nat → Nat} {n kind d0 m0 b : Nat} {T : Res} {c : Cur} {qs : Nat → Nat} {qn : Nat} {qt : Nat → Nat} {w : Nat} {qo : Int32} (h : YD tb n kind d0 m0 b T c qs qn qt w qo) (ht : ¬ topO qt b w = 1 ∧ ¬ topO qt b w = 2 ∧ ¬ topO qt b w = 3 ∧ ¬ topO qt b w = 4) (s1 : ¬ isS tb n 42 c = true) (s2 : ¬ isS tb n 47 c = true) : YY (Xa tb n kind 2) d0 m0 b T c qs qn qt w qo := by
  obtain ⟨ph, hp, h⟩ := h
  unfold phO at hp
  have h1 : YY (Xa tb n kind 1) d0 m0 b T c qs qn qt w qo ∨ YY (Xa tb n kind 2) d0 m0 b T c qs qn qt w qo := by
    rcases hp with ⟨rfl, q⟩ | ⟨rfl, q⟩ | ⟨rfl, q⟩
    · exact Or.inl (y_01 h (by omega) (by omega) (by omega))
    · exact Or.inl h
    · exact Or.inr h
  rcases h1 with h1 | h1
  · exact y_12 h1 (by omega) (by omega) s1 s2
  · exact h1
theorem yd_0 {tb : Nat → Nat} {n kind d0 m0 b : Nat} {T : Res} {c : Cur} {qs : Nat → Nat} {qn : Nat} {qt : Nat → Nat} {w : Nat} {qo : Int32} (h : YY (Xa tb n kind 0) d0 m0 b T c qs qn qt w qo) (ht : ¬ topO qt b w = 60) : YD tb n kind d0 m0 b T c qs qn qt w qo := ⟨0, Or.inl ⟨rfl, ht⟩, h⟩
theorem y_close {tb : Nat → Nat} {n kind d0 m0 b : Nat} {T : Res} {c : Cur} {qs : Nat → Nat} {qn : Nat} {qt : Nat → Nat} {w : Nat} {qo : Int32} (h : YY (Xa tb n kind 2) d0 m0 b T c qs qn qt w qo) (hw : b + 1 ≤ w) (hv : qt (w - 1) = 20) (hs : isS tb n 41 c = true) : YY (Xa tb n kind 0) d0 m0 b T (nx tb n c.1) qs qn qt (w - 1) (qo - 1) := by
  obtain ⟨k, dd, h1, h2, h3, h4, h5, h6, h7⟩ := h
  rw [wlist_pop hw, hv] at h1 h5 h7
  rw [ops, if_pos (by omega)] at h1
  refine ⟨k, dd + 1, by omega, h2, by rw [h3]; exact nI_sub1 (by omega), h4, h5.1, by omega, ?_⟩
  rw [← h7]; exact (aft_round hs).symm
theorem y_closem {tb : Nat → Nat} {n kind d0 m0 b v : Nat} {T : Res} {c : Cur} {qs : Nat → Nat} {qn : Nat} {qt : Nat → Nat} {w : Nat} {qo : Int32} (h : YY (Xa tb n kind 2) d0 m0 b T c qs qn qt w qo) (hw : b + 1 ≤ w) (hv : qt (w - 1) = 23 ∨ qt (w - 1) = 24) (hv2 : v + 18 = qt (w - 1)) (hs : isS tb n 41 c = true) : YY (Xa tb n kind 0) d0 m0 b T (nx tb n c.1) (updN qs qn v) (qn + 1) qt (w - 1) (qo - 1) := by
  obtain ⟨k, dd, h1, h2, h3, h4, h5, h6, h7⟩ := h
  rw [wlist_pop hw] at h1 h5 h7
  rw [ops, if_pos (by omega)] at h1
  refine ⟨k ++ [v], dd + 1, by omega, h2, by rw [h3]; exact nI_sub1 (by omega), cc_push h4, h5.1, by omega, ?_⟩
  rw [← h7]
  have e := aft_pair (tb := tb) (n := n) (kind := kind) (dd := dd) (L := wlist qt b (w - 1 - b)) (k := k) hv hs
  rw [show qt (w - 1) - 18 = v by omega] at e
  exact e.symm
theorem y_sign {tb : Nat → Nat} {n kind d0 m0 b v ch ph : Nat} {T : Res} {c : Cur} {qs : Nat → Nat} {qn : Nat} {qt : Nat → Nat} {w : Nat} {qo : Int32} (h : YY (Xa tb n kind ph) d0 m0 b T c qs qn qt w qo) (hp : phO ph (topO qt b w)) (hv : (ph = 1 ∧ ((ch = 42 ∧ v = 3) ∨ (ch = 47 ∧ v = 4))) ∨ (ph = 2 ∧ ((ch = 43 ∧ v = 1) ∨ (ch = 45 ∧ v = 2)))) (hs : isS tb n ch c = true) : YY (Xp tb n kind) d0 m0 b T (nx tb n c.1) qs qn (updN qt w v) (w + 1) qo := by
  obtain ⟨k, dd, h1, h2, h3, h4, h5, h6, h7⟩ := h
  have hw := wlist_push (qt := qt) (v := v) h6
  unfold phO at hp
  refine ⟨k, dd, ?_, h2, h3, h4, ?_, by omega, ?_⟩
  · rw [hw, ops, if_neg (by omega)]; omega
  · rw [hw]
    refine ⟨h5, ?_⟩
    rw [hd_top]
    omega
  · rw [hw, ← h7]
    rcases hv with ⟨rfl, hv⟩ | ⟨rfl, hv⟩
    · exact (aft_times hv hs).symm
    · exact (aft_plus hv hs).symm
theorem y_comma {tb : Nat → Nat} {n kind d0 m0 b v : Nat} {T : Res} {c : Cur} {qs : Nat → Nat} {qn : Nat} {qt : Nat → Nat} {w : Nat} {qo : Int32} (h : YY (Xa tb n kind 2) d0 m0 b T c qs qn qt w qo) (hw : b + 1 ≤ w) (hv : qt (w - 1) = 21 ∨ qt (w - 1) = 22) (hv2 : v = qt (w - 1) + 2) (hs : isS tb n 44 c = true) : YY (Xp tb n kind) d0 m0 b T (nx tb n c.1) qs qn (updN qt (w - 1) v) w qo := by
  obtain ⟨k, dd, h1, h2, h3, h4, h5, h6, h7⟩ := h
  rw [wlist_pop hw] at h1 h5 h7
  rw [ops, if_pos (by omega)] at h1
  have hset := wlist_set (qt := qt) (v := v) hw
  refine ⟨k, dd, ?_, h2, h3, h4, ?_, h6, ?_⟩
  · rw [hset, ops, if_pos (by omega)]; omega
  · rw [hset]; exact ⟨h5.1, Or.inl (by omega)⟩
  · rw [hset, ← h7, hv2]; exact (aft_comma hv hs).symm
theorem y_bad {tb : Nat → Nat} {n kind d0 m0 b : Nat} {T : Res} {c : Cur} {qs : Nat → Nat} {qn : Nat} {qt : Nat → Nat} {w : Nat} {qo : Int32} (h : YY (Xa tb n kind 2) d0 m0 b T c qs qn qt w qo) (hw : b + 1 ≤ w) (hv : 20 ≤ qt (w - 1) ∧ qt (w - 1) ≤ 24) (h1 : ¬ isS tb n 43 c = true) (h2 : ¬ isS tb n 45 c = true) (h3 : qt (w - 1) = 20 ∨ qt (w - 1) = 23 ∨ qt (w - 1) = 24 → ¬ isS tb n 41 c = true) (h4 : qt (w - 1) = 21 ∨ qt (w - 1) = 22 → ¬ isS tb n 44 c = true) : T = .error (1, c.1) := by
  obtain ⟨k, dd, g1, g2, g3, g4, g5, g6, g7⟩ := h
  rw [wlist_pop hw] at g7
  rw [← g7]; exact aft_bad hv h1 h2 h3 h4
theorem y_end {tb : Nat → Nat} {n kind d0 m0 b : Nat} {T : Res} {c : Cur} {qs : Nat → Nat} {qn : Nat} {qt : Nat → Nat} {w : Nat} {qo : Int32} (h : YY (Xa tb n kind 2) d0 m0 b T c qs qn qt w qo) (hw : w ≤ b) (h1 : ¬ isS tb n 43 c = true) (h2 : ¬ isS tb n 45 c = true) : ∃ k, T = .ok (c, k) ∧ ccO qs m0 qn k ∧ qo = nI (6 - d0) := by
  obtain ⟨k, dd, g1, g2, g3, g4, g5, g6, g7⟩ := h
  rw [wlist_0 hw] at g7 g1
  have e : dd = d0 := by
    have : ops [] = 0 := rfl
    omega
  exact ⟨k, by rw [← g7]; exact aft_end h1 h2, g4, by rw [← e]; exact g3⟩
theorem y_start {tb : Nat → Nat} {n kind d0 w : Nat} {c : Cur} {qs : Nat → Nat} {qn : Nat} {qt : Nat → Nat} {qo : Int32} (h6 : d0 ≤ 6) (hq : qo = nI (6 - d0)) : YY (Xp tb n kind) d0 qn w (sumD tb n kind d0 c) c qs qn qt w qo :=
  ⟨[], d0, by rw [wlist_0 (Nat.le_refl w)]; rfl, h6, hq, cc_0 qs qn, by rw [wlist_0 (Nat.le_refl w)]; trivial, Nat.le_refl w, by rw [wlist_0 (Nat.le_refl w)]; exact prt_sum.symm⟩
theorem mo_two {tb : Nat → Nat} {n : Nat} {o : Except Err Cur} {pa : Nat} {pd : Int32} {pb : Nat} {pp : Int32} {a : Nat} {d : Int32} {b2 : Nat} {p2 : Int32} (h : moO tb n o pa pd pb pp) (h2 : moO tb n o a d b2 p2) (hb : pb = 0) (hb2 : b2 = 0) : cuO tb n pa pd = cuO tb n a d := by
  have e := (mo_ok h hb).1.symm.trans (mo_ok h2 hb2).1
  exact Except.ok.inj e
theorem yo_at {tb : Nat → Nat} {n : Nat} {o : Except Err Cur} {pa : Nat} {pd : Int32} {pb : Nat} {pp : Int32} {X : List Nat → Nat → Cur → List Nat → Res} {d0 m0 b : Nat} {T : Res} {qs : Nat → Nat} {qn : Nat} {qt : Nat → Nat} {w : Nat} {qo : Int32} (h : moO tb n o pa pd pb pp) (hb : pb = 0) (hy : yO X d0 m0 b T o qs qn qt w qo) : YY X d0 m0 b T (cuO tb n pa pd) qs qn qt w qo := by
  rw [(mo_ok h hb).1] at hy
  exact hy
theorem yo_e {X : List Nat → Nat → Cur → List Nat → Res} {d0 m0 b : Nat} {T : Res} {o : Except Err Cur} {qs : Nat → Nat} {qn : Nat} {qt : Nat → Nat} {w : Nat} {qo : Int32} (hy : yO X d0 m0 b T o qs qn qt w qo) : ∀ e, o = .error e → T = .error e := by
  intro e he
  subst he
  exact hy
def yA (tb : Nat → Nat) (n kn d0 m0 b : Nat) (T : Res) (o : Except Err Cur) (qs : Nat → Nat) (qn : Nat) (qt : Nat → Nat) (w : Nat) (qo : Int32) : Prop := match o with
  | .error e => T = .error e
  | .ok c => YY (Xa tb n kn 0) d0 m0 b T c qs qn qt w qo ∧ ¬ topO qt b w = 60
theorem ya_of {tb : Nat → Nat} {n kn : Nat} {o : Except Err Cur} {pa : Nat} {pd : Int32} {pb : Nat} {pp : Int32} {d0 m0 b : Nat} {T : Res} {qs : Nat → Nat} {qn : Nat} {qt : Nat → Nat} {w : Nat} {qo : Int32} (h : moO tb n o pa pd pb pp) (he : ∀ e, o = .error e → T = .error e) (hy : pb = 0 → (YY (Xa tb n kn 0) d0 m0 b T (cuO tb n pa pd) qs qn qt w qo ∧ ¬ topO qt b w = 60)) : yA tb n kn d0 m0 b T o qs qn qt w qo := by
  cases o with
  | error e => exact he e rfl
  | ok c =>
    have hc := mo_cu h rfl
    rw [hc.2]
    exact hy hc.1
def notO (tb : Nat → Nat) (n kn : Nat) (c : Cur) : Prop := ¬ isS tb n 40 c = true ∧ ¬ (isW tb n wMin c = true ∨ isW tb n wMax c = true) ∧ ¬ (kn = 2 ∧ isW tb n wWeeks c = true)
theorem y_num {tb : Nat → Nat} {n kn d0 m0 b nv : Nat} {T : Res} {c : Cur} {qs : Nat → Nat} {qn : Nat} {qt : Nat → Nat} {w : Nat} {qo : Int32} (h : YY (Xp tb n kn) d0 m0 b T c qs qn qt w qo) (hn : notO tb n kn c) (hp : partIx tb n kn c = none) (hv : nvO tb n 0 9999 (.ok c) nv) : yO (Xa tb n kn 0) d0 m0 b T (nmF tb n 0 9999 c) (updN qs qn (1000 + nv)) (qn + 1) qt w qo := by
  have key : ∀ L d k, prt tb n kn L d c k = bindR (numP tb n 0 9999 c) (fun r => aft tb n kn L 0 d r.2 (k ++ [1000 + r.1])) := fun L d k => prt_num hn.1 hn.2.1 hn.2.2 hp
  unfold nmF
  cases hq : numP tb n 0 9999 c with
  | error e =>
    exact y_err h (fun L d k _ => by show prt tb n kn L d c k = _; rw [key, hq]; rfl)
  | ok r =>
    have e := hv c r rfl hq
    subst e
    exact y_name h (fun L d k => by rw [key, hq]; rfl)
theorem y_nameK {tb : Nat → Nat} {n kn d0 m0 b j : Nat} {T : Res} {c : Cur} {qs : Nat → Nat} {qn : Nat} {qt : Nat → Nat} {w : Nat} {qo : Int32} (h : YY (Xp tb n kn) d0 m0 b T c qs qn qt w qo) (hn : notO tb n kn c) (hp : partIx tb n kn c = some j) : YY (Xa tb n kn 0) d0 m0 b T (nx tb n c.1) (updN qs qn (40 + j)) (qn + 1) qt w qo :=
  y_name h (fun L d k => prt_name hn.1 hn.2.1 hn.2.2 hp)
set_option maxHeartbeats 4000000 in
set_option maxRecDepth 100000 in
theorem c_em_fail (l : Launch) (D : va_G) (cI cJ cC cZ cS : ClassId) (mm : Nat) (g : Nat → Nat) (ta : Nat) (pa : Nat) (pe : Nat) (pd : Int32) (pb : Nat) (pp : Int32) (pf : Int32) (pg : Int32) (pn : Int32) (rt : Int32) (rn : Int32) (cd : Nat) (sn : Int32) (il : Nat) (tk : Int32) (am : Int32) (at_ : Int32) (aa : Int32) (wt : Int32) (wy : Int64) (rm : Nat) (ud : Nat) (nu : Nat) (sd : Int64) (qn : Nat) (qw : Nat) (qo : Int32) (qb : Nat) (qp : Nat) (qa : Int64) (qi : Nat) (oc : Nat) (w : Nat) (o : Int32) (hpb : pb ≤ 5) (hw : 1 ≤ w) (hw5 : w ≤ 5) : skM l yX12_fail cX12_fail 3 none 0 0 0 0 D (skT cI cJ cC cZ cS) [.ref mm, .int (nI w), .int o] [(mm, .inr (12, mo g (nI ta) (nI pa) (nI pe) pd (nI pb) pp pf pg pn rt rn (nI cd) sn (nI il) tk am at_ aa 0 0 (-1) wt wy 0 (nI rm) (nI ud) (nI nu) sd (nI qn) (nI qw) qo (nI qb) (nI qp) qa (nI qi) (nI oc)))] (skV D (skT cI cJ cC cZ cS) (fun (u : va_W) => ∃ (pb2 : Nat), ∃ (pp2 : Int32), pb2 ≤ 5 ∧ ¬ pb2 = 0 ∧ ((pb = 0 ∧ pb2 = w ∧ pp2 = o) ∨ (¬ pb = 0 ∧ pb2 = pb ∧ pp2 = pp)) ∧ u = [(mm, .inr (12, mo g (nI ta) (nI pa) (nI pe) pd (nI pb2) pp2 pf pg pn rt rn (nI cd) sn (nI il) tk am at_ aa 0 0 (-1) wt wy 0 (nI rm) (nI ud) (nI nu) sd (nI qn) (nI qw) qo (nI qb) (nI qp) qa (nI qi) (nI oc)))])) := by
  refine skM_of (by decide +kernel) (Nat.le_of_ble_eq_true rfl) ?_
  intro p e s m below meth c A ls E hP hD hl
  obtain ⟨hx, hb, hr, hml, hlocks, hin, hown, hts, hK, hA⟩ := E
  have hown : s.vm.findClass RX12 = some m.cls := hown
  have hS : va_S A s.heap s.heap [] := va_S.rf
  have hl : lv_has ls 3 [(0, .ref mm), (1, .int (nI w)), (2, .int o)] := hl
  refine lv_aload_n hx hb dX12_fail_0 rfl (lv_at hl 0 rfl) ?_
  refine sk_get (v := .int (nI pb)) (C := RX12) (T := TX12) (N := 92) hx hb hts inlX12 hown hK hP 0 rfl rfl 5 (by decide) w_5_160 rfl dX12_fail_1 ?_
  refine lv_if_eq (tgt := 8) hx hb dX12_fail_4 (by decide) (fun c_1 => ?_) (fun c_1 => ?_)
  · have c_1 : pb = 0 := (neq pb 0 (by omega) (by omega)).mp c_1
    refine lv_aload_n hx hb dX12_fail_8 rfl (lv_at hl 0 rfl) ?_
    refine lv_iload_n hx hb dX12_fail_9 rfl (lv_at hl 1 rfl) ?_
    refine sk_put (ws' := [(mm, .inr (12, mo g (nI ta) (nI pa) (nI pe) pd (nI w) pp pf pg pn rt rn (nI cd) sn (nI il) tk am at_ aa 0 0 (-1) wt wy 0 (nI rm) (nI ud) (nI nu) sd (nI qn) (nI qw) qo (nI qb) (nI qp) qa (nI qi) (nI oc)))]) (C := RX12) (T := TX12) (N := 92) (v := .int (nI w)) hx hb hts inlX12 tyX12 tyX12_ok nmX12 hown hK hP hD hS 0 rfl rfl 5 (by decide) w_5_160 rfl rfl rfl (Nat.le_of_ble_eq_true rfl) rfl dX12_fail_10 (fun H locs hP hD hS => ?_)
    refine lv_aload_n hx hb dX12_fail_13 rfl (lv_at hl 0 rfl) ?_
    refine lv_iload_n hx hb dX12_fail_14 rfl (lv_at hl 2 rfl) ?_
    refine sk_put (ws' := [(mm, .inr (12, mo g (nI ta) (nI pa) (nI pe) pd (nI w) o pf pg pn rt rn (nI cd) sn (nI il) tk am at_ aa 0 0 (-1) wt wy 0 (nI rm) (nI ud) (nI nu) sd (nI qn) (nI qw) qo (nI qb) (nI qp) qa (nI qi) (nI oc)))]) (C := RX12) (T := TX12) (N := 92) (v := .int o) hx hb hts inlX12 tyX12 tyX12_ok nmX12 hown hK hP hD hS 0 rfl rfl 6 (by decide) w_5_161 rfl rfl rfl (Nat.le_of_ble_eq_true rfl) rfl dX12_fail_15 (fun H locs hP hD hS => ?_)
    exact sk_vret hx hb hr hlocks hK hP hD hS (⟨w, o, by omega, by omega, Or.inl ⟨c_1, rfl, rfl⟩, rfl⟩) (Nat.le_of_ble_eq_true rfl) (Nat.le_of_ble_eq_true rfl) dX12_fail_18
  · have c_1 : ¬ (pb = 0) := fun h => c_1 ((neq pb 0 (by omega) (by omega)).mpr h)
    exact sk_vret hx hb hr hlocks hK hP hD hS (⟨pb, pp, by omega, by omega, Or.inr ⟨c_1, rfl, rfl⟩, rfl⟩) (Nat.le_of_ble_eq_true rfl) (Nat.le_of_ble_eq_true rfl) dX12_fail_7
set_option maxHeartbeats 4000000 in
set_option maxRecDepth 100000 in
theorem c_em_look (l : Launch) (D : va_G) (cI cJ cC cZ cS : ClassId) (mm : Nat) (g : Nat → Nat) (ta : Nat) (pa : Nat) (pe : Nat) (pd : Int32) (pb : Nat) (pp : Int32) (pf : Int32) (pg : Int32) (pn : Int32) (rt : Int32) (rn : Int32) (cd : Nat) (sn : Int32) (il : Nat) (tk : Int32) (am : Int32) (at_ : Int32) (aa : Int32) (wt : Int32) (wy : Int64) (rm : Nat) (ud : Nat) (nu : Nat) (sd : Int64) (qn : Nat) (qw : Nat) (qo : Int32) (qb : Nat) (qp : Nat) (qa : Int64) (qi : Nat) (oc : Nat) (tb : Nat → Nat) (hpa : pa ≤ pe) (hpe : pe ≤ 1600) (htb : ∀ j, tb j ≤ 255) : skM l yX12_look cX12_look 1 (some .int) 0 0 0 0 D (skT cI cJ cC cZ cS) [.ref mm] [(mm, .inr (12, mo g (nI ta) (nI pa) (nI pe) pd (nI pb) pp pf pg pn rt rn (nI cd) sn (nI il) tk am at_ aa 0 0 (-1) wt wy 0 (nI rm) (nI ud) (nI nu) sd (nI qn) (nI qw) qo (nI qb) (nI qp) qa (nI qi) (nI oc))), (g 0, .inl (cI, 1600, .inl (fun j => nI (tb j))))] (skI D (skT cI cJ cC cZ cS) (fun (r : Int32) (u : va_W) => ∃ (pa2 : Nat), pa ≤ pa2 ∧ pa2 ≤ pe ∧ lkOk tb r pa2 pe ∧ stay tb pe pa pa2 ∧ pa2 = sk tb pe pa ∧ u = [(mm, .inr (12, mo g (nI ta) (nI pa2) (nI pe) pd (nI pb) pp pf pg pn rt rn (nI cd) sn (nI il) tk am at_ aa 0 0 (-1) wt wy 0 (nI rm) (nI ud) (nI nu) sd (nI qn) (nI qw) qo (nI qb) (nI qp) qa (nI qi) (nI oc))), (g 0, .inl (cI, 1600, .inl (fun j => nI (tb j))))])) := by
  refine skM_of (by decide +kernel) (Nat.le_of_ble_eq_true rfl) ?_
  intro p e s m below meth c A ls E hP hD hl
  obtain ⟨hx, hb, hr, hml, hlocks, hin, hown, hts, hK, hA⟩ := E
  have hown : s.vm.findClass RX12 = some m.cls := hown
  have hS : va_S A s.heap s.heap [] := va_S.rf
  have hl : lv_has ls 1 [(0, .ref mm)] := hl
  have lp_1 : ∀ (n_2 : Nat) (za : Nat) (H : Heap) (locs : List Loc) (ls : Array Slot), pe - za < n_2 → (pa ≤ za) → (za ≤ pe) → (stay tb pe pa za) → (ext qB tb pe za = ext qB tb pe pa) → va_P D vwCl [(mm, .inr (12, mo g (nI ta) (nI za) (nI pe) pd (nI pb) pp pf pg pn rt rn (nI cd) sn (nI il) tk am at_ aa 0 0 (-1) wt wy 0 (nI rm) (nI ud) (nI nu) sd (nI qn) (nI qw) qo (nI qb) (nI qp) qa (nI qi) (nI oc))), (g 0, .inl (cI, 1600, .inl (fun j => nI (tb j))))] H → va_D A [(mm, .inr (12, mo g (nI ta) (nI za) (nI pe) pd (nI pb) pp pf pg pn rt rn (nI cd) sn (nI il) tk am at_ aa 0 0 (-1) wt wy 0 (nI rm) (nI ud) (nI nu) sd (nI qn) (nI qw) qo (nI qb) (nI qp) qa (nI qi) (nI oc))), (g 0, .inl (cI, 1600, .inl (fun j => nI (tb j))))] → va_S A s.heap H locs → lv_has ls 1 [(0, .ref mm)] → W p l e { frames := 0, cells := 0, slots := 0, locals := 0 } s m ([.ref mm] : List Value).toArray below meth c H locs 0 0 (MQ below (skI D (skT cI cJ cC cZ cS) (fun (r : Int32) (u : va_W) => ∃ (pa2 : Nat), pa ≤ pa2 ∧ pa2 ≤ pe ∧ lkOk tb r pa2 pe ∧ stay tb pe pa pa2 ∧ pa2 = sk tb pe pa ∧ u = [(mm, .inr (12, mo g (nI ta) (nI pa2) (nI pe) pd (nI pb) pp pf pg pn rt rn (nI cd) sn (nI il) tk am at_ aa 0 0 (-1) wt wy 0 (nI rm) (nI ud) (nI nu) sd (nI qn) (nI qw) qo (nI qb) (nI qp) qa (nI qi) (nI oc))), (g 0, .inl (cI, 1600, .inl (fun j => nI (tb j))))]) A) ([.ref mm] : List Value).toArray s 0 0 A) (F0 m 0 ls []) := by
    intro n_2
    induction n_2 with
    | zero => intro za H locs ls hm; exact absurd hm (Nat.not_lt_zero _)
    | succ n_2 ih_lp_1 =>
      intro za H locs ls hm hza hza2 hsty hze hP hD hS hl
      refine lv_aload_n hx hb dX12_look_0 rfl (lv_at hl 0 rfl) ?_
      refine sk_get (v := .int (nI za)) (C := RX12) (T := TX12) (N := 92) hx hb hts inlX12 hown hK hP 0 rfl rfl 2 (by decide) w_5_157 rfl dX12_look_1 ?_
      refine lv_aload_n hx hb dX12_look_4 rfl (lv_at hl 0 rfl) ?_
      refine sk_get (v := .int (nI pe)) (C := RX12) (T := TX12) (N := 92) hx hb hts inlX12 hown hK hP 0 rfl rfl 3 (by decide) w_5_158 rfl dX12_look_5 ?_
      refine lv_icmp_ge (tgt := 52) hx hb dX12_look_8 (by decide) (fun c_3 => ?_) (fun c_3 => ?_)
      · have c_3 : pe ≤ za := (nle pe za (by omega) (by omega)).mp c_3
        refine lv_aload_n hx hb dX12_look_52 rfl (lv_at hl 0 rfl) ?_
        refine sk_get (v := .int (nI za)) (C := RX12) (T := TX12) (N := 92) hx hb hts inlX12 hown hK hP 0 rfl rfl 2 (by decide) w_5_157 rfl dX12_look_53 ?_
        refine lv_aload_n hx hb dX12_look_56 rfl (lv_at hl 0 rfl) ?_
        refine sk_get (v := .int (nI pe)) (C := RX12) (T := TX12) (N := 92) hx hb hts inlX12 hown hK hP 0 rfl rfl 3 (by decide) w_5_158 rfl dX12_look_57 ?_
        refine lv_icmp_ge (tgt := 75) hx hb dX12_look_60 (by decide) (fun c_4 => ?_) (fun c_4 => ?_)
        · have c_4 : pe ≤ za := (nle pe za (by omega) (by omega)).mp c_4
          refine lv_iconst (v := (-1)) hx hb dX12_look_75 (by decide) ?_
          exact sk_iret hx hb hr rfl hlocks hK hP hD hS (⟨za, by omega, by omega, (Or.inl ⟨rfl, by omega⟩), hsty, ext_fin hze (by rw [qB_t]; omega), rfl⟩) (Nat.le_of_ble_eq_true rfl) (Nat.le_of_ble_eq_true rfl) dX12_look_76
        · have c_4 : ¬ (pe ≤ za) := fun h => c_4 ((nle pe za (by omega) (by omega)).mpr h)
          refine lv_aload_n hx hb dX12_look_63 rfl (lv_at hl 0 rfl) ?_
          refine sk_get (v := .ref (g 0)) (C := RX12) (T := TX12) (N := 92) hx hb hts inlX12 hown hK hP 0 rfl rfl 0 (by decide) w_5_155 rfl dX12_look_64 ?_
          refine lv_aload_n hx hb dX12_look_67 rfl (lv_at hl 0 rfl) ?_
          refine sk_get (v := .int (nI za)) (C := RX12) (T := TX12) (N := 92) hx hb hts inlX12 hown hK hP 0 rfl rfl 2 (by decide) w_5_157 rfl dX12_look_68 ?_
          refine va_iald hx hb hK.1 hP 1 0 rfl rfl (vin za 1600 (by omega) (by omega)) dX12_look_71 ?_
          refine sk_top (nI (tb za)) (nrd tb za (by omega)) ?_
          have hb_5 := htb za
          refine lv_goto (tgt := 76) hx hb dX12_look_72 (by decide) ?_
          exact sk_iret hx hb hr rfl hlocks hK hP hD hS (⟨za, by omega, by omega, (Or.inr ⟨by omega, rfl, by omega, by omega⟩), hsty, ext_fin hze (by rw [qB_t]; omega), rfl⟩) (Nat.le_of_ble_eq_true rfl) (Nat.le_of_ble_eq_true rfl) dX12_look_76
      · have c_3 : ¬ (pe ≤ za) := fun h => c_3 ((nle pe za (by omega) (by omega)).mpr h)
        refine lv_aload_n hx hb dX12_look_11 rfl (lv_at hl 0 rfl) ?_
        refine sk_get (v := .ref (g 0)) (C := RX12) (T := TX12) (N := 92) hx hb hts inlX12 hown hK hP 0 rfl rfl 0 (by decide) w_5_155 rfl dX12_look_12 ?_
        refine lv_aload_n hx hb dX12_look_15 rfl (lv_at hl 0 rfl) ?_
        refine sk_get (v := .int (nI za)) (C := RX12) (T := TX12) (N := 92) hx hb hts inlX12 hown hK hP 0 rfl rfl 2 (by decide) w_5_157 rfl dX12_look_16 ?_
        refine va_iald hx hb hK.1 hP 1 0 rfl rfl (vin za 1600 (by omega) (by omega)) dX12_look_19 ?_
        refine sk_top (nI (tb za)) (nrd tb za (by omega)) ?_
        have hb_6 := htb za
        refine lv_bipush (v := 10) hx hb dX12_look_20 (by decide) ?_
        refine lv_icmp_eq (tgt := 39) hx hb dX12_look_22 (by decide) (fun c_7 => ?_) (fun c_7 => ?_)
        · have c_7 : tb za = 10 := (neq (tb za) 10 (by omega) (by omega)).mp c_7
          refine lv_aload_n hx hb dX12_look_39 rfl (lv_at hl 0 rfl) ?_
          refine lv_dup hx hb dX12_look_40 rfl ?_
          refine sk_get (v := .int (nI za)) (C := RX12) (T := TX12) (N := 92) hx hb hts inlX12 hown hK hP 0 rfl rfl 2 (by decide) w_5_157 rfl dX12_look_41 ?_
          refine lv_iconst (v := 1) hx hb dX12_look_44 (by decide) ?_
          refine lv_iadd hx hb dX12_look_45 ?_
          refine sk_top (nI (za + 1)) (nI_add za 1) ?_
          refine sk_put (ws' := [(mm, .inr (12, mo g (nI ta) (nI (za + 1)) (nI pe) pd (nI pb) pp pf pg pn rt rn (nI cd) sn (nI il) tk am at_ aa 0 0 (-1) wt wy 0 (nI rm) (nI ud) (nI nu) sd (nI qn) (nI qw) qo (nI qb) (nI qp) qa (nI qi) (nI oc))), (g 0, .inl (cI, 1600, .inl (fun j => nI (tb j))))]) (C := RX12) (T := TX12) (N := 92) (v := .int (nI (za + 1))) hx hb hts inlX12 tyX12 tyX12_ok nmX12 hown hK hP hD hS 0 rfl rfl 2 (by decide) w_5_157 rfl rfl rfl (Nat.le_of_ble_eq_true rfl) rfl dX12_look_46 (fun H locs hP hD hS => ?_)
          refine lv_goto (tgt := 0) hx hb dX12_look_49 (by decide) ?_
          exact ih_lp_1 (za + 1) _ _ _ (by omega) (by omega) (by omega) (stay_tr hsty (stay_bl (by omega))) (ext_nxt hze (by omega) (qB_t.mpr (by omega))) hP hD hS (lv_sub hl [0] rfl)
        · have c_7 : ¬ (tb za = 10) := fun h => c_7 ((neq (tb za) 10 (by omega) (by omega)).mpr h)
          refine lv_aload_n hx hb dX12_look_25 rfl (lv_at hl 0 rfl) ?_
          refine sk_get (v := .ref (g 0)) (C := RX12) (T := TX12) (N := 92) hx hb hts inlX12 hown hK hP 0 rfl rfl 0 (by decide) w_5_155 rfl dX12_look_26 ?_
          refine lv_aload_n hx hb dX12_look_29 rfl (lv_at hl 0 rfl) ?_
          refine sk_get (v := .int (nI za)) (C := RX12) (T := TX12) (N := 92) hx hb hts inlX12 hown hK hP 0 rfl rfl 2 (by decide) w_5_157 rfl dX12_look_30 ?_
          refine va_iald hx hb hK.1 hP 1 0 rfl rfl (vin za 1600 (by omega) (by omega)) dX12_look_33 ?_
          refine sk_top (nI (tb za)) (nrd tb za (by omega)) ?_
          have hb_8 := htb za
          refine lv_bipush (v := 32) hx hb dX12_look_34 (by decide) ?_
          refine lv_icmp_ne (tgt := 52) hx hb dX12_look_36 (by decide) (fun c_9 => ?_) (fun c_9 => ?_)
          · have c_9 : ¬ (tb za = 32) := fun h => c_9 ((neq (tb za) 32 (by omega) (by omega)).mpr h)
            refine lv_aload_n hx hb dX12_look_52 rfl (lv_at hl 0 rfl) ?_
            refine sk_get (v := .int (nI za)) (C := RX12) (T := TX12) (N := 92) hx hb hts inlX12 hown hK hP 0 rfl rfl 2 (by decide) w_5_157 rfl dX12_look_53 ?_
            refine lv_aload_n hx hb dX12_look_56 rfl (lv_at hl 0 rfl) ?_
            refine sk_get (v := .int (nI pe)) (C := RX12) (T := TX12) (N := 92) hx hb hts inlX12 hown hK hP 0 rfl rfl 3 (by decide) w_5_158 rfl dX12_look_57 ?_
            refine lv_icmp_ge (tgt := 75) hx hb dX12_look_60 (by decide) (fun c_10 => ?_) (fun c_10 => ?_)
            · have c_10 : pe ≤ za := (nle pe za (by omega) (by omega)).mp c_10
              refine lv_iconst (v := (-1)) hx hb dX12_look_75 (by decide) ?_
              exact sk_iret hx hb hr rfl hlocks hK hP hD hS (⟨za, by omega, by omega, (Or.inl ⟨rfl, by omega⟩), hsty, ext_fin hze (by rw [qB_t]; omega), rfl⟩) (Nat.le_of_ble_eq_true rfl) (Nat.le_of_ble_eq_true rfl) dX12_look_76
            · have c_10 : ¬ (pe ≤ za) := fun h => c_10 ((nle pe za (by omega) (by omega)).mpr h)
              refine lv_aload_n hx hb dX12_look_63 rfl (lv_at hl 0 rfl) ?_
              refine sk_get (v := .ref (g 0)) (C := RX12) (T := TX12) (N := 92) hx hb hts inlX12 hown hK hP 0 rfl rfl 0 (by decide) w_5_155 rfl dX12_look_64 ?_
              refine lv_aload_n hx hb dX12_look_67 rfl (lv_at hl 0 rfl) ?_
              refine sk_get (v := .int (nI za)) (C := RX12) (T := TX12) (N := 92) hx hb hts inlX12 hown hK hP 0 rfl rfl 2 (by decide) w_5_157 rfl dX12_look_68 ?_
              refine va_iald hx hb hK.1 hP 1 0 rfl rfl (vin za 1600 (by omega) (by omega)) dX12_look_71 ?_
              refine sk_top (nI (tb za)) (nrd tb za (by omega)) ?_
              have hb_11 := htb za
              refine lv_goto (tgt := 76) hx hb dX12_look_72 (by decide) ?_
              exact sk_iret hx hb hr rfl hlocks hK hP hD hS (⟨za, by omega, by omega, (Or.inr ⟨by omega, rfl, by omega, by omega⟩), hsty, ext_fin hze (by rw [qB_t]; omega), rfl⟩) (Nat.le_of_ble_eq_true rfl) (Nat.le_of_ble_eq_true rfl) dX12_look_76
          · have c_9 : tb za = 32 := (neq (tb za) 32 (by omega) (by omega)).mp c_9
            refine lv_aload_n hx hb dX12_look_39 rfl (lv_at hl 0 rfl) ?_
            refine lv_dup hx hb dX12_look_40 rfl ?_
            refine sk_get (v := .int (nI za)) (C := RX12) (T := TX12) (N := 92) hx hb hts inlX12 hown hK hP 0 rfl rfl 2 (by decide) w_5_157 rfl dX12_look_41 ?_
            refine lv_iconst (v := 1) hx hb dX12_look_44 (by decide) ?_
            refine lv_iadd hx hb dX12_look_45 ?_
            refine sk_top (nI (za + 1)) (nI_add za 1) ?_
            refine sk_put (ws' := [(mm, .inr (12, mo g (nI ta) (nI (za + 1)) (nI pe) pd (nI pb) pp pf pg pn rt rn (nI cd) sn (nI il) tk am at_ aa 0 0 (-1) wt wy 0 (nI rm) (nI ud) (nI nu) sd (nI qn) (nI qw) qo (nI qb) (nI qp) qa (nI qi) (nI oc))), (g 0, .inl (cI, 1600, .inl (fun j => nI (tb j))))]) (C := RX12) (T := TX12) (N := 92) (v := .int (nI (za + 1))) hx hb hts inlX12 tyX12 tyX12_ok nmX12 hown hK hP hD hS 0 rfl rfl 2 (by decide) w_5_157 rfl rfl rfl (Nat.le_of_ble_eq_true rfl) rfl dX12_look_46 (fun H locs hP hD hS => ?_)
            refine lv_goto (tgt := 0) hx hb dX12_look_49 (by decide) ?_
            exact ih_lp_1 (za + 1) _ _ _ (by omega) (by omega) (by omega) (stay_tr hsty (stay_bl (by omega))) (ext_nxt hze (by omega) (qB_t.mpr (by omega))) hP hD hS (lv_sub hl [0] rfl)
  exact lp_1 (pe - pa + 1) pa _ _ _ (Nat.lt_succ_self _) (by omega) (by omega) stay_rf rfl hP hD hS (lv_sub hl [0] rfl)
set_option maxHeartbeats 4000000 in
set_option maxRecDepth 100000 in
theorem c_em_isLetterX (l : Launch) (D : va_G) (cI cJ cC cZ cS : ClassId) (o : Int32)  : skM l yX12_isLetter cX12_isLetter 1 (some .boolean) 0 0 0 0 D (skT cI cJ cC cZ cS) [.int o] [] (skI D (skT cI cJ cC cZ cS) (fun (r : Int32) (u : va_W) => ∃ (b : Nat), ((b = 0 ∧ ¬ ((97 : Int32) ≤ o ∧ o ≤ 122)) ∨ (b = 1 ∧ (97 : Int32) ≤ o ∧ o ≤ 122)) ∧ r = nI b ∧ u = [])) := by
  refine skM_of (by decide +kernel) (Nat.le_of_ble_eq_true rfl) ?_
  intro p e s m below meth c A ls E hP hD hl
  obtain ⟨hx, hb, hr, hml, hlocks, hin, hown, hts, hK, hA⟩ := E
  have hown : s.vm.findClass RX12 = some m.cls := hown
  have hS : va_S A s.heap s.heap [] := va_S.rf
  have hl : lv_has ls 1 [(0, .int o)] := hl
  refine lv_iload_n hx hb dX12_isLetter_0 rfl (lv_at hl 0 rfl) ?_
  refine lv_bipush (v := 97) hx hb dX12_isLetter_1 (by decide) ?_
  refine lv_icmp_lt (tgt := 16) hx hb dX12_isLetter_3 (by decide) (fun c_1 => ?_) (fun c_1 => ?_)
  · skip
    refine lv_iconst (v := 0) hx hb dX12_isLetter_16 (by decide) ?_
    exact sk_iret hx hb hr rfl hlocks hK hP hD hS (⟨0, Or.inl ⟨rfl, fun hq => absurd c_1 (Int32.not_lt.mpr hq.1)⟩, rfl, rfl⟩) (Nat.le_of_ble_eq_true rfl) (Nat.le_of_ble_eq_true rfl) dX12_isLetter_17
  · obtain ⟨k_2, hk_2, h1k_2, rfl⟩ := nofge o 97 (by omega) c_1
    refine lv_iload_n hx hb dX12_isLetter_6 rfl (lv_at hl 0 rfl) ?_
    refine lv_bipush (v := 122) hx hb dX12_isLetter_7 (by decide) ?_
    refine lv_icmp_gt (tgt := 16) hx hb dX12_isLetter_9 (by decide) (fun c_3 => ?_) (fun c_3 => ?_)
    · have c_3 : 122 < k_2 := (nlt 122 k_2 (by omega) (by omega)).mp c_3
      refine lv_iconst (v := 0) hx hb dX12_isLetter_16 (by decide) ?_
      exact sk_iret hx hb hr rfl hlocks hK hP hD hS (⟨0, Or.inl ⟨rfl, fun hq => absurd ((nle k_2 122 (by omega) (by omega)).mp hq.2) (by omega)⟩, rfl, rfl⟩) (Nat.le_of_ble_eq_true rfl) (Nat.le_of_ble_eq_true rfl) dX12_isLetter_17
    · have c_3 : ¬ (122 < k_2) := fun h => c_3 ((nlt 122 k_2 (by omega) (by omega)).mpr h)
      refine lv_iconst (v := 1) hx hb dX12_isLetter_12 (by decide) ?_
      refine lv_goto (tgt := 17) hx hb dX12_isLetter_13 (by decide) ?_
      exact sk_iret hx hb hr rfl hlocks hK hP hD hS (⟨1, Or.inr ⟨rfl, (nle 97 k_2 (by omega) (by omega)).mpr (by omega), (nle k_2 122 (by omega) (by omega)).mpr (by omega)⟩, rfl, rfl⟩) (Nat.le_of_ble_eq_true rfl) (Nat.le_of_ble_eq_true rfl) dX12_isLetter_17
set_option maxHeartbeats 4000000 in
set_option maxRecDepth 100000 in
theorem c_em_isLetterN (l : Launch) (D : va_G) (cI cJ cC cZ cS : ClassId) (o : Nat) (ho : o ≤ 255) : skM l yX12_isLetter cX12_isLetter 1 (some .boolean) 0 0 0 0 D (skT cI cJ cC cZ cS) [.int (nI o)] [] (skI D (skT cI cJ cC cZ cS) (fun (r : Int32) (u : va_W) => ∃ (b : Nat), ((b = 0 ∧ (o < 97 ∨ 122 < o)) ∨ (b = 1 ∧ 97 ≤ o ∧ o ≤ 122)) ∧ r = nI b ∧ u = [])) := by
  refine skM_of (by decide +kernel) (Nat.le_of_ble_eq_true rfl) ?_
  intro p e s m below meth c A ls E hP hD hl
  obtain ⟨hx, hb, hr, hml, hlocks, hin, hown, hts, hK, hA⟩ := E
  have hown : s.vm.findClass RX12 = some m.cls := hown
  have hS : va_S A s.heap s.heap [] := va_S.rf
  have hl : lv_has ls 1 [(0, .int (nI o))] := hl
  refine lv_iload_n hx hb dX12_isLetter_0 rfl (lv_at hl 0 rfl) ?_
  refine lv_bipush (v := 97) hx hb dX12_isLetter_1 (by decide) ?_
  refine lv_icmp_lt (tgt := 16) hx hb dX12_isLetter_3 (by decide) (fun c_1 => ?_) (fun c_1 => ?_)
  · have c_1 : o < 97 := (nlt o 97 (by omega) (by omega)).mp c_1
    refine lv_iconst (v := 0) hx hb dX12_isLetter_16 (by decide) ?_
    exact sk_iret hx hb hr rfl hlocks hK hP hD hS (⟨0, by omega, rfl, rfl⟩) (Nat.le_of_ble_eq_true rfl) (Nat.le_of_ble_eq_true rfl) dX12_isLetter_17
  · have c_1 : ¬ (o < 97) := fun h => c_1 ((nlt o 97 (by omega) (by omega)).mpr h)
    refine lv_iload_n hx hb dX12_isLetter_6 rfl (lv_at hl 0 rfl) ?_
    refine lv_bipush (v := 122) hx hb dX12_isLetter_7 (by decide) ?_
    refine lv_icmp_gt (tgt := 16) hx hb dX12_isLetter_9 (by decide) (fun c_2 => ?_) (fun c_2 => ?_)
    · have c_2 : 122 < o := (nlt 122 o (by omega) (by omega)).mp c_2
      refine lv_iconst (v := 0) hx hb dX12_isLetter_16 (by decide) ?_
      exact sk_iret hx hb hr rfl hlocks hK hP hD hS (⟨0, by omega, rfl, rfl⟩) (Nat.le_of_ble_eq_true rfl) (Nat.le_of_ble_eq_true rfl) dX12_isLetter_17
    · have c_2 : ¬ (122 < o) := fun h => c_2 ((nlt 122 o (by omega) (by omega)).mpr h)
      refine lv_iconst (v := 1) hx hb dX12_isLetter_12 (by decide) ?_
      refine lv_goto (tgt := 17) hx hb dX12_isLetter_13 (by decide) ?_
      exact sk_iret hx hb hr rfl hlocks hK hP hD hS (⟨1, by omega, rfl, rfl⟩) (Nat.le_of_ble_eq_true rfl) (Nat.le_of_ble_eq_true rfl) dX12_isLetter_17
set_option maxHeartbeats 4000000 in
set_option maxRecDepth 100000 in
theorem c_em_isDigitX (l : Launch) (D : va_G) (cI cJ cC cZ cS : ClassId) (o : Int32)  : skM l yX12_isDigit cX12_isDigit 1 (some .boolean) 0 0 0 0 D (skT cI cJ cC cZ cS) [.int o] [] (skI D (skT cI cJ cC cZ cS) (fun (r : Int32) (u : va_W) => ∃ (b : Nat), ((b = 0 ∧ ¬ ((48 : Int32) ≤ o ∧ o ≤ 57)) ∨ (b = 1 ∧ (48 : Int32) ≤ o ∧ o ≤ 57)) ∧ r = nI b ∧ u = [])) := by
  refine skM_of (by decide +kernel) (Nat.le_of_ble_eq_true rfl) ?_
  intro p e s m below meth c A ls E hP hD hl
  obtain ⟨hx, hb, hr, hml, hlocks, hin, hown, hts, hK, hA⟩ := E
  have hown : s.vm.findClass RX12 = some m.cls := hown
  have hS : va_S A s.heap s.heap [] := va_S.rf
  have hl : lv_has ls 1 [(0, .int o)] := hl
  refine lv_iload_n hx hb dX12_isDigit_0 rfl (lv_at hl 0 rfl) ?_
  refine lv_bipush (v := 48) hx hb dX12_isDigit_1 (by decide) ?_
  refine lv_icmp_lt (tgt := 16) hx hb dX12_isDigit_3 (by decide) (fun c_1 => ?_) (fun c_1 => ?_)
  · skip
    refine lv_iconst (v := 0) hx hb dX12_isDigit_16 (by decide) ?_
    exact sk_iret hx hb hr rfl hlocks hK hP hD hS (⟨0, Or.inl ⟨rfl, fun hq => absurd c_1 (Int32.not_lt.mpr hq.1)⟩, rfl, rfl⟩) (Nat.le_of_ble_eq_true rfl) (Nat.le_of_ble_eq_true rfl) dX12_isDigit_17
  · obtain ⟨k_2, hk_2, h1k_2, rfl⟩ := nofge o 48 (by omega) c_1
    refine lv_iload_n hx hb dX12_isDigit_6 rfl (lv_at hl 0 rfl) ?_
    refine lv_bipush (v := 57) hx hb dX12_isDigit_7 (by decide) ?_
    refine lv_icmp_gt (tgt := 16) hx hb dX12_isDigit_9 (by decide) (fun c_3 => ?_) (fun c_3 => ?_)
    · have c_3 : 57 < k_2 := (nlt 57 k_2 (by omega) (by omega)).mp c_3
      refine lv_iconst (v := 0) hx hb dX12_isDigit_16 (by decide) ?_
      exact sk_iret hx hb hr rfl hlocks hK hP hD hS (⟨0, Or.inl ⟨rfl, fun hq => absurd ((nle k_2 57 (by omega) (by omega)).mp hq.2) (by omega)⟩, rfl, rfl⟩) (Nat.le_of_ble_eq_true rfl) (Nat.le_of_ble_eq_true rfl) dX12_isDigit_17
    · have c_3 : ¬ (57 < k_2) := fun h => c_3 ((nlt 57 k_2 (by omega) (by omega)).mpr h)
      refine lv_iconst (v := 1) hx hb dX12_isDigit_12 (by decide) ?_
      refine lv_goto (tgt := 17) hx hb dX12_isDigit_13 (by decide) ?_
      exact sk_iret hx hb hr rfl hlocks hK hP hD hS (⟨1, Or.inr ⟨rfl, (nle 48 k_2 (by omega) (by omega)).mpr (by omega), (nle k_2 57 (by omega) (by omega)).mpr (by omega)⟩, rfl, rfl⟩) (Nat.le_of_ble_eq_true rfl) (Nat.le_of_ble_eq_true rfl) dX12_isDigit_17
set_option maxHeartbeats 4000000 in
set_option maxRecDepth 100000 in
theorem c_em_isDigitN (l : Launch) (D : va_G) (cI cJ cC cZ cS : ClassId) (o : Nat) (ho : o ≤ 255) : skM l yX12_isDigit cX12_isDigit 1 (some .boolean) 0 0 0 0 D (skT cI cJ cC cZ cS) [.int (nI o)] [] (skI D (skT cI cJ cC cZ cS) (fun (r : Int32) (u : va_W) => ∃ (b : Nat), ((b = 0 ∧ (o < 48 ∨ 57 < o)) ∨ (b = 1 ∧ 48 ≤ o ∧ o ≤ 57)) ∧ r = nI b ∧ u = [])) := by
  refine skM_of (by decide +kernel) (Nat.le_of_ble_eq_true rfl) ?_
  intro p e s m below meth c A ls E hP hD hl
  obtain ⟨hx, hb, hr, hml, hlocks, hin, hown, hts, hK, hA⟩ := E
  have hown : s.vm.findClass RX12 = some m.cls := hown
  have hS : va_S A s.heap s.heap [] := va_S.rf
  have hl : lv_has ls 1 [(0, .int (nI o))] := hl
  refine lv_iload_n hx hb dX12_isDigit_0 rfl (lv_at hl 0 rfl) ?_
  refine lv_bipush (v := 48) hx hb dX12_isDigit_1 (by decide) ?_
  refine lv_icmp_lt (tgt := 16) hx hb dX12_isDigit_3 (by decide) (fun c_1 => ?_) (fun c_1 => ?_)
  · have c_1 : o < 48 := (nlt o 48 (by omega) (by omega)).mp c_1
    refine lv_iconst (v := 0) hx hb dX12_isDigit_16 (by decide) ?_
    exact sk_iret hx hb hr rfl hlocks hK hP hD hS (⟨0, by omega, rfl, rfl⟩) (Nat.le_of_ble_eq_true rfl) (Nat.le_of_ble_eq_true rfl) dX12_isDigit_17
  · have c_1 : ¬ (o < 48) := fun h => c_1 ((nlt o 48 (by omega) (by omega)).mpr h)
    refine lv_iload_n hx hb dX12_isDigit_6 rfl (lv_at hl 0 rfl) ?_
    refine lv_bipush (v := 57) hx hb dX12_isDigit_7 (by decide) ?_
    refine lv_icmp_gt (tgt := 16) hx hb dX12_isDigit_9 (by decide) (fun c_2 => ?_) (fun c_2 => ?_)
    · have c_2 : 57 < o := (nlt 57 o (by omega) (by omega)).mp c_2
      refine lv_iconst (v := 0) hx hb dX12_isDigit_16 (by decide) ?_
      exact sk_iret hx hb hr rfl hlocks hK hP hD hS (⟨0, by omega, rfl, rfl⟩) (Nat.le_of_ble_eq_true rfl) (Nat.le_of_ble_eq_true rfl) dX12_isDigit_17
    · have c_2 : ¬ (57 < o) := fun h => c_2 ((nlt 57 o (by omega) (by omega)).mpr h)
      refine lv_iconst (v := 1) hx hb dX12_isDigit_12 (by decide) ?_
      refine lv_goto (tgt := 17) hx hb dX12_isDigit_13 (by decide) ?_
      exact sk_iret hx hb hr rfl hlocks hK hP hD hS (⟨1, by omega, rfl, rfl⟩) (Nat.le_of_ble_eq_true rfl) (Nat.le_of_ble_eq_true rfl) dX12_isDigit_17
theorem al_s {tb : Nat → Nat} {a i : Nat} {w : List Nat} (h : ∀ j, j < i → tb (a + j) = w.getD j 0) (h1 : tb (a + i) = w.getD i 0) : ∀ j, j < i + 1 → tb (a + j) = w.getD j 0 := fun j hj => by
  by_cases e : j = i
  · subst e; exact h1
  · exact h j (by omega)
theorem cw_eq {x i : Nat} {w : List Nat} {v : Int32} (ev : v = cw w (nI i).toNatClampNeg) (hi : i < 2147483648) (hw : ∀ j, w.getD j 0 ≤ 255) (hx : x ≤ 255) : nI x = v ↔ x = w.getD i 0 := by
  rw [ev, nclamp i hi]
  have := hw i
  exact nI_eq (by omega) (by omega)
theorem wb_of {w : List Nat} (h : ∀ x ∈ w, x ≤ 255) : ∀ j, w.getD j 0 ≤ 255 := fun j => by
  rw [List.getD_eq_getElem?_getD]
  by_cases q : j < w.length
  · rw [List.getElem?_eq_getElem q]; exact h _ (List.getElem_mem q)
  · rw [List.getElem?_eq_none (by omega)]; exact Nat.zero_le _
set_option maxHeartbeats 4000000 in
set_option maxRecDepth 100000 in
theorem c_em_isHere (l : Launch) (D : va_G) (cI cJ cC cZ cS : ClassId) (mm : Nat) (g : Nat → Nat) (ta : Nat) (pa : Nat) (pe : Nat) (pd : Int32) (pb : Nat) (pp : Int32) (pf : Int32) (pg : Int32) (pn : Int32) (rt : Int32) (rn : Int32) (cd : Nat) (sn : Int32) (il : Nat) (tk : Int32) (am : Int32) (at_ : Int32) (aa : Int32) (wt : Int32) (wy : Int64) (rm : Nat) (ud : Nat) (nu : Nat) (sd : Int64) (qn : Nat) (qw : Nat) (qo : Int32) (qb : Nat) (qp : Nat) (qa : Int64) (qi : Nat) (oc : Nat) (tb : Nat → Nat) (h1 : Nat) (L : Nat) (wv : List Nat) (hpa : pa ≤ pe) (hpe : pe ≤ 1600) (hpb : pb ≤ 5) (hL : 1 ≤ L) (hL2 : L ≤ 10) (hwl : wv.length = L) (hwb : ∀ j, wv.getD j 0 ≤ 255) (htb : ∀ j, tb j ≤ 255) : skM l yX12_isHere cX12_isHere 4 (some .boolean) 1 20 0 0 D (skT cI cJ cC cZ cS) [.ref mm, .ref h1] [(mm, .inr (12, mo g (nI ta) (nI pa) (nI pe) pd (nI pb) pp pf pg pn rt rn (nI cd) sn (nI il) tk am at_ aa 0 0 (-1) wt wy 0 (nI rm) (nI ud) (nI nu) sd (nI qn) (nI qw) qo (nI qb) (nI qp) qa (nI qi) (nI oc))), (g 0, .inl (cI, 1600, .inl (fun j => nI (tb j)))), (h1, .inl (cC, L, .inl (cw wv)))] (skI D (skT cI cJ cC cZ cS) (fun (r : Int32) (u : va_W) => ∃ (b : Nat), ∃ (pa2 : Nat), pa ≤ pa2 ∧ pa2 ≤ pe ∧ stay tb pe pa pa2 ∧ (b = 0 ∨ (b = 1 ∧ pb = 0 ∧ pa2 + L ≤ pe)) ∧ ((pb = 0 ∧ pa2 = sk tb pe pa) ∨ (¬ pb = 0 ∧ pa2 = pa)) ∧ ((b = 0 ∧ (pb = 0 → isW tb pe wv (cuO tb pe pa pd) = false)) ∨ (b = 1 ∧ pb = 0 ∧ isW tb pe wv (cuO tb pe pa pd) = true)) ∧ r = nI b ∧ u = [(mm, .inr (12, mo g (nI ta) (nI pa2) (nI pe) pd (nI pb) pp pf pg pn rt rn (nI cd) sn (nI il) tk am at_ aa 0 0 (-1) wt wy 0 (nI rm) (nI ud) (nI nu) sd (nI qn) (nI qw) qo (nI qb) (nI qp) qa (nI qi) (nI oc))), (g 0, .inl (cI, 1600, .inl (fun j => nI (tb j)))), (h1, .inl (cC, L, .inl (cw wv)))])) := by
  refine skM_of (by decide +kernel) (Nat.le_of_ble_eq_true rfl) ?_
  intro p e s m below meth c A ls E hP hD hl
  obtain ⟨hx, hb, hr, hml, hlocks, hin, hown, hts, hK, hA⟩ := E
  have hown : s.vm.findClass RX12 = some m.cls := hown
  have hS : va_S A s.heap s.heap [] := va_S.rf
  have hl : lv_has ls 4 [(0, .ref mm), (1, .ref h1)] := hl
  refine lv_aload_n hx hb dX12_isHere_0 rfl (lv_at hl 0 rfl) ?_
  refine sk_get (v := .int (nI pb)) (C := RX12) (T := TX12) (N := 92) hx hb hts inlX12 hown hK hP 0 rfl rfl 5 (by decide) w_5_160 rfl dX12_isHere_1 ?_
  refine lv_if_ne (tgt := 28) hx hb dX12_isHere_4 (by decide) (fun c_1 => ?_) (fun c_1 => ?_)
  · have c_1 : ¬ (pb = 0) := fun h => c_1 ((neq pb 0 (by omega) (by omega)).mpr h)
    refine lv_iconst (v := 0) hx hb dX12_isHere_28 (by decide) ?_
    exact sk_iret hx hb hr rfl hlocks hK hP hD hS (⟨0, pa, by omega, by omega, stay_rf, by omega, (Or.inr ⟨by omega, rfl⟩), (Or.inl ⟨rfl, fun hq => absurd hq c_1⟩), rfl, rfl⟩) (Nat.le_of_ble_eq_true rfl) (Nat.le_of_ble_eq_true rfl) dX12_isHere_29
  · have c_1 : pb = 0 := (neq pb 0 (by omega) (by omega)).mp c_1
    refine lv_aload_n hx hb dX12_isHere_7 rfl (lv_at hl 0 rfl) ?_
    refine sk_Vi (q0 := 0) (n := 0) (rest := []) (wr := [(h1, .inl (cC, L, .inl (cw wv)))]) ⟨hx, hb, hml, hown, hts⟩ hl.1 (c_em_look l D cI cJ cC cZ cS mm g ta pa pe pd pb pp pf pg pn rt rn cd sn il tk am at_ aa wt wy rm ud nu sd qn qw qo qb qp qa qi oc tb (by omega) (by omega) htb) w_6_222 w_6_224 w_0_45 w_1_14 w_6_225 (by decide +kernel) ⟨⟨(Nat.le_of_ble_eq_true rfl), (Nat.le_of_ble_eq_true rfl)⟩, (Nat.le_of_ble_eq_true rfl), (Nat.le_of_ble_eq_true rfl)⟩ hK hP hD hS hA [0, 1] [2] rfl rfl (by decide +kernel) (by decide +kernel) (by decide +kernel) rfl rfl rfl rfl (Nat.le_of_ble_eq_true rfl) dX12_isHere_8 (fun r_3 u H locs hw hP hD hS => ?_)
    obtain ⟨pa2_2, hpa2_4, hpa3_5, hlk_6, hst_7, hsk_8, rfl⟩ := hw
    have hP : va_P D vwCl [(h1, .inl (cC, L, .inl (cw wv))), (mm, .inr (12, mo g (nI ta) (nI pa2_2) (nI pe) pd (nI pb) pp pf pg pn rt rn (nI cd) sn (nI il) tk am at_ aa 0 0 (-1) wt wy 0 (nI rm) (nI ud) (nI nu) sd (nI qn) (nI qw) qo (nI qb) (nI qp) qa (nI qi) (nI oc))), (g 0, .inl (cI, 1600, .inl (fun j => nI (tb j))))] H := hP
    have hD : va_D A [(h1, .inl (cC, L, .inl (cw wv))), (mm, .inr (12, mo g (nI ta) (nI pa2_2) (nI pe) pd (nI pb) pp pf pg pn rt rn (nI cd) sn (nI il) tk am at_ aa 0 0 (-1) wt wy 0 (nI rm) (nI ud) (nI nu) sd (nI qn) (nI qw) qo (nI qb) (nI qp) qa (nI qi) (nI oc))), (g 0, .inl (cI, 1600, .inl (fun j => nI (tb j))))] := hD
    refine sk_Si (n := 1) (rest := []) (wr := [(h1, .inl (cC, L, .inl (cw wv))), (mm, .inr (12, mo g (nI ta) (nI pa2_2) (nI pe) pd (nI pb) pp pf pg pn rt rn (nI cd) sn (nI il) tk am at_ aa 0 0 (-1) wt wy 0 (nI rm) (nI ud) (nI nu) sd (nI qn) (nI qw) qo (nI qb) (nI qp) qa (nI qi) (nI oc))), (g 0, .inl (cI, 1600, .inl (fun j => nI (tb j))))]) ⟨hx, hb, hml, hown, hts⟩ hl.1 (c_em_isLetterX l D cI cJ cC cZ cS r_3) w_6_226 w_6_227 w_1_14 w_6_228 (by decide +kernel) ⟨⟨(Nat.le_of_ble_eq_true rfl), (Nat.le_of_ble_eq_true rfl)⟩, (Nat.le_of_ble_eq_true rfl), (Nat.le_of_ble_eq_true rfl)⟩ hK hP hD hS hA [] [0, 1, 2] rfl rfl (by decide +kernel) (by decide +kernel) (by decide +kernel) rfl rfl (Nat.le_of_ble_eq_true rfl) dX12_isHere_11 (fun r_10 u H locs hw hP hD hS => ?_)
    obtain ⟨b_9, hb1_11, rfl, rfl⟩ := hw
    have hP : va_P D vwCl [(h1, .inl (cC, L, .inl (cw wv))), (mm, .inr (12, mo g (nI ta) (nI pa2_2) (nI pe) pd (nI pb) pp pf pg pn rt rn (nI cd) sn (nI il) tk am at_ aa 0 0 (-1) wt wy 0 (nI rm) (nI ud) (nI nu) sd (nI qn) (nI qw) qo (nI qb) (nI qp) qa (nI qi) (nI oc))), (g 0, .inl (cI, 1600, .inl (fun j => nI (tb j))))] H := hP
    have hD : va_D A [(h1, .inl (cC, L, .inl (cw wv))), (mm, .inr (12, mo g (nI ta) (nI pa2_2) (nI pe) pd (nI pb) pp pf pg pn rt rn (nI cd) sn (nI il) tk am at_ aa 0 0 (-1) wt wy 0 (nI rm) (nI ud) (nI nu) sd (nI qn) (nI qw) qo (nI qb) (nI qp) qa (nI qi) (nI oc))), (g 0, .inl (cI, 1600, .inl (fun j => nI (tb j))))] := hD
    refine lv_if_eq (tgt := 28) hx hb dX12_isHere_14 (by decide) (fun c_12 => ?_) (fun c_12 => ?_)
    · have c_12 : b_9 = 0 := (neq b_9 0 (by omega) (by omega)).mp c_12
      refine lv_iconst (v := 0) hx hb dX12_isHere_28 (by decide) ?_
      have hP := hP.sub (ws' := [(mm, .inr (12, mo g (nI ta) (nI pa2_2) (nI pe) pd (nI pb) pp pf pg pn rt rn (nI cd) sn (nI il) tk am at_ aa 0 0 (-1) wt wy 0 (nI rm) (nI ud) (nI nu) sd (nI qn) (nI qw) qo (nI qb) (nI qp) qa (nI qi) (nI oc))), (g 0, .inl (cI, 1600, .inl (fun j => nI (tb j)))), (h1, .inl (cC, L, .inl (cw wv)))]) [1, 2, 0] rfl
      have hD := hD.sub (ws' := [(mm, .inr (12, mo g (nI ta) (nI pa2_2) (nI pe) pd (nI pb) pp pf pg pn rt rn (nI cd) sn (nI il) tk am at_ aa 0 0 (-1) wt wy 0 (nI rm) (nI ud) (nI nu) sd (nI qn) (nI qw) qo (nI qb) (nI qp) qa (nI qi) (nI oc))), (g 0, .inl (cI, 1600, .inl (fun j => nI (tb j)))), (h1, .inl (cC, L, .inl (cw wv)))]) [1, 2, 0] (by decide +kernel) rfl
      exact sk_iret hx hb hr rfl hlocks hK hP hD hS (⟨0, pa2_2, by omega, by omega, hst_7, by omega, (Or.inl ⟨by omega, hsk_8⟩), (Or.inl ⟨rfl, fun _ => isW_no (fun hq => rr_0 hb1_11 (by omega) ((lk_L htb hlk_6).mpr (by rw [hsk_8]; exact hq)))⟩), rfl, rfl⟩) (Nat.le_of_ble_eq_true rfl) (Nat.le_of_ble_eq_true rfl) dX12_isHere_29
    · have c_12 : ¬ (b_9 = 0) := fun h => c_12 ((neq b_9 0 (by omega) (by omega)).mpr h)
      refine lv_aload_n hx hb dX12_isHere_17 rfl (lv_at hl 0 rfl) ?_
      refine sk_get (v := .int (nI pa2_2)) (C := RX12) (T := TX12) (N := 92) hx hb hts inlX12 hown hK hP 1 rfl rfl 2 (by decide) w_5_157 rfl dX12_isHere_18 ?_
      refine lv_aload_n hx hb dX12_isHere_21 rfl (lv_at hl 0 rfl) ?_
      refine sk_get (v := .int pd) (C := RX12) (T := TX12) (N := 92) hx hb hts inlX12 hown hK hP 1 rfl rfl 4 (by decide) w_5_159 rfl dX12_isHere_22 ?_
      refine lv_icmp_ne (tgt := 30) hx hb dX12_isHere_25 (by decide) (fun c_13 => ?_) (fun c_13 => ?_)
      · have hlq := (lk_L htb hlk_6).mp (rr_1 hb1_11 (by omega))
        have hlt : sk tb pe pa < pe := by rw [← hsk_8]; exact hlq.1
        have hql : qL (tb (sk tb pe pa)) = true := by rw [← hsk_8]; exact hlq.2
        have hnd : ¬ pd = nI (sk tb pe pa) := by rw [← hsk_8]; exact fun hq => c_13 hq.symm
        refine lv_aload_n hx hb dX12_isHere_30 rfl (lv_at hl 0 rfl) ?_
        refine sk_get (v := .int (nI pa2_2)) (C := RX12) (T := TX12) (N := 92) hx hb hts inlX12 hown hK hP 1 rfl rfl 2 (by decide) w_5_157 rfl dX12_isHere_31 ?_
        refine lv_istore_n (lv' := [(2, .int (nI pa2_2)), (0, .ref mm), (1, .ref h1)]) hx hb dX12_isHere_34 rfl hl (by decide) rfl (fun ls hl => ?_)
        have lp_14 : ∀ (n_15 : Nat) (kk : Nat) (H : Heap) (locs : List Loc) (ls : Array Slot), pe - kk < n_15 → (pa2_2 ≤ kk) → (kk ≤ pe) → (ext qL tb pe kk = ext qL tb pe pa2_2) → va_P D vwCl [(h1, .inl (cC, L, .inl (cw wv))), (mm, .inr (12, mo g (nI ta) (nI pa2_2) (nI pe) pd (nI pb) pp pf pg pn rt rn (nI cd) sn (nI il) tk am at_ aa 0 0 (-1) wt wy 0 (nI rm) (nI ud) (nI nu) sd (nI qn) (nI qw) qo (nI qb) (nI qp) qa (nI qi) (nI oc))), (g 0, .inl (cI, 1600, .inl (fun j => nI (tb j))))] H → va_D A [(h1, .inl (cC, L, .inl (cw wv))), (mm, .inr (12, mo g (nI ta) (nI pa2_2) (nI pe) pd (nI pb) pp pf pg pn rt rn (nI cd) sn (nI il) tk am at_ aa 0 0 (-1) wt wy 0 (nI rm) (nI ud) (nI nu) sd (nI qn) (nI qw) qo (nI qb) (nI qp) qa (nI qi) (nI oc))), (g 0, .inl (cI, 1600, .inl (fun j => nI (tb j))))] → va_S A s.heap H locs → lv_has ls 4 [(2, .int (nI kk)), (0, .ref mm), (1, .ref h1)] → W p l e { frames := 1, cells := 0, slots := 0, locals := 20 } s m ([.ref mm, .ref h1] : List Value).toArray below meth c H locs 0 0 (MQ below (skI D (skT cI cJ cC cZ cS) (fun (r : Int32) (u : va_W) => ∃ (b : Nat), ∃ (pa2 : Nat), pa ≤ pa2 ∧ pa2 ≤ pe ∧ stay tb pe pa pa2 ∧ (b = 0 ∨ (b = 1 ∧ pb = 0 ∧ pa2 + L ≤ pe)) ∧ ((pb = 0 ∧ pa2 = sk tb pe pa) ∨ (¬ pb = 0 ∧ pa2 = pa)) ∧ ((b = 0 ∧ (pb = 0 → isW tb pe wv (cuO tb pe pa pd) = false)) ∨ (b = 1 ∧ pb = 0 ∧ isW tb pe wv (cuO tb pe pa pd) = true)) ∧ r = nI b ∧ u = [(mm, .inr (12, mo g (nI ta) (nI pa2) (nI pe) pd (nI pb) pp pf pg pn rt rn (nI cd) sn (nI il) tk am at_ aa 0 0 (-1) wt wy 0 (nI rm) (nI ud) (nI nu) sd (nI qn) (nI qw) qo (nI qb) (nI qp) qa (nI qi) (nI oc))), (g 0, .inl (cI, 1600, .inl (fun j => nI (tb j)))), (h1, .inl (cC, L, .inl (cw wv)))]) A) ([.ref mm, .ref h1] : List Value).toArray s 0 0 A) (F0 m 35 ls []) := by
          intro n_15
          induction n_15 with
          | zero => intro kk H locs ls hm; exact absurd hm (Nat.not_lt_zero _)
          | succ n_15 ih_lp_14 =>
            intro kk H locs ls hm hkk1 hkk2 hkx hP hD hS hl
            refine lv_iload_n hx hb dX12_isHere_35 rfl (lv_at hl 0 rfl) ?_
            refine lv_aload_n hx hb dX12_isHere_36 rfl (lv_at hl 1 rfl) ?_
            refine sk_get (v := .int (nI pe)) (C := RX12) (T := TX12) (N := 92) hx hb hts inlX12 hown hK hP 1 rfl rfl 3 (by decide) w_5_158 rfl dX12_isHere_37 ?_
            refine lv_icmp_ge (tgt := 61) hx hb dX12_isHere_40 (by decide) (fun c_16 => ?_) (fun c_16 => ?_)
            · have c_16 : pe ≤ kk := (nle pe kk (by omega) (by omega)).mp c_16
              have hke2 : kk = ext qL tb pe (sk tb pe pa) := by rw [← hsk_8]; exact ext_fin hkx (by rw [qL_t]; omega)
              refine lv_iload_n hx hb dX12_isHere_61 rfl (lv_at hl 0 rfl) ?_
              refine lv_aload_n hx hb dX12_isHere_62 rfl (lv_at hl 1 rfl) ?_
              refine sk_get (v := .int (nI pa2_2)) (C := RX12) (T := TX12) (N := 92) hx hb hts inlX12 hown hK hP 1 rfl rfl 2 (by decide) w_5_157 rfl dX12_isHere_63 ?_
              refine lv_isub hx hb dX12_isHere_66 ?_
              refine sk_top (nI (kk - pa2_2)) (nsub kk pa2_2 (by omega)) ?_
              refine lv_aload_n hx hb dX12_isHere_67 rfl (lv_at hl 2 rfl) ?_
              refine va_alen (v := nI L) hx hb hK.1 hP 0 2 rfl rfl rfl dX12_isHere_68 ?_
              refine lv_icmp_eq (tgt := 74) hx hb dX12_isHere_69 (by decide) (fun c_17 => ?_) (fun c_17 => ?_)
              · have c_17 : kk - pa2_2 = L := (neq (kk - pa2_2) L (by omega) (by omega)).mp c_17
                refine lv_iconst (v := 0) hx hb dX12_isHere_74 (by decide) ?_
                refine lv_istore_n (lv' := [(3, .int 0), (2, .int (nI kk)), (0, .ref mm), (1, .ref h1)]) hx hb dX12_isHere_75 rfl hl (by decide) rfl (fun ls hl => ?_)
                have lp_18 : ∀ (n_19 : Nat) (i : Nat) (H : Heap) (locs : List Loc) (ls : Array Slot), L - i < n_19 → (i ≤ L) → (∀ j, j < i → tb (pa2_2 + j) = wv.getD j 0) → va_P D vwCl [(h1, .inl (cC, L, .inl (cw wv))), (mm, .inr (12, mo g (nI ta) (nI pa2_2) (nI pe) pd (nI pb) pp pf pg pn rt rn (nI cd) sn (nI il) tk am at_ aa 0 0 (-1) wt wy 0 (nI rm) (nI ud) (nI nu) sd (nI qn) (nI qw) qo (nI qb) (nI qp) qa (nI qi) (nI oc))), (g 0, .inl (cI, 1600, .inl (fun j => nI (tb j))))] H → va_D A [(h1, .inl (cC, L, .inl (cw wv))), (mm, .inr (12, mo g (nI ta) (nI pa2_2) (nI pe) pd (nI pb) pp pf pg pn rt rn (nI cd) sn (nI il) tk am at_ aa 0 0 (-1) wt wy 0 (nI rm) (nI ud) (nI nu) sd (nI qn) (nI qw) qo (nI qb) (nI qp) qa (nI qi) (nI oc))), (g 0, .inl (cI, 1600, .inl (fun j => nI (tb j))))] → va_S A s.heap H locs → lv_has ls 4 [(3, .int (nI i)), (2, .int (nI kk)), (0, .ref mm), (1, .ref h1)] → W p l e { frames := 1, cells := 0, slots := 0, locals := 20 } s m ([.ref mm, .ref h1] : List Value).toArray below meth c H locs 0 0 (MQ below (skI D (skT cI cJ cC cZ cS) (fun (r : Int32) (u : va_W) => ∃ (b : Nat), ∃ (pa2 : Nat), pa ≤ pa2 ∧ pa2 ≤ pe ∧ stay tb pe pa pa2 ∧ (b = 0 ∨ (b = 1 ∧ pb = 0 ∧ pa2 + L ≤ pe)) ∧ ((pb = 0 ∧ pa2 = sk tb pe pa) ∨ (¬ pb = 0 ∧ pa2 = pa)) ∧ ((b = 0 ∧ (pb = 0 → isW tb pe wv (cuO tb pe pa pd) = false)) ∨ (b = 1 ∧ pb = 0 ∧ isW tb pe wv (cuO tb pe pa pd) = true)) ∧ r = nI b ∧ u = [(mm, .inr (12, mo g (nI ta) (nI pa2) (nI pe) pd (nI pb) pp pf pg pn rt rn (nI cd) sn (nI il) tk am at_ aa 0 0 (-1) wt wy 0 (nI rm) (nI ud) (nI nu) sd (nI qn) (nI qw) qo (nI qb) (nI qp) qa (nI qi) (nI oc))), (g 0, .inl (cI, 1600, .inl (fun j => nI (tb j)))), (h1, .inl (cC, L, .inl (cw wv)))]) A) ([.ref mm, .ref h1] : List Value).toArray s 0 0 A) (F0 m 76 ls []) := by
                  intro n_19
                  induction n_19 with
                  | zero => intro i H locs ls hm; exact absurd hm (Nat.not_lt_zero _)
                  | succ n_19 ih_lp_18 =>
                    intro i H locs ls hm hi hal hP hD hS hl
                    refine lv_iload_n hx hb dX12_isHere_76 rfl (lv_at hl 0 rfl) ?_
                    refine lv_aload_n hx hb dX12_isHere_77 rfl (lv_at hl 3 rfl) ?_
                    refine va_alen (v := nI L) hx hb hK.1 hP 0 2 rfl rfl rfl dX12_isHere_78 ?_
                    refine lv_icmp_ge (tgt := 107) hx hb dX12_isHere_79 (by decide) (fun c_20 => ?_) (fun c_20 => ?_)
                    · have c_20 : L ≤ i := (nle L i (by omega) (by omega)).mp c_20
                      refine lv_iconst (v := 1) hx hb dX12_isHere_107 (by decide) ?_
                      have hP := hP.sub (ws' := [(mm, .inr (12, mo g (nI ta) (nI pa2_2) (nI pe) pd (nI pb) pp pf pg pn rt rn (nI cd) sn (nI il) tk am at_ aa 0 0 (-1) wt wy 0 (nI rm) (nI ud) (nI nu) sd (nI qn) (nI qw) qo (nI qb) (nI qp) qa (nI qi) (nI oc))), (g 0, .inl (cI, 1600, .inl (fun j => nI (tb j)))), (h1, .inl (cC, L, .inl (cw wv)))]) [1, 2, 0] rfl
                      have hD := hD.sub (ws' := [(mm, .inr (12, mo g (nI ta) (nI pa2_2) (nI pe) pd (nI pb) pp pf pg pn rt rn (nI cd) sn (nI il) tk am at_ aa 0 0 (-1) wt wy 0 (nI rm) (nI ud) (nI nu) sd (nI qn) (nI qw) qo (nI qb) (nI qp) qa (nI qi) (nI oc))), (g 0, .inl (cI, 1600, .inl (fun j => nI (tb j)))), (h1, .inl (cC, L, .inl (cw wv)))]) [1, 2, 0] (by decide +kernel) rfl
                      exact sk_iret hx hb hr rfl hlocks hK hP hD hS (⟨1, pa2_2, by omega, by omega, hst_7, by omega, (Or.inl ⟨by omega, hsk_8⟩), (Or.inr ⟨rfl, by omega, isW_yes (c := (cuO tb pe pa pd)) hlt hql (cu_f hnd) hke2 (by show kk - sk tb pe pa = wv.length; rw [← hsk_8]; omega) (fun j hj => by show tb (sk tb pe pa + j) = wv.getD j 0; rw [← hsk_8]; exact hal j (by omega))⟩), rfl, rfl⟩) (Nat.le_of_ble_eq_true rfl) (Nat.le_of_ble_eq_true rfl) dX12_isHere_108
                    · have c_20 : ¬ (L ≤ i) := fun h => c_20 ((nle L i (by omega) (by omega)).mpr h)
                      refine lv_aload_n hx hb dX12_isHere_82 rfl (lv_at hl 2 rfl) ?_
                      refine sk_get (v := .ref (g 0)) (C := RX12) (T := TX12) (N := 92) hx hb hts inlX12 hown hK hP 1 rfl rfl 0 (by decide) w_5_155 rfl dX12_isHere_83 ?_
                      refine lv_aload_n hx hb dX12_isHere_86 rfl (lv_at hl 2 rfl) ?_
                      refine sk_get (v := .int (nI pa2_2)) (C := RX12) (T := TX12) (N := 92) hx hb hts inlX12 hown hK hP 1 rfl rfl 2 (by decide) w_5_157 rfl dX12_isHere_87 ?_
                      refine lv_iload_n hx hb dX12_isHere_90 rfl (lv_at hl 0 rfl) ?_
                      refine lv_iadd hx hb dX12_isHere_91 ?_
                      refine sk_top (nI (pa2_2 + i)) (nI_add pa2_2 i) ?_
                      refine va_iald hx hb hK.1 hP 2 0 rfl rfl (vin (pa2_2 + i) 1600 (by omega) (by omega)) dX12_isHere_92 ?_
                      refine sk_top (nI (tb (pa2_2 + i))) (nrd tb (pa2_2 + i) (by omega)) ?_
                      have hb_21 := htb (pa2_2 + i)
                      refine lv_aload_n hx hb dX12_isHere_93 rfl (lv_at hl 3 rfl) ?_
                      refine lv_iload_n hx hb dX12_isHere_94 rfl (lv_at hl 0 rfl) ?_
                      refine va_cald hx hb hK.1 hP 0 2 rfl rfl (vin i L (by omega) (by omega)) dX12_isHere_95 ?_
                      refine lv_topi (fun v_22 ev_22 => ?_)
                      refine lv_icmp_eq (tgt := 101) hx hb dX12_isHere_96 (by decide) (fun c_23 => ?_) (fun c_23 => ?_)
                      · skip
                        refine lv_iinc (v := nI (i + 1)) (lv' := [(3, .int (nI (i + 1))), (2, .int (nI kk)), (0, .ref mm), (1, .ref h1)]) hx hb dX12_isHere_101 hl (k := 0) rfl (ninc i 1 (by decide)) (by decide) rfl (fun ls hl => ?_)
                        refine lv_goto (tgt := 76) hx hb dX12_isHere_104 (by decide) ?_
                        exact ih_lp_18 (i + 1) _ _ _ (by omega) (by omega) (al_s hal ((cw_eq ev_22 (by omega) hwb (by omega)).mp c_23)) hP hD hS (lv_sub hl [0, 1, 2, 3] rfl)
                      · have hne := fun hq => c_23 ((cw_eq ev_22 (by omega) hwb (by omega)).mpr hq)
                        refine lv_iconst (v := 0) hx hb dX12_isHere_99 (by decide) ?_
                        have hP := hP.sub (ws' := [(mm, .inr (12, mo g (nI ta) (nI pa2_2) (nI pe) pd (nI pb) pp pf pg pn rt rn (nI cd) sn (nI il) tk am at_ aa 0 0 (-1) wt wy 0 (nI rm) (nI ud) (nI nu) sd (nI qn) (nI qw) qo (nI qb) (nI qp) qa (nI qi) (nI oc))), (g 0, .inl (cI, 1600, .inl (fun j => nI (tb j)))), (h1, .inl (cC, L, .inl (cw wv)))]) [1, 2, 0] rfl
                        have hD := hD.sub (ws' := [(mm, .inr (12, mo g (nI ta) (nI pa2_2) (nI pe) pd (nI pb) pp pf pg pn rt rn (nI cd) sn (nI il) tk am at_ aa 0 0 (-1) wt wy 0 (nI rm) (nI ud) (nI nu) sd (nI qn) (nI qw) qo (nI qb) (nI qp) qa (nI qi) (nI oc))), (g 0, .inl (cI, 1600, .inl (fun j => nI (tb j)))), (h1, .inl (cC, L, .inl (cw wv)))]) [1, 2, 0] (by decide +kernel) rfl
                        exact sk_iret hx hb hr rfl hlocks hK hP hD hS (⟨0, pa2_2, by omega, by omega, hst_7, by omega, (Or.inl ⟨by omega, hsk_8⟩), (Or.inl ⟨rfl, fun _ => isW_ne (c := (cuO tb pe pa pd)) (i := i) hke2 (by show kk - sk tb pe pa = wv.length; rw [← hsk_8]; omega) (by omega) (by show ¬ tb (sk tb pe pa + i) = wv.getD i 0; rw [← hsk_8]; exact hne)⟩), rfl, rfl⟩) (Nat.le_of_ble_eq_true rfl) (Nat.le_of_ble_eq_true rfl) dX12_isHere_100
                exact lp_18 (L - 0 + 1) 0 _ _ _ (Nat.lt_succ_self _) (by omega) (fun j hj => absurd hj (by omega)) hP hD hS (lv_sub hl [0, 1, 2, 3] rfl)
              · have c_17 : ¬ (kk - pa2_2 = L) := fun h => c_17 ((neq (kk - pa2_2) L (by omega) (by omega)).mpr h)
                refine lv_iconst (v := 0) hx hb dX12_isHere_72 (by decide) ?_
                have hP := hP.sub (ws' := [(mm, .inr (12, mo g (nI ta) (nI pa2_2) (nI pe) pd (nI pb) pp pf pg pn rt rn (nI cd) sn (nI il) tk am at_ aa 0 0 (-1) wt wy 0 (nI rm) (nI ud) (nI nu) sd (nI qn) (nI qw) qo (nI qb) (nI qp) qa (nI qi) (nI oc))), (g 0, .inl (cI, 1600, .inl (fun j => nI (tb j)))), (h1, .inl (cC, L, .inl (cw wv)))]) [1, 2, 0] rfl
                have hD := hD.sub (ws' := [(mm, .inr (12, mo g (nI ta) (nI pa2_2) (nI pe) pd (nI pb) pp pf pg pn rt rn (nI cd) sn (nI il) tk am at_ aa 0 0 (-1) wt wy 0 (nI rm) (nI ud) (nI nu) sd (nI qn) (nI qw) qo (nI qb) (nI qp) qa (nI qi) (nI oc))), (g 0, .inl (cI, 1600, .inl (fun j => nI (tb j)))), (h1, .inl (cC, L, .inl (cw wv)))]) [1, 2, 0] (by decide +kernel) rfl
                exact sk_iret hx hb hr rfl hlocks hK hP hD hS (⟨0, pa2_2, by omega, by omega, hst_7, by omega, (Or.inl ⟨by omega, hsk_8⟩), (Or.inl ⟨rfl, fun _ => isW_len (c := (cuO tb pe pa pd)) hke2 (by show ¬ kk - sk tb pe pa = wv.length; rw [← hsk_8]; omega)⟩), rfl, rfl⟩) (Nat.le_of_ble_eq_true rfl) (Nat.le_of_ble_eq_true rfl) dX12_isHere_73
            · have c_16 : ¬ (pe ≤ kk) := fun h => c_16 ((nle pe kk (by omega) (by omega)).mpr h)
              refine lv_aload_n hx hb dX12_isHere_43 rfl (lv_at hl 1 rfl) ?_
              refine sk_get (v := .ref (g 0)) (C := RX12) (T := TX12) (N := 92) hx hb hts inlX12 hown hK hP 1 rfl rfl 0 (by decide) w_5_155 rfl dX12_isHere_44 ?_
              refine lv_iload_n hx hb dX12_isHere_47 rfl (lv_at hl 0 rfl) ?_
              refine va_iald hx hb hK.1 hP 2 0 rfl rfl (vin kk 1600 (by omega) (by omega)) dX12_isHere_48 ?_
              refine sk_top (nI (tb kk)) (nrd tb kk (by omega)) ?_
              have hb_24 := htb kk
              refine sk_Si (n := 1) (rest := []) (wr := [(h1, .inl (cC, L, .inl (cw wv))), (mm, .inr (12, mo g (nI ta) (nI pa2_2) (nI pe) pd (nI pb) pp pf pg pn rt rn (nI cd) sn (nI il) tk am at_ aa 0 0 (-1) wt wy 0 (nI rm) (nI ud) (nI nu) sd (nI qn) (nI qw) qo (nI qb) (nI qp) qa (nI qi) (nI oc))), (g 0, .inl (cI, 1600, .inl (fun j => nI (tb j))))]) ⟨hx, hb, hml, hown, hts⟩ hl.1 (c_em_isLetterN l D cI cJ cC cZ cS (tb kk) (by omega)) w_6_226 w_6_227 w_1_14 w_6_228 (by decide +kernel) ⟨⟨(Nat.le_of_ble_eq_true rfl), (Nat.le_of_ble_eq_true rfl)⟩, (Nat.le_of_ble_eq_true rfl), (Nat.le_of_ble_eq_true rfl)⟩ hK hP hD hS hA [] [0, 1, 2] rfl rfl (by decide +kernel) (by decide +kernel) (by decide +kernel) rfl rfl (Nat.le_of_ble_eq_true rfl) dX12_isHere_49 (fun r_26 u H locs hw hP hD hS => ?_)
              obtain ⟨b_25, hb1_27, rfl, rfl⟩ := hw
              have hP : va_P D vwCl [(h1, .inl (cC, L, .inl (cw wv))), (mm, .inr (12, mo g (nI ta) (nI pa2_2) (nI pe) pd (nI pb) pp pf pg pn rt rn (nI cd) sn (nI il) tk am at_ aa 0 0 (-1) wt wy 0 (nI rm) (nI ud) (nI nu) sd (nI qn) (nI qw) qo (nI qb) (nI qp) qa (nI qi) (nI oc))), (g 0, .inl (cI, 1600, .inl (fun j => nI (tb j))))] H := hP
              have hD : va_D A [(h1, .inl (cC, L, .inl (cw wv))), (mm, .inr (12, mo g (nI ta) (nI pa2_2) (nI pe) pd (nI pb) pp pf pg pn rt rn (nI cd) sn (nI il) tk am at_ aa 0 0 (-1) wt wy 0 (nI rm) (nI ud) (nI nu) sd (nI qn) (nI qw) qo (nI qb) (nI qp) qa (nI qi) (nI oc))), (g 0, .inl (cI, 1600, .inl (fun j => nI (tb j))))] := hD
              refine lv_if_eq (tgt := 61) hx hb dX12_isHere_52 (by decide) (fun c_28 => ?_) (fun c_28 => ?_)
              · have c_28 : b_25 = 0 := (neq b_25 0 (by omega) (by omega)).mp c_28
                have hke2 : kk = ext qL tb pe (sk tb pe pa) := by rw [← hsk_8]; exact ext_fin hkx (by rw [qL_t]; omega)
                refine lv_iload_n hx hb dX12_isHere_61 rfl (lv_at hl 0 rfl) ?_
                refine lv_aload_n hx hb dX12_isHere_62 rfl (lv_at hl 1 rfl) ?_
                refine sk_get (v := .int (nI pa2_2)) (C := RX12) (T := TX12) (N := 92) hx hb hts inlX12 hown hK hP 1 rfl rfl 2 (by decide) w_5_157 rfl dX12_isHere_63 ?_
                refine lv_isub hx hb dX12_isHere_66 ?_
                refine sk_top (nI (kk - pa2_2)) (nsub kk pa2_2 (by omega)) ?_
                refine lv_aload_n hx hb dX12_isHere_67 rfl (lv_at hl 2 rfl) ?_
                refine va_alen (v := nI L) hx hb hK.1 hP 0 2 rfl rfl rfl dX12_isHere_68 ?_
                refine lv_icmp_eq (tgt := 74) hx hb dX12_isHere_69 (by decide) (fun c_29 => ?_) (fun c_29 => ?_)
                · have c_29 : kk - pa2_2 = L := (neq (kk - pa2_2) L (by omega) (by omega)).mp c_29
                  refine lv_iconst (v := 0) hx hb dX12_isHere_74 (by decide) ?_
                  refine lv_istore_n (lv' := [(3, .int 0), (2, .int (nI kk)), (0, .ref mm), (1, .ref h1)]) hx hb dX12_isHere_75 rfl hl (by decide) rfl (fun ls hl => ?_)
                  have lp_30 : ∀ (n_31 : Nat) (i : Nat) (H : Heap) (locs : List Loc) (ls : Array Slot), L - i < n_31 → (i ≤ L) → (∀ j, j < i → tb (pa2_2 + j) = wv.getD j 0) → va_P D vwCl [(h1, .inl (cC, L, .inl (cw wv))), (mm, .inr (12, mo g (nI ta) (nI pa2_2) (nI pe) pd (nI pb) pp pf pg pn rt rn (nI cd) sn (nI il) tk am at_ aa 0 0 (-1) wt wy 0 (nI rm) (nI ud) (nI nu) sd (nI qn) (nI qw) qo (nI qb) (nI qp) qa (nI qi) (nI oc))), (g 0, .inl (cI, 1600, .inl (fun j => nI (tb j))))] H → va_D A [(h1, .inl (cC, L, .inl (cw wv))), (mm, .inr (12, mo g (nI ta) (nI pa2_2) (nI pe) pd (nI pb) pp pf pg pn rt rn (nI cd) sn (nI il) tk am at_ aa 0 0 (-1) wt wy 0 (nI rm) (nI ud) (nI nu) sd (nI qn) (nI qw) qo (nI qb) (nI qp) qa (nI qi) (nI oc))), (g 0, .inl (cI, 1600, .inl (fun j => nI (tb j))))] → va_S A s.heap H locs → lv_has ls 4 [(3, .int (nI i)), (2, .int (nI kk)), (0, .ref mm), (1, .ref h1)] → W p l e { frames := 1, cells := 0, slots := 0, locals := 20 } s m ([.ref mm, .ref h1] : List Value).toArray below meth c H locs 0 0 (MQ below (skI D (skT cI cJ cC cZ cS) (fun (r : Int32) (u : va_W) => ∃ (b : Nat), ∃ (pa2 : Nat), pa ≤ pa2 ∧ pa2 ≤ pe ∧ stay tb pe pa pa2 ∧ (b = 0 ∨ (b = 1 ∧ pb = 0 ∧ pa2 + L ≤ pe)) ∧ ((pb = 0 ∧ pa2 = sk tb pe pa) ∨ (¬ pb = 0 ∧ pa2 = pa)) ∧ ((b = 0 ∧ (pb = 0 → isW tb pe wv (cuO tb pe pa pd) = false)) ∨ (b = 1 ∧ pb = 0 ∧ isW tb pe wv (cuO tb pe pa pd) = true)) ∧ r = nI b ∧ u = [(mm, .inr (12, mo g (nI ta) (nI pa2) (nI pe) pd (nI pb) pp pf pg pn rt rn (nI cd) sn (nI il) tk am at_ aa 0 0 (-1) wt wy 0 (nI rm) (nI ud) (nI nu) sd (nI qn) (nI qw) qo (nI qb) (nI qp) qa (nI qi) (nI oc))), (g 0, .inl (cI, 1600, .inl (fun j => nI (tb j)))), (h1, .inl (cC, L, .inl (cw wv)))]) A) ([.ref mm, .ref h1] : List Value).toArray s 0 0 A) (F0 m 76 ls []) := by
                    intro n_31
                    induction n_31 with
                    | zero => intro i H locs ls hm; exact absurd hm (Nat.not_lt_zero _)
                    | succ n_31 ih_lp_30 =>
                      intro i H locs ls hm hi hal hP hD hS hl
                      refine lv_iload_n hx hb dX12_isHere_76 rfl (lv_at hl 0 rfl) ?_
                      refine lv_aload_n hx hb dX12_isHere_77 rfl (lv_at hl 3 rfl) ?_
                      refine va_alen (v := nI L) hx hb hK.1 hP 0 2 rfl rfl rfl dX12_isHere_78 ?_
                      refine lv_icmp_ge (tgt := 107) hx hb dX12_isHere_79 (by decide) (fun c_32 => ?_) (fun c_32 => ?_)
                      · have c_32 : L ≤ i := (nle L i (by omega) (by omega)).mp c_32
                        refine lv_iconst (v := 1) hx hb dX12_isHere_107 (by decide) ?_
                        have hP := hP.sub (ws' := [(mm, .inr (12, mo g (nI ta) (nI pa2_2) (nI pe) pd (nI pb) pp pf pg pn rt rn (nI cd) sn (nI il) tk am at_ aa 0 0 (-1) wt wy 0 (nI rm) (nI ud) (nI nu) sd (nI qn) (nI qw) qo (nI qb) (nI qp) qa (nI qi) (nI oc))), (g 0, .inl (cI, 1600, .inl (fun j => nI (tb j)))), (h1, .inl (cC, L, .inl (cw wv)))]) [1, 2, 0] rfl
                        have hD := hD.sub (ws' := [(mm, .inr (12, mo g (nI ta) (nI pa2_2) (nI pe) pd (nI pb) pp pf pg pn rt rn (nI cd) sn (nI il) tk am at_ aa 0 0 (-1) wt wy 0 (nI rm) (nI ud) (nI nu) sd (nI qn) (nI qw) qo (nI qb) (nI qp) qa (nI qi) (nI oc))), (g 0, .inl (cI, 1600, .inl (fun j => nI (tb j)))), (h1, .inl (cC, L, .inl (cw wv)))]) [1, 2, 0] (by decide +kernel) rfl
                        exact sk_iret hx hb hr rfl hlocks hK hP hD hS (⟨1, pa2_2, by omega, by omega, hst_7, by omega, (Or.inl ⟨by omega, hsk_8⟩), (Or.inr ⟨rfl, by omega, isW_yes (c := (cuO tb pe pa pd)) hlt hql (cu_f hnd) hke2 (by show kk - sk tb pe pa = wv.length; rw [← hsk_8]; omega) (fun j hj => by show tb (sk tb pe pa + j) = wv.getD j 0; rw [← hsk_8]; exact hal j (by omega))⟩), rfl, rfl⟩) (Nat.le_of_ble_eq_true rfl) (Nat.le_of_ble_eq_true rfl) dX12_isHere_108
                      · have c_32 : ¬ (L ≤ i) := fun h => c_32 ((nle L i (by omega) (by omega)).mpr h)
                        refine lv_aload_n hx hb dX12_isHere_82 rfl (lv_at hl 2 rfl) ?_
                        refine sk_get (v := .ref (g 0)) (C := RX12) (T := TX12) (N := 92) hx hb hts inlX12 hown hK hP 1 rfl rfl 0 (by decide) w_5_155 rfl dX12_isHere_83 ?_
                        refine lv_aload_n hx hb dX12_isHere_86 rfl (lv_at hl 2 rfl) ?_
                        refine sk_get (v := .int (nI pa2_2)) (C := RX12) (T := TX12) (N := 92) hx hb hts inlX12 hown hK hP 1 rfl rfl 2 (by decide) w_5_157 rfl dX12_isHere_87 ?_
                        refine lv_iload_n hx hb dX12_isHere_90 rfl (lv_at hl 0 rfl) ?_
                        refine lv_iadd hx hb dX12_isHere_91 ?_
                        refine sk_top (nI (pa2_2 + i)) (nI_add pa2_2 i) ?_
                        refine va_iald hx hb hK.1 hP 2 0 rfl rfl (vin (pa2_2 + i) 1600 (by omega) (by omega)) dX12_isHere_92 ?_
                        refine sk_top (nI (tb (pa2_2 + i))) (nrd tb (pa2_2 + i) (by omega)) ?_
                        have hb_33 := htb (pa2_2 + i)
                        refine lv_aload_n hx hb dX12_isHere_93 rfl (lv_at hl 3 rfl) ?_
                        refine lv_iload_n hx hb dX12_isHere_94 rfl (lv_at hl 0 rfl) ?_
                        refine va_cald hx hb hK.1 hP 0 2 rfl rfl (vin i L (by omega) (by omega)) dX12_isHere_95 ?_
                        refine lv_topi (fun v_34 ev_34 => ?_)
                        refine lv_icmp_eq (tgt := 101) hx hb dX12_isHere_96 (by decide) (fun c_35 => ?_) (fun c_35 => ?_)
                        · skip
                          refine lv_iinc (v := nI (i + 1)) (lv' := [(3, .int (nI (i + 1))), (2, .int (nI kk)), (0, .ref mm), (1, .ref h1)]) hx hb dX12_isHere_101 hl (k := 0) rfl (ninc i 1 (by decide)) (by decide) rfl (fun ls hl => ?_)
                          refine lv_goto (tgt := 76) hx hb dX12_isHere_104 (by decide) ?_
                          exact ih_lp_30 (i + 1) _ _ _ (by omega) (by omega) (al_s hal ((cw_eq ev_34 (by omega) hwb (by omega)).mp c_35)) hP hD hS (lv_sub hl [0, 1, 2, 3] rfl)
                        · have hne := fun hq => c_35 ((cw_eq ev_34 (by omega) hwb (by omega)).mpr hq)
                          refine lv_iconst (v := 0) hx hb dX12_isHere_99 (by decide) ?_
                          have hP := hP.sub (ws' := [(mm, .inr (12, mo g (nI ta) (nI pa2_2) (nI pe) pd (nI pb) pp pf pg pn rt rn (nI cd) sn (nI il) tk am at_ aa 0 0 (-1) wt wy 0 (nI rm) (nI ud) (nI nu) sd (nI qn) (nI qw) qo (nI qb) (nI qp) qa (nI qi) (nI oc))), (g 0, .inl (cI, 1600, .inl (fun j => nI (tb j)))), (h1, .inl (cC, L, .inl (cw wv)))]) [1, 2, 0] rfl
                          have hD := hD.sub (ws' := [(mm, .inr (12, mo g (nI ta) (nI pa2_2) (nI pe) pd (nI pb) pp pf pg pn rt rn (nI cd) sn (nI il) tk am at_ aa 0 0 (-1) wt wy 0 (nI rm) (nI ud) (nI nu) sd (nI qn) (nI qw) qo (nI qb) (nI qp) qa (nI qi) (nI oc))), (g 0, .inl (cI, 1600, .inl (fun j => nI (tb j)))), (h1, .inl (cC, L, .inl (cw wv)))]) [1, 2, 0] (by decide +kernel) rfl
                          exact sk_iret hx hb hr rfl hlocks hK hP hD hS (⟨0, pa2_2, by omega, by omega, hst_7, by omega, (Or.inl ⟨by omega, hsk_8⟩), (Or.inl ⟨rfl, fun _ => isW_ne (c := (cuO tb pe pa pd)) (i := i) hke2 (by show kk - sk tb pe pa = wv.length; rw [← hsk_8]; omega) (by omega) (by show ¬ tb (sk tb pe pa + i) = wv.getD i 0; rw [← hsk_8]; exact hne)⟩), rfl, rfl⟩) (Nat.le_of_ble_eq_true rfl) (Nat.le_of_ble_eq_true rfl) dX12_isHere_100
                  exact lp_30 (L - 0 + 1) 0 _ _ _ (Nat.lt_succ_self _) (by omega) (fun j hj => absurd hj (by omega)) hP hD hS (lv_sub hl [0, 1, 2, 3] rfl)
                · have c_29 : ¬ (kk - pa2_2 = L) := fun h => c_29 ((neq (kk - pa2_2) L (by omega) (by omega)).mpr h)
                  refine lv_iconst (v := 0) hx hb dX12_isHere_72 (by decide) ?_
                  have hP := hP.sub (ws' := [(mm, .inr (12, mo g (nI ta) (nI pa2_2) (nI pe) pd (nI pb) pp pf pg pn rt rn (nI cd) sn (nI il) tk am at_ aa 0 0 (-1) wt wy 0 (nI rm) (nI ud) (nI nu) sd (nI qn) (nI qw) qo (nI qb) (nI qp) qa (nI qi) (nI oc))), (g 0, .inl (cI, 1600, .inl (fun j => nI (tb j)))), (h1, .inl (cC, L, .inl (cw wv)))]) [1, 2, 0] rfl
                  have hD := hD.sub (ws' := [(mm, .inr (12, mo g (nI ta) (nI pa2_2) (nI pe) pd (nI pb) pp pf pg pn rt rn (nI cd) sn (nI il) tk am at_ aa 0 0 (-1) wt wy 0 (nI rm) (nI ud) (nI nu) sd (nI qn) (nI qw) qo (nI qb) (nI qp) qa (nI qi) (nI oc))), (g 0, .inl (cI, 1600, .inl (fun j => nI (tb j)))), (h1, .inl (cC, L, .inl (cw wv)))]) [1, 2, 0] (by decide +kernel) rfl
                  exact sk_iret hx hb hr rfl hlocks hK hP hD hS (⟨0, pa2_2, by omega, by omega, hst_7, by omega, (Or.inl ⟨by omega, hsk_8⟩), (Or.inl ⟨rfl, fun _ => isW_len (c := (cuO tb pe pa pd)) hke2 (by show ¬ kk - sk tb pe pa = wv.length; rw [← hsk_8]; omega)⟩), rfl, rfl⟩) (Nat.le_of_ble_eq_true rfl) (Nat.le_of_ble_eq_true rfl) dX12_isHere_73
              · have c_28 : ¬ (b_25 = 0) := fun h => c_28 ((neq b_25 0 (by omega) (by omega)).mpr h)
                refine lv_iinc (v := nI (kk + 1)) (lv' := [(2, .int (nI (kk + 1))), (0, .ref mm), (1, .ref h1)]) hx hb dX12_isHere_55 hl (k := 0) rfl (ninc kk 1 (by decide)) (by decide) rfl (fun ls hl => ?_)
                refine lv_goto (tgt := 35) hx hb dX12_isHere_58 (by decide) ?_
                exact ih_lp_14 (kk + 1) _ _ _ (by omega) (by omega) (by omega) (ext_nxt hkx (by omega) (qL_t.mpr (by omega))) hP hD hS (lv_sub hl [0, 1, 2] rfl)
        exact lp_14 (pe - pa2_2 + 1) pa2_2 _ _ _ (Nat.lt_succ_self _) (by omega) (by omega) rfl hP hD hS (lv_sub hl [0, 1, 2] rfl)
      · skip
        refine lv_iconst (v := 0) hx hb dX12_isHere_28 (by decide) ?_
        have hP := hP.sub (ws' := [(mm, .inr (12, mo g (nI ta) (nI pa2_2) (nI pe) pd (nI pb) pp pf pg pn rt rn (nI cd) sn (nI il) tk am at_ aa 0 0 (-1) wt wy 0 (nI rm) (nI ud) (nI nu) sd (nI qn) (nI qw) qo (nI qb) (nI qp) qa (nI qi) (nI oc))), (g 0, .inl (cI, 1600, .inl (fun j => nI (tb j)))), (h1, .inl (cC, L, .inl (cw wv)))]) [1, 2, 0] rfl
        have hD := hD.sub (ws' := [(mm, .inr (12, mo g (nI ta) (nI pa2_2) (nI pe) pd (nI pb) pp pf pg pn rt rn (nI cd) sn (nI il) tk am at_ aa 0 0 (-1) wt wy 0 (nI rm) (nI ud) (nI nu) sd (nI qn) (nI qw) qo (nI qb) (nI qp) qa (nI qi) (nI oc))), (g 0, .inl (cI, 1600, .inl (fun j => nI (tb j)))), (h1, .inl (cC, L, .inl (cw wv)))]) [1, 2, 0] (by decide +kernel) rfl
        exact sk_iret hx hb hr rfl hlocks hK hP hD hS (⟨0, pa2_2, by omega, by omega, hst_7, by omega, (Or.inl ⟨by omega, hsk_8⟩), (Or.inl ⟨rfl, fun _ => isW_fl (by rw [← hsk_8]; exact c_13.symm)⟩), rfl, rfl⟩) (Nat.le_of_ble_eq_true rfl) (Nat.le_of_ble_eq_true rfl) dX12_isHere_29
