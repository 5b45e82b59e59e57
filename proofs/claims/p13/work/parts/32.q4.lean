/-! by a word: what may follow is less -/
def kSd (L : LkS) (wn : Nat) (Ba We : Nat → Nat) (d m : Nat) : Nat := kcSaid L wn (Ba d) (We d) d m
def kcFw (E : Nat → Nat → Nat → Bool) (S : Nat → Nat → Nat) (d w e a m : Nat) : Bool := E e a m && (!(e == d) || S e m == w)
theorem kfw_e {E : Nat → Nat → Nat → Bool} {S : Nat → Nat → Nat} {d w a m : Nat} : kcFw E S d w d a m = (E d a m && S d m == w) := by
  unfold kcFw
  rw [show (d == d) = true from beq_self_eq_true d]
  rfl
theorem kfw_n {E : Nat → Nat → Nat → Bool} {S : Nat → Nat → Nat} {d w e a m : Nat} (h : ¬ e = d) : kcFw E S d w e a m = E e a m := by
  unfold kcFw
  rw [show (e == d) = false from beq_false_of_ne h]
  show (E e a m && true) = E e a m
  exact Bool.and_true _
def kcSm (S : Nat → Nat → Nat) (d w n : Nat) : Nat := kcK (fun m => S d m == w) n
theorem ksm_lt (S : Nat → Nat → Nat) (d w : Nat) {n : Nat} (h : n ≤ 10) : kcSm S d w n < 1024 := kK_lt10 _ h
theorem ksm_b (S : Nat → Nat → Nat) (d w : Nat) {m : Nat} (h : m < 10) : (kcSm S d w 10).testBit m = (S d m == w) := by
  unfold kcSm
  rw [kcK_bit, decide_eq_true h, Bool.true_and]
theorem kld_on {E : Nat → Nat → Nat → Bool} {S : Nat → Nat → Nat} {gd d w : Nat} {e1 e2 g2 : Nat → Int32} {x : Int32} (h : kcLd E gd e1 e2) (e : g2 = upd e2 d x) (hx : x = e2 d &&& nI (kcSm S d w 10)) : kcLd (kcFw E S d w) gd e1 g2 := fun e0 he p hp => by
  obtain ⟨a, b, h1, h2, h3, h4, h5⟩ := h e0 he p hp
  by_cases q : e0 = d
  · subst q
    have hl := knd32 h4 (ksm_lt S e0 w (Nat.le_refl 10))
    refine ⟨a, b &&& kcSm S e0 w 10, h1, ?_, h3, hl.2, fun m hm => ?_⟩
    · rw [kui_s e, hx, h2]; exact hl.1
    · rw [kfw_e, ← h5 m hm, ← ksm_b S e0 w hm, Nat.testBit_and, Nat.testBit_and, Nat.testBit_and, Bool.and_assoc]
  · refine ⟨a, b, h1, ?_, h3, h4, fun m hm => ?_⟩
    · rw [kui_n e q]; exact h2
    · rw [kfw_n q]; exact h5 m hm
/-- by rows heard -/
def kcFh (E : Nat → Nat → Nat → Bool) (S : Nat → Nat → Nat) (hR : Nat → Nat) : Nat → Nat → Nat → Nat → Bool
  | 0 => E
  | i + 1 => kcFw (kcFh E S hR i) S (hR i / 10) (hR i % 10)
/-- a row of a mute day: none -/
def kcHd (E : Nat → Nat → Nat → Bool) (U : Nat → Bool) (S : Nat → Nat → Nat) (hR : Nat → Nat) (n e a m : Nat) : Bool := decide (E e a m = true ∧ ∀ i, i < n → hR i / 10 = e → U e = false ∧ S e m = hR i % 10)
theorem kfh_t {E : Nat → Nat → Nat → Bool} {S : Nat → Nat → Nat} {hR : Nat → Nat} {e a m : Nat} : ∀ n, kcFh E S hR n e a m = true ↔ E e a m = true ∧ ∀ i, i < n → hR i / 10 = e → S e m = hR i % 10
  | 0 => ⟨fun h => ⟨h, fun i hi => absurd hi (Nat.not_lt_zero i)⟩, fun h => h.1⟩
  | n + 1 => by
    show kcFw (kcFh E S hR n) S (hR n / 10) (hR n % 10) e a m = true ↔ _
    by_cases q : e = hR n / 10
    · have h1 : kcFw (kcFh E S hR n) S (hR n / 10) (hR n % 10) e a m = (kcFh E S hR n e a m && S e m == hR n % 10) := by
        rw [← q]; exact kfw_e
      rw [h1, Bool.and_eq_true, kfh_t n, beq_iff_eq]
      constructor
      · intro ⟨⟨h2, h3⟩, h4⟩
        refine ⟨h2, fun i hi hd => ?_⟩
        by_cases c : i = n
        · subst c; exact h4
        · exact h3 i (by omega) hd
      · intro ⟨h2, h3⟩
        exact ⟨⟨h2, fun i hi hd => h3 i (by omega) hd⟩, h3 n (by omega) q.symm⟩
    · rw [kfw_n q, kfh_t n]
      constructor
      · intro ⟨h2, h3⟩
        refine ⟨h2, fun i hi hd => ?_⟩
        by_cases c : i = n
        · subst c; exact absurd hd.symm q
        · exact h3 i (by omega) hd
      · intro ⟨h2, h3⟩
        exact ⟨h2, fun i hi hd => h3 i (by omega) hd⟩
theorem khd_fh {E : Nat → Nat → Nat → Bool} {U : Nat → Bool} {S : Nat → Nat → Nat} {hR : Nat → Nat} {n : Nat} (h : ∀ i, i < n → U (hR i / 10) = false) (e a m : Nat) : kcHd E U S hR n e a m = kcFh E S hR n e a m := by
  have h1 := kfh_t (E := E) (S := S) (hR := hR) (e := e) (a := a) (m := m) n
  cases hb : kcFh E S hR n e a m with
  | true =>
    have h2 := h1.mp hb
    exact decide_eq_true ⟨h2.1, fun i hi hd => ⟨by rw [← hd]; exact h i hi, h2.2 i hi hd⟩⟩
  | false =>
    refine decide_eq_false (fun q => ?_)
    have h3 := h1.mpr ⟨q.1, fun i hi hd => (q.2 i hi hd).2⟩
    rw [hb] at h3
    cases h3
theorem kcB_z {E : Nat → Nat → Nat → Bool} {a0 d : Nat} (h : ∀ a m, E d a m = false) : ∀ m, kcB E a0 d m = 0 := fun m => by
  cases d with
  | zero => rw [kcB_0, if_neg (by rw [h a0 m]; decide)]
  | succ d =>
    rw [kcB_s]
    exact kcS_z 10 (fun a _ => if_neg (by rw [h a m]; decide))
theorem kcC_z {E : Nat → Nat → Nat → Bool} {gd a0 d : Nat} (hd : d < gd) (h : ∀ a m, E d a m = false) : kcC E gd 0 a0 = 0 := by
  rw [← kT2_S (a0 := a0) hd]
  refine kcS_z 10 (fun m _ => ?_)
  unfold kcT2
  rw [kcB_z h m, Nat.zero_mul]
theorem khd_z {E : Nat → Nat → Nat → Bool} {U : Nat → Bool} {S : Nat → Nat → Nat} {hR : Nat → Nat} {n i gd a0 : Nat} (hi : i < n) (hd : hR i / 10 < gd) (h : U (hR i / 10) = true) : kcC (kcHd E U S hR n) gd 0 a0 = 0 := kcC_z hd (fun a m => decide_eq_false (fun q => by
  have h1 := (q.2 i hi rfl).1
  rw [h] at h1
  cases h1))
theorem khd_C {E : Nat → Nat → Nat → Bool} {U : Nat → Bool} {S : Nat → Nat → Nat} {hR : Nat → Nat} {n : Nat} (h : ∀ i, i < n → U (hR i / 10) = false) : kcHd E U S hR n = kcFh E S hR n := by
  funext e a m
  exact khd_fh h e a m
/-! known, sure -/
theorem kms_z {E : Nat → Nat → Nat → Bool} {gd a0 d : Nat} (h : kcC E gd 0 a0 = 0) (hd : d < gd) : kcMs E gd a0 d = 0 := by
  unfold kcMs
  refine (kcK_z _ 10).mpr (fun m hm => decide_eq_false (fun q => ?_))
  have h2 := kT2_le (E := E) (a0 := a0) hd hm
  omega
/-- a word of a day that is not mute: day, word -/
def kWo (dy : Nat) (U : Nat → Bool) (d w : Int32) (x : Nat × Nat) : Prop := x.1 < dy ∧ d = nI x.1 ∧ ¬ U x.1 = true ∧ x.2 < 10 ∧ w = nI x.2
theorem kWo_u {dy : Nat} {U : Nat → Bool} {d w : Int32} {x y : Nat × Nat} (h9 : dy ≤ 9) (a : kWo dy U d w x) (b : kWo dy U d w y) : x = y := Prod.ext (kIe a.2.1 b.2.1 (by have := a.1; omega) (by have := b.1; omega)) (kIe a.2.2.2.2 b.2.2.2.2 (by have := a.2.2.2.1; omega) (by have := b.2.2.2.1; omega))
def knownR (E : Nat → Nat → Nat → Bool) (S : Nat → Nat → Nat) (dy mo : Nat) (U : Nat → Bool) (d w o r : Int32) : Prop := kR (fun x : (Nat × Nat) × Nat => kWo dy U d w x.1 ∧ x.2 < dy ∧ o = nI x.2) (r = -1) (fun x => r = nI (kcMs (kcFw E S x.1.1 x.1.2) dy mo x.2))
theorem knownR_eq {E : Nat → Nat → Nat → Bool} {S : Nat → Nat → Nat} {dy mo : Nat} {U : Nat → Bool} {d w o r q : Int32} (h9 : dy ≤ 9) (h1 : knownR E S dy mo U d w o r) (h2 : knownR E S dy mo U d w o q) : r = q :=
  kR_eq h1 h2 (fun x y a b => Prod.ext (kWo_u h9 a.1 b.1) (kIe a.2.2 b.2.2 (by have := a.2.1; omega) (by have := b.2.1; omega))) (fun a b => a.trans b.symm) (fun _ a b => a.trans b.symm)
theorem kno_0 {E : Nat → Nat → Nat → Bool} {S : Nat → Nat → Nat} {dy mo : Nat} {U : Nat → Bool} {d w o : Int32} (h : ¬ kIn o dy) : knownR E S dy mo U d w o (-1) := kR_0 (fun x q => h ⟨x.2, q.2.1, q.2.2⟩) rfl
theorem kno_1 {E : Nat → Nat → Nat → Bool} {S : Nat → Nat → Nat} {dy mo : Nat} {U : Nat → Bool} {d w o : Int32} (h : ∀ x, ¬ kWo dy U d w x) : knownR E S dy mo U d w o (-1) := kR_0 (fun x q => h x.1 q.1) rfl
theorem kno_2 {E : Nat → Nat → Nat → Bool} {S : Nat → Nat → Nat} {dy mo k j f : Nat} {U : Nat → Bool} {d w r : Int32} (h : kWo dy U d w (k, j)) (hf : f < dy) (hr : r = nI (kcMs (kcFw E S k j) dy mo f)) : knownR E S dy mo U d w (nI f) r := kR_1 ((k, j), f) ⟨h, hf, rfl⟩ hr
/-- how many days from one on -/
def kSu (P : Nat → Bool) : Nat → Nat → Nat
  | 0, _ => 0
  | f + 1, d => if P d = true then kSu P f (d + 1) + 1 else 0
theorem ksu_y {P : Nat → Bool} {n d su : Nat} {t : Nat} (h : su + kSu P (n - d) d = t) (hd : d < n) (hp : P d = true) : su + 1 + kSu P (n - (d + 1)) (d + 1) = t := by
  rw [show n - d = (n - (d + 1)) + 1 by omega] at h
  have e : kSu P ((n - (d + 1)) + 1) d = kSu P (n - (d + 1)) (d + 1) + 1 := if_pos hp
  rw [e] at h
  omega
theorem ksu_n {P : Nat → Bool} {n d su : Nat} {t : Nat} (h : su + kSu P (n - d) d = t) (hd : d < n) (hp : ¬ P d = true) : su = t := by
  rw [show n - d = (n - (d + 1)) + 1 by omega] at h
  have e : kSu P ((n - (d + 1)) + 1) d = 0 := if_neg hp
  rw [e] at h
  omega
theorem ksu_e {P : Nat → Bool} {n d su : Nat} {t : Nat} (h : su + kSu P (n - d) d = t) (hd : n ≤ d) : su = t := by
  rw [show n - d = 0 by omega] at h
  exact h
def kpopT (m : Nat) : Nat := kcS (fun d => if m.testBit d = true then 1 else 0) 10
theorem kpopT_d : ∀ m, m < 1024 → kbb (kbb (kb9 (kb6 (kb2 m))) 8) 16 &&& 63 = nI (kpopT m) := by decide +kernel
theorem kpopT_10 (m : Nat) : kpopT m ≤ 10 := kcS_le (b := 1) 10 (fun d _ => by split <;> decide)
def sureP (E : Nat → Nat → Nat → Bool) (dy mo d : Nat) : Bool := kpopT (kcMs E dy mo d) == 1
def sureR (E : Nat → Nat → Nat → Bool) (S : Nat → Nat → Nat) (dy mo : Nat) (U : Nat → Bool) (d w r : Int32) : Prop := kR (fun x : Nat × Nat => kWo dy U d w x ∧ 0 < kcC (kcFw E S x.1 x.2) dy 0 mo) (r = -1) (fun x => r = nI (kSu (sureP (kcFw E S x.1 x.2) dy mo) (dy - x.1) x.1))
theorem sureR_eq {E : Nat → Nat → Nat → Bool} {S : Nat → Nat → Nat} {dy mo : Nat} {U : Nat → Bool} {d w r q : Int32} (h9 : dy ≤ 9) (h1 : sureR E S dy mo U d w r) (h2 : sureR E S dy mo U d w q) : r = q :=
  kR_eq h1 h2 (fun x y a b => kWo_u h9 a.1 b.1) (fun a b => a.trans b.symm) (fun _ a b => a.trans b.symm)
theorem sur_0 {E : Nat → Nat → Nat → Bool} {S : Nat → Nat → Nat} {dy mo : Nat} {U : Nat → Bool} {d w : Int32} (h : ∀ x, ¬ kWo dy U d w x) : sureR E S dy mo U d w (-1) := kR_0 (fun x q => h x q.1) rfl
theorem sur_1 {E : Nat → Nat → Nat → Bool} {S : Nat → Nat → Nat} {dy mo k j : Nat} {U : Nat → Bool} {d w : Int32} (h9 : dy ≤ 9) (h : kWo dy U d w (k, j)) (hz : kcC (kcFw E S k j) dy 0 mo = 0) : sureR E S dy mo U d w (-1) := kR_0 (fun x q => by
  have e := kWo_u h9 q.1 h
  have q2 := q.2
  rw [e, hz] at q2
  exact Nat.lt_irrefl 0 q2) rfl
theorem sur_2 {E : Nat → Nat → Nat → Bool} {S : Nat → Nat → Nat} {dy mo k j su : Nat} {U : Nat → Bool} {d w : Int32} (h : kWo dy U d w (k, j)) (hz : 0 < kcC (kcFw E S k j) dy 0 mo) (hs : su = kSu (sureP (kcFw E S k j) dy mo) (dy - k) k) : sureR E S dy mo U d w (nI su) := kR_1 (k, j) ⟨h, hz⟩ (by rw [hs])
theorem ksp_1 {E : Nat → Nat → Nat → Bool} {dy mo d : Nat} (h : nI (kpopT (kcMs E dy mo d)) = 1) : sureP E dy mo d = true := by
  have h1 := kpopT_10 (kcMs E dy mo d)
  exact beq_iff_eq.mpr ((neq _ 1 (by omega) (Nat.le_of_ble_eq_true rfl)).mp h)
theorem ksp_0 {E : Nat → Nat → Nat → Bool} {dy mo d : Nat} (h : ¬ nI (kpopT (kcMs E dy mo d)) = 1) : ¬ sureP E dy mo d = true := fun q => h (by rw [beq_iff_eq.mp q]; rfl)
/-! heard, tells -/
def heardR (E : Nat → Nat → Nat → Bool) (dy mo : Nat) (r : Int64) : Prop := kB (1 ≤ dy) (r = Int64.ofNat (kcC E dy 0 mo)) (r = -1000000000000000)
theorem heardR_eq {E : Nat → Nat → Nat → Bool} {dy mo : Nat} {r q : Int64} (h1 : heardR E dy mo r) (h2 : heardR E dy mo q) : r = q := kB_eq h1 h2 (fun a b => a.trans b.symm) (fun a b => a.trans b.symm)
def kAmin (f : Nat → Nat) : Nat → Nat
  | 0 => 0
  | n + 1 => if f n < f (kAmin f n) then n else kAmin f n
def tlF (E : Nat → Nat → Nat → Bool) (dy mo d : Nat) : Nat := kcMx (kcT2 E dy mo d) 10
def tellsR (E : Nat → Nat → Nat → Bool) (dy mo : Nat) (w : Int32) (r : Int64) : Prop := kR (fun x : Nat => 1 ≤ dy ∧ 0 < kcC E dy 0 mo ∧ x < 2 ∧ w = nI x) (r = -1000000000000000) (fun x => r = Int64.ofNat (if x = 0 then kAmin (tlF E dy mo) dy else tlF E dy mo (kAmin (tlF E dy mo) dy)))
theorem tellsR_eq {E : Nat → Nat → Nat → Bool} {dy mo : Nat} {w : Int32} {r q : Int64} (h1 : tellsR E dy mo w r) (h2 : tellsR E dy mo w q) : r = q :=
  kR_eq h1 h2 (fun x y a b => kIe a.2.2.2 b.2.2.2 (by have := a.2.2.1; omega) (by have := b.2.2.1; omega)) (fun a b => a.trans b.symm) (fun _ a b => a.trans b.symm)
theorem tel_0 {E : Nat → Nat → Nat → Bool} {dy mo : Nat} {w : Int32} (h : dy = 0) : tellsR E dy mo w (-1000000000000000) := kR_0 (fun x q => by have := q.1; omega) rfl
theorem tel_1 {E : Nat → Nat → Nat → Bool} {dy mo : Nat} {w : Int32} (h : ¬ kIn w 2) : tellsR E dy mo w (-1000000000000000) := kR_0 (fun x q => h ⟨x, q.2.2.1, q.2.2.2⟩) rfl
theorem tel_2 {E : Nat → Nat → Nat → Bool} {dy mo : Nat} {w : Int32} (h : kcC E dy 0 mo = 0) : tellsR E dy mo w (-1000000000000000) := kR_0 (fun x q => by have := q.2.1; omega) rfl
theorem tel_3 {E : Nat → Nat → Nat → Bool} {dy mo te : Nat} {w : Int32} (h1 : 1 ≤ dy) (h2 : 0 < kcC E dy 0 mo) (hw : w = nI 0) (ht : te = kAmin (tlF E dy mo) dy) : tellsR E dy mo w (Int64.ofNat te) := kR_1 0 ⟨h1, h2, by decide, hw⟩ (by rw [if_pos rfl, ht])
theorem tel_4 {E : Nat → Nat → Nat → Bool} {dy mo te j : Nat} {r : Int64} (h1 : 1 ≤ dy) (h2 : 0 < kcC E dy 0 mo) (hj : j < 2) (h0 : ¬ j = 0) (ht : te = kAmin (tlF E dy mo) dy) (hr : r = Int64.ofNat (tlF E dy mo te)) : tellsR E dy mo (nI j) r := kR_1 j ⟨h1, h2, hj, rfl⟩ (by rw [if_neg h0, hr, ht])
theorem tlF_b (E : Nat → Nat → Nat → Bool) {dy mo d : Nat} (h9 : dy ≤ 9) (hd : d < dy) : tlF E dy mo d ≤ 1000000000 := kmx_b E h9 hd (Nat.le_refl 10)
theorem kAmin_1 {f : Nat → Nat} : 0 = kAmin f 1 := by
  show 0 = if f 0 < f (kAmin f 0) then 0 else kAmin f 0
  split <;> rfl
theorem kAmin_lt (f : Nat → Nat) : ∀ n, 1 ≤ n → kAmin f n < n
  | 0, h => absurd h (by omega)
  | n + 1, _ => by
    show (if f n < f (kAmin f n) then n else kAmin f n) < n + 1
    by_cases c : f n < f (kAmin f n)
    · rw [if_pos c]; omega
    · rw [if_neg c]
      by_cases e : n = 0
      · subst e; exact Nat.zero_lt_one
      · have := kAmin_lt f n (by omega); omega
theorem kAmin_y {f : Nat → Nat} {i te : Nat} (h : te = kAmin f i) (c : f i < f te) : i = kAmin f (i + 1) := by
  show i = if f i < f (kAmin f i) then i else kAmin f i
  rw [← h, if_pos c]
theorem kAmin_n {f : Nat → Nat} {i te : Nat} (h : te = kAmin f i) (c : ¬ f i < f te) : te = kAmin f (i + 1) := by
  show te = if f i < f (kAmin f i) then i else kAmin f i
  rw [← h, if_neg c]
theorem kpopT_e {m : Nat} {v1 v2 v3 v4 v5 v6 v7 v8 v9 va vb vc vd ve : Int32} (hm : m < 1024) (e1 : v1 = nI (m / 2) &&& 1431655765) (e2 : v2 = nI m - v1) (e3 : v3 = v2 &&& 858993459) (e4 : v4 = kush v2 2) (e5 : v5 = v4 &&& 858993459) (e6 : v6 = v3 + v5) (e7 : v7 = kush v6 4) (e8 : v8 = v6 + v7) (e9 : v9 = v8 &&& 252645135) (ea : va = kush v9 8) (eb : vb = v9 + va) (ec : vc = kush vb 16) (ed : vd = vb + vc) (ee : ve = vd &&& 63) : ve = nI (kpopT m) := by
  have h2 : v2 = kb2 m := by rw [e2, e1]; rfl
  have h6 : v6 = kb6 v2 := by rw [e6, e5, e4, e3]; rfl
  have h9 : v9 = kb9 v6 := by rw [e9, e8, e7]; rfl
  have hb : vb = kbb v9 8 := by rw [eb, ea]; rfl
  have hd : vd = kbb vb 16 := by rw [ed, ec]; rfl
  rw [ee, hd, hb, h9, h6, h2]
  exact kpopT_d m hm
theorem kwo_m {dy k : Nat} {U : Nat → Bool} {w : Int32} (h9 : dy ≤ 9) (hk : k < dy) (h : U k = true) : ∀ x, ¬ kWo dy U (nI k) w x := fun x q => by
  have e := kIe (x := nI k) rfl q.2.1 (by omega) (by have := q.1; omega)
  exact q.2.2.1 (by rw [← e]; exact h)
theorem kwo_d {dy : Nat} {U : Nat → Bool} {d w : Int32} (h : ¬ kIn d dy) : ∀ x, ¬ kWo dy U d w x := fun x q => h ⟨x.1, q.1, q.2.1⟩
theorem kwo_w {dy : Nat} {U : Nat → Bool} {d w : Int32} (h : ¬ kIn w 10) : ∀ x, ¬ kWo dy U d w x := fun x q => h ⟨x.2, q.2.2.2.1, q.2.2.2.2⟩
theorem klo_lt {a b : Nat} (ha : a < 9223372036854775808) (hb : b < 9223372036854775808) : lg_cmp (Int64.ofNat a) (Int64.ofNat b) < 0 ↔ a < b := by
  rw [lg_cmp_lt]
  exact klt ha hb
set_option maxHeartbeats 4000000 in
set_option maxRecDepth 100000 in
theorem c_ubitCountT (l : Launch) (D : va_G) (cI cJ cC cZ cS : ClassId) (mz : Nat) (hm : mz < 1024) : skM l yJ6_bitCount_0f7a4 cJ6_bitCount_0f7a4 1 (some .int) 0 0 0 0 D (skT cI cJ cC cZ cS) [.int (nI mz)] [] (skI D (skT cI cJ cC cZ cS) (fun (r : Int32) (u : va_W) => r = nI (kpopT mz) ∧ u = [])) := by
  refine skM_of pf_J6_bitCount_0f7a4 (Nat.le_of_ble_eq_true rfl) ?_
  intro p e s m below meth c A ls E hP hD hl
  refine skE_el E (fun hx hb hr hml hlocks hin hown hts hK hA => ?_)
  have hown : s.vm.findClass RJ6 = some m.cls := hown
  have hS : va_S A s.heap s.heap [] := va_S.rf
  have hl : lv_has ls 1 [(0, .int (nI mz))] := hl
  refine lv_iload_n hx hb dJ6_bitCount_0f7a4_0 rfl (lv_at hl 0 rfl) ?_
  refine lv_iload_n hx hb dJ6_bitCount_0f7a4_1 rfl (lv_at hl 0 rfl) ?_
  refine lv_iconst (v := 1) hx hb dJ6_bitCount_0f7a4_2 ic_1 ?_
  refine lv_iushr (v := nI (mz / 2)) hx hb dJ6_bitCount_0f7a4_3 (nushr mz 1 (by omega) (by decide) 2 rfl) ?_
  refine lv_ldcw (v := 1431655765) hx hb hown (hts _ w_3_176) dJ6_bitCount_0f7a4_4 ?_
  refine lv_iand hx hb dJ6_bitCount_0f7a4_7 ?_
  refine lv_topi (fun v_1 ev_1 => ?_)
  refine lv_isub hx hb dJ6_bitCount_0f7a4_8 ?_
  refine lv_topi (fun v_2 ev_2 => ?_)
  refine lv_istore_n (lv' := [(0, .int v_2)]) hx hb dJ6_bitCount_0f7a4_9 rfl hl (by decide) rfl (fun ls hl => ?_)
  refine lv_iload_n hx hb dJ6_bitCount_0f7a4_10 rfl (lv_at hl 0 rfl) ?_
  refine lv_ldcw (v := 858993459) hx hb hown (hts _ w_3_177) dJ6_bitCount_0f7a4_11 ?_
  refine lv_iand hx hb dJ6_bitCount_0f7a4_14 ?_
  refine lv_topi (fun v_3 ev_3 => ?_)
  refine lv_iload_n hx hb dJ6_bitCount_0f7a4_15 rfl (lv_at hl 0 rfl) ?_
  refine lv_iconst (v := 2) hx hb dJ6_bitCount_0f7a4_16 ic_2 ?_
  refine lv_iushr hx hb dJ6_bitCount_0f7a4_17 rfl ?_
  refine lv_topi (fun v_4 ev_4 => ?_)
  refine lv_ldcw (v := 858993459) hx hb hown (hts _ w_3_177) dJ6_bitCount_0f7a4_18 ?_
  refine lv_iand hx hb dJ6_bitCount_0f7a4_21 ?_
  refine lv_topi (fun v_5 ev_5 => ?_)
  refine lv_iadd hx hb dJ6_bitCount_0f7a4_22 ?_
  refine lv_topi (fun v_6 ev_6 => ?_)
  refine lv_istore_n (lv' := [(0, .int v_6)]) hx hb dJ6_bitCount_0f7a4_23 rfl hl (by decide) rfl (fun ls hl => ?_)
  refine lv_iload_n hx hb dJ6_bitCount_0f7a4_24 rfl (lv_at hl 0 rfl) ?_
  refine lv_iload_n hx hb dJ6_bitCount_0f7a4_25 rfl (lv_at hl 0 rfl) ?_
  refine lv_iconst (v := 4) hx hb dJ6_bitCount_0f7a4_26 ic_4 ?_
  refine lv_iushr hx hb dJ6_bitCount_0f7a4_27 rfl ?_
  refine lv_topi (fun v_7 ev_7 => ?_)
  refine lv_iadd hx hb dJ6_bitCount_0f7a4_28 ?_
  refine lv_topi (fun v_8 ev_8 => ?_)
  refine lv_ldcw (v := 252645135) hx hb hown (hts _ w_3_178) dJ6_bitCount_0f7a4_29 ?_
  refine lv_iand hx hb dJ6_bitCount_0f7a4_32 ?_
  refine lv_topi (fun v_9 ev_9 => ?_)
  refine lv_istore_n (lv' := [(0, .int v_9)]) hx hb dJ6_bitCount_0f7a4_33 rfl hl (by decide) rfl (fun ls hl => ?_)
  refine lv_iload_n hx hb dJ6_bitCount_0f7a4_34 rfl (lv_at hl 0 rfl) ?_
  refine lv_iload_n hx hb dJ6_bitCount_0f7a4_35 rfl (lv_at hl 0 rfl) ?_
  refine lv_bipush (v := 8) hx hb dJ6_bitCount_0f7a4_36 (by decide) ?_
  refine lv_iushr hx hb dJ6_bitCount_0f7a4_38 rfl ?_
  refine lv_topi (fun v_10 ev_10 => ?_)
  refine lv_iadd hx hb dJ6_bitCount_0f7a4_39 ?_
  refine lv_topi (fun v_11 ev_11 => ?_)
  refine lv_istore_n (lv' := [(0, .int v_11)]) hx hb dJ6_bitCount_0f7a4_40 rfl hl (by decide) rfl (fun ls hl => ?_)
  refine lv_iload_n hx hb dJ6_bitCount_0f7a4_41 rfl (lv_at hl 0 rfl) ?_
  refine lv_iload_n hx hb dJ6_bitCount_0f7a4_42 rfl (lv_at hl 0 rfl) ?_
  refine lv_bipush (v := 16) hx hb dJ6_bitCount_0f7a4_43 (by decide) ?_
  refine lv_iushr hx hb dJ6_bitCount_0f7a4_45 rfl ?_
  refine lv_topi (fun v_12 ev_12 => ?_)
  refine lv_iadd hx hb dJ6_bitCount_0f7a4_46 ?_
  refine lv_topi (fun v_13 ev_13 => ?_)
  refine lv_istore_n (lv' := [(0, .int v_13)]) hx hb dJ6_bitCount_0f7a4_47 rfl hl (by decide) rfl (fun ls hl => ?_)
  refine lv_iload_n hx hb dJ6_bitCount_0f7a4_48 rfl (lv_at hl 0 rfl) ?_
  refine lv_bipush (v := 63) hx hb dJ6_bitCount_0f7a4_49 (by decide) ?_
  refine lv_iand hx hb dJ6_bitCount_0f7a4_51 ?_
  refine lv_topi (fun v_14 ev_14 => ?_)
  exact sk_iret hx hb hr rfl hlocks hK hP hD hS (⟨kpopT_e hm ev_1 ev_2 ev_3 ev_4 ev_5 ev_6 ev_7 ev_8 ev_9 ev_10 ev_11 ev_12 ev_13 ev_14, rfl⟩) (Nat.le_of_ble_eq_true rfl) (Nat.le_of_ble_eq_true rfl) dJ6_bitCount_0f7a4_52
set_option maxHeartbeats 4000000 in
set_option maxRecDepth 100000 in
theorem c_ux_isWordOfI (l : Launch) (D : va_G) (cI cJ cC cZ cS : ClassId) (x0 : Nat) (q : Nat → Nat) (hc : Int32) (dr : Int64) (dy : Nat) (wn : Nat) (mo : Nat) (ke : Nat) (mu : Int32) (fb : Nat → Int32) (fw : Nat → Int32) (d : Int32) (w : Int32) (U : Nat → Bool) (hdy : dy ≤ 9) (hU : muO U mu) : skM l yX11_isWordOf cX11_isWordOf 3 (some .boolean) 1 21 0 0 D (skT cI cJ cC cZ cS) [.ref x0, .int d, .int w] [ro_rrrrrrrrrrrrrrrirl x0 11 (q 0) (q 1) (q 2) (q 3) (q 4) (q 5) (q 6) (q 7) (q 8) (q 9) (q 10) (q 11) (q 12) (q 13) (q 14) hc (q 16) dr, ro_rrnnnin (q 7) 7 (q 33) (q 34) dy wn mo mu ke] (skI D (skT cI cJ cC cZ cS) (fun (r : Int32) (u : va_W) => ∃ (b : Nat), ((b = 0 ∧ ∀ x, ¬ kWo dy U d w x) ∨ (b = 1 ∧ ∃ x, kWo dy U d w x)) ∧ r = nI b ∧ u = [ro_rrrrrrrrrrrrrrrirl x0 11 (q 0) (q 1) (q 2) (q 3) (q 4) (q 5) (q 6) (q 7) (q 8) (q 9) (q 10) (q 11) (q 12) (q 13) (q 14) hc (q 16) dr, ro_rrnnnin (q 7) 7 (q 33) (q 34) dy wn mo mu ke])) := by
  refine skM_of pf_X11_isWordOf (Nat.le_of_ble_eq_true rfl) ?_
  intro p e s m below meth c A ls E hP hD hl
  refine skE_el E (fun hx hb hr hml hlocks hin hown hts hK hA => ?_)
  have hown : s.vm.findClass RX11 = some m.cls := hown
  have hS : va_S A s.heap s.heap [] := va_S.rf
  have hl : lv_has ls 3 [(0, .ref x0), (1, .int d), (2, .int w)] := hl
  refine lv_aload_n hx hb dX11_isWordOf_0 rfl (lv_at hl 0 rfl) ?_
  refine lv_iload_n hx hb dX11_isWordOf_1 rfl (lv_at hl 1 rfl) ?_
  refine sk_Vi (q0 := 0) (n := 1) (rest := []) (wr := fmR om_2_3 _) ⟨hx, hb, hml, hown, hts⟩ hl.1 (c_kx_isDay l D cI cJ cC cZ cS x0 q hc dr dy wn mo ke mu fb fw d hdy) w_3_190 w_3_192 w_0_14 w_1_1 w_3_193 hd_X11_isDay_1 ⟨⟨(Nat.le_of_ble_eq_true rfl), (Nat.le_of_ble_eq_true rfl)⟩, (Nat.le_of_ble_eq_true rfl), (Nat.le_of_ble_eq_true rfl)⟩ hK hP hD hS hA (fmT om_2_3 0) (fmF om_2_3 0) (fm_C1 rfl rfl) (fm_R rfl rfl) (fm_nT om_2_3 0) (fm_nF om_2_3 0) (fm_di om_2_3 0) rfl rfl rfl rfl (Nat.le_of_ble_eq_true rfl) dX11_isWordOf_2 (fun r_2 u H locs hw hP hD hS => ?_)
  refine exE hw (fun b_1 hw1 => anE hw1 (fun hb1_3 hw2 => anE hw2 (fun er_5 eu_4 => ?_)))
  clear hw hw1 hw2
  subst er_5
  refine o_mgE (ws' := [ro_rrrrrrrrrrrrrrrirl x0 11 (q 0) (q 1) (q 2) (q 3) (q 4) (q 5) (q 6) (q 7) (q 8) (q 9) (q 10) (q 11) (q 12) (q 13) (q 14) hc (q 16) dr, ro_rrnnnin (q 7) 7 (q 33) (q 34) dy wn mo mu ke]) eu_4 hP hD rfl (fun hP hD => ?_)
  refine lv_if_eq (tgt := 30) hx hb dX11_isWordOf_5 (by decide) (fun c_6 => ?_) (fun c_6 => ?_)
  · have c_6 : b_1 = 0 := (neq b_1 0 (by omega) (Nat.le_of_ble_eq_true rfl)).mp c_6
    refine lv_iconst (v := 0) hx hb dX11_isWordOf_30 ic_0 ?_
    exact sk_iret hx hb hr rfl hlocks hK hP hD hS (⟨0, Or.inl ⟨rfl, kwo_d (rr_0 hb1_3 (by omega))⟩, rfl, rfl⟩) (Nat.le_of_ble_eq_true rfl) (Nat.le_of_ble_eq_true rfl) dX11_isWordOf_31
  · have c_6 : ¬ (b_1 = 0) := fun h => c_6 ((neq b_1 0 (by omega) (Nat.le_of_ble_eq_true rfl)).mpr h)
    obtain ⟨kd_7, hkd_7, rfl⟩ := rr_1 hb1_3 (by omega)
    refine lv_aload_n hx hb dX11_isWordOf_8 rfl (lv_at hl 0 rfl) ?_
    refine sk_get (v := .ref (q 7)) (C := RX11) (T := TX11) (N := 18) hx hb hts inlX11 hown hK hP 0 rfl rfl 7 (Nat.le_of_ble_eq_true rfl) w_2_130 rfl dX11_isWordOf_9 ?_
    refine lv_iload_n hx hb dX11_isWordOf_12 rfl (lv_at hl 1 rfl) ?_
    refine sk_Vi (q0 := 0) (n := 1) (rest := []) (wr := fmR om_2_1 _) ⟨hx, hb, hml, hown, hts⟩ hl.1 (c_kState_isMute l D cI cJ cC cZ cS (q 7) (q 33) (q 34) dy mo (nI wn) mu (nI ke) kd_7 U (by omega) hU) w_3_194 w_3_195 w_3_196 w_1_10 w_3_197 hd_X7_isMute_1 ⟨⟨(Nat.le_of_ble_eq_true rfl), (Nat.le_of_ble_eq_true rfl)⟩, (Nat.le_of_ble_eq_true rfl), (Nat.le_of_ble_eq_true rfl)⟩ hK hP hD hS hA (fmT om_2_1 0) (fmF om_2_1 0) (fm_C1 rfl rfl) (fm_R rfl rfl) (fm_nT om_2_1 0) (fm_nF om_2_1 0) (fm_di om_2_1 0) rfl rfl rfl rfl (Nat.le_of_ble_eq_true rfl) dX11_isWordOf_13 (fun r_9 u H locs hw hP hD hS => ?_)
    refine exE hw (fun b_8 hw1 => anE hw1 (fun hb1_10 hw2 => anE hw2 (fun er_12 eu_11 => ?_)))
    clear hw hw1 hw2
    subst er_12
    refine o_mgE (ws' := [ro_rrrrrrrrrrrrrrrirl x0 11 (q 0) (q 1) (q 2) (q 3) (q 4) (q 5) (q 6) (q 7) (q 8) (q 9) (q 10) (q 11) (q 12) (q 13) (q 14) hc (q 16) dr, ro_rrnnnin (q 7) 7 (q 33) (q 34) dy wn mo mu ke]) eu_11 hP hD rfl (fun hP hD => ?_)
    refine lv_if_ne (tgt := 30) hx hb dX11_isWordOf_16 (by decide) (fun c_13 => ?_) (fun c_13 => ?_)
    · have c_13 : ¬ (b_8 = 0) := fun h => c_13 ((neq b_8 0 (by omega) (Nat.le_of_ble_eq_true rfl)).mpr h)
      refine lv_iconst (v := 0) hx hb dX11_isWordOf_30 ic_0 ?_
      exact sk_iret hx hb hr rfl hlocks hK hP hD hS (⟨0, Or.inl ⟨rfl, kwo_m hdy hkd_7 (km_1 hb1_10 (by omega))⟩, rfl, rfl⟩) (Nat.le_of_ble_eq_true rfl) (Nat.le_of_ble_eq_true rfl) dX11_isWordOf_31
    · have c_13 : b_8 = 0 := (neq b_8 0 (by omega) (Nat.le_of_ble_eq_true rfl)).mp c_13
      refine lv_iload_n hx hb dX11_isWordOf_19 rfl (lv_at hl 2 rfl) ?_
      refine sk_Si (n := 1) (rest := []) (wr := [ro_rrrrrrrrrrrrrrrirl x0 11 (q 0) (q 1) (q 2) (q 3) (q 4) (q 5) (q 6) (q 7) (q 8) (q 9) (q 10) (q 11) (q 12) (q 13) (q 14) hc (q 16) dr, ro_rrnnnin (q 7) 7 (q 33) (q 34) dy wn mo mu ke]) ⟨hx, hb, hml, hown, hts⟩ hl.1 (c_kx_isDigit l D cI cJ cC cZ cS w) w_3_202 w_3_203 w_1_1 w_3_204 hd_X11_isDigit_1 ⟨⟨(Nat.le_of_ble_eq_true rfl), (Nat.le_of_ble_eq_true rfl)⟩, (Nat.le_of_ble_eq_true rfl), (Nat.le_of_ble_eq_true rfl)⟩ hK hP hD hS hA [] [0, 1] rfl rfl (by decide +kernel) (by decide +kernel) (by decide +kernel) rfl rfl (Nat.le_of_ble_eq_true rfl) dX11_isWordOf_20 (fun r_15 u H locs hw hP hD hS => ?_)
      obtain ⟨b_14, hb1_16, rfl, rfl⟩ := hw
      refine o_re (ws' := [ro_rrrrrrrrrrrrrrrirl x0 11 (q 0) (q 1) (q 2) (q 3) (q 4) (q 5) (q 6) (q 7) (q 8) (q 9) (q 10) (q 11) (q 12) (q 13) (q 14) hc (q 16) dr, ro_rrnnnin (q 7) 7 (q 33) (q 34) dy wn mo mu ke]) hP hD rfl (fun hP hD => ?_)
      refine lv_if_eq (tgt := 30) hx hb dX11_isWordOf_23 (by decide) (fun c_17 => ?_) (fun c_17 => ?_)
      · have c_17 : b_14 = 0 := (neq b_14 0 (by omega) (Nat.le_of_ble_eq_true rfl)).mp c_17
        refine lv_iconst (v := 0) hx hb dX11_isWordOf_30 ic_0 ?_
        exact sk_iret hx hb hr rfl hlocks hK hP hD hS (⟨0, Or.inl ⟨rfl, kwo_w (rr_0 hb1_16 (by omega))⟩, rfl, rfl⟩) (Nat.le_of_ble_eq_true rfl) (Nat.le_of_ble_eq_true rfl) dX11_isWordOf_31
      · have c_17 : ¬ (b_14 = 0) := fun h => c_17 ((neq b_14 0 (by omega) (Nat.le_of_ble_eq_true rfl)).mpr h)
        obtain ⟨kd_18, hkd_18, rfl⟩ := rr_1 hb1_16 (by omega)
        refine lv_iconst (v := 1) hx hb dX11_isWordOf_26 ic_1 ?_
        refine lv_goto (tgt := 31) hx hb dX11_isWordOf_27 (by decide) ?_
        exact sk_iret hx hb hr rfl hlocks hK hP hD hS (⟨1, Or.inr ⟨rfl, (kd_7, kd_18), hkd_7, rfl, km_0 hb1_10 (by omega), hkd_18, rfl⟩, rfl, rfl⟩) (Nat.le_of_ble_eq_true rfl) (Nat.le_of_ble_eq_true rfl) dX11_isWordOf_31
set_option maxHeartbeats 4000000 in
set_option maxRecDepth 100000 in
theorem c_umoodsThatSay (l : Launch) (D : va_G) (cI cJ cC cZ cS : ClassId) (q : Nat → Nat) (sa : Nat → Nat) (d : Nat) (o : Nat) (S : Nat → Nat → Nat) (hsa : ∀ j, sa j ≤ 9) (hd : d < 9) (ho : o < 10) (hSm : ∀ m, m < 10 → sa (d * 10 + m) = S d m) : skM l yX9_moodsThatSay cX9_moodsThatSay 5 (some .int) 0 0 0 0 D (skT cI cJ cC cZ cS) [.ref (q 10), .int (nI d), .int (nI o)] [ro_rrrrrr (q 10) 9 (q 61) (q 62) (q 63) (q 64) (q 65) (q 66), ra_N (q 61) cI 90 sa] (skI D (skT cI cJ cC cZ cS) (fun (r : Int32) (u : va_W) => r = nI (kcSm S d o 10) ∧ u = [ro_rrrrrr (q 10) 9 (q 61) (q 62) (q 63) (q 64) (q 65) (q 66), ra_N (q 61) cI 90 sa])) := by
  refine skM_of pf_X9_moodsThatSay (Nat.le_of_ble_eq_true rfl) ?_
  intro p e s m below meth c A ls E hP hD hl
  refine skE_el E (fun hx hb hr hml hlocks hin hown hts hK hA => ?_)
  have hown : s.vm.findClass RX9 = some m.cls := hown
  have hS : va_S A s.heap s.heap [] := va_S.rf
  have hl : lv_has ls 5 [(0, .ref (q 10)), (1, .int (nI d)), (2, .int (nI o))] := hl
  refine lv_iconst (v := 0) hx hb dX9_moodsThatSay_0 ic_0 ?_
  refine lv_istore_n (lv' := [(3, .int 0), (0, .ref (q 10)), (1, .int (nI d)), (2, .int (nI o))]) hx hb dX9_moodsThatSay_1 rfl hl (by decide) rfl (fun ls hl => ?_)
  refine lv_iconst (v := 0) hx hb dX9_moodsThatSay_2 ic_0 ?_
  refine lv_istore (lv' := [(4, .int 0), (3, .int 0), (0, .ref (q 10)), (1, .int (nI d)), (2, .int (nI o))]) hx hb dX9_moodsThatSay_3 hl (by decide) rfl (fun ls hl => ?_)
  have lp_1 : ∀ (n_2 : Nat) (i : Nat) (mk : Nat) (H : Heap) (locs : List Loc) (ls : Array Slot), 10 - i < n_2 → (i ≤ 10) → (mk = kcSm S d o i) → va_P D vwCl [ro_rrrrrr (q 10) 9 (q 61) (q 62) (q 63) (q 64) (q 65) (q 66), ra_N (q 61) cI 90 sa] H → va_D A [ro_rrrrrr (q 10) 9 (q 61) (q 62) (q 63) (q 64) (q 65) (q 66), ra_N (q 61) cI 90 sa] → va_S A s.heap H locs → lv_has ls 5 [(4, .int (nI i)), (3, .int (nI mk)), (0, .ref (q 10)), (1, .int (nI d)), (2, .int (nI o))] → W p l e { frames := 0, cells := 0, slots := 0, locals := 0 } s m ([.ref (q 10), .int (nI d), .int (nI o)] : List Value).toArray below meth c H locs 0 0 (MQ below (skI D (skT cI cJ cC cZ cS) (fun (r : Int32) (u : va_W) => r = nI (kcSm S d o 10) ∧ u = [ro_rrrrrr (q 10) 9 (q 61) (q 62) (q 63) (q 64) (q 65) (q 66), ra_N (q 61) cI 90 sa]) A) ([.ref (q 10), .int (nI d), .int (nI o)] : List Value).toArray s 0 0 A) (F0 m 5 ls []) := by
    intro n_2
    induction n_2 with
    | zero => intro i mk H locs ls hm; exact absurd hm (Nat.not_lt_zero _)
    | succ n_2 ih_lp_1 =>
      intro i mk H locs ls hm hi hmk hP hD hS hl
      refine lv_iload hx hb dX9_moodsThatSay_5 (lv_at hl 0 rfl) ?_
      refine lv_bipush (v := 10) hx hb dX9_moodsThatSay_7 (by decide) ?_
      refine lv_icmp_ge (tgt := 41) hx hb dX9_moodsThatSay_9 (by decide) (fun c_3 => ?_) (fun c_3 => ?_)
      · have c_3 : 10 ≤ i := (nle 10 i (Nat.le_of_ble_eq_true rfl) (by omega)).mp c_3
        have hmk2 : mk = kcSm S d o 10 := by rw [hmk, show i = 10 by omega]
        subst hmk2
        refine lv_iload_n hx hb dX9_moodsThatSay_41 rfl (lv_at hl 1 rfl) ?_
        exact sk_iret hx hb hr rfl hlocks hK hP hD hS (⟨rfl, rfl⟩) (Nat.le_of_ble_eq_true rfl) (Nat.le_of_ble_eq_true rfl) dX9_moodsThatSay_42
      · have c_3 : ¬ (10 ≤ i) := fun h => c_3 ((nle 10 i (Nat.le_of_ble_eq_true rfl) (by omega)).mpr h)
        refine lv_aload_n hx hb dX9_moodsThatSay_12 rfl (lv_at hl 2 rfl) ?_
        refine sk_get (v := .ref (q 61)) (C := RX9) (T := TX9) (N := 6) hx hb hts inlX9 hown hK hP 0 rfl rfl 0 (Nat.le_of_ble_eq_true rfl) w_2_63 rfl dX9_moodsThatSay_13 ?_
        refine lv_iload_n hx hb dX9_moodsThatSay_16 rfl (lv_at hl 3 rfl) ?_
        refine lv_bipush (v := 10) hx hb dX9_moodsThatSay_17 (by decide) ?_
        refine lv_imul hx hb dX9_moodsThatSay_19 ?_
        refine sk_top (nI (d * 10)) (nmul d 10) ?_
        refine lv_iload hx hb dX9_moodsThatSay_20 (lv_at hl 0 rfl) ?_
        refine lv_iadd hx hb dX9_moodsThatSay_22 ?_
        refine sk_top (nI (d * 10 + i)) (nI_add (d * 10) i) ?_
        refine va_iald hx hb hK.1 hP 1 0 rfl rfl (vin (d * 10 + i) 90 (by omega) (Nat.le_of_ble_eq_true rfl)) dX9_moodsThatSay_23 ?_
        refine sk_top (nI (sa (d * 10 + i))) (nrd sa (d * 10 + i) (by omega)) ?_
        have hb_4 := hsa (d * 10 + i)
        refine lv_iload_n hx hb dX9_moodsThatSay_24 rfl (lv_at hl 4 rfl) ?_
        refine lv_icmp_ne (tgt := 35) hx hb dX9_moodsThatSay_25 (by decide) (fun c_5 => ?_) (fun c_5 => ?_)
        · have c_5 : ¬ (sa (d * 10 + i) = o) := fun h => c_5 ((neq (sa (d * 10 + i)) o (by omega) (by omega)).mpr h)
          refine lv_iinc (v := nI (i + 1)) (lv' := [(4, .int (nI (i + 1))), (3, .int (nI mk)), (0, .ref (q 10)), (1, .int (nI d)), (2, .int (nI o))]) hx hb dX9_moodsThatSay_35 hl (k := 0) rfl (ninc i 1 (by decide)) (by decide) rfl (fun ls hl => ?_)
          refine lv_goto (tgt := 5) hx hb dX9_moodsThatSay_38 (by decide) ?_
          exact ih_lp_1 (i + 1) mk _ _ _ (by omega) (by omega) (hmk.trans (kcK_no _ i (fun q => c_5 (by rw [hSm i (by omega)]; exact eq_of_beq q))).symm) hP hD hS (lv_sub hl [0, 1, 2, 3, 4] rfl)
        · have c_5 : sa (d * 10 + i) = o := (neq (sa (d * 10 + i)) o (by omega) (by omega)).mp c_5
          refine lv_iload_n hx hb dX9_moodsThatSay_28 rfl (lv_at hl 1 rfl) ?_
          refine lv_iconst (v := 1) hx hb dX9_moodsThatSay_29 ic_1 ?_
          refine lv_iload hx hb dX9_moodsThatSay_30 (lv_at hl 0 rfl) ?_
          refine lv_ishl hx hb dX9_moodsThatSay_32 ?_
          refine lv_ior hx hb dX9_moodsThatSay_33 ?_
          have hml_ := ksm_lt S d o (show i ≤ 10 by omega)
          rw [← hmk] at hml_
          refine sk_top (nI (mk ||| 2 ^ i)) (kor_10 (by omega) (by omega)) ?_
          refine lv_istore_n (lv' := [(3, .int (nI (mk ||| 2 ^ i))), (4, .int (nI i)), (0, .ref (q 10)), (1, .int (nI d)), (2, .int (nI o))]) hx hb dX9_moodsThatSay_34 rfl hl (by decide) rfl (fun ls hl => ?_)
          refine lv_iinc (v := nI (i + 1)) (lv' := [(4, .int (nI (i + 1))), (3, .int (nI (mk ||| 2 ^ i))), (0, .ref (q 10)), (1, .int (nI d)), (2, .int (nI o))]) hx hb dX9_moodsThatSay_35 hl (k := 1) rfl (ninc i 1 (by decide)) (by decide) rfl (fun ls hl => ?_)
          refine lv_goto (tgt := 5) hx hb dX9_moodsThatSay_38 (by decide) ?_
          exact ih_lp_1 (i + 1) (mk ||| 2 ^ i) _ _ _ (by omega) (by omega) (by rw [hmk]; exact kcK_or _ i (kbeq (by rw [← hSm i (by omega)]; exact c_5))) hP hD hS (lv_sub hl [0, 1, 2, 3, 4] rfl)
  exact lp_1 (10 - 0 + 1) 0 0 _ _ _ (Nat.lt_succ_self _) (by omega) rfl hP hD hS (lv_sub hl [0, 1, 2, 3, 4] rfl)
set_option maxHeartbeats 4000000 in
set_option maxRecDepth 100000 in
theorem c_uallowOnly (l : Launch) (D : va_G) (cI cJ cC cZ cS : ClassId) (q : Nat → Nat) (gd : Nat) (gs : Nat) (e2 : Nat → Int32) (d : Nat) (o : Int32) (hd : d < 9) : skM l yX1_allowOnly cX1_allowOnly 3 none 0 0 0 0 D (skT cI cJ cC cZ cS) [.ref (q 11), .int (nI d), .int o] [ro_rrrrrrrnn (q 11) 1 (q 10) (q 67) (q 68) (q 69) (q 70) (q 71) (q 72) gd gs, ra_I (q 68) cI 9 e2] (skV D (skT cI cJ cC cZ cS) (fun (u : va_W) => ∃ (g2 : Nat → Int32), g2 = upd e2 d (e2 d &&& o) ∧ u = [ro_rrrrrrrnn (q 11) 1 (q 10) (q 67) (q 68) (q 69) (q 70) (q 71) (q 72) gd gs, ra_I (q 68) cI 9 g2])) := by
  refine skM_of pf_X1_allowOnly (Nat.le_of_ble_eq_true rfl) ?_
  intro p e s m below meth c A ls E hP hD hl
  refine skE_el E (fun hx hb hr hml hlocks hin hown hts hK hA => ?_)
  have hown : s.vm.findClass RX1 = some m.cls := hown
  have hS : va_S A s.heap s.heap [] := va_S.rf
  have hl : lv_has ls 3 [(0, .ref (q 11)), (1, .int (nI d)), (2, .int o)] := hl
  refine lv_aload_n hx hb dX1_allowOnly_0 rfl (lv_at hl 0 rfl) ?_
  refine sk_get (v := .ref (q 68)) (C := RX1) (T := TX1) (N := 9) hx hb hts inlX1 hown hK hP 0 rfl rfl 2 (Nat.le_of_ble_eq_true rfl) w_2_97 rfl dX1_allowOnly_1 ?_
  refine lv_iload_n hx hb dX1_allowOnly_4 rfl (lv_at hl 1 rfl) ?_
  refine lv_dup2_11 hx hb dX1_allowOnly_5 rfl rfl ?_
  refine va_iald hx hb hK.1 hP 1 0 rfl rfl (vin d 9 (by omega) (Nat.le_of_ble_eq_true rfl)) dX1_allowOnly_6 ?_
  refine sk_top (e2 d) (by rw [nI_clamp (by omega)]) ?_
  refine lv_iload_n hx hb dX1_allowOnly_7 rfl (lv_at hl 2 rfl) ?_
  refine lv_iand hx hb dX1_allowOnly_8 ?_
  refine sk_iastE (k := d) (ws' := fun f_1 => [ro_rrrrrrrnn (q 11) 1 (q 10) (q 67) (q 68) (q 69) (q 70) (q 71) (q 72) gd gs, ra_I (q 68) cI 9 f_1]) hx hb hK hP hD hS 1 0 rfl rfl (by omega) (by omega) (fun _ => rfl) dX1_allowOnly_9 (fun f_1 H locs ef_2 hP hD hS => ?_)
  exact sk_vret hx hb hr hlocks hK hP hD hS (⟨f_1, ef_2, rfl⟩) (Nat.le_of_ble_eq_true rfl) (Nat.le_of_ble_eq_true rfl) dX1_allowOnly_10
theorem dg_X11_lookByWord_0_0 : bqL cX11_lookByWord 0 [(0, [42]), (1, [180, 0, 76]), (4, [42]), (5, [180, 0, 49]), (8, [42]), (9, [180, 0, 59]), (12, [182, 0, 185]), (15, [42]), (16, [180, 0, 85]), (19, [42]), (20, [180, 0, 59]), (23, [42]), (24, [180, 0, 59]), (27, [180, 0, 153]), (30, [3]), (31, [182, 0, 230]), (34, [42]), (35, [180, 0, 85]), (38, [27]), (39, [42]), (40, [180, 0, 76]), (43, [27]), (44, [28]), (45, [182, 1, 63]), (48, [182, 1, 66]), (51, [42]), (52, [180, 0, 85]), (55, [182, 0, 234]), (58, [172])] = true := by decide +kernel
theorem dX11_lookByWord_0 : decode cX11_lookByWord 0 = .ok (.aload_n 0, 1) := q_aload_n0 (bat_get dg_X11_lookByWord_0_0 0 rfl rfl)
theorem dX11_lookByWord_1 : decode cX11_lookByWord 1 = .ok (.getfield 76, 3) := q_getfield (bat_get dg_X11_lookByWord_0_0 1 rfl rfl) rfl
theorem dX11_lookByWord_4 : decode cX11_lookByWord 4 = .ok (.aload_n 0, 1) := q_aload_n0 (bat_get dg_X11_lookByWord_0_0 2 rfl rfl)
theorem dX11_lookByWord_5 : decode cX11_lookByWord 5 = .ok (.getfield 49, 3) := q_getfield (bat_get dg_X11_lookByWord_0_0 3 rfl rfl) rfl
theorem dX11_lookByWord_8 : decode cX11_lookByWord 8 = .ok (.aload_n 0, 1) := q_aload_n0 (bat_get dg_X11_lookByWord_0_0 4 rfl rfl)
theorem dX11_lookByWord_9 : decode cX11_lookByWord 9 = .ok (.getfield 59, 3) := q_getfield (bat_get dg_X11_lookByWord_0_0 5 rfl rfl) rfl
theorem dX11_lookByWord_12 : decode cX11_lookByWord 12 = .ok (.invokevirtual 185, 3) := q_invokevirtual (bat_get dg_X11_lookByWord_0_0 6 rfl rfl) rfl
theorem dX11_lookByWord_15 : decode cX11_lookByWord 15 = .ok (.aload_n 0, 1) := q_aload_n0 (bat_get dg_X11_lookByWord_0_0 7 rfl rfl)
theorem dX11_lookByWord_16 : decode cX11_lookByWord 16 = .ok (.getfield 85, 3) := q_getfield (bat_get dg_X11_lookByWord_0_0 8 rfl rfl) rfl
theorem dX11_lookByWord_19 : decode cX11_lookByWord 19 = .ok (.aload_n 0, 1) := q_aload_n0 (bat_get dg_X11_lookByWord_0_0 9 rfl rfl)
theorem dX11_lookByWord_20 : decode cX11_lookByWord 20 = .ok (.getfield 59, 3) := q_getfield (bat_get dg_X11_lookByWord_0_0 10 rfl rfl) rfl
theorem dX11_lookByWord_23 : decode cX11_lookByWord 23 = .ok (.aload_n 0, 1) := q_aload_n0 (bat_get dg_X11_lookByWord_0_0 11 rfl rfl)
theorem dX11_lookByWord_24 : decode cX11_lookByWord 24 = .ok (.getfield 59, 3) := q_getfield (bat_get dg_X11_lookByWord_0_0 12 rfl rfl) rfl
theorem dX11_lookByWord_27 : decode cX11_lookByWord 27 = .ok (.getfield 153, 3) := q_getfield (bat_get dg_X11_lookByWord_0_0 13 rfl rfl) rfl
theorem dX11_lookByWord_30 : decode cX11_lookByWord 30 = .ok (.iconst 0, 1) := q_iconst0 (bat_get dg_X11_lookByWord_0_0 14 rfl rfl)
theorem dX11_lookByWord_31 : decode cX11_lookByWord 31 = .ok (.invokevirtual 230, 3) := q_invokevirtual (bat_get dg_X11_lookByWord_0_0 15 rfl rfl) rfl
theorem dX11_lookByWord_34 : decode cX11_lookByWord 34 = .ok (.aload_n 0, 1) := q_aload_n0 (bat_get dg_X11_lookByWord_0_0 16 rfl rfl)
theorem dX11_lookByWord_35 : decode cX11_lookByWord 35 = .ok (.getfield 85, 3) := q_getfield (bat_get dg_X11_lookByWord_0_0 17 rfl rfl) rfl
theorem dX11_lookByWord_38 : decode cX11_lookByWord 38 = .ok (.iload_n 1, 1) := q_iload_n1 (bat_get dg_X11_lookByWord_0_0 18 rfl rfl)
theorem dX11_lookByWord_39 : decode cX11_lookByWord 39 = .ok (.aload_n 0, 1) := q_aload_n0 (bat_get dg_X11_lookByWord_0_0 19 rfl rfl)
theorem dX11_lookByWord_40 : decode cX11_lookByWord 40 = .ok (.getfield 76, 3) := q_getfield (bat_get dg_X11_lookByWord_0_0 20 rfl rfl) rfl
theorem dX11_lookByWord_43 : decode cX11_lookByWord 43 = .ok (.iload_n 1, 1) := q_iload_n1 (bat_get dg_X11_lookByWord_0_0 21 rfl rfl)
theorem dX11_lookByWord_44 : decode cX11_lookByWord 44 = .ok (.iload_n 2, 1) := q_iload_n2 (bat_get dg_X11_lookByWord_0_0 22 rfl rfl)
theorem dX11_lookByWord_45 : decode cX11_lookByWord 45 = .ok (.invokevirtual 319, 3) := q_invokevirtual (bat_get dg_X11_lookByWord_0_0 23 rfl rfl) rfl
theorem dX11_lookByWord_48 : decode cX11_lookByWord 48 = .ok (.invokevirtual 322, 3) := q_invokevirtual (bat_get dg_X11_lookByWord_0_0 24 rfl rfl) rfl
theorem dX11_lookByWord_51 : decode cX11_lookByWord 51 = .ok (.aload_n 0, 1) := q_aload_n0 (bat_get dg_X11_lookByWord_0_0 25 rfl rfl)
theorem dX11_lookByWord_52 : decode cX11_lookByWord 52 = .ok (.getfield 85, 3) := q_getfield (bat_get dg_X11_lookByWord_0_0 26 rfl rfl) rfl
theorem dX11_lookByWord_55 : decode cX11_lookByWord 55 = .ok (.invokevirtual 234, 3) := q_invokevirtual (bat_get dg_X11_lookByWord_0_0 27 rfl rfl) rfl
theorem dX11_lookByWord_58 : decode cX11_lookByWord 58 = .ok (.ireturn, 1) := q_ireturn (bat_get dg_X11_lookByWord_0_0 28 rfl rfl)
theorem w_4_194 : (Cond.methodLink RX11 319 yX9_moodsThatSay) ∈ wsL_law := sk_mem (ck_4 _ (List.mem_of_getElem? (i := 194) rfl)) rfl
theorem w_4_195 : (Cond.instanceMethod yX9_moodsThatSay) ∈ wsL_law := sk_mem (ck_4 _ (List.mem_of_getElem? (i := 195) rfl)) rfl
theorem w_4_196 : (Cond.selects RX9 yX9_moodsThatSay yX9_moodsThatSay) ∈ wsL_law := sk_mem (ck_4 _ (List.mem_of_getElem? (i := 196) rfl)) rfl
theorem w_4_198 : (Cond.methodLink RX11 322 yX1_allowOnly) ∈ wsL_law := sk_mem (ck_4 _ (List.mem_of_getElem? (i := 198) rfl)) rfl
theorem w_4_199 : (Cond.instanceMethod yX1_allowOnly) ∈ wsL_law := sk_mem (ck_4 _ (List.mem_of_getElem? (i := 199) rfl)) rfl
theorem w_4_200 : (Cond.selects RX1 yX1_allowOnly yX1_allowOnly) ∈ wsL_law := sk_mem (ck_4 _ (List.mem_of_getElem? (i := 200) rfl)) rfl
theorem w_4_193 : (Cond.code yX11_lookByWord cX11_lookByWord 3 (some .boolean)) ∈ wsL_law := sk_mem (ck_4 _ (List.mem_of_getElem? (i := 193) rfl)) rfl
def om_23_300000 : List Bool := false :: true :: true :: false :: false :: false :: false :: false :: false :: false :: false :: false :: false :: false :: false :: false :: false :: false :: false :: false :: false :: false :: false :: []
def om_23_50 : List Bool := false :: false :: false :: false :: false :: false :: false :: false :: false :: false :: false :: false :: false :: false :: false :: false :: true :: false :: true :: false :: false :: false :: false :: []
theorem hd_X9_moodsThatSay_2 : skD yX9_moodsThatSay 2 := by decide +kernel
theorem hd_X1_allowOnly_2 : skD yX1_allowOnly 2 := by decide +kernel
set_option maxHeartbeats 4000000 in
set_option maxRecDepth 100000 in
theorem c_ux_lookByWord (l : Launch) (D : va_G) (cI cJ cC cZ cS : ClassId) (x0 : Nat) (q : Nat → Nat) (hc : Int32) (dr : Int64) (sa : Nat → Nat) (ft : Nat → Int32) (fa : Nat → Int32) (fo : Nat → Int32) (fg : Nat → Int64) (fk : Nat → Int32) (dh : Nat) (mh : Nat) (uh : Int32) (rh : Int32) (nh : Nat) (ch : Nat) (wh : Nat) (y1 : Nat → Int32) (y2 : Nat → Int64) (y3 : Nat → Int64) (y4 : Nat → Int64) (yf : Nat → Int32) (yt : Nat → Int32) (gd : Nat) (gs : Nat) (e1 : Nat → Int32) (e2 : Nat → Int32) (e3 : Nat → Int32) (dy : Nat) (wn : Nat) (mo : Nat) (ke : Nat) (mu : Int32) (fb : Nat → Int32) (fw : Nat → Int32) (Ba : Nat → Nat) (We : Nat → Nat) (L : LkS) (U : Nat → Bool) (d : Nat) (w : Nat) (hsa : ∀ j, sa j ≤ 9) (hch : ch ≤ 1600) (hwh : wh ≤ 1) (hdy : dy ≤ 9) (hmo : mo ≤ 9) (hLk : kcLk L) (hcd : cdK (lK (lkF L)) ch wh y1) (hsg : ∀ v, v < 3 → sgO (lG (lkF L) v) (yf v) (yt v)) (hfb : ∀ j, j < 9 → fb j = nI (Ba j)) (hfw : ∀ j, j < 9 → fw j = nI (We j)) (hB9 : ∀ j, Ba j ≤ 9) (hW9 : ∀ j, We j ≤ 9) (hwn : wn ≤ 999) (hU : muO U mu) (hti : kcTI L sa ft fa fo fg fk) (hd : d < dy) (hw : w < 10) : skM l yX11_lookByWord cX11_lookByWord 3 (some .boolean) 5 128 0 0 D (skT cI cJ cC cZ cS) [.ref x0, .int (nI d), .int (nI w)] [ro_rrrrrrrrrrrrrrrirl x0 11 (q 0) (q 1) (q 2) (q 3) (q 4) (q 5) (q 6) (q 7) (q 8) (q 9) (q 10) (q 11) (q 12) (q 13) (q 14) hc (q 16) dr, ro_rrrrrr (q 10) 9 (q 61) (q 62) (q 63) (q 64) (q 65) (q 66), ra_N (q 61) cI 90 sa, ra_I (q 62) cI 900 ft, ra_I (q 63) cI 90 fa, ra_I (q 64) cI 90 fo, ra_J (q 65) cJ 90 fg, ra_I (q 66) cI 9 fk, ro_rrrrrnniin (q 5) 2 (q 44) (q 45) (q 46) (q 47) (q 48) dh mh uh rh nh, ro_rrrrnn (q 44) 0 (q 49) (q 50) (q 51) (q 52) ch wh, ra_I (q 49) cI 1600 y1, ra_J (q 50) cJ 64 y2, ra_J (q 51) cJ 9 y3, ra_J (q 52) cJ 10 y4, ra_I (q 47) cI 3 yf, ra_I (q 48) cI 3 yt, ro_rrrrrrrnn (q 11) 1 (q 10) (q 67) (q 68) (q 69) (q 70) (q 71) (q 72) gd gs, ra_I (q 67) cI 90 e1, ra_I (q 68) cI 9 e2, ra_I (q 69) cI 10 e3, ro_rrnnnin (q 7) 7 (q 33) (q 34) dy wn mo mu ke, ra_I (q 33) cI 9 fb, ra_I (q 34) cI 9 fw] (skI D (skT cI cJ cC cZ cS) (fun (r : Int32) (u : va_W) => ∃ (sa2 : Nat → Nat), ∃ (ft2 : Nat → Int32), ∃ (fa2 : Nat → Int32), ∃ (fo2 : Nat → Int32), ∃ (fg2 : Nat → Int64), ∃ (fk2 : Nat → Int32), ∃ (z2 : Nat → Int64), ∃ (z3 : Nat → Int64), ∃ (g1 : Nat → Int32), ∃ (g2 : Nat → Int32), ∃ (g3 : Nat → Int32), ∃ (b : Nat), (∀ j, sa2 j ≤ 9) ∧ kcTI L sa2 ft2 fa2 fo2 fg2 fk2 ∧ kcLd (kcFw (kcFo L wn Ba We U 0) (kSd L wn Ba We) d w) dy g1 g2 ∧ kcLv (kcFw (kcFo L wn Ba We U 0) (kSd L wn Ba We) d w) dy 0 g3 ∧ ((b = 0 ∧ kcC (kcFw (kcFo L wn Ba We U 0) (kSd L wn Ba We) d w) dy 0 mo = 0) ∨ (b = 1 ∧ 0 < kcC (kcFw (kcFo L wn Ba We U 0) (kSd L wn Ba We) d w) dy 0 mo)) ∧ r = nI b ∧ u = [ro_rrrrrrrrrrrrrrrirl x0 11 (q 0) (q 1) (q 2) (q 3) (q 4) (q 5) (q 6) (q 7) (q 8) (q 9) (q 10) (q 11) (q 12) (q 13) (q 14) hc (q 16) dr, ro_rrrrrr (q 10) 9 (q 61) (q 62) (q 63) (q 64) (q 65) (q 66), ra_N (q 61) cI 90 sa2, ra_I (q 62) cI 900 ft2, ra_I (q 63) cI 90 fa2, ra_I (q 64) cI 90 fo2, ra_J (q 65) cJ 90 fg2, ra_I (q 66) cI 9 fk2, ro_rrrrrnniin (q 5) 2 (q 44) (q 45) (q 46) (q 47) (q 48) dh mh uh rh nh, ro_rrrrnn (q 44) 0 (q 49) (q 50) (q 51) (q 52) ch wh, ra_I (q 49) cI 1600 y1, ra_J (q 50) cJ 64 z2, ra_J (q 51) cJ 9 z3, ra_J (q 52) cJ 10 y4, ra_I (q 47) cI 3 yf, ra_I (q 48) cI 3 yt, ro_rrrrrrrnn (q 11) 1 (q 10) (q 67) (q 68) (q 69) (q 70) (q 71) (q 72) dy mo, ra_I (q 67) cI 90 g1, ra_I (q 68) cI 9 g2, ra_I (q 69) cI 10 g3, ro_rrnnnin (q 7) 7 (q 33) (q 34) dy wn mo mu ke, ra_I (q 33) cI 9 fb, ra_I (q 34) cI 9 fw])) := by
  refine skM_of pf_X11_lookByWord (Nat.le_of_ble_eq_true rfl) ?_
  intro p e s m below meth c A ls E hP hD hl
  refine skE_el E (fun hx hb hr hml hlocks hin hown hts hK hA => ?_)
  have hown : s.vm.findClass RX11 = some m.cls := hown
  have hS : va_S A s.heap s.heap [] := va_S.rf
  have hl : lv_has ls 3 [(0, .ref x0), (1, .int (nI d)), (2, .int (nI w))] := hl
  refine lv_aload_n hx hb dX11_lookByWord_0 rfl (lv_at hl 0 rfl) ?_
  refine sk_get (v := .ref (q 10)) (C := RX11) (T := TX11) (N := 18) hx hb hts inlX11 hown hK hP 0 rfl rfl 10 (Nat.le_of_ble_eq_true rfl) w_2_133 rfl dX11_lookByWord_1 ?_
  refine lv_aload_n hx hb dX11_lookByWord_4 rfl (lv_at hl 0 rfl) ?_
  refine sk_get (v := .ref (q 5)) (C := RX11) (T := TX11) (N := 18) hx hb hts inlX11 hown hK hP 0 rfl rfl 5 (Nat.le_of_ble_eq_true rfl) w_2_128 rfl dX11_lookByWord_5 ?_
  refine lv_aload_n hx hb dX11_lookByWord_8 rfl (lv_at hl 0 rfl) ?_
  refine sk_get (v := .ref (q 7)) (C := RX11) (T := TX11) (N := 18) hx hb hts inlX11 hown hK hP 0 rfl rfl 7 (Nat.le_of_ble_eq_true rfl) w_2_130 rfl dX11_lookByWord_9 ?_
  refine sk_Vv (q0 := 0) (n := 2) (rest := []) (wr := fmR om_23_3fff87 _) ⟨hx, hb, hml, hown, hts⟩ hl.1 (c_kfit l D cI cJ cC cZ cS q dh mh uh rh nh ch wh y1 y2 y3 y4 yf yt sa ft fa fo fg fk (q 7) (q 33) (q 34) dy wn mo ke mu fb fw Ba We L hsa hch hwh hdy hmo hLk hcd hsg hfb hfw hB9 hW9 hwn hti) w_3_205 w_3_206 w_3_207 w_1_12 w_3_208 hd_X9_fit_2 ⟨⟨(Nat.le_of_ble_eq_true rfl), (Nat.le_of_ble_eq_true rfl)⟩, (Nat.le_of_ble_eq_true rfl), (Nat.le_of_ble_eq_true rfl)⟩ hK hP hD hS hA (fmT om_23_3fff87 0) (fmF om_23_3fff87 0) (fm_C1 rfl rfl) (fm_R rfl rfl) (fm_nT om_23_3fff87 0) (fm_nF om_23_3fff87 0) (fm_di om_23_3fff87 0) rfl rfl rfl rfl (Nat.le_of_ble_eq_true rfl) dX11_lookByWord_12 (fun u H locs hw hP hD hS => ?_)
  refine exE hw (fun sa2_1 hw1 => exE hw1 (fun ft2_2 hw2 => exE hw2 (fun fa2_3 hw3 => exE hw3 (fun fo2_4 hw4 => exE hw4 (fun fg2_5 hw5 => exE hw5 (fun fk2_6 hw6 => exE hw6 (fun z2_7 hw7 => exE hw7 (fun z3_8 hw8 => anE hw8 (fun hsa2_9 hw9 => anE hw9 (fun hti2_10 hw10 => anE hw10 (fun hrows_11 eu_12 => ?_)))))))))))
  clear hw hw1 hw2 hw3 hw4 hw5 hw6 hw7 hw8 hw9 hw10
  refine o_mgE (ws' := [ro_rrrrrrrrrrrrrrrirl x0 11 (q 0) (q 1) (q 2) (q 3) (q 4) (q 5) (q 6) (q 7) (q 8) (q 9) (q 10) (q 11) (q 12) (q 13) (q 14) hc (q 16) dr, ro_rrrrrr (q 10) 9 (q 61) (q 62) (q 63) (q 64) (q 65) (q 66), ra_N (q 61) cI 90 sa2_1, ra_I (q 62) cI 900 ft2_2, ra_I (q 63) cI 90 fa2_3, ra_I (q 64) cI 90 fo2_4, ra_J (q 65) cJ 90 fg2_5, ra_I (q 66) cI 9 fk2_6, ro_rrrrrnniin (q 5) 2 (q 44) (q 45) (q 46) (q 47) (q 48) dh mh uh rh nh, ro_rrrrnn (q 44) 0 (q 49) (q 50) (q 51) (q 52) ch wh, ra_I (q 49) cI 1600 y1, ra_J (q 50) cJ 64 z2_7, ra_J (q 51) cJ 9 z3_8, ra_J (q 52) cJ 10 y4, ra_I (q 47) cI 3 yf, ra_I (q 48) cI 3 yt, ro_rrrrrrrnn (q 11) 1 (q 10) (q 67) (q 68) (q 69) (q 70) (q 71) (q 72) gd gs, ra_I (q 67) cI 90 e1, ra_I (q 68) cI 9 e2, ra_I (q 69) cI 10 e3, ro_rrnnnin (q 7) 7 (q 33) (q 34) dy wn mo mu ke, ra_I (q 33) cI 9 fb, ra_I (q 34) cI 9 fw]) eu_12 hP hD rfl (fun hP hD => ?_)
  refine lv_aload_n hx hb dX11_lookByWord_15 rfl (lv_at hl 0 rfl) ?_
  refine sk_get (v := .ref (q 11)) (C := RX11) (T := TX11) (N := 18) hx hb hts inlX11 hown hK hP 0 rfl rfl 11 (Nat.le_of_ble_eq_true rfl) w_2_134 rfl dX11_lookByWord_16 ?_
  refine lv_aload_n hx hb dX11_lookByWord_19 rfl (lv_at hl 0 rfl) ?_
  refine sk_get (v := .ref (q 7)) (C := RX11) (T := TX11) (N := 18) hx hb hts inlX11 hown hK hP 0 rfl rfl 7 (Nat.le_of_ble_eq_true rfl) w_2_130 rfl dX11_lookByWord_20 ?_
  refine lv_aload_n hx hb dX11_lookByWord_23 rfl (lv_at hl 0 rfl) ?_
  refine sk_get (v := .ref (q 7)) (C := RX11) (T := TX11) (N := 18) hx hb hts inlX11 hown hK hP 0 rfl rfl 7 (Nat.le_of_ble_eq_true rfl) w_2_130 rfl dX11_lookByWord_24 ?_
  refine sk_get (v := .int mu) (C := RX7) (T := TX7) (N := 7) hx hb hts inlX7 hown hK hP 20 rfl rfl 5 (Nat.le_of_ble_eq_true rfl) w_2_12 rfl dX11_lookByWord_27 ?_
  refine lv_iconst (v := 0) hx hb dX11_lookByWord_30 ic_0 ?_
  refine sk_Vv (q0 := 0) (n := 3) (rest := []) (wr := fmR om_23_3e0074 _) ⟨hx, hb, hml, hown, hts⟩ hl.1 (c_klay l D cI cJ cC cZ cS q gd gs e1 e2 sa2_1 ft2_2 fa2_3 fo2_4 (q 7) (q 33) (q 34) dy wn mo ke mu fb fw Ba We L 0 U mu fg2_5 hsa2_9 hdy hmo (by decide) hU hrows_11) w_4_47 w_4_48 w_4_49 w_1_13 w_4_50 hd_X1_lay_3 ⟨⟨(Nat.le_of_ble_eq_true rfl), (Nat.le_of_ble_eq_true rfl)⟩, (Nat.le_of_ble_eq_true rfl), (Nat.le_of_ble_eq_true rfl)⟩ hK hP hD hS hA [16, 17, 18, 1, 2, 3, 4, 5, 20] (fmF om_23_3e0074 0) rfl (fm_R rfl rfl) (by decide +kernel) (fm_nF om_23_3e0074 0) (by decide +kernel) rfl rfl rfl rfl (Nat.le_of_ble_eq_true rfl) dX11_lookByWord_31 (fun u H locs hw hP hD hS => ?_)
  refine exE hw (fun g1_13 hw1 => exE hw1 (fun g2_14 hw2 => anE hw2 (fun hld2_15 eu_16 => ?_)))
  clear hw hw1 hw2
  refine o_mgqE (ux := [ro_rrrrrr (q 10) 9 (q 61) (q 62) (q 63) (q 64) (q 65) (q 66), ra_N (q 61) cI 90 sa2_1, ra_I (q 62) cI 900 ft2_2, ra_I (q 63) cI 90 fa2_3, ra_I (q 64) cI 90 fo2_4, ro_rrrrrrrnn (q 11) 1 (q 10) (q 67) (q 68) (q 69) (q 70) (q 71) (q 72) dy mo, ra_I (q 67) cI 90 g1_13, ra_I (q 68) cI 9 g2_14, ro_rrnnnin (q 7) 7 (q 33) (q 34) dy wn mo mu ke]) (ws' := [ro_rrrrrrrrrrrrrrrirl x0 11 (q 0) (q 1) (q 2) (q 3) (q 4) (q 5) (q 6) (q 7) (q 8) (q 9) (q 10) (q 11) (q 12) (q 13) (q 14) hc (q 16) dr, ro_rrrrrr (q 10) 9 (q 61) (q 62) (q 63) (q 64) (q 65) (q 66), ra_N (q 61) cI 90 sa2_1, ra_I (q 62) cI 900 ft2_2, ra_I (q 63) cI 90 fa2_3, ra_I (q 64) cI 90 fo2_4, ra_J (q 65) cJ 90 fg2_5, ra_I (q 66) cI 9 fk2_6, ro_rrrrrnniin (q 5) 2 (q 44) (q 45) (q 46) (q 47) (q 48) dh mh uh rh nh, ro_rrrrnn (q 44) 0 (q 49) (q 50) (q 51) (q 52) ch wh, ra_I (q 49) cI 1600 y1, ra_J (q 50) cJ 64 z2_7, ra_J (q 51) cJ 9 z3_8, ra_J (q 52) cJ 10 y4, ra_I (q 47) cI 3 yf, ra_I (q 48) cI 3 yt, ro_rrrrrrrnn (q 11) 1 (q 10) (q 67) (q 68) (q 69) (q 70) (q 71) (q 72) dy mo, ra_I (q 67) cI 90 g1_13, ra_I (q 68) cI 9 g2_14, ra_I (q 69) cI 10 e3, ro_rrnnnin (q 7) 7 (q 33) (q 34) dy wn mo mu ke, ra_I (q 33) cI 9 fb, ra_I (q 34) cI 9 fw]) eu_16 [3, 4, 5, 6, 7, 0, 1, 2, 8] (by decide +kernel) rfl hP hD rfl (fun hP hD => ?_)
  refine lv_aload_n hx hb dX11_lookByWord_34 rfl (lv_at hl 0 rfl) ?_
  refine sk_get (v := .ref (q 11)) (C := RX11) (T := TX11) (N := 18) hx hb hts inlX11 hown hK hP 0 rfl rfl 11 (Nat.le_of_ble_eq_true rfl) w_2_134 rfl dX11_lookByWord_35 ?_
  refine lv_iload_n hx hb dX11_lookByWord_38 rfl (lv_at hl 1 rfl) ?_
  refine lv_aload_n hx hb dX11_lookByWord_39 rfl (lv_at hl 0 rfl) ?_
  refine sk_get (v := .ref (q 10)) (C := RX11) (T := TX11) (N := 18) hx hb hts inlX11 hown hK hP 0 rfl rfl 10 (Nat.le_of_ble_eq_true rfl) w_2_133 rfl dX11_lookByWord_40 ?_
  refine lv_iload_n hx hb dX11_lookByWord_43 rfl (lv_at hl 1 rfl) ?_
  refine lv_iload_n hx hb dX11_lookByWord_44 rfl (lv_at hl 2 rfl) ?_
  refine sk_Vi (q0 := 0) (n := 2) (rest := [.int (nI d), .ref (q 11)]) (wr := fmR om_23_300000 _) ⟨hx, hb, hml, hown, hts⟩ hl.1 (c_umoodsThatSay l D cI cJ cC cZ cS q sa2_1 d w (kSd L wn Ba We) hsa2_9 (by omega) hw (fun m hm => ((hrows_11 d (by omega)).1 m hm).1)) w_4_194 w_4_195 w_4_196 w_1_12 w_4_197 hd_X9_moodsThatSay_2 ⟨⟨(Nat.le_of_ble_eq_true rfl), (Nat.le_of_ble_eq_true rfl)⟩, (Nat.le_of_ble_eq_true rfl), (Nat.le_of_ble_eq_true rfl)⟩ hK hP hD hS hA (fmT om_23_300000 0) (fmF om_23_300000 0) (fm_C1 rfl rfl) (fm_R rfl rfl) (fm_nT om_23_300000 0) (fm_nF om_23_300000 0) (fm_di om_23_300000 0) rfl rfl rfl rfl (Nat.le_of_ble_eq_true rfl) dX11_lookByWord_45 (fun r_17 u H locs hw hP hD hS => ?_)
  refine anE hw (fun er_19 eu_18 => ?_)
  clear hw
  subst er_19
  refine o_mgE (ws' := [ro_rrrrrrrrrrrrrrrirl x0 11 (q 0) (q 1) (q 2) (q 3) (q 4) (q 5) (q 6) (q 7) (q 8) (q 9) (q 10) (q 11) (q 12) (q 13) (q 14) hc (q 16) dr, ro_rrrrrr (q 10) 9 (q 61) (q 62) (q 63) (q 64) (q 65) (q 66), ra_N (q 61) cI 90 sa2_1, ra_I (q 62) cI 900 ft2_2, ra_I (q 63) cI 90 fa2_3, ra_I (q 64) cI 90 fo2_4, ra_J (q 65) cJ 90 fg2_5, ra_I (q 66) cI 9 fk2_6, ro_rrrrrnniin (q 5) 2 (q 44) (q 45) (q 46) (q 47) (q 48) dh mh uh rh nh, ro_rrrrnn (q 44) 0 (q 49) (q 50) (q 51) (q 52) ch wh, ra_I (q 49) cI 1600 y1, ra_J (q 50) cJ 64 z2_7, ra_J (q 51) cJ 9 z3_8, ra_J (q 52) cJ 10 y4, ra_I (q 47) cI 3 yf, ra_I (q 48) cI 3 yt, ro_rrrrrrrnn (q 11) 1 (q 10) (q 67) (q 68) (q 69) (q 70) (q 71) (q 72) dy mo, ra_I (q 67) cI 90 g1_13, ra_I (q 68) cI 9 g2_14, ra_I (q 69) cI 10 e3, ro_rrnnnin (q 7) 7 (q 33) (q 34) dy wn mo mu ke, ra_I (q 33) cI 9 fb, ra_I (q 34) cI 9 fw]) eu_18 hP hD rfl (fun hP hD => ?_)
  refine sk_Vv (q0 := 0) (n := 2) (rest := []) (wr := fmR om_23_50 _) ⟨hx, hb, hml, hown, hts⟩ hl.1 (c_uallowOnly l D cI cJ cC cZ cS q dy mo g2_14 d (nI (kcSm (kSd L wn Ba We) d w 10)) (by omega)) w_4_198 w_4_199 w_4_200 w_1_13 w_4_201 hd_X1_allowOnly_2 ⟨⟨(Nat.le_of_ble_eq_true rfl), (Nat.le_of_ble_eq_true rfl)⟩, (Nat.le_of_ble_eq_true rfl), (Nat.le_of_ble_eq_true rfl)⟩ hK hP hD hS hA (fmT om_23_50 0) (fmF om_23_50 0) (fm_C1 rfl rfl) (fm_R rfl rfl) (fm_nT om_23_50 0) (fm_nF om_23_50 0) (fm_di om_23_50 0) rfl rfl rfl rfl (Nat.le_of_ble_eq_true rfl) dX11_lookByWord_48 (fun u H locs hw hP hD hS => ?_)
  refine exE hw (fun g2_20 hw1 => anE hw1 (fun hg2_21 eu_22 => ?_))
  clear hw hw1
  refine o_mgE (ws' := [ro_rrrrrrrrrrrrrrrirl x0 11 (q 0) (q 1) (q 2) (q 3) (q 4) (q 5) (q 6) (q 7) (q 8) (q 9) (q 10) (q 11) (q 12) (q 13) (q 14) hc (q 16) dr, ro_rrrrrr (q 10) 9 (q 61) (q 62) (q 63) (q 64) (q 65) (q 66), ra_N (q 61) cI 90 sa2_1, ra_I (q 62) cI 900 ft2_2, ra_I (q 63) cI 90 fa2_3, ra_I (q 64) cI 90 fo2_4, ra_J (q 65) cJ 90 fg2_5, ra_I (q 66) cI 9 fk2_6, ro_rrrrrnniin (q 5) 2 (q 44) (q 45) (q 46) (q 47) (q 48) dh mh uh rh nh, ro_rrrrnn (q 44) 0 (q 49) (q 50) (q 51) (q 52) ch wh, ra_I (q 49) cI 1600 y1, ra_J (q 50) cJ 64 z2_7, ra_J (q 51) cJ 9 z3_8, ra_J (q 52) cJ 10 y4, ra_I (q 47) cI 3 yf, ra_I (q 48) cI 3 yt, ro_rrrrrrrnn (q 11) 1 (q 10) (q 67) (q 68) (q 69) (q 70) (q 71) (q 72) dy mo, ra_I (q 67) cI 90 g1_13, ra_I (q 68) cI 9 g2_20, ra_I (q 69) cI 10 e3, ro_rrnnnin (q 7) 7 (q 33) (q 34) dy wn mo mu ke, ra_I (q 33) cI 9 fb, ra_I (q 34) cI 9 fw]) eu_22 hP hD rfl (fun hP hD => ?_)
  have hlo_23 := kld_on (S := (kSd L wn Ba We)) (w := w) hld2_15 hg2_21 rfl
  refine lv_aload_n hx hb dX11_lookByWord_51 rfl (lv_at hl 0 rfl) ?_
  refine sk_get (v := .ref (q 11)) (C := RX11) (T := TX11) (N := 18) hx hb hts inlX11 hown hK hP 0 rfl rfl 11 (Nat.le_of_ble_eq_true rfl) w_2_134 rfl dX11_lookByWord_52 ?_
  refine sk_Vi (q0 := 0) (n := 0) (rest := []) (wr := fmR om_23_78 _) ⟨hx, hb, hml, hown, hts⟩ hl.1 (c_ksettle l D cI cJ cC cZ cS q dy mo g1_13 g2_20 e3 (kcFw (kcFo L wn Ba We U 0) (kSd L wn Ba We) d w) hdy hmo hlo_23) w_4_53 w_4_54 w_4_55 w_1_13 w_4_56 hd_X1_settle_0 ⟨⟨(Nat.le_of_ble_eq_true rfl), (Nat.le_of_ble_eq_true rfl)⟩, (Nat.le_of_ble_eq_true rfl), (Nat.le_of_ble_eq_true rfl)⟩ hK hP hD hS hA (fmT om_23_78 0) (fmF om_23_78 0) (fm_C1 rfl rfl) (fm_R rfl rfl) (fm_nT om_23_78 0) (fm_nF om_23_78 0) (fm_di om_23_78 0) rfl rfl rfl rfl (Nat.le_of_ble_eq_true rfl) dX11_lookByWord_55 (fun r_26 u H locs hw hP hD hS => ?_)
  refine exE hw (fun b_24 hw1 => exE hw1 (fun g3_25 hw2 => anE hw2 (fun hb1_27 hw3 => anE hw3 (fun hlv2_28 hw4 => anE hw4 (fun er_30 eu_29 => ?_)))))
  clear hw hw1 hw2 hw3 hw4
  subst er_30
  refine o_mgE (ws' := [ro_rrrrrrrrrrrrrrrirl x0 11 (q 0) (q 1) (q 2) (q 3) (q 4) (q 5) (q 6) (q 7) (q 8) (q 9) (q 10) (q 11) (q 12) (q 13) (q 14) hc (q 16) dr, ro_rrrrrr (q 10) 9 (q 61) (q 62) (q 63) (q 64) (q 65) (q 66), ra_N (q 61) cI 90 sa2_1, ra_I (q 62) cI 900 ft2_2, ra_I (q 63) cI 90 fa2_3, ra_I (q 64) cI 90 fo2_4, ra_J (q 65) cJ 90 fg2_5, ra_I (q 66) cI 9 fk2_6, ro_rrrrrnniin (q 5) 2 (q 44) (q 45) (q 46) (q 47) (q 48) dh mh uh rh nh, ro_rrrrnn (q 44) 0 (q 49) (q 50) (q 51) (q 52) ch wh, ra_I (q 49) cI 1600 y1, ra_J (q 50) cJ 64 z2_7, ra_J (q 51) cJ 9 z3_8, ra_J (q 52) cJ 10 y4, ra_I (q 47) cI 3 yf, ra_I (q 48) cI 3 yt, ro_rrrrrrrnn (q 11) 1 (q 10) (q 67) (q 68) (q 69) (q 70) (q 71) (q 72) dy mo, ra_I (q 67) cI 90 g1_13, ra_I (q 68) cI 9 g2_20, ra_I (q 69) cI 10 g3_25, ro_rrnnnin (q 7) 7 (q 33) (q 34) dy wn mo mu ke, ra_I (q 33) cI 9 fb, ra_I (q 34) cI 9 fw]) eu_29 hP hD rfl (fun hP hD => ?_)
  exact sk_iret hx hb hr (nbool b_24 (by omega)) hlocks hK hP hD hS (⟨sa2_1, ft2_2, fa2_3, fo2_4, fg2_5, fk2_6, z2_7, z3_8, g1_13, g2_20, g3_25, b_24, hsa2_9, hti2_10, hlo_23, hlv2_28, hb1_27, rfl, rfl⟩) (Nat.le_of_ble_eq_true rfl) (Nat.le_of_ble_eq_true rfl) dX11_lookByWord_58
theorem dg_X11_known_0_0 : bqL cX11_known 0 [(0, [42]), (1, [29]), (2, [182, 0, 170]), (5, [153, 0, 12]), (17, [2]), (18, [172]), (8, [42]), (9, [27]), (10, [28]), (11, [182, 0, 255]), (14, [154, 0, 5]), (19, [42]), (20, [27]), (21, [28]), (22, [182, 1, 3]), (25, [153, 0, 14]), (39, [3]), (40, [172]), (28, [42]), (29, [180, 0, 85]), (32, [29]), (33, [182, 1, 6]), (36, [167, 0, 4])] = true := by decide +kernel
theorem dX11_known_0 : decode cX11_known 0 = .ok (.aload_n 0, 1) := q_aload_n0 (bat_get dg_X11_known_0_0 0 rfl rfl)
theorem dX11_known_1 : decode cX11_known 1 = .ok (.iload_n 3, 1) := q_iload_n3 (bat_get dg_X11_known_0_0 1 rfl rfl)
theorem dX11_known_2 : decode cX11_known 2 = .ok (.invokevirtual 170, 3) := q_invokevirtual (bat_get dg_X11_known_0_0 2 rfl rfl) rfl
theorem dX11_known_5 : decode cX11_known 5 = .ok (.ifCond .eq 12, 3) := q_ifCond_eq (bat_get dg_X11_known_0_0 3 rfl rfl) rfl
theorem dX11_known_17 : decode cX11_known 17 = .ok (.iconst (-1), 1) := q_iconstm1 (bat_get dg_X11_known_0_0 4 rfl rfl)
theorem dX11_known_18 : decode cX11_known 18 = .ok (.ireturn, 1) := q_ireturn (bat_get dg_X11_known_0_0 5 rfl rfl)
theorem dX11_known_8 : decode cX11_known 8 = .ok (.aload_n 0, 1) := q_aload_n0 (bat_get dg_X11_known_0_0 6 rfl rfl)
theorem dX11_known_9 : decode cX11_known 9 = .ok (.iload_n 1, 1) := q_iload_n1 (bat_get dg_X11_known_0_0 7 rfl rfl)
theorem dX11_known_10 : decode cX11_known 10 = .ok (.iload_n 2, 1) := q_iload_n2 (bat_get dg_X11_known_0_0 8 rfl rfl)
theorem dX11_known_11 : decode cX11_known 11 = .ok (.invokevirtual 255, 3) := q_invokevirtual (bat_get dg_X11_known_0_0 9 rfl rfl) rfl
theorem dX11_known_14 : decode cX11_known 14 = .ok (.ifCond .ne 5, 3) := q_ifCond_ne (bat_get dg_X11_known_0_0 10 rfl rfl) rfl
theorem dX11_known_19 : decode cX11_known 19 = .ok (.aload_n 0, 1) := q_aload_n0 (bat_get dg_X11_known_0_0 11 rfl rfl)
theorem dX11_known_20 : decode cX11_known 20 = .ok (.iload_n 1, 1) := q_iload_n1 (bat_get dg_X11_known_0_0 12 rfl rfl)
theorem dX11_known_21 : decode cX11_known 21 = .ok (.iload_n 2, 1) := q_iload_n2 (bat_get dg_X11_known_0_0 13 rfl rfl)
theorem dX11_known_22 : decode cX11_known 22 = .ok (.invokevirtual 259, 3) := q_invokevirtual (bat_get dg_X11_known_0_0 14 rfl rfl) rfl
theorem dX11_known_25 : decode cX11_known 25 = .ok (.ifCond .eq 14, 3) := q_ifCond_eq (bat_get dg_X11_known_0_0 15 rfl rfl) rfl
theorem dX11_known_39 : decode cX11_known 39 = .ok (.iconst 0, 1) := q_iconst0 (bat_get dg_X11_known_0_0 16 rfl rfl)
theorem dX11_known_40 : decode cX11_known 40 = .ok (.ireturn, 1) := q_ireturn (bat_get dg_X11_known_0_0 17 rfl rfl)
theorem dX11_known_28 : decode cX11_known 28 = .ok (.aload_n 0, 1) := q_aload_n0 (bat_get dg_X11_known_0_0 18 rfl rfl)
theorem dX11_known_29 : decode cX11_known 29 = .ok (.getfield 85, 3) := q_getfield (bat_get dg_X11_known_0_0 19 rfl rfl) rfl
theorem dX11_known_32 : decode cX11_known 32 = .ok (.iload_n 3, 1) := q_iload_n3 (bat_get dg_X11_known_0_0 20 rfl rfl)
theorem dX11_known_33 : decode cX11_known 33 = .ok (.invokevirtual 262, 3) := q_invokevirtual (bat_get dg_X11_known_0_0 21 rfl rfl) rfl
theorem dX11_known_36 : decode cX11_known 36 = .ok (.goto 4, 3) := q_goto (bat_get dg_X11_known_0_0 22 rfl rfl) rfl
theorem w_4_190 : (Cond.methodLink RX11 259 yX11_lookByWord) ∈ wsL_law := sk_mem (ck_4 _ (List.mem_of_getElem? (i := 190) rfl)) rfl
theorem w_4_192 : (Cond.instanceMethod yX11_lookByWord) ∈ wsL_law := sk_mem (ck_4 _ (List.mem_of_getElem? (i := 192) rfl)) rfl
theorem w_0_28 : (Cond.selects RX11 yX11_lookByWord yX11_lookByWord) ∈ wsL_law := sk_mem (ck_0 _ (List.mem_of_getElem? (i := 28) rfl)) rfl
theorem w_4_185 : (Cond.code yX11_known cX11_known 4 (some .int)) ∈ wsL_law := sk_mem (ck_4 _ (List.mem_of_getElem? (i := 185) rfl)) rfl
def om_23_7fffff : List Bool := true :: true :: true :: true :: true :: true :: true :: true :: true :: true :: true :: true :: true :: true :: true :: true :: true :: true :: true :: true :: true :: true :: true :: []
theorem hd_X11_lookByWord_2 : skD yX11_lookByWord 2 := by decide +kernel
set_option maxHeartbeats 4000000 in
set_option maxRecDepth 100000 in
theorem c_uy_known (l : Launch) (D : va_G) (cI cJ cC cZ cS : ClassId) (x0 : Nat) (q : Nat → Nat) (hc : Int32) (dr : Int64) (sa : Nat → Nat) (ft : Nat → Int32) (fa : Nat → Int32) (fo : Nat → Int32) (fg : Nat → Int64) (fk : Nat → Int32) (dh : Nat) (mh : Nat) (uh : Int32) (rh : Int32) (nh : Nat) (ch : Nat) (wh : Nat) (y1 : Nat → Int32) (y2 : Nat → Int64) (y3 : Nat → Int64) (y4 : Nat → Int64) (yf : Nat → Int32) (yt : Nat → Int32) (gd : Nat) (gs : Nat) (e1 : Nat → Int32) (e2 : Nat → Int32) (e3 : Nat → Int32) (dy : Nat) (wn : Nat) (mo : Nat) (ke : Nat) (mu : Int32) (fb : Nat → Int32) (fw : Nat → Int32) (Ba : Nat → Nat) (We : Nat → Nat) (L : LkS) (U : Nat → Bool) (d : Int32) (w : Int32) (o : Int32) (hsa : ∀ j, sa j ≤ 9) (hch : ch ≤ 1600) (hwh : wh ≤ 1) (hdy : dy ≤ 9) (hmo : mo ≤ 9) (hgd : gd ≤ 9) (hgs : gs ≤ 9) (hLk : kcLk L) (hlq : 1 ≤ dy → cdK (lK (lkF L)) ch wh y1 ∧ ∀ v, v < 3 → sgO (lG (lkF L) v) (yf v) (yt v)) (htq : 1 ≤ dy → kcTI L sa ft fa fo fg fk) (hfb : ∀ j, j < 9 → fb j = nI (Ba j)) (hfw : ∀ j, j < 9 → fw j = nI (We j)) (hB9 : ∀ j, Ba j ≤ 9) (hW9 : ∀ j, We j ≤ 9) (hwn : wn ≤ 999) (hU : muO U mu) : skM l yX11_known cX11_known 4 (some .int) 6 150 0 0 D (skT cI cJ cC cZ cS) [.ref x0, .int d, .int w, .int o] [ro_rrrrrrrrrrrrrrrirl x0 11 (q 0) (q 1) (q 2) (q 3) (q 4) (q 5) (q 6) (q 7) (q 8) (q 9) (q 10) (q 11) (q 12) (q 13) (q 14) hc (q 16) dr, ro_rrrrrr (q 10) 9 (q 61) (q 62) (q 63) (q 64) (q 65) (q 66), ra_N (q 61) cI 90 sa, ra_I (q 62) cI 900 ft, ra_I (q 63) cI 90 fa, ra_I (q 64) cI 90 fo, ra_J (q 65) cJ 90 fg, ra_I (q 66) cI 9 fk, ro_rrrrrnniin (q 5) 2 (q 44) (q 45) (q 46) (q 47) (q 48) dh mh uh rh nh, ro_rrrrnn (q 44) 0 (q 49) (q 50) (q 51) (q 52) ch wh, ra_I (q 49) cI 1600 y1, ra_J (q 50) cJ 64 y2, ra_J (q 51) cJ 9 y3, ra_J (q 52) cJ 10 y4, ra_I (q 47) cI 3 yf, ra_I (q 48) cI 3 yt, ro_rrrrrrrnn (q 11) 1 (q 10) (q 67) (q 68) (q 69) (q 70) (q 71) (q 72) gd gs, ra_I (q 67) cI 90 e1, ra_I (q 68) cI 9 e2, ra_I (q 69) cI 10 e3, ro_rrnnnin (q 7) 7 (q 33) (q 34) dy wn mo mu ke, ra_I (q 33) cI 9 fb, ra_I (q 34) cI 9 fw] (skI D (skT cI cJ cC cZ cS) (fun (r : Int32) (u : va_W) => ∃ (sa2 : Nat → Nat), ∃ (ft2 : Nat → Int32), ∃ (fa2 : Nat → Int32), ∃ (fo2 : Nat → Int32), ∃ (fg2 : Nat → Int64), ∃ (fk2 : Nat → Int32), ∃ (z2 : Nat → Int64), ∃ (z3 : Nat → Int64), ∃ (g1 : Nat → Int32), ∃ (g2 : Nat → Int32), ∃ (g3 : Nat → Int32), ∃ (gd2 : Nat), ∃ (gs2 : Nat), (∀ j, sa2 j ≤ 9) ∧ (1 ≤ dy → kcTI L sa2 ft2 fa2 fo2 fg2 fk2) ∧ gd2 ≤ 9 ∧ gs2 ≤ 9 ∧ knownR (kcFo L wn Ba We U 0) (kSd L wn Ba We) dy mo U d w o r ∧ u = [ro_rrrrrrrrrrrrrrrirl x0 11 (q 0) (q 1) (q 2) (q 3) (q 4) (q 5) (q 6) (q 7) (q 8) (q 9) (q 10) (q 11) (q 12) (q 13) (q 14) hc (q 16) dr, ro_rrrrrr (q 10) 9 (q 61) (q 62) (q 63) (q 64) (q 65) (q 66), ra_N (q 61) cI 90 sa2, ra_I (q 62) cI 900 ft2, ra_I (q 63) cI 90 fa2, ra_I (q 64) cI 90 fo2, ra_J (q 65) cJ 90 fg2, ra_I (q 66) cI 9 fk2, ro_rrrrrnniin (q 5) 2 (q 44) (q 45) (q 46) (q 47) (q 48) dh mh uh rh nh, ro_rrrrnn (q 44) 0 (q 49) (q 50) (q 51) (q 52) ch wh, ra_I (q 49) cI 1600 y1, ra_J (q 50) cJ 64 z2, ra_J (q 51) cJ 9 z3, ra_J (q 52) cJ 10 y4, ra_I (q 47) cI 3 yf, ra_I (q 48) cI 3 yt, ro_rrrrrrrnn (q 11) 1 (q 10) (q 67) (q 68) (q 69) (q 70) (q 71) (q 72) gd2 gs2, ra_I (q 67) cI 90 g1, ra_I (q 68) cI 9 g2, ra_I (q 69) cI 10 g3, ro_rrnnnin (q 7) 7 (q 33) (q 34) dy wn mo mu ke, ra_I (q 33) cI 9 fb, ra_I (q 34) cI 9 fw])) := by
  refine skM_of pf_X11_known (Nat.le_of_ble_eq_true rfl) ?_
  intro p e s m below meth c A ls E hP hD hl
  refine skE_el E (fun hx hb hr hml hlocks hin hown hts hK hA => ?_)
  have hown : s.vm.findClass RX11 = some m.cls := hown
  have hS : va_S A s.heap s.heap [] := va_S.rf
  have hl : lv_has ls 4 [(0, .ref x0), (1, .int d), (2, .int w), (3, .int o)] := hl
  refine lv_aload_n hx hb dX11_known_0 rfl (lv_at hl 0 rfl) ?_
  refine lv_iload_n hx hb dX11_known_1 rfl (lv_at hl 3 rfl) ?_
  refine sk_Vi (q0 := 0) (n := 1) (rest := []) (wr := fmR om_23_400004 _) ⟨hx, hb, hml, hown, hts⟩ hl.1 (c_kx_isDay l D cI cJ cC cZ cS x0 q hc dr dy wn mo ke mu fb fw o hdy) w_3_190 w_3_192 w_0_14 w_1_1 w_3_193 hd_X11_isDay_1 ⟨⟨(Nat.le_of_ble_eq_true rfl), (Nat.le_of_ble_eq_true rfl)⟩, (Nat.le_of_ble_eq_true rfl), (Nat.le_of_ble_eq_true rfl)⟩ hK hP hD hS hA (fmT om_23_400004 0) (fmF om_23_400004 0) (fm_C1 rfl rfl) (fm_R rfl rfl) (fm_nT om_23_400004 0) (fm_nF om_23_400004 0) (fm_di om_23_400004 0) rfl rfl rfl rfl (Nat.le_of_ble_eq_true rfl) dX11_known_2 (fun r_2 u H locs hw hP hD hS => ?_)
  refine exE hw (fun b_1 hw1 => anE hw1 (fun hb1_3 hw2 => anE hw2 (fun er_5 eu_4 => ?_)))
  clear hw hw1 hw2
  subst er_5
  refine o_mgE (ws' := [ro_rrrrrrrrrrrrrrrirl x0 11 (q 0) (q 1) (q 2) (q 3) (q 4) (q 5) (q 6) (q 7) (q 8) (q 9) (q 10) (q 11) (q 12) (q 13) (q 14) hc (q 16) dr, ro_rrrrrr (q 10) 9 (q 61) (q 62) (q 63) (q 64) (q 65) (q 66), ra_N (q 61) cI 90 sa, ra_I (q 62) cI 900 ft, ra_I (q 63) cI 90 fa, ra_I (q 64) cI 90 fo, ra_J (q 65) cJ 90 fg, ra_I (q 66) cI 9 fk, ro_rrrrrnniin (q 5) 2 (q 44) (q 45) (q 46) (q 47) (q 48) dh mh uh rh nh, ro_rrrrnn (q 44) 0 (q 49) (q 50) (q 51) (q 52) ch wh, ra_I (q 49) cI 1600 y1, ra_J (q 50) cJ 64 y2, ra_J (q 51) cJ 9 y3, ra_J (q 52) cJ 10 y4, ra_I (q 47) cI 3 yf, ra_I (q 48) cI 3 yt, ro_rrrrrrrnn (q 11) 1 (q 10) (q 67) (q 68) (q 69) (q 70) (q 71) (q 72) gd gs, ra_I (q 67) cI 90 e1, ra_I (q 68) cI 9 e2, ra_I (q 69) cI 10 e3, ro_rrnnnin (q 7) 7 (q 33) (q 34) dy wn mo mu ke, ra_I (q 33) cI 9 fb, ra_I (q 34) cI 9 fw]) eu_4 hP hD rfl (fun hP hD => ?_)
  refine lv_if_eq (tgt := 17) hx hb dX11_known_5 (by decide) (fun c_6 => ?_) (fun c_6 => ?_)
  · have c_6 : b_1 = 0 := (neq b_1 0 (by omega) (Nat.le_of_ble_eq_true rfl)).mp c_6
    refine lv_iconst (v := (-1)) hx hb dX11_known_17 (by decide) ?_
    exact sk_iret hx hb hr rfl hlocks hK hP hD hS (⟨sa, ft, fa, fo, fg, fk, y2, y3, e1, e2, e3, gd, gs, hsa, htq, hgd, hgs, kno_0 (rr_0 hb1_3 (by omega)), rfl⟩) (Nat.le_of_ble_eq_true rfl) (Nat.le_of_ble_eq_true rfl) dX11_known_18
  · have c_6 : ¬ (b_1 = 0) := fun h => c_6 ((neq b_1 0 (by omega) (Nat.le_of_ble_eq_true rfl)).mpr h)
    obtain ⟨kd_7, hkd_7, rfl⟩ := rr_1 hb1_3 (by omega)
    refine lv_aload_n hx hb dX11_known_8 rfl (lv_at hl 0 rfl) ?_
    refine lv_iload_n hx hb dX11_known_9 rfl (lv_at hl 1 rfl) ?_
    refine lv_iload_n hx hb dX11_known_10 rfl (lv_at hl 2 rfl) ?_
    refine sk_Vi (q0 := 0) (n := 2) (rest := []) (wr := fmR om_23_400004 _) ⟨hx, hb, hml, hown, hts⟩ hl.1 (c_ux_isWordOfI l D cI cJ cC cZ cS x0 q hc dr dy wn mo ke mu fb fw d w U hdy hU) w_4_186 w_4_188 w_0_27 w_1_1 w_4_189 hd_X11_isWordOf_2 ⟨⟨(Nat.le_of_ble_eq_true rfl), (Nat.le_of_ble_eq_true rfl)⟩, (Nat.le_of_ble_eq_true rfl), (Nat.le_of_ble_eq_true rfl)⟩ hK hP hD hS hA (fmT om_23_400004 0) (fmF om_23_400004 0) (fm_C1 rfl rfl) (fm_R rfl rfl) (fm_nT om_23_400004 0) (fm_nF om_23_400004 0) (fm_di om_23_400004 0) rfl rfl rfl rfl (Nat.le_of_ble_eq_true rfl) dX11_known_11 (fun r_9 u H locs hw hP hD hS => ?_)
    refine exE hw (fun b_8 hw1 => anE hw1 (fun hwo_10 hw2 => anE hw2 (fun er_12 eu_11 => ?_)))
    clear hw hw1 hw2
    subst er_12
    refine o_mgE (ws' := [ro_rrrrrrrrrrrrrrrirl x0 11 (q 0) (q 1) (q 2) (q 3) (q 4) (q 5) (q 6) (q 7) (q 8) (q 9) (q 10) (q 11) (q 12) (q 13) (q 14) hc (q 16) dr, ro_rrrrrr (q 10) 9 (q 61) (q 62) (q 63) (q 64) (q 65) (q 66), ra_N (q 61) cI 90 sa, ra_I (q 62) cI 900 ft, ra_I (q 63) cI 90 fa, ra_I (q 64) cI 90 fo, ra_J (q 65) cJ 90 fg, ra_I (q 66) cI 9 fk, ro_rrrrrnniin (q 5) 2 (q 44) (q 45) (q 46) (q 47) (q 48) dh mh uh rh nh, ro_rrrrnn (q 44) 0 (q 49) (q 50) (q 51) (q 52) ch wh, ra_I (q 49) cI 1600 y1, ra_J (q 50) cJ 64 y2, ra_J (q 51) cJ 9 y3, ra_J (q 52) cJ 10 y4, ra_I (q 47) cI 3 yf, ra_I (q 48) cI 3 yt, ro_rrrrrrrnn (q 11) 1 (q 10) (q 67) (q 68) (q 69) (q 70) (q 71) (q 72) gd gs, ra_I (q 67) cI 90 e1, ra_I (q 68) cI 9 e2, ra_I (q 69) cI 10 e3, ro_rrnnnin (q 7) 7 (q 33) (q 34) dy wn mo mu ke, ra_I (q 33) cI 9 fb, ra_I (q 34) cI 9 fw]) eu_11 hP hD rfl (fun hP hD => ?_)
    refine lv_if_ne (tgt := 19) hx hb dX11_known_14 (by decide) (fun c_13 => ?_) (fun c_13 => ?_)
    · have c_13 : ¬ (b_8 = 0) := fun h => c_13 ((neq b_8 0 (by omega) (Nat.le_of_ble_eq_true rfl)).mpr h)
      obtain ⟨⟨ka_14, kb_15⟩, hx_16⟩ := rr_1 hwo_10 (by omega)
      have hka_14 : ka_14 < dy := hx_16.1
      have hkb_15 : kb_15 < 10 := hx_16.2.2.2.1
      have nka_14 : ¬ U ka_14 = true := hx_16.2.2.1
      have ed_ : d = nI ka_14 := hx_16.2.1
      have ew_ : w = nI kb_15 := hx_16.2.2.2.2
      subst ed_
      subst ew_
      refine lv_aload_n hx hb dX11_known_19 rfl (lv_at hl 0 rfl) ?_
      refine lv_iload_n hx hb dX11_known_20 rfl (lv_at hl 1 rfl) ?_
      refine lv_iload_n hx hb dX11_known_21 rfl (lv_at hl 2 rfl) ?_
      refine sk_Vi (q0 := 0) (n := 2) (rest := []) (wr := fmR om_23_7fffff _) ⟨hx, hb, hml, hown, hts⟩ hl.1 (c_ux_lookByWord l D cI cJ cC cZ cS x0 q hc dr sa ft fa fo fg fk dh mh uh rh nh ch wh y1 y2 y3 y4 yf yt gd gs e1 e2 e3 dy wn mo ke mu fb fw Ba We L U ka_14 kb_15 hsa hch hwh hdy hmo hLk (hlq (by omega)).1 (hlq (by omega)).2 hfb hfw hB9 hW9 hwn hU (htq (by omega)) (by omega) (by omega)) w_4_190 w_4_192 w_0_28 w_1_1 w_4_193 hd_X11_lookByWord_2 ⟨⟨(Nat.le_of_ble_eq_true rfl), (Nat.le_of_ble_eq_true rfl)⟩, (Nat.le_of_ble_eq_true rfl), (Nat.le_of_ble_eq_true rfl)⟩ hK hP hD hS hA (fmT om_23_7fffff 0) (fmF om_23_7fffff 0) (fm_C1 rfl rfl) (fm_R rfl rfl) (fm_nT om_23_7fffff 0) (fm_nF om_23_7fffff 0) (fm_di om_23_7fffff 0) rfl rfl rfl rfl (Nat.le_of_ble_eq_true rfl) dX11_known_22 (fun r_29 u H locs hw hP hD hS => ?_)
      refine exE hw (fun sa2_17 hw1 => exE hw1 (fun ft2_18 hw2 => exE hw2 (fun fa2_19 hw3 => exE hw3 (fun fo2_20 hw4 => exE hw4 (fun fg2_21 hw5 => exE hw5 (fun fk2_22 hw6 => exE hw6 (fun z2_23 hw7 => exE hw7 (fun z3_24 hw8 => exE hw8 (fun g1_25 hw9 => exE hw9 (fun g2_26 hw10 => exE hw10 (fun g3_27 hw11 => exE hw11 (fun b_28 hw12 => anE hw12 (fun hsa2_30 hw13 => anE hw13 (fun hti2_31 hw14 => anE hw14 (fun hld2_32 hw15 => anE hw15 (fun hlv2_33 hw16 => anE hw16 (fun hb1_34 hw17 => anE hw17 (fun er_36 eu_35 => ?_))))))))))))))))))
      clear hw hw1 hw2 hw3 hw4 hw5 hw6 hw7 hw8 hw9 hw10 hw11 hw12 hw13 hw14 hw15 hw16 hw17
      subst er_36
      refine o_mgE (ws' := [ro_rrrrrrrrrrrrrrrirl x0 11 (q 0) (q 1) (q 2) (q 3) (q 4) (q 5) (q 6) (q 7) (q 8) (q 9) (q 10) (q 11) (q 12) (q 13) (q 14) hc (q 16) dr, ro_rrrrrr (q 10) 9 (q 61) (q 62) (q 63) (q 64) (q 65) (q 66), ra_N (q 61) cI 90 sa2_17, ra_I (q 62) cI 900 ft2_18, ra_I (q 63) cI 90 fa2_19, ra_I (q 64) cI 90 fo2_20, ra_J (q 65) cJ 90 fg2_21, ra_I (q 66) cI 9 fk2_22, ro_rrrrrnniin (q 5) 2 (q 44) (q 45) (q 46) (q 47) (q 48) dh mh uh rh nh, ro_rrrrnn (q 44) 0 (q 49) (q 50) (q 51) (q 52) ch wh, ra_I (q 49) cI 1600 y1, ra_J (q 50) cJ 64 z2_23, ra_J (q 51) cJ 9 z3_24, ra_J (q 52) cJ 10 y4, ra_I (q 47) cI 3 yf, ra_I (q 48) cI 3 yt, ro_rrrrrrrnn (q 11) 1 (q 10) (q 67) (q 68) (q 69) (q 70) (q 71) (q 72) dy mo, ra_I (q 67) cI 90 g1_25, ra_I (q 68) cI 9 g2_26, ra_I (q 69) cI 10 g3_27, ro_rrnnnin (q 7) 7 (q 33) (q 34) dy wn mo mu ke, ra_I (q 33) cI 9 fb, ra_I (q 34) cI 9 fw]) eu_35 hP hD rfl (fun hP hD => ?_)
      refine lv_if_eq (tgt := 39) hx hb dX11_known_25 (by decide) (fun c_37 => ?_) (fun c_37 => ?_)
      · have c_37 : b_28 = 0 := (neq b_28 0 (by omega) (Nat.le_of_ble_eq_true rfl)).mp c_37
        refine lv_iconst (v := 0) hx hb dX11_known_39 ic_0 ?_
        exact sk_iret hx hb hr rfl hlocks hK hP hD hS (⟨sa2_17, ft2_18, fa2_19, fo2_20, fg2_21, fk2_22, z2_23, z3_24, g1_25, g2_26, g3_27, dy, mo, hsa2_30, (fun _ => hti2_31), hdy, hmo, kno_2 hx_16 hkd_7 (by rw [kms_z (rr_0 hb1_34 (by omega)) hkd_7]; rfl), rfl⟩) (Nat.le_of_ble_eq_true rfl) (Nat.le_of_ble_eq_true rfl) dX11_known_40
      · have c_37 : ¬ (b_28 = 0) := fun h => c_37 ((neq b_28 0 (by omega) (Nat.le_of_ble_eq_true rfl)).mpr h)
        refine lv_aload_n hx hb dX11_known_28 rfl (lv_at hl 0 rfl) ?_
        refine sk_get (v := .ref (q 11)) (C := RX11) (T := TX11) (N := 18) hx hb hts inlX11 hown hK hP 0 rfl rfl 11 (Nat.le_of_ble_eq_true rfl) w_2_134 rfl dX11_known_29 ?_
        refine lv_iload_n hx hb dX11_known_32 rfl (lv_at hl 3 rfl) ?_
        refine sk_Vi (q0 := 0) (n := 1) (rest := []) (wr := fmR om_23_78 _) ⟨hx, hb, hml, hown, hts⟩ hl.1 (c_umoodsOf l D cI cJ cC cZ cS q dy mo g1_25 g2_26 g3_27 kd_7 (kcFw (kcFo L wn Ba We U 0) (kSd L wn Ba We) ka_14 kb_15) hdy hmo hld2_32 hlv2_33 (by omega)) w_4_104 w_4_105 w_4_106 w_1_13 w_4_107 hd_X1_moodsOf_1 ⟨⟨(Nat.le_of_ble_eq_true rfl), (Nat.le_of_ble_eq_true rfl)⟩, (Nat.le_of_ble_eq_true rfl), (Nat.le_of_ble_eq_true rfl)⟩ hK hP hD hS hA (fmT om_23_78 0) (fmF om_23_78 0) (fm_C1 rfl rfl) (fm_R rfl rfl) (fm_nT om_23_78 0) (fm_nF om_23_78 0) (fm_di om_23_78 0) rfl rfl rfl rfl (Nat.le_of_ble_eq_true rfl) dX11_known_33 (fun r_38 u H locs hw hP hD hS => ?_)
        refine anE hw (fun er_40 eu_39 => ?_)
        clear hw
        subst er_40
        refine o_mgE (ws' := [ro_rrrrrrrrrrrrrrrirl x0 11 (q 0) (q 1) (q 2) (q 3) (q 4) (q 5) (q 6) (q 7) (q 8) (q 9) (q 10) (q 11) (q 12) (q 13) (q 14) hc (q 16) dr, ro_rrrrrr (q 10) 9 (q 61) (q 62) (q 63) (q 64) (q 65) (q 66), ra_N (q 61) cI 90 sa2_17, ra_I (q 62) cI 900 ft2_18, ra_I (q 63) cI 90 fa2_19, ra_I (q 64) cI 90 fo2_20, ra_J (q 65) cJ 90 fg2_21, ra_I (q 66) cI 9 fk2_22, ro_rrrrrnniin (q 5) 2 (q 44) (q 45) (q 46) (q 47) (q 48) dh mh uh rh nh, ro_rrrrnn (q 44) 0 (q 49) (q 50) (q 51) (q 52) ch wh, ra_I (q 49) cI 1600 y1, ra_J (q 50) cJ 64 z2_23, ra_J (q 51) cJ 9 z3_24, ra_J (q 52) cJ 10 y4, ra_I (q 47) cI 3 yf, ra_I (q 48) cI 3 yt, ro_rrrrrrrnn (q 11) 1 (q 10) (q 67) (q 68) (q 69) (q 70) (q 71) (q 72) dy mo, ra_I (q 67) cI 90 g1_25, ra_I (q 68) cI 9 g2_26, ra_I (q 69) cI 10 g3_27, ro_rrnnnin (q 7) 7 (q 33) (q 34) dy wn mo mu ke, ra_I (q 33) cI 9 fb, ra_I (q 34) cI 9 fw]) eu_39 hP hD rfl (fun hP hD => ?_)
        refine lv_goto (tgt := 40) hx hb dX11_known_36 (by decide) ?_
        exact sk_iret hx hb hr rfl hlocks hK hP hD hS (⟨sa2_17, ft2_18, fa2_19, fo2_20, fg2_21, fk2_22, z2_23, z3_24, g1_25, g2_26, g3_27, dy, mo, hsa2_30, (fun _ => hti2_31), hdy, hmo, kno_2 hx_16 hkd_7 rfl, rfl⟩) (Nat.le_of_ble_eq_true rfl) (Nat.le_of_ble_eq_true rfl) dX11_known_40
    · have c_13 : b_8 = 0 := (neq b_8 0 (by omega) (Nat.le_of_ble_eq_true rfl)).mp c_13
      refine lv_iconst (v := (-1)) hx hb dX11_known_17 (by decide) ?_
      exact sk_iret hx hb hr rfl hlocks hK hP hD hS (⟨sa, ft, fa, fo, fg, fk, y2, y3, e1, e2, e3, gd, gs, hsa, htq, hgd, hgs, kno_1 (rr_0 hwo_10 (by omega)), rfl⟩) (Nat.le_of_ble_eq_true rfl) (Nat.le_of_ble_eq_true rfl) dX11_known_18
theorem dg_X11_sure_0_0 : bqL cX11_sure 0 [(0, [42]), (1, [27]), (2, [28]), (3, [182, 0, 255]), (6, [153, 0, 12]), (18, [2]), (19, [172]), (9, [42]), (10, [27]), (11, [28]), (12, [182, 1, 3]), (15, [154, 0, 5]), (20, [3]), (21, [62]), (22, [27]), (23, [54, 4]), (25, [21, 4]), (27, [42]), (28, [180, 0, 59]), (31, [180, 0, 144]), (34, [162, 0, 28]), (62, [29]), (63, [172]), (37, [42]), (38, [180, 0, 85]), (41, [21, 4]), (43, [182, 1, 6]), (46, [184, 0, 156]), (49, [4]), (50, [160, 0, 12]), (53, [132, 3, 1]), (56, [132, 4, 1]), (59, [167, 255, 222])] = true := by decide +kernel
theorem dX11_sure_0 : decode cX11_sure 0 = .ok (.aload_n 0, 1) := q_aload_n0 (bat_get dg_X11_sure_0_0 0 rfl rfl)
theorem dX11_sure_1 : decode cX11_sure 1 = .ok (.iload_n 1, 1) := q_iload_n1 (bat_get dg_X11_sure_0_0 1 rfl rfl)
theorem dX11_sure_2 : decode cX11_sure 2 = .ok (.iload_n 2, 1) := q_iload_n2 (bat_get dg_X11_sure_0_0 2 rfl rfl)
theorem dX11_sure_3 : decode cX11_sure 3 = .ok (.invokevirtual 255, 3) := q_invokevirtual (bat_get dg_X11_sure_0_0 3 rfl rfl) rfl
theorem dX11_sure_6 : decode cX11_sure 6 = .ok (.ifCond .eq 12, 3) := q_ifCond_eq (bat_get dg_X11_sure_0_0 4 rfl rfl) rfl
theorem dX11_sure_18 : decode cX11_sure 18 = .ok (.iconst (-1), 1) := q_iconstm1 (bat_get dg_X11_sure_0_0 5 rfl rfl)
theorem dX11_sure_19 : decode cX11_sure 19 = .ok (.ireturn, 1) := q_ireturn (bat_get dg_X11_sure_0_0 6 rfl rfl)
theorem dX11_sure_9 : decode cX11_sure 9 = .ok (.aload_n 0, 1) := q_aload_n0 (bat_get dg_X11_sure_0_0 7 rfl rfl)
theorem dX11_sure_10 : decode cX11_sure 10 = .ok (.iload_n 1, 1) := q_iload_n1 (bat_get dg_X11_sure_0_0 8 rfl rfl)
theorem dX11_sure_11 : decode cX11_sure 11 = .ok (.iload_n 2, 1) := q_iload_n2 (bat_get dg_X11_sure_0_0 9 rfl rfl)
theorem dX11_sure_12 : decode cX11_sure 12 = .ok (.invokevirtual 259, 3) := q_invokevirtual (bat_get dg_X11_sure_0_0 10 rfl rfl) rfl
theorem dX11_sure_15 : decode cX11_sure 15 = .ok (.ifCond .ne 5, 3) := q_ifCond_ne (bat_get dg_X11_sure_0_0 11 rfl rfl) rfl
theorem dX11_sure_20 : decode cX11_sure 20 = .ok (.iconst 0, 1) := q_iconst0 (bat_get dg_X11_sure_0_0 12 rfl rfl)
theorem dX11_sure_21 : decode cX11_sure 21 = .ok (.istore_n 3, 1) := q_istore_n3 (bat_get dg_X11_sure_0_0 13 rfl rfl)
theorem dX11_sure_22 : decode cX11_sure 22 = .ok (.iload_n 1, 1) := q_iload_n1 (bat_get dg_X11_sure_0_0 14 rfl rfl)
theorem dX11_sure_23 : decode cX11_sure 23 = .ok (.istore 4, 2) := q_istore (bat_get dg_X11_sure_0_0 15 rfl rfl)
theorem dX11_sure_25 : decode cX11_sure 25 = .ok (.iload 4, 2) := q_iload (bat_get dg_X11_sure_0_0 16 rfl rfl)
theorem dX11_sure_27 : decode cX11_sure 27 = .ok (.aload_n 0, 1) := q_aload_n0 (bat_get dg_X11_sure_0_0 17 rfl rfl)
theorem dX11_sure_28 : decode cX11_sure 28 = .ok (.getfield 59, 3) := q_getfield (bat_get dg_X11_sure_0_0 18 rfl rfl) rfl
theorem dX11_sure_31 : decode cX11_sure 31 = .ok (.getfield 144, 3) := q_getfield (bat_get dg_X11_sure_0_0 19 rfl rfl) rfl
theorem dX11_sure_34 : decode cX11_sure 34 = .ok (.if_icmp .ge 28, 3) := q_if_icmp_ge (bat_get dg_X11_sure_0_0 20 rfl rfl) rfl
theorem dX11_sure_62 : decode cX11_sure 62 = .ok (.iload_n 3, 1) := q_iload_n3 (bat_get dg_X11_sure_0_0 21 rfl rfl)
theorem dX11_sure_63 : decode cX11_sure 63 = .ok (.ireturn, 1) := q_ireturn (bat_get dg_X11_sure_0_0 22 rfl rfl)
theorem dX11_sure_37 : decode cX11_sure 37 = .ok (.aload_n 0, 1) := q_aload_n0 (bat_get dg_X11_sure_0_0 23 rfl rfl)
theorem dX11_sure_38 : decode cX11_sure 38 = .ok (.getfield 85, 3) := q_getfield (bat_get dg_X11_sure_0_0 24 rfl rfl) rfl
theorem dX11_sure_41 : decode cX11_sure 41 = .ok (.iload 4, 2) := q_iload (bat_get dg_X11_sure_0_0 25 rfl rfl)
theorem dX11_sure_43 : decode cX11_sure 43 = .ok (.invokevirtual 262, 3) := q_invokevirtual (bat_get dg_X11_sure_0_0 26 rfl rfl) rfl
theorem dX11_sure_46 : decode cX11_sure 46 = .ok (.invokestatic 156, 3) := q_invokestatic (bat_get dg_X11_sure_0_0 27 rfl rfl) rfl
theorem dX11_sure_49 : decode cX11_sure 49 = .ok (.iconst 1, 1) := q_iconst1 (bat_get dg_X11_sure_0_0 28 rfl rfl)
theorem dX11_sure_50 : decode cX11_sure 50 = .ok (.if_icmp .ne 12, 3) := q_if_icmp_ne (bat_get dg_X11_sure_0_0 29 rfl rfl) rfl
theorem dX11_sure_53 : decode cX11_sure 53 = .ok (.iinc 3 1, 3) := q_iinc (bat_get dg_X11_sure_0_0 30 rfl rfl) rfl
theorem dX11_sure_56 : decode cX11_sure 56 = .ok (.iinc 4 1, 3) := q_iinc (bat_get dg_X11_sure_0_0 31 rfl rfl) rfl
theorem dX11_sure_59 : decode cX11_sure 59 = .ok (.goto (-34), 3) := q_goto (bat_get dg_X11_sure_0_0 32 rfl rfl) rfl
theorem w_4_205 : (Cond.code yX11_sure cX11_sure 5 (some .int)) ∈ wsL_law := sk_mem (ck_4 _ (List.mem_of_getElem? (i := 205) rfl)) rfl
set_option maxHeartbeats 4000000 in
set_option maxRecDepth 100000 in
theorem c_uy_sure (l : Launch) (D : va_G) (cI cJ cC cZ cS : ClassId) (x0 : Nat) (q : Nat → Nat) (hc : Int32) (dr : Int64) (sa : Nat → Nat) (ft : Nat → Int32) (fa : Nat → Int32) (fo : Nat → Int32) (fg : Nat → Int64) (fk : Nat → Int32) (dh : Nat) (mh : Nat) (uh : Int32) (rh : Int32) (nh : Nat) (ch : Nat) (wh : Nat) (y1 : Nat → Int32) (y2 : Nat → Int64) (y3 : Nat → Int64) (y4 : Nat → Int64) (yf : Nat → Int32) (yt : Nat → Int32) (gd : Nat) (gs : Nat) (e1 : Nat → Int32) (e2 : Nat → Int32) (e3 : Nat → Int32) (dy : Nat) (wn : Nat) (mo : Nat) (ke : Nat) (mu : Int32) (fb : Nat → Int32) (fw : Nat → Int32) (Ba : Nat → Nat) (We : Nat → Nat) (L : LkS) (U : Nat → Bool) (d : Int32) (w : Int32) (hsa : ∀ j, sa j ≤ 9) (hch : ch ≤ 1600) (hwh : wh ≤ 1) (hdy : dy ≤ 9) (hmo : mo ≤ 9) (hgd : gd ≤ 9) (hgs : gs ≤ 9) (hLk : kcLk L) (hlq : 1 ≤ dy → cdK (lK (lkF L)) ch wh y1 ∧ ∀ v, v < 3 → sgO (lG (lkF L) v) (yf v) (yt v)) (htq : 1 ≤ dy → kcTI L sa ft fa fo fg fk) (hfb : ∀ j, j < 9 → fb j = nI (Ba j)) (hfw : ∀ j, j < 9 → fw j = nI (We j)) (hB9 : ∀ j, Ba j ≤ 9) (hW9 : ∀ j, We j ≤ 9) (hwn : wn ≤ 999) (hU : muO U mu) : skM l yX11_sure cX11_sure 5 (some .int) 6 150 0 0 D (skT cI cJ cC cZ cS) [.ref x0, .int d, .int w] [ro_rrrrrrrrrrrrrrrirl x0 11 (q 0) (q 1) (q 2) (q 3) (q 4) (q 5) (q 6) (q 7) (q 8) (q 9) (q 10) (q 11) (q 12) (q 13) (q 14) hc (q 16) dr, ro_rrrrrr (q 10) 9 (q 61) (q 62) (q 63) (q 64) (q 65) (q 66), ra_N (q 61) cI 90 sa, ra_I (q 62) cI 900 ft, ra_I (q 63) cI 90 fa, ra_I (q 64) cI 90 fo, ra_J (q 65) cJ 90 fg, ra_I (q 66) cI 9 fk, ro_rrrrrnniin (q 5) 2 (q 44) (q 45) (q 46) (q 47) (q 48) dh mh uh rh nh, ro_rrrrnn (q 44) 0 (q 49) (q 50) (q 51) (q 52) ch wh, ra_I (q 49) cI 1600 y1, ra_J (q 50) cJ 64 y2, ra_J (q 51) cJ 9 y3, ra_J (q 52) cJ 10 y4, ra_I (q 47) cI 3 yf, ra_I (q 48) cI 3 yt, ro_rrrrrrrnn (q 11) 1 (q 10) (q 67) (q 68) (q 69) (q 70) (q 71) (q 72) gd gs, ra_I (q 67) cI 90 e1, ra_I (q 68) cI 9 e2, ra_I (q 69) cI 10 e3, ro_rrnnnin (q 7) 7 (q 33) (q 34) dy wn mo mu ke, ra_I (q 33) cI 9 fb, ra_I (q 34) cI 9 fw] (skI D (skT cI cJ cC cZ cS) (fun (r : Int32) (u : va_W) => ∃ (sa2 : Nat → Nat), ∃ (ft2 : Nat → Int32), ∃ (fa2 : Nat → Int32), ∃ (fo2 : Nat → Int32), ∃ (fg2 : Nat → Int64), ∃ (fk2 : Nat → Int32), ∃ (z2 : Nat → Int64), ∃ (z3 : Nat → Int64), ∃ (g1 : Nat → Int32), ∃ (g2 : Nat → Int32), ∃ (g3 : Nat → Int32), ∃ (gd2 : Nat), ∃ (gs2 : Nat), (∀ j, sa2 j ≤ 9) ∧ (1 ≤ dy → kcTI L sa2 ft2 fa2 fo2 fg2 fk2) ∧ gd2 ≤ 9 ∧ gs2 ≤ 9 ∧ sureR (kcFo L wn Ba We U 0) (kSd L wn Ba We) dy mo U d w r ∧ u = [ro_rrrrrrrrrrrrrrrirl x0 11 (q 0) (q 1) (q 2) (q 3) (q 4) (q 5) (q 6) (q 7) (q 8) (q 9) (q 10) (q 11) (q 12) (q 13) (q 14) hc (q 16) dr, ro_rrrrrr (q 10) 9 (q 61) (q 62) (q 63) (q 64) (q 65) (q 66), ra_N (q 61) cI 90 sa2, ra_I (q 62) cI 900 ft2, ra_I (q 63) cI 90 fa2, ra_I (q 64) cI 90 fo2, ra_J (q 65) cJ 90 fg2, ra_I (q 66) cI 9 fk2, ro_rrrrrnniin (q 5) 2 (q 44) (q 45) (q 46) (q 47) (q 48) dh mh uh rh nh, ro_rrrrnn (q 44) 0 (q 49) (q 50) (q 51) (q 52) ch wh, ra_I (q 49) cI 1600 y1, ra_J (q 50) cJ 64 z2, ra_J (q 51) cJ 9 z3, ra_J (q 52) cJ 10 y4, ra_I (q 47) cI 3 yf, ra_I (q 48) cI 3 yt, ro_rrrrrrrnn (q 11) 1 (q 10) (q 67) (q 68) (q 69) (q 70) (q 71) (q 72) gd2 gs2, ra_I (q 67) cI 90 g1, ra_I (q 68) cI 9 g2, ra_I (q 69) cI 10 g3, ro_rrnnnin (q 7) 7 (q 33) (q 34) dy wn mo mu ke, ra_I (q 33) cI 9 fb, ra_I (q 34) cI 9 fw])) := by
  refine skM_of pf_X11_sure (Nat.le_of_ble_eq_true rfl) ?_
  intro p e s m below meth c A ls E hP hD hl
  refine skE_el E (fun hx hb hr hml hlocks hin hown hts hK hA => ?_)
  have hown : s.vm.findClass RX11 = some m.cls := hown
  have hS : va_S A s.heap s.heap [] := va_S.rf
  have hl : lv_has ls 5 [(0, .ref x0), (1, .int d), (2, .int w)] := hl
  refine lv_aload_n hx hb dX11_sure_0 rfl (lv_at hl 0 rfl) ?_
  refine lv_iload_n hx hb dX11_sure_1 rfl (lv_at hl 1 rfl) ?_
  refine lv_iload_n hx hb dX11_sure_2 rfl (lv_at hl 2 rfl) ?_
  refine sk_Vi (q0 := 0) (n := 2) (rest := []) (wr := fmR om_23_400004 _) ⟨hx, hb, hml, hown, hts⟩ hl.1 (c_ux_isWordOfI l D cI cJ cC cZ cS x0 q hc dr dy wn mo ke mu fb fw d w U hdy hU) w_4_186 w_4_188 w_0_27 w_1_1 w_4_189 hd_X11_isWordOf_2 ⟨⟨(Nat.le_of_ble_eq_true rfl), (Nat.le_of_ble_eq_true rfl)⟩, (Nat.le_of_ble_eq_true rfl), (Nat.le_of_ble_eq_true rfl)⟩ hK hP hD hS hA (fmT om_23_400004 0) (fmF om_23_400004 0) (fm_C1 rfl rfl) (fm_R rfl rfl) (fm_nT om_23_400004 0) (fm_nF om_23_400004 0) (fm_di om_23_400004 0) rfl rfl rfl rfl (Nat.le_of_ble_eq_true rfl) dX11_sure_3 (fun r_2 u H locs hw hP hD hS => ?_)
  refine exE hw (fun b_1 hw1 => anE hw1 (fun hwo_3 hw2 => anE hw2 (fun er_5 eu_4 => ?_)))
  clear hw hw1 hw2
  subst er_5
  refine o_mgE (ws' := [ro_rrrrrrrrrrrrrrrirl x0 11 (q 0) (q 1) (q 2) (q 3) (q 4) (q 5) (q 6) (q 7) (q 8) (q 9) (q 10) (q 11) (q 12) (q 13) (q 14) hc (q 16) dr, ro_rrrrrr (q 10) 9 (q 61) (q 62) (q 63) (q 64) (q 65) (q 66), ra_N (q 61) cI 90 sa, ra_I (q 62) cI 900 ft, ra_I (q 63) cI 90 fa, ra_I (q 64) cI 90 fo, ra_J (q 65) cJ 90 fg, ra_I (q 66) cI 9 fk, ro_rrrrrnniin (q 5) 2 (q 44) (q 45) (q 46) (q 47) (q 48) dh mh uh rh nh, ro_rrrrnn (q 44) 0 (q 49) (q 50) (q 51) (q 52) ch wh, ra_I (q 49) cI 1600 y1, ra_J (q 50) cJ 64 y2, ra_J (q 51) cJ 9 y3, ra_J (q 52) cJ 10 y4, ra_I (q 47) cI 3 yf, ra_I (q 48) cI 3 yt, ro_rrrrrrrnn (q 11) 1 (q 10) (q 67) (q 68) (q 69) (q 70) (q 71) (q 72) gd gs, ra_I (q 67) cI 90 e1, ra_I (q 68) cI 9 e2, ra_I (q 69) cI 10 e3, ro_rrnnnin (q 7) 7 (q 33) (q 34) dy wn mo mu ke, ra_I (q 33) cI 9 fb, ra_I (q 34) cI 9 fw]) eu_4 hP hD rfl (fun hP hD => ?_)
  refine lv_if_eq (tgt := 18) hx hb dX11_sure_6 (by decide) (fun c_6 => ?_) (fun c_6 => ?_)
  · have c_6 : b_1 = 0 := (neq b_1 0 (by omega) (Nat.le_of_ble_eq_true rfl)).mp c_6
    refine lv_iconst (v := (-1)) hx hb dX11_sure_18 (by decide) ?_
    exact sk_iret hx hb hr rfl hlocks hK hP hD hS (⟨sa, ft, fa, fo, fg, fk, y2, y3, e1, e2, e3, gd, gs, hsa, htq, hgd, hgs, sur_0 (rr_0 hwo_3 (by omega)), rfl⟩) (Nat.le_of_ble_eq_true rfl) (Nat.le_of_ble_eq_true rfl) dX11_sure_19
  · have c_6 : ¬ (b_1 = 0) := fun h => c_6 ((neq b_1 0 (by omega) (Nat.le_of_ble_eq_true rfl)).mpr h)
    obtain ⟨⟨ka_7, kb_8⟩, hx_9⟩ := rr_1 hwo_3 (by omega)
    have hka_7 : ka_7 < dy := hx_9.1
    have hkb_8 : kb_8 < 10 := hx_9.2.2.2.1
    have nka_7 : ¬ U ka_7 = true := hx_9.2.2.1
    have ed_ : d = nI ka_7 := hx_9.2.1
    have ew_ : w = nI kb_8 := hx_9.2.2.2.2
    subst ed_
    subst ew_
    refine lv_aload_n hx hb dX11_sure_9 rfl (lv_at hl 0 rfl) ?_
    refine lv_iload_n hx hb dX11_sure_10 rfl (lv_at hl 1 rfl) ?_
    refine lv_iload_n hx hb dX11_sure_11 rfl (lv_at hl 2 rfl) ?_
    refine sk_Vi (q0 := 0) (n := 2) (rest := []) (wr := fmR om_23_7fffff _) ⟨hx, hb, hml, hown, hts⟩ hl.1 (c_ux_lookByWord l D cI cJ cC cZ cS x0 q hc dr sa ft fa fo fg fk dh mh uh rh nh ch wh y1 y2 y3 y4 yf yt gd gs e1 e2 e3 dy wn mo ke mu fb fw Ba We L U ka_7 kb_8 hsa hch hwh hdy hmo hLk (hlq (by omega)).1 (hlq (by omega)).2 hfb hfw hB9 hW9 hwn hU (htq (by omega)) (by omega) (by omega)) w_4_190 w_4_192 w_0_28 w_1_1 w_4_193 hd_X11_lookByWord_2 ⟨⟨(Nat.le_of_ble_eq_true rfl), (Nat.le_of_ble_eq_true rfl)⟩, (Nat.le_of_ble_eq_true rfl), (Nat.le_of_ble_eq_true rfl)⟩ hK hP hD hS hA (fmT om_23_7fffff 0) (fmF om_23_7fffff 0) (fm_C1 rfl rfl) (fm_R rfl rfl) (fm_nT om_23_7fffff 0) (fm_nF om_23_7fffff 0) (fm_di om_23_7fffff 0) rfl rfl rfl rfl (Nat.le_of_ble_eq_true rfl) dX11_sure_12 (fun r_22 u H locs hw hP hD hS => ?_)
    refine exE hw (fun sa2_10 hw1 => exE hw1 (fun ft2_11 hw2 => exE hw2 (fun fa2_12 hw3 => exE hw3 (fun fo2_13 hw4 => exE hw4 (fun fg2_14 hw5 => exE hw5 (fun fk2_15 hw6 => exE hw6 (fun z2_16 hw7 => exE hw7 (fun z3_17 hw8 => exE hw8 (fun g1_18 hw9 => exE hw9 (fun g2_19 hw10 => exE hw10 (fun g3_20 hw11 => exE hw11 (fun b_21 hw12 => anE hw12 (fun hsa2_23 hw13 => anE hw13 (fun hti2_24 hw14 => anE hw14 (fun hld2_25 hw15 => anE hw15 (fun hlv2_26 hw16 => anE hw16 (fun hb1_27 hw17 => anE hw17 (fun er_29 eu_28 => ?_))))))))))))))))))
    clear hw hw1 hw2 hw3 hw4 hw5 hw6 hw7 hw8 hw9 hw10 hw11 hw12 hw13 hw14 hw15 hw16 hw17
    subst er_29
    refine o_mgE (ws' := [ro_rrrrrrrrrrrrrrrirl x0 11 (q 0) (q 1) (q 2) (q 3) (q 4) (q 5) (q 6) (q 7) (q 8) (q 9) (q 10) (q 11) (q 12) (q 13) (q 14) hc (q 16) dr, ro_rrrrrr (q 10) 9 (q 61) (q 62) (q 63) (q 64) (q 65) (q 66), ra_N (q 61) cI 90 sa2_10, ra_I (q 62) cI 900 ft2_11, ra_I (q 63) cI 90 fa2_12, ra_I (q 64) cI 90 fo2_13, ra_J (q 65) cJ 90 fg2_14, ra_I (q 66) cI 9 fk2_15, ro_rrrrrnniin (q 5) 2 (q 44) (q 45) (q 46) (q 47) (q 48) dh mh uh rh nh, ro_rrrrnn (q 44) 0 (q 49) (q 50) (q 51) (q 52) ch wh, ra_I (q 49) cI 1600 y1, ra_J (q 50) cJ 64 z2_16, ra_J (q 51) cJ 9 z3_17, ra_J (q 52) cJ 10 y4, ra_I (q 47) cI 3 yf, ra_I (q 48) cI 3 yt, ro_rrrrrrrnn (q 11) 1 (q 10) (q 67) (q 68) (q 69) (q 70) (q 71) (q 72) dy mo, ra_I (q 67) cI 90 g1_18, ra_I (q 68) cI 9 g2_19, ra_I (q 69) cI 10 g3_20, ro_rrnnnin (q 7) 7 (q 33) (q 34) dy wn mo mu ke, ra_I (q 33) cI 9 fb, ra_I (q 34) cI 9 fw]) eu_28 hP hD rfl (fun hP hD => ?_)
    refine lv_if_ne (tgt := 20) hx hb dX11_sure_15 (by decide) (fun c_30 => ?_) (fun c_30 => ?_)
    · have c_30 : ¬ (b_21 = 0) := fun h => c_30 ((neq b_21 0 (by omega) (Nat.le_of_ble_eq_true rfl)).mpr h)
      have hpos := rr_1 hb1_27 (by omega)
      refine lv_iconst (v := 0) hx hb dX11_sure_20 ic_0 ?_
      refine lv_istore_n (lv' := [(3, .int 0), (0, .ref x0), (1, .int (nI ka_7)), (2, .int (nI kb_8))]) hx hb dX11_sure_21 rfl hl (by decide) rfl (fun ls hl => ?_)
      refine lv_iload_n hx hb dX11_sure_22 rfl (lv_at hl 2 rfl) ?_
      refine lv_istore (lv' := [(4, .int (nI ka_7)), (3, .int 0), (0, .ref x0), (1, .int (nI ka_7)), (2, .int (nI kb_8))]) hx hb dX11_sure_23 hl (by decide) rfl (fun ls hl => ?_)
      have lp_31 : ∀ (n_32 : Nat) (i : Nat) (su : Nat) (H : Heap) (locs : List Loc) (ls : Array Slot), dy - i < n_32 → (i ≤ dy) → (su + kSu (sureP (kcFw (kcFo L wn Ba We U 0) (kSd L wn Ba We) ka_7 kb_8) dy mo) (dy - i) i = kSu (sureP (kcFw (kcFo L wn Ba We U 0) (kSd L wn Ba We) ka_7 kb_8) dy mo) (dy - ka_7) ka_7) → va_P D vwCl [ro_rrrrrrrrrrrrrrrirl x0 11 (q 0) (q 1) (q 2) (q 3) (q 4) (q 5) (q 6) (q 7) (q 8) (q 9) (q 10) (q 11) (q 12) (q 13) (q 14) hc (q 16) dr, ro_rrrrrr (q 10) 9 (q 61) (q 62) (q 63) (q 64) (q 65) (q 66), ra_N (q 61) cI 90 sa2_10, ra_I (q 62) cI 900 ft2_11, ra_I (q 63) cI 90 fa2_12, ra_I (q 64) cI 90 fo2_13, ra_J (q 65) cJ 90 fg2_14, ra_I (q 66) cI 9 fk2_15, ro_rrrrrnniin (q 5) 2 (q 44) (q 45) (q 46) (q 47) (q 48) dh mh uh rh nh, ro_rrrrnn (q 44) 0 (q 49) (q 50) (q 51) (q 52) ch wh, ra_I (q 49) cI 1600 y1, ra_J (q 50) cJ 64 z2_16, ra_J (q 51) cJ 9 z3_17, ra_J (q 52) cJ 10 y4, ra_I (q 47) cI 3 yf, ra_I (q 48) cI 3 yt, ro_rrrrrrrnn (q 11) 1 (q 10) (q 67) (q 68) (q 69) (q 70) (q 71) (q 72) dy mo, ra_I (q 67) cI 90 g1_18, ra_I (q 68) cI 9 g2_19, ra_I (q 69) cI 10 g3_20, ro_rrnnnin (q 7) 7 (q 33) (q 34) dy wn mo mu ke, ra_I (q 33) cI 9 fb, ra_I (q 34) cI 9 fw] H → va_D A [ro_rrrrrrrrrrrrrrrirl x0 11 (q 0) (q 1) (q 2) (q 3) (q 4) (q 5) (q 6) (q 7) (q 8) (q 9) (q 10) (q 11) (q 12) (q 13) (q 14) hc (q 16) dr, ro_rrrrrr (q 10) 9 (q 61) (q 62) (q 63) (q 64) (q 65) (q 66), ra_N (q 61) cI 90 sa2_10, ra_I (q 62) cI 900 ft2_11, ra_I (q 63) cI 90 fa2_12, ra_I (q 64) cI 90 fo2_13, ra_J (q 65) cJ 90 fg2_14, ra_I (q 66) cI 9 fk2_15, ro_rrrrrnniin (q 5) 2 (q 44) (q 45) (q 46) (q 47) (q 48) dh mh uh rh nh, ro_rrrrnn (q 44) 0 (q 49) (q 50) (q 51) (q 52) ch wh, ra_I (q 49) cI 1600 y1, ra_J (q 50) cJ 64 z2_16, ra_J (q 51) cJ 9 z3_17, ra_J (q 52) cJ 10 y4, ra_I (q 47) cI 3 yf, ra_I (q 48) cI 3 yt, ro_rrrrrrrnn (q 11) 1 (q 10) (q 67) (q 68) (q 69) (q 70) (q 71) (q 72) dy mo, ra_I (q 67) cI 90 g1_18, ra_I (q 68) cI 9 g2_19, ra_I (q 69) cI 10 g3_20, ro_rrnnnin (q 7) 7 (q 33) (q 34) dy wn mo mu ke, ra_I (q 33) cI 9 fb, ra_I (q 34) cI 9 fw] → va_S A s.heap H locs → lv_has ls 5 [(4, .int (nI i)), (3, .int (nI su)), (0, .ref x0), (1, .int (nI ka_7)), (2, .int (nI kb_8))] → W p l e { frames := 6, cells := 0, slots := 0, locals := 150 } s m ([.ref x0, .int (nI ka_7), .int (nI kb_8)] : List Value).toArray below meth c H locs 0 0 (MQ below (skI D (skT cI cJ cC cZ cS) (fun (r : Int32) (u : va_W) => ∃ (sa2 : Nat → Nat), ∃ (ft2 : Nat → Int32), ∃ (fa2 : Nat → Int32), ∃ (fo2 : Nat → Int32), ∃ (fg2 : Nat → Int64), ∃ (fk2 : Nat → Int32), ∃ (z2 : Nat → Int64), ∃ (z3 : Nat → Int64), ∃ (g1 : Nat → Int32), ∃ (g2 : Nat → Int32), ∃ (g3 : Nat → Int32), ∃ (gd2 : Nat), ∃ (gs2 : Nat), (∀ j, sa2 j ≤ 9) ∧ (1 ≤ dy → kcTI L sa2 ft2 fa2 fo2 fg2 fk2) ∧ gd2 ≤ 9 ∧ gs2 ≤ 9 ∧ sureR (kcFo L wn Ba We U 0) (kSd L wn Ba We) dy mo U (nI ka_7) (nI kb_8) r ∧ u = [ro_rrrrrrrrrrrrrrrirl x0 11 (q 0) (q 1) (q 2) (q 3) (q 4) (q 5) (q 6) (q 7) (q 8) (q 9) (q 10) (q 11) (q 12) (q 13) (q 14) hc (q 16) dr, ro_rrrrrr (q 10) 9 (q 61) (q 62) (q 63) (q 64) (q 65) (q 66), ra_N (q 61) cI 90 sa2, ra_I (q 62) cI 900 ft2, ra_I (q 63) cI 90 fa2, ra_I (q 64) cI 90 fo2, ra_J (q 65) cJ 90 fg2, ra_I (q 66) cI 9 fk2, ro_rrrrrnniin (q 5) 2 (q 44) (q 45) (q 46) (q 47) (q 48) dh mh uh rh nh, ro_rrrrnn (q 44) 0 (q 49) (q 50) (q 51) (q 52) ch wh, ra_I (q 49) cI 1600 y1, ra_J (q 50) cJ 64 z2, ra_J (q 51) cJ 9 z3, ra_J (q 52) cJ 10 y4, ra_I (q 47) cI 3 yf, ra_I (q 48) cI 3 yt, ro_rrrrrrrnn (q 11) 1 (q 10) (q 67) (q 68) (q 69) (q 70) (q 71) (q 72) gd2 gs2, ra_I (q 67) cI 90 g1, ra_I (q 68) cI 9 g2, ra_I (q 69) cI 10 g3, ro_rrnnnin (q 7) 7 (q 33) (q 34) dy wn mo mu ke, ra_I (q 33) cI 9 fb, ra_I (q 34) cI 9 fw]) A) ([.ref x0, .int (nI ka_7), .int (nI kb_8)] : List Value).toArray s 0 0 A) (F0 m 25 ls []) := by
        intro n_32
        induction n_32 with
        | zero => intro i su H locs ls hm; exact absurd hm (Nat.not_lt_zero _)
        | succ n_32 ih_lp_31 =>
          intro i su H locs ls hm hi hsu hP hD hS hl
          refine lv_iload hx hb dX11_sure_25 (lv_at hl 0 rfl) ?_
          refine lv_aload_n hx hb dX11_sure_27 rfl (lv_at hl 2 rfl) ?_
          refine sk_get (v := .ref (q 7)) (C := RX11) (T := TX11) (N := 18) hx hb hts inlX11 hown hK hP 0 rfl rfl 7 (Nat.le_of_ble_eq_true rfl) w_2_130 rfl dX11_sure_28 ?_
          refine sk_get (v := .int (nI dy)) (C := RX7) (T := TX7) (N := 7) hx hb hts inlX7 hown hK hP 20 rfl rfl 2 (Nat.le_of_ble_eq_true rfl) w_2_1 rfl dX11_sure_31 ?_
          refine lv_icmp_ge (tgt := 62) hx hb dX11_sure_34 (by decide) (fun c_33 => ?_) (fun c_33 => ?_)
          · have c_33 : dy ≤ i := (nle dy i (by omega) (by omega)).mp c_33
            refine lv_iload_n hx hb dX11_sure_62 rfl (lv_at hl 1 rfl) ?_
            exact sk_iret hx hb hr rfl hlocks hK hP hD hS (⟨sa2_10, ft2_11, fa2_12, fo2_13, fg2_14, fk2_15, z2_16, z3_17, g1_18, g2_19, g3_20, dy, mo, hsa2_23, (fun _ => hti2_24), hdy, hmo, sur_2 hx_9 hpos (ksu_e hsu (by omega)), rfl⟩) (Nat.le_of_ble_eq_true rfl) (Nat.le_of_ble_eq_true rfl) dX11_sure_63
          · have c_33 : ¬ (dy ≤ i) := fun h => c_33 ((nle dy i (by omega) (by omega)).mpr h)
            refine lv_aload_n hx hb dX11_sure_37 rfl (lv_at hl 2 rfl) ?_
            refine sk_get (v := .ref (q 11)) (C := RX11) (T := TX11) (N := 18) hx hb hts inlX11 hown hK hP 0 rfl rfl 11 (Nat.le_of_ble_eq_true rfl) w_2_134 rfl dX11_sure_38 ?_
            refine lv_iload hx hb dX11_sure_41 (lv_at hl 0 rfl) ?_
            refine sk_Vi (q0 := 0) (n := 1) (rest := []) (wr := fmR om_23_78 _) ⟨hx, hb, hml, hown, hts⟩ hl.1 (c_umoodsOf l D cI cJ cC cZ cS q dy mo g1_18 g2_19 g3_20 i (kcFw (kcFo L wn Ba We U 0) (kSd L wn Ba We) ka_7 kb_8) hdy hmo hld2_25 hlv2_26 (by omega)) w_4_104 w_4_105 w_4_106 w_1_13 w_4_107 hd_X1_moodsOf_1 ⟨⟨(Nat.le_of_ble_eq_true rfl), (Nat.le_of_ble_eq_true rfl)⟩, (Nat.le_of_ble_eq_true rfl), (Nat.le_of_ble_eq_true rfl)⟩ hK hP hD hS hA (fmT om_23_78 0) (fmF om_23_78 0) (fm_C1 rfl rfl) (fm_R rfl rfl) (fm_nT om_23_78 0) (fm_nF om_23_78 0) (fm_di om_23_78 0) rfl rfl rfl rfl (Nat.le_of_ble_eq_true rfl) dX11_sure_43 (fun r_34 u H locs hw hP hD hS => ?_)
            refine anE hw (fun er_36 eu_35 => ?_)
            clear hw
            subst er_36
            refine o_mgE (ws' := [ro_rrrrrrrrrrrrrrrirl x0 11 (q 0) (q 1) (q 2) (q 3) (q 4) (q 5) (q 6) (q 7) (q 8) (q 9) (q 10) (q 11) (q 12) (q 13) (q 14) hc (q 16) dr, ro_rrrrrr (q 10) 9 (q 61) (q 62) (q 63) (q 64) (q 65) (q 66), ra_N (q 61) cI 90 sa2_10, ra_I (q 62) cI 900 ft2_11, ra_I (q 63) cI 90 fa2_12, ra_I (q 64) cI 90 fo2_13, ra_J (q 65) cJ 90 fg2_14, ra_I (q 66) cI 9 fk2_15, ro_rrrrrnniin (q 5) 2 (q 44) (q 45) (q 46) (q 47) (q 48) dh mh uh rh nh, ro_rrrrnn (q 44) 0 (q 49) (q 50) (q 51) (q 52) ch wh, ra_I (q 49) cI 1600 y1, ra_J (q 50) cJ 64 z2_16, ra_J (q 51) cJ 9 z3_17, ra_J (q 52) cJ 10 y4, ra_I (q 47) cI 3 yf, ra_I (q 48) cI 3 yt, ro_rrrrrrrnn (q 11) 1 (q 10) (q 67) (q 68) (q 69) (q 70) (q 71) (q 72) dy mo, ra_I (q 67) cI 90 g1_18, ra_I (q 68) cI 9 g2_19, ra_I (q 69) cI 10 g3_20, ro_rrnnnin (q 7) 7 (q 33) (q 34) dy wn mo mu ke, ra_I (q 33) cI 9 fb, ra_I (q 34) cI 9 fw]) eu_35 hP hD rfl (fun hP hD => ?_)
            refine sk_Si (n := 1) (rest := []) (wr := [ro_rrrrrrrrrrrrrrrirl x0 11 (q 0) (q 1) (q 2) (q 3) (q 4) (q 5) (q 6) (q 7) (q 8) (q 9) (q 10) (q 11) (q 12) (q 13) (q 14) hc (q 16) dr, ro_rrrrrr (q 10) 9 (q 61) (q 62) (q 63) (q 64) (q 65) (q 66), ra_N (q 61) cI 90 sa2_10, ra_I (q 62) cI 900 ft2_11, ra_I (q 63) cI 90 fa2_12, ra_I (q 64) cI 90 fo2_13, ra_J (q 65) cJ 90 fg2_14, ra_I (q 66) cI 9 fk2_15, ro_rrrrrnniin (q 5) 2 (q 44) (q 45) (q 46) (q 47) (q 48) dh mh uh rh nh, ro_rrrrnn (q 44) 0 (q 49) (q 50) (q 51) (q 52) ch wh, ra_I (q 49) cI 1600 y1, ra_J (q 50) cJ 64 z2_16, ra_J (q 51) cJ 9 z3_17, ra_J (q 52) cJ 10 y4, ra_I (q 47) cI 3 yf, ra_I (q 48) cI 3 yt, ro_rrrrrrrnn (q 11) 1 (q 10) (q 67) (q 68) (q 69) (q 70) (q 71) (q 72) dy mo, ra_I (q 67) cI 90 g1_18, ra_I (q 68) cI 9 g2_19, ra_I (q 69) cI 10 g3_20, ro_rrnnnin (q 7) 7 (q 33) (q 34) dy wn mo mu ke, ra_I (q 33) cI 9 fb, ra_I (q 34) cI 9 fw]) ⟨hx, hb, hml, hown, hts⟩ hl.1 (c_ubitCountT l D cI cJ cC cZ cS (kcMs (kcFw (kcFo L wn Ba We U 0) (kSd L wn Ba We) ka_7 kb_8) dy mo i) (kms_lt _ _ _ _)) w_3_173 w_3_174 w_1_21 w_3_175 hd_J6_bitCount_0f7a4_1 ⟨⟨(Nat.le_of_ble_eq_true rfl), (Nat.le_of_ble_eq_true rfl)⟩, (Nat.le_of_ble_eq_true rfl), (Nat.le_of_ble_eq_true rfl)⟩ hK hP hD hS hA [] [0, 1, 2, 3, 4, 5, 6, 7, 8, 9, 10, 11, 12, 13, 14, 15, 16, 17, 18, 19, 20, 21, 22] rfl rfl (by decide +kernel) (by decide +kernel) (by decide +kernel) rfl rfl (Nat.le_of_ble_eq_true rfl) dX11_sure_46 (fun r_37 u H locs hw hP hD hS => ?_)
            obtain ⟨hr_38, rfl⟩ := hw
            refine o_re (ws' := [ro_rrrrrrrrrrrrrrrirl x0 11 (q 0) (q 1) (q 2) (q 3) (q 4) (q 5) (q 6) (q 7) (q 8) (q 9) (q 10) (q 11) (q 12) (q 13) (q 14) hc (q 16) dr, ro_rrrrrr (q 10) 9 (q 61) (q 62) (q 63) (q 64) (q 65) (q 66), ra_N (q 61) cI 90 sa2_10, ra_I (q 62) cI 900 ft2_11, ra_I (q 63) cI 90 fa2_12, ra_I (q 64) cI 90 fo2_13, ra_J (q 65) cJ 90 fg2_14, ra_I (q 66) cI 9 fk2_15, ro_rrrrrnniin (q 5) 2 (q 44) (q 45) (q 46) (q 47) (q 48) dh mh uh rh nh, ro_rrrrnn (q 44) 0 (q 49) (q 50) (q 51) (q 52) ch wh, ra_I (q 49) cI 1600 y1, ra_J (q 50) cJ 64 z2_16, ra_J (q 51) cJ 9 z3_17, ra_J (q 52) cJ 10 y4, ra_I (q 47) cI 3 yf, ra_I (q 48) cI 3 yt, ro_rrrrrrrnn (q 11) 1 (q 10) (q 67) (q 68) (q 69) (q 70) (q 71) (q 72) dy mo, ra_I (q 67) cI 90 g1_18, ra_I (q 68) cI 9 g2_19, ra_I (q 69) cI 10 g3_20, ro_rrnnnin (q 7) 7 (q 33) (q 34) dy wn mo mu ke, ra_I (q 33) cI 9 fb, ra_I (q 34) cI 9 fw]) hP hD rfl (fun hP hD => ?_)
            subst hr_38
            refine lv_iconst (v := 1) hx hb dX11_sure_49 ic_1 ?_
            refine lv_icmp_ne (tgt := 62) hx hb dX11_sure_50 (by decide) (fun c_39 => ?_) (fun c_39 => ?_)
            · skip
              refine lv_iload_n hx hb dX11_sure_62 rfl (lv_at hl 1 rfl) ?_
              exact sk_iret hx hb hr rfl hlocks hK hP hD hS (⟨sa2_10, ft2_11, fa2_12, fo2_13, fg2_14, fk2_15, z2_16, z3_17, g1_18, g2_19, g3_20, dy, mo, hsa2_23, (fun _ => hti2_24), hdy, hmo, sur_2 hx_9 hpos (ksu_n hsu (by omega) (ksp_0 c_39)), rfl⟩) (Nat.le_of_ble_eq_true rfl) (Nat.le_of_ble_eq_true rfl) dX11_sure_63
            · skip
              refine lv_iinc (v := nI (su + 1)) (lv' := [(3, .int (nI (su + 1))), (4, .int (nI i)), (0, .ref x0), (1, .int (nI ka_7)), (2, .int (nI kb_8))]) hx hb dX11_sure_53 hl (k := 1) rfl (ninc su 1 (by decide)) (by decide) rfl (fun ls hl => ?_)
              refine lv_iinc (v := nI (i + 1)) (lv' := [(4, .int (nI (i + 1))), (3, .int (nI (su + 1))), (0, .ref x0), (1, .int (nI ka_7)), (2, .int (nI kb_8))]) hx hb dX11_sure_56 hl (k := 1) rfl (ninc i 1 (by decide)) (by decide) rfl (fun ls hl => ?_)
              refine lv_goto (tgt := 25) hx hb dX11_sure_59 (by decide) ?_
              exact ih_lp_31 (i + 1) (su + 1) _ _ _ (by omega) (by omega) (ksu_y hsu (by omega) (ksp_1 c_39)) hP hD hS (lv_sub hl [0, 1, 2, 3, 4] rfl)
      exact lp_31 (dy - ka_7 + 1) ka_7 0 _ _ _ (Nat.lt_succ_self _) (by omega) (Nat.zero_add _) hP hD hS (lv_sub hl [0, 1, 2, 3, 4] rfl)
    · have c_30 : b_21 = 0 := (neq b_21 0 (by omega) (Nat.le_of_ble_eq_true rfl)).mp c_30
      refine lv_iconst (v := (-1)) hx hb dX11_sure_18 (by decide) ?_
      exact sk_iret hx hb hr rfl hlocks hK hP hD hS (⟨sa2_10, ft2_11, fa2_12, fo2_13, fg2_14, fk2_15, z2_16, z3_17, g1_18, g2_19, g3_20, dy, mo, hsa2_23, (fun _ => hti2_24), hdy, hmo, sur_1 (by omega) hx_9 (rr_0 hb1_27 (by omega)), rfl⟩) (Nat.le_of_ble_eq_true rfl) (Nat.le_of_ble_eq_true rfl) dX11_sure_19
theorem khu_s {U : Nat → Bool} {hR : Nat → Nat} {i : Nat} (h : ∀ j, j < i → U (hR j / 10) = false) (h2 : U (hR i / 10) = false) : ∀ j, j < i + 1 → U (hR j / 10) = false := fun j hj => by
  by_cases e : j = i
  · subst e; exact h2
  · exact h j (by omega)
theorem dg_X11_lookByHeard_0_0 : bqL cX11_lookByHeard 0 [(0, [42]), (1, [180, 0, 76]), (4, [42]), (5, [180, 0, 49]), (8, [42]), (9, [180, 0, 59]), (12, [182, 0, 185]), (15, [42]), (16, [180, 0, 85]), (19, [42]), (20, [180, 0, 59]), (23, [42]), (24, [180, 0, 59]), (27, [180, 0, 153]), (30, [3]), (31, [182, 0, 230]), (34, [3]), (35, [60]), (36, [27]), (37, [42]), (38, [180, 0, 99]), (41, [162, 0, 71]), (112, [42]), (113, [180, 0, 85]), (116, [182, 0, 234]), (119, [172]), (44, [27]), (45, [16, 16]), (47, [162, 0, 65]), (50, [42]), (51, [180, 0, 96]), (54, [27]), (55, [46]), (56, [16, 10]), (58, [108]), (59, [61]), (60, [42]), (61, [28]), (62, [182, 0, 170]), (65, [153, 0, 14])] = true := by decide +kernel
theorem dX11_lookByHeard_0 : decode cX11_lookByHeard 0 = .ok (.aload_n 0, 1) := q_aload_n0 (bat_get dg_X11_lookByHeard_0_0 0 rfl rfl)
theorem dX11_lookByHeard_1 : decode cX11_lookByHeard 1 = .ok (.getfield 76, 3) := q_getfield (bat_get dg_X11_lookByHeard_0_0 1 rfl rfl) rfl
theorem dX11_lookByHeard_4 : decode cX11_lookByHeard 4 = .ok (.aload_n 0, 1) := q_aload_n0 (bat_get dg_X11_lookByHeard_0_0 2 rfl rfl)
theorem dX11_lookByHeard_5 : decode cX11_lookByHeard 5 = .ok (.getfield 49, 3) := q_getfield (bat_get dg_X11_lookByHeard_0_0 3 rfl rfl) rfl
theorem dX11_lookByHeard_8 : decode cX11_lookByHeard 8 = .ok (.aload_n 0, 1) := q_aload_n0 (bat_get dg_X11_lookByHeard_0_0 4 rfl rfl)
theorem dX11_lookByHeard_9 : decode cX11_lookByHeard 9 = .ok (.getfield 59, 3) := q_getfield (bat_get dg_X11_lookByHeard_0_0 5 rfl rfl) rfl
theorem dX11_lookByHeard_12 : decode cX11_lookByHeard 12 = .ok (.invokevirtual 185, 3) := q_invokevirtual (bat_get dg_X11_lookByHeard_0_0 6 rfl rfl) rfl
theorem dX11_lookByHeard_15 : decode cX11_lookByHeard 15 = .ok (.aload_n 0, 1) := q_aload_n0 (bat_get dg_X11_lookByHeard_0_0 7 rfl rfl)
theorem dX11_lookByHeard_16 : decode cX11_lookByHeard 16 = .ok (.getfield 85, 3) := q_getfield (bat_get dg_X11_lookByHeard_0_0 8 rfl rfl) rfl
theorem dX11_lookByHeard_19 : decode cX11_lookByHeard 19 = .ok (.aload_n 0, 1) := q_aload_n0 (bat_get dg_X11_lookByHeard_0_0 9 rfl rfl)
theorem dX11_lookByHeard_20 : decode cX11_lookByHeard 20 = .ok (.getfield 59, 3) := q_getfield (bat_get dg_X11_lookByHeard_0_0 10 rfl rfl) rfl
theorem dX11_lookByHeard_23 : decode cX11_lookByHeard 23 = .ok (.aload_n 0, 1) := q_aload_n0 (bat_get dg_X11_lookByHeard_0_0 11 rfl rfl)
theorem dX11_lookByHeard_24 : decode cX11_lookByHeard 24 = .ok (.getfield 59, 3) := q_getfield (bat_get dg_X11_lookByHeard_0_0 12 rfl rfl) rfl
theorem dX11_lookByHeard_27 : decode cX11_lookByHeard 27 = .ok (.getfield 153, 3) := q_getfield (bat_get dg_X11_lookByHeard_0_0 13 rfl rfl) rfl
theorem dX11_lookByHeard_30 : decode cX11_lookByHeard 30 = .ok (.iconst 0, 1) := q_iconst0 (bat_get dg_X11_lookByHeard_0_0 14 rfl rfl)
theorem dX11_lookByHeard_31 : decode cX11_lookByHeard 31 = .ok (.invokevirtual 230, 3) := q_invokevirtual (bat_get dg_X11_lookByHeard_0_0 15 rfl rfl) rfl
theorem dX11_lookByHeard_34 : decode cX11_lookByHeard 34 = .ok (.iconst 0, 1) := q_iconst0 (bat_get dg_X11_lookByHeard_0_0 16 rfl rfl)
theorem dX11_lookByHeard_35 : decode cX11_lookByHeard 35 = .ok (.istore_n 1, 1) := q_istore_n1 (bat_get dg_X11_lookByHeard_0_0 17 rfl rfl)
theorem dX11_lookByHeard_36 : decode cX11_lookByHeard 36 = .ok (.iload_n 1, 1) := q_iload_n1 (bat_get dg_X11_lookByHeard_0_0 18 rfl rfl)
theorem dX11_lookByHeard_37 : decode cX11_lookByHeard 37 = .ok (.aload_n 0, 1) := q_aload_n0 (bat_get dg_X11_lookByHeard_0_0 19 rfl rfl)
theorem dX11_lookByHeard_38 : decode cX11_lookByHeard 38 = .ok (.getfield 99, 3) := q_getfield (bat_get dg_X11_lookByHeard_0_0 20 rfl rfl) rfl
theorem dX11_lookByHeard_41 : decode cX11_lookByHeard 41 = .ok (.if_icmp .ge 71, 3) := q_if_icmp_ge (bat_get dg_X11_lookByHeard_0_0 21 rfl rfl) rfl
theorem dX11_lookByHeard_112 : decode cX11_lookByHeard 112 = .ok (.aload_n 0, 1) := q_aload_n0 (bat_get dg_X11_lookByHeard_0_0 22 rfl rfl)
theorem dX11_lookByHeard_113 : decode cX11_lookByHeard 113 = .ok (.getfield 85, 3) := q_getfield (bat_get dg_X11_lookByHeard_0_0 23 rfl rfl) rfl
theorem dX11_lookByHeard_116 : decode cX11_lookByHeard 116 = .ok (.invokevirtual 234, 3) := q_invokevirtual (bat_get dg_X11_lookByHeard_0_0 24 rfl rfl) rfl
theorem dX11_lookByHeard_119 : decode cX11_lookByHeard 119 = .ok (.ireturn, 1) := q_ireturn (bat_get dg_X11_lookByHeard_0_0 25 rfl rfl)
theorem dX11_lookByHeard_44 : decode cX11_lookByHeard 44 = .ok (.iload_n 1, 1) := q_iload_n1 (bat_get dg_X11_lookByHeard_0_0 26 rfl rfl)
theorem dX11_lookByHeard_45 : decode cX11_lookByHeard 45 = .ok (.bipush 16, 2) := q_bipush (bat_get dg_X11_lookByHeard_0_0 27 rfl rfl) rfl
theorem dX11_lookByHeard_47 : decode cX11_lookByHeard 47 = .ok (.if_icmp .ge 65, 3) := q_if_icmp_ge (bat_get dg_X11_lookByHeard_0_0 28 rfl rfl) rfl
theorem dX11_lookByHeard_50 : decode cX11_lookByHeard 50 = .ok (.aload_n 0, 1) := q_aload_n0 (bat_get dg_X11_lookByHeard_0_0 29 rfl rfl)
theorem dX11_lookByHeard_51 : decode cX11_lookByHeard 51 = .ok (.getfield 96, 3) := q_getfield (bat_get dg_X11_lookByHeard_0_0 30 rfl rfl) rfl
theorem dX11_lookByHeard_54 : decode cX11_lookByHeard 54 = .ok (.iload_n 1, 1) := q_iload_n1 (bat_get dg_X11_lookByHeard_0_0 31 rfl rfl)
theorem dX11_lookByHeard_55 : decode cX11_lookByHeard 55 = .ok (.iaload, 1) := q_iaload (bat_get dg_X11_lookByHeard_0_0 32 rfl rfl)
theorem dX11_lookByHeard_56 : decode cX11_lookByHeard 56 = .ok (.bipush 10, 2) := q_bipush (bat_get dg_X11_lookByHeard_0_0 33 rfl rfl) rfl
theorem dX11_lookByHeard_58 : decode cX11_lookByHeard 58 = .ok (.idiv, 1) := q_idiv (bat_get dg_X11_lookByHeard_0_0 34 rfl rfl)
theorem dX11_lookByHeard_59 : decode cX11_lookByHeard 59 = .ok (.istore_n 2, 1) := q_istore_n2 (bat_get dg_X11_lookByHeard_0_0 35 rfl rfl)
theorem dX11_lookByHeard_60 : decode cX11_lookByHeard 60 = .ok (.aload_n 0, 1) := q_aload_n0 (bat_get dg_X11_lookByHeard_0_0 36 rfl rfl)
theorem dX11_lookByHeard_61 : decode cX11_lookByHeard 61 = .ok (.iload_n 2, 1) := q_iload_n2 (bat_get dg_X11_lookByHeard_0_0 37 rfl rfl)
theorem dX11_lookByHeard_62 : decode cX11_lookByHeard 62 = .ok (.invokevirtual 170, 3) := q_invokevirtual (bat_get dg_X11_lookByHeard_0_0 38 rfl rfl) rfl
theorem dX11_lookByHeard_65 : decode cX11_lookByHeard 65 = .ok (.ifCond .eq 14, 3) := q_ifCond_eq (bat_get dg_X11_lookByHeard_0_0 39 rfl rfl) rfl
theorem dg_X11_lookByHeard_68_68 : bqL cX11_lookByHeard 68 [(0, [42]), (1, [180, 0, 59]), (4, [28]), (5, [182, 0, 179]), (8, [153, 0, 5]), (13, [42]), (14, [180, 0, 85]), (17, [28]), (18, [42]), (19, [180, 0, 76]), (22, [28]), (23, [42]), (24, [180, 0, 96]), (27, [27]), (28, [46]), (29, [16, 10]), (31, [112]), (32, [182, 1, 63]), (35, [182, 1, 66]), (38, [132, 1, 1]), (41, [167, 255, 183]), (11, [3]), (12, [172])] = true := by decide +kernel
theorem dX11_lookByHeard_68 : decode cX11_lookByHeard 68 = .ok (.aload_n 0, 1) := q_aload_n0 (bat_get dg_X11_lookByHeard_68_68 0 rfl rfl)
theorem dX11_lookByHeard_69 : decode cX11_lookByHeard 69 = .ok (.getfield 59, 3) := q_getfield (bat_get dg_X11_lookByHeard_68_68 1 rfl rfl) rfl
theorem dX11_lookByHeard_72 : decode cX11_lookByHeard 72 = .ok (.iload_n 2, 1) := q_iload_n2 (bat_get dg_X11_lookByHeard_68_68 2 rfl rfl)
theorem dX11_lookByHeard_73 : decode cX11_lookByHeard 73 = .ok (.invokevirtual 179, 3) := q_invokevirtual (bat_get dg_X11_lookByHeard_68_68 3 rfl rfl) rfl
theorem dX11_lookByHeard_76 : decode cX11_lookByHeard 76 = .ok (.ifCond .eq 5, 3) := q_ifCond_eq (bat_get dg_X11_lookByHeard_68_68 4 rfl rfl) rfl
theorem dX11_lookByHeard_81 : decode cX11_lookByHeard 81 = .ok (.aload_n 0, 1) := q_aload_n0 (bat_get dg_X11_lookByHeard_68_68 5 rfl rfl)
theorem dX11_lookByHeard_82 : decode cX11_lookByHeard 82 = .ok (.getfield 85, 3) := q_getfield (bat_get dg_X11_lookByHeard_68_68 6 rfl rfl) rfl
theorem dX11_lookByHeard_85 : decode cX11_lookByHeard 85 = .ok (.iload_n 2, 1) := q_iload_n2 (bat_get dg_X11_lookByHeard_68_68 7 rfl rfl)
theorem dX11_lookByHeard_86 : decode cX11_lookByHeard 86 = .ok (.aload_n 0, 1) := q_aload_n0 (bat_get dg_X11_lookByHeard_68_68 8 rfl rfl)
theorem dX11_lookByHeard_87 : decode cX11_lookByHeard 87 = .ok (.getfield 76, 3) := q_getfield (bat_get dg_X11_lookByHeard_68_68 9 rfl rfl) rfl
theorem dX11_lookByHeard_90 : decode cX11_lookByHeard 90 = .ok (.iload_n 2, 1) := q_iload_n2 (bat_get dg_X11_lookByHeard_68_68 10 rfl rfl)
theorem dX11_lookByHeard_91 : decode cX11_lookByHeard 91 = .ok (.aload_n 0, 1) := q_aload_n0 (bat_get dg_X11_lookByHeard_68_68 11 rfl rfl)
theorem dX11_lookByHeard_92 : decode cX11_lookByHeard 92 = .ok (.getfield 96, 3) := q_getfield (bat_get dg_X11_lookByHeard_68_68 12 rfl rfl) rfl
theorem dX11_lookByHeard_95 : decode cX11_lookByHeard 95 = .ok (.iload_n 1, 1) := q_iload_n1 (bat_get dg_X11_lookByHeard_68_68 13 rfl rfl)
theorem dX11_lookByHeard_96 : decode cX11_lookByHeard 96 = .ok (.iaload, 1) := q_iaload (bat_get dg_X11_lookByHeard_68_68 14 rfl rfl)
theorem dX11_lookByHeard_97 : decode cX11_lookByHeard 97 = .ok (.bipush 10, 2) := q_bipush (bat_get dg_X11_lookByHeard_68_68 15 rfl rfl) rfl
theorem dX11_lookByHeard_99 : decode cX11_lookByHeard 99 = .ok (.irem, 1) := q_irem (bat_get dg_X11_lookByHeard_68_68 16 rfl rfl)
theorem dX11_lookByHeard_100 : decode cX11_lookByHeard 100 = .ok (.invokevirtual 319, 3) := q_invokevirtual (bat_get dg_X11_lookByHeard_68_68 17 rfl rfl) rfl
theorem dX11_lookByHeard_103 : decode cX11_lookByHeard 103 = .ok (.invokevirtual 322, 3) := q_invokevirtual (bat_get dg_X11_lookByHeard_68_68 18 rfl rfl) rfl
theorem dX11_lookByHeard_106 : decode cX11_lookByHeard 106 = .ok (.iinc 1 1, 3) := q_iinc (bat_get dg_X11_lookByHeard_68_68 19 rfl rfl) rfl
theorem dX11_lookByHeard_109 : decode cX11_lookByHeard 109 = .ok (.goto (-73), 3) := q_goto (bat_get dg_X11_lookByHeard_68_68 20 rfl rfl) rfl
theorem dX11_lookByHeard_79 : decode cX11_lookByHeard 79 = .ok (.iconst 0, 1) := q_iconst0 (bat_get dg_X11_lookByHeard_68_68 21 rfl rfl)
theorem dX11_lookByHeard_80 : decode cX11_lookByHeard 80 = .ok (.ireturn, 1) := q_ireturn (bat_get dg_X11_lookByHeard_68_68 22 rfl rfl)
theorem w_4_225 : (Cond.code yX11_lookByHeard cX11_lookByHeard 3 (some .boolean)) ∈ wsL_law := sk_mem (ck_4 _ (List.mem_of_getElem? (i := 225) rfl)) rfl
def om_24_7fff0e : List Bool := false :: true :: true :: true :: true :: true :: true :: true :: true :: true :: true :: true :: true :: true :: true :: true :: false :: false :: false :: false :: true :: true :: true :: false :: []
def om_24_7c00e8 : List Bool := false :: true :: true :: true :: true :: true :: false :: false :: false :: false :: false :: false :: false :: false :: false :: false :: true :: true :: true :: false :: true :: false :: false :: false :: []
def om_24_f0 : List Bool := false :: false :: false :: false :: false :: false :: false :: false :: false :: false :: false :: false :: false :: false :: false :: false :: true :: true :: true :: true :: false :: false :: false :: false :: []
def om_24_8 : List Bool := false :: false :: false :: false :: false :: false :: false :: false :: false :: false :: false :: false :: false :: false :: false :: false :: false :: false :: false :: false :: true :: false :: false :: false :: []
def om_24_600000 : List Bool := false :: true :: true :: false :: false :: false :: false :: false :: false :: false :: false :: false :: false :: false :: false :: false :: false :: false :: false :: false :: false :: false :: false :: false :: []
def om_24_a0 : List Bool := false :: false :: false :: false :: false :: false :: false :: false :: false :: false :: false :: false :: false :: false :: false :: false :: true :: false :: true :: false :: false :: false :: false :: false :: []
set_option maxHeartbeats 4000000 in
set_option maxRecDepth 100000 in
theorem c_ux_lookByHeard (l : Launch) (D : va_G) (cI cJ cC cZ cS : ClassId) (x0 : Nat) (q : Nat → Nat) (dr : Int64) (sa : Nat → Nat) (ft : Nat → Int32) (fa : Nat → Int32) (fo : Nat → Int32) (fg : Nat → Int64) (fk : Nat → Int32) (dh : Nat) (mh : Nat) (uh : Int32) (rh : Int32) (nh : Nat) (ch : Nat) (wh : Nat) (y1 : Nat → Int32) (y2 : Nat → Int64) (y3 : Nat → Int64) (y4 : Nat → Int64) (yf : Nat → Int32) (yt : Nat → Int32) (gd : Nat) (gs : Nat) (e1 : Nat → Int32) (e2 : Nat → Int32) (e3 : Nat → Int32) (hn : Nat) (dy : Nat) (wn : Nat) (mo : Nat) (ke : Nat) (mu : Int32) (fb : Nat → Int32) (fw : Nat → Int32) (Ba : Nat → Nat) (We : Nat → Nat) (L : LkS) (U : Nat → Bool) (hr_ : Nat → Int32) (hR : Nat → Nat) (hsa : ∀ j, sa j ≤ 9) (hch : ch ≤ 1600) (hwh : wh ≤ 1) (hdy : dy ≤ 9) (hmo : mo ≤ 9) (hLk : kcLk L) (hcd : cdK (lK (lkF L)) ch wh y1) (hsg : ∀ v, v < 3 → sgO (lG (lkF L) v) (yf v) (yt v)) (hfb : ∀ j, j < 9 → fb j = nI (Ba j)) (hfw : ∀ j, j < 9 → fw j = nI (We j)) (hB9 : ∀ j, Ba j ≤ 9) (hW9 : ∀ j, We j ≤ 9) (hwn : wn ≤ 999) (hU : muO U mu) (hti : kcTI L sa ft fa fo fg fk) (hn16 : hn ≤ 16) (hhr : ∀ j, j < hn → hr_ j = nI (hR j)) (hRd : ∀ j, j < hn → hR j < 10 * dy) : skM l yX11_lookByHeard cX11_lookByHeard 3 (some .boolean) 5 128 0 0 D (skT cI cJ cC cZ cS) [.ref x0] [ro_rrrrrrrrrrrrrrrirl x0 11 (q 0) (q 1) (q 2) (q 3) (q 4) (q 5) (q 6) (q 7) (q 8) (q 9) (q 10) (q 11) (q 12) (q 13) (q 14) (nI hn) (q 16) dr, ro_rrrrrr (q 10) 9 (q 61) (q 62) (q 63) (q 64) (q 65) (q 66), ra_N (q 61) cI 90 sa, ra_I (q 62) cI 900 ft, ra_I (q 63) cI 90 fa, ra_I (q 64) cI 90 fo, ra_J (q 65) cJ 90 fg, ra_I (q 66) cI 9 fk, ro_rrrrrnniin (q 5) 2 (q 44) (q 45) (q 46) (q 47) (q 48) dh mh uh rh nh, ro_rrrrnn (q 44) 0 (q 49) (q 50) (q 51) (q 52) ch wh, ra_I (q 49) cI 1600 y1, ra_J (q 50) cJ 64 y2, ra_J (q 51) cJ 9 y3, ra_J (q 52) cJ 10 y4, ra_I (q 47) cI 3 yf, ra_I (q 48) cI 3 yt, ro_rrrrrrrnn (q 11) 1 (q 10) (q 67) (q 68) (q 69) (q 70) (q 71) (q 72) gd gs, ra_I (q 67) cI 90 e1, ra_I (q 68) cI 9 e2, ra_I (q 69) cI 10 e3, ro_rrnnnin (q 7) 7 (q 33) (q 34) dy wn mo mu ke, ra_I (q 33) cI 9 fb, ra_I (q 34) cI 9 fw, ra_I (q 14) cI 16 hr_] (skI D (skT cI cJ cC cZ cS) (fun (r : Int32) (u : va_W) => ∃ (sa2 : Nat → Nat), ∃ (ft2 : Nat → Int32), ∃ (fa2 : Nat → Int32), ∃ (fo2 : Nat → Int32), ∃ (fg2 : Nat → Int64), ∃ (fk2 : Nat → Int32), ∃ (z2 : Nat → Int64), ∃ (z3 : Nat → Int64), ∃ (g1 : Nat → Int32), ∃ (g2 : Nat → Int32), ∃ (g3 : Nat → Int32), ∃ (b : Nat), (∀ j, sa2 j ≤ 9) ∧ kcTI L sa2 ft2 fa2 fo2 fg2 fk2 ∧ ((b = 0 ∧ kcC (kcHd (kcFo L wn Ba We U 0) U (kSd L wn Ba We) hR hn) dy 0 mo = 0) ∨ (b = 1 ∧ 0 < kcC (kcHd (kcFo L wn Ba We U 0) U (kSd L wn Ba We) hR hn) dy 0 mo ∧ kcLd (kcHd (kcFo L wn Ba We U 0) U (kSd L wn Ba We) hR hn) dy g1 g2 ∧ kcLv (kcHd (kcFo L wn Ba We U 0) U (kSd L wn Ba We) hR hn) dy 0 g3)) ∧ r = nI b ∧ u = [ro_rrrrrrrrrrrrrrrirl x0 11 (q 0) (q 1) (q 2) (q 3) (q 4) (q 5) (q 6) (q 7) (q 8) (q 9) (q 10) (q 11) (q 12) (q 13) (q 14) (nI hn) (q 16) dr, ro_rrrrrr (q 10) 9 (q 61) (q 62) (q 63) (q 64) (q 65) (q 66), ra_N (q 61) cI 90 sa2, ra_I (q 62) cI 900 ft2, ra_I (q 63) cI 90 fa2, ra_I (q 64) cI 90 fo2, ra_J (q 65) cJ 90 fg2, ra_I (q 66) cI 9 fk2, ro_rrrrrnniin (q 5) 2 (q 44) (q 45) (q 46) (q 47) (q 48) dh mh uh rh nh, ro_rrrrnn (q 44) 0 (q 49) (q 50) (q 51) (q 52) ch wh, ra_I (q 49) cI 1600 y1, ra_J (q 50) cJ 64 z2, ra_J (q 51) cJ 9 z3, ra_J (q 52) cJ 10 y4, ra_I (q 47) cI 3 yf, ra_I (q 48) cI 3 yt, ro_rrrrrrrnn (q 11) 1 (q 10) (q 67) (q 68) (q 69) (q 70) (q 71) (q 72) dy mo, ra_I (q 67) cI 90 g1, ra_I (q 68) cI 9 g2, ra_I (q 69) cI 10 g3, ro_rrnnnin (q 7) 7 (q 33) (q 34) dy wn mo mu ke, ra_I (q 33) cI 9 fb, ra_I (q 34) cI 9 fw, ra_I (q 14) cI 16 hr_])) := by
  refine skM_of pf_X11_lookByHeard (Nat.le_of_ble_eq_true rfl) ?_
  intro p e s m below meth c A ls E hP hD hl
  refine skE_el E (fun hx hb hr hml hlocks hin hown hts hK hA => ?_)
  have hown : s.vm.findClass RX11 = some m.cls := hown
  have hS : va_S A s.heap s.heap [] := va_S.rf
  have hl : lv_has ls 3 [(0, .ref x0)] := hl
  refine lv_aload_n hx hb dX11_lookByHeard_0 rfl (lv_at hl 0 rfl) ?_
  refine sk_get (v := .ref (q 10)) (C := RX11) (T := TX11) (N := 18) hx hb hts inlX11 hown hK hP 0 rfl rfl 10 (Nat.le_of_ble_eq_true rfl) w_2_133 rfl dX11_lookByHeard_1 ?_
  refine lv_aload_n hx hb dX11_lookByHeard_4 rfl (lv_at hl 0 rfl) ?_
  refine sk_get (v := .ref (q 5)) (C := RX11) (T := TX11) (N := 18) hx hb hts inlX11 hown hK hP 0 rfl rfl 5 (Nat.le_of_ble_eq_true rfl) w_2_128 rfl dX11_lookByHeard_5 ?_
  refine lv_aload_n hx hb dX11_lookByHeard_8 rfl (lv_at hl 0 rfl) ?_
  refine sk_get (v := .ref (q 7)) (C := RX11) (T := TX11) (N := 18) hx hb hts inlX11 hown hK hP 0 rfl rfl 7 (Nat.le_of_ble_eq_true rfl) w_2_130 rfl dX11_lookByHeard_9 ?_
  refine sk_Vv (q0 := 0) (n := 2) (rest := []) (wr := fmR om_24_7fff0e _) ⟨hx, hb, hml, hown, hts⟩ hl.1 (c_kfit l D cI cJ cC cZ cS q dh mh uh rh nh ch wh y1 y2 y3 y4 yf yt sa ft fa fo fg fk (q 7) (q 33) (q 34) dy wn mo ke mu fb fw Ba We L hsa hch hwh hdy hmo hLk hcd hsg hfb hfw hB9 hW9 hwn hti) w_3_205 w_3_206 w_3_207 w_1_12 w_3_208 hd_X9_fit_2 ⟨⟨(Nat.le_of_ble_eq_true rfl), (Nat.le_of_ble_eq_true rfl)⟩, (Nat.le_of_ble_eq_true rfl), (Nat.le_of_ble_eq_true rfl)⟩ hK hP hD hS hA (fmT om_24_7fff0e 0) (fmF om_24_7fff0e 0) (fm_C1 rfl rfl) (fm_R rfl rfl) (fm_nT om_24_7fff0e 0) (fm_nF om_24_7fff0e 0) (fm_di om_24_7fff0e 0) rfl rfl rfl rfl (Nat.le_of_ble_eq_true rfl) dX11_lookByHeard_12 (fun u H locs hw hP hD hS => ?_)
  refine exE hw (fun sa2_1 hw1 => exE hw1 (fun ft2_2 hw2 => exE hw2 (fun fa2_3 hw3 => exE hw3 (fun fo2_4 hw4 => exE hw4 (fun fg2_5 hw5 => exE hw5 (fun fk2_6 hw6 => exE hw6 (fun z2_7 hw7 => exE hw7 (fun z3_8 hw8 => anE hw8 (fun hsa2_9 hw9 => anE hw9 (fun hti2_10 hw10 => anE hw10 (fun hrows_11 eu_12 => ?_)))))))))))
  clear hw hw1 hw2 hw3 hw4 hw5 hw6 hw7 hw8 hw9 hw10
  refine o_mgE (ws' := [ro_rrrrrrrrrrrrrrrirl x0 11 (q 0) (q 1) (q 2) (q 3) (q 4) (q 5) (q 6) (q 7) (q 8) (q 9) (q 10) (q 11) (q 12) (q 13) (q 14) (nI hn) (q 16) dr, ro_rrrrrr (q 10) 9 (q 61) (q 62) (q 63) (q 64) (q 65) (q 66), ra_N (q 61) cI 90 sa2_1, ra_I (q 62) cI 900 ft2_2, ra_I (q 63) cI 90 fa2_3, ra_I (q 64) cI 90 fo2_4, ra_J (q 65) cJ 90 fg2_5, ra_I (q 66) cI 9 fk2_6, ro_rrrrrnniin (q 5) 2 (q 44) (q 45) (q 46) (q 47) (q 48) dh mh uh rh nh, ro_rrrrnn (q 44) 0 (q 49) (q 50) (q 51) (q 52) ch wh, ra_I (q 49) cI 1600 y1, ra_J (q 50) cJ 64 z2_7, ra_J (q 51) cJ 9 z3_8, ra_J (q 52) cJ 10 y4, ra_I (q 47) cI 3 yf, ra_I (q 48) cI 3 yt, ro_rrrrrrrnn (q 11) 1 (q 10) (q 67) (q 68) (q 69) (q 70) (q 71) (q 72) gd gs, ra_I (q 67) cI 90 e1, ra_I (q 68) cI 9 e2, ra_I (q 69) cI 10 e3, ro_rrnnnin (q 7) 7 (q 33) (q 34) dy wn mo mu ke, ra_I (q 33) cI 9 fb, ra_I (q 34) cI 9 fw, ra_I (q 14) cI 16 hr_]) eu_12 hP hD rfl (fun hP hD => ?_)
  refine lv_aload_n hx hb dX11_lookByHeard_15 rfl (lv_at hl 0 rfl) ?_
  refine sk_get (v := .ref (q 11)) (C := RX11) (T := TX11) (N := 18) hx hb hts inlX11 hown hK hP 0 rfl rfl 11 (Nat.le_of_ble_eq_true rfl) w_2_134 rfl dX11_lookByHeard_16 ?_
  refine lv_aload_n hx hb dX11_lookByHeard_19 rfl (lv_at hl 0 rfl) ?_
  refine sk_get (v := .ref (q 7)) (C := RX11) (T := TX11) (N := 18) hx hb hts inlX11 hown hK hP 0 rfl rfl 7 (Nat.le_of_ble_eq_true rfl) w_2_130 rfl dX11_lookByHeard_20 ?_
  refine lv_aload_n hx hb dX11_lookByHeard_23 rfl (lv_at hl 0 rfl) ?_
  refine sk_get (v := .ref (q 7)) (C := RX11) (T := TX11) (N := 18) hx hb hts inlX11 hown hK hP 0 rfl rfl 7 (Nat.le_of_ble_eq_true rfl) w_2_130 rfl dX11_lookByHeard_24 ?_
  refine sk_get (v := .int mu) (C := RX7) (T := TX7) (N := 7) hx hb hts inlX7 hown hK hP 20 rfl rfl 5 (Nat.le_of_ble_eq_true rfl) w_2_12 rfl dX11_lookByHeard_27 ?_
  refine lv_iconst (v := 0) hx hb dX11_lookByHeard_30 ic_0 ?_
  refine sk_Vv (q0 := 0) (n := 3) (rest := []) (wr := fmR om_24_7c00e8 _) ⟨hx, hb, hml, hown, hts⟩ hl.1 (c_klay l D cI cJ cC cZ cS q gd gs e1 e2 sa2_1 ft2_2 fa2_3 fo2_4 (q 7) (q 33) (q 34) dy wn mo ke mu fb fw Ba We L 0 U mu fg2_5 hsa2_9 hdy hmo (by decide) hU hrows_11) w_4_47 w_4_48 w_4_49 w_1_13 w_4_50 hd_X1_lay_3 ⟨⟨(Nat.le_of_ble_eq_true rfl), (Nat.le_of_ble_eq_true rfl)⟩, (Nat.le_of_ble_eq_true rfl), (Nat.le_of_ble_eq_true rfl)⟩ hK hP hD hS hA [16, 17, 18, 1, 2, 3, 4, 5, 20] (fmF om_24_7c00e8 0) rfl (fm_R rfl rfl) (by decide +kernel) (fm_nF om_24_7c00e8 0) (by decide +kernel) rfl rfl rfl rfl (Nat.le_of_ble_eq_true rfl) dX11_lookByHeard_31 (fun u H locs hw hP hD hS => ?_)
  refine exE hw (fun g1_13 hw1 => exE hw1 (fun g2_14 hw2 => anE hw2 (fun hld2_15 eu_16 => ?_)))
  clear hw hw1 hw2
  refine o_mgqE (ux := [ro_rrrrrr (q 10) 9 (q 61) (q 62) (q 63) (q 64) (q 65) (q 66), ra_N (q 61) cI 90 sa2_1, ra_I (q 62) cI 900 ft2_2, ra_I (q 63) cI 90 fa2_3, ra_I (q 64) cI 90 fo2_4, ro_rrrrrrrnn (q 11) 1 (q 10) (q 67) (q 68) (q 69) (q 70) (q 71) (q 72) dy mo, ra_I (q 67) cI 90 g1_13, ra_I (q 68) cI 9 g2_14, ro_rrnnnin (q 7) 7 (q 33) (q 34) dy wn mo mu ke]) (ws' := [ro_rrrrrrrrrrrrrrrirl x0 11 (q 0) (q 1) (q 2) (q 3) (q 4) (q 5) (q 6) (q 7) (q 8) (q 9) (q 10) (q 11) (q 12) (q 13) (q 14) (nI hn) (q 16) dr, ro_rrrrrr (q 10) 9 (q 61) (q 62) (q 63) (q 64) (q 65) (q 66), ra_N (q 61) cI 90 sa2_1, ra_I (q 62) cI 900 ft2_2, ra_I (q 63) cI 90 fa2_3, ra_I (q 64) cI 90 fo2_4, ra_J (q 65) cJ 90 fg2_5, ra_I (q 66) cI 9 fk2_6, ro_rrrrrnniin (q 5) 2 (q 44) (q 45) (q 46) (q 47) (q 48) dh mh uh rh nh, ro_rrrrnn (q 44) 0 (q 49) (q 50) (q 51) (q 52) ch wh, ra_I (q 49) cI 1600 y1, ra_J (q 50) cJ 64 z2_7, ra_J (q 51) cJ 9 z3_8, ra_J (q 52) cJ 10 y4, ra_I (q 47) cI 3 yf, ra_I (q 48) cI 3 yt, ro_rrrrrrrnn (q 11) 1 (q 10) (q 67) (q 68) (q 69) (q 70) (q 71) (q 72) dy mo, ra_I (q 67) cI 90 g1_13, ra_I (q 68) cI 9 g2_14, ra_I (q 69) cI 10 e3, ro_rrnnnin (q 7) 7 (q 33) (q 34) dy wn mo mu ke, ra_I (q 33) cI 9 fb, ra_I (q 34) cI 9 fw, ra_I (q 14) cI 16 hr_]) eu_16 [3, 4, 5, 6, 7, 0, 1, 2, 8] (by decide +kernel) rfl hP hD rfl (fun hP hD => ?_)
  refine lv_iconst (v := 0) hx hb dX11_lookByHeard_34 ic_0 ?_
  refine lv_istore_n (lv' := [(1, .int 0), (0, .ref x0)]) hx hb dX11_lookByHeard_35 rfl hl (by decide) rfl (fun ls hl => ?_)
  have lp_17 : ∀ (n_18 : Nat) (i : Nat) (b2 : Nat → Int32) (H : Heap) (locs : List Loc) (ls : Array Slot), 16 - i < n_18 → (i ≤ hn) → (∀ j, j < i → U (hR j / 10) = false) → (kcLd (kcFh (kcFo L wn Ba We U 0) (kSd L wn Ba We) hR i) dy g1_13 b2) → va_P D vwCl [ro_rrrrrrrrrrrrrrrirl x0 11 (q 0) (q 1) (q 2) (q 3) (q 4) (q 5) (q 6) (q 7) (q 8) (q 9) (q 10) (q 11) (q 12) (q 13) (q 14) (nI hn) (q 16) dr, ro_rrrrrr (q 10) 9 (q 61) (q 62) (q 63) (q 64) (q 65) (q 66), ra_N (q 61) cI 90 sa2_1, ra_I (q 62) cI 900 ft2_2, ra_I (q 63) cI 90 fa2_3, ra_I (q 64) cI 90 fo2_4, ra_J (q 65) cJ 90 fg2_5, ra_I (q 66) cI 9 fk2_6, ro_rrrrrnniin (q 5) 2 (q 44) (q 45) (q 46) (q 47) (q 48) dh mh uh rh nh, ro_rrrrnn (q 44) 0 (q 49) (q 50) (q 51) (q 52) ch wh, ra_I (q 49) cI 1600 y1, ra_J (q 50) cJ 64 z2_7, ra_J (q 51) cJ 9 z3_8, ra_J (q 52) cJ 10 y4, ra_I (q 47) cI 3 yf, ra_I (q 48) cI 3 yt, ro_rrrrrrrnn (q 11) 1 (q 10) (q 67) (q 68) (q 69) (q 70) (q 71) (q 72) dy mo, ra_I (q 67) cI 90 g1_13, ra_I (q 68) cI 9 b2, ra_I (q 69) cI 10 e3, ro_rrnnnin (q 7) 7 (q 33) (q 34) dy wn mo mu ke, ra_I (q 33) cI 9 fb, ra_I (q 34) cI 9 fw, ra_I (q 14) cI 16 hr_] H → va_D A [ro_rrrrrrrrrrrrrrrirl x0 11 (q 0) (q 1) (q 2) (q 3) (q 4) (q 5) (q 6) (q 7) (q 8) (q 9) (q 10) (q 11) (q 12) (q 13) (q 14) (nI hn) (q 16) dr, ro_rrrrrr (q 10) 9 (q 61) (q 62) (q 63) (q 64) (q 65) (q 66), ra_N (q 61) cI 90 sa2_1, ra_I (q 62) cI 900 ft2_2, ra_I (q 63) cI 90 fa2_3, ra_I (q 64) cI 90 fo2_4, ra_J (q 65) cJ 90 fg2_5, ra_I (q 66) cI 9 fk2_6, ro_rrrrrnniin (q 5) 2 (q 44) (q 45) (q 46) (q 47) (q 48) dh mh uh rh nh, ro_rrrrnn (q 44) 0 (q 49) (q 50) (q 51) (q 52) ch wh, ra_I (q 49) cI 1600 y1, ra_J (q 50) cJ 64 z2_7, ra_J (q 51) cJ 9 z3_8, ra_J (q 52) cJ 10 y4, ra_I (q 47) cI 3 yf, ra_I (q 48) cI 3 yt, ro_rrrrrrrnn (q 11) 1 (q 10) (q 67) (q 68) (q 69) (q 70) (q 71) (q 72) dy mo, ra_I (q 67) cI 90 g1_13, ra_I (q 68) cI 9 b2, ra_I (q 69) cI 10 e3, ro_rrnnnin (q 7) 7 (q 33) (q 34) dy wn mo mu ke, ra_I (q 33) cI 9 fb, ra_I (q 34) cI 9 fw, ra_I (q 14) cI 16 hr_] → va_S A s.heap H locs → lv_has ls 3 [(1, .int (nI i)), (0, .ref x0)] → W p l e { frames := 5, cells := 0, slots := 0, locals := 128 } s m ([.ref x0] : List Value).toArray below meth c H locs 0 0 (MQ below (skI D (skT cI cJ cC cZ cS) (fun (r : Int32) (u : va_W) => ∃ (sa2 : Nat → Nat), ∃ (ft2 : Nat → Int32), ∃ (fa2 : Nat → Int32), ∃ (fo2 : Nat → Int32), ∃ (fg2 : Nat → Int64), ∃ (fk2 : Nat → Int32), ∃ (z2 : Nat → Int64), ∃ (z3 : Nat → Int64), ∃ (g1 : Nat → Int32), ∃ (g2 : Nat → Int32), ∃ (g3 : Nat → Int32), ∃ (b : Nat), (∀ j, sa2 j ≤ 9) ∧ kcTI L sa2 ft2 fa2 fo2 fg2 fk2 ∧ ((b = 0 ∧ kcC (kcHd (kcFo L wn Ba We U 0) U (kSd L wn Ba We) hR hn) dy 0 mo = 0) ∨ (b = 1 ∧ 0 < kcC (kcHd (kcFo L wn Ba We U 0) U (kSd L wn Ba We) hR hn) dy 0 mo ∧ kcLd (kcHd (kcFo L wn Ba We U 0) U (kSd L wn Ba We) hR hn) dy g1 g2 ∧ kcLv (kcHd (kcFo L wn Ba We U 0) U (kSd L wn Ba We) hR hn) dy 0 g3)) ∧ r = nI b ∧ u = [ro_rrrrrrrrrrrrrrrirl x0 11 (q 0) (q 1) (q 2) (q 3) (q 4) (q 5) (q 6) (q 7) (q 8) (q 9) (q 10) (q 11) (q 12) (q 13) (q 14) (nI hn) (q 16) dr, ro_rrrrrr (q 10) 9 (q 61) (q 62) (q 63) (q 64) (q 65) (q 66), ra_N (q 61) cI 90 sa2, ra_I (q 62) cI 900 ft2, ra_I (q 63) cI 90 fa2, ra_I (q 64) cI 90 fo2, ra_J (q 65) cJ 90 fg2, ra_I (q 66) cI 9 fk2, ro_rrrrrnniin (q 5) 2 (q 44) (q 45) (q 46) (q 47) (q 48) dh mh uh rh nh, ro_rrrrnn (q 44) 0 (q 49) (q 50) (q 51) (q 52) ch wh, ra_I (q 49) cI 1600 y1, ra_J (q 50) cJ 64 z2, ra_J (q 51) cJ 9 z3, ra_J (q 52) cJ 10 y4, ra_I (q 47) cI 3 yf, ra_I (q 48) cI 3 yt, ro_rrrrrrrnn (q 11) 1 (q 10) (q 67) (q 68) (q 69) (q 70) (q 71) (q 72) dy mo, ra_I (q 67) cI 90 g1, ra_I (q 68) cI 9 g2, ra_I (q 69) cI 10 g3, ro_rrnnnin (q 7) 7 (q 33) (q 34) dy wn mo mu ke, ra_I (q 33) cI 9 fb, ra_I (q 34) cI 9 fw, ra_I (q 14) cI 16 hr_]) A) ([.ref x0] : List Value).toArray s 0 0 A) (F0 m 36 ls []) := by
    intro n_18
    induction n_18 with
    | zero => intro i b2 H locs ls hm; exact absurd hm (Nat.not_lt_zero _)
    | succ n_18 ih_lp_17 =>
      intro i b2 H locs ls hm hi hun hlf hP hD hS hl
      refine lv_iload_n hx hb dX11_lookByHeard_36 rfl (lv_at hl 0 rfl) ?_
      refine lv_aload_n hx hb dX11_lookByHeard_37 rfl (lv_at hl 1 rfl) ?_
      refine sk_get (v := .int (nI hn)) (C := RX11) (T := TX11) (N := 18) hx hb hts inlX11 hown hK hP 0 rfl rfl 15 (Nat.le_of_ble_eq_true rfl) w_2_138 rfl dX11_lookByHeard_38 ?_
      refine lv_icmp_ge (tgt := 112) hx hb dX11_lookByHeard_41 (by decide) (fun c_19 => ?_) (fun c_19 => ?_)
      · have hge41 : hn ≤ i := (nle hn i (by omega) (by omega)).mp c_19
        refine lv_aload_n hx hb dX11_lookByHeard_112 rfl (lv_at hl 1 rfl) ?_
        refine sk_get (v := .ref (q 11)) (C := RX11) (T := TX11) (N := 18) hx hb hts inlX11 hown hK hP 0 rfl rfl 11 (Nat.le_of_ble_eq_true rfl) w_2_134 rfl dX11_lookByHeard_113 ?_
        refine sk_Vi (q0 := 0) (n := 0) (rest := []) (wr := fmR om_24_f0 _) ⟨hx, hb, hml, hown, hts⟩ hl.1 (c_ksettle l D cI cJ cC cZ cS q dy mo g1_13 b2 e3 (kcFh (kcFo L wn Ba We U 0) (kSd L wn Ba We) hR i) hdy hmo hlf) w_4_53 w_4_54 w_4_55 w_1_13 w_4_56 hd_X1_settle_0 ⟨⟨(Nat.le_of_ble_eq_true rfl), (Nat.le_of_ble_eq_true rfl)⟩, (Nat.le_of_ble_eq_true rfl), (Nat.le_of_ble_eq_true rfl)⟩ hK hP hD hS hA (fmT om_24_f0 0) (fmF om_24_f0 0) (fm_C1 rfl rfl) (fm_R rfl rfl) (fm_nT om_24_f0 0) (fm_nF om_24_f0 0) (fm_di om_24_f0 0) rfl rfl rfl rfl (Nat.le_of_ble_eq_true rfl) dX11_lookByHeard_116 (fun r_22 u H locs hw hP hD hS => ?_)
        refine exE hw (fun b_20 hw1 => exE hw1 (fun g3_21 hw2 => anE hw2 (fun hb1_23 hw3 => anE hw3 (fun hlv2_24 hw4 => anE hw4 (fun er_26 eu_25 => ?_)))))
        clear hw hw1 hw2 hw3 hw4
        subst er_26
        refine o_mgE (ws' := [ro_rrrrrrrrrrrrrrrirl x0 11 (q 0) (q 1) (q 2) (q 3) (q 4) (q 5) (q 6) (q 7) (q 8) (q 9) (q 10) (q 11) (q 12) (q 13) (q 14) (nI hn) (q 16) dr, ro_rrrrrr (q 10) 9 (q 61) (q 62) (q 63) (q 64) (q 65) (q 66), ra_N (q 61) cI 90 sa2_1, ra_I (q 62) cI 900 ft2_2, ra_I (q 63) cI 90 fa2_3, ra_I (q 64) cI 90 fo2_4, ra_J (q 65) cJ 90 fg2_5, ra_I (q 66) cI 9 fk2_6, ro_rrrrrnniin (q 5) 2 (q 44) (q 45) (q 46) (q 47) (q 48) dh mh uh rh nh, ro_rrrrnn (q 44) 0 (q 49) (q 50) (q 51) (q 52) ch wh, ra_I (q 49) cI 1600 y1, ra_J (q 50) cJ 64 z2_7, ra_J (q 51) cJ 9 z3_8, ra_J (q 52) cJ 10 y4, ra_I (q 47) cI 3 yf, ra_I (q 48) cI 3 yt, ro_rrrrrrrnn (q 11) 1 (q 10) (q 67) (q 68) (q 69) (q 70) (q 71) (q 72) dy mo, ra_I (q 67) cI 90 g1_13, ra_I (q 68) cI 9 b2, ra_I (q 69) cI 10 g3_21, ro_rrnnnin (q 7) 7 (q 33) (q 34) dy wn mo mu ke, ra_I (q 33) cI 9 fb, ra_I (q 34) cI 9 fw, ra_I (q 14) cI 16 hr_]) eu_25 hP hD rfl (fun hP hD => ?_)
        exact sk_iret hx hb hr (nbool b_20 (by omega)) hlocks hK hP hD hS (⟨sa2_1, ft2_2, fa2_3, fo2_4, fg2_5, fk2_6, z2_7, z3_8, g1_13, b2, g3_21, b_20, hsa2_9, hti2_10, (by rw [khd_C (fun j hj => hun j (by omega))]; rw [show hn = i by omega] ; rcases hb1_23 with ⟨h1, h2⟩ | ⟨h1, h2⟩; exact Or.inl ⟨h1, h2⟩; exact Or.inr ⟨h1, h2, hlf, hlv2_24⟩), rfl, rfl⟩) (Nat.le_of_ble_eq_true rfl) (Nat.le_of_ble_eq_true rfl) dX11_lookByHeard_119
      · have hlt41 : i < hn := Nat.lt_of_not_le (fun hq => c_19 ((nle hn i (by omega) (by omega)).mpr hq))
        refine lv_iload_n hx hb dX11_lookByHeard_44 rfl (lv_at hl 0 rfl) ?_
        refine lv_bipush (v := 16) hx hb dX11_lookByHeard_45 (by decide) ?_
        refine lv_icmp_ge (tgt := 112) hx hb dX11_lookByHeard_47 (by decide) (fun c_27 => ?_) (fun c_27 => ?_)
        · have c_27 : 16 ≤ i := (nle 16 i (Nat.le_of_ble_eq_true rfl) (by omega)).mp c_27
          refine lv_aload_n hx hb dX11_lookByHeard_112 rfl (lv_at hl 1 rfl) ?_
          refine sk_get (v := .ref (q 11)) (C := RX11) (T := TX11) (N := 18) hx hb hts inlX11 hown hK hP 0 rfl rfl 11 (Nat.le_of_ble_eq_true rfl) w_2_134 rfl dX11_lookByHeard_113 ?_
          refine sk_Vi (q0 := 0) (n := 0) (rest := []) (wr := fmR om_24_f0 _) ⟨hx, hb, hml, hown, hts⟩ hl.1 (c_ksettle l D cI cJ cC cZ cS q dy mo g1_13 b2 e3 (kcFh (kcFo L wn Ba We U 0) (kSd L wn Ba We) hR i) hdy hmo hlf) w_4_53 w_4_54 w_4_55 w_1_13 w_4_56 hd_X1_settle_0 ⟨⟨(Nat.le_of_ble_eq_true rfl), (Nat.le_of_ble_eq_true rfl)⟩, (Nat.le_of_ble_eq_true rfl), (Nat.le_of_ble_eq_true rfl)⟩ hK hP hD hS hA (fmT om_24_f0 0) (fmF om_24_f0 0) (fm_C1 rfl rfl) (fm_R rfl rfl) (fm_nT om_24_f0 0) (fm_nF om_24_f0 0) (fm_di om_24_f0 0) rfl rfl rfl rfl (Nat.le_of_ble_eq_true rfl) dX11_lookByHeard_116 (fun r_30 u H locs hw hP hD hS => ?_)
          refine exE hw (fun b_28 hw1 => exE hw1 (fun g3_29 hw2 => anE hw2 (fun hb1_31 hw3 => anE hw3 (fun hlv2_32 hw4 => anE hw4 (fun er_34 eu_33 => ?_)))))
          clear hw hw1 hw2 hw3 hw4
          subst er_34
          refine o_mgE (ws' := [ro_rrrrrrrrrrrrrrrirl x0 11 (q 0) (q 1) (q 2) (q 3) (q 4) (q 5) (q 6) (q 7) (q 8) (q 9) (q 10) (q 11) (q 12) (q 13) (q 14) (nI hn) (q 16) dr, ro_rrrrrr (q 10) 9 (q 61) (q 62) (q 63) (q 64) (q 65) (q 66), ra_N (q 61) cI 90 sa2_1, ra_I (q 62) cI 900 ft2_2, ra_I (q 63) cI 90 fa2_3, ra_I (q 64) cI 90 fo2_4, ra_J (q 65) cJ 90 fg2_5, ra_I (q 66) cI 9 fk2_6, ro_rrrrrnniin (q 5) 2 (q 44) (q 45) (q 46) (q 47) (q 48) dh mh uh rh nh, ro_rrrrnn (q 44) 0 (q 49) (q 50) (q 51) (q 52) ch wh, ra_I (q 49) cI 1600 y1, ra_J (q 50) cJ 64 z2_7, ra_J (q 51) cJ 9 z3_8, ra_J (q 52) cJ 10 y4, ra_I (q 47) cI 3 yf, ra_I (q 48) cI 3 yt, ro_rrrrrrrnn (q 11) 1 (q 10) (q 67) (q 68) (q 69) (q 70) (q 71) (q 72) dy mo, ra_I (q 67) cI 90 g1_13, ra_I (q 68) cI 9 b2, ra_I (q 69) cI 10 g3_29, ro_rrnnnin (q 7) 7 (q 33) (q 34) dy wn mo mu ke, ra_I (q 33) cI 9 fb, ra_I (q 34) cI 9 fw, ra_I (q 14) cI 16 hr_]) eu_33 hP hD rfl (fun hP hD => ?_)
          exact sk_iret hx hb hr (nbool b_28 (by omega)) hlocks hK hP hD hS (⟨sa2_1, ft2_2, fa2_3, fo2_4, fg2_5, fk2_6, z2_7, z3_8, g1_13, b2, g3_29, b_28, hsa2_9, hti2_10, (by rw [khd_C (fun j hj => hun j (by omega))]; rw [show hn = i by omega] ; rcases hb1_31 with ⟨h1, h2⟩ | ⟨h1, h2⟩; exact Or.inl ⟨h1, h2⟩; exact Or.inr ⟨h1, h2, hlf, hlv2_32⟩), rfl, rfl⟩) (Nat.le_of_ble_eq_true rfl) (Nat.le_of_ble_eq_true rfl) dX11_lookByHeard_119
        · have c_27 : ¬ (16 ≤ i) := fun h => c_27 ((nle 16 i (Nat.le_of_ble_eq_true rfl) (by omega)).mpr h)
          refine lv_aload_n hx hb dX11_lookByHeard_50 rfl (lv_at hl 1 rfl) ?_
          refine sk_get (v := .ref (q 14)) (C := RX11) (T := TX11) (N := 18) hx hb hts inlX11 hown hK hP 0 rfl rfl 14 (Nat.le_of_ble_eq_true rfl) w_2_137 rfl dX11_lookByHeard_51 ?_
          refine lv_iload_n hx hb dX11_lookByHeard_54 rfl (lv_at hl 0 rfl) ?_
          refine va_iald hx hb hK.1 hP 23 0 rfl rfl (vin i 16 (by omega) (Nat.le_of_ble_eq_true rfl)) dX11_lookByHeard_55 ?_
          have hRi := hRd i (by omega)
          refine sk_top (nI (hR i)) (by rw [nI_clamp (by omega)]; exact hhr i (by omega)) ?_
          refine lv_bipush (v := 10) hx hb dX11_lookByHeard_56 (by decide) ?_
          refine lv_idiv hx hb dX11_lookByHeard_58 (by decide) ?_
          refine sk_top (nI ((hR i) / 10)) (ndiv (hR i) 10 (by omega) (by omega) (by omega)) ?_
          refine lv_istore_n (lv' := [(2, .int (nI ((hR i) / 10))), (1, .int (nI i)), (0, .ref x0)]) hx hb dX11_lookByHeard_59 rfl hl (by decide) rfl (fun ls hl => ?_)
          refine lv_aload_n hx hb dX11_lookByHeard_60 rfl (lv_at hl 2 rfl) ?_
          refine lv_iload_n hx hb dX11_lookByHeard_61 rfl (lv_at hl 0 rfl) ?_
          refine sk_Vi (q0 := 0) (n := 1) (rest := []) (wr := fmR om_24_800008 _) ⟨hx, hb, hml, hown, hts⟩ hl.1 (c_kx_isDay l D cI cJ cC cZ cS x0 q (nI hn) dr dy wn mo ke mu fb fw (nI ((hR i) / 10)) hdy) w_3_190 w_3_192 w_0_14 w_1_1 w_3_193 hd_X11_isDay_1 ⟨⟨(Nat.le_of_ble_eq_true rfl), (Nat.le_of_ble_eq_true rfl)⟩, (Nat.le_of_ble_eq_true rfl), (Nat.le_of_ble_eq_true rfl)⟩ hK hP hD hS hA (fmT om_24_800008 0) (fmF om_24_800008 0) (fm_C1 rfl rfl) (fm_R rfl rfl) (fm_nT om_24_800008 0) (fm_nF om_24_800008 0) (fm_di om_24_800008 0) rfl rfl rfl rfl (Nat.le_of_ble_eq_true rfl) dX11_lookByHeard_62 (fun r_36 u H locs hw hP hD hS => ?_)
          refine exE hw (fun b_35 hw1 => anE hw1 (fun hb1_37 hw2 => anE hw2 (fun er_39 eu_38 => ?_)))
          clear hw hw1 hw2
          subst er_39
          refine o_mgE (ws' := [ro_rrrrrrrrrrrrrrrnrl x0 11 (q 0) (q 1) (q 2) (q 3) (q 4) (q 5) (q 6) (q 7) (q 8) (q 9) (q 10) (q 11) (q 12) (q 13) (q 14) hn (q 16) dr, ro_rrrrrr (q 10) 9 (q 61) (q 62) (q 63) (q 64) (q 65) (q 66), ra_N (q 61) cI 90 sa2_1, ra_I (q 62) cI 900 ft2_2, ra_I (q 63) cI 90 fa2_3, ra_I (q 64) cI 90 fo2_4, ra_J (q 65) cJ 90 fg2_5, ra_I (q 66) cI 9 fk2_6, ro_rrrrrnniin (q 5) 2 (q 44) (q 45) (q 46) (q 47) (q 48) dh mh uh rh nh, ro_rrrrnn (q 44) 0 (q 49) (q 50) (q 51) (q 52) ch wh, ra_I (q 49) cI 1600 y1, ra_J (q 50) cJ 64 z2_7, ra_J (q 51) cJ 9 z3_8, ra_J (q 52) cJ 10 y4, ra_I (q 47) cI 3 yf, ra_I (q 48) cI 3 yt, ro_rrrrrrrnn (q 11) 1 (q 10) (q 67) (q 68) (q 69) (q 70) (q 71) (q 72) dy mo, ra_I (q 67) cI 90 g1_13, ra_I (q 68) cI 9 b2, ra_I (q 69) cI 10 e3, ro_rrnnnin (q 7) 7 (q 33) (q 34) dy wn mo mu ke, ra_I (q 33) cI 9 fb, ra_I (q 34) cI 9 fw, ra_I (q 14) cI 16 hr_]) eu_38 hP hD rfl (fun hP hD => ?_)
          refine lv_if_eq (tgt := 79) hx hb dX11_lookByHeard_65 (by decide) (fun c => absurd c (fun hq => rr_0 hb1_37 ((neq b_35 0 (by omega) (Nat.le_of_ble_eq_true rfl)).mp hq) ⟨hR i / 10, by omega, rfl⟩)) (fun c_40 => ?_)
          refine lv_aload_n hx hb dX11_lookByHeard_68 rfl (lv_at hl 2 rfl) ?_
          refine sk_get (v := .ref (q 7)) (C := RX11) (T := TX11) (N := 18) hx hb hts inlX11 hown hK hP 0 rfl rfl 7 (Nat.le_of_ble_eq_true rfl) w_2_130 rfl dX11_lookByHeard_69 ?_
          refine lv_iload_n hx hb dX11_lookByHeard_72 rfl (lv_at hl 0 rfl) ?_
          refine sk_Vi (q0 := 0) (n := 1) (rest := []) (wr := fmR om_24_8 _) ⟨hx, hb, hml, hown, hts⟩ hl.1 (c_kState_isMute l D cI cJ cC cZ cS (q 7) (q 33) (q 34) dy mo (nI wn) mu (nI ke) ((hR i) / 10) U (by omega) hU) w_3_194 w_3_195 w_3_196 w_1_10 w_3_197 hd_X7_isMute_1 ⟨⟨(Nat.le_of_ble_eq_true rfl), (Nat.le_of_ble_eq_true rfl)⟩, (Nat.le_of_ble_eq_true rfl), (Nat.le_of_ble_eq_true rfl)⟩ hK hP hD hS hA (fmT om_24_8 0) (fmF om_24_8 0) (fm_C1 rfl rfl) (fm_R rfl rfl) (fm_nT om_24_8 0) (fm_nF om_24_8 0) (fm_di om_24_8 0) rfl rfl rfl rfl (Nat.le_of_ble_eq_true rfl) dX11_lookByHeard_73 (fun r_42 u H locs hw hP hD hS => ?_)
          refine exE hw (fun b_41 hw1 => anE hw1 (fun hb1_43 hw2 => anE hw2 (fun er_45 eu_44 => ?_)))
          clear hw hw1 hw2
          subst er_45
          refine o_mgE (ws' := [ro_rrrrrrrrrrrrrrrnrl x0 11 (q 0) (q 1) (q 2) (q 3) (q 4) (q 5) (q 6) (q 7) (q 8) (q 9) (q 10) (q 11) (q 12) (q 13) (q 14) hn (q 16) dr, ro_rrrrrr (q 10) 9 (q 61) (q 62) (q 63) (q 64) (q 65) (q 66), ra_N (q 61) cI 90 sa2_1, ra_I (q 62) cI 900 ft2_2, ra_I (q 63) cI 90 fa2_3, ra_I (q 64) cI 90 fo2_4, ra_J (q 65) cJ 90 fg2_5, ra_I (q 66) cI 9 fk2_6, ro_rrrrrnniin (q 5) 2 (q 44) (q 45) (q 46) (q 47) (q 48) dh mh uh rh nh, ro_rrrrnn (q 44) 0 (q 49) (q 50) (q 51) (q 52) ch wh, ra_I (q 49) cI 1600 y1, ra_J (q 50) cJ 64 z2_7, ra_J (q 51) cJ 9 z3_8, ra_J (q 52) cJ 10 y4, ra_I (q 47) cI 3 yf, ra_I (q 48) cI 3 yt, ro_rrrrrrrnn (q 11) 1 (q 10) (q 67) (q 68) (q 69) (q 70) (q 71) (q 72) dy mo, ra_I (q 67) cI 90 g1_13, ra_I (q 68) cI 9 b2, ra_I (q 69) cI 10 e3, ro_rrnnnin (q 7) 7 (q 33) (q 34) dy wn mo mu ke, ra_I (q 33) cI 9 fb, ra_I (q 34) cI 9 fw, ra_I (q 14) cI 16 hr_]) eu_44 hP hD rfl (fun hP hD => ?_)
          refine lv_if_eq (tgt := 81) hx hb dX11_lookByHeard_76 (by decide) (fun c_46 => ?_) (fun c_46 => ?_)
          · have c_46 : b_41 = 0 := (neq b_41 0 (by omega) (Nat.le_of_ble_eq_true rfl)).mp c_46
            refine lv_aload_n hx hb dX11_lookByHeard_81 rfl (lv_at hl 2 rfl) ?_
            refine sk_get (v := .ref (q 11)) (C := RX11) (T := TX11) (N := 18) hx hb hts inlX11 hown hK hP 0 rfl rfl 11 (Nat.le_of_ble_eq_true rfl) w_2_134 rfl dX11_lookByHeard_82 ?_
            refine lv_iload_n hx hb dX11_lookByHeard_85 rfl (lv_at hl 0 rfl) ?_
            refine lv_aload_n hx hb dX11_lookByHeard_86 rfl (lv_at hl 2 rfl) ?_
            refine sk_get (v := .ref (q 10)) (C := RX11) (T := TX11) (N := 18) hx hb hts inlX11 hown hK hP 0 rfl rfl 10 (Nat.le_of_ble_eq_true rfl) w_2_133 rfl dX11_lookByHeard_87 ?_
            refine lv_iload_n hx hb dX11_lookByHeard_90 rfl (lv_at hl 0 rfl) ?_
            refine lv_aload_n hx hb dX11_lookByHeard_91 rfl (lv_at hl 2 rfl) ?_
            refine sk_get (v := .ref (q 14)) (C := RX11) (T := TX11) (N := 18) hx hb hts inlX11 hown hK hP 0 rfl rfl 14 (Nat.le_of_ble_eq_true rfl) w_2_137 rfl dX11_lookByHeard_92 ?_
            refine lv_iload_n hx hb dX11_lookByHeard_95 rfl (lv_at hl 1 rfl) ?_
            refine va_iald hx hb hK.1 hP 23 0 rfl rfl (vin i 16 (by omega) (Nat.le_of_ble_eq_true rfl)) dX11_lookByHeard_96 ?_
            have hRi := hRd i (by omega)
            refine sk_top (nI (hR i)) (by rw [nI_clamp (by omega)]; exact hhr i (by omega)) ?_
            refine lv_bipush (v := 10) hx hb dX11_lookByHeard_97 (by decide) ?_
            refine lv_irem hx hb dX11_lookByHeard_99 (by decide) ?_
            refine sk_top (nI ((hR i) % 10)) (nrem (hR i) 10 (by omega) (by omega) (by omega)) ?_
            refine sk_Vi (q0 := 0) (n := 2) (rest := [.int (nI ((hR i) / 10)), .ref (q 11)]) (wr := fmR om_24_600000 _) ⟨hx, hb, hml, hown, hts⟩ hl.1 (c_umoodsThatSay l D cI cJ cC cZ cS q sa2_1 ((hR i) / 10) ((hR i) % 10) (kSd L wn Ba We) hsa2_9 (by omega) (by omega) (fun m hm => ((hrows_11 (hR i / 10) (by omega)).1 m hm).1)) w_4_194 w_4_195 w_4_196 w_1_12 w_4_197 hd_X9_moodsThatSay_2 ⟨⟨(Nat.le_of_ble_eq_true rfl), (Nat.le_of_ble_eq_true rfl)⟩, (Nat.le_of_ble_eq_true rfl), (Nat.le_of_ble_eq_true rfl)⟩ hK hP hD hS hA (fmT om_24_600000 0) (fmF om_24_600000 0) (fm_C1 rfl rfl) (fm_R rfl rfl) (fm_nT om_24_600000 0) (fm_nF om_24_600000 0) (fm_di om_24_600000 0) rfl rfl rfl rfl (Nat.le_of_ble_eq_true rfl) dX11_lookByHeard_100 (fun r_47 u H locs hw hP hD hS => ?_)
            refine anE hw (fun er_49 eu_48 => ?_)
            clear hw
            subst er_49
            refine o_mgE (ws' := [ro_rrrrrrrrrrrrrrrnrl x0 11 (q 0) (q 1) (q 2) (q 3) (q 4) (q 5) (q 6) (q 7) (q 8) (q 9) (q 10) (q 11) (q 12) (q 13) (q 14) hn (q 16) dr, ro_rrrrrr (q 10) 9 (q 61) (q 62) (q 63) (q 64) (q 65) (q 66), ra_N (q 61) cI 90 sa2_1, ra_I (q 62) cI 900 ft2_2, ra_I (q 63) cI 90 fa2_3, ra_I (q 64) cI 90 fo2_4, ra_J (q 65) cJ 90 fg2_5, ra_I (q 66) cI 9 fk2_6, ro_rrrrrnniin (q 5) 2 (q 44) (q 45) (q 46) (q 47) (q 48) dh mh uh rh nh, ro_rrrrnn (q 44) 0 (q 49) (q 50) (q 51) (q 52) ch wh, ra_I (q 49) cI 1600 y1, ra_J (q 50) cJ 64 z2_7, ra_J (q 51) cJ 9 z3_8, ra_J (q 52) cJ 10 y4, ra_I (q 47) cI 3 yf, ra_I (q 48) cI 3 yt, ro_rrrrrrrnn (q 11) 1 (q 10) (q 67) (q 68) (q 69) (q 70) (q 71) (q 72) dy mo, ra_I (q 67) cI 90 g1_13, ra_I (q 68) cI 9 b2, ra_I (q 69) cI 10 e3, ro_rrnnnin (q 7) 7 (q 33) (q 34) dy wn mo mu ke, ra_I (q 33) cI 9 fb, ra_I (q 34) cI 9 fw, ra_I (q 14) cI 16 hr_]) eu_48 hP hD rfl (fun hP hD => ?_)
            refine sk_Vv (q0 := 0) (n := 2) (rest := []) (wr := fmR om_24_a0 _) ⟨hx, hb, hml, hown, hts⟩ hl.1 (c_uallowOnly l D cI cJ cC cZ cS q dy mo b2 ((hR i) / 10) (nI (kcSm (kSd L wn Ba We) ((hR i) / 10) ((hR i) % 10) 10)) (by omega)) w_4_198 w_4_199 w_4_200 w_1_13 w_4_201 hd_X1_allowOnly_2 ⟨⟨(Nat.le_of_ble_eq_true rfl), (Nat.le_of_ble_eq_true rfl)⟩, (Nat.le_of_ble_eq_true rfl), (Nat.le_of_ble_eq_true rfl)⟩ hK hP hD hS hA (fmT om_24_a0 0) (fmF om_24_a0 0) (fm_C1 rfl rfl) (fm_R rfl rfl) (fm_nT om_24_a0 0) (fm_nF om_24_a0 0) (fm_di om_24_a0 0) rfl rfl rfl rfl (Nat.le_of_ble_eq_true rfl) dX11_lookByHeard_103 (fun u H locs hw hP hD hS => ?_)
            refine exE hw (fun g2_50 hw1 => anE hw1 (fun hg2_51 eu_52 => ?_))
            clear hw hw1
            refine o_mgE (ws' := [ro_rrrrrrrrrrrrrrrnrl x0 11 (q 0) (q 1) (q 2) (q 3) (q 4) (q 5) (q 6) (q 7) (q 8) (q 9) (q 10) (q 11) (q 12) (q 13) (q 14) hn (q 16) dr, ro_rrrrrr (q 10) 9 (q 61) (q 62) (q 63) (q 64) (q 65) (q 66), ra_N (q 61) cI 90 sa2_1, ra_I (q 62) cI 900 ft2_2, ra_I (q 63) cI 90 fa2_3, ra_I (q 64) cI 90 fo2_4, ra_J (q 65) cJ 90 fg2_5, ra_I (q 66) cI 9 fk2_6, ro_rrrrrnniin (q 5) 2 (q 44) (q 45) (q 46) (q 47) (q 48) dh mh uh rh nh, ro_rrrrnn (q 44) 0 (q 49) (q 50) (q 51) (q 52) ch wh, ra_I (q 49) cI 1600 y1, ra_J (q 50) cJ 64 z2_7, ra_J (q 51) cJ 9 z3_8, ra_J (q 52) cJ 10 y4, ra_I (q 47) cI 3 yf, ra_I (q 48) cI 3 yt, ro_rrrrrrrnn (q 11) 1 (q 10) (q 67) (q 68) (q 69) (q 70) (q 71) (q 72) dy mo, ra_I (q 67) cI 90 g1_13, ra_I (q 68) cI 9 g2_50, ra_I (q 69) cI 10 e3, ro_rrnnnin (q 7) 7 (q 33) (q 34) dy wn mo mu ke, ra_I (q 33) cI 9 fb, ra_I (q 34) cI 9 fw, ra_I (q 14) cI 16 hr_]) eu_52 hP hD rfl (fun hP hD => ?_)
            have hlo_53 := kld_on (S := (kSd L wn Ba We)) (w := (hR i % 10)) hlf hg2_51 rfl
            refine lv_iinc (v := nI (i + 1)) (lv' := [(1, .int (nI (i + 1))), (2, .int (nI ((hR i) / 10))), (0, .ref x0)]) hx hb dX11_lookByHeard_106 hl (k := 1) rfl (ninc i 1 (by decide)) (by decide) rfl (fun ls hl => ?_)
            refine lv_goto (tgt := 36) hx hb dX11_lookByHeard_109 (by decide) ?_
            exact ih_lp_17 (i + 1) g2_50 _ _ _ (by omega) (by omega) (khu_s hun (Bool.eq_false_iff.mpr (km_0 hb1_43 (by omega)))) hlo_53 hP hD hS (lv_sub hl [0, 2] rfl)
          · have c_46 : ¬ (b_41 = 0) := fun h => c_46 ((neq b_41 0 (by omega) (Nat.le_of_ble_eq_true rfl)).mpr h)
            refine lv_iconst (v := 0) hx hb dX11_lookByHeard_79 ic_0 ?_
            exact sk_iret hx hb hr rfl hlocks hK hP hD hS (⟨sa2_1, ft2_2, fa2_3, fo2_4, fg2_5, fk2_6, z2_7, z3_8, g1_13, b2, e3, 0, hsa2_9, hti2_10, Or.inl ⟨rfl, khd_z (show i < hn by omega) (by omega) (km_1 hb1_43 (by omega))⟩, rfl, rfl⟩) (Nat.le_of_ble_eq_true rfl) (Nat.le_of_ble_eq_true rfl) dX11_lookByHeard_80
  exact lp_17 (16 - 0 + 1) 0 g2_14 _ _ _ (Nat.lt_succ_self _) (by omega) (fun j hj => absurd hj (Nat.not_lt_zero j)) hld2_15 hP hD hS (lv_sub hl [0, 1] rfl)
theorem dg_X11_heard_0_0 : bqL cX11_heard 0 [(0, [42]), (1, [182, 0, 204]), (4, [154, 0, 7]), (11, [42]), (12, [182, 1, 15]), (15, [153, 0, 13]), (28, [9]), (29, [173]), (18, [42]), (19, [180, 0, 85]), (22, [182, 0, 212]), (25, [167, 0, 4]), (7, [20, 0, 198]), (10, [173])] = true := by decide +kernel
theorem dX11_heard_0 : decode cX11_heard 0 = .ok (.aload_n 0, 1) := q_aload_n0 (bat_get dg_X11_heard_0_0 0 rfl rfl)
theorem dX11_heard_1 : decode cX11_heard 1 = .ok (.invokevirtual 204, 3) := q_invokevirtual (bat_get dg_X11_heard_0_0 1 rfl rfl) rfl
theorem dX11_heard_4 : decode cX11_heard 4 = .ok (.ifCond .ne 7, 3) := q_ifCond_ne (bat_get dg_X11_heard_0_0 2 rfl rfl) rfl
theorem dX11_heard_11 : decode cX11_heard 11 = .ok (.aload_n 0, 1) := q_aload_n0 (bat_get dg_X11_heard_0_0 3 rfl rfl)
theorem dX11_heard_12 : decode cX11_heard 12 = .ok (.invokevirtual 271, 3) := q_invokevirtual (bat_get dg_X11_heard_0_0 4 rfl rfl) rfl
theorem dX11_heard_15 : decode cX11_heard 15 = .ok (.ifCond .eq 13, 3) := q_ifCond_eq (bat_get dg_X11_heard_0_0 5 rfl rfl) rfl
theorem dX11_heard_28 : decode cX11_heard 28 = .ok (.lconst 0, 1) := q_lconst0 (bat_get dg_X11_heard_0_0 6 rfl rfl)
theorem dX11_heard_29 : decode cX11_heard 29 = .ok (.lreturn, 1) := q_lreturn (bat_get dg_X11_heard_0_0 7 rfl rfl)
theorem dX11_heard_18 : decode cX11_heard 18 = .ok (.aload_n 0, 1) := q_aload_n0 (bat_get dg_X11_heard_0_0 8 rfl rfl)
theorem dX11_heard_19 : decode cX11_heard 19 = .ok (.getfield 85, 3) := q_getfield (bat_get dg_X11_heard_0_0 9 rfl rfl) rfl
theorem dX11_heard_22 : decode cX11_heard 22 = .ok (.invokevirtual 212, 3) := q_invokevirtual (bat_get dg_X11_heard_0_0 10 rfl rfl) rfl
theorem dX11_heard_25 : decode cX11_heard 25 = .ok (.goto 4, 3) := q_goto (bat_get dg_X11_heard_0_0 11 rfl rfl) rfl
theorem dX11_heard_7 : decode cX11_heard 7 = .ok (.ldc2_w 198, 3) := q_ldc2_w (bat_get dg_X11_heard_0_0 12 rfl rfl) rfl
theorem dX11_heard_10 : decode cX11_heard 10 = .ok (.lreturn, 1) := q_lreturn (bat_get dg_X11_heard_0_0 13 rfl rfl)
theorem w_4_222 : (Cond.methodLink RX11 271 yX11_lookByHeard) ∈ wsL_law := sk_mem (ck_4 _ (List.mem_of_getElem? (i := 222) rfl)) rfl
theorem w_4_224 : (Cond.instanceMethod yX11_lookByHeard) ∈ wsL_law := sk_mem (ck_4 _ (List.mem_of_getElem? (i := 224) rfl)) rfl
theorem w_0_30 : (Cond.selects RX11 yX11_lookByHeard yX11_lookByHeard) ∈ wsL_law := sk_mem (ck_0 _ (List.mem_of_getElem? (i := 30) rfl)) rfl
theorem w_4_221 : (Cond.code yX11_heard cX11_heard 1 (some .long)) ∈ wsL_law := sk_mem (ck_4 _ (List.mem_of_getElem? (i := 221) rfl)) rfl
def om_25_1fffffd : List Bool := true :: true :: true :: true :: true :: true :: true :: true :: true :: true :: true :: true :: true :: true :: true :: true :: true :: true :: true :: true :: true :: true :: true :: false :: true :: []
theorem hd_X11_lookByHeard_0 : skD yX11_lookByHeard 0 := by decide +kernel
set_option maxHeartbeats 4000000 in
set_option maxRecDepth 100000 in
theorem c_uy_heard (l : Launch) (D : va_G) (cI cJ cC cZ cS : ClassId) (x0 : Nat) (q : Nat → Nat) (dr : Int64) (sa : Nat → Nat) (ft : Nat → Int32) (fa : Nat → Int32) (fo : Nat → Int32) (fg : Nat → Int64) (fk : Nat → Int32) (dh : Nat) (mh : Nat) (uh : Int32) (rh : Int32) (nh : Nat) (ch : Nat) (wh : Nat) (y1 : Nat → Int32) (y2 : Nat → Int64) (y3 : Nat → Int64) (y4 : Nat → Int64) (yf : Nat → Int32) (yt : Nat → Int32) (gd : Nat) (gs : Nat) (e1 : Nat → Int32) (e2 : Nat → Int32) (e3 : Nat → Int32) (dy : Nat) (wn : Nat) (mo : Nat) (ke : Nat) (mu : Int32) (fb : Nat → Int32) (fw : Nat → Int32) (Ba : Nat → Nat) (We : Nat → Nat) (L : LkS) (U : Nat → Bool) (e4 : Nat → Int64) (hn : Nat) (hr_ : Nat → Int32) (hR : Nat → Nat) (hsa : ∀ j, sa j ≤ 9) (hch : ch ≤ 1600) (hwh : wh ≤ 1) (hdy : dy ≤ 9) (hmo : mo ≤ 9) (hgd : gd ≤ 9) (hgs : gs ≤ 9) (hLk : kcLk L) (hlq : 1 ≤ dy → cdK (lK (lkF L)) ch wh y1 ∧ ∀ v, v < 3 → sgO (lG (lkF L) v) (yf v) (yt v)) (htq : 1 ≤ dy → kcTI L sa ft fa fo fg fk) (hfb : ∀ j, j < 9 → fb j = nI (Ba j)) (hfw : ∀ j, j < 9 → fw j = nI (We j)) (hB9 : ∀ j, Ba j ≤ 9) (hW9 : ∀ j, We j ≤ 9) (hwn : wn ≤ 999) (hU : muO U mu) (hn16 : hn ≤ 16) (hhr : ∀ j, j < hn → hr_ j = nI (hR j)) (hRd : ∀ j, j < hn → hR j < 10 * dy) : skM l yX11_heard cX11_heard 1 (some .long) 6 150 0 0 D (skT cI cJ cC cZ cS) [.ref x0] [ro_rrrrrrrrrrrrrrrirl x0 11 (q 0) (q 1) (q 2) (q 3) (q 4) (q 5) (q 6) (q 7) (q 8) (q 9) (q 10) (q 11) (q 12) (q 13) (q 14) (nI hn) (q 16) dr, ro_rrrrrr (q 10) 9 (q 61) (q 62) (q 63) (q 64) (q 65) (q 66), ra_N (q 61) cI 90 sa, ra_I (q 62) cI 900 ft, ra_I (q 63) cI 90 fa, ra_I (q 64) cI 90 fo, ra_J (q 65) cJ 90 fg, ra_I (q 66) cI 9 fk, ro_rrrrrnniin (q 5) 2 (q 44) (q 45) (q 46) (q 47) (q 48) dh mh uh rh nh, ro_rrrrnn (q 44) 0 (q 49) (q 50) (q 51) (q 52) ch wh, ra_I (q 49) cI 1600 y1, ra_J (q 50) cJ 64 y2, ra_J (q 51) cJ 9 y3, ra_J (q 52) cJ 10 y4, ra_I (q 47) cI 3 yf, ra_I (q 48) cI 3 yt, ro_rrrrrrrnn (q 11) 1 (q 10) (q 67) (q 68) (q 69) (q 70) (q 71) (q 72) gd gs, ra_I (q 67) cI 90 e1, ra_I (q 68) cI 9 e2, ra_I (q 69) cI 10 e3, ro_rrnnnin (q 7) 7 (q 33) (q 34) dy wn mo mu ke, ra_I (q 33) cI 9 fb, ra_I (q 34) cI 9 fw, ra_J (q 70) cJ 100 e4, ra_I (q 14) cI 16 hr_] (skL D (skT cI cJ cC cZ cS) (fun (r : Int64) (u : va_W) => ∃ (sa2 : Nat → Nat), ∃ (ft2 : Nat → Int32), ∃ (fa2 : Nat → Int32), ∃ (fo2 : Nat → Int32), ∃ (fg2 : Nat → Int64), ∃ (fk2 : Nat → Int32), ∃ (z2 : Nat → Int64), ∃ (z3 : Nat → Int64), ∃ (g1 : Nat → Int32), ∃ (g2 : Nat → Int32), ∃ (g3 : Nat → Int32), ∃ (gd2 : Nat), ∃ (gs2 : Nat), ∃ (g4 : Nat → Int64), (∀ j, sa2 j ≤ 9) ∧ (1 ≤ dy → kcTI L sa2 ft2 fa2 fo2 fg2 fk2) ∧ gd2 ≤ 9 ∧ gs2 ≤ 9 ∧ heardR (kcHd (kcFo L wn Ba We U 0) U (kSd L wn Ba We) hR hn) dy mo r ∧ u = [ro_rrrrrrrrrrrrrrrirl x0 11 (q 0) (q 1) (q 2) (q 3) (q 4) (q 5) (q 6) (q 7) (q 8) (q 9) (q 10) (q 11) (q 12) (q 13) (q 14) (nI hn) (q 16) dr, ro_rrrrrr (q 10) 9 (q 61) (q 62) (q 63) (q 64) (q 65) (q 66), ra_N (q 61) cI 90 sa2, ra_I (q 62) cI 900 ft2, ra_I (q 63) cI 90 fa2, ra_I (q 64) cI 90 fo2, ra_J (q 65) cJ 90 fg2, ra_I (q 66) cI 9 fk2, ro_rrrrrnniin (q 5) 2 (q 44) (q 45) (q 46) (q 47) (q 48) dh mh uh rh nh, ro_rrrrnn (q 44) 0 (q 49) (q 50) (q 51) (q 52) ch wh, ra_I (q 49) cI 1600 y1, ra_J (q 50) cJ 64 z2, ra_J (q 51) cJ 9 z3, ra_J (q 52) cJ 10 y4, ra_I (q 47) cI 3 yf, ra_I (q 48) cI 3 yt, ro_rrrrrrrnn (q 11) 1 (q 10) (q 67) (q 68) (q 69) (q 70) (q 71) (q 72) gd2 gs2, ra_I (q 67) cI 90 g1, ra_I (q 68) cI 9 g2, ra_I (q 69) cI 10 g3, ro_rrnnnin (q 7) 7 (q 33) (q 34) dy wn mo mu ke, ra_I (q 33) cI 9 fb, ra_I (q 34) cI 9 fw, ra_J (q 70) cJ 100 g4, ra_I (q 14) cI 16 hr_])) := by
  refine skM_of pf_X11_heard (Nat.le_of_ble_eq_true rfl) ?_
  intro p e s m below meth c A ls E hP hD hl
  refine skE_el E (fun hx hb hr hml hlocks hin hown hts hK hA => ?_)
  have hown : s.vm.findClass RX11 = some m.cls := hown
  have hS : va_S A s.heap s.heap [] := va_S.rf
  have hl : lv_has ls 1 [(0, .ref x0)] := hl
  refine lv_aload_n hx hb dX11_heard_0 rfl (lv_at hl 0 rfl) ?_
  refine sk_Vi (q0 := 0) (n := 0) (rest := []) (wr := fmR om_25_1000010 _) ⟨hx, hb, hml, hown, hts⟩ hl.1 (c_kx_isLocked l D cI cJ cC cZ cS x0 q (nI hn) dr dy wn mo ke mu fb fw hdy) w_4_39 w_4_41 w_0_18 w_1_1 w_4_42 hd_X11_isLocked_0 ⟨⟨(Nat.le_of_ble_eq_true rfl), (Nat.le_of_ble_eq_true rfl)⟩, (Nat.le_of_ble_eq_true rfl), (Nat.le_of_ble_eq_true rfl)⟩ hK hP hD hS hA (fmT om_25_1000010 0) (fmF om_25_1000010 0) (fm_C1 rfl rfl) (fm_R rfl rfl) (fm_nT om_25_1000010 0) (fm_nF om_25_1000010 0) (fm_di om_25_1000010 0) rfl rfl rfl rfl (Nat.le_of_ble_eq_true rfl) dX11_heard_1 (fun r_2 u H locs hw hP hD hS => ?_)
  refine exE hw (fun b_1 hw1 => anE hw1 (fun hb1_3 hw2 => anE hw2 (fun er_5 eu_4 => ?_)))
  clear hw hw1 hw2
  subst er_5
  refine o_mgE (ws' := [ro_rrrrrrrrrrrrrrrnrl x0 11 (q 0) (q 1) (q 2) (q 3) (q 4) (q 5) (q 6) (q 7) (q 8) (q 9) (q 10) (q 11) (q 12) (q 13) (q 14) hn (q 16) dr, ro_rrrrrr (q 10) 9 (q 61) (q 62) (q 63) (q 64) (q 65) (q 66), ra_N (q 61) cI 90 sa, ra_I (q 62) cI 900 ft, ra_I (q 63) cI 90 fa, ra_I (q 64) cI 90 fo, ra_J (q 65) cJ 90 fg, ra_I (q 66) cI 9 fk, ro_rrrrrnniin (q 5) 2 (q 44) (q 45) (q 46) (q 47) (q 48) dh mh uh rh nh, ro_rrrrnn (q 44) 0 (q 49) (q 50) (q 51) (q 52) ch wh, ra_I (q 49) cI 1600 y1, ra_J (q 50) cJ 64 y2, ra_J (q 51) cJ 9 y3, ra_J (q 52) cJ 10 y4, ra_I (q 47) cI 3 yf, ra_I (q 48) cI 3 yt, ro_rrrrrrrnn (q 11) 1 (q 10) (q 67) (q 68) (q 69) (q 70) (q 71) (q 72) gd gs, ra_I (q 67) cI 90 e1, ra_I (q 68) cI 9 e2, ra_I (q 69) cI 10 e3, ro_rrnnnin (q 7) 7 (q 33) (q 34) dy wn mo mu ke, ra_I (q 33) cI 9 fb, ra_I (q 34) cI 9 fw, ra_J (q 70) cJ 100 e4, ra_I (q 14) cI 16 hr_]) eu_4 hP hD rfl (fun hP hD => ?_)
  refine lv_if_ne (tgt := 11) hx hb dX11_heard_4 (by decide) (fun c_6 => ?_) (fun c_6 => ?_)
  · have c_6 : ¬ (b_1 = 0) := fun h => c_6 ((neq b_1 0 (by omega) (Nat.le_of_ble_eq_true rfl)).mpr h)
    refine lv_aload_n hx hb dX11_heard_11 rfl (lv_at hl 0 rfl) ?_
    refine sk_Vi (q0 := 0) (n := 0) (rest := []) (wr := fmR om_25_1fffffd _) ⟨hx, hb, hml, hown, hts⟩ hl.1 (c_ux_lookByHeard l D cI cJ cC cZ cS x0 q dr sa ft fa fo fg fk dh mh uh rh nh ch wh y1 y2 y3 y4 yf yt gd gs e1 e2 e3 hn dy wn mo ke mu fb fw Ba We L U hr_ hR hsa hch hwh hdy hmo hLk (hlq (by omega)).1 (hlq (by omega)).2 hfb hfw hB9 hW9 hwn hU (htq (by omega)) hn16 hhr hRd) w_4_222 w_4_224 w_0_30 w_1_1 w_4_225 hd_X11_lookByHeard_0 ⟨⟨(Nat.le_of_ble_eq_true rfl), (Nat.le_of_ble_eq_true rfl)⟩, (Nat.le_of_ble_eq_true rfl), (Nat.le_of_ble_eq_true rfl)⟩ hK hP hD hS hA (fmT om_25_1fffffd 0) (fmF om_25_1fffffd 0) (fm_C1 rfl rfl) (fm_R rfl rfl) (fm_nT om_25_1fffffd 0) (fm_nF om_25_1fffffd 0) (fm_di om_25_1fffffd 0) rfl rfl rfl rfl (Nat.le_of_ble_eq_true rfl) dX11_heard_12 (fun r_19 u H locs hw hP hD hS => ?_)
    refine exE hw (fun sa2_7 hw1 => exE hw1 (fun ft2_8 hw2 => exE hw2 (fun fa2_9 hw3 => exE hw3 (fun fo2_10 hw4 => exE hw4 (fun fg2_11 hw5 => exE hw5 (fun fk2_12 hw6 => exE hw6 (fun z2_13 hw7 => exE hw7 (fun z3_14 hw8 => exE hw8 (fun g1_15 hw9 => exE hw9 (fun g2_16 hw10 => exE hw10 (fun g3_17 hw11 => exE hw11 (fun b_18 hw12 => anE hw12 (fun hsa2_20 hw13 => anE hw13 (fun hti2_21 hw14 => anE hw14 (fun hlb_22 hw15 => anE hw15 (fun er_24 eu_23 => ?_))))))))))))))))
    clear hw hw1 hw2 hw3 hw4 hw5 hw6 hw7 hw8 hw9 hw10 hw11 hw12 hw13 hw14 hw15
    subst er_24
    refine o_mgE (ws' := [ro_rrrrrrrrrrrrrrrnrl x0 11 (q 0) (q 1) (q 2) (q 3) (q 4) (q 5) (q 6) (q 7) (q 8) (q 9) (q 10) (q 11) (q 12) (q 13) (q 14) hn (q 16) dr, ro_rrrrrr (q 10) 9 (q 61) (q 62) (q 63) (q 64) (q 65) (q 66), ra_N (q 61) cI 90 sa2_7, ra_I (q 62) cI 900 ft2_8, ra_I (q 63) cI 90 fa2_9, ra_I (q 64) cI 90 fo2_10, ra_J (q 65) cJ 90 fg2_11, ra_I (q 66) cI 9 fk2_12, ro_rrrrrnniin (q 5) 2 (q 44) (q 45) (q 46) (q 47) (q 48) dh mh uh rh nh, ro_rrrrnn (q 44) 0 (q 49) (q 50) (q 51) (q 52) ch wh, ra_I (q 49) cI 1600 y1, ra_J (q 50) cJ 64 z2_13, ra_J (q 51) cJ 9 z3_14, ra_J (q 52) cJ 10 y4, ra_I (q 47) cI 3 yf, ra_I (q 48) cI 3 yt, ro_rrrrrrrnn (q 11) 1 (q 10) (q 67) (q 68) (q 69) (q 70) (q 71) (q 72) dy mo, ra_I (q 67) cI 90 g1_15, ra_I (q 68) cI 9 g2_16, ra_I (q 69) cI 10 g3_17, ro_rrnnnin (q 7) 7 (q 33) (q 34) dy wn mo mu ke, ra_I (q 33) cI 9 fb, ra_I (q 34) cI 9 fw, ra_J (q 70) cJ 100 e4, ra_I (q 14) cI 16 hr_]) eu_23 hP hD rfl (fun hP hD => ?_)
    refine lv_if_eq (tgt := 28) hx hb dX11_heard_15 (by decide) (fun c_25 => ?_) (fun c_25 => ?_)
    · have c_25 : b_18 = 0 := (neq b_18 0 (by omega) (Nat.le_of_ble_eq_true rfl)).mp c_25
      refine lv_lconst (v := 0) hx hb dX11_heard_28 (by decide) ?_
      exact sk_lret hx hb hr hlocks hK hP hD hS (⟨sa2_7, ft2_8, fa2_9, fo2_10, fg2_11, fk2_12, z2_13, z3_14, g1_15, g2_16, g3_17, dy, mo, e4, hsa2_20, (fun _ => hti2_21), hdy, hmo, kB_1 (by omega) (by rw [(rr_0 hlb_22 c_25)]; rfl), rfl⟩) (Nat.le_of_ble_eq_true rfl) (Nat.le_of_ble_eq_true rfl) dX11_heard_29
    · have c_25 : ¬ (b_18 = 0) := fun h => c_25 ((neq b_18 0 (by omega) (Nat.le_of_ble_eq_true rfl)).mpr h)
      have hq_26 := rr_1 hlb_22 (by omega)
      refine lv_aload_n hx hb dX11_heard_18 rfl (lv_at hl 0 rfl) ?_
      refine sk_get (v := .ref (q 11)) (C := RX11) (T := TX11) (N := 18) hx hb hts inlX11 hown hK hP 0 rfl rfl 11 (Nat.le_of_ble_eq_true rfl) w_2_134 rfl dX11_heard_19 ?_
      refine sk_Vl (q0 := 0) (n := 0) (rest := []) (wr := fmR om_25_1e2 _) ⟨hx, hb, hml, hown, hts⟩ hl.1 (c_kcountWays l D cI cJ cC cZ cS q dy mo g1_15 g2_16 g3_17 e4 (kcHd (kcFo L wn Ba We U 0) U (kSd L wn Ba We) hR hn) hdy hmo hq_26.2.1 hq_26.2.2) w_4_61 w_4_62 w_4_63 w_1_13 w_4_64 hd_X1_countWays_0 ⟨⟨(Nat.le_of_ble_eq_true rfl), (Nat.le_of_ble_eq_true rfl)⟩, (Nat.le_of_ble_eq_true rfl), (Nat.le_of_ble_eq_true rfl)⟩ hK hP hD hS hA (fmT om_25_1e2 0) (fmF om_25_1e2 0) (fm_C1 rfl rfl) (fm_R rfl rfl) (fm_nT om_25_1e2 0) (fm_nF om_25_1e2 0) (fm_di om_25_1e2 0) rfl rfl rfl rfl (Nat.le_of_ble_eq_true rfl) dX11_heard_22 (fun r_28 u H locs hw hP hD hS => ?_)
      refine exE hw (fun g4_27 hw1 => anE hw1 (fun hwy_29 hw2 => anE hw2 (fun er_31 eu_30 => ?_)))
      clear hw hw1 hw2
      subst er_31
      refine o_mgE (ws' := [ro_rrrrrrrrrrrrrrrnrl x0 11 (q 0) (q 1) (q 2) (q 3) (q 4) (q 5) (q 6) (q 7) (q 8) (q 9) (q 10) (q 11) (q 12) (q 13) (q 14) hn (q 16) dr, ro_rrrrrr (q 10) 9 (q 61) (q 62) (q 63) (q 64) (q 65) (q 66), ra_N (q 61) cI 90 sa2_7, ra_I (q 62) cI 900 ft2_8, ra_I (q 63) cI 90 fa2_9, ra_I (q 64) cI 90 fo2_10, ra_J (q 65) cJ 90 fg2_11, ra_I (q 66) cI 9 fk2_12, ro_rrrrrnniin (q 5) 2 (q 44) (q 45) (q 46) (q 47) (q 48) dh mh uh rh nh, ro_rrrrnn (q 44) 0 (q 49) (q 50) (q 51) (q 52) ch wh, ra_I (q 49) cI 1600 y1, ra_J (q 50) cJ 64 z2_13, ra_J (q 51) cJ 9 z3_14, ra_J (q 52) cJ 10 y4, ra_I (q 47) cI 3 yf, ra_I (q 48) cI 3 yt, ro_rrrrrrrnn (q 11) 1 (q 10) (q 67) (q 68) (q 69) (q 70) (q 71) (q 72) dy mo, ra_I (q 67) cI 90 g1_15, ra_I (q 68) cI 9 g2_16, ra_I (q 69) cI 10 g3_17, ro_rrnnnin (q 7) 7 (q 33) (q 34) dy wn mo mu ke, ra_I (q 33) cI 9 fb, ra_I (q 34) cI 9 fw, ra_J (q 70) cJ 100 g4_27, ra_I (q 14) cI 16 hr_]) eu_30 hP hD rfl (fun hP hD => ?_)
      refine lv_goto (tgt := 29) hx hb dX11_heard_25 (by decide) ?_
      exact sk_lret hx hb hr hlocks hK hP hD hS (⟨sa2_7, ft2_8, fa2_9, fo2_10, fg2_11, fk2_12, z2_13, z3_14, g1_15, g2_16, g3_17, dy, mo, g4_27, hsa2_20, (fun _ => hti2_21), hdy, hmo, kB_1 (by omega) rfl, rfl⟩) (Nat.le_of_ble_eq_true rfl) (Nat.le_of_ble_eq_true rfl) dX11_heard_29
  · have c_6 : b_1 = 0 := (neq b_1 0 (by omega) (Nat.le_of_ble_eq_true rfl)).mp c_6
    refine lv_ldc2 (v := (-1000000000000000)) hx hb hown (hts _ w_4_29) dX11_heard_7 ?_
    exact sk_lret hx hb hr hlocks hK hP hD hS (⟨sa, ft, fa, fo, fg, fk, y2, y3, e1, e2, e3, gd, gs, e4, hsa, htq, hgd, hgs, kB_0 (by omega) rfl, rfl⟩) (Nat.le_of_ble_eq_true rfl) (Nat.le_of_ble_eq_true rfl) dX11_heard_10
theorem dg_X11_tells_0_0 : bqL cX11_tells 0 [(0, [42]), (1, [182, 0, 204]), (4, [153, 0, 19]), (23, [20, 0, 198]), (26, [173]), (7, [27]), (8, [155, 0, 15]), (11, [27]), (12, [4]), (13, [163, 0, 10]), (16, [42]), (17, [182, 1, 15]), (20, [154, 0, 7]), (27, [42]), (28, [180, 0, 85]), (31, [182, 0, 212]), (34, [88]), (35, [42]), (36, [180, 0, 85]), (39, [182, 0, 220]), (42, [3]), (43, [61]), (44, [42]), (45, [180, 0, 85]), (48, [3]), (49, [182, 1, 18]), (52, [66]), (53, [4]), (54, [54, 5]), (56, [21, 5]), (58, [42]), (59, [180, 0, 59]), (62, [180, 0, 144]), (65, [162, 0, 33]), (98, [27]), (99, [154, 0, 8]), (107, [33]), (108, [173]), (102, [28]), (103, [133])] = true := by decide +kernel
theorem dX11_tells_0 : decode cX11_tells 0 = .ok (.aload_n 0, 1) := q_aload_n0 (bat_get dg_X11_tells_0_0 0 rfl rfl)
theorem dX11_tells_1 : decode cX11_tells 1 = .ok (.invokevirtual 204, 3) := q_invokevirtual (bat_get dg_X11_tells_0_0 1 rfl rfl) rfl
theorem dX11_tells_4 : decode cX11_tells 4 = .ok (.ifCond .eq 19, 3) := q_ifCond_eq (bat_get dg_X11_tells_0_0 2 rfl rfl) rfl
theorem dX11_tells_23 : decode cX11_tells 23 = .ok (.ldc2_w 198, 3) := q_ldc2_w (bat_get dg_X11_tells_0_0 3 rfl rfl) rfl
theorem dX11_tells_26 : decode cX11_tells 26 = .ok (.lreturn, 1) := q_lreturn (bat_get dg_X11_tells_0_0 4 rfl rfl)
theorem dX11_tells_7 : decode cX11_tells 7 = .ok (.iload_n 1, 1) := q_iload_n1 (bat_get dg_X11_tells_0_0 5 rfl rfl)
theorem dX11_tells_8 : decode cX11_tells 8 = .ok (.ifCond .lt 15, 3) := q_ifCond_lt (bat_get dg_X11_tells_0_0 6 rfl rfl) rfl
theorem dX11_tells_11 : decode cX11_tells 11 = .ok (.iload_n 1, 1) := q_iload_n1 (bat_get dg_X11_tells_0_0 7 rfl rfl)
theorem dX11_tells_12 : decode cX11_tells 12 = .ok (.iconst 1, 1) := q_iconst1 (bat_get dg_X11_tells_0_0 8 rfl rfl)
theorem dX11_tells_13 : decode cX11_tells 13 = .ok (.if_icmp .gt 10, 3) := q_if_icmp_gt (bat_get dg_X11_tells_0_0 9 rfl rfl) rfl
theorem dX11_tells_16 : decode cX11_tells 16 = .ok (.aload_n 0, 1) := q_aload_n0 (bat_get dg_X11_tells_0_0 10 rfl rfl)
theorem dX11_tells_17 : decode cX11_tells 17 = .ok (.invokevirtual 271, 3) := q_invokevirtual (bat_get dg_X11_tells_0_0 11 rfl rfl) rfl
theorem dX11_tells_20 : decode cX11_tells 20 = .ok (.ifCond .ne 7, 3) := q_ifCond_ne (bat_get dg_X11_tells_0_0 12 rfl rfl) rfl
theorem dX11_tells_27 : decode cX11_tells 27 = .ok (.aload_n 0, 1) := q_aload_n0 (bat_get dg_X11_tells_0_0 13 rfl rfl)
theorem dX11_tells_28 : decode cX11_tells 28 = .ok (.getfield 85, 3) := q_getfield (bat_get dg_X11_tells_0_0 14 rfl rfl) rfl
theorem dX11_tells_31 : decode cX11_tells 31 = .ok (.invokevirtual 212, 3) := q_invokevirtual (bat_get dg_X11_tells_0_0 15 rfl rfl) rfl
theorem dX11_tells_34 : decode cX11_tells 34 = .ok (.pop2, 1) := q_pop2 (bat_get dg_X11_tells_0_0 16 rfl rfl)
theorem dX11_tells_35 : decode cX11_tells 35 = .ok (.aload_n 0, 1) := q_aload_n0 (bat_get dg_X11_tells_0_0 17 rfl rfl)
theorem dX11_tells_36 : decode cX11_tells 36 = .ok (.getfield 85, 3) := q_getfield (bat_get dg_X11_tells_0_0 18 rfl rfl) rfl
theorem dX11_tells_39 : decode cX11_tells 39 = .ok (.invokevirtual 220, 3) := q_invokevirtual (bat_get dg_X11_tells_0_0 19 rfl rfl) rfl
theorem dX11_tells_42 : decode cX11_tells 42 = .ok (.iconst 0, 1) := q_iconst0 (bat_get dg_X11_tells_0_0 20 rfl rfl)
theorem dX11_tells_43 : decode cX11_tells 43 = .ok (.istore_n 2, 1) := q_istore_n2 (bat_get dg_X11_tells_0_0 21 rfl rfl)
theorem dX11_tells_44 : decode cX11_tells 44 = .ok (.aload_n 0, 1) := q_aload_n0 (bat_get dg_X11_tells_0_0 22 rfl rfl)
theorem dX11_tells_45 : decode cX11_tells 45 = .ok (.getfield 85, 3) := q_getfield (bat_get dg_X11_tells_0_0 23 rfl rfl) rfl
theorem dX11_tells_48 : decode cX11_tells 48 = .ok (.iconst 0, 1) := q_iconst0 (bat_get dg_X11_tells_0_0 24 rfl rfl)
theorem dX11_tells_49 : decode cX11_tells 49 = .ok (.invokevirtual 274, 3) := q_invokevirtual (bat_get dg_X11_tells_0_0 25 rfl rfl) rfl
theorem dX11_tells_52 : decode cX11_tells 52 = .ok (.lstore_n 3, 1) := q_lstore_n3 (bat_get dg_X11_tells_0_0 26 rfl rfl)
theorem dX11_tells_53 : decode cX11_tells 53 = .ok (.iconst 1, 1) := q_iconst1 (bat_get dg_X11_tells_0_0 27 rfl rfl)
theorem dX11_tells_54 : decode cX11_tells 54 = .ok (.istore 5, 2) := q_istore (bat_get dg_X11_tells_0_0 28 rfl rfl)
theorem dX11_tells_56 : decode cX11_tells 56 = .ok (.iload 5, 2) := q_iload (bat_get dg_X11_tells_0_0 29 rfl rfl)
theorem dX11_tells_58 : decode cX11_tells 58 = .ok (.aload_n 0, 1) := q_aload_n0 (bat_get dg_X11_tells_0_0 30 rfl rfl)
theorem dX11_tells_59 : decode cX11_tells 59 = .ok (.getfield 59, 3) := q_getfield (bat_get dg_X11_tells_0_0 31 rfl rfl) rfl
theorem dX11_tells_62 : decode cX11_tells 62 = .ok (.getfield 144, 3) := q_getfield (bat_get dg_X11_tells_0_0 32 rfl rfl) rfl
theorem dX11_tells_65 : decode cX11_tells 65 = .ok (.if_icmp .ge 33, 3) := q_if_icmp_ge (bat_get dg_X11_tells_0_0 33 rfl rfl) rfl
theorem dX11_tells_98 : decode cX11_tells 98 = .ok (.iload_n 1, 1) := q_iload_n1 (bat_get dg_X11_tells_0_0 34 rfl rfl)
theorem dX11_tells_99 : decode cX11_tells 99 = .ok (.ifCond .ne 8, 3) := q_ifCond_ne (bat_get dg_X11_tells_0_0 35 rfl rfl) rfl
theorem dX11_tells_107 : decode cX11_tells 107 = .ok (.lload_n 3, 1) := q_lload_n3 (bat_get dg_X11_tells_0_0 36 rfl rfl)
theorem dX11_tells_108 : decode cX11_tells 108 = .ok (.lreturn, 1) := q_lreturn (bat_get dg_X11_tells_0_0 37 rfl rfl)
theorem dX11_tells_102 : decode cX11_tells 102 = .ok (.iload_n 2, 1) := q_iload_n2 (bat_get dg_X11_tells_0_0 38 rfl rfl)
theorem dX11_tells_103 : decode cX11_tells 103 = .ok (.i2l, 1) := q_i2l (bat_get dg_X11_tells_0_0 39 rfl rfl)
theorem dg_X11_tells_68_104 : bqL cX11_tells 68 [(36, [167, 0, 4]), (0, [42]), (1, [180, 0, 85]), (4, [21, 5]), (6, [182, 1, 18]), (9, [55, 6]), (11, [22, 6]), (13, [33]), (14, [148]), (15, [156, 0, 9]), (24, [132, 5, 1]), (27, [167, 255, 217]), (18, [22, 6]), (20, [66]), (21, [21, 5]), (23, [61])] = true := by decide +kernel
theorem dX11_tells_104 : decode cX11_tells 104 = .ok (.goto 4, 3) := q_goto (bat_get dg_X11_tells_68_104 0 rfl rfl) rfl
theorem dX11_tells_68 : decode cX11_tells 68 = .ok (.aload_n 0, 1) := q_aload_n0 (bat_get dg_X11_tells_68_104 1 rfl rfl)
theorem dX11_tells_69 : decode cX11_tells 69 = .ok (.getfield 85, 3) := q_getfield (bat_get dg_X11_tells_68_104 2 rfl rfl) rfl
theorem dX11_tells_72 : decode cX11_tells 72 = .ok (.iload 5, 2) := q_iload (bat_get dg_X11_tells_68_104 3 rfl rfl)
theorem dX11_tells_74 : decode cX11_tells 74 = .ok (.invokevirtual 274, 3) := q_invokevirtual (bat_get dg_X11_tells_68_104 4 rfl rfl) rfl
theorem dX11_tells_77 : decode cX11_tells 77 = .ok (.lstore 6, 2) := q_lstore (bat_get dg_X11_tells_68_104 5 rfl rfl)
theorem dX11_tells_79 : decode cX11_tells 79 = .ok (.lload 6, 2) := q_lload (bat_get dg_X11_tells_68_104 6 rfl rfl)
theorem dX11_tells_81 : decode cX11_tells 81 = .ok (.lload_n 3, 1) := q_lload_n3 (bat_get dg_X11_tells_68_104 7 rfl rfl)
theorem dX11_tells_82 : decode cX11_tells 82 = .ok (.lcmp, 1) := q_lcmp (bat_get dg_X11_tells_68_104 8 rfl rfl)
theorem dX11_tells_83 : decode cX11_tells 83 = .ok (.ifCond .ge 9, 3) := q_ifCond_ge (bat_get dg_X11_tells_68_104 9 rfl rfl) rfl
theorem dX11_tells_92 : decode cX11_tells 92 = .ok (.iinc 5 1, 3) := q_iinc (bat_get dg_X11_tells_68_104 10 rfl rfl) rfl
theorem dX11_tells_95 : decode cX11_tells 95 = .ok (.goto (-39), 3) := q_goto (bat_get dg_X11_tells_68_104 11 rfl rfl) rfl
theorem dX11_tells_86 : decode cX11_tells 86 = .ok (.lload 6, 2) := q_lload (bat_get dg_X11_tells_68_104 12 rfl rfl)
theorem dX11_tells_88 : decode cX11_tells 88 = .ok (.lstore_n 3, 1) := q_lstore_n3 (bat_get dg_X11_tells_68_104 13 rfl rfl)
theorem dX11_tells_89 : decode cX11_tells 89 = .ok (.iload 5, 2) := q_iload (bat_get dg_X11_tells_68_104 14 rfl rfl)
theorem dX11_tells_91 : decode cX11_tells 91 = .ok (.istore_n 2, 1) := q_istore_n2 (bat_get dg_X11_tells_68_104 15 rfl rfl)
theorem w_4_230 : (Cond.methodLink RX11 274 yX1_mostLeft) ∈ wsL_law := sk_mem (ck_4 _ (List.mem_of_getElem? (i := 230) rfl)) rfl
theorem w_4_231 : (Cond.instanceMethod yX1_mostLeft) ∈ wsL_law := sk_mem (ck_4 _ (List.mem_of_getElem? (i := 231) rfl)) rfl
theorem w_4_232 : (Cond.selects RX1 yX1_mostLeft yX1_mostLeft) ∈ wsL_law := sk_mem (ck_4 _ (List.mem_of_getElem? (i := 232) rfl)) rfl
theorem w_4_229 : (Cond.code yX11_tells cX11_tells 8 (some .long)) ∈ wsL_law := sk_mem (ck_4 _ (List.mem_of_getElem? (i := 229) rfl)) rfl
def om_26_3fffffa : List Bool := true :: true :: true :: true :: true :: true :: true :: true :: true :: true :: true :: true :: true :: true :: true :: true :: true :: true :: true :: true :: true :: true :: true :: false :: true :: false :: []
def om_26_3c4 : List Bool := false :: false :: false :: false :: false :: false :: false :: false :: false :: false :: false :: false :: false :: false :: false :: false :: true :: true :: true :: true :: false :: false :: false :: true :: false :: false :: []
def om_26_3c1 : List Bool := false :: false :: false :: false :: false :: false :: false :: false :: false :: false :: false :: false :: false :: false :: false :: false :: true :: true :: true :: true :: false :: false :: false :: false :: false :: true :: []
def om_26_205 : List Bool := false :: false :: false :: false :: false :: false :: false :: false :: false :: false :: false :: false :: false :: false :: false :: false :: true :: false :: false :: false :: false :: false :: false :: true :: false :: true :: []
theorem hd_X1_mostLeft_1 : skD yX1_mostLeft 1 := by decide +kernel
set_option maxHeartbeats 4000000 in
set_option maxRecDepth 100000 in
theorem c_uy_tells (l : Launch) (D : va_G) (cI cJ cC cZ cS : ClassId) (x0 : Nat) (q : Nat → Nat) (dr : Int64) (sa : Nat → Nat) (ft : Nat → Int32) (fa : Nat → Int32) (fo : Nat → Int32) (fg : Nat → Int64) (fk : Nat → Int32) (dh : Nat) (mh : Nat) (uh : Int32) (rh : Int32) (nh : Nat) (ch : Nat) (wh : Nat) (y1 : Nat → Int32) (y2 : Nat → Int64) (y3 : Nat → Int64) (y4 : Nat → Int64) (yf : Nat → Int32) (yt : Nat → Int32) (gd : Nat) (gs : Nat) (e1 : Nat → Int32) (e2 : Nat → Int32) (e3 : Nat → Int32) (dy : Nat) (wn : Nat) (mo : Nat) (ke : Nat) (mu : Int32) (fb : Nat → Int32) (fw : Nat → Int32) (Ba : Nat → Nat) (We : Nat → Nat) (L : LkS) (U : Nat → Bool) (e4 : Nat → Int64) (hn : Nat) (hr_ : Nat → Int32) (hR : Nat → Nat) (e5 : Nat → Int64) (w : Int32) (hsa : ∀ j, sa j ≤ 9) (hch : ch ≤ 1600) (hwh : wh ≤ 1) (hdy : dy ≤ 9) (hmo : mo ≤ 9) (hgd : gd ≤ 9) (hgs : gs ≤ 9) (hLk : kcLk L) (hlq : 1 ≤ dy → cdK (lK (lkF L)) ch wh y1 ∧ ∀ v, v < 3 → sgO (lG (lkF L) v) (yf v) (yt v)) (htq : 1 ≤ dy → kcTI L sa ft fa fo fg fk) (hfb : ∀ j, j < 9 → fb j = nI (Ba j)) (hfw : ∀ j, j < 9 → fw j = nI (We j)) (hB9 : ∀ j, Ba j ≤ 9) (hW9 : ∀ j, We j ≤ 9) (hwn : wn ≤ 999) (hU : muO U mu) (hn16 : hn ≤ 16) (hhr : ∀ j, j < hn → hr_ j = nI (hR j)) (hRd : ∀ j, j < hn → hR j < 10 * dy) : skM l yX11_tells cX11_tells 8 (some .long) 6 150 0 0 D (skT cI cJ cC cZ cS) [.ref x0, .int w] [ro_rrrrrrrrrrrrrrrirl x0 11 (q 0) (q 1) (q 2) (q 3) (q 4) (q 5) (q 6) (q 7) (q 8) (q 9) (q 10) (q 11) (q 12) (q 13) (q 14) (nI hn) (q 16) dr, ro_rrrrrr (q 10) 9 (q 61) (q 62) (q 63) (q 64) (q 65) (q 66), ra_N (q 61) cI 90 sa, ra_I (q 62) cI 900 ft, ra_I (q 63) cI 90 fa, ra_I (q 64) cI 90 fo, ra_J (q 65) cJ 90 fg, ra_I (q 66) cI 9 fk, ro_rrrrrnniin (q 5) 2 (q 44) (q 45) (q 46) (q 47) (q 48) dh mh uh rh nh, ro_rrrrnn (q 44) 0 (q 49) (q 50) (q 51) (q 52) ch wh, ra_I (q 49) cI 1600 y1, ra_J (q 50) cJ 64 y2, ra_J (q 51) cJ 9 y3, ra_J (q 52) cJ 10 y4, ra_I (q 47) cI 3 yf, ra_I (q 48) cI 3 yt, ro_rrrrrrrnn (q 11) 1 (q 10) (q 67) (q 68) (q 69) (q 70) (q 71) (q 72) gd gs, ra_I (q 67) cI 90 e1, ra_I (q 68) cI 9 e2, ra_I (q 69) cI 10 e3, ro_rrnnnin (q 7) 7 (q 33) (q 34) dy wn mo mu ke, ra_I (q 33) cI 9 fb, ra_I (q 34) cI 9 fw, ra_J (q 70) cJ 100 e4, ra_I (q 14) cI 16 hr_, ra_J (q 71) cJ 100 e5] (skL D (skT cI cJ cC cZ cS) (fun (r : Int64) (u : va_W) => ∃ (sa2 : Nat → Nat), ∃ (ft2 : Nat → Int32), ∃ (fa2 : Nat → Int32), ∃ (fo2 : Nat → Int32), ∃ (fg2 : Nat → Int64), ∃ (fk2 : Nat → Int32), ∃ (z2 : Nat → Int64), ∃ (z3 : Nat → Int64), ∃ (g1 : Nat → Int32), ∃ (g2 : Nat → Int32), ∃ (g3 : Nat → Int32), ∃ (gd2 : Nat), ∃ (gs2 : Nat), ∃ (g4 : Nat → Int64), ∃ (g5 : Nat → Int64), (∀ j, sa2 j ≤ 9) ∧ (1 ≤ dy → kcTI L sa2 ft2 fa2 fo2 fg2 fk2) ∧ gd2 ≤ 9 ∧ gs2 ≤ 9 ∧ tellsR (kcHd (kcFo L wn Ba We U 0) U (kSd L wn Ba We) hR hn) dy mo w r ∧ u = [ro_rrrrrrrrrrrrrrrirl x0 11 (q 0) (q 1) (q 2) (q 3) (q 4) (q 5) (q 6) (q 7) (q 8) (q 9) (q 10) (q 11) (q 12) (q 13) (q 14) (nI hn) (q 16) dr, ro_rrrrrr (q 10) 9 (q 61) (q 62) (q 63) (q 64) (q 65) (q 66), ra_N (q 61) cI 90 sa2, ra_I (q 62) cI 900 ft2, ra_I (q 63) cI 90 fa2, ra_I (q 64) cI 90 fo2, ra_J (q 65) cJ 90 fg2, ra_I (q 66) cI 9 fk2, ro_rrrrrnniin (q 5) 2 (q 44) (q 45) (q 46) (q 47) (q 48) dh mh uh rh nh, ro_rrrrnn (q 44) 0 (q 49) (q 50) (q 51) (q 52) ch wh, ra_I (q 49) cI 1600 y1, ra_J (q 50) cJ 64 z2, ra_J (q 51) cJ 9 z3, ra_J (q 52) cJ 10 y4, ra_I (q 47) cI 3 yf, ra_I (q 48) cI 3 yt, ro_rrrrrrrnn (q 11) 1 (q 10) (q 67) (q 68) (q 69) (q 70) (q 71) (q 72) gd2 gs2, ra_I (q 67) cI 90 g1, ra_I (q 68) cI 9 g2, ra_I (q 69) cI 10 g3, ro_rrnnnin (q 7) 7 (q 33) (q 34) dy wn mo mu ke, ra_I (q 33) cI 9 fb, ra_I (q 34) cI 9 fw, ra_J (q 70) cJ 100 g4, ra_I (q 14) cI 16 hr_, ra_J (q 71) cJ 100 g5])) := by
  refine skM_of pf_X11_tells (Nat.le_of_ble_eq_true rfl) ?_
  intro p e s m below meth c A ls E hP hD hl
  refine skE_el E (fun hx hb hr hml hlocks hin hown hts hK hA => ?_)
  have hown : s.vm.findClass RX11 = some m.cls := hown
  have hS : va_S A s.heap s.heap [] := va_S.rf
  have hl : lv_has ls 8 [(0, .ref x0), (1, .int w)] := hl
  refine lv_aload_n hx hb dX11_tells_0 rfl (lv_at hl 0 rfl) ?_
  refine sk_Vi (q0 := 0) (n := 0) (rest := []) (wr := fmR om_26_2000020 _) ⟨hx, hb, hml, hown, hts⟩ hl.1 (c_kx_isLocked l D cI cJ cC cZ cS x0 q (nI hn) dr dy wn mo ke mu fb fw hdy) w_4_39 w_4_41 w_0_18 w_1_1 w_4_42 hd_X11_isLocked_0 ⟨⟨(Nat.le_of_ble_eq_true rfl), (Nat.le_of_ble_eq_true rfl)⟩, (Nat.le_of_ble_eq_true rfl), (Nat.le_of_ble_eq_true rfl)⟩ hK hP hD hS hA (fmT om_26_2000020 0) (fmF om_26_2000020 0) (fm_C1 rfl rfl) (fm_R rfl rfl) (fm_nT om_26_2000020 0) (fm_nF om_26_2000020 0) (fm_di om_26_2000020 0) rfl rfl rfl rfl (Nat.le_of_ble_eq_true rfl) dX11_tells_1 (fun r_2 u H locs hw hP hD hS => ?_)
  refine exE hw (fun b_1 hw1 => anE hw1 (fun hb1_3 hw2 => anE hw2 (fun er_5 eu_4 => ?_)))
  clear hw hw1 hw2
  subst er_5
  refine o_mgE (ws' := [ro_rrrrrrrrrrrrrrrnrl x0 11 (q 0) (q 1) (q 2) (q 3) (q 4) (q 5) (q 6) (q 7) (q 8) (q 9) (q 10) (q 11) (q 12) (q 13) (q 14) hn (q 16) dr, ro_rrrrrr (q 10) 9 (q 61) (q 62) (q 63) (q 64) (q 65) (q 66), ra_N (q 61) cI 90 sa, ra_I (q 62) cI 900 ft, ra_I (q 63) cI 90 fa, ra_I (q 64) cI 90 fo, ra_J (q 65) cJ 90 fg, ra_I (q 66) cI 9 fk, ro_rrrrrnniin (q 5) 2 (q 44) (q 45) (q 46) (q 47) (q 48) dh mh uh rh nh, ro_rrrrnn (q 44) 0 (q 49) (q 50) (q 51) (q 52) ch wh, ra_I (q 49) cI 1600 y1, ra_J (q 50) cJ 64 y2, ra_J (q 51) cJ 9 y3, ra_J (q 52) cJ 10 y4, ra_I (q 47) cI 3 yf, ra_I (q 48) cI 3 yt, ro_rrrrrrrnn (q 11) 1 (q 10) (q 67) (q 68) (q 69) (q 70) (q 71) (q 72) gd gs, ra_I (q 67) cI 90 e1, ra_I (q 68) cI 9 e2, ra_I (q 69) cI 10 e3, ro_rrnnnin (q 7) 7 (q 33) (q 34) dy wn mo mu ke, ra_I (q 33) cI 9 fb, ra_I (q 34) cI 9 fw, ra_J (q 70) cJ 100 e4, ra_I (q 14) cI 16 hr_, ra_J (q 71) cJ 100 e5]) eu_4 hP hD rfl (fun hP hD => ?_)
  refine lv_if_eq (tgt := 23) hx hb dX11_tells_4 (by decide) (fun c_6 => ?_) (fun c_6 => ?_)
  · have c_6 : b_1 = 0 := (neq b_1 0 (by omega) (Nat.le_of_ble_eq_true rfl)).mp c_6
    refine lv_ldc2 (v := (-1000000000000000)) hx hb hown (hts _ w_4_29) dX11_tells_23 ?_
    exact sk_lret hx hb hr hlocks hK hP hD hS (⟨sa, ft, fa, fo, fg, fk, y2, y3, e1, e2, e3, gd, gs, e4, e5, hsa, htq, hgd, hgs, tel_0 (by omega), rfl⟩) (Nat.le_of_ble_eq_true rfl) (Nat.le_of_ble_eq_true rfl) dX11_tells_26
  · have c_6 : ¬ (b_1 = 0) := fun h => c_6 ((neq b_1 0 (by omega) (Nat.le_of_ble_eq_true rfl)).mpr h)
    refine lv_iload_n hx hb dX11_tells_7 rfl (lv_at hl 1 rfl) ?_
    refine lv_if_lt (tgt := 23) hx hb dX11_tells_8 (by decide) (fun c_7 => ?_) (fun c_7 => ?_)
    · skip
      refine lv_ldc2 (v := (-1000000000000000)) hx hb hown (hts _ w_4_29) dX11_tells_23 ?_
      exact sk_lret hx hb hr hlocks hK hP hD hS (⟨sa, ft, fa, fo, fg, fk, y2, y3, e1, e2, e3, gd, gs, e4, e5, hsa, htq, hgd, hgs, tel_1 (kIn_neg c_7 (by decide)), rfl⟩) (Nat.le_of_ble_eq_true rfl) (Nat.le_of_ble_eq_true rfl) dX11_tells_26
    · obtain ⟨k_8, hk_8, rfl⟩ := nof w c_7
      refine lv_iload_n hx hb dX11_tells_11 rfl (lv_at hl 1 rfl) ?_
      refine lv_iconst (v := 1) hx hb dX11_tells_12 ic_1 ?_
      refine lv_icmp_gt (tgt := 23) hx hb dX11_tells_13 (by decide) (fun c_9 => ?_) (fun c_9 => ?_)
      · have c_9 : 1 < k_8 := (nlt 1 k_8 (Nat.le_of_ble_eq_true rfl) (by omega)).mp c_9
        refine lv_ldc2 (v := (-1000000000000000)) hx hb hown (hts _ w_4_29) dX11_tells_23 ?_
        exact sk_lret hx hb hr hlocks hK hP hD hS (⟨sa, ft, fa, fo, fg, fk, y2, y3, e1, e2, e3, gd, gs, e4, e5, hsa, htq, hgd, hgs, tel_1 (kIn_ge (by omega) (by omega)), rfl⟩) (Nat.le_of_ble_eq_true rfl) (Nat.le_of_ble_eq_true rfl) dX11_tells_26
      · have c_9 : ¬ (1 < k_8) := fun h => c_9 ((nlt 1 k_8 (Nat.le_of_ble_eq_true rfl) (by omega)).mpr h)
        refine lv_aload_n hx hb dX11_tells_16 rfl (lv_at hl 0 rfl) ?_
        refine sk_Vi (q0 := 0) (n := 0) (rest := []) (wr := fmR om_26_3fffffa _) ⟨hx, hb, hml, hown, hts⟩ hl.1 (c_ux_lookByHeard l D cI cJ cC cZ cS x0 q dr sa ft fa fo fg fk dh mh uh rh nh ch wh y1 y2 y3 y4 yf yt gd gs e1 e2 e3 hn dy wn mo ke mu fb fw Ba We L U hr_ hR hsa hch hwh hdy hmo hLk (hlq (by omega)).1 (hlq (by omega)).2 hfb hfw hB9 hW9 hwn hU (htq (by omega)) hn16 hhr hRd) w_4_222 w_4_224 w_0_30 w_1_1 w_4_225 hd_X11_lookByHeard_0 ⟨⟨(Nat.le_of_ble_eq_true rfl), (Nat.le_of_ble_eq_true rfl)⟩, (Nat.le_of_ble_eq_true rfl), (Nat.le_of_ble_eq_true rfl)⟩ hK hP hD hS hA (fmT om_26_3fffffa 0) (fmF om_26_3fffffa 0) (fm_C1 rfl rfl) (fm_R rfl rfl) (fm_nT om_26_3fffffa 0) (fm_nF om_26_3fffffa 0) (fm_di om_26_3fffffa 0) rfl rfl rfl rfl (Nat.le_of_ble_eq_true rfl) dX11_tells_17 (fun r_22 u H locs hw hP hD hS => ?_)
        refine exE hw (fun sa2_10 hw1 => exE hw1 (fun ft2_11 hw2 => exE hw2 (fun fa2_12 hw3 => exE hw3 (fun fo2_13 hw4 => exE hw4 (fun fg2_14 hw5 => exE hw5 (fun fk2_15 hw6 => exE hw6 (fun z2_16 hw7 => exE hw7 (fun z3_17 hw8 => exE hw8 (fun g1_18 hw9 => exE hw9 (fun g2_19 hw10 => exE hw10 (fun g3_20 hw11 => exE hw11 (fun b_21 hw12 => anE hw12 (fun hsa2_23 hw13 => anE hw13 (fun hti2_24 hw14 => anE hw14 (fun hlb_25 hw15 => anE hw15 (fun er_27 eu_26 => ?_))))))))))))))))
        clear hw hw1 hw2 hw3 hw4 hw5 hw6 hw7 hw8 hw9 hw10 hw11 hw12 hw13 hw14 hw15
        subst er_27
        refine o_mgE (ws' := [ro_rrrrrrrrrrrrrrrnrl x0 11 (q 0) (q 1) (q 2) (q 3) (q 4) (q 5) (q 6) (q 7) (q 8) (q 9) (q 10) (q 11) (q 12) (q 13) (q 14) hn (q 16) dr, ro_rrrrrr (q 10) 9 (q 61) (q 62) (q 63) (q 64) (q 65) (q 66), ra_N (q 61) cI 90 sa2_10, ra_I (q 62) cI 900 ft2_11, ra_I (q 63) cI 90 fa2_12, ra_I (q 64) cI 90 fo2_13, ra_J (q 65) cJ 90 fg2_14, ra_I (q 66) cI 9 fk2_15, ro_rrrrrnniin (q 5) 2 (q 44) (q 45) (q 46) (q 47) (q 48) dh mh uh rh nh, ro_rrrrnn (q 44) 0 (q 49) (q 50) (q 51) (q 52) ch wh, ra_I (q 49) cI 1600 y1, ra_J (q 50) cJ 64 z2_16, ra_J (q 51) cJ 9 z3_17, ra_J (q 52) cJ 10 y4, ra_I (q 47) cI 3 yf, ra_I (q 48) cI 3 yt, ro_rrrrrrrnn (q 11) 1 (q 10) (q 67) (q 68) (q 69) (q 70) (q 71) (q 72) dy mo, ra_I (q 67) cI 90 g1_18, ra_I (q 68) cI 9 g2_19, ra_I (q 69) cI 10 g3_20, ro_rrnnnin (q 7) 7 (q 33) (q 34) dy wn mo mu ke, ra_I (q 33) cI 9 fb, ra_I (q 34) cI 9 fw, ra_J (q 70) cJ 100 e4, ra_I (q 14) cI 16 hr_, ra_J (q 71) cJ 100 e5]) eu_26 hP hD rfl (fun hP hD => ?_)
        refine lv_if_ne (tgt := 27) hx hb dX11_tells_20 (by decide) (fun c_28 => ?_) (fun c_28 => ?_)
        · have c_28 : ¬ (b_21 = 0) := fun h => c_28 ((neq b_21 0 (by omega) (Nat.le_of_ble_eq_true rfl)).mpr h)
          have hq_29 := rr_1 hlb_25 (by omega)
          refine lv_aload_n hx hb dX11_tells_27 rfl (lv_at hl 0 rfl) ?_
          refine sk_get (v := .ref (q 11)) (C := RX11) (T := TX11) (N := 18) hx hb hts inlX11 hown hK hP 0 rfl rfl 11 (Nat.le_of_ble_eq_true rfl) w_2_134 rfl dX11_tells_28 ?_
          refine sk_Vl (q0 := 0) (n := 0) (rest := []) (wr := fmR om_26_3c4 _) ⟨hx, hb, hml, hown, hts⟩ hl.1 (c_kcountWays l D cI cJ cC cZ cS q dy mo g1_18 g2_19 g3_20 e4 (kcHd (kcFo L wn Ba We U 0) U (kSd L wn Ba We) hR hn) hdy hmo hq_29.2.1 hq_29.2.2) w_4_61 w_4_62 w_4_63 w_1_13 w_4_64 hd_X1_countWays_0 ⟨⟨(Nat.le_of_ble_eq_true rfl), (Nat.le_of_ble_eq_true rfl)⟩, (Nat.le_of_ble_eq_true rfl), (Nat.le_of_ble_eq_true rfl)⟩ hK hP hD hS hA (fmT om_26_3c4 0) (fmF om_26_3c4 0) (fm_C1 rfl rfl) (fm_R rfl rfl) (fm_nT om_26_3c4 0) (fm_nF om_26_3c4 0) (fm_di om_26_3c4 0) rfl rfl rfl rfl (Nat.le_of_ble_eq_true rfl) dX11_tells_31 (fun r_31 u H locs hw hP hD hS => ?_)
          refine exE hw (fun g4_30 hw1 => anE hw1 (fun hwy_32 hw2 => anE hw2 (fun er_34 eu_33 => ?_)))
          clear hw hw1 hw2
          subst er_34
          refine o_mgE (ws' := [ro_rrrrrrrrrrrrrrrnrl x0 11 (q 0) (q 1) (q 2) (q 3) (q 4) (q 5) (q 6) (q 7) (q 8) (q 9) (q 10) (q 11) (q 12) (q 13) (q 14) hn (q 16) dr, ro_rrrrrr (q 10) 9 (q 61) (q 62) (q 63) (q 64) (q 65) (q 66), ra_N (q 61) cI 90 sa2_10, ra_I (q 62) cI 900 ft2_11, ra_I (q 63) cI 90 fa2_12, ra_I (q 64) cI 90 fo2_13, ra_J (q 65) cJ 90 fg2_14, ra_I (q 66) cI 9 fk2_15, ro_rrrrrnniin (q 5) 2 (q 44) (q 45) (q 46) (q 47) (q 48) dh mh uh rh nh, ro_rrrrnn (q 44) 0 (q 49) (q 50) (q 51) (q 52) ch wh, ra_I (q 49) cI 1600 y1, ra_J (q 50) cJ 64 z2_16, ra_J (q 51) cJ 9 z3_17, ra_J (q 52) cJ 10 y4, ra_I (q 47) cI 3 yf, ra_I (q 48) cI 3 yt, ro_rrrrrrrnn (q 11) 1 (q 10) (q 67) (q 68) (q 69) (q 70) (q 71) (q 72) dy mo, ra_I (q 67) cI 90 g1_18, ra_I (q 68) cI 9 g2_19, ra_I (q 69) cI 10 g3_20, ro_rrnnnin (q 7) 7 (q 33) (q 34) dy wn mo mu ke, ra_I (q 33) cI 9 fb, ra_I (q 34) cI 9 fw, ra_J (q 70) cJ 100 g4_30, ra_I (q 14) cI 16 hr_, ra_J (q 71) cJ 100 e5]) eu_33 hP hD rfl (fun hP hD => ?_)
          refine lv_pop2_2 hx hb dX11_tells_34 rfl ?_
          refine lv_aload_n hx hb dX11_tells_35 rfl (lv_at hl 0 rfl) ?_
          refine sk_get (v := .ref (q 11)) (C := RX11) (T := TX11) (N := 18) hx hb hts inlX11 hown hK hP 0 rfl rfl 11 (Nat.le_of_ble_eq_true rfl) w_2_134 rfl dX11_tells_36 ?_
          refine sk_Vv (q0 := 0) (n := 0) (rest := []) (wr := fmR om_26_3c1 _) ⟨hx, hb, hml, hown, hts⟩ hl.1 (c_ucountComings l D cI cJ cC cZ cS q dy mo g1_18 g2_19 g3_20 e5 (kcHd (kcFo L wn Ba We U 0) U (kSd L wn Ba We) hR hn) hdy hmo hq_29.2.1 hq_29.2.2) w_4_81 w_4_82 w_4_83 w_1_13 w_4_84 hd_X1_countComings_0 ⟨⟨(Nat.le_of_ble_eq_true rfl), (Nat.le_of_ble_eq_true rfl)⟩, (Nat.le_of_ble_eq_true rfl), (Nat.le_of_ble_eq_true rfl)⟩ hK hP hD hS hA (fmT om_26_3c1 0) (fmF om_26_3c1 0) (fm_C1 rfl rfl) (fm_R rfl rfl) (fm_nT om_26_3c1 0) (fm_nF om_26_3c1 0) (fm_di om_26_3c1 0) rfl rfl rfl rfl (Nat.le_of_ble_eq_true rfl) dX11_tells_39 (fun u H locs hw hP hD hS => ?_)
          refine exE hw (fun g5_35 hw1 => anE hw1 (fun hcm_36 eu_37 => ?_))
          clear hw hw1
          refine o_mgE (ws' := [ro_rrrrrrrrrrrrrrrnrl x0 11 (q 0) (q 1) (q 2) (q 3) (q 4) (q 5) (q 6) (q 7) (q 8) (q 9) (q 10) (q 11) (q 12) (q 13) (q 14) hn (q 16) dr, ro_rrrrrr (q 10) 9 (q 61) (q 62) (q 63) (q 64) (q 65) (q 66), ra_N (q 61) cI 90 sa2_10, ra_I (q 62) cI 900 ft2_11, ra_I (q 63) cI 90 fa2_12, ra_I (q 64) cI 90 fo2_13, ra_J (q 65) cJ 90 fg2_14, ra_I (q 66) cI 9 fk2_15, ro_rrrrrnniin (q 5) 2 (q 44) (q 45) (q 46) (q 47) (q 48) dh mh uh rh nh, ro_rrrrnn (q 44) 0 (q 49) (q 50) (q 51) (q 52) ch wh, ra_I (q 49) cI 1600 y1, ra_J (q 50) cJ 64 z2_16, ra_J (q 51) cJ 9 z3_17, ra_J (q 52) cJ 10 y4, ra_I (q 47) cI 3 yf, ra_I (q 48) cI 3 yt, ro_rrrrrrrnn (q 11) 1 (q 10) (q 67) (q 68) (q 69) (q 70) (q 71) (q 72) dy mo, ra_I (q 67) cI 90 g1_18, ra_I (q 68) cI 9 g2_19, ra_I (q 69) cI 10 g3_20, ro_rrnnnin (q 7) 7 (q 33) (q 34) dy wn mo mu ke, ra_I (q 33) cI 9 fb, ra_I (q 34) cI 9 fw, ra_J (q 70) cJ 100 g4_30, ra_I (q 14) cI 16 hr_, ra_J (q 71) cJ 100 g5_35]) eu_37 hP hD rfl (fun hP hD => ?_)
          refine lv_iconst (v := 0) hx hb dX11_tells_42 ic_0 ?_
          refine lv_istore_n (lv' := [(2, .int 0), (0, .ref x0), (1, .int (nI k_8))]) hx hb dX11_tells_43 rfl hl (by decide) rfl (fun ls hl => ?_)
          refine lv_aload_n hx hb dX11_tells_44 rfl (lv_at hl 1 rfl) ?_
          refine sk_get (v := .ref (q 11)) (C := RX11) (T := TX11) (N := 18) hx hb hts inlX11 hown hK hP 0 rfl rfl 11 (Nat.le_of_ble_eq_true rfl) w_2_134 rfl dX11_tells_45 ?_
          refine lv_iconst (v := 0) hx hb dX11_tells_48 ic_0 ?_
          refine sk_Vl (q0 := 0) (n := 1) (rest := []) (wr := fmR om_26_205 _) ⟨hx, hb, hml, hown, hts⟩ hl.1 (c_umostLeft l D cI cJ cC cZ cS q dy mo g4_30 g5_35 0 (kcHd (kcFo L wn Ba We U 0) U (kSd L wn Ba We) hR hn) hdy hmo (by omega) hcm_36 hwy_32) w_4_230 w_4_231 w_4_232 w_1_13 w_4_233 hd_X1_mostLeft_1 ⟨⟨(Nat.le_of_ble_eq_true rfl), (Nat.le_of_ble_eq_true rfl)⟩, (Nat.le_of_ble_eq_true rfl), (Nat.le_of_ble_eq_true rfl)⟩ hK hP hD hS hA (fmT om_26_205 0) (fmF om_26_205 0) (fm_C1 rfl rfl) (fm_R rfl rfl) (fm_nT om_26_205 0) (fm_nF om_26_205 0) (fm_di om_26_205 0) rfl rfl rfl rfl (Nat.le_of_ble_eq_true rfl) dX11_tells_49 (fun r_38 u H locs hw hP hD hS => ?_)
          refine anE hw (fun er_40 eu_39 => ?_)
          clear hw
          subst er_40
          refine o_mgE (ws' := [ro_rrrrrrrrrrrrrrrnrl x0 11 (q 0) (q 1) (q 2) (q 3) (q 4) (q 5) (q 6) (q 7) (q 8) (q 9) (q 10) (q 11) (q 12) (q 13) (q 14) hn (q 16) dr, ro_rrrrrr (q 10) 9 (q 61) (q 62) (q 63) (q 64) (q 65) (q 66), ra_N (q 61) cI 90 sa2_10, ra_I (q 62) cI 900 ft2_11, ra_I (q 63) cI 90 fa2_12, ra_I (q 64) cI 90 fo2_13, ra_J (q 65) cJ 90 fg2_14, ra_I (q 66) cI 9 fk2_15, ro_rrrrrnniin (q 5) 2 (q 44) (q 45) (q 46) (q 47) (q 48) dh mh uh rh nh, ro_rrrrnn (q 44) 0 (q 49) (q 50) (q 51) (q 52) ch wh, ra_I (q 49) cI 1600 y1, ra_J (q 50) cJ 64 z2_16, ra_J (q 51) cJ 9 z3_17, ra_J (q 52) cJ 10 y4, ra_I (q 47) cI 3 yf, ra_I (q 48) cI 3 yt, ro_rrrrrrrnn (q 11) 1 (q 10) (q 67) (q 68) (q 69) (q 70) (q 71) (q 72) dy mo, ra_I (q 67) cI 90 g1_18, ra_I (q 68) cI 9 g2_19, ra_I (q 69) cI 10 g3_20, ro_rrnnnin (q 7) 7 (q 33) (q 34) dy wn mo mu ke, ra_I (q 33) cI 9 fb, ra_I (q 34) cI 9 fw, ra_J (q 70) cJ 100 g4_30, ra_I (q 14) cI 16 hr_, ra_J (q 71) cJ 100 g5_35]) eu_39 hP hD rfl (fun hP hD => ?_)
          refine sk_topl (Int64.ofNat ((tlF (kcHd (kcFo L wn Ba We U 0) U (kSd L wn Ba We) hR hn) dy mo) 0)) rfl ?_
          refine lv_lstore_n (lv' := [(3, .long (Int64.ofNat ((tlF (kcHd (kcFo L wn Ba We U 0) U (kSd L wn Ba We) hR hn) dy mo) 0))), (2, .int 0), (0, .ref x0), (1, .int (nI k_8))]) hx hb dX11_tells_52 rfl hl (by decide) rfl (fun ls hl => ?_)
          refine lv_iconst (v := 1) hx hb dX11_tells_53 ic_1 ?_
          refine lv_istore (lv' := [(5, .int 1), (3, .long (Int64.ofNat ((tlF (kcHd (kcFo L wn Ba We U 0) U (kSd L wn Ba We) hR hn) dy mo) 0))), (2, .int 0), (0, .ref x0), (1, .int (nI k_8))]) hx hb dX11_tells_54 hl (by decide) rfl (fun ls hl => ?_)
          have lp_41 : ∀ (n_42 : Nat) (i : Nat) (fe : Int64) (te : Nat) (H : Heap) (locs : List Loc) (ls : Array Slot), 9 - i < n_42 → (i ≤ dy) → (1 ≤ i) → (te = kAmin (tlF (kcHd (kcFo L wn Ba We U 0) U (kSd L wn Ba We) hR hn) dy mo) i) → (fe = Int64.ofNat ((tlF (kcHd (kcFo L wn Ba We U 0) U (kSd L wn Ba We) hR hn) dy mo) te)) → (te < dy) → va_P D vwCl [ro_rrrrrrrrrrrrrrrnrl x0 11 (q 0) (q 1) (q 2) (q 3) (q 4) (q 5) (q 6) (q 7) (q 8) (q 9) (q 10) (q 11) (q 12) (q 13) (q 14) hn (q 16) dr, ro_rrrrrr (q 10) 9 (q 61) (q 62) (q 63) (q 64) (q 65) (q 66), ra_N (q 61) cI 90 sa2_10, ra_I (q 62) cI 900 ft2_11, ra_I (q 63) cI 90 fa2_12, ra_I (q 64) cI 90 fo2_13, ra_J (q 65) cJ 90 fg2_14, ra_I (q 66) cI 9 fk2_15, ro_rrrrrnniin (q 5) 2 (q 44) (q 45) (q 46) (q 47) (q 48) dh mh uh rh nh, ro_rrrrnn (q 44) 0 (q 49) (q 50) (q 51) (q 52) ch wh, ra_I (q 49) cI 1600 y1, ra_J (q 50) cJ 64 z2_16, ra_J (q 51) cJ 9 z3_17, ra_J (q 52) cJ 10 y4, ra_I (q 47) cI 3 yf, ra_I (q 48) cI 3 yt, ro_rrrrrrrnn (q 11) 1 (q 10) (q 67) (q 68) (q 69) (q 70) (q 71) (q 72) dy mo, ra_I (q 67) cI 90 g1_18, ra_I (q 68) cI 9 g2_19, ra_I (q 69) cI 10 g3_20, ro_rrnnnin (q 7) 7 (q 33) (q 34) dy wn mo mu ke, ra_I (q 33) cI 9 fb, ra_I (q 34) cI 9 fw, ra_J (q 70) cJ 100 g4_30, ra_I (q 14) cI 16 hr_, ra_J (q 71) cJ 100 g5_35] H → va_D A [ro_rrrrrrrrrrrrrrrnrl x0 11 (q 0) (q 1) (q 2) (q 3) (q 4) (q 5) (q 6) (q 7) (q 8) (q 9) (q 10) (q 11) (q 12) (q 13) (q 14) hn (q 16) dr, ro_rrrrrr (q 10) 9 (q 61) (q 62) (q 63) (q 64) (q 65) (q 66), ra_N (q 61) cI 90 sa2_10, ra_I (q 62) cI 900 ft2_11, ra_I (q 63) cI 90 fa2_12, ra_I (q 64) cI 90 fo2_13, ra_J (q 65) cJ 90 fg2_14, ra_I (q 66) cI 9 fk2_15, ro_rrrrrnniin (q 5) 2 (q 44) (q 45) (q 46) (q 47) (q 48) dh mh uh rh nh, ro_rrrrnn (q 44) 0 (q 49) (q 50) (q 51) (q 52) ch wh, ra_I (q 49) cI 1600 y1, ra_J (q 50) cJ 64 z2_16, ra_J (q 51) cJ 9 z3_17, ra_J (q 52) cJ 10 y4, ra_I (q 47) cI 3 yf, ra_I (q 48) cI 3 yt, ro_rrrrrrrnn (q 11) 1 (q 10) (q 67) (q 68) (q 69) (q 70) (q 71) (q 72) dy mo, ra_I (q 67) cI 90 g1_18, ra_I (q 68) cI 9 g2_19, ra_I (q 69) cI 10 g3_20, ro_rrnnnin (q 7) 7 (q 33) (q 34) dy wn mo mu ke, ra_I (q 33) cI 9 fb, ra_I (q 34) cI 9 fw, ra_J (q 70) cJ 100 g4_30, ra_I (q 14) cI 16 hr_, ra_J (q 71) cJ 100 g5_35] → va_S A s.heap H locs → lv_has ls 8 [(5, .int (nI i)), (3, .long fe), (2, .int (nI te)), (0, .ref x0), (1, .int (nI k_8))] → W p l e { frames := 6, cells := 0, slots := 0, locals := 150 } s m ([.ref x0, .int (nI k_8)] : List Value).toArray below meth c H locs 0 0 (MQ below (skL D (skT cI cJ cC cZ cS) (fun (r : Int64) (u : va_W) => ∃ (sa2 : Nat → Nat), ∃ (ft2 : Nat → Int32), ∃ (fa2 : Nat → Int32), ∃ (fo2 : Nat → Int32), ∃ (fg2 : Nat → Int64), ∃ (fk2 : Nat → Int32), ∃ (z2 : Nat → Int64), ∃ (z3 : Nat → Int64), ∃ (g1 : Nat → Int32), ∃ (g2 : Nat → Int32), ∃ (g3 : Nat → Int32), ∃ (gd2 : Nat), ∃ (gs2 : Nat), ∃ (g4 : Nat → Int64), ∃ (g5 : Nat → Int64), (∀ j, sa2 j ≤ 9) ∧ (1 ≤ dy → kcTI L sa2 ft2 fa2 fo2 fg2 fk2) ∧ gd2 ≤ 9 ∧ gs2 ≤ 9 ∧ tellsR (kcHd (kcFo L wn Ba We U 0) U (kSd L wn Ba We) hR hn) dy mo (nI k_8) r ∧ u = [ro_rrrrrrrrrrrrrrrirl x0 11 (q 0) (q 1) (q 2) (q 3) (q 4) (q 5) (q 6) (q 7) (q 8) (q 9) (q 10) (q 11) (q 12) (q 13) (q 14) (nI hn) (q 16) dr, ro_rrrrrr (q 10) 9 (q 61) (q 62) (q 63) (q 64) (q 65) (q 66), ra_N (q 61) cI 90 sa2, ra_I (q 62) cI 900 ft2, ra_I (q 63) cI 90 fa2, ra_I (q 64) cI 90 fo2, ra_J (q 65) cJ 90 fg2, ra_I (q 66) cI 9 fk2, ro_rrrrrnniin (q 5) 2 (q 44) (q 45) (q 46) (q 47) (q 48) dh mh uh rh nh, ro_rrrrnn (q 44) 0 (q 49) (q 50) (q 51) (q 52) ch wh, ra_I (q 49) cI 1600 y1, ra_J (q 50) cJ 64 z2, ra_J (q 51) cJ 9 z3, ra_J (q 52) cJ 10 y4, ra_I (q 47) cI 3 yf, ra_I (q 48) cI 3 yt, ro_rrrrrrrnn (q 11) 1 (q 10) (q 67) (q 68) (q 69) (q 70) (q 71) (q 72) gd2 gs2, ra_I (q 67) cI 90 g1, ra_I (q 68) cI 9 g2, ra_I (q 69) cI 10 g3, ro_rrnnnin (q 7) 7 (q 33) (q 34) dy wn mo mu ke, ra_I (q 33) cI 9 fb, ra_I (q 34) cI 9 fw, ra_J (q 70) cJ 100 g4, ra_I (q 14) cI 16 hr_, ra_J (q 71) cJ 100 g5]) A) ([.ref x0, .int (nI k_8)] : List Value).toArray s 0 0 A) (F0 m 56 ls []) := by
            intro n_42
            induction n_42 with
            | zero => intro i fe te H locs ls hm; exact absurd hm (Nat.not_lt_zero _)
            | succ n_42 ih_lp_41 =>
              intro i fe te H locs ls hm hi hi1 hte hfe htd hP hD hS hl
              refine lv_iload hx hb dX11_tells_56 (lv_at hl 0 rfl) ?_
              refine lv_aload_n hx hb dX11_tells_58 rfl (lv_at hl 3 rfl) ?_
              refine sk_get (v := .ref (q 7)) (C := RX11) (T := TX11) (N := 18) hx hb hts inlX11 hown hK hP 0 rfl rfl 7 (Nat.le_of_ble_eq_true rfl) w_2_130 rfl dX11_tells_59 ?_
              refine sk_get (v := .int (nI dy)) (C := RX7) (T := TX7) (N := 7) hx hb hts inlX7 hown hK hP 20 rfl rfl 2 (Nat.le_of_ble_eq_true rfl) w_2_1 rfl dX11_tells_62 ?_
              refine lv_icmp_ge (tgt := 98) hx hb dX11_tells_65 (by decide) (fun c_43 => ?_) (fun c_43 => ?_)
              · have c_43 : dy ≤ i := (nle dy i (by omega) (by omega)).mp c_43
                refine lv_iload_n hx hb dX11_tells_98 rfl (lv_at hl 4 rfl) ?_
                refine lv_if_ne (tgt := 107) hx hb dX11_tells_99 (by decide) (fun c_44 => ?_) (fun c_44 => ?_)
                · have c_44 : ¬ (k_8 = 0) := fun h => c_44 ((neq k_8 0 (by omega) (Nat.le_of_ble_eq_true rfl)).mpr h)
                  subst hfe
                  refine lv_lload_n hx hb dX11_tells_107 rfl (lv_at hl 1 rfl) ?_
                  exact sk_lret hx hb hr hlocks hK hP hD hS (⟨sa2_10, ft2_11, fa2_12, fo2_13, fg2_14, fk2_15, z2_16, z3_17, g1_18, g2_19, g3_20, dy, mo, g4_30, g5_35, hsa2_23, (fun _ => hti2_24), hdy, hmo, tel_4 (by omega) hq_29.1 (by omega) (by omega) (hte.trans (by rw [show i = dy by omega])) rfl, rfl⟩) (Nat.le_of_ble_eq_true rfl) (Nat.le_of_ble_eq_true rfl) dX11_tells_108
                · have c_44 : k_8 = 0 := (neq k_8 0 (by omega) (Nat.le_of_ble_eq_true rfl)).mp c_44
                  refine lv_iload_n hx hb dX11_tells_102 rfl (lv_at hl 2 rfl) ?_
                  refine lv_i2l hx hb dX11_tells_103 rfl ?_
                  refine sk_topl (Int64.ofNat te) (kx_i2l (by omega)) ?_
                  refine lv_goto (tgt := 108) hx hb dX11_tells_104 (by decide) ?_
                  exact sk_lret hx hb hr hlocks hK hP hD hS (⟨sa2_10, ft2_11, fa2_12, fo2_13, fg2_14, fk2_15, z2_16, z3_17, g1_18, g2_19, g3_20, dy, mo, g4_30, g5_35, hsa2_23, (fun _ => hti2_24), hdy, hmo, tel_3 (by omega) hq_29.1 (congrArg nI (show k_8 = 0 by omega)) (hte.trans (by rw [show i = dy by omega])), rfl⟩) (Nat.le_of_ble_eq_true rfl) (Nat.le_of_ble_eq_true rfl) dX11_tells_108
              · have c_43 : ¬ (dy ≤ i) := fun h => c_43 ((nle dy i (by omega) (by omega)).mpr h)
                refine lv_aload_n hx hb dX11_tells_68 rfl (lv_at hl 3 rfl) ?_
                refine sk_get (v := .ref (q 11)) (C := RX11) (T := TX11) (N := 18) hx hb hts inlX11 hown hK hP 0 rfl rfl 11 (Nat.le_of_ble_eq_true rfl) w_2_134 rfl dX11_tells_69 ?_
                refine lv_iload hx hb dX11_tells_72 (lv_at hl 0 rfl) ?_
                refine sk_Vl (q0 := 0) (n := 1) (rest := []) (wr := fmR om_26_205 _) ⟨hx, hb, hml, hown, hts⟩ hl.1 (c_umostLeft l D cI cJ cC cZ cS q dy mo g4_30 g5_35 i (kcHd (kcFo L wn Ba We U 0) U (kSd L wn Ba We) hR hn) hdy hmo (by omega) hcm_36 hwy_32) w_4_230 w_4_231 w_4_232 w_1_13 w_4_233 hd_X1_mostLeft_1 ⟨⟨(Nat.le_of_ble_eq_true rfl), (Nat.le_of_ble_eq_true rfl)⟩, (Nat.le_of_ble_eq_true rfl), (Nat.le_of_ble_eq_true rfl)⟩ hK hP hD hS hA (fmT om_26_205 0) (fmF om_26_205 0) (fm_C1 rfl rfl) (fm_R rfl rfl) (fm_nT om_26_205 0) (fm_nF om_26_205 0) (fm_di om_26_205 0) rfl rfl rfl rfl (Nat.le_of_ble_eq_true rfl) dX11_tells_74 (fun r_45 u H locs hw hP hD hS => ?_)
                refine anE hw (fun er_47 eu_46 => ?_)
                clear hw
                subst er_47
                refine o_mgE (ws' := [ro_rrrrrrrrrrrrrrrnrl x0 11 (q 0) (q 1) (q 2) (q 3) (q 4) (q 5) (q 6) (q 7) (q 8) (q 9) (q 10) (q 11) (q 12) (q 13) (q 14) hn (q 16) dr, ro_rrrrrr (q 10) 9 (q 61) (q 62) (q 63) (q 64) (q 65) (q 66), ra_N (q 61) cI 90 sa2_10, ra_I (q 62) cI 900 ft2_11, ra_I (q 63) cI 90 fa2_12, ra_I (q 64) cI 90 fo2_13, ra_J (q 65) cJ 90 fg2_14, ra_I (q 66) cI 9 fk2_15, ro_rrrrrnniin (q 5) 2 (q 44) (q 45) (q 46) (q 47) (q 48) dh mh uh rh nh, ro_rrrrnn (q 44) 0 (q 49) (q 50) (q 51) (q 52) ch wh, ra_I (q 49) cI 1600 y1, ra_J (q 50) cJ 64 z2_16, ra_J (q 51) cJ 9 z3_17, ra_J (q 52) cJ 10 y4, ra_I (q 47) cI 3 yf, ra_I (q 48) cI 3 yt, ro_rrrrrrrnn (q 11) 1 (q 10) (q 67) (q 68) (q 69) (q 70) (q 71) (q 72) dy mo, ra_I (q 67) cI 90 g1_18, ra_I (q 68) cI 9 g2_19, ra_I (q 69) cI 10 g3_20, ro_rrnnnin (q 7) 7 (q 33) (q 34) dy wn mo mu ke, ra_I (q 33) cI 9 fb, ra_I (q 34) cI 9 fw, ra_J (q 70) cJ 100 g4_30, ra_I (q 14) cI 16 hr_, ra_J (q 71) cJ 100 g5_35]) eu_46 hP hD rfl (fun hP hD => ?_)
                refine sk_topl (Int64.ofNat ((tlF (kcHd (kcFo L wn Ba We U 0) U (kSd L wn Ba We) hR hn) dy mo) i)) rfl ?_
                have hb1_ := tlF_b (kcHd (kcFo L wn Ba We U 0) U (kSd L wn Ba We) hR hn) (mo := mo) hdy (show i < dy by omega)
                have hb2_ := tlF_b (kcHd (kcFo L wn Ba We U 0) U (kSd L wn Ba We) hR hn) (mo := mo) hdy (show te < dy by omega)
                subst hfe
                refine lv_lstore (lv' := [(6, .long (Int64.ofNat ((tlF (kcHd (kcFo L wn Ba We U 0) U (kSd L wn Ba We) hR hn) dy mo) i))), (5, .int (nI i)), (3, .long (Int64.ofNat ((tlF (kcHd (kcFo L wn Ba We U 0) U (kSd L wn Ba We) hR hn) dy mo) te))), (2, .int (nI te)), (0, .ref x0), (1, .int (nI k_8))]) hx hb dX11_tells_77 hl (by decide) rfl (fun ls hl => ?_)
                refine lv_lload hx hb dX11_tells_79 (lv_at hl 0 rfl) ?_
                refine lv_lload_n hx hb dX11_tells_81 rfl (lv_at hl 2 rfl) ?_
                refine W.lcmp hx hb dX11_tells_82 ?_
                refine lv_if_ge (tgt := 92) hx hb dX11_tells_83 (by decide) (fun c_48 => ?_) (fun c_48 => ?_)
                · skip
                  refine lv_iinc (v := nI (i + 1)) (lv' := [(5, .int (nI (i + 1))), (6, .long (Int64.ofNat ((tlF (kcHd (kcFo L wn Ba We U 0) U (kSd L wn Ba We) hR hn) dy mo) i))), (3, .long (Int64.ofNat ((tlF (kcHd (kcFo L wn Ba We U 0) U (kSd L wn Ba We) hR hn) dy mo) te))), (2, .int (nI te)), (0, .ref x0), (1, .int (nI k_8))]) hx hb dX11_tells_92 hl (k := 1) rfl (ninc i 1 (by decide)) (by decide) rfl (fun ls hl => ?_)
                  refine lv_goto (tgt := 56) hx hb dX11_tells_95 (by decide) ?_
                  exact ih_lp_41 (i + 1) (Int64.ofNat ((tlF (kcHd (kcFo L wn Ba We U 0) U (kSd L wn Ba We) hR hn) dy mo) te)) te _ _ _ (by omega) (by omega) (by omega) (kAmin_n hte (fun q => absurd ((klo_lt (by omega) (by omega)).mpr q) (Int32.not_lt.mpr c_48))) rfl (by omega) hP hD hS (lv_sub hl [0, 2, 3, 4, 5] rfl)
                · skip
                  refine lv_lload hx hb dX11_tells_86 (lv_at hl 0 rfl) ?_
                  refine lv_lstore_n (lv' := [(3, .long (Int64.ofNat ((tlF (kcHd (kcFo L wn Ba We U 0) U (kSd L wn Ba We) hR hn) dy mo) i))), (6, .long (Int64.ofNat ((tlF (kcHd (kcFo L wn Ba We U 0) U (kSd L wn Ba We) hR hn) dy mo) i))), (5, .int (nI i)), (2, .int (nI te)), (0, .ref x0), (1, .int (nI k_8))]) hx hb dX11_tells_88 rfl hl (by decide) rfl (fun ls hl => ?_)
                  refine lv_iload hx hb dX11_tells_89 (lv_at hl 2 rfl) ?_
                  refine lv_istore_n (lv' := [(2, .int (nI i)), (3, .long (Int64.ofNat ((tlF (kcHd (kcFo L wn Ba We U 0) U (kSd L wn Ba We) hR hn) dy mo) i))), (6, .long (Int64.ofNat ((tlF (kcHd (kcFo L wn Ba We U 0) U (kSd L wn Ba We) hR hn) dy mo) i))), (5, .int (nI i)), (0, .ref x0), (1, .int (nI k_8))]) hx hb dX11_tells_91 rfl hl (by decide) rfl (fun ls hl => ?_)
                  refine lv_iinc (v := nI (i + 1)) (lv' := [(5, .int (nI (i + 1))), (2, .int (nI i)), (3, .long (Int64.ofNat ((tlF (kcHd (kcFo L wn Ba We U 0) U (kSd L wn Ba We) hR hn) dy mo) i))), (6, .long (Int64.ofNat ((tlF (kcHd (kcFo L wn Ba We U 0) U (kSd L wn Ba We) hR hn) dy mo) i))), (0, .ref x0), (1, .int (nI k_8))]) hx hb dX11_tells_92 hl (k := 3) rfl (ninc i 1 (by decide)) (by decide) rfl (fun ls hl => ?_)
                  refine lv_goto (tgt := 56) hx hb dX11_tells_95 (by decide) ?_
                  exact ih_lp_41 (i + 1) (Int64.ofNat ((tlF (kcHd (kcFo L wn Ba We U 0) U (kSd L wn Ba We) hR hn) dy mo) i)) i _ _ _ (by omega) (by omega) (by omega) (kAmin_y hte ((klo_lt (by omega) (by omega)).mp (Int32.not_le.mp c_48))) rfl (by omega) hP hD hS (lv_sub hl [0, 2, 1, 4, 5] rfl)
          exact lp_41 (9 - 1 + 1) 1 (Int64.ofNat ((tlF (kcHd (kcFo L wn Ba We U 0) U (kSd L wn Ba We) hR hn) dy mo) 0)) 0 _ _ _ (Nat.lt_succ_self _) (by omega) (by omega) kAmin_1 rfl (by omega) hP hD hS (lv_sub hl [0, 1, 2, 3, 4] rfl)
        · have c_28 : b_21 = 0 := (neq b_21 0 (by omega) (Nat.le_of_ble_eq_true rfl)).mp c_28
          refine lv_ldc2 (v := (-1000000000000000)) hx hb hown (hts _ w_4_29) dX11_tells_23 ?_
          exact sk_lret hx hb hr hlocks hK hP hD hS (⟨sa2_10, ft2_11, fa2_12, fo2_13, fg2_14, fk2_15, z2_16, z3_17, g1_18, g2_19, g3_20, dy, mo, e4, e5, hsa2_23, (fun _ => hti2_24), hdy, hmo, tel_2 (rr_0 hlb_25 c_28), rfl⟩) (Nat.le_of_ble_eq_true rfl) (Nat.le_of_ble_eq_true rfl) dX11_tells_26
/-! what a sum gives is not large -/
def kBd (x : Int64) : Prop := -1000000 ≤ x.toInt ∧ x.toInt ≤ 1000000
theorem kbm {n : Int} (h1 : -9223372036854775808 ≤ n) (h2 : n < 9223372036854775808) : n.bmod (2 ^ 64) = n := Int.bmod_eq_of_le (by omega) (by omega)
theorem kBd_clip (v : Int64) : kBd (kcClip v) := by
  have e1 : (1000000 : Int64).toInt = 1000000 := by decide
  have e2 : (-1000000 : Int64).toInt = -1000000 := by decide
  unfold kcClip kBd
  by_cases c : 1000000 < v
  · rw [if_pos c, e1]; omega
  · rw [if_neg c]
    by_cases c2 : v < -1000000
    · rw [if_pos c2, e2]; omega
    · rw [if_neg c2]
      rw [Int64.lt_iff_toInt_lt, e1] at c
      rw [Int64.lt_iff_toInt_lt, e2] at c2
      omega
theorem kBd_fl {a b : Int64} (ha : kBd a) (hb : kBd b) : kBd (kcFl a b) := by
  have z0 : (0 : Int64).toInt = 0 := by decide
  unfold kcFl
  by_cases c : b = 0
  · rw [if_pos c]; unfold kBd; rw [z0]; omega
  · rw [if_neg c]
    obtain ⟨ha1, ha2⟩ := ha
    obtain ⟨hb1, hb2⟩ := hb
    have hq : (a / b).toInt = a.toInt.tdiv b.toInt := Int64.toInt_div_of_ne_left a b (fun q => by
      rw [q] at ha1
      have e : (Int64.minValue).toInt = -9223372036854775808 := by decide
      omega)
    have hn := Int.natAbs_tdiv a.toInt b.toInt
    have hb0 : ¬ b.toInt = 0 := fun q => c (Int64.toInt_inj.mp (q.trans z0.symm))
    have hbn : 0 < b.toInt.natAbs := by omega
    have hdm := Nat.div_add_mod a.toInt.natAbs b.toInt.natAbs
    have hnn : (a.toInt.tdiv b.toInt).natAbs = a.toInt.natAbs / b.toInt.natAbs := hn
    have hle : a.toInt.natAbs / b.toInt.natAbs ≤ a.toInt.natAbs := Nat.div_le_self _ _
    have h1 : (1 : Int64).toInt = 1 := by decide
    by_cases c2 : (¬ a - a / b * b = 0) ∧ ¬ (a < 0 ↔ b < 0)
    · rw [if_pos c2]
      have hm0 : ¬ a.toInt.natAbs % b.toInt.natAbs = 0 := fun z => c2.1 (by
        have ht := Int.natAbs_tmod a.toInt b.toInt
        rw [z] at ht
        have ht0 : a.toInt.tmod b.toInt = 0 := Int.natAbs_eq_zero.mp ht
        have hmul := Int.mul_tdiv_add_tmod a.toInt b.toInt
        rw [ht0, Int.add_zero] at hmul
        have hx : (a / b * b).toInt = a.toInt := by
          rw [Int64.toInt_mul, hq, Int.mul_comm, hmul, kbm (by omega) (by omega)]
        have hy : a / b * b = a := Int64.toInt_inj.mp hx
        rw [hy]
        exact Int64.sub_self a)
      have hlt : a.toInt.natAbs / b.toInt.natAbs + 1 ≤ a.toInt.natAbs := by
        have h3 : a.toInt.natAbs / b.toInt.natAbs ≤ b.toInt.natAbs * (a.toInt.natAbs / b.toInt.natAbs) := Nat.le_mul_of_pos_left _ hbn
        omega
      have hs : (a / b - 1).toInt = a.toInt.tdiv b.toInt - 1 := by
        rw [Int64.toInt_sub, hq, h1, kbm (by omega) (by omega)]
      unfold kBd
      rw [hs]
      omega
    · rw [if_neg c2]
      unfold kBd
      rw [hq]
      omega
theorem kBd_op {c : Nat} {a b : Int64} (ha : kBd a) (hb : kBd b) : kBd (kcOp c a b) := by
  unfold kcOp
  split
  · exact kBd_clip _
  · split
    · exact kBd_clip _
    · split
      · exact kBd_clip _
      · split
        · exact kBd_fl ha hb
        · split
          · split
            · exact hb
            · exact ha
          · split
            · exact hb
            · exact ha
theorem kBd_nat {k : Nat} (h : k ≤ 1000000) : kBd (Int64.ofNat k) := by
  unfold kBd
  rw [kofn_int (by omega)]
  omega
theorem kBd_ex {nm : Nat → Int64} {B kind : Nat} (hn : ∀ j, j < 10 → kBd (nm j)) : ∀ (k : List Nat) (S R : List Int64), kcNs kind k → (∀ x, x ∈ S → kBd x) → kcEx nm B k S = some R → ∀ x, x ∈ R → kBd x
  | [], S, R, _, hS, h => by
    have e : some S = some R := h
    cases e
    exact hS
  | c :: k, S, R, hk, hS, h => by
    obtain ⟨T, h1, _, h3⟩ := kcEx_c h
    refine kBd_ex hn k T R (fun x hx => hk x (List.mem_cons_of_mem _ hx)) ?_ h3
    rcases hk c List.mem_cons_self with ⟨q, q2⟩ | ⟨q, q2⟩ | ⟨q, q2, _⟩
    · obtain ⟨b, a, r, e1, e2⟩ := kcSt_two (by omega) h1
      subst e1 e2
      intro x hx
      rcases List.mem_cons.mp hx with e | e
      · subst e
        exact kBd_op (hS a (List.mem_cons_of_mem _ List.mem_cons_self)) (hS b List.mem_cons_self)
      · exact hS x (List.mem_cons_of_mem _ (List.mem_cons_of_mem _ e))
    · rw [kcSt_num (by omega)] at h1
      cases h1
      intro x hx
      rcases List.mem_cons.mp hx with e | e
      · subst e; exact kBd_nat (by omega)
      · exact hS x e
    · rw [kcSt_nm q (by omega)] at h1
      cases h1
      intro x hx
      rcases List.mem_cons.mp hx with e | e
      · subst e; exact hn _ (by omega)
      · exact hS x e
theorem kBd_V {L : LkS} (h : kcLk L) {w : Nat} (hw : w < 3) {nm : Nat → Int64} (hn : ∀ j, j < 10 → kBd (nm j)) : kBd (kcV L w nm) :=
  kBd_ex hn (kcSeg L w) [] [kcV L w nm] (kcSeg_G h hw).2 (fun x hx => absurd hx List.not_mem_nil) (kcV_ex h hw nm) _ List.mem_cons_self
theorem kBd_wage {L : LkS} (h : kcLk L) {wk b w d m : Nat} (h1 : wk ≤ 999) (h2 : b ≤ 9) (h3 : w ≤ 9) (h4 : d ≤ 9) (h5 : m ≤ 9) : kBd (kcWage L wk b w d m) := kBd_V h (by decide) (fun j hj => by
  unfold kcNm
  refine kBd_nat ?_
  split
  · omega
  · split
    · omega
    · split
      · omega
      · split
        · omega
        · split
          · omega
          · split <;> omega)
/-! the best pay -/
def kPm (P : Nat → Bool) (f : Nat → Int) : Nat → Int
  | 0 => -1000000000000000
  | n + 1 => if P n = true ∧ kPm P f n < f n then f n else kPm P f n
theorem kpm_s (P : Nat → Bool) (f : Nat → Int) (n : Nat) : kPm P f (n + 1) = if P n = true ∧ kPm P f n < f n then f n else kPm P f n := rfl
theorem kpm_le {P : Nat → Bool} {f : Nat → Int} : ∀ n m, m < n → P m = true → f m ≤ kPm P f n
  | 0, m, h, _ => absurd h (Nat.not_lt_zero m)
  | n + 1, m, h, hp => by
    rw [kpm_s]
    by_cases e : m = n
    · subst e
      by_cases c : kPm P f m < f m
      · rw [if_pos ⟨hp, c⟩]; exact Int.le_refl _
      · rw [if_neg (fun q => c q.2)]; omega
    · have ih := kpm_le (f := f) n m (by omega) hp
      by_cases c : P n = true ∧ kPm P f n < f n
      · rw [if_pos c]; omega
      · rw [if_neg c]; exact ih
theorem kpm_ex {P : Nat → Bool} {f : Nat → Int} : ∀ n, kPm P f n = -1000000000000000 ∨ ∃ m, m < n ∧ P m = true ∧ kPm P f n = f m
  | 0 => Or.inl rfl
  | n + 1 => by
    rw [kpm_s]
    by_cases c : P n = true ∧ kPm P f n < f n
    · rw [if_pos c]; exact Or.inr ⟨n, by omega, c.1, rfl⟩
    · rw [if_neg c]
      rcases kpm_ex (P := P) (f := f) n with h | ⟨m, h1, h2, h3⟩
      · exact Or.inl h
      · exact Or.inr ⟨m, by omega, h2, h3⟩
theorem kpm_z {P : Nat → Bool} {f : Nat → Int} : ∀ n, (∀ m, m < n → ¬ P m = true) → kPm P f n = -1000000000000000
  | 0, _ => rfl
  | n + 1, h => by
    rw [kpm_s, if_neg (fun q => h n (by omega) q.1)]
    exact kpm_z n (fun m hm => h m (by omega))
/-- what goes on from a mood of a day to one at its end -/
def kGo (E : Nat → Nat → Nat → Bool) (gd d a m : Nat) : Bool := decide (0 < kcW E gd d a m)
theorem kgo_t {E : Nat → Nat → Nat → Bool} {gd d a m : Nat} : kGo E gd d a m = true ↔ 0 < kcW E gd d a m := decide_eq_true_iff
def kPy (E : Nat → Nat → Nat → Bool) (W : Nat → Nat → Int) (gd : Nat) : Nat → Nat → Int
  | 0, _ => 0
  | k + 1, a => kPm (kGo E gd (gd - (k + 1)) a) (fun m => W (gd - (k + 1)) m + kPy E W gd k m) 10
/-- from a day on -/
def kPd (E : Nat → Nat → Nat → Bool) (W : Nat → Nat → Int) (gd d a : Nat) : Int := kPy E W gd (gd - d) a
def kPg (E : Nat → Nat → Nat → Bool) (W : Nat → Nat → Int) (gd d m : Nat) : Int := W d m + kPd E W gd (d + 1) m
theorem kpd_e (E : Nat → Nat → Nat → Bool) (W : Nat → Nat → Int) (gd m : Nat) : kPd E W gd gd m = 0 := by
  unfold kPd
  rw [Nat.sub_self]
  rfl
theorem kpd_s {E : Nat → Nat → Nat → Bool} {W : Nat → Nat → Int} {gd d a : Nat} (h : d < gd) : kPd E W gd d a = kPm (kGo E gd d a) (kPg E W gd d) 10 := by
  unfold kPd
  rw [show gd - d = (gd - (d + 1)) + 1 by omega]
  show kPm (kGo E gd (gd - ((gd - (d + 1)) + 1)) a) (fun m => W (gd - ((gd - (d + 1)) + 1)) m + kPy E W gd (gd - (d + 1)) m) 10 = _
  rw [show gd - ((gd - (d + 1)) + 1) = d by omega]
  rfl
def kWb (W : Nat → Nat → Int) (gd : Nat) : Prop := ∀ d m, d < gd → m < 10 → -1000000 ≤ W d m ∧ W d m ≤ 1000000
theorem kgo_ex {E : Nat → Nat → Nat → Bool} {gd d a : Nat} (hd : d < gd) (h : 0 < kcC E (gd - d) d a) : ∃ m, m < 10 ∧ kGo E gd d a m = true := by
  rw [← kcW_S hd] at h
  refine Classical.byContradiction (fun q => ?_)
  have h2 : kcS (kcW E gd d a) 10 = 0 := kcS_z 10 (fun m hm => Nat.eq_zero_of_not_pos (fun c => q ⟨m, hm, kgo_t.mpr c⟩))
  omega
theorem kgo_C {E : Nat → Nat → Nat → Bool} {gd d a m : Nat} (h : kGo E gd d a m = true) : 0 < kcC E (gd - (d + 1)) (d + 1) m := (kW_pos.mp (kgo_t.mp h)).2
/-- bounds: with k days to come -/
theorem kpd_b {E : Nat → Nat → Nat → Bool} {W : Nat → Nat → Int} {gd : Nat} (hW : kWb W gd) : ∀ k a, k ≤ gd → 0 < kcC E k (gd - k) a → -1000000 * (k : Int) ≤ kPd E W gd (gd - k) a ∧ kPd E W gd (gd - k) a ≤ 1000000 * (k : Int)
  | 0, a, _, _ => by
    rw [Nat.sub_zero, kpd_e]
    omega
  | k + 1, a, hk, h => by
    have hd : gd - (k + 1) < gd := by omega
    have hk1 : gd - (gd - (k + 1)) = k + 1 := by omega
    rw [kpd_s hd]
    have key : ∀ m, m < 10 → kGo E gd (gd - (k + 1)) a m = true → -1000000 * ((k : Int) + 1) ≤ kPg E W gd (gd - (k + 1)) m ∧ kPg E W gd (gd - (k + 1)) m ≤ 1000000 * ((k : Int) + 1) := fun m hm hg => by
      have h1 := kgo_C hg
      rw [show gd - (gd - (k + 1) + 1) = k by omega, show gd - (k + 1) + 1 = gd - k by omega] at h1
      have h2 := kpd_b hW k m (by omega) h1
      have h3 := hW (gd - (k + 1)) m hd hm
      unfold kPg
      rw [show gd - (k + 1) + 1 = gd - k by omega]
      omega
    obtain ⟨m0, hm0, hg0⟩ := kgo_ex hd (by rw [hk1]; exact h)
    have h4 := kpm_le (f := kPg E W gd (gd - (k + 1))) 10 m0 hm0 hg0
    have h5 := key m0 hm0 hg0
    rcases kpm_ex (P := kGo E gd (gd - (k + 1)) a) (f := kPg E W gd (gd - (k + 1))) 10 with e | ⟨m, e1, e2, e3⟩
    · omega
    · have h6 := key m e1 e2
      rw [e3]
      omega
theorem kpd_b9 {E : Nat → Nat → Nat → Bool} {W : Nat → Nat → Int} {gd d a : Nat} (hW : kWb W gd) (h9 : gd ≤ 9) (hd : d ≤ gd) (h : 0 < kcC E (gd - d) d a) : -9000000 ≤ kPd E W gd d a ∧ kPd E W gd d a ≤ 9000000 := by
  have h1 := kpd_b hW (gd - d) a (by omega) (by rw [show gd - (gd - d) = d by omega]; exact h)
  rw [show gd - (gd - d) = d by omega] at h1
  have h2 : ((gd - d : Nat) : Int) ≤ 9 := by omega
  omega
theorem kpg_b {E : Nat → Nat → Nat → Bool} {W : Nat → Nat → Int} {gd d a m : Nat} (hW : kWb W gd) (h9 : gd ≤ 9) (hd : d < gd) (hm : m < 10) (h : kGo E gd d a m = true) : -10000000 ≤ kPg E W gd d m ∧ kPg E W gd d m ≤ 10000000 := by
  have h1 := kpd_b9 (a := m) hW h9 (show d + 1 ≤ gd by omega) (kgo_C h)
  have h2 := hW d m hd hm
  unfold kPg
  omega
theorem kpm_b {E : Nat → Nat → Nat → Bool} {W : Nat → Nat → Int} {gd d a n : Nat} (hW : kWb W gd) (h9 : gd ≤ 9) (hd : d < gd) (hn : n ≤ 10) : -1000000000000000 ≤ kPm (kGo E gd d a) (kPg E W gd d) n ∧ kPm (kGo E gd d a) (kPg E W gd d) n ≤ 10000000 := by
  rcases kpm_ex (P := kGo E gd d a) (f := kPg E W gd d) n with e | ⟨m, e1, e2, e3⟩
  · rw [e]; omega
  · have := kpg_b hW h9 hd (show m < 10 by omega) e2
    rw [e3]; omega
/-- the table of gains -/
def kcGn (E : Nat → Nat → Nat → Bool) (W : Nat → Nat → Int) (gd i : Nat) (f : Nat → Int64) : Prop := ∀ d, i ≤ d → d ≤ gd → ∀ m, m < 10 → (f (d * 10 + m)).toInt = kPd E W gd d m
def kcGj (E : Nat → Nat → Nat → Bool) (W : Nat → Nat → Int) (gd d j : Nat) (f : Nat → Int64) : Prop := kcGn E W gd (d + 1) f ∧ ∀ p, p < j → (f (d * 10 + p)).toInt = kPd E W gd d p
theorem kgn_top {E : Nat → Nat → Nat → Bool} {W : Nat → Nat → Int} {gd : Nat} {f : Nat → Int64} (h : ∀ m, m < 10 → f (gd * 10 + m) = 0) : kcGn E W gd gd f := fun d h1 h2 m hm => by
  have e : d = gd := by omega
  subst e
  rw [h m hm, kpd_e]
  decide
theorem kzer_s {gd i : Nat} {f g : Nat → Int64} (h : ∀ m, m < i → f (gd * 10 + m) = 0) (e : g = vp_updL f (gd * 10 + i) 0) : ∀ m, m < i + 1 → g (gd * 10 + m) = 0 := fun m hm => by
  by_cases q : m = i
  · subst q; exact kup_s e
  · rw [kup_n e (by omega)]; exact h m (by omega)
theorem kgj_0 {E : Nat → Nat → Nat → Bool} {W : Nat → Nat → Int} {gd d e : Nat} {f : Nat → Int64} (h : kcGn E W gd e f) (he : e = d + 1) : kcGj E W gd d 0 f := ⟨he ▸ h, fun p hp => absurd hp (Nat.not_lt_zero p)⟩
theorem kgj_s {E : Nat → Nat → Nat → Bool} {W : Nat → Nat → Int} {gd d j : Nat} {f g : Nat → Int64} {x : Int64} (h : kcGj E W gd d j f) (e : g = vp_updL f (d * 10 + j) x) (hj : j < 10) (hd : d < gd) (hx : x.toInt = kPm (kGo E gd d j) (kPg E W gd d) 10) : kcGj E W gd d (j + 1) g := by
  refine ⟨fun d2 h1 h2 m hm => ?_, fun p hp => ?_⟩
  · rw [kup_n e (by omega)]; exact h.1 d2 h1 h2 m hm
  · by_cases q : p = j
    · subst q; rw [kup_s e, hx, kpd_s hd]
    · rw [kup_n e (by omega)]; exact h.2 p (by omega)
theorem kgj_10 {E : Nat → Nat → Nat → Bool} {W : Nat → Nat → Int} {gd d : Nat} {f : Nat → Int64} (h : kcGj E W gd d 10 f) : kcGn E W gd d f := fun d2 h1 h2 m hm => by
  by_cases q : d2 = d
  · subst q; exact h.2 m hm
  · exact h.1 d2 (by omega) h2 m hm
theorem kga_x {E : Nat → Nat → Nat → Bool} {W : Nat → Nat → Int} {gd d a m : Nat} {fw fg : Nat → Int64} (hW : kWb W gd) (hw : ∀ d m, d < gd → m < 10 → (fw (d * 10 + m)).toInt = W d m) (hg : kcGn E W gd (d + 1) fg) (h9 : gd ≤ 9) (hd : d < gd) (hm : m < 10) (h : kGo E gd d a m = true) : (fw (d * 10 + m) + fg ((d + 1) * 10 + m)).toInt = kPg E W gd d m := by
  have h1 := hw d m hd hm
  have h2 := hg (d + 1) (Nat.le_refl _) (by omega) m hm
  have h3 := kpd_b9 (a := m) hW h9 (show d + 1 ≤ gd by omega) (kgo_C h)
  have h4 := hW d m hd hm
  rw [Int64.toInt_add, h1, h2, kbm (by omega) (by omega)]
  rfl
theorem kmax_y {P : Nat → Bool} {f : Nat → Int} {n : Nat} {x y : Int64} (hx : x.toInt = kPm P f n) (hy : y.toInt = f n) (hp : P n = true) : (if y < x then x else y).toInt = kPm P f (n + 1) := by
  rw [kpm_s]
  by_cases c : y < x
  · rw [if_pos c]
    rw [Int64.lt_iff_toInt_lt, hx, hy] at c
    rw [if_neg (fun q => by have := q.2; omega), hx]
  · rw [if_neg c]
    rw [Int64.lt_iff_toInt_lt, hx, hy] at c
    by_cases c2 : kPm P f n < f n
    · rw [if_pos ⟨hp, c2⟩, hy]
    · rw [if_neg (fun q => c2 q.2), hy]; omega
theorem kmax_n {P : Nat → Bool} {f : Nat → Int} {n : Nat} {x : Int64} (hx : x.toInt = kPm P f n) (hp : ¬ P n = true) : x.toInt = kPm P f (n + 1) := by
  rw [kpm_s, if_neg (fun q => hp q.1)]; exact hx
/-- the first that pays best -/
def kPf (P : Nat → Bool) (f : Nat → Int) (v : Int) : Nat → Nat → Nat
  | 0, _ => 0
  | n + 1, m => if P m = true ∧ f m = v then m else kPf P f v n (m + 1)
theorem kpf_at {P : Nat → Bool} {f : Nat → Int} {v : Int} {m : Nat} (hm : m < 10) (h : P m = true ∧ f m = v) : kPf P f v (10 - m) m = m := by
  rw [show 10 - m = (10 - (m + 1)) + 1 by omega]
  exact if_pos h
theorem kpf_go {P : Nat → Bool} {f : Nat → Int} {v : Int} {m : Nat} (hm : m < 10) (h : ¬ (P m = true ∧ f m = v)) : kPf P f v (10 - m) m = kPf P f v (10 - (m + 1)) (m + 1) := by
  rw [show 10 - m = (10 - (m + 1)) + 1 by omega]
  exact if_neg h
theorem kpf_in {P : Nat → Bool} {f : Nat → Int} {v : Int} : ∀ n m, (∃ j, m ≤ j ∧ j < m + n ∧ P j = true ∧ f j = v) → kPf P f v n m < m + n ∧ P (kPf P f v n m) = true ∧ f (kPf P f v n m) = v
  | 0, m, ⟨j, h1, h2, _⟩ => absurd h2 (by omega)
  | n + 1, m, ⟨j, h1, h2, h3⟩ => by
    by_cases c : P m = true ∧ f m = v
    · have e : kPf P f v (n + 1) m = m := if_pos c
      rw [e]; exact ⟨by omega, c⟩
    · have e : kPf P f v (n + 1) m = kPf P f v n (m + 1) := if_neg c
      rw [e]
      have h4 := kpf_in n (m + 1) ⟨j, by
        by_cases q : j = m
        · subst q; exact absurd h3 c
        · omega, by omega, h3⟩
      exact ⟨by omega, h4.2⟩
def kPa (E : Nat → Nat → Nat → Bool) (W : Nat → Nat → Int) (gd a0 : Nat) : Nat → Nat
  | 0 => a0
  | d + 1 => kPf (kGo E gd d (kPa E W gd a0 d)) (kPg E W gd d) (kPd E W gd d (kPa E W gd a0 d)) 10 0
theorem kpa_s (E : Nat → Nat → Nat → Bool) (W : Nat → Nat → Int) (gd a0 d : Nat) : kPa E W gd a0 (d + 1) = kPf (kGo E gd d (kPa E W gd a0 d)) (kPg E W gd d) (kPd E W gd d (kPa E W gd a0 d)) 10 0 := rfl
theorem kpd_at {E : Nat → Nat → Nat → Bool} {W : Nat → Nat → Int} {gd d a : Nat} (hW : kWb W gd) (h9 : gd ≤ 9) (hd : d < gd) (h : 0 < kcC E (gd - d) d a) : ∃ j, 0 ≤ j ∧ j < 0 + 10 ∧ kGo E gd d a j = true ∧ kPg E W gd d j = kPd E W gd d a := by
  have h1 := kpd_b9 (a := a) hW h9 (by omega) h
  rw [kpd_s hd] at h1 ⊢
  rcases kpm_ex (P := kGo E gd d a) (f := kPg E W gd d) 10 with e | ⟨m, e1, e2, e3⟩
  · omega
  · exact ⟨m, Nat.zero_le m, by omega, e2, e3.symm⟩
theorem kpa_ok {E : Nat → Nat → Nat → Bool} {W : Nat → Nat → Int} {gd a0 : Nat} (hW : kWb W gd) (h9 : gd ≤ 9) (ha : a0 < 10) (h : 0 < kcC E gd 0 a0) : ∀ d, d ≤ gd → kPa E W gd a0 d < 10 ∧ 0 < kcC E (gd - d) d (kPa E W gd a0 d)
  | 0, _ => ⟨ha, h⟩
  | d + 1, hd => by
    obtain ⟨h1, h2⟩ := kpa_ok hW h9 ha h d (by omega)
    have h3 := kpf_in 10 0 (kpd_at hW h9 (by omega) h2)
    rw [kpa_s]
    exact ⟨by omega, kgo_C h3.2.1⟩
def kcPr (E : Nat → Nat → Nat → Bool) (W : Nat → Nat → Int) (gd a0 i : Nat) (f : Nat → Int32) : Prop := ∀ d, d < i → f d = nI (kPa E W gd a0 (d + 1))
theorem kpr_0 (E : Nat → Nat → Nat → Bool) (W : Nat → Nat → Int) (gd a0 : Nat) (f : Nat → Int32) : kcPr E W gd a0 0 f := fun d hd => absurd hd (Nat.not_lt_zero d)
theorem kpr_s {E : Nat → Nat → Nat → Bool} {W : Nat → Nat → Int} {gd a0 i v : Nat} {f g : Nat → Int32} (h : kcPr E W gd a0 i f) (e : g = upd f i (nI v)) (hv : kPa E W gd a0 (i + 1) = v) : kcPr E W gd a0 (i + 1) g := fun d hd => by
  by_cases q : d = i
  · subst q; rw [kui_s e, hv]
  · rw [kui_n e q]; exact h d (by omega)
/-! what pay, paid answer -/
def kWg (L : LkS) (wn : Nat) (Ba We : Nat → Nat) (d m : Nat) : Int := (kcWage L wn (Ba d) (We d) d m).toInt
theorem kwg_b {L : LkS} (h : kcLk L) {wn : Nat} {Ba We : Nat → Nat} {gd : Nat} (h1 : wn ≤ 999) (h2 : ∀ j, Ba j ≤ 9) (h3 : ∀ j, We j ≤ 9) (h9 : gd ≤ 9) : kWb (kWg L wn Ba We) gd := fun d m hd hm => kBd_wage h h1 (h2 d) (h3 d) (by omega) (by omega)
def payR (E : Nat → Nat → Nat → Bool) (W : Nat → Nat → Int) (dy mo : Nat) (r : Int64) : Prop := kB (1 ≤ dy ∧ 0 < kcC E dy 0 mo) (r.toInt = kPd E W dy 0 mo) (r = -1000000000000000)
theorem payR_eq {E : Nat → Nat → Nat → Bool} {W : Nat → Nat → Int} {dy mo : Nat} {r q : Int64} (h1 : payR E W dy mo r) (h2 : payR E W dy mo q) : r = q := kB_eq h1 h2 (fun a b => Int64.toInt_inj.mp (a.trans b.symm)) (fun a b => a.trans b.symm)
def paidR (E : Nat → Nat → Nat → Bool) (W : Nat → Nat → Int) (dy mo : Nat) (d r : Int32) : Prop := kR (fun k : Nat => k < dy ∧ d = nI k ∧ 0 < kcC E dy 0 mo) (r = -1) (fun k => r = nI (kPa E W dy mo (k + 1)))
theorem paidR_eq {E : Nat → Nat → Nat → Bool} {W : Nat → Nat → Int} {dy mo : Nat} {d r q : Int32} (h9 : dy ≤ 9) (h1 : paidR E W dy mo d r) (h2 : paidR E W dy mo d q) : r = q :=
  kR_eq h1 h2 (fun x y a b => kIe a.2.1 b.2.1 (by have := a.1; omega) (by have := b.1; omega)) (fun a b => a.trans b.symm) (fun _ a b => a.trans b.symm)
theorem pad_0 {E : Nat → Nat → Nat → Bool} {W : Nat → Nat → Int} {dy mo : Nat} {d : Int32} (h : ¬ kIn d dy) : paidR E W dy mo d (-1) := kR_0 (fun x q => h ⟨x, q.1, q.2.1⟩) rfl
theorem pad_1 {E : Nat → Nat → Nat → Bool} {W : Nat → Nat → Int} {dy mo : Nat} {d : Int32} (h : kcC E dy 0 mo = 0) : paidR E W dy mo d (-1) := kR_0 (fun x q => by have := q.2.2; omega) rfl
theorem pad_2 {E : Nat → Nat → Nat → Bool} {W : Nat → Nat → Int} {dy mo k : Nat} {r : Int32} (hk : k < dy) (h : 0 < kcC E dy 0 mo) (hr : r = nI (kPa E W dy mo (k + 1))) : paidR E W dy mo (nI k) r := kR_1 k ⟨hk, rfl, h⟩ hr
set_option maxHeartbeats 4000000 in
set_option maxRecDepth 100000 in
theorem c_ugainBy (l : Launch) (D : va_G) (cI cJ cC cZ cS : ClassId) (q : Nat → Nat) (gd : Nat) (gs : Nat) (e6 : Nat → Int64) (fg : Nat → Int64) (d : Nat) (ah : Nat) (am : Nat) (Ed : Nat → Nat → Nat → Bool) (Wg : Nat → Nat → Int) (hgd : gd ≤ 9) (hd : d < gd) (ham : am < 10) (hgn : kcGn Ed Wg gd (d + 1) e6) (hgo : kGo Ed gd d ah am = true) (hWb : kWb Wg gd) (hwg : ∀ d m, d < gd → m < 10 → (fg (d * 10 + m)).toInt = Wg d m) : skM l yX1_gainBy cX1_gainBy 3 (some .long) 0 0 0 0 D (skT cI cJ cC cZ cS) [.ref (q 11), .int (nI d), .int (nI am)] [ro_rrrrrrrnn (q 11) 1 (q 10) (q 67) (q 68) (q 69) (q 70) (q 71) (q 72) gd gs, ra_J (q 72) cJ 100 e6, ro_rrrrrr (q 10) 9 (q 61) (q 62) (q 63) (q 64) (q 65) (q 66), ra_J (q 65) cJ 90 fg] (skL D (skT cI cJ cC cZ cS) (fun (r : Int64) (u : va_W) => r.toInt = kPg Ed Wg gd d am ∧ u = [ro_rrrrrrrnn (q 11) 1 (q 10) (q 67) (q 68) (q 69) (q 70) (q 71) (q 72) gd gs, ra_J (q 72) cJ 100 e6, ro_rrrrrr (q 10) 9 (q 61) (q 62) (q 63) (q 64) (q 65) (q 66), ra_J (q 65) cJ 90 fg])) := by
  refine skM_of pf_X1_gainBy (Nat.le_of_ble_eq_true rfl) ?_
  intro p e s m below meth c A ls E hP hD hl
  refine skE_el E (fun hx hb hr hml hlocks hin hown hts hK hA => ?_)
  have hown : s.vm.findClass RX1 = some m.cls := hown
  have hS : va_S A s.heap s.heap [] := va_S.rf
  have hl : lv_has ls 3 [(0, .ref (q 11)), (1, .int (nI d)), (2, .int (nI am))] := hl
  refine lv_aload_n hx hb dX1_gainBy_0 rfl (lv_at hl 0 rfl) ?_
  refine sk_get (v := .ref (q 10)) (C := RX1) (T := TX1) (N := 9) hx hb hts inlX1 hown hK hP 0 rfl rfl 0 (Nat.le_of_ble_eq_true rfl) w_2_95 rfl dX1_gainBy_1 ?_
  refine sk_get (v := .ref (q 65)) (C := RX9) (T := TX9) (N := 6) hx hb hts inlX9 hown hK hP 2 rfl rfl 4 (Nat.le_of_ble_eq_true rfl) w_2_73 rfl dX1_gainBy_4 ?_
  refine lv_iload_n hx hb dX1_gainBy_7 rfl (lv_at hl 1 rfl) ?_
  refine lv_bipush (v := 10) hx hb dX1_gainBy_8 (by decide) ?_
  refine lv_imul hx hb dX1_gainBy_10 ?_
  refine sk_top (nI (d * 10)) (nmul d 10) ?_
  refine lv_iload_n hx hb dX1_gainBy_11 rfl (lv_at hl 2 rfl) ?_
  refine lv_iadd hx hb dX1_gainBy_12 ?_
  refine sk_top (nI (d * 10 + am)) (nI_add (d * 10) am) ?_
  refine va_lald hx hb hK.1 hP 3 1 rfl rfl (vin (d * 10 + am) 90 (by omega) (Nat.le_of_ble_eq_true rfl)) dX1_gainBy_13 ?_
  refine sk_topl (fg (d * 10 + am)) (by rw [nI_clamp (by omega)]) ?_
  refine lv_aload_n hx hb dX1_gainBy_14 rfl (lv_at hl 0 rfl) ?_
  refine sk_get (v := .ref (q 72)) (C := RX1) (T := TX1) (N := 9) hx hb hts inlX1 hown hK hP 0 rfl rfl 6 (Nat.le_of_ble_eq_true rfl) w_2_101 rfl dX1_gainBy_15 ?_
  refine lv_iload_n hx hb dX1_gainBy_18 rfl (lv_at hl 1 rfl) ?_
  refine lv_iconst (v := 1) hx hb dX1_gainBy_19 ic_1 ?_
  refine lv_iadd hx hb dX1_gainBy_20 ?_
  refine sk_top (nI (d + 1)) (nI_add d 1) ?_
  refine lv_bipush (v := 10) hx hb dX1_gainBy_21 (by decide) ?_
  refine lv_imul hx hb dX1_gainBy_23 ?_
  refine sk_top (nI ((d + 1) * 10)) (nmul (d + 1) 10) ?_
  refine lv_iload_n hx hb dX1_gainBy_24 rfl (lv_at hl 2 rfl) ?_
  refine lv_iadd hx hb dX1_gainBy_25 ?_
  refine sk_top (nI ((d + 1) * 10 + am)) (nI_add ((d + 1) * 10) am) ?_
  refine va_lald hx hb hK.1 hP 1 1 rfl rfl (vin ((d + 1) * 10 + am) 100 (by omega) (Nat.le_of_ble_eq_true rfl)) dX1_gainBy_26 ?_
  refine sk_topl (e6 ((d + 1) * 10 + am)) (by rw [nI_clamp (by omega)]) ?_
  refine lv_ladd hx hb dX1_gainBy_27 ?_
  exact sk_lret hx hb hr hlocks hK hP hD hS (⟨(kga_x hWb hwg hgn hgd hd ham hgo), rfl⟩) (Nat.le_of_ble_eq_true rfl) (Nat.le_of_ble_eq_true rfl) dX1_gainBy_28
set_option maxHeartbeats 4000000 in
set_option maxRecDepth 100000 in
theorem c_ubestPay (l : Launch) (D : va_G) (cI cJ cC cZ cS : ClassId) (q : Nat → Nat) (gd : Nat) (gs : Nat) (e1 : Nat → Int32) (e2 : Nat → Int32) (e3 : Nat → Int32) (e6 : Nat → Int64) (fg : Nat → Int64) (Ed : Nat → Nat → Nat → Bool) (Wg : Nat → Nat → Int) (hgd : gd ≤ 9) (hgs : gs ≤ 9) (hld : kcLd Ed gd e1 e2) (hlv : kcLv Ed gd 0 e3) (hWb : kWb Wg gd) (hwg : ∀ d m, d < gd → m < 10 → (fg (d * 10 + m)).toInt = Wg d m) : skM l yX1_bestPay cX1_bestPay 7 (some .long) 1 23 0 0 D (skT cI cJ cC cZ cS) [.ref (q 11)] [ro_rrrrrrrnn (q 11) 1 (q 10) (q 67) (q 68) (q 69) (q 70) (q 71) (q 72) gd gs, ra_I (q 67) cI 90 e1, ra_I (q 68) cI 9 e2, ra_I (q 69) cI 10 e3, ra_J (q 72) cJ 100 e6, ro_rrrrrr (q 10) 9 (q 61) (q 62) (q 63) (q 64) (q 65) (q 66), ra_J (q 65) cJ 90 fg] (skL D (skT cI cJ cC cZ cS) (fun (r : Int64) (u : va_W) => ∃ (g6 : Nat → Int64), r.toInt = kPd Ed Wg gd 0 gs ∧ kcGn Ed Wg gd 0 g6 ∧ u = [ro_rrrrrrrnn (q 11) 1 (q 10) (q 67) (q 68) (q 69) (q 70) (q 71) (q 72) gd gs, ra_I (q 67) cI 90 e1, ra_I (q 68) cI 9 e2, ra_I (q 69) cI 10 e3, ra_J (q 72) cJ 100 g6, ro_rrrrrr (q 10) 9 (q 61) (q 62) (q 63) (q 64) (q 65) (q 66), ra_J (q 65) cJ 90 fg])) := by
  refine skM_of pf_X1_bestPay (Nat.le_of_ble_eq_true rfl) ?_
  intro p e s m below meth c A ls E hP hD hl
  refine skE_el E (fun hx hb hr hml hlocks hin hown hts hK hA => ?_)
  have hown : s.vm.findClass RX1 = some m.cls := hown
  have hS : va_S A s.heap s.heap [] := va_S.rf
  have hl : lv_has ls 7 [(0, .ref (q 11))] := hl
  refine lv_iconst (v := 0) hx hb dX1_bestPay_0 ic_0 ?_
  refine lv_istore_n (lv' := [(1, .int 0), (0, .ref (q 11))]) hx hb dX1_bestPay_1 rfl hl (by decide) rfl (fun ls hl => ?_)
  have lp_1 : ∀ (n_2 : Nat) (i : Nat) (a6 : Nat → Int64) (H : Heap) (locs : List Loc) (ls : Array Slot), 10 - i < n_2 → (i ≤ 10) → (∀ m, m < i → a6 (gd * 10 + m) = 0) → va_P D vwCl [ro_rrrrrrrnn (q 11) 1 (q 10) (q 67) (q 68) (q 69) (q 70) (q 71) (q 72) gd gs, ra_I (q 67) cI 90 e1, ra_I (q 68) cI 9 e2, ra_I (q 69) cI 10 e3, ra_J (q 72) cJ 100 a6, ro_rrrrrr (q 10) 9 (q 61) (q 62) (q 63) (q 64) (q 65) (q 66), ra_J (q 65) cJ 90 fg] H → va_D A [ro_rrrrrrrnn (q 11) 1 (q 10) (q 67) (q 68) (q 69) (q 70) (q 71) (q 72) gd gs, ra_I (q 67) cI 90 e1, ra_I (q 68) cI 9 e2, ra_I (q 69) cI 10 e3, ra_J (q 72) cJ 100 a6, ro_rrrrrr (q 10) 9 (q 61) (q 62) (q 63) (q 64) (q 65) (q 66), ra_J (q 65) cJ 90 fg] → va_S A s.heap H locs → lv_has ls 7 [(1, .int (nI i)), (0, .ref (q 11))] → W p l e { frames := 1, cells := 0, slots := 0, locals := 23 } s m ([.ref (q 11)] : List Value).toArray below meth c H locs 0 0 (MQ below (skL D (skT cI cJ cC cZ cS) (fun (r : Int64) (u : va_W) => ∃ (g6 : Nat → Int64), r.toInt = kPd Ed Wg gd 0 gs ∧ kcGn Ed Wg gd 0 g6 ∧ u = [ro_rrrrrrrnn (q 11) 1 (q 10) (q 67) (q 68) (q 69) (q 70) (q 71) (q 72) gd gs, ra_I (q 67) cI 90 e1, ra_I (q 68) cI 9 e2, ra_I (q 69) cI 10 e3, ra_J (q 72) cJ 100 g6, ro_rrrrrr (q 10) 9 (q 61) (q 62) (q 63) (q 64) (q 65) (q 66), ra_J (q 65) cJ 90 fg]) A) ([.ref (q 11)] : List Value).toArray s 0 0 A) (F0 m 2 ls []) := by
    intro n_2
    induction n_2 with
    | zero => intro i a6 H locs ls hm; exact absurd hm (Nat.not_lt_zero _)
    | succ n_2 ih_lp_1 =>
      intro i a6 H locs ls hm hi hone hP hD hS hl
      refine lv_iload_n hx hb dX1_bestPay_2 rfl (lv_at hl 0 rfl) ?_
      refine lv_bipush (v := 10) hx hb dX1_bestPay_3 (by decide) ?_
      refine lv_icmp_ge (tgt := 29) hx hb dX1_bestPay_5 (by decide) (fun c_3 => ?_) (fun c_3 => ?_)
      · have c_3 : 10 ≤ i := (nle 10 i (Nat.le_of_ble_eq_true rfl) (by omega)).mp c_3
        refine lv_aload_n hx hb dX1_bestPay_29 rfl (lv_at hl 1 rfl) ?_
        refine sk_get (v := .int (nI gd)) (C := RX1) (T := TX1) (N := 9) hx hb hts inlX1 hown hK hP 0 rfl rfl 7 (Nat.le_of_ble_eq_true rfl) w_2_102 rfl dX1_bestPay_30 ?_
        refine lv_iconst (v := 1) hx hb dX1_bestPay_33 ic_1 ?_
        refine lv_isub hx hb dX1_bestPay_34 ?_
        refine lv_istore_n (lv' := [(1, .int (nI gd - 1)), (0, .ref (q 11))]) hx hb dX1_bestPay_35 rfl hl (by decide) rfl (fun ls hl => ?_)
        have lp_4 : ∀ (n_5 : Nat) (dd : Nat) (b6 : Nat → Int64) (H : Heap) (locs : List Loc) (ls : Array Slot), dd < n_5 → (dd ≤ gd) → (kcGn Ed Wg gd dd b6) → va_P D vwCl [ro_rrrrrrrnn (q 11) 1 (q 10) (q 67) (q 68) (q 69) (q 70) (q 71) (q 72) gd gs, ra_I (q 67) cI 90 e1, ra_I (q 68) cI 9 e2, ra_I (q 69) cI 10 e3, ra_J (q 72) cJ 100 b6, ro_rrrrrr (q 10) 9 (q 61) (q 62) (q 63) (q 64) (q 65) (q 66), ra_J (q 65) cJ 90 fg] H → va_D A [ro_rrrrrrrnn (q 11) 1 (q 10) (q 67) (q 68) (q 69) (q 70) (q 71) (q 72) gd gs, ra_I (q 67) cI 90 e1, ra_I (q 68) cI 9 e2, ra_I (q 69) cI 10 e3, ra_J (q 72) cJ 100 b6, ro_rrrrrr (q 10) 9 (q 61) (q 62) (q 63) (q 64) (q 65) (q 66), ra_J (q 65) cJ 90 fg] → va_S A s.heap H locs → lv_has ls 7 [(1, .int (nI dd - 1)), (0, .ref (q 11))] → W p l e { frames := 1, cells := 0, slots := 0, locals := 23 } s m ([.ref (q 11)] : List Value).toArray below meth c H locs 0 0 (MQ below (skL D (skT cI cJ cC cZ cS) (fun (r : Int64) (u : va_W) => ∃ (g6 : Nat → Int64), r.toInt = kPd Ed Wg gd 0 gs ∧ kcGn Ed Wg gd 0 g6 ∧ u = [ro_rrrrrrrnn (q 11) 1 (q 10) (q 67) (q 68) (q 69) (q 70) (q 71) (q 72) gd gs, ra_I (q 67) cI 90 e1, ra_I (q 68) cI 9 e2, ra_I (q 69) cI 10 e3, ra_J (q 72) cJ 100 g6, ro_rrrrrr (q 10) 9 (q 61) (q 62) (q 63) (q 64) (q 65) (q 66), ra_J (q 65) cJ 90 fg]) A) ([.ref (q 11)] : List Value).toArray s 0 0 A) (F0 m 36 ls []) := by
          intro n_5
          induction n_5 with
          | zero => intro dd b6 H locs ls hm; exact absurd hm (Nat.not_lt_zero _)
          | succ n_5 ih_lp_4 =>
            intro dd b6 H locs ls hm hdd hgn_ hP hD hS hl
            refine lv_iload_n hx hb dX1_bestPay_36 rfl (lv_at hl 0 rfl) ?_
            refine lv_if_lt (tgt := 125) hx hb dX1_bestPay_37 (by decide) (fun c_6 => ?_) (fun c_6 => ?_)
            · have c_6 : dd = 0 := npm0 dd (by omega) c_6
              refine lv_aload_n hx hb dX1_bestPay_125 rfl (lv_at hl 1 rfl) ?_
              refine sk_get (v := .ref (q 72)) (C := RX1) (T := TX1) (N := 9) hx hb hts inlX1 hown hK hP 0 rfl rfl 6 (Nat.le_of_ble_eq_true rfl) w_2_101 rfl dX1_bestPay_126 ?_
              refine lv_aload_n hx hb dX1_bestPay_129 rfl (lv_at hl 1 rfl) ?_
              refine sk_get (v := .int (nI gs)) (C := RX1) (T := TX1) (N := 9) hx hb hts inlX1 hown hK hP 0 rfl rfl 8 (Nat.le_of_ble_eq_true rfl) w_2_103 rfl dX1_bestPay_130 ?_
              refine va_lald hx hb hK.1 hP 4 1 rfl rfl (vin gs 100 (by omega) (Nat.le_of_ble_eq_true rfl)) dX1_bestPay_133 ?_
              have hfin := hgn_ 0 (by omega) (by omega) gs (by omega)
              rw [Nat.zero_mul, Nat.zero_add] at hfin
              refine sk_topl (b6 gs) (by rw [nI_clamp (by omega)]) ?_
              exact sk_lret hx hb hr hlocks hK hP hD hS (⟨b6, hfin, (fun d h1 h2 => hgn_ d (by omega) h2), rfl⟩) (Nat.le_of_ble_eq_true rfl) (Nat.le_of_ble_eq_true rfl) dX1_bestPay_134
            · have c_6 : 1 ≤ dd := npm1 dd c_6
              rw [npred dd (by omega)] at hl
              refine lv_iconst (v := 0) hx hb dX1_bestPay_40 ic_0 ?_
              refine lv_istore_n (lv' := [(2, .int 0), (1, .int (nI (dd - 1))), (0, .ref (q 11))]) hx hb dX1_bestPay_41 rfl hl (by decide) rfl (fun ls hl => ?_)
              have lp_7 : ∀ (n_8 : Nat) (jj : Nat) (c6 : Nat → Int64) (H : Heap) (locs : List Loc) (ls : Array Slot), 10 - jj < n_8 → (jj ≤ 10) → (kcGj Ed Wg gd (dd - 1) jj c6) → va_P D vwCl [ro_rrrrrrrnn (q 11) 1 (q 10) (q 67) (q 68) (q 69) (q 70) (q 71) (q 72) gd gs, ra_I (q 67) cI 90 e1, ra_I (q 68) cI 9 e2, ra_I (q 69) cI 10 e3, ra_J (q 72) cJ 100 c6, ro_rrrrrr (q 10) 9 (q 61) (q 62) (q 63) (q 64) (q 65) (q 66), ra_J (q 65) cJ 90 fg] H → va_D A [ro_rrrrrrrnn (q 11) 1 (q 10) (q 67) (q 68) (q 69) (q 70) (q 71) (q 72) gd gs, ra_I (q 67) cI 90 e1, ra_I (q 68) cI 9 e2, ra_I (q 69) cI 10 e3, ra_J (q 72) cJ 100 c6, ro_rrrrrr (q 10) 9 (q 61) (q 62) (q 63) (q 64) (q 65) (q 66), ra_J (q 65) cJ 90 fg] → va_S A s.heap H locs → lv_has ls 7 [(2, .int (nI jj)), (1, .int (nI (dd - 1))), (0, .ref (q 11))] → W p l e { frames := 1, cells := 0, slots := 0, locals := 23 } s m ([.ref (q 11)] : List Value).toArray below meth c H locs 0 0 (MQ below (skL D (skT cI cJ cC cZ cS) (fun (r : Int64) (u : va_W) => ∃ (g6 : Nat → Int64), r.toInt = kPd Ed Wg gd 0 gs ∧ kcGn Ed Wg gd 0 g6 ∧ u = [ro_rrrrrrrnn (q 11) 1 (q 10) (q 67) (q 68) (q 69) (q 70) (q 71) (q 72) gd gs, ra_I (q 67) cI 90 e1, ra_I (q 68) cI 9 e2, ra_I (q 69) cI 10 e3, ra_J (q 72) cJ 100 g6, ro_rrrrrr (q 10) 9 (q 61) (q 62) (q 63) (q 64) (q 65) (q 66), ra_J (q 65) cJ 90 fg]) A) ([.ref (q 11)] : List Value).toArray s 0 0 A) (F0 m 42 ls []) := by
                intro n_8
                induction n_8 with
                | zero => intro jj c6 H locs ls hm; exact absurd hm (Nat.not_lt_zero _)
                | succ n_8 ih_lp_7 =>
                  intro jj c6 H locs ls hm hjj hgj hP hD hS hl
                  refine lv_iload_n hx hb dX1_bestPay_42 rfl (lv_at hl 0 rfl) ?_
                  refine lv_bipush (v := 10) hx hb dX1_bestPay_43 (by decide) ?_
                  refine lv_icmp_ge (tgt := 119) hx hb dX1_bestPay_45 (by decide) (fun c_9 => ?_) (fun c_9 => ?_)
                  · have c_9 : 10 ≤ jj := (nle 10 jj (Nat.le_of_ble_eq_true rfl) (by omega)).mp c_9
                    refine lv_iinc (v := nI (dd - 1) - 1) (lv' := [(1, .int (nI (dd - 1) - 1)), (2, .int (nI jj)), (0, .ref (q 11))]) hx hb dX1_bestPay_119 hl (k := 1) rfl (ndn _) (by decide) rfl (fun ls hl => ?_)
                    refine lv_goto (tgt := 36) hx hb dX1_bestPay_122 (by decide) ?_
                    exact ih_lp_4 (dd - 1) c6 _ _ _ (by omega) (by omega) (kgj_10 (show kcGj Ed Wg gd (dd - 1) 10 c6 by rw [show 10 = jj by omega]; exact hgj)) hP hD hS (lv_sub hl [0, 2] rfl)
                  · have c_9 : ¬ (10 ≤ jj) := fun h => c_9 ((nle 10 jj (Nat.le_of_ble_eq_true rfl) (by omega)).mpr h)
                    refine lv_aload_n hx hb dX1_bestPay_48 rfl (lv_at hl 2 rfl) ?_
                    refine lv_iload_n hx hb dX1_bestPay_49 rfl (lv_at hl 1 rfl) ?_
                    refine lv_iload_n hx hb dX1_bestPay_50 rfl (lv_at hl 0 rfl) ?_
                    refine sk_Vi (q0 := 0) (n := 2) (rest := []) (wr := fmR om_7_78 _) ⟨hx, hb, hml, hown, hts⟩ hl.1 (c_knext l D cI cJ cC cZ cS q gd gs e1 e2 e3 (dd - 1) jj Ed hgd (by omega) (by omega) hld (klv_i hlv (by omega))) w_4_57 w_4_59 w_0_20 w_1_13 w_4_60 hd_X1_next_2 ⟨⟨(Nat.le_of_ble_eq_true rfl), (Nat.le_of_ble_eq_true rfl)⟩, (Nat.le_of_ble_eq_true rfl), (Nat.le_of_ble_eq_true rfl)⟩ hK hP hD hS hA (fmT om_7_78 0) (fmF om_7_78 0) (fm_C1 rfl rfl) (fm_R rfl rfl) (fm_nT om_7_78 0) (fm_nF om_7_78 0) (fm_di om_7_78 0) rfl rfl rfl rfl (Nat.le_of_ble_eq_true rfl) dX1_bestPay_51 (fun r_11 u H locs hw hP hD hS => ?_)
                    refine exE hw (fun nq_10 hw1 => anE hw1 (fun hnx_12 hw2 => anE hw2 (fun er_14 eu_13 => ?_)))
                    clear hw hw1 hw2
                    subst er_14
                    refine o_mgE (ws' := [ro_rrrrrrrnn (q 11) 1 (q 10) (q 67) (q 68) (q 69) (q 70) (q 71) (q 72) gd gs, ra_I (q 67) cI 90 e1, ra_I (q 68) cI 9 e2, ra_I (q 69) cI 10 e3, ra_J (q 72) cJ 100 c6, ro_rrrrrr (q 10) 9 (q 61) (q 62) (q 63) (q 64) (q 65) (q 66), ra_J (q 65) cJ 90 fg]) eu_13 hP hD rfl (fun hP hD => ?_)
                    have hl_15 := hnx_12.1
                    refine lv_istore_n (lv' := [(3, .int (nI nq_10)), (2, .int (nI jj)), (1, .int (nI (dd - 1))), (0, .ref (q 11))]) hx hb dX1_bestPay_54 rfl hl (by decide) rfl (fun ls hl => ?_)
                    refine lv_ldc2 (v := (-1000000000000000)) hx hb hown (hts _ w_4_160) dX1_bestPay_55 ?_
                    refine lv_lstore (lv' := [(4, .long (-1000000000000000)), (3, .int (nI nq_10)), (2, .int (nI jj)), (1, .int (nI (dd - 1))), (0, .ref (q 11))]) hx hb dX1_bestPay_58 hl (by decide) rfl (fun ls hl => ?_)
                    refine lv_iconst (v := 0) hx hb dX1_bestPay_60 ic_0 ?_
                    refine lv_istore (lv' := [(6, .int 0), (4, .long (-1000000000000000)), (3, .int (nI nq_10)), (2, .int (nI jj)), (1, .int (nI (dd - 1))), (0, .ref (q 11))]) hx hb dX1_bestPay_61 hl (by decide) rfl (fun ls hl => ?_)
                    have lp_16 : ∀ (n_17 : Nat) (kk : Nat) (sm : Int64) (H : Heap) (locs : List Loc) (ls : Array Slot), 10 - kk < n_17 → (kk ≤ 10) → (sm.toInt = kPm (kGo Ed gd (dd - 1) jj) (kPg Ed Wg gd (dd - 1)) kk) → va_P D vwCl [ro_rrrrrrrnn (q 11) 1 (q 10) (q 67) (q 68) (q 69) (q 70) (q 71) (q 72) gd gs, ra_I (q 67) cI 90 e1, ra_I (q 68) cI 9 e2, ra_I (q 69) cI 10 e3, ra_J (q 72) cJ 100 c6, ro_rrrrrr (q 10) 9 (q 61) (q 62) (q 63) (q 64) (q 65) (q 66), ra_J (q 65) cJ 90 fg] H → va_D A [ro_rrrrrrrnn (q 11) 1 (q 10) (q 67) (q 68) (q 69) (q 70) (q 71) (q 72) gd gs, ra_I (q 67) cI 90 e1, ra_I (q 68) cI 9 e2, ra_I (q 69) cI 10 e3, ra_J (q 72) cJ 100 c6, ro_rrrrrr (q 10) 9 (q 61) (q 62) (q 63) (q 64) (q 65) (q 66), ra_J (q 65) cJ 90 fg] → va_S A s.heap H locs → lv_has ls 7 [(6, .int (nI kk)), (4, .long sm), (3, .int (nI nq_10)), (2, .int (nI jj)), (1, .int (nI (dd - 1))), (0, .ref (q 11))] → W p l e { frames := 1, cells := 0, slots := 0, locals := 23 } s m ([.ref (q 11)] : List Value).toArray below meth c H locs 0 0 (MQ below (skL D (skT cI cJ cC cZ cS) (fun (r : Int64) (u : va_W) => ∃ (g6 : Nat → Int64), r.toInt = kPd Ed Wg gd 0 gs ∧ kcGn Ed Wg gd 0 g6 ∧ u = [ro_rrrrrrrnn (q 11) 1 (q 10) (q 67) (q 68) (q 69) (q 70) (q 71) (q 72) gd gs, ra_I (q 67) cI 90 e1, ra_I (q 68) cI 9 e2, ra_I (q 69) cI 10 e3, ra_J (q 72) cJ 100 g6, ro_rrrrrr (q 10) 9 (q 61) (q 62) (q 63) (q 64) (q 65) (q 66), ra_J (q 65) cJ 90 fg]) A) ([.ref (q 11)] : List Value).toArray s 0 0 A) (F0 m 63 ls []) := by
                      intro n_17
                      induction n_17 with
                      | zero => intro kk sm H locs ls hm; exact absurd hm (Nat.not_lt_zero _)
                      | succ n_17 ih_lp_16 =>
                        intro kk sm H locs ls hm hkk hsm hP hD hS hl
                        refine lv_iload hx hb dX1_bestPay_63 (lv_at hl 0 rfl) ?_
                        refine lv_bipush (v := 10) hx hb dX1_bestPay_65 (by decide) ?_
                        refine lv_icmp_ge (tgt := 100) hx hb dX1_bestPay_67 (by decide) (fun c_18 => ?_) (fun c_18 => ?_)
                        · have c_18 : 10 ≤ kk := (nle 10 kk (Nat.le_of_ble_eq_true rfl) (by omega)).mp c_18
                          refine lv_aload_n hx hb dX1_bestPay_100 rfl (lv_at hl 5 rfl) ?_
                          refine sk_get (v := .ref (q 72)) (C := RX1) (T := TX1) (N := 9) hx hb hts inlX1 hown hK hP 0 rfl rfl 6 (Nat.le_of_ble_eq_true rfl) w_2_101 rfl dX1_bestPay_101 ?_
                          refine lv_iload_n hx hb dX1_bestPay_104 rfl (lv_at hl 4 rfl) ?_
                          refine lv_bipush (v := 10) hx hb dX1_bestPay_105 (by decide) ?_
                          refine lv_imul hx hb dX1_bestPay_107 ?_
                          refine sk_top (nI ((dd - 1) * 10)) (nmul (dd - 1) 10) ?_
                          refine lv_iload_n hx hb dX1_bestPay_108 rfl (lv_at hl 3 rfl) ?_
                          refine lv_iadd hx hb dX1_bestPay_109 ?_
                          refine sk_top (nI ((dd - 1) * 10 + jj)) (nI_add ((dd - 1) * 10) jj) ?_
                          refine lv_lload hx hb dX1_bestPay_110 (lv_at hl 1 rfl) ?_
                          refine sk_lastE (k := ((dd - 1) * 10 + jj)) (ws' := fun f_19 => [ro_rrrrrrrnn (q 11) 1 (q 10) (q 67) (q 68) (q 69) (q 70) (q 71) (q 72) gd gs, ra_I (q 67) cI 90 e1, ra_I (q 68) cI 9 e2, ra_I (q 69) cI 10 e3, ra_J (q 72) cJ 100 f_19, ro_rrrrrr (q 10) 9 (q 61) (q 62) (q 63) (q 64) (q 65) (q 66), ra_J (q 65) cJ 90 fg]) hx hb hK hP hD hS 4 1 rfl rfl (by omega) (by omega) (fun _ => rfl) dX1_bestPay_112 (fun f_19 H locs ef_20 hP hD hS => ?_)
                          refine lv_iinc (v := nI (jj + 1)) (lv' := [(2, .int (nI (jj + 1))), (6, .int (nI kk)), (4, .long sm), (3, .int (nI nq_10)), (1, .int (nI (dd - 1))), (0, .ref (q 11))]) hx hb dX1_bestPay_113 hl (k := 3) rfl (ninc jj 1 (by decide)) (by decide) rfl (fun ls hl => ?_)
                          refine lv_goto (tgt := 42) hx hb dX1_bestPay_116 (by decide) ?_
                          exact ih_lp_7 (jj + 1) f_19 _ _ _ (by omega) (by omega) (kgj_s hgj ef_20 (by omega) (by omega) (by rw [hsm, show kk = 10 by omega])) hP hD hS (lv_sub hl [0, 4, 5] rfl)
                        · have c_18 : ¬ (10 ≤ kk) := fun h => c_18 ((nle 10 kk (Nat.le_of_ble_eq_true rfl) (by omega)).mpr h)
                          refine lv_iload_n hx hb dX1_bestPay_70 rfl (lv_at hl 2 rfl) ?_
                          refine lv_iload hx hb dX1_bestPay_71 (lv_at hl 0 rfl) ?_
                          refine lv_ishr hx hb dX1_bestPay_73 ?_
                          refine lv_iconst (v := 1) hx hb dX1_bestPay_74 ic_1 ?_
                          refine lv_iand hx hb dX1_bestPay_75 ?_
                          refine lv_iconst (v := 1) hx hb dX1_bestPay_76 ic_1 ?_
                          refine lv_icmp_ne (tgt := 94) hx hb dX1_bestPay_77 (by decide) (fun c_21 => ?_) (fun c_21 => ?_)
                          · skip
                            refine lv_iinc (v := nI (kk + 1)) (lv' := [(6, .int (nI (kk + 1))), (4, .long sm), (3, .int (nI nq_10)), (2, .int (nI jj)), (1, .int (nI (dd - 1))), (0, .ref (q 11))]) hx hb dX1_bestPay_94 hl (k := 0) rfl (ninc kk 1 (by decide)) (by decide) rfl (fun ls hl => ?_)
                            refine lv_goto (tgt := 63) hx hb dX1_bestPay_97 (by decide) ?_
                            exact ih_lp_16 (kk + 1) sm _ _ _ (by omega) (by omega) (kmax_n hsm (fun hq => c_21 ((ktb hnx_12.1 (by omega)).mpr ((hnx_12.2 kk (by omega)).mpr (kgo_t.mp hq))))) hP hD hS (lv_sub hl [0, 1, 2, 3, 4, 5] rfl)
                          · skip
                            refine lv_lload hx hb dX1_bestPay_80 (lv_at hl 1 rfl) ?_
                            refine lv_aload_n hx hb dX1_bestPay_82 rfl (lv_at hl 5 rfl) ?_
                            refine lv_iload_n hx hb dX1_bestPay_83 rfl (lv_at hl 4 rfl) ?_
                            refine lv_iload hx hb dX1_bestPay_84 (lv_at hl 0 rfl) ?_
                            refine sk_Vl (q0 := 0) (n := 2) (rest := [.long sm]) (wr := fmR om_7_47 _) ⟨hx, hb, hml, hown, hts⟩ hl.1 (c_ugainBy l D cI cJ cC cZ cS q gd gs c6 fg (dd - 1) jj kk Ed Wg hgd (by omega) (by omega) (show kcGn Ed Wg gd (dd - 1 + 1) c6 from hgj.1) (kgo_t.mpr ((hnx_12.2 kk (by omega)).mp ((ktb hnx_12.1 (by omega)).mp c_21))) hWb hwg) w_4_161 w_4_163 w_0_26 w_1_13 w_4_164 hd_X1_gainBy_2 ⟨⟨(Nat.le_of_ble_eq_true rfl), (Nat.le_of_ble_eq_true rfl)⟩, (Nat.le_of_ble_eq_true rfl), (Nat.le_of_ble_eq_true rfl)⟩ hK hP hD hS hA (fmT om_7_47 0) (fmF om_7_47 0) (fm_C1 rfl rfl) (fm_R rfl rfl) (fm_nT om_7_47 0) (fm_nF om_7_47 0) (fm_di om_7_47 0) rfl rfl rfl rfl (Nat.le_of_ble_eq_true rfl) dX1_bestPay_86 (fun r_22 u H locs hw hP hD hS => ?_)
                            refine anE hw (fun hga_23 eu_24 => ?_)
                            clear hw
                            refine o_mgE (ws' := [ro_rrrrrrrnn (q 11) 1 (q 10) (q 67) (q 68) (q 69) (q 70) (q 71) (q 72) gd gs, ra_I (q 67) cI 90 e1, ra_I (q 68) cI 9 e2, ra_I (q 69) cI 10 e3, ra_J (q 72) cJ 100 c6, ro_rrrrrr (q 10) 9 (q 61) (q 62) (q 63) (q 64) (q 65) (q 66), ra_J (q 65) cJ 90 fg]) eu_24 hP hD rfl (fun hP hD => ?_)
                            refine va_mmax_long hx hb (by rw [hml]; exact hl.1.symm) hown (hts _ w_4_165) (hts _ w_4_0) (hts _ w_1_3) (hts _ w_4_1) (Nat.le_of_ble_eq_true rfl) (Nat.le_of_ble_eq_true rfl) (Nat.le_of_ble_eq_true rfl) (Nat.le_of_ble_eq_true rfl) dX1_bestPay_89 ?_
                            have hmx_25 := kmax_y hsm hga_23 (kgo_t.mpr ((hnx_12.2 kk (by omega)).mp ((ktb hnx_12.1 (by omega)).mp c_21)))
                            refine lv_lstore (lv' := [(4, .long (if r_22 < sm then sm else r_22)), (6, .int (nI kk)), (3, .int (nI nq_10)), (2, .int (nI jj)), (1, .int (nI (dd - 1))), (0, .ref (q 11))]) hx hb dX1_bestPay_92 hl (by decide) rfl (fun ls hl => ?_)
                            refine lv_iinc (v := nI (kk + 1)) (lv' := [(6, .int (nI (kk + 1))), (4, .long (if r_22 < sm then sm else r_22)), (3, .int (nI nq_10)), (2, .int (nI jj)), (1, .int (nI (dd - 1))), (0, .ref (q 11))]) hx hb dX1_bestPay_94 hl (k := 1) rfl (ninc kk 1 (by decide)) (by decide) rfl (fun ls hl => ?_)
                            refine lv_goto (tgt := 63) hx hb dX1_bestPay_97 (by decide) ?_
                            exact ih_lp_16 (kk + 1) (if r_22 < sm then sm else r_22) _ _ _ (by omega) (by omega) hmx_25 hP hD hS (lv_sub hl [0, 1, 2, 3, 4, 5] rfl)
                    exact lp_16 (10 - 0 + 1) 0 (-1000000000000000) _ _ _ (Nat.lt_succ_self _) (by omega) (show ((-1000000000000000 : Int64)).toInt = -1000000000000000 by decide) hP hD hS (lv_sub hl [0, 1, 2, 3, 4, 5] rfl)
              exact lp_7 (10 - 0 + 1) 0 b6 _ _ _ (Nat.lt_succ_self _) (by omega) (kgj_0 hgn_ (by omega)) hP hD hS (lv_sub hl [0, 1, 2] rfl)
        exact lp_4 (gd + 1) gd a6 _ _ _ (Nat.lt_succ_self _) (by omega) (kgn_top (fun m hm => hone m (by omega))) hP hD hS (lv_sub hl [0, 1] rfl)
      · have c_3 : ¬ (10 ≤ i) := fun h => c_3 ((nle 10 i (Nat.le_of_ble_eq_true rfl) (by omega)).mpr h)
        refine lv_aload_n hx hb dX1_bestPay_8 rfl (lv_at hl 1 rfl) ?_
        refine sk_get (v := .ref (q 72)) (C := RX1) (T := TX1) (N := 9) hx hb hts inlX1 hown hK hP 0 rfl rfl 6 (Nat.le_of_ble_eq_true rfl) w_2_101 rfl dX1_bestPay_9 ?_
        refine lv_aload_n hx hb dX1_bestPay_12 rfl (lv_at hl 1 rfl) ?_
        refine sk_get (v := .int (nI gd)) (C := RX1) (T := TX1) (N := 9) hx hb hts inlX1 hown hK hP 0 rfl rfl 7 (Nat.le_of_ble_eq_true rfl) w_2_102 rfl dX1_bestPay_13 ?_
        refine lv_bipush (v := 10) hx hb dX1_bestPay_16 (by decide) ?_
        refine lv_imul hx hb dX1_bestPay_18 ?_
        refine sk_top (nI (gd * 10)) (nmul gd 10) ?_
        refine lv_iload_n hx hb dX1_bestPay_19 rfl (lv_at hl 0 rfl) ?_
        refine lv_iadd hx hb dX1_bestPay_20 ?_
        refine sk_top (nI (gd * 10 + i)) (nI_add (gd * 10) i) ?_
        refine lv_lconst (v := 0) hx hb dX1_bestPay_21 (by decide) ?_
        refine sk_lastE (k := (gd * 10 + i)) (ws' := fun f_26 => [ro_rrrrrrrnn (q 11) 1 (q 10) (q 67) (q 68) (q 69) (q 70) (q 71) (q 72) gd gs, ra_I (q 67) cI 90 e1, ra_I (q 68) cI 9 e2, ra_I (q 69) cI 10 e3, ra_J (q 72) cJ 100 f_26, ro_rrrrrr (q 10) 9 (q 61) (q 62) (q 63) (q 64) (q 65) (q 66), ra_J (q 65) cJ 90 fg]) hx hb hK hP hD hS 4 1 rfl rfl (by omega) (by omega) (fun _ => rfl) dX1_bestPay_22 (fun f_26 H locs ef_27 hP hD hS => ?_)
        refine lv_iinc (v := nI (i + 1)) (lv' := [(1, .int (nI (i + 1))), (0, .ref (q 11))]) hx hb dX1_bestPay_23 hl (k := 0) rfl (ninc i 1 (by decide)) (by decide) rfl (fun ls hl => ?_)
        refine lv_goto (tgt := 2) hx hb dX1_bestPay_26 (by decide) ?_
        exact ih_lp_1 (i + 1) f_26 _ _ _ (by omega) (by omega) (kzer_s hone ef_27) hP hD hS (lv_sub hl [0, 1] rfl)
  exact lp_1 (10 - 0 + 1) 0 e6 _ _ _ (Nat.lt_succ_self _) (by omega) (fun m hm => absurd hm (Nat.not_lt_zero m)) hP hD hS (lv_sub hl [0, 1] rfl)
/-- the search ends before ten -/
theorem kpf_out {P : Nat → Bool} {f : Nat → Int} {v : Int} {j : Nat} (h : kPf P f v (10 - j) j = kPf P f v 10 0) (hj : 10 ≤ j) (hn : ∀ m, m < j → ¬ (P m = true ∧ f m = v)) (hp : ∃ m, 0 ≤ m ∧ m < 0 + 10 ∧ P m = true ∧ f m = v) : False := by
  obtain ⟨m, _, h2, h3⟩ := hp
  exact hn m (by omega) h3
theorem knn_s {P : Nat → Bool} {f : Nat → Int} {v : Int} {j : Nat} (hn : ∀ m, m < j → ¬ (P m = true ∧ f m = v)) (h : ¬ (P j = true ∧ f j = v)) : ∀ m, m < j + 1 → ¬ (P m = true ∧ f m = v) := fun m hm => by
  by_cases q : m = j
  · subst q; exact h
  · exact hn m (by omega)
theorem kpr_e {E : Nat → Nat → Nat → Bool} {W : Nat → Nat → Int} {gd a0 i : Nat} {f : Nat → Int32} (h : kcPr E W gd a0 i f) (e : gd = i) : kcPr E W gd a0 gd f := by
  subst e; exact h
set_option maxHeartbeats 4000000 in
set_option maxRecDepth 100000 in
theorem c_utakeBestPaid (l : Launch) (D : va_G) (cI cJ cC cZ cS : ClassId) (q : Nat → Nat) (gd : Nat) (gs : Nat) (e1 : Nat → Int32) (e2 : Nat → Int32) (e3 : Nat → Int32) (e6 : Nat → Int64) (fg : Nat → Int64) (rw : Nat) (ra : Nat → Int32) (Ed : Nat → Nat → Nat → Bool) (Wg : Nat → Nat → Int) (hgd : gd ≤ 9) (hgs : gs ≤ 9) (hld : kcLd Ed gd e1 e2) (hlv : kcLv Ed gd 0 e3) (hWb : kWb Wg gd) (hwg : ∀ d m, d < gd → m < 10 → (fg (d * 10 + m)).toInt = Wg d m) (hgn : kcGn Ed Wg gd 0 e6) (hgs0 : 0 < kcC Ed gd 0 gs) : skM l yX1_takeBestPaid cX1_takeBestPaid 7 none 1 22 0 0 D (skT cI cJ cC cZ cS) [.ref (q 11), .ref rw] [ro_rrrrrrrnn (q 11) 1 (q 10) (q 67) (q 68) (q 69) (q 70) (q 71) (q 72) gd gs, ra_I (q 67) cI 90 e1, ra_I (q 68) cI 9 e2, ra_I (q 69) cI 10 e3, ra_J (q 72) cJ 100 e6, ro_rrrrrr (q 10) 9 (q 61) (q 62) (q 63) (q 64) (q 65) (q 66), ra_J (q 65) cJ 90 fg, ra_I rw cI 9 ra] (skV D (skT cI cJ cC cZ cS) (fun (u : va_W) => ∃ (ra2 : Nat → Int32), kcPr Ed Wg gd gs gd ra2 ∧ u = [ro_rrrrrrrnn (q 11) 1 (q 10) (q 67) (q 68) (q 69) (q 70) (q 71) (q 72) gd gs, ra_I (q 67) cI 90 e1, ra_I (q 68) cI 9 e2, ra_I (q 69) cI 10 e3, ra_J (q 72) cJ 100 e6, ro_rrrrrr (q 10) 9 (q 61) (q 62) (q 63) (q 64) (q 65) (q 66), ra_J (q 65) cJ 90 fg, ra_I rw cI 9 ra2])) := by
  refine skM_of pf_X1_takeBestPaid (Nat.le_of_ble_eq_true rfl) ?_
  intro p e s m below meth c A ls E hP hD hl
  refine skE_el E (fun hx hb hr hml hlocks hin hown hts hK hA => ?_)
  have hown : s.vm.findClass RX1 = some m.cls := hown
  have hS : va_S A s.heap s.heap [] := va_S.rf
  have hl : lv_has ls 7 [(0, .ref (q 11)), (1, .ref rw)] := hl
  refine lv_aload_n hx hb dX1_takeBestPaid_0 rfl (lv_at hl 0 rfl) ?_
  refine sk_get (v := .int (nI gs)) (C := RX1) (T := TX1) (N := 9) hx hb hts inlX1 hown hK hP 0 rfl rfl 8 (Nat.le_of_ble_eq_true rfl) w_2_103 rfl dX1_takeBestPaid_1 ?_
  refine lv_istore_n (lv' := [(2, .int (nI gs)), (0, .ref (q 11)), (1, .ref rw)]) hx hb dX1_takeBestPaid_4 rfl hl (by decide) rfl (fun ls hl => ?_)
  refine lv_iconst (v := 0) hx hb dX1_takeBestPaid_5 ic_0 ?_
  refine lv_istore_n (lv' := [(3, .int 0), (2, .int (nI gs)), (0, .ref (q 11)), (1, .ref rw)]) hx hb dX1_takeBestPaid_6 rfl hl (by decide) rfl (fun ls hl => ?_)
  have lp_1 : ∀ (n_2 : Nat) (i : Nat) (ah : Nat) (rb : Nat → Int32) (H : Heap) (locs : List Loc) (ls : Array Slot), gd - i < n_2 → (i ≤ gd) → (ah < 10) → (kPa Ed Wg gd gs i = ah) → (kcPr Ed Wg gd gs i rb) → va_P D vwCl [ro_rrrrrrrnn (q 11) 1 (q 10) (q 67) (q 68) (q 69) (q 70) (q 71) (q 72) gd gs, ra_I (q 67) cI 90 e1, ra_I (q 68) cI 9 e2, ra_I (q 69) cI 10 e3, ra_J (q 72) cJ 100 e6, ro_rrrrrr (q 10) 9 (q 61) (q 62) (q 63) (q 64) (q 65) (q 66), ra_J (q 65) cJ 90 fg, ra_I rw cI 9 rb] H → va_D A [ro_rrrrrrrnn (q 11) 1 (q 10) (q 67) (q 68) (q 69) (q 70) (q 71) (q 72) gd gs, ra_I (q 67) cI 90 e1, ra_I (q 68) cI 9 e2, ra_I (q 69) cI 10 e3, ra_J (q 72) cJ 100 e6, ro_rrrrrr (q 10) 9 (q 61) (q 62) (q 63) (q 64) (q 65) (q 66), ra_J (q 65) cJ 90 fg, ra_I rw cI 9 rb] → va_S A s.heap H locs → lv_has ls 7 [(3, .int (nI i)), (2, .int (nI ah)), (0, .ref (q 11)), (1, .ref rw)] → W p l e { frames := 1, cells := 0, slots := 0, locals := 22 } s m ([.ref (q 11), .ref rw] : List Value).toArray below meth c H locs 0 0 (MQ below (skV D (skT cI cJ cC cZ cS) (fun (u : va_W) => ∃ (ra2 : Nat → Int32), kcPr Ed Wg gd gs gd ra2 ∧ u = [ro_rrrrrrrnn (q 11) 1 (q 10) (q 67) (q 68) (q 69) (q 70) (q 71) (q 72) gd gs, ra_I (q 67) cI 90 e1, ra_I (q 68) cI 9 e2, ra_I (q 69) cI 10 e3, ra_J (q 72) cJ 100 e6, ro_rrrrrr (q 10) 9 (q 61) (q 62) (q 63) (q 64) (q 65) (q 66), ra_J (q 65) cJ 90 fg, ra_I rw cI 9 ra2]) A) ([.ref (q 11), .ref rw] : List Value).toArray s 0 0 A) (F0 m 7 ls []) := by
    intro n_2
    induction n_2 with
    | zero => intro i ah rb H locs ls hm; exact absurd hm (Nat.not_lt_zero _)
    | succ n_2 ih_lp_1 =>
      intro i ah rb H locs ls hm hi hah haa hrr hP hD hS hl
      refine lv_iload_n hx hb dX1_takeBestPaid_7 rfl (lv_at hl 0 rfl) ?_
      refine lv_aload_n hx hb dX1_takeBestPaid_8 rfl (lv_at hl 2 rfl) ?_
      refine sk_get (v := .int (nI gd)) (C := RX1) (T := TX1) (N := 9) hx hb hts inlX1 hown hK hP 0 rfl rfl 7 (Nat.le_of_ble_eq_true rfl) w_2_102 rfl dX1_takeBestPaid_9 ?_
      refine lv_icmp_ge (tgt := 96) hx hb dX1_takeBestPaid_12 (by decide) (fun c_3 => ?_) (fun c_3 => ?_)
      · have c_3 : gd ≤ i := (nle gd i (by omega) (by omega)).mp c_3
        exact sk_vret hx hb hr hlocks hK hP hD hS (⟨rb, (kpr_e hrr (by omega)), rfl⟩) (Nat.le_of_ble_eq_true rfl) (Nat.le_of_ble_eq_true rfl) dX1_takeBestPaid_96
      · have c_3 : ¬ (gd ≤ i) := fun h => c_3 ((nle gd i (by omega) (by omega)).mpr h)
        refine lv_aload_n hx hb dX1_takeBestPaid_15 rfl (lv_at hl 2 rfl) ?_
        refine lv_iload_n hx hb dX1_takeBestPaid_16 rfl (lv_at hl 0 rfl) ?_
        refine lv_iload_n hx hb dX1_takeBestPaid_17 rfl (lv_at hl 1 rfl) ?_
        refine sk_Vi (q0 := 0) (n := 2) (rest := []) (wr := fmR om_8_f0 _) ⟨hx, hb, hml, hown, hts⟩ hl.1 (c_knext l D cI cJ cC cZ cS q gd gs e1 e2 e3 i ah Ed hgd (by omega) hah hld (klv_i hlv (by omega))) w_4_57 w_4_59 w_0_20 w_1_13 w_4_60 hd_X1_next_2 ⟨⟨(Nat.le_of_ble_eq_true rfl), (Nat.le_of_ble_eq_true rfl)⟩, (Nat.le_of_ble_eq_true rfl), (Nat.le_of_ble_eq_true rfl)⟩ hK hP hD hS hA (fmT om_8_f0 0) (fmF om_8_f0 0) (fm_C1 rfl rfl) (fm_R rfl rfl) (fm_nT om_8_f0 0) (fm_nF om_8_f0 0) (fm_di om_8_f0 0) rfl rfl rfl rfl (Nat.le_of_ble_eq_true rfl) dX1_takeBestPaid_18 (fun r_5 u H locs hw hP hD hS => ?_)
        refine exE hw (fun nq_4 hw1 => anE hw1 (fun hnx_6 hw2 => anE hw2 (fun er_8 eu_7 => ?_)))
        clear hw hw1 hw2
        subst er_8
        refine o_mgE (ws' := [ro_rrrrrrrnn (q 11) 1 (q 10) (q 67) (q 68) (q 69) (q 70) (q 71) (q 72) gd gs, ra_I (q 67) cI 90 e1, ra_I (q 68) cI 9 e2, ra_I (q 69) cI 10 e3, ra_J (q 72) cJ 100 e6, ro_rrrrrr (q 10) 9 (q 61) (q 62) (q 63) (q 64) (q 65) (q 66), ra_J (q 65) cJ 90 fg, ra_I rw cI 9 rb]) eu_7 hP hD rfl (fun hP hD => ?_)
        have hl_9 := hnx_6.1
        have hok := kpa_ok hWb hgd (by omega) hgs0 i (by omega)
        rw [haa] at hok
        have hpa := kpd_at hWb hgd (show i < gd by omega) hok.2
        refine lv_istore (lv' := [(4, .int (nI nq_4)), (3, .int (nI i)), (2, .int (nI ah)), (0, .ref (q 11)), (1, .ref rw)]) hx hb dX1_takeBestPaid_21 hl (by decide) rfl (fun ls hl => ?_)
        refine lv_iconst (v := 0) hx hb dX1_takeBestPaid_23 ic_0 ?_
        refine lv_istore (lv' := [(5, .int 0), (4, .int (nI nq_4)), (3, .int (nI i)), (2, .int (nI ah)), (0, .ref (q 11)), (1, .ref rw)]) hx hb dX1_takeBestPaid_24 hl (by decide) rfl (fun ls hl => ?_)
        refine lv_iconst (v := 0) hx hb dX1_takeBestPaid_26 ic_0 ?_
        refine lv_istore (lv' := [(6, .int 0), (5, .int 0), (4, .int (nI nq_4)), (3, .int (nI i)), (2, .int (nI ah)), (0, .ref (q 11)), (1, .ref rw)]) hx hb dX1_takeBestPaid_27 hl (by decide) rfl (fun ls hl => ?_)
        have lp_10 : ∀ (n_11 : Nat) (jj : Nat) (H : Heap) (locs : List Loc) (ls : Array Slot), 10 - jj < n_11 → (jj ≤ 10) → (kPf (kGo Ed gd i ah) (kPg Ed Wg gd i) (kPd Ed Wg gd i ah) (10 - jj) jj = kPf (kGo Ed gd i ah) (kPg Ed Wg gd i) (kPd Ed Wg gd i ah) 10 0) → (∀ m, m < jj → ¬ ((kGo Ed gd i ah) m = true ∧ (kPg Ed Wg gd i) m = (kPd Ed Wg gd i ah))) → va_P D vwCl [ro_rrrrrrrnn (q 11) 1 (q 10) (q 67) (q 68) (q 69) (q 70) (q 71) (q 72) gd gs, ra_I (q 67) cI 90 e1, ra_I (q 68) cI 9 e2, ra_I (q 69) cI 10 e3, ra_J (q 72) cJ 100 e6, ro_rrrrrr (q 10) 9 (q 61) (q 62) (q 63) (q 64) (q 65) (q 66), ra_J (q 65) cJ 90 fg, ra_I rw cI 9 rb] H → va_D A [ro_rrrrrrrnn (q 11) 1 (q 10) (q 67) (q 68) (q 69) (q 70) (q 71) (q 72) gd gs, ra_I (q 67) cI 90 e1, ra_I (q 68) cI 9 e2, ra_I (q 69) cI 10 e3, ra_J (q 72) cJ 100 e6, ro_rrrrrr (q 10) 9 (q 61) (q 62) (q 63) (q 64) (q 65) (q 66), ra_J (q 65) cJ 90 fg, ra_I rw cI 9 rb] → va_S A s.heap H locs → lv_has ls 7 [(6, .int (nI jj)), (5, .int 0), (4, .int (nI nq_4)), (3, .int (nI i)), (2, .int (nI ah)), (0, .ref (q 11)), (1, .ref rw)] → W p l e { frames := 1, cells := 0, slots := 0, locals := 22 } s m ([.ref (q 11), .ref rw] : List Value).toArray below meth c H locs 0 0 (MQ below (skV D (skT cI cJ cC cZ cS) (fun (u : va_W) => ∃ (ra2 : Nat → Int32), kcPr Ed Wg gd gs gd ra2 ∧ u = [ro_rrrrrrrnn (q 11) 1 (q 10) (q 67) (q 68) (q 69) (q 70) (q 71) (q 72) gd gs, ra_I (q 67) cI 90 e1, ra_I (q 68) cI 9 e2, ra_I (q 69) cI 10 e3, ra_J (q 72) cJ 100 e6, ro_rrrrrr (q 10) 9 (q 61) (q 62) (q 63) (q 64) (q 65) (q 66), ra_J (q 65) cJ 90 fg, ra_I rw cI 9 ra2]) A) ([.ref (q 11), .ref rw] : List Value).toArray s 0 0 A) (F0 m 29 ls []) := by
          intro n_11
          induction n_11 with
          | zero => intro jj H locs ls hm; exact absurd hm (Nat.not_lt_zero _)
          | succ n_11 ih_lp_10 =>
            intro jj H locs ls hm hjj hpf hnn hP hD hS hl
            refine lv_iload hx hb dX1_takeBestPaid_29 (lv_at hl 0 rfl) ?_
            refine lv_bipush (v := 10) hx hb dX1_takeBestPaid_31 (by decide) ?_
            refine lv_icmp_ge (tgt := 82) hx hb dX1_takeBestPaid_33 (by decide) (fun c_12 => ?_) (fun c_12 => ?_)
            · have c_12 : 10 ≤ jj := (nle 10 jj (Nat.le_of_ble_eq_true rfl) (by omega)).mp c_12
              exact (kpf_out hpf (by omega) hnn hpa).elim
            · have c_12 : ¬ (10 ≤ jj) := fun h => c_12 ((nle 10 jj (Nat.le_of_ble_eq_true rfl) (by omega)).mpr h)
              refine lv_iload hx hb dX1_takeBestPaid_36 (lv_at hl 2 rfl) ?_
              refine lv_iload hx hb dX1_takeBestPaid_38 (lv_at hl 0 rfl) ?_
              refine lv_ishr hx hb dX1_takeBestPaid_40 ?_
              refine lv_iconst (v := 1) hx hb dX1_takeBestPaid_41 ic_1 ?_
              refine lv_iand hx hb dX1_takeBestPaid_42 ?_
              refine lv_iconst (v := 1) hx hb dX1_takeBestPaid_43 ic_1 ?_
              refine lv_icmp_ne (tgt := 76) hx hb dX1_takeBestPaid_44 (by decide) (fun c_13 => ?_) (fun c_13 => ?_)
              · skip
                refine lv_iinc (v := nI (jj + 1)) (lv' := [(6, .int (nI (jj + 1))), (5, .int 0), (4, .int (nI nq_4)), (3, .int (nI i)), (2, .int (nI ah)), (0, .ref (q 11)), (1, .ref rw)]) hx hb dX1_takeBestPaid_76 hl (k := 0) rfl (ninc jj 1 (by decide)) (by decide) rfl (fun ls hl => ?_)
                refine lv_goto (tgt := 29) hx hb dX1_takeBestPaid_79 (by decide) ?_
                exact ih_lp_10 (jj + 1) _ _ _ (by omega) (by omega) ((kpf_go (by omega) (fun hq => (fun hq => c_13 ((ktb hnx_6.1 (by omega)).mpr ((hnx_6.2 jj (by omega)).mpr (kgo_t.mp hq)))) hq.1)).symm.trans hpf) (knn_s hnn (fun hq => (fun hq => c_13 ((ktb hnx_6.1 (by omega)).mpr ((hnx_6.2 jj (by omega)).mpr (kgo_t.mp hq)))) hq.1)) hP hD hS (lv_sub hl [0, 1, 2, 3, 4, 5, 6] rfl)
              · skip
                refine lv_aload_n hx hb dX1_takeBestPaid_47 rfl (lv_at hl 5 rfl) ?_
                refine lv_iload_n hx hb dX1_takeBestPaid_48 rfl (lv_at hl 3 rfl) ?_
                refine lv_iload hx hb dX1_takeBestPaid_49 (lv_at hl 0 rfl) ?_
                refine sk_Vl (q0 := 0) (n := 2) (rest := []) (wr := fmR om_8_8e _) ⟨hx, hb, hml, hown, hts⟩ hl.1 (c_ugainBy l D cI cJ cC cZ cS q gd gs e6 fg i ah jj Ed Wg hgd (by omega) (by omega) (fun d2 h1 h2 => hgn d2 (Nat.zero_le _) h2) (kgo_t.mpr ((hnx_6.2 jj (by omega)).mp ((ktb hnx_6.1 (by omega)).mp c_13))) hWb hwg) w_4_161 w_4_163 w_0_26 w_1_13 w_4_164 hd_X1_gainBy_2 ⟨⟨(Nat.le_of_ble_eq_true rfl), (Nat.le_of_ble_eq_true rfl)⟩, (Nat.le_of_ble_eq_true rfl), (Nat.le_of_ble_eq_true rfl)⟩ hK hP hD hS hA (fmT om_8_8e 0) (fmF om_8_8e 0) (fm_C1 rfl rfl) (fm_R rfl rfl) (fm_nT om_8_8e 0) (fm_nF om_8_8e 0) (fm_di om_8_8e 0) rfl rfl rfl rfl (Nat.le_of_ble_eq_true rfl) dX1_takeBestPaid_51 (fun r_14 u H locs hw hP hD hS => ?_)
                refine anE hw (fun hga_15 eu_16 => ?_)
                clear hw
                refine o_mgE (ws' := [ro_rrrrrrrnn (q 11) 1 (q 10) (q 67) (q 68) (q 69) (q 70) (q 71) (q 72) gd gs, ra_I (q 67) cI 90 e1, ra_I (q 68) cI 9 e2, ra_I (q 69) cI 10 e3, ra_J (q 72) cJ 100 e6, ro_rrrrrr (q 10) 9 (q 61) (q 62) (q 63) (q 64) (q 65) (q 66), ra_J (q 65) cJ 90 fg, ra_I rw cI 9 rb]) eu_16 hP hD rfl (fun hP hD => ?_)
                refine lv_aload_n hx hb dX1_takeBestPaid_54 rfl (lv_at hl 5 rfl) ?_
                refine sk_get (v := .ref (q 72)) (C := RX1) (T := TX1) (N := 9) hx hb hts inlX1 hown hK hP 0 rfl rfl 6 (Nat.le_of_ble_eq_true rfl) w_2_101 rfl dX1_takeBestPaid_55 ?_
                refine lv_iload_n hx hb dX1_takeBestPaid_58 rfl (lv_at hl 3 rfl) ?_
                refine lv_bipush (v := 10) hx hb dX1_takeBestPaid_59 (by decide) ?_
                refine lv_imul hx hb dX1_takeBestPaid_61 ?_
                refine sk_top (nI (i * 10)) (nmul i 10) ?_
                refine lv_iload_n hx hb dX1_takeBestPaid_62 rfl (lv_at hl 4 rfl) ?_
                refine lv_iadd hx hb dX1_takeBestPaid_63 ?_
                refine sk_top (nI (i * 10 + ah)) (nI_add (i * 10) ah) ?_
                refine va_lald hx hb hK.1 hP 4 1 rfl rfl (vin (i * 10 + ah) 100 (by omega) (Nat.le_of_ble_eq_true rfl)) dX1_takeBestPaid_64 ?_
                have hgv := hgn i (Nat.zero_le i) (by omega) ah (by omega)
                refine sk_topl (e6 (i * 10 + ah)) (by rw [nI_clamp (by omega)]) ?_
                refine W.lcmp hx hb dX1_takeBestPaid_65 ?_
                refine lv_if_ne (tgt := 76) hx hb dX1_takeBestPaid_66 (by decide) (fun c_17 => ?_) (fun c_17 => ?_)
                · skip
                  refine lv_iinc (v := nI (jj + 1)) (lv' := [(6, .int (nI (jj + 1))), (5, .int 0), (4, .int (nI nq_4)), (3, .int (nI i)), (2, .int (nI ah)), (0, .ref (q 11)), (1, .ref rw)]) hx hb dX1_takeBestPaid_76 hl (k := 0) rfl (ninc jj 1 (by decide)) (by decide) rfl (fun ls hl => ?_)
                  refine lv_goto (tgt := 29) hx hb dX1_takeBestPaid_79 (by decide) ?_
                  exact ih_lp_10 (jj + 1) _ _ _ (by omega) (by omega) ((kpf_go (by omega) (fun hq => c_17 ((lg_cmp_eq _ _).mpr (Int64.toInt_inj.mp (by rw [hga_15, hgv]; exact hq.2))))).symm.trans hpf) (knn_s hnn (fun hq => c_17 ((lg_cmp_eq _ _).mpr (Int64.toInt_inj.mp (by rw [hga_15, hgv]; exact hq.2))))) hP hD hS (lv_sub hl [0, 1, 2, 3, 4, 5, 6] rfl)
                · skip
                  refine lv_iload hx hb dX1_takeBestPaid_69 (lv_at hl 0 rfl) ?_
                  refine lv_istore (lv' := [(5, .int (nI jj)), (6, .int (nI jj)), (4, .int (nI nq_4)), (3, .int (nI i)), (2, .int (nI ah)), (0, .ref (q 11)), (1, .ref rw)]) hx hb dX1_takeBestPaid_71 hl (by decide) rfl (fun ls hl => ?_)
                  refine lv_goto (tgt := 82) hx hb dX1_takeBestPaid_73 (by decide) ?_
                  refine lv_aload_n hx hb dX1_takeBestPaid_82 rfl (lv_at hl 6 rfl) ?_
                  refine lv_iload_n hx hb dX1_takeBestPaid_83 rfl (lv_at hl 3 rfl) ?_
                  refine lv_iload hx hb dX1_takeBestPaid_84 (lv_at hl 0 rfl) ?_
                  refine sk_iastE (k := i) (ws' := fun f_18 => [ro_rrrrrrrnn (q 11) 1 (q 10) (q 67) (q 68) (q 69) (q 70) (q 71) (q 72) gd gs, ra_I (q 67) cI 90 e1, ra_I (q 68) cI 9 e2, ra_I (q 69) cI 10 e3, ra_J (q 72) cJ 100 e6, ro_rrrrrr (q 10) 9 (q 61) (q 62) (q 63) (q 64) (q 65) (q 66), ra_J (q 65) cJ 90 fg, ra_I rw cI 9 f_18]) hx hb hK hP hD hS 7 0 rfl rfl (by omega) (by omega) (fun _ => rfl) dX1_takeBestPaid_86 (fun f_18 H locs ef_19 hP hD hS => ?_)
                  have hk_20 : kPa Ed Wg gd gs (i + 1) = jj := by rw [kpa_s, haa, ← hpf]; exact kpf_at (by omega) ⟨(kgo_t.mpr ((hnx_6.2 jj (by omega)).mp ((ktb hnx_6.1 (by omega)).mp c_13))), (by rw [← hga_15, ← hgv]; exact congrArg Int64.toInt ((lg_cmp_eq _ _).mp c_17))⟩
                  refine lv_iload hx hb dX1_takeBestPaid_87 (lv_at hl 0 rfl) ?_
                  refine lv_istore_n (lv' := [(2, .int (nI jj)), (5, .int (nI jj)), (6, .int (nI jj)), (4, .int (nI nq_4)), (3, .int (nI i)), (0, .ref (q 11)), (1, .ref rw)]) hx hb dX1_takeBestPaid_89 rfl hl (by decide) rfl (fun ls hl => ?_)
                  refine lv_iinc (v := nI (i + 1)) (lv' := [(3, .int (nI (i + 1))), (2, .int (nI jj)), (5, .int (nI jj)), (6, .int (nI jj)), (4, .int (nI nq_4)), (0, .ref (q 11)), (1, .ref rw)]) hx hb dX1_takeBestPaid_90 hl (k := 4) rfl (ninc i 1 (by decide)) (by decide) rfl (fun ls hl => ?_)
                  refine lv_goto (tgt := 7) hx hb dX1_takeBestPaid_93 (by decide) ?_
                  exact ih_lp_1 (i + 1) jj f_18 _ _ _ (by omega) (by omega) (by omega) hk_20 (kpr_s hrr ef_19 hk_20) hP hD hS (lv_sub hl [0, 1, 5, 6] rfl)
        exact lp_10 (10 - 0 + 1) 0 _ _ _ (Nat.lt_succ_self _) (by omega) rfl (fun m hm => absurd hm (Nat.not_lt_zero m)) hP hD hS (lv_sub hl [0, 1, 2, 3, 4, 5, 6] rfl)
  exact lp_1 (gd - 0 + 1) 0 gs ra _ _ _ (Nat.lt_succ_self _) (by omega) (by omega) rfl (kpr_0 _ _ _ _ _) hP hD hS (lv_sub hl [0, 1, 2, 3] rfl)
set_option maxHeartbeats 4000000 in
set_option maxRecDepth 100000 in
theorem c_ux_lookAtR (l : Launch) (D : va_G) (cI cJ cC cZ cS : ClassId) (x0 : Nat) (q : Nat → Nat) (hc : Int32) (dr : Int64) (sa : Nat → Nat) (ft : Nat → Int32) (fa : Nat → Int32) (fo : Nat → Int32) (fg : Nat → Int64) (fk : Nat → Int32) (dh : Nat) (mh : Nat) (uh : Int32) (rh : Int32) (nh : Nat) (ch : Nat) (wh : Nat) (y1 : Nat → Int32) (y2 : Nat → Int64) (y3 : Nat → Int64) (y4 : Nat → Int64) (yf : Nat → Int32) (yt : Nat → Int32) (gd : Nat) (gs : Nat) (e1 : Nat → Int32) (e2 : Nat → Int32) (e3 : Nat → Int32) (o0 : Nat) (o1 : Nat) (o2 : Nat) (dy : Nat) (wn : Nat) (mo : Nat) (ke : Nat) (mu : Int32) (fb : Nat → Int32) (fw : Nat → Int32) (Ba : Nat → Nat) (We : Nat → Nat) (L : LkS) (U : Nat → Bool) (hsa : ∀ j, sa j ≤ 9) (hch : ch ≤ 1600) (hwh : wh ≤ 1) (hdy : dy ≤ 9) (hmo : mo ≤ 9) (hLk : kcLk L) (hcd : cdK (lK (lkF L)) ch wh y1) (hsg : ∀ v, v < 3 → sgO (lG (lkF L) v) (yf v) (yt v)) (hfb : ∀ j, j < 9 → fb j = nI (Ba j)) (hfw : ∀ j, j < 9 → fw j = nI (We j)) (hB9 : ∀ j, Ba j ≤ 9) (hW9 : ∀ j, We j ≤ 9) (hwn : wn ≤ 999) (hU : muO U mu) (hti : kcTI L sa ft fa fo fg fk) : skM l yX11_lookAt cX11_lookAt 2 (some .boolean) 5 128 0 0 D (skT cI cJ cC cZ cS) [.ref x0, .ref o0] [ro_rrrrrrrrrrrrrrrirl x0 11 (q 0) (q 1) (q 2) (q 3) (q 4) (q 5) (q 6) (q 7) (q 8) (q 9) (q 10) (q 11) (q 12) (q 13) (q 14) hc (q 16) dr, ro_rrrrrr (q 10) 9 (q 61) (q 62) (q 63) (q 64) (q 65) (q 66), ra_N (q 61) cI 90 sa, ra_I (q 62) cI 900 ft, ra_I (q 63) cI 90 fa, ra_I (q 64) cI 90 fo, ra_J (q 65) cJ 90 fg, ra_I (q 66) cI 9 fk, ro_rrrrrnniin (q 5) 2 (q 44) (q 45) (q 46) (q 47) (q 48) dh mh uh rh nh, ro_rrrrnn (q 44) 0 (q 49) (q 50) (q 51) (q 52) ch wh, ra_I (q 49) cI 1600 y1, ra_J (q 50) cJ 64 y2, ra_J (q 51) cJ 9 y3, ra_J (q 52) cJ 10 y4, ra_I (q 47) cI 3 yf, ra_I (q 48) cI 3 yt, ro_rrrrrrrnn (q 11) 1 (q 10) (q 67) (q 68) (q 69) (q 70) (q 71) (q 72) gd gs, ra_I (q 67) cI 90 e1, ra_I (q 68) cI 9 e2, ra_I (q 69) cI 10 e3, ro_rrnnnin o0 7 o1 o2 dy wn mo mu ke, ra_I o1 cI 9 fb, ra_I o2 cI 9 fw] (skI D (skT cI cJ cC cZ cS) (fun (r : Int32) (u : va_W) => ∃ (sa2 : Nat → Nat), ∃ (ft2 : Nat → Int32), ∃ (fa2 : Nat → Int32), ∃ (fo2 : Nat → Int32), ∃ (fg2 : Nat → Int64), ∃ (fk2 : Nat → Int32), ∃ (z2 : Nat → Int64), ∃ (z3 : Nat → Int64), ∃ (g1 : Nat → Int32), ∃ (g2 : Nat → Int32), ∃ (g3 : Nat → Int32), ∃ (b : Nat), (∀ j, sa2 j ≤ 9) ∧ kcTI L sa2 ft2 fa2 fo2 fg2 fk2 ∧ kcLd (kcFo L wn Ba We U 0) dy g1 g2 ∧ kcLv (kcFo L wn Ba We U 0) dy 0 g3 ∧ ((b = 0 ∧ kcC (kcFo L wn Ba We U 0) dy 0 mo = 0) ∨ (b = 1 ∧ 0 < kcC (kcFo L wn Ba We U 0) dy 0 mo)) ∧ (∀ e, e < dy → kcRow L wn (Ba e) (We e) e sa2 ft2 fa2 fo2 fg2) ∧ r = nI b ∧ u = [ro_rrrrrrrrrrrrrrrirl x0 11 (q 0) (q 1) (q 2) (q 3) (q 4) (q 5) (q 6) (q 7) (q 8) (q 9) (q 10) (q 11) (q 12) (q 13) (q 14) hc (q 16) dr, ro_rrrrrr (q 10) 9 (q 61) (q 62) (q 63) (q 64) (q 65) (q 66), ra_N (q 61) cI 90 sa2, ra_I (q 62) cI 900 ft2, ra_I (q 63) cI 90 fa2, ra_I (q 64) cI 90 fo2, ra_J (q 65) cJ 90 fg2, ra_I (q 66) cI 9 fk2, ro_rrrrrnniin (q 5) 2 (q 44) (q 45) (q 46) (q 47) (q 48) dh mh uh rh nh, ro_rrrrnn (q 44) 0 (q 49) (q 50) (q 51) (q 52) ch wh, ra_I (q 49) cI 1600 y1, ra_J (q 50) cJ 64 z2, ra_J (q 51) cJ 9 z3, ra_J (q 52) cJ 10 y4, ra_I (q 47) cI 3 yf, ra_I (q 48) cI 3 yt, ro_rrrrrrrnn (q 11) 1 (q 10) (q 67) (q 68) (q 69) (q 70) (q 71) (q 72) dy mo, ra_I (q 67) cI 90 g1, ra_I (q 68) cI 9 g2, ra_I (q 69) cI 10 g3, ro_rrnnnin o0 7 o1 o2 dy wn mo mu ke, ra_I o1 cI 9 fb, ra_I o2 cI 9 fw])) := by
  refine skM_of pf_X11_lookAt (Nat.le_of_ble_eq_true rfl) ?_
  intro p e s m below meth c A ls E hP hD hl
  refine skE_el E (fun hx hb hr hml hlocks hin hown hts hK hA => ?_)
  have hown : s.vm.findClass RX11 = some m.cls := hown
  have hS : va_S A s.heap s.heap [] := va_S.rf
  have hl : lv_has ls 2 [(0, .ref x0), (1, .ref o0)] := hl
  refine lv_aload_n hx hb dX11_lookAt_0 rfl (lv_at hl 0 rfl) ?_
  refine sk_get (v := .ref (q 10)) (C := RX11) (T := TX11) (N := 18) hx hb hts inlX11 hown hK hP 0 rfl rfl 10 (Nat.le_of_ble_eq_true rfl) w_2_133 rfl dX11_lookAt_1 ?_
  refine lv_aload_n hx hb dX11_lookAt_4 rfl (lv_at hl 0 rfl) ?_
  refine sk_get (v := .ref (q 5)) (C := RX11) (T := TX11) (N := 18) hx hb hts inlX11 hown hK hP 0 rfl rfl 5 (Nat.le_of_ble_eq_true rfl) w_2_128 rfl dX11_lookAt_5 ?_
  refine lv_aload_n hx hb dX11_lookAt_8 rfl (lv_at hl 1 rfl) ?_
  refine sk_Vv (q0 := 0) (n := 2) (rest := []) (wr := fmR om_23_3fff87 _) ⟨hx, hb, hml, hown, hts⟩ hl.1 (c_kfit l D cI cJ cC cZ cS q dh mh uh rh nh ch wh y1 y2 y3 y4 yf yt sa ft fa fo fg fk o0 o1 o2 dy wn mo ke mu fb fw Ba We L hsa hch hwh hdy hmo hLk hcd hsg hfb hfw hB9 hW9 hwn hti) w_3_205 w_3_206 w_3_207 w_1_12 w_3_208 hd_X9_fit_2 ⟨⟨(Nat.le_of_ble_eq_true rfl), (Nat.le_of_ble_eq_true rfl)⟩, (Nat.le_of_ble_eq_true rfl), (Nat.le_of_ble_eq_true rfl)⟩ hK hP hD hS hA (fmT om_23_3fff87 0) (fmF om_23_3fff87 0) (fm_C1 rfl rfl) (fm_R rfl rfl) (fm_nT om_23_3fff87 0) (fm_nF om_23_3fff87 0) (fm_di om_23_3fff87 0) rfl rfl rfl rfl (Nat.le_of_ble_eq_true rfl) dX11_lookAt_9 (fun u H locs hw hP hD hS => ?_)
  refine exE hw (fun sa2_1 hw1 => exE hw1 (fun ft2_2 hw2 => exE hw2 (fun fa2_3 hw3 => exE hw3 (fun fo2_4 hw4 => exE hw4 (fun fg2_5 hw5 => exE hw5 (fun fk2_6 hw6 => exE hw6 (fun z2_7 hw7 => exE hw7 (fun z3_8 hw8 => anE hw8 (fun hsa2_9 hw9 => anE hw9 (fun hti2_10 hw10 => anE hw10 (fun hrows_11 eu_12 => ?_)))))))))))
  clear hw hw1 hw2 hw3 hw4 hw5 hw6 hw7 hw8 hw9 hw10
  refine o_mgE (ws' := [ro_rrrrrrrrrrrrrrrirl x0 11 (q 0) (q 1) (q 2) (q 3) (q 4) (q 5) (q 6) (q 7) (q 8) (q 9) (q 10) (q 11) (q 12) (q 13) (q 14) hc (q 16) dr, ro_rrrrrr (q 10) 9 (q 61) (q 62) (q 63) (q 64) (q 65) (q 66), ra_N (q 61) cI 90 sa2_1, ra_I (q 62) cI 900 ft2_2, ra_I (q 63) cI 90 fa2_3, ra_I (q 64) cI 90 fo2_4, ra_J (q 65) cJ 90 fg2_5, ra_I (q 66) cI 9 fk2_6, ro_rrrrrnniin (q 5) 2 (q 44) (q 45) (q 46) (q 47) (q 48) dh mh uh rh nh, ro_rrrrnn (q 44) 0 (q 49) (q 50) (q 51) (q 52) ch wh, ra_I (q 49) cI 1600 y1, ra_J (q 50) cJ 64 z2_7, ra_J (q 51) cJ 9 z3_8, ra_J (q 52) cJ 10 y4, ra_I (q 47) cI 3 yf, ra_I (q 48) cI 3 yt, ro_rrrrrrrnn (q 11) 1 (q 10) (q 67) (q 68) (q 69) (q 70) (q 71) (q 72) gd gs, ra_I (q 67) cI 90 e1, ra_I (q 68) cI 9 e2, ra_I (q 69) cI 10 e3, ro_rrnnnin o0 7 o1 o2 dy wn mo mu ke, ra_I o1 cI 9 fb, ra_I o2 cI 9 fw]) eu_12 hP hD rfl (fun hP hD => ?_)
  refine lv_aload_n hx hb dX11_lookAt_12 rfl (lv_at hl 0 rfl) ?_
  refine sk_get (v := .ref (q 11)) (C := RX11) (T := TX11) (N := 18) hx hb hts inlX11 hown hK hP 0 rfl rfl 11 (Nat.le_of_ble_eq_true rfl) w_2_134 rfl dX11_lookAt_13 ?_
  refine lv_aload_n hx hb dX11_lookAt_16 rfl (lv_at hl 1 rfl) ?_
  refine lv_aload_n hx hb dX11_lookAt_17 rfl (lv_at hl 1 rfl) ?_
  refine sk_get (v := .int mu) (C := RX7) (T := TX7) (N := 7) hx hb hts inlX7 hown hK hP 20 rfl rfl 5 (Nat.le_of_ble_eq_true rfl) w_2_12 rfl dX11_lookAt_18 ?_
  refine lv_iconst (v := 0) hx hb dX11_lookAt_21 ic_0 ?_
  refine sk_Vv (q0 := 0) (n := 3) (rest := []) (wr := fmR om_23_3e0074 _) ⟨hx, hb, hml, hown, hts⟩ hl.1 (c_klay l D cI cJ cC cZ cS q gd gs e1 e2 sa2_1 ft2_2 fa2_3 fo2_4 o0 o1 o2 dy wn mo ke mu fb fw Ba We L 0 U mu fg2_5 hsa2_9 hdy hmo (by decide) hU hrows_11) w_4_47 w_4_48 w_4_49 w_1_13 w_4_50 hd_X1_lay_3 ⟨⟨(Nat.le_of_ble_eq_true rfl), (Nat.le_of_ble_eq_true rfl)⟩, (Nat.le_of_ble_eq_true rfl), (Nat.le_of_ble_eq_true rfl)⟩ hK hP hD hS hA [16, 17, 18, 1, 2, 3, 4, 5, 20] (fmF om_23_3e0074 0) rfl (fm_R rfl rfl) (by decide +kernel) (fm_nF om_23_3e0074 0) (by decide +kernel) rfl rfl rfl rfl (Nat.le_of_ble_eq_true rfl) dX11_lookAt_22 (fun u H locs hw hP hD hS => ?_)
  refine exE hw (fun g1_13 hw1 => exE hw1 (fun g2_14 hw2 => anE hw2 (fun hld2_15 eu_16 => ?_)))
  clear hw hw1 hw2
  refine o_mgqE (ux := [ro_rrrrrr (q 10) 9 (q 61) (q 62) (q 63) (q 64) (q 65) (q 66), ra_N (q 61) cI 90 sa2_1, ra_I (q 62) cI 900 ft2_2, ra_I (q 63) cI 90 fa2_3, ra_I (q 64) cI 90 fo2_4, ro_rrrrrrrnn (q 11) 1 (q 10) (q 67) (q 68) (q 69) (q 70) (q 71) (q 72) dy mo, ra_I (q 67) cI 90 g1_13, ra_I (q 68) cI 9 g2_14, ro_rrnnnin o0 7 o1 o2 dy wn mo mu ke]) (ws' := [ro_rrrrrrrrrrrrrrrirl x0 11 (q 0) (q 1) (q 2) (q 3) (q 4) (q 5) (q 6) (q 7) (q 8) (q 9) (q 10) (q 11) (q 12) (q 13) (q 14) hc (q 16) dr, ro_rrrrrr (q 10) 9 (q 61) (q 62) (q 63) (q 64) (q 65) (q 66), ra_N (q 61) cI 90 sa2_1, ra_I (q 62) cI 900 ft2_2, ra_I (q 63) cI 90 fa2_3, ra_I (q 64) cI 90 fo2_4, ra_J (q 65) cJ 90 fg2_5, ra_I (q 66) cI 9 fk2_6, ro_rrrrrnniin (q 5) 2 (q 44) (q 45) (q 46) (q 47) (q 48) dh mh uh rh nh, ro_rrrrnn (q 44) 0 (q 49) (q 50) (q 51) (q 52) ch wh, ra_I (q 49) cI 1600 y1, ra_J (q 50) cJ 64 z2_7, ra_J (q 51) cJ 9 z3_8, ra_J (q 52) cJ 10 y4, ra_I (q 47) cI 3 yf, ra_I (q 48) cI 3 yt, ro_rrrrrrrnn (q 11) 1 (q 10) (q 67) (q 68) (q 69) (q 70) (q 71) (q 72) dy mo, ra_I (q 67) cI 90 g1_13, ra_I (q 68) cI 9 g2_14, ra_I (q 69) cI 10 e3, ro_rrnnnin o0 7 o1 o2 dy wn mo mu ke, ra_I o1 cI 9 fb, ra_I o2 cI 9 fw]) eu_16 [3, 4, 5, 6, 7, 0, 1, 2, 8] (by decide +kernel) rfl hP hD rfl (fun hP hD => ?_)
  refine lv_aload_n hx hb dX11_lookAt_25 rfl (lv_at hl 0 rfl) ?_
  refine sk_get (v := .ref (q 11)) (C := RX11) (T := TX11) (N := 18) hx hb hts inlX11 hown hK hP 0 rfl rfl 11 (Nat.le_of_ble_eq_true rfl) w_2_134 rfl dX11_lookAt_26 ?_
  refine sk_Vi (q0 := 0) (n := 0) (rest := []) (wr := fmR om_23_78 _) ⟨hx, hb, hml, hown, hts⟩ hl.1 (c_ksettle l D cI cJ cC cZ cS q dy mo g1_13 g2_14 e3 (kcFo L wn Ba We U 0) hdy hmo hld2_15) w_4_53 w_4_54 w_4_55 w_1_13 w_4_56 hd_X1_settle_0 ⟨⟨(Nat.le_of_ble_eq_true rfl), (Nat.le_of_ble_eq_true rfl)⟩, (Nat.le_of_ble_eq_true rfl), (Nat.le_of_ble_eq_true rfl)⟩ hK hP hD hS hA (fmT om_23_78 0) (fmF om_23_78 0) (fm_C1 rfl rfl) (fm_R rfl rfl) (fm_nT om_23_78 0) (fm_nF om_23_78 0) (fm_di om_23_78 0) rfl rfl rfl rfl (Nat.le_of_ble_eq_true rfl) dX11_lookAt_29 (fun r_19 u H locs hw hP hD hS => ?_)
  refine exE hw (fun b_17 hw1 => exE hw1 (fun g3_18 hw2 => anE hw2 (fun hb1_20 hw3 => anE hw3 (fun hlv2_21 hw4 => anE hw4 (fun er_23 eu_22 => ?_)))))
  clear hw hw1 hw2 hw3 hw4
  subst er_23
  refine o_mgE (ws' := [ro_rrrrrrrrrrrrrrrirl x0 11 (q 0) (q 1) (q 2) (q 3) (q 4) (q 5) (q 6) (q 7) (q 8) (q 9) (q 10) (q 11) (q 12) (q 13) (q 14) hc (q 16) dr, ro_rrrrrr (q 10) 9 (q 61) (q 62) (q 63) (q 64) (q 65) (q 66), ra_N (q 61) cI 90 sa2_1, ra_I (q 62) cI 900 ft2_2, ra_I (q 63) cI 90 fa2_3, ra_I (q 64) cI 90 fo2_4, ra_J (q 65) cJ 90 fg2_5, ra_I (q 66) cI 9 fk2_6, ro_rrrrrnniin (q 5) 2 (q 44) (q 45) (q 46) (q 47) (q 48) dh mh uh rh nh, ro_rrrrnn (q 44) 0 (q 49) (q 50) (q 51) (q 52) ch wh, ra_I (q 49) cI 1600 y1, ra_J (q 50) cJ 64 z2_7, ra_J (q 51) cJ 9 z3_8, ra_J (q 52) cJ 10 y4, ra_I (q 47) cI 3 yf, ra_I (q 48) cI 3 yt, ro_rrrrrrrnn (q 11) 1 (q 10) (q 67) (q 68) (q 69) (q 70) (q 71) (q 72) dy mo, ra_I (q 67) cI 90 g1_13, ra_I (q 68) cI 9 g2_14, ra_I (q 69) cI 10 g3_18, ro_rrnnnin o0 7 o1 o2 dy wn mo mu ke, ra_I o1 cI 9 fb, ra_I o2 cI 9 fw]) eu_22 hP hD rfl (fun hP hD => ?_)
  exact sk_iret hx hb hr (nbool b_17 (by omega)) hlocks hK hP hD hS (⟨sa2_1, ft2_2, fa2_3, fo2_4, fg2_5, fk2_6, z2_7, z3_8, g1_13, g2_14, g3_18, b_17, hsa2_9, hti2_10, hld2_15, hlv2_21, hb1_20, hrows_11, rfl, rfl⟩) (Nat.le_of_ble_eq_true rfl) (Nat.le_of_ble_eq_true rfl) dX11_lookAt_32
theorem dg_X11_pay_0_0 : bqL cX11_pay 0 [(0, [42]), (1, [182, 0, 204]), (4, [153, 0, 14]), (18, [20, 0, 198]), (21, [173]), (7, [42]), (8, [42]), (9, [180, 0, 59]), (12, [182, 0, 208]), (15, [154, 0, 7]), (22, [42]), (23, [180, 0, 85]), (26, [182, 0, 248]), (29, [173])] = true := by decide +kernel
theorem dX11_pay_0 : decode cX11_pay 0 = .ok (.aload_n 0, 1) := q_aload_n0 (bat_get dg_X11_pay_0_0 0 rfl rfl)
theorem dX11_pay_1 : decode cX11_pay 1 = .ok (.invokevirtual 204, 3) := q_invokevirtual (bat_get dg_X11_pay_0_0 1 rfl rfl) rfl
theorem dX11_pay_4 : decode cX11_pay 4 = .ok (.ifCond .eq 14, 3) := q_ifCond_eq (bat_get dg_X11_pay_0_0 2 rfl rfl) rfl
theorem dX11_pay_18 : decode cX11_pay 18 = .ok (.ldc2_w 198, 3) := q_ldc2_w (bat_get dg_X11_pay_0_0 3 rfl rfl) rfl
theorem dX11_pay_21 : decode cX11_pay 21 = .ok (.lreturn, 1) := q_lreturn (bat_get dg_X11_pay_0_0 4 rfl rfl)
theorem dX11_pay_7 : decode cX11_pay 7 = .ok (.aload_n 0, 1) := q_aload_n0 (bat_get dg_X11_pay_0_0 5 rfl rfl)
theorem dX11_pay_8 : decode cX11_pay 8 = .ok (.aload_n 0, 1) := q_aload_n0 (bat_get dg_X11_pay_0_0 6 rfl rfl)
theorem dX11_pay_9 : decode cX11_pay 9 = .ok (.getfield 59, 3) := q_getfield (bat_get dg_X11_pay_0_0 7 rfl rfl) rfl
theorem dX11_pay_12 : decode cX11_pay 12 = .ok (.invokevirtual 208, 3) := q_invokevirtual (bat_get dg_X11_pay_0_0 8 rfl rfl) rfl
theorem dX11_pay_15 : decode cX11_pay 15 = .ok (.ifCond .ne 7, 3) := q_ifCond_ne (bat_get dg_X11_pay_0_0 9 rfl rfl) rfl
theorem dX11_pay_22 : decode cX11_pay 22 = .ok (.aload_n 0, 1) := q_aload_n0 (bat_get dg_X11_pay_0_0 10 rfl rfl)
theorem dX11_pay_23 : decode cX11_pay 23 = .ok (.getfield 85, 3) := q_getfield (bat_get dg_X11_pay_0_0 11 rfl rfl) rfl
theorem dX11_pay_26 : decode cX11_pay 26 = .ok (.invokevirtual 248, 3) := q_invokevirtual (bat_get dg_X11_pay_0_0 12 rfl rfl) rfl
theorem dX11_pay_29 : decode cX11_pay 29 = .ok (.lreturn, 1) := q_lreturn (bat_get dg_X11_pay_0_0 13 rfl rfl)
theorem w_4_156 : (Cond.methodLink RX11 248 yX1_bestPay) ∈ wsL_law := sk_mem (ck_4 _ (List.mem_of_getElem? (i := 156) rfl)) rfl
theorem w_4_157 : (Cond.instanceMethod yX1_bestPay) ∈ wsL_law := sk_mem (ck_4 _ (List.mem_of_getElem? (i := 157) rfl)) rfl
theorem w_4_158 : (Cond.selects RX1 yX1_bestPay yX1_bestPay) ∈ wsL_law := sk_mem (ck_4 _ (List.mem_of_getElem? (i := 158) rfl)) rfl
theorem w_4_155 : (Cond.code yX11_pay cX11_pay 1 (some .long)) ∈ wsL_law := sk_mem (ck_4 _ (List.mem_of_getElem? (i := 155) rfl)) rfl
def om_24_4200f1 : List Bool := false :: true :: false :: false :: false :: false :: true :: false :: false :: false :: false :: false :: false :: false :: false :: false :: true :: true :: true :: true :: false :: false :: false :: true :: []
theorem hd_X1_bestPay_0 : skD yX1_bestPay 0 := by decide +kernel
set_option maxHeartbeats 4000000 in
set_option maxRecDepth 100000 in
theorem c_uy_pay (l : Launch) (D : va_G) (cI cJ cC cZ cS : ClassId) (x0 : Nat) (q : Nat → Nat) (hc : Int32) (dr : Int64) (sa : Nat → Nat) (ft : Nat → Int32) (fa : Nat → Int32) (fo : Nat → Int32) (fg : Nat → Int64) (fk : Nat → Int32) (dh : Nat) (mh : Nat) (uh : Int32) (rh : Int32) (nh : Nat) (ch : Nat) (wh : Nat) (y1 : Nat → Int32) (y2 : Nat → Int64) (y3 : Nat → Int64) (y4 : Nat → Int64) (yf : Nat → Int32) (yt : Nat → Int32) (gd : Nat) (gs : Nat) (e1 : Nat → Int32) (e2 : Nat → Int32) (e3 : Nat → Int32) (dy : Nat) (wn : Nat) (mo : Nat) (ke : Nat) (mu : Int32) (fb : Nat → Int32) (fw : Nat → Int32) (Ba : Nat → Nat) (We : Nat → Nat) (L : LkS) (U : Nat → Bool) (e6 : Nat → Int64) (hsa : ∀ j, sa j ≤ 9) (hch : ch ≤ 1600) (hwh : wh ≤ 1) (hdy : dy ≤ 9) (hmo : mo ≤ 9) (hgd : gd ≤ 9) (hgs : gs ≤ 9) (hLk : kcLk L) (hlq : 1 ≤ dy → cdK (lK (lkF L)) ch wh y1 ∧ ∀ v, v < 3 → sgO (lG (lkF L) v) (yf v) (yt v)) (htq : 1 ≤ dy → kcTI L sa ft fa fo fg fk) (hfb : ∀ j, j < 9 → fb j = nI (Ba j)) (hfw : ∀ j, j < 9 → fw j = nI (We j)) (hB9 : ∀ j, Ba j ≤ 9) (hW9 : ∀ j, We j ≤ 9) (hwn : wn ≤ 999) (hU : muO U mu) : skM l yX11_pay cX11_pay 1 (some .long) 6 149 0 0 D (skT cI cJ cC cZ cS) [.ref x0] [ro_rrrrrrrrrrrrrrrirl x0 11 (q 0) (q 1) (q 2) (q 3) (q 4) (q 5) (q 6) (q 7) (q 8) (q 9) (q 10) (q 11) (q 12) (q 13) (q 14) hc (q 16) dr, ro_rrrrrr (q 10) 9 (q 61) (q 62) (q 63) (q 64) (q 65) (q 66), ra_N (q 61) cI 90 sa, ra_I (q 62) cI 900 ft, ra_I (q 63) cI 90 fa, ra_I (q 64) cI 90 fo, ra_J (q 65) cJ 90 fg, ra_I (q 66) cI 9 fk, ro_rrrrrnniin (q 5) 2 (q 44) (q 45) (q 46) (q 47) (q 48) dh mh uh rh nh, ro_rrrrnn (q 44) 0 (q 49) (q 50) (q 51) (q 52) ch wh, ra_I (q 49) cI 1600 y1, ra_J (q 50) cJ 64 y2, ra_J (q 51) cJ 9 y3, ra_J (q 52) cJ 10 y4, ra_I (q 47) cI 3 yf, ra_I (q 48) cI 3 yt, ro_rrrrrrrnn (q 11) 1 (q 10) (q 67) (q 68) (q 69) (q 70) (q 71) (q 72) gd gs, ra_I (q 67) cI 90 e1, ra_I (q 68) cI 9 e2, ra_I (q 69) cI 10 e3, ro_rrnnnin (q 7) 7 (q 33) (q 34) dy wn mo mu ke, ra_I (q 33) cI 9 fb, ra_I (q 34) cI 9 fw, ra_J (q 72) cJ 100 e6] (skL D (skT cI cJ cC cZ cS) (fun (r : Int64) (u : va_W) => ∃ (sa2 : Nat → Nat), ∃ (ft2 : Nat → Int32), ∃ (fa2 : Nat → Int32), ∃ (fo2 : Nat → Int32), ∃ (fg2 : Nat → Int64), ∃ (fk2 : Nat → Int32), ∃ (z2 : Nat → Int64), ∃ (z3 : Nat → Int64), ∃ (g1 : Nat → Int32), ∃ (g2 : Nat → Int32), ∃ (g3 : Nat → Int32), ∃ (gd2 : Nat), ∃ (gs2 : Nat), ∃ (g6 : Nat → Int64), (∀ j, sa2 j ≤ 9) ∧ (1 ≤ dy → kcTI L sa2 ft2 fa2 fo2 fg2 fk2) ∧ gd2 ≤ 9 ∧ gs2 ≤ 9 ∧ payR (kcFo L wn Ba We U 0) (kWg L wn Ba We) dy mo r ∧ u = [ro_rrrrrrrrrrrrrrrirl x0 11 (q 0) (q 1) (q 2) (q 3) (q 4) (q 5) (q 6) (q 7) (q 8) (q 9) (q 10) (q 11) (q 12) (q 13) (q 14) hc (q 16) dr, ro_rrrrrr (q 10) 9 (q 61) (q 62) (q 63) (q 64) (q 65) (q 66), ra_N (q 61) cI 90 sa2, ra_I (q 62) cI 900 ft2, ra_I (q 63) cI 90 fa2, ra_I (q 64) cI 90 fo2, ra_J (q 65) cJ 90 fg2, ra_I (q 66) cI 9 fk2, ro_rrrrrnniin (q 5) 2 (q 44) (q 45) (q 46) (q 47) (q 48) dh mh uh rh nh, ro_rrrrnn (q 44) 0 (q 49) (q 50) (q 51) (q 52) ch wh, ra_I (q 49) cI 1600 y1, ra_J (q 50) cJ 64 z2, ra_J (q 51) cJ 9 z3, ra_J (q 52) cJ 10 y4, ra_I (q 47) cI 3 yf, ra_I (q 48) cI 3 yt, ro_rrrrrrrnn (q 11) 1 (q 10) (q 67) (q 68) (q 69) (q 70) (q 71) (q 72) gd2 gs2, ra_I (q 67) cI 90 g1, ra_I (q 68) cI 9 g2, ra_I (q 69) cI 10 g3, ro_rrnnnin (q 7) 7 (q 33) (q 34) dy wn mo mu ke, ra_I (q 33) cI 9 fb, ra_I (q 34) cI 9 fw, ra_J (q 72) cJ 100 g6])) := by
  refine skM_of pf_X11_pay (Nat.le_of_ble_eq_true rfl) ?_
  intro p e s m below meth c A ls E hP hD hl
  refine skE_el E (fun hx hb hr hml hlocks hin hown hts hK hA => ?_)
  have hown : s.vm.findClass RX11 = some m.cls := hown
  have hS : va_S A s.heap s.heap [] := va_S.rf
  have hl : lv_has ls 1 [(0, .ref x0)] := hl
  refine lv_aload_n hx hb dX11_pay_0 rfl (lv_at hl 0 rfl) ?_
  refine sk_Vi (q0 := 0) (n := 0) (rest := []) (wr := fmR om_24_800008 _) ⟨hx, hb, hml, hown, hts⟩ hl.1 (c_kx_isLocked l D cI cJ cC cZ cS x0 q hc dr dy wn mo ke mu fb fw hdy) w_4_39 w_4_41 w_0_18 w_1_1 w_4_42 hd_X11_isLocked_0 ⟨⟨(Nat.le_of_ble_eq_true rfl), (Nat.le_of_ble_eq_true rfl)⟩, (Nat.le_of_ble_eq_true rfl), (Nat.le_of_ble_eq_true rfl)⟩ hK hP hD hS hA (fmT om_24_800008 0) (fmF om_24_800008 0) (fm_C1 rfl rfl) (fm_R rfl rfl) (fm_nT om_24_800008 0) (fm_nF om_24_800008 0) (fm_di om_24_800008 0) rfl rfl rfl rfl (Nat.le_of_ble_eq_true rfl) dX11_pay_1 (fun r_2 u H locs hw hP hD hS => ?_)
  refine exE hw (fun b_1 hw1 => anE hw1 (fun hb1_3 hw2 => anE hw2 (fun er_5 eu_4 => ?_)))
  clear hw hw1 hw2
  subst er_5
  refine o_mgE (ws' := [ro_rrrrrrrrrrrrrrrirl x0 11 (q 0) (q 1) (q 2) (q 3) (q 4) (q 5) (q 6) (q 7) (q 8) (q 9) (q 10) (q 11) (q 12) (q 13) (q 14) hc (q 16) dr, ro_rrrrrr (q 10) 9 (q 61) (q 62) (q 63) (q 64) (q 65) (q 66), ra_N (q 61) cI 90 sa, ra_I (q 62) cI 900 ft, ra_I (q 63) cI 90 fa, ra_I (q 64) cI 90 fo, ra_J (q 65) cJ 90 fg, ra_I (q 66) cI 9 fk, ro_rrrrrnniin (q 5) 2 (q 44) (q 45) (q 46) (q 47) (q 48) dh mh uh rh nh, ro_rrrrnn (q 44) 0 (q 49) (q 50) (q 51) (q 52) ch wh, ra_I (q 49) cI 1600 y1, ra_J (q 50) cJ 64 y2, ra_J (q 51) cJ 9 y3, ra_J (q 52) cJ 10 y4, ra_I (q 47) cI 3 yf, ra_I (q 48) cI 3 yt, ro_rrrrrrrnn (q 11) 1 (q 10) (q 67) (q 68) (q 69) (q 70) (q 71) (q 72) gd gs, ra_I (q 67) cI 90 e1, ra_I (q 68) cI 9 e2, ra_I (q 69) cI 10 e3, ro_rrnnnin (q 7) 7 (q 33) (q 34) dy wn mo mu ke, ra_I (q 33) cI 9 fb, ra_I (q 34) cI 9 fw, ra_J (q 72) cJ 100 e6]) eu_4 hP hD rfl (fun hP hD => ?_)
  refine lv_if_eq (tgt := 18) hx hb dX11_pay_4 (by decide) (fun c_6 => ?_) (fun c_6 => ?_)
  · have c_6 : b_1 = 0 := (neq b_1 0 (by omega) (Nat.le_of_ble_eq_true rfl)).mp c_6
    refine lv_ldc2 (v := (-1000000000000000)) hx hb hown (hts _ w_4_29) dX11_pay_18 ?_
    exact sk_lret hx hb hr hlocks hK hP hD hS (⟨sa, ft, fa, fo, fg, fk, y2, y3, e1, e2, e3, gd, gs, e6, hsa, htq, hgd, hgs, kB_0 (fun hq => absurd hq.1 (by omega)) rfl, rfl⟩) (Nat.le_of_ble_eq_true rfl) (Nat.le_of_ble_eq_true rfl) dX11_pay_21
  · have c_6 : ¬ (b_1 = 0) := fun h => c_6 ((neq b_1 0 (by omega) (Nat.le_of_ble_eq_true rfl)).mpr h)
    refine lv_aload_n hx hb dX11_pay_7 rfl (lv_at hl 0 rfl) ?_
    refine lv_aload_n hx hb dX11_pay_8 rfl (lv_at hl 0 rfl) ?_
    refine sk_get (v := .ref (q 7)) (C := RX11) (T := TX11) (N := 18) hx hb hts inlX11 hown hK hP 0 rfl rfl 7 (Nat.le_of_ble_eq_true rfl) w_2_130 rfl dX11_pay_9 ?_
    refine sk_Vi (q0 := 0) (n := 1) (rest := []) (wr := fmR om_24_fffffe _) ⟨hx, hb, hml, hown, hts⟩ hl.1 (c_ux_lookAtR l D cI cJ cC cZ cS x0 q hc dr sa ft fa fo fg fk dh mh uh rh nh ch wh y1 y2 y3 y4 yf yt gd gs e1 e2 e3 (q 7) (q 33) (q 34) dy wn mo ke mu fb fw Ba We L U hsa hch hwh hdy hmo hLk (hlq (by omega)).1 (hlq (by omega)).2 hfb hfw hB9 hW9 hwn hU (htq (by omega))) w_4_43 w_4_45 w_0_19 w_1_1 w_4_46 hd_X11_lookAt_1 ⟨⟨(Nat.le_of_ble_eq_true rfl), (Nat.le_of_ble_eq_true rfl)⟩, (Nat.le_of_ble_eq_true rfl), (Nat.le_of_ble_eq_true rfl)⟩ hK hP hD hS hA (fmT om_24_fffffe 0) (fmF om_24_fffffe 0) (fm_C1 rfl rfl) (fm_R rfl rfl) (fm_nT om_24_fffffe 0) (fm_nF om_24_fffffe 0) (fm_di om_24_fffffe 0) rfl rfl rfl rfl (Nat.le_of_ble_eq_true rfl) dX11_pay_12 (fun r_19 u H locs hw hP hD hS => ?_)
    refine exE hw (fun sa2_7 hw1 => exE hw1 (fun ft2_8 hw2 => exE hw2 (fun fa2_9 hw3 => exE hw3 (fun fo2_10 hw4 => exE hw4 (fun fg2_11 hw5 => exE hw5 (fun fk2_12 hw6 => exE hw6 (fun z2_13 hw7 => exE hw7 (fun z3_14 hw8 => exE hw8 (fun g1_15 hw9 => exE hw9 (fun g2_16 hw10 => exE hw10 (fun g3_17 hw11 => exE hw11 (fun b_18 hw12 => anE hw12 (fun hsa2_20 hw13 => anE hw13 (fun hti2_21 hw14 => anE hw14 (fun hld2_22 hw15 => anE hw15 (fun hlv2_23 hw16 => anE hw16 (fun hb1_24 hw17 => anE hw17 (fun hrows_25 hw18 => anE hw18 (fun er_27 eu_26 => ?_)))))))))))))))))))
    clear hw hw1 hw2 hw3 hw4 hw5 hw6 hw7 hw8 hw9 hw10 hw11 hw12 hw13 hw14 hw15 hw16 hw17 hw18
    subst er_27
    refine o_mgE (ws' := [ro_rrrrrrrrrrrrrrrirl x0 11 (q 0) (q 1) (q 2) (q 3) (q 4) (q 5) (q 6) (q 7) (q 8) (q 9) (q 10) (q 11) (q 12) (q 13) (q 14) hc (q 16) dr, ro_rrrrrr (q 10) 9 (q 61) (q 62) (q 63) (q 64) (q 65) (q 66), ra_N (q 61) cI 90 sa2_7, ra_I (q 62) cI 900 ft2_8, ra_I (q 63) cI 90 fa2_9, ra_I (q 64) cI 90 fo2_10, ra_J (q 65) cJ 90 fg2_11, ra_I (q 66) cI 9 fk2_12, ro_rrrrrnniin (q 5) 2 (q 44) (q 45) (q 46) (q 47) (q 48) dh mh uh rh nh, ro_rrrrnn (q 44) 0 (q 49) (q 50) (q 51) (q 52) ch wh, ra_I (q 49) cI 1600 y1, ra_J (q 50) cJ 64 z2_13, ra_J (q 51) cJ 9 z3_14, ra_J (q 52) cJ 10 y4, ra_I (q 47) cI 3 yf, ra_I (q 48) cI 3 yt, ro_rrrrrrrnn (q 11) 1 (q 10) (q 67) (q 68) (q 69) (q 70) (q 71) (q 72) dy mo, ra_I (q 67) cI 90 g1_15, ra_I (q 68) cI 9 g2_16, ra_I (q 69) cI 10 g3_17, ro_rrnnnin (q 7) 7 (q 33) (q 34) dy wn mo mu ke, ra_I (q 33) cI 9 fb, ra_I (q 34) cI 9 fw, ra_J (q 72) cJ 100 e6]) eu_26 hP hD rfl (fun hP hD => ?_)
    refine lv_if_ne (tgt := 22) hx hb dX11_pay_15 (by decide) (fun c_28 => ?_) (fun c_28 => ?_)
    · have c_28 : ¬ (b_18 = 0) := fun h => c_28 ((neq b_18 0 (by omega) (Nat.le_of_ble_eq_true rfl)).mpr h)
      refine lv_aload_n hx hb dX11_pay_22 rfl (lv_at hl 0 rfl) ?_
      refine sk_get (v := .ref (q 11)) (C := RX11) (T := TX11) (N := 18) hx hb hts inlX11 hown hK hP 0 rfl rfl 11 (Nat.le_of_ble_eq_true rfl) w_2_134 rfl dX11_pay_23 ?_
      refine sk_Vl (q0 := 0) (n := 0) (rest := []) (wr := fmR om_24_4200f1 _) ⟨hx, hb, hml, hown, hts⟩ hl.1 (c_ubestPay l D cI cJ cC cZ cS q dy mo g1_15 g2_16 g3_17 e6 fg2_11 (kcFo L wn Ba We U 0) (kWg L wn Ba We) hdy hmo hld2_22 hlv2_23 (kwg_b hLk hwn hB9 hW9 (by omega)) (fun d m hd hm => congrArg Int64.toInt ((hrows_25 d hd).1 m hm).2)) w_4_156 w_4_157 w_4_158 w_1_13 w_4_159 hd_X1_bestPay_0 ⟨⟨(Nat.le_of_ble_eq_true rfl), (Nat.le_of_ble_eq_true rfl)⟩, (Nat.le_of_ble_eq_true rfl), (Nat.le_of_ble_eq_true rfl)⟩ hK hP hD hS hA [16, 17, 18, 19, 23, 1, 6] (fmF om_24_4200f1 0) rfl (fm_R rfl rfl) (by decide +kernel) (fm_nF om_24_4200f1 0) (by decide +kernel) rfl rfl rfl rfl (Nat.le_of_ble_eq_true rfl) dX11_pay_26 (fun r_30 u H locs hw hP hD hS => ?_)
      refine exE hw (fun g6_29 hw1 => anE hw1 (fun hpy_31 hw2 => anE hw2 (fun hgn_32 eu_33 => ?_)))
      clear hw hw1 hw2
      refine o_mgqE (ux := [ro_rrrrrr (q 10) 9 (q 61) (q 62) (q 63) (q 64) (q 65) (q 66), ra_J (q 65) cJ 90 fg2_11, ro_rrrrrrrnn (q 11) 1 (q 10) (q 67) (q 68) (q 69) (q 70) (q 71) (q 72) dy mo, ra_I (q 67) cI 90 g1_15, ra_I (q 68) cI 9 g2_16, ra_I (q 69) cI 10 g3_17, ra_J (q 72) cJ 100 g6_29]) (ws' := [ro_rrrrrrrrrrrrrrrirl x0 11 (q 0) (q 1) (q 2) (q 3) (q 4) (q 5) (q 6) (q 7) (q 8) (q 9) (q 10) (q 11) (q 12) (q 13) (q 14) hc (q 16) dr, ro_rrrrrr (q 10) 9 (q 61) (q 62) (q 63) (q 64) (q 65) (q 66), ra_N (q 61) cI 90 sa2_7, ra_I (q 62) cI 900 ft2_8, ra_I (q 63) cI 90 fa2_9, ra_I (q 64) cI 90 fo2_10, ra_J (q 65) cJ 90 fg2_11, ra_I (q 66) cI 9 fk2_12, ro_rrrrrnniin (q 5) 2 (q 44) (q 45) (q 46) (q 47) (q 48) dh mh uh rh nh, ro_rrrrnn (q 44) 0 (q 49) (q 50) (q 51) (q 52) ch wh, ra_I (q 49) cI 1600 y1, ra_J (q 50) cJ 64 z2_13, ra_J (q 51) cJ 9 z3_14, ra_J (q 52) cJ 10 y4, ra_I (q 47) cI 3 yf, ra_I (q 48) cI 3 yt, ro_rrrrrrrnn (q 11) 1 (q 10) (q 67) (q 68) (q 69) (q 70) (q 71) (q 72) dy mo, ra_I (q 67) cI 90 g1_15, ra_I (q 68) cI 9 g2_16, ra_I (q 69) cI 10 g3_17, ro_rrnnnin (q 7) 7 (q 33) (q 34) dy wn mo mu ke, ra_I (q 33) cI 9 fb, ra_I (q 34) cI 9 fw, ra_J (q 72) cJ 100 g6_29]) eu_33 [5, 6, 0, 1, 2, 3, 4] (by decide +kernel) rfl hP hD rfl (fun hP hD => ?_)
      exact sk_lret hx hb hr hlocks hK hP hD hS (⟨sa2_7, ft2_8, fa2_9, fo2_10, fg2_11, fk2_12, z2_13, z3_14, g1_15, g2_16, g3_17, dy, mo, g6_29, hsa2_20, (fun _ => hti2_21), hdy, hmo, kB_1 ⟨by omega, rr_1 hb1_24 (by omega)⟩ hpy_31, rfl⟩) (Nat.le_of_ble_eq_true rfl) (Nat.le_of_ble_eq_true rfl) dX11_pay_29
    · have c_28 : b_18 = 0 := (neq b_18 0 (by omega) (Nat.le_of_ble_eq_true rfl)).mp c_28
      refine lv_ldc2 (v := (-1000000000000000)) hx hb hown (hts _ w_4_29) dX11_pay_18 ?_
      exact sk_lret hx hb hr hlocks hK hP hD hS (⟨sa2_7, ft2_8, fa2_9, fo2_10, fg2_11, fk2_12, z2_13, z3_14, g1_15, g2_16, g3_17, dy, mo, e6, hsa2_20, (fun _ => hti2_21), hdy, hmo, kB_0 (fun hq => absurd hq.2 (by rw [rr_0 hb1_24 (by omega)]; exact Nat.lt_irrefl 0)) rfl, rfl⟩) (Nat.le_of_ble_eq_true rfl) (Nat.le_of_ble_eq_true rfl) dX11_pay_21
theorem dg_X11_paid_0_0 : bqL cX11_paid 0 [(0, [42]), (1, [27]), (2, [182, 0, 170]), (5, [153, 0, 14]), (19, [2]), (20, [172]), (8, [42]), (9, [42]), (10, [180, 0, 59]), (13, [182, 0, 208]), (16, [154, 0, 5]), (21, [42]), (22, [180, 0, 85]), (25, [182, 0, 248]), (28, [88]), (29, [42]), (30, [180, 0, 85]), (33, [42]), (34, [180, 0, 89]), (37, [182, 0, 251]), (40, [42]), (41, [180, 0, 89]), (44, [27]), (45, [46]), (46, [172])] = true := by decide +kernel
theorem dX11_paid_0 : decode cX11_paid 0 = .ok (.aload_n 0, 1) := q_aload_n0 (bat_get dg_X11_paid_0_0 0 rfl rfl)
theorem dX11_paid_1 : decode cX11_paid 1 = .ok (.iload_n 1, 1) := q_iload_n1 (bat_get dg_X11_paid_0_0 1 rfl rfl)
theorem dX11_paid_2 : decode cX11_paid 2 = .ok (.invokevirtual 170, 3) := q_invokevirtual (bat_get dg_X11_paid_0_0 2 rfl rfl) rfl
theorem dX11_paid_5 : decode cX11_paid 5 = .ok (.ifCond .eq 14, 3) := q_ifCond_eq (bat_get dg_X11_paid_0_0 3 rfl rfl) rfl
theorem dX11_paid_19 : decode cX11_paid 19 = .ok (.iconst (-1), 1) := q_iconstm1 (bat_get dg_X11_paid_0_0 4 rfl rfl)
theorem dX11_paid_20 : decode cX11_paid 20 = .ok (.ireturn, 1) := q_ireturn (bat_get dg_X11_paid_0_0 5 rfl rfl)
theorem dX11_paid_8 : decode cX11_paid 8 = .ok (.aload_n 0, 1) := q_aload_n0 (bat_get dg_X11_paid_0_0 6 rfl rfl)
theorem dX11_paid_9 : decode cX11_paid 9 = .ok (.aload_n 0, 1) := q_aload_n0 (bat_get dg_X11_paid_0_0 7 rfl rfl)
theorem dX11_paid_10 : decode cX11_paid 10 = .ok (.getfield 59, 3) := q_getfield (bat_get dg_X11_paid_0_0 8 rfl rfl) rfl
theorem dX11_paid_13 : decode cX11_paid 13 = .ok (.invokevirtual 208, 3) := q_invokevirtual (bat_get dg_X11_paid_0_0 9 rfl rfl) rfl
theorem dX11_paid_16 : decode cX11_paid 16 = .ok (.ifCond .ne 5, 3) := q_ifCond_ne (bat_get dg_X11_paid_0_0 10 rfl rfl) rfl
theorem dX11_paid_21 : decode cX11_paid 21 = .ok (.aload_n 0, 1) := q_aload_n0 (bat_get dg_X11_paid_0_0 11 rfl rfl)
theorem dX11_paid_22 : decode cX11_paid 22 = .ok (.getfield 85, 3) := q_getfield (bat_get dg_X11_paid_0_0 12 rfl rfl) rfl
theorem dX11_paid_25 : decode cX11_paid 25 = .ok (.invokevirtual 248, 3) := q_invokevirtual (bat_get dg_X11_paid_0_0 13 rfl rfl) rfl
theorem dX11_paid_28 : decode cX11_paid 28 = .ok (.pop2, 1) := q_pop2 (bat_get dg_X11_paid_0_0 14 rfl rfl)
theorem dX11_paid_29 : decode cX11_paid 29 = .ok (.aload_n 0, 1) := q_aload_n0 (bat_get dg_X11_paid_0_0 15 rfl rfl)
theorem dX11_paid_30 : decode cX11_paid 30 = .ok (.getfield 85, 3) := q_getfield (bat_get dg_X11_paid_0_0 16 rfl rfl) rfl
theorem dX11_paid_33 : decode cX11_paid 33 = .ok (.aload_n 0, 1) := q_aload_n0 (bat_get dg_X11_paid_0_0 17 rfl rfl)
theorem dX11_paid_34 : decode cX11_paid 34 = .ok (.getfield 89, 3) := q_getfield (bat_get dg_X11_paid_0_0 18 rfl rfl) rfl
theorem dX11_paid_37 : decode cX11_paid 37 = .ok (.invokevirtual 251, 3) := q_invokevirtual (bat_get dg_X11_paid_0_0 19 rfl rfl) rfl
theorem dX11_paid_40 : decode cX11_paid 40 = .ok (.aload_n 0, 1) := q_aload_n0 (bat_get dg_X11_paid_0_0 20 rfl rfl)
theorem dX11_paid_41 : decode cX11_paid 41 = .ok (.getfield 89, 3) := q_getfield (bat_get dg_X11_paid_0_0 21 rfl rfl) rfl
theorem dX11_paid_44 : decode cX11_paid 44 = .ok (.iload_n 1, 1) := q_iload_n1 (bat_get dg_X11_paid_0_0 22 rfl rfl)
theorem dX11_paid_45 : decode cX11_paid 45 = .ok (.iaload, 1) := q_iaload (bat_get dg_X11_paid_0_0 23 rfl rfl)
theorem dX11_paid_46 : decode cX11_paid 46 = .ok (.ireturn, 1) := q_ireturn (bat_get dg_X11_paid_0_0 24 rfl rfl)
theorem w_4_170 : (Cond.methodLink RX11 251 yX1_takeBestPaid) ∈ wsL_law := sk_mem (ck_4 _ (List.mem_of_getElem? (i := 170) rfl)) rfl
theorem w_4_171 : (Cond.instanceMethod yX1_takeBestPaid) ∈ wsL_law := sk_mem (ck_4 _ (List.mem_of_getElem? (i := 171) rfl)) rfl
theorem w_4_172 : (Cond.selects RX1 yX1_takeBestPaid yX1_takeBestPaid) ∈ wsL_law := sk_mem (ck_4 _ (List.mem_of_getElem? (i := 172) rfl)) rfl
theorem w_4_169 : (Cond.code yX11_paid cX11_paid 2 (some .int)) ∈ wsL_law := sk_mem (ck_4 _ (List.mem_of_getElem? (i := 169) rfl)) rfl
def om_25_8401e2 : List Bool := false :: true :: false :: false :: false :: false :: true :: false :: false :: false :: false :: false :: false :: false :: false :: false :: true :: true :: true :: true :: false :: false :: false :: true :: false :: []
def om_25_8401e3 : List Bool := false :: true :: false :: false :: false :: false :: true :: false :: false :: false :: false :: false :: false :: false :: false :: false :: true :: true :: true :: true :: false :: false :: false :: true :: true :: []
theorem hd_X1_takeBestPaid_1 : skD yX1_takeBestPaid 1 := by decide +kernel
set_option maxHeartbeats 4000000 in
set_option maxRecDepth 100000 in
theorem c_uy_paid (l : Launch) (D : va_G) (cI cJ cC cZ cS : ClassId) (x0 : Nat) (q : Nat → Nat) (hc : Int32) (dr : Int64) (sa : Nat → Nat) (ft : Nat → Int32) (fa : Nat → Int32) (fo : Nat → Int32) (fg : Nat → Int64) (fk : Nat → Int32) (dh : Nat) (mh : Nat) (uh : Int32) (rh : Int32) (nh : Nat) (ch : Nat) (wh : Nat) (y1 : Nat → Int32) (y2 : Nat → Int64) (y3 : Nat → Int64) (y4 : Nat → Int64) (yf : Nat → Int32) (yt : Nat → Int32) (gd : Nat) (gs : Nat) (e1 : Nat → Int32) (e2 : Nat → Int32) (e3 : Nat → Int32) (dy : Nat) (wn : Nat) (mo : Nat) (ke : Nat) (mu : Int32) (fb : Nat → Int32) (fw : Nat → Int32) (Ba : Nat → Nat) (We : Nat → Nat) (L : LkS) (U : Nat → Bool) (e6 : Nat → Int64) (ra : Nat → Int32) (d : Int32) (hsa : ∀ j, sa j ≤ 9) (hch : ch ≤ 1600) (hwh : wh ≤ 1) (hdy : dy ≤ 9) (hmo : mo ≤ 9) (hgd : gd ≤ 9) (hgs : gs ≤ 9) (hLk : kcLk L) (hlq : 1 ≤ dy → cdK (lK (lkF L)) ch wh y1 ∧ ∀ v, v < 3 → sgO (lG (lkF L) v) (yf v) (yt v)) (htq : 1 ≤ dy → kcTI L sa ft fa fo fg fk) (hfb : ∀ j, j < 9 → fb j = nI (Ba j)) (hfw : ∀ j, j < 9 → fw j = nI (We j)) (hB9 : ∀ j, Ba j ≤ 9) (hW9 : ∀ j, We j ≤ 9) (hwn : wn ≤ 999) (hU : muO U mu) : skM l yX11_paid cX11_paid 2 (some .int) 6 149 0 0 D (skT cI cJ cC cZ cS) [.ref x0, .int d] [ro_rrrrrrrrrrrrrrrirl x0 11 (q 0) (q 1) (q 2) (q 3) (q 4) (q 5) (q 6) (q 7) (q 8) (q 9) (q 10) (q 11) (q 12) (q 13) (q 14) hc (q 16) dr, ro_rrrrrr (q 10) 9 (q 61) (q 62) (q 63) (q 64) (q 65) (q 66), ra_N (q 61) cI 90 sa, ra_I (q 62) cI 900 ft, ra_I (q 63) cI 90 fa, ra_I (q 64) cI 90 fo, ra_J (q 65) cJ 90 fg, ra_I (q 66) cI 9 fk, ro_rrrrrnniin (q 5) 2 (q 44) (q 45) (q 46) (q 47) (q 48) dh mh uh rh nh, ro_rrrrnn (q 44) 0 (q 49) (q 50) (q 51) (q 52) ch wh, ra_I (q 49) cI 1600 y1, ra_J (q 50) cJ 64 y2, ra_J (q 51) cJ 9 y3, ra_J (q 52) cJ 10 y4, ra_I (q 47) cI 3 yf, ra_I (q 48) cI 3 yt, ro_rrrrrrrnn (q 11) 1 (q 10) (q 67) (q 68) (q 69) (q 70) (q 71) (q 72) gd gs, ra_I (q 67) cI 90 e1, ra_I (q 68) cI 9 e2, ra_I (q 69) cI 10 e3, ro_rrnnnin (q 7) 7 (q 33) (q 34) dy wn mo mu ke, ra_I (q 33) cI 9 fb, ra_I (q 34) cI 9 fw, ra_J (q 72) cJ 100 e6, ra_I (q 12) cI 9 ra] (skI D (skT cI cJ cC cZ cS) (fun (r : Int32) (u : va_W) => ∃ (sa2 : Nat → Nat), ∃ (ft2 : Nat → Int32), ∃ (fa2 : Nat → Int32), ∃ (fo2 : Nat → Int32), ∃ (fg2 : Nat → Int64), ∃ (fk2 : Nat → Int32), ∃ (z2 : Nat → Int64), ∃ (z3 : Nat → Int64), ∃ (g1 : Nat → Int32), ∃ (g2 : Nat → Int32), ∃ (g3 : Nat → Int32), ∃ (gd2 : Nat), ∃ (gs2 : Nat), ∃ (g6 : Nat → Int64), ∃ (ra2 : Nat → Int32), (∀ j, sa2 j ≤ 9) ∧ (1 ≤ dy → kcTI L sa2 ft2 fa2 fo2 fg2 fk2) ∧ gd2 ≤ 9 ∧ gs2 ≤ 9 ∧ paidR (kcFo L wn Ba We U 0) (kWg L wn Ba We) dy mo d r ∧ u = [ro_rrrrrrrrrrrrrrrirl x0 11 (q 0) (q 1) (q 2) (q 3) (q 4) (q 5) (q 6) (q 7) (q 8) (q 9) (q 10) (q 11) (q 12) (q 13) (q 14) hc (q 16) dr, ro_rrrrrr (q 10) 9 (q 61) (q 62) (q 63) (q 64) (q 65) (q 66), ra_N (q 61) cI 90 sa2, ra_I (q 62) cI 900 ft2, ra_I (q 63) cI 90 fa2, ra_I (q 64) cI 90 fo2, ra_J (q 65) cJ 90 fg2, ra_I (q 66) cI 9 fk2, ro_rrrrrnniin (q 5) 2 (q 44) (q 45) (q 46) (q 47) (q 48) dh mh uh rh nh, ro_rrrrnn (q 44) 0 (q 49) (q 50) (q 51) (q 52) ch wh, ra_I (q 49) cI 1600 y1, ra_J (q 50) cJ 64 z2, ra_J (q 51) cJ 9 z3, ra_J (q 52) cJ 10 y4, ra_I (q 47) cI 3 yf, ra_I (q 48) cI 3 yt, ro_rrrrrrrnn (q 11) 1 (q 10) (q 67) (q 68) (q 69) (q 70) (q 71) (q 72) gd2 gs2, ra_I (q 67) cI 90 g1, ra_I (q 68) cI 9 g2, ra_I (q 69) cI 10 g3, ro_rrnnnin (q 7) 7 (q 33) (q 34) dy wn mo mu ke, ra_I (q 33) cI 9 fb, ra_I (q 34) cI 9 fw, ra_J (q 72) cJ 100 g6, ra_I (q 12) cI 9 ra2])) := by
  refine skM_of pf_X11_paid (Nat.le_of_ble_eq_true rfl) ?_
  intro p e s m below meth c A ls E hP hD hl
  refine skE_el E (fun hx hb hr hml hlocks hin hown hts hK hA => ?_)
  have hown : s.vm.findClass RX11 = some m.cls := hown
  have hS : va_S A s.heap s.heap [] := va_S.rf
  have hl : lv_has ls 2 [(0, .ref x0), (1, .int d)] := hl
  refine lv_aload_n hx hb dX11_paid_0 rfl (lv_at hl 0 rfl) ?_
  refine lv_iload_n hx hb dX11_paid_1 rfl (lv_at hl 1 rfl) ?_
  refine sk_Vi (q0 := 0) (n := 1) (rest := []) (wr := fmR om_25_1000010 _) ⟨hx, hb, hml, hown, hts⟩ hl.1 (c_kx_isDay l D cI cJ cC cZ cS x0 q hc dr dy wn mo ke mu fb fw d hdy) w_3_190 w_3_192 w_0_14 w_1_1 w_3_193 hd_X11_isDay_1 ⟨⟨(Nat.le_of_ble_eq_true rfl), (Nat.le_of_ble_eq_true rfl)⟩, (Nat.le_of_ble_eq_true rfl), (Nat.le_of_ble_eq_true rfl)⟩ hK hP hD hS hA (fmT om_25_1000010 0) (fmF om_25_1000010 0) (fm_C1 rfl rfl) (fm_R rfl rfl) (fm_nT om_25_1000010 0) (fm_nF om_25_1000010 0) (fm_di om_25_1000010 0) rfl rfl rfl rfl (Nat.le_of_ble_eq_true rfl) dX11_paid_2 (fun r_2 u H locs hw hP hD hS => ?_)
  refine exE hw (fun b_1 hw1 => anE hw1 (fun hb1_3 hw2 => anE hw2 (fun er_5 eu_4 => ?_)))
  clear hw hw1 hw2
  subst er_5
  refine o_mgE (ws' := [ro_rrrrrrrrrrrrrrrirl x0 11 (q 0) (q 1) (q 2) (q 3) (q 4) (q 5) (q 6) (q 7) (q 8) (q 9) (q 10) (q 11) (q 12) (q 13) (q 14) hc (q 16) dr, ro_rrrrrr (q 10) 9 (q 61) (q 62) (q 63) (q 64) (q 65) (q 66), ra_N (q 61) cI 90 sa, ra_I (q 62) cI 900 ft, ra_I (q 63) cI 90 fa, ra_I (q 64) cI 90 fo, ra_J (q 65) cJ 90 fg, ra_I (q 66) cI 9 fk, ro_rrrrrnniin (q 5) 2 (q 44) (q 45) (q 46) (q 47) (q 48) dh mh uh rh nh, ro_rrrrnn (q 44) 0 (q 49) (q 50) (q 51) (q 52) ch wh, ra_I (q 49) cI 1600 y1, ra_J (q 50) cJ 64 y2, ra_J (q 51) cJ 9 y3, ra_J (q 52) cJ 10 y4, ra_I (q 47) cI 3 yf, ra_I (q 48) cI 3 yt, ro_rrrrrrrnn (q 11) 1 (q 10) (q 67) (q 68) (q 69) (q 70) (q 71) (q 72) gd gs, ra_I (q 67) cI 90 e1, ra_I (q 68) cI 9 e2, ra_I (q 69) cI 10 e3, ro_rrnnnin (q 7) 7 (q 33) (q 34) dy wn mo mu ke, ra_I (q 33) cI 9 fb, ra_I (q 34) cI 9 fw, ra_J (q 72) cJ 100 e6, ra_I (q 12) cI 9 ra]) eu_4 hP hD rfl (fun hP hD => ?_)
  refine lv_if_eq (tgt := 19) hx hb dX11_paid_5 (by decide) (fun c_6 => ?_) (fun c_6 => ?_)
  · have c_6 : b_1 = 0 := (neq b_1 0 (by omega) (Nat.le_of_ble_eq_true rfl)).mp c_6
    refine lv_iconst (v := (-1)) hx hb dX11_paid_19 (by decide) ?_
    exact sk_iret hx hb hr rfl hlocks hK hP hD hS (⟨sa, ft, fa, fo, fg, fk, y2, y3, e1, e2, e3, gd, gs, e6, ra, hsa, htq, hgd, hgs, pad_0 (rr_0 hb1_3 (by omega)), rfl⟩) (Nat.le_of_ble_eq_true rfl) (Nat.le_of_ble_eq_true rfl) dX11_paid_20
  · have c_6 : ¬ (b_1 = 0) := fun h => c_6 ((neq b_1 0 (by omega) (Nat.le_of_ble_eq_true rfl)).mpr h)
    obtain ⟨kd_7, hkd_7, rfl⟩ := rr_1 hb1_3 (by omega)
    refine lv_aload_n hx hb dX11_paid_8 rfl (lv_at hl 0 rfl) ?_
    refine lv_aload_n hx hb dX11_paid_9 rfl (lv_at hl 0 rfl) ?_
    refine sk_get (v := .ref (q 7)) (C := RX11) (T := TX11) (N := 18) hx hb hts inlX11 hown hK hP 0 rfl rfl 7 (Nat.le_of_ble_eq_true rfl) w_2_130 rfl dX11_paid_10 ?_
    refine sk_Vi (q0 := 0) (n := 1) (rest := []) (wr := fmR om_25_1fffffc _) ⟨hx, hb, hml, hown, hts⟩ hl.1 (c_ux_lookAtR l D cI cJ cC cZ cS x0 q hc dr sa ft fa fo fg fk dh mh uh rh nh ch wh y1 y2 y3 y4 yf yt gd gs e1 e2 e3 (q 7) (q 33) (q 34) dy wn mo ke mu fb fw Ba We L U hsa hch hwh hdy hmo hLk (hlq (by omega)).1 (hlq (by omega)).2 hfb hfw hB9 hW9 hwn hU (htq (by omega))) w_4_43 w_4_45 w_0_19 w_1_1 w_4_46 hd_X11_lookAt_1 ⟨⟨(Nat.le_of_ble_eq_true rfl), (Nat.le_of_ble_eq_true rfl)⟩, (Nat.le_of_ble_eq_true rfl), (Nat.le_of_ble_eq_true rfl)⟩ hK hP hD hS hA (fmT om_25_1fffffc 0) (fmF om_25_1fffffc 0) (fm_C1 rfl rfl) (fm_R rfl rfl) (fm_nT om_25_1fffffc 0) (fm_nF om_25_1fffffc 0) (fm_di om_25_1fffffc 0) rfl rfl rfl rfl (Nat.le_of_ble_eq_true rfl) dX11_paid_13 (fun r_20 u H locs hw hP hD hS => ?_)
    refine exE hw (fun sa2_8 hw1 => exE hw1 (fun ft2_9 hw2 => exE hw2 (fun fa2_10 hw3 => exE hw3 (fun fo2_11 hw4 => exE hw4 (fun fg2_12 hw5 => exE hw5 (fun fk2_13 hw6 => exE hw6 (fun z2_14 hw7 => exE hw7 (fun z3_15 hw8 => exE hw8 (fun g1_16 hw9 => exE hw9 (fun g2_17 hw10 => exE hw10 (fun g3_18 hw11 => exE hw11 (fun b_19 hw12 => anE hw12 (fun hsa2_21 hw13 => anE hw13 (fun hti2_22 hw14 => anE hw14 (fun hld2_23 hw15 => anE hw15 (fun hlv2_24 hw16 => anE hw16 (fun hb1_25 hw17 => anE hw17 (fun hrows_26 hw18 => anE hw18 (fun er_28 eu_27 => ?_)))))))))))))))))))
    clear hw hw1 hw2 hw3 hw4 hw5 hw6 hw7 hw8 hw9 hw10 hw11 hw12 hw13 hw14 hw15 hw16 hw17 hw18
    subst er_28
    refine o_mgE (ws' := [ro_rrrrrrrrrrrrrrrirl x0 11 (q 0) (q 1) (q 2) (q 3) (q 4) (q 5) (q 6) (q 7) (q 8) (q 9) (q 10) (q 11) (q 12) (q 13) (q 14) hc (q 16) dr, ro_rrrrrr (q 10) 9 (q 61) (q 62) (q 63) (q 64) (q 65) (q 66), ra_N (q 61) cI 90 sa2_8, ra_I (q 62) cI 900 ft2_9, ra_I (q 63) cI 90 fa2_10, ra_I (q 64) cI 90 fo2_11, ra_J (q 65) cJ 90 fg2_12, ra_I (q 66) cI 9 fk2_13, ro_rrrrrnniin (q 5) 2 (q 44) (q 45) (q 46) (q 47) (q 48) dh mh uh rh nh, ro_rrrrnn (q 44) 0 (q 49) (q 50) (q 51) (q 52) ch wh, ra_I (q 49) cI 1600 y1, ra_J (q 50) cJ 64 z2_14, ra_J (q 51) cJ 9 z3_15, ra_J (q 52) cJ 10 y4, ra_I (q 47) cI 3 yf, ra_I (q 48) cI 3 yt, ro_rrrrrrrnn (q 11) 1 (q 10) (q 67) (q 68) (q 69) (q 70) (q 71) (q 72) dy mo, ra_I (q 67) cI 90 g1_16, ra_I (q 68) cI 9 g2_17, ra_I (q 69) cI 10 g3_18, ro_rrnnnin (q 7) 7 (q 33) (q 34) dy wn mo mu ke, ra_I (q 33) cI 9 fb, ra_I (q 34) cI 9 fw, ra_J (q 72) cJ 100 e6, ra_I (q 12) cI 9 ra]) eu_27 hP hD rfl (fun hP hD => ?_)
    refine lv_if_ne (tgt := 21) hx hb dX11_paid_16 (by decide) (fun c_29 => ?_) (fun c_29 => ?_)
    · have c_29 : ¬ (b_19 = 0) := fun h => c_29 ((neq b_19 0 (by omega) (Nat.le_of_ble_eq_true rfl)).mpr h)
      refine lv_aload_n hx hb dX11_paid_21 rfl (lv_at hl 0 rfl) ?_
      refine sk_get (v := .ref (q 11)) (C := RX11) (T := TX11) (N := 18) hx hb hts inlX11 hown hK hP 0 rfl rfl 11 (Nat.le_of_ble_eq_true rfl) w_2_134 rfl dX11_paid_22 ?_
      refine sk_Vl (q0 := 0) (n := 0) (rest := []) (wr := fmR om_25_8401e2 _) ⟨hx, hb, hml, hown, hts⟩ hl.1 (c_ubestPay l D cI cJ cC cZ cS q dy mo g1_16 g2_17 g3_18 e6 fg2_12 (kcFo L wn Ba We U 0) (kWg L wn Ba We) hdy hmo hld2_23 hlv2_24 (kwg_b hLk hwn hB9 hW9 (by omega)) (fun d m hd hm => congrArg Int64.toInt ((hrows_26 d hd).1 m hm).2)) w_4_156 w_4_157 w_4_158 w_1_13 w_4_159 hd_X1_bestPay_0 ⟨⟨(Nat.le_of_ble_eq_true rfl), (Nat.le_of_ble_eq_true rfl)⟩, (Nat.le_of_ble_eq_true rfl), (Nat.le_of_ble_eq_true rfl)⟩ hK hP hD hS hA [16, 17, 18, 19, 23, 1, 6] (fmF om_25_8401e2 0) rfl (fm_R rfl rfl) (by decide +kernel) (fm_nF om_25_8401e2 0) (by decide +kernel) rfl rfl rfl rfl (Nat.le_of_ble_eq_true rfl) dX11_paid_25 (fun r_31 u H locs hw hP hD hS => ?_)
      refine exE hw (fun g6_30 hw1 => anE hw1 (fun hpy_32 hw2 => anE hw2 (fun hgn_33 eu_34 => ?_)))
      clear hw hw1 hw2
      refine o_mgqE (ux := [ro_rrrrrr (q 10) 9 (q 61) (q 62) (q 63) (q 64) (q 65) (q 66), ra_J (q 65) cJ 90 fg2_12, ro_rrrrrrrnn (q 11) 1 (q 10) (q 67) (q 68) (q 69) (q 70) (q 71) (q 72) dy mo, ra_I (q 67) cI 90 g1_16, ra_I (q 68) cI 9 g2_17, ra_I (q 69) cI 10 g3_18, ra_J (q 72) cJ 100 g6_30]) (ws' := [ro_rrrrrrrrrrrrrrrirl x0 11 (q 0) (q 1) (q 2) (q 3) (q 4) (q 5) (q 6) (q 7) (q 8) (q 9) (q 10) (q 11) (q 12) (q 13) (q 14) hc (q 16) dr, ro_rrrrrr (q 10) 9 (q 61) (q 62) (q 63) (q 64) (q 65) (q 66), ra_N (q 61) cI 90 sa2_8, ra_I (q 62) cI 900 ft2_9, ra_I (q 63) cI 90 fa2_10, ra_I (q 64) cI 90 fo2_11, ra_J (q 65) cJ 90 fg2_12, ra_I (q 66) cI 9 fk2_13, ro_rrrrrnniin (q 5) 2 (q 44) (q 45) (q 46) (q 47) (q 48) dh mh uh rh nh, ro_rrrrnn (q 44) 0 (q 49) (q 50) (q 51) (q 52) ch wh, ra_I (q 49) cI 1600 y1, ra_J (q 50) cJ 64 z2_14, ra_J (q 51) cJ 9 z3_15, ra_J (q 52) cJ 10 y4, ra_I (q 47) cI 3 yf, ra_I (q 48) cI 3 yt, ro_rrrrrrrnn (q 11) 1 (q 10) (q 67) (q 68) (q 69) (q 70) (q 71) (q 72) dy mo, ra_I (q 67) cI 90 g1_16, ra_I (q 68) cI 9 g2_17, ra_I (q 69) cI 10 g3_18, ro_rrnnnin (q 7) 7 (q 33) (q 34) dy wn mo mu ke, ra_I (q 33) cI 9 fb, ra_I (q 34) cI 9 fw, ra_J (q 72) cJ 100 g6_30, ra_I (q 12) cI 9 ra]) eu_34 [5, 6, 0, 1, 2, 3, 4] (by decide +kernel) rfl hP hD rfl (fun hP hD => ?_)
      refine lv_pop2_2 hx hb dX11_paid_28 rfl ?_
      refine lv_aload_n hx hb dX11_paid_29 rfl (lv_at hl 0 rfl) ?_
      refine sk_get (v := .ref (q 11)) (C := RX11) (T := TX11) (N := 18) hx hb hts inlX11 hown hK hP 0 rfl rfl 11 (Nat.le_of_ble_eq_true rfl) w_2_134 rfl dX11_paid_30 ?_
      refine lv_aload_n hx hb dX11_paid_33 rfl (lv_at hl 0 rfl) ?_
      refine sk_get (v := .ref (q 12)) (C := RX11) (T := TX11) (N := 18) hx hb hts inlX11 hown hK hP 0 rfl rfl 12 (Nat.le_of_ble_eq_true rfl) w_2_135 rfl dX11_paid_34 ?_
      refine sk_Vv (q0 := 0) (n := 1) (rest := []) (wr := fmR om_25_8401e3 _) ⟨hx, hb, hml, hown, hts⟩ hl.1 (c_utakeBestPaid l D cI cJ cC cZ cS q dy mo g1_16 g2_17 g3_18 g6_30 fg2_12 (q 12) ra (kcFo L wn Ba We U 0) (kWg L wn Ba We) hdy hmo hld2_23 hlv2_24 (kwg_b hLk hwn hB9 hW9 (by omega)) (fun d m hd hm => congrArg Int64.toInt ((hrows_26 d hd).1 m hm).2) hgn_33 (rr_1 hb1_25 (by omega))) w_4_170 w_4_171 w_4_172 w_1_13 w_4_173 hd_X1_takeBestPaid_1 ⟨⟨(Nat.le_of_ble_eq_true rfl), (Nat.le_of_ble_eq_true rfl)⟩, (Nat.le_of_ble_eq_true rfl), (Nat.le_of_ble_eq_true rfl)⟩ hK hP hD hS hA [16, 17, 18, 19, 23, 1, 6, 24] (fmF om_25_8401e3 0) rfl (fm_R rfl rfl) (by decide +kernel) (fm_nF om_25_8401e3 0) (by decide +kernel) rfl rfl rfl rfl (Nat.le_of_ble_eq_true rfl) dX11_paid_37 (fun u H locs hw hP hD hS => ?_)
      refine exE hw (fun ra2_35 hw1 => anE hw1 (fun hra2_36 eu_37 => ?_))
      clear hw hw1
      refine o_mgqE (ux := [ro_rrrrrr (q 10) 9 (q 61) (q 62) (q 63) (q 64) (q 65) (q 66), ra_J (q 65) cJ 90 fg2_12, ro_rrrrrrrnn (q 11) 1 (q 10) (q 67) (q 68) (q 69) (q 70) (q 71) (q 72) dy mo, ra_I (q 67) cI 90 g1_16, ra_I (q 68) cI 9 g2_17, ra_I (q 69) cI 10 g3_18, ra_J (q 72) cJ 100 g6_30, ra_I (q 12) cI 9 ra2_35]) (ws' := [ro_rrrrrrrrrrrrrrrirl x0 11 (q 0) (q 1) (q 2) (q 3) (q 4) (q 5) (q 6) (q 7) (q 8) (q 9) (q 10) (q 11) (q 12) (q 13) (q 14) hc (q 16) dr, ro_rrrrrr (q 10) 9 (q 61) (q 62) (q 63) (q 64) (q 65) (q 66), ra_N (q 61) cI 90 sa2_8, ra_I (q 62) cI 900 ft2_9, ra_I (q 63) cI 90 fa2_10, ra_I (q 64) cI 90 fo2_11, ra_J (q 65) cJ 90 fg2_12, ra_I (q 66) cI 9 fk2_13, ro_rrrrrnniin (q 5) 2 (q 44) (q 45) (q 46) (q 47) (q 48) dh mh uh rh nh, ro_rrrrnn (q 44) 0 (q 49) (q 50) (q 51) (q 52) ch wh, ra_I (q 49) cI 1600 y1, ra_J (q 50) cJ 64 z2_14, ra_J (q 51) cJ 9 z3_15, ra_J (q 52) cJ 10 y4, ra_I (q 47) cI 3 yf, ra_I (q 48) cI 3 yt, ro_rrrrrrrnn (q 11) 1 (q 10) (q 67) (q 68) (q 69) (q 70) (q 71) (q 72) dy mo, ra_I (q 67) cI 90 g1_16, ra_I (q 68) cI 9 g2_17, ra_I (q 69) cI 10 g3_18, ro_rrnnnin (q 7) 7 (q 33) (q 34) dy wn mo mu ke, ra_I (q 33) cI 9 fb, ra_I (q 34) cI 9 fw, ra_J (q 72) cJ 100 g6_30, ra_I (q 12) cI 9 ra2_35]) eu_37 [5, 6, 0, 1, 2, 3, 4, 7] (by decide +kernel) rfl hP hD rfl (fun hP hD => ?_)
      refine lv_aload_n hx hb dX11_paid_40 rfl (lv_at hl 0 rfl) ?_
      refine sk_get (v := .ref (q 12)) (C := RX11) (T := TX11) (N := 18) hx hb hts inlX11 hown hK hP 0 rfl rfl 12 (Nat.le_of_ble_eq_true rfl) w_2_135 rfl dX11_paid_41 ?_
      refine lv_iload_n hx hb dX11_paid_44 rfl (lv_at hl 1 rfl) ?_
      refine va_iald hx hb hK.1 hP 24 0 rfl rfl (vin kd_7 9 (by omega) (Nat.le_of_ble_eq_true rfl)) dX11_paid_45 ?_
      refine sk_top (nI (kPa (kcFo L wn Ba We U 0) (kWg L wn Ba We) dy mo (kd_7 + 1))) (by rw [nI_clamp (by omega)]; exact hra2_36 kd_7 hkd_7) ?_
      exact sk_iret hx hb hr rfl hlocks hK hP hD hS (⟨sa2_8, ft2_9, fa2_10, fo2_11, fg2_12, fk2_13, z2_14, z3_15, g1_16, g2_17, g3_18, dy, mo, g6_30, ra2_35, hsa2_21, (fun _ => hti2_22), hdy, hmo, pad_2 hkd_7 (rr_1 hb1_25 (by omega)) rfl, rfl⟩) (Nat.le_of_ble_eq_true rfl) (Nat.le_of_ble_eq_true rfl) dX11_paid_46
    · have c_29 : b_19 = 0 := (neq b_19 0 (by omega) (Nat.le_of_ble_eq_true rfl)).mp c_29
      refine lv_iconst (v := (-1)) hx hb dX11_paid_19 (by decide) ?_
      exact sk_iret hx hb hr rfl hlocks hK hP hD hS (⟨sa2_8, ft2_9, fa2_10, fo2_11, fg2_12, fk2_13, z2_14, z3_15, g1_16, g2_17, g3_18, dy, mo, e6, ra, hsa2_21, (fun _ => hti2_22), hdy, hmo, pad_1 (rr_0 hb1_25 (by omega)), rfl⟩) (Nat.le_of_ble_eq_true rfl) (Nat.le_of_ble_eq_true rfl) dX11_paid_20
theorem kpop_le9 (m : Nat) : kpop m ≤ 9 := kcS_le (b := 1) 9 (fun d _ => by split <;> decide)
theorem kpop_i {m i : Nat} (hi : i < 2147483648) : nI (kpop m) = nI i ↔ kpop m = i := nI_eq (by have := kpop_le9 m; omega) hi
/-! sets of days -/
def kUs (U : Nat → Bool) (s : Nat) : Nat → Bool := fun d => U d || s.testBit d
def kFe (L : LkS) (wn : Nat) (Ba We : Nat → Nat) (V : Nat → Bool) : Nat → Nat → Nat → Bool := kcFo L wn Ba We V 0
theorem kor9 {a b : Nat} (ha : a < 512) (hb : b < 512) : nI a ||| nI b = nI (a ||| b) ∧ a ||| b < 512 := by
  have h3 : a ||| b < 2 ^ 9 := Nat.or_lt_two_pow ha hb
  exact ⟨(kor32 (by omega) (by omega)).1, h3⟩
theorem muO_ors {U : Nat → Bool} {mu : Int32} {s : Nat} (h : muO U mu) (hs : s < 512) : muO (kUs U s) (mu ||| nI s) := by
  obtain ⟨m, hm, rfl, hb⟩ := h
  have h1 := kor9 hm hs
  refine ⟨m ||| s, h1.2, h1.1, fun d hd => ?_⟩
  rw [Nat.testBit_or, hb d hd]
  rfl
/-- apart from the mute days -/
def kAp (U : Nat → Bool) (s : Nat) : Prop := ∀ d, d < 9 → s.testBit d = true → U d = false
theorem kap_z {U : Nat → Bool} {mu : Int32} {s : Nat} (h : muO U mu) (hs : s < 512) : nI s &&& mu = 0 ↔ kAp U s := by
  obtain ⟨m, hm, rfl, hb⟩ := h
  have h1 := knd32 (a := s) (b := m) (by omega) (by omega)
  rw [h1.1]
  constructor
  · intro q d hd ht
    have z : s &&& m = 0 := (neq _ 0 (by omega) (Nat.le_of_ble_eq_true rfl)).mp q
    have h2 : (s &&& m).testBit d = false := by rw [z]; exact Nat.zero_testBit d
    rw [Nat.testBit_and, ht, Bool.true_and, hb d hd] at h2
    exact h2
  · intro q
    have z : s &&& m = 0 := by
      refine Nat.eq_of_testBit_eq (fun d => ?_)
      rw [Nat.zero_testBit, Nat.testBit_and]
      by_cases c : d < 9
      · cases ht : s.testBit d with
        | false => rfl
        | true => rw [Bool.true_and, hb d c]; exact q d c ht
      · rw [Nat.testBit_lt_two_pow (Nat.lt_of_lt_of_le hs (Nat.pow_le_pow_right (n := 2) (by decide) (show 9 ≤ d by omega)))]
        rfl
    rw [z]; rfl
/-- without the mute days -/
def kDj (U : Nat → Bool) (s : Nat) : Nat := kcK (fun d => s.testBit d && !(U d)) 9
theorem kdj_b (U : Nat → Bool) (s : Nat) {d : Nat} (h : d < 9) : (kDj U s).testBit d = (s.testBit d && !(U d)) := by
  unfold kDj
  rw [kcK_bit, decide_eq_true h, Bool.true_and]
theorem kdj_9 (U : Nat → Bool) (s : Nat) : kDj U s < 512 := kcK_lt _ 9
theorem kbit_9 {s d : Nat} (h : s < 512) (hd : ¬ d < 9) : s.testBit d = false := Nat.testBit_lt_two_pow (Nat.lt_of_lt_of_le h (Nat.pow_le_pow_right (n := 2) (by decide) (show 9 ≤ d by omega)))
theorem kdj_lt {U : Nat → Bool} {s n : Nat} (h : s < 2 ^ n) : kDj U s < 2 ^ n := by
  refine Nat.lt_pow_two_of_testBit _ (fun d hd => ?_)
  by_cases c : d < 9
  · rw [kdj_b U s c, Nat.testBit_lt_two_pow (Nat.lt_of_lt_of_le h (Nat.pow_le_pow_right (n := 2) (by decide) hd))]
    rfl
  · exact kbit_9 (kdj_9 U s) c
theorem kdj_ap (U : Nat → Bool) (s : Nat) : kAp U (kDj U s) := fun d hd h => by
  rw [kdj_b U s hd, Bool.and_eq_true, Bool.not_eq_true'] at h
  exact h.2
theorem kdj_us {U : Nat → Bool} {s : Nat} (h : s < 512) : kUs U (kDj U s) = kUs U s := by
  funext d
  unfold kUs
  by_cases c : d < 9
  · rw [kdj_b U s c]
    cases U d <;> cases s.testBit d <;> rfl
  · rw [kbit_9 h c, kbit_9 (kdj_9 U s) c]
theorem kcS_mono {f g : Nat → Nat} : ∀ n, (∀ m, m < n → f m ≤ g m) → kcS f n ≤ kcS g n
  | 0, _ => Nat.le_refl _
  | n + 1, h => by
    show kcS f n + f n ≤ kcS g n + g n
    have h1 := kcS_mono n (fun m hm => h m (by omega))
    have h2 := h n (by omega)
    omega
theorem kcS_eqv {f g : Nat → Nat} : ∀ n, (∀ m, m < n → f m ≤ g m) → kcS f n = kcS g n → ∀ m, m < n → f m = g m
  | 0, _, _, m, hm => absurd hm (Nat.not_lt_zero m)
  | n + 1, h, e, m, hm => by
    have e1 : kcS f n + f n = kcS g n + g n := e
    have h1 := kcS_mono n (fun m hm => h m (by omega))
    have h2 := h n (by omega)
    by_cases q : m = n
    · subst q; omega
    · exact kcS_eqv n (fun m hm => h m (by omega)) (by omega) m (by omega)
theorem kdj_t (U : Nat → Bool) (s d : Nat) (hd : d < 9) : (if (kDj U s).testBit d = true then 1 else 0) ≤ (if s.testBit d = true then 1 else 0) := by
  rw [kdj_b U s hd]
  cases s.testBit d <;> cases U d <;> decide
theorem kdj_le (U : Nat → Bool) (s : Nat) : kpop (kDj U s) ≤ kpop s := kcS_mono 9 (fun d hd => kdj_t U s d hd)
theorem kdj_eq {U : Nat → Bool} {s : Nat} (hs : s < 512) (h : kpop (kDj U s) = kpop s) : kDj U s = s := by
  refine Nat.eq_of_testBit_eq (fun d => ?_)
  by_cases c : d < 9
  · have h1 := kcS_eqv 9 (fun d hd => kdj_t U s d hd) h d c
    have h2 := kdj_b U s c
    cases h3 : s.testBit d <;> cases h4 : (kDj U s).testBit d
    · rfl
    · rw [h3, h4] at h1; exact absurd h1 (by decide)
    · rw [h3, h4] at h1; exact absurd h1 (by decide)
    · rfl
  · rw [kbit_9 hs c, kbit_9 (kdj_9 U s) c]
theorem kpop_n : ∀ n, n < 10 → ∀ s, s < 512 → s < 2 ^ n → kpop s ≤ n := by decide +kernel
/-- the fewest days; of as many the least bits -/
def fewR (P : Nat → Prop) (dy : Nat) (r : Int32) : Prop := kR (fun s : Nat => s < 2 ^ dy ∧ P s ∧ ∀ t, t < 2 ^ dy → P t → kpop s < kpop t ∨ (kpop s = kpop t ∧ s ≤ t)) (r = -1) (fun s => r = nI s)
theorem fewR_eq {P : Nat → Prop} {dy : Nat} {r q : Int32} (h1 : fewR P dy r) (h2 : fewR P dy q) : r = q :=
  kR_eq h1 h2 (fun x y a b => by
    have h3 := a.2.2 y b.1 b.2.1
    have h4 := b.2.2 x a.1 a.2.1
    omega) (fun a b => a.trans b.symm) (fun _ a b => a.trans b.symm)
/-- the search, so far: smaller sets, and of this size the first ones, are no answers -/
def fwI (P : Nat → Prop) (U : Nat → Bool) (dy z j : Nat) : Prop := ∀ t, t < 2 ^ dy → kAp U t → kpop t < z ∨ (kpop t = z ∧ t < j) → ¬ P t
theorem fwI_0 {P : Nat → Prop} {U : Nat → Bool} {dy : Nat} : fwI P U dy 0 0 := fun t _ _ h => by omega
theorem fwI_j {P : Nat → Prop} {U : Nat → Bool} {dy z j : Nat} (h : fwI P U dy z j) (hn : kpop j = z → kAp U j → ¬ P j) : fwI P U dy z (j + 1) := fun t h1 h2 h3 => by
  by_cases q : kpop t = z ∧ t = j
  · obtain ⟨q1, q2⟩ := q
    subst q2
    exact hn q1 h2
  · exact h t h1 h2 (by omega)
theorem fwI_z {P : Nat → Prop} {U : Nat → Bool} {dy z j : Nat} (h : fwI P U dy z j) (hj : 2 ^ dy ≤ j) : fwI P U dy (z + 1) 0 := fun t h1 h2 h3 => h t h1 h2 (by omega)
theorem few_y {P : Nat → Prop} {U : Nat → Bool} {dy z s : Nat} (h9 : dy ≤ 9) (hP : ∀ t, t < 512 → (P (kDj U t) ↔ P t)) (h : fwI P U dy z s) (hs : s < 2 ^ dy) (hp : P s) (hk : kpop s = z) : fewR P dy (nI s) := by
  have h512 : 2 ^ dy ≤ 512 := Nat.pow_le_pow_right (n := 2) (by decide) h9
  refine kR_1 s ⟨hs, hp, fun t ht hpt => ?_⟩ rfl
  have ht9 : t < 512 := by omega
  have h1 := kdj_le U t
  have h2 := (hP t ht9).mpr hpt
  have h3 : ¬ (kpop (kDj U t) < z ∨ (kpop (kDj U t) = z ∧ kDj U t < s)) := fun q => h (kDj U t) (kdj_lt ht) (kdj_ap U t) q h2
  by_cases c : kpop t = z
  · have h4 : kpop (kDj U t) = kpop t := by omega
    rw [kdj_eq ht9 h4] at h3
    omega
  · omega
theorem few_n {P : Nat → Prop} {U : Nat → Bool} {dy z : Nat} (h9 : dy ≤ 9) (hP : ∀ t, t < 512 → (P (kDj U t) ↔ P t)) (h : fwI P U dy z 0) (hz : dy < z) : fewR P dy (-1) := kR_0 (fun s q => by
  have h512 : 2 ^ dy ≤ 512 := Nat.pow_le_pow_right (n := 2) (by decide) h9
  have hs9 : s < 512 := by have := q.1; omega
  have h1 := kpop_n dy (by omega) s hs9 q.1
  have h2 := kdj_le U s
  exact h (kDj U s) (kdj_lt q.1) (kdj_ap U s) (Or.inl (by omega)) ((hP s hs9).mpr q.2.1)) rfl
/-! what the sets are for -/
section KSv
variable (L : LkS) (dy wn mo : Nat) (Ba We : Nat → Nat) (U : Nat → Bool)
def svH (V : Nat → Bool) : Prop := 0 < kcC (kFe L wn Ba We V) dy 0 mo
def svW (d m : Nat) (V : Nat → Bool) : Prop := svH L dy wn mo Ba We V ∧ kcT2 (kFe L wn Ba We V) dy mo d m = kcC (kFe L wn Ba We V) dy 0 mo
def svF (V : Nat → Bool) (d : Nat) : Nat := kcM (kFe L wn Ba We V) dy mo 0 d
def svG (V : Nat → Bool) (d : Nat) : Int64 := kcWage L wn (Ba d) (We d) d (svF L dy wn mo Ba We V d)
/-- on a day he is better off not to be there, or to be there -/
def svB (V : Nat → Bool) (d : Nat) : Prop := U d = false ∧ svH L dy wn mo Ba We (updG V d (!(V d))) ∧ svG L dy wn mo Ba We V d < svG L dy wn mo Ba We (updG V d (!(V d))) d
def svR (V : Nat → Bool) : Prop := svH L dy wn mo Ba We V ∧ ∀ d, d < dy → ¬ svB L dy wn mo Ba We U V d
end KSv
theorem kms_1 {E : Nat → Nat → Nat → Bool} {gd a0 d m : Nat} (hd : d < gd) (hm : m < 10) (h : 0 < kcC E gd 0 a0) : kcMs E gd a0 d = 2 ^ m ↔ kcT2 E gd a0 d m = kcC E gd 0 a0 := by
  have hS := kT2_S (E := E) (a0 := a0) hd
  have hb : ∀ j, j < 10 → ((kcMs E gd a0 d).testBit j = true ↔ 0 < kcT2 E gd a0 d j) := fun j hj => by
    unfold kcMs
    rw [kcK_bit, decide_eq_true hj, Bool.true_and, decide_eq_true_eq]
  constructor
  · intro q
    rw [← hS]
    have hz : ∀ j, j < 10 → ¬ j = m → kcT2 E gd a0 d j = 0 := fun j hj e => by
      refine Nat.eq_zero_of_not_pos (fun c => ?_)
      have h1 := (hb j hj).mpr c
      rw [q, Nat.testBit_two_pow, decide_eq_true_eq] at h1
      exact e h1.symm
    rw [← kcS_at (g := kcT2 E gd a0 d) 10 hm]
    refine (kcS_cg 10 (fun j hj => ?_)).symm
    show kcT2 E gd a0 d j = if j = m then kcT2 E gd a0 d j else 0
    by_cases e : j = m
    · rw [if_pos e]
    · rw [if_neg e]; exact hz j hj e
  · intro q
    refine (kK_of (x := 2 ^ m) (Nat.pow_lt_pow_right (a := 2) (by decide) hm) (fun j hj => ?_)).symm
    rw [Nat.testBit_two_pow]
    by_cases e : j = m
    · subst e
      rw [decide_eq_true rfl, decide_eq_true (by omega)]
    · rw [decide_eq_false (fun z => e z.symm), decide_eq_false]
      intro c
      have h2 : kcT2 E gd a0 d m + kcT2 E gd a0 d j ≤ kcS (kcT2 E gd a0 d) 10 := by
        have key : ∀ n, m < n → j < n → kcT2 E gd a0 d m + kcT2 E gd a0 d j ≤ kcS (kcT2 E gd a0 d) n := by
          intro n
          induction n with
          | zero => intro h3; exact absurd h3 (Nat.not_lt_zero m)
          | succ n ih =>
            intro h3 h4
            show _ ≤ kcS (kcT2 E gd a0 d) n + kcT2 E gd a0 d n
            by_cases c1 : m = n
            · subst c1
              have := kcS_one (f := kcT2 E gd a0 d) m (show j < m by omega)
              omega
            · by_cases c2 : j = n
              · subst c2
                have := kcS_one (f := kcT2 E gd a0 d) j (show m < j by omega)
                omega
              · have := ih (by omega) (by omega); omega
        exact key 10 hm hj
      omega
theorem ksh_e {E : Nat → Nat → Nat → Bool} {gd a0 d m : Nat} (hd : d < gd) (hm : m < 10) (h : 0 < kcC E gd 0 a0) : nI (kcMs E gd a0 d) = nI (2 ^ m) ↔ kcT2 E gd a0 d m = kcC E gd 0 a0 := by
  have h1 := kms_lt E gd a0 d
  have h2 := (kshl1 hm).2
  rw [neq _ _ (by omega) (by omega)]
  exact kms_1 hd hm h
def hushR (L : LkS) (dy wn mo : Nat) (Ba We : Nat → Nat) (U : Nat → Bool) (r : Int32) : Prop := kB (1 ≤ dy) (fewR (fun s => svH L dy wn mo Ba We (kUs U s)) dy r) (r = -1)
def restR (L : LkS) (dy wn mo : Nat) (Ba We : Nat → Nat) (U : Nat → Bool) (r : Int32) : Prop := kB (1 ≤ dy) (fewR (fun s => svR L dy wn mo Ba We U (kUs U s)) dy r) (r = -1)
def wishR (L : LkS) (dy wn mo : Nat) (Ba We : Nat → Nat) (U : Nat → Bool) (d o r : Int32) : Prop := kR (fun x : Nat × Nat => x.1 < dy ∧ d = nI x.1 ∧ x.2 < 10 ∧ o = nI x.2) (r = -1) (fun x => fewR (fun s => svW L dy wn mo Ba We x.1 x.2 (kUs U s)) dy r)
theorem hushR_eq {L : LkS} {dy wn mo : Nat} {Ba We : Nat → Nat} {U : Nat → Bool} {r q : Int32} (h1 : hushR L dy wn mo Ba We U r) (h2 : hushR L dy wn mo Ba We U q) : r = q := kB_eq h1 h2 fewR_eq (fun a b => a.trans b.symm)
theorem restR_eq {L : LkS} {dy wn mo : Nat} {Ba We : Nat → Nat} {U : Nat → Bool} {r q : Int32} (h1 : restR L dy wn mo Ba We U r) (h2 : restR L dy wn mo Ba We U q) : r = q := kB_eq h1 h2 fewR_eq (fun a b => a.trans b.symm)
theorem wishR_eq {L : LkS} {dy wn mo : Nat} {Ba We : Nat → Nat} {U : Nat → Bool} {d o r q : Int32} (h9 : dy ≤ 9) (h1 : wishR L dy wn mo Ba We U d o r) (h2 : wishR L dy wn mo Ba We U d o q) : r = q :=
  kR_eq h1 h2 (fun x y a b => Prod.ext (kIe a.2.1 b.2.1 (by have := a.1; omega) (by have := b.1; omega)) (kIe a.2.2.2 b.2.2.2 (by have := a.2.2.1; omega) (by have := b.2.2.1; omega))) (fun a b => a.trans b.symm) (fun _ a b => fewR_eq a b)
theorem svP_us {Q : (Nat → Bool) → Prop} {U : Nat → Bool} : ∀ t, t < 512 → ((fun s => Q (kUs U s)) (kDj U t) ↔ (fun s => Q (kUs U s)) t) := fun t ht => by
  show Q (kUs U (kDj U t)) ↔ Q (kUs U t)
  rw [kdj_us ht]
theorem kpop_9 : ∀ s, s < 512 → kpop s ≤ 9 := by decide +kernel
theorem krs_nx {P : Nat → Prop} {i : Nat} (h : ∀ j, j < i → ¬ P j) (e : ¬ P i) : ∀ j, j < i + 1 → ¬ P j := fun j hj => by
  by_cases q : j = i
  · subst q; exact e
  · exact h j (by omega)
set_option maxHeartbeats 4000000 in
set_option maxRecDepth 100000 in
theorem c_ux_isAtRest (l : Launch) (D : va_G) (cI cJ cC cZ cS : ClassId) (x0 : Nat) (q : Nat → Nat) (hc : Int32) (dr : Int64) (sa : Nat → Nat) (ft : Nat → Int32) (fa : Nat → Int32) (fo : Nat → Int32) (fg : Nat → Int64) (fk : Nat → Int32) (dy : Nat) (wn : Nat) (mo : Nat) (ke : Nat) (mu : Int32) (fb : Nat → Int32) (fw : Nat → Int32) (e1 : Nat → Int32) (e2 : Nat → Int32) (e3 : Nat → Int32) (ra : Nat → Int32) (rc : Nat → Int32) (Ba : Nat → Nat) (We : Nat → Nat) (L : LkS) (U : Nat → Bool) (V : Nat → Bool) (o : Int32) (hsa : ∀ j, sa j ≤ 9) (hdy : dy ≤ 9) (hmo : mo ≤ 9) (hfb : ∀ j, j < 9 → fb j = nI (Ba j)) (hfw : ∀ j, j < 9 → fw j = nI (We j)) (hB9 : ∀ j, Ba j ≤ 9) (hW9 : ∀ j, We j ≤ 9) (hwn : wn ≤ 999) (hU : muO U mu) (hV : muO V o) (hrows : ∀ e, e < dy → kcRow L wn (Ba e) (We e) e sa ft fa fo fg) (hLk : kcLk L) (hld : kcLd (kFe L wn Ba We V) dy e1 e2) (hlv : kcLv (kFe L wn Ba We V) dy 0 e3) (hgo0 : 0 < kcC (kFe L wn Ba We V) dy 0 mo) : skM l yX11_isAtRest cX11_isAtRest 3 (some .boolean) 2 53 0 0 D (skT cI cJ cC cZ cS) [.ref x0, .int o] [ro_rrrrrrrrrrrrrrrirl x0 11 (q 0) (q 1) (q 2) (q 3) (q 4) (q 5) (q 6) (q 7) (q 8) (q 9) (q 10) (q 11) (q 12) (q 13) (q 14) hc (q 16) dr, ro_rrrrrr (q 10) 9 (q 61) (q 62) (q 63) (q 64) (q 65) (q 66), ra_N (q 61) cI 90 sa, ra_I (q 62) cI 900 ft, ra_I (q 63) cI 90 fa, ra_I (q 64) cI 90 fo, ra_J (q 65) cJ 90 fg, ra_I (q 66) cI 9 fk, ro_rrnnnin (q 7) 7 (q 33) (q 34) dy wn mo mu ke, ra_I (q 33) cI 9 fb, ra_I (q 34) cI 9 fw, ro_rrrrrrrnn (q 11) 1 (q 10) (q 67) (q 68) (q 69) (q 70) (q 71) (q 72) dy mo, ra_I (q 67) cI 90 e1, ra_I (q 68) cI 9 e2, ra_I (q 69) cI 10 e3, ra_I (q 12) cI 9 ra, ra_I (q 13) cI 9 rc] (skI D (skT cI cJ cC cZ cS) (fun (r : Int32) (u : va_W) => ∃ (gd2 : Nat), ∃ (gs2 : Nat), ∃ (b : Nat), ∃ (g1 : Nat → Int32), ∃ (g2 : Nat → Int32), ∃ (g3 : Nat → Int32), ∃ (ra2 : Nat → Int32), ∃ (rc2 : Nat → Int32), gd2 ≤ 9 ∧ gs2 ≤ 9 ∧ ((b = 0 ∧ ¬ svR L dy wn mo Ba We U V) ∨ (b = 1 ∧ svR L dy wn mo Ba We U V)) ∧ r = nI b ∧ u = [ro_rrrrrrrrrrrrrrrirl x0 11 (q 0) (q 1) (q 2) (q 3) (q 4) (q 5) (q 6) (q 7) (q 8) (q 9) (q 10) (q 11) (q 12) (q 13) (q 14) hc (q 16) dr, ro_rrrrrr (q 10) 9 (q 61) (q 62) (q 63) (q 64) (q 65) (q 66), ra_N (q 61) cI 90 sa, ra_I (q 62) cI 900 ft, ra_I (q 63) cI 90 fa, ra_I (q 64) cI 90 fo, ra_J (q 65) cJ 90 fg, ra_I (q 66) cI 9 fk, ro_rrnnnin (q 7) 7 (q 33) (q 34) dy wn mo mu ke, ra_I (q 33) cI 9 fb, ra_I (q 34) cI 9 fw, ro_rrrrrrrnn (q 11) 1 (q 10) (q 67) (q 68) (q 69) (q 70) (q 71) (q 72) gd2 gs2, ra_I (q 67) cI 90 g1, ra_I (q 68) cI 9 g2, ra_I (q 69) cI 10 g3, ra_I (q 12) cI 9 ra2, ra_I (q 13) cI 9 rc2])) := by
  refine skM_of pf_X11_isAtRest (Nat.le_of_ble_eq_true rfl) ?_
  intro p e s m below meth c A ls E hP hD hl
  refine skE_el E (fun hx hb hr hml hlocks hin hown hts hK hA => ?_)
  have hown : s.vm.findClass RX11 = some m.cls := hown
  have hS : va_S A s.heap s.heap [] := va_S.rf
  have hl : lv_has ls 3 [(0, .ref x0), (1, .int o)] := hl
  refine lv_aload_n hx hb dX11_isAtRest_0 rfl (lv_at hl 0 rfl) ?_
  refine sk_get (v := .ref (q 11)) (C := RX11) (T := TX11) (N := 18) hx hb hts inlX11 hown hK hP 0 rfl rfl 11 (Nat.le_of_ble_eq_true rfl) w_2_134 rfl dX11_isAtRest_1 ?_
  refine lv_aload_n hx hb dX11_isAtRest_4 rfl (lv_at hl 0 rfl) ?_
  refine sk_get (v := .ref (q 12)) (C := RX11) (T := TX11) (N := 18) hx hb hts inlX11 hown hK hP 0 rfl rfl 12 (Nat.le_of_ble_eq_true rfl) w_2_135 rfl dX11_isAtRest_5 ?_
  refine sk_Vv (q0 := 0) (n := 1) (rest := []) (wr := fmR om_17_3e _) ⟨hx, hb, hml, hown, hts⟩ hl.1 (c_ktakeFirst l D cI cJ cC cZ cS q dy mo e1 e2 e3 (q 12) ra (kFe L wn Ba We V) hdy hmo hld hlv hgo0) w_4_112 w_4_113 w_4_114 w_1_13 w_4_115 hd_X1_takeFirst_1 ⟨⟨(Nat.le_of_ble_eq_true rfl), (Nat.le_of_ble_eq_true rfl)⟩, (Nat.le_of_ble_eq_true rfl), (Nat.le_of_ble_eq_true rfl)⟩ hK hP hD hS hA (fmT om_17_3e 0) (fmF om_17_3e 0) (fm_C1 rfl rfl) (fm_R rfl rfl) (fm_nT om_17_3e 0) (fm_nF om_17_3e 0) (fm_di om_17_3e 0) rfl rfl rfl rfl (Nat.le_of_ble_eq_true rfl) dX11_isAtRest_8 (fun u H locs hw hP hD hS => ?_)
  refine exE hw (fun ra2_1 hw1 => anE hw1 (fun hra2_2 eu_3 => ?_))
  clear hw hw1
  refine o_mgE (ws' := [ro_rrrrrrrrrrrrrrrirl x0 11 (q 0) (q 1) (q 2) (q 3) (q 4) (q 5) (q 6) (q 7) (q 8) (q 9) (q 10) (q 11) (q 12) (q 13) (q 14) hc (q 16) dr, ro_rrrrrr (q 10) 9 (q 61) (q 62) (q 63) (q 64) (q 65) (q 66), ra_N (q 61) cI 90 sa, ra_I (q 62) cI 900 ft, ra_I (q 63) cI 90 fa, ra_I (q 64) cI 90 fo, ra_J (q 65) cJ 90 fg, ra_I (q 66) cI 9 fk, ro_rrnnnin (q 7) 7 (q 33) (q 34) dy wn mo mu ke, ra_I (q 33) cI 9 fb, ra_I (q 34) cI 9 fw, ro_rrrrrrrnn (q 11) 1 (q 10) (q 67) (q 68) (q 69) (q 70) (q 71) (q 72) dy mo, ra_I (q 67) cI 90 e1, ra_I (q 68) cI 9 e2, ra_I (q 69) cI 10 e3, ra_I (q 12) cI 9 ra2_1, ra_I (q 13) cI 9 rc]) eu_3 hP hD rfl (fun hP hD => ?_)
  have h12 := hra2_2
  refine lv_iconst (v := 0) hx hb dX11_isAtRest_11 ic_0 ?_
  refine lv_istore_n (lv' := [(2, .int 0), (0, .ref x0), (1, .int o)]) hx hb dX11_isAtRest_12 rfl hl (by decide) rfl (fun ls hl => ?_)
  have lp_4 : ∀ (n_5 : Nat) (i : Nat) (zd : Nat) (zs : Nat) (b1 : Nat → Int32) (b2 : Nat → Int32) (b3 : Nat → Int32) (bc : Nat → Int32) (H : Heap) (locs : List Loc) (ls : Array Slot), dy - i < n_5 → (i ≤ dy) → (zd ≤ 9) → (zs ≤ 9) → (∀ j, j < i → ¬ svB L dy wn mo Ba We U V j) → va_P D vwCl [ro_rrrrrrrrrrrrrrrirl x0 11 (q 0) (q 1) (q 2) (q 3) (q 4) (q 5) (q 6) (q 7) (q 8) (q 9) (q 10) (q 11) (q 12) (q 13) (q 14) hc (q 16) dr, ro_rrrrrr (q 10) 9 (q 61) (q 62) (q 63) (q 64) (q 65) (q 66), ra_N (q 61) cI 90 sa, ra_I (q 62) cI 900 ft, ra_I (q 63) cI 90 fa, ra_I (q 64) cI 90 fo, ra_J (q 65) cJ 90 fg, ra_I (q 66) cI 9 fk, ro_rrnnnin (q 7) 7 (q 33) (q 34) dy wn mo mu ke, ra_I (q 33) cI 9 fb, ra_I (q 34) cI 9 fw, ro_rrrrrrrnn (q 11) 1 (q 10) (q 67) (q 68) (q 69) (q 70) (q 71) (q 72) zd zs, ra_I (q 67) cI 90 b1, ra_I (q 68) cI 9 b2, ra_I (q 69) cI 10 b3, ra_I (q 12) cI 9 ra2_1, ra_I (q 13) cI 9 bc] H → va_D A [ro_rrrrrrrrrrrrrrrirl x0 11 (q 0) (q 1) (q 2) (q 3) (q 4) (q 5) (q 6) (q 7) (q 8) (q 9) (q 10) (q 11) (q 12) (q 13) (q 14) hc (q 16) dr, ro_rrrrrr (q 10) 9 (q 61) (q 62) (q 63) (q 64) (q 65) (q 66), ra_N (q 61) cI 90 sa, ra_I (q 62) cI 900 ft, ra_I (q 63) cI 90 fa, ra_I (q 64) cI 90 fo, ra_J (q 65) cJ 90 fg, ra_I (q 66) cI 9 fk, ro_rrnnnin (q 7) 7 (q 33) (q 34) dy wn mo mu ke, ra_I (q 33) cI 9 fb, ra_I (q 34) cI 9 fw, ro_rrrrrrrnn (q 11) 1 (q 10) (q 67) (q 68) (q 69) (q 70) (q 71) (q 72) zd zs, ra_I (q 67) cI 90 b1, ra_I (q 68) cI 9 b2, ra_I (q 69) cI 10 b3, ra_I (q 12) cI 9 ra2_1, ra_I (q 13) cI 9 bc] → va_S A s.heap H locs → lv_has ls 3 [(2, .int (nI i)), (0, .ref x0), (1, .int o)] → W p l e { frames := 2, cells := 0, slots := 0, locals := 53 } s m ([.ref x0, .int o] : List Value).toArray below meth c H locs 0 0 (MQ below (skI D (skT cI cJ cC cZ cS) (fun (r : Int32) (u : va_W) => ∃ (gd2 : Nat), ∃ (gs2 : Nat), ∃ (b : Nat), ∃ (g1 : Nat → Int32), ∃ (g2 : Nat → Int32), ∃ (g3 : Nat → Int32), ∃ (ra2 : Nat → Int32), ∃ (rc2 : Nat → Int32), gd2 ≤ 9 ∧ gs2 ≤ 9 ∧ ((b = 0 ∧ ¬ svR L dy wn mo Ba We U V) ∨ (b = 1 ∧ svR L dy wn mo Ba We U V)) ∧ r = nI b ∧ u = [ro_rrrrrrrrrrrrrrrirl x0 11 (q 0) (q 1) (q 2) (q 3) (q 4) (q 5) (q 6) (q 7) (q 8) (q 9) (q 10) (q 11) (q 12) (q 13) (q 14) hc (q 16) dr, ro_rrrrrr (q 10) 9 (q 61) (q 62) (q 63) (q 64) (q 65) (q 66), ra_N (q 61) cI 90 sa, ra_I (q 62) cI 900 ft, ra_I (q 63) cI 90 fa, ra_I (q 64) cI 90 fo, ra_J (q 65) cJ 90 fg, ra_I (q 66) cI 9 fk, ro_rrnnnin (q 7) 7 (q 33) (q 34) dy wn mo mu ke, ra_I (q 33) cI 9 fb, ra_I (q 34) cI 9 fw, ro_rrrrrrrnn (q 11) 1 (q 10) (q 67) (q 68) (q 69) (q 70) (q 71) (q 72) gd2 gs2, ra_I (q 67) cI 90 g1, ra_I (q 68) cI 9 g2, ra_I (q 69) cI 10 g3, ra_I (q 12) cI 9 ra2, ra_I (q 13) cI 9 rc2]) A) ([.ref x0, .int o] : List Value).toArray s 0 0 A) (F0 m 13 ls []) := by
    intro n_5
    induction n_5 with
    | zero => intro i zd zs b1 b2 b3 bc H locs ls hm; exact absurd hm (Nat.not_lt_zero _)
    | succ n_5 ih_lp_4 =>
      intro i zd zs b1 b2 b3 bc H locs ls hm hi hzd hzs hrs hP hD hS hl
      refine lv_iload_n hx hb dX11_isAtRest_13 rfl (lv_at hl 0 rfl) ?_
      refine lv_aload_n hx hb dX11_isAtRest_14 rfl (lv_at hl 1 rfl) ?_
      refine sk_get (v := .ref (q 7)) (C := RX11) (T := TX11) (N := 18) hx hb hts inlX11 hown hK hP 0 rfl rfl 7 (Nat.le_of_ble_eq_true rfl) w_2_130 rfl dX11_isAtRest_15 ?_
      refine sk_get (v := .int (nI dy)) (C := RX7) (T := TX7) (N := 7) hx hb hts inlX7 hown hK hP 8 rfl rfl 2 (Nat.le_of_ble_eq_true rfl) w_2_1 rfl dX11_isAtRest_18 ?_
      refine lv_icmp_ge (tgt := 129) hx hb dX11_isAtRest_21 (by decide) (fun c_6 => ?_) (fun c_6 => ?_)
      · have c_6 : dy ≤ i := (nle dy i (by omega) (by omega)).mp c_6
        refine lv_iconst (v := 1) hx hb dX11_isAtRest_129 ic_1 ?_
        exact sk_iret hx hb hr rfl hlocks hK hP hD hS (⟨zd, zs, 1, b1, b2, b3, ra2_1, bc, hzd, hzs, Or.inr ⟨rfl, hgo0, fun d hd => hrs d (by omega)⟩, rfl, rfl⟩) (Nat.le_of_ble_eq_true rfl) (Nat.le_of_ble_eq_true rfl) dX11_isAtRest_130
      · have c_6 : ¬ (dy ≤ i) := fun h => c_6 ((nle dy i (by omega) (by omega)).mpr h)
        refine lv_aload_n hx hb dX11_isAtRest_24 rfl (lv_at hl 1 rfl) ?_
        refine sk_get (v := .ref (q 7)) (C := RX11) (T := TX11) (N := 18) hx hb hts inlX11 hown hK hP 0 rfl rfl 7 (Nat.le_of_ble_eq_true rfl) w_2_130 rfl dX11_isAtRest_25 ?_
        refine lv_iload_n hx hb dX11_isAtRest_28 rfl (lv_at hl 0 rfl) ?_
        refine sk_Vi (q0 := 0) (n := 1) (rest := []) (wr := fmR om_17_100 _) ⟨hx, hb, hml, hown, hts⟩ hl.1 (c_kState_isMute l D cI cJ cC cZ cS (q 7) (q 33) (q 34) dy mo (nI wn) mu (nI ke) i U (by omega) hU) w_3_194 w_3_195 w_3_196 w_1_10 w_3_197 hd_X7_isMute_1 ⟨⟨(Nat.le_of_ble_eq_true rfl), (Nat.le_of_ble_eq_true rfl)⟩, (Nat.le_of_ble_eq_true rfl), (Nat.le_of_ble_eq_true rfl)⟩ hK hP hD hS hA (fmT om_17_100 0) (fmF om_17_100 0) (fm_C1 rfl rfl) (fm_R rfl rfl) (fm_nT om_17_100 0) (fm_nF om_17_100 0) (fm_di om_17_100 0) rfl rfl rfl rfl (Nat.le_of_ble_eq_true rfl) dX11_isAtRest_29 (fun r_8 u H locs hw hP hD hS => ?_)
        refine exE hw (fun b_7 hw1 => anE hw1 (fun hb1_9 hw2 => anE hw2 (fun er_11 eu_10 => ?_)))
        clear hw hw1 hw2
        subst er_11
        refine o_mgE (ws' := [ro_rrrrrrrrrrrrrrrirl x0 11 (q 0) (q 1) (q 2) (q 3) (q 4) (q 5) (q 6) (q 7) (q 8) (q 9) (q 10) (q 11) (q 12) (q 13) (q 14) hc (q 16) dr, ro_rrrrrr (q 10) 9 (q 61) (q 62) (q 63) (q 64) (q 65) (q 66), ra_N (q 61) cI 90 sa, ra_I (q 62) cI 900 ft, ra_I (q 63) cI 90 fa, ra_I (q 64) cI 90 fo, ra_J (q 65) cJ 90 fg, ra_I (q 66) cI 9 fk, ro_rrnnnin (q 7) 7 (q 33) (q 34) dy wn mo mu ke, ra_I (q 33) cI 9 fb, ra_I (q 34) cI 9 fw, ro_rrrrrrrnn (q 11) 1 (q 10) (q 67) (q 68) (q 69) (q 70) (q 71) (q 72) zd zs, ra_I (q 67) cI 90 b1, ra_I (q 68) cI 9 b2, ra_I (q 69) cI 10 b3, ra_I (q 12) cI 9 ra2_1, ra_I (q 13) cI 9 bc]) eu_10 hP hD rfl (fun hP hD => ?_)
        refine lv_if_eq (tgt := 38) hx hb dX11_isAtRest_32 (by decide) (fun c_12 => ?_) (fun c_12 => ?_)
        · have c_12 : b_7 = 0 := (neq b_7 0 (by omega) (Nat.le_of_ble_eq_true rfl)).mp c_12
          refine lv_aload_n hx hb dX11_isAtRest_38 rfl (lv_at hl 1 rfl) ?_
          refine sk_get (v := .ref (q 11)) (C := RX11) (T := TX11) (N := 18) hx hb hts inlX11 hown hK hP 0 rfl rfl 11 (Nat.le_of_ble_eq_true rfl) w_2_134 rfl dX11_isAtRest_39 ?_
          refine lv_aload_n hx hb dX11_isAtRest_42 rfl (lv_at hl 1 rfl) ?_
          refine sk_get (v := .ref (q 7)) (C := RX11) (T := TX11) (N := 18) hx hb hts inlX11 hown hK hP 0 rfl rfl 7 (Nat.le_of_ble_eq_true rfl) w_2_130 rfl dX11_isAtRest_43 ?_
          refine lv_iload_n hx hb dX11_isAtRest_46 rfl (lv_at hl 2 rfl) ?_
          refine lv_iconst (v := 1) hx hb dX11_isAtRest_47 ic_1 ?_
          refine lv_iload_n hx hb dX11_isAtRest_48 rfl (lv_at hl 0 rfl) ?_
          refine lv_ishl hx hb dX11_isAtRest_49 ?_
          refine lv_ixor hx hb dX11_isAtRest_50 ?_
          refine lv_iconst (v := 0) hx hb dX11_isAtRest_51 ic_0 ?_
          refine sk_Vv (q0 := 0) (n := 3) (rest := []) (wr := fmR om_17_f938 _) ⟨hx, hb, hml, hown, hts⟩ hl.1 (c_klay l D cI cJ cC cZ cS q zd zs b1 b2 sa ft fa fo (q 7) (q 33) (q 34) dy wn mo ke mu fb fw Ba We L 0 (updG V i (!(V i))) (o ^^^ (1 <<< (nI i &&& 31))) fg hsa hdy hmo (by decide) (muO_xor hV (by omega)) hrows) w_4_47 w_4_48 w_4_49 w_1_13 w_4_50 hd_X1_lay_3 ⟨⟨(Nat.le_of_ble_eq_true rfl), (Nat.le_of_ble_eq_true rfl)⟩, (Nat.le_of_ble_eq_true rfl), (Nat.le_of_ble_eq_true rfl)⟩ hK hP hD hS hA [11, 12, 13, 1, 2, 3, 4, 5, 8] (fmF om_17_f938 0) rfl (fm_R rfl rfl) (by decide +kernel) (fm_nF om_17_f938 0) (by decide +kernel) rfl rfl rfl rfl (Nat.le_of_ble_eq_true rfl) dX11_isAtRest_52 (fun u H locs hw hP hD hS => ?_)
          refine exE hw (fun g1_13 hw1 => exE hw1 (fun g2_14 hw2 => anE hw2 (fun hld2_15 eu_16 => ?_)))
          clear hw hw1 hw2
          refine o_mgqE (ux := [ro_rrrrrr (q 10) 9 (q 61) (q 62) (q 63) (q 64) (q 65) (q 66), ra_N (q 61) cI 90 sa, ra_I (q 62) cI 900 ft, ra_I (q 63) cI 90 fa, ra_I (q 64) cI 90 fo, ro_rrnnnin (q 7) 7 (q 33) (q 34) dy wn mo mu ke, ro_rrrrrrrnn (q 11) 1 (q 10) (q 67) (q 68) (q 69) (q 70) (q 71) (q 72) dy mo, ra_I (q 67) cI 90 g1_13, ra_I (q 68) cI 9 g2_14]) (ws' := [ro_rrrrrrrrrrrrrrrirl x0 11 (q 0) (q 1) (q 2) (q 3) (q 4) (q 5) (q 6) (q 7) (q 8) (q 9) (q 10) (q 11) (q 12) (q 13) (q 14) hc (q 16) dr, ro_rrrrrr (q 10) 9 (q 61) (q 62) (q 63) (q 64) (q 65) (q 66), ra_N (q 61) cI 90 sa, ra_I (q 62) cI 900 ft, ra_I (q 63) cI 90 fa, ra_I (q 64) cI 90 fo, ra_J (q 65) cJ 90 fg, ra_I (q 66) cI 9 fk, ro_rrnnnin (q 7) 7 (q 33) (q 34) dy wn mo mu ke, ra_I (q 33) cI 9 fb, ra_I (q 34) cI 9 fw, ro_rrrrrrrnn (q 11) 1 (q 10) (q 67) (q 68) (q 69) (q 70) (q 71) (q 72) dy mo, ra_I (q 67) cI 90 g1_13, ra_I (q 68) cI 9 g2_14, ra_I (q 69) cI 10 b3, ra_I (q 12) cI 9 ra2_1, ra_I (q 13) cI 9 bc]) eu_16 [3, 4, 5, 6, 7, 8, 0, 1, 2] (by decide +kernel) rfl hP hD rfl (fun hP hD => ?_)
          refine lv_aload_n hx hb dX11_isAtRest_55 rfl (lv_at hl 1 rfl) ?_
          refine sk_get (v := .ref (q 11)) (C := RX11) (T := TX11) (N := 18) hx hb hts inlX11 hown hK hP 0 rfl rfl 11 (Nat.le_of_ble_eq_true rfl) w_2_134 rfl dX11_isAtRest_56 ?_
          refine sk_Vi (q0 := 0) (n := 0) (rest := []) (wr := fmR om_17_3c _) ⟨hx, hb, hml, hown, hts⟩ hl.1 (c_ksettle l D cI cJ cC cZ cS q dy mo g1_13 g2_14 b3 (kFe L wn Ba We (updG V i (!(V i)))) hdy hmo hld2_15) w_4_53 w_4_54 w_4_55 w_1_13 w_4_56 hd_X1_settle_0 ⟨⟨(Nat.le_of_ble_eq_true rfl), (Nat.le_of_ble_eq_true rfl)⟩, (Nat.le_of_ble_eq_true rfl), (Nat.le_of_ble_eq_true rfl)⟩ hK hP hD hS hA (fmT om_17_3c 0) (fmF om_17_3c 0) (fm_C1 rfl rfl) (fm_R rfl rfl) (fm_nT om_17_3c 0) (fm_nF om_17_3c 0) (fm_di om_17_3c 0) rfl rfl rfl rfl (Nat.le_of_ble_eq_true rfl) dX11_isAtRest_59 (fun r_19 u H locs hw hP hD hS => ?_)
          refine exE hw (fun b_17 hw1 => exE hw1 (fun g3_18 hw2 => anE hw2 (fun hb1_20 hw3 => anE hw3 (fun hlv2_21 hw4 => anE hw4 (fun er_23 eu_22 => ?_)))))
          clear hw hw1 hw2 hw3 hw4
          subst er_23
          refine o_mgE (ws' := [ro_rrrrrrrrrrrrrrrirl x0 11 (q 0) (q 1) (q 2) (q 3) (q 4) (q 5) (q 6) (q 7) (q 8) (q 9) (q 10) (q 11) (q 12) (q 13) (q 14) hc (q 16) dr, ro_rrrrrr (q 10) 9 (q 61) (q 62) (q 63) (q 64) (q 65) (q 66), ra_N (q 61) cI 90 sa, ra_I (q 62) cI 900 ft, ra_I (q 63) cI 90 fa, ra_I (q 64) cI 90 fo, ra_J (q 65) cJ 90 fg, ra_I (q 66) cI 9 fk, ro_rrnnnin (q 7) 7 (q 33) (q 34) dy wn mo mu ke, ra_I (q 33) cI 9 fb, ra_I (q 34) cI 9 fw, ro_rrrrrrrnn (q 11) 1 (q 10) (q 67) (q 68) (q 69) (q 70) (q 71) (q 72) dy mo, ra_I (q 67) cI 90 g1_13, ra_I (q 68) cI 9 g2_14, ra_I (q 69) cI 10 g3_18, ra_I (q 12) cI 9 ra2_1, ra_I (q 13) cI 9 bc]) eu_22 hP hD rfl (fun hP hD => ?_)
          refine lv_if_ne (tgt := 68) hx hb dX11_isAtRest_62 (by decide) (fun c_24 => ?_) (fun c_24 => ?_)
          · have c_24 : ¬ (b_17 = 0) := fun h => c_24 ((neq b_17 0 (by omega) (Nat.le_of_ble_eq_true rfl)).mpr h)
            have hgoD := rr_1 hb1_20 (by omega)
            refine lv_aload_n hx hb dX11_isAtRest_68 rfl (lv_at hl 1 rfl) ?_
            refine sk_get (v := .ref (q 11)) (C := RX11) (T := TX11) (N := 18) hx hb hts inlX11 hown hK hP 0 rfl rfl 11 (Nat.le_of_ble_eq_true rfl) w_2_134 rfl dX11_isAtRest_69 ?_
            refine lv_aload_n hx hb dX11_isAtRest_72 rfl (lv_at hl 1 rfl) ?_
            refine sk_get (v := .ref (q 13)) (C := RX11) (T := TX11) (N := 18) hx hb hts inlX11 hown hK hP 0 rfl rfl 13 (Nat.le_of_ble_eq_true rfl) w_2_136 rfl dX11_isAtRest_73 ?_
            refine sk_Vv (q0 := 0) (n := 1) (rest := []) (wr := fmR om_17_3d _) ⟨hx, hb, hml, hown, hts⟩ hl.1 (c_ktakeFirst l D cI cJ cC cZ cS q dy mo g1_13 g2_14 g3_18 (q 13) bc (kFe L wn Ba We (updG V i (!(V i)))) hdy hmo hld2_15 hlv2_21 hgoD) w_4_112 w_4_113 w_4_114 w_1_13 w_4_115 hd_X1_takeFirst_1 ⟨⟨(Nat.le_of_ble_eq_true rfl), (Nat.le_of_ble_eq_true rfl)⟩, (Nat.le_of_ble_eq_true rfl), (Nat.le_of_ble_eq_true rfl)⟩ hK hP hD hS hA (fmT om_17_3d 0) (fmF om_17_3d 0) (fm_C1 rfl rfl) (fm_R rfl rfl) (fm_nT om_17_3d 0) (fm_nF om_17_3d 0) (fm_di om_17_3d 0) rfl rfl rfl rfl (Nat.le_of_ble_eq_true rfl) dX11_isAtRest_76 (fun u H locs hw hP hD hS => ?_)
            refine exE hw (fun ra2_25 hw1 => anE hw1 (fun hra2_26 eu_27 => ?_))
            clear hw hw1
            refine o_mgE (ws' := [ro_rrrrrrrrrrrrrrrirl x0 11 (q 0) (q 1) (q 2) (q 3) (q 4) (q 5) (q 6) (q 7) (q 8) (q 9) (q 10) (q 11) (q 12) (q 13) (q 14) hc (q 16) dr, ro_rrrrrr (q 10) 9 (q 61) (q 62) (q 63) (q 64) (q 65) (q 66), ra_N (q 61) cI 90 sa, ra_I (q 62) cI 900 ft, ra_I (q 63) cI 90 fa, ra_I (q 64) cI 90 fo, ra_J (q 65) cJ 90 fg, ra_I (q 66) cI 9 fk, ro_rrnnnin (q 7) 7 (q 33) (q 34) dy wn mo mu ke, ra_I (q 33) cI 9 fb, ra_I (q 34) cI 9 fw, ro_rrrrrrrnn (q 11) 1 (q 10) (q 67) (q 68) (q 69) (q 70) (q 71) (q 72) dy mo, ra_I (q 67) cI 90 g1_13, ra_I (q 68) cI 9 g2_14, ra_I (q 69) cI 10 g3_18, ra_I (q 12) cI 9 ra2_1, ra_I (q 13) cI 9 ra2_25]) eu_27 hP hD rfl (fun hP hD => ?_)
            have h13 := hra2_26
            refine lv_aload_n hx hb dX11_isAtRest_79 rfl (lv_at hl 1 rfl) ?_
            refine sk_get (v := .ref (q 10)) (C := RX11) (T := TX11) (N := 18) hx hb hts inlX11 hown hK hP 0 rfl rfl 10 (Nat.le_of_ble_eq_true rfl) w_2_133 rfl dX11_isAtRest_80 ?_
            refine sk_get (v := .ref (q 65)) (C := RX9) (T := TX9) (N := 6) hx hb hts inlX9 hown hK hP 1 rfl rfl 4 (Nat.le_of_ble_eq_true rfl) w_2_74 rfl dX11_isAtRest_83 ?_
            refine lv_iload_n hx hb dX11_isAtRest_86 rfl (lv_at hl 0 rfl) ?_
            refine lv_bipush (v := 10) hx hb dX11_isAtRest_87 (by decide) ?_
            refine lv_imul hx hb dX11_isAtRest_89 ?_
            refine sk_top (nI (i * 10)) (nmul i 10) ?_
            refine lv_aload_n hx hb dX11_isAtRest_90 rfl (lv_at hl 1 rfl) ?_
            refine sk_get (v := .ref (q 13)) (C := RX11) (T := TX11) (N := 18) hx hb hts inlX11 hown hK hP 0 rfl rfl 13 (Nat.le_of_ble_eq_true rfl) w_2_136 rfl dX11_isAtRest_91 ?_
            refine lv_iload_n hx hb dX11_isAtRest_94 rfl (lv_at hl 0 rfl) ?_
            refine va_iald hx hb hK.1 hP 16 0 rfl rfl (vin i 9 (by omega) (Nat.le_of_ble_eq_true rfl)) dX11_isAtRest_95 ?_
            have hf13 := kcM_10 (E := (kFe L wn Ba We (updG V i (!(V i))))) (d := i) (show mo < 10 by omega) hgoD (by omega)
            refine sk_top (nI (svF L dy wn mo Ba We (updG V i (!(V i))) i)) (by rw [nI_clamp (by omega)]; exact h13 i (by omega)) ?_
            have hf13 : svF L dy wn mo Ba We (updG V i (!(V i))) i < 10 := hf13
            refine lv_iadd hx hb dX11_isAtRest_96 ?_
            refine sk_top (nI (i * 10 + (svF L dy wn mo Ba We (updG V i (!(V i))) i))) (nI_add (i * 10) (svF L dy wn mo Ba We (updG V i (!(V i))) i)) ?_
            refine va_lald hx hb hK.1 hP 6 1 rfl rfl (vin (i * 10 + (svF L dy wn mo Ba We (updG V i (!(V i))) i)) 90 (by omega) (by omega)) dX11_isAtRest_97 ?_
            refine sk_topl (svG L dy wn mo Ba We (updG V i (!(V i))) i) (by rw [nI_clamp (by omega)]; exact ((hrows i (by omega)).1 _ (by omega)).2) ?_
            refine lv_aload_n hx hb dX11_isAtRest_98 rfl (lv_at hl 1 rfl) ?_
            refine sk_get (v := .ref (q 10)) (C := RX11) (T := TX11) (N := 18) hx hb hts inlX11 hown hK hP 0 rfl rfl 10 (Nat.le_of_ble_eq_true rfl) w_2_133 rfl dX11_isAtRest_99 ?_
            refine sk_get (v := .ref (q 65)) (C := RX9) (T := TX9) (N := 6) hx hb hts inlX9 hown hK hP 1 rfl rfl 4 (Nat.le_of_ble_eq_true rfl) w_2_74 rfl dX11_isAtRest_102 ?_
            refine lv_iload_n hx hb dX11_isAtRest_105 rfl (lv_at hl 0 rfl) ?_
            refine lv_bipush (v := 10) hx hb dX11_isAtRest_106 (by decide) ?_
            refine lv_imul hx hb dX11_isAtRest_108 ?_
            refine sk_top (nI (i * 10)) (nmul i 10) ?_
            refine lv_aload_n hx hb dX11_isAtRest_109 rfl (lv_at hl 1 rfl) ?_
            refine sk_get (v := .ref (q 12)) (C := RX11) (T := TX11) (N := 18) hx hb hts inlX11 hown hK hP 0 rfl rfl 12 (Nat.le_of_ble_eq_true rfl) w_2_135 rfl dX11_isAtRest_110 ?_
            refine lv_iload_n hx hb dX11_isAtRest_113 rfl (lv_at hl 0 rfl) ?_
            refine va_iald hx hb hK.1 hP 15 0 rfl rfl (vin i 9 (by omega) (Nat.le_of_ble_eq_true rfl)) dX11_isAtRest_114 ?_
            have hf12 := kcM_10 (E := (kFe L wn Ba We V)) (d := i) (show mo < 10 by omega) hgo0 (by omega)
            refine sk_top (nI (svF L dy wn mo Ba We V i)) (by rw [nI_clamp (by omega)]; exact h12 i (by omega)) ?_
            have hf12 : svF L dy wn mo Ba We V i < 10 := hf12
            refine lv_iadd hx hb dX11_isAtRest_115 ?_
            refine sk_top (nI (i * 10 + (svF L dy wn mo Ba We V i))) (nI_add (i * 10) (svF L dy wn mo Ba We V i)) ?_
            refine va_lald hx hb hK.1 hP 6 1 rfl rfl (vin (i * 10 + (svF L dy wn mo Ba We V i)) 90 (by omega) (Nat.le_of_ble_eq_true rfl)) dX11_isAtRest_116 ?_
            refine sk_topl (svG L dy wn mo Ba We V i) (by rw [nI_clamp (by omega)]; exact ((hrows i (by omega)).1 _ (by omega)).2) ?_
            refine W.lcmp hx hb dX11_isAtRest_117 ?_
            refine lv_if_le (tgt := 123) hx hb dX11_isAtRest_118 (by decide) (fun c_28 => ?_) (fun c_28 => ?_)
            · skip
              refine lv_iinc (v := nI (i + 1)) (lv' := [(2, .int (nI (i + 1))), (0, .ref x0), (1, .int o)]) hx hb dX11_isAtRest_123 hl (k := 0) rfl (ninc i 1 (by decide)) (by decide) rfl (fun ls hl => ?_)
              refine lv_goto (tgt := 13) hx hb dX11_isAtRest_126 (by decide) ?_
              exact ih_lp_4 (i + 1) dy mo g1_13 g2_14 g3_18 ra2_25 _ _ _ (by omega) (by omega) hdy hmo (krs_nx hrs (fun q => Int32.not_le.mpr ((lg_cmp_gt _ _).mpr q.2.2) c_28)) hP hD hS (lv_sub hl [0, 1, 2] rfl)
            · skip
              refine lv_iconst (v := 0) hx hb dX11_isAtRest_121 ic_0 ?_
              exact sk_iret hx hb hr rfl hlocks hK hP hD hS (⟨dy, mo, 0, g1_13, g2_14, g3_18, ra2_1, ra2_25, hdy, hmo, Or.inl ⟨rfl, fun q => q.2 i (by omega) ⟨Bool.eq_false_iff.mpr (km_0 hb1_9 (by omega)), hgoD, (lg_cmp_gt _ _).mp (Int32.not_le.mp c_28)⟩⟩, rfl, rfl⟩) (Nat.le_of_ble_eq_true rfl) (Nat.le_of_ble_eq_true rfl) dX11_isAtRest_122
          · have c_24 : b_17 = 0 := (neq b_17 0 (by omega) (Nat.le_of_ble_eq_true rfl)).mp c_24
            refine lv_goto (tgt := 123) hx hb dX11_isAtRest_65 (by decide) ?_
            refine lv_iinc (v := nI (i + 1)) (lv' := [(2, .int (nI (i + 1))), (0, .ref x0), (1, .int o)]) hx hb dX11_isAtRest_123 hl (k := 0) rfl (ninc i 1 (by decide)) (by decide) rfl (fun ls hl => ?_)
            refine lv_goto (tgt := 13) hx hb dX11_isAtRest_126 (by decide) ?_
            exact ih_lp_4 (i + 1) dy mo g1_13 g2_14 g3_18 bc _ _ _ (by omega) (by omega) hdy hmo (krs_nx hrs (fun q => absurd q.2.1 (by show ¬ 0 < _; rw [rr_0 hb1_20 (by omega)]; exact Nat.lt_irrefl 0))) hP hD hS (lv_sub hl [0, 1, 2] rfl)
        · have c_12 : ¬ (b_7 = 0) := fun h => c_12 ((neq b_7 0 (by omega) (Nat.le_of_ble_eq_true rfl)).mpr h)
          refine lv_goto (tgt := 123) hx hb dX11_isAtRest_35 (by decide) ?_
          refine lv_iinc (v := nI (i + 1)) (lv' := [(2, .int (nI (i + 1))), (0, .ref x0), (1, .int o)]) hx hb dX11_isAtRest_123 hl (k := 0) rfl (ninc i 1 (by decide)) (by decide) rfl (fun ls hl => ?_)
          refine lv_goto (tgt := 13) hx hb dX11_isAtRest_126 (by decide) ?_
          exact ih_lp_4 (i + 1) zd zs b1 b2 b3 bc _ _ _ (by omega) (by omega) hzd hzs (krs_nx hrs (fun q => absurd q.1 (by rw [km_1 hb1_9 (by omega)]; decide))) hP hD hS (lv_sub hl [0, 1, 2] rfl)
  exact lp_4 (dy - 0 + 1) 0 dy mo e1 e2 e3 rc _ _ _ (Nat.lt_succ_self _) (by omega) hdy hmo (fun j hj => absurd hj (Nat.not_lt_zero j)) hP hD hS (lv_sub hl [0, 1, 2] rfl)
set_option maxHeartbeats 4000000 in
set_option maxRecDepth 100000 in
theorem c_ux_serves0 (l : Launch) (D : va_G) (cI cJ cC cZ cS : ClassId) (x0 : Nat) (q : Nat → Nat) (hc : Int32) (dr : Int64) (sa : Nat → Nat) (ft : Nat → Int32) (fa : Nat → Int32) (fo : Nat → Int32) (fg : Nat → Int64) (fk : Nat → Int32) (dy : Nat) (wn : Nat) (mo : Nat) (ke : Nat) (mu : Int32) (fb : Nat → Int32) (fw : Nat → Int32) (gd : Nat) (gs : Nat) (e1 : Nat → Int32) (e2 : Nat → Int32) (e3 : Nat → Int32) (ra : Nat → Int32) (rc : Nat → Int32) (Ba : Nat → Nat) (We : Nat → Nat) (L : LkS) (U : Nat → Bool) (V : Nat → Bool) (o : Int32) (hsa : ∀ j, sa j ≤ 9) (hdy : dy ≤ 9) (hmo : mo ≤ 9) (hfb : ∀ j, j < 9 → fb j = nI (Ba j)) (hfw : ∀ j, j < 9 → fw j = nI (We j)) (hB9 : ∀ j, Ba j ≤ 9) (hW9 : ∀ j, We j ≤ 9) (hwn : wn ≤ 999) (hU : muO U mu) (hV : muO V o) (hrows : ∀ e, e < dy → kcRow L wn (Ba e) (We e) e sa ft fa fo fg) (hLk : kcLk L) : skM l yX11_serves cX11_serves 5 (some .boolean) 2 53 0 0 D (skT cI cJ cC cZ cS) [.ref x0, .int 0, .int o, .int 0, .int 0] [ro_rrrrrrrrrrrrrrrirl x0 11 (q 0) (q 1) (q 2) (q 3) (q 4) (q 5) (q 6) (q 7) (q 8) (q 9) (q 10) (q 11) (q 12) (q 13) (q 14) hc (q 16) dr, ro_rrrrrr (q 10) 9 (q 61) (q 62) (q 63) (q 64) (q 65) (q 66), ra_N (q 61) cI 90 sa, ra_I (q 62) cI 900 ft, ra_I (q 63) cI 90 fa, ra_I (q 64) cI 90 fo, ra_J (q 65) cJ 90 fg, ra_I (q 66) cI 9 fk, ro_rrnnnin (q 7) 7 (q 33) (q 34) dy wn mo mu ke, ra_I (q 33) cI 9 fb, ra_I (q 34) cI 9 fw, ro_rrrrrrrnn (q 11) 1 (q 10) (q 67) (q 68) (q 69) (q 70) (q 71) (q 72) gd gs, ra_I (q 67) cI 90 e1, ra_I (q 68) cI 9 e2, ra_I (q 69) cI 10 e3, ra_I (q 12) cI 9 ra, ra_I (q 13) cI 9 rc] (skI D (skT cI cJ cC cZ cS) (fun (r : Int32) (u : va_W) => ∃ (gd2 : Nat), ∃ (gs2 : Nat), ∃ (b : Nat), ∃ (g1 : Nat → Int32), ∃ (g2 : Nat → Int32), ∃ (g3 : Nat → Int32), ∃ (ra2 : Nat → Int32), ∃ (rc2 : Nat → Int32), gd2 ≤ 9 ∧ gs2 ≤ 9 ∧ ((b = 0 ∧ ¬ svH L dy wn mo Ba We V) ∨ (b = 1 ∧ svH L dy wn mo Ba We V)) ∧ r = nI b ∧ u = [ro_rrrrrrrrrrrrrrrirl x0 11 (q 0) (q 1) (q 2) (q 3) (q 4) (q 5) (q 6) (q 7) (q 8) (q 9) (q 10) (q 11) (q 12) (q 13) (q 14) hc (q 16) dr, ro_rrrrrr (q 10) 9 (q 61) (q 62) (q 63) (q 64) (q 65) (q 66), ra_N (q 61) cI 90 sa, ra_I (q 62) cI 900 ft, ra_I (q 63) cI 90 fa, ra_I (q 64) cI 90 fo, ra_J (q 65) cJ 90 fg, ra_I (q 66) cI 9 fk, ro_rrnnnin (q 7) 7 (q 33) (q 34) dy wn mo mu ke, ra_I (q 33) cI 9 fb, ra_I (q 34) cI 9 fw, ro_rrrrrrrnn (q 11) 1 (q 10) (q 67) (q 68) (q 69) (q 70) (q 71) (q 72) gd2 gs2, ra_I (q 67) cI 90 g1, ra_I (q 68) cI 9 g2, ra_I (q 69) cI 10 g3, ra_I (q 12) cI 9 ra2, ra_I (q 13) cI 9 rc2])) := by
  refine skM_of pf_X11_serves (Nat.le_of_ble_eq_true rfl) ?_
  intro p e s m below meth c A ls E hP hD hl
  refine skE_el E (fun hx hb hr hml hlocks hin hown hts hK hA => ?_)
  have hown : s.vm.findClass RX11 = some m.cls := hown
  have hS : va_S A s.heap s.heap [] := va_S.rf
  have hl : lv_has ls 5 [(0, .ref x0), (1, .int 0), (2, .int o), (3, .int 0), (4, .int 0)] := hl
  refine lv_aload_n hx hb dX11_serves_0 rfl (lv_at hl 0 rfl) ?_
  refine sk_get (v := .ref (q 11)) (C := RX11) (T := TX11) (N := 18) hx hb hts inlX11 hown hK hP 0 rfl rfl 11 (Nat.le_of_ble_eq_true rfl) w_2_134 rfl dX11_serves_1 ?_
  refine lv_aload_n hx hb dX11_serves_4 rfl (lv_at hl 0 rfl) ?_
  refine sk_get (v := .ref (q 7)) (C := RX11) (T := TX11) (N := 18) hx hb hts inlX11 hown hK hP 0 rfl rfl 7 (Nat.le_of_ble_eq_true rfl) w_2_130 rfl dX11_serves_5 ?_
  refine lv_iload_n hx hb dX11_serves_8 rfl (lv_at hl 2 rfl) ?_
  refine lv_iconst (v := 0) hx hb dX11_serves_9 ic_0 ?_
  refine sk_Vv (q0 := 0) (n := 3) (rest := []) (wr := fmR om_17_f938 _) ⟨hx, hb, hml, hown, hts⟩ hl.1 (c_klay l D cI cJ cC cZ cS q gd gs e1 e2 sa ft fa fo (q 7) (q 33) (q 34) dy wn mo ke mu fb fw Ba We L 0 V o fg hsa hdy hmo (by decide) hV hrows) w_4_47 w_4_48 w_4_49 w_1_13 w_4_50 hd_X1_lay_3 ⟨⟨(Nat.le_of_ble_eq_true rfl), (Nat.le_of_ble_eq_true rfl)⟩, (Nat.le_of_ble_eq_true rfl), (Nat.le_of_ble_eq_true rfl)⟩ hK hP hD hS hA [11, 12, 13, 1, 2, 3, 4, 5, 8] (fmF om_17_f938 0) rfl (fm_R rfl rfl) (by decide +kernel) (fm_nF om_17_f938 0) (by decide +kernel) rfl rfl rfl rfl (Nat.le_of_ble_eq_true rfl) dX11_serves_10 (fun u H locs hw hP hD hS => ?_)
  refine exE hw (fun g1_1 hw1 => exE hw1 (fun g2_2 hw2 => anE hw2 (fun hld2_3 eu_4 => ?_)))
  clear hw hw1 hw2
  refine o_mgqE (ux := [ro_rrrrrr (q 10) 9 (q 61) (q 62) (q 63) (q 64) (q 65) (q 66), ra_N (q 61) cI 90 sa, ra_I (q 62) cI 900 ft, ra_I (q 63) cI 90 fa, ra_I (q 64) cI 90 fo, ro_rrnnnin (q 7) 7 (q 33) (q 34) dy wn mo mu ke, ro_rrrrrrrnn (q 11) 1 (q 10) (q 67) (q 68) (q 69) (q 70) (q 71) (q 72) dy mo, ra_I (q 67) cI 90 g1_1, ra_I (q 68) cI 9 g2_2]) (ws' := [ro_rrrrrrrrrrrrrrrirl x0 11 (q 0) (q 1) (q 2) (q 3) (q 4) (q 5) (q 6) (q 7) (q 8) (q 9) (q 10) (q 11) (q 12) (q 13) (q 14) hc (q 16) dr, ro_rrrrrr (q 10) 9 (q 61) (q 62) (q 63) (q 64) (q 65) (q 66), ra_N (q 61) cI 90 sa, ra_I (q 62) cI 900 ft, ra_I (q 63) cI 90 fa, ra_I (q 64) cI 90 fo, ra_J (q 65) cJ 90 fg, ra_I (q 66) cI 9 fk, ro_rrnnnin (q 7) 7 (q 33) (q 34) dy wn mo mu ke, ra_I (q 33) cI 9 fb, ra_I (q 34) cI 9 fw, ro_rrrrrrrnn (q 11) 1 (q 10) (q 67) (q 68) (q 69) (q 70) (q 71) (q 72) dy mo, ra_I (q 67) cI 90 g1_1, ra_I (q 68) cI 9 g2_2, ra_I (q 69) cI 10 e3, ra_I (q 12) cI 9 ra, ra_I (q 13) cI 9 rc]) eu_4 [3, 4, 5, 6, 7, 8, 0, 1, 2] (by decide +kernel) rfl hP hD rfl (fun hP hD => ?_)
  refine lv_aload_n hx hb dX11_serves_13 rfl (lv_at hl 0 rfl) ?_
  refine sk_get (v := .ref (q 11)) (C := RX11) (T := TX11) (N := 18) hx hb hts inlX11 hown hK hP 0 rfl rfl 11 (Nat.le_of_ble_eq_true rfl) w_2_134 rfl dX11_serves_14 ?_
  refine sk_Vi (q0 := 0) (n := 0) (rest := []) (wr := fmR om_17_3c _) ⟨hx, hb, hml, hown, hts⟩ hl.1 (c_ksettle l D cI cJ cC cZ cS q dy mo g1_1 g2_2 e3 (kFe L wn Ba We V) hdy hmo hld2_3) w_4_53 w_4_54 w_4_55 w_1_13 w_4_56 hd_X1_settle_0 ⟨⟨(Nat.le_of_ble_eq_true rfl), (Nat.le_of_ble_eq_true rfl)⟩, (Nat.le_of_ble_eq_true rfl), (Nat.le_of_ble_eq_true rfl)⟩ hK hP hD hS hA (fmT om_17_3c 0) (fmF om_17_3c 0) (fm_C1 rfl rfl) (fm_R rfl rfl) (fm_nT om_17_3c 0) (fm_nF om_17_3c 0) (fm_di om_17_3c 0) rfl rfl rfl rfl (Nat.le_of_ble_eq_true rfl) dX11_serves_17 (fun r_7 u H locs hw hP hD hS => ?_)
  refine exE hw (fun b_5 hw1 => exE hw1 (fun g3_6 hw2 => anE hw2 (fun hb1_8 hw3 => anE hw3 (fun hlv2_9 hw4 => anE hw4 (fun er_11 eu_10 => ?_)))))
  clear hw hw1 hw2 hw3 hw4
  subst er_11
  refine o_mgE (ws' := [ro_rrrrrrrrrrrrrrrirl x0 11 (q 0) (q 1) (q 2) (q 3) (q 4) (q 5) (q 6) (q 7) (q 8) (q 9) (q 10) (q 11) (q 12) (q 13) (q 14) hc (q 16) dr, ro_rrrrrr (q 10) 9 (q 61) (q 62) (q 63) (q 64) (q 65) (q 66), ra_N (q 61) cI 90 sa, ra_I (q 62) cI 900 ft, ra_I (q 63) cI 90 fa, ra_I (q 64) cI 90 fo, ra_J (q 65) cJ 90 fg, ra_I (q 66) cI 9 fk, ro_rrnnnin (q 7) 7 (q 33) (q 34) dy wn mo mu ke, ra_I (q 33) cI 9 fb, ra_I (q 34) cI 9 fw, ro_rrrrrrrnn (q 11) 1 (q 10) (q 67) (q 68) (q 69) (q 70) (q 71) (q 72) dy mo, ra_I (q 67) cI 90 g1_1, ra_I (q 68) cI 9 g2_2, ra_I (q 69) cI 10 g3_6, ra_I (q 12) cI 9 ra, ra_I (q 13) cI 9 rc]) eu_10 hP hD rfl (fun hP hD => ?_)
  refine lv_if_ne (tgt := 25) hx hb dX11_serves_20 (by decide) (fun c_12 => ?_) (fun c_12 => ?_)
  · have c_12 : ¬ (b_5 = 0) := fun h => c_12 ((neq b_5 0 (by omega) (Nat.le_of_ble_eq_true rfl)).mpr h)
    have hgo0 := rr_1 hb1_8 (by omega)
    refine lv_iload_n hx hb dX11_serves_25 rfl (lv_at hl 1 rfl) ?_
    refine lv_lookup (off := 53) (tgt := 79) hx hb dX11_serves_26 (by decide) (by decide) (by decide) ?_
    refine lv_iconst (v := 1) hx hb dX11_serves_79 ic_1 ?_
    exact sk_iret hx hb hr rfl hlocks hK hP hD hS (⟨dy, mo, 1, g1_1, g2_2, g3_6, ra, rc, hdy, hmo, Or.inr ⟨rfl, hgo0⟩, rfl, rfl⟩) (Nat.le_of_ble_eq_true rfl) (Nat.le_of_ble_eq_true rfl) dX11_serves_80
  · have c_12 : b_5 = 0 := (neq b_5 0 (by omega) (Nat.le_of_ble_eq_true rfl)).mp c_12
    refine lv_iconst (v := 0) hx hb dX11_serves_23 ic_0 ?_
    exact sk_iret hx hb hr rfl hlocks hK hP hD hS (⟨dy, mo, 0, g1_1, g2_2, g3_6, ra, rc, hdy, hmo, Or.inl ⟨rfl, (fun q => absurd q (by show ¬ 0 < _; rw [rr_0 hb1_8 (by omega)]; exact Nat.lt_irrefl 0))⟩, rfl, rfl⟩) (Nat.le_of_ble_eq_true rfl) (Nat.le_of_ble_eq_true rfl) dX11_serves_24
set_option maxHeartbeats 4000000 in
set_option maxRecDepth 100000 in
theorem c_ux_serves1 (l : Launch) (D : va_G) (cI cJ cC cZ cS : ClassId) (x0 : Nat) (q : Nat → Nat) (hc : Int32) (dr : Int64) (sa : Nat → Nat) (ft : Nat → Int32) (fa : Nat → Int32) (fo : Nat → Int32) (fg : Nat → Int64) (fk : Nat → Int32) (dy : Nat) (wn : Nat) (mo : Nat) (ke : Nat) (mu : Int32) (fb : Nat → Int32) (fw : Nat → Int32) (gd : Nat) (gs : Nat) (e1 : Nat → Int32) (e2 : Nat → Int32) (e3 : Nat → Int32) (ra : Nat → Int32) (rc : Nat → Int32) (Ba : Nat → Nat) (We : Nat → Nat) (L : LkS) (U : Nat → Bool) (V : Nat → Bool) (o : Int32) (d : Nat) (om : Nat) (hsa : ∀ j, sa j ≤ 9) (hdy : dy ≤ 9) (hmo : mo ≤ 9) (hfb : ∀ j, j < 9 → fb j = nI (Ba j)) (hfw : ∀ j, j < 9 → fw j = nI (We j)) (hB9 : ∀ j, Ba j ≤ 9) (hW9 : ∀ j, We j ≤ 9) (hwn : wn ≤ 999) (hU : muO U mu) (hV : muO V o) (hrows : ∀ e, e < dy → kcRow L wn (Ba e) (We e) e sa ft fa fo fg) (hLk : kcLk L) (hd : d < dy) (hom : om < 10) : skM l yX11_serves cX11_serves 5 (some .boolean) 2 53 0 0 D (skT cI cJ cC cZ cS) [.ref x0, .int 1, .int o, .int (nI d), .int (nI om)] [ro_rrrrrrrrrrrrrrrirl x0 11 (q 0) (q 1) (q 2) (q 3) (q 4) (q 5) (q 6) (q 7) (q 8) (q 9) (q 10) (q 11) (q 12) (q 13) (q 14) hc (q 16) dr, ro_rrrrrr (q 10) 9 (q 61) (q 62) (q 63) (q 64) (q 65) (q 66), ra_N (q 61) cI 90 sa, ra_I (q 62) cI 900 ft, ra_I (q 63) cI 90 fa, ra_I (q 64) cI 90 fo, ra_J (q 65) cJ 90 fg, ra_I (q 66) cI 9 fk, ro_rrnnnin (q 7) 7 (q 33) (q 34) dy wn mo mu ke, ra_I (q 33) cI 9 fb, ra_I (q 34) cI 9 fw, ro_rrrrrrrnn (q 11) 1 (q 10) (q 67) (q 68) (q 69) (q 70) (q 71) (q 72) gd gs, ra_I (q 67) cI 90 e1, ra_I (q 68) cI 9 e2, ra_I (q 69) cI 10 e3, ra_I (q 12) cI 9 ra, ra_I (q 13) cI 9 rc] (skI D (skT cI cJ cC cZ cS) (fun (r : Int32) (u : va_W) => ∃ (gd2 : Nat), ∃ (gs2 : Nat), ∃ (b : Nat), ∃ (g1 : Nat → Int32), ∃ (g2 : Nat → Int32), ∃ (g3 : Nat → Int32), ∃ (ra2 : Nat → Int32), ∃ (rc2 : Nat → Int32), gd2 ≤ 9 ∧ gs2 ≤ 9 ∧ ((b = 0 ∧ ¬ svW L dy wn mo Ba We d om V) ∨ (b = 1 ∧ svW L dy wn mo Ba We d om V)) ∧ r = nI b ∧ u = [ro_rrrrrrrrrrrrrrrirl x0 11 (q 0) (q 1) (q 2) (q 3) (q 4) (q 5) (q 6) (q 7) (q 8) (q 9) (q 10) (q 11) (q 12) (q 13) (q 14) hc (q 16) dr, ro_rrrrrr (q 10) 9 (q 61) (q 62) (q 63) (q 64) (q 65) (q 66), ra_N (q 61) cI 90 sa, ra_I (q 62) cI 900 ft, ra_I (q 63) cI 90 fa, ra_I (q 64) cI 90 fo, ra_J (q 65) cJ 90 fg, ra_I (q 66) cI 9 fk, ro_rrnnnin (q 7) 7 (q 33) (q 34) dy wn mo mu ke, ra_I (q 33) cI 9 fb, ra_I (q 34) cI 9 fw, ro_rrrrrrrnn (q 11) 1 (q 10) (q 67) (q 68) (q 69) (q 70) (q 71) (q 72) gd2 gs2, ra_I (q 67) cI 90 g1, ra_I (q 68) cI 9 g2, ra_I (q 69) cI 10 g3, ra_I (q 12) cI 9 ra2, ra_I (q 13) cI 9 rc2])) := by
  refine skM_of pf_X11_serves (Nat.le_of_ble_eq_true rfl) ?_
  intro p e s m below meth c A ls E hP hD hl
  refine skE_el E (fun hx hb hr hml hlocks hin hown hts hK hA => ?_)
  have hown : s.vm.findClass RX11 = some m.cls := hown
  have hS : va_S A s.heap s.heap [] := va_S.rf
  have hl : lv_has ls 5 [(0, .ref x0), (1, .int 1), (2, .int o), (3, .int (nI d)), (4, .int (nI om))] := hl
  refine lv_aload_n hx hb dX11_serves_0 rfl (lv_at hl 0 rfl) ?_
  refine sk_get (v := .ref (q 11)) (C := RX11) (T := TX11) (N := 18) hx hb hts inlX11 hown hK hP 0 rfl rfl 11 (Nat.le_of_ble_eq_true rfl) w_2_134 rfl dX11_serves_1 ?_
  refine lv_aload_n hx hb dX11_serves_4 rfl (lv_at hl 0 rfl) ?_
  refine sk_get (v := .ref (q 7)) (C := RX11) (T := TX11) (N := 18) hx hb hts inlX11 hown hK hP 0 rfl rfl 7 (Nat.le_of_ble_eq_true rfl) w_2_130 rfl dX11_serves_5 ?_
  refine lv_iload_n hx hb dX11_serves_8 rfl (lv_at hl 2 rfl) ?_
  refine lv_iconst (v := 0) hx hb dX11_serves_9 ic_0 ?_
  refine sk_Vv (q0 := 0) (n := 3) (rest := []) (wr := fmR om_17_f938 _) ⟨hx, hb, hml, hown, hts⟩ hl.1 (c_klay l D cI cJ cC cZ cS q gd gs e1 e2 sa ft fa fo (q 7) (q 33) (q 34) dy wn mo ke mu fb fw Ba We L 0 V o fg hsa hdy hmo (by decide) hV hrows) w_4_47 w_4_48 w_4_49 w_1_13 w_4_50 hd_X1_lay_3 ⟨⟨(Nat.le_of_ble_eq_true rfl), (Nat.le_of_ble_eq_true rfl)⟩, (Nat.le_of_ble_eq_true rfl), (Nat.le_of_ble_eq_true rfl)⟩ hK hP hD hS hA [11, 12, 13, 1, 2, 3, 4, 5, 8] (fmF om_17_f938 0) rfl (fm_R rfl rfl) (by decide +kernel) (fm_nF om_17_f938 0) (by decide +kernel) rfl rfl rfl rfl (Nat.le_of_ble_eq_true rfl) dX11_serves_10 (fun u H locs hw hP hD hS => ?_)
  refine exE hw (fun g1_1 hw1 => exE hw1 (fun g2_2 hw2 => anE hw2 (fun hld2_3 eu_4 => ?_)))
  clear hw hw1 hw2
  refine o_mgqE (ux := [ro_rrrrrr (q 10) 9 (q 61) (q 62) (q 63) (q 64) (q 65) (q 66), ra_N (q 61) cI 90 sa, ra_I (q 62) cI 900 ft, ra_I (q 63) cI 90 fa, ra_I (q 64) cI 90 fo, ro_rrnnnin (q 7) 7 (q 33) (q 34) dy wn mo mu ke, ro_rrrrrrrnn (q 11) 1 (q 10) (q 67) (q 68) (q 69) (q 70) (q 71) (q 72) dy mo, ra_I (q 67) cI 90 g1_1, ra_I (q 68) cI 9 g2_2]) (ws' := [ro_rrrrrrrrrrrrrrrirl x0 11 (q 0) (q 1) (q 2) (q 3) (q 4) (q 5) (q 6) (q 7) (q 8) (q 9) (q 10) (q 11) (q 12) (q 13) (q 14) hc (q 16) dr, ro_rrrrrr (q 10) 9 (q 61) (q 62) (q 63) (q 64) (q 65) (q 66), ra_N (q 61) cI 90 sa, ra_I (q 62) cI 900 ft, ra_I (q 63) cI 90 fa, ra_I (q 64) cI 90 fo, ra_J (q 65) cJ 90 fg, ra_I (q 66) cI 9 fk, ro_rrnnnin (q 7) 7 (q 33) (q 34) dy wn mo mu ke, ra_I (q 33) cI 9 fb, ra_I (q 34) cI 9 fw, ro_rrrrrrrnn (q 11) 1 (q 10) (q 67) (q 68) (q 69) (q 70) (q 71) (q 72) dy mo, ra_I (q 67) cI 90 g1_1, ra_I (q 68) cI 9 g2_2, ra_I (q 69) cI 10 e3, ra_I (q 12) cI 9 ra, ra_I (q 13) cI 9 rc]) eu_4 [3, 4, 5, 6, 7, 8, 0, 1, 2] (by decide +kernel) rfl hP hD rfl (fun hP hD => ?_)
  refine lv_aload_n hx hb dX11_serves_13 rfl (lv_at hl 0 rfl) ?_
  refine sk_get (v := .ref (q 11)) (C := RX11) (T := TX11) (N := 18) hx hb hts inlX11 hown hK hP 0 rfl rfl 11 (Nat.le_of_ble_eq_true rfl) w_2_134 rfl dX11_serves_14 ?_
  refine sk_Vi (q0 := 0) (n := 0) (rest := []) (wr := fmR om_17_3c _) ⟨hx, hb, hml, hown, hts⟩ hl.1 (c_ksettle l D cI cJ cC cZ cS q dy mo g1_1 g2_2 e3 (kFe L wn Ba We V) hdy hmo hld2_3) w_4_53 w_4_54 w_4_55 w_1_13 w_4_56 hd_X1_settle_0 ⟨⟨(Nat.le_of_ble_eq_true rfl), (Nat.le_of_ble_eq_true rfl)⟩, (Nat.le_of_ble_eq_true rfl), (Nat.le_of_ble_eq_true rfl)⟩ hK hP hD hS hA (fmT om_17_3c 0) (fmF om_17_3c 0) (fm_C1 rfl rfl) (fm_R rfl rfl) (fm_nT om_17_3c 0) (fm_nF om_17_3c 0) (fm_di om_17_3c 0) rfl rfl rfl rfl (Nat.le_of_ble_eq_true rfl) dX11_serves_17 (fun r_7 u H locs hw hP hD hS => ?_)
  refine exE hw (fun b_5 hw1 => exE hw1 (fun g3_6 hw2 => anE hw2 (fun hb1_8 hw3 => anE hw3 (fun hlv2_9 hw4 => anE hw4 (fun er_11 eu_10 => ?_)))))
  clear hw hw1 hw2 hw3 hw4
  subst er_11
  refine o_mgE (ws' := [ro_rrrrrrrrrrrrrrrirl x0 11 (q 0) (q 1) (q 2) (q 3) (q 4) (q 5) (q 6) (q 7) (q 8) (q 9) (q 10) (q 11) (q 12) (q 13) (q 14) hc (q 16) dr, ro_rrrrrr (q 10) 9 (q 61) (q 62) (q 63) (q 64) (q 65) (q 66), ra_N (q 61) cI 90 sa, ra_I (q 62) cI 900 ft, ra_I (q 63) cI 90 fa, ra_I (q 64) cI 90 fo, ra_J (q 65) cJ 90 fg, ra_I (q 66) cI 9 fk, ro_rrnnnin (q 7) 7 (q 33) (q 34) dy wn mo mu ke, ra_I (q 33) cI 9 fb, ra_I (q 34) cI 9 fw, ro_rrrrrrrnn (q 11) 1 (q 10) (q 67) (q 68) (q 69) (q 70) (q 71) (q 72) dy mo, ra_I (q 67) cI 90 g1_1, ra_I (q 68) cI 9 g2_2, ra_I (q 69) cI 10 g3_6, ra_I (q 12) cI 9 ra, ra_I (q 13) cI 9 rc]) eu_10 hP hD rfl (fun hP hD => ?_)
  refine lv_if_ne (tgt := 25) hx hb dX11_serves_20 (by decide) (fun c_12 => ?_) (fun c_12 => ?_)
  · have c_12 : ¬ (b_5 = 0) := fun h => c_12 ((neq b_5 0 (by omega) (Nat.le_of_ble_eq_true rfl)).mpr h)
    have hgo0 := rr_1 hb1_8 (by omega)
    refine lv_iload_n hx hb dX11_serves_25 rfl (lv_at hl 1 rfl) ?_
    refine lv_lookup (off := 26) (tgt := 52) hx hb dX11_serves_26 (by decide) (by decide) (by decide) ?_
    refine lv_aload_n hx hb dX11_serves_52 rfl (lv_at hl 0 rfl) ?_
    refine sk_get (v := .ref (q 11)) (C := RX11) (T := TX11) (N := 18) hx hb hts inlX11 hown hK hP 0 rfl rfl 11 (Nat.le_of_ble_eq_true rfl) w_2_134 rfl dX11_serves_53 ?_
    refine lv_iload_n hx hb dX11_serves_56 rfl (lv_at hl 3 rfl) ?_
    refine sk_Vi (q0 := 0) (n := 1) (rest := []) (wr := fmR om_17_3c _) ⟨hx, hb, hml, hown, hts⟩ hl.1 (c_umoodsOf l D cI cJ cC cZ cS q dy mo g1_1 g2_2 g3_6 d (kFe L wn Ba We V) hdy hmo hld2_3 hlv2_9 hd) w_4_104 w_4_105 w_4_106 w_1_13 w_4_107 hd_X1_moodsOf_1 ⟨⟨(Nat.le_of_ble_eq_true rfl), (Nat.le_of_ble_eq_true rfl)⟩, (Nat.le_of_ble_eq_true rfl), (Nat.le_of_ble_eq_true rfl)⟩ hK hP hD hS hA (fmT om_17_3c 0) (fmF om_17_3c 0) (fm_C1 rfl rfl) (fm_R rfl rfl) (fm_nT om_17_3c 0) (fm_nF om_17_3c 0) (fm_di om_17_3c 0) rfl rfl rfl rfl (Nat.le_of_ble_eq_true rfl) dX11_serves_57 (fun r_13 u H locs hw hP hD hS => ?_)
    refine anE hw (fun er_15 eu_14 => ?_)
    clear hw
    subst er_15
    refine o_mgE (ws' := [ro_rrrrrrrrrrrrrrrirl x0 11 (q 0) (q 1) (q 2) (q 3) (q 4) (q 5) (q 6) (q 7) (q 8) (q 9) (q 10) (q 11) (q 12) (q 13) (q 14) hc (q 16) dr, ro_rrrrrr (q 10) 9 (q 61) (q 62) (q 63) (q 64) (q 65) (q 66), ra_N (q 61) cI 90 sa, ra_I (q 62) cI 900 ft, ra_I (q 63) cI 90 fa, ra_I (q 64) cI 90 fo, ra_J (q 65) cJ 90 fg, ra_I (q 66) cI 9 fk, ro_rrnnnin (q 7) 7 (q 33) (q 34) dy wn mo mu ke, ra_I (q 33) cI 9 fb, ra_I (q 34) cI 9 fw, ro_rrrrrrrnn (q 11) 1 (q 10) (q 67) (q 68) (q 69) (q 70) (q 71) (q 72) dy mo, ra_I (q 67) cI 90 g1_1, ra_I (q 68) cI 9 g2_2, ra_I (q 69) cI 10 g3_6, ra_I (q 12) cI 9 ra, ra_I (q 13) cI 9 rc]) eu_14 hP hD rfl (fun hP hD => ?_)
    refine lv_iconst (v := 1) hx hb dX11_serves_60 ic_1 ?_
    refine lv_iload hx hb dX11_serves_61 (lv_at hl 4 rfl) ?_
    refine lv_ishl hx hb dX11_serves_63 ?_
    refine sk_top (nI (2 ^ om)) (kshl1 (by omega)).1 ?_
    refine lv_icmp_ne (tgt := 71) hx hb dX11_serves_64 (by decide) (fun c_16 => ?_) (fun c_16 => ?_)
    · skip
      refine lv_iconst (v := 0) hx hb dX11_serves_71 ic_0 ?_
      exact sk_iret hx hb hr rfl hlocks hK hP hD hS (⟨dy, mo, 0, g1_1, g2_2, g3_6, ra, rc, hdy, hmo, Or.inl ⟨rfl, fun q => c_16 ((ksh_e hd (by omega) hgo0).mpr q.2)⟩, rfl, rfl⟩) (Nat.le_of_ble_eq_true rfl) (Nat.le_of_ble_eq_true rfl) dX11_serves_72
    · skip
      refine lv_iconst (v := 1) hx hb dX11_serves_67 ic_1 ?_
      refine lv_goto (tgt := 72) hx hb dX11_serves_68 (by decide) ?_
      exact sk_iret hx hb hr rfl hlocks hK hP hD hS (⟨dy, mo, 1, g1_1, g2_2, g3_6, ra, rc, hdy, hmo, Or.inr ⟨rfl, hgo0, (ksh_e hd (by omega) hgo0).mp c_16⟩, rfl, rfl⟩) (Nat.le_of_ble_eq_true rfl) (Nat.le_of_ble_eq_true rfl) dX11_serves_72
  · have c_12 : b_5 = 0 := (neq b_5 0 (by omega) (Nat.le_of_ble_eq_true rfl)).mp c_12
    refine lv_iconst (v := 0) hx hb dX11_serves_23 ic_0 ?_
    exact sk_iret hx hb hr rfl hlocks hK hP hD hS (⟨dy, mo, 0, g1_1, g2_2, g3_6, ra, rc, hdy, hmo, Or.inl ⟨rfl, (fun q => (fun q => absurd q (by show ¬ 0 < _; rw [rr_0 hb1_8 (by omega)]; exact Nat.lt_irrefl 0)) q.1)⟩, rfl, rfl⟩) (Nat.le_of_ble_eq_true rfl) (Nat.le_of_ble_eq_true rfl) dX11_serves_24
set_option maxHeartbeats 4000000 in
set_option maxRecDepth 100000 in
theorem c_ux_serves2 (l : Launch) (D : va_G) (cI cJ cC cZ cS : ClassId) (x0 : Nat) (q : Nat → Nat) (hc : Int32) (dr : Int64) (sa : Nat → Nat) (ft : Nat → Int32) (fa : Nat → Int32) (fo : Nat → Int32) (fg : Nat → Int64) (fk : Nat → Int32) (dy : Nat) (wn : Nat) (mo : Nat) (ke : Nat) (mu : Int32) (fb : Nat → Int32) (fw : Nat → Int32) (gd : Nat) (gs : Nat) (e1 : Nat → Int32) (e2 : Nat → Int32) (e3 : Nat → Int32) (ra : Nat → Int32) (rc : Nat → Int32) (Ba : Nat → Nat) (We : Nat → Nat) (L : LkS) (U : Nat → Bool) (V : Nat → Bool) (o : Int32) (hsa : ∀ j, sa j ≤ 9) (hdy : dy ≤ 9) (hmo : mo ≤ 9) (hfb : ∀ j, j < 9 → fb j = nI (Ba j)) (hfw : ∀ j, j < 9 → fw j = nI (We j)) (hB9 : ∀ j, Ba j ≤ 9) (hW9 : ∀ j, We j ≤ 9) (hwn : wn ≤ 999) (hU : muO U mu) (hV : muO V o) (hrows : ∀ e, e < dy → kcRow L wn (Ba e) (We e) e sa ft fa fo fg) (hLk : kcLk L) : skM l yX11_serves cX11_serves 5 (some .boolean) 3 75 0 0 D (skT cI cJ cC cZ cS) [.ref x0, .int 2, .int o, .int 0, .int 0] [ro_rrrrrrrrrrrrrrrirl x0 11 (q 0) (q 1) (q 2) (q 3) (q 4) (q 5) (q 6) (q 7) (q 8) (q 9) (q 10) (q 11) (q 12) (q 13) (q 14) hc (q 16) dr, ro_rrrrrr (q 10) 9 (q 61) (q 62) (q 63) (q 64) (q 65) (q 66), ra_N (q 61) cI 90 sa, ra_I (q 62) cI 900 ft, ra_I (q 63) cI 90 fa, ra_I (q 64) cI 90 fo, ra_J (q 65) cJ 90 fg, ra_I (q 66) cI 9 fk, ro_rrnnnin (q 7) 7 (q 33) (q 34) dy wn mo mu ke, ra_I (q 33) cI 9 fb, ra_I (q 34) cI 9 fw, ro_rrrrrrrnn (q 11) 1 (q 10) (q 67) (q 68) (q 69) (q 70) (q 71) (q 72) gd gs, ra_I (q 67) cI 90 e1, ra_I (q 68) cI 9 e2, ra_I (q 69) cI 10 e3, ra_I (q 12) cI 9 ra, ra_I (q 13) cI 9 rc] (skI D (skT cI cJ cC cZ cS) (fun (r : Int32) (u : va_W) => ∃ (gd2 : Nat), ∃ (gs2 : Nat), ∃ (b : Nat), ∃ (g1 : Nat → Int32), ∃ (g2 : Nat → Int32), ∃ (g3 : Nat → Int32), ∃ (ra2 : Nat → Int32), ∃ (rc2 : Nat → Int32), gd2 ≤ 9 ∧ gs2 ≤ 9 ∧ ((b = 0 ∧ ¬ svR L dy wn mo Ba We U V) ∨ (b = 1 ∧ svR L dy wn mo Ba We U V)) ∧ r = nI b ∧ u = [ro_rrrrrrrrrrrrrrrirl x0 11 (q 0) (q 1) (q 2) (q 3) (q 4) (q 5) (q 6) (q 7) (q 8) (q 9) (q 10) (q 11) (q 12) (q 13) (q 14) hc (q 16) dr, ro_rrrrrr (q 10) 9 (q 61) (q 62) (q 63) (q 64) (q 65) (q 66), ra_N (q 61) cI 90 sa, ra_I (q 62) cI 900 ft, ra_I (q 63) cI 90 fa, ra_I (q 64) cI 90 fo, ra_J (q 65) cJ 90 fg, ra_I (q 66) cI 9 fk, ro_rrnnnin (q 7) 7 (q 33) (q 34) dy wn mo mu ke, ra_I (q 33) cI 9 fb, ra_I (q 34) cI 9 fw, ro_rrrrrrrnn (q 11) 1 (q 10) (q 67) (q 68) (q 69) (q 70) (q 71) (q 72) gd2 gs2, ra_I (q 67) cI 90 g1, ra_I (q 68) cI 9 g2, ra_I (q 69) cI 10 g3, ra_I (q 12) cI 9 ra2, ra_I (q 13) cI 9 rc2])) := by
  refine skM_of pf_X11_serves (Nat.le_of_ble_eq_true rfl) ?_
  intro p e s m below meth c A ls E hP hD hl
  refine skE_el E (fun hx hb hr hml hlocks hin hown hts hK hA => ?_)
  have hown : s.vm.findClass RX11 = some m.cls := hown
  have hS : va_S A s.heap s.heap [] := va_S.rf
  have hl : lv_has ls 5 [(0, .ref x0), (1, .int 2), (2, .int o), (3, .int 0), (4, .int 0)] := hl
  refine lv_aload_n hx hb dX11_serves_0 rfl (lv_at hl 0 rfl) ?_
  refine sk_get (v := .ref (q 11)) (C := RX11) (T := TX11) (N := 18) hx hb hts inlX11 hown hK hP 0 rfl rfl 11 (Nat.le_of_ble_eq_true rfl) w_2_134 rfl dX11_serves_1 ?_
  refine lv_aload_n hx hb dX11_serves_4 rfl (lv_at hl 0 rfl) ?_
  refine sk_get (v := .ref (q 7)) (C := RX11) (T := TX11) (N := 18) hx hb hts inlX11 hown hK hP 0 rfl rfl 7 (Nat.le_of_ble_eq_true rfl) w_2_130 rfl dX11_serves_5 ?_
  refine lv_iload_n hx hb dX11_serves_8 rfl (lv_at hl 2 rfl) ?_
  refine lv_iconst (v := 0) hx hb dX11_serves_9 ic_0 ?_
  refine sk_Vv (q0 := 0) (n := 3) (rest := []) (wr := fmR om_17_f938 _) ⟨hx, hb, hml, hown, hts⟩ hl.1 (c_klay l D cI cJ cC cZ cS q gd gs e1 e2 sa ft fa fo (q 7) (q 33) (q 34) dy wn mo ke mu fb fw Ba We L 0 V o fg hsa hdy hmo (by decide) hV hrows) w_4_47 w_4_48 w_4_49 w_1_13 w_4_50 hd_X1_lay_3 ⟨⟨(Nat.le_of_ble_eq_true rfl), (Nat.le_of_ble_eq_true rfl)⟩, (Nat.le_of_ble_eq_true rfl), (Nat.le_of_ble_eq_true rfl)⟩ hK hP hD hS hA [11, 12, 13, 1, 2, 3, 4, 5, 8] (fmF om_17_f938 0) rfl (fm_R rfl rfl) (by decide +kernel) (fm_nF om_17_f938 0) (by decide +kernel) rfl rfl rfl rfl (Nat.le_of_ble_eq_true rfl) dX11_serves_10 (fun u H locs hw hP hD hS => ?_)
  refine exE hw (fun g1_1 hw1 => exE hw1 (fun g2_2 hw2 => anE hw2 (fun hld2_3 eu_4 => ?_)))
  clear hw hw1 hw2
  refine o_mgqE (ux := [ro_rrrrrr (q 10) 9 (q 61) (q 62) (q 63) (q 64) (q 65) (q 66), ra_N (q 61) cI 90 sa, ra_I (q 62) cI 900 ft, ra_I (q 63) cI 90 fa, ra_I (q 64) cI 90 fo, ro_rrnnnin (q 7) 7 (q 33) (q 34) dy wn mo mu ke, ro_rrrrrrrnn (q 11) 1 (q 10) (q 67) (q 68) (q 69) (q 70) (q 71) (q 72) dy mo, ra_I (q 67) cI 90 g1_1, ra_I (q 68) cI 9 g2_2]) (ws' := [ro_rrrrrrrrrrrrrrrirl x0 11 (q 0) (q 1) (q 2) (q 3) (q 4) (q 5) (q 6) (q 7) (q 8) (q 9) (q 10) (q 11) (q 12) (q 13) (q 14) hc (q 16) dr, ro_rrrrrr (q 10) 9 (q 61) (q 62) (q 63) (q 64) (q 65) (q 66), ra_N (q 61) cI 90 sa, ra_I (q 62) cI 900 ft, ra_I (q 63) cI 90 fa, ra_I (q 64) cI 90 fo, ra_J (q 65) cJ 90 fg, ra_I (q 66) cI 9 fk, ro_rrnnnin (q 7) 7 (q 33) (q 34) dy wn mo mu ke, ra_I (q 33) cI 9 fb, ra_I (q 34) cI 9 fw, ro_rrrrrrrnn (q 11) 1 (q 10) (q 67) (q 68) (q 69) (q 70) (q 71) (q 72) dy mo, ra_I (q 67) cI 90 g1_1, ra_I (q 68) cI 9 g2_2, ra_I (q 69) cI 10 e3, ra_I (q 12) cI 9 ra, ra_I (q 13) cI 9 rc]) eu_4 [3, 4, 5, 6, 7, 8, 0, 1, 2] (by decide +kernel) rfl hP hD rfl (fun hP hD => ?_)
  refine lv_aload_n hx hb dX11_serves_13 rfl (lv_at hl 0 rfl) ?_
  refine sk_get (v := .ref (q 11)) (C := RX11) (T := TX11) (N := 18) hx hb hts inlX11 hown hK hP 0 rfl rfl 11 (Nat.le_of_ble_eq_true rfl) w_2_134 rfl dX11_serves_14 ?_
  refine sk_Vi (q0 := 0) (n := 0) (rest := []) (wr := fmR om_17_3c _) ⟨hx, hb, hml, hown, hts⟩ hl.1 (c_ksettle l D cI cJ cC cZ cS q dy mo g1_1 g2_2 e3 (kFe L wn Ba We V) hdy hmo hld2_3) w_4_53 w_4_54 w_4_55 w_1_13 w_4_56 hd_X1_settle_0 ⟨⟨(Nat.le_of_ble_eq_true rfl), (Nat.le_of_ble_eq_true rfl)⟩, (Nat.le_of_ble_eq_true rfl), (Nat.le_of_ble_eq_true rfl)⟩ hK hP hD hS hA (fmT om_17_3c 0) (fmF om_17_3c 0) (fm_C1 rfl rfl) (fm_R rfl rfl) (fm_nT om_17_3c 0) (fm_nF om_17_3c 0) (fm_di om_17_3c 0) rfl rfl rfl rfl (Nat.le_of_ble_eq_true rfl) dX11_serves_17 (fun r_7 u H locs hw hP hD hS => ?_)
  refine exE hw (fun b_5 hw1 => exE hw1 (fun g3_6 hw2 => anE hw2 (fun hb1_8 hw3 => anE hw3 (fun hlv2_9 hw4 => anE hw4 (fun er_11 eu_10 => ?_)))))
  clear hw hw1 hw2 hw3 hw4
  subst er_11
  refine o_mgE (ws' := [ro_rrrrrrrrrrrrrrrirl x0 11 (q 0) (q 1) (q 2) (q 3) (q 4) (q 5) (q 6) (q 7) (q 8) (q 9) (q 10) (q 11) (q 12) (q 13) (q 14) hc (q 16) dr, ro_rrrrrr (q 10) 9 (q 61) (q 62) (q 63) (q 64) (q 65) (q 66), ra_N (q 61) cI 90 sa, ra_I (q 62) cI 900 ft, ra_I (q 63) cI 90 fa, ra_I (q 64) cI 90 fo, ra_J (q 65) cJ 90 fg, ra_I (q 66) cI 9 fk, ro_rrnnnin (q 7) 7 (q 33) (q 34) dy wn mo mu ke, ra_I (q 33) cI 9 fb, ra_I (q 34) cI 9 fw, ro_rrrrrrrnn (q 11) 1 (q 10) (q 67) (q 68) (q 69) (q 70) (q 71) (q 72) dy mo, ra_I (q 67) cI 90 g1_1, ra_I (q 68) cI 9 g2_2, ra_I (q 69) cI 10 g3_6, ra_I (q 12) cI 9 ra, ra_I (q 13) cI 9 rc]) eu_10 hP hD rfl (fun hP hD => ?_)
  refine lv_if_ne (tgt := 25) hx hb dX11_serves_20 (by decide) (fun c_12 => ?_) (fun c_12 => ?_)
  · have c_12 : ¬ (b_5 = 0) := fun h => c_12 ((neq b_5 0 (by omega) (Nat.le_of_ble_eq_true rfl)).mpr h)
    have hgo0 := rr_1 hb1_8 (by omega)
    refine lv_iload_n hx hb dX11_serves_25 rfl (lv_at hl 1 rfl) ?_
    refine lv_lookup (off := 47) (tgt := 73) hx hb dX11_serves_26 (by decide) (by decide) (by decide) ?_
    refine lv_aload_n hx hb dX11_serves_73 rfl (lv_at hl 0 rfl) ?_
    refine lv_iload_n hx hb dX11_serves_74 rfl (lv_at hl 2 rfl) ?_
    refine sk_Vi (q0 := 0) (n := 1) (rest := []) (wr := fmR om_17_1ffff _) ⟨hx, hb, hml, hown, hts⟩ hl.1 (c_ux_isAtRest l D cI cJ cC cZ cS x0 q hc dr sa ft fa fo fg fk dy wn mo ke mu fb fw g1_1 g2_2 g3_6 ra rc Ba We L U V o hsa hdy hmo hfb hfw hB9 hW9 hwn hU hV hrows hLk hld2_3 hlv2_9 hgo0) w_4_108 w_4_110 w_0_24 w_1_1 w_4_111 hd_X11_isAtRest_1 ⟨⟨(Nat.le_of_ble_eq_true rfl), (Nat.le_of_ble_eq_true rfl)⟩, (Nat.le_of_ble_eq_true rfl), (Nat.le_of_ble_eq_true rfl)⟩ hK hP hD hS hA (fmT om_17_1ffff 0) (fmF om_17_1ffff 0) (fm_C1 rfl rfl) (fm_R rfl rfl) (fm_nT om_17_1ffff 0) (fm_nF om_17_1ffff 0) (fm_di om_17_1ffff 0) rfl rfl rfl rfl (Nat.le_of_ble_eq_true rfl) dX11_serves_75 (fun r_21 u H locs hw hP hD hS => ?_)
    refine exE hw (fun gd2_13 hw1 => exE hw1 (fun gs2_14 hw2 => exE hw2 (fun b_15 hw3 => exE hw3 (fun g1_16 hw4 => exE hw4 (fun g2_17 hw5 => exE hw5 (fun g3_18 hw6 => exE hw6 (fun ra2_19 hw7 => exE hw7 (fun rc2_20 hw8 => anE hw8 (fun hgd2_22 hw9 => anE hw9 (fun hgs2_23 hw10 => anE hw10 (fun hsv_24 hw11 => anE hw11 (fun er_26 eu_25 => ?_))))))))))))
    clear hw hw1 hw2 hw3 hw4 hw5 hw6 hw7 hw8 hw9 hw10 hw11
    subst er_26
    refine o_mgE (ws' := [ro_rrrrrrrrrrrrrrrirl x0 11 (q 0) (q 1) (q 2) (q 3) (q 4) (q 5) (q 6) (q 7) (q 8) (q 9) (q 10) (q 11) (q 12) (q 13) (q 14) hc (q 16) dr, ro_rrrrrr (q 10) 9 (q 61) (q 62) (q 63) (q 64) (q 65) (q 66), ra_N (q 61) cI 90 sa, ra_I (q 62) cI 900 ft, ra_I (q 63) cI 90 fa, ra_I (q 64) cI 90 fo, ra_J (q 65) cJ 90 fg, ra_I (q 66) cI 9 fk, ro_rrnnnin (q 7) 7 (q 33) (q 34) dy wn mo mu ke, ra_I (q 33) cI 9 fb, ra_I (q 34) cI 9 fw, ro_rrrrrrrnn (q 11) 1 (q 10) (q 67) (q 68) (q 69) (q 70) (q 71) (q 72) gd2_13 gs2_14, ra_I (q 67) cI 90 g1_16, ra_I (q 68) cI 9 g2_17, ra_I (q 69) cI 10 g3_18, ra_I (q 12) cI 9 ra2_19, ra_I (q 13) cI 9 rc2_20]) eu_25 hP hD rfl (fun hP hD => ?_)
    exact sk_iret hx hb hr (nbool b_15 (by omega)) hlocks hK hP hD hS (⟨gd2_13, gs2_14, b_15, g1_16, g2_17, g3_18, ra2_19, rc2_20, hgd2_22, hgs2_23, hsv_24, rfl, rfl⟩) (Nat.le_of_ble_eq_true rfl) (Nat.le_of_ble_eq_true rfl) dX11_serves_78
  · have c_12 : b_5 = 0 := (neq b_5 0 (by omega) (Nat.le_of_ble_eq_true rfl)).mp c_12
    refine lv_iconst (v := 0) hx hb dX11_serves_23 ic_0 ?_
    exact sk_iret hx hb hr rfl hlocks hK hP hD hS (⟨dy, mo, 0, g1_1, g2_2, g3_6, ra, rc, hdy, hmo, Or.inl ⟨rfl, (fun q => (fun q => absurd q (by show ¬ 0 < _; rw [rr_0 hb1_8 (by omega)]; exact Nat.lt_irrefl 0)) q.1)⟩, rfl, rfl⟩) (Nat.le_of_ble_eq_true rfl) (Nat.le_of_ble_eq_true rfl) dX11_serves_24
