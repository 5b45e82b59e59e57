/-! draws, what is kept -/
def kdr (x : Nat) : Nat := (1103515245 * x + 12345) % 2147483648
def kdv (x m : Nat) : Nat := kdr x / 64 % m
theorem kdr_lt (x : Nat) : kdr x < 2147483648 := Nat.mod_lt _ (by decide)
theorem kofn_mul (a b : Nat) : Int64.ofNat a * Int64.ofNat b = Int64.ofNat (a * b) := (Int64.ofNat_mul a b).symm
theorem kdr_and (x : Nat) : (1103515245 * Int64.ofNat x + 12345) &&& 2147483647 = Int64.ofNat (kdr x) := by
  have h1 : (1103515245 : Int64) * Int64.ofNat x + 12345 = Int64.ofNat (1103515245 * x + 12345) := by
    rw [Int64.ofNat_add, Int64.ofNat_mul]; rfl
  rw [h1]
  refine Int64.toBitVec_inj.mp ?_
  rw [Int64.toBitVec_and]
  show BitVec.ofNat 64 (1103515245 * x + 12345) &&& BitVec.ofNat 64 2147483647 = BitVec.ofNat 64 (kdr x)
  refine BitVec.eq_of_toNat_eq ?_
  rw [BitVec.toNat_and, BitVec.toNat_ofNat, BitVec.toNat_ofNat, BitVec.toNat_ofNat]
  have h2 := kdr_lt x
  rw [Nat.mod_eq_of_lt (show kdr x < 2 ^ 64 by omega), Nat.mod_eq_of_lt (show 2147483647 < 2 ^ 64 by decide), show 2147483647 = 2 ^ 31 - 1 from rfl, Nat.and_two_pow_sub_one_eq_mod]
  unfold kdr
  generalize 1103515245 * x + 12345 = y
  exact Nat.mod_mod_of_dvd y (show 2 ^ 31 ∣ 2 ^ 64 from Nat.pow_dvd_pow 2 (by decide))
theorem kofn_int {a : Nat} (h : a < 9223372036854775808) : (Int64.ofNat a).toInt = (a : Int) := Int64.toInt_ofNat_of_lt h
theorem kofn_div {a b : Nat} (ha : a < 9223372036854775808) (hb : b < 9223372036854775808) (h0 : 0 < b) : Int64.ofNat a / Int64.ofNat b = Int64.ofNat (a / b) := by
  have h1 : a / b < 9223372036854775808 := Nat.lt_of_le_of_lt (Nat.div_le_self a b) ha
  refine Int64.toInt_inj.mp ?_
  rw [Jvm.Kit.i64_div (by rw [kofn_int ha, kofn_int hb]; omega), kofn_int ha, kofn_int hb, kofn_int h1]
  rw [Int.tdiv_eq_ediv_of_nonneg (by omega)]
  exact (Int.natCast_ediv a b).symm
theorem kofn_rem {a b : Nat} (ha : a < 9223372036854775808) (hb : b < 9223372036854775808) (h0 : 0 < b) : Int64.ofNat a - Int64.ofNat a / Int64.ofNat b * Int64.ofNat b = Int64.ofNat (a % b) := by
  rw [kofn_div ha hb h0, kofn_mul, kofn_sub (Nat.div_mul_le_self a b)]
  congr 1
  have h1 := Nat.div_add_mod a b
  have h2 := Nat.mul_comm b (a / b)
  omega
theorem kofn_pos {m : Nat} (h : 1 ≤ m) (hm : m < 9223372036854775808) : ¬ lg_cmp (Int64.ofNat m) 0 ≤ 0 := fun q => by
  have h1 := (lg_cmp_le _ _).mp q
  rw [Int64.le_iff_toInt_le, kofn_int hm] at h1
  have e0 : (0 : Int64).toInt = 0 := rfl
  rw [e0] at h1
  omega
theorem kofn_ne {m : Nat} (h : 1 ≤ m) (hm : m < 9223372036854775808) : ¬ Int64.ofNat m = 0 := fun q => by
  have h1 := kofn_int hm
  rw [q] at h1
  have e0 : (0 : Int64).toInt = 0 := rfl
  omega
abbrev KLg := Nat → Nat × Nat × Nat
def kkO (lg : KLg) (n : Nat) (p1 : Nat → Int32) (p2 : Nat → Int64) (p3 : Nat → Int32) : Prop := ∀ k, k < n → p1 k = nI (lg k).1 ∧ p2 k = Int64.ofNat (lg k).2.1 ∧ p3 k = nI (lg k).2.2
theorem kk_s {lg : KLg} {n : Nat} {p1 p3 r1 r3 : Nat → Int32} {p2 r2 : Nat → Int64} {a b c : Nat} (h : kkO lg n p1 p2 p3) (e1 : r1 = upd p1 n (nI a)) (e2 : r2 = vp_updL p2 n (Int64.ofNat b)) (e3 : r3 = upd p3 n (nI c)) : kkO (updG lg n (a, b, c)) (n + 1) r1 r2 r3 := fun k hk => by
  unfold updG
  by_cases q : k = n
  · subst q; rw [if_pos rfl, kui_s e1, kup_s e2, kui_s e3]; exact ⟨rfl, rfl, rfl⟩
  · rw [if_neg q, kui_n e1 q, kup_n e2 q, kui_n e3 q]; exact h k (by omega)
/-! the days by the seed -/
abbrev KDs := Nat × (Nat → Nat) × (Nat → Nat)
def kds (rn d : Nat) (s : KDs) : KDs := if kdv s.1 100 < rn then (kdr s.1, s.2.1, updG s.2.2 d (min (s.2.2 d + 1) 9)) else (kdr (kdr s.1), updG s.2.1 d (kdv (kdr s.1) 10), s.2.2)
def kda (rn : Nat) (s : KDs) : Nat → KDs
  | 0 => s
  | d + 1 => kds rn d (kda rn s d)
/-! a week by the seed -/
theorem kl2i {k : Nat} (h : k < 2147483648) : (Int64.ofNat k).toInt32 = nI k := kten_i (by rw [kofn_int (by omega)]) h
theorem kmin9 {a : Nat} (h : a < 2147483648) : (if (9 : Int32) < nI a then 9 else nI a) = nI (min a 9) := by
  by_cases q : 9 < a
  · rw [if_pos (show (9 : Int32) < nI a from (nlt 9 a (by decide) h).mpr q), Nat.min_eq_right (by omega)]; rfl
  · rw [if_neg (show ¬ (9 : Int32) < nI a from fun c => q ((nlt 9 a (by decide) h).mp c)), Nat.min_eq_left (by omega)]
theorem kdv_lt {x m : Nat} (h : 1 ≤ m) : kdv x m < m := Nat.mod_lt _ h
theorem kda_s (rn : Nat) (s : KDs) (d : Nat) : kda rn s (d + 1) = kds rn d (kda rn s d) := rfl
def kdO (S : KDs) (zb zw : Nat → Int32) : Prop := (∀ j, j < 9 → zb j = nI (S.2.1 j)) ∧ (∀ j, j < 9 → zw j = nI (S.2.2 j)) ∧ (∀ j, S.2.1 j ≤ 9) ∧ (∀ j, S.2.2 j ≤ 9) ∧ S.1 < 2147483648
theorem kd_wet {S : KDs} {zb zw zx : Nat → Int32} {rn d : Nat} (h : kdO S zb zw) (hr : kdv S.1 100 < rn) (e : zx = upd zw d (nI (min (S.2.2 d + 1) 9))) : kdO (kds rn d S) zb zx := by
  obtain ⟨h1, h2, h3, h4, h5⟩ := h
  unfold kds
  rw [if_pos hr]
  refine ⟨h1, fun j hj => ?_, h3, fun j => ?_, kdr_lt _⟩
  · show zx j = nI (updG S.2.2 d (min (S.2.2 d + 1) 9) j)
    unfold updG
    by_cases q : j = d
    · subst q; rw [if_pos rfl]; exact kui_s e
    · rw [if_neg q, kui_n e q]; exact h2 j hj
  · show updG S.2.2 d (min (S.2.2 d + 1) 9) j ≤ 9
    unfold updG
    by_cases q : j = d
    · rw [if_pos q]; exact Nat.min_le_right _ _
    · rw [if_neg q]; exact h4 j
theorem kd_barge {S : KDs} {zb zw zx : Nat → Int32} {rn d : Nat} (h : kdO S zb zw) (hr : ¬ kdv S.1 100 < rn) (e : zx = upd zb d (nI (kdv (kdr S.1) 10))) : kdO (kds rn d S) zx zw := by
  obtain ⟨h1, h2, h3, h4, h5⟩ := h
  unfold kds
  rw [if_neg hr]
  refine ⟨fun j hj => ?_, h2, fun j => ?_, h4, kdr_lt _⟩
  · show zx j = nI (updG S.2.1 d (kdv (kdr S.1) 10) j)
    unfold updG
    by_cases q : j = d
    · subst q; rw [if_pos rfl]; exact kui_s e
    · rw [if_neg q, kui_n e q]; exact h1 j hj
  · show updG S.2.1 d (kdv (kdr S.1) 10) j ≤ 9
    unfold updG
    by_cases q : j = d
    · rw [if_pos q]; have := kdv_lt (x := kdr S.1) (m := 10) (by decide); omega
    · rw [if_neg q]; exact h3 j
theorem kds_1 {rn d : Nat} {S : KDs} (hr : kdv S.1 100 < rn) : (kds rn d S).1 = kdr S.1 := by unfold kds; rw [if_pos hr]
theorem kds_2 {rn d : Nat} {S : KDs} (hr : ¬ kdv S.1 100 < rn) : (kds rn d S).1 = kdr (kdr S.1) := by unfold kds; rw [if_neg hr]
theorem kmin30 {a : Nat} (h : a < 2147483648) : (if (30 : Int32) < nI a then 30 else nI a) = nI (min a 30) := by
  by_cases q : 30 < a
  · rw [if_pos (show (30 : Int32) < nI a from (nlt 30 a (by decide) h).mpr q), Nat.min_eq_right (by omega)]; rfl
  · rw [if_neg (show ¬ (30 : Int32) < nI a from fun c => q ((nlt 30 a (by decide) h).mp c)), Nat.min_eq_left (by omega)]
/-! a state is saved -/
def psh {α : Type} (ac : Nat) (f : Nat → α) (x : α) : Nat → α := if ac < 20 then updG f ac x else updG (rotG f) 19 x
theorem psh_lt {α : Type} {ac : Nat} (h : ac < 20) (f : Nat → α) (x : α) : updG f ac x = psh ac f x := by unfold psh; rw [if_pos h]
theorem psh_20 {α : Type} {ac : Nat} (h : ¬ ac < 20) (f : Nat → α) (x : α) : updG (rotG f) 19 x = psh ac f x := by unfold psh; rw [if_neg h]
/-! the state that both sides hold -/
abbrev KN := Nat × Nat × (Nat → Nat) × (Nat → Nat) × (Nat → Bool) × Nat
abbrev nWk (n : KN) : Nat := n.1
abbrev nMo (n : KN) : Nat := n.2.1
abbrev nBa (n : KN) : Nat → Nat := n.2.2.1
abbrev nWe (n : KN) : Nat → Nat := n.2.2.2.1
abbrev nMu (n : KN) : Nat → Bool := n.2.2.2.2.1
abbrev nKe (n : KN) : Nat := n.2.2.2.2.2
/-- lock, days, now, weeks kept, acts, what they were, rows heard, the rows, the seed, refused -/
abbrev KS := LkS × Nat × KN × KLg × Nat × (Nat → KN) × Nat × (Nat → Nat) × Nat × (Nat → Int32)
abbrev sL (s : KS) : LkS := s.1
abbrev sD (s : KS) : Nat := s.2.1
abbrev sN (s : KS) : KN := s.2.2.1
abbrev sG (s : KS) : KLg := s.2.2.2.1
abbrev sA (s : KS) : Nat := s.2.2.2.2.1
abbrev sU (s : KS) : Nat → KN := s.2.2.2.2.2.1
abbrev sH (s : KS) : Nat := s.2.2.2.2.2.2.1
abbrev sR (s : KS) : Nat → Nat := s.2.2.2.2.2.2.2.1
abbrev sS (s : KS) : Nat := s.2.2.2.2.2.2.2.2.1
abbrev sF (s : KS) : Nat → Int32 := s.2.2.2.2.2.2.2.2.2
def kE (L : LkS) (n : KN) : Nat → Nat → Nat → Bool := kcFo L (nWk n) (nBa n) (nWe n) (nMu n) 0
def kNum (L : LkS) (dy : Nat) (n : KN) : Nat := kcC (kE L n) dy 0 (nMo n)
def kLast (L : LkS) (dy : Nat) (n : KN) (x : Nat) : Nat := kcM (kE L n) dy (nMo n) x (dy - 1)
/-- the week of a number goes by -/
def kPass (L : LkS) (dy : Nat) (n : KN) (x : Nat) : KN := (nWk n + 1, kLast L dy n x, nBa n, nWe n, nMu n, nKe n + 1)
def kKeep (L : LkS) (dy : Nat) (n : KN) (g : KLg) (x : Nat) : KLg := updG g (nKe n) (nWk n, kNum L dy n, kLast L dy n x)
def kSave (s : KS) : KS := (sL s, sD s, sN s, sG s, min (sA s + 1) 20, psh (sA s) (sU s) (sN s), sH s, sR s, sS s, sF s)
def kPut (s : KS) (n : KN) : KS := (sL s, sD s, n, sG s, sA s, sU s, sH s, sR s, sS s, sF s)
def kNo (s : KS) (w : Nat) : KS := (sL s, sD s, sN s, sG s, sA s, sU s, sH s, sR s, sS s, upd (sF s) w (sF s w + 1))
def kWeek (s : KS) (n : KN) (g : KLg) (x : Nat) : KS := (sL s, sD s, n, g, sA s, sU s, sH s, sR s, x, sF s)
/-! the calls -/
def kIn (d : Int32) (n : Nat) : Prop := ∃ k : Nat, k < n ∧ d = nI k
theorem kIn_neg {d : Int32} {n : Nat} (h : d < 0) (hn : n ≤ 2147483647) : ¬ kIn d n := fun ⟨k, hk, e⟩ => by
  rw [e] at h
  exact nI_pos (show k < 2147483648 by omega) h
theorem kIn_ge {k n : Nat} (h : n ≤ k) (hk : k < 2147483648) : ¬ kIn (nI k) n := fun ⟨j, hj, e⟩ => by
  have := (neq k j hk (by omega)).mp e
  omega
/-! what calls answer -/
def dayV (Ba We : Nat → Nat) (U : Nat → Bool) (k : Nat) (w : Int32) : Int32 := if w = 0 then nI (Ba k) else if w = 1 then nI (We k) else if w = 2 then (if U k = true then 1 else 0) else -1
def dayR (dy : Nat) (Ba We : Nat → Nat) (U : Nat → Bool) (d w r : Int32) : Prop := (¬ kIn d dy ∧ r = -1) ∨ ∃ k, k < dy ∧ d = nI k ∧ r = dayV Ba We U k w
theorem dayR_eq {dy : Nat} {Ba We : Nat → Nat} {U : Nat → Bool} {d w r q : Int32} (h9 : dy ≤ 9) (h1 : dayR dy Ba We U d w r) (h2 : dayR dy Ba We U d w q) : r = q := by
  rcases h1 with ⟨a, b⟩ | ⟨k, a, b, e⟩ <;> rcases h2 with ⟨a', b'⟩ | ⟨k', a', b', e'⟩
  · rw [b, b']
  · exact absurd ⟨k', a', b'⟩ a
  · exact absurd ⟨k, a, b⟩ a'
  · have h3 := (neq k k' (by omega) (by omega)).mp (b.symm.trans b')
    subst h3
    rw [e, e']
def toldR (L : LkS) (dy wn : Nat) (Ba We : Nat → Nat) (U : Nat → Bool) (d o r : Int32) : Prop := ((∀ k j, k < dy → d = nI k → j < 10 → o = nI j → U k = true) ∧ r = -1) ∨ ∃ k j, k < dy ∧ d = nI k ∧ j < 10 ∧ o = nI j ∧ ¬ U k = true ∧ r = nI (kcSaid L wn (Ba k) (We k) k j)
theorem toldR_eq {L : LkS} {dy wn : Nat} {Ba We : Nat → Nat} {U : Nat → Bool} {d o r q : Int32} (h9 : dy ≤ 9) (h1 : toldR L dy wn Ba We U d o r) (h2 : toldR L dy wn Ba We U d o q) : r = q := by
  rcases h1 with ⟨a, b⟩ | ⟨k, j, a1, a2, a3, a4, a5, a6⟩ <;> rcases h2 with ⟨a', b'⟩ | ⟨k', j', c1, c2, c3, c4, c5, c6⟩
  · rw [b, b']
  · exact absurd (a k' j' c1 c2 c3 c4) c5
  · exact absurd (a' k j a1 a2 a3 a4) a5
  · have h3 := (neq k k' (by omega) (by omega)).mp (a2.symm.trans c2)
    have h4 := (neq j j' (by omega) (by omega)).mp (a4.symm.trans c4)
    subst h3 h4
    rw [a6, c6]
def weeksR (dy n : Nat) (r : Int64) : Prop := (dy = 0 ∧ r = -1000000000000000) ∨ (1 ≤ dy ∧ r = Int64.ofNat n)
theorem weeksR_eq {dy n : Nat} {r q : Int64} (h1 : weeksR dy n r) (h2 : weeksR dy n q) : r = q := by
  rcases h1 with ⟨a, b⟩ | ⟨a, b⟩ <;> rcases h2 with ⟨c, d⟩ | ⟨c, d⟩
  · rw [b, d]
  · omega
  · omega
  · rw [b, d]
def moodR (E : Nat → Nat → Nat → Bool) (dy mo : Nat) (k d r : Int32) : Prop := ((∀ j x, j < dy → d = nI j → x < kcC E dy 0 mo → ¬ k = nI x) ∧ r = -1) ∨ ∃ j x, j < dy ∧ d = nI j ∧ x < kcC E dy 0 mo ∧ k = nI x ∧ r = nI (kcM E dy mo x j)
theorem moodR_eq {E : Nat → Nat → Nat → Bool} {dy mo : Nat} {k d r q : Int32} (h9 : dy ≤ 9) (h1 : moodR E dy mo k d r) (h2 : moodR E dy mo k d q) : r = q := by
  have hc := kcC_9 E h9 0 mo
  rcases h1 with ⟨a, b⟩ | ⟨j, x, a1, a2, a3, a4, a5⟩ <;> rcases h2 with ⟨a', b'⟩ | ⟨j', x', c1, c2, c3, c4, c5⟩
  · rw [b, b']
  · exact absurd c4 (a j' x' c1 c2 c3)
  · exact absurd a4 (a' j x a1 a2 a3)
  · have h3 := (neq j j' (by omega) (by omega)).mp (a2.symm.trans c2)
    have h4 := (neq x x' (by omega) (by omega)).mp (a4.symm.trans c4)
    subst h3 h4
    rw [a5, c5]
def statR (rf : Nat → Int32) (w r : Int32) : Prop := (¬ kIn w 6 ∧ r = -1) ∨ ∃ k, k < 6 ∧ w = nI k ∧ r = rf k
theorem statR_eq {rf : Nat → Int32} {w r q : Int32} (h1 : statR rf w r) (h2 : statR rf w q) : r = q := by
  rcases h1 with ⟨a, b⟩ | ⟨k, a, b, e⟩ <;> rcases h2 with ⟨a', b'⟩ | ⟨k', a', b', e'⟩
  · rw [b, b']
  · exact absurd ⟨k', a', b'⟩ a
  · exact absurd ⟨k, a, b⟩ a'
  · have h3 := (neq k k' (by omega) (by omega)).mp (b.symm.trans b')
    subst h3
    rw [e, e']
/-! what a lock's numbers can be -/
def kcL9 (L : LkS) : Prop := 2 ≤ lD L ∧ lD L ≤ 9 ∧ lM L ≤ 9 ∧ (∀ j, lB L j ≤ 9) ∧ (∀ j, lW L j ≤ 9) ∧ (∀ j, lU L j = true → j < lD L) ∧ lRn L ≤ 100
theorem kl9_amt {tb : Nat → Nat} {n d : Nat} {c : Cur} {x : (Nat × Nat) × Cur} (h : amtP tb n d c = .ok x) : x.1.1 ≤ d - 1 ∧ x.1.2 ≤ 9 := by
  obtain ⟨y, h1, h2⟩ := bindR_ok (show bindR (numP tb n 0 (d - 1) (nx tb n c.1)) (fun x => bindR (numP tb n 0 9 x.2) (fun y => .ok ((x.1, y.1), y.2))) = .ok x from h)
  obtain ⟨z, h3, h4⟩ := bindR_ok h2
  cases h4
  exact ⟨(numP_val h1).2, (numP_val h3).2⟩
theorem kl9_sum {tb : Nat → Nat} {n : Nat} {L : LkS} {w kind : Nat} {c : Cur} {r : LkS × Cur} (hL : kcL9 L) (h : sumL tb n L w kind c = .ok r) : kcL9 r.1 := by
  unfold sumL at h
  split at h
  · cases h
  · obtain ⟨a, h1, h2⟩ := bindR_ok h
    cases h2
    exact hL
theorem kl9_body {tb : Nat → Nat} {n : Nat} {L : LkS} {c : Cur} {r : LkS × Cur} (hL : kcL9 L) (h : bodyP tb n L c = .ok r) : kcL9 r.1 := by
  obtain ⟨k1, k2, k3, k4, k5, k6, k7⟩ := id hL
  unfold bodyP at h
  split at h
  · obtain ⟨x, h1, h2⟩ := bindR_ok h
    cases h2
    exact ⟨k1, k2, k3, updG_le k4 (kl9_amt h1).2, k5, k6, k7⟩
  · split at h
    · obtain ⟨x, h1, h2⟩ := bindR_ok h
      cases h2
      exact ⟨k1, k2, k3, k4, updG_le k5 (kl9_amt h1).2, k6, k7⟩
    · split at h
      · obtain ⟨x, h1, h2⟩ := bindR_ok h
        have hx := (numP_val h1).2
        have h3 : (if lU L x.1 = true then (.error (2, (nx tb n c.1).1) : LkR) else .ok (stU L x.1, x.2)) = .ok r := h2
        split at h3
        · cases h3
        · cases h3
          refine ⟨k1, k2, k3, k4, k5, fun j hj => ?_, k7⟩
          have hj2 : updG (lU L) x.1 true j = true := hj
          unfold updG at hj2
          show j < lD L
          by_cases e : j = x.1
          · omega
          · rw [if_neg e] at hj2; exact k6 j hj2
      · split at h
        · exact kl9_sum hL h
        · split at h
          · exact kl9_sum hL h
          · split at h
            · exact kl9_sum hL h
            · split at h
              · obtain ⟨x, h1, h2⟩ := bindR_ok h
                cases h2
                exact ⟨k1, k2, k3, k4, k5, k6, (numP_val h1).2⟩
              · cases h
theorem kl9_stm {tb : Nat → Nat} {n : Nat} {q r : LkS × Cur} (hL : kcL9 q.1) (h : stmP tb n q = .ok r) : kcL9 r.1 := by
  obtain ⟨x, h1, h2⟩ := bindR_ok (show bindR (bodyP tb n q.1 q.2) (fun r => bindR (signP tb n 59 r.2) (fun c => .ok (r.1, c))) = .ok r from h)
  obtain ⟨y, h3, h4⟩ := bindR_ok h2
  cases h4
  exact kl9_body (r := x) hL h1
theorem kl9_stP {tb : Nat → Nat} {n : Nat} : ∀ f q r, stP tb n f q = .ok r → kcL9 q.1 → kcL9 r.1
  | 0, q, r, h, hL => by
    have h1 : (if n ≤ q.2.1 then (.ok (q.1, 60) : Except Err (LkS × Nat)) else .error (5, q.2.1)) = .ok r := h
    split at h1
    · cases h1; exact hL
    · cases h1
  | f + 1, q, r, h, hL => by
    have h1 : (if n ≤ q.2.1 then (.ok (q.1, 60 - (f + 1)) : Except Err (LkS × Nat)) else bindR (stmP tb n q) (stP tb n f)) = .ok r := h
    split at h1
    · cases h1; exact hL
    · obtain ⟨x, h2, h3⟩ := bindR_ok h1
      exact kl9_stP f x r h3 (kl9_stm hL h2)
theorem kl9_open {tb : Nat → Nat} {n : Nat} {c : Cur} {r : LkS × Cur} (h : openP tb n c = .ok r) : kcL9 r.1 := by
  unfold openP at h
  obtain ⟨c1, h1, h2⟩ := bindR_ok h
  obtain ⟨d, h3, h4⟩ := bindR_ok h2
  obtain ⟨c2, h5, h6⟩ := bindR_ok h4
  obtain ⟨m, h7, h8⟩ := bindR_ok h6
  obtain ⟨c3, h9, h10⟩ := bindR_ok h8
  cases h10
  exact ⟨(numP_val h3).1, (numP_val h3).2, (numP_val h7).2, fun _ => Nat.zero_le _, fun _ => Nat.zero_le _, fun j hj => Bool.noConfusion (show false = true from hj), Nat.zero_le _⟩
theorem kl9_lock {tb : Nat → Nat} {n : Nat} {r : LkS × Nat} (h : lockP tb n = .ok r) : kcL9 r.1 := by
  obtain ⟨x, h1, h2⟩ := bindR_ok (show bindR (openP tb n (sk tb n 0, false)) (stP tb n 59) = .ok r from h)
  exact kl9_stP 59 x r h2 (kl9_open h1)
/-! one answer, one state behind it -/
def kR {α : Type} (C : α → Prop) (P0 : Prop) (P : α → Prop) : Prop := ((∀ x, ¬ C x) ∧ P0) ∨ ∃ x, C x ∧ P x
theorem kR_eq {α : Type} {C : α → Prop} {P0 Q0 R : Prop} {P Q : α → Prop} (h1 : kR C P0 P) (h2 : kR C Q0 Q) (hC : ∀ x y, C x → C y → x = y) (h0 : P0 → Q0 → R) (hp : ∀ x, P x → Q x → R) : R := by
  rcases h1 with ⟨a, b⟩ | ⟨x, a, b⟩ <;> rcases h2 with ⟨c, d⟩ | ⟨y, c, d⟩
  · exact h0 b d
  · exact absurd c (a y)
  · exact absurd a (c x)
  · obtain rfl := hC x y a c; exact hp x b d
theorem kR_1 {α : Type} {C : α → Prop} {P0 : Prop} {P : α → Prop} (x : α) (h : C x) (hp : P x) : kR C P0 P := Or.inr ⟨x, h, hp⟩
theorem kR_0 {α : Type} {C : α → Prop} {P0 : Prop} {P : α → Prop} (h : ∀ x, ¬ C x) (hp : P0) : kR C P0 P := Or.inl ⟨h, hp⟩
def kB (c P Q : Prop) : Prop := (c ∧ P) ∨ (¬ c ∧ Q)
theorem kB_eq {c P Q P2 Q2 R : Prop} (h1 : kB c P Q) (h2 : kB c P2 Q2) (hp : P → P2 → R) (hq : Q → Q2 → R) : R := by
  rcases h1 with ⟨a, b⟩ | ⟨a, b⟩ <;> rcases h2 with ⟨e, d⟩ | ⟨e, d⟩
  · exact hp b d
  · exact absurd a e
  · exact absurd e a
  · exact hq b d
theorem kB_1 {c P Q : Prop} (h : c) (hp : P) : kB c P Q := Or.inl ⟨h, hp⟩
theorem kB_0 {c P Q : Prop} (h : ¬ c) (hp : Q) : kB c P Q := Or.inr ⟨h, hp⟩
theorem kIe {a b : Nat} {x : Int32} (h1 : x = nI a) (h2 : x = nI b) (ha : a < 2147483648) (hb : b < 2147483648) : a = b := (neq a b ha hb).mp (h1.symm.trans h2)
/-! has, kept -/
def kSum (U : Nat → Bool) (n : Nat) : Nat := kcS (fun d => if U d = true then 1 else 0) n
theorem kSum_9 {U : Nat → Bool} {dy : Nat} (h : ∀ j, U j = true → j < dy) : ∀ n, dy ≤ n → kSum U n = kSum U dy
  | 0, hn => by rw [show dy = 0 by omega]
  | n + 1, hn => by
    by_cases e : dy = n + 1
    · rw [e]
    · show kcS (fun d => if U d = true then 1 else 0) n + (if U n = true then 1 else 0) = _
      rw [if_neg (fun q => by have := h n q; omega), Nat.add_zero]
      exact kSum_9 h n (by omega)
def hasV (dy wn mo : Nat) (U : Nat → Bool) (ke hn ac : Nat) (w : Int32) : Int32 := if w = 0 then nI dy else if w = 1 then nI wn else if w = 2 then nI mo else if w = 3 then nI (kSum U 9) else if w = 4 then nI (min ke 30) else if w = 5 then nI hn else if w = 6 then nI ac else -1
def keptX (lg : KLg) (ke j v : Nat) : Nat := if v = 0 then (lg (ke - min ke 30 + j)).1 else if v = 1 then (lg (ke - min ke 30 + j)).2.1 else (lg (ke - min ke 30 + j)).2.2
def keptR (lg : KLg) (ke : Nat) (k w : Int32) (r : Int64) : Prop := kR (fun x : Nat × Nat => x.1 < min ke 30 ∧ k = nI x.1 ∧ x.2 < 3 ∧ w = nI x.2) (r = -1000000000000000) (fun x => r = Int64.ofNat (keptX lg ke x.1 x.2))
theorem keptR_eq {lg : KLg} {ke : Nat} {k w : Int32} {r q : Int64} (h1 : keptR lg ke k w r) (h2 : keptR lg ke k w q) : r = q :=
  kR_eq h1 h2 (fun x y a b => Prod.ext (kIe a.2.1 b.2.1 (by omega) (by omega)) (kIe a.2.2.2 b.2.2.2 (by omega) (by omega))) (fun a b => a.trans b.symm) (fun _ a b => a.trans b.symm)
/-! what can be, of a state -/
def nOk (dy : Nat) (n : KN) : Prop := nWk n ≤ 999 ∧ nMo n ≤ 9 ∧ (∀ j, nBa n j ≤ 9) ∧ (∀ j, nWe n j ≤ 9) ∧ (∀ j, nMu n j = true → j < dy) ∧ nKe n ≤ nWk n
def sOk (dy : Nat) (n : KN) (ac : Nat) (su : Nat → KN) : Prop := nOk dy n ∧ ac ≤ 20 ∧ (∀ j, j < ac → nOk dy (su j)) ∧ (∀ i j, i ≤ j → j < ac → nKe (su i) ≤ nKe (su j)) ∧ ∀ j, j < ac → nKe (su j) ≤ nKe n
theorem sOk_push {dy ac : Nat} {n n2 : KN} {su : Nat → KN} (h : sOk dy n ac su) (h2 : nOk dy n2) (hk : nKe n ≤ nKe n2) : sOk dy n2 (min (ac + 1) 20) (psh ac su n) := by
  obtain ⟨a1, a2, a3, a4, a5⟩ := h
  unfold psh
  by_cases q : ac < 20
  · rw [if_pos q]
    refine ⟨h2, by omega, fun j hj => ?_, fun i j hi hj => ?_, fun j hj => ?_⟩
    · unfold updG
      by_cases e : j = ac
      · rw [if_pos e]; exact a1
      · rw [if_neg e]; exact a3 j (by omega)
    · unfold updG
      by_cases e : j = ac
      · rw [if_pos e]
        by_cases e2 : i = ac
        · rw [if_pos e2]; exact Nat.le_refl _
        · rw [if_neg e2]; exact a5 i (by omega)
      · rw [if_neg e, if_neg (show ¬ i = ac by omega)]; exact a4 i j hi (by omega)
    · unfold updG
      by_cases e : j = ac
      · rw [if_pos e]; exact hk
      · rw [if_neg e]; exact Nat.le_trans (a5 j (by omega)) hk
  · rw [if_neg q]
    refine ⟨h2, by omega, fun j hj => ?_, fun i j hi hj => ?_, fun j hj => ?_⟩
    · unfold updG
      by_cases e : j = 19
      · rw [if_pos e]; exact a1
      · rw [if_neg e]; unfold rotG; rw [if_pos (by omega)]; exact a3 (j + 1) (by omega)
    · unfold updG
      by_cases e : j = 19
      · rw [if_pos e]
        by_cases e2 : i = 19
        · rw [if_pos e2]; exact Nat.le_refl _
        · rw [if_neg e2]; unfold rotG; rw [if_pos (by omega)]; exact a5 (i + 1) (by omega)
      · rw [if_neg e, if_neg (show ¬ i = 19 by omega)]
        unfold rotG
        rw [if_pos (show i < 19 by omega), if_pos (show j < 19 by omega)]
        exact a4 (i + 1) (j + 1) (by omega) (by omega)
    · unfold updG
      by_cases e : j = 19
      · rw [if_pos e]; exact hk
      · rw [if_neg e]; unfold rotG; rw [if_pos (by omega)]; exact Nat.le_trans (a5 (j + 1) (by omega)) hk
theorem sOk_now {dy ac : Nat} {n n2 : KN} {su : Nat → KN} (h : sOk dy n ac su) (h2 : nOk dy n2) (hk : nKe n ≤ nKe n2) : sOk dy n2 ac su := ⟨h2, h.2.1, h.2.2.1, h.2.2.2.1, fun j hj => Nat.le_trans (h.2.2.2.2 j hj) hk⟩
theorem sOk_pop {dy ac : Nat} {n : KN} {su : Nat → KN} (h : sOk dy n ac su) (hc : 1 ≤ ac) : sOk dy (su (ac - 1)) (ac - 1) su :=
  ⟨h.2.2.1 _ (by omega), by have := h.2.1; omega, fun j hj => h.2.2.1 j (by omega), fun i j hi hj => h.2.2.2.1 i j hi (by omega), fun j hj => h.2.2.2.1 j (ac - 1) (by omega) (by omega)⟩
theorem sOk_none {dy : Nat} {n : KN} {su : Nat → KN} (h : nOk dy n) : sOk dy n 0 su := ⟨h, by omega, fun j hj => absurd hj (Nat.not_lt_zero j), fun i j _ hj => absurd hj (Nat.not_lt_zero j), fun j hj => absurd hj (Nat.not_lt_zero j)⟩
def lgOk (lg : KLg) : Prop := ∀ k, (lg k).1 ≤ 999 ∧ (lg k).2.1 ≤ 1000000000 ∧ (lg k).2.2 ≤ 9
theorem lgOk_up {lg : KLg} {k a b c : Nat} (h : lgOk lg) (h1 : a ≤ 999) (h2 : b ≤ 1000000000) (h3 : c ≤ 9) : lgOk (updG lg k (a, b, c)) := fun j => by
  unfold updG
  by_cases e : j = k
  · rw [if_pos e]; exact ⟨h1, h2, h3⟩
  · rw [if_neg e]; exact h j
def kOk (L : LkS) (dy : Nat) (n : KN) (lg : KLg) (ac : Nat) (su : Nat → KN) (hn : Nat) (hR : Nat → Nat) (sd : Nat) : Prop :=
  kcLk L ∧ (lK L).length ≤ 1600 ∧ dy ≤ 9 ∧ (1 ≤ dy → kcL9 L ∧ dy = lD L) ∧ sOk dy n ac su ∧ lgOk lg ∧ hn ≤ 16 ∧ (∀ j, j < hn → hR j < 10 * dy) ∧ sd < 2147483648
/-! acts: set, mute -/
def actP (n : KN) (ac : Nat) (su : Nat → KN) (rf : Nat → Int32) (n2 m2 : KN) (ac2 : Nat) (su2 : Nat → KN) (rf2 : Nat → Int32) : Prop := n2 = m2 ∧ ac2 = min (ac + 1) 20 ∧ su2 = psh ac su n ∧ rf2 = rf
def actN (n : KN) (ac : Nat) (su : Nat → KN) (rf : Nat → Int32) (w : Nat) (n2 : KN) (ac2 : Nat) (su2 : Nat → KN) (rf2 : Nat → Int32) : Prop := n2 = n ∧ ac2 = ac ∧ su2 = su ∧ rf2 = upd rf w (rf w + 1)
def setR (dy : Nat) (n : KN) (ac : Nat) (su : Nat → KN) (rf : Nat → Int32) (d w o r : Int32) (n2 : KN) (ac2 : Nat) (su2 : Nat → KN) (rf2 : Nat → Int32) : Prop :=
  kR (fun x : Nat × Nat => x.1 < dy ∧ d = nI x.1 ∧ x.2 < 10 ∧ o = nI x.2 ∧ ((w = 0 ∧ ¬ nBa n x.1 = x.2) ∨ (w = 1 ∧ ¬ nWe n x.1 = x.2)))
    (r = 0 ∧ actN n ac su rf 2 n2 ac2 su2 rf2)
    (fun x => r = 1 ∧ actP n ac su rf n2 (nWk n, nMo n, if w = 0 then updG (nBa n) x.1 x.2 else nBa n, if w = 0 then nWe n else updG (nWe n) x.1 x.2, nMu n, nKe n) ac2 su2 rf2)
def act5 (r q : Int32) (n2 n3 : KN) (ac2 ac3 : Nat) (su2 su3 : Nat → KN) (rf2 rf3 : Nat → Int32) : Prop := r = q ∧ n2 = n3 ∧ ac2 = ac3 ∧ su2 = su3 ∧ rf2 = rf3
theorem actP_5 {n : KN} {ac : Nat} {su : Nat → KN} {rf : Nat → Int32} {r q c : Int32} {n2 n3 m : KN} {ac2 ac3 : Nat} {su2 su3 : Nat → KN} {rf2 rf3 : Nat → Int32} (h1 : r = c ∧ actP n ac su rf n2 m ac2 su2 rf2) (h2 : q = c ∧ actP n ac su rf n3 m ac3 su3 rf3) : act5 r q n2 n3 ac2 ac3 su2 su3 rf2 rf3 := by
  obtain ⟨a, b1, b2, b3, b4⟩ := h1
  obtain ⟨e, c1, c2, c3, c4⟩ := h2
  exact ⟨a.trans e.symm, b1.trans c1.symm, b2.trans c2.symm, b3.trans c3.symm, b4.trans c4.symm⟩
theorem actN_5 {n : KN} {ac w : Nat} {su : Nat → KN} {rf : Nat → Int32} {r q c : Int32} {n2 n3 : KN} {ac2 ac3 : Nat} {su2 su3 : Nat → KN} {rf2 rf3 : Nat → Int32} (h1 : r = c ∧ actN n ac su rf w n2 ac2 su2 rf2) (h2 : q = c ∧ actN n ac su rf w n3 ac3 su3 rf3) : act5 r q n2 n3 ac2 ac3 su2 su3 rf2 rf3 := by
  obtain ⟨a, b1, b2, b3, b4⟩ := h1
  obtain ⟨e, c1, c2, c3, c4⟩ := h2
  exact ⟨a.trans e.symm, b1.trans c1.symm, b2.trans c2.symm, b3.trans c3.symm, b4.trans c4.symm⟩
theorem setR_eq {dy : Nat} {n : KN} {ac : Nat} {su : Nat → KN} {rf : Nat → Int32} {d w o r q : Int32} {n2 n3 : KN} {ac2 ac3 : Nat} {su2 su3 : Nat → KN} {rf2 rf3 : Nat → Int32} (h9 : dy ≤ 9) (h1 : setR dy n ac su rf d w o r n2 ac2 su2 rf2) (h2 : setR dy n ac su rf d w o q n3 ac3 su3 rf3) : act5 r q n2 n3 ac2 ac3 su2 su3 rf2 rf3 :=
  kR_eq h1 h2 (fun x y a b => Prod.ext (kIe a.2.1 b.2.1 (by omega) (by omega)) (kIe a.2.2.2.1 b.2.2.2.1 (by omega) (by omega))) (fun a b => actN_5 a b) (fun _ a b => actP_5 a b)
theorem updG_t {U : Nat → Bool} {k dy : Nat} {b : Bool} (h : ∀ j, U j = true → j < dy) (hk : k < dy) : ∀ j, updG U k b j = true → j < dy := fun j hj => by
  unfold updG at hj
  by_cases e : j = k
  · omega
  · rw [if_neg e] at hj; exact h j hj
theorem setR_ok {dy : Nat} {n : KN} {ac : Nat} {su : Nat → KN} {rf : Nat → Int32} {d w o r : Int32} {n2 : KN} {ac2 : Nat} {su2 : Nat → KN} {rf2 : Nat → Int32} (h : setR dy n ac su rf d w o r n2 ac2 su2 rf2) (hk : sOk dy n ac su) : sOk dy n2 ac2 su2 ∧ nKe n2 = nKe n := by
  rcases h with ⟨-, -, rfl, rfl, rfl, -⟩ | ⟨x, hx, -, rfl, rfl, rfl, -⟩
  · exact ⟨hk, rfl⟩
  · obtain ⟨b1, b2, b3, b4, b5, b6⟩ := hk.1
    refine ⟨sOk_push hk ⟨b1, b2, ?_, ?_, b5, b6⟩ (Nat.le_refl _), rfl⟩
    · show ∀ j, (if w = 0 then updG (nBa n) x.1 x.2 else nBa n) j ≤ 9
      split
      · exact updG_le b3 (by omega)
      · exact b3
    · show ∀ j, (if w = 0 then nWe n else updG (nWe n) x.1 x.2) j ≤ 9
      split
      · exact b4
      · exact updG_le b4 (by omega)
def muteR (dy : Nat) (n : KN) (ac : Nat) (su : Nat → KN) (rf : Nat → Int32) (d w r : Int32) (n2 : KN) (ac2 : Nat) (su2 : Nat → KN) (rf2 : Nat → Int32) : Prop :=
  kR (fun x : Nat => x < dy ∧ d = nI x ∧ ((w = 1 ∧ ¬ nMu n x = true) ∨ (w = 0 ∧ nMu n x = true)))
    (r = 0 ∧ actN n ac su rf 2 n2 ac2 su2 rf2)
    (fun x => r = 1 ∧ actP n ac su rf n2 (nWk n, nMo n, nBa n, nWe n, updG (nMu n) x (!nMu n x), nKe n) ac2 su2 rf2)
theorem muteR_eq {dy : Nat} {n : KN} {ac : Nat} {su : Nat → KN} {rf : Nat → Int32} {d w r q : Int32} {n2 n3 : KN} {ac2 ac3 : Nat} {su2 su3 : Nat → KN} {rf2 rf3 : Nat → Int32} (h9 : dy ≤ 9) (h1 : muteR dy n ac su rf d w r n2 ac2 su2 rf2) (h2 : muteR dy n ac su rf d w q n3 ac3 su3 rf3) : act5 r q n2 n3 ac2 ac3 su2 su3 rf2 rf3 :=
  kR_eq h1 h2 (fun x y a b => kIe a.2.1 b.2.1 (by omega) (by omega)) (fun a b => actN_5 a b) (fun _ a b => actP_5 a b)
theorem muteR_ok {dy : Nat} {n : KN} {ac : Nat} {su : Nat → KN} {rf : Nat → Int32} {d w r : Int32} {n2 : KN} {ac2 : Nat} {su2 : Nat → KN} {rf2 : Nat → Int32} (h : muteR dy n ac su rf d w r n2 ac2 su2 rf2) (hk : sOk dy n ac su) : sOk dy n2 ac2 su2 ∧ nKe n2 = nKe n := by
  rcases h with ⟨-, -, rfl, rfl, rfl, -⟩ | ⟨x, hx, -, rfl, rfl, rfl, -⟩
  · exact ⟨hk, rfl⟩
  · obtain ⟨b1, b2, b3, b4, b5, b6⟩ := hk.1
    exact ⟨sOk_push hk ⟨b1, b2, b3, b4, updG_t b5 hx.1, b6⟩ (Nat.le_refl _), rfl⟩
/-! weeks that go -/
theorem kLast_9 {L : LkS} {dy x : Nat} {n : KN} (hd : 1 ≤ dy) (hm : nMo n ≤ 9) (hx : x < kNum L dy n) : kLast L dy n x ≤ 9 := by
  have h1 := (kcA_ok (E := kE L n) (n := dy) (a0 := nMo n) (x := x) (by omega) hx (dy - 1 + 1) (by omega)).1
  have h2 : kLast L dy n x < 10 := h1
  omega
theorem nOk_pass {L : LkS} {dy x : Nat} {n : KN} (h : nOk dy n) (hd : 1 ≤ dy) (hw : nWk n < 999) (hx : x < kNum L dy n) : nOk dy (kPass L dy n x) := by
  obtain ⟨b1, b2, b3, b4, b5, b6⟩ := h
  exact ⟨by show nWk n + 1 ≤ 999; omega, kLast_9 hd b2 hx, b3, b4, b5, by show nKe n + 1 ≤ nWk n + 1; omega⟩
theorem lgOk_keep {L : LkS} {dy x : Nat} {n : KN} {lg : KLg} (h : nOk dy n) (hd : 1 ≤ dy) (h9 : dy ≤ 9) (hl : lgOk lg) (hx : x < kNum L dy n) : lgOk (kKeep L dy n lg x) := lgOk_up hl h.1 (kcC_9 _ h9 _ _) (kLast_9 hd h.2.1 hx)
def goR (L : LkS) (dy : Nat) (n : KN) (lg : KLg) (ac : Nat) (su : Nat → KN) (rf : Nat → Int32) (r : Int32) (n2 : KN) (lg2 : KLg) (ac2 : Nat) (su2 : Nat → KN) (rf2 : Nat → Int32) : Prop :=
  kB (1 ≤ dy ∧ nWk n < 999 ∧ 0 < kNum L dy n) (lg2 = kKeep L dy n lg 0 ∧ r = nI (kLast L dy n 0) ∧ actP n ac su rf n2 (kPass L dy n 0) ac2 su2 rf2) (lg2 = lg ∧ r = -1 ∧ actN n ac su rf 3 n2 ac2 su2 rf2)
theorem goR_eq {L : LkS} {dy : Nat} {n : KN} {lg : KLg} {ac : Nat} {su : Nat → KN} {rf : Nat → Int32} {r q : Int32} {n2 n3 : KN} {lg2 lg3 : KLg} {ac2 ac3 : Nat} {su2 su3 : Nat → KN} {rf2 rf3 : Nat → Int32} (h1 : goR L dy n lg ac su rf r n2 lg2 ac2 su2 rf2) (h2 : goR L dy n lg ac su rf q n3 lg3 ac3 su3 rf3) : lg2 = lg3 ∧ act5 r q n2 n3 ac2 ac3 su2 su3 rf2 rf3 :=
  kB_eq h1 h2 (fun a b => ⟨a.1.trans b.1.symm, actP_5 a.2 b.2⟩) (fun a b => ⟨a.1.trans b.1.symm, actN_5 a.2 b.2⟩)
theorem goR_ok {L : LkS} {dy : Nat} {n : KN} {lg : KLg} {ac : Nat} {su : Nat → KN} {rf : Nat → Int32} {r : Int32} {n2 : KN} {lg2 : KLg} {ac2 : Nat} {su2 : Nat → KN} {rf2 : Nat → Int32} (h : goR L dy n lg ac su rf r n2 lg2 ac2 su2 rf2) (h9 : dy ≤ 9) (hk : sOk dy n ac su) (hl : lgOk lg) : sOk dy n2 ac2 su2 ∧ lgOk lg2 := by
  rcases h with ⟨⟨c1, c2, c3⟩, rfl, -, rfl, rfl, rfl, -⟩ | ⟨-, rfl, -, rfl, rfl, rfl, -⟩
  · exact ⟨sOk_push hk (nOk_pass hk.1 c1 c2 c3) (Nat.le_succ _), lgOk_keep hk.1 c1 h9 hl c3⟩
  · exact ⟨hk, hl⟩
/-! weeks by the seed -/
abbrev KC := KN × KLg × Nat
def kchN (rn dy : Nat) (s : KC) : KN := (nWk s.1, nMo s.1, (kda rn (s.2.2, nBa s.1, nWe s.1) dy).2.1, (kda rn (s.2.2, nBa s.1, nWe s.1) dy).2.2, nMu s.1, nKe s.1)
def kchS (rn dy : Nat) (s : KC) : Nat := (kda rn (s.2.2, nBa s.1, nWe s.1) dy).1
def kchX (L : LkS) (dy : Nat) (s : KC) : Nat := kdv (kchS (lRn L) dy s) (kNum L dy (kchN (lRn L) dy s))
/-- one week by the seed, if it goes -/
def kch1 (L : LkS) (dy : Nat) (s : KC) : KC := (kPass L dy (kchN (lRn L) dy s) (kchX L dy s), kKeep L dy (kchN (lRn L) dy s) s.2.1 (kchX L dy s), kdr (kchS (lRn L) dy s))
def kch0 (L : LkS) (dy : Nat) (s : KC) : KC := (kchN (lRn L) dy s, s.2.1, kchS (lRn L) dy s)
def kch (L : LkS) (dy : Nat) : Nat → KC → KC × Nat
  | 0, s => (s, 0)
  | f + 1, s => if kNum L dy (kchN (lRn L) dy s) = 0 then (kch0 L dy s, 0) else ((kch L dy f (kch1 L dy s)).1, (kch L dy f (kch1 L dy s)).2 + 1)
theorem kch_no {L : LkS} {dy f : Nat} {s : KC} (h : kNum L dy (kchN (lRn L) dy s) = 0) : kch L dy (f + 1) s = (kch0 L dy s, 0) := if_pos h
theorem kch_go {L : LkS} {dy f : Nat} {s : KC} (h : 0 < kNum L dy (kchN (lRn L) dy s)) : kch L dy (f + 1) s = ((kch L dy f (kch1 L dy s)).1, (kch L dy f (kch1 L dy s)).2 + 1) := if_neg (by omega)
theorem kds_9 {rn d : Nat} {s : KDs} (h1 : ∀ j, s.2.1 j ≤ 9) (h2 : ∀ j, s.2.2 j ≤ 9) (h3 : s.1 < 2147483648) : (∀ j, (kds rn d s).2.1 j ≤ 9) ∧ (∀ j, (kds rn d s).2.2 j ≤ 9) ∧ (kds rn d s).1 < 2147483648 := by
  unfold kds
  split
  · exact ⟨h1, updG_le h2 (Nat.min_le_right _ _), kdr_lt _⟩
  · exact ⟨updG_le h1 (by have := kdv_lt (x := kdr s.1) (m := 10) (by decide); omega), h2, kdr_lt _⟩
theorem kda_9 {rn : Nat} {s : KDs} (h1 : ∀ j, s.2.1 j ≤ 9) (h2 : ∀ j, s.2.2 j ≤ 9) (h3 : s.1 < 2147483648) : ∀ d, (∀ j, (kda rn s d).2.1 j ≤ 9) ∧ (∀ j, (kda rn s d).2.2 j ≤ 9) ∧ (kda rn s d).1 < 2147483648
  | 0 => ⟨h1, h2, h3⟩
  | d + 1 => by
    obtain ⟨a, b, c⟩ := kda_9 (rn := rn) h1 h2 h3 d
    exact kds_9 a b c
def kcOk (dy : Nat) (s : KC) : Prop := nOk dy s.1 ∧ lgOk s.2.1 ∧ s.2.2 < 2147483648
theorem kcOk_0 {L : LkS} {dy : Nat} {s : KC} (h : kcOk dy s) : kcOk dy (kch0 L dy s) ∧ nKe (kch0 L dy s).1 = nKe s.1 := by
  obtain ⟨⟨b1, b2, b3, b4, b5, b6⟩, h2, h3⟩ := h
  obtain ⟨c1, c2, c3⟩ := kda_9 (rn := lRn L) (s := (s.2.2, nBa s.1, nWe s.1)) b3 b4 h3 dy
  exact ⟨⟨⟨b1, b2, c1, c2, b5, b6⟩, h2, c3⟩, rfl⟩
theorem kcOk_1 {L : LkS} {dy : Nat} {s : KC} (h : kcOk dy s) (hd : 1 ≤ dy) (h9 : dy ≤ 9) (hw : nWk s.1 < 999) (hn : 0 < kNum L dy (kchN (lRn L) dy s)) : kcOk dy (kch1 L dy s) ∧ nKe s.1 ≤ nKe (kch1 L dy s).1 := by
  have h0 := (kcOk_0 (L := L) h).1
  have hx : kchX L dy s < kNum L dy (kchN (lRn L) dy s) := kdv_lt hn
  have h1 : nOk dy (kchN (lRn L) dy s) := h0.1
  exact ⟨⟨nOk_pass h1 hd hw hx, lgOk_keep h1 hd h9 h.2.1 hx, kdr_lt _⟩, Nat.le_succ _⟩
theorem kcOk_n {L : LkS} {dy : Nat} (hd : 1 ≤ dy) (h9 : dy ≤ 9) : ∀ f s, kcOk dy s → nWk s.1 + f ≤ 999 → kcOk dy (kch L dy f s).1 ∧ nKe s.1 ≤ nKe (kch L dy f s).1.1
  | 0, s, h, _ => ⟨h, Nat.le_refl _⟩
  | f + 1, s, h, hw => by
    by_cases q : kNum L dy (kchN (lRn L) dy s) = 0
    · rw [kch_no q]
      have h1 := kcOk_0 (L := L) h
      exact ⟨h1.1, Nat.le_of_eq h1.2.symm⟩
    · rw [kch_go (by omega)]
      have h1 := kcOk_1 (L := L) h hd h9 (by omega) (by omega)
      have h2 := kcOk_n (L := L) hd h9 f (kch1 L dy s) h1.1 (by show nWk s.1 + 1 + f ≤ 999; omega)
      exact ⟨h2.1, Nat.le_trans h1.2 h2.2⟩
def chanceR (L : LkS) (dy : Nat) (n : KN) (lg : KLg) (ac : Nat) (su : Nat → KN) (sd : Nat) (rf : Nat → Int32) (c r : Int32) (n2 : KN) (lg2 : KLg) (ac2 : Nat) (su2 : Nat → KN) (sd2 : Nat) (rf2 : Nat → Int32) : Prop :=
  kR (fun x : Nat => 1 ≤ dy ∧ 1 ≤ x ∧ x ≤ 30 ∧ c = nI x ∧ nWk n + x ≤ 999) ((lg2 = lg ∧ sd2 = sd) ∧ r = -1 ∧ actN n ac su rf 3 n2 ac2 su2 rf2)
    (fun x => (lg2 = (kch L dy x (n, lg, sd)).1.2.1 ∧ sd2 = (kch L dy x (n, lg, sd)).1.2.2) ∧ r = nI (kch L dy x (n, lg, sd)).2 ∧ actP n ac su rf n2 (kch L dy x (n, lg, sd)).1.1 ac2 su2 rf2)
theorem chanceR_eq {L : LkS} {dy : Nat} {n : KN} {lg : KLg} {ac : Nat} {su : Nat → KN} {sd : Nat} {rf : Nat → Int32} {c r q : Int32} {n2 n3 : KN} {lg2 lg3 : KLg} {ac2 ac3 : Nat} {su2 su3 : Nat → KN} {sd2 sd3 : Nat} {rf2 rf3 : Nat → Int32} (h1 : chanceR L dy n lg ac su sd rf c r n2 lg2 ac2 su2 sd2 rf2) (h2 : chanceR L dy n lg ac su sd rf c q n3 lg3 ac3 su3 sd3 rf3) : (lg2 = lg3 ∧ sd2 = sd3) ∧ act5 r q n2 n3 ac2 ac3 su2 su3 rf2 rf3 :=
  kR_eq h1 h2 (fun x y a b => kIe a.2.2.2.1 b.2.2.2.1 (by omega) (by omega)) (fun a b => ⟨⟨a.1.1.trans b.1.1.symm, a.1.2.trans b.1.2.symm⟩, actN_5 a.2 b.2⟩) (fun _ a b => ⟨⟨a.1.1.trans b.1.1.symm, a.1.2.trans b.1.2.symm⟩, actP_5 a.2 b.2⟩)
theorem chanceR_ok {L : LkS} {dy : Nat} {n : KN} {lg : KLg} {ac : Nat} {su : Nat → KN} {sd : Nat} {rf : Nat → Int32} {c r : Int32} {n2 : KN} {lg2 : KLg} {ac2 : Nat} {su2 : Nat → KN} {sd2 : Nat} {rf2 : Nat → Int32} (h : chanceR L dy n lg ac su sd rf c r n2 lg2 ac2 su2 sd2 rf2) (h9 : dy ≤ 9) (hk : sOk dy n ac su) (hl : lgOk lg) (hs : sd < 2147483648) : sOk dy n2 ac2 su2 ∧ lgOk lg2 ∧ sd2 < 2147483648 := by
  rcases h with ⟨-, ⟨rfl, rfl⟩, -, rfl, rfl, rfl, -⟩ | ⟨x, hx, ⟨rfl, rfl⟩, -, rfl, rfl, rfl, -⟩
  · exact ⟨hk, hl, hs⟩
  · have h1 := kcOk_n (L := L) hx.1 h9 x (n, lg, sd) ⟨hk.1, hl, hs⟩ hx.2.2.2.2
    exact ⟨sOk_push hk h1.1.1 h1.2, h1.1.2.1, h1.1.2.2⟩
/-! undone, the seed -/
def undoR (n : KN) (ac : Nat) (su : Nat → KN) (rf : Nat → Int32) (r : Int32) (n2 : KN) (ac2 : Nat) (rf2 : Nat → Int32) : Prop :=
  kB (1 ≤ ac) (r = 1 ∧ n2 = su (ac - 1) ∧ ac2 = ac - 1 ∧ rf2 = rf) (r = 0 ∧ n2 = n ∧ ac2 = ac ∧ rf2 = upd rf 4 (rf 4 + 1))
theorem undoR_eq {n : KN} {ac : Nat} {su : Nat → KN} {rf : Nat → Int32} {r q : Int32} {n2 n3 : KN} {ac2 ac3 : Nat} {rf2 rf3 : Nat → Int32} (h1 : undoR n ac su rf r n2 ac2 rf2) (h2 : undoR n ac su rf q n3 ac3 rf3) : r = q ∧ n2 = n3 ∧ ac2 = ac3 ∧ rf2 = rf3 :=
  kB_eq h1 h2 (fun a b => ⟨a.1.trans b.1.symm, a.2.1.trans b.2.1.symm, a.2.2.1.trans b.2.2.1.symm, a.2.2.2.trans b.2.2.2.symm⟩) (fun a b => ⟨a.1.trans b.1.symm, a.2.1.trans b.2.1.symm, a.2.2.1.trans b.2.2.1.symm, a.2.2.2.trans b.2.2.2.symm⟩)
theorem undoR_ok {dy : Nat} {n : KN} {ac : Nat} {su : Nat → KN} {rf : Nat → Int32} {r : Int32} {n2 : KN} {ac2 : Nat} {rf2 : Nat → Int32} (h : undoR n ac su rf r n2 ac2 rf2) (hk : sOk dy n ac su) : sOk dy n2 ac2 su := by
  rcases h with ⟨c, -, rfl, rfl, -⟩ | ⟨-, -, rfl, rfl, -⟩
  · exact sOk_pop hk c
  · exact hk
def seedR (sd : Nat) (rf : Nat → Int32) (s r : Int32) (sd2 : Nat) (rf2 : Nat → Int32) : Prop :=
  kR (fun x : Nat => x < 2147483648 ∧ s = nI x) (r = 0 ∧ sd2 = sd ∧ rf2 = upd rf 5 (rf 5 + 1)) (fun x => r = 1 ∧ sd2 = x ∧ rf2 = rf)
theorem seedR_eq {sd : Nat} {rf : Nat → Int32} {s r q : Int32} {sd2 sd3 : Nat} {rf2 rf3 : Nat → Int32} (h1 : seedR sd rf s r sd2 rf2) (h2 : seedR sd rf s q sd3 rf3) : r = q ∧ sd2 = sd3 ∧ rf2 = rf3 :=
  kR_eq h1 h2 (fun x y a b => kIe a.2 b.2 a.1 b.1) (fun a b => ⟨a.1.trans b.1.symm, a.2.1.trans b.2.1.symm, a.2.2.trans b.2.2.symm⟩) (fun _ a b => ⟨a.1.trans b.1.symm, a.2.1.trans b.2.1.symm, a.2.2.trans b.2.2.symm⟩)
theorem seedR_ok {sd : Nat} {rf : Nat → Int32} {s r : Int32} {sd2 : Nat} {rf2 : Nat → Int32} (h : seedR sd rf s r sd2 rf2) (hs : sd < 2147483648) : sd2 < 2147483648 := by
  rcases h with ⟨-, -, rfl, -⟩ | ⟨x, hx, -, rfl, -⟩
  · exact hs
  · exact hx.1
/-! what is heard -/
def hearC (dy : Nat) (U : Nat → Bool) (tb : Nat → Nat) (t : Nat) : Prop := 1 ≤ dy ∧ 2 ≤ t ∧ t ≤ 32 ∧ t % 2 = 0 ∧ ∀ i, 2 * i < t → tb (2 * i) < dy ∧ ¬ U (tb (2 * i)) = true ∧ tb (2 * i + 1) < 10
def hrR (tb : Nat → Nat) (i : Nat) : Nat := tb (2 * i) * 10 + tb (2 * i + 1)
def hearR (dy : Nat) (U : Nat → Bool) (tb : Nat → Nat) (t hn : Nat) (hR : Nat → Nat) (rf : Nat → Int32) (r : Int32) (hn2 : Nat) (hR2 : Nat → Nat) (rf2 : Nat → Int32) : Prop :=
  kB (hearC dy U tb t) (r = nI (t / 2) ∧ hn2 = t / 2 ∧ hR2 = hrR tb ∧ rf2 = rf) (r = -1 ∧ hn2 = hn ∧ hR2 = hR ∧ rf2 = upd rf 1 (rf 1 + 1))
theorem hearR_eq {dy : Nat} {U : Nat → Bool} {tb : Nat → Nat} {t hn : Nat} {hR : Nat → Nat} {rf : Nat → Int32} {r q : Int32} {hn2 hn3 : Nat} {hR2 hR3 : Nat → Nat} {rf2 rf3 : Nat → Int32} (h1 : hearR dy U tb t hn hR rf r hn2 hR2 rf2) (h2 : hearR dy U tb t hn hR rf q hn3 hR3 rf3) : r = q ∧ hn2 = hn3 ∧ hR2 = hR3 ∧ rf2 = rf3 :=
  kB_eq h1 h2 (fun a b => ⟨a.1.trans b.1.symm, a.2.1.trans b.2.1.symm, a.2.2.1.trans b.2.2.1.symm, a.2.2.2.trans b.2.2.2.symm⟩) (fun a b => ⟨a.1.trans b.1.symm, a.2.1.trans b.2.1.symm, a.2.2.1.trans b.2.2.1.symm, a.2.2.2.trans b.2.2.2.symm⟩)
theorem hearR_ok {dy : Nat} {U : Nat → Bool} {tb : Nat → Nat} {t hn : Nat} {hR : Nat → Nat} {rf : Nat → Int32} {r : Int32} {hn2 : Nat} {hR2 : Nat → Nat} {rf2 : Nat → Int32} (h : hearR dy U tb t hn hR rf r hn2 hR2 rf2) (h9 : dy ≤ 9) (h1 : hn ≤ 16) (h2 : ∀ j, j < hn → hR j < 10 * dy) : hn2 ≤ 16 ∧ ∀ j, j < hn2 → hR2 j < 10 * dy := by
  rcases h with ⟨⟨c1, c2, c3, c4, c5⟩, -, rfl, rfl, -⟩ | ⟨-, -, rfl, rfl, -⟩
  · refine ⟨by omega, fun j hj => ?_⟩
    have := c5 j (by omega)
    show tb (2 * j) * 10 + tb (2 * j + 1) < 10 * dy
    omega
  · exact ⟨h1, h2⟩
/-! the lock -/
def lkN (L : LkS) : KN := (0, lM L, lB L, lW L, lU L, 0)
def lockR (tb : Nat → Nat) (t : Nat) (L : LkS) (dy : Nat) (n : KN) (ac hn : Nat) (rf : Nat → Int32) (r : Int32) (L2 : LkS) (d2 : Nat) (n2 : KN) (ac2 hn2 : Nat) (rf2 : Nat → Int32) : Prop := match lockP tb t with
  | .ok x => r = nI x.2 ∧ L2 = x.1 ∧ d2 = lD x.1 ∧ n2 = lkN x.1 ∧ ac2 = 0 ∧ hn2 = 0 ∧ rf2 = rf
  | .error _ => r = -1 ∧ L2 = L ∧ d2 = dy ∧ n2 = n ∧ ac2 = ac ∧ hn2 = hn ∧ rf2 = upd rf 1 (rf 1 + 1)
theorem lockR_eq {tb : Nat → Nat} {t : Nat} {L : LkS} {dy : Nat} {n : KN} {ac hn : Nat} {rf : Nat → Int32} {r q : Int32} {L2 L3 : LkS} {d2 d3 : Nat} {n2 n3 : KN} {ac2 hn2 ac3 hn3 : Nat} {rf2 rf3 : Nat → Int32} (h1 : lockR tb t L dy n ac hn rf r L2 d2 n2 ac2 hn2 rf2) (h2 : lockR tb t L dy n ac hn rf q L3 d3 n3 ac3 hn3 rf3) : r = q ∧ L2 = L3 ∧ d2 = d3 ∧ n2 = n3 ∧ ac2 = ac3 ∧ hn2 = hn3 ∧ rf2 = rf3 := by
  unfold lockR at h1 h2
  cases hP : lockP tb t with
  | ok x =>
    rw [hP] at h1 h2
    obtain ⟨a1, a2, a3, a4, a5, a6, a7⟩ := h1
    obtain ⟨b1, b2, b3, b4, b5, b6, b7⟩ := h2
    exact ⟨a1.trans b1.symm, a2.trans b2.symm, a3.trans b3.symm, a4.trans b4.symm, a5.trans b5.symm, a6.trans b6.symm, a7.trans b7.symm⟩
  | error x =>
    rw [hP] at h1 h2
    obtain ⟨a1, a2, a3, a4, a5, a6, a7⟩ := h1
    obtain ⟨b1, b2, b3, b4, b5, b6, b7⟩ := h2
    exact ⟨a1.trans b1.symm, a2.trans b2.symm, a3.trans b3.symm, a4.trans b4.symm, a5.trans b5.symm, a6.trans b6.symm, a7.trans b7.symm⟩
theorem nOk_lock {L : LkS} (h : kcL9 L) : nOk (lD L) (lkN L) := ⟨Nat.zero_le _, h.2.2.1, h.2.2.2.1, h.2.2.2.2.1, h.2.2.2.2.2.1, Nat.le_refl _⟩
