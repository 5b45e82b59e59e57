/-! draws, what is kept -/
def kdr (x : Nat) : Nat := (1103515245 * x + 12345) % 2147483648
def kdv (x m : Nat) : Nat := kdr x / 64 % m
theorem kdr_lt (x : Nat) : kdr x < 2147483648 := Nat.mod_lt _ (by decide)
theorem kofn_mul (a b : Nat) : Int64.ofNat a * Int64.ofNat b = Int64.ofNat (a * b) := (Int64.ofNat_mul a b).symm
theorem kdr_and (x : Nat) : (1103515245 * Int64.ofNat x + 12345) &&& 2147483647 = Int64.ofNat (kdr x) := by
  have h1 : (1103515245 : Int64) * Int64.ofNat x + 12345 = Int64.ofNat (1103515245 * x + 12345) := by
    rw [Int64.ofNat_add, Int64.ofNat_mul]; rfl
  rw [h1]
  refine Int64.toBitVec_inj.mp ?_
  rw [Int64.toBitVec_and]
  show BitVec.ofNat 64 (1103515245 * x + 12345) &&& BitVec.ofNat 64 2147483647 = BitVec.ofNat 64 (kdr x)
  refine BitVec.eq_of_toNat_eq ?_
  rw [BitVec.toNat_and, BitVec.toNat_ofNat, BitVec.toNat_ofNat, BitVec.toNat_ofNat]
  have h2 := kdr_lt x
  rw [Nat.mod_eq_of_lt (show kdr x < 2 ^ 64 by omega), Nat.mod_eq_of_lt (show 2147483647 < 2 ^ 64 by decide), show 2147483647 = 2 ^ 31 - 1 from rfl, Nat.and_two_pow_sub_one_eq_mod]
  unfold kdr
  generalize 1103515245 * x + 12345 = y
  exact Nat.mod_mod_of_dvd y (show 2 ^ 31 ∣ 2 ^ 64 from Nat.pow_dvd_pow 2 (by decide))
theorem kofn_int {a : Nat} (h : a < 9223372036854775808) : (Int64.ofNat a).toInt = (a : Int) := Int64.toInt_ofNat_of_lt h
theorem kofn_div {a b : Nat} (ha : a < 9223372036854775808) (hb : b < 9223372036854775808) (h0 : 0 < b) : Int64.ofNat a / Int64.ofNat b = Int64.ofNat (a / b) := by
  have h1 : a / b < 9223372036854775808 := Nat.lt_of_le_of_lt (Nat.div_le_self a b) ha
  refine Int64.toInt_inj.mp ?_
  rw [Jvm.Kit.i64_div (by rw [kofn_int ha, kofn_int hb]; omega), kofn_int ha, kofn_int hb, kofn_int h1]
  rw [Int.tdiv_eq_ediv_of_nonneg (by omega)]
  exact (Int.natCast_ediv a b).symm
theorem kofn_rem {a b : Nat} (ha : a < 9223372036854775808) (hb : b < 9223372036854775808) (h0 : 0 < b) : Int64.ofNat a - Int64.ofNat a / Int64.ofNat b * Int64.ofNat b = Int64.ofNat (a % b) := by
  rw [kofn_div ha hb h0, kofn_mul, kofn_sub (Nat.div_mul_le_self a b)]
  congr 1
  have h1 := Nat.div_add_mod a b
  have h2 := Nat.mul_comm b (a / b)
  omega
theorem kofn_pos {m : Nat} (h : 1 ≤ m) (hm : m < 9223372036854775808) : ¬ lg_cmp (Int64.ofNat m) 0 ≤ 0 := fun q => by
  have h1 := (lg_cmp_le _ _).mp q
  rw [Int64.le_iff_toInt_le, kofn_int hm] at h1
  have e0 : (0 : Int64).toInt = 0 := rfl
  rw [e0] at h1
  omega
theorem kofn_ne {m : Nat} (h : 1 ≤ m) (hm : m < 9223372036854775808) : ¬ Int64.ofNat m = 0 := fun q => by
  have h1 := kofn_int hm
  rw [q] at h1
  have e0 : (0 : Int64).toInt = 0 := rfl
  omega
abbrev KLg := Nat → Nat × Nat × Nat
def kkO (lg : KLg) (n : Nat) (p1 : Nat → Int32) (p2 : Nat → Int64) (p3 : Nat → Int32) : Prop := ∀ k, k < n → p1 k = nI (lg k).1 ∧ p2 k = Int64.ofNat (lg k).2.1 ∧ p3 k = nI (lg k).2.2
theorem kk_s {lg : KLg} {n : Nat} {p1 p3 r1 r3 : Nat → Int32} {p2 r2 : Nat → Int64} {a b c : Nat} (h : kkO lg n p1 p2 p3) (e1 : r1 = upd p1 n (nI a)) (e2 : r2 = vp_updL p2 n (Int64.ofNat b)) (e3 : r3 = upd p3 n (nI c)) : kkO (updG lg n (a, b, c)) (n + 1) r1 r2 r3 := fun k hk => by
  unfold updG
  by_cases q : k = n
  · subst q; rw [if_pos rfl, kui_s e1, kup_s e2, kui_s e3]; exact ⟨rfl, rfl, rfl⟩
  · rw [if_neg q, kui_n e1 q, kup_n e2 q, kui_n e3 q]; exact h k (by omega)
/-! the days by the seed -/
abbrev KDs := Nat × (Nat → Nat) × (Nat → Nat)
def kds (rn d : Nat) (s : KDs) : KDs := if kdv s.1 100 < rn then (kdr s.1, s.2.1, updG s.2.2 d (min (s.2.2 d + 1) 9)) else (kdr (kdr s.1), updG s.2.1 d (kdv (kdr s.1) 10), s.2.2)
def kda (rn : Nat) (s : KDs) : Nat → KDs
  | 0 => s
  | d + 1 => kds rn d (kda rn s d)
/-! a week by the seed -/
theorem kl2i {k : Nat} (h : k < 2147483648) : (Int64.ofNat k).toInt32 = nI k := kten_i (by rw [kofn_int (by omega)]) h
theorem kmin9 {a : Nat} (h : a < 2147483648) : (if (9 : Int32) < nI a then 9 else nI a) = nI (min a 9) := by
  by_cases q : 9 < a
  · rw [if_pos (show (9 : Int32) < nI a from (nlt 9 a (by decide) h).mpr q), Nat.min_eq_right (by omega)]; rfl
  · rw [if_neg (show ¬ (9 : Int32) < nI a from fun c => q ((nlt 9 a (by decide) h).mp c)), Nat.min_eq_left (by omega)]
theorem kdv_lt {x m : Nat} (h : 1 ≤ m) : kdv x m < m := Nat.mod_lt _ h
theorem kda_s (rn : Nat) (s : KDs) (d : Nat) : kda rn s (d + 1) = kds rn d (kda rn s d) := rfl
def kdO (S : KDs) (zb zw : Nat → Int32) : Prop := (∀ j, j < 9 → zb j = nI (S.2.1 j)) ∧ (∀ j, j < 9 → zw j = nI (S.2.2 j)) ∧ (∀ j, S.2.1 j ≤ 9) ∧ (∀ j, S.2.2 j ≤ 9) ∧ S.1 < 2147483648
theorem kd_wet {S : KDs} {zb zw zx : Nat → Int32} {rn d : Nat} (h : kdO S zb zw) (hr : kdv S.1 100 < rn) (e : zx = upd zw d (nI (min (S.2.2 d + 1) 9))) : kdO (kds rn d S) zb zx := by
  obtain ⟨h1, h2, h3, h4, h5⟩ := h
  unfold kds
  rw [if_pos hr]
  refine ⟨h1, fun j hj => ?_, h3, fun j => ?_, kdr_lt _⟩
  · show zx j = nI (updG S.2.2 d (min (S.2.2 d + 1) 9) j)
    unfold updG
    by_cases q : j = d
    · subst q; rw [if_pos rfl]; exact kui_s e
    · rw [if_neg q, kui_n e q]; exact h2 j hj
  · show updG S.2.2 d (min (S.2.2 d + 1) 9) j ≤ 9
    unfold updG
    by_cases q : j = d
    · rw [if_pos q]; exact Nat.min_le_right _ _
    · rw [if_neg q]; exact h4 j
theorem kd_barge {S : KDs} {zb zw zx : Nat → Int32} {rn d : Nat} (h : kdO S zb zw) (hr : ¬ kdv S.1 100 < rn) (e : zx = upd zb d (nI (kdv (kdr S.1) 10))) : kdO (kds rn d S) zx zw := by
  obtain ⟨h1, h2, h3, h4, h5⟩ := h
  unfold kds
  rw [if_neg hr]
  refine ⟨fun j hj => ?_, h2, fun j => ?_, h4, kdr_lt _⟩
  · show zx j = nI (updG S.2.1 d (kdv (kdr S.1) 10) j)
    unfold updG
    by_cases q : j = d
    · subst q; rw [if_pos rfl]; exact kui_s e
    · rw [if_neg q, kui_n e q]; exact h1 j hj
  · show updG S.2.1 d (kdv (kdr S.1) 10) j ≤ 9
    unfold updG
    by_cases q : j = d
    · rw [if_pos q]; have := kdv_lt (x := kdr S.1) (m := 10) (by decide); omega
    · rw [if_neg q]; exact h3 j
theorem kds_1 {rn d : Nat} {S : KDs} (hr : kdv S.1 100 < rn) : (kds rn d S).1 = kdr S.1 := by unfold kds; rw [if_pos hr]
theorem kds_2 {rn d : Nat} {S : KDs} (hr : ¬ kdv S.1 100 < rn) : (kds rn d S).1 = kdr (kdr S.1) := by unfold kds; rw [if_neg hr]
theorem kmin30 {a : Nat} (h : a < 2147483648) : (if (30 : Int32) < nI a then 30 else nI a) = nI (min a 30) := by
  by_cases q : 30 < a
  · rw [if_pos (show (30 : Int32) < nI a from (nlt 30 a (by decide) h).mpr q), Nat.min_eq_right (by omega)]; rfl
  · rw [if_neg (show ¬ (30 : Int32) < nI a from fun c => q ((nlt 30 a (by decide) h).mp c)), Nat.min_eq_left (by omega)]
/-! a state is saved -/
def psh {α : Type} (ac : Nat) (f : Nat → α) (x : α) : Nat → α := if ac < 20 then updG f ac x else updG (rotG f) 19 x
theorem psh_lt {α : Type} {ac : Nat} (h : ac < 20) (f : Nat → α) (x : α) : updG f ac x = psh ac f x := by unfold psh; rw [if_pos h]
theorem psh_20 {α : Type} {ac : Nat} (h : ¬ ac < 20) (f : Nat → α) (x : α) : updG (rotG f) 19 x = psh ac f x := by unfold psh; rw [if_neg h]
/-! the state that both sides hold -/
abbrev KN := Nat × Nat × (Nat → Nat) × (Nat → Nat) × (Nat → Bool) × Nat
abbrev nWk (n : KN) : Nat := n.1
abbrev nMo (n : KN) : Nat := n.2.1
abbrev nBa (n : KN) : Nat → Nat := n.2.2.1
abbrev nWe (n : KN) : Nat → Nat := n.2.2.2.1
abbrev nMu (n : KN) : Nat → Bool := n.2.2.2.2.1
abbrev nKe (n : KN) : Nat := n.2.2.2.2.2
def kE (L : LkS) (n : KN) : Nat → Nat → Nat → Bool := kcFo L (nWk n) (nBa n) (nWe n) (nMu n) 0
def kNum (L : LkS) (dy : Nat) (n : KN) : Nat := kcC (kE L n) dy 0 (nMo n)
def kLast (L : LkS) (dy : Nat) (n : KN) (x : Nat) : Nat := kcM (kE L n) dy (nMo n) x (dy - 1)
/-- the week of a number goes by -/
def kPass (L : LkS) (dy : Nat) (n : KN) (x : Nat) : KN := (nWk n + 1, kLast L dy n x, nBa n, nWe n, nMu n, nKe n + 1)
def kKeep (L : LkS) (dy : Nat) (n : KN) (g : KLg) (x : Nat) : KLg := updG g (nKe n) (nWk n, kNum L dy n, kLast L dy n x)
/-! the calls -/
def kIn (d : Int32) (n : Nat) : Prop := ∃ k : Nat, k < n ∧ d = nI k
theorem kIn_neg {d : Int32} {n : Nat} (h : d < 0) (hn : n ≤ 2147483647) : ¬ kIn d n := fun ⟨k, hk, e⟩ => by
  rw [e] at h
  exact nI_pos (show k < 2147483648 by omega) h
theorem kIn_ge {k n : Nat} (h : n ≤ k) (hk : k < 2147483648) : ¬ kIn (nI k) n := fun ⟨j, hj, e⟩ => by
  have := (neq k j hk (by omega)).mp e
  omega
/-! what calls answer -/
def dayV (Ba We : Nat → Nat) (U : Nat → Bool) (k : Nat) (w : Int32) : Int32 := if w = 0 then nI (Ba k) else if w = 1 then nI (We k) else if w = 2 then (if U k = true then 1 else 0) else -1
def dayR (dy : Nat) (Ba We : Nat → Nat) (U : Nat → Bool) (d w r : Int32) : Prop := (¬ kIn d dy ∧ r = -1) ∨ ∃ k, k < dy ∧ d = nI k ∧ r = dayV Ba We U k w
theorem dayR_eq {dy : Nat} {Ba We : Nat → Nat} {U : Nat → Bool} {d w r q : Int32} (h9 : dy ≤ 9) (h1 : dayR dy Ba We U d w r) (h2 : dayR dy Ba We U d w q) : r = q := by
  rcases h1 with ⟨a, b⟩ | ⟨k, a, b, e⟩ <;> rcases h2 with ⟨a', b'⟩ | ⟨k', a', b', e'⟩
  · rw [b, b']
  · exact absurd ⟨k', a', b'⟩ a
  · exact absurd ⟨k, a, b⟩ a'
  · have h3 := (neq k k' (by omega) (by omega)).mp (b.symm.trans b')
    subst h3
    rw [e, e']
def toldR (L : LkS) (dy wn : Nat) (Ba We : Nat → Nat) (U : Nat → Bool) (d o r : Int32) : Prop := ((∀ k j, k < dy → d = nI k → j < 10 → o = nI j → U k = true) ∧ r = -1) ∨ ∃ k j, k < dy ∧ d = nI k ∧ j < 10 ∧ o = nI j ∧ ¬ U k = true ∧ r = nI (kcSaid L wn (Ba k) (We k) k j)
theorem toldR_eq {L : LkS} {dy wn : Nat} {Ba We : Nat → Nat} {U : Nat → Bool} {d o r q : Int32} (h9 : dy ≤ 9) (h1 : toldR L dy wn Ba We U d o r) (h2 : toldR L dy wn Ba We U d o q) : r = q := by
  rcases h1 with ⟨a, b⟩ | ⟨k, j, a1, a2, a3, a4, a5, a6⟩ <;> rcases h2 with ⟨a', b'⟩ | ⟨k', j', c1, c2, c3, c4, c5, c6⟩
  · rw [b, b']
  · exact absurd (a k' j' c1 c2 c3 c4) c5
  · exact absurd (a' k j a1 a2 a3 a4) a5
  · have h3 := (neq k k' (by omega) (by omega)).mp (a2.symm.trans c2)
    have h4 := (neq j j' (by omega) (by omega)).mp (a4.symm.trans c4)
    subst h3 h4
    rw [a6, c6]
def weeksR (dy n : Nat) (r : Int64) : Prop := (dy = 0 ∧ r = -1000000000000000) ∨ (1 ≤ dy ∧ r = Int64.ofNat n)
theorem weeksR_eq {dy n : Nat} {r q : Int64} (h1 : weeksR dy n r) (h2 : weeksR dy n q) : r = q := by
  rcases h1 with ⟨a, b⟩ | ⟨a, b⟩ <;> rcases h2 with ⟨c, d⟩ | ⟨c, d⟩
  · rw [b, d]
  · omega
  · omega
  · rw [b, d]
def moodR (E : Nat → Nat → Nat → Bool) (dy mo : Nat) (k d r : Int32) : Prop := ((∀ j x, j < dy → d = nI j → x < kcC E dy 0 mo → ¬ k = nI x) ∧ r = -1) ∨ ∃ j x, j < dy ∧ d = nI j ∧ x < kcC E dy 0 mo ∧ k = nI x ∧ r = nI (kcM E dy mo x j)
theorem moodR_eq {E : Nat → Nat → Nat → Bool} {dy mo : Nat} {k d r q : Int32} (h9 : dy ≤ 9) (h1 : moodR E dy mo k d r) (h2 : moodR E dy mo k d q) : r = q := by
  have hc := kcC_9 E h9 0 mo
  rcases h1 with ⟨a, b⟩ | ⟨j, x, a1, a2, a3, a4, a5⟩ <;> rcases h2 with ⟨a', b'⟩ | ⟨j', x', c1, c2, c3, c4, c5⟩
  · rw [b, b']
  · exact absurd c4 (a j' x' c1 c2 c3)
  · exact absurd a4 (a' j x a1 a2 a3)
  · have h3 := (neq j j' (by omega) (by omega)).mp (a2.symm.trans c2)
    have h4 := (neq x x' (by omega) (by omega)).mp (a4.symm.trans c4)
    subst h3 h4
    rw [a5, c5]
def statR (rf : Nat → Int32) (w r : Int32) : Prop := (¬ kIn w 6 ∧ r = -1) ∨ ∃ k, k < 6 ∧ w = nI k ∧ r = rf k
theorem statR_eq {rf : Nat → Int32} {w r q : Int32} (h1 : statR rf w r) (h2 : statR rf w q) : r = q := by
  rcases h1 with ⟨a, b⟩ | ⟨k, a, b, e⟩ <;> rcases h2 with ⟨a', b'⟩ | ⟨k', a', b', e'⟩
  · rw [b, b']
  · exact absurd ⟨k', a', b'⟩ a
  · exact absurd ⟨k, a, b⟩ a'
  · have h3 := (neq k k' (by omega) (by omega)).mp (b.symm.trans b')
    subst h3
    rw [e, e']
/-! what a lock's numbers can be -/
def kcL9 (L : LkS) : Prop := 2 ≤ lD L ∧ lD L ≤ 9 ∧ lM L ≤ 9 ∧ (∀ j, lB L j ≤ 9) ∧ (∀ j, lW L j ≤ 9) ∧ (∀ j, lU L j = true → j < lD L) ∧ lRn L ≤ 100
theorem kl9_amt {tb : Nat → Nat} {n d : Nat} {c : Cur} {x : (Nat × Nat) × Cur} (h : amtP tb n d c = .ok x) : x.1.1 ≤ d - 1 ∧ x.1.2 ≤ 9 := by
  obtain ⟨y, h1, h2⟩ := bindR_ok (show bindR (numP tb n 0 (d - 1) (nx tb n c.1)) (fun x => bindR (numP tb n 0 9 x.2) (fun y => .ok ((x.1, y.1), y.2))) = .ok x from h)
  obtain ⟨z, h3, h4⟩ := bindR_ok h2
  cases h4
  exact ⟨(numP_val h1).2, (numP_val h3).2⟩
theorem kl9_sum {tb : Nat → Nat} {n : Nat} {L : LkS} {w kind : Nat} {c : Cur} {r : LkS × Cur} (hL : kcL9 L) (h : sumL tb n L w kind c = .ok r) : kcL9 r.1 := by
  unfold sumL at h
  split at h
  · cases h
  · obtain ⟨a, h1, h2⟩ := bindR_ok h
    cases h2
    exact hL
theorem kl9_body {tb : Nat → Nat} {n : Nat} {L : LkS} {c : Cur} {r : LkS × Cur} (hL : kcL9 L) (h : bodyP tb n L c = .ok r) : kcL9 r.1 := by
  obtain ⟨k1, k2, k3, k4, k5, k6, k7⟩ := id hL
  unfold bodyP at h
  split at h
  · obtain ⟨x, h1, h2⟩ := bindR_ok h
    cases h2
    exact ⟨k1, k2, k3, updG_le k4 (kl9_amt h1).2, k5, k6, k7⟩
  · split at h
    · obtain ⟨x, h1, h2⟩ := bindR_ok h
      cases h2
      exact ⟨k1, k2, k3, k4, updG_le k5 (kl9_amt h1).2, k6, k7⟩
    · split at h
      · obtain ⟨x, h1, h2⟩ := bindR_ok h
        have hx := (numP_val h1).2
        have h3 : (if lU L x.1 = true then (.error (2, (nx tb n c.1).1) : LkR) else .ok (stU L x.1, x.2)) = .ok r := h2
        split at h3
        · cases h3
        · cases h3
          refine ⟨k1, k2, k3, k4, k5, fun j hj => ?_, k7⟩
          have hj2 : updG (lU L) x.1 true j = true := hj
          unfold updG at hj2
          show j < lD L
          by_cases e : j = x.1
          · omega
          · rw [if_neg e] at hj2; exact k6 j hj2
      · split at h
        · exact kl9_sum hL h
        · split at h
          · exact kl9_sum hL h
          · split at h
            · exact kl9_sum hL h
            · split at h
              · obtain ⟨x, h1, h2⟩ := bindR_ok h
                cases h2
                exact ⟨k1, k2, k3, k4, k5, k6, (numP_val h1).2⟩
              · cases h
theorem kl9_stm {tb : Nat → Nat} {n : Nat} {q r : LkS × Cur} (hL : kcL9 q.1) (h : stmP tb n q = .ok r) : kcL9 r.1 := by
  obtain ⟨x, h1, h2⟩ := bindR_ok (show bindR (bodyP tb n q.1 q.2) (fun r => bindR (signP tb n 59 r.2) (fun c => .ok (r.1, c))) = .ok r from h)
  obtain ⟨y, h3, h4⟩ := bindR_ok h2
  cases h4
  exact kl9_body (r := x) hL h1
theorem kl9_stP {tb : Nat → Nat} {n : Nat} : ∀ f q r, stP tb n f q = .ok r → kcL9 q.1 → kcL9 r.1
  | 0, q, r, h, hL => by
    have h1 : (if n ≤ q.2.1 then (.ok (q.1, 60) : Except Err (LkS × Nat)) else .error (5, q.2.1)) = .ok r := h
    split at h1
    · cases h1; exact hL
    · cases h1
  | f + 1, q, r, h, hL => by
    have h1 : (if n ≤ q.2.1 then (.ok (q.1, 60 - (f + 1)) : Except Err (LkS × Nat)) else bindR (stmP tb n q) (stP tb n f)) = .ok r := h
    split at h1
    · cases h1; exact hL
    · obtain ⟨x, h2, h3⟩ := bindR_ok h1
      exact kl9_stP f x r h3 (kl9_stm hL h2)
theorem kl9_open {tb : Nat → Nat} {n : Nat} {c : Cur} {r : LkS × Cur} (h : openP tb n c = .ok r) : kcL9 r.1 := by
  unfold openP at h
  obtain ⟨c1, h1, h2⟩ := bindR_ok h
  obtain ⟨d, h3, h4⟩ := bindR_ok h2
  obtain ⟨c2, h5, h6⟩ := bindR_ok h4
  obtain ⟨m, h7, h8⟩ := bindR_ok h6
  obtain ⟨c3, h9, h10⟩ := bindR_ok h8
  cases h10
  exact ⟨(numP_val h3).1, (numP_val h3).2, (numP_val h7).2, fun _ => Nat.zero_le _, fun _ => Nat.zero_le _, fun j hj => Bool.noConfusion (show false = true from hj), Nat.zero_le _⟩
theorem kl9_lock {tb : Nat → Nat} {n : Nat} {r : LkS × Nat} (h : lockP tb n = .ok r) : kcL9 r.1 := by
  obtain ⟨x, h1, h2⟩ := bindR_ok (show bindR (openP tb n (sk tb n 0, false)) (stP tb n 59) = .ok r from h)
  exact kl9_stP 59 x r h2 (kl9_open h1)
/-! one answer, one state behind it -/
def kR {α : Type} (C : α → Prop) (P0 : Prop) (P : α → Prop) : Prop := ((∀ x, ¬ C x) ∧ P0) ∨ ∃ x, C x ∧ P x
theorem kR_eq {α : Type} {C : α → Prop} {P0 Q0 R : Prop} {P Q : α → Prop} (h1 : kR C P0 P) (h2 : kR C Q0 Q) (hC : ∀ x y, C x → C y → x = y) (h0 : P0 → Q0 → R) (hp : ∀ x, P x → Q x → R) : R := by
  rcases h1 with ⟨a, b⟩ | ⟨x, a, b⟩ <;> rcases h2 with ⟨c, d⟩ | ⟨y, c, d⟩
  · exact h0 b d
  · exact absurd c (a y)
  · exact absurd a (c x)
  · obtain rfl := hC x y a c; exact hp x b d
theorem kR_1 {α : Type} {C : α → Prop} {P0 : Prop} {P : α → Prop} (x : α) (h : C x) (hp : P x) : kR C P0 P := Or.inr ⟨x, h, hp⟩
theorem kR_0 {α : Type} {C : α → Prop} {P0 : Prop} {P : α → Prop} (h : ∀ x, ¬ C x) (hp : P0) : kR C P0 P := Or.inl ⟨h, hp⟩
def kB (c P Q : Prop) : Prop := (c ∧ P) ∨ (¬ c ∧ Q)
theorem kB_eq {c P Q P2 Q2 R : Prop} (h1 : kB c P Q) (h2 : kB c P2 Q2) (hp : P → P2 → R) (hq : Q → Q2 → R) : R := by
  rcases h1 with ⟨a, b⟩ | ⟨a, b⟩ <;> rcases h2 with ⟨e, d⟩ | ⟨e, d⟩
  · exact hp b d
  · exact absurd a e
  · exact absurd e a
  · exact hq b d
theorem kB_1 {c P Q : Prop} (h : c) (hp : P) : kB c P Q := Or.inl ⟨h, hp⟩
theorem kB_0 {c P Q : Prop} (h : ¬ c) (hp : Q) : kB c P Q := Or.inr ⟨h, hp⟩
theorem kIe {a b : Nat} {x : Int32} (h1 : x = nI a) (h2 : x = nI b) (ha : a < 2147483648) (hb : b < 2147483648) : a = b := (neq a b ha hb).mp (h1.symm.trans h2)
/-! has, kept -/
def kSum (U : Nat → Bool) (n : Nat) : Nat := kcS (fun d => if U d = true then 1 else 0) n
def hasV (dy wn mo : Nat) (U : Nat → Bool) (ke hn ac : Nat) (w : Int32) : Int32 := if w = 0 then nI dy else if w = 1 then nI wn else if w = 2 then nI mo else if w = 3 then nI (kSum U 9) else if w = 4 then nI (min ke 30) else if w = 5 then nI hn else if w = 6 then nI ac else -1
def keptX (lg : KLg) (ke j v : Nat) : Nat := if v = 0 then (lg (ke - min ke 30 + j)).1 else if v = 1 then (lg (ke - min ke 30 + j)).2.1 else (lg (ke - min ke 30 + j)).2.2
def keptR (lg : KLg) (ke : Nat) (k w : Int32) (r : Int64) : Prop := kR (fun x : Nat × Nat => x.1 < min ke 30 ∧ k = nI x.1 ∧ x.2 < 3 ∧ w = nI x.2) (r = -1000000000000000) (fun x => r = Int64.ofNat (keptX lg ke x.1 x.2))
theorem keptR_eq {lg : KLg} {ke : Nat} {k w : Int32} {r q : Int64} (h1 : keptR lg ke k w r) (h2 : keptR lg ke k w q) : r = q :=
  kR_eq h1 h2 (fun x y a b => Prod.ext (kIe a.2.1 b.2.1 (by omega) (by omega)) (kIe a.2.2.2 b.2.2.2 (by omega) (by omega))) (fun a b => a.trans b.symm) (fun _ a b => a.trans b.symm)
/-! what can be, of a state -/
def nOk (dy : Nat) (n : KN) : Prop := nWk n ≤ 999 ∧ nMo n ≤ 9 ∧ (∀ j, nBa n j ≤ 9) ∧ (∀ j, nWe n j ≤ 9) ∧ (∀ j, nMu n j = true → j < dy) ∧ nKe n ≤ nWk n
def sOk (dy : Nat) (n : KN) (ac : Nat) (su : Nat → KN) : Prop := nOk dy n ∧ ac ≤ 20 ∧ (∀ j, j < ac → nOk dy (su j)) ∧ (∀ i j, i ≤ j → j < ac → nKe (su i) ≤ nKe (su j)) ∧ ∀ j, j < ac → nKe (su j) ≤ nKe n
theorem sOk_push {dy ac : Nat} {n n2 : KN} {su : Nat → KN} (h : sOk dy n ac su) (h2 : nOk dy n2) (hk : nKe n ≤ nKe n2) : sOk dy n2 (min (ac + 1) 20) (psh ac su n) := by
  obtain ⟨a1, a2, a3, a4, a5⟩ := h
  unfold psh
  by_cases q : ac < 20
  · rw [if_pos q]
    refine ⟨h2, by omega, fun j hj => ?_, fun i j hi hj => ?_, fun j hj => ?_⟩
    · unfold updG
      by_cases e : j = ac
      · rw [if_pos e]; exact a1
      · rw [if_neg e]; exact a3 j (by omega)
    · unfold updG
      by_cases e : j = ac
      · rw [if_pos e]
        by_cases e2 : i = ac
        · rw [if_pos e2]; exact Nat.le_refl _
        · rw [if_neg e2]; exact a5 i (by omega)
      · rw [if_neg e, if_neg (show ¬ i = ac by omega)]; exact a4 i j hi (by omega)
    · unfold updG
      by_cases e : j = ac
      · rw [if_pos e]; exact hk
      · rw [if_neg e]; exact Nat.le_trans (a5 j (by omega)) hk
  · rw [if_neg q]
    refine ⟨h2, by omega, fun j hj => ?_, fun i j hi hj => ?_, fun j hj => ?_⟩
    · unfold updG
      by_cases e : j = 19
      · rw [if_pos e]; exact a1
      · rw [if_neg e]; unfold rotG; rw [if_pos (by omega)]; exact a3 (j + 1) (by omega)
    · unfold updG
      by_cases e : j = 19
      · rw [if_pos e]
        by_cases e2 : i = 19
        · rw [if_pos e2]; exact Nat.le_refl _
        · rw [if_neg e2]; unfold rotG; rw [if_pos (by omega)]; exact a5 (i + 1) (by omega)
      · rw [if_neg e, if_neg (show ¬ i = 19 by omega)]
        unfold rotG
        rw [if_pos (show i < 19 by omega), if_pos (show j < 19 by omega)]
        exact a4 (i + 1) (j + 1) (by omega) (by omega)
    · unfold updG
      by_cases e : j = 19
      · rw [if_pos e]; exact hk
      · rw [if_neg e]; unfold rotG; rw [if_pos (by omega)]; exact Nat.le_trans (a5 (j + 1) (by omega)) hk
theorem sOk_pop {dy ac : Nat} {n : KN} {su : Nat → KN} (h : sOk dy n ac su) (hc : 1 ≤ ac) : sOk dy (su (ac - 1)) (ac - 1) su :=
  ⟨h.2.2.1 _ (by omega), by have := h.2.1; omega, fun j hj => h.2.2.1 j (by omega), fun i j hi hj => h.2.2.2.1 i j hi (by omega), fun j hj => h.2.2.2.1 j (ac - 1) (by omega) (by omega)⟩
theorem sOk_none {dy : Nat} {n : KN} {su : Nat → KN} (h : nOk dy n) : sOk dy n 0 su := ⟨h, by omega, fun j hj => absurd hj (Nat.not_lt_zero j), fun i j _ hj => absurd hj (Nat.not_lt_zero j), fun j hj => absurd hj (Nat.not_lt_zero j)⟩
def lgOk (lg : KLg) : Prop := ∀ k, (lg k).1 ≤ 999 ∧ (lg k).2.1 ≤ 1000000000 ∧ (lg k).2.2 ≤ 9
theorem lgOk_up {lg : KLg} {k a b c : Nat} (h : lgOk lg) (h1 : a ≤ 999) (h2 : b ≤ 1000000000) (h3 : c ≤ 9) : lgOk (updG lg k (a, b, c)) := fun j => by
  unfold updG
  by_cases e : j = k
  · rw [if_pos e]; exact ⟨h1, h2, h3⟩
  · rw [if_neg e]; exact h j
def kOk (L : LkS) (dy : Nat) (n : KN) (lg : KLg) (ac : Nat) (su : Nat → KN) (hn : Nat) (hR : Nat → Nat) (sd : Nat) : Prop :=
  kcLk L ∧ (lK L).length ≤ 1600 ∧ dy ≤ 9 ∧ (1 ≤ dy → kcL9 L ∧ dy = lD L) ∧ sOk dy n ac su ∧ lgOk lg ∧ hn ≤ 16 ∧ (∀ j, j < hn → hR j < 10 * dy) ∧ sd < 2147483648
/-! acts: set, mute -/
def actP (n : KN) (ac : Nat) (su : Nat → KN) (rf : Nat → Int32) (n2 m2 : KN) (ac2 : Nat) (su2 : Nat → KN) (rf2 : Nat → Int32) : Prop := n2 = m2 ∧ ac2 = min (ac + 1) 20 ∧ su2 = psh ac su n ∧ rf2 = rf
def actN (n : KN) (ac : Nat) (su : Nat → KN) (rf : Nat → Int32) (w : Nat) (n2 : KN) (ac2 : Nat) (su2 : Nat → KN) (rf2 : Nat → Int32) : Prop := n2 = n ∧ ac2 = ac ∧ su2 = su ∧ rf2 = upd rf w (rf w + 1)
def setR (dy : Nat) (n : KN) (ac : Nat) (su : Nat → KN) (rf : Nat → Int32) (d w o r : Int32) (n2 : KN) (ac2 : Nat) (su2 : Nat → KN) (rf2 : Nat → Int32) : Prop :=
  kR (fun x : Nat × Nat => x.1 < dy ∧ d = nI x.1 ∧ x.2 < 10 ∧ o = nI x.2 ∧ ((w = 0 ∧ ¬ nBa n x.1 = x.2) ∨ (w = 1 ∧ ¬ nWe n x.1 = x.2)))
    (r = 0 ∧ actN n ac su rf 2 n2 ac2 su2 rf2)
    (fun x => r = 1 ∧ actP n ac su rf n2 (nWk n, nMo n, if w = 0 then updG (nBa n) x.1 x.2 else nBa n, if w = 0 then nWe n else updG (nWe n) x.1 x.2, nMu n, nKe n) ac2 su2 rf2)
def act5 (r q : Int32) (n2 n3 : KN) (ac2 ac3 : Nat) (su2 su3 : Nat → KN) (rf2 rf3 : Nat → Int32) : Prop := r = q ∧ n2 = n3 ∧ ac2 = ac3 ∧ su2 = su3 ∧ rf2 = rf3
theorem actP_5 {n : KN} {ac : Nat} {su : Nat → KN} {rf : Nat → Int32} {r q c : Int32} {n2 n3 m : KN} {ac2 ac3 : Nat} {su2 su3 : Nat → KN} {rf2 rf3 : Nat → Int32} (h1 : r = c ∧ actP n ac su rf n2 m ac2 su2 rf2) (h2 : q = c ∧ actP n ac su rf n3 m ac3 su3 rf3) : act5 r q n2 n3 ac2 ac3 su2 su3 rf2 rf3 := by
  obtain ⟨a, b1, b2, b3, b4⟩ := h1
  obtain ⟨e, c1, c2, c3, c4⟩ := h2
  exact ⟨a.trans e.symm, b1.trans c1.symm, b2.trans c2.symm, b3.trans c3.symm, b4.trans c4.symm⟩
theorem actN_5 {n : KN} {ac w : Nat} {su : Nat → KN} {rf : Nat → Int32} {r q c : Int32} {n2 n3 : KN} {ac2 ac3 : Nat} {su2 su3 : Nat → KN} {rf2 rf3 : Nat → Int32} (h1 : r = c ∧ actN n ac su rf w n2 ac2 su2 rf2) (h2 : q = c ∧ actN n ac su rf w n3 ac3 su3 rf3) : act5 r q n2 n3 ac2 ac3 su2 su3 rf2 rf3 := by
  obtain ⟨a, b1, b2, b3, b4⟩ := h1
  obtain ⟨e, c1, c2, c3, c4⟩ := h2
  exact ⟨a.trans e.symm, b1.trans c1.symm, b2.trans c2.symm, b3.trans c3.symm, b4.trans c4.symm⟩
theorem setR_eq {dy : Nat} {n : KN} {ac : Nat} {su : Nat → KN} {rf : Nat → Int32} {d w o r q : Int32} {n2 n3 : KN} {ac2 ac3 : Nat} {su2 su3 : Nat → KN} {rf2 rf3 : Nat → Int32} (h9 : dy ≤ 9) (h1 : setR dy n ac su rf d w o r n2 ac2 su2 rf2) (h2 : setR dy n ac su rf d w o q n3 ac3 su3 rf3) : act5 r q n2 n3 ac2 ac3 su2 su3 rf2 rf3 :=
  kR_eq h1 h2 (fun x y a b => Prod.ext (kIe a.2.1 b.2.1 (by omega) (by omega)) (kIe a.2.2.2.1 b.2.2.2.1 (by omega) (by omega))) (fun a b => actN_5 a b) (fun _ a b => actP_5 a b)
theorem updG_t {U : Nat → Bool} {k dy : Nat} {b : Bool} (h : ∀ j, U j = true → j < dy) (hk : k < dy) : ∀ j, updG U k b j = true → j < dy := fun j hj => by
  unfold updG at hj
  by_cases e : j = k
  · omega
  · rw [if_neg e] at hj; exact h j hj
theorem setR_ok {dy : Nat} {n : KN} {ac : Nat} {su : Nat → KN} {rf : Nat → Int32} {d w o r : Int32} {n2 : KN} {ac2 : Nat} {su2 : Nat → KN} {rf2 : Nat → Int32} (h : setR dy n ac su rf d w o r n2 ac2 su2 rf2) (hk : sOk dy n ac su) : sOk dy n2 ac2 su2 ∧ nKe n2 = nKe n := by
  rcases h with ⟨-, -, rfl, rfl, rfl, -⟩ | ⟨x, hx, -, rfl, rfl, rfl, -⟩
  · exact ⟨hk, rfl⟩
  · obtain ⟨b1, b2, b3, b4, b5, b6⟩ := hk.1
    refine ⟨sOk_push hk ⟨b1, b2, ?_, ?_, b5, b6⟩ (Nat.le_refl _), rfl⟩
    · show ∀ j, (if w = 0 then updG (nBa n) x.1 x.2 else nBa n) j ≤ 9
      split
      · exact updG_le b3 (by omega)
      · exact b3
    · show ∀ j, (if w = 0 then nWe n else updG (nWe n) x.1 x.2) j ≤ 9
      split
      · exact b4
      · exact updG_le b4 (by omega)
def muteR (dy : Nat) (n : KN) (ac : Nat) (su : Nat → KN) (rf : Nat → Int32) (d w r : Int32) (n2 : KN) (ac2 : Nat) (su2 : Nat → KN) (rf2 : Nat → Int32) : Prop :=
  kR (fun x : Nat => x < dy ∧ d = nI x ∧ ((w = 1 ∧ ¬ nMu n x = true) ∨ (w = 0 ∧ nMu n x = true)))
    (r = 0 ∧ actN n ac su rf 2 n2 ac2 su2 rf2)
    (fun x => r = 1 ∧ actP n ac su rf n2 (nWk n, nMo n, nBa n, nWe n, updG (nMu n) x (!nMu n x), nKe n) ac2 su2 rf2)
theorem muteR_eq {dy : Nat} {n : KN} {ac : Nat} {su : Nat → KN} {rf : Nat → Int32} {d w r q : Int32} {n2 n3 : KN} {ac2 ac3 : Nat} {su2 su3 : Nat → KN} {rf2 rf3 : Nat → Int32} (h9 : dy ≤ 9) (h1 : muteR dy n ac su rf d w r n2 ac2 su2 rf2) (h2 : muteR dy n ac su rf d w q n3 ac3 su3 rf3) : act5 r q n2 n3 ac2 ac3 su2 su3 rf2 rf3 :=
  kR_eq h1 h2 (fun x y a b => kIe a.2.1 b.2.1 (by omega) (by omega)) (fun a b => actN_5 a b) (fun _ a b => actP_5 a b)
theorem muteR_ok {dy : Nat} {n : KN} {ac : Nat} {su : Nat → KN} {rf : Nat → Int32} {d w r : Int32} {n2 : KN} {ac2 : Nat} {su2 : Nat → KN} {rf2 : Nat → Int32} (h : muteR dy n ac su rf d w r n2 ac2 su2 rf2) (hk : sOk dy n ac su) : sOk dy n2 ac2 su2 ∧ nKe n2 = nKe n := by
  rcases h with ⟨-, -, rfl, rfl, rfl, -⟩ | ⟨x, hx, -, rfl, rfl, rfl, -⟩
  · exact ⟨hk, rfl⟩
  · obtain ⟨b1, b2, b3, b4, b5, b6⟩ := hk.1
    exact ⟨sOk_push hk ⟨b1, b2, b3, b4, updG_t b5 hx.1, b6⟩ (Nat.le_refl _), rfl⟩
/-! weeks that go -/
theorem kLast_9 {L : LkS} {dy x : Nat} {n : KN} (hd : 1 ≤ dy) (hm : nMo n ≤ 9) (hx : x < kNum L dy n) : kLast L dy n x ≤ 9 := by
  have h1 := (kcA_ok (E := kE L n) (n := dy) (a0 := nMo n) (x := x) (by omega) hx (dy - 1 + 1) (by omega)).1
  have h2 : kLast L dy n x < 10 := h1
  omega
theorem nOk_pass {L : LkS} {dy x : Nat} {n : KN} (h : nOk dy n) (hd : 1 ≤ dy) (hw : nWk n < 999) (hx : x < kNum L dy n) : nOk dy (kPass L dy n x) := by
  obtain ⟨b1, b2, b3, b4, b5, b6⟩ := h
  exact ⟨by show nWk n + 1 ≤ 999; omega, kLast_9 hd b2 hx, b3, b4, b5, by show nKe n + 1 ≤ nWk n + 1; omega⟩
theorem lgOk_keep {L : LkS} {dy x : Nat} {n : KN} {lg : KLg} (h : nOk dy n) (hd : 1 ≤ dy) (h9 : dy ≤ 9) (hl : lgOk lg) (hx : x < kNum L dy n) : lgOk (kKeep L dy n lg x) := lgOk_up hl h.1 (kcC_9 _ h9 _ _) (kLast_9 hd h.2.1 hx)
def goR (L : LkS) (dy : Nat) (n : KN) (lg : KLg) (ac : Nat) (su : Nat → KN) (rf : Nat → Int32) (r : Int32) (n2 : KN) (lg2 : KLg) (ac2 : Nat) (su2 : Nat → KN) (rf2 : Nat → Int32) : Prop :=
  kB (1 ≤ dy ∧ nWk n < 999 ∧ 0 < kNum L dy n) (lg2 = kKeep L dy n lg 0 ∧ r = nI (kLast L dy n 0) ∧ actP n ac su rf n2 (kPass L dy n 0) ac2 su2 rf2) (lg2 = lg ∧ r = -1 ∧ actN n ac su rf 3 n2 ac2 su2 rf2)
theorem goR_eq {L : LkS} {dy : Nat} {n : KN} {lg : KLg} {ac : Nat} {su : Nat → KN} {rf : Nat → Int32} {r q : Int32} {n2 n3 : KN} {lg2 lg3 : KLg} {ac2 ac3 : Nat} {su2 su3 : Nat → KN} {rf2 rf3 : Nat → Int32} (h1 : goR L dy n lg ac su rf r n2 lg2 ac2 su2 rf2) (h2 : goR L dy n lg ac su rf q n3 lg3 ac3 su3 rf3) : lg2 = lg3 ∧ act5 r q n2 n3 ac2 ac3 su2 su3 rf2 rf3 :=
  kB_eq h1 h2 (fun a b => ⟨a.1.trans b.1.symm, actP_5 a.2 b.2⟩) (fun a b => ⟨a.1.trans b.1.symm, actN_5 a.2 b.2⟩)
theorem goR_ok {L : LkS} {dy : Nat} {n : KN} {lg : KLg} {ac : Nat} {su : Nat → KN} {rf : Nat → Int32} {r : Int32} {n2 : KN} {lg2 : KLg} {ac2 : Nat} {su2 : Nat → KN} {rf2 : Nat → Int32} (h : goR L dy n lg ac su rf r n2 lg2 ac2 su2 rf2) (h9 : dy ≤ 9) (hk : sOk dy n ac su) (hl : lgOk lg) : sOk dy n2 ac2 su2 ∧ lgOk lg2 := by
  rcases h with ⟨⟨c1, c2, c3⟩, rfl, -, rfl, rfl, rfl, -⟩ | ⟨-, rfl, -, rfl, rfl, rfl, -⟩
  · exact ⟨sOk_push hk (nOk_pass hk.1 c1 c2 c3) (Nat.le_succ _), lgOk_keep hk.1 c1 h9 hl c3⟩
  · exact ⟨hk, hl⟩
/-! weeks by the seed -/
abbrev KC := KN × KLg × Nat
def kchN (rn dy : Nat) (s : KC) : KN := (nWk s.1, nMo s.1, (kda rn (s.2.2, nBa s.1, nWe s.1) dy).2.1, (kda rn (s.2.2, nBa s.1, nWe s.1) dy).2.2, nMu s.1, nKe s.1)
def kchS (rn dy : Nat) (s : KC) : Nat := (kda rn (s.2.2, nBa s.1, nWe s.1) dy).1
def kchX (L : LkS) (dy : Nat) (s : KC) : Nat := kdv (kchS (lRn L) dy s) (kNum L dy (kchN (lRn L) dy s))
/-- one week by the seed, if it goes -/
def kch1 (L : LkS) (dy : Nat) (s : KC) : KC := (kPass L dy (kchN (lRn L) dy s) (kchX L dy s), kKeep L dy (kchN (lRn L) dy s) s.2.1 (kchX L dy s), kdr (kchS (lRn L) dy s))
def kch0 (L : LkS) (dy : Nat) (s : KC) : KC := (kchN (lRn L) dy s, s.2.1, kchS (lRn L) dy s)
def kch (L : LkS) (dy : Nat) : Nat → KC → KC × Nat
  | 0, s => (s, 0)
  | f + 1, s => if kNum L dy (kchN (lRn L) dy s) = 0 then (kch0 L dy s, 0) else ((kch L dy f (kch1 L dy s)).1, (kch L dy f (kch1 L dy s)).2 + 1)
theorem kch_no {L : LkS} {dy f : Nat} {s : KC} (h : kNum L dy (kchN (lRn L) dy s) = 0) : kch L dy (f + 1) s = (kch0 L dy s, 0) := if_pos h
theorem kch_go {L : LkS} {dy f : Nat} {s : KC} (h : 0 < kNum L dy (kchN (lRn L) dy s)) : kch L dy (f + 1) s = ((kch L dy f (kch1 L dy s)).1, (kch L dy f (kch1 L dy s)).2 + 1) := if_neg (by omega)
theorem kds_9 {rn d : Nat} {s : KDs} (h1 : ∀ j, s.2.1 j ≤ 9) (h2 : ∀ j, s.2.2 j ≤ 9) (h3 : s.1 < 2147483648) : (∀ j, (kds rn d s).2.1 j ≤ 9) ∧ (∀ j, (kds rn d s).2.2 j ≤ 9) ∧ (kds rn d s).1 < 2147483648 := by
  unfold kds
  split
  · exact ⟨h1, updG_le h2 (Nat.min_le_right _ _), kdr_lt _⟩
  · exact ⟨updG_le h1 (by have := kdv_lt (x := kdr s.1) (m := 10) (by decide); omega), h2, kdr_lt _⟩
theorem kda_9 {rn : Nat} {s : KDs} (h1 : ∀ j, s.2.1 j ≤ 9) (h2 : ∀ j, s.2.2 j ≤ 9) (h3 : s.1 < 2147483648) : ∀ d, (∀ j, (kda rn s d).2.1 j ≤ 9) ∧ (∀ j, (kda rn s d).2.2 j ≤ 9) ∧ (kda rn s d).1 < 2147483648
  | 0 => ⟨h1, h2, h3⟩
  | d + 1 => by
    obtain ⟨a, b, c⟩ := kda_9 (rn := rn) h1 h2 h3 d
    exact kds_9 a b c
def kcOk (dy : Nat) (s : KC) : Prop := nOk dy s.1 ∧ lgOk s.2.1 ∧ s.2.2 < 2147483648
theorem kcOk_0 {L : LkS} {dy : Nat} {s : KC} (h : kcOk dy s) : kcOk dy (kch0 L dy s) ∧ nKe (kch0 L dy s).1 = nKe s.1 := by
  obtain ⟨⟨b1, b2, b3, b4, b5, b6⟩, h2, h3⟩ := h
  obtain ⟨c1, c2, c3⟩ := kda_9 (rn := lRn L) (s := (s.2.2, nBa s.1, nWe s.1)) b3 b4 h3 dy
  exact ⟨⟨⟨b1, b2, c1, c2, b5, b6⟩, h2, c3⟩, rfl⟩
theorem kcOk_1 {L : LkS} {dy : Nat} {s : KC} (h : kcOk dy s) (hd : 1 ≤ dy) (h9 : dy ≤ 9) (hw : nWk s.1 < 999) (hn : 0 < kNum L dy (kchN (lRn L) dy s)) : kcOk dy (kch1 L dy s) ∧ nKe s.1 ≤ nKe (kch1 L dy s).1 := by
  have h0 := (kcOk_0 (L := L) h).1
  have hx : kchX L dy s < kNum L dy (kchN (lRn L) dy s) := kdv_lt hn
  have h1 : nOk dy (kchN (lRn L) dy s) := h0.1
  exact ⟨⟨nOk_pass h1 hd hw hx, lgOk_keep h1 hd h9 h.2.1 hx, kdr_lt _⟩, Nat.le_succ _⟩
theorem kcOk_n {L : LkS} {dy : Nat} (hd : 1 ≤ dy) (h9 : dy ≤ 9) : ∀ f s, kcOk dy s → nWk s.1 + f ≤ 999 → kcOk dy (kch L dy f s).1 ∧ nKe s.1 ≤ nKe (kch L dy f s).1.1
  | 0, s, h, _ => ⟨h, Nat.le_refl _⟩
  | f + 1, s, h, hw => by
    by_cases q : kNum L dy (kchN (lRn L) dy s) = 0
    · rw [kch_no q]
      have h1 := kcOk_0 (L := L) h
      exact ⟨h1.1, Nat.le_of_eq h1.2.symm⟩
    · rw [kch_go (by omega)]
      have h1 := kcOk_1 (L := L) h hd h9 (by omega) (by omega)
      have h2 := kcOk_n (L := L) hd h9 f (kch1 L dy s) h1.1 (by show nWk s.1 + 1 + f ≤ 999; omega)
      exact ⟨h2.1, Nat.le_trans h1.2 h2.2⟩
def chanceR (L : LkS) (dy : Nat) (n : KN) (lg : KLg) (ac : Nat) (su : Nat → KN) (sd : Nat) (rf : Nat → Int32) (c r : Int32) (n2 : KN) (lg2 : KLg) (ac2 : Nat) (su2 : Nat → KN) (sd2 : Nat) (rf2 : Nat → Int32) : Prop :=
  kR (fun x : Nat => 1 ≤ dy ∧ 1 ≤ x ∧ x ≤ 30 ∧ c = nI x ∧ nWk n + x ≤ 999) ((lg2 = lg ∧ sd2 = sd) ∧ r = -1 ∧ actN n ac su rf 3 n2 ac2 su2 rf2)
    (fun x => (lg2 = (kch L dy x (n, lg, sd)).1.2.1 ∧ sd2 = (kch L dy x (n, lg, sd)).1.2.2) ∧ r = nI (kch L dy x (n, lg, sd)).2 ∧ actP n ac su rf n2 (kch L dy x (n, lg, sd)).1.1 ac2 su2 rf2)
theorem chanceR_eq {L : LkS} {dy : Nat} {n : KN} {lg : KLg} {ac : Nat} {su : Nat → KN} {sd : Nat} {rf : Nat → Int32} {c r q : Int32} {n2 n3 : KN} {lg2 lg3 : KLg} {ac2 ac3 : Nat} {su2 su3 : Nat → KN} {sd2 sd3 : Nat} {rf2 rf3 : Nat → Int32} (h1 : chanceR L dy n lg ac su sd rf c r n2 lg2 ac2 su2 sd2 rf2) (h2 : chanceR L dy n lg ac su sd rf c q n3 lg3 ac3 su3 sd3 rf3) : (lg2 = lg3 ∧ sd2 = sd3) ∧ act5 r q n2 n3 ac2 ac3 su2 su3 rf2 rf3 :=
  kR_eq h1 h2 (fun x y a b => kIe a.2.2.2.1 b.2.2.2.1 (by omega) (by omega)) (fun a b => ⟨⟨a.1.1.trans b.1.1.symm, a.1.2.trans b.1.2.symm⟩, actN_5 a.2 b.2⟩) (fun _ a b => ⟨⟨a.1.1.trans b.1.1.symm, a.1.2.trans b.1.2.symm⟩, actP_5 a.2 b.2⟩)
theorem chanceR_ok {L : LkS} {dy : Nat} {n : KN} {lg : KLg} {ac : Nat} {su : Nat → KN} {sd : Nat} {rf : Nat → Int32} {c r : Int32} {n2 : KN} {lg2 : KLg} {ac2 : Nat} {su2 : Nat → KN} {sd2 : Nat} {rf2 : Nat → Int32} (h : chanceR L dy n lg ac su sd rf c r n2 lg2 ac2 su2 sd2 rf2) (h9 : dy ≤ 9) (hk : sOk dy n ac su) (hl : lgOk lg) (hs : sd < 2147483648) : sOk dy n2 ac2 su2 ∧ lgOk lg2 ∧ sd2 < 2147483648 := by
  rcases h with ⟨-, ⟨rfl, rfl⟩, -, rfl, rfl, rfl, -⟩ | ⟨x, hx, ⟨rfl, rfl⟩, -, rfl, rfl, rfl, -⟩
  · exact ⟨hk, hl, hs⟩
  · have h1 := kcOk_n (L := L) hx.1 h9 x (n, lg, sd) ⟨hk.1, hl, hs⟩ hx.2.2.2.2
    exact ⟨sOk_push hk h1.1.1 h1.2, h1.1.2.1, h1.1.2.2⟩
/-! undone, the seed -/
def undoR (n : KN) (ac : Nat) (su : Nat → KN) (rf : Nat → Int32) (r : Int32) (n2 : KN) (ac2 : Nat) (rf2 : Nat → Int32) : Prop :=
  kB (1 ≤ ac) (r = 1 ∧ n2 = su (ac - 1) ∧ ac2 = ac - 1 ∧ rf2 = rf) (r = 0 ∧ n2 = n ∧ ac2 = ac ∧ rf2 = upd rf 4 (rf 4 + 1))
theorem undoR_eq {n : KN} {ac : Nat} {su : Nat → KN} {rf : Nat → Int32} {r q : Int32} {n2 n3 : KN} {ac2 ac3 : Nat} {rf2 rf3 : Nat → Int32} (h1 : undoR n ac su rf r n2 ac2 rf2) (h2 : undoR n ac su rf q n3 ac3 rf3) : r = q ∧ n2 = n3 ∧ ac2 = ac3 ∧ rf2 = rf3 :=
  kB_eq h1 h2 (fun a b => ⟨a.1.trans b.1.symm, a.2.1.trans b.2.1.symm, a.2.2.1.trans b.2.2.1.symm, a.2.2.2.trans b.2.2.2.symm⟩) (fun a b => ⟨a.1.trans b.1.symm, a.2.1.trans b.2.1.symm, a.2.2.1.trans b.2.2.1.symm, a.2.2.2.trans b.2.2.2.symm⟩)
theorem undoR_ok {dy : Nat} {n : KN} {ac : Nat} {su : Nat → KN} {rf : Nat → Int32} {r : Int32} {n2 : KN} {ac2 : Nat} {rf2 : Nat → Int32} (h : undoR n ac su rf r n2 ac2 rf2) (hk : sOk dy n ac su) : sOk dy n2 ac2 su := by
  rcases h with ⟨c, -, rfl, rfl, -⟩ | ⟨-, -, rfl, rfl, -⟩
  · exact sOk_pop hk c
  · exact hk
def seedR (sd : Nat) (rf : Nat → Int32) (s r : Int32) (sd2 : Nat) (rf2 : Nat → Int32) : Prop :=
  kR (fun x : Nat => x < 2147483648 ∧ s = nI x) (r = 0 ∧ sd2 = sd ∧ rf2 = upd rf 5 (rf 5 + 1)) (fun x => r = 1 ∧ sd2 = x ∧ rf2 = rf)
theorem seedR_eq {sd : Nat} {rf : Nat → Int32} {s r q : Int32} {sd2 sd3 : Nat} {rf2 rf3 : Nat → Int32} (h1 : seedR sd rf s r sd2 rf2) (h2 : seedR sd rf s q sd3 rf3) : r = q ∧ sd2 = sd3 ∧ rf2 = rf3 :=
  kR_eq h1 h2 (fun x y a b => kIe a.2 b.2 a.1 b.1) (fun a b => ⟨a.1.trans b.1.symm, a.2.1.trans b.2.1.symm, a.2.2.trans b.2.2.symm⟩) (fun _ a b => ⟨a.1.trans b.1.symm, a.2.1.trans b.2.1.symm, a.2.2.trans b.2.2.symm⟩)
theorem seedR_ok {sd : Nat} {rf : Nat → Int32} {s r : Int32} {sd2 : Nat} {rf2 : Nat → Int32} (h : seedR sd rf s r sd2 rf2) (hs : sd < 2147483648) : sd2 < 2147483648 := by
  rcases h with ⟨-, -, rfl, -⟩ | ⟨x, hx, -, rfl, -⟩
  · exact hs
  · exact hx.1
/-! what is heard -/
def hearC (dy : Nat) (U : Nat → Bool) (tb : Nat → Nat) (t : Nat) : Prop := 1 ≤ dy ∧ 2 ≤ t ∧ t ≤ 32 ∧ t % 2 = 0 ∧ ∀ i, 2 * i < t → tb (2 * i) < dy ∧ ¬ U (tb (2 * i)) = true ∧ tb (2 * i + 1) < 10
def hrR (tb : Nat → Nat) (i : Nat) : Nat := tb (2 * i) * 10 + tb (2 * i + 1)
def hearR (dy : Nat) (U : Nat → Bool) (tb : Nat → Nat) (t hn : Nat) (hR : Nat → Nat) (rf : Nat → Int32) (r : Int32) (hn2 : Nat) (hR2 : Nat → Nat) (rf2 : Nat → Int32) : Prop :=
  kB (hearC dy U tb t) (r = nI (t / 2) ∧ hn2 = t / 2 ∧ hR2 = hrR tb ∧ rf2 = rf) (r = -1 ∧ hn2 = hn ∧ hR2 = hR ∧ rf2 = upd rf 1 (rf 1 + 1))
theorem hearR_eq {dy : Nat} {U : Nat → Bool} {tb : Nat → Nat} {t hn : Nat} {hR : Nat → Nat} {rf : Nat → Int32} {r q : Int32} {hn2 hn3 : Nat} {hR2 hR3 : Nat → Nat} {rf2 rf3 : Nat → Int32} (h1 : hearR dy U tb t hn hR rf r hn2 hR2 rf2) (h2 : hearR dy U tb t hn hR rf q hn3 hR3 rf3) : r = q ∧ hn2 = hn3 ∧ hR2 = hR3 ∧ rf2 = rf3 :=
  kB_eq h1 h2 (fun a b => ⟨a.1.trans b.1.symm, a.2.1.trans b.2.1.symm, a.2.2.1.trans b.2.2.1.symm, a.2.2.2.trans b.2.2.2.symm⟩) (fun a b => ⟨a.1.trans b.1.symm, a.2.1.trans b.2.1.symm, a.2.2.1.trans b.2.2.1.symm, a.2.2.2.trans b.2.2.2.symm⟩)
theorem hearR_ok {dy : Nat} {U : Nat → Bool} {tb : Nat → Nat} {t hn : Nat} {hR : Nat → Nat} {rf : Nat → Int32} {r : Int32} {hn2 : Nat} {hR2 : Nat → Nat} {rf2 : Nat → Int32} (h : hearR dy U tb t hn hR rf r hn2 hR2 rf2) (h9 : dy ≤ 9) (h1 : hn ≤ 16) (h2 : ∀ j, j < hn → hR j < 10 * dy) : hn2 ≤ 16 ∧ ∀ j, j < hn2 → hR2 j < 10 * dy := by
  rcases h with ⟨⟨c1, c2, c3, c4, c5⟩, -, rfl, rfl, -⟩ | ⟨-, -, rfl, rfl, -⟩
  · refine ⟨by omega, fun j hj => ?_⟩
    have := c5 j (by omega)
    show tb (2 * j) * 10 + tb (2 * j + 1) < 10 * dy
    omega
  · exact ⟨h1, h2⟩
/-! the lock -/
def lkN (L : LkS) : KN := (0, lM L, lB L, lW L, lU L, 0)
def lockR (tb : Nat → Nat) (t : Nat) (L : LkS) (dy : Nat) (n : KN) (ac hn : Nat) (rf : Nat → Int32) (r : Int32) (L2 : LkS) (d2 : Nat) (n2 : KN) (ac2 hn2 : Nat) (rf2 : Nat → Int32) : Prop := match lockP tb t with
  | .ok x => r = nI x.2 ∧ L2 = x.1 ∧ d2 = lD x.1 ∧ n2 = lkN x.1 ∧ ac2 = 0 ∧ hn2 = 0 ∧ rf2 = rf
  | .error _ => r = -1 ∧ L2 = L ∧ d2 = dy ∧ n2 = n ∧ ac2 = ac ∧ hn2 = hn ∧ rf2 = upd rf 1 (rf 1 + 1)
theorem lockR_eq {tb : Nat → Nat} {t : Nat} {L : LkS} {dy : Nat} {n : KN} {ac hn : Nat} {rf : Nat → Int32} {r q : Int32} {L2 L3 : LkS} {d2 d3 : Nat} {n2 n3 : KN} {ac2 hn2 ac3 hn3 : Nat} {rf2 rf3 : Nat → Int32} (h1 : lockR tb t L dy n ac hn rf r L2 d2 n2 ac2 hn2 rf2) (h2 : lockR tb t L dy n ac hn rf q L3 d3 n3 ac3 hn3 rf3) : r = q ∧ L2 = L3 ∧ d2 = d3 ∧ n2 = n3 ∧ ac2 = ac3 ∧ hn2 = hn3 ∧ rf2 = rf3 := by
  unfold lockR at h1 h2
  cases hP : lockP tb t with
  | ok x =>
    rw [hP] at h1 h2
    obtain ⟨a1, a2, a3, a4, a5, a6, a7⟩ := h1
    obtain ⟨b1, b2, b3, b4, b5, b6, b7⟩ := h2
    exact ⟨a1.trans b1.symm, a2.trans b2.symm, a3.trans b3.symm, a4.trans b4.symm, a5.trans b5.symm, a6.trans b6.symm, a7.trans b7.symm⟩
  | error x =>
    rw [hP] at h1 h2
    obtain ⟨a1, a2, a3, a4, a5, a6, a7⟩ := h1
    obtain ⟨b1, b2, b3, b4, b5, b6, b7⟩ := h2
    exact ⟨a1.trans b1.symm, a2.trans b2.symm, a3.trans b3.symm, a4.trans b4.symm, a5.trans b5.symm, a6.trans b6.symm, a7.trans b7.symm⟩
theorem nOk_lock {L : LkS} (h : kcL9 L) : nOk (lD L) (lkN L) := ⟨Nat.zero_le _, h.2.2.1, h.2.2.2.1, h.2.2.2.2.1, h.2.2.2.2.2.1, Nat.le_refl _⟩
theorem dg_X11_isDay_0_0 : bqL cX11_isDay 0 [(0, [27]), (1, [155, 0, 18]), (19, [3]), (20, [172]), (4, [27]), (5, [42]), (6, [180, 0, 59]), (9, [180, 0, 144]), (12, [162, 0, 7]), (15, [4]), (16, [167, 0, 4])] = true := by decide +kernel
theorem dX11_isDay_0 : decode cX11_isDay 0 = .ok (.iload_n 1, 1) := q_iload_n1 (bat_get dg_X11_isDay_0_0 0 rfl rfl)
theorem dX11_isDay_1 : decode cX11_isDay 1 = .ok (.ifCond .lt 18, 3) := q_ifCond_lt (bat_get dg_X11_isDay_0_0 1 rfl rfl) rfl
theorem dX11_isDay_19 : decode cX11_isDay 19 = .ok (.iconst 0, 1) := q_iconst0 (bat_get dg_X11_isDay_0_0 2 rfl rfl)
theorem dX11_isDay_20 : decode cX11_isDay 20 = .ok (.ireturn, 1) := q_ireturn (bat_get dg_X11_isDay_0_0 3 rfl rfl)
theorem dX11_isDay_4 : decode cX11_isDay 4 = .ok (.iload_n 1, 1) := q_iload_n1 (bat_get dg_X11_isDay_0_0 4 rfl rfl)
theorem dX11_isDay_5 : decode cX11_isDay 5 = .ok (.aload_n 0, 1) := q_aload_n0 (bat_get dg_X11_isDay_0_0 5 rfl rfl)
theorem dX11_isDay_6 : decode cX11_isDay 6 = .ok (.getfield 59, 3) := q_getfield (bat_get dg_X11_isDay_0_0 6 rfl rfl) rfl
theorem dX11_isDay_9 : decode cX11_isDay 9 = .ok (.getfield 144, 3) := q_getfield (bat_get dg_X11_isDay_0_0 7 rfl rfl) rfl
theorem dX11_isDay_12 : decode cX11_isDay 12 = .ok (.if_icmp .ge 7, 3) := q_if_icmp_ge (bat_get dg_X11_isDay_0_0 8 rfl rfl) rfl
theorem dX11_isDay_15 : decode cX11_isDay 15 = .ok (.iconst 1, 1) := q_iconst1 (bat_get dg_X11_isDay_0_0 9 rfl rfl)
theorem dX11_isDay_16 : decode cX11_isDay 16 = .ok (.goto 4, 3) := q_goto (bat_get dg_X11_isDay_0_0 10 rfl rfl) rfl
theorem w_2_130 : (Cond.fieldLink RX11 59 "SameKeeper" "now" "LSameKeeper$State;") ∈ wsL_law := sk_mem (ck_2 _ (List.mem_of_getElem? (i := 130) rfl)) rfl
theorem w_2_1 : (Cond.fieldLink RX11 144 "SameKeeper$State" "days" "I") ∈ wsL_law := sk_mem (ck_2 _ (List.mem_of_getElem? (i := 1) rfl)) rfl
theorem w_3_193 : (Cond.code yX11_isDay cX11_isDay 2 (some .boolean)) ∈ wsL_law := sk_mem (ck_3 _ (List.mem_of_getElem? (i := 193) rfl)) rfl
set_option maxHeartbeats 4000000 in
set_option maxRecDepth 100000 in
theorem c_x_isDay (l : Launch) (D : va_G) (cI cJ cC cZ cS : ClassId) (x0 : Nat) (q : Nat → Nat) (hc : Int32) (dr : Int64) (dy : Nat) (mo : Nat) (wk : Int32) (mu : Int32) (ke : Int32) (fb : Nat → Int32) (fw : Nat → Int32) (d : Int32) (hdy : dy ≤ 9) : skM l yX11_isDay cX11_isDay 2 (some .boolean) 0 0 0 0 D (skT cI cJ cC cZ cS) [.ref x0, .int d] [(x0, .inr (11, [.ref (q 0), .ref (q 1), .ref (q 2), .ref (q 3), .ref (q 4), .ref (q 5), .ref (q 6), .ref (q 7), .ref (q 8), .ref (q 9), .ref (q 10), .ref (q 11), .ref (q 12), .ref (q 13), .ref (q 14), .int hc, .ref (q 16), .long dr])), (q 7, .inr (7, [.ref (q 33), .ref (q 34), .int (nI dy), .int wk, .int (nI mo), .int mu, .int ke]))] (skI D (skT cI cJ cC cZ cS) (fun (r : Int32) (u : va_W) => ∃ (b : Nat), (b = 0 ∨ (b = 1 ∧ ∃ kq : Nat, kq < dy ∧ d = nI kq)) ∧ r = nI b ∧ u = [(x0, .inr (11, [.ref (q 0), .ref (q 1), .ref (q 2), .ref (q 3), .ref (q 4), .ref (q 5), .ref (q 6), .ref (q 7), .ref (q 8), .ref (q 9), .ref (q 10), .ref (q 11), .ref (q 12), .ref (q 13), .ref (q 14), .int hc, .ref (q 16), .long dr])), (q 7, .inr (7, [.ref (q 33), .ref (q 34), .int (nI dy), .int wk, .int (nI mo), .int mu, .int ke]))])) := by
  refine skM_of pf_X11_isDay (Nat.le_of_ble_eq_true rfl) ?_
  intro p e s m below meth c A ls E hP hD hl
  refine skE_el E (fun hx hb hr hml hlocks hin hown hts hK hA => ?_)
  have hown : s.vm.findClass RX11 = some m.cls := hown
  have hS : va_S A s.heap s.heap [] := va_S.rf
  have hl : lv_has ls 2 [(0, .ref x0), (1, .int d)] := hl
  refine lv_iload_n hx hb dX11_isDay_0 rfl (lv_at hl 1 rfl) ?_
  refine lv_if_lt (tgt := 19) hx hb dX11_isDay_1 (by decide) (fun c_1 => ?_) (fun c_1 => ?_)
  · skip
    refine lv_iconst (v := 0) hx hb dX11_isDay_19 ic_0 ?_
    exact sk_iret hx hb hr rfl hlocks hK hP hD hS (⟨0, Or.inl rfl, rfl, rfl⟩) (Nat.le_of_ble_eq_true rfl) (Nat.le_of_ble_eq_true rfl) dX11_isDay_20
  · obtain ⟨k_2, hk_2, rfl⟩ := nof d c_1
    refine lv_iload_n hx hb dX11_isDay_4 rfl (lv_at hl 1 rfl) ?_
    refine lv_aload_n hx hb dX11_isDay_5 rfl (lv_at hl 0 rfl) ?_
    refine sk_get (v := .ref (q 7)) (C := RX11) (T := TX11) (N := 18) hx hb hts inlX11 hown hK hP 0 rfl rfl 7 (Nat.le_of_ble_eq_true rfl) w_2_130 rfl dX11_isDay_6 ?_
    refine sk_get (v := .int (nI dy)) (C := RX7) (T := TX7) (N := 7) hx hb hts inlX7 hown hK hP 1 rfl rfl 2 (Nat.le_of_ble_eq_true rfl) w_2_1 rfl dX11_isDay_9 ?_
    refine lv_icmp_ge (tgt := 19) hx hb dX11_isDay_12 (by decide) (fun c_3 => ?_) (fun c_3 => ?_)
    · have c_3 : dy ≤ k_2 := (nle dy k_2 (by omega) (by omega)).mp c_3
      refine lv_iconst (v := 0) hx hb dX11_isDay_19 ic_0 ?_
      exact sk_iret hx hb hr rfl hlocks hK hP hD hS (⟨0, Or.inl rfl, rfl, rfl⟩) (Nat.le_of_ble_eq_true rfl) (Nat.le_of_ble_eq_true rfl) dX11_isDay_20
    · have c_3 : ¬ (dy ≤ k_2) := fun h => c_3 ((nle dy k_2 (by omega) (by omega)).mpr h)
      refine lv_iconst (v := 1) hx hb dX11_isDay_15 ic_1 ?_
      refine lv_goto (tgt := 20) hx hb dX11_isDay_16 (by decide) ?_
      exact sk_iret hx hb hr rfl hlocks hK hP hD hS (⟨1, Or.inr ⟨rfl, k_2, by omega, rfl⟩, rfl, rfl⟩) (Nat.le_of_ble_eq_true rfl) (Nat.le_of_ble_eq_true rfl) dX11_isDay_20
theorem dg_X11_isDigit_0_0 : bqL cX11_isDigit 0 [(0, [26]), (1, [155, 0, 13]), (14, [3]), (15, [172]), (4, [26]), (5, [16, 10]), (7, [162, 0, 7]), (10, [4]), (11, [167, 0, 4])] = true := by decide +kernel
theorem dX11_isDigit_0 : decode cX11_isDigit 0 = .ok (.iload_n 0, 1) := q_iload_n0 (bat_get dg_X11_isDigit_0_0 0 rfl rfl)
theorem dX11_isDigit_1 : decode cX11_isDigit 1 = .ok (.ifCond .lt 13, 3) := q_ifCond_lt (bat_get dg_X11_isDigit_0_0 1 rfl rfl) rfl
theorem dX11_isDigit_14 : decode cX11_isDigit 14 = .ok (.iconst 0, 1) := q_iconst0 (bat_get dg_X11_isDigit_0_0 2 rfl rfl)
theorem dX11_isDigit_15 : decode cX11_isDigit 15 = .ok (.ireturn, 1) := q_ireturn (bat_get dg_X11_isDigit_0_0 3 rfl rfl)
theorem dX11_isDigit_4 : decode cX11_isDigit 4 = .ok (.iload_n 0, 1) := q_iload_n0 (bat_get dg_X11_isDigit_0_0 4 rfl rfl)
theorem dX11_isDigit_5 : decode cX11_isDigit 5 = .ok (.bipush 10, 2) := q_bipush (bat_get dg_X11_isDigit_0_0 5 rfl rfl) rfl
theorem dX11_isDigit_7 : decode cX11_isDigit 7 = .ok (.if_icmp .ge 7, 3) := q_if_icmp_ge (bat_get dg_X11_isDigit_0_0 6 rfl rfl) rfl
theorem dX11_isDigit_10 : decode cX11_isDigit 10 = .ok (.iconst 1, 1) := q_iconst1 (bat_get dg_X11_isDigit_0_0 7 rfl rfl)
theorem dX11_isDigit_11 : decode cX11_isDigit 11 = .ok (.goto 4, 3) := q_goto (bat_get dg_X11_isDigit_0_0 8 rfl rfl) rfl
theorem w_3_204 : (Cond.code yX11_isDigit cX11_isDigit 1 (some .boolean)) ∈ wsL_law := sk_mem (ck_3 _ (List.mem_of_getElem? (i := 204) rfl)) rfl
set_option maxHeartbeats 4000000 in
set_option maxRecDepth 100000 in
theorem c_x_isDigit (l : Launch) (D : va_G) (cI cJ cC cZ cS : ClassId) (d : Int32)  : skM l yX11_isDigit cX11_isDigit 1 (some .boolean) 0 0 0 0 D (skT cI cJ cC cZ cS) [.int d] [] (skI D (skT cI cJ cC cZ cS) (fun (r : Int32) (u : va_W) => ∃ (b : Nat), (b = 0 ∨ (b = 1 ∧ ∃ kq : Nat, kq < 10 ∧ d = nI kq)) ∧ r = nI b ∧ u = [])) := by
  refine skM_of pf_X11_isDigit (Nat.le_of_ble_eq_true rfl) ?_
  intro p e s m below meth c A ls E hP hD hl
  refine skE_el E (fun hx hb hr hml hlocks hin hown hts hK hA => ?_)
  have hown : s.vm.findClass RX11 = some m.cls := hown
  have hS : va_S A s.heap s.heap [] := va_S.rf
  have hl : lv_has ls 1 [(0, .int d)] := hl
  refine lv_iload_n hx hb dX11_isDigit_0 rfl (lv_at hl 0 rfl) ?_
  refine lv_if_lt (tgt := 14) hx hb dX11_isDigit_1 (by decide) (fun c_1 => ?_) (fun c_1 => ?_)
  · skip
    refine lv_iconst (v := 0) hx hb dX11_isDigit_14 ic_0 ?_
    exact sk_iret hx hb hr rfl hlocks hK hP hD hS (⟨0, Or.inl rfl, rfl, rfl⟩) (Nat.le_of_ble_eq_true rfl) (Nat.le_of_ble_eq_true rfl) dX11_isDigit_15
  · obtain ⟨k_2, hk_2, rfl⟩ := nof d c_1
    refine lv_iload_n hx hb dX11_isDigit_4 rfl (lv_at hl 0 rfl) ?_
    refine lv_bipush (v := 10) hx hb dX11_isDigit_5 (by decide) ?_
    refine lv_icmp_ge (tgt := 14) hx hb dX11_isDigit_7 (by decide) (fun c_3 => ?_) (fun c_3 => ?_)
    · have c_3 : 10 ≤ k_2 := (nle 10 k_2 (Nat.le_of_ble_eq_true rfl) (by omega)).mp c_3
      refine lv_iconst (v := 0) hx hb dX11_isDigit_14 ic_0 ?_
      exact sk_iret hx hb hr rfl hlocks hK hP hD hS (⟨0, Or.inl rfl, rfl, rfl⟩) (Nat.le_of_ble_eq_true rfl) (Nat.le_of_ble_eq_true rfl) dX11_isDigit_15
    · have c_3 : ¬ (10 ≤ k_2) := fun h => c_3 ((nle 10 k_2 (Nat.le_of_ble_eq_true rfl) (by omega)).mpr h)
      refine lv_iconst (v := 1) hx hb dX11_isDigit_10 ic_1 ?_
      refine lv_goto (tgt := 15) hx hb dX11_isDigit_11 (by decide) ?_
      exact sk_iret hx hb hr rfl hlocks hK hP hD hS (⟨1, Or.inr ⟨rfl, k_2, by omega, rfl⟩, rfl, rfl⟩) (Nat.le_of_ble_eq_true rfl) (Nat.le_of_ble_eq_true rfl) dX11_isDigit_15
theorem dg_X11_isWordOf_0_0 : bqL cX11_isWordOf 0 [(0, [42]), (1, [27]), (2, [182, 0, 170]), (5, [153, 0, 25]), (30, [3]), (31, [172]), (8, [42]), (9, [180, 0, 59]), (12, [27]), (13, [182, 0, 179]), (16, [154, 0, 14]), (19, [28]), (20, [184, 0, 182]), (23, [153, 0, 7]), (26, [4]), (27, [167, 0, 4])] = true := by decide +kernel
theorem dX11_isWordOf_0 : decode cX11_isWordOf 0 = .ok (.aload_n 0, 1) := q_aload_n0 (bat_get dg_X11_isWordOf_0_0 0 rfl rfl)
theorem dX11_isWordOf_1 : decode cX11_isWordOf 1 = .ok (.iload_n 1, 1) := q_iload_n1 (bat_get dg_X11_isWordOf_0_0 1 rfl rfl)
theorem dX11_isWordOf_2 : decode cX11_isWordOf 2 = .ok (.invokevirtual 170, 3) := q_invokevirtual (bat_get dg_X11_isWordOf_0_0 2 rfl rfl) rfl
theorem dX11_isWordOf_5 : decode cX11_isWordOf 5 = .ok (.ifCond .eq 25, 3) := q_ifCond_eq (bat_get dg_X11_isWordOf_0_0 3 rfl rfl) rfl
theorem dX11_isWordOf_30 : decode cX11_isWordOf 30 = .ok (.iconst 0, 1) := q_iconst0 (bat_get dg_X11_isWordOf_0_0 4 rfl rfl)
theorem dX11_isWordOf_31 : decode cX11_isWordOf 31 = .ok (.ireturn, 1) := q_ireturn (bat_get dg_X11_isWordOf_0_0 5 rfl rfl)
theorem dX11_isWordOf_8 : decode cX11_isWordOf 8 = .ok (.aload_n 0, 1) := q_aload_n0 (bat_get dg_X11_isWordOf_0_0 6 rfl rfl)
theorem dX11_isWordOf_9 : decode cX11_isWordOf 9 = .ok (.getfield 59, 3) := q_getfield (bat_get dg_X11_isWordOf_0_0 7 rfl rfl) rfl
theorem dX11_isWordOf_12 : decode cX11_isWordOf 12 = .ok (.iload_n 1, 1) := q_iload_n1 (bat_get dg_X11_isWordOf_0_0 8 rfl rfl)
theorem dX11_isWordOf_13 : decode cX11_isWordOf 13 = .ok (.invokevirtual 179, 3) := q_invokevirtual (bat_get dg_X11_isWordOf_0_0 9 rfl rfl) rfl
theorem dX11_isWordOf_16 : decode cX11_isWordOf 16 = .ok (.ifCond .ne 14, 3) := q_ifCond_ne (bat_get dg_X11_isWordOf_0_0 10 rfl rfl) rfl
theorem dX11_isWordOf_19 : decode cX11_isWordOf 19 = .ok (.iload_n 2, 1) := q_iload_n2 (bat_get dg_X11_isWordOf_0_0 11 rfl rfl)
theorem dX11_isWordOf_20 : decode cX11_isWordOf 20 = .ok (.invokestatic 182, 3) := q_invokestatic (bat_get dg_X11_isWordOf_0_0 12 rfl rfl) rfl
theorem dX11_isWordOf_23 : decode cX11_isWordOf 23 = .ok (.ifCond .eq 7, 3) := q_ifCond_eq (bat_get dg_X11_isWordOf_0_0 13 rfl rfl) rfl
theorem dX11_isWordOf_26 : decode cX11_isWordOf 26 = .ok (.iconst 1, 1) := q_iconst1 (bat_get dg_X11_isWordOf_0_0 14 rfl rfl)
theorem dX11_isWordOf_27 : decode cX11_isWordOf 27 = .ok (.goto 4, 3) := q_goto (bat_get dg_X11_isWordOf_0_0 15 rfl rfl) rfl
theorem w_3_190 : (Cond.methodLink RX11 170 yX11_isDay) ∈ wsL_law := sk_mem (ck_3 _ (List.mem_of_getElem? (i := 190) rfl)) rfl
theorem w_3_192 : (Cond.instanceMethod yX11_isDay) ∈ wsL_law := sk_mem (ck_3 _ (List.mem_of_getElem? (i := 192) rfl)) rfl
theorem w_0_14 : (Cond.selects RX11 yX11_isDay yX11_isDay) ∈ wsL_law := sk_mem (ck_0 _ (List.mem_of_getElem? (i := 14) rfl)) rfl
theorem w_1_1 : (Cond.initialized RX11) ∈ wsL_law := sk_mem (ck_1 _ (List.mem_of_getElem? (i := 1) rfl)) rfl
theorem w_3_194 : (Cond.methodLink RX11 179 yX7_isMute) ∈ wsL_law := sk_mem (ck_3 _ (List.mem_of_getElem? (i := 194) rfl)) rfl
theorem w_3_202 : (Cond.methodLink RX11 182 yX11_isDigit) ∈ wsL_law := sk_mem (ck_3 _ (List.mem_of_getElem? (i := 202) rfl)) rfl
theorem w_3_203 : (Cond.static yX11_isDigit) ∈ wsL_law := sk_mem (ck_3 _ (List.mem_of_getElem? (i := 203) rfl)) rfl
theorem w_4_189 : (Cond.code yX11_isWordOf cX11_isWordOf 3 (some .boolean)) ∈ wsL_law := sk_mem (ck_4 _ (List.mem_of_getElem? (i := 189) rfl)) rfl
theorem hd_X11_isDay_1 : skD yX11_isDay 1 := by decide +kernel
theorem hd_X11_isDigit_1 : skD yX11_isDigit 1 := by decide +kernel
set_option maxHeartbeats 4000000 in
set_option maxRecDepth 100000 in
theorem c_x_isWordOf (l : Launch) (D : va_G) (cI cJ cC cZ cS : ClassId) (x0 : Nat) (q : Nat → Nat) (hc : Int32) (dr : Int64) (dy : Nat) (mo : Nat) (wk : Int32) (mu : Int32) (ke : Int32) (fb : Nat → Int32) (fw : Nat → Int32) (d : Int32) (w : Int32) (hdy : dy ≤ 9) : skM l yX11_isWordOf cX11_isWordOf 3 (some .boolean) 1 21 0 0 D (skT cI cJ cC cZ cS) [.ref x0, .int d, .int w] [(x0, .inr (11, [.ref (q 0), .ref (q 1), .ref (q 2), .ref (q 3), .ref (q 4), .ref (q 5), .ref (q 6), .ref (q 7), .ref (q 8), .ref (q 9), .ref (q 10), .ref (q 11), .ref (q 12), .ref (q 13), .ref (q 14), .int hc, .ref (q 16), .long dr])), (q 7, .inr (7, [.ref (q 33), .ref (q 34), .int (nI dy), .int wk, .int (nI mo), .int mu, .int ke]))] (skI D (skT cI cJ cC cZ cS) (fun (r : Int32) (u : va_W) => ∃ (b : Nat), (b = 0 ∨ (b = 1 ∧ ∃ kq : Nat, kq < dy ∧ d = nI kq)) ∧ r = nI b ∧ u = [(x0, .inr (11, [.ref (q 0), .ref (q 1), .ref (q 2), .ref (q 3), .ref (q 4), .ref (q 5), .ref (q 6), .ref (q 7), .ref (q 8), .ref (q 9), .ref (q 10), .ref (q 11), .ref (q 12), .ref (q 13), .ref (q 14), .int hc, .ref (q 16), .long dr])), (q 7, .inr (7, [.ref (q 33), .ref (q 34), .int (nI dy), .int wk, .int (nI mo), .int mu, .int ke]))])) := by
  refine skM_of pf_X11_isWordOf (Nat.le_of_ble_eq_true rfl) ?_
  intro p e s m below meth c A ls E hP hD hl
  refine skE_el E (fun hx hb hr hml hlocks hin hown hts hK hA => ?_)
  have hown : s.vm.findClass RX11 = some m.cls := hown
  have hS : va_S A s.heap s.heap [] := va_S.rf
  have hl : lv_has ls 3 [(0, .ref x0), (1, .int d), (2, .int w)] := hl
  refine lv_aload_n hx hb dX11_isWordOf_0 rfl (lv_at hl 0 rfl) ?_
  refine lv_iload_n hx hb dX11_isWordOf_1 rfl (lv_at hl 1 rfl) ?_
  refine sk_Vi (q0 := 0) (n := 1) (rest := []) (wr := fmR om_2_3 _) ⟨hx, hb, hml, hown, hts⟩ hl.1 (c_x_isDay l D cI cJ cC cZ cS x0 q hc dr dy mo wk mu ke fb fw d hdy) w_3_190 w_3_192 w_0_14 w_1_1 w_3_193 hd_X11_isDay_1 ⟨⟨(Nat.le_of_ble_eq_true rfl), (Nat.le_of_ble_eq_true rfl)⟩, (Nat.le_of_ble_eq_true rfl), (Nat.le_of_ble_eq_true rfl)⟩ hK hP hD hS hA (fmT om_2_3 0) (fmF om_2_3 0) (fm_C1 rfl rfl) (fm_R rfl rfl) (fm_nT om_2_3 0) (fm_nF om_2_3 0) (fm_di om_2_3 0) rfl rfl rfl rfl (Nat.le_of_ble_eq_true rfl) dX11_isWordOf_2 (fun r_2 u H locs hw hP hD hS => ?_)
  refine exE hw (fun b_1 hw1 => anE hw1 (fun hb1_3 hw2 => anE hw2 (fun er_5 eu_4 => ?_)))
  clear hw hw1 hw2
  subst er_5
  refine o_mgE (ws' := [(x0, .inr (11, [.ref (q 0), .ref (q 1), .ref (q 2), .ref (q 3), .ref (q 4), .ref (q 5), .ref (q 6), .ref (q 7), .ref (q 8), .ref (q 9), .ref (q 10), .ref (q 11), .ref (q 12), .ref (q 13), .ref (q 14), .int hc, .ref (q 16), .long dr])), (q 7, .inr (7, [.ref (q 33), .ref (q 34), .int (nI dy), .int wk, .int (nI mo), .int mu, .int ke]))]) eu_4 hP hD rfl (fun hP hD => ?_)
  refine lv_if_eq (tgt := 30) hx hb dX11_isWordOf_5 (by decide) (fun c_6 => ?_) (fun c_6 => ?_)
  · have c_6 : b_1 = 0 := (neq b_1 0 (by omega) (Nat.le_of_ble_eq_true rfl)).mp c_6
    refine lv_iconst (v := 0) hx hb dX11_isWordOf_30 ic_0 ?_
    exact sk_iret hx hb hr rfl hlocks hK hP hD hS (⟨0, Or.inl rfl, rfl, rfl⟩) (Nat.le_of_ble_eq_true rfl) (Nat.le_of_ble_eq_true rfl) dX11_isWordOf_31
  · have c_6 : ¬ (b_1 = 0) := fun h => c_6 ((neq b_1 0 (by omega) (Nat.le_of_ble_eq_true rfl)).mpr h)
    obtain ⟨kd_7, hkd_8, rfl⟩ : ∃ kq : Nat, kq < dy ∧ d = nI kq := by
      rcases hb1_3 with hq | ⟨_, hq⟩
      · exact absurd hq (by omega)
      · exact hq
    refine lv_aload_n hx hb dX11_isWordOf_8 rfl (lv_at hl 0 rfl) ?_
    refine sk_get (v := .ref (q 7)) (C := RX11) (T := TX11) (N := 18) hx hb hts inlX11 hown hK hP 0 rfl rfl 7 (Nat.le_of_ble_eq_true rfl) w_2_130 rfl dX11_isWordOf_9 ?_
    refine lv_iload_n hx hb dX11_isWordOf_12 rfl (lv_at hl 1 rfl) ?_
    refine sk_Vi (q0 := 0) (n := 1) (rest := []) (wr := fmR om_2_1 _) ⟨hx, hb, hml, hown, hts⟩ hl.1 (c_State_isMute l D cI cJ cC cZ cS (q 7) (q 33) (q 34) dy mo wk mu ke (nI kd_7)) w_3_194 w_3_195 w_3_196 w_1_10 w_3_197 hd_X7_isMute_1 ⟨⟨(Nat.le_of_ble_eq_true rfl), (Nat.le_of_ble_eq_true rfl)⟩, (Nat.le_of_ble_eq_true rfl), (Nat.le_of_ble_eq_true rfl)⟩ hK hP hD hS hA (fmT om_2_1 0) (fmF om_2_1 0) (fm_C1 rfl rfl) (fm_R rfl rfl) (fm_nT om_2_1 0) (fm_nF om_2_1 0) (fm_di om_2_1 0) rfl rfl rfl rfl (Nat.le_of_ble_eq_true rfl) dX11_isWordOf_13 (fun r_10 u H locs hw hP hD hS => ?_)
    refine exE hw (fun b_9 hw1 => anE hw1 (fun hb1_11 hw2 => anE hw2 (fun er_13 eu_12 => ?_)))
    clear hw hw1 hw2
    subst er_13
    refine o_mgE (ws' := [(x0, .inr (11, [.ref (q 0), .ref (q 1), .ref (q 2), .ref (q 3), .ref (q 4), .ref (q 5), .ref (q 6), .ref (q 7), .ref (q 8), .ref (q 9), .ref (q 10), .ref (q 11), .ref (q 12), .ref (q 13), .ref (q 14), .int hc, .ref (q 16), .long dr])), (q 7, .inr (7, [.ref (q 33), .ref (q 34), .int (nI dy), .int wk, .int (nI mo), .int mu, .int ke]))]) eu_12 hP hD rfl (fun hP hD => ?_)
    refine lv_if_ne (tgt := 30) hx hb dX11_isWordOf_16 (by decide) (fun c_14 => ?_) (fun c_14 => ?_)
    · have c_14 : ¬ (b_9 = 0) := fun h => c_14 ((neq b_9 0 (by omega) (Nat.le_of_ble_eq_true rfl)).mpr h)
      refine lv_iconst (v := 0) hx hb dX11_isWordOf_30 ic_0 ?_
      exact sk_iret hx hb hr rfl hlocks hK hP hD hS (⟨0, Or.inl rfl, rfl, rfl⟩) (Nat.le_of_ble_eq_true rfl) (Nat.le_of_ble_eq_true rfl) dX11_isWordOf_31
    · have c_14 : b_9 = 0 := (neq b_9 0 (by omega) (Nat.le_of_ble_eq_true rfl)).mp c_14
      refine lv_iload_n hx hb dX11_isWordOf_19 rfl (lv_at hl 2 rfl) ?_
      refine sk_Si (n := 1) (rest := []) (wr := [(x0, .inr (11, [.ref (q 0), .ref (q 1), .ref (q 2), .ref (q 3), .ref (q 4), .ref (q 5), .ref (q 6), .ref (q 7), .ref (q 8), .ref (q 9), .ref (q 10), .ref (q 11), .ref (q 12), .ref (q 13), .ref (q 14), .int hc, .ref (q 16), .long dr])), (q 7, .inr (7, [.ref (q 33), .ref (q 34), .int (nI dy), .int wk, .int (nI mo), .int mu, .int ke]))]) ⟨hx, hb, hml, hown, hts⟩ hl.1 (c_x_isDigit l D cI cJ cC cZ cS w) w_3_202 w_3_203 w_1_1 w_3_204 hd_X11_isDigit_1 ⟨⟨(Nat.le_of_ble_eq_true rfl), (Nat.le_of_ble_eq_true rfl)⟩, (Nat.le_of_ble_eq_true rfl), (Nat.le_of_ble_eq_true rfl)⟩ hK hP hD hS hA [] [0, 1] rfl rfl (by decide +kernel) (by decide +kernel) (by decide +kernel) rfl rfl (Nat.le_of_ble_eq_true rfl) dX11_isWordOf_20 (fun r_16 u H locs hw hP hD hS => ?_)
      obtain ⟨b_15, hb1_17, rfl, rfl⟩ := hw
      refine o_re (ws' := [(x0, .inr (11, [.ref (q 0), .ref (q 1), .ref (q 2), .ref (q 3), .ref (q 4), .ref (q 5), .ref (q 6), .ref (q 7), .ref (q 8), .ref (q 9), .ref (q 10), .ref (q 11), .ref (q 12), .ref (q 13), .ref (q 14), .int hc, .ref (q 16), .long dr])), (q 7, .inr (7, [.ref (q 33), .ref (q 34), .int (nI dy), .int wk, .int (nI mo), .int mu, .int ke]))]) hP hD rfl (fun hP hD => ?_)
      refine lv_if_eq (tgt := 30) hx hb dX11_isWordOf_23 (by decide) (fun c_18 => ?_) (fun c_18 => ?_)
      · have c_18 : b_15 = 0 := (neq b_15 0 (by omega) (Nat.le_of_ble_eq_true rfl)).mp c_18
        refine lv_iconst (v := 0) hx hb dX11_isWordOf_30 ic_0 ?_
        exact sk_iret hx hb hr rfl hlocks hK hP hD hS (⟨0, Or.inl rfl, rfl, rfl⟩) (Nat.le_of_ble_eq_true rfl) (Nat.le_of_ble_eq_true rfl) dX11_isWordOf_31
      · have c_18 : ¬ (b_15 = 0) := fun h => c_18 ((neq b_15 0 (by omega) (Nat.le_of_ble_eq_true rfl)).mpr h)
        obtain ⟨kd_19, hkd_20, rfl⟩ : ∃ kq : Nat, kq < 10 ∧ w = nI kq := by
          rcases hb1_17 with hq | ⟨_, hq⟩
          · exact absurd hq (by omega)
          · exact hq
        refine lv_iconst (v := 1) hx hb dX11_isWordOf_26 ic_1 ?_
        refine lv_goto (tgt := 31) hx hb dX11_isWordOf_27 (by decide) ?_
        exact sk_iret hx hb hr rfl hlocks hK hP hD hS (⟨1, Or.inr ⟨rfl, kd_7, by omega, rfl⟩, rfl, rfl⟩) (Nat.le_of_ble_eq_true rfl) (Nat.le_of_ble_eq_true rfl) dX11_isWordOf_31
theorem dX11_fault_1 : decode cX11_fault 1 = .ok (.lookupswitch 43 #[(0, 27), (1, 35)], 27) := by decide +kernel
theorem dg_X11_fault_0_0 : bqL cX11_fault 0 [(0, [27]), (28, [42]), (29, [180, 0, 26]), (32, [180, 0, 128]), (35, [172]), (36, [42]), (37, [180, 0, 26]), (40, [180, 0, 141]), (43, [172]), (44, [2]), (45, [172])] = true := by decide +kernel
theorem dX11_fault_0 : decode cX11_fault 0 = .ok (.iload_n 1, 1) := q_iload_n1 (bat_get dg_X11_fault_0_0 0 rfl rfl)
theorem dX11_fault_28 : decode cX11_fault 28 = .ok (.aload_n 0, 1) := q_aload_n0 (bat_get dg_X11_fault_0_0 1 rfl rfl)
theorem dX11_fault_29 : decode cX11_fault 29 = .ok (.getfield 26, 3) := q_getfield (bat_get dg_X11_fault_0_0 2 rfl rfl) rfl
theorem dX11_fault_32 : decode cX11_fault 32 = .ok (.getfield 128, 3) := q_getfield (bat_get dg_X11_fault_0_0 3 rfl rfl) rfl
theorem dX11_fault_35 : decode cX11_fault 35 = .ok (.ireturn, 1) := q_ireturn (bat_get dg_X11_fault_0_0 4 rfl rfl)
theorem dX11_fault_36 : decode cX11_fault 36 = .ok (.aload_n 0, 1) := q_aload_n0 (bat_get dg_X11_fault_0_0 5 rfl rfl)
theorem dX11_fault_37 : decode cX11_fault 37 = .ok (.getfield 26, 3) := q_getfield (bat_get dg_X11_fault_0_0 6 rfl rfl) rfl
theorem dX11_fault_40 : decode cX11_fault 40 = .ok (.getfield 141, 3) := q_getfield (bat_get dg_X11_fault_0_0 7 rfl rfl) rfl
theorem dX11_fault_43 : decode cX11_fault 43 = .ok (.ireturn, 1) := q_ireturn (bat_get dg_X11_fault_0_0 8 rfl rfl)
theorem dX11_fault_44 : decode cX11_fault 44 = .ok (.iconst (-1), 1) := q_iconstm1 (bat_get dg_X11_fault_0_0 9 rfl rfl)
theorem dX11_fault_45 : decode cX11_fault 45 = .ok (.ireturn, 1) := q_ireturn (bat_get dg_X11_fault_0_0 10 rfl rfl)
theorem w_2_125 : (Cond.fieldLink RX11 26 "SameKeeper" "reader" "LSameKeeper$Reader;") ∈ wsL_law := sk_mem (ck_2 _ (List.mem_of_getElem? (i := 125) rfl)) rfl
theorem w_1_68 : (Cond.fieldLink RX11 128 "SameKeeper$Reader" "fault" "I") ∈ wsL_law := sk_mem (ck_1 _ (List.mem_of_getElem? (i := 68) rfl)) rfl
theorem w_1_70 : (Cond.fieldLink RX11 141 "SameKeeper$Reader" "place" "I") ∈ wsL_law := sk_mem (ck_1 _ (List.mem_of_getElem? (i := 70) rfl)) rfl
theorem w_3_168 : (Cond.code yX11_fault cX11_fault 2 (some .int)) ∈ wsL_law := sk_mem (ck_3 _ (List.mem_of_getElem? (i := 168) rfl)) rfl
set_option maxHeartbeats 4000000 in
set_option maxRecDepth 100000 in
theorem c_y_fault (l : Launch) (D : va_G) (cI cJ cC cZ cS : ClassId) (x0 : Nat) (q : Nat → Nat) (hc : Int32) (dr : Int64) (xa : Nat) (xv : Int32) (xo : Nat) (xt : Int32) (xz : Nat) (xf : Int32) (xp : Int32) (w : Int32)  : skM l yX11_fault cX11_fault 2 (some .int) 0 0 0 0 D (skT cI cJ cC cZ cS) [.ref x0, .int w] [(x0, .inr (11, [.ref (q 0), .ref (q 1), .ref (q 2), .ref (q 3), .ref (q 4), .ref (q 5), .ref (q 6), .ref (q 7), .ref (q 8), .ref (q 9), .ref (q 10), .ref (q 11), .ref (q 12), .ref (q 13), .ref (q 14), .int hc, .ref (q 16), .long dr])), (q 2, .inr (6, [.ref (q 0), .int (nI xa), .int xv, .int (nI xo), .int xt, .int (nI xz), .int xf, .int xp]))] (skI D (skT cI cJ cC cZ cS) (fun (r : Int32) (u : va_W) => ((w = 0 ∧ r = xf) ∨ (w = 1 ∧ r = xp) ∨ (¬ w = 0 ∧ ¬ w = 1 ∧ r = -1)) ∧ u = [(x0, .inr (11, [.ref (q 0), .ref (q 1), .ref (q 2), .ref (q 3), .ref (q 4), .ref (q 5), .ref (q 6), .ref (q 7), .ref (q 8), .ref (q 9), .ref (q 10), .ref (q 11), .ref (q 12), .ref (q 13), .ref (q 14), .int hc, .ref (q 16), .long dr])), (q 2, .inr (6, [.ref (q 0), .int (nI xa), .int xv, .int (nI xo), .int xt, .int (nI xz), .int xf, .int xp]))])) := by
  refine skM_of pf_X11_fault (Nat.le_of_ble_eq_true rfl) ?_
  intro p e s m below meth c A ls E hP hD hl
  refine skE_el E (fun hx hb hr hml hlocks hin hown hts hK hA => ?_)
  have hown : s.vm.findClass RX11 = some m.cls := hown
  have hS : va_S A s.heap s.heap [] := va_S.rf
  have hl : lv_has ls 2 [(0, .ref x0), (1, .int w)] := hl
  refine lv_iload_n hx hb dX11_fault_0 rfl (lv_at hl 1 rfl) ?_
  by_cases g_1 : w = 0
  · refine lv_lookup (off := 27) (tgt := 28) hx hb dX11_fault_1 (by decide) (by rw [g_1]; decide) (by decide) ?_
    refine lv_aload_n hx hb dX11_fault_28 rfl (lv_at hl 0 rfl) ?_
    refine sk_get (v := .ref (q 2)) (C := RX11) (T := TX11) (N := 18) hx hb hts inlX11 hown hK hP 0 rfl rfl 2 (Nat.le_of_ble_eq_true rfl) w_2_125 rfl dX11_fault_29 ?_
    refine sk_get (v := .int xf) (C := RX6) (T := TX6) (N := 8) hx hb hts inlX6 hown hK hP 1 rfl rfl 6 (Nat.le_of_ble_eq_true rfl) w_1_68 rfl dX11_fault_32 ?_
    exact sk_iret hx hb hr rfl hlocks hK hP hD hS (⟨(Or.inl ⟨g_1, rfl⟩), rfl⟩) (Nat.le_of_ble_eq_true rfl) (Nat.le_of_ble_eq_true rfl) dX11_fault_35
  by_cases g_2 : w = 1
  · refine lv_lookup (off := 35) (tgt := 36) hx hb dX11_fault_1 (by decide) (by rw [g_2]; decide) (by decide) ?_
    refine lv_aload_n hx hb dX11_fault_36 rfl (lv_at hl 0 rfl) ?_
    refine sk_get (v := .ref (q 2)) (C := RX11) (T := TX11) (N := 18) hx hb hts inlX11 hown hK hP 0 rfl rfl 2 (Nat.le_of_ble_eq_true rfl) w_2_125 rfl dX11_fault_37 ?_
    refine sk_get (v := .int xp) (C := RX6) (T := TX6) (N := 8) hx hb hts inlX6 hown hK hP 1 rfl rfl 7 (Nat.le_of_ble_eq_true rfl) w_1_70 rfl dX11_fault_40 ?_
    exact sk_iret hx hb hr rfl hlocks hK hP hD hS (⟨(Or.inr (Or.inl ⟨g_2, rfl⟩)), rfl⟩) (Nat.le_of_ble_eq_true rfl) (Nat.le_of_ble_eq_true rfl) dX11_fault_43
  refine lv_lookup (off := 43) (tgt := 44) hx hb dX11_fault_1 (by decide) (by rw [lv_osw g_1 (by decide)]; rw [lv_osw g_2 (by decide)]; rfl) (by decide) ?_
  refine lv_iconst (v := (-1)) hx hb dX11_fault_44 (by decide) ?_
  exact sk_iret hx hb hr rfl hlocks hK hP hD hS (⟨(Or.inr (Or.inr ⟨by assumption, by assumption, rfl⟩)), rfl⟩) (Nat.le_of_ble_eq_true rfl) (Nat.le_of_ble_eq_true rfl) dX11_fault_45
theorem dg_J6_bitCount_0f7a4_0_0 : bqL cJ6_bitCount_0f7a4 0 [(0, [26]), (1, [26]), (2, [4]), (3, [124]), (4, [19, 1, 9]), (7, [126]), (8, [100]), (9, [59]), (10, [26]), (11, [19, 1, 10]), (14, [126]), (15, [26]), (16, [5]), (17, [124]), (18, [19, 1, 10]), (21, [126]), (22, [96]), (23, [59]), (24, [26]), (25, [26]), (26, [7]), (27, [124]), (28, [96]), (29, [19, 1, 11]), (32, [126]), (33, [59]), (34, [26]), (35, [26]), (36, [16, 8]), (38, [124]), (39, [96]), (40, [59]), (41, [26]), (42, [26]), (43, [16, 16]), (45, [124]), (46, [96]), (47, [59]), (48, [26]), (49, [16, 63])] = true := by decide +kernel
theorem dJ6_bitCount_0f7a4_0 : decode cJ6_bitCount_0f7a4 0 = .ok (.iload_n 0, 1) := q_iload_n0 (bat_get dg_J6_bitCount_0f7a4_0_0 0 rfl rfl)
theorem dJ6_bitCount_0f7a4_1 : decode cJ6_bitCount_0f7a4 1 = .ok (.iload_n 0, 1) := q_iload_n0 (bat_get dg_J6_bitCount_0f7a4_0_0 1 rfl rfl)
theorem dJ6_bitCount_0f7a4_2 : decode cJ6_bitCount_0f7a4 2 = .ok (.iconst 1, 1) := q_iconst1 (bat_get dg_J6_bitCount_0f7a4_0_0 2 rfl rfl)
theorem dJ6_bitCount_0f7a4_3 : decode cJ6_bitCount_0f7a4 3 = .ok (.iushr, 1) := q_iushr (bat_get dg_J6_bitCount_0f7a4_0_0 3 rfl rfl)
theorem dJ6_bitCount_0f7a4_4 : decode cJ6_bitCount_0f7a4 4 = .ok (.ldc_w 265, 3) := q_ldc_w (bat_get dg_J6_bitCount_0f7a4_0_0 4 rfl rfl) rfl
theorem dJ6_bitCount_0f7a4_7 : decode cJ6_bitCount_0f7a4 7 = .ok (.iand, 1) := q_iand (bat_get dg_J6_bitCount_0f7a4_0_0 5 rfl rfl)
theorem dJ6_bitCount_0f7a4_8 : decode cJ6_bitCount_0f7a4 8 = .ok (.isub, 1) := q_isub (bat_get dg_J6_bitCount_0f7a4_0_0 6 rfl rfl)
theorem dJ6_bitCount_0f7a4_9 : decode cJ6_bitCount_0f7a4 9 = .ok (.istore_n 0, 1) := q_istore_n0 (bat_get dg_J6_bitCount_0f7a4_0_0 7 rfl rfl)
theorem dJ6_bitCount_0f7a4_10 : decode cJ6_bitCount_0f7a4 10 = .ok (.iload_n 0, 1) := q_iload_n0 (bat_get dg_J6_bitCount_0f7a4_0_0 8 rfl rfl)
theorem dJ6_bitCount_0f7a4_11 : decode cJ6_bitCount_0f7a4 11 = .ok (.ldc_w 266, 3) := q_ldc_w (bat_get dg_J6_bitCount_0f7a4_0_0 9 rfl rfl) rfl
theorem dJ6_bitCount_0f7a4_14 : decode cJ6_bitCount_0f7a4 14 = .ok (.iand, 1) := q_iand (bat_get dg_J6_bitCount_0f7a4_0_0 10 rfl rfl)
theorem dJ6_bitCount_0f7a4_15 : decode cJ6_bitCount_0f7a4 15 = .ok (.iload_n 0, 1) := q_iload_n0 (bat_get dg_J6_bitCount_0f7a4_0_0 11 rfl rfl)
theorem dJ6_bitCount_0f7a4_16 : decode cJ6_bitCount_0f7a4 16 = .ok (.iconst 2, 1) := q_iconst2 (bat_get dg_J6_bitCount_0f7a4_0_0 12 rfl rfl)
theorem dJ6_bitCount_0f7a4_17 : decode cJ6_bitCount_0f7a4 17 = .ok (.iushr, 1) := q_iushr (bat_get dg_J6_bitCount_0f7a4_0_0 13 rfl rfl)
theorem dJ6_bitCount_0f7a4_18 : decode cJ6_bitCount_0f7a4 18 = .ok (.ldc_w 266, 3) := q_ldc_w (bat_get dg_J6_bitCount_0f7a4_0_0 14 rfl rfl) rfl
theorem dJ6_bitCount_0f7a4_21 : decode cJ6_bitCount_0f7a4 21 = .ok (.iand, 1) := q_iand (bat_get dg_J6_bitCount_0f7a4_0_0 15 rfl rfl)
theorem dJ6_bitCount_0f7a4_22 : decode cJ6_bitCount_0f7a4 22 = .ok (.iadd, 1) := q_iadd (bat_get dg_J6_bitCount_0f7a4_0_0 16 rfl rfl)
theorem dJ6_bitCount_0f7a4_23 : decode cJ6_bitCount_0f7a4 23 = .ok (.istore_n 0, 1) := q_istore_n0 (bat_get dg_J6_bitCount_0f7a4_0_0 17 rfl rfl)
theorem dJ6_bitCount_0f7a4_24 : decode cJ6_bitCount_0f7a4 24 = .ok (.iload_n 0, 1) := q_iload_n0 (bat_get dg_J6_bitCount_0f7a4_0_0 18 rfl rfl)
theorem dJ6_bitCount_0f7a4_25 : decode cJ6_bitCount_0f7a4 25 = .ok (.iload_n 0, 1) := q_iload_n0 (bat_get dg_J6_bitCount_0f7a4_0_0 19 rfl rfl)
theorem dJ6_bitCount_0f7a4_26 : decode cJ6_bitCount_0f7a4 26 = .ok (.iconst 4, 1) := q_iconst4 (bat_get dg_J6_bitCount_0f7a4_0_0 20 rfl rfl)
theorem dJ6_bitCount_0f7a4_27 : decode cJ6_bitCount_0f7a4 27 = .ok (.iushr, 1) := q_iushr (bat_get dg_J6_bitCount_0f7a4_0_0 21 rfl rfl)
theorem dJ6_bitCount_0f7a4_28 : decode cJ6_bitCount_0f7a4 28 = .ok (.iadd, 1) := q_iadd (bat_get dg_J6_bitCount_0f7a4_0_0 22 rfl rfl)
theorem dJ6_bitCount_0f7a4_29 : decode cJ6_bitCount_0f7a4 29 = .ok (.ldc_w 267, 3) := q_ldc_w (bat_get dg_J6_bitCount_0f7a4_0_0 23 rfl rfl) rfl
theorem dJ6_bitCount_0f7a4_32 : decode cJ6_bitCount_0f7a4 32 = .ok (.iand, 1) := q_iand (bat_get dg_J6_bitCount_0f7a4_0_0 24 rfl rfl)
theorem dJ6_bitCount_0f7a4_33 : decode cJ6_bitCount_0f7a4 33 = .ok (.istore_n 0, 1) := q_istore_n0 (bat_get dg_J6_bitCount_0f7a4_0_0 25 rfl rfl)
theorem dJ6_bitCount_0f7a4_34 : decode cJ6_bitCount_0f7a4 34 = .ok (.iload_n 0, 1) := q_iload_n0 (bat_get dg_J6_bitCount_0f7a4_0_0 26 rfl rfl)
theorem dJ6_bitCount_0f7a4_35 : decode cJ6_bitCount_0f7a4 35 = .ok (.iload_n 0, 1) := q_iload_n0 (bat_get dg_J6_bitCount_0f7a4_0_0 27 rfl rfl)
theorem dJ6_bitCount_0f7a4_36 : decode cJ6_bitCount_0f7a4 36 = .ok (.bipush 8, 2) := q_bipush (bat_get dg_J6_bitCount_0f7a4_0_0 28 rfl rfl) rfl
theorem dJ6_bitCount_0f7a4_38 : decode cJ6_bitCount_0f7a4 38 = .ok (.iushr, 1) := q_iushr (bat_get dg_J6_bitCount_0f7a4_0_0 29 rfl rfl)
theorem dJ6_bitCount_0f7a4_39 : decode cJ6_bitCount_0f7a4 39 = .ok (.iadd, 1) := q_iadd (bat_get dg_J6_bitCount_0f7a4_0_0 30 rfl rfl)
theorem dJ6_bitCount_0f7a4_40 : decode cJ6_bitCount_0f7a4 40 = .ok (.istore_n 0, 1) := q_istore_n0 (bat_get dg_J6_bitCount_0f7a4_0_0 31 rfl rfl)
theorem dJ6_bitCount_0f7a4_41 : decode cJ6_bitCount_0f7a4 41 = .ok (.iload_n 0, 1) := q_iload_n0 (bat_get dg_J6_bitCount_0f7a4_0_0 32 rfl rfl)
theorem dJ6_bitCount_0f7a4_42 : decode cJ6_bitCount_0f7a4 42 = .ok (.iload_n 0, 1) := q_iload_n0 (bat_get dg_J6_bitCount_0f7a4_0_0 33 rfl rfl)
theorem dJ6_bitCount_0f7a4_43 : decode cJ6_bitCount_0f7a4 43 = .ok (.bipush 16, 2) := q_bipush (bat_get dg_J6_bitCount_0f7a4_0_0 34 rfl rfl) rfl
theorem dJ6_bitCount_0f7a4_45 : decode cJ6_bitCount_0f7a4 45 = .ok (.iushr, 1) := q_iushr (bat_get dg_J6_bitCount_0f7a4_0_0 35 rfl rfl)
theorem dJ6_bitCount_0f7a4_46 : decode cJ6_bitCount_0f7a4 46 = .ok (.iadd, 1) := q_iadd (bat_get dg_J6_bitCount_0f7a4_0_0 36 rfl rfl)
theorem dJ6_bitCount_0f7a4_47 : decode cJ6_bitCount_0f7a4 47 = .ok (.istore_n 0, 1) := q_istore_n0 (bat_get dg_J6_bitCount_0f7a4_0_0 37 rfl rfl)
theorem dJ6_bitCount_0f7a4_48 : decode cJ6_bitCount_0f7a4 48 = .ok (.iload_n 0, 1) := q_iload_n0 (bat_get dg_J6_bitCount_0f7a4_0_0 38 rfl rfl)
theorem dJ6_bitCount_0f7a4_49 : decode cJ6_bitCount_0f7a4 49 = .ok (.bipush 63, 2) := q_bipush (bat_get dg_J6_bitCount_0f7a4_0_0 39 rfl rfl) rfl
theorem dg_J6_bitCount_0f7a4_51_51 : bqL cJ6_bitCount_0f7a4 51 [(0, [126]), (1, [172])] = true := by decide +kernel
theorem dJ6_bitCount_0f7a4_51 : decode cJ6_bitCount_0f7a4 51 = .ok (.iand, 1) := q_iand (bat_get dg_J6_bitCount_0f7a4_51_51 0 rfl rfl)
theorem dJ6_bitCount_0f7a4_52 : decode cJ6_bitCount_0f7a4 52 = .ok (.ireturn, 1) := q_ireturn (bat_get dg_J6_bitCount_0f7a4_51_51 1 rfl rfl)
theorem w_3_176 : (Cond.constant RJ6 265 (1431655765)) ∈ wsL_law := sk_mem (ck_3 _ (List.mem_of_getElem? (i := 176) rfl)) rfl
theorem w_3_177 : (Cond.constant RJ6 266 (858993459)) ∈ wsL_law := sk_mem (ck_3 _ (List.mem_of_getElem? (i := 177) rfl)) rfl
theorem w_3_178 : (Cond.constant RJ6 267 (252645135)) ∈ wsL_law := sk_mem (ck_3 _ (List.mem_of_getElem? (i := 178) rfl)) rfl
theorem w_3_175 : (Cond.code yJ6_bitCount_0f7a4 cJ6_bitCount_0f7a4 1 (some .int)) ∈ wsL_law := sk_mem (ck_3 _ (List.mem_of_getElem? (i := 175) rfl)) rfl
set_option maxHeartbeats 4000000 in
set_option maxRecDepth 100000 in
theorem c_bitCount (l : Launch) (D : va_G) (cI cJ cC cZ cS : ClassId) (o : Int32)  : skM l yJ6_bitCount_0f7a4 cJ6_bitCount_0f7a4 1 (some .int) 0 0 0 0 D (skT cI cJ cC cZ cS) [.int o] [] (skI D (skT cI cJ cC cZ cS) (fun (r : Int32) (u : va_W) => u = [])) := by
  refine skM_of pf_J6_bitCount_0f7a4 (Nat.le_of_ble_eq_true rfl) ?_
  intro p e s m below meth c A ls E hP hD hl
  refine skE_el E (fun hx hb hr hml hlocks hin hown hts hK hA => ?_)
  have hown : s.vm.findClass RJ6 = some m.cls := hown
  have hS : va_S A s.heap s.heap [] := va_S.rf
  have hl : lv_has ls 1 [(0, .int o)] := hl
  refine lv_iload_n hx hb dJ6_bitCount_0f7a4_0 rfl (lv_at hl 0 rfl) ?_
  refine lv_iload_n hx hb dJ6_bitCount_0f7a4_1 rfl (lv_at hl 0 rfl) ?_
  refine lv_iconst (v := 1) hx hb dJ6_bitCount_0f7a4_2 ic_1 ?_
  refine lv_iushr hx hb dJ6_bitCount_0f7a4_3 rfl ?_
  refine lv_topi (fun v_1 ev_1 => ?_)
  refine lv_ldcw (v := 1431655765) hx hb hown (hts _ w_3_176) dJ6_bitCount_0f7a4_4 ?_
  refine lv_iand hx hb dJ6_bitCount_0f7a4_7 ?_
  refine lv_topi (fun v_2 ev_2 => ?_)
  refine lv_isub hx hb dJ6_bitCount_0f7a4_8 ?_
  refine lv_topi (fun v_3 ev_3 => ?_)
  refine lv_istore_n (lv' := [(0, .int v_3)]) hx hb dJ6_bitCount_0f7a4_9 rfl hl (by decide) rfl (fun ls hl => ?_)
  refine lv_iload_n hx hb dJ6_bitCount_0f7a4_10 rfl (lv_at hl 0 rfl) ?_
  refine lv_ldcw (v := 858993459) hx hb hown (hts _ w_3_177) dJ6_bitCount_0f7a4_11 ?_
  refine lv_iand hx hb dJ6_bitCount_0f7a4_14 ?_
  refine lv_topi (fun v_4 ev_4 => ?_)
  refine lv_iload_n hx hb dJ6_bitCount_0f7a4_15 rfl (lv_at hl 0 rfl) ?_
  refine lv_iconst (v := 2) hx hb dJ6_bitCount_0f7a4_16 ic_2 ?_
  refine lv_iushr hx hb dJ6_bitCount_0f7a4_17 rfl ?_
  refine lv_topi (fun v_5 ev_5 => ?_)
  refine lv_ldcw (v := 858993459) hx hb hown (hts _ w_3_177) dJ6_bitCount_0f7a4_18 ?_
  refine lv_iand hx hb dJ6_bitCount_0f7a4_21 ?_
  refine lv_topi (fun v_6 ev_6 => ?_)
  refine lv_iadd hx hb dJ6_bitCount_0f7a4_22 ?_
  refine lv_topi (fun v_7 ev_7 => ?_)
  refine lv_istore_n (lv' := [(0, .int v_7)]) hx hb dJ6_bitCount_0f7a4_23 rfl hl (by decide) rfl (fun ls hl => ?_)
  refine lv_iload_n hx hb dJ6_bitCount_0f7a4_24 rfl (lv_at hl 0 rfl) ?_
  refine lv_iload_n hx hb dJ6_bitCount_0f7a4_25 rfl (lv_at hl 0 rfl) ?_
  refine lv_iconst (v := 4) hx hb dJ6_bitCount_0f7a4_26 ic_4 ?_
  refine lv_iushr hx hb dJ6_bitCount_0f7a4_27 rfl ?_
  refine lv_topi (fun v_8 ev_8 => ?_)
  refine lv_iadd hx hb dJ6_bitCount_0f7a4_28 ?_
  refine lv_topi (fun v_9 ev_9 => ?_)
  refine lv_ldcw (v := 252645135) hx hb hown (hts _ w_3_178) dJ6_bitCount_0f7a4_29 ?_
  refine lv_iand hx hb dJ6_bitCount_0f7a4_32 ?_
  refine lv_topi (fun v_10 ev_10 => ?_)
  refine lv_istore_n (lv' := [(0, .int v_10)]) hx hb dJ6_bitCount_0f7a4_33 rfl hl (by decide) rfl (fun ls hl => ?_)
  refine lv_iload_n hx hb dJ6_bitCount_0f7a4_34 rfl (lv_at hl 0 rfl) ?_
  refine lv_iload_n hx hb dJ6_bitCount_0f7a4_35 rfl (lv_at hl 0 rfl) ?_
  refine lv_bipush (v := 8) hx hb dJ6_bitCount_0f7a4_36 (by decide) ?_
  refine lv_iushr hx hb dJ6_bitCount_0f7a4_38 rfl ?_
  refine lv_topi (fun v_11 ev_11 => ?_)
  refine lv_iadd hx hb dJ6_bitCount_0f7a4_39 ?_
  refine lv_topi (fun v_12 ev_12 => ?_)
  refine lv_istore_n (lv' := [(0, .int v_12)]) hx hb dJ6_bitCount_0f7a4_40 rfl hl (by decide) rfl (fun ls hl => ?_)
  refine lv_iload_n hx hb dJ6_bitCount_0f7a4_41 rfl (lv_at hl 0 rfl) ?_
  refine lv_iload_n hx hb dJ6_bitCount_0f7a4_42 rfl (lv_at hl 0 rfl) ?_
  refine lv_bipush (v := 16) hx hb dJ6_bitCount_0f7a4_43 (by decide) ?_
  refine lv_iushr hx hb dJ6_bitCount_0f7a4_45 rfl ?_
  refine lv_topi (fun v_13 ev_13 => ?_)
  refine lv_iadd hx hb dJ6_bitCount_0f7a4_46 ?_
  refine lv_topi (fun v_14 ev_14 => ?_)
  refine lv_istore_n (lv' := [(0, .int v_14)]) hx hb dJ6_bitCount_0f7a4_47 rfl hl (by decide) rfl (fun ls hl => ?_)
  refine lv_iload_n hx hb dJ6_bitCount_0f7a4_48 rfl (lv_at hl 0 rfl) ?_
  refine lv_bipush (v := 63) hx hb dJ6_bitCount_0f7a4_49 (by decide) ?_
  refine lv_iand hx hb dJ6_bitCount_0f7a4_51 ?_
  refine lv_topi (fun v_15 ev_15 => ?_)
  exact sk_iret hx hb hr rfl hlocks hK hP hD hS rfl (Nat.le_of_ble_eq_true rfl) (Nat.le_of_ble_eq_true rfl) dJ6_bitCount_0f7a4_52
theorem dg_X4_forget_0_0 : bqL cX4_forget 0 [(0, [42]), (1, [3]), (2, [181, 0, 17]), (5, [177])] = true := by decide +kernel
theorem dX4_forget_0 : decode cX4_forget 0 = .ok (.aload_n 0, 1) := q_aload_n0 (bat_get dg_X4_forget_0_0 0 rfl rfl)
theorem dX4_forget_1 : decode cX4_forget 1 = .ok (.iconst 0, 1) := q_iconst0 (bat_get dg_X4_forget_0_0 1 rfl rfl)
theorem dX4_forget_2 : decode cX4_forget 2 = .ok (.putfield 17, 3) := q_putfield (bat_get dg_X4_forget_0_0 2 rfl rfl) rfl
theorem dX4_forget_5 : decode cX4_forget 5 = .ok (.return_, 1) := q_return_ (bat_get dg_X4_forget_0_0 3 rfl rfl)
theorem w_2_41 : (Cond.fieldLink RX4 17 "SameKeeper$Past" "acts" "I") ∈ wsL_law := sk_mem (ck_2 _ (List.mem_of_getElem? (i := 41) rfl)) rfl
theorem w_3_158 : (Cond.code yX4_forget cX4_forget 1 none) ∈ wsL_law := sk_mem (ck_3 _ (List.mem_of_getElem? (i := 158) rfl)) rfl
set_option maxHeartbeats 4000000 in
set_option maxRecDepth 100000 in
theorem c_past_forget (l : Launch) (D : va_G) (cI cJ cC cZ cS : ClassId) (q : Nat → Nat) (ac : Nat)  : skM l yX4_forget cX4_forget 1 none 0 0 0 0 D (skT cI cJ cC cZ cS) [.ref (q 9)] [(q 9, .inr (4, [.ref (q 35), .int (nI ac), .ref (q 36), .ref (q 37), .ref (q 38)]))] (skV D (skT cI cJ cC cZ cS) (fun (u : va_W) => u = [(q 9, .inr (4, [.ref (q 35), .int 0, .ref (q 36), .ref (q 37), .ref (q 38)]))])) := by
  refine skM_of pf_X4_forget (Nat.le_of_ble_eq_true rfl) ?_
  intro p e s m below meth c A ls E hP hD hl
  refine skE_el E (fun hx hb hr hml hlocks hin hown hts hK hA => ?_)
  have hown : s.vm.findClass RX4 = some m.cls := hown
  have hS : va_S A s.heap s.heap [] := va_S.rf
  have hl : lv_has ls 1 [(0, .ref (q 9))] := hl
  refine lv_aload_n hx hb dX4_forget_0 rfl (lv_at hl 0 rfl) ?_
  refine lv_iconst (v := 0) hx hb dX4_forget_1 ic_0 ?_
  refine sk_put (ws' := [(q 9, .inr (4, [.ref (q 35), .int 0, .ref (q 36), .ref (q 37), .ref (q 38)]))]) (C := RX4) (T := TX4) (N := 5) (v := .int 0) hx hb hts inlX4 tyX4 tyX4_ok nmX4 hown hK hP hD hS 0 rfl rfl 1 (Nat.le_of_ble_eq_true rfl) w_2_41 rfl rfl rfl (Nat.le_of_ble_eq_true rfl) rfl dX4_forget_2 (fun H locs hP hD hS => ?_)
  exact sk_vret hx hb hr hlocks hK hP hD hS rfl (Nat.le_of_ble_eq_true rfl) (Nat.le_of_ble_eq_true rfl) dX4_forget_5
theorem dg_X11_isAtRest_0_0 : bqL cX11_isAtRest 0 [(0, [42]), (1, [180, 0, 85]), (4, [42]), (5, [180, 0, 89]), (8, [182, 1, 29]), (11, [3]), (12, [61]), (13, [28]), (14, [42]), (15, [180, 0, 59]), (18, [180, 0, 144]), (21, [162, 0, 108]), (129, [4]), (130, [172]), (24, [42]), (25, [180, 0, 59]), (28, [28]), (29, [182, 0, 179]), (32, [153, 0, 6]), (38, [42]), (39, [180, 0, 85]), (42, [42]), (43, [180, 0, 59]), (46, [27]), (47, [4]), (48, [28]), (49, [120]), (50, [130]), (51, [3]), (52, [182, 0, 230]), (55, [42]), (56, [180, 0, 85]), (59, [182, 0, 234]), (62, [154, 0, 6]), (68, [42]), (69, [180, 0, 85]), (72, [42]), (73, [180, 0, 93]), (76, [182, 1, 29]), (79, [42])] = true := by decide +kernel
theorem dX11_isAtRest_0 : decode cX11_isAtRest 0 = .ok (.aload_n 0, 1) := q_aload_n0 (bat_get dg_X11_isAtRest_0_0 0 rfl rfl)
theorem dX11_isAtRest_1 : decode cX11_isAtRest 1 = .ok (.getfield 85, 3) := q_getfield (bat_get dg_X11_isAtRest_0_0 1 rfl rfl) rfl
theorem dX11_isAtRest_4 : decode cX11_isAtRest 4 = .ok (.aload_n 0, 1) := q_aload_n0 (bat_get dg_X11_isAtRest_0_0 2 rfl rfl)
theorem dX11_isAtRest_5 : decode cX11_isAtRest 5 = .ok (.getfield 89, 3) := q_getfield (bat_get dg_X11_isAtRest_0_0 3 rfl rfl) rfl
theorem dX11_isAtRest_8 : decode cX11_isAtRest 8 = .ok (.invokevirtual 285, 3) := q_invokevirtual (bat_get dg_X11_isAtRest_0_0 4 rfl rfl) rfl
theorem dX11_isAtRest_11 : decode cX11_isAtRest 11 = .ok (.iconst 0, 1) := q_iconst0 (bat_get dg_X11_isAtRest_0_0 5 rfl rfl)
theorem dX11_isAtRest_12 : decode cX11_isAtRest 12 = .ok (.istore_n 2, 1) := q_istore_n2 (bat_get dg_X11_isAtRest_0_0 6 rfl rfl)
theorem dX11_isAtRest_13 : decode cX11_isAtRest 13 = .ok (.iload_n 2, 1) := q_iload_n2 (bat_get dg_X11_isAtRest_0_0 7 rfl rfl)
theorem dX11_isAtRest_14 : decode cX11_isAtRest 14 = .ok (.aload_n 0, 1) := q_aload_n0 (bat_get dg_X11_isAtRest_0_0 8 rfl rfl)
theorem dX11_isAtRest_15 : decode cX11_isAtRest 15 = .ok (.getfield 59, 3) := q_getfield (bat_get dg_X11_isAtRest_0_0 9 rfl rfl) rfl
theorem dX11_isAtRest_18 : decode cX11_isAtRest 18 = .ok (.getfield 144, 3) := q_getfield (bat_get dg_X11_isAtRest_0_0 10 rfl rfl) rfl
theorem dX11_isAtRest_21 : decode cX11_isAtRest 21 = .ok (.if_icmp .ge 108, 3) := q_if_icmp_ge (bat_get dg_X11_isAtRest_0_0 11 rfl rfl) rfl
theorem dX11_isAtRest_129 : decode cX11_isAtRest 129 = .ok (.iconst 1, 1) := q_iconst1 (bat_get dg_X11_isAtRest_0_0 12 rfl rfl)
theorem dX11_isAtRest_130 : decode cX11_isAtRest 130 = .ok (.ireturn, 1) := q_ireturn (bat_get dg_X11_isAtRest_0_0 13 rfl rfl)
theorem dX11_isAtRest_24 : decode cX11_isAtRest 24 = .ok (.aload_n 0, 1) := q_aload_n0 (bat_get dg_X11_isAtRest_0_0 14 rfl rfl)
theorem dX11_isAtRest_25 : decode cX11_isAtRest 25 = .ok (.getfield 59, 3) := q_getfield (bat_get dg_X11_isAtRest_0_0 15 rfl rfl) rfl
theorem dX11_isAtRest_28 : decode cX11_isAtRest 28 = .ok (.iload_n 2, 1) := q_iload_n2 (bat_get dg_X11_isAtRest_0_0 16 rfl rfl)
theorem dX11_isAtRest_29 : decode cX11_isAtRest 29 = .ok (.invokevirtual 179, 3) := q_invokevirtual (bat_get dg_X11_isAtRest_0_0 17 rfl rfl) rfl
theorem dX11_isAtRest_32 : decode cX11_isAtRest 32 = .ok (.ifCond .eq 6, 3) := q_ifCond_eq (bat_get dg_X11_isAtRest_0_0 18 rfl rfl) rfl
theorem dX11_isAtRest_38 : decode cX11_isAtRest 38 = .ok (.aload_n 0, 1) := q_aload_n0 (bat_get dg_X11_isAtRest_0_0 19 rfl rfl)
theorem dX11_isAtRest_39 : decode cX11_isAtRest 39 = .ok (.getfield 85, 3) := q_getfield (bat_get dg_X11_isAtRest_0_0 20 rfl rfl) rfl
theorem dX11_isAtRest_42 : decode cX11_isAtRest 42 = .ok (.aload_n 0, 1) := q_aload_n0 (bat_get dg_X11_isAtRest_0_0 21 rfl rfl)
theorem dX11_isAtRest_43 : decode cX11_isAtRest 43 = .ok (.getfield 59, 3) := q_getfield (bat_get dg_X11_isAtRest_0_0 22 rfl rfl) rfl
theorem dX11_isAtRest_46 : decode cX11_isAtRest 46 = .ok (.iload_n 1, 1) := q_iload_n1 (bat_get dg_X11_isAtRest_0_0 23 rfl rfl)
theorem dX11_isAtRest_47 : decode cX11_isAtRest 47 = .ok (.iconst 1, 1) := q_iconst1 (bat_get dg_X11_isAtRest_0_0 24 rfl rfl)
theorem dX11_isAtRest_48 : decode cX11_isAtRest 48 = .ok (.iload_n 2, 1) := q_iload_n2 (bat_get dg_X11_isAtRest_0_0 25 rfl rfl)
theorem dX11_isAtRest_49 : decode cX11_isAtRest 49 = .ok (.ishl, 1) := q_ishl (bat_get dg_X11_isAtRest_0_0 26 rfl rfl)
theorem dX11_isAtRest_50 : decode cX11_isAtRest 50 = .ok (.ixor, 1) := q_ixor (bat_get dg_X11_isAtRest_0_0 27 rfl rfl)
theorem dX11_isAtRest_51 : decode cX11_isAtRest 51 = .ok (.iconst 0, 1) := q_iconst0 (bat_get dg_X11_isAtRest_0_0 28 rfl rfl)
theorem dX11_isAtRest_52 : decode cX11_isAtRest 52 = .ok (.invokevirtual 230, 3) := q_invokevirtual (bat_get dg_X11_isAtRest_0_0 29 rfl rfl) rfl
theorem dX11_isAtRest_55 : decode cX11_isAtRest 55 = .ok (.aload_n 0, 1) := q_aload_n0 (bat_get dg_X11_isAtRest_0_0 30 rfl rfl)
theorem dX11_isAtRest_56 : decode cX11_isAtRest 56 = .ok (.getfield 85, 3) := q_getfield (bat_get dg_X11_isAtRest_0_0 31 rfl rfl) rfl
theorem dX11_isAtRest_59 : decode cX11_isAtRest 59 = .ok (.invokevirtual 234, 3) := q_invokevirtual (bat_get dg_X11_isAtRest_0_0 32 rfl rfl) rfl
theorem dX11_isAtRest_62 : decode cX11_isAtRest 62 = .ok (.ifCond .ne 6, 3) := q_ifCond_ne (bat_get dg_X11_isAtRest_0_0 33 rfl rfl) rfl
theorem dX11_isAtRest_68 : decode cX11_isAtRest 68 = .ok (.aload_n 0, 1) := q_aload_n0 (bat_get dg_X11_isAtRest_0_0 34 rfl rfl)
theorem dX11_isAtRest_69 : decode cX11_isAtRest 69 = .ok (.getfield 85, 3) := q_getfield (bat_get dg_X11_isAtRest_0_0 35 rfl rfl) rfl
theorem dX11_isAtRest_72 : decode cX11_isAtRest 72 = .ok (.aload_n 0, 1) := q_aload_n0 (bat_get dg_X11_isAtRest_0_0 36 rfl rfl)
theorem dX11_isAtRest_73 : decode cX11_isAtRest 73 = .ok (.getfield 93, 3) := q_getfield (bat_get dg_X11_isAtRest_0_0 37 rfl rfl) rfl
theorem dX11_isAtRest_76 : decode cX11_isAtRest 76 = .ok (.invokevirtual 285, 3) := q_invokevirtual (bat_get dg_X11_isAtRest_0_0 38 rfl rfl) rfl
theorem dX11_isAtRest_79 : decode cX11_isAtRest 79 = .ok (.aload_n 0, 1) := q_aload_n0 (bat_get dg_X11_isAtRest_0_0 39 rfl rfl)
theorem dg_X11_isAtRest_35_80 : bqL cX11_isAtRest 35 [(45, [180, 0, 76]), (48, [180, 1, 81]), (51, [28]), (52, [16, 10]), (54, [104]), (55, [42]), (56, [180, 0, 93]), (59, [28]), (60, [46]), (61, [96]), (62, [47]), (63, [42]), (64, [180, 0, 76]), (67, [180, 1, 81]), (70, [28]), (71, [16, 10]), (73, [104]), (74, [42]), (75, [180, 0, 89]), (78, [28]), (79, [46]), (80, [96]), (81, [47]), (82, [148]), (83, [158, 0, 5]), (88, [132, 2, 1]), (91, [167, 255, 143]), (86, [3]), (87, [172]), (30, [167, 0, 58]), (0, [167, 0, 88])] = true := by decide +kernel
theorem dX11_isAtRest_80 : decode cX11_isAtRest 80 = .ok (.getfield 76, 3) := q_getfield (bat_get dg_X11_isAtRest_35_80 0 rfl rfl) rfl
theorem dX11_isAtRest_83 : decode cX11_isAtRest 83 = .ok (.getfield 337, 3) := q_getfield (bat_get dg_X11_isAtRest_35_80 1 rfl rfl) rfl
theorem dX11_isAtRest_86 : decode cX11_isAtRest 86 = .ok (.iload_n 2, 1) := q_iload_n2 (bat_get dg_X11_isAtRest_35_80 2 rfl rfl)
theorem dX11_isAtRest_87 : decode cX11_isAtRest 87 = .ok (.bipush 10, 2) := q_bipush (bat_get dg_X11_isAtRest_35_80 3 rfl rfl) rfl
theorem dX11_isAtRest_89 : decode cX11_isAtRest 89 = .ok (.imul, 1) := q_imul (bat_get dg_X11_isAtRest_35_80 4 rfl rfl)
theorem dX11_isAtRest_90 : decode cX11_isAtRest 90 = .ok (.aload_n 0, 1) := q_aload_n0 (bat_get dg_X11_isAtRest_35_80 5 rfl rfl)
theorem dX11_isAtRest_91 : decode cX11_isAtRest 91 = .ok (.getfield 93, 3) := q_getfield (bat_get dg_X11_isAtRest_35_80 6 rfl rfl) rfl
theorem dX11_isAtRest_94 : decode cX11_isAtRest 94 = .ok (.iload_n 2, 1) := q_iload_n2 (bat_get dg_X11_isAtRest_35_80 7 rfl rfl)
theorem dX11_isAtRest_95 : decode cX11_isAtRest 95 = .ok (.iaload, 1) := q_iaload (bat_get dg_X11_isAtRest_35_80 8 rfl rfl)
theorem dX11_isAtRest_96 : decode cX11_isAtRest 96 = .ok (.iadd, 1) := q_iadd (bat_get dg_X11_isAtRest_35_80 9 rfl rfl)
theorem dX11_isAtRest_97 : decode cX11_isAtRest 97 = .ok (.laload, 1) := q_laload (bat_get dg_X11_isAtRest_35_80 10 rfl rfl)
theorem dX11_isAtRest_98 : decode cX11_isAtRest 98 = .ok (.aload_n 0, 1) := q_aload_n0 (bat_get dg_X11_isAtRest_35_80 11 rfl rfl)
theorem dX11_isAtRest_99 : decode cX11_isAtRest 99 = .ok (.getfield 76, 3) := q_getfield (bat_get dg_X11_isAtRest_35_80 12 rfl rfl) rfl
theorem dX11_isAtRest_102 : decode cX11_isAtRest 102 = .ok (.getfield 337, 3) := q_getfield (bat_get dg_X11_isAtRest_35_80 13 rfl rfl) rfl
theorem dX11_isAtRest_105 : decode cX11_isAtRest 105 = .ok (.iload_n 2, 1) := q_iload_n2 (bat_get dg_X11_isAtRest_35_80 14 rfl rfl)
theorem dX11_isAtRest_106 : decode cX11_isAtRest 106 = .ok (.bipush 10, 2) := q_bipush (bat_get dg_X11_isAtRest_35_80 15 rfl rfl) rfl
theorem dX11_isAtRest_108 : decode cX11_isAtRest 108 = .ok (.imul, 1) := q_imul (bat_get dg_X11_isAtRest_35_80 16 rfl rfl)
theorem dX11_isAtRest_109 : decode cX11_isAtRest 109 = .ok (.aload_n 0, 1) := q_aload_n0 (bat_get dg_X11_isAtRest_35_80 17 rfl rfl)
theorem dX11_isAtRest_110 : decode cX11_isAtRest 110 = .ok (.getfield 89, 3) := q_getfield (bat_get dg_X11_isAtRest_35_80 18 rfl rfl) rfl
theorem dX11_isAtRest_113 : decode cX11_isAtRest 113 = .ok (.iload_n 2, 1) := q_iload_n2 (bat_get dg_X11_isAtRest_35_80 19 rfl rfl)
theorem dX11_isAtRest_114 : decode cX11_isAtRest 114 = .ok (.iaload, 1) := q_iaload (bat_get dg_X11_isAtRest_35_80 20 rfl rfl)
theorem dX11_isAtRest_115 : decode cX11_isAtRest 115 = .ok (.iadd, 1) := q_iadd (bat_get dg_X11_isAtRest_35_80 21 rfl rfl)
theorem dX11_isAtRest_116 : decode cX11_isAtRest 116 = .ok (.laload, 1) := q_laload (bat_get dg_X11_isAtRest_35_80 22 rfl rfl)
theorem dX11_isAtRest_117 : decode cX11_isAtRest 117 = .ok (.lcmp, 1) := q_lcmp (bat_get dg_X11_isAtRest_35_80 23 rfl rfl)
theorem dX11_isAtRest_118 : decode cX11_isAtRest 118 = .ok (.ifCond .le 5, 3) := q_ifCond_le (bat_get dg_X11_isAtRest_35_80 24 rfl rfl) rfl
theorem dX11_isAtRest_123 : decode cX11_isAtRest 123 = .ok (.iinc 2 1, 3) := q_iinc (bat_get dg_X11_isAtRest_35_80 25 rfl rfl) rfl
theorem dX11_isAtRest_126 : decode cX11_isAtRest 126 = .ok (.goto (-113), 3) := q_goto (bat_get dg_X11_isAtRest_35_80 26 rfl rfl) rfl
theorem dX11_isAtRest_121 : decode cX11_isAtRest 121 = .ok (.iconst 0, 1) := q_iconst0 (bat_get dg_X11_isAtRest_35_80 27 rfl rfl)
theorem dX11_isAtRest_122 : decode cX11_isAtRest 122 = .ok (.ireturn, 1) := q_ireturn (bat_get dg_X11_isAtRest_35_80 28 rfl rfl)
theorem dX11_isAtRest_65 : decode cX11_isAtRest 65 = .ok (.goto 58, 3) := q_goto (bat_get dg_X11_isAtRest_35_80 29 rfl rfl) rfl
theorem dX11_isAtRest_35 : decode cX11_isAtRest 35 = .ok (.goto 88, 3) := q_goto (bat_get dg_X11_isAtRest_35_80 30 rfl rfl) rfl
theorem w_2_134 : (Cond.fieldLink RX11 85 "SameKeeper" "graph" "LSameKeeper$Graph;") ∈ wsL_law := sk_mem (ck_2 _ (List.mem_of_getElem? (i := 134) rfl)) rfl
theorem w_2_135 : (Cond.fieldLink RX11 89 "SameKeeper" "row" "[I") ∈ wsL_law := sk_mem (ck_2 _ (List.mem_of_getElem? (i := 135) rfl)) rfl
theorem w_4_112 : (Cond.methodLink RX11 285 yX1_takeFirst) ∈ wsL_law := sk_mem (ck_4 _ (List.mem_of_getElem? (i := 112) rfl)) rfl
theorem w_4_113 : (Cond.instanceMethod yX1_takeFirst) ∈ wsL_law := sk_mem (ck_4 _ (List.mem_of_getElem? (i := 113) rfl)) rfl
theorem w_4_114 : (Cond.selects RX1 yX1_takeFirst yX1_takeFirst) ∈ wsL_law := sk_mem (ck_4 _ (List.mem_of_getElem? (i := 114) rfl)) rfl
theorem w_4_47 : (Cond.methodLink RX11 230 yX1_lay) ∈ wsL_law := sk_mem (ck_4 _ (List.mem_of_getElem? (i := 47) rfl)) rfl
theorem w_4_48 : (Cond.instanceMethod yX1_lay) ∈ wsL_law := sk_mem (ck_4 _ (List.mem_of_getElem? (i := 48) rfl)) rfl
theorem w_4_49 : (Cond.selects RX1 yX1_lay yX1_lay) ∈ wsL_law := sk_mem (ck_4 _ (List.mem_of_getElem? (i := 49) rfl)) rfl
theorem w_4_53 : (Cond.methodLink RX11 234 yX1_settle) ∈ wsL_law := sk_mem (ck_4 _ (List.mem_of_getElem? (i := 53) rfl)) rfl
theorem w_4_54 : (Cond.instanceMethod yX1_settle) ∈ wsL_law := sk_mem (ck_4 _ (List.mem_of_getElem? (i := 54) rfl)) rfl
theorem w_4_55 : (Cond.selects RX1 yX1_settle yX1_settle) ∈ wsL_law := sk_mem (ck_4 _ (List.mem_of_getElem? (i := 55) rfl)) rfl
theorem w_2_136 : (Cond.fieldLink RX11 93 "SameKeeper" "otherRow" "[I") ∈ wsL_law := sk_mem (ck_2 _ (List.mem_of_getElem? (i := 136) rfl)) rfl
theorem w_2_133 : (Cond.fieldLink RX11 76 "SameKeeper" "table" "LSameKeeper$Table;") ∈ wsL_law := sk_mem (ck_2 _ (List.mem_of_getElem? (i := 133) rfl)) rfl
theorem w_2_74 : (Cond.fieldLink RX11 337 "SameKeeper$Table" "wages" "[J") ∈ wsL_law := sk_mem (ck_2 _ (List.mem_of_getElem? (i := 74) rfl)) rfl
theorem w_4_111 : (Cond.code yX11_isAtRest cX11_isAtRest 3 (some .boolean)) ∈ wsL_law := sk_mem (ck_4 _ (List.mem_of_getElem? (i := 111) rfl)) rfl
def om_17_3e : List Bool := false :: false :: false :: false :: false :: false :: false :: false :: false :: false :: false :: true :: true :: true :: true :: true :: false :: []
def om_17_100 : List Bool := false :: false :: false :: false :: false :: false :: false :: false :: true :: false :: false :: false :: false :: false :: false :: false :: false :: []
def om_17_f938 : List Bool := false :: true :: true :: true :: true :: true :: false :: false :: true :: false :: false :: true :: true :: true :: false :: false :: false :: []
def om_17_3c : List Bool := false :: false :: false :: false :: false :: false :: false :: false :: false :: false :: false :: true :: true :: true :: true :: false :: false :: []
def om_17_3d : List Bool := false :: false :: false :: false :: false :: false :: false :: false :: false :: false :: false :: true :: true :: true :: true :: false :: true :: []
theorem hd_X1_takeFirst_1 : skD yX1_takeFirst 1 := by decide +kernel
theorem hd_X1_lay_3 : skD yX1_lay 3 := by decide +kernel
theorem hd_X1_settle_0 : skD yX1_settle 0 := by decide +kernel
set_option maxHeartbeats 4000000 in
set_option maxRecDepth 100000 in
theorem c_x_isAtRest (l : Launch) (D : va_G) (cI cJ cC cZ cS : ClassId) (x0 : Nat) (q : Nat → Nat) (hc : Int32) (dr : Int64) (sa : Nat → Nat) (ft : Nat → Int32) (fa : Nat → Int32) (fo : Nat → Int32) (fg : Nat → Int64) (fk : Nat → Int32) (dy : Nat) (mo : Nat) (wk : Int32) (mu : Int32) (ke : Int32) (fb : Nat → Int32) (fw : Nat → Int32) (gs : Nat) (e1 : Nat → Int32) (e2 : Nat → Int32) (e3 : Nat → Int32) (ra : Nat → Int32) (rc : Nat → Int32) (o : Int32) (hsa : ∀ j, sa j ≤ 9) (hdy : dy ≤ 9) (hmo : mo ≤ 9) (hgs : gs ≤ 9) : skM l yX11_isAtRest cX11_isAtRest 3 (some .boolean) 2 53 0 0 D (skT cI cJ cC cZ cS) [.ref x0, .int o] [(x0, .inr (11, [.ref (q 0), .ref (q 1), .ref (q 2), .ref (q 3), .ref (q 4), .ref (q 5), .ref (q 6), .ref (q 7), .ref (q 8), .ref (q 9), .ref (q 10), .ref (q 11), .ref (q 12), .ref (q 13), .ref (q 14), .int hc, .ref (q 16), .long dr])), (q 10, .inr (9, [.ref (q 61), .ref (q 62), .ref (q 63), .ref (q 64), .ref (q 65), .ref (q 66)])), (q 61, .inl (cI, 90, .inl (fun j => nI (sa j)))), (q 62, .inl (cI, 900, .inl ft)), (q 63, .inl (cI, 90, .inl fa)), (q 64, .inl (cI, 90, .inl fo)), (q 65, .inl (cJ, 90, .inr (.inl fg))), (q 66, .inl (cI, 9, .inl fk)), (q 7, .inr (7, [.ref (q 33), .ref (q 34), .int (nI dy), .int wk, .int (nI mo), .int mu, .int ke])), (q 33, .inl (cI, 9, .inl fb)), (q 34, .inl (cI, 9, .inl fw)), (q 11, .inr (1, [.ref (q 10), .ref (q 67), .ref (q 68), .ref (q 69), .ref (q 70), .ref (q 71), .ref (q 72), .int (nI dy), .int (nI gs)])), (q 67, .inl (cI, 90, .inl e1)), (q 68, .inl (cI, 9, .inl e2)), (q 69, .inl (cI, 10, .inl e3)), (q 12, .inl (cI, 9, .inl ra)), (q 13, .inl (cI, 9, .inl rc))] (skI D (skT cI cJ cC cZ cS) (fun (r : Int32) (u : va_W) => ∃ (gd2 : Nat), ∃ (gs2 : Nat), ∃ (b : Nat), ∃ (g1 : Nat → Int32), ∃ (g2 : Nat → Int32), ∃ (g3 : Nat → Int32), ∃ (ra2 : Nat → Int32), ∃ (rc2 : Nat → Int32), gd2 ≤ 9 ∧ gs2 ≤ 9 ∧ b ≤ 1 ∧ r = nI b ∧ u = [(x0, .inr (11, [.ref (q 0), .ref (q 1), .ref (q 2), .ref (q 3), .ref (q 4), .ref (q 5), .ref (q 6), .ref (q 7), .ref (q 8), .ref (q 9), .ref (q 10), .ref (q 11), .ref (q 12), .ref (q 13), .ref (q 14), .int hc, .ref (q 16), .long dr])), (q 10, .inr (9, [.ref (q 61), .ref (q 62), .ref (q 63), .ref (q 64), .ref (q 65), .ref (q 66)])), (q 61, .inl (cI, 90, .inl (fun j => nI (sa j)))), (q 62, .inl (cI, 900, .inl ft)), (q 63, .inl (cI, 90, .inl fa)), (q 64, .inl (cI, 90, .inl fo)), (q 65, .inl (cJ, 90, .inr (.inl fg))), (q 66, .inl (cI, 9, .inl fk)), (q 7, .inr (7, [.ref (q 33), .ref (q 34), .int (nI dy), .int wk, .int (nI mo), .int mu, .int ke])), (q 33, .inl (cI, 9, .inl fb)), (q 34, .inl (cI, 9, .inl fw)), (q 11, .inr (1, [.ref (q 10), .ref (q 67), .ref (q 68), .ref (q 69), .ref (q 70), .ref (q 71), .ref (q 72), .int (nI gd2), .int (nI gs2)])), (q 67, .inl (cI, 90, .inl g1)), (q 68, .inl (cI, 9, .inl g2)), (q 69, .inl (cI, 10, .inl g3)), (q 12, .inl (cI, 9, .inl ra2)), (q 13, .inl (cI, 9, .inl rc2))])) := by
  refine skM_of pf_X11_isAtRest (Nat.le_of_ble_eq_true rfl) ?_
  intro p e s m below meth c A ls E hP hD hl
  refine skE_el E (fun hx hb hr hml hlocks hin hown hts hK hA => ?_)
  have hown : s.vm.findClass RX11 = some m.cls := hown
  have hS : va_S A s.heap s.heap [] := va_S.rf
  have hl : lv_has ls 3 [(0, .ref x0), (1, .int o)] := hl
  refine lv_aload_n hx hb dX11_isAtRest_0 rfl (lv_at hl 0 rfl) ?_
  refine sk_get (v := .ref (q 11)) (C := RX11) (T := TX11) (N := 18) hx hb hts inlX11 hown hK hP 0 rfl rfl 11 (Nat.le_of_ble_eq_true rfl) w_2_134 rfl dX11_isAtRest_1 ?_
  refine lv_aload_n hx hb dX11_isAtRest_4 rfl (lv_at hl 0 rfl) ?_
  refine sk_get (v := .ref (q 12)) (C := RX11) (T := TX11) (N := 18) hx hb hts inlX11 hown hK hP 0 rfl rfl 12 (Nat.le_of_ble_eq_true rfl) w_2_135 rfl dX11_isAtRest_5 ?_
  refine sk_Vv (q0 := 0) (n := 1) (rest := []) (wr := fmR om_17_3e _) ⟨hx, hb, hml, hown, hts⟩ hl.1 (c_takeFirst l D cI cJ cC cZ cS q dy gs e1 e2 e3 (q 12) ra hdy hgs) w_4_112 w_4_113 w_4_114 w_1_13 w_4_115 hd_X1_takeFirst_1 ⟨⟨(Nat.le_of_ble_eq_true rfl), (Nat.le_of_ble_eq_true rfl)⟩, (Nat.le_of_ble_eq_true rfl), (Nat.le_of_ble_eq_true rfl)⟩ hK hP hD hS hA (fmT om_17_3e 0) (fmF om_17_3e 0) (fm_C1 rfl rfl) (fm_R rfl rfl) (fm_nT om_17_3e 0) (fm_nF om_17_3e 0) (fm_di om_17_3e 0) rfl rfl rfl rfl (Nat.le_of_ble_eq_true rfl) dX11_isAtRest_8 (fun u H locs hw hP hD hS => ?_)
  refine exE hw (fun ra2_1 hw1 => anE hw1 (fun hra2_2 eu_3 => ?_))
  clear hw hw1
  refine o_mgE (ws' := [(x0, .inr (11, [.ref (q 0), .ref (q 1), .ref (q 2), .ref (q 3), .ref (q 4), .ref (q 5), .ref (q 6), .ref (q 7), .ref (q 8), .ref (q 9), .ref (q 10), .ref (q 11), .ref (q 12), .ref (q 13), .ref (q 14), .int hc, .ref (q 16), .long dr])), (q 10, .inr (9, [.ref (q 61), .ref (q 62), .ref (q 63), .ref (q 64), .ref (q 65), .ref (q 66)])), (q 61, .inl (cI, 90, .inl (fun j => nI (sa j)))), (q 62, .inl (cI, 900, .inl ft)), (q 63, .inl (cI, 90, .inl fa)), (q 64, .inl (cI, 90, .inl fo)), (q 65, .inl (cJ, 90, .inr (.inl fg))), (q 66, .inl (cI, 9, .inl fk)), (q 7, .inr (7, [.ref (q 33), .ref (q 34), .int (nI dy), .int wk, .int (nI mo), .int mu, .int ke])), (q 33, .inl (cI, 9, .inl fb)), (q 34, .inl (cI, 9, .inl fw)), (q 11, .inr (1, [.ref (q 10), .ref (q 67), .ref (q 68), .ref (q 69), .ref (q 70), .ref (q 71), .ref (q 72), .int (nI dy), .int (nI gs)])), (q 67, .inl (cI, 90, .inl e1)), (q 68, .inl (cI, 9, .inl e2)), (q 69, .inl (cI, 10, .inl e3)), (q 12, .inl (cI, 9, .inl ra2_1)), (q 13, .inl (cI, 9, .inl rc))]) eu_3 hP hD rfl (fun hP hD => ?_)
  have h12 := hra2_2
  refine lv_iconst (v := 0) hx hb dX11_isAtRest_11 ic_0 ?_
  refine lv_istore_n (lv' := [(2, .int 0), (0, .ref x0), (1, .int o)]) hx hb dX11_isAtRest_12 rfl hl (by decide) rfl (fun ls hl => ?_)
  have lp_4 : ∀ (n_5 : Nat) (i : Nat) (zd : Nat) (zs : Nat) (b1 : Nat → Int32) (b2 : Nat → Int32) (b3 : Nat → Int32) (bc : Nat → Int32) (H : Heap) (locs : List Loc) (ls : Array Slot), dy - i < n_5 → (i ≤ dy) → (zd ≤ 9) → (zs ≤ 9) → va_P D vwCl [(x0, .inr (11, [.ref (q 0), .ref (q 1), .ref (q 2), .ref (q 3), .ref (q 4), .ref (q 5), .ref (q 6), .ref (q 7), .ref (q 8), .ref (q 9), .ref (q 10), .ref (q 11), .ref (q 12), .ref (q 13), .ref (q 14), .int hc, .ref (q 16), .long dr])), (q 10, .inr (9, [.ref (q 61), .ref (q 62), .ref (q 63), .ref (q 64), .ref (q 65), .ref (q 66)])), (q 61, .inl (cI, 90, .inl (fun j => nI (sa j)))), (q 62, .inl (cI, 900, .inl ft)), (q 63, .inl (cI, 90, .inl fa)), (q 64, .inl (cI, 90, .inl fo)), (q 65, .inl (cJ, 90, .inr (.inl fg))), (q 66, .inl (cI, 9, .inl fk)), (q 7, .inr (7, [.ref (q 33), .ref (q 34), .int (nI dy), .int wk, .int (nI mo), .int mu, .int ke])), (q 33, .inl (cI, 9, .inl fb)), (q 34, .inl (cI, 9, .inl fw)), (q 11, .inr (1, [.ref (q 10), .ref (q 67), .ref (q 68), .ref (q 69), .ref (q 70), .ref (q 71), .ref (q 72), .int (nI zd), .int (nI zs)])), (q 67, .inl (cI, 90, .inl b1)), (q 68, .inl (cI, 9, .inl b2)), (q 69, .inl (cI, 10, .inl b3)), (q 12, .inl (cI, 9, .inl ra2_1)), (q 13, .inl (cI, 9, .inl bc))] H → va_D A [(x0, .inr (11, [.ref (q 0), .ref (q 1), .ref (q 2), .ref (q 3), .ref (q 4), .ref (q 5), .ref (q 6), .ref (q 7), .ref (q 8), .ref (q 9), .ref (q 10), .ref (q 11), .ref (q 12), .ref (q 13), .ref (q 14), .int hc, .ref (q 16), .long dr])), (q 10, .inr (9, [.ref (q 61), .ref (q 62), .ref (q 63), .ref (q 64), .ref (q 65), .ref (q 66)])), (q 61, .inl (cI, 90, .inl (fun j => nI (sa j)))), (q 62, .inl (cI, 900, .inl ft)), (q 63, .inl (cI, 90, .inl fa)), (q 64, .inl (cI, 90, .inl fo)), (q 65, .inl (cJ, 90, .inr (.inl fg))), (q 66, .inl (cI, 9, .inl fk)), (q 7, .inr (7, [.ref (q 33), .ref (q 34), .int (nI dy), .int wk, .int (nI mo), .int mu, .int ke])), (q 33, .inl (cI, 9, .inl fb)), (q 34, .inl (cI, 9, .inl fw)), (q 11, .inr (1, [.ref (q 10), .ref (q 67), .ref (q 68), .ref (q 69), .ref (q 70), .ref (q 71), .ref (q 72), .int (nI zd), .int (nI zs)])), (q 67, .inl (cI, 90, .inl b1)), (q 68, .inl (cI, 9, .inl b2)), (q 69, .inl (cI, 10, .inl b3)), (q 12, .inl (cI, 9, .inl ra2_1)), (q 13, .inl (cI, 9, .inl bc))] → va_S A s.heap H locs → lv_has ls 3 [(2, .int (nI i)), (0, .ref x0), (1, .int o)] → W p l e { frames := 2, cells := 0, slots := 0, locals := 53 } s m ([.ref x0, .int o] : List Value).toArray below meth c H locs 0 0 (MQ below (skI D (skT cI cJ cC cZ cS) (fun (r : Int32) (u : va_W) => ∃ (gd2 : Nat), ∃ (gs2 : Nat), ∃ (b : Nat), ∃ (g1 : Nat → Int32), ∃ (g2 : Nat → Int32), ∃ (g3 : Nat → Int32), ∃ (ra2 : Nat → Int32), ∃ (rc2 : Nat → Int32), gd2 ≤ 9 ∧ gs2 ≤ 9 ∧ b ≤ 1 ∧ r = nI b ∧ u = [(x0, .inr (11, [.ref (q 0), .ref (q 1), .ref (q 2), .ref (q 3), .ref (q 4), .ref (q 5), .ref (q 6), .ref (q 7), .ref (q 8), .ref (q 9), .ref (q 10), .ref (q 11), .ref (q 12), .ref (q 13), .ref (q 14), .int hc, .ref (q 16), .long dr])), (q 10, .inr (9, [.ref (q 61), .ref (q 62), .ref (q 63), .ref (q 64), .ref (q 65), .ref (q 66)])), (q 61, .inl (cI, 90, .inl (fun j => nI (sa j)))), (q 62, .inl (cI, 900, .inl ft)), (q 63, .inl (cI, 90, .inl fa)), (q 64, .inl (cI, 90, .inl fo)), (q 65, .inl (cJ, 90, .inr (.inl fg))), (q 66, .inl (cI, 9, .inl fk)), (q 7, .inr (7, [.ref (q 33), .ref (q 34), .int (nI dy), .int wk, .int (nI mo), .int mu, .int ke])), (q 33, .inl (cI, 9, .inl fb)), (q 34, .inl (cI, 9, .inl fw)), (q 11, .inr (1, [.ref (q 10), .ref (q 67), .ref (q 68), .ref (q 69), .ref (q 70), .ref (q 71), .ref (q 72), .int (nI gd2), .int (nI gs2)])), (q 67, .inl (cI, 90, .inl g1)), (q 68, .inl (cI, 9, .inl g2)), (q 69, .inl (cI, 10, .inl g3)), (q 12, .inl (cI, 9, .inl ra2)), (q 13, .inl (cI, 9, .inl rc2))]) A) ([.ref x0, .int o] : List Value).toArray s 0 0 A) (F0 m 13 ls []) := by
    intro n_5
    induction n_5 with
    | zero => intro i zd zs b1 b2 b3 bc H locs ls hm; exact absurd hm (Nat.not_lt_zero _)
    | succ n_5 ih_lp_4 =>
      intro i zd zs b1 b2 b3 bc H locs ls hm hi hzd hzs hP hD hS hl
      refine lv_iload_n hx hb dX11_isAtRest_13 rfl (lv_at hl 0 rfl) ?_
      refine lv_aload_n hx hb dX11_isAtRest_14 rfl (lv_at hl 1 rfl) ?_
      refine sk_get (v := .ref (q 7)) (C := RX11) (T := TX11) (N := 18) hx hb hts inlX11 hown hK hP 0 rfl rfl 7 (Nat.le_of_ble_eq_true rfl) w_2_130 rfl dX11_isAtRest_15 ?_
      refine sk_get (v := .int (nI dy)) (C := RX7) (T := TX7) (N := 7) hx hb hts inlX7 hown hK hP 8 rfl rfl 2 (Nat.le_of_ble_eq_true rfl) w_2_1 rfl dX11_isAtRest_18 ?_
      refine lv_icmp_ge (tgt := 129) hx hb dX11_isAtRest_21 (by decide) (fun c_6 => ?_) (fun c_6 => ?_)
      · have c_6 : dy ≤ i := (nle dy i (by omega) (by omega)).mp c_6
        refine lv_iconst (v := 1) hx hb dX11_isAtRest_129 ic_1 ?_
        exact sk_iret hx hb hr rfl hlocks hK hP hD hS (⟨zd, zs, 1, b1, b2, b3, ra2_1, bc, hzd, hzs, by omega, rfl, rfl⟩) (Nat.le_of_ble_eq_true rfl) (Nat.le_of_ble_eq_true rfl) dX11_isAtRest_130
      · have c_6 : ¬ (dy ≤ i) := fun h => c_6 ((nle dy i (by omega) (by omega)).mpr h)
        refine lv_aload_n hx hb dX11_isAtRest_24 rfl (lv_at hl 1 rfl) ?_
        refine sk_get (v := .ref (q 7)) (C := RX11) (T := TX11) (N := 18) hx hb hts inlX11 hown hK hP 0 rfl rfl 7 (Nat.le_of_ble_eq_true rfl) w_2_130 rfl dX11_isAtRest_25 ?_
        refine lv_iload_n hx hb dX11_isAtRest_28 rfl (lv_at hl 0 rfl) ?_
        refine sk_Vi (q0 := 0) (n := 1) (rest := []) (wr := fmR om_17_100 _) ⟨hx, hb, hml, hown, hts⟩ hl.1 (c_State_isMute l D cI cJ cC cZ cS (q 7) (q 33) (q 34) dy mo wk mu ke (nI i)) w_3_194 w_3_195 w_3_196 w_1_10 w_3_197 hd_X7_isMute_1 ⟨⟨(Nat.le_of_ble_eq_true rfl), (Nat.le_of_ble_eq_true rfl)⟩, (Nat.le_of_ble_eq_true rfl), (Nat.le_of_ble_eq_true rfl)⟩ hK hP hD hS hA (fmT om_17_100 0) (fmF om_17_100 0) (fm_C1 rfl rfl) (fm_R rfl rfl) (fm_nT om_17_100 0) (fm_nF om_17_100 0) (fm_di om_17_100 0) rfl rfl rfl rfl (Nat.le_of_ble_eq_true rfl) dX11_isAtRest_29 (fun r_8 u H locs hw hP hD hS => ?_)
        refine exE hw (fun b_7 hw1 => anE hw1 (fun hb1_9 hw2 => anE hw2 (fun er_11 eu_10 => ?_)))
        clear hw hw1 hw2
        subst er_11
        refine o_mgE (ws' := [(x0, .inr (11, [.ref (q 0), .ref (q 1), .ref (q 2), .ref (q 3), .ref (q 4), .ref (q 5), .ref (q 6), .ref (q 7), .ref (q 8), .ref (q 9), .ref (q 10), .ref (q 11), .ref (q 12), .ref (q 13), .ref (q 14), .int hc, .ref (q 16), .long dr])), (q 10, .inr (9, [.ref (q 61), .ref (q 62), .ref (q 63), .ref (q 64), .ref (q 65), .ref (q 66)])), (q 61, .inl (cI, 90, .inl (fun j => nI (sa j)))), (q 62, .inl (cI, 900, .inl ft)), (q 63, .inl (cI, 90, .inl fa)), (q 64, .inl (cI, 90, .inl fo)), (q 65, .inl (cJ, 90, .inr (.inl fg))), (q 66, .inl (cI, 9, .inl fk)), (q 7, .inr (7, [.ref (q 33), .ref (q 34), .int (nI dy), .int wk, .int (nI mo), .int mu, .int ke])), (q 33, .inl (cI, 9, .inl fb)), (q 34, .inl (cI, 9, .inl fw)), (q 11, .inr (1, [.ref (q 10), .ref (q 67), .ref (q 68), .ref (q 69), .ref (q 70), .ref (q 71), .ref (q 72), .int (nI zd), .int (nI zs)])), (q 67, .inl (cI, 90, .inl b1)), (q 68, .inl (cI, 9, .inl b2)), (q 69, .inl (cI, 10, .inl b3)), (q 12, .inl (cI, 9, .inl ra2_1)), (q 13, .inl (cI, 9, .inl bc))]) eu_10 hP hD rfl (fun hP hD => ?_)
        refine lv_if_eq (tgt := 38) hx hb dX11_isAtRest_32 (by decide) (fun c_12 => ?_) (fun c_12 => ?_)
        · have c_12 : b_7 = 0 := (neq b_7 0 (by omega) (Nat.le_of_ble_eq_true rfl)).mp c_12
          refine lv_aload_n hx hb dX11_isAtRest_38 rfl (lv_at hl 1 rfl) ?_
          refine sk_get (v := .ref (q 11)) (C := RX11) (T := TX11) (N := 18) hx hb hts inlX11 hown hK hP 0 rfl rfl 11 (Nat.le_of_ble_eq_true rfl) w_2_134 rfl dX11_isAtRest_39 ?_
          refine lv_aload_n hx hb dX11_isAtRest_42 rfl (lv_at hl 1 rfl) ?_
          refine sk_get (v := .ref (q 7)) (C := RX11) (T := TX11) (N := 18) hx hb hts inlX11 hown hK hP 0 rfl rfl 7 (Nat.le_of_ble_eq_true rfl) w_2_130 rfl dX11_isAtRest_43 ?_
          refine lv_iload_n hx hb dX11_isAtRest_46 rfl (lv_at hl 2 rfl) ?_
          refine lv_iconst (v := 1) hx hb dX11_isAtRest_47 ic_1 ?_
          refine lv_iload_n hx hb dX11_isAtRest_48 rfl (lv_at hl 0 rfl) ?_
          refine lv_ishl hx hb dX11_isAtRest_49 ?_
          refine lv_topi (fun v_13 ev_13 => ?_)
          refine lv_ixor hx hb dX11_isAtRest_50 ?_
          refine lv_topi (fun v_14 ev_14 => ?_)
          refine lv_iconst (v := 0) hx hb dX11_isAtRest_51 ic_0 ?_
          refine sk_Vv (q0 := 0) (n := 3) (rest := []) (wr := fmR om_17_f938 _) ⟨hx, hb, hml, hown, hts⟩ hl.1 (c_lay l D cI cJ cC cZ cS q zd zs b1 b2 sa ft fa fo (q 7) (q 33) (q 34) dy mo wk mu ke fb fw 0 v_14 hsa hdy hmo (by omega)) w_4_47 w_4_48 w_4_49 w_1_13 w_4_50 hd_X1_lay_3 ⟨⟨(Nat.le_of_ble_eq_true rfl), (Nat.le_of_ble_eq_true rfl)⟩, (Nat.le_of_ble_eq_true rfl), (Nat.le_of_ble_eq_true rfl)⟩ hK hP hD hS hA [11, 12, 13, 1, 2, 3, 4, 5, 8] (fmF om_17_f938 0) rfl (fm_R rfl rfl) (by decide +kernel) (fm_nF om_17_f938 0) (by decide +kernel) rfl rfl rfl rfl (Nat.le_of_ble_eq_true rfl) dX11_isAtRest_52 (fun u H locs hw hP hD hS => ?_)
          refine exE hw (fun g1_15 hw1 => exE hw1 (fun g2_16 eu_17 => ?_))
          clear hw hw1
          refine o_mgqE (ux := [(q 10, .inr (9, [.ref (q 61), .ref (q 62), .ref (q 63), .ref (q 64), .ref (q 65), .ref (q 66)])), (q 61, .inl (cI, 90, .inl (fun j => nI (sa j)))), (q 62, .inl (cI, 900, .inl ft)), (q 63, .inl (cI, 90, .inl fa)), (q 64, .inl (cI, 90, .inl fo)), (q 7, .inr (7, [.ref (q 33), .ref (q 34), .int (nI dy), .int wk, .int (nI mo), .int mu, .int ke])), (q 11, .inr (1, [.ref (q 10), .ref (q 67), .ref (q 68), .ref (q 69), .ref (q 70), .ref (q 71), .ref (q 72), .int (nI dy), .int (nI mo)])), (q 67, .inl (cI, 90, .inl g1_15)), (q 68, .inl (cI, 9, .inl g2_16))]) (ws' := [(x0, .inr (11, [.ref (q 0), .ref (q 1), .ref (q 2), .ref (q 3), .ref (q 4), .ref (q 5), .ref (q 6), .ref (q 7), .ref (q 8), .ref (q 9), .ref (q 10), .ref (q 11), .ref (q 12), .ref (q 13), .ref (q 14), .int hc, .ref (q 16), .long dr])), (q 10, .inr (9, [.ref (q 61), .ref (q 62), .ref (q 63), .ref (q 64), .ref (q 65), .ref (q 66)])), (q 61, .inl (cI, 90, .inl (fun j => nI (sa j)))), (q 62, .inl (cI, 900, .inl ft)), (q 63, .inl (cI, 90, .inl fa)), (q 64, .inl (cI, 90, .inl fo)), (q 65, .inl (cJ, 90, .inr (.inl fg))), (q 66, .inl (cI, 9, .inl fk)), (q 7, .inr (7, [.ref (q 33), .ref (q 34), .int (nI dy), .int wk, .int (nI mo), .int mu, .int ke])), (q 33, .inl (cI, 9, .inl fb)), (q 34, .inl (cI, 9, .inl fw)), (q 11, .inr (1, [.ref (q 10), .ref (q 67), .ref (q 68), .ref (q 69), .ref (q 70), .ref (q 71), .ref (q 72), .int (nI dy), .int (nI mo)])), (q 67, .inl (cI, 90, .inl g1_15)), (q 68, .inl (cI, 9, .inl g2_16)), (q 69, .inl (cI, 10, .inl b3)), (q 12, .inl (cI, 9, .inl ra2_1)), (q 13, .inl (cI, 9, .inl bc))]) eu_17 [3, 4, 5, 6, 7, 8, 0, 1, 2] (by decide +kernel) rfl hP hD rfl (fun hP hD => ?_)
          refine lv_aload_n hx hb dX11_isAtRest_55 rfl (lv_at hl 1 rfl) ?_
          refine sk_get (v := .ref (q 11)) (C := RX11) (T := TX11) (N := 18) hx hb hts inlX11 hown hK hP 0 rfl rfl 11 (Nat.le_of_ble_eq_true rfl) w_2_134 rfl dX11_isAtRest_56 ?_
          refine sk_Vi (q0 := 0) (n := 0) (rest := []) (wr := fmR om_17_3c _) ⟨hx, hb, hml, hown, hts⟩ hl.1 (c_settle l D cI cJ cC cZ cS q dy mo g1_15 g2_16 b3 hdy hmo) w_4_53 w_4_54 w_4_55 w_1_13 w_4_56 hd_X1_settle_0 ⟨⟨(Nat.le_of_ble_eq_true rfl), (Nat.le_of_ble_eq_true rfl)⟩, (Nat.le_of_ble_eq_true rfl), (Nat.le_of_ble_eq_true rfl)⟩ hK hP hD hS hA (fmT om_17_3c 0) (fmF om_17_3c 0) (fm_C1 rfl rfl) (fm_R rfl rfl) (fm_nT om_17_3c 0) (fm_nF om_17_3c 0) (fm_di om_17_3c 0) rfl rfl rfl rfl (Nat.le_of_ble_eq_true rfl) dX11_isAtRest_59 (fun r_20 u H locs hw hP hD hS => ?_)
          refine exE hw (fun b_18 hw1 => exE hw1 (fun g3_19 hw2 => anE hw2 (fun hb1_21 hw3 => anE hw3 (fun er_23 eu_22 => ?_))))
          clear hw hw1 hw2 hw3
          subst er_23
          refine o_mgE (ws' := [(x0, .inr (11, [.ref (q 0), .ref (q 1), .ref (q 2), .ref (q 3), .ref (q 4), .ref (q 5), .ref (q 6), .ref (q 7), .ref (q 8), .ref (q 9), .ref (q 10), .ref (q 11), .ref (q 12), .ref (q 13), .ref (q 14), .int hc, .ref (q 16), .long dr])), (q 10, .inr (9, [.ref (q 61), .ref (q 62), .ref (q 63), .ref (q 64), .ref (q 65), .ref (q 66)])), (q 61, .inl (cI, 90, .inl (fun j => nI (sa j)))), (q 62, .inl (cI, 900, .inl ft)), (q 63, .inl (cI, 90, .inl fa)), (q 64, .inl (cI, 90, .inl fo)), (q 65, .inl (cJ, 90, .inr (.inl fg))), (q 66, .inl (cI, 9, .inl fk)), (q 7, .inr (7, [.ref (q 33), .ref (q 34), .int (nI dy), .int wk, .int (nI mo), .int mu, .int ke])), (q 33, .inl (cI, 9, .inl fb)), (q 34, .inl (cI, 9, .inl fw)), (q 11, .inr (1, [.ref (q 10), .ref (q 67), .ref (q 68), .ref (q 69), .ref (q 70), .ref (q 71), .ref (q 72), .int (nI dy), .int (nI mo)])), (q 67, .inl (cI, 90, .inl g1_15)), (q 68, .inl (cI, 9, .inl g2_16)), (q 69, .inl (cI, 10, .inl g3_19)), (q 12, .inl (cI, 9, .inl ra2_1)), (q 13, .inl (cI, 9, .inl bc))]) eu_22 hP hD rfl (fun hP hD => ?_)
          refine lv_if_ne (tgt := 68) hx hb dX11_isAtRest_62 (by decide) (fun c_24 => ?_) (fun c_24 => ?_)
          · have c_24 : ¬ (b_18 = 0) := fun h => c_24 ((neq b_18 0 (by omega) (Nat.le_of_ble_eq_true rfl)).mpr h)
            refine lv_aload_n hx hb dX11_isAtRest_68 rfl (lv_at hl 1 rfl) ?_
            refine sk_get (v := .ref (q 11)) (C := RX11) (T := TX11) (N := 18) hx hb hts inlX11 hown hK hP 0 rfl rfl 11 (Nat.le_of_ble_eq_true rfl) w_2_134 rfl dX11_isAtRest_69 ?_
            refine lv_aload_n hx hb dX11_isAtRest_72 rfl (lv_at hl 1 rfl) ?_
            refine sk_get (v := .ref (q 13)) (C := RX11) (T := TX11) (N := 18) hx hb hts inlX11 hown hK hP 0 rfl rfl 13 (Nat.le_of_ble_eq_true rfl) w_2_136 rfl dX11_isAtRest_73 ?_
            refine sk_Vv (q0 := 0) (n := 1) (rest := []) (wr := fmR om_17_3d _) ⟨hx, hb, hml, hown, hts⟩ hl.1 (c_takeFirst l D cI cJ cC cZ cS q dy mo g1_15 g2_16 g3_19 (q 13) bc hdy hmo) w_4_112 w_4_113 w_4_114 w_1_13 w_4_115 hd_X1_takeFirst_1 ⟨⟨(Nat.le_of_ble_eq_true rfl), (Nat.le_of_ble_eq_true rfl)⟩, (Nat.le_of_ble_eq_true rfl), (Nat.le_of_ble_eq_true rfl)⟩ hK hP hD hS hA (fmT om_17_3d 0) (fmF om_17_3d 0) (fm_C1 rfl rfl) (fm_R rfl rfl) (fm_nT om_17_3d 0) (fm_nF om_17_3d 0) (fm_di om_17_3d 0) rfl rfl rfl rfl (Nat.le_of_ble_eq_true rfl) dX11_isAtRest_76 (fun u H locs hw hP hD hS => ?_)
            refine exE hw (fun ra2_25 hw1 => anE hw1 (fun hra2_26 eu_27 => ?_))
            clear hw hw1
            refine o_mgE (ws' := [(x0, .inr (11, [.ref (q 0), .ref (q 1), .ref (q 2), .ref (q 3), .ref (q 4), .ref (q 5), .ref (q 6), .ref (q 7), .ref (q 8), .ref (q 9), .ref (q 10), .ref (q 11), .ref (q 12), .ref (q 13), .ref (q 14), .int hc, .ref (q 16), .long dr])), (q 10, .inr (9, [.ref (q 61), .ref (q 62), .ref (q 63), .ref (q 64), .ref (q 65), .ref (q 66)])), (q 61, .inl (cI, 90, .inl (fun j => nI (sa j)))), (q 62, .inl (cI, 900, .inl ft)), (q 63, .inl (cI, 90, .inl fa)), (q 64, .inl (cI, 90, .inl fo)), (q 65, .inl (cJ, 90, .inr (.inl fg))), (q 66, .inl (cI, 9, .inl fk)), (q 7, .inr (7, [.ref (q 33), .ref (q 34), .int (nI dy), .int wk, .int (nI mo), .int mu, .int ke])), (q 33, .inl (cI, 9, .inl fb)), (q 34, .inl (cI, 9, .inl fw)), (q 11, .inr (1, [.ref (q 10), .ref (q 67), .ref (q 68), .ref (q 69), .ref (q 70), .ref (q 71), .ref (q 72), .int (nI dy), .int (nI mo)])), (q 67, .inl (cI, 90, .inl g1_15)), (q 68, .inl (cI, 9, .inl g2_16)), (q 69, .inl (cI, 10, .inl g3_19)), (q 12, .inl (cI, 9, .inl ra2_1)), (q 13, .inl (cI, 9, .inl ra2_25))]) eu_27 hP hD rfl (fun hP hD => ?_)
            refine lv_aload_n hx hb dX11_isAtRest_79 rfl (lv_at hl 1 rfl) ?_
            refine sk_get (v := .ref (q 10)) (C := RX11) (T := TX11) (N := 18) hx hb hts inlX11 hown hK hP 0 rfl rfl 10 (Nat.le_of_ble_eq_true rfl) w_2_133 rfl dX11_isAtRest_80 ?_
            refine sk_get (v := .ref (q 65)) (C := RX9) (T := TX9) (N := 6) hx hb hts inlX9 hown hK hP 1 rfl rfl 4 (Nat.le_of_ble_eq_true rfl) w_2_74 rfl dX11_isAtRest_83 ?_
            refine lv_iload_n hx hb dX11_isAtRest_86 rfl (lv_at hl 0 rfl) ?_
            refine lv_bipush (v := 10) hx hb dX11_isAtRest_87 (by decide) ?_
            refine lv_imul hx hb dX11_isAtRest_89 ?_
            refine sk_top (nI (i * 10)) (nmul i 10) ?_
            refine lv_aload_n hx hb dX11_isAtRest_90 rfl (lv_at hl 1 rfl) ?_
            refine sk_get (v := .ref (q 13)) (C := RX11) (T := TX11) (N := 18) hx hb hts inlX11 hown hK hP 0 rfl rfl 13 (Nat.le_of_ble_eq_true rfl) w_2_136 rfl dX11_isAtRest_91 ?_
            refine lv_iload_n hx hb dX11_isAtRest_94 rfl (lv_at hl 0 rfl) ?_
            refine va_iald hx hb hK.1 hP 16 0 rfl rfl (vin i 9 (by omega) (Nat.le_of_ble_eq_true rfl)) dX11_isAtRest_95 ?_
            obtain ⟨k_28, hk_28, ek_28⟩ := rowOk_at (i := i) hra2_26 (by omega) (by omega)
            refine sk_top (nI k_28) ek_28 ?_
            refine lv_iadd hx hb dX11_isAtRest_96 ?_
            refine sk_top (nI (i * 10 + k_28)) (nI_add (i * 10) k_28) ?_
            refine va_lald hx hb hK.1 hP 6 1 rfl rfl (vin (i * 10 + k_28) 90 (by omega) (Nat.le_of_ble_eq_true rfl)) dX11_isAtRest_97 ?_
            refine lv_topl (fun v_29 ev_29 => ?_)
            refine lv_aload_n hx hb dX11_isAtRest_98 rfl (lv_at hl 1 rfl) ?_
            refine sk_get (v := .ref (q 10)) (C := RX11) (T := TX11) (N := 18) hx hb hts inlX11 hown hK hP 0 rfl rfl 10 (Nat.le_of_ble_eq_true rfl) w_2_133 rfl dX11_isAtRest_99 ?_
            refine sk_get (v := .ref (q 65)) (C := RX9) (T := TX9) (N := 6) hx hb hts inlX9 hown hK hP 1 rfl rfl 4 (Nat.le_of_ble_eq_true rfl) w_2_74 rfl dX11_isAtRest_102 ?_
            refine lv_iload_n hx hb dX11_isAtRest_105 rfl (lv_at hl 0 rfl) ?_
            refine lv_bipush (v := 10) hx hb dX11_isAtRest_106 (by decide) ?_
            refine lv_imul hx hb dX11_isAtRest_108 ?_
            refine sk_top (nI (i * 10)) (nmul i 10) ?_
            refine lv_aload_n hx hb dX11_isAtRest_109 rfl (lv_at hl 1 rfl) ?_
            refine sk_get (v := .ref (q 12)) (C := RX11) (T := TX11) (N := 18) hx hb hts inlX11 hown hK hP 0 rfl rfl 12 (Nat.le_of_ble_eq_true rfl) w_2_135 rfl dX11_isAtRest_110 ?_
            refine lv_iload_n hx hb dX11_isAtRest_113 rfl (lv_at hl 0 rfl) ?_
            refine va_iald hx hb hK.1 hP 15 0 rfl rfl (vin i 9 (by omega) (Nat.le_of_ble_eq_true rfl)) dX11_isAtRest_114 ?_
            obtain ⟨k_30, hk_30, ek_30⟩ := rowOk_at (i := i) h12 (by omega) (by omega)
            refine sk_top (nI k_30) ek_30 ?_
            refine lv_iadd hx hb dX11_isAtRest_115 ?_
            refine sk_top (nI (i * 10 + k_30)) (nI_add (i * 10) k_30) ?_
            refine va_lald hx hb hK.1 hP 6 1 rfl rfl (vin (i * 10 + k_30) 90 (by omega) (Nat.le_of_ble_eq_true rfl)) dX11_isAtRest_116 ?_
            refine lv_topl (fun v_31 ev_31 => ?_)
            refine W.lcmp hx hb dX11_isAtRest_117 ?_
            refine lv_if_le (tgt := 123) hx hb dX11_isAtRest_118 (by decide) (fun c_32 => ?_) (fun c_32 => ?_)
            · skip
              refine lv_iinc (v := nI (i + 1)) (lv' := [(2, .int (nI (i + 1))), (0, .ref x0), (1, .int o)]) hx hb dX11_isAtRest_123 hl (k := 0) rfl (ninc i 1 (by decide)) (by decide) rfl (fun ls hl => ?_)
              refine lv_goto (tgt := 13) hx hb dX11_isAtRest_126 (by decide) ?_
              exact ih_lp_4 (i + 1) dy mo g1_15 g2_16 g3_19 ra2_25 _ _ _ (by omega) (by omega) hdy hmo hP hD hS (lv_sub hl [0, 1, 2] rfl)
            · skip
              refine lv_iconst (v := 0) hx hb dX11_isAtRest_121 ic_0 ?_
              exact sk_iret hx hb hr rfl hlocks hK hP hD hS (⟨dy, mo, 0, g1_15, g2_16, g3_19, ra2_1, ra2_25, hdy, hmo, by omega, rfl, rfl⟩) (Nat.le_of_ble_eq_true rfl) (Nat.le_of_ble_eq_true rfl) dX11_isAtRest_122
          · have c_24 : b_18 = 0 := (neq b_18 0 (by omega) (Nat.le_of_ble_eq_true rfl)).mp c_24
            refine lv_goto (tgt := 123) hx hb dX11_isAtRest_65 (by decide) ?_
            refine lv_iinc (v := nI (i + 1)) (lv' := [(2, .int (nI (i + 1))), (0, .ref x0), (1, .int o)]) hx hb dX11_isAtRest_123 hl (k := 0) rfl (ninc i 1 (by decide)) (by decide) rfl (fun ls hl => ?_)
            refine lv_goto (tgt := 13) hx hb dX11_isAtRest_126 (by decide) ?_
            exact ih_lp_4 (i + 1) dy mo g1_15 g2_16 g3_19 bc _ _ _ (by omega) (by omega) hdy hmo hP hD hS (lv_sub hl [0, 1, 2] rfl)
        · have c_12 : ¬ (b_7 = 0) := fun h => c_12 ((neq b_7 0 (by omega) (Nat.le_of_ble_eq_true rfl)).mpr h)
          refine lv_goto (tgt := 123) hx hb dX11_isAtRest_35 (by decide) ?_
          refine lv_iinc (v := nI (i + 1)) (lv' := [(2, .int (nI (i + 1))), (0, .ref x0), (1, .int o)]) hx hb dX11_isAtRest_123 hl (k := 0) rfl (ninc i 1 (by decide)) (by decide) rfl (fun ls hl => ?_)
          refine lv_goto (tgt := 13) hx hb dX11_isAtRest_126 (by decide) ?_
          exact ih_lp_4 (i + 1) zd zs b1 b2 b3 bc _ _ _ (by omega) (by omega) hzd hzs hP hD hS (lv_sub hl [0, 1, 2] rfl)
  exact lp_4 (dy - 0 + 1) 0 dy gs e1 e2 e3 rc _ _ _ (Nat.lt_succ_self _) (by omega) hdy hgs hP hD hS (lv_sub hl [0, 1, 2] rfl)
theorem dX11_serves_26 : decode cX11_serves 26 = .ok (.lookupswitch 53 #[(1, 26), (2, 47)], 26) := by decide +kernel
theorem dg_X11_serves_0_0 : bqL cX11_serves 0 [(0, [42]), (1, [180, 0, 85]), (4, [42]), (5, [180, 0, 59]), (8, [28]), (9, [3]), (10, [182, 0, 230]), (13, [42]), (14, [180, 0, 85]), (17, [182, 0, 234]), (20, [154, 0, 5]), (25, [27]), (52, [42]), (53, [180, 0, 85]), (56, [29]), (57, [182, 1, 6]), (60, [4]), (61, [21, 4]), (63, [120]), (64, [160, 0, 7]), (71, [3]), (72, [172]), (67, [4]), (68, [167, 0, 4]), (73, [42]), (74, [28]), (75, [182, 1, 78]), (78, [172]), (79, [4]), (80, [172]), (23, [3]), (24, [172])] = true := by decide +kernel
theorem dX11_serves_0 : decode cX11_serves 0 = .ok (.aload_n 0, 1) := q_aload_n0 (bat_get dg_X11_serves_0_0 0 rfl rfl)
theorem dX11_serves_1 : decode cX11_serves 1 = .ok (.getfield 85, 3) := q_getfield (bat_get dg_X11_serves_0_0 1 rfl rfl) rfl
theorem dX11_serves_4 : decode cX11_serves 4 = .ok (.aload_n 0, 1) := q_aload_n0 (bat_get dg_X11_serves_0_0 2 rfl rfl)
theorem dX11_serves_5 : decode cX11_serves 5 = .ok (.getfield 59, 3) := q_getfield (bat_get dg_X11_serves_0_0 3 rfl rfl) rfl
theorem dX11_serves_8 : decode cX11_serves 8 = .ok (.iload_n 2, 1) := q_iload_n2 (bat_get dg_X11_serves_0_0 4 rfl rfl)
theorem dX11_serves_9 : decode cX11_serves 9 = .ok (.iconst 0, 1) := q_iconst0 (bat_get dg_X11_serves_0_0 5 rfl rfl)
theorem dX11_serves_10 : decode cX11_serves 10 = .ok (.invokevirtual 230, 3) := q_invokevirtual (bat_get dg_X11_serves_0_0 6 rfl rfl) rfl
theorem dX11_serves_13 : decode cX11_serves 13 = .ok (.aload_n 0, 1) := q_aload_n0 (bat_get dg_X11_serves_0_0 7 rfl rfl)
theorem dX11_serves_14 : decode cX11_serves 14 = .ok (.getfield 85, 3) := q_getfield (bat_get dg_X11_serves_0_0 8 rfl rfl) rfl
theorem dX11_serves_17 : decode cX11_serves 17 = .ok (.invokevirtual 234, 3) := q_invokevirtual (bat_get dg_X11_serves_0_0 9 rfl rfl) rfl
theorem dX11_serves_20 : decode cX11_serves 20 = .ok (.ifCond .ne 5, 3) := q_ifCond_ne (bat_get dg_X11_serves_0_0 10 rfl rfl) rfl
theorem dX11_serves_25 : decode cX11_serves 25 = .ok (.iload_n 1, 1) := q_iload_n1 (bat_get dg_X11_serves_0_0 11 rfl rfl)
theorem dX11_serves_52 : decode cX11_serves 52 = .ok (.aload_n 0, 1) := q_aload_n0 (bat_get dg_X11_serves_0_0 12 rfl rfl)
theorem dX11_serves_53 : decode cX11_serves 53 = .ok (.getfield 85, 3) := q_getfield (bat_get dg_X11_serves_0_0 13 rfl rfl) rfl
theorem dX11_serves_56 : decode cX11_serves 56 = .ok (.iload_n 3, 1) := q_iload_n3 (bat_get dg_X11_serves_0_0 14 rfl rfl)
theorem dX11_serves_57 : decode cX11_serves 57 = .ok (.invokevirtual 262, 3) := q_invokevirtual (bat_get dg_X11_serves_0_0 15 rfl rfl) rfl
theorem dX11_serves_60 : decode cX11_serves 60 = .ok (.iconst 1, 1) := q_iconst1 (bat_get dg_X11_serves_0_0 16 rfl rfl)
theorem dX11_serves_61 : decode cX11_serves 61 = .ok (.iload 4, 2) := q_iload (bat_get dg_X11_serves_0_0 17 rfl rfl)
theorem dX11_serves_63 : decode cX11_serves 63 = .ok (.ishl, 1) := q_ishl (bat_get dg_X11_serves_0_0 18 rfl rfl)
theorem dX11_serves_64 : decode cX11_serves 64 = .ok (.if_icmp .ne 7, 3) := q_if_icmp_ne (bat_get dg_X11_serves_0_0 19 rfl rfl) rfl
theorem dX11_serves_71 : decode cX11_serves 71 = .ok (.iconst 0, 1) := q_iconst0 (bat_get dg_X11_serves_0_0 20 rfl rfl)
theorem dX11_serves_72 : decode cX11_serves 72 = .ok (.ireturn, 1) := q_ireturn (bat_get dg_X11_serves_0_0 21 rfl rfl)
theorem dX11_serves_67 : decode cX11_serves 67 = .ok (.iconst 1, 1) := q_iconst1 (bat_get dg_X11_serves_0_0 22 rfl rfl)
theorem dX11_serves_68 : decode cX11_serves 68 = .ok (.goto 4, 3) := q_goto (bat_get dg_X11_serves_0_0 23 rfl rfl) rfl
theorem dX11_serves_73 : decode cX11_serves 73 = .ok (.aload_n 0, 1) := q_aload_n0 (bat_get dg_X11_serves_0_0 24 rfl rfl)
theorem dX11_serves_74 : decode cX11_serves 74 = .ok (.iload_n 2, 1) := q_iload_n2 (bat_get dg_X11_serves_0_0 25 rfl rfl)
theorem dX11_serves_75 : decode cX11_serves 75 = .ok (.invokevirtual 334, 3) := q_invokevirtual (bat_get dg_X11_serves_0_0 26 rfl rfl) rfl
theorem dX11_serves_78 : decode cX11_serves 78 = .ok (.ireturn, 1) := q_ireturn (bat_get dg_X11_serves_0_0 27 rfl rfl)
theorem dX11_serves_79 : decode cX11_serves 79 = .ok (.iconst 1, 1) := q_iconst1 (bat_get dg_X11_serves_0_0 28 rfl rfl)
theorem dX11_serves_80 : decode cX11_serves 80 = .ok (.ireturn, 1) := q_ireturn (bat_get dg_X11_serves_0_0 29 rfl rfl)
theorem dX11_serves_23 : decode cX11_serves 23 = .ok (.iconst 0, 1) := q_iconst0 (bat_get dg_X11_serves_0_0 30 rfl rfl)
theorem dX11_serves_24 : decode cX11_serves 24 = .ok (.ireturn, 1) := q_ireturn (bat_get dg_X11_serves_0_0 31 rfl rfl)
theorem w_4_104 : (Cond.methodLink RX11 262 yX1_moodsOf) ∈ wsL_law := sk_mem (ck_4 _ (List.mem_of_getElem? (i := 104) rfl)) rfl
theorem w_4_105 : (Cond.instanceMethod yX1_moodsOf) ∈ wsL_law := sk_mem (ck_4 _ (List.mem_of_getElem? (i := 105) rfl)) rfl
theorem w_4_106 : (Cond.selects RX1 yX1_moodsOf yX1_moodsOf) ∈ wsL_law := sk_mem (ck_4 _ (List.mem_of_getElem? (i := 106) rfl)) rfl
theorem w_4_108 : (Cond.methodLink RX11 334 yX11_isAtRest) ∈ wsL_law := sk_mem (ck_4 _ (List.mem_of_getElem? (i := 108) rfl)) rfl
theorem w_4_110 : (Cond.instanceMethod yX11_isAtRest) ∈ wsL_law := sk_mem (ck_4 _ (List.mem_of_getElem? (i := 110) rfl)) rfl
theorem w_0_24 : (Cond.selects RX11 yX11_isAtRest yX11_isAtRest) ∈ wsL_law := sk_mem (ck_0 _ (List.mem_of_getElem? (i := 24) rfl)) rfl
theorem w_4_103 : (Cond.code yX11_serves cX11_serves 5 (some .boolean)) ∈ wsL_law := sk_mem (ck_4 _ (List.mem_of_getElem? (i := 103) rfl)) rfl
def om_17_1ffff : List Bool := true :: true :: true :: true :: true :: true :: true :: true :: true :: true :: true :: true :: true :: true :: true :: true :: true :: []
theorem hd_X1_moodsOf_1 : skD yX1_moodsOf 1 := by decide +kernel
theorem hd_X11_isAtRest_1 : skD yX11_isAtRest 1 := by decide +kernel
set_option maxHeartbeats 4000000 in
set_option maxRecDepth 100000 in
theorem c_x_serves (l : Launch) (D : va_G) (cI cJ cC cZ cS : ClassId) (x0 : Nat) (q : Nat → Nat) (hc : Int32) (dr : Int64) (sa : Nat → Nat) (ft : Nat → Int32) (fa : Nat → Int32) (fo : Nat → Int32) (fg : Nat → Int64) (fk : Nat → Int32) (dy : Nat) (mo : Nat) (wk : Int32) (mu : Int32) (ke : Int32) (fb : Nat → Int32) (fw : Nat → Int32) (gd : Nat) (gs : Nat) (e1 : Nat → Int32) (e2 : Nat → Int32) (e3 : Nat → Int32) (ra : Nat → Int32) (rc : Nat → Int32) (d : Nat) (a1 : Int32) (o : Int32) (w : Int32) (hsa : ∀ j, sa j ≤ 9) (hdy : dy ≤ 9) (hmo : mo ≤ 9) (hgd : gd ≤ 9) (hgs : gs ≤ 9) (hd : d < 9) : skM l yX11_serves cX11_serves 5 (some .boolean) 3 75 0 0 D (skT cI cJ cC cZ cS) [.ref x0, .int a1, .int o, .int (nI d), .int w] [(x0, .inr (11, [.ref (q 0), .ref (q 1), .ref (q 2), .ref (q 3), .ref (q 4), .ref (q 5), .ref (q 6), .ref (q 7), .ref (q 8), .ref (q 9), .ref (q 10), .ref (q 11), .ref (q 12), .ref (q 13), .ref (q 14), .int hc, .ref (q 16), .long dr])), (q 10, .inr (9, [.ref (q 61), .ref (q 62), .ref (q 63), .ref (q 64), .ref (q 65), .ref (q 66)])), (q 61, .inl (cI, 90, .inl (fun j => nI (sa j)))), (q 62, .inl (cI, 900, .inl ft)), (q 63, .inl (cI, 90, .inl fa)), (q 64, .inl (cI, 90, .inl fo)), (q 65, .inl (cJ, 90, .inr (.inl fg))), (q 66, .inl (cI, 9, .inl fk)), (q 7, .inr (7, [.ref (q 33), .ref (q 34), .int (nI dy), .int wk, .int (nI mo), .int mu, .int ke])), (q 33, .inl (cI, 9, .inl fb)), (q 34, .inl (cI, 9, .inl fw)), (q 11, .inr (1, [.ref (q 10), .ref (q 67), .ref (q 68), .ref (q 69), .ref (q 70), .ref (q 71), .ref (q 72), .int (nI gd), .int (nI gs)])), (q 67, .inl (cI, 90, .inl e1)), (q 68, .inl (cI, 9, .inl e2)), (q 69, .inl (cI, 10, .inl e3)), (q 12, .inl (cI, 9, .inl ra)), (q 13, .inl (cI, 9, .inl rc))] (skI D (skT cI cJ cC cZ cS) (fun (r : Int32) (u : va_W) => ∃ (gd2 : Nat), ∃ (gs2 : Nat), ∃ (b : Nat), ∃ (g1 : Nat → Int32), ∃ (g2 : Nat → Int32), ∃ (g3 : Nat → Int32), ∃ (ra2 : Nat → Int32), ∃ (rc2 : Nat → Int32), gd2 ≤ 9 ∧ gs2 ≤ 9 ∧ b ≤ 1 ∧ r = nI b ∧ u = [(x0, .inr (11, [.ref (q 0), .ref (q 1), .ref (q 2), .ref (q 3), .ref (q 4), .ref (q 5), .ref (q 6), .ref (q 7), .ref (q 8), .ref (q 9), .ref (q 10), .ref (q 11), .ref (q 12), .ref (q 13), .ref (q 14), .int hc, .ref (q 16), .long dr])), (q 10, .inr (9, [.ref (q 61), .ref (q 62), .ref (q 63), .ref (q 64), .ref (q 65), .ref (q 66)])), (q 61, .inl (cI, 90, .inl (fun j => nI (sa j)))), (q 62, .inl (cI, 900, .inl ft)), (q 63, .inl (cI, 90, .inl fa)), (q 64, .inl (cI, 90, .inl fo)), (q 65, .inl (cJ, 90, .inr (.inl fg))), (q 66, .inl (cI, 9, .inl fk)), (q 7, .inr (7, [.ref (q 33), .ref (q 34), .int (nI dy), .int wk, .int (nI mo), .int mu, .int ke])), (q 33, .inl (cI, 9, .inl fb)), (q 34, .inl (cI, 9, .inl fw)), (q 11, .inr (1, [.ref (q 10), .ref (q 67), .ref (q 68), .ref (q 69), .ref (q 70), .ref (q 71), .ref (q 72), .int (nI gd2), .int (nI gs2)])), (q 67, .inl (cI, 90, .inl g1)), (q 68, .inl (cI, 9, .inl g2)), (q 69, .inl (cI, 10, .inl g3)), (q 12, .inl (cI, 9, .inl ra2)), (q 13, .inl (cI, 9, .inl rc2))])) := by
  refine skM_of pf_X11_serves (Nat.le_of_ble_eq_true rfl) ?_
  intro p e s m below meth c A ls E hP hD hl
  refine skE_el E (fun hx hb hr hml hlocks hin hown hts hK hA => ?_)
  have hown : s.vm.findClass RX11 = some m.cls := hown
  have hS : va_S A s.heap s.heap [] := va_S.rf
  have hl : lv_has ls 5 [(0, .ref x0), (1, .int a1), (2, .int o), (3, .int (nI d)), (4, .int w)] := hl
  refine lv_aload_n hx hb dX11_serves_0 rfl (lv_at hl 0 rfl) ?_
  refine sk_get (v := .ref (q 11)) (C := RX11) (T := TX11) (N := 18) hx hb hts inlX11 hown hK hP 0 rfl rfl 11 (Nat.le_of_ble_eq_true rfl) w_2_134 rfl dX11_serves_1 ?_
  refine lv_aload_n hx hb dX11_serves_4 rfl (lv_at hl 0 rfl) ?_
  refine sk_get (v := .ref (q 7)) (C := RX11) (T := TX11) (N := 18) hx hb hts inlX11 hown hK hP 0 rfl rfl 7 (Nat.le_of_ble_eq_true rfl) w_2_130 rfl dX11_serves_5 ?_
  refine lv_iload_n hx hb dX11_serves_8 rfl (lv_at hl 2 rfl) ?_
  refine lv_iconst (v := 0) hx hb dX11_serves_9 ic_0 ?_
  refine sk_Vv (q0 := 0) (n := 3) (rest := []) (wr := fmR om_17_f938 _) ⟨hx, hb, hml, hown, hts⟩ hl.1 (c_lay l D cI cJ cC cZ cS q gd gs e1 e2 sa ft fa fo (q 7) (q 33) (q 34) dy mo wk mu ke fb fw 0 o hsa hdy hmo (by omega)) w_4_47 w_4_48 w_4_49 w_1_13 w_4_50 hd_X1_lay_3 ⟨⟨(Nat.le_of_ble_eq_true rfl), (Nat.le_of_ble_eq_true rfl)⟩, (Nat.le_of_ble_eq_true rfl), (Nat.le_of_ble_eq_true rfl)⟩ hK hP hD hS hA [11, 12, 13, 1, 2, 3, 4, 5, 8] (fmF om_17_f938 0) rfl (fm_R rfl rfl) (by decide +kernel) (fm_nF om_17_f938 0) (by decide +kernel) rfl rfl rfl rfl (Nat.le_of_ble_eq_true rfl) dX11_serves_10 (fun u H locs hw hP hD hS => ?_)
  refine exE hw (fun g1_1 hw1 => exE hw1 (fun g2_2 eu_3 => ?_))
  clear hw hw1
  refine o_mgqE (ux := [(q 10, .inr (9, [.ref (q 61), .ref (q 62), .ref (q 63), .ref (q 64), .ref (q 65), .ref (q 66)])), (q 61, .inl (cI, 90, .inl (fun j => nI (sa j)))), (q 62, .inl (cI, 900, .inl ft)), (q 63, .inl (cI, 90, .inl fa)), (q 64, .inl (cI, 90, .inl fo)), (q 7, .inr (7, [.ref (q 33), .ref (q 34), .int (nI dy), .int wk, .int (nI mo), .int mu, .int ke])), (q 11, .inr (1, [.ref (q 10), .ref (q 67), .ref (q 68), .ref (q 69), .ref (q 70), .ref (q 71), .ref (q 72), .int (nI dy), .int (nI mo)])), (q 67, .inl (cI, 90, .inl g1_1)), (q 68, .inl (cI, 9, .inl g2_2))]) (ws' := [(x0, .inr (11, [.ref (q 0), .ref (q 1), .ref (q 2), .ref (q 3), .ref (q 4), .ref (q 5), .ref (q 6), .ref (q 7), .ref (q 8), .ref (q 9), .ref (q 10), .ref (q 11), .ref (q 12), .ref (q 13), .ref (q 14), .int hc, .ref (q 16), .long dr])), (q 10, .inr (9, [.ref (q 61), .ref (q 62), .ref (q 63), .ref (q 64), .ref (q 65), .ref (q 66)])), (q 61, .inl (cI, 90, .inl (fun j => nI (sa j)))), (q 62, .inl (cI, 900, .inl ft)), (q 63, .inl (cI, 90, .inl fa)), (q 64, .inl (cI, 90, .inl fo)), (q 65, .inl (cJ, 90, .inr (.inl fg))), (q 66, .inl (cI, 9, .inl fk)), (q 7, .inr (7, [.ref (q 33), .ref (q 34), .int (nI dy), .int wk, .int (nI mo), .int mu, .int ke])), (q 33, .inl (cI, 9, .inl fb)), (q 34, .inl (cI, 9, .inl fw)), (q 11, .inr (1, [.ref (q 10), .ref (q 67), .ref (q 68), .ref (q 69), .ref (q 70), .ref (q 71), .ref (q 72), .int (nI dy), .int (nI mo)])), (q 67, .inl (cI, 90, .inl g1_1)), (q 68, .inl (cI, 9, .inl g2_2)), (q 69, .inl (cI, 10, .inl e3)), (q 12, .inl (cI, 9, .inl ra)), (q 13, .inl (cI, 9, .inl rc))]) eu_3 [3, 4, 5, 6, 7, 8, 0, 1, 2] (by decide +kernel) rfl hP hD rfl (fun hP hD => ?_)
  refine lv_aload_n hx hb dX11_serves_13 rfl (lv_at hl 0 rfl) ?_
  refine sk_get (v := .ref (q 11)) (C := RX11) (T := TX11) (N := 18) hx hb hts inlX11 hown hK hP 0 rfl rfl 11 (Nat.le_of_ble_eq_true rfl) w_2_134 rfl dX11_serves_14 ?_
  refine sk_Vi (q0 := 0) (n := 0) (rest := []) (wr := fmR om_17_3c _) ⟨hx, hb, hml, hown, hts⟩ hl.1 (c_settle l D cI cJ cC cZ cS q dy mo g1_1 g2_2 e3 hdy hmo) w_4_53 w_4_54 w_4_55 w_1_13 w_4_56 hd_X1_settle_0 ⟨⟨(Nat.le_of_ble_eq_true rfl), (Nat.le_of_ble_eq_true rfl)⟩, (Nat.le_of_ble_eq_true rfl), (Nat.le_of_ble_eq_true rfl)⟩ hK hP hD hS hA (fmT om_17_3c 0) (fmF om_17_3c 0) (fm_C1 rfl rfl) (fm_R rfl rfl) (fm_nT om_17_3c 0) (fm_nF om_17_3c 0) (fm_di om_17_3c 0) rfl rfl rfl rfl (Nat.le_of_ble_eq_true rfl) dX11_serves_17 (fun r_6 u H locs hw hP hD hS => ?_)
  refine exE hw (fun b_4 hw1 => exE hw1 (fun g3_5 hw2 => anE hw2 (fun hb1_7 hw3 => anE hw3 (fun er_9 eu_8 => ?_))))
  clear hw hw1 hw2 hw3
  subst er_9
  refine o_mgE (ws' := [(x0, .inr (11, [.ref (q 0), .ref (q 1), .ref (q 2), .ref (q 3), .ref (q 4), .ref (q 5), .ref (q 6), .ref (q 7), .ref (q 8), .ref (q 9), .ref (q 10), .ref (q 11), .ref (q 12), .ref (q 13), .ref (q 14), .int hc, .ref (q 16), .long dr])), (q 10, .inr (9, [.ref (q 61), .ref (q 62), .ref (q 63), .ref (q 64), .ref (q 65), .ref (q 66)])), (q 61, .inl (cI, 90, .inl (fun j => nI (sa j)))), (q 62, .inl (cI, 900, .inl ft)), (q 63, .inl (cI, 90, .inl fa)), (q 64, .inl (cI, 90, .inl fo)), (q 65, .inl (cJ, 90, .inr (.inl fg))), (q 66, .inl (cI, 9, .inl fk)), (q 7, .inr (7, [.ref (q 33), .ref (q 34), .int (nI dy), .int wk, .int (nI mo), .int mu, .int ke])), (q 33, .inl (cI, 9, .inl fb)), (q 34, .inl (cI, 9, .inl fw)), (q 11, .inr (1, [.ref (q 10), .ref (q 67), .ref (q 68), .ref (q 69), .ref (q 70), .ref (q 71), .ref (q 72), .int (nI dy), .int (nI mo)])), (q 67, .inl (cI, 90, .inl g1_1)), (q 68, .inl (cI, 9, .inl g2_2)), (q 69, .inl (cI, 10, .inl g3_5)), (q 12, .inl (cI, 9, .inl ra)), (q 13, .inl (cI, 9, .inl rc))]) eu_8 hP hD rfl (fun hP hD => ?_)
  refine lv_if_ne (tgt := 25) hx hb dX11_serves_20 (by decide) (fun c_10 => ?_) (fun c_10 => ?_)
  · have c_10 : ¬ (b_4 = 0) := fun h => c_10 ((neq b_4 0 (by omega) (Nat.le_of_ble_eq_true rfl)).mpr h)
    refine lv_iload_n hx hb dX11_serves_25 rfl (lv_at hl 1 rfl) ?_
    by_cases g_11 : a1 = 1
    · refine lv_lookup (off := 26) (tgt := 52) hx hb dX11_serves_26 (by decide) (by rw [g_11]; decide) (by decide) ?_
      refine lv_aload_n hx hb dX11_serves_52 rfl (lv_at hl 0 rfl) ?_
      refine sk_get (v := .ref (q 11)) (C := RX11) (T := TX11) (N := 18) hx hb hts inlX11 hown hK hP 0 rfl rfl 11 (Nat.le_of_ble_eq_true rfl) w_2_134 rfl dX11_serves_53 ?_
      refine lv_iload_n hx hb dX11_serves_56 rfl (lv_at hl 3 rfl) ?_
      refine sk_Vi (q0 := 0) (n := 1) (rest := []) (wr := fmR om_17_3c _) ⟨hx, hb, hml, hown, hts⟩ hl.1 (c_moodsOf l D cI cJ cC cZ cS q dy mo g1_1 g2_2 g3_5 d hdy hmo hd) w_4_104 w_4_105 w_4_106 w_1_13 w_4_107 hd_X1_moodsOf_1 ⟨⟨(Nat.le_of_ble_eq_true rfl), (Nat.le_of_ble_eq_true rfl)⟩, (Nat.le_of_ble_eq_true rfl), (Nat.le_of_ble_eq_true rfl)⟩ hK hP hD hS hA (fmT om_17_3c 0) (fmF om_17_3c 0) (fm_C1 rfl rfl) (fm_R rfl rfl) (fm_nT om_17_3c 0) (fm_nF om_17_3c 0) (fm_di om_17_3c 0) rfl rfl rfl rfl (Nat.le_of_ble_eq_true rfl) dX11_serves_57 (fun r_12 u H locs hw hP hD hS => ?_)
      refine o_mgE (ws' := [(x0, .inr (11, [.ref (q 0), .ref (q 1), .ref (q 2), .ref (q 3), .ref (q 4), .ref (q 5), .ref (q 6), .ref (q 7), .ref (q 8), .ref (q 9), .ref (q 10), .ref (q 11), .ref (q 12), .ref (q 13), .ref (q 14), .int hc, .ref (q 16), .long dr])), (q 10, .inr (9, [.ref (q 61), .ref (q 62), .ref (q 63), .ref (q 64), .ref (q 65), .ref (q 66)])), (q 61, .inl (cI, 90, .inl (fun j => nI (sa j)))), (q 62, .inl (cI, 900, .inl ft)), (q 63, .inl (cI, 90, .inl fa)), (q 64, .inl (cI, 90, .inl fo)), (q 65, .inl (cJ, 90, .inr (.inl fg))), (q 66, .inl (cI, 9, .inl fk)), (q 7, .inr (7, [.ref (q 33), .ref (q 34), .int (nI dy), .int wk, .int (nI mo), .int mu, .int ke])), (q 33, .inl (cI, 9, .inl fb)), (q 34, .inl (cI, 9, .inl fw)), (q 11, .inr (1, [.ref (q 10), .ref (q 67), .ref (q 68), .ref (q 69), .ref (q 70), .ref (q 71), .ref (q 72), .int (nI dy), .int (nI mo)])), (q 67, .inl (cI, 90, .inl g1_1)), (q 68, .inl (cI, 9, .inl g2_2)), (q 69, .inl (cI, 10, .inl g3_5)), (q 12, .inl (cI, 9, .inl ra)), (q 13, .inl (cI, 9, .inl rc))]) hw hP hD rfl (fun hP hD => ?_)
      refine lv_iconst (v := 1) hx hb dX11_serves_60 ic_1 ?_
      refine lv_iload hx hb dX11_serves_61 (lv_at hl 4 rfl) ?_
      refine lv_ishl hx hb dX11_serves_63 ?_
      refine lv_topi (fun v_13 ev_13 => ?_)
      refine lv_icmp_ne (tgt := 71) hx hb dX11_serves_64 (by decide) (fun c_14 => ?_) (fun c_14 => ?_)
      · skip
        refine lv_iconst (v := 0) hx hb dX11_serves_71 ic_0 ?_
        exact sk_iret hx hb hr rfl hlocks hK hP hD hS (⟨dy, mo, 0, g1_1, g2_2, g3_5, ra, rc, hdy, hmo, by omega, rfl, rfl⟩) (Nat.le_of_ble_eq_true rfl) (Nat.le_of_ble_eq_true rfl) dX11_serves_72
      · skip
        refine lv_iconst (v := 1) hx hb dX11_serves_67 ic_1 ?_
        refine lv_goto (tgt := 72) hx hb dX11_serves_68 (by decide) ?_
        exact sk_iret hx hb hr rfl hlocks hK hP hD hS (⟨dy, mo, 1, g1_1, g2_2, g3_5, ra, rc, hdy, hmo, by omega, rfl, rfl⟩) (Nat.le_of_ble_eq_true rfl) (Nat.le_of_ble_eq_true rfl) dX11_serves_72
    by_cases g_15 : a1 = 2
    · refine lv_lookup (off := 47) (tgt := 73) hx hb dX11_serves_26 (by decide) (by rw [g_15]; decide) (by decide) ?_
      refine lv_aload_n hx hb dX11_serves_73 rfl (lv_at hl 0 rfl) ?_
      refine lv_iload_n hx hb dX11_serves_74 rfl (lv_at hl 2 rfl) ?_
      refine sk_Vi (q0 := 0) (n := 1) (rest := []) (wr := fmR om_17_1ffff _) ⟨hx, hb, hml, hown, hts⟩ hl.1 (c_x_isAtRest l D cI cJ cC cZ cS x0 q hc dr sa ft fa fo fg fk dy mo wk mu ke fb fw mo g1_1 g2_2 g3_5 ra rc o hsa hdy hmo hmo) w_4_108 w_4_110 w_0_24 w_1_1 w_4_111 hd_X11_isAtRest_1 ⟨⟨(Nat.le_of_ble_eq_true rfl), (Nat.le_of_ble_eq_true rfl)⟩, (Nat.le_of_ble_eq_true rfl), (Nat.le_of_ble_eq_true rfl)⟩ hK hP hD hS hA (fmT om_17_1ffff 0) (fmF om_17_1ffff 0) (fm_C1 rfl rfl) (fm_R rfl rfl) (fm_nT om_17_1ffff 0) (fm_nF om_17_1ffff 0) (fm_di om_17_1ffff 0) rfl rfl rfl rfl (Nat.le_of_ble_eq_true rfl) dX11_serves_75 (fun r_24 u H locs hw hP hD hS => ?_)
      refine exE hw (fun gd2_16 hw1 => exE hw1 (fun gs2_17 hw2 => exE hw2 (fun b_18 hw3 => exE hw3 (fun g1_19 hw4 => exE hw4 (fun g2_20 hw5 => exE hw5 (fun g3_21 hw6 => exE hw6 (fun ra2_22 hw7 => exE hw7 (fun rc2_23 hw8 => anE hw8 (fun hgd2_25 hw9 => anE hw9 (fun hgs2_26 hw10 => anE hw10 (fun hb1_27 hw11 => anE hw11 (fun er_29 eu_28 => ?_))))))))))))
      clear hw hw1 hw2 hw3 hw4 hw5 hw6 hw7 hw8 hw9 hw10 hw11
      subst er_29
      refine o_mgE (ws' := [(x0, .inr (11, [.ref (q 0), .ref (q 1), .ref (q 2), .ref (q 3), .ref (q 4), .ref (q 5), .ref (q 6), .ref (q 7), .ref (q 8), .ref (q 9), .ref (q 10), .ref (q 11), .ref (q 12), .ref (q 13), .ref (q 14), .int hc, .ref (q 16), .long dr])), (q 10, .inr (9, [.ref (q 61), .ref (q 62), .ref (q 63), .ref (q 64), .ref (q 65), .ref (q 66)])), (q 61, .inl (cI, 90, .inl (fun j => nI (sa j)))), (q 62, .inl (cI, 900, .inl ft)), (q 63, .inl (cI, 90, .inl fa)), (q 64, .inl (cI, 90, .inl fo)), (q 65, .inl (cJ, 90, .inr (.inl fg))), (q 66, .inl (cI, 9, .inl fk)), (q 7, .inr (7, [.ref (q 33), .ref (q 34), .int (nI dy), .int wk, .int (nI mo), .int mu, .int ke])), (q 33, .inl (cI, 9, .inl fb)), (q 34, .inl (cI, 9, .inl fw)), (q 11, .inr (1, [.ref (q 10), .ref (q 67), .ref (q 68), .ref (q 69), .ref (q 70), .ref (q 71), .ref (q 72), .int (nI gd2_16), .int (nI gs2_17)])), (q 67, .inl (cI, 90, .inl g1_19)), (q 68, .inl (cI, 9, .inl g2_20)), (q 69, .inl (cI, 10, .inl g3_21)), (q 12, .inl (cI, 9, .inl ra2_22)), (q 13, .inl (cI, 9, .inl rc2_23))]) eu_28 hP hD rfl (fun hP hD => ?_)
      exact sk_iret hx hb hr (nbool b_18 (by omega)) hlocks hK hP hD hS (⟨gd2_16, gs2_17, b_18, g1_19, g2_20, g3_21, ra2_22, rc2_23, hgd2_25, hgs2_26, hb1_27, rfl, rfl⟩) (Nat.le_of_ble_eq_true rfl) (Nat.le_of_ble_eq_true rfl) dX11_serves_78
    refine lv_lookup (off := 53) (tgt := 79) hx hb dX11_serves_26 (by decide) (by rw [lv_osw g_11 (by decide)]; rw [lv_osw g_15 (by decide)]; rfl) (by decide) ?_
    refine lv_iconst (v := 1) hx hb dX11_serves_79 ic_1 ?_
    exact sk_iret hx hb hr rfl hlocks hK hP hD hS (⟨dy, mo, 1, g1_1, g2_2, g3_5, ra, rc, hdy, hmo, by omega, rfl, rfl⟩) (Nat.le_of_ble_eq_true rfl) (Nat.le_of_ble_eq_true rfl) dX11_serves_80
  · have c_10 : b_4 = 0 := (neq b_4 0 (by omega) (Nat.le_of_ble_eq_true rfl)).mp c_10
    refine lv_iconst (v := 0) hx hb dX11_serves_23 ic_0 ?_
    exact sk_iret hx hb hr rfl hlocks hK hP hD hS (⟨dy, mo, 0, g1_1, g2_2, g3_5, ra, rc, hdy, hmo, by omega, rfl, rfl⟩) (Nat.le_of_ble_eq_true rfl) (Nat.le_of_ble_eq_true rfl) dX11_serves_24
/-! when it is the same -/
def sd (p e n : Nat) : Prop := (p + 1440 * e - e * n) % 1440 = 0
def inR (pp ee : Int32) : Prop := 0 ≤ pp.toInt ∧ pp.toInt ≤ 1439 ∧ 0 ≤ ee.toInt ∧ ee.toInt ≤ 1439
def smR (pp ee r : Int32) : Prop := (∃ p e : Nat, p < 1440 ∧ e < 1440 ∧ pp = nI p ∧ ee = nI e ∧ ((∃ n : Nat, n < 1440 ∧ sd p e n ∧ (∀ j, j < n → ¬ sd p e j) ∧ r = nI n) ∨ ((∀ j, j < 1440 → ¬ sd p e j) ∧ r = -1))) ∨ (¬ inR pp ee ∧ r = -1)
theorem sm_i (k : Nat) (h : k < 2147483648) : (nI k).toInt = (k : Int) := nI_toInt h
theorem out1 {pp ee : Int32} (h : pp < 0) : ¬ inR pp ee := fun q => by
  have h1 := Int32.lt_iff_toInt_lt.mp h
  have e0 : (0 : Int32).toInt = 0 := rfl
  rw [e0] at h1
  have := q.1
  omega
theorem out2 {k : Nat} {ee : Int32} (hk : k < 2147483648) (h : 1439 < k) : ¬ inR (nI k) ee := fun q => by
  have h1 := q.2.1
  rw [sm_i k hk] at h1
  omega
theorem out3 {pp ee : Int32} (h : ee < 0) : ¬ inR pp ee := fun q => by
  have h1 := Int32.lt_iff_toInt_lt.mp h
  have e0 : (0 : Int32).toInt = 0 := rfl
  rw [e0] at h1
  have := q.2.2.1
  omega
theorem out4 {k : Nat} {pp : Int32} (hk : k < 2147483648) (h : 1439 < k) : ¬ inR pp (nI k) := fun q => by
  have h1 := q.2.2.2
  rw [sm_i k hk] at h1
  omega
theorem sm_l (pp : Int32) : ((0 : Int64) ≤ pp.toInt64 ∧ pp.toInt64 ≤ 1439) ↔ (0 ≤ pp.toInt ∧ pp.toInt ≤ 1439) := by
  have e0 : (0 : Int64).toInt = 0 := rfl
  have e1 : (1439 : Int64).toInt = 1439 := rfl
  rw [Int64.le_iff_toInt_le, Int64.le_iff_toInt_le, Int32.toInt_toInt64, e0, e1]
theorem outA {pp ee : Int32} (h : ¬ ((0 : Int64) ≤ pp.toInt64 ∧ pp.toInt64 ≤ 1439)) : ¬ inR pp ee := fun q => h ((sm_l pp).mpr ⟨q.1, q.2.1⟩)
theorem outB {pp ee : Int32} (h : ¬ ((0 : Int64) ≤ ee.toInt64 ∧ ee.toInt64 ≤ 1439)) : ¬ inR pp ee := fun q => h ((sm_l ee).mpr ⟨q.2.2.1, q.2.2.2⟩)
theorem sm_rem {x : Int32} (h1 : -10000000 < x.toInt) (h2 : x.toInt < 10000000) : (x - x / 1440 * 1440).toInt = x.toInt.tmod 1440 := by
  have e : (1440 : Int32).toInt = 1440 := rfl
  have hd : (x / 1440).toInt = x.toInt.tdiv 1440 := by
    rw [Jvm.Kit.i32_div (by rw [e]; omega), e]
  have hr := Int.mul_tdiv_add_tmod x.toInt 1440
  have hb1 : x.toInt.tmod 1440 < 1440 := Int.tmod_lt_of_pos _ (by decide)
  have hb2 : -1440 < x.toInt.tmod 1440 := by
    have h3 := Int.tmod_lt_of_pos (-x.toInt) (by decide : (0 : Int) < 1440)
    rw [Int.neg_tmod] at h3
    omega
  have hm : (x / 1440 * 1440).toInt = x.toInt.tdiv 1440 * 1440 := by
    rw [Jvm.Kit.i32_mul (by rw [hd, e]; omega) (by rw [hd, e]; omega), hd, e]
  rw [Jvm.Kit.i32_sub (by rw [hm]; omega) (by rw [hm]; omega), hm]
  omega
theorem sm_le {e i : Nat} (hi : i ≤ 1440) : e * i ≤ 1440 * e := by
  rw [Nat.mul_comm 1440 e]
  exact Nat.mul_le_mul_left e hi
theorem sm_x {p e i : Nat} {va vb : Int32} (hp : p < 1440) (he : e < 1440) (hi : i ≤ 1440) (ea : va = nI p - nI (e * i)) (eb : vb = va - va / 1440 * 1440) : vb = 0 ↔ sd p e i := by
  have h1 := sm_le (e := e) hi
  have h2 : 1440 * e ≤ 1440 * 1439 := Nat.mul_le_mul_left _ (by omega)
  have hx : va.toInt = (p : Int) - ((e * i : Nat) : Int) := by
    rw [ea, Jvm.Kit.i32_sub (by rw [sm_i p (by omega), sm_i (e * i) (by omega)]; omega) (by rw [sm_i p (by omega), sm_i (e * i) (by omega)]; omega), sm_i p (by omega), sm_i (e * i) (by omega)]
  have hr := sm_rem (x := va) (by rw [hx]; omega) (by rw [hx]; omega)
  rw [← eb] at hr
  have h0 : vb = 0 ↔ vb.toInt = 0 := by
    rw [← Int32.toInt_inj]
    exact Iff.rfl
  rw [h0, hr, ← Int.dvd_iff_tmod_eq_zero, hx]
  unfold sd
  generalize e * i = q at *
  omega
theorem sm_0 {p e : Nat} (hp : p < 1440) : p = (p + 1440 * e - e * 0) % 1440 := by
  rw [Nat.mul_zero]; omega
theorem sm_next {p e i v : Nat} (he : e < 1440) (hi : i + 1 ≤ 1440) (hv : v = (p + 1440 * e - e * i) % 1440) : (v + 1440 - e) % 1440 = (p + 1440 * e - e * (i + 1)) % 1440 := by
  have h1 := sm_le (e := e) hi
  rw [Nat.mul_succ] at h1 ⊢
  generalize e * i = q at *
  omega
theorem sm_found {p e n : Nat} (hp : p < 1440) (he : e < 1440) (hn : n < 1440) (h : sd p e n) (hno : ∀ j, j < n → ¬ sd p e j) : smR (nI p) (nI e) (nI n) := Or.inl ⟨p, e, hp, he, rfl, rfl, Or.inl ⟨n, hn, h, hno, rfl⟩⟩
theorem sm_none {p e n : Nat} (hp : p < 1440) (he : e < 1440) (hn : 1440 ≤ n) (hno : ∀ j, j < n → ¬ sd p e j) : smR (nI p) (nI e) (-1) := Or.inl ⟨p, e, hp, he, rfl, rfl, Or.inr ⟨fun j hj => hno j (by omega), rfl⟩⟩
def sno (p e i : Nat) : Prop := ∀ j, j < i → ¬ sd p e j
theorem sno_0 {p e : Nat} : sno p e 0 := fun j h => absurd h (by omega)
theorem sno_s {p e i : Nat} (h : sno p e i) (h1 : ¬ sd p e i) : sno p e (i + 1) := by
  intro j hj
  by_cases q : j = i
  · subst q; exact h1
  · exact h j (by omega)
theorem same_eq {pp ee r q : Int32} (h1 : smR pp ee r) (h2 : smR pp ee q) : r = q := by
  rcases h1 with ⟨p, e, hp, he, rfl, rfl, h1⟩ | ⟨h1, e1⟩
  · rcases h2 with ⟨p', e', hp', he', ep, ee, h2⟩ | ⟨h2, -⟩
    · have ep := (neq p p' (by omega) (by omega)).mp ep
      have ee := (neq e e' (by omega) (by omega)).mp ee
      subst ep; subst ee
      rcases h1 with ⟨n, hn, a1, a2, a3⟩ | ⟨a1, a2⟩
      · rcases h2 with ⟨m, hm, b1, b2, b3⟩ | ⟨b1, b2⟩
        · rcases Nat.lt_trichotomy n m with t | t | t
          · exact absurd a1 (b2 n t)
          · rw [a3, b3, t]
          · exact absurd b1 (a2 m t)
        · exact absurd a1 (b1 n hn)
      · rcases h2 with ⟨m, hm, b1, b2, b3⟩ | ⟨b1, b2⟩
        · exact absurd b1 (a1 m hm)
        · rw [a2, b2]
    · exact absurd ⟨by rw [sm_i p (by omega)]; omega, by rw [sm_i p (by omega)]; omega, by rw [sm_i e (by omega)]; omega, by rw [sm_i e (by omega)]; omega⟩ h2
  · rcases h2 with ⟨p', e', hp', he', rfl, rfl, h2⟩ | ⟨-, e2⟩
    · exact absurd ⟨by rw [sm_i p' (by omega)]; omega, by rw [sm_i p' (by omega)]; omega, by rw [sm_i e' (by omega)]; omega, by rw [sm_i e' (by omega)]; omega⟩ h1
    · rw [e1, e2]
theorem dg_X11_same_0_0 : bqL cX11_same 0 [(0, [27]), (1, [155, 0, 21]), (22, [2]), (23, [172]), (4, [27]), (5, [17, 5, 159]), (8, [163, 0, 14]), (11, [28]), (12, [155, 0, 10]), (15, [28]), (16, [17, 5, 159]), (19, [164, 0, 5]), (24, [3]), (25, [62]), (26, [29]), (27, [17, 5, 160]), (30, [162, 0, 23]), (53, [2]), (54, [172]), (33, [27]), (34, [28]), (35, [29]), (36, [104]), (37, [100]), (38, [17, 5, 160]), (41, [112]), (42, [154, 0, 5]), (47, [132, 3, 1]), (50, [167, 255, 232]), (45, [29]), (46, [172])] = true := by decide +kernel
theorem dX11_same_0 : decode cX11_same 0 = .ok (.iload_n 1, 1) := q_iload_n1 (bat_get dg_X11_same_0_0 0 rfl rfl)
theorem dX11_same_1 : decode cX11_same 1 = .ok (.ifCond .lt 21, 3) := q_ifCond_lt (bat_get dg_X11_same_0_0 1 rfl rfl) rfl
theorem dX11_same_22 : decode cX11_same 22 = .ok (.iconst (-1), 1) := q_iconstm1 (bat_get dg_X11_same_0_0 2 rfl rfl)
theorem dX11_same_23 : decode cX11_same 23 = .ok (.ireturn, 1) := q_ireturn (bat_get dg_X11_same_0_0 3 rfl rfl)
theorem dX11_same_4 : decode cX11_same 4 = .ok (.iload_n 1, 1) := q_iload_n1 (bat_get dg_X11_same_0_0 4 rfl rfl)
theorem dX11_same_5 : decode cX11_same 5 = .ok (.sipush 1439, 3) := q_sipush (bat_get dg_X11_same_0_0 5 rfl rfl) rfl
theorem dX11_same_8 : decode cX11_same 8 = .ok (.if_icmp .gt 14, 3) := q_if_icmp_gt (bat_get dg_X11_same_0_0 6 rfl rfl) rfl
theorem dX11_same_11 : decode cX11_same 11 = .ok (.iload_n 2, 1) := q_iload_n2 (bat_get dg_X11_same_0_0 7 rfl rfl)
theorem dX11_same_12 : decode cX11_same 12 = .ok (.ifCond .lt 10, 3) := q_ifCond_lt (bat_get dg_X11_same_0_0 8 rfl rfl) rfl
theorem dX11_same_15 : decode cX11_same 15 = .ok (.iload_n 2, 1) := q_iload_n2 (bat_get dg_X11_same_0_0 9 rfl rfl)
theorem dX11_same_16 : decode cX11_same 16 = .ok (.sipush 1439, 3) := q_sipush (bat_get dg_X11_same_0_0 10 rfl rfl) rfl
theorem dX11_same_19 : decode cX11_same 19 = .ok (.if_icmp .le 5, 3) := q_if_icmp_le (bat_get dg_X11_same_0_0 11 rfl rfl) rfl
theorem dX11_same_24 : decode cX11_same 24 = .ok (.iconst 0, 1) := q_iconst0 (bat_get dg_X11_same_0_0 12 rfl rfl)
theorem dX11_same_25 : decode cX11_same 25 = .ok (.istore_n 3, 1) := q_istore_n3 (bat_get dg_X11_same_0_0 13 rfl rfl)
theorem dX11_same_26 : decode cX11_same 26 = .ok (.iload_n 3, 1) := q_iload_n3 (bat_get dg_X11_same_0_0 14 rfl rfl)
theorem dX11_same_27 : decode cX11_same 27 = .ok (.sipush 1440, 3) := q_sipush (bat_get dg_X11_same_0_0 15 rfl rfl) rfl
theorem dX11_same_30 : decode cX11_same 30 = .ok (.if_icmp .ge 23, 3) := q_if_icmp_ge (bat_get dg_X11_same_0_0 16 rfl rfl) rfl
theorem dX11_same_53 : decode cX11_same 53 = .ok (.iconst (-1), 1) := q_iconstm1 (bat_get dg_X11_same_0_0 17 rfl rfl)
theorem dX11_same_54 : decode cX11_same 54 = .ok (.ireturn, 1) := q_ireturn (bat_get dg_X11_same_0_0 18 rfl rfl)
theorem dX11_same_33 : decode cX11_same 33 = .ok (.iload_n 1, 1) := q_iload_n1 (bat_get dg_X11_same_0_0 19 rfl rfl)
theorem dX11_same_34 : decode cX11_same 34 = .ok (.iload_n 2, 1) := q_iload_n2 (bat_get dg_X11_same_0_0 20 rfl rfl)
theorem dX11_same_35 : decode cX11_same 35 = .ok (.iload_n 3, 1) := q_iload_n3 (bat_get dg_X11_same_0_0 21 rfl rfl)
theorem dX11_same_36 : decode cX11_same 36 = .ok (.imul, 1) := q_imul (bat_get dg_X11_same_0_0 22 rfl rfl)
theorem dX11_same_37 : decode cX11_same 37 = .ok (.isub, 1) := q_isub (bat_get dg_X11_same_0_0 23 rfl rfl)
theorem dX11_same_38 : decode cX11_same 38 = .ok (.sipush 1440, 3) := q_sipush (bat_get dg_X11_same_0_0 24 rfl rfl) rfl
theorem dX11_same_41 : decode cX11_same 41 = .ok (.irem, 1) := q_irem (bat_get dg_X11_same_0_0 25 rfl rfl)
theorem dX11_same_42 : decode cX11_same 42 = .ok (.ifCond .ne 5, 3) := q_ifCond_ne (bat_get dg_X11_same_0_0 26 rfl rfl) rfl
theorem dX11_same_47 : decode cX11_same 47 = .ok (.iinc 3 1, 3) := q_iinc (bat_get dg_X11_same_0_0 27 rfl rfl) rfl
theorem dX11_same_50 : decode cX11_same 50 = .ok (.goto (-24), 3) := q_goto (bat_get dg_X11_same_0_0 28 rfl rfl) rfl
theorem dX11_same_45 : decode cX11_same 45 = .ok (.iload_n 3, 1) := q_iload_n3 (bat_get dg_X11_same_0_0 29 rfl rfl)
theorem dX11_same_46 : decode cX11_same 46 = .ok (.ireturn, 1) := q_ireturn (bat_get dg_X11_same_0_0 30 rfl rfl)
theorem w_4_238 : (Cond.code yX11_same cX11_same 4 (some .int)) ∈ wsL_law := sk_mem (ck_4 _ (List.mem_of_getElem? (i := 238) rfl)) rfl
set_option maxHeartbeats 4000000 in
set_option maxRecDepth 100000 in
theorem c_y_same (l : Launch) (D : va_G) (cI cJ cC cZ cS : ClassId) (x0 : Nat) (q : Nat → Nat) (hc : Int32) (dr : Int64) (pp : Int32) (ee : Int32)  : skM l yX11_same cX11_same 4 (some .int) 0 0 0 0 D (skT cI cJ cC cZ cS) [.ref x0, .int pp, .int ee] [(x0, .inr (11, [.ref (q 0), .ref (q 1), .ref (q 2), .ref (q 3), .ref (q 4), .ref (q 5), .ref (q 6), .ref (q 7), .ref (q 8), .ref (q 9), .ref (q 10), .ref (q 11), .ref (q 12), .ref (q 13), .ref (q 14), .int hc, .ref (q 16), .long dr]))] (skI D (skT cI cJ cC cZ cS) (fun (r : Int32) (u : va_W) => smR pp ee r ∧ u = [(x0, .inr (11, [.ref (q 0), .ref (q 1), .ref (q 2), .ref (q 3), .ref (q 4), .ref (q 5), .ref (q 6), .ref (q 7), .ref (q 8), .ref (q 9), .ref (q 10), .ref (q 11), .ref (q 12), .ref (q 13), .ref (q 14), .int hc, .ref (q 16), .long dr]))])) := by
  refine skM_of pf_X11_same (Nat.le_of_ble_eq_true rfl) ?_
  intro p e s m below meth c A ls E hP hD hl
  refine skE_el E (fun hx hb hr hml hlocks hin hown hts hK hA => ?_)
  have hown : s.vm.findClass RX11 = some m.cls := hown
  have hS : va_S A s.heap s.heap [] := va_S.rf
  have hl : lv_has ls 4 [(0, .ref x0), (1, .int pp), (2, .int ee)] := hl
  refine lv_iload_n hx hb dX11_same_0 rfl (lv_at hl 1 rfl) ?_
  refine lv_if_lt (tgt := 22) hx hb dX11_same_1 (by decide) (fun c_1 => ?_) (fun c_1 => ?_)
  · skip
    refine lv_iconst (v := (-1)) hx hb dX11_same_22 (by decide) ?_
    exact sk_iret hx hb hr rfl hlocks hK hP hD hS (⟨(Or.inr ⟨out1 c_1, rfl⟩), rfl⟩) (Nat.le_of_ble_eq_true rfl) (Nat.le_of_ble_eq_true rfl) dX11_same_23
  · obtain ⟨k_2, hk_2, rfl⟩ := nof pp c_1
    refine lv_iload_n hx hb dX11_same_4 rfl (lv_at hl 1 rfl) ?_
    refine lv_sipush (v := 1439) hx hb dX11_same_5 (by decide) ?_
    refine lv_icmp_gt (tgt := 22) hx hb dX11_same_8 (by decide) (fun c_3 => ?_) (fun c_3 => ?_)
    · have c_3 : 1439 < k_2 := (nlt 1439 k_2 (Nat.le_of_ble_eq_true rfl) (by omega)).mp c_3
      refine lv_iconst (v := (-1)) hx hb dX11_same_22 (by decide) ?_
      exact sk_iret hx hb hr rfl hlocks hK hP hD hS (⟨(Or.inr ⟨out2 (by omega) (by omega), rfl⟩), rfl⟩) (Nat.le_of_ble_eq_true rfl) (Nat.le_of_ble_eq_true rfl) dX11_same_23
    · have c_3 : ¬ (1439 < k_2) := fun h => c_3 ((nlt 1439 k_2 (Nat.le_of_ble_eq_true rfl) (by omega)).mpr h)
      refine lv_iload_n hx hb dX11_same_11 rfl (lv_at hl 2 rfl) ?_
      refine lv_if_lt (tgt := 22) hx hb dX11_same_12 (by decide) (fun c_4 => ?_) (fun c_4 => ?_)
      · skip
        refine lv_iconst (v := (-1)) hx hb dX11_same_22 (by decide) ?_
        exact sk_iret hx hb hr rfl hlocks hK hP hD hS (⟨(Or.inr ⟨out3 c_4, rfl⟩), rfl⟩) (Nat.le_of_ble_eq_true rfl) (Nat.le_of_ble_eq_true rfl) dX11_same_23
      · obtain ⟨k_5, hk_5, rfl⟩ := nof ee c_4
        refine lv_iload_n hx hb dX11_same_15 rfl (lv_at hl 2 rfl) ?_
        refine lv_sipush (v := 1439) hx hb dX11_same_16 (by decide) ?_
        refine lv_icmp_le (tgt := 24) hx hb dX11_same_19 (by decide) (fun c_6 => ?_) (fun c_6 => ?_)
        · have c_6 : k_5 ≤ 1439 := (nle k_5 1439 (by omega) (Nat.le_of_ble_eq_true rfl)).mp c_6
          refine lv_iconst (v := 0) hx hb dX11_same_24 ic_0 ?_
          refine lv_istore_n (lv' := [(3, .int 0), (0, .ref x0), (1, .int (nI k_2)), (2, .int (nI k_5))]) hx hb dX11_same_25 rfl hl (by decide) rfl (fun ls hl => ?_)
          have lp_7 : ∀ (n_8 : Nat) (i : Nat) (H : Heap) (locs : List Loc) (ls : Array Slot), 1440 - i < n_8 → (i ≤ 1440) → (sno k_2 k_5 i) → va_P D vwCl [(x0, .inr (11, [.ref (q 0), .ref (q 1), .ref (q 2), .ref (q 3), .ref (q 4), .ref (q 5), .ref (q 6), .ref (q 7), .ref (q 8), .ref (q 9), .ref (q 10), .ref (q 11), .ref (q 12), .ref (q 13), .ref (q 14), .int hc, .ref (q 16), .long dr]))] H → va_D A [(x0, .inr (11, [.ref (q 0), .ref (q 1), .ref (q 2), .ref (q 3), .ref (q 4), .ref (q 5), .ref (q 6), .ref (q 7), .ref (q 8), .ref (q 9), .ref (q 10), .ref (q 11), .ref (q 12), .ref (q 13), .ref (q 14), .int hc, .ref (q 16), .long dr]))] → va_S A s.heap H locs → lv_has ls 4 [(3, .int (nI i)), (0, .ref x0), (1, .int (nI k_2)), (2, .int (nI k_5))] → W p l e { frames := 0, cells := 0, slots := 0, locals := 0 } s m ([.ref x0, .int (nI k_2), .int (nI k_5)] : List Value).toArray below meth c H locs 0 0 (MQ below (skI D (skT cI cJ cC cZ cS) (fun (r : Int32) (u : va_W) => smR (nI k_2) (nI k_5) r ∧ u = [(x0, .inr (11, [.ref (q 0), .ref (q 1), .ref (q 2), .ref (q 3), .ref (q 4), .ref (q 5), .ref (q 6), .ref (q 7), .ref (q 8), .ref (q 9), .ref (q 10), .ref (q 11), .ref (q 12), .ref (q 13), .ref (q 14), .int hc, .ref (q 16), .long dr]))]) A) ([.ref x0, .int (nI k_2), .int (nI k_5)] : List Value).toArray s 0 0 A) (F0 m 26 ls []) := by
            intro n_8
            induction n_8 with
            | zero => intro i H locs ls hm; exact absurd hm (Nat.not_lt_zero _)
            | succ n_8 ih_lp_7 =>
              intro i H locs ls hm hi hno hP hD hS hl
              refine lv_iload_n hx hb dX11_same_26 rfl (lv_at hl 0 rfl) ?_
              refine lv_sipush (v := 1440) hx hb dX11_same_27 (by decide) ?_
              refine lv_icmp_ge (tgt := 53) hx hb dX11_same_30 (by decide) (fun c_9 => ?_) (fun c_9 => ?_)
              · have c_9 : 1440 ≤ i := (nle 1440 i (Nat.le_of_ble_eq_true rfl) (by omega)).mp c_9
                refine lv_iconst (v := (-1)) hx hb dX11_same_53 (by decide) ?_
                exact sk_iret hx hb hr rfl hlocks hK hP hD hS (⟨(sm_none (by omega) (by omega) (by omega) hno), rfl⟩) (Nat.le_of_ble_eq_true rfl) (Nat.le_of_ble_eq_true rfl) dX11_same_54
              · have c_9 : ¬ (1440 ≤ i) := fun h => c_9 ((nle 1440 i (Nat.le_of_ble_eq_true rfl) (by omega)).mpr h)
                refine lv_iload_n hx hb dX11_same_33 rfl (lv_at hl 2 rfl) ?_
                refine lv_iload_n hx hb dX11_same_34 rfl (lv_at hl 3 rfl) ?_
                refine lv_iload_n hx hb dX11_same_35 rfl (lv_at hl 0 rfl) ?_
                refine lv_imul hx hb dX11_same_36 ?_
                refine sk_top (nI (k_5 * i)) (nmul k_5 i) ?_
                refine lv_isub hx hb dX11_same_37 ?_
                refine lv_topi (fun v_10 ev_10 => ?_)
                refine lv_sipush (v := 1440) hx hb dX11_same_38 (by decide) ?_
                refine lv_irem hx hb dX11_same_41 (by decide) ?_
                refine lv_topi (fun v_11 ev_11 => ?_)
                refine lv_if_ne (tgt := 47) hx hb dX11_same_42 (by decide) (fun c_12 => ?_) (fun c_12 => ?_)
                · skip
                  refine lv_iinc (v := nI (i + 1)) (lv' := [(3, .int (nI (i + 1))), (0, .ref x0), (1, .int (nI k_2)), (2, .int (nI k_5))]) hx hb dX11_same_47 hl (k := 0) rfl (ninc i 1 (by decide)) (by decide) rfl (fun ls hl => ?_)
                  refine lv_goto (tgt := 26) hx hb dX11_same_50 (by decide) ?_
                  exact ih_lp_7 (i + 1) _ _ _ (by omega) (by omega) (sno_s hno (fun h => c_12 ((sm_x (by omega) (by omega) (by omega) ev_10 ev_11).mpr h))) hP hD hS (lv_sub hl [0, 1, 2, 3] rfl)
                · skip
                  refine lv_iload_n hx hb dX11_same_45 rfl (lv_at hl 0 rfl) ?_
                  exact sk_iret hx hb hr rfl hlocks hK hP hD hS (⟨(sm_found (by omega) (by omega) (by omega) ((sm_x (by omega) (by omega) (by omega) ev_10 ev_11).mp c_12) hno), rfl⟩) (Nat.le_of_ble_eq_true rfl) (Nat.le_of_ble_eq_true rfl) dX11_same_46
          exact lp_7 (1440 - 0 + 1) 0 _ _ _ (Nat.lt_succ_self _) (by omega) sno_0 hP hD hS (lv_sub hl [0, 1, 2, 3] rfl)
        · have c_6 : ¬ (k_5 ≤ 1439) := fun h => c_6 ((nle k_5 1439 (by omega) (Nat.le_of_ble_eq_true rfl)).mpr h)
          refine lv_iconst (v := (-1)) hx hb dX11_same_22 (by decide) ?_
          exact sk_iret hx hb hr rfl hlocks hK hP hD hS (⟨(Or.inr ⟨out4 (by omega) (by omega), rfl⟩), rfl⟩) (Nat.le_of_ble_eq_true rfl) (Nat.le_of_ble_eq_true rfl) dX11_same_23
set_option maxHeartbeats 4000000 in
set_option maxRecDepth 100000 in
theorem c_Tape_leftN (l : Launch) (D : va_G) (cI cJ cC cZ cS : ClassId) (h0 : Nat) (k1 : Nat) (tl : Nat) (tb : Nat → Nat) (k : Nat) (htl : tl ≤ 1600) (htb : ∀ j, tb j ≤ 255) (hk : k < 1600) : skM l yX10_left cX10_left 2 (some .int) 0 0 0 0 D (skT cI cJ cC cZ cS) [.ref h0, .int (nI k)] [(h0, .inr (10, [.ref k1, .int (nI tl)])), (k1, .inl (cI, 1600, .inl (fun j => nI (tb j))))] (skI D (skT cI cJ cC cZ cS) (fun (r : Int32) (u : va_W) => tb k ≤ 255 ∧ r = nI (tb k) ∧ u = [(h0, .inr (10, [.ref k1, .int (nI tl)])), (k1, .inl (cI, 1600, .inl (fun j => nI (tb j))))])) := by
  refine skM_of pf_X10_left (Nat.le_of_ble_eq_true rfl) ?_
  intro p e s m below meth c A ls E hP hD hl
  refine skE_el E (fun hx hb hr hml hlocks hin hown hts hK hA => ?_)
  have hown : s.vm.findClass RX10 = some m.cls := hown
  have hS : va_S A s.heap s.heap [] := va_S.rf
  have hl : lv_has ls 2 [(0, .ref h0), (1, .int (nI k))] := hl
  refine lv_iload_n hx hb dX10_left_0 rfl (lv_at hl 1 rfl) ?_
  refine lv_if_lt (tgt := 22) hx hb dX10_left_1 (by decide) (fun c => absurd c (nI_pos (by omega))) (fun c_1 => ?_)
  refine lv_iload_n hx hb dX10_left_4 rfl (lv_at hl 1 rfl) ?_
  refine lv_aload_n hx hb dX10_left_5 rfl (lv_at hl 0 rfl) ?_
  refine sk_get (v := .ref k1) (C := RX10) (T := TX10) (N := 2) hx hb hts inlX10 hown hK hP 0 rfl rfl 0 (Nat.le_of_ble_eq_true rfl) w_1_39 rfl dX10_left_6 ?_
  refine va_alen (v := 1600) hx hb hK.1 hP 1 0 rfl rfl rfl dX10_left_9 ?_
  refine lv_icmp_ge (tgt := 22) hx hb dX10_left_10 (by decide) (fun c => absurd c (fun h9 => absurd ((nle 1600 k (Nat.le_of_ble_eq_true rfl) (by omega)).mp h9) (by omega))) (fun c_2 => ?_)
  refine lv_aload_n hx hb dX10_left_13 rfl (lv_at hl 0 rfl) ?_
  refine sk_get (v := .ref k1) (C := RX10) (T := TX10) (N := 2) hx hb hts inlX10 hown hK hP 0 rfl rfl 0 (Nat.le_of_ble_eq_true rfl) w_1_39 rfl dX10_left_14 ?_
  refine lv_iload_n hx hb dX10_left_17 rfl (lv_at hl 1 rfl) ?_
  refine va_iald hx hb hK.1 hP 1 0 rfl rfl (vin k 1600 (by omega) (Nat.le_of_ble_eq_true rfl)) dX10_left_18 ?_
  refine sk_top (nI (tb k)) (nrd tb k (by omega)) ?_
  have hb_3 := htb k
  refine lv_goto (tgt := 23) hx hb dX10_left_19 (by decide) ?_
  exact sk_iret hx hb hr rfl hlocks hK hP hD hS (⟨htb k, rfl, rfl⟩) (Nat.le_of_ble_eq_true rfl) (Nat.le_of_ble_eq_true rfl) dX10_left_23
/-! what an image is -/
def imgK (tb : Nat → Nat) (e : Nat) : Prop := ∀ k, 2 ≤ k → k < e → tb k ≤ 9 ∧ (2 < k → k % 3 = 2 → tb k ≤ 1)
def imgO (tb : Nat → Nat) (n dy : Nat) : Prop := n = 3 * dy + 4 ∧ tb (3 * dy + 3) = chkN tb (3 * dy + 3) ∧ tb 0 * 256 + tb 1 ≤ 999 ∧ imgK tb (3 * dy + 3)
theorem imgK_0 {tb : Nat → Nat} (h : tb 2 < 10) : imgK tb 3 := fun k h1 h2 => by
  obtain rfl : k = 2 := by omega
  exact ⟨by omega, fun q => absurd q (by omega)⟩
theorem imgK_s {tb : Nat → Nat} {i : Nat} (h : imgK tb i) (h3 : i % 3 = 0) (h1 : tb i < 10) (h2 : tb (i + 1) < 10) (h4 : tb (i + 2) ≤ 1) : imgK tb (i + 3) := fun k q1 q2 => by
  by_cases e : k < i
  · exact h k q1 e
  · by_cases e0 : k = i
    · subst e0; exact ⟨by omega, fun _ q => absurd q (by omega)⟩
    · by_cases e1 : k = i + 1
      · subst e1; exact ⟨by omega, fun _ q => absurd q (by omega)⟩
      · obtain rfl : k = i + 2 := by omega
        exact ⟨by omega, fun _ _ => h4⟩
theorem dg_X11_tellsImage_0_0 : bqL cX11_tellsImage 0 [(0, [6]), (1, [42]), (2, [180, 0, 59]), (5, [180, 0, 144]), (8, [104]), (9, [6]), (10, [96]), (11, [60]), (12, [42]), (13, [180, 0, 12]), (16, [180, 0, 110]), (19, [27]), (20, [4]), (21, [96]), (22, [160, 0, 22]), (44, [3]), (45, [172]), (25, [42]), (26, [180, 0, 12]), (29, [27]), (30, [182, 1, 12]), (33, [42]), (34, [180, 0, 12]), (37, [27]), (38, [182, 1, 57]), (41, [159, 0, 5]), (46, [42]), (47, [180, 0, 12]), (50, [3]), (51, [182, 1, 12]), (54, [17, 1, 0]), (57, [104]), (58, [42]), (59, [180, 0, 12]), (62, [4]), (63, [182, 1, 12]), (66, [96]), (67, [17, 3, 231]), (70, [163, 0, 16]), (86, [3])] = true := by decide +kernel
theorem dX11_tellsImage_0 : decode cX11_tellsImage 0 = .ok (.iconst 3, 1) := q_iconst3 (bat_get dg_X11_tellsImage_0_0 0 rfl rfl)
theorem dX11_tellsImage_1 : decode cX11_tellsImage 1 = .ok (.aload_n 0, 1) := q_aload_n0 (bat_get dg_X11_tellsImage_0_0 1 rfl rfl)
theorem dX11_tellsImage_2 : decode cX11_tellsImage 2 = .ok (.getfield 59, 3) := q_getfield (bat_get dg_X11_tellsImage_0_0 2 rfl rfl) rfl
theorem dX11_tellsImage_5 : decode cX11_tellsImage 5 = .ok (.getfield 144, 3) := q_getfield (bat_get dg_X11_tellsImage_0_0 3 rfl rfl) rfl
theorem dX11_tellsImage_8 : decode cX11_tellsImage 8 = .ok (.imul, 1) := q_imul (bat_get dg_X11_tellsImage_0_0 4 rfl rfl)
theorem dX11_tellsImage_9 : decode cX11_tellsImage 9 = .ok (.iconst 3, 1) := q_iconst3 (bat_get dg_X11_tellsImage_0_0 5 rfl rfl)
theorem dX11_tellsImage_10 : decode cX11_tellsImage 10 = .ok (.iadd, 1) := q_iadd (bat_get dg_X11_tellsImage_0_0 6 rfl rfl)
theorem dX11_tellsImage_11 : decode cX11_tellsImage 11 = .ok (.istore_n 1, 1) := q_istore_n1 (bat_get dg_X11_tellsImage_0_0 7 rfl rfl)
theorem dX11_tellsImage_12 : decode cX11_tellsImage 12 = .ok (.aload_n 0, 1) := q_aload_n0 (bat_get dg_X11_tellsImage_0_0 8 rfl rfl)
theorem dX11_tellsImage_13 : decode cX11_tellsImage 13 = .ok (.getfield 12, 3) := q_getfield (bat_get dg_X11_tellsImage_0_0 9 rfl rfl) rfl
theorem dX11_tellsImage_16 : decode cX11_tellsImage 16 = .ok (.getfield 110, 3) := q_getfield (bat_get dg_X11_tellsImage_0_0 10 rfl rfl) rfl
theorem dX11_tellsImage_19 : decode cX11_tellsImage 19 = .ok (.iload_n 1, 1) := q_iload_n1 (bat_get dg_X11_tellsImage_0_0 11 rfl rfl)
theorem dX11_tellsImage_20 : decode cX11_tellsImage 20 = .ok (.iconst 1, 1) := q_iconst1 (bat_get dg_X11_tellsImage_0_0 12 rfl rfl)
theorem dX11_tellsImage_21 : decode cX11_tellsImage 21 = .ok (.iadd, 1) := q_iadd (bat_get dg_X11_tellsImage_0_0 13 rfl rfl)
theorem dX11_tellsImage_22 : decode cX11_tellsImage 22 = .ok (.if_icmp .ne 22, 3) := q_if_icmp_ne (bat_get dg_X11_tellsImage_0_0 14 rfl rfl) rfl
theorem dX11_tellsImage_44 : decode cX11_tellsImage 44 = .ok (.iconst 0, 1) := q_iconst0 (bat_get dg_X11_tellsImage_0_0 15 rfl rfl)
theorem dX11_tellsImage_45 : decode cX11_tellsImage 45 = .ok (.ireturn, 1) := q_ireturn (bat_get dg_X11_tellsImage_0_0 16 rfl rfl)
theorem dX11_tellsImage_25 : decode cX11_tellsImage 25 = .ok (.aload_n 0, 1) := q_aload_n0 (bat_get dg_X11_tellsImage_0_0 17 rfl rfl)
theorem dX11_tellsImage_26 : decode cX11_tellsImage 26 = .ok (.getfield 12, 3) := q_getfield (bat_get dg_X11_tellsImage_0_0 18 rfl rfl) rfl
theorem dX11_tellsImage_29 : decode cX11_tellsImage 29 = .ok (.iload_n 1, 1) := q_iload_n1 (bat_get dg_X11_tellsImage_0_0 19 rfl rfl)
theorem dX11_tellsImage_30 : decode cX11_tellsImage 30 = .ok (.invokevirtual 268, 3) := q_invokevirtual (bat_get dg_X11_tellsImage_0_0 20 rfl rfl) rfl
theorem dX11_tellsImage_33 : decode cX11_tellsImage 33 = .ok (.aload_n 0, 1) := q_aload_n0 (bat_get dg_X11_tellsImage_0_0 21 rfl rfl)
theorem dX11_tellsImage_34 : decode cX11_tellsImage 34 = .ok (.getfield 12, 3) := q_getfield (bat_get dg_X11_tellsImage_0_0 22 rfl rfl) rfl
theorem dX11_tellsImage_37 : decode cX11_tellsImage 37 = .ok (.iload_n 1, 1) := q_iload_n1 (bat_get dg_X11_tellsImage_0_0 23 rfl rfl)
theorem dX11_tellsImage_38 : decode cX11_tellsImage 38 = .ok (.invokevirtual 313, 3) := q_invokevirtual (bat_get dg_X11_tellsImage_0_0 24 rfl rfl) rfl
theorem dX11_tellsImage_41 : decode cX11_tellsImage 41 = .ok (.if_icmp .eq 5, 3) := q_if_icmp_eq (bat_get dg_X11_tellsImage_0_0 25 rfl rfl) rfl
theorem dX11_tellsImage_46 : decode cX11_tellsImage 46 = .ok (.aload_n 0, 1) := q_aload_n0 (bat_get dg_X11_tellsImage_0_0 26 rfl rfl)
theorem dX11_tellsImage_47 : decode cX11_tellsImage 47 = .ok (.getfield 12, 3) := q_getfield (bat_get dg_X11_tellsImage_0_0 27 rfl rfl) rfl
theorem dX11_tellsImage_50 : decode cX11_tellsImage 50 = .ok (.iconst 0, 1) := q_iconst0 (bat_get dg_X11_tellsImage_0_0 28 rfl rfl)
theorem dX11_tellsImage_51 : decode cX11_tellsImage 51 = .ok (.invokevirtual 268, 3) := q_invokevirtual (bat_get dg_X11_tellsImage_0_0 29 rfl rfl) rfl
theorem dX11_tellsImage_54 : decode cX11_tellsImage 54 = .ok (.sipush 256, 3) := q_sipush (bat_get dg_X11_tellsImage_0_0 30 rfl rfl) rfl
theorem dX11_tellsImage_57 : decode cX11_tellsImage 57 = .ok (.imul, 1) := q_imul (bat_get dg_X11_tellsImage_0_0 31 rfl rfl)
theorem dX11_tellsImage_58 : decode cX11_tellsImage 58 = .ok (.aload_n 0, 1) := q_aload_n0 (bat_get dg_X11_tellsImage_0_0 32 rfl rfl)
theorem dX11_tellsImage_59 : decode cX11_tellsImage 59 = .ok (.getfield 12, 3) := q_getfield (bat_get dg_X11_tellsImage_0_0 33 rfl rfl) rfl
theorem dX11_tellsImage_62 : decode cX11_tellsImage 62 = .ok (.iconst 1, 1) := q_iconst1 (bat_get dg_X11_tellsImage_0_0 34 rfl rfl)
theorem dX11_tellsImage_63 : decode cX11_tellsImage 63 = .ok (.invokevirtual 268, 3) := q_invokevirtual (bat_get dg_X11_tellsImage_0_0 35 rfl rfl) rfl
theorem dX11_tellsImage_66 : decode cX11_tellsImage 66 = .ok (.iadd, 1) := q_iadd (bat_get dg_X11_tellsImage_0_0 36 rfl rfl)
theorem dX11_tellsImage_67 : decode cX11_tellsImage 67 = .ok (.sipush 999, 3) := q_sipush (bat_get dg_X11_tellsImage_0_0 37 rfl rfl) rfl
theorem dX11_tellsImage_70 : decode cX11_tellsImage 70 = .ok (.if_icmp .gt 16, 3) := q_if_icmp_gt (bat_get dg_X11_tellsImage_0_0 38 rfl rfl) rfl
theorem dX11_tellsImage_86 : decode cX11_tellsImage 86 = .ok (.iconst 0, 1) := q_iconst0 (bat_get dg_X11_tellsImage_0_0 39 rfl rfl)
theorem dg_X11_tellsImage_73_87 : bqL cX11_tellsImage 73 [(14, [172]), (0, [42]), (1, [180, 0, 12]), (4, [5]), (5, [182, 1, 12]), (8, [16, 10]), (10, [161, 0, 5]), (15, [6]), (16, [61]), (17, [28]), (18, [27]), (19, [162, 0, 53]), (72, [4]), (73, [172]), (22, [42]), (23, [180, 0, 12]), (26, [28]), (27, [182, 1, 12]), (30, [16, 10]), (32, [162, 0, 32]), (64, [3]), (65, [172]), (35, [42]), (36, [180, 0, 12]), (39, [28]), (40, [4]), (41, [96]), (42, [182, 1, 12]), (45, [16, 10]), (47, [162, 0, 17]), (50, [42]), (51, [180, 0, 12]), (54, [28]), (55, [5]), (56, [96]), (57, [182, 1, 12]), (60, [4]), (61, [164, 0, 5]), (66, [132, 2, 3]), (69, [167, 255, 204])] = true := by decide +kernel
theorem dX11_tellsImage_87 : decode cX11_tellsImage 87 = .ok (.ireturn, 1) := q_ireturn (bat_get dg_X11_tellsImage_73_87 0 rfl rfl)
theorem dX11_tellsImage_73 : decode cX11_tellsImage 73 = .ok (.aload_n 0, 1) := q_aload_n0 (bat_get dg_X11_tellsImage_73_87 1 rfl rfl)
theorem dX11_tellsImage_74 : decode cX11_tellsImage 74 = .ok (.getfield 12, 3) := q_getfield (bat_get dg_X11_tellsImage_73_87 2 rfl rfl) rfl
theorem dX11_tellsImage_77 : decode cX11_tellsImage 77 = .ok (.iconst 2, 1) := q_iconst2 (bat_get dg_X11_tellsImage_73_87 3 rfl rfl)
theorem dX11_tellsImage_78 : decode cX11_tellsImage 78 = .ok (.invokevirtual 268, 3) := q_invokevirtual (bat_get dg_X11_tellsImage_73_87 4 rfl rfl) rfl
theorem dX11_tellsImage_81 : decode cX11_tellsImage 81 = .ok (.bipush 10, 2) := q_bipush (bat_get dg_X11_tellsImage_73_87 5 rfl rfl) rfl
theorem dX11_tellsImage_83 : decode cX11_tellsImage 83 = .ok (.if_icmp .lt 5, 3) := q_if_icmp_lt (bat_get dg_X11_tellsImage_73_87 6 rfl rfl) rfl
theorem dX11_tellsImage_88 : decode cX11_tellsImage 88 = .ok (.iconst 3, 1) := q_iconst3 (bat_get dg_X11_tellsImage_73_87 7 rfl rfl)
theorem dX11_tellsImage_89 : decode cX11_tellsImage 89 = .ok (.istore_n 2, 1) := q_istore_n2 (bat_get dg_X11_tellsImage_73_87 8 rfl rfl)
theorem dX11_tellsImage_90 : decode cX11_tellsImage 90 = .ok (.iload_n 2, 1) := q_iload_n2 (bat_get dg_X11_tellsImage_73_87 9 rfl rfl)
theorem dX11_tellsImage_91 : decode cX11_tellsImage 91 = .ok (.iload_n 1, 1) := q_iload_n1 (bat_get dg_X11_tellsImage_73_87 10 rfl rfl)
theorem dX11_tellsImage_92 : decode cX11_tellsImage 92 = .ok (.if_icmp .ge 53, 3) := q_if_icmp_ge (bat_get dg_X11_tellsImage_73_87 11 rfl rfl) rfl
theorem dX11_tellsImage_145 : decode cX11_tellsImage 145 = .ok (.iconst 1, 1) := q_iconst1 (bat_get dg_X11_tellsImage_73_87 12 rfl rfl)
theorem dX11_tellsImage_146 : decode cX11_tellsImage 146 = .ok (.ireturn, 1) := q_ireturn (bat_get dg_X11_tellsImage_73_87 13 rfl rfl)
theorem dX11_tellsImage_95 : decode cX11_tellsImage 95 = .ok (.aload_n 0, 1) := q_aload_n0 (bat_get dg_X11_tellsImage_73_87 14 rfl rfl)
theorem dX11_tellsImage_96 : decode cX11_tellsImage 96 = .ok (.getfield 12, 3) := q_getfield (bat_get dg_X11_tellsImage_73_87 15 rfl rfl) rfl
theorem dX11_tellsImage_99 : decode cX11_tellsImage 99 = .ok (.iload_n 2, 1) := q_iload_n2 (bat_get dg_X11_tellsImage_73_87 16 rfl rfl)
theorem dX11_tellsImage_100 : decode cX11_tellsImage 100 = .ok (.invokevirtual 268, 3) := q_invokevirtual (bat_get dg_X11_tellsImage_73_87 17 rfl rfl) rfl
theorem dX11_tellsImage_103 : decode cX11_tellsImage 103 = .ok (.bipush 10, 2) := q_bipush (bat_get dg_X11_tellsImage_73_87 18 rfl rfl) rfl
theorem dX11_tellsImage_105 : decode cX11_tellsImage 105 = .ok (.if_icmp .ge 32, 3) := q_if_icmp_ge (bat_get dg_X11_tellsImage_73_87 19 rfl rfl) rfl
theorem dX11_tellsImage_137 : decode cX11_tellsImage 137 = .ok (.iconst 0, 1) := q_iconst0 (bat_get dg_X11_tellsImage_73_87 20 rfl rfl)
theorem dX11_tellsImage_138 : decode cX11_tellsImage 138 = .ok (.ireturn, 1) := q_ireturn (bat_get dg_X11_tellsImage_73_87 21 rfl rfl)
theorem dX11_tellsImage_108 : decode cX11_tellsImage 108 = .ok (.aload_n 0, 1) := q_aload_n0 (bat_get dg_X11_tellsImage_73_87 22 rfl rfl)
theorem dX11_tellsImage_109 : decode cX11_tellsImage 109 = .ok (.getfield 12, 3) := q_getfield (bat_get dg_X11_tellsImage_73_87 23 rfl rfl) rfl
theorem dX11_tellsImage_112 : decode cX11_tellsImage 112 = .ok (.iload_n 2, 1) := q_iload_n2 (bat_get dg_X11_tellsImage_73_87 24 rfl rfl)
theorem dX11_tellsImage_113 : decode cX11_tellsImage 113 = .ok (.iconst 1, 1) := q_iconst1 (bat_get dg_X11_tellsImage_73_87 25 rfl rfl)
theorem dX11_tellsImage_114 : decode cX11_tellsImage 114 = .ok (.iadd, 1) := q_iadd (bat_get dg_X11_tellsImage_73_87 26 rfl rfl)
theorem dX11_tellsImage_115 : decode cX11_tellsImage 115 = .ok (.invokevirtual 268, 3) := q_invokevirtual (bat_get dg_X11_tellsImage_73_87 27 rfl rfl) rfl
theorem dX11_tellsImage_118 : decode cX11_tellsImage 118 = .ok (.bipush 10, 2) := q_bipush (bat_get dg_X11_tellsImage_73_87 28 rfl rfl) rfl
theorem dX11_tellsImage_120 : decode cX11_tellsImage 120 = .ok (.if_icmp .ge 17, 3) := q_if_icmp_ge (bat_get dg_X11_tellsImage_73_87 29 rfl rfl) rfl
theorem dX11_tellsImage_123 : decode cX11_tellsImage 123 = .ok (.aload_n 0, 1) := q_aload_n0 (bat_get dg_X11_tellsImage_73_87 30 rfl rfl)
theorem dX11_tellsImage_124 : decode cX11_tellsImage 124 = .ok (.getfield 12, 3) := q_getfield (bat_get dg_X11_tellsImage_73_87 31 rfl rfl) rfl
theorem dX11_tellsImage_127 : decode cX11_tellsImage 127 = .ok (.iload_n 2, 1) := q_iload_n2 (bat_get dg_X11_tellsImage_73_87 32 rfl rfl)
theorem dX11_tellsImage_128 : decode cX11_tellsImage 128 = .ok (.iconst 2, 1) := q_iconst2 (bat_get dg_X11_tellsImage_73_87 33 rfl rfl)
theorem dX11_tellsImage_129 : decode cX11_tellsImage 129 = .ok (.iadd, 1) := q_iadd (bat_get dg_X11_tellsImage_73_87 34 rfl rfl)
theorem dX11_tellsImage_130 : decode cX11_tellsImage 130 = .ok (.invokevirtual 268, 3) := q_invokevirtual (bat_get dg_X11_tellsImage_73_87 35 rfl rfl) rfl
theorem dX11_tellsImage_133 : decode cX11_tellsImage 133 = .ok (.iconst 1, 1) := q_iconst1 (bat_get dg_X11_tellsImage_73_87 36 rfl rfl)
theorem dX11_tellsImage_134 : decode cX11_tellsImage 134 = .ok (.if_icmp .le 5, 3) := q_if_icmp_le (bat_get dg_X11_tellsImage_73_87 37 rfl rfl) rfl
theorem dX11_tellsImage_139 : decode cX11_tellsImage 139 = .ok (.iinc 2 3, 3) := q_iinc (bat_get dg_X11_tellsImage_73_87 38 rfl rfl) rfl
theorem dX11_tellsImage_142 : decode cX11_tellsImage 142 = .ok (.goto (-52), 3) := q_goto (bat_get dg_X11_tellsImage_73_87 39 rfl rfl) rfl
theorem w_2_123 : (Cond.fieldLink RX11 12 "SameKeeper" "tape" "LSameKeeper$Tape;") ∈ wsL_law := sk_mem (ck_2 _ (List.mem_of_getElem? (i := 123) rfl)) rfl
theorem w_1_42 : (Cond.fieldLink RX11 110 "SameKeeper$Tape" "length" "I") ∈ wsL_law := sk_mem (ck_1 _ (List.mem_of_getElem? (i := 42) rfl)) rfl
theorem w_4_214 : (Cond.methodLink RX11 268 yX10_left) ∈ wsL_law := sk_mem (ck_4 _ (List.mem_of_getElem? (i := 214) rfl)) rfl
theorem w_5_128 : (Cond.methodLink RX11 313 yX10_checkOf) ∈ wsL_law := sk_mem (ck_5 _ (List.mem_of_getElem? (i := 128) rfl)) rfl
theorem w_5_129 : (Cond.instanceMethod yX10_checkOf) ∈ wsL_law := sk_mem (ck_5 _ (List.mem_of_getElem? (i := 129) rfl)) rfl
theorem w_5_130 : (Cond.selects RX10 yX10_checkOf yX10_checkOf) ∈ wsL_law := sk_mem (ck_5 _ (List.mem_of_getElem? (i := 130) rfl)) rfl
theorem w_5_144 : (Cond.code yX11_tellsImage cX11_tellsImage 3 (some .boolean)) ∈ wsL_law := sk_mem (ck_5 _ (List.mem_of_getElem? (i := 144) rfl)) rfl
def om_4_6 : List Bool := false :: true :: true :: false :: []
theorem hd_X10_checkOf_1 : skD yX10_checkOf 1 := by decide +kernel
set_option maxHeartbeats 4000000 in
set_option maxRecDepth 100000 in
theorem c_x_tellsImage (l : Launch) (D : va_G) (cI cJ cC cZ cS : ClassId) (x0 : Nat) (q : Nat → Nat) (hc : Int32) (dr : Int64) (tl : Nat) (tb : Nat → Nat) (dy : Nat) (mo : Nat) (wk : Int32) (mu : Int32) (ke : Int32) (fb : Nat → Int32) (fw : Nat → Int32) (htl : tl ≤ 1600) (htb : ∀ j, tb j ≤ 255) (hdy : dy ≤ 9) (hmo : mo ≤ 9) : skM l yX11_tellsImage cX11_tellsImage 3 (some .boolean) 2 44 0 0 D (skT cI cJ cC cZ cS) [.ref x0] [(x0, .inr (11, [.ref (q 0), .ref (q 1), .ref (q 2), .ref (q 3), .ref (q 4), .ref (q 5), .ref (q 6), .ref (q 7), .ref (q 8), .ref (q 9), .ref (q 10), .ref (q 11), .ref (q 12), .ref (q 13), .ref (q 14), .int hc, .ref (q 16), .long dr])), (q 0, .inr (10, [.ref (q 20), .int (nI tl)])), (q 20, .inl (cI, 1600, .inl (fun j => nI (tb j)))), (q 7, .inr (7, [.ref (q 33), .ref (q 34), .int (nI dy), .int wk, .int (nI mo), .int mu, .int ke]))] (skI D (skT cI cJ cC cZ cS) (fun (r : Int32) (u : va_W) => ∃ (b : Nat), b ≤ 1 ∧ (b = 1 → tb 2 ≤ 9) ∧ ((b = 0 ∧ ¬ imgO tb tl dy) ∨ (b = 1 ∧ imgO tb tl dy)) ∧ r = nI b ∧ u = [(x0, .inr (11, [.ref (q 0), .ref (q 1), .ref (q 2), .ref (q 3), .ref (q 4), .ref (q 5), .ref (q 6), .ref (q 7), .ref (q 8), .ref (q 9), .ref (q 10), .ref (q 11), .ref (q 12), .ref (q 13), .ref (q 14), .int hc, .ref (q 16), .long dr])), (q 0, .inr (10, [.ref (q 20), .int (nI tl)])), (q 20, .inl (cI, 1600, .inl (fun j => nI (tb j)))), (q 7, .inr (7, [.ref (q 33), .ref (q 34), .int (nI dy), .int wk, .int (nI mo), .int mu, .int ke]))])) := by
  refine skM_of pf_X11_tellsImage (Nat.le_of_ble_eq_true rfl) ?_
  intro p e s m below meth c A ls E hP hD hl
  refine skE_el E (fun hx hb hr hml hlocks hin hown hts hK hA => ?_)
  have hown : s.vm.findClass RX11 = some m.cls := hown
  have hS : va_S A s.heap s.heap [] := va_S.rf
  have hl : lv_has ls 3 [(0, .ref x0)] := hl
  refine lv_iconst (v := 3) hx hb dX11_tellsImage_0 ic_3 ?_
  refine lv_aload_n hx hb dX11_tellsImage_1 rfl (lv_at hl 0 rfl) ?_
  refine sk_get (v := .ref (q 7)) (C := RX11) (T := TX11) (N := 18) hx hb hts inlX11 hown hK hP 0 rfl rfl 7 (Nat.le_of_ble_eq_true rfl) w_2_130 rfl dX11_tellsImage_2 ?_
  refine sk_get (v := .int (nI dy)) (C := RX7) (T := TX7) (N := 7) hx hb hts inlX7 hown hK hP 3 rfl rfl 2 (Nat.le_of_ble_eq_true rfl) w_2_1 rfl dX11_tellsImage_5 ?_
  refine lv_imul hx hb dX11_tellsImage_8 ?_
  refine sk_top (nI (3 * dy)) (nmul 3 dy) ?_
  refine lv_iconst (v := 3) hx hb dX11_tellsImage_9 ic_3 ?_
  refine lv_iadd hx hb dX11_tellsImage_10 ?_
  refine sk_top (nI (3 * dy + 3)) (nI_add (3 * dy) 3) ?_
  refine lv_istore_n (lv' := [(1, .int (nI (3 * dy + 3))), (0, .ref x0)]) hx hb dX11_tellsImage_11 rfl hl (by decide) rfl (fun ls hl => ?_)
  refine lv_aload_n hx hb dX11_tellsImage_12 rfl (lv_at hl 1 rfl) ?_
  refine sk_get (v := .ref (q 0)) (C := RX11) (T := TX11) (N := 18) hx hb hts inlX11 hown hK hP 0 rfl rfl 0 (Nat.le_of_ble_eq_true rfl) w_2_123 rfl dX11_tellsImage_13 ?_
  refine sk_get (v := .int (nI tl)) (C := RX10) (T := TX10) (N := 2) hx hb hts inlX10 hown hK hP 1 rfl rfl 1 (Nat.le_of_ble_eq_true rfl) w_1_42 rfl dX11_tellsImage_16 ?_
  refine lv_iload_n hx hb dX11_tellsImage_19 rfl (lv_at hl 0 rfl) ?_
  refine lv_iconst (v := 1) hx hb dX11_tellsImage_20 ic_1 ?_
  refine lv_iadd hx hb dX11_tellsImage_21 ?_
  refine sk_top (nI (3 * dy + 3 + 1)) (nI_add (3 * dy + 3) 1) ?_
  refine lv_icmp_ne (tgt := 44) hx hb dX11_tellsImage_22 (by decide) (fun c_1 => ?_) (fun c_1 => ?_)
  · have c_1 : ¬ (tl = 3 * dy + 3 + 1) := fun h => c_1 ((neq tl (3 * dy + 3 + 1) (by omega) (by omega)).mpr h)
    refine lv_iconst (v := 0) hx hb dX11_tellsImage_44 ic_0 ?_
    exact sk_iret hx hb hr rfl hlocks hK hP hD hS (⟨0, by omega, by omega, (Or.inl ⟨rfl, fun hq => absurd hq.1 (by omega)⟩), rfl, rfl⟩) (Nat.le_of_ble_eq_true rfl) (Nat.le_of_ble_eq_true rfl) dX11_tellsImage_45
  · have c_1 : tl = 3 * dy + 3 + 1 := (neq tl (3 * dy + 3 + 1) (by omega) (by omega)).mp c_1
    refine lv_aload_n hx hb dX11_tellsImage_25 rfl (lv_at hl 1 rfl) ?_
    refine sk_get (v := .ref (q 0)) (C := RX11) (T := TX11) (N := 18) hx hb hts inlX11 hown hK hP 0 rfl rfl 0 (Nat.le_of_ble_eq_true rfl) w_2_123 rfl dX11_tellsImage_26 ?_
    refine lv_iload_n hx hb dX11_tellsImage_29 rfl (lv_at hl 0 rfl) ?_
    refine sk_Vi (q0 := 0) (n := 1) (rest := []) (wr := fmR om_4_6 _) ⟨hx, hb, hml, hown, hts⟩ hl.1 (c_eTape_left_1600 l D cI cJ cC cZ cS (q 0) (q 20) tl tb (3 * dy + 3) htl htb (by omega)) w_4_214 w_4_215 w_4_216 w_1_2 w_4_217 hd_X10_left_1 ⟨⟨(Nat.le_of_ble_eq_true rfl), (Nat.le_of_ble_eq_true rfl)⟩, (Nat.le_of_ble_eq_true rfl), (Nat.le_of_ble_eq_true rfl)⟩ hK hP hD hS hA (fmT om_4_6 0) (fmF om_4_6 0) (fm_C1 rfl rfl) (fm_R rfl rfl) (fm_nT om_4_6 0) (fm_nF om_4_6 0) (fm_di om_4_6 0) rfl rfl rfl rfl (Nat.le_of_ble_eq_true rfl) dX11_tellsImage_30 (fun r_2 u H locs hw hP hD hS => ?_)
    refine anE hw (fun hv_3 hw1 => anE hw1 (fun er_5 eu_4 => ?_))
    clear hw hw1
    subst er_5
    refine o_mgE (ws' := [(x0, .inr (11, [.ref (q 0), .ref (q 1), .ref (q 2), .ref (q 3), .ref (q 4), .ref (q 5), .ref (q 6), .ref (q 7), .ref (q 8), .ref (q 9), .ref (q 10), .ref (q 11), .ref (q 12), .ref (q 13), .ref (q 14), .int hc, .ref (q 16), .long dr])), (q 0, .inr (10, [.ref (q 20), .int (nI tl)])), (q 20, .inl (cI, 1600, .inl (fun j => nI (tb j)))), (q 7, .inr (7, [.ref (q 33), .ref (q 34), .int (nI dy), .int wk, .int (nI mo), .int mu, .int ke]))]) eu_4 hP hD rfl (fun hP hD => ?_)
    refine lv_aload_n hx hb dX11_tellsImage_33 rfl (lv_at hl 1 rfl) ?_
    refine sk_get (v := .ref (q 0)) (C := RX11) (T := TX11) (N := 18) hx hb hts inlX11 hown hK hP 0 rfl rfl 0 (Nat.le_of_ble_eq_true rfl) w_2_123 rfl dX11_tellsImage_34 ?_
    refine lv_iload_n hx hb dX11_tellsImage_37 rfl (lv_at hl 0 rfl) ?_
    refine sk_Vi (q0 := 0) (n := 1) (rest := [.int (nI (tb (3 * dy + 3)))]) (wr := fmR om_4_6 _) ⟨hx, hb, hml, hown, hts⟩ hl.1 (c_eTape_checkOf_1600 l D cI cJ cC cZ cS (q 0) (q 20) tl tb (3 * dy + 3) htl htb (by omega)) w_5_128 w_5_129 w_5_130 w_1_2 w_5_131 hd_X10_checkOf_1 ⟨⟨(Nat.le_of_ble_eq_true rfl), (Nat.le_of_ble_eq_true rfl)⟩, (Nat.le_of_ble_eq_true rfl), (Nat.le_of_ble_eq_true rfl)⟩ hK hP hD hS hA (fmT om_4_6 0) (fmF om_4_6 0) (fm_C1 rfl rfl) (fm_R rfl rfl) (fm_nT om_4_6 0) (fm_nF om_4_6 0) (fm_di om_4_6 0) rfl rfl rfl rfl (Nat.le_of_ble_eq_true rfl) dX11_tellsImage_38 (fun r_7 u H locs hw hP hD hS => ?_)
    refine exE hw (fun ck2_6 hw1 => anE hw1 (fun hck_8 hw2 => anE hw2 (fun hck9_9 hw3 => anE hw3 (fun er_11 eu_10 => ?_))))
    clear hw hw1 hw2 hw3
    subst er_11
    refine o_mgE (ws' := [(x0, .inr (11, [.ref (q 0), .ref (q 1), .ref (q 2), .ref (q 3), .ref (q 4), .ref (q 5), .ref (q 6), .ref (q 7), .ref (q 8), .ref (q 9), .ref (q 10), .ref (q 11), .ref (q 12), .ref (q 13), .ref (q 14), .int hc, .ref (q 16), .long dr])), (q 0, .inr (10, [.ref (q 20), .int (nI tl)])), (q 20, .inl (cI, 1600, .inl (fun j => nI (tb j)))), (q 7, .inr (7, [.ref (q 33), .ref (q 34), .int (nI dy), .int wk, .int (nI mo), .int mu, .int ke]))]) eu_10 hP hD rfl (fun hP hD => ?_)
    refine lv_icmp_eq (tgt := 46) hx hb dX11_tellsImage_41 (by decide) (fun c_12 => ?_) (fun c_12 => ?_)
    · have c_12 : tb (3 * dy + 3) = ck2_6 := (neq (tb (3 * dy + 3)) ck2_6 (by omega) (by omega)).mp c_12
      refine lv_aload_n hx hb dX11_tellsImage_46 rfl (lv_at hl 1 rfl) ?_
      refine sk_get (v := .ref (q 0)) (C := RX11) (T := TX11) (N := 18) hx hb hts inlX11 hown hK hP 0 rfl rfl 0 (Nat.le_of_ble_eq_true rfl) w_2_123 rfl dX11_tellsImage_47 ?_
      refine lv_iconst (v := 0) hx hb dX11_tellsImage_50 ic_0 ?_
      refine sk_Vi (q0 := 0) (n := 1) (rest := []) (wr := fmR om_4_6 _) ⟨hx, hb, hml, hown, hts⟩ hl.1 (c_eTape_left_1600 l D cI cJ cC cZ cS (q 0) (q 20) tl tb 0 htl htb (by omega)) w_4_214 w_4_215 w_4_216 w_1_2 w_4_217 hd_X10_left_1 ⟨⟨(Nat.le_of_ble_eq_true rfl), (Nat.le_of_ble_eq_true rfl)⟩, (Nat.le_of_ble_eq_true rfl), (Nat.le_of_ble_eq_true rfl)⟩ hK hP hD hS hA (fmT om_4_6 0) (fmF om_4_6 0) (fm_C1 rfl rfl) (fm_R rfl rfl) (fm_nT om_4_6 0) (fm_nF om_4_6 0) (fm_di om_4_6 0) rfl rfl rfl rfl (Nat.le_of_ble_eq_true rfl) dX11_tellsImage_51 (fun r_13 u H locs hw hP hD hS => ?_)
      refine anE hw (fun hv_14 hw1 => anE hw1 (fun er_16 eu_15 => ?_))
      clear hw hw1
      subst er_16
      refine o_mgE (ws' := [(x0, .inr (11, [.ref (q 0), .ref (q 1), .ref (q 2), .ref (q 3), .ref (q 4), .ref (q 5), .ref (q 6), .ref (q 7), .ref (q 8), .ref (q 9), .ref (q 10), .ref (q 11), .ref (q 12), .ref (q 13), .ref (q 14), .int hc, .ref (q 16), .long dr])), (q 0, .inr (10, [.ref (q 20), .int (nI tl)])), (q 20, .inl (cI, 1600, .inl (fun j => nI (tb j)))), (q 7, .inr (7, [.ref (q 33), .ref (q 34), .int (nI dy), .int wk, .int (nI mo), .int mu, .int ke]))]) eu_15 hP hD rfl (fun hP hD => ?_)
      refine lv_sipush (v := 256) hx hb dX11_tellsImage_54 (by decide) ?_
      refine lv_imul hx hb dX11_tellsImage_57 ?_
      refine sk_top (nI ((tb 0) * 256)) (nmul (tb 0) 256) ?_
      refine lv_aload_n hx hb dX11_tellsImage_58 rfl (lv_at hl 1 rfl) ?_
      refine sk_get (v := .ref (q 0)) (C := RX11) (T := TX11) (N := 18) hx hb hts inlX11 hown hK hP 0 rfl rfl 0 (Nat.le_of_ble_eq_true rfl) w_2_123 rfl dX11_tellsImage_59 ?_
      refine lv_iconst (v := 1) hx hb dX11_tellsImage_62 ic_1 ?_
      refine sk_Vi (q0 := 0) (n := 1) (rest := [.int (nI ((tb 0) * 256))]) (wr := fmR om_4_6 _) ⟨hx, hb, hml, hown, hts⟩ hl.1 (c_eTape_left_1600 l D cI cJ cC cZ cS (q 0) (q 20) tl tb 1 htl htb (by omega)) w_4_214 w_4_215 w_4_216 w_1_2 w_4_217 hd_X10_left_1 ⟨⟨(Nat.le_of_ble_eq_true rfl), (Nat.le_of_ble_eq_true rfl)⟩, (Nat.le_of_ble_eq_true rfl), (Nat.le_of_ble_eq_true rfl)⟩ hK hP hD hS hA (fmT om_4_6 0) (fmF om_4_6 0) (fm_C1 rfl rfl) (fm_R rfl rfl) (fm_nT om_4_6 0) (fm_nF om_4_6 0) (fm_di om_4_6 0) rfl rfl rfl rfl (Nat.le_of_ble_eq_true rfl) dX11_tellsImage_63 (fun r_17 u H locs hw hP hD hS => ?_)
      refine anE hw (fun hv_18 hw1 => anE hw1 (fun er_20 eu_19 => ?_))
      clear hw hw1
      subst er_20
      refine o_mgE (ws' := [(x0, .inr (11, [.ref (q 0), .ref (q 1), .ref (q 2), .ref (q 3), .ref (q 4), .ref (q 5), .ref (q 6), .ref (q 7), .ref (q 8), .ref (q 9), .ref (q 10), .ref (q 11), .ref (q 12), .ref (q 13), .ref (q 14), .int hc, .ref (q 16), .long dr])), (q 0, .inr (10, [.ref (q 20), .int (nI tl)])), (q 20, .inl (cI, 1600, .inl (fun j => nI (tb j)))), (q 7, .inr (7, [.ref (q 33), .ref (q 34), .int (nI dy), .int wk, .int (nI mo), .int mu, .int ke]))]) eu_19 hP hD rfl (fun hP hD => ?_)
      refine lv_iadd hx hb dX11_tellsImage_66 ?_
      refine sk_top (nI ((tb 0) * 256 + (tb 1))) (nI_add ((tb 0) * 256) (tb 1)) ?_
      refine lv_sipush (v := 999) hx hb dX11_tellsImage_67 (by decide) ?_
      refine lv_icmp_gt (tgt := 86) hx hb dX11_tellsImage_70 (by decide) (fun c_21 => ?_) (fun c_21 => ?_)
      · have c_21 : 999 < (tb 0) * 256 + (tb 1) := (nlt 999 ((tb 0) * 256 + (tb 1)) (Nat.le_of_ble_eq_true rfl) (by omega)).mp c_21
        refine lv_iconst (v := 0) hx hb dX11_tellsImage_86 ic_0 ?_
        exact sk_iret hx hb hr rfl hlocks hK hP hD hS (⟨0, by omega, by omega, (Or.inl ⟨rfl, fun hq => by have h9 := hq.2.2.1; have h8 := (hq.2.2.2 2 (by omega) (by omega)).1; omega⟩), rfl, rfl⟩) (Nat.le_of_ble_eq_true rfl) (Nat.le_of_ble_eq_true rfl) dX11_tellsImage_87
      · have c_21 : ¬ (999 < (tb 0) * 256 + (tb 1)) := fun h => c_21 ((nlt 999 ((tb 0) * 256 + (tb 1)) (Nat.le_of_ble_eq_true rfl) (by omega)).mpr h)
        refine lv_aload_n hx hb dX11_tellsImage_73 rfl (lv_at hl 1 rfl) ?_
        refine sk_get (v := .ref (q 0)) (C := RX11) (T := TX11) (N := 18) hx hb hts inlX11 hown hK hP 0 rfl rfl 0 (Nat.le_of_ble_eq_true rfl) w_2_123 rfl dX11_tellsImage_74 ?_
        refine lv_iconst (v := 2) hx hb dX11_tellsImage_77 ic_2 ?_
        refine sk_Vi (q0 := 0) (n := 1) (rest := []) (wr := fmR om_4_6 _) ⟨hx, hb, hml, hown, hts⟩ hl.1 (c_eTape_left_1600 l D cI cJ cC cZ cS (q 0) (q 20) tl tb 2 htl htb (by omega)) w_4_214 w_4_215 w_4_216 w_1_2 w_4_217 hd_X10_left_1 ⟨⟨(Nat.le_of_ble_eq_true rfl), (Nat.le_of_ble_eq_true rfl)⟩, (Nat.le_of_ble_eq_true rfl), (Nat.le_of_ble_eq_true rfl)⟩ hK hP hD hS hA (fmT om_4_6 0) (fmF om_4_6 0) (fm_C1 rfl rfl) (fm_R rfl rfl) (fm_nT om_4_6 0) (fm_nF om_4_6 0) (fm_di om_4_6 0) rfl rfl rfl rfl (Nat.le_of_ble_eq_true rfl) dX11_tellsImage_78 (fun r_22 u H locs hw hP hD hS => ?_)
        refine anE hw (fun hv_23 hw1 => anE hw1 (fun er_25 eu_24 => ?_))
        clear hw hw1
        subst er_25
        refine o_mgE (ws' := [(x0, .inr (11, [.ref (q 0), .ref (q 1), .ref (q 2), .ref (q 3), .ref (q 4), .ref (q 5), .ref (q 6), .ref (q 7), .ref (q 8), .ref (q 9), .ref (q 10), .ref (q 11), .ref (q 12), .ref (q 13), .ref (q 14), .int hc, .ref (q 16), .long dr])), (q 0, .inr (10, [.ref (q 20), .int (nI tl)])), (q 20, .inl (cI, 1600, .inl (fun j => nI (tb j)))), (q 7, .inr (7, [.ref (q 33), .ref (q 34), .int (nI dy), .int wk, .int (nI mo), .int mu, .int ke]))]) eu_24 hP hD rfl (fun hP hD => ?_)
        refine lv_bipush (v := 10) hx hb dX11_tellsImage_81 (by decide) ?_
        refine lv_icmp_lt (tgt := 88) hx hb dX11_tellsImage_83 (by decide) (fun c_26 => ?_) (fun c_26 => ?_)
        · have c_26 : tb 2 < 10 := (nlt (tb 2) 10 (by omega) (Nat.le_of_ble_eq_true rfl)).mp c_26
          refine lv_iconst (v := 3) hx hb dX11_tellsImage_88 ic_3 ?_
          refine lv_istore_n (lv' := [(2, .int 3), (1, .int (nI (3 * dy + 3))), (0, .ref x0)]) hx hb dX11_tellsImage_89 rfl hl (by decide) rfl (fun ls hl => ?_)
          have lp_27 : ∀ (n_28 : Nat) (i : Nat) (H : Heap) (locs : List Loc) (ls : Array Slot), 40 - i < n_28 → (i ≤ 3 * dy + 3) → (i % 3 = 0) → (3 ≤ i) → (imgK tb i) → va_P D vwCl [(x0, .inr (11, [.ref (q 0), .ref (q 1), .ref (q 2), .ref (q 3), .ref (q 4), .ref (q 5), .ref (q 6), .ref (q 7), .ref (q 8), .ref (q 9), .ref (q 10), .ref (q 11), .ref (q 12), .ref (q 13), .ref (q 14), .int hc, .ref (q 16), .long dr])), (q 0, .inr (10, [.ref (q 20), .int (nI tl)])), (q 20, .inl (cI, 1600, .inl (fun j => nI (tb j)))), (q 7, .inr (7, [.ref (q 33), .ref (q 34), .int (nI dy), .int wk, .int (nI mo), .int mu, .int ke]))] H → va_D A [(x0, .inr (11, [.ref (q 0), .ref (q 1), .ref (q 2), .ref (q 3), .ref (q 4), .ref (q 5), .ref (q 6), .ref (q 7), .ref (q 8), .ref (q 9), .ref (q 10), .ref (q 11), .ref (q 12), .ref (q 13), .ref (q 14), .int hc, .ref (q 16), .long dr])), (q 0, .inr (10, [.ref (q 20), .int (nI tl)])), (q 20, .inl (cI, 1600, .inl (fun j => nI (tb j)))), (q 7, .inr (7, [.ref (q 33), .ref (q 34), .int (nI dy), .int wk, .int (nI mo), .int mu, .int ke]))] → va_S A s.heap H locs → lv_has ls 3 [(2, .int (nI i)), (1, .int (nI (3 * dy + 3))), (0, .ref x0)] → W p l e { frames := 2, cells := 0, slots := 0, locals := 44 } s m ([.ref x0] : List Value).toArray below meth c H locs 0 0 (MQ below (skI D (skT cI cJ cC cZ cS) (fun (r : Int32) (u : va_W) => ∃ (b : Nat), b ≤ 1 ∧ (b = 1 → tb 2 ≤ 9) ∧ ((b = 0 ∧ ¬ imgO tb tl dy) ∨ (b = 1 ∧ imgO tb tl dy)) ∧ r = nI b ∧ u = [(x0, .inr (11, [.ref (q 0), .ref (q 1), .ref (q 2), .ref (q 3), .ref (q 4), .ref (q 5), .ref (q 6), .ref (q 7), .ref (q 8), .ref (q 9), .ref (q 10), .ref (q 11), .ref (q 12), .ref (q 13), .ref (q 14), .int hc, .ref (q 16), .long dr])), (q 0, .inr (10, [.ref (q 20), .int (nI tl)])), (q 20, .inl (cI, 1600, .inl (fun j => nI (tb j)))), (q 7, .inr (7, [.ref (q 33), .ref (q 34), .int (nI dy), .int wk, .int (nI mo), .int mu, .int ke]))]) A) ([.ref x0] : List Value).toArray s 0 0 A) (F0 m 90 ls []) := by
            intro n_28
            induction n_28 with
            | zero => intro i H locs ls hm; exact absurd hm (Nat.not_lt_zero _)
            | succ n_28 ih_lp_27 =>
              intro i H locs ls hm hi hi3 hi4 hal hP hD hS hl
              refine lv_iload_n hx hb dX11_tellsImage_90 rfl (lv_at hl 0 rfl) ?_
              refine lv_iload_n hx hb dX11_tellsImage_91 rfl (lv_at hl 1 rfl) ?_
              refine lv_icmp_ge (tgt := 145) hx hb dX11_tellsImage_92 (by decide) (fun c_29 => ?_) (fun c_29 => ?_)
              · have c_29 : 3 * dy + 3 ≤ i := (nle (3 * dy + 3) i (by omega) (by omega)).mp c_29
                refine lv_iconst (v := 1) hx hb dX11_tellsImage_145 ic_1 ?_
                exact sk_iret hx hb hr rfl hlocks hK hP hD hS (⟨1, by omega, by omega, (Or.inr ⟨rfl, by omega, by omega, by omega, fun k h1 h2 => hal k h1 (by omega)⟩), rfl, rfl⟩) (Nat.le_of_ble_eq_true rfl) (Nat.le_of_ble_eq_true rfl) dX11_tellsImage_146
              · have c_29 : ¬ (3 * dy + 3 ≤ i) := fun h => c_29 ((nle (3 * dy + 3) i (by omega) (by omega)).mpr h)
                refine lv_aload_n hx hb dX11_tellsImage_95 rfl (lv_at hl 2 rfl) ?_
                refine sk_get (v := .ref (q 0)) (C := RX11) (T := TX11) (N := 18) hx hb hts inlX11 hown hK hP 0 rfl rfl 0 (Nat.le_of_ble_eq_true rfl) w_2_123 rfl dX11_tellsImage_96 ?_
                refine lv_iload_n hx hb dX11_tellsImage_99 rfl (lv_at hl 0 rfl) ?_
                refine sk_Vi (q0 := 0) (n := 1) (rest := []) (wr := fmR om_4_6 _) ⟨hx, hb, hml, hown, hts⟩ hl.1 (c_eTape_left_1600 l D cI cJ cC cZ cS (q 0) (q 20) tl tb i htl htb (by omega)) w_4_214 w_4_215 w_4_216 w_1_2 w_4_217 hd_X10_left_1 ⟨⟨(Nat.le_of_ble_eq_true rfl), (Nat.le_of_ble_eq_true rfl)⟩, (Nat.le_of_ble_eq_true rfl), (Nat.le_of_ble_eq_true rfl)⟩ hK hP hD hS hA (fmT om_4_6 0) (fmF om_4_6 0) (fm_C1 rfl rfl) (fm_R rfl rfl) (fm_nT om_4_6 0) (fm_nF om_4_6 0) (fm_di om_4_6 0) rfl rfl rfl rfl (Nat.le_of_ble_eq_true rfl) dX11_tellsImage_100 (fun r_30 u H locs hw hP hD hS => ?_)
                refine anE hw (fun hv_31 hw1 => anE hw1 (fun er_33 eu_32 => ?_))
                clear hw hw1
                subst er_33
                refine o_mgE (ws' := [(x0, .inr (11, [.ref (q 0), .ref (q 1), .ref (q 2), .ref (q 3), .ref (q 4), .ref (q 5), .ref (q 6), .ref (q 7), .ref (q 8), .ref (q 9), .ref (q 10), .ref (q 11), .ref (q 12), .ref (q 13), .ref (q 14), .int hc, .ref (q 16), .long dr])), (q 0, .inr (10, [.ref (q 20), .int (nI tl)])), (q 20, .inl (cI, 1600, .inl (fun j => nI (tb j)))), (q 7, .inr (7, [.ref (q 33), .ref (q 34), .int (nI dy), .int wk, .int (nI mo), .int mu, .int ke]))]) eu_32 hP hD rfl (fun hP hD => ?_)
                refine lv_bipush (v := 10) hx hb dX11_tellsImage_103 (by decide) ?_
                refine lv_icmp_ge (tgt := 137) hx hb dX11_tellsImage_105 (by decide) (fun c_34 => ?_) (fun c_34 => ?_)
                · have c_34 : 10 ≤ tb i := (nle 10 (tb i) (Nat.le_of_ble_eq_true rfl) (by omega)).mp c_34
                  refine lv_iconst (v := 0) hx hb dX11_tellsImage_137 ic_0 ?_
                  exact sk_iret hx hb hr rfl hlocks hK hP hD hS (⟨0, by omega, by omega, (Or.inl ⟨rfl, fun hq => by have h7 := (hq.2.2.2 i (by omega) (by omega)).1; have h8 := (hq.2.2.2 (i + 1) (by omega) (by omega)).1; have h9 := (hq.2.2.2 (i + 2) (by omega) (by omega)).2 (by omega) (by omega); omega⟩), rfl, rfl⟩) (Nat.le_of_ble_eq_true rfl) (Nat.le_of_ble_eq_true rfl) dX11_tellsImage_138
                · have c_34 : ¬ (10 ≤ tb i) := fun h => c_34 ((nle 10 (tb i) (Nat.le_of_ble_eq_true rfl) (by omega)).mpr h)
                  refine lv_aload_n hx hb dX11_tellsImage_108 rfl (lv_at hl 2 rfl) ?_
                  refine sk_get (v := .ref (q 0)) (C := RX11) (T := TX11) (N := 18) hx hb hts inlX11 hown hK hP 0 rfl rfl 0 (Nat.le_of_ble_eq_true rfl) w_2_123 rfl dX11_tellsImage_109 ?_
                  refine lv_iload_n hx hb dX11_tellsImage_112 rfl (lv_at hl 0 rfl) ?_
                  refine lv_iconst (v := 1) hx hb dX11_tellsImage_113 ic_1 ?_
                  refine lv_iadd hx hb dX11_tellsImage_114 ?_
                  refine sk_top (nI (i + 1)) (nI_add i 1) ?_
                  refine sk_Vi (q0 := 0) (n := 1) (rest := []) (wr := fmR om_4_6 _) ⟨hx, hb, hml, hown, hts⟩ hl.1 (c_eTape_left_1600 l D cI cJ cC cZ cS (q 0) (q 20) tl tb (i + 1) htl htb (by omega)) w_4_214 w_4_215 w_4_216 w_1_2 w_4_217 hd_X10_left_1 ⟨⟨(Nat.le_of_ble_eq_true rfl), (Nat.le_of_ble_eq_true rfl)⟩, (Nat.le_of_ble_eq_true rfl), (Nat.le_of_ble_eq_true rfl)⟩ hK hP hD hS hA (fmT om_4_6 0) (fmF om_4_6 0) (fm_C1 rfl rfl) (fm_R rfl rfl) (fm_nT om_4_6 0) (fm_nF om_4_6 0) (fm_di om_4_6 0) rfl rfl rfl rfl (Nat.le_of_ble_eq_true rfl) dX11_tellsImage_115 (fun r_35 u H locs hw hP hD hS => ?_)
                  refine anE hw (fun hv_36 hw1 => anE hw1 (fun er_38 eu_37 => ?_))
                  clear hw hw1
                  subst er_38
                  refine o_mgE (ws' := [(x0, .inr (11, [.ref (q 0), .ref (q 1), .ref (q 2), .ref (q 3), .ref (q 4), .ref (q 5), .ref (q 6), .ref (q 7), .ref (q 8), .ref (q 9), .ref (q 10), .ref (q 11), .ref (q 12), .ref (q 13), .ref (q 14), .int hc, .ref (q 16), .long dr])), (q 0, .inr (10, [.ref (q 20), .int (nI tl)])), (q 20, .inl (cI, 1600, .inl (fun j => nI (tb j)))), (q 7, .inr (7, [.ref (q 33), .ref (q 34), .int (nI dy), .int wk, .int (nI mo), .int mu, .int ke]))]) eu_37 hP hD rfl (fun hP hD => ?_)
                  refine lv_bipush (v := 10) hx hb dX11_tellsImage_118 (by decide) ?_
                  refine lv_icmp_ge (tgt := 137) hx hb dX11_tellsImage_120 (by decide) (fun c_39 => ?_) (fun c_39 => ?_)
                  · have c_39 : 10 ≤ tb (i + 1) := (nle 10 (tb (i + 1)) (Nat.le_of_ble_eq_true rfl) (by omega)).mp c_39
                    refine lv_iconst (v := 0) hx hb dX11_tellsImage_137 ic_0 ?_
                    exact sk_iret hx hb hr rfl hlocks hK hP hD hS (⟨0, by omega, by omega, (Or.inl ⟨rfl, fun hq => by have h7 := (hq.2.2.2 i (by omega) (by omega)).1; have h8 := (hq.2.2.2 (i + 1) (by omega) (by omega)).1; have h9 := (hq.2.2.2 (i + 2) (by omega) (by omega)).2 (by omega) (by omega); omega⟩), rfl, rfl⟩) (Nat.le_of_ble_eq_true rfl) (Nat.le_of_ble_eq_true rfl) dX11_tellsImage_138
                  · have c_39 : ¬ (10 ≤ tb (i + 1)) := fun h => c_39 ((nle 10 (tb (i + 1)) (Nat.le_of_ble_eq_true rfl) (by omega)).mpr h)
                    refine lv_aload_n hx hb dX11_tellsImage_123 rfl (lv_at hl 2 rfl) ?_
                    refine sk_get (v := .ref (q 0)) (C := RX11) (T := TX11) (N := 18) hx hb hts inlX11 hown hK hP 0 rfl rfl 0 (Nat.le_of_ble_eq_true rfl) w_2_123 rfl dX11_tellsImage_124 ?_
                    refine lv_iload_n hx hb dX11_tellsImage_127 rfl (lv_at hl 0 rfl) ?_
                    refine lv_iconst (v := 2) hx hb dX11_tellsImage_128 ic_2 ?_
                    refine lv_iadd hx hb dX11_tellsImage_129 ?_
                    refine sk_top (nI (i + 2)) (nI_add i 2) ?_
                    refine sk_Vi (q0 := 0) (n := 1) (rest := []) (wr := fmR om_4_6 _) ⟨hx, hb, hml, hown, hts⟩ hl.1 (c_eTape_left_1600 l D cI cJ cC cZ cS (q 0) (q 20) tl tb (i + 2) htl htb (by omega)) w_4_214 w_4_215 w_4_216 w_1_2 w_4_217 hd_X10_left_1 ⟨⟨(Nat.le_of_ble_eq_true rfl), (Nat.le_of_ble_eq_true rfl)⟩, (Nat.le_of_ble_eq_true rfl), (Nat.le_of_ble_eq_true rfl)⟩ hK hP hD hS hA (fmT om_4_6 0) (fmF om_4_6 0) (fm_C1 rfl rfl) (fm_R rfl rfl) (fm_nT om_4_6 0) (fm_nF om_4_6 0) (fm_di om_4_6 0) rfl rfl rfl rfl (Nat.le_of_ble_eq_true rfl) dX11_tellsImage_130 (fun r_40 u H locs hw hP hD hS => ?_)
                    refine anE hw (fun hv_41 hw1 => anE hw1 (fun er_43 eu_42 => ?_))
                    clear hw hw1
                    subst er_43
                    refine o_mgE (ws' := [(x0, .inr (11, [.ref (q 0), .ref (q 1), .ref (q 2), .ref (q 3), .ref (q 4), .ref (q 5), .ref (q 6), .ref (q 7), .ref (q 8), .ref (q 9), .ref (q 10), .ref (q 11), .ref (q 12), .ref (q 13), .ref (q 14), .int hc, .ref (q 16), .long dr])), (q 0, .inr (10, [.ref (q 20), .int (nI tl)])), (q 20, .inl (cI, 1600, .inl (fun j => nI (tb j)))), (q 7, .inr (7, [.ref (q 33), .ref (q 34), .int (nI dy), .int wk, .int (nI mo), .int mu, .int ke]))]) eu_42 hP hD rfl (fun hP hD => ?_)
                    refine lv_iconst (v := 1) hx hb dX11_tellsImage_133 ic_1 ?_
                    refine lv_icmp_le (tgt := 139) hx hb dX11_tellsImage_134 (by decide) (fun c_44 => ?_) (fun c_44 => ?_)
                    · have c_44 : tb (i + 2) ≤ 1 := (nle (tb (i + 2)) 1 (by omega) (Nat.le_of_ble_eq_true rfl)).mp c_44
                      refine lv_iinc (v := nI (i + 3)) (lv' := [(2, .int (nI (i + 3))), (1, .int (nI (3 * dy + 3))), (0, .ref x0)]) hx hb dX11_tellsImage_139 hl (k := 0) rfl (ninc i 3 (by decide)) (by decide) rfl (fun ls hl => ?_)
                      refine lv_goto (tgt := 90) hx hb dX11_tellsImage_142 (by decide) ?_
                      exact ih_lp_27 (i + 3) _ _ _ (by omega) (by omega) (by omega) (by omega) (imgK_s hal hi3 (by omega) (by omega) (by omega)) hP hD hS (lv_sub hl [0, 1, 2] rfl)
                    · have c_44 : ¬ (tb (i + 2) ≤ 1) := fun h => c_44 ((nle (tb (i + 2)) 1 (by omega) (Nat.le_of_ble_eq_true rfl)).mpr h)
                      refine lv_iconst (v := 0) hx hb dX11_tellsImage_137 ic_0 ?_
                      exact sk_iret hx hb hr rfl hlocks hK hP hD hS (⟨0, by omega, by omega, (Or.inl ⟨rfl, fun hq => by have h7 := (hq.2.2.2 i (by omega) (by omega)).1; have h8 := (hq.2.2.2 (i + 1) (by omega) (by omega)).1; have h9 := (hq.2.2.2 (i + 2) (by omega) (by omega)).2 (by omega) (by omega); omega⟩), rfl, rfl⟩) (Nat.le_of_ble_eq_true rfl) (Nat.le_of_ble_eq_true rfl) dX11_tellsImage_138
          exact lp_27 (40 - 3 + 1) 3 _ _ _ (Nat.lt_succ_self _) (by omega) (by omega) (by omega) (imgK_0 (by omega)) hP hD hS (lv_sub hl [0, 1, 2] rfl)
        · have c_26 : ¬ (tb 2 < 10) := fun h => c_26 ((nlt (tb 2) 10 (by omega) (Nat.le_of_ble_eq_true rfl)).mpr h)
          refine lv_iconst (v := 0) hx hb dX11_tellsImage_86 ic_0 ?_
          exact sk_iret hx hb hr rfl hlocks hK hP hD hS (⟨0, by omega, by omega, (Or.inl ⟨rfl, fun hq => by have h9 := hq.2.2.1; have h8 := (hq.2.2.2 2 (by omega) (by omega)).1; omega⟩), rfl, rfl⟩) (Nat.le_of_ble_eq_true rfl) (Nat.le_of_ble_eq_true rfl) dX11_tellsImage_87
    · have c_12 : ¬ (tb (3 * dy + 3) = ck2_6) := fun h => c_12 ((neq (tb (3 * dy + 3)) ck2_6 (by omega) (by omega)).mpr h)
      refine lv_iconst (v := 0) hx hb dX11_tellsImage_44 ic_0 ?_
      exact sk_iret hx hb hr rfl hlocks hK hP hD hS (⟨0, by omega, by omega, (Or.inl ⟨rfl, fun hq => by have h9 := hq.2.1; omega⟩), rfl, rfl⟩) (Nat.le_of_ble_eq_true rfl) (Nat.le_of_ble_eq_true rfl) dX11_tellsImage_45
def lkRs (P : Except Err (LkS × Nat)) (r : Int32) (dy dy2 : Nat) (xf xp : Int32) : Prop := match P with
  | .ok x => r = nI x.2 ∧ dy2 = lD x.1 ∧ xf = 0 ∧ xp = -1
  | .error e => r = -1 ∧ dy2 = dy ∧ xf = nI e.1 ∧ xp = nI e.2
theorem lD_un (L : LkS) (w : Nat) : lD (untS L w) = lD L := by
  unfold untS
  split <;> rfl
theorem lD_F (L : LkS) : lD (lkF L) = lD L := by
  show lD (untS (untS (untS L 0) 1) 2) = _
  rw [lD_un, lD_un, lD_un]
theorem lrs_ok {tb : Nat → Nat} {n : Nat} {xf xp : Int32} {jn jd jm : Nat} {ju jr : Int32} {jc jx : Nat} {j1 jf jt jb jw : Nat → Int32} {dy : Nat} (h : finO tb n xf xp jn jd jm ju jr jc jx j1 jf jt jb jw) (hf : xf = 0) : lkRs (lockP tb n) (nI jn) dy jd xf xp := by
  unfold finO at h
  unfold lkRs
  cases hP : lockP tb n with
  | error e =>
    rw [hP] at h
    have h0 : xf = nI e.1 ∧ xp = nI e.2 ∧ 1 ≤ e.1 ∧ e.1 ≤ 5 ∧ e.2 ≤ 1700 := h
    have h1 := (neq e.1 0 (by omega) (Nat.le_of_ble_eq_true rfl)).mp (h0.1.symm.trans hf)
    omega
  | ok r =>
    rw [hP] at h
    have h0 : xf = 0 ∧ xp = -1 ∧ jn = r.2 ∧ lkC (lkF r.1) jd jm ju jr jc jx j1 jf jt jb jw := h
    exact ⟨by rw [h0.2.2.1], h0.2.2.2.1.trans (lD_F r.1), h0.1, h0.2.1⟩
theorem lrs_er {tb : Nat → Nat} {n : Nat} {xf xp : Int32} {jn jd jm : Nat} {ju jr : Int32} {jc jx : Nat} {j1 jf jt jb jw : Nat → Int32} {dy : Nat} (h : finO tb n xf xp jn jd jm ju jr jc jx j1 jf jt jb jw) (hf : ¬ xf = 0) : lkRs (lockP tb n) (-1) dy dy xf xp := by
  unfold finO at h
  unfold lkRs
  cases hP : lockP tb n with
  | error e =>
    rw [hP] at h
    have h0 : xf = nI e.1 ∧ xp = nI e.2 ∧ 1 ≤ e.1 ∧ e.1 ≤ 5 ∧ e.2 ≤ 1700 := h
    exact ⟨rfl, rfl, h0.1, h0.2.1⟩
  | ok r =>
    rw [hP] at h
    have h0 : xf = 0 ∧ xp = -1 ∧ jn = r.2 ∧ lkC (lkF r.1) jd jm ju jr jc jx j1 jf jt jb jw := h
    exact absurd h0.1 hf
theorem updG_al {f : Nat → Nat} {k v : Nat} (h : ∀ j, j < k → f j = v) : ∀ j, j < k + 1 → updG f k v j = v := fun j hj => by
  unfold updG
  by_cases e : j = k
  · rw [if_pos e]
  · rw [if_neg e]; exact h j (by omega)
theorem rotG_al {f : Nat → Nat} {v : Nat} (h : ∀ j, j < 20 → f j = v) : ∀ j, j < 20 → updG (rotG f) 19 v j = v := fun j hj => by
  unfold updG rotG
  by_cases e : j = 19
  · rw [if_pos e]
  · rw [if_neg e, if_pos (by omega)]; exact h (j + 1) (by omega)
theorem dg_X11_lookAt_0_0 : bqL cX11_lookAt 0 [(0, [42]), (1, [180, 0, 76]), (4, [42]), (5, [180, 0, 49]), (8, [43]), (9, [182, 0, 185]), (12, [42]), (13, [180, 0, 85]), (16, [43]), (17, [43]), (18, [180, 0, 153]), (21, [3]), (22, [182, 0, 230]), (25, [42]), (26, [180, 0, 85]), (29, [182, 0, 234]), (32, [172])] = true := by decide +kernel
theorem dX11_lookAt_0 : decode cX11_lookAt 0 = .ok (.aload_n 0, 1) := q_aload_n0 (bat_get dg_X11_lookAt_0_0 0 rfl rfl)
theorem dX11_lookAt_1 : decode cX11_lookAt 1 = .ok (.getfield 76, 3) := q_getfield (bat_get dg_X11_lookAt_0_0 1 rfl rfl) rfl
theorem dX11_lookAt_4 : decode cX11_lookAt 4 = .ok (.aload_n 0, 1) := q_aload_n0 (bat_get dg_X11_lookAt_0_0 2 rfl rfl)
theorem dX11_lookAt_5 : decode cX11_lookAt 5 = .ok (.getfield 49, 3) := q_getfield (bat_get dg_X11_lookAt_0_0 3 rfl rfl) rfl
theorem dX11_lookAt_8 : decode cX11_lookAt 8 = .ok (.aload_n 1, 1) := q_aload_n1 (bat_get dg_X11_lookAt_0_0 4 rfl rfl)
theorem dX11_lookAt_9 : decode cX11_lookAt 9 = .ok (.invokevirtual 185, 3) := q_invokevirtual (bat_get dg_X11_lookAt_0_0 5 rfl rfl) rfl
theorem dX11_lookAt_12 : decode cX11_lookAt 12 = .ok (.aload_n 0, 1) := q_aload_n0 (bat_get dg_X11_lookAt_0_0 6 rfl rfl)
theorem dX11_lookAt_13 : decode cX11_lookAt 13 = .ok (.getfield 85, 3) := q_getfield (bat_get dg_X11_lookAt_0_0 7 rfl rfl) rfl
theorem dX11_lookAt_16 : decode cX11_lookAt 16 = .ok (.aload_n 1, 1) := q_aload_n1 (bat_get dg_X11_lookAt_0_0 8 rfl rfl)
theorem dX11_lookAt_17 : decode cX11_lookAt 17 = .ok (.aload_n 1, 1) := q_aload_n1 (bat_get dg_X11_lookAt_0_0 9 rfl rfl)
theorem dX11_lookAt_18 : decode cX11_lookAt 18 = .ok (.getfield 153, 3) := q_getfield (bat_get dg_X11_lookAt_0_0 10 rfl rfl) rfl
theorem dX11_lookAt_21 : decode cX11_lookAt 21 = .ok (.iconst 0, 1) := q_iconst0 (bat_get dg_X11_lookAt_0_0 11 rfl rfl)
theorem dX11_lookAt_22 : decode cX11_lookAt 22 = .ok (.invokevirtual 230, 3) := q_invokevirtual (bat_get dg_X11_lookAt_0_0 12 rfl rfl) rfl
theorem dX11_lookAt_25 : decode cX11_lookAt 25 = .ok (.aload_n 0, 1) := q_aload_n0 (bat_get dg_X11_lookAt_0_0 13 rfl rfl)
theorem dX11_lookAt_26 : decode cX11_lookAt 26 = .ok (.getfield 85, 3) := q_getfield (bat_get dg_X11_lookAt_0_0 14 rfl rfl) rfl
theorem dX11_lookAt_29 : decode cX11_lookAt 29 = .ok (.invokevirtual 234, 3) := q_invokevirtual (bat_get dg_X11_lookAt_0_0 15 rfl rfl) rfl
theorem dX11_lookAt_32 : decode cX11_lookAt 32 = .ok (.ireturn, 1) := q_ireturn (bat_get dg_X11_lookAt_0_0 16 rfl rfl)
theorem w_2_128 : (Cond.fieldLink RX11 49 "SameKeeper" "held" "LSameKeeper$Lock;") ∈ wsL_law := sk_mem (ck_2 _ (List.mem_of_getElem? (i := 128) rfl)) rfl
theorem w_3_205 : (Cond.methodLink RX11 185 yX9_fit) ∈ wsL_law := sk_mem (ck_3 _ (List.mem_of_getElem? (i := 205) rfl)) rfl
theorem w_3_206 : (Cond.instanceMethod yX9_fit) ∈ wsL_law := sk_mem (ck_3 _ (List.mem_of_getElem? (i := 206) rfl)) rfl
theorem w_3_207 : (Cond.selects RX9 yX9_fit yX9_fit) ∈ wsL_law := sk_mem (ck_3 _ (List.mem_of_getElem? (i := 207) rfl)) rfl
theorem w_2_12 : (Cond.fieldLink RX11 153 "SameKeeper$State" "mute" "I") ∈ wsL_law := sk_mem (ck_2 _ (List.mem_of_getElem? (i := 12) rfl)) rfl
theorem w_4_46 : (Cond.code yX11_lookAt cX11_lookAt 2 (some .boolean)) ∈ wsL_law := sk_mem (ck_4 _ (List.mem_of_getElem? (i := 46) rfl)) rfl
def om_23_3fff87 : List Bool := false :: true :: true :: true :: true :: true :: true :: true :: true :: true :: true :: true :: true :: true :: true :: true :: false :: false :: false :: false :: true :: true :: true :: []
def om_23_3e0074 : List Bool := false :: true :: true :: true :: true :: true :: false :: false :: false :: false :: false :: false :: false :: false :: false :: false :: true :: true :: true :: false :: true :: false :: false :: []
def om_23_78 : List Bool := false :: false :: false :: false :: false :: false :: false :: false :: false :: false :: false :: false :: false :: false :: false :: false :: true :: true :: true :: true :: false :: false :: false :: []
theorem hd_X9_fit_2 : skD yX9_fit 2 := by decide +kernel
set_option maxHeartbeats 4000000 in
set_option maxRecDepth 100000 in
theorem c_kx_lookAt (l : Launch) (D : va_G) (cI cJ cC cZ cS : ClassId) (x0 : Nat) (q : Nat → Nat) (hc : Int32) (dr : Int64) (sa : Nat → Nat) (ft : Nat → Int32) (fa : Nat → Int32) (fo : Nat → Int32) (fg : Nat → Int64) (fk : Nat → Int32) (dh : Nat) (mh : Nat) (uh : Int32) (rh : Int32) (nh : Nat) (ch : Nat) (wh : Nat) (y1 : Nat → Int32) (y2 : Nat → Int64) (y3 : Nat → Int64) (y4 : Nat → Int64) (yf : Nat → Int32) (yt : Nat → Int32) (gd : Nat) (gs : Nat) (e1 : Nat → Int32) (e2 : Nat → Int32) (e3 : Nat → Int32) (o0 : Nat) (o1 : Nat) (o2 : Nat) (dy : Nat) (wn : Nat) (mo : Nat) (ke : Nat) (mu : Int32) (fb : Nat → Int32) (fw : Nat → Int32) (Ba : Nat → Nat) (We : Nat → Nat) (L : LkS) (U : Nat → Bool) (hsa : ∀ j, sa j ≤ 9) (hch : ch ≤ 1600) (hwh : wh ≤ 1) (hdy : dy ≤ 9) (hmo : mo ≤ 9) (hLk : kcLk L) (hcd : cdK (lK (lkF L)) ch wh y1) (hsg : ∀ v, v < 3 → sgO (lG (lkF L) v) (yf v) (yt v)) (hfb : ∀ j, j < 9 → fb j = nI (Ba j)) (hfw : ∀ j, j < 9 → fw j = nI (We j)) (hB9 : ∀ j, Ba j ≤ 9) (hW9 : ∀ j, We j ≤ 9) (hwn : wn ≤ 999) (hU : muO U mu) (hti : kcTI L sa ft fa fo fg fk) : skM l yX11_lookAt cX11_lookAt 2 (some .boolean) 5 128 0 0 D (skT cI cJ cC cZ cS) [.ref x0, .ref o0] [(x0, .inr (11, [.ref (q 0), .ref (q 1), .ref (q 2), .ref (q 3), .ref (q 4), .ref (q 5), .ref (q 6), .ref (q 7), .ref (q 8), .ref (q 9), .ref (q 10), .ref (q 11), .ref (q 12), .ref (q 13), .ref (q 14), .int hc, .ref (q 16), .long dr])), (q 10, .inr (9, [.ref (q 61), .ref (q 62), .ref (q 63), .ref (q 64), .ref (q 65), .ref (q 66)])), (q 61, .inl (cI, 90, .inl (fun j => nI (sa j)))), (q 62, .inl (cI, 900, .inl ft)), (q 63, .inl (cI, 90, .inl fa)), (q 64, .inl (cI, 90, .inl fo)), (q 65, .inl (cJ, 90, .inr (.inl fg))), (q 66, .inl (cI, 9, .inl fk)), (q 5, .inr (2, [.ref (q 44), .ref (q 45), .ref (q 46), .ref (q 47), .ref (q 48), .int (nI dh), .int (nI mh), .int uh, .int rh, .int (nI nh)])), (q 44, .inr (0, [.ref (q 49), .ref (q 50), .ref (q 51), .ref (q 52), .int (nI ch), .int (nI wh)])), (q 49, .inl (cI, 1600, .inl y1)), (q 50, .inl (cJ, 64, .inr (.inl y2))), (q 51, .inl (cJ, 9, .inr (.inl y3))), (q 52, .inl (cJ, 10, .inr (.inl y4))), (q 47, .inl (cI, 3, .inl yf)), (q 48, .inl (cI, 3, .inl yt)), (q 11, .inr (1, [.ref (q 10), .ref (q 67), .ref (q 68), .ref (q 69), .ref (q 70), .ref (q 71), .ref (q 72), .int (nI gd), .int (nI gs)])), (q 67, .inl (cI, 90, .inl e1)), (q 68, .inl (cI, 9, .inl e2)), (q 69, .inl (cI, 10, .inl e3)), (o0, .inr (7, [.ref o1, .ref o2, .int (nI dy), .int (nI wn), .int (nI mo), .int mu, .int (nI ke)])), (o1, .inl (cI, 9, .inl fb)), (o2, .inl (cI, 9, .inl fw))] (skI D (skT cI cJ cC cZ cS) (fun (r : Int32) (u : va_W) => ∃ (sa2 : Nat → Nat), ∃ (ft2 : Nat → Int32), ∃ (fa2 : Nat → Int32), ∃ (fo2 : Nat → Int32), ∃ (fg2 : Nat → Int64), ∃ (fk2 : Nat → Int32), ∃ (z2 : Nat → Int64), ∃ (z3 : Nat → Int64), ∃ (g1 : Nat → Int32), ∃ (g2 : Nat → Int32), ∃ (g3 : Nat → Int32), ∃ (b : Nat), (∀ j, sa2 j ≤ 9) ∧ kcTI L sa2 ft2 fa2 fo2 fg2 fk2 ∧ kcLd (kcFo L wn Ba We U 0) dy g1 g2 ∧ kcLv (kcFo L wn Ba We U 0) dy 0 g3 ∧ ((b = 0 ∧ kcC (kcFo L wn Ba We U 0) dy 0 mo = 0) ∨ (b = 1 ∧ 0 < kcC (kcFo L wn Ba We U 0) dy 0 mo)) ∧ r = nI b ∧ u = [(x0, .inr (11, [.ref (q 0), .ref (q 1), .ref (q 2), .ref (q 3), .ref (q 4), .ref (q 5), .ref (q 6), .ref (q 7), .ref (q 8), .ref (q 9), .ref (q 10), .ref (q 11), .ref (q 12), .ref (q 13), .ref (q 14), .int hc, .ref (q 16), .long dr])), (q 10, .inr (9, [.ref (q 61), .ref (q 62), .ref (q 63), .ref (q 64), .ref (q 65), .ref (q 66)])), (q 61, .inl (cI, 90, .inl (fun j => nI (sa2 j)))), (q 62, .inl (cI, 900, .inl ft2)), (q 63, .inl (cI, 90, .inl fa2)), (q 64, .inl (cI, 90, .inl fo2)), (q 65, .inl (cJ, 90, .inr (.inl fg2))), (q 66, .inl (cI, 9, .inl fk2)), (q 5, .inr (2, [.ref (q 44), .ref (q 45), .ref (q 46), .ref (q 47), .ref (q 48), .int (nI dh), .int (nI mh), .int uh, .int rh, .int (nI nh)])), (q 44, .inr (0, [.ref (q 49), .ref (q 50), .ref (q 51), .ref (q 52), .int (nI ch), .int (nI wh)])), (q 49, .inl (cI, 1600, .inl y1)), (q 50, .inl (cJ, 64, .inr (.inl z2))), (q 51, .inl (cJ, 9, .inr (.inl z3))), (q 52, .inl (cJ, 10, .inr (.inl y4))), (q 47, .inl (cI, 3, .inl yf)), (q 48, .inl (cI, 3, .inl yt)), (q 11, .inr (1, [.ref (q 10), .ref (q 67), .ref (q 68), .ref (q 69), .ref (q 70), .ref (q 71), .ref (q 72), .int (nI dy), .int (nI mo)])), (q 67, .inl (cI, 90, .inl g1)), (q 68, .inl (cI, 9, .inl g2)), (q 69, .inl (cI, 10, .inl g3)), (o0, .inr (7, [.ref o1, .ref o2, .int (nI dy), .int (nI wn), .int (nI mo), .int mu, .int (nI ke)])), (o1, .inl (cI, 9, .inl fb)), (o2, .inl (cI, 9, .inl fw))])) := by
  refine skM_of pf_X11_lookAt (Nat.le_of_ble_eq_true rfl) ?_
  intro p e s m below meth c A ls E hP hD hl
  refine skE_el E (fun hx hb hr hml hlocks hin hown hts hK hA => ?_)
  have hown : s.vm.findClass RX11 = some m.cls := hown
  have hS : va_S A s.heap s.heap [] := va_S.rf
  have hl : lv_has ls 2 [(0, .ref x0), (1, .ref o0)] := hl
  refine lv_aload_n hx hb dX11_lookAt_0 rfl (lv_at hl 0 rfl) ?_
  refine sk_get (v := .ref (q 10)) (C := RX11) (T := TX11) (N := 18) hx hb hts inlX11 hown hK hP 0 rfl rfl 10 (Nat.le_of_ble_eq_true rfl) w_2_133 rfl dX11_lookAt_1 ?_
  refine lv_aload_n hx hb dX11_lookAt_4 rfl (lv_at hl 0 rfl) ?_
  refine sk_get (v := .ref (q 5)) (C := RX11) (T := TX11) (N := 18) hx hb hts inlX11 hown hK hP 0 rfl rfl 5 (Nat.le_of_ble_eq_true rfl) w_2_128 rfl dX11_lookAt_5 ?_
  refine lv_aload_n hx hb dX11_lookAt_8 rfl (lv_at hl 1 rfl) ?_
  refine sk_Vv (q0 := 0) (n := 2) (rest := []) (wr := fmR om_23_3fff87 _) ⟨hx, hb, hml, hown, hts⟩ hl.1 (c_kfit l D cI cJ cC cZ cS q dh mh uh rh nh ch wh y1 y2 y3 y4 yf yt sa ft fa fo fg fk o0 o1 o2 dy wn mo ke mu fb fw Ba We L hsa hch hwh hdy hmo hLk hcd hsg hfb hfw hB9 hW9 hwn hti) w_3_205 w_3_206 w_3_207 w_1_12 w_3_208 hd_X9_fit_2 ⟨⟨(Nat.le_of_ble_eq_true rfl), (Nat.le_of_ble_eq_true rfl)⟩, (Nat.le_of_ble_eq_true rfl), (Nat.le_of_ble_eq_true rfl)⟩ hK hP hD hS hA (fmT om_23_3fff87 0) (fmF om_23_3fff87 0) (fm_C1 rfl rfl) (fm_R rfl rfl) (fm_nT om_23_3fff87 0) (fm_nF om_23_3fff87 0) (fm_di om_23_3fff87 0) rfl rfl rfl rfl (Nat.le_of_ble_eq_true rfl) dX11_lookAt_9 (fun u H locs hw hP hD hS => ?_)
  refine exE hw (fun sa2_1 hw1 => exE hw1 (fun ft2_2 hw2 => exE hw2 (fun fa2_3 hw3 => exE hw3 (fun fo2_4 hw4 => exE hw4 (fun fg2_5 hw5 => exE hw5 (fun fk2_6 hw6 => exE hw6 (fun z2_7 hw7 => exE hw7 (fun z3_8 hw8 => anE hw8 (fun hsa2_9 hw9 => anE hw9 (fun hti2_10 hw10 => anE hw10 (fun hrows_11 eu_12 => ?_)))))))))))
  clear hw hw1 hw2 hw3 hw4 hw5 hw6 hw7 hw8 hw9 hw10
  refine o_mgE (ws' := [(x0, .inr (11, [.ref (q 0), .ref (q 1), .ref (q 2), .ref (q 3), .ref (q 4), .ref (q 5), .ref (q 6), .ref (q 7), .ref (q 8), .ref (q 9), .ref (q 10), .ref (q 11), .ref (q 12), .ref (q 13), .ref (q 14), .int hc, .ref (q 16), .long dr])), (q 10, .inr (9, [.ref (q 61), .ref (q 62), .ref (q 63), .ref (q 64), .ref (q 65), .ref (q 66)])), (q 61, .inl (cI, 90, .inl (fun j => nI (sa2_1 j)))), (q 62, .inl (cI, 900, .inl ft2_2)), (q 63, .inl (cI, 90, .inl fa2_3)), (q 64, .inl (cI, 90, .inl fo2_4)), (q 65, .inl (cJ, 90, .inr (.inl fg2_5))), (q 66, .inl (cI, 9, .inl fk2_6)), (q 5, .inr (2, [.ref (q 44), .ref (q 45), .ref (q 46), .ref (q 47), .ref (q 48), .int (nI dh), .int (nI mh), .int uh, .int rh, .int (nI nh)])), (q 44, .inr (0, [.ref (q 49), .ref (q 50), .ref (q 51), .ref (q 52), .int (nI ch), .int (nI wh)])), (q 49, .inl (cI, 1600, .inl y1)), (q 50, .inl (cJ, 64, .inr (.inl z2_7))), (q 51, .inl (cJ, 9, .inr (.inl z3_8))), (q 52, .inl (cJ, 10, .inr (.inl y4))), (q 47, .inl (cI, 3, .inl yf)), (q 48, .inl (cI, 3, .inl yt)), (q 11, .inr (1, [.ref (q 10), .ref (q 67), .ref (q 68), .ref (q 69), .ref (q 70), .ref (q 71), .ref (q 72), .int (nI gd), .int (nI gs)])), (q 67, .inl (cI, 90, .inl e1)), (q 68, .inl (cI, 9, .inl e2)), (q 69, .inl (cI, 10, .inl e3)), (o0, .inr (7, [.ref o1, .ref o2, .int (nI dy), .int (nI wn), .int (nI mo), .int mu, .int (nI ke)])), (o1, .inl (cI, 9, .inl fb)), (o2, .inl (cI, 9, .inl fw))]) eu_12 hP hD rfl (fun hP hD => ?_)
  refine lv_aload_n hx hb dX11_lookAt_12 rfl (lv_at hl 0 rfl) ?_
  refine sk_get (v := .ref (q 11)) (C := RX11) (T := TX11) (N := 18) hx hb hts inlX11 hown hK hP 0 rfl rfl 11 (Nat.le_of_ble_eq_true rfl) w_2_134 rfl dX11_lookAt_13 ?_
  refine lv_aload_n hx hb dX11_lookAt_16 rfl (lv_at hl 1 rfl) ?_
  refine lv_aload_n hx hb dX11_lookAt_17 rfl (lv_at hl 1 rfl) ?_
  refine sk_get (v := .int mu) (C := RX7) (T := TX7) (N := 7) hx hb hts inlX7 hown hK hP 20 rfl rfl 5 (Nat.le_of_ble_eq_true rfl) w_2_12 rfl dX11_lookAt_18 ?_
  refine lv_iconst (v := 0) hx hb dX11_lookAt_21 ic_0 ?_
  refine sk_Vv (q0 := 0) (n := 3) (rest := []) (wr := fmR om_23_3e0074 _) ⟨hx, hb, hml, hown, hts⟩ hl.1 (c_klay l D cI cJ cC cZ cS q gd gs e1 e2 sa2_1 ft2_2 fa2_3 fo2_4 o0 o1 o2 dy wn mo ke mu fb fw Ba We L 0 U mu fg2_5 hsa2_9 hdy hmo (by decide) hU hrows_11) w_4_47 w_4_48 w_4_49 w_1_13 w_4_50 hd_X1_lay_3 ⟨⟨(Nat.le_of_ble_eq_true rfl), (Nat.le_of_ble_eq_true rfl)⟩, (Nat.le_of_ble_eq_true rfl), (Nat.le_of_ble_eq_true rfl)⟩ hK hP hD hS hA [16, 17, 18, 1, 2, 3, 4, 5, 20] (fmF om_23_3e0074 0) rfl (fm_R rfl rfl) (by decide +kernel) (fm_nF om_23_3e0074 0) (by decide +kernel) rfl rfl rfl rfl (Nat.le_of_ble_eq_true rfl) dX11_lookAt_22 (fun u H locs hw hP hD hS => ?_)
  refine exE hw (fun g1_13 hw1 => exE hw1 (fun g2_14 hw2 => anE hw2 (fun hld2_15 eu_16 => ?_)))
  clear hw hw1 hw2
  refine o_mgqE (ux := [(q 10, .inr (9, [.ref (q 61), .ref (q 62), .ref (q 63), .ref (q 64), .ref (q 65), .ref (q 66)])), (q 61, .inl (cI, 90, .inl (fun j => nI (sa2_1 j)))), (q 62, .inl (cI, 900, .inl ft2_2)), (q 63, .inl (cI, 90, .inl fa2_3)), (q 64, .inl (cI, 90, .inl fo2_4)), (q 11, .inr (1, [.ref (q 10), .ref (q 67), .ref (q 68), .ref (q 69), .ref (q 70), .ref (q 71), .ref (q 72), .int (nI dy), .int (nI mo)])), (q 67, .inl (cI, 90, .inl g1_13)), (q 68, .inl (cI, 9, .inl g2_14)), (o0, .inr (7, [.ref o1, .ref o2, .int (nI dy), .int (nI wn), .int (nI mo), .int mu, .int (nI ke)]))]) (ws' := [(x0, .inr (11, [.ref (q 0), .ref (q 1), .ref (q 2), .ref (q 3), .ref (q 4), .ref (q 5), .ref (q 6), .ref (q 7), .ref (q 8), .ref (q 9), .ref (q 10), .ref (q 11), .ref (q 12), .ref (q 13), .ref (q 14), .int hc, .ref (q 16), .long dr])), (q 10, .inr (9, [.ref (q 61), .ref (q 62), .ref (q 63), .ref (q 64), .ref (q 65), .ref (q 66)])), (q 61, .inl (cI, 90, .inl (fun j => nI (sa2_1 j)))), (q 62, .inl (cI, 900, .inl ft2_2)), (q 63, .inl (cI, 90, .inl fa2_3)), (q 64, .inl (cI, 90, .inl fo2_4)), (q 65, .inl (cJ, 90, .inr (.inl fg2_5))), (q 66, .inl (cI, 9, .inl fk2_6)), (q 5, .inr (2, [.ref (q 44), .ref (q 45), .ref (q 46), .ref (q 47), .ref (q 48), .int (nI dh), .int (nI mh), .int uh, .int rh, .int (nI nh)])), (q 44, .inr (0, [.ref (q 49), .ref (q 50), .ref (q 51), .ref (q 52), .int (nI ch), .int (nI wh)])), (q 49, .inl (cI, 1600, .inl y1)), (q 50, .inl (cJ, 64, .inr (.inl z2_7))), (q 51, .inl (cJ, 9, .inr (.inl z3_8))), (q 52, .inl (cJ, 10, .inr (.inl y4))), (q 47, .inl (cI, 3, .inl yf)), (q 48, .inl (cI, 3, .inl yt)), (q 11, .inr (1, [.ref (q 10), .ref (q 67), .ref (q 68), .ref (q 69), .ref (q 70), .ref (q 71), .ref (q 72), .int (nI dy), .int (nI mo)])), (q 67, .inl (cI, 90, .inl g1_13)), (q 68, .inl (cI, 9, .inl g2_14)), (q 69, .inl (cI, 10, .inl e3)), (o0, .inr (7, [.ref o1, .ref o2, .int (nI dy), .int (nI wn), .int (nI mo), .int mu, .int (nI ke)])), (o1, .inl (cI, 9, .inl fb)), (o2, .inl (cI, 9, .inl fw))]) eu_16 [3, 4, 5, 6, 7, 0, 1, 2, 8] (by decide +kernel) rfl hP hD rfl (fun hP hD => ?_)
  refine lv_aload_n hx hb dX11_lookAt_25 rfl (lv_at hl 0 rfl) ?_
  refine sk_get (v := .ref (q 11)) (C := RX11) (T := TX11) (N := 18) hx hb hts inlX11 hown hK hP 0 rfl rfl 11 (Nat.le_of_ble_eq_true rfl) w_2_134 rfl dX11_lookAt_26 ?_
  refine sk_Vi (q0 := 0) (n := 0) (rest := []) (wr := fmR om_23_78 _) ⟨hx, hb, hml, hown, hts⟩ hl.1 (c_ksettle l D cI cJ cC cZ cS q dy mo g1_13 g2_14 e3 (kcFo L wn Ba We U 0) hdy hmo hld2_15) w_4_53 w_4_54 w_4_55 w_1_13 w_4_56 hd_X1_settle_0 ⟨⟨(Nat.le_of_ble_eq_true rfl), (Nat.le_of_ble_eq_true rfl)⟩, (Nat.le_of_ble_eq_true rfl), (Nat.le_of_ble_eq_true rfl)⟩ hK hP hD hS hA (fmT om_23_78 0) (fmF om_23_78 0) (fm_C1 rfl rfl) (fm_R rfl rfl) (fm_nT om_23_78 0) (fm_nF om_23_78 0) (fm_di om_23_78 0) rfl rfl rfl rfl (Nat.le_of_ble_eq_true rfl) dX11_lookAt_29 (fun r_19 u H locs hw hP hD hS => ?_)
  refine exE hw (fun b_17 hw1 => exE hw1 (fun g3_18 hw2 => anE hw2 (fun hb1_20 hw3 => anE hw3 (fun hlv2_21 hw4 => anE hw4 (fun er_23 eu_22 => ?_)))))
  clear hw hw1 hw2 hw3 hw4
  subst er_23
  refine o_mgE (ws' := [(x0, .inr (11, [.ref (q 0), .ref (q 1), .ref (q 2), .ref (q 3), .ref (q 4), .ref (q 5), .ref (q 6), .ref (q 7), .ref (q 8), .ref (q 9), .ref (q 10), .ref (q 11), .ref (q 12), .ref (q 13), .ref (q 14), .int hc, .ref (q 16), .long dr])), (q 10, .inr (9, [.ref (q 61), .ref (q 62), .ref (q 63), .ref (q 64), .ref (q 65), .ref (q 66)])), (q 61, .inl (cI, 90, .inl (fun j => nI (sa2_1 j)))), (q 62, .inl (cI, 900, .inl ft2_2)), (q 63, .inl (cI, 90, .inl fa2_3)), (q 64, .inl (cI, 90, .inl fo2_4)), (q 65, .inl (cJ, 90, .inr (.inl fg2_5))), (q 66, .inl (cI, 9, .inl fk2_6)), (q 5, .inr (2, [.ref (q 44), .ref (q 45), .ref (q 46), .ref (q 47), .ref (q 48), .int (nI dh), .int (nI mh), .int uh, .int rh, .int (nI nh)])), (q 44, .inr (0, [.ref (q 49), .ref (q 50), .ref (q 51), .ref (q 52), .int (nI ch), .int (nI wh)])), (q 49, .inl (cI, 1600, .inl y1)), (q 50, .inl (cJ, 64, .inr (.inl z2_7))), (q 51, .inl (cJ, 9, .inr (.inl z3_8))), (q 52, .inl (cJ, 10, .inr (.inl y4))), (q 47, .inl (cI, 3, .inl yf)), (q 48, .inl (cI, 3, .inl yt)), (q 11, .inr (1, [.ref (q 10), .ref (q 67), .ref (q 68), .ref (q 69), .ref (q 70), .ref (q 71), .ref (q 72), .int (nI dy), .int (nI mo)])), (q 67, .inl (cI, 90, .inl g1_13)), (q 68, .inl (cI, 9, .inl g2_14)), (q 69, .inl (cI, 10, .inl g3_18)), (o0, .inr (7, [.ref o1, .ref o2, .int (nI dy), .int (nI wn), .int (nI mo), .int mu, .int (nI ke)])), (o1, .inl (cI, 9, .inl fb)), (o2, .inl (cI, 9, .inl fw))]) eu_22 hP hD rfl (fun hP hD => ?_)
  exact sk_iret hx hb hr (nbool b_17 (by omega)) hlocks hK hP hD hS (⟨sa2_1, ft2_2, fa2_3, fo2_4, fg2_5, fk2_6, z2_7, z3_8, g1_13, g2_14, g3_18, b_17, hsa2_9, hti2_10, hld2_15, hlv2_21, hb1_20, rfl, rfl⟩) (Nat.le_of_ble_eq_true rfl) (Nat.le_of_ble_eq_true rfl) dX11_lookAt_32
theorem dg_X11_draw_0_0 : bqL cX11_draw 0 [(0, [42]), (1, [20, 1, 105]), (4, [42]), (5, [180, 0, 106]), (8, [105]), (9, [20, 1, 107]), (12, [97]), (13, [20, 1, 109]), (16, [127]), (17, [181, 0, 106]), (20, [31]), (21, [9]), (22, [148]), (23, [158, 0, 16]), (26, [42]), (27, [180, 0, 106]), (30, [20, 1, 111]), (33, [109]), (34, [31]), (35, [113]), (36, [167, 0, 4]), (40, [173])] = true := by decide +kernel
theorem dX11_draw_0 : decode cX11_draw 0 = .ok (.aload_n 0, 1) := q_aload_n0 (bat_get dg_X11_draw_0_0 0 rfl rfl)
theorem dX11_draw_1 : decode cX11_draw 1 = .ok (.ldc2_w 361, 3) := q_ldc2_w (bat_get dg_X11_draw_0_0 1 rfl rfl) rfl
theorem dX11_draw_4 : decode cX11_draw 4 = .ok (.aload_n 0, 1) := q_aload_n0 (bat_get dg_X11_draw_0_0 2 rfl rfl)
theorem dX11_draw_5 : decode cX11_draw 5 = .ok (.getfield 106, 3) := q_getfield (bat_get dg_X11_draw_0_0 3 rfl rfl) rfl
theorem dX11_draw_8 : decode cX11_draw 8 = .ok (.lmul, 1) := q_lmul (bat_get dg_X11_draw_0_0 4 rfl rfl)
theorem dX11_draw_9 : decode cX11_draw 9 = .ok (.ldc2_w 363, 3) := q_ldc2_w (bat_get dg_X11_draw_0_0 5 rfl rfl) rfl
theorem dX11_draw_12 : decode cX11_draw 12 = .ok (.ladd, 1) := q_ladd (bat_get dg_X11_draw_0_0 6 rfl rfl)
theorem dX11_draw_13 : decode cX11_draw 13 = .ok (.ldc2_w 365, 3) := q_ldc2_w (bat_get dg_X11_draw_0_0 7 rfl rfl) rfl
theorem dX11_draw_16 : decode cX11_draw 16 = .ok (.land, 1) := q_land (bat_get dg_X11_draw_0_0 8 rfl rfl)
theorem dX11_draw_17 : decode cX11_draw 17 = .ok (.putfield 106, 3) := q_putfield (bat_get dg_X11_draw_0_0 9 rfl rfl) rfl
theorem dX11_draw_20 : decode cX11_draw 20 = .ok (.lload_n 1, 1) := q_lload_n1 (bat_get dg_X11_draw_0_0 10 rfl rfl)
theorem dX11_draw_21 : decode cX11_draw 21 = .ok (.lconst 0, 1) := q_lconst0 (bat_get dg_X11_draw_0_0 11 rfl rfl)
theorem dX11_draw_22 : decode cX11_draw 22 = .ok (.lcmp, 1) := q_lcmp (bat_get dg_X11_draw_0_0 12 rfl rfl)
theorem dX11_draw_23 : decode cX11_draw 23 = .ok (.ifCond .le 16, 3) := q_ifCond_le (bat_get dg_X11_draw_0_0 13 rfl rfl) rfl
theorem dX11_draw_26 : decode cX11_draw 26 = .ok (.aload_n 0, 1) := q_aload_n0 (bat_get dg_X11_draw_0_0 14 rfl rfl)
theorem dX11_draw_27 : decode cX11_draw 27 = .ok (.getfield 106, 3) := q_getfield (bat_get dg_X11_draw_0_0 15 rfl rfl) rfl
theorem dX11_draw_30 : decode cX11_draw 30 = .ok (.ldc2_w 367, 3) := q_ldc2_w (bat_get dg_X11_draw_0_0 16 rfl rfl) rfl
theorem dX11_draw_33 : decode cX11_draw 33 = .ok (.ldiv, 1) := q_ldiv (bat_get dg_X11_draw_0_0 17 rfl rfl)
theorem dX11_draw_34 : decode cX11_draw 34 = .ok (.lload_n 1, 1) := q_lload_n1 (bat_get dg_X11_draw_0_0 18 rfl rfl)
theorem dX11_draw_35 : decode cX11_draw 35 = .ok (.lrem, 1) := q_lrem (bat_get dg_X11_draw_0_0 19 rfl rfl)
theorem dX11_draw_36 : decode cX11_draw 36 = .ok (.goto 4, 3) := q_goto (bat_get dg_X11_draw_0_0 20 rfl rfl) rfl
theorem dX11_draw_40 : decode cX11_draw 40 = .ok (.lreturn, 1) := q_lreturn (bat_get dg_X11_draw_0_0 21 rfl rfl)
theorem w_5_41 : (Cond.constantLong RX11 361 (1103515245)) ∈ wsL_law := sk_mem (ck_5 _ (List.mem_of_getElem? (i := 41) rfl)) rfl
theorem w_2_140 : (Cond.fieldLink RX11 106 "SameKeeper" "drawn" "J") ∈ wsL_law := sk_mem (ck_2 _ (List.mem_of_getElem? (i := 140) rfl)) rfl
theorem w_5_42 : (Cond.constantLong RX11 363 (12345)) ∈ wsL_law := sk_mem (ck_5 _ (List.mem_of_getElem? (i := 42) rfl)) rfl
theorem w_5_43 : (Cond.constantLong RX11 365 (2147483647)) ∈ wsL_law := sk_mem (ck_5 _ (List.mem_of_getElem? (i := 43) rfl)) rfl
theorem w_5_44 : (Cond.constantLong RX11 367 (64)) ∈ wsL_law := sk_mem (ck_5 _ (List.mem_of_getElem? (i := 44) rfl)) rfl
theorem w_5_40 : (Cond.code yX11_draw cX11_draw 3 (some .long)) ∈ wsL_law := sk_mem (ck_5 _ (List.mem_of_getElem? (i := 40) rfl)) rfl
set_option maxHeartbeats 4000000 in
set_option maxRecDepth 100000 in
theorem c_kx_draw (l : Launch) (D : va_G) (cI cJ cC cZ cS : ClassId) (x0 : Nat) (q : Nat → Nat) (hc : Int32) (sd : Nat) (mq : Nat) (hm1 : 1 ≤ mq) (hm2 : mq ≤ 1000000000) : skM l yX11_draw cX11_draw 3 (some .long) 0 0 0 0 D (skT cI cJ cC cZ cS) [.ref x0, .long (Int64.ofNat mq)] [(x0, .inr (11, [.ref (q 0), .ref (q 1), .ref (q 2), .ref (q 3), .ref (q 4), .ref (q 5), .ref (q 6), .ref (q 7), .ref (q 8), .ref (q 9), .ref (q 10), .ref (q 11), .ref (q 12), .ref (q 13), .ref (q 14), .int hc, .ref (q 16), .long (Int64.ofNat sd)]))] (skL D (skT cI cJ cC cZ cS) (fun (r : Int64) (u : va_W) => r = Int64.ofNat (kdv sd mq) ∧ u = [(x0, .inr (11, [.ref (q 0), .ref (q 1), .ref (q 2), .ref (q 3), .ref (q 4), .ref (q 5), .ref (q 6), .ref (q 7), .ref (q 8), .ref (q 9), .ref (q 10), .ref (q 11), .ref (q 12), .ref (q 13), .ref (q 14), .int hc, .ref (q 16), .long (Int64.ofNat (kdr sd))]))])) := by
  refine skM_of pf_X11_draw (Nat.le_of_ble_eq_true rfl) ?_
  intro p e s m below meth c A ls E hP hD hl
  refine skE_el E (fun hx hb hr hml hlocks hin hown hts hK hA => ?_)
  have hown : s.vm.findClass RX11 = some m.cls := hown
  have hS : va_S A s.heap s.heap [] := va_S.rf
  have hl : lv_has ls 3 [(0, .ref x0), (1, .long (Int64.ofNat mq))] := hl
  refine lv_aload_n hx hb dX11_draw_0 rfl (lv_at hl 0 rfl) ?_
  refine lv_ldc2 (v := 1103515245) hx hb hown (hts _ w_5_41) dX11_draw_1 ?_
  refine lv_aload_n hx hb dX11_draw_4 rfl (lv_at hl 0 rfl) ?_
  refine sk_get (v := .long (Int64.ofNat sd)) (C := RX11) (T := TX11) (N := 18) hx hb hts inlX11 hown hK hP 0 rfl rfl 17 (Nat.le_of_ble_eq_true rfl) w_2_140 rfl dX11_draw_5 ?_
  refine lv_lmul hx hb dX11_draw_8 ?_
  refine lv_ldc2 (v := 12345) hx hb hown (hts _ w_5_42) dX11_draw_9 ?_
  refine lv_ladd hx hb dX11_draw_12 ?_
  refine lv_ldc2 (v := 2147483647) hx hb hown (hts _ w_5_43) dX11_draw_13 ?_
  refine lv_land hx hb dX11_draw_16 ?_
  refine sk_topl (Int64.ofNat (kdr sd)) (kdr_and sd) ?_
  have hkd := kdr_lt sd
  refine sk_put (ws' := [(x0, .inr (11, [.ref (q 0), .ref (q 1), .ref (q 2), .ref (q 3), .ref (q 4), .ref (q 5), .ref (q 6), .ref (q 7), .ref (q 8), .ref (q 9), .ref (q 10), .ref (q 11), .ref (q 12), .ref (q 13), .ref (q 14), .int hc, .ref (q 16), .long (Int64.ofNat (kdr sd))]))]) (C := RX11) (T := TX11) (N := 18) (v := .long (Int64.ofNat (kdr sd))) hx hb hts inlX11 tyX11 tyX11_ok nmX11 hown hK hP hD hS 0 rfl rfl 17 (Nat.le_of_ble_eq_true rfl) w_2_140 rfl rfl rfl (Nat.le_of_ble_eq_true rfl) rfl dX11_draw_17 (fun H locs hP hD hS => ?_)
  refine lv_lload_n hx hb dX11_draw_20 rfl (lv_at hl 1 rfl) ?_
  refine lv_lconst (v := 0) hx hb dX11_draw_21 (by decide) ?_
  refine W.lcmp hx hb dX11_draw_22 ?_
  refine lv_if_le (tgt := 39) hx hb dX11_draw_23 (by decide) (fun c => absurd c (kofn_pos hm1 (by omega))) (fun c_1 => ?_)
  refine lv_aload_n hx hb dX11_draw_26 rfl (lv_at hl 0 rfl) ?_
  refine sk_get (v := .long (Int64.ofNat (kdr sd))) (C := RX11) (T := TX11) (N := 18) hx hb hts inlX11 hown hK hP 0 rfl rfl 17 (Nat.le_of_ble_eq_true rfl) w_2_140 rfl dX11_draw_27 ?_
  refine lv_ldc2 (v := 64) hx hb hown (hts _ w_5_44) dX11_draw_30 ?_
  refine lv_ldiv hx hb dX11_draw_33 (by decide) ?_
  refine sk_topl (Int64.ofNat (kdr sd / 64)) (kofn_div (b := 64) (by omega) (by decide) (by decide)) ?_
  refine lv_lload_n hx hb dX11_draw_34 rfl (lv_at hl 1 rfl) ?_
  refine lv_lrem hx hb dX11_draw_35 (kofn_ne hm1 (by omega)) ?_
  refine sk_topl (Int64.ofNat (kdv sd mq)) (kofn_rem (by omega) (by omega) (by omega)) ?_
  refine lv_goto (tgt := 40) hx hb dX11_draw_36 (by decide) ?_
  exact sk_lret hx hb hr hlocks hK hP hD hS (⟨rfl, rfl⟩) (Nat.le_of_ble_eq_true rfl) (Nat.le_of_ble_eq_true rfl) dX11_draw_40
theorem dg_X4_keep_0_0 : bqL cX4_keep 0 [(0, [43]), (1, [180, 0, 37]), (4, [54, 5]), (6, [21, 5]), (8, [155, 0, 51]), (11, [21, 5]), (13, [42]), (14, [180, 0, 21]), (17, [190]), (18, [162, 0, 41]), (21, [42]), (22, [180, 0, 21]), (25, [21, 5]), (27, [43]), (28, [180, 0, 40]), (31, [79]), (32, [42]), (33, [180, 0, 25]), (36, [21, 5]), (38, [32]), (39, [80]), (40, [42]), (41, [180, 0, 29]), (44, [21, 5]), (46, [21, 4]), (48, [79]), (49, [43]), (50, [89]), (51, [180, 0, 37]), (54, [4]), (55, [96]), (56, [181, 0, 37]), (59, [177])] = true := by decide +kernel
theorem dX4_keep_0 : decode cX4_keep 0 = .ok (.aload_n 1, 1) := q_aload_n1 (bat_get dg_X4_keep_0_0 0 rfl rfl)
theorem dX4_keep_1 : decode cX4_keep 1 = .ok (.getfield 37, 3) := q_getfield (bat_get dg_X4_keep_0_0 1 rfl rfl) rfl
theorem dX4_keep_4 : decode cX4_keep 4 = .ok (.istore 5, 2) := q_istore (bat_get dg_X4_keep_0_0 2 rfl rfl)
theorem dX4_keep_6 : decode cX4_keep 6 = .ok (.iload 5, 2) := q_iload (bat_get dg_X4_keep_0_0 3 rfl rfl)
theorem dX4_keep_8 : decode cX4_keep 8 = .ok (.ifCond .lt 51, 3) := q_ifCond_lt (bat_get dg_X4_keep_0_0 4 rfl rfl) rfl
theorem dX4_keep_11 : decode cX4_keep 11 = .ok (.iload 5, 2) := q_iload (bat_get dg_X4_keep_0_0 5 rfl rfl)
theorem dX4_keep_13 : decode cX4_keep 13 = .ok (.aload_n 0, 1) := q_aload_n0 (bat_get dg_X4_keep_0_0 6 rfl rfl)
theorem dX4_keep_14 : decode cX4_keep 14 = .ok (.getfield 21, 3) := q_getfield (bat_get dg_X4_keep_0_0 7 rfl rfl) rfl
theorem dX4_keep_17 : decode cX4_keep 17 = .ok (.arraylength, 1) := q_arraylength (bat_get dg_X4_keep_0_0 8 rfl rfl)
theorem dX4_keep_18 : decode cX4_keep 18 = .ok (.if_icmp .ge 41, 3) := q_if_icmp_ge (bat_get dg_X4_keep_0_0 9 rfl rfl) rfl
theorem dX4_keep_21 : decode cX4_keep 21 = .ok (.aload_n 0, 1) := q_aload_n0 (bat_get dg_X4_keep_0_0 10 rfl rfl)
theorem dX4_keep_22 : decode cX4_keep 22 = .ok (.getfield 21, 3) := q_getfield (bat_get dg_X4_keep_0_0 11 rfl rfl) rfl
theorem dX4_keep_25 : decode cX4_keep 25 = .ok (.iload 5, 2) := q_iload (bat_get dg_X4_keep_0_0 12 rfl rfl)
theorem dX4_keep_27 : decode cX4_keep 27 = .ok (.aload_n 1, 1) := q_aload_n1 (bat_get dg_X4_keep_0_0 13 rfl rfl)
theorem dX4_keep_28 : decode cX4_keep 28 = .ok (.getfield 40, 3) := q_getfield (bat_get dg_X4_keep_0_0 14 rfl rfl) rfl
theorem dX4_keep_31 : decode cX4_keep 31 = .ok (.iastore, 1) := q_iastore (bat_get dg_X4_keep_0_0 15 rfl rfl)
theorem dX4_keep_32 : decode cX4_keep 32 = .ok (.aload_n 0, 1) := q_aload_n0 (bat_get dg_X4_keep_0_0 16 rfl rfl)
theorem dX4_keep_33 : decode cX4_keep 33 = .ok (.getfield 25, 3) := q_getfield (bat_get dg_X4_keep_0_0 17 rfl rfl) rfl
theorem dX4_keep_36 : decode cX4_keep 36 = .ok (.iload 5, 2) := q_iload (bat_get dg_X4_keep_0_0 18 rfl rfl)
theorem dX4_keep_38 : decode cX4_keep 38 = .ok (.lload_n 2, 1) := q_lload_n2 (bat_get dg_X4_keep_0_0 19 rfl rfl)
theorem dX4_keep_39 : decode cX4_keep 39 = .ok (.lastore, 1) := q_lastore (bat_get dg_X4_keep_0_0 20 rfl rfl)
theorem dX4_keep_40 : decode cX4_keep 40 = .ok (.aload_n 0, 1) := q_aload_n0 (bat_get dg_X4_keep_0_0 21 rfl rfl)
theorem dX4_keep_41 : decode cX4_keep 41 = .ok (.getfield 29, 3) := q_getfield (bat_get dg_X4_keep_0_0 22 rfl rfl) rfl
theorem dX4_keep_44 : decode cX4_keep 44 = .ok (.iload 5, 2) := q_iload (bat_get dg_X4_keep_0_0 23 rfl rfl)
theorem dX4_keep_46 : decode cX4_keep 46 = .ok (.iload 4, 2) := q_iload (bat_get dg_X4_keep_0_0 24 rfl rfl)
theorem dX4_keep_48 : decode cX4_keep 48 = .ok (.iastore, 1) := q_iastore (bat_get dg_X4_keep_0_0 25 rfl rfl)
theorem dX4_keep_49 : decode cX4_keep 49 = .ok (.aload_n 1, 1) := q_aload_n1 (bat_get dg_X4_keep_0_0 26 rfl rfl)
theorem dX4_keep_50 : decode cX4_keep 50 = .ok (.dup, 1) := q_dup (bat_get dg_X4_keep_0_0 27 rfl rfl)
theorem dX4_keep_51 : decode cX4_keep 51 = .ok (.getfield 37, 3) := q_getfield (bat_get dg_X4_keep_0_0 28 rfl rfl) rfl
theorem dX4_keep_54 : decode cX4_keep 54 = .ok (.iconst 1, 1) := q_iconst1 (bat_get dg_X4_keep_0_0 29 rfl rfl)
theorem dX4_keep_55 : decode cX4_keep 55 = .ok (.iadd, 1) := q_iadd (bat_get dg_X4_keep_0_0 30 rfl rfl)
theorem dX4_keep_56 : decode cX4_keep 56 = .ok (.putfield 37, 3) := q_putfield (bat_get dg_X4_keep_0_0 31 rfl rfl) rfl
theorem dX4_keep_59 : decode cX4_keep 59 = .ok (.return_, 1) := q_return_ (bat_get dg_X4_keep_0_0 32 rfl rfl)
theorem w_2_14 : (Cond.fieldLink RX4 37 "SameKeeper$State" "kept" "I") ∈ wsL_law := sk_mem (ck_2 _ (List.mem_of_getElem? (i := 14) rfl)) rfl
theorem w_2_43 : (Cond.fieldLink RX4 21 "SameKeeper$Past" "weekOf" "[I") ∈ wsL_law := sk_mem (ck_2 _ (List.mem_of_getElem? (i := 43) rfl)) rfl
theorem w_2_5 : (Cond.fieldLink RX4 40 "SameKeeper$State" "week" "I") ∈ wsL_law := sk_mem (ck_2 _ (List.mem_of_getElem? (i := 5) rfl)) rfl
theorem w_2_44 : (Cond.fieldLink RX4 25 "SameKeeper$Past" "agreedOf" "[J") ∈ wsL_law := sk_mem (ck_2 _ (List.mem_of_getElem? (i := 44) rfl)) rfl
theorem w_2_45 : (Cond.fieldLink RX4 29 "SameKeeper$Past" "moodOf" "[I") ∈ wsL_law := sk_mem (ck_2 _ (List.mem_of_getElem? (i := 45) rfl)) rfl
theorem w_5_27 : (Cond.code yX4_keep cX4_keep 6 none) ∈ wsL_law := sk_mem (ck_5 _ (List.mem_of_getElem? (i := 27) rfl)) rfl
set_option maxHeartbeats 4000000 in
set_option maxRecDepth 100000 in
theorem c_kpast_keep (l : Launch) (D : va_G) (cI cJ cC cZ cS : ClassId) (q : Nat → Nat) (ac : Nat) (p1 : Nat → Int32) (p2 : Nat → Int64) (p3 : Nat → Int32) (dy : Nat) (wn : Nat) (mo : Nat) (ke : Nat) (mu : Int32) (fb : Nat → Int32) (fw : Nat → Int32) (x : Int64) (o : Int32) (hke : ke < 1000) : skM l yX4_keep cX4_keep 6 none 0 0 0 0 D (skT cI cJ cC cZ cS) [.ref (q 9), .ref (q 7), .long x, .int o] [(q 9, .inr (4, [.ref (q 35), .int (nI ac), .ref (q 36), .ref (q 37), .ref (q 38)])), (q 36, .inl (cI, 1000, .inl p1)), (q 37, .inl (cJ, 1000, .inr (.inl p2))), (q 38, .inl (cI, 1000, .inl p3)), (q 7, .inr (7, [.ref (q 33), .ref (q 34), .int (nI dy), .int (nI wn), .int (nI mo), .int mu, .int (nI ke)]))] (skV D (skT cI cJ cC cZ cS) (fun (u : va_W) => ∃ (p1_ : Nat → Int32), ∃ (p2_ : Nat → Int64), ∃ (p3_ : Nat → Int32), p1_ = upd p1 ke (nI wn) ∧ p2_ = vp_updL p2 ke x ∧ p3_ = upd p3 ke o ∧ u = [(q 9, .inr (4, [.ref (q 35), .int (nI ac), .ref (q 36), .ref (q 37), .ref (q 38)])), (q 36, .inl (cI, 1000, .inl p1_)), (q 37, .inl (cJ, 1000, .inr (.inl p2_))), (q 38, .inl (cI, 1000, .inl p3_)), (q 7, .inr (7, [.ref (q 33), .ref (q 34), .int (nI dy), .int (nI wn), .int (nI mo), .int mu, .int (nI (ke + 1))]))])) := by
  refine skM_of pf_X4_keep (Nat.le_of_ble_eq_true rfl) ?_
  intro p e s m below meth c A ls E hP hD hl
  refine skE_el E (fun hx hb hr hml hlocks hin hown hts hK hA => ?_)
  have hown : s.vm.findClass RX4 = some m.cls := hown
  have hS : va_S A s.heap s.heap [] := va_S.rf
  have hl : lv_has ls 6 [(0, .ref (q 9)), (1, .ref (q 7)), (2, .long x), (4, .int o)] := hl
  refine lv_aload_n hx hb dX4_keep_0 rfl (lv_at hl 1 rfl) ?_
  refine sk_get (v := .int (nI ke)) (C := RX7) (T := TX7) (N := 7) hx hb hts inlX7 hown hK hP 4 rfl rfl 6 (Nat.le_of_ble_eq_true rfl) w_2_14 rfl dX4_keep_1 ?_
  refine lv_istore (lv' := [(5, .int (nI ke)), (0, .ref (q 9)), (1, .ref (q 7)), (2, .long x), (4, .int o)]) hx hb dX4_keep_4 hl (by decide) rfl (fun ls hl => ?_)
  refine lv_iload hx hb dX4_keep_6 (lv_at hl 0 rfl) ?_
  refine lv_if_lt (tgt := 59) hx hb dX4_keep_8 (by decide) (fun c => absurd c (nI_pos (by omega))) (fun c_1 => ?_)
  refine lv_iload hx hb dX4_keep_11 (lv_at hl 0 rfl) ?_
  refine lv_aload_n hx hb dX4_keep_13 rfl (lv_at hl 1 rfl) ?_
  refine sk_get (v := .ref (q 36)) (C := RX4) (T := TX4) (N := 5) hx hb hts inlX4 hown hK hP 0 rfl rfl 2 (Nat.le_of_ble_eq_true rfl) w_2_43 rfl dX4_keep_14 ?_
  refine va_alen (v := 1000) hx hb hK.1 hP 1 0 rfl rfl rfl dX4_keep_17 ?_
  refine lv_icmp_ge (tgt := 59) hx hb dX4_keep_18 (by decide) (fun c => absurd ((nle 1000 ke (Nat.le_of_ble_eq_true rfl) (by omega)).mp c) (by omega)) (fun c_2 => ?_)
  refine lv_aload_n hx hb dX4_keep_21 rfl (lv_at hl 1 rfl) ?_
  refine sk_get (v := .ref (q 36)) (C := RX4) (T := TX4) (N := 5) hx hb hts inlX4 hown hK hP 0 rfl rfl 2 (Nat.le_of_ble_eq_true rfl) w_2_43 rfl dX4_keep_22 ?_
  refine lv_iload hx hb dX4_keep_25 (lv_at hl 0 rfl) ?_
  refine lv_aload_n hx hb dX4_keep_27 rfl (lv_at hl 2 rfl) ?_
  refine sk_get (v := .int (nI wn)) (C := RX7) (T := TX7) (N := 7) hx hb hts inlX7 hown hK hP 4 rfl rfl 3 (Nat.le_of_ble_eq_true rfl) w_2_5 rfl dX4_keep_28 ?_
  refine sk_iastE (k := ke) (ws' := fun f_3 => [(q 9, .inr (4, [.ref (q 35), .int (nI ac), .ref (q 36), .ref (q 37), .ref (q 38)])), (q 36, .inl (cI, 1000, .inl f_3)), (q 37, .inl (cJ, 1000, .inr (.inl p2))), (q 38, .inl (cI, 1000, .inl p3)), (q 7, .inr (7, [.ref (q 33), .ref (q 34), .int (nI dy), .int (nI wn), .int (nI mo), .int mu, .int (nI ke)]))]) hx hb hK hP hD hS 1 0 rfl rfl (by omega) (by omega) (fun _ => rfl) dX4_keep_31 (fun f_3 H locs ef_4 hP hD hS => ?_)
  refine lv_aload_n hx hb dX4_keep_32 rfl (lv_at hl 1 rfl) ?_
  refine sk_get (v := .ref (q 37)) (C := RX4) (T := TX4) (N := 5) hx hb hts inlX4 hown hK hP 0 rfl rfl 3 (Nat.le_of_ble_eq_true rfl) w_2_44 rfl dX4_keep_33 ?_
  refine lv_iload hx hb dX4_keep_36 (lv_at hl 0 rfl) ?_
  refine lv_lload_n hx hb dX4_keep_38 rfl (lv_at hl 3 rfl) ?_
  refine sk_lastE (k := ke) (ws' := fun f_5 => [(q 9, .inr (4, [.ref (q 35), .int (nI ac), .ref (q 36), .ref (q 37), .ref (q 38)])), (q 36, .inl (cI, 1000, .inl f_3)), (q 37, .inl (cJ, 1000, .inr (.inl f_5))), (q 38, .inl (cI, 1000, .inl p3)), (q 7, .inr (7, [.ref (q 33), .ref (q 34), .int (nI dy), .int (nI wn), .int (nI mo), .int mu, .int (nI ke)]))]) hx hb hK hP hD hS 2 1 rfl rfl (by omega) (by omega) (fun _ => rfl) dX4_keep_39 (fun f_5 H locs ef_6 hP hD hS => ?_)
  refine lv_aload_n hx hb dX4_keep_40 rfl (lv_at hl 1 rfl) ?_
  refine sk_get (v := .ref (q 38)) (C := RX4) (T := TX4) (N := 5) hx hb hts inlX4 hown hK hP 0 rfl rfl 4 (Nat.le_of_ble_eq_true rfl) w_2_45 rfl dX4_keep_41 ?_
  refine lv_iload hx hb dX4_keep_44 (lv_at hl 0 rfl) ?_
  refine lv_iload hx hb dX4_keep_46 (lv_at hl 4 rfl) ?_
  refine sk_iastE (k := ke) (ws' := fun f_7 => [(q 9, .inr (4, [.ref (q 35), .int (nI ac), .ref (q 36), .ref (q 37), .ref (q 38)])), (q 36, .inl (cI, 1000, .inl f_3)), (q 37, .inl (cJ, 1000, .inr (.inl f_5))), (q 38, .inl (cI, 1000, .inl f_7)), (q 7, .inr (7, [.ref (q 33), .ref (q 34), .int (nI dy), .int (nI wn), .int (nI mo), .int mu, .int (nI ke)]))]) hx hb hK hP hD hS 3 0 rfl rfl (by omega) (by omega) (fun _ => rfl) dX4_keep_48 (fun f_7 H locs ef_8 hP hD hS => ?_)
  refine lv_aload_n hx hb dX4_keep_49 rfl (lv_at hl 2 rfl) ?_
  refine lv_dup hx hb dX4_keep_50 rfl ?_
  refine sk_get (v := .int (nI ke)) (C := RX7) (T := TX7) (N := 7) hx hb hts inlX7 hown hK hP 4 rfl rfl 6 (Nat.le_of_ble_eq_true rfl) w_2_14 rfl dX4_keep_51 ?_
  refine lv_iconst (v := 1) hx hb dX4_keep_54 ic_1 ?_
  refine lv_iadd hx hb dX4_keep_55 ?_
  refine sk_top (nI (ke + 1)) (nI_add ke 1) ?_
  refine sk_put (ws' := [(q 9, .inr (4, [.ref (q 35), .int (nI ac), .ref (q 36), .ref (q 37), .ref (q 38)])), (q 36, .inl (cI, 1000, .inl f_3)), (q 37, .inl (cJ, 1000, .inr (.inl f_5))), (q 38, .inl (cI, 1000, .inl f_7)), (q 7, .inr (7, [.ref (q 33), .ref (q 34), .int (nI dy), .int (nI wn), .int (nI mo), .int mu, .int (nI (ke + 1))]))]) (C := RX7) (T := TX7) (N := 7) (v := .int (nI (ke + 1))) hx hb hts inlX7 tyX7 tyX7_ok nmX7 hown hK hP hD hS 4 rfl rfl 6 (Nat.le_of_ble_eq_true rfl) w_2_14 rfl rfl rfl (Nat.le_of_ble_eq_true rfl) rfl dX4_keep_56 (fun H locs hP hD hS => ?_)
  exact sk_vret hx hb hr hlocks hK hP hD hS (⟨f_3, f_5, f_7, ef_4, ef_6, ef_8, rfl⟩) (Nat.le_of_ble_eq_true rfl) (Nat.le_of_ble_eq_true rfl) dX4_keep_59
theorem dg_X11_pass_0_0 : bqL cX11_pass 0 [(0, [42]), (1, [180, 0, 89]), (4, [42]), (5, [180, 0, 59]), (8, [180, 0, 144]), (11, [4]), (12, [100]), (13, [46]), (14, [62]), (15, [42]), (16, [180, 0, 69]), (19, [42]), (20, [180, 0, 59]), (23, [31]), (24, [29]), (25, [182, 1, 85]), (28, [42]), (29, [180, 0, 59]), (32, [29]), (33, [181, 0, 150]), (36, [42]), (37, [180, 0, 59]), (40, [89]), (41, [180, 0, 147]), (44, [4]), (45, [96]), (46, [181, 0, 147]), (49, [177])] = true := by decide +kernel
theorem dX11_pass_0 : decode cX11_pass 0 = .ok (.aload_n 0, 1) := q_aload_n0 (bat_get dg_X11_pass_0_0 0 rfl rfl)
theorem dX11_pass_1 : decode cX11_pass 1 = .ok (.getfield 89, 3) := q_getfield (bat_get dg_X11_pass_0_0 1 rfl rfl) rfl
theorem dX11_pass_4 : decode cX11_pass 4 = .ok (.aload_n 0, 1) := q_aload_n0 (bat_get dg_X11_pass_0_0 2 rfl rfl)
theorem dX11_pass_5 : decode cX11_pass 5 = .ok (.getfield 59, 3) := q_getfield (bat_get dg_X11_pass_0_0 3 rfl rfl) rfl
theorem dX11_pass_8 : decode cX11_pass 8 = .ok (.getfield 144, 3) := q_getfield (bat_get dg_X11_pass_0_0 4 rfl rfl) rfl
theorem dX11_pass_11 : decode cX11_pass 11 = .ok (.iconst 1, 1) := q_iconst1 (bat_get dg_X11_pass_0_0 5 rfl rfl)
theorem dX11_pass_12 : decode cX11_pass 12 = .ok (.isub, 1) := q_isub (bat_get dg_X11_pass_0_0 6 rfl rfl)
theorem dX11_pass_13 : decode cX11_pass 13 = .ok (.iaload, 1) := q_iaload (bat_get dg_X11_pass_0_0 7 rfl rfl)
theorem dX11_pass_14 : decode cX11_pass 14 = .ok (.istore_n 3, 1) := q_istore_n3 (bat_get dg_X11_pass_0_0 8 rfl rfl)
theorem dX11_pass_15 : decode cX11_pass 15 = .ok (.aload_n 0, 1) := q_aload_n0 (bat_get dg_X11_pass_0_0 9 rfl rfl)
theorem dX11_pass_16 : decode cX11_pass 16 = .ok (.getfield 69, 3) := q_getfield (bat_get dg_X11_pass_0_0 10 rfl rfl) rfl
theorem dX11_pass_19 : decode cX11_pass 19 = .ok (.aload_n 0, 1) := q_aload_n0 (bat_get dg_X11_pass_0_0 11 rfl rfl)
theorem dX11_pass_20 : decode cX11_pass 20 = .ok (.getfield 59, 3) := q_getfield (bat_get dg_X11_pass_0_0 12 rfl rfl) rfl
theorem dX11_pass_23 : decode cX11_pass 23 = .ok (.lload_n 1, 1) := q_lload_n1 (bat_get dg_X11_pass_0_0 13 rfl rfl)
theorem dX11_pass_24 : decode cX11_pass 24 = .ok (.iload_n 3, 1) := q_iload_n3 (bat_get dg_X11_pass_0_0 14 rfl rfl)
theorem dX11_pass_25 : decode cX11_pass 25 = .ok (.invokevirtual 341, 3) := q_invokevirtual (bat_get dg_X11_pass_0_0 15 rfl rfl) rfl
theorem dX11_pass_28 : decode cX11_pass 28 = .ok (.aload_n 0, 1) := q_aload_n0 (bat_get dg_X11_pass_0_0 16 rfl rfl)
theorem dX11_pass_29 : decode cX11_pass 29 = .ok (.getfield 59, 3) := q_getfield (bat_get dg_X11_pass_0_0 17 rfl rfl) rfl
theorem dX11_pass_32 : decode cX11_pass 32 = .ok (.iload_n 3, 1) := q_iload_n3 (bat_get dg_X11_pass_0_0 18 rfl rfl)
theorem dX11_pass_33 : decode cX11_pass 33 = .ok (.putfield 150, 3) := q_putfield (bat_get dg_X11_pass_0_0 19 rfl rfl) rfl
theorem dX11_pass_36 : decode cX11_pass 36 = .ok (.aload_n 0, 1) := q_aload_n0 (bat_get dg_X11_pass_0_0 20 rfl rfl)
theorem dX11_pass_37 : decode cX11_pass 37 = .ok (.getfield 59, 3) := q_getfield (bat_get dg_X11_pass_0_0 21 rfl rfl) rfl
theorem dX11_pass_40 : decode cX11_pass 40 = .ok (.dup, 1) := q_dup (bat_get dg_X11_pass_0_0 22 rfl rfl)
theorem dX11_pass_41 : decode cX11_pass 41 = .ok (.getfield 147, 3) := q_getfield (bat_get dg_X11_pass_0_0 23 rfl rfl) rfl
theorem dX11_pass_44 : decode cX11_pass 44 = .ok (.iconst 1, 1) := q_iconst1 (bat_get dg_X11_pass_0_0 24 rfl rfl)
theorem dX11_pass_45 : decode cX11_pass 45 = .ok (.iadd, 1) := q_iadd (bat_get dg_X11_pass_0_0 25 rfl rfl)
theorem dX11_pass_46 : decode cX11_pass 46 = .ok (.putfield 147, 3) := q_putfield (bat_get dg_X11_pass_0_0 26 rfl rfl) rfl
theorem dX11_pass_49 : decode cX11_pass 49 = .ok (.return_, 1) := q_return_ (bat_get dg_X11_pass_0_0 27 rfl rfl)
theorem w_2_132 : (Cond.fieldLink RX11 69 "SameKeeper" "past" "LSameKeeper$Past;") ∈ wsL_law := sk_mem (ck_2 _ (List.mem_of_getElem? (i := 132) rfl)) rfl
theorem w_5_24 : (Cond.methodLink RX11 341 yX4_keep) ∈ wsL_law := sk_mem (ck_5 _ (List.mem_of_getElem? (i := 24) rfl)) rfl
theorem w_5_25 : (Cond.instanceMethod yX4_keep) ∈ wsL_law := sk_mem (ck_5 _ (List.mem_of_getElem? (i := 25) rfl)) rfl
theorem w_5_26 : (Cond.selects RX4 yX4_keep yX4_keep) ∈ wsL_law := sk_mem (ck_5 _ (List.mem_of_getElem? (i := 26) rfl)) rfl
theorem w_1_11 : (Cond.initialized RX4) ∈ wsL_law := sk_mem (ck_1 _ (List.mem_of_getElem? (i := 11) rfl)) rfl
theorem w_2_10 : (Cond.fieldLink RX11 150 "SameKeeper$State" "mood" "I") ∈ wsL_law := sk_mem (ck_2 _ (List.mem_of_getElem? (i := 10) rfl)) rfl
theorem w_2_6 : (Cond.fieldLink RX11 147 "SameKeeper$State" "week" "I") ∈ wsL_law := sk_mem (ck_2 _ (List.mem_of_getElem? (i := 6) rfl)) rfl
theorem w_5_23 : (Cond.code yX11_pass cX11_pass 4 none) ∈ wsL_law := sk_mem (ck_5 _ (List.mem_of_getElem? (i := 23) rfl)) rfl
def om_7_3e : List Bool := false :: true :: true :: true :: true :: true :: false :: []
theorem hd_X4_keep_3 : skD yX4_keep 3 := by decide +kernel
set_option maxHeartbeats 4000000 in
set_option maxRecDepth 100000 in
theorem c_kx_pass (l : Launch) (D : va_G) (cI cJ cC cZ cS : ClassId) (x0 : Nat) (q : Nat → Nat) (hc : Int32) (dr : Int64) (dy : Nat) (wn : Nat) (mo : Nat) (ke : Nat) (mu : Int32) (fb : Nat → Int32) (fw : Nat → Int32) (ac : Nat) (lst : Nat) (p1 : Nat → Int32) (p2 : Nat → Int64) (p3 : Nat → Int32) (ra : Nat → Int32) (x : Int64) (hdy : dy ≤ 9) (hdy1 : 1 ≤ dy) (hls : ra (dy - 1) = nI lst) (hls9 : lst ≤ 9) (hke : ke < 1000) (hwn : wn ≤ 999) : skM l yX11_pass cX11_pass 4 none 1 25 0 0 D (skT cI cJ cC cZ cS) [.ref x0, .long x] [(x0, .inr (11, [.ref (q 0), .ref (q 1), .ref (q 2), .ref (q 3), .ref (q 4), .ref (q 5), .ref (q 6), .ref (q 7), .ref (q 8), .ref (q 9), .ref (q 10), .ref (q 11), .ref (q 12), .ref (q 13), .ref (q 14), .int hc, .ref (q 16), .long dr])), (q 7, .inr (7, [.ref (q 33), .ref (q 34), .int (nI dy), .int (nI wn), .int (nI mo), .int mu, .int (nI ke)])), (q 9, .inr (4, [.ref (q 35), .int (nI ac), .ref (q 36), .ref (q 37), .ref (q 38)])), (q 36, .inl (cI, 1000, .inl p1)), (q 37, .inl (cJ, 1000, .inr (.inl p2))), (q 38, .inl (cI, 1000, .inl p3)), (q 12, .inl (cI, 9, .inl ra))] (skV D (skT cI cJ cC cZ cS) (fun (u : va_W) => ∃ (p1_ : Nat → Int32), ∃ (p2_ : Nat → Int64), ∃ (p3_ : Nat → Int32), p1_ = upd p1 ke (nI wn) ∧ p2_ = vp_updL p2 ke x ∧ p3_ = upd p3 ke (nI lst) ∧ u = [(x0, .inr (11, [.ref (q 0), .ref (q 1), .ref (q 2), .ref (q 3), .ref (q 4), .ref (q 5), .ref (q 6), .ref (q 7), .ref (q 8), .ref (q 9), .ref (q 10), .ref (q 11), .ref (q 12), .ref (q 13), .ref (q 14), .int hc, .ref (q 16), .long dr])), (q 7, .inr (7, [.ref (q 33), .ref (q 34), .int (nI dy), .int (nI (wn + 1)), .int (nI lst), .int mu, .int (nI (ke + 1))])), (q 9, .inr (4, [.ref (q 35), .int (nI ac), .ref (q 36), .ref (q 37), .ref (q 38)])), (q 36, .inl (cI, 1000, .inl p1_)), (q 37, .inl (cJ, 1000, .inr (.inl p2_))), (q 38, .inl (cI, 1000, .inl p3_)), (q 12, .inl (cI, 9, .inl ra))])) := by
  refine skM_of pf_X11_pass (Nat.le_of_ble_eq_true rfl) ?_
  intro p e s m below meth c A ls E hP hD hl
  refine skE_el E (fun hx hb hr hml hlocks hin hown hts hK hA => ?_)
  have hown : s.vm.findClass RX11 = some m.cls := hown
  have hS : va_S A s.heap s.heap [] := va_S.rf
  have hl : lv_has ls 4 [(0, .ref x0), (1, .long x)] := hl
  refine lv_aload_n hx hb dX11_pass_0 rfl (lv_at hl 0 rfl) ?_
  refine sk_get (v := .ref (q 12)) (C := RX11) (T := TX11) (N := 18) hx hb hts inlX11 hown hK hP 0 rfl rfl 12 (Nat.le_of_ble_eq_true rfl) w_2_135 rfl dX11_pass_1 ?_
  refine lv_aload_n hx hb dX11_pass_4 rfl (lv_at hl 0 rfl) ?_
  refine sk_get (v := .ref (q 7)) (C := RX11) (T := TX11) (N := 18) hx hb hts inlX11 hown hK hP 0 rfl rfl 7 (Nat.le_of_ble_eq_true rfl) w_2_130 rfl dX11_pass_5 ?_
  refine sk_get (v := .int (nI dy)) (C := RX7) (T := TX7) (N := 7) hx hb hts inlX7 hown hK hP 1 rfl rfl 2 (Nat.le_of_ble_eq_true rfl) w_2_1 rfl dX11_pass_8 ?_
  refine lv_iconst (v := 1) hx hb dX11_pass_11 ic_1 ?_
  refine lv_isub hx hb dX11_pass_12 ?_
  refine sk_top (nI (dy - 1)) (nsub dy 1 (by omega)) ?_
  refine va_iald hx hb hK.1 hP 6 0 rfl rfl (vin (dy - 1) 9 (by omega) (Nat.le_of_ble_eq_true rfl)) dX11_pass_13 ?_
  refine sk_top (nI lst) (by rw [nI_clamp (by omega)]; exact hls) ?_
  refine lv_istore_n (lv' := [(3, .int (nI lst)), (0, .ref x0), (1, .long x)]) hx hb dX11_pass_14 rfl hl (by decide) rfl (fun ls hl => ?_)
  refine lv_aload_n hx hb dX11_pass_15 rfl (lv_at hl 1 rfl) ?_
  refine sk_get (v := .ref (q 9)) (C := RX11) (T := TX11) (N := 18) hx hb hts inlX11 hown hK hP 0 rfl rfl 9 (Nat.le_of_ble_eq_true rfl) w_2_132 rfl dX11_pass_16 ?_
  refine lv_aload_n hx hb dX11_pass_19 rfl (lv_at hl 1 rfl) ?_
  refine sk_get (v := .ref (q 7)) (C := RX11) (T := TX11) (N := 18) hx hb hts inlX11 hown hK hP 0 rfl rfl 7 (Nat.le_of_ble_eq_true rfl) w_2_130 rfl dX11_pass_20 ?_
  refine lv_lload_n hx hb dX11_pass_23 rfl (lv_at hl 2 rfl) ?_
  refine lv_iload_n hx hb dX11_pass_24 rfl (lv_at hl 0 rfl) ?_
  refine sk_Vv (q0 := 0) (n := 3) (rest := []) (wr := fmR om_7_3e _) ⟨hx, hb, hml, hown, hts⟩ hl.1 (c_kpast_keep l D cI cJ cC cZ cS q ac p1 p2 p3 dy wn mo ke mu fb fw x (nI lst) hke) w_5_24 w_5_25 w_5_26 w_1_11 w_5_27 hd_X4_keep_3 ⟨⟨(Nat.le_of_ble_eq_true rfl), (Nat.le_of_ble_eq_true rfl)⟩, (Nat.le_of_ble_eq_true rfl), (Nat.le_of_ble_eq_true rfl)⟩ hK hP hD hS hA [2, 3, 4, 5, 1] (fmF om_7_3e 0) rfl (fm_R rfl rfl) (by decide +kernel) (fm_nF om_7_3e 0) (by decide +kernel) rfl rfl rfl rfl (Nat.le_of_ble_eq_true rfl) dX11_pass_25 (fun u H locs hw hP hD hS => ?_)
  refine exE hw (fun p1__1 hw1 => exE hw1 (fun p2__2 hw2 => exE hw2 (fun p3__3 hw3 => anE hw3 (fun hp1_4 hw4 => anE hw4 (fun hp2_5 hw5 => anE hw5 (fun hp3_6 eu_7 => ?_))))))
  clear hw hw1 hw2 hw3 hw4 hw5
  refine o_mgqE (ux := [(q 7, .inr (7, [.ref (q 33), .ref (q 34), .int (nI dy), .int (nI wn), .int (nI mo), .int mu, .int (nI (ke + 1))])), (q 9, .inr (4, [.ref (q 35), .int (nI ac), .ref (q 36), .ref (q 37), .ref (q 38)])), (q 36, .inl (cI, 1000, .inl p1__1)), (q 37, .inl (cJ, 1000, .inr (.inl p2__2))), (q 38, .inl (cI, 1000, .inl p3__3))]) (ws' := [(x0, .inr (11, [.ref (q 0), .ref (q 1), .ref (q 2), .ref (q 3), .ref (q 4), .ref (q 5), .ref (q 6), .ref (q 7), .ref (q 8), .ref (q 9), .ref (q 10), .ref (q 11), .ref (q 12), .ref (q 13), .ref (q 14), .int hc, .ref (q 16), .long dr])), (q 7, .inr (7, [.ref (q 33), .ref (q 34), .int (nI dy), .int (nI wn), .int (nI mo), .int mu, .int (nI (ke + 1))])), (q 9, .inr (4, [.ref (q 35), .int (nI ac), .ref (q 36), .ref (q 37), .ref (q 38)])), (q 36, .inl (cI, 1000, .inl p1__1)), (q 37, .inl (cJ, 1000, .inr (.inl p2__2))), (q 38, .inl (cI, 1000, .inl p3__3)), (q 12, .inl (cI, 9, .inl ra))]) eu_7 [4, 0, 1, 2, 3] (by decide +kernel) rfl hP hD rfl (fun hP hD => ?_)
  refine lv_aload_n hx hb dX11_pass_28 rfl (lv_at hl 1 rfl) ?_
  refine sk_get (v := .ref (q 7)) (C := RX11) (T := TX11) (N := 18) hx hb hts inlX11 hown hK hP 0 rfl rfl 7 (Nat.le_of_ble_eq_true rfl) w_2_130 rfl dX11_pass_29 ?_
  refine lv_iload_n hx hb dX11_pass_32 rfl (lv_at hl 0 rfl) ?_
  refine sk_put (ws' := [(x0, .inr (11, [.ref (q 0), .ref (q 1), .ref (q 2), .ref (q 3), .ref (q 4), .ref (q 5), .ref (q 6), .ref (q 7), .ref (q 8), .ref (q 9), .ref (q 10), .ref (q 11), .ref (q 12), .ref (q 13), .ref (q 14), .int hc, .ref (q 16), .long dr])), (q 7, .inr (7, [.ref (q 33), .ref (q 34), .int (nI dy), .int (nI wn), .int (nI lst), .int mu, .int (nI (ke + 1))])), (q 9, .inr (4, [.ref (q 35), .int (nI ac), .ref (q 36), .ref (q 37), .ref (q 38)])), (q 36, .inl (cI, 1000, .inl p1__1)), (q 37, .inl (cJ, 1000, .inr (.inl p2__2))), (q 38, .inl (cI, 1000, .inl p3__3)), (q 12, .inl (cI, 9, .inl ra))]) (C := RX7) (T := TX7) (N := 7) (v := .int (nI lst)) hx hb hts inlX7 tyX7 tyX7_ok nmX7 hown hK hP hD hS 1 rfl rfl 4 (Nat.le_of_ble_eq_true rfl) w_2_10 rfl rfl rfl (Nat.le_of_ble_eq_true rfl) rfl dX11_pass_33 (fun H locs hP hD hS => ?_)
  refine lv_aload_n hx hb dX11_pass_36 rfl (lv_at hl 1 rfl) ?_
  refine sk_get (v := .ref (q 7)) (C := RX11) (T := TX11) (N := 18) hx hb hts inlX11 hown hK hP 0 rfl rfl 7 (Nat.le_of_ble_eq_true rfl) w_2_130 rfl dX11_pass_37 ?_
  refine lv_dup hx hb dX11_pass_40 rfl ?_
  refine sk_get (v := .int (nI wn)) (C := RX7) (T := TX7) (N := 7) hx hb hts inlX7 hown hK hP 1 rfl rfl 3 (Nat.le_of_ble_eq_true rfl) w_2_6 rfl dX11_pass_41 ?_
  refine lv_iconst (v := 1) hx hb dX11_pass_44 ic_1 ?_
  refine lv_iadd hx hb dX11_pass_45 ?_
  refine sk_top (nI (wn + 1)) (nI_add wn 1) ?_
  refine sk_put (ws' := [(x0, .inr (11, [.ref (q 0), .ref (q 1), .ref (q 2), .ref (q 3), .ref (q 4), .ref (q 5), .ref (q 6), .ref (q 7), .ref (q 8), .ref (q 9), .ref (q 10), .ref (q 11), .ref (q 12), .ref (q 13), .ref (q 14), .int hc, .ref (q 16), .long dr])), (q 7, .inr (7, [.ref (q 33), .ref (q 34), .int (nI dy), .int (nI (wn + 1)), .int (nI lst), .int mu, .int (nI (ke + 1))])), (q 9, .inr (4, [.ref (q 35), .int (nI ac), .ref (q 36), .ref (q 37), .ref (q 38)])), (q 36, .inl (cI, 1000, .inl p1__1)), (q 37, .inl (cJ, 1000, .inr (.inl p2__2))), (q 38, .inl (cI, 1000, .inl p3__3)), (q 12, .inl (cI, 9, .inl ra))]) (C := RX7) (T := TX7) (N := 7) (v := .int (nI (wn + 1))) hx hb hts inlX7 tyX7 tyX7_ok nmX7 hown hK hP hD hS 1 rfl rfl 3 (Nat.le_of_ble_eq_true rfl) w_2_6 rfl rfl rfl (Nat.le_of_ble_eq_true rfl) rfl dX11_pass_46 (fun H locs hP hD hS => ?_)
  exact sk_vret hx hb hr hlocks hK hP hD hS (⟨p1__1, p2__2, p3__3, hp1_4, hp2_5, hp3_6, rfl⟩) (Nat.le_of_ble_eq_true rfl) (Nat.le_of_ble_eq_true rfl) dX11_pass_49
