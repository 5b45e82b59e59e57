/-! draws, what is kept -/
def kdr (x : Nat) : Nat := (1103515245 * x + 12345) % 2147483648
def kdv (x m : Nat) : Nat := kdr x / 64 % m
theorem kdr_lt (x : Nat) : kdr x < 2147483648 := Nat.mod_lt _ (by decide)
theorem kofn_mul (a b : Nat) : Int64.ofNat a * Int64.ofNat b = Int64.ofNat (a * b) := (Int64.ofNat_mul a b).symm
theorem kdr_and (x : Nat) : (1103515245 * Int64.ofNat x + 12345) &&& 2147483647 = Int64.ofNat (kdr x) := by
  have h1 : (1103515245 : Int64) * Int64.ofNat x + 12345 = Int64.ofNat (1103515245 * x + 12345) := by
    rw [Int64.ofNat_add, Int64.ofNat_mul]; rfl
  rw [h1]
  refine Int64.toBitVec_inj.mp ?_
  rw [Int64.toBitVec_and]
  show BitVec.ofNat 64 (1103515245 * x + 12345) &&& BitVec.ofNat 64 2147483647 = BitVec.ofNat 64 (kdr x)
  refine BitVec.eq_of_toNat_eq ?_
  rw [BitVec.toNat_and, BitVec.toNat_ofNat, BitVec.toNat_ofNat, BitVec.toNat_ofNat]
  have h2 := kdr_lt x
  rw [Nat.mod_eq_of_lt (show kdr x < 2 ^ 64 by omega), Nat.mod_eq_of_lt (show 2147483647 < 2 ^ 64 by decide), show 2147483647 = 2 ^ 31 - 1 from rfl, Nat.and_two_pow_sub_one_eq_mod]
  unfold kdr
  generalize 1103515245 * x + 12345 = y
  exact Nat.mod_mod_of_dvd y (show 2 ^ 31 ∣ 2 ^ 64 from Nat.pow_dvd_pow 2 (by decide))
theorem kofn_int {a : Nat} (h : a < 9223372036854775808) : (Int64.ofNat a).toInt = (a : Int) := Int64.toInt_ofNat_of_lt h
theorem kofn_div {a b : Nat} (ha : a < 9223372036854775808) (hb : b < 9223372036854775808) (h0 : 0 < b) : Int64.ofNat a / Int64.ofNat b = Int64.ofNat (a / b) := by
  have h1 : a / b < 9223372036854775808 := Nat.lt_of_le_of_lt (Nat.div_le_self a b) ha
  refine Int64.toInt_inj.mp ?_
  rw [Jvm.Kit.i64_div (by rw [kofn_int ha, kofn_int hb]; omega), kofn_int ha, kofn_int hb, kofn_int h1]
  rw [Int.tdiv_eq_ediv_of_nonneg (by omega)]
  exact (Int.natCast_ediv a b).symm
theorem kofn_rem {a b : Nat} (ha : a < 9223372036854775808) (hb : b < 9223372036854775808) (h0 : 0 < b) : Int64.ofNat a - Int64.ofNat a / Int64.ofNat b * Int64.ofNat b = Int64.ofNat (a % b) := by
  rw [kofn_div ha hb h0, kofn_mul, kofn_sub (Nat.div_mul_le_self a b)]
  congr 1
  have h1 := Nat.div_add_mod a b
  have h2 := Nat.mul_comm b (a / b)
  omega
theorem kofn_pos {m : Nat} (h : 1 ≤ m) (hm : m < 9223372036854775808) : ¬ lg_cmp (Int64.ofNat m) 0 ≤ 0 := fun q => by
  have h1 := (lg_cmp_le _ _).mp q
  rw [Int64.le_iff_toInt_le, kofn_int hm] at h1
  have e0 : (0 : Int64).toInt = 0 := rfl
  rw [e0] at h1
  omega
theorem kofn_ne {m : Nat} (h : 1 ≤ m) (hm : m < 9223372036854775808) : ¬ Int64.ofNat m = 0 := fun q => by
  have h1 := kofn_int hm
  rw [q] at h1
  have e0 : (0 : Int64).toInt = 0 := rfl
  omega
abbrev KLg := Nat → Nat × Nat × Nat
def kkO (lg : KLg) (n : Nat) (p1 : Nat → Int32) (p2 : Nat → Int64) (p3 : Nat → Int32) : Prop := ∀ k, k < n → p1 k = nI (lg k).1 ∧ p2 k = Int64.ofNat (lg k).2.1 ∧ p3 k = nI (lg k).2.2
theorem kk_s {lg : KLg} {n : Nat} {p1 p3 r1 r3 : Nat → Int32} {p2 r2 : Nat → Int64} {a b c : Nat} (h : kkO lg n p1 p2 p3) (e1 : r1 = upd p1 n (nI a)) (e2 : r2 = vp_updL p2 n (Int64.ofNat b)) (e3 : r3 = upd p3 n (nI c)) : kkO (updG lg n (a, b, c)) (n + 1) r1 r2 r3 := fun k hk => by
  unfold updG
  by_cases q : k = n
  · subst q; rw [if_pos rfl, kui_s e1, kup_s e2, kui_s e3]; exact ⟨rfl, rfl, rfl⟩
  · rw [if_neg q, kui_n e1 q, kup_n e2 q, kui_n e3 q]; exact h k (by omega)
/-! the days by the seed -/
abbrev KDs := Nat × (Nat → Nat) × (Nat → Nat)
def kds (rn d : Nat) (s : KDs) : KDs := if kdv s.1 100 < rn then (kdr s.1, s.2.1, updG s.2.2 d (min (s.2.2 d + 1) 9)) else (kdr (kdr s.1), updG s.2.1 d (kdv (kdr s.1) 10), s.2.2)
def kda (rn : Nat) (s : KDs) : Nat → KDs
  | 0 => s
  | d + 1 => kds rn d (kda rn s d)
/-! a week by the seed -/
theorem kl2i {k : Nat} (h : k < 2147483648) : (Int64.ofNat k).toInt32 = nI k := kten_i (by rw [kofn_int (by omega)]) h
theorem kmin9 {a : Nat} (h : a < 2147483648) : (if (9 : Int32) < nI a then 9 else nI a) = nI (min a 9) := by
  by_cases q : 9 < a
  · rw [if_pos (show (9 : Int32) < nI a from (nlt 9 a (by decide) h).mpr q), Nat.min_eq_right (by omega)]; rfl
  · rw [if_neg (show ¬ (9 : Int32) < nI a from fun c => q ((nlt 9 a (by decide) h).mp c)), Nat.min_eq_left (by omega)]
theorem kdv_lt {x m : Nat} (h : 1 ≤ m) : kdv x m < m := Nat.mod_lt _ h
theorem kda_s (rn : Nat) (s : KDs) (d : Nat) : kda rn s (d + 1) = kds rn d (kda rn s d) := rfl
def kdO (S : KDs) (zb zw : Nat → Int32) : Prop := (∀ j, j < 9 → zb j = nI (S.2.1 j)) ∧ (∀ j, j < 9 → zw j = nI (S.2.2 j)) ∧ (∀ j, S.2.1 j ≤ 9) ∧ (∀ j, S.2.2 j ≤ 9) ∧ S.1 < 2147483648
theorem kd_wet {S : KDs} {zb zw zx : Nat → Int32} {rn d : Nat} (h : kdO S zb zw) (hr : kdv S.1 100 < rn) (e : zx = upd zw d (nI (min (S.2.2 d + 1) 9))) : kdO (kds rn d S) zb zx := by
  obtain ⟨h1, h2, h3, h4, h5⟩ := h
  unfold kds
  rw [if_pos hr]
  refine ⟨h1, fun j hj => ?_, h3, fun j => ?_, kdr_lt _⟩
  · show zx j = nI (updG S.2.2 d (min (S.2.2 d + 1) 9) j)
    unfold updG
    by_cases q : j = d
    · subst q; rw [if_pos rfl]; exact kui_s e
    · rw [if_neg q, kui_n e q]; exact h2 j hj
  · show updG S.2.2 d (min (S.2.2 d + 1) 9) j ≤ 9
    unfold updG
    by_cases q : j = d
    · rw [if_pos q]; exact Nat.min_le_right _ _
    · rw [if_neg q]; exact h4 j
theorem kd_barge {S : KDs} {zb zw zx : Nat → Int32} {rn d : Nat} (h : kdO S zb zw) (hr : ¬ kdv S.1 100 < rn) (e : zx = upd zb d (nI (kdv (kdr S.1) 10))) : kdO (kds rn d S) zx zw := by
  obtain ⟨h1, h2, h3, h4, h5⟩ := h
  unfold kds
  rw [if_neg hr]
  refine ⟨fun j hj => ?_, h2, fun j => ?_, h4, kdr_lt _⟩
  · show zx j = nI (updG S.2.1 d (kdv (kdr S.1) 10) j)
    unfold updG
    by_cases q : j = d
    · subst q; rw [if_pos rfl]; exact kui_s e
    · rw [if_neg q, kui_n e q]; exact h1 j hj
  · show updG S.2.1 d (kdv (kdr S.1) 10) j ≤ 9
    unfold updG
    by_cases q : j = d
    · rw [if_pos q]; have := kdv_lt (x := kdr S.1) (m := 10) (by decide); omega
    · rw [if_neg q]; exact h3 j
theorem kds_1 {rn d : Nat} {S : KDs} (hr : kdv S.1 100 < rn) : (kds rn d S).1 = kdr S.1 := by unfold kds; rw [if_pos hr]
theorem kds_2 {rn d : Nat} {S : KDs} (hr : ¬ kdv S.1 100 < rn) : (kds rn d S).1 = kdr (kdr S.1) := by unfold kds; rw [if_neg hr]
theorem kmin30 {a : Nat} (h : a < 2147483648) : (if (30 : Int32) < nI a then 30 else nI a) = nI (min a 30) := by
  by_cases q : 30 < a
  · rw [if_pos (show (30 : Int32) < nI a from (nlt 30 a (by decide) h).mpr q), Nat.min_eq_right (by omega)]; rfl
  · rw [if_neg (show ¬ (30 : Int32) < nI a from fun c => q ((nlt 30 a (by decide) h).mp c)), Nat.min_eq_left (by omega)]
/-! a state is saved -/
def psh {α : Type} (ac : Nat) (f : Nat → α) (x : α) : Nat → α := if ac < 20 then updG f ac x else updG (rotG f) 19 x
theorem psh_lt {α : Type} {ac : Nat} (h : ac < 20) (f : Nat → α) (x : α) : updG f ac x = psh ac f x := by unfold psh; rw [if_pos h]
theorem psh_20 {α : Type} {ac : Nat} (h : ¬ ac < 20) (f : Nat → α) (x : α) : updG (rotG f) 19 x = psh ac f x := by unfold psh; rw [if_neg h]
/-! the state that both sides hold -/
abbrev KN := Nat × Nat × (Nat → Nat) × (Nat → Nat) × (Nat → Bool) × Nat
abbrev nWk (n : KN) : Nat := n.1
abbrev nMo (n : KN) : Nat := n.2.1
abbrev nBa (n : KN) : Nat → Nat := n.2.2.1
abbrev nWe (n : KN) : Nat → Nat := n.2.2.2.1
abbrev nMu (n : KN) : Nat → Bool := n.2.2.2.2.1
abbrev nKe (n : KN) : Nat := n.2.2.2.2.2
def kE (L : LkS) (n : KN) : Nat → Nat → Nat → Bool := kcFo L (nWk n) (nBa n) (nWe n) (nMu n) 0
def kNum (L : LkS) (dy : Nat) (n : KN) : Nat := kcC (kE L n) dy 0 (nMo n)
def kLast (L : LkS) (dy : Nat) (n : KN) (x : Nat) : Nat := kcM (kE L n) dy (nMo n) x (dy - 1)
/-- the week of a number goes by -/
def kPass (L : LkS) (dy : Nat) (n : KN) (x : Nat) : KN := (nWk n + 1, kLast L dy n x, nBa n, nWe n, nMu n, nKe n + 1)
def kKeep (L : LkS) (dy : Nat) (n : KN) (g : KLg) (x : Nat) : KLg := updG g (nKe n) (nWk n, kNum L dy n, kLast L dy n x)
/-! the calls -/
def kIn (d : Int32) (n : Nat) : Prop := ∃ k : Nat, k < n ∧ d = nI k
theorem kIn_neg {d : Int32} {n : Nat} (h : d < 0) (hn : n ≤ 2147483647) : ¬ kIn d n := fun ⟨k, hk, e⟩ => by
  rw [e] at h
  exact nI_pos (show k < 2147483648 by omega) h
theorem kIn_ge {k n : Nat} (h : n ≤ k) (hk : k < 2147483648) : ¬ kIn (nI k) n := fun ⟨j, hj, e⟩ => by
  have := (neq k j hk (by omega)).mp e
  omega
/-! what calls answer -/
def dayV (Ba We : Nat → Nat) (U : Nat → Bool) (k : Nat) (w : Int32) : Int32 := if w = 0 then nI (Ba k) else if w = 1 then nI (We k) else if w = 2 then (if U k = true then 1 else 0) else -1
def dayR (dy : Nat) (Ba We : Nat → Nat) (U : Nat → Bool) (d w r : Int32) : Prop := (¬ kIn d dy ∧ r = -1) ∨ ∃ k, k < dy ∧ d = nI k ∧ r = dayV Ba We U k w
theorem dayR_eq {dy : Nat} {Ba We : Nat → Nat} {U : Nat → Bool} {d w r q : Int32} (h9 : dy ≤ 9) (h1 : dayR dy Ba We U d w r) (h2 : dayR dy Ba We U d w q) : r = q := by
  rcases h1 with ⟨a, b⟩ | ⟨k, a, b, e⟩ <;> rcases h2 with ⟨a', b'⟩ | ⟨k', a', b', e'⟩
  · rw [b, b']
  · exact absurd ⟨k', a', b'⟩ a
  · exact absurd ⟨k, a, b⟩ a'
  · have h3 := (neq k k' (by omega) (by omega)).mp (b.symm.trans b')
    subst h3
    rw [e, e']
def toldR (L : LkS) (dy wn : Nat) (Ba We : Nat → Nat) (U : Nat → Bool) (d o r : Int32) : Prop := ((∀ k j, k < dy → d = nI k → j < 10 → o = nI j → U k = true) ∧ r = -1) ∨ ∃ k j, k < dy ∧ d = nI k ∧ j < 10 ∧ o = nI j ∧ ¬ U k = true ∧ r = nI (kcSaid L wn (Ba k) (We k) k j)
theorem toldR_eq {L : LkS} {dy wn : Nat} {Ba We : Nat → Nat} {U : Nat → Bool} {d o r q : Int32} (h9 : dy ≤ 9) (h1 : toldR L dy wn Ba We U d o r) (h2 : toldR L dy wn Ba We U d o q) : r = q := by
  rcases h1 with ⟨a, b⟩ | ⟨k, j, a1, a2, a3, a4, a5, a6⟩ <;> rcases h2 with ⟨a', b'⟩ | ⟨k', j', c1, c2, c3, c4, c5, c6⟩
  · rw [b, b']
  · exact absurd (a k' j' c1 c2 c3 c4) c5
  · exact absurd (a' k j a1 a2 a3 a4) a5
  · have h3 := (neq k k' (by omega) (by omega)).mp (a2.symm.trans c2)
    have h4 := (neq j j' (by omega) (by omega)).mp (a4.symm.trans c4)
    subst h3 h4
    rw [a6, c6]
def weeksR (dy n : Nat) (r : Int64) : Prop := (dy = 0 ∧ r = -1000000000000000) ∨ (1 ≤ dy ∧ r = Int64.ofNat n)
theorem weeksR_eq {dy n : Nat} {r q : Int64} (h1 : weeksR dy n r) (h2 : weeksR dy n q) : r = q := by
  rcases h1 with ⟨a, b⟩ | ⟨a, b⟩ <;> rcases h2 with ⟨c, d⟩ | ⟨c, d⟩
  · rw [b, d]
  · omega
  · omega
  · rw [b, d]
def moodR (E : Nat → Nat → Nat → Bool) (dy mo : Nat) (k d r : Int32) : Prop := ((∀ j x, j < dy → d = nI j → x < kcC E dy 0 mo → ¬ k = nI x) ∧ r = -1) ∨ ∃ j x, j < dy ∧ d = nI j ∧ x < kcC E dy 0 mo ∧ k = nI x ∧ r = nI (kcM E dy mo x j)
theorem moodR_eq {E : Nat → Nat → Nat → Bool} {dy mo : Nat} {k d r q : Int32} (h9 : dy ≤ 9) (h1 : moodR E dy mo k d r) (h2 : moodR E dy mo k d q) : r = q := by
  have hc := kcC_9 E h9 0 mo
  rcases h1 with ⟨a, b⟩ | ⟨j, x, a1, a2, a3, a4, a5⟩ <;> rcases h2 with ⟨a', b'⟩ | ⟨j', x', c1, c2, c3, c4, c5⟩
  · rw [b, b']
  · exact absurd c4 (a j' x' c1 c2 c3)
  · exact absurd a4 (a' j x a1 a2 a3)
  · have h3 := (neq j j' (by omega) (by omega)).mp (a2.symm.trans c2)
    have h4 := (neq x x' (by omega) (by omega)).mp (a4.symm.trans c4)
    subst h3 h4
    rw [a5, c5]
def statR (rf : Nat → Int32) (w r : Int32) : Prop := (¬ kIn w 6 ∧ r = -1) ∨ ∃ k, k < 6 ∧ w = nI k ∧ r = rf k
theorem statR_eq {rf : Nat → Int32} {w r q : Int32} (h1 : statR rf w r) (h2 : statR rf w q) : r = q := by
  rcases h1 with ⟨a, b⟩ | ⟨k, a, b, e⟩ <;> rcases h2 with ⟨a', b'⟩ | ⟨k', a', b', e'⟩
  · rw [b, b']
  · exact absurd ⟨k', a', b'⟩ a
  · exact absurd ⟨k, a, b⟩ a'
  · have h3 := (neq k k' (by omega) (by omega)).mp (b.symm.trans b')
    subst h3
    rw [e, e']
/-! what a lock's numbers can be -/
def kcL9 (L : LkS) : Prop := 2 ≤ lD L ∧ lD L ≤ 9 ∧ lM L ≤ 9 ∧ (∀ j, lB L j ≤ 9) ∧ (∀ j, lW L j ≤ 9) ∧ (∀ j, lU L j = true → j < lD L) ∧ lRn L ≤ 100
theorem kl9_amt {tb : Nat → Nat} {n d : Nat} {c : Cur} {x : (Nat × Nat) × Cur} (h : amtP tb n d c = .ok x) : x.1.1 ≤ d - 1 ∧ x.1.2 ≤ 9 := by
  obtain ⟨y, h1, h2⟩ := bindR_ok (show bindR (numP tb n 0 (d - 1) (nx tb n c.1)) (fun x => bindR (numP tb n 0 9 x.2) (fun y => .ok ((x.1, y.1), y.2))) = .ok x from h)
  obtain ⟨z, h3, h4⟩ := bindR_ok h2
  cases h4
  exact ⟨(numP_val h1).2, (numP_val h3).2⟩
theorem kl9_sum {tb : Nat → Nat} {n : Nat} {L : LkS} {w kind : Nat} {c : Cur} {r : LkS × Cur} (hL : kcL9 L) (h : sumL tb n L w kind c = .ok r) : kcL9 r.1 := by
  unfold sumL at h
  split at h
  · cases h
  · obtain ⟨a, h1, h2⟩ := bindR_ok h
    cases h2
    exact hL
theorem kl9_body {tb : Nat → Nat} {n : Nat} {L : LkS} {c : Cur} {r : LkS × Cur} (hL : kcL9 L) (h : bodyP tb n L c = .ok r) : kcL9 r.1 := by
  obtain ⟨k1, k2, k3, k4, k5, k6, k7⟩ := id hL
  unfold bodyP at h
  split at h
  · obtain ⟨x, h1, h2⟩ := bindR_ok h
    cases h2
    exact ⟨k1, k2, k3, updG_le k4 (kl9_amt h1).2, k5, k6, k7⟩
  · split at h
    · obtain ⟨x, h1, h2⟩ := bindR_ok h
      cases h2
      exact ⟨k1, k2, k3, k4, updG_le k5 (kl9_amt h1).2, k6, k7⟩
    · split at h
      · obtain ⟨x, h1, h2⟩ := bindR_ok h
        have hx := (numP_val h1).2
        have h3 : (if lU L x.1 = true then (.error (2, (nx tb n c.1).1) : LkR) else .ok (stU L x.1, x.2)) = .ok r := h2
        split at h3
        · cases h3
        · cases h3
          refine ⟨k1, k2, k3, k4, k5, fun j hj => ?_, k7⟩
          have hj2 : updG (lU L) x.1 true j = true := hj
          unfold updG at hj2
          show j < lD L
          by_cases e : j = x.1
          · omega
          · rw [if_neg e] at hj2; exact k6 j hj2
      · split at h
        · exact kl9_sum hL h
        · split at h
          · exact kl9_sum hL h
          · split at h
            · exact kl9_sum hL h
            · split at h
              · obtain ⟨x, h1, h2⟩ := bindR_ok h
                cases h2
                exact ⟨k1, k2, k3, k4, k5, k6, (numP_val h1).2⟩
              · cases h
theorem kl9_stm {tb : Nat → Nat} {n : Nat} {q r : LkS × Cur} (hL : kcL9 q.1) (h : stmP tb n q = .ok r) : kcL9 r.1 := by
  obtain ⟨x, h1, h2⟩ := bindR_ok (show bindR (bodyP tb n q.1 q.2) (fun r => bindR (signP tb n 59 r.2) (fun c => .ok (r.1, c))) = .ok r from h)
  obtain ⟨y, h3, h4⟩ := bindR_ok h2
  cases h4
  exact kl9_body (r := x) hL h1
theorem kl9_stP {tb : Nat → Nat} {n : Nat} : ∀ f q r, stP tb n f q = .ok r → kcL9 q.1 → kcL9 r.1
  | 0, q, r, h, hL => by
    have h1 : (if n ≤ q.2.1 then (.ok (q.1, 60) : Except Err (LkS × Nat)) else .error (5, q.2.1)) = .ok r := h
    split at h1
    · cases h1; exact hL
    · cases h1
  | f + 1, q, r, h, hL => by
    have h1 : (if n ≤ q.2.1 then (.ok (q.1, 60 - (f + 1)) : Except Err (LkS × Nat)) else bindR (stmP tb n q) (stP tb n f)) = .ok r := h
    split at h1
    · cases h1; exact hL
    · obtain ⟨x, h2, h3⟩ := bindR_ok h1
      exact kl9_stP f x r h3 (kl9_stm hL h2)
theorem kl9_open {tb : Nat → Nat} {n : Nat} {c : Cur} {r : LkS × Cur} (h : openP tb n c = .ok r) : kcL9 r.1 := by
  unfold openP at h
  obtain ⟨c1, h1, h2⟩ := bindR_ok h
  obtain ⟨d, h3, h4⟩ := bindR_ok h2
  obtain ⟨c2, h5, h6⟩ := bindR_ok h4
  obtain ⟨m, h7, h8⟩ := bindR_ok h6
  obtain ⟨c3, h9, h10⟩ := bindR_ok h8
  cases h10
  exact ⟨(numP_val h3).1, (numP_val h3).2, (numP_val h7).2, fun _ => Nat.zero_le _, fun _ => Nat.zero_le _, fun j hj => Bool.noConfusion (show false = true from hj), Nat.zero_le _⟩
theorem kl9_lock {tb : Nat → Nat} {n : Nat} {r : LkS × Nat} (h : lockP tb n = .ok r) : kcL9 r.1 := by
  obtain ⟨x, h1, h2⟩ := bindR_ok (show bindR (openP tb n (sk tb n 0, false)) (stP tb n 59) = .ok r from h)
  exact kl9_stP 59 x r h2 (kl9_open h1)
/-! one answer, one state behind it -/
def kR {α : Type} (C : α → Prop) (P0 : Prop) (P : α → Prop) : Prop := ((∀ x, ¬ C x) ∧ P0) ∨ ∃ x, C x ∧ P x
theorem kR_eq {α : Type} {C : α → Prop} {P0 Q0 R : Prop} {P Q : α → Prop} (h1 : kR C P0 P) (h2 : kR C Q0 Q) (hC : ∀ x y, C x → C y → x = y) (h0 : P0 → Q0 → R) (hp : ∀ x, P x → Q x → R) : R := by
  rcases h1 with ⟨a, b⟩ | ⟨x, a, b⟩ <;> rcases h2 with ⟨c, d⟩ | ⟨y, c, d⟩
  · exact h0 b d
  · exact absurd c (a y)
  · exact absurd a (c x)
  · obtain rfl := hC x y a c; exact hp x b d
theorem kR_1 {α : Type} {C : α → Prop} {P0 : Prop} {P : α → Prop} (x : α) (h : C x) (hp : P x) : kR C P0 P := Or.inr ⟨x, h, hp⟩
theorem kR_0 {α : Type} {C : α → Prop} {P0 : Prop} {P : α → Prop} (h : ∀ x, ¬ C x) (hp : P0) : kR C P0 P := Or.inl ⟨h, hp⟩
def kB (c P Q : Prop) : Prop := (c ∧ P) ∨ (¬ c ∧ Q)
theorem kB_eq {c P Q P2 Q2 R : Prop} (h1 : kB c P Q) (h2 : kB c P2 Q2) (hp : P → P2 → R) (hq : Q → Q2 → R) : R := by
  rcases h1 with ⟨a, b⟩ | ⟨a, b⟩ <;> rcases h2 with ⟨e, d⟩ | ⟨e, d⟩
  · exact hp b d
  · exact absurd a e
  · exact absurd e a
  · exact hq b d
