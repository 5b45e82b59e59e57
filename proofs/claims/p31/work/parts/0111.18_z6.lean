/-! the graph -/
def kcFo (L : LkS) (wn : Nat) (B W : Nat → Nat) (U : Nat → Bool) (li d a m : Nat) : Bool :=
  if U d = true then kcBec L wn (B d) (W d) d a 0 1 == m else kcBec L wn (B d) (W d) d a ((kcSaid L wn (B d) (W d) d m + li) % 10) 0 == m
def kcLe (E : Nat → Nat → Nat → Bool) (d p : Nat) (v : Int32) : Prop := ∃ x, v = nI x ∧ x < 1024 ∧ ∀ m, m < 10 → x.testBit m = E d p m
def kcLd (E : Nat → Nat → Nat → Bool) (gd : Nat) (e1 e2 : Nat → Int32) : Prop := ∀ d, d < gd → ∀ p, p < 10 → ∃ x y, e1 (d * 10 + p) = nI x ∧ e2 d = nI y ∧ x < 1024 ∧ y < 1024 ∧ ∀ m, m < 10 → (x &&& y).testBit m = E d p m
def kcLv (E : Nat → Nat → Nat → Bool) (gd i : Nat) (e3 : Nat → Int32) : Prop := ∀ d, i ≤ d → d ≤ gd → ∃ z, e3 d = nI z ∧ z < 1024 ∧ ∀ m, m < 10 → (z.testBit m = true ↔ 0 < kcC E (gd - d) d m)
def kcNx (E : Nat → Nat → Nat → Bool) (gd d a x : Nat) : Prop := x < 1024 ∧ ∀ m, m < 10 → (x.testBit m = true ↔ 0 < kcW E gd d a m)
theorem knd32 {a b : Nat} (ha : a < 1024) (hb : b < 1024) : nI a &&& nI b = nI (a &&& b) ∧ a &&& b < 1024 := by
  have h3 : a &&& b < 2 ^ 10 := Nat.and_lt_two_pow a hb
  refine ⟨?_, h3⟩
  refine Int32.toBitVec_inj.mp ?_
  rw [Int32.toBitVec_and]
  show BitVec.ofNat 32 a &&& BitVec.ofNat 32 b = BitVec.ofNat 32 (a &&& b)
  refine BitVec.eq_of_toNat_eq ?_
  rw [BitVec.toNat_and, BitVec.toNat_ofNat, BitVec.toNat_ofNat, BitVec.toNat_ofNat, Nat.mod_eq_of_lt (show a < 2 ^ 32 by omega), Nat.mod_eq_of_lt (show b < 2 ^ 32 by omega), Nat.mod_eq_of_lt (show a &&& b < 2 ^ 32 by omega)]
theorem ktb {x k : Nat} (hx : x < 1024) (hk : k < 10) : ((nI x >>> (nI k &&& 31)) &&& 1 = 1) ↔ x.testBit k = true := by
  exact bt_bit (by omega) (by omega)
theorem kshl1 {k : Nat} (hk : k < 10) : ((1 : Int32) <<< (nI k &&& 31)) = nI (2 ^ k) ∧ 2 ^ k < 1024 := by
  have h : ∀ k, k < 10 → ((1 : Int32) <<< (nI k &&& 31)) = nI (2 ^ k) ∧ 2 ^ k < 1024 := by decide +kernel
  exact h k hk
theorem kW_pos {E : Nat → Nat → Nat → Bool} {n d a m : Nat} : 0 < kcW E n d a m ↔ E d a m = true ∧ 0 < kcC E (n - (d + 1)) (d + 1) m := by
  unfold kcW
  by_cases h : E d a m = true
  · rw [if_pos h]; exact ⟨fun q => ⟨h, q⟩, fun q => q.2⟩
  · rw [if_neg h]; exact ⟨fun q => absurd q (Nat.lt_irrefl 0), fun q => absurd q.1 h⟩
theorem knx_of {E : Nat → Nat → Nat → Bool} {gd d a x y z : Nat} (hx : x < 1024) (hy : y < 1024) (hz : z < 1024) (h1 : ∀ m, m < 10 → (x &&& y).testBit m = E d a m) (h2 : ∀ m, m < 10 → (z.testBit m = true ↔ 0 < kcC E (gd - (d + 1)) (d + 1) m)) : kcNx E gd d a (x &&& y &&& z) := by
  refine ⟨(knd32 (knd32 hx hy).2 hz).2, fun m hm => ?_⟩
  rw [Nat.testBit_and, Bool.and_eq_true, h1 m hm, h2 m hm, kW_pos]
theorem knx_z {E : Nat → Nat → Nat → Bool} {gd d a x : Nat} (h : kcNx E gd d a x) (hd : d < gd) : x = 0 ↔ kcC E (gd - d) d a = 0 := by
  rw [← kcW_S hd]
  constructor
  · intro q
    refine kcS_z 10 (fun m hm => ?_)
    have h1 := h.2 m hm
    rw [q, Nat.zero_testBit] at h1
    exact Nat.eq_zero_of_not_pos (fun q2 => Bool.noConfusion (h1.mpr q2))
  · intro q
    refine Nat.eq_of_testBit_eq (fun i => ?_)
    rw [Nat.zero_testBit]
    by_cases hi : i < 10
    · cases hb : x.testBit i with
      | false => rfl
      | true =>
        have h1 := (h.2 i hi).mp hb
        rw [kcS_pos 10 q i hi] at h1
        exact absurd h1 (Nat.lt_irrefl 0)
    · have h7 : (2 : Nat) ^ 10 ≤ 2 ^ i := Nat.pow_le_pow_right (by decide) (by omega)
      exact Nat.testBit_lt_two_pow (Nat.lt_of_lt_of_le h.1 h7)
theorem klv_top {E : Nat → Nat → Nat → Bool} {gd : Nat} {e f : Nat → Int32} (h : f = upd e gd 1023) : kcLv E gd gd f := by
  intro d h1 h2
  obtain rfl : d = gd := by omega
  refine ⟨1023, kui_s h, by decide, fun m hm => ?_⟩
  rw [Nat.sub_self]
  have h3 : ∀ m, m < 10 → Nat.testBit 1023 m = true := by decide
  exact ⟨fun _ => (by show 0 < 1; decide), fun _ => h3 m hm⟩
theorem klv_s {E : Nat → Nat → Nat → Bool} {gd i z : Nat} {e f : Nat → Int32} (h : kcLv E gd (i + 1) e) (hf : f = upd e i (nI z)) (hz : z = kcK (fun p => decide (0 < kcC E (gd - i) i p)) 10) : kcLv E gd i f := by
  intro d h1 h2
  by_cases q : d = i
  · subst q
    refine ⟨z, kui_s hf, by rw [hz]; exact kcK_lt _ 10, fun m hm => ?_⟩
    rw [hz, kcK_bit, decide_eq_true hm, Bool.true_and, decide_eq_true_iff]
  · obtain ⟨y, a, b, c⟩ := h d (by omega) h2
    exact ⟨y, by rw [kui_n hf q]; exact a, b, c⟩
theorem klv_i {E : Nat → Nat → Nat → Bool} {gd i j : Nat} {e : Nat → Int32} (h : kcLv E gd i e) (hj : i ≤ j) : kcLv E gd j e := fun d h1 h2 => h d (by omega) h2
/-- the lowest bit -/
def kcLow (x v : Nat) : Prop := v < 10 ∧ x.testBit v = true ∧ ∀ k, k < v → x.testBit k = false
theorem kntz {x : Nat} (h0 : 1 ≤ x) (h1 : x < 1024) : ∃ v, v < 10 ∧ kcLow x v ∧ (nI x ^^^ (-1)) &&& nI (x - 1) = nI (2 ^ v - 1) := by
  have h : ∀ x, x < 1024 → 1 ≤ x → ∃ v, v < 10 ∧ (v < 10 ∧ x.testBit v = true ∧ ∀ k, k < v → x.testBit k = false) ∧ (nI x ^^^ (-1)) &&& nI (x - 1) = nI (2 ^ v - 1) := by decide +kernel
  exact h x h1 h0
theorem klow_P {E : Nat → Nat → Nat → Bool} {gd d a x v : Nat} (h : kcNx E gd d a x) (hl : kcLow x v) : kcP (kcW E gd d a) 10 0 0 = (v, 0) := by
  refine kcP_zero 10 0 v (Nat.zero_le v) (by have := hl.1; omega) ((h.2 v hl.1).mp hl.2.1) (fun i _ hi => ?_)
  have h1 := h.2 i (by have := hl.1; omega)
  rw [hl.2.2 i hi] at h1
  exact Nat.eq_zero_of_not_pos (fun q => Bool.noConfusion (h1.mpr q))
/-! rows of a week -/
def kcRw (E : Nat → Nat → Nat → Bool) (gd a0 x i : Nat) (f : Nat → Int32) : Prop := ∀ d, d < i → f d = nI (kcM E gd a0 x d)
theorem krw_s {E : Nat → Nat → Nat → Bool} {gd a0 x i v : Nat} {f g : Nat → Int32} (h : kcRw E gd a0 x i f) (e : g = upd f i (nI v)) (hv : (kcA E gd a0 x (i + 1)).1 = v) : kcRw E gd a0 x (i + 1) g := fun d hd => by
  by_cases q : d = i
  · subst q; rw [kui_s e, ← hv]; rfl
  · rw [kui_n e q]; exact h d (by omega)
theorem krw_0 (E : Nat → Nat → Nat → Bool) (gd a0 x : Nat) (f : Nat → Int32) : kcRw E gd a0 x 0 f := fun d hd => absurd hd (Nat.not_lt_zero d)
theorem kfirst_s {E : Nat → Nat → Nat → Bool} {gd a0 i a x v : Nat} (ha : (kcA E gd a0 0 i).1 = a) (h2 : (kcA E gd a0 0 i).2 = 0) (h : kcNx E gd i a x) (hl : kcLow x v) : (kcA E gd a0 0 (i + 1)).1 = v ∧ (kcA E gd a0 0 (i + 1)).2 = 0 := by
  rw [kcA_s, ha, h2, klow_P h hl]
  exact ⟨rfl, rfl⟩
theorem knx_pos {E : Nat → Nat → Nat → Bool} {gd a0 n i a x : Nat} (h0 : a0 < 10) (hn : n < kcC E gd 0 a0) (ha : (kcA E gd a0 n i).1 = a) (h : kcNx E gd i a x) (hi : i < gd) : 1 ≤ x ∧ a < 10 := by
  have h1 := kcA_ok h0 hn i (by omega)
  rw [ha] at h1
  refine ⟨Nat.pos_of_ne_zero (fun q => ?_), h1.1⟩
  have h2 := (knx_z h hi).mp q
  rw [h2] at h1
  exact absurd h1.2 (Nat.not_lt_zero _)
/-! ways -/
def kcWy (E : Nat → Nat → Nat → Bool) (gd i : Nat) (f : Nat → Int64) : Prop := ∀ d, i ≤ d → d ≤ gd → ∀ m, m < 10 → f (d * 10 + m) = Int64.ofNat (kcC E (gd - d) d m)
theorem kwy_top {E : Nat → Nat → Nat → Bool} {gd : Nat} {f : Nat → Int64} (h : ∀ m, m < 10 → f (gd * 10 + m) = 1) : kcWy E gd gd f := by
  intro d h1 h2 m hm
  obtain rfl : d = gd := by omega
  rw [h m hm, Nat.sub_self]
  rfl
theorem kone_s {gd i : Nat} {f g : Nat → Int64} (h : ∀ m, m < i → f (gd * 10 + m) = 1) (e : g = vp_updL f (gd * 10 + i) 1) : ∀ m, m < i + 1 → g (gd * 10 + m) = 1 := fun m hm => by
  by_cases q : m = i
  · subst q; exact kup_s e
  · rw [kup_n e (by omega)]; exact h m (by omega)
/-- a day's ways, so far -/
def kcWj (E : Nat → Nat → Nat → Bool) (gd d j : Nat) (f : Nat → Int64) : Prop := kcWy E gd (d + 1) f ∧ ∀ p, p < j → f (d * 10 + p) = Int64.ofNat (kcC E (gd - d) d p)
theorem kwj_0 {E : Nat → Nat → Nat → Bool} {gd d e : Nat} {f : Nat → Int64} (h : kcWy E gd e f) (he : e = d + 1) : kcWj E gd d 0 f := ⟨he ▸ h, fun p hp => absurd hp (Nat.not_lt_zero p)⟩
theorem kwj_s {E : Nat → Nat → Nat → Bool} {gd d j : Nat} {f g : Nat → Int64} {x : Int64} (h : kcWj E gd d j f) (e : g = vp_updL f (d * 10 + j) x) (hj : j < 10) (hd : d < gd) (hx : x = Int64.ofNat (kcS (kcW E gd d j) 10)) : kcWj E gd d (j + 1) g := by
  refine ⟨fun d2 h1 h2 m hm => ?_, fun p hp => ?_⟩
  · rw [kup_n e (by omega)]; exact h.1 d2 h1 h2 m hm
  · by_cases q : p = j
    · subst q; rw [kup_s e, hx, kcW_S hd]
    · rw [kup_n e (by omega)]; exact h.2 p (by omega)
theorem kwj_10 {E : Nat → Nat → Nat → Bool} {gd d : Nat} {f : Nat → Int64} (h : kcWj E gd d 10 f) : kcWy E gd d f := fun d2 h1 h2 m hm => by
  by_cases q : d2 = d
  · subst q; exact h.2 m hm
  · exact h.1 d2 (by omega) h2 m hm
theorem kofn_add (a b : Nat) : Int64.ofNat a + Int64.ofNat b = Int64.ofNat (a + b) := (Int64.ofNat_add a b).symm
theorem ksm_y {E : Nat → Nat → Nat → Bool} {gd d a x k : Nat} {f : Nat → Int64} {s : Int64} (h : kcNx E gd d a x) (hw : kcWy E gd (d + 1) f) (hd : d < gd) (hk : k < 10) (hb : x.testBit k = true) (hs : s = Int64.ofNat (kcS (kcW E gd d a) k)) : s + f ((d + 1) * 10 + k) = Int64.ofNat (kcS (kcW E gd d a) (k + 1)) := by
  have h1 := kW_pos.mp ((h.2 k hk).mp hb)
  rw [hs, hw (d + 1) (Nat.le_refl _) (by omega) k hk, kofn_add]
  congr 1
  show _ = kcS (kcW E gd d a) k + kcW E gd d a k
  unfold kcW
  rw [if_pos h1.1]
theorem ksm_n {E : Nat → Nat → Nat → Bool} {gd d a x k : Nat} {s : Int64} (h : kcNx E gd d a x) (hk : k < 10) (hb : ¬ x.testBit k = true) (hs : s = Int64.ofNat (kcS (kcW E gd d a) k)) : s + 0 = Int64.ofNat (kcS (kcW E gd d a) (k + 1)) := by
  have h1 : kcW E gd d a k = 0 := Nat.eq_zero_of_not_pos (fun q => hb ((h.2 k hk).mpr q))
  rw [hs, Int64.add_zero]
  congr 1
  show kcS (kcW E gd d a) k = kcS (kcW E gd d a) k + kcW E gd d a k
  rw [h1, Nat.add_zero]
theorem kwh_y {E : Nat → Nat → Nat → Bool} {gd d a x k : Nat} {f : Nat → Int64} (h : kcNx E gd d a x) (hw : kcWy E gd 0 f) (hd : d < gd) (hk : k < 10) (hb : x.testBit k = true) : f ((d + 1) * 10 + k) = Int64.ofNat (kcW E gd d a k) := by
  have h1 := kW_pos.mp ((h.2 k hk).mp hb)
  rw [hw (d + 1) (Nat.zero_le _) (by omega) k hk]
  unfold kcW
  rw [if_pos h1.1]
theorem kwh_n {E : Nat → Nat → Nat → Bool} {gd d a x k : Nat} (h : kcNx E gd d a x) (hk : k < 10) (hb : ¬ x.testBit k = true) : (0 : Int64) = Int64.ofNat (kcW E gd d a k) := by
  have h1 : kcW E gd d a k = 0 := Nat.eq_zero_of_not_pos (fun q => hb ((h.2 k hk).mpr q))
  rw [h1]; rfl
theorem klt {a b : Nat} (ha : a < 9223372036854775808) (hb : b < 9223372036854775808) : Int64.ofNat a < Int64.ofNat b ↔ a < b := by
  rw [Int64.lt_iff_toInt_lt, Int64.toInt_ofNat_of_lt (by omega), Int64.toInt_ofNat_of_lt (by omega)]
  omega
theorem kcmp_ge {a b : Nat} (ha : a < 9223372036854775808) (hb : b < 9223372036854775808) : 0 ≤ lg_cmp (Int64.ofNat a) (Int64.ofNat b) ↔ b ≤ a := by
  rw [lg_cmp_ge, ← Int64.not_lt, klt ha hb, Nat.not_lt]
theorem kofn_sub {a b : Nat} (h : b ≤ a) : Int64.ofNat a - Int64.ofNat b = Int64.ofNat (a - b) := by
  have h1 : Int64.ofNat (a - b) + Int64.ofNat b = Int64.ofNat a := by rw [kofn_add, Nat.sub_add_cancel h]
  rw [← h1, Int64.add_sub_cancel]
theorem kW_le (E : Nat → Nat → Nat → Bool) {gd : Nat} (h : gd ≤ 9) (d a m : Nat) : kcW E gd d a m ≤ 1000000000 := by
  unfold kcW
  split
  · exact kcC_9 E (by omega) _ _
  · exact Nat.zero_le _
theorem kcT_10 (w : Nat → Nat) : kcT w 10 0 = kcS w 10 := by
  have h := kcT_S w 10 0
  rw [show kcS w 0 = 0 from rfl, Nat.zero_add, Nat.zero_add] at h
  exact h
theorem kcT_s {w : Nat → Nat} {j y : Nat} (hj : j < 10) (h : y < kcT w (10 - j) j) (hn : w j ≤ y) : y - w j < kcT w (10 - (j + 1)) (j + 1) := by
  rw [show 10 - j = (10 - (j + 1)) + 1 by omega] at h
  have h1 : y < w j + kcT w (10 - (j + 1)) (j + 1) := h
  omega
theorem kcT_e {w : Nat → Nat} {j y : Nat} (hj : 10 ≤ j) (h : y < kcT w (10 - j) j) : False := by
  rw [show 10 - j = 0 by omega] at h
  exact Nat.not_lt_zero y h
/-! laying -/
def kcLa (E : Nat → Nat → Nat → Bool) (i : Nat) (f : Nat → Int32) : Prop := ∀ d, d < i → ∀ p, p < 10 → kcLe E d p (f (d * 10 + p))
def kcLj (E : Nat → Nat → Nat → Bool) (i j : Nat) (f : Nat → Int32) : Prop := kcLa E i f ∧ ∀ p, p < j → kcLe E i p (f (i * 10 + p))
theorem kla_0 (E : Nat → Nat → Nat → Bool) (f : Nat → Int32) : kcLa E 0 f := fun d hd => absurd hd (Nat.not_lt_zero d)
theorem klj_0 {E : Nat → Nat → Nat → Bool} {i : Nat} {f : Nat → Int32} (h : kcLa E i f) : kcLj E i 0 f := ⟨h, fun p hp => absurd hp (Nat.not_lt_zero p)⟩
theorem klj_s {E : Nat → Nat → Nat → Bool} {i j : Nat} {f g : Nat → Int32} {v : Int32} (h : kcLj E i j f) (e : g = upd f (i * 10 + j) v) (hj : j < 10) (hv : kcLe E i j v) : kcLj E i (j + 1) g := by
  refine ⟨fun d hd p hp => ?_, fun p hp => ?_⟩
  · rw [kui_n e (by omega)]; exact h.1 d hd p hp
  · by_cases q : p = j
    · subst q; rw [kui_s e]; exact hv
    · rw [kui_n e (by omega)]; exact h.2 p (by omega)
theorem klj_10 {E : Nat → Nat → Nat → Bool} {i : Nat} {f : Nat → Int32} (h : kcLj E i 10 f) : kcLa E (i + 1) f := fun d hd p hp => by
  by_cases q : d = i
  · subst q; exact h.2 p hp
  · exact h.1 d (by omega) p hp
theorem kld_of {E : Nat → Nat → Nat → Bool} {gd : Nat} {f g : Nat → Int32} (h : kcLa E gd f) (hg : allV 1023 9 g) (h9 : gd ≤ 9) : kcLd E gd f g := fun d hd p hp => by
  obtain ⟨x, a, b, c⟩ := h d hd p hp
  refine ⟨x, 1023, a, hg d (by omega), b, by decide, fun m hm => ?_⟩
  have h3 : ∀ m, m < 10 → Nat.testBit 1023 m = true := by decide
  rw [Nat.testBit_and, h3 m hm, Bool.and_true]
  exact c m hm
theorem kle_al {L : LkS} {wn : Nat} {B W : Nat → Nat} {U : Nat → Bool} {li d p : Nat} (hu : U d = true) : kcLe (kcFo L wn B W U li) d p ((1 : Int32) <<< (nI (kcBec L wn (B d) (W d) d p 0 1) &&& 31)) := by
  have hk := kcTen_lt (kcV L 1 (kcNm wn (B d) (W d) d p 0 1))
  obtain ⟨h1, h2⟩ := kshl1 (k := kcBec L wn (B d) (W d) d p 0 1) hk
  refine ⟨_, h1, h2, fun m hm => ?_⟩
  rw [Nat.testBit_two_pow]
  unfold kcFo
  rw [if_pos hu]
  by_cases q : kcBec L wn (B d) (W d) d p 0 1 = m
  · rw [decide_eq_true q, q]; exact (beq_self_eq_true m).symm
  · rw [decide_eq_false q]; exact (beq_eq_false_iff_ne.mpr q).symm
theorem kle_mb {L : LkS} {wn : Nat} {B W : Nat → Nat} {U : Nat → Bool} {li d p : Nat} (hu : ¬ U d = true) : kcLe (kcFo L wn B W U li) d p (nI (kcMB (kcSaid L wn (B d) (W d) d) (fun t => kcBec L wn (B d) (W d) d p t 0) li)) := by
  refine ⟨_, rfl, kcMB_lt _ _ _, fun m hm => ?_⟩
  unfold kcMB kcFo
  rw [kcK_bit, decide_eq_true hm, Bool.true_and, if_neg hu]
theorem kle_mb0 {L : LkS} {wn : Nat} {B W : Nat → Nat} {U : Nat → Bool} {li d p : Nat} (hu : ¬ U d = true) (h0 : li = 0) : kcLe (kcFo L wn B W U li) d p (nI (kcMB (kcSaid L wn (B d) (W d) d) (fun t => kcBec L wn (B d) (W d) d p t 0) 0)) := by
  subst h0; exact kle_mb hu
theorem krw_e {E : Nat → Nat → Nat → Bool} {gd a0 x i : Nat} {f : Nat → Int32} (h : kcRw E gd a0 x i f) (e : gd = i) : kcRw E gd a0 x gd f := by
  subst e; exact h
set_option maxHeartbeats 4000000 in
set_option maxRecDepth 100000 in
theorem c_kntz (l : Launch) (D : va_G) (cI cJ cC cZ cS : ClassId) (x : Nat) (hx0 : 1 ≤ x) (hx1 : x < 1024) : skM l yJ6_numberOfTrailingZeros_0f7a4 cJ6_numberOfTrailingZeros_0f7a4 2 (some .int) 0 0 0 0 D (skT cI cJ cC cZ cS) [.int (nI x)] [] (skI D (skT cI cJ cC cZ cS) (fun (r : Int32) (u : va_W) => ∃ (v : Nat), kcLow x v ∧ r = nI v ∧ u = [])) := by
  refine skM_of pf_J6_numberOfTrailingZeros_0f7a4 (Nat.le_of_ble_eq_true rfl) ?_
  intro p e s m below meth c A ls E hP hD hl
  refine skE_el E (fun hx hb hr hml hlocks hin hown hts hK hA => ?_)
  have hown : s.vm.findClass RJ6 = some m.cls := hown
  have hS : va_S A s.heap s.heap [] := va_S.rf
  have hl : lv_has ls 2 [(0, .int (nI x))] := hl
  refine lv_iload_n hx hb dJ6_numberOfTrailingZeros_0f7a4_0 rfl (lv_at hl 0 rfl) ?_
  refine lv_iconst (v := (-1)) hx hb dJ6_numberOfTrailingZeros_0f7a4_1 (by decide) ?_
  refine lv_ixor hx hb dJ6_numberOfTrailingZeros_0f7a4_2 ?_
  refine lv_iload_n hx hb dJ6_numberOfTrailingZeros_0f7a4_3 rfl (lv_at hl 0 rfl) ?_
  refine lv_iconst (v := 1) hx hb dJ6_numberOfTrailingZeros_0f7a4_4 (by decide) ?_
  refine lv_isub hx hb dJ6_numberOfTrailingZeros_0f7a4_5 ?_
  refine sk_top (nI (x - 1)) (nsub x 1 (by omega)) ?_
  refine lv_iand hx hb dJ6_numberOfTrailingZeros_0f7a4_6 ?_
  obtain ⟨v, hv10, hlow, hy⟩ := kntz hx0 hx1
  rcases (show v = 0 ∨ v = 1 ∨ v = 2 ∨ v = 3 ∨ v = 4 ∨ v = 5 ∨ v = 6 ∨ v = 7 ∨ v = 8 ∨ v = 9 by omega) with rfl | rfl | rfl | rfl | rfl | rfl | rfl | rfl | rfl | rfl
  · refine sk_top 0 (hy.trans (by decide)) ?_
    refine lv_istore_n (lv' := [(0, .int 0)]) hx hb dJ6_numberOfTrailingZeros_0f7a4_7 rfl hl (by decide) rfl (fun ls hl => ?_)
    refine lv_iload_n hx hb dJ6_numberOfTrailingZeros_0f7a4_8 rfl (lv_at hl 0 rfl) ?_
    refine lv_if_gt (tgt := 17) hx hb dJ6_numberOfTrailingZeros_0f7a4_9 (by decide) (fun c => absurd c (by decide)) (fun c_1 => ?_)
    refine lv_iload_n hx hb dJ6_numberOfTrailingZeros_0f7a4_12 rfl (lv_at hl 0 rfl) ?_
    refine lv_bipush (v := 32) hx hb dJ6_numberOfTrailingZeros_0f7a4_13 (by decide) ?_
    refine lv_iand hx hb dJ6_numberOfTrailingZeros_0f7a4_15 ?_
    refine sk_top 0 (by decide) ?_
    exact sk_iret hx hb hr rfl hlocks hK hP hD hS (⟨0, hlow, rfl, rfl⟩) (Nat.le_of_ble_eq_true rfl) (Nat.le_of_ble_eq_true rfl) dJ6_numberOfTrailingZeros_0f7a4_16
  · refine sk_top 1 (hy.trans (by decide)) ?_
    refine lv_istore_n (lv' := [(0, .int 1)]) hx hb dJ6_numberOfTrailingZeros_0f7a4_7 rfl hl (by decide) rfl (fun ls hl => ?_)
    refine lv_iload_n hx hb dJ6_numberOfTrailingZeros_0f7a4_8 rfl (lv_at hl 0 rfl) ?_
    refine lv_if_gt (tgt := 17) hx hb dJ6_numberOfTrailingZeros_0f7a4_9 (by decide) (fun c_2 => ?_) (fun c => absurd c (by decide))
    refine lv_iconst (v := 1) hx hb dJ6_numberOfTrailingZeros_0f7a4_17 (by decide) ?_
    refine lv_istore_n (lv' := [(1, .int 1), (0, .int 1)]) hx hb dJ6_numberOfTrailingZeros_0f7a4_18 rfl hl (by decide) rfl (fun ls hl => ?_)
    refine lv_iload_n hx hb dJ6_numberOfTrailingZeros_0f7a4_19 rfl (lv_at hl 1 rfl) ?_
    refine lv_ldcw (v := 65536) hx hb hown (hts _ w_4_119) dJ6_numberOfTrailingZeros_0f7a4_20 ?_
    refine lv_icmp_le (tgt := 34) hx hb dJ6_numberOfTrailingZeros_0f7a4_23 (by decide) (fun c_3 => ?_) (fun c => absurd c (by decide))
    refine lv_iload_n hx hb dJ6_numberOfTrailingZeros_0f7a4_34 rfl (lv_at hl 1 rfl) ?_
    refine lv_sipush (v := 256) hx hb dJ6_numberOfTrailingZeros_0f7a4_35 (by decide) ?_
    refine lv_icmp_le (tgt := 49) hx hb dJ6_numberOfTrailingZeros_0f7a4_38 (by decide) (fun c_4 => ?_) (fun c => absurd c (by decide))
    refine lv_iload_n hx hb dJ6_numberOfTrailingZeros_0f7a4_49 rfl (lv_at hl 1 rfl) ?_
    refine lv_bipush (v := 16) hx hb dJ6_numberOfTrailingZeros_0f7a4_50 (by decide) ?_
    refine lv_icmp_le (tgt := 62) hx hb dJ6_numberOfTrailingZeros_0f7a4_52 (by decide) (fun c_5 => ?_) (fun c => absurd c (by decide))
    refine lv_iload_n hx hb dJ6_numberOfTrailingZeros_0f7a4_62 rfl (lv_at hl 1 rfl) ?_
    refine lv_iconst (v := 4) hx hb dJ6_numberOfTrailingZeros_0f7a4_63 (by decide) ?_
    refine lv_icmp_le (tgt := 74) hx hb dJ6_numberOfTrailingZeros_0f7a4_64 (by decide) (fun c_6 => ?_) (fun c => absurd c (by decide))
    refine lv_iload_n hx hb dJ6_numberOfTrailingZeros_0f7a4_74 rfl (lv_at hl 0 rfl) ?_
    refine lv_iload_n hx hb dJ6_numberOfTrailingZeros_0f7a4_75 rfl (lv_at hl 1 rfl) ?_
    refine lv_iconst (v := 1) hx hb dJ6_numberOfTrailingZeros_0f7a4_76 (by decide) ?_
    refine lv_iushr hx hb dJ6_numberOfTrailingZeros_0f7a4_77 rfl ?_
    refine sk_top 0 (by decide) ?_
    refine lv_iadd hx hb dJ6_numberOfTrailingZeros_0f7a4_78 ?_
    refine sk_top 1 (by decide) ?_
    exact sk_iret hx hb hr rfl hlocks hK hP hD hS (⟨1, hlow, rfl, rfl⟩) (Nat.le_of_ble_eq_true rfl) (Nat.le_of_ble_eq_true rfl) dJ6_numberOfTrailingZeros_0f7a4_79
  · refine sk_top 3 (hy.trans (by decide)) ?_
    refine lv_istore_n (lv' := [(0, .int 3)]) hx hb dJ6_numberOfTrailingZeros_0f7a4_7 rfl hl (by decide) rfl (fun ls hl => ?_)
    refine lv_iload_n hx hb dJ6_numberOfTrailingZeros_0f7a4_8 rfl (lv_at hl 0 rfl) ?_
    refine lv_if_gt (tgt := 17) hx hb dJ6_numberOfTrailingZeros_0f7a4_9 (by decide) (fun c_7 => ?_) (fun c => absurd c (by decide))
    refine lv_iconst (v := 1) hx hb dJ6_numberOfTrailingZeros_0f7a4_17 (by decide) ?_
    refine lv_istore_n (lv' := [(1, .int 1), (0, .int 3)]) hx hb dJ6_numberOfTrailingZeros_0f7a4_18 rfl hl (by decide) rfl (fun ls hl => ?_)
    refine lv_iload_n hx hb dJ6_numberOfTrailingZeros_0f7a4_19 rfl (lv_at hl 1 rfl) ?_
    refine lv_ldcw (v := 65536) hx hb hown (hts _ w_4_119) dJ6_numberOfTrailingZeros_0f7a4_20 ?_
    refine lv_icmp_le (tgt := 34) hx hb dJ6_numberOfTrailingZeros_0f7a4_23 (by decide) (fun c_8 => ?_) (fun c => absurd c (by decide))
    refine lv_iload_n hx hb dJ6_numberOfTrailingZeros_0f7a4_34 rfl (lv_at hl 1 rfl) ?_
    refine lv_sipush (v := 256) hx hb dJ6_numberOfTrailingZeros_0f7a4_35 (by decide) ?_
    refine lv_icmp_le (tgt := 49) hx hb dJ6_numberOfTrailingZeros_0f7a4_38 (by decide) (fun c_9 => ?_) (fun c => absurd c (by decide))
    refine lv_iload_n hx hb dJ6_numberOfTrailingZeros_0f7a4_49 rfl (lv_at hl 1 rfl) ?_
    refine lv_bipush (v := 16) hx hb dJ6_numberOfTrailingZeros_0f7a4_50 (by decide) ?_
    refine lv_icmp_le (tgt := 62) hx hb dJ6_numberOfTrailingZeros_0f7a4_52 (by decide) (fun c_10 => ?_) (fun c => absurd c (by decide))
    refine lv_iload_n hx hb dJ6_numberOfTrailingZeros_0f7a4_62 rfl (lv_at hl 1 rfl) ?_
    refine lv_iconst (v := 4) hx hb dJ6_numberOfTrailingZeros_0f7a4_63 (by decide) ?_
    refine lv_icmp_le (tgt := 74) hx hb dJ6_numberOfTrailingZeros_0f7a4_64 (by decide) (fun c_11 => ?_) (fun c => absurd c (by decide))
    refine lv_iload_n hx hb dJ6_numberOfTrailingZeros_0f7a4_74 rfl (lv_at hl 0 rfl) ?_
    refine lv_iload_n hx hb dJ6_numberOfTrailingZeros_0f7a4_75 rfl (lv_at hl 1 rfl) ?_
    refine lv_iconst (v := 1) hx hb dJ6_numberOfTrailingZeros_0f7a4_76 (by decide) ?_
    refine lv_iushr hx hb dJ6_numberOfTrailingZeros_0f7a4_77 rfl ?_
    refine sk_top 1 (by decide) ?_
    refine lv_iadd hx hb dJ6_numberOfTrailingZeros_0f7a4_78 ?_
    refine sk_top 2 (by decide) ?_
    exact sk_iret hx hb hr rfl hlocks hK hP hD hS (⟨2, hlow, rfl, rfl⟩) (Nat.le_of_ble_eq_true rfl) (Nat.le_of_ble_eq_true rfl) dJ6_numberOfTrailingZeros_0f7a4_79
  · refine sk_top 7 (hy.trans (by decide)) ?_
    refine lv_istore_n (lv' := [(0, .int 7)]) hx hb dJ6_numberOfTrailingZeros_0f7a4_7 rfl hl (by decide) rfl (fun ls hl => ?_)
    refine lv_iload_n hx hb dJ6_numberOfTrailingZeros_0f7a4_8 rfl (lv_at hl 0 rfl) ?_
    refine lv_if_gt (tgt := 17) hx hb dJ6_numberOfTrailingZeros_0f7a4_9 (by decide) (fun c_12 => ?_) (fun c => absurd c (by decide))
    refine lv_iconst (v := 1) hx hb dJ6_numberOfTrailingZeros_0f7a4_17 (by decide) ?_
    refine lv_istore_n (lv' := [(1, .int 1), (0, .int 7)]) hx hb dJ6_numberOfTrailingZeros_0f7a4_18 rfl hl (by decide) rfl (fun ls hl => ?_)
    refine lv_iload_n hx hb dJ6_numberOfTrailingZeros_0f7a4_19 rfl (lv_at hl 1 rfl) ?_
    refine lv_ldcw (v := 65536) hx hb hown (hts _ w_4_119) dJ6_numberOfTrailingZeros_0f7a4_20 ?_
    refine lv_icmp_le (tgt := 34) hx hb dJ6_numberOfTrailingZeros_0f7a4_23 (by decide) (fun c_13 => ?_) (fun c => absurd c (by decide))
    refine lv_iload_n hx hb dJ6_numberOfTrailingZeros_0f7a4_34 rfl (lv_at hl 1 rfl) ?_
    refine lv_sipush (v := 256) hx hb dJ6_numberOfTrailingZeros_0f7a4_35 (by decide) ?_
    refine lv_icmp_le (tgt := 49) hx hb dJ6_numberOfTrailingZeros_0f7a4_38 (by decide) (fun c_14 => ?_) (fun c => absurd c (by decide))
    refine lv_iload_n hx hb dJ6_numberOfTrailingZeros_0f7a4_49 rfl (lv_at hl 1 rfl) ?_
    refine lv_bipush (v := 16) hx hb dJ6_numberOfTrailingZeros_0f7a4_50 (by decide) ?_
    refine lv_icmp_le (tgt := 62) hx hb dJ6_numberOfTrailingZeros_0f7a4_52 (by decide) (fun c_15 => ?_) (fun c => absurd c (by decide))
    refine lv_iload_n hx hb dJ6_numberOfTrailingZeros_0f7a4_62 rfl (lv_at hl 1 rfl) ?_
    refine lv_iconst (v := 4) hx hb dJ6_numberOfTrailingZeros_0f7a4_63 (by decide) ?_
    refine lv_icmp_le (tgt := 74) hx hb dJ6_numberOfTrailingZeros_0f7a4_64 (by decide) (fun c => absurd c (by decide)) (fun c_16 => ?_)
    refine lv_iinc (v := 3) (lv' := [(1, .int 3), (0, .int 7)]) hx hb dJ6_numberOfTrailingZeros_0f7a4_67 hl (k := 0) rfl (by decide) (by decide) rfl (fun ls hl => ?_)
    refine lv_iload_n hx hb dJ6_numberOfTrailingZeros_0f7a4_70 rfl (lv_at hl 1 rfl) ?_
    refine lv_iconst (v := 2) hx hb dJ6_numberOfTrailingZeros_0f7a4_71 (by decide) ?_
    refine lv_iushr hx hb dJ6_numberOfTrailingZeros_0f7a4_72 rfl ?_
    refine sk_top 1 (by decide) ?_
    refine lv_istore_n (lv' := [(0, .int 1), (1, .int 3)]) hx hb dJ6_numberOfTrailingZeros_0f7a4_73 rfl hl (by decide) rfl (fun ls hl => ?_)
    refine lv_iload_n hx hb dJ6_numberOfTrailingZeros_0f7a4_74 rfl (lv_at hl 1 rfl) ?_
    refine lv_iload_n hx hb dJ6_numberOfTrailingZeros_0f7a4_75 rfl (lv_at hl 0 rfl) ?_
    refine lv_iconst (v := 1) hx hb dJ6_numberOfTrailingZeros_0f7a4_76 (by decide) ?_
    refine lv_iushr hx hb dJ6_numberOfTrailingZeros_0f7a4_77 rfl ?_
    refine sk_top 0 (by decide) ?_
    refine lv_iadd hx hb dJ6_numberOfTrailingZeros_0f7a4_78 ?_
    refine sk_top 3 (by decide) ?_
    exact sk_iret hx hb hr rfl hlocks hK hP hD hS (⟨3, hlow, rfl, rfl⟩) (Nat.le_of_ble_eq_true rfl) (Nat.le_of_ble_eq_true rfl) dJ6_numberOfTrailingZeros_0f7a4_79
  · refine sk_top 15 (hy.trans (by decide)) ?_
    refine lv_istore_n (lv' := [(0, .int 15)]) hx hb dJ6_numberOfTrailingZeros_0f7a4_7 rfl hl (by decide) rfl (fun ls hl => ?_)
    refine lv_iload_n hx hb dJ6_numberOfTrailingZeros_0f7a4_8 rfl (lv_at hl 0 rfl) ?_
    refine lv_if_gt (tgt := 17) hx hb dJ6_numberOfTrailingZeros_0f7a4_9 (by decide) (fun c_17 => ?_) (fun c => absurd c (by decide))
    refine lv_iconst (v := 1) hx hb dJ6_numberOfTrailingZeros_0f7a4_17 (by decide) ?_
    refine lv_istore_n (lv' := [(1, .int 1), (0, .int 15)]) hx hb dJ6_numberOfTrailingZeros_0f7a4_18 rfl hl (by decide) rfl (fun ls hl => ?_)
    refine lv_iload_n hx hb dJ6_numberOfTrailingZeros_0f7a4_19 rfl (lv_at hl 1 rfl) ?_
    refine lv_ldcw (v := 65536) hx hb hown (hts _ w_4_119) dJ6_numberOfTrailingZeros_0f7a4_20 ?_
    refine lv_icmp_le (tgt := 34) hx hb dJ6_numberOfTrailingZeros_0f7a4_23 (by decide) (fun c_18 => ?_) (fun c => absurd c (by decide))
    refine lv_iload_n hx hb dJ6_numberOfTrailingZeros_0f7a4_34 rfl (lv_at hl 1 rfl) ?_
    refine lv_sipush (v := 256) hx hb dJ6_numberOfTrailingZeros_0f7a4_35 (by decide) ?_
    refine lv_icmp_le (tgt := 49) hx hb dJ6_numberOfTrailingZeros_0f7a4_38 (by decide) (fun c_19 => ?_) (fun c => absurd c (by decide))
    refine lv_iload_n hx hb dJ6_numberOfTrailingZeros_0f7a4_49 rfl (lv_at hl 1 rfl) ?_
    refine lv_bipush (v := 16) hx hb dJ6_numberOfTrailingZeros_0f7a4_50 (by decide) ?_
    refine lv_icmp_le (tgt := 62) hx hb dJ6_numberOfTrailingZeros_0f7a4_52 (by decide) (fun c_20 => ?_) (fun c => absurd c (by decide))
    refine lv_iload_n hx hb dJ6_numberOfTrailingZeros_0f7a4_62 rfl (lv_at hl 1 rfl) ?_
    refine lv_iconst (v := 4) hx hb dJ6_numberOfTrailingZeros_0f7a4_63 (by decide) ?_
    refine lv_icmp_le (tgt := 74) hx hb dJ6_numberOfTrailingZeros_0f7a4_64 (by decide) (fun c => absurd c (by decide)) (fun c_21 => ?_)
    refine lv_iinc (v := 3) (lv' := [(1, .int 3), (0, .int 15)]) hx hb dJ6_numberOfTrailingZeros_0f7a4_67 hl (k := 0) rfl (by decide) (by decide) rfl (fun ls hl => ?_)
    refine lv_iload_n hx hb dJ6_numberOfTrailingZeros_0f7a4_70 rfl (lv_at hl 1 rfl) ?_
    refine lv_iconst (v := 2) hx hb dJ6_numberOfTrailingZeros_0f7a4_71 (by decide) ?_
    refine lv_iushr hx hb dJ6_numberOfTrailingZeros_0f7a4_72 rfl ?_
    refine sk_top 3 (by decide) ?_
    refine lv_istore_n (lv' := [(0, .int 3), (1, .int 3)]) hx hb dJ6_numberOfTrailingZeros_0f7a4_73 rfl hl (by decide) rfl (fun ls hl => ?_)
    refine lv_iload_n hx hb dJ6_numberOfTrailingZeros_0f7a4_74 rfl (lv_at hl 1 rfl) ?_
    refine lv_iload_n hx hb dJ6_numberOfTrailingZeros_0f7a4_75 rfl (lv_at hl 0 rfl) ?_
    refine lv_iconst (v := 1) hx hb dJ6_numberOfTrailingZeros_0f7a4_76 (by decide) ?_
    refine lv_iushr hx hb dJ6_numberOfTrailingZeros_0f7a4_77 rfl ?_
    refine sk_top 1 (by decide) ?_
    refine lv_iadd hx hb dJ6_numberOfTrailingZeros_0f7a4_78 ?_
    refine sk_top 4 (by decide) ?_
    exact sk_iret hx hb hr rfl hlocks hK hP hD hS (⟨4, hlow, rfl, rfl⟩) (Nat.le_of_ble_eq_true rfl) (Nat.le_of_ble_eq_true rfl) dJ6_numberOfTrailingZeros_0f7a4_79
  · refine sk_top 31 (hy.trans (by decide)) ?_
    refine lv_istore_n (lv' := [(0, .int 31)]) hx hb dJ6_numberOfTrailingZeros_0f7a4_7 rfl hl (by decide) rfl (fun ls hl => ?_)
    refine lv_iload_n hx hb dJ6_numberOfTrailingZeros_0f7a4_8 rfl (lv_at hl 0 rfl) ?_
    refine lv_if_gt (tgt := 17) hx hb dJ6_numberOfTrailingZeros_0f7a4_9 (by decide) (fun c_22 => ?_) (fun c => absurd c (by decide))
    refine lv_iconst (v := 1) hx hb dJ6_numberOfTrailingZeros_0f7a4_17 (by decide) ?_
    refine lv_istore_n (lv' := [(1, .int 1), (0, .int 31)]) hx hb dJ6_numberOfTrailingZeros_0f7a4_18 rfl hl (by decide) rfl (fun ls hl => ?_)
    refine lv_iload_n hx hb dJ6_numberOfTrailingZeros_0f7a4_19 rfl (lv_at hl 1 rfl) ?_
    refine lv_ldcw (v := 65536) hx hb hown (hts _ w_4_119) dJ6_numberOfTrailingZeros_0f7a4_20 ?_
    refine lv_icmp_le (tgt := 34) hx hb dJ6_numberOfTrailingZeros_0f7a4_23 (by decide) (fun c_23 => ?_) (fun c => absurd c (by decide))
    refine lv_iload_n hx hb dJ6_numberOfTrailingZeros_0f7a4_34 rfl (lv_at hl 1 rfl) ?_
    refine lv_sipush (v := 256) hx hb dJ6_numberOfTrailingZeros_0f7a4_35 (by decide) ?_
    refine lv_icmp_le (tgt := 49) hx hb dJ6_numberOfTrailingZeros_0f7a4_38 (by decide) (fun c_24 => ?_) (fun c => absurd c (by decide))
    refine lv_iload_n hx hb dJ6_numberOfTrailingZeros_0f7a4_49 rfl (lv_at hl 1 rfl) ?_
    refine lv_bipush (v := 16) hx hb dJ6_numberOfTrailingZeros_0f7a4_50 (by decide) ?_
    refine lv_icmp_le (tgt := 62) hx hb dJ6_numberOfTrailingZeros_0f7a4_52 (by decide) (fun c => absurd c (by decide)) (fun c_25 => ?_)
    refine lv_iinc (v := 5) (lv' := [(1, .int 5), (0, .int 31)]) hx hb dJ6_numberOfTrailingZeros_0f7a4_55 hl (k := 0) rfl (by decide) (by decide) rfl (fun ls hl => ?_)
    refine lv_iload_n hx hb dJ6_numberOfTrailingZeros_0f7a4_58 rfl (lv_at hl 1 rfl) ?_
    refine lv_iconst (v := 4) hx hb dJ6_numberOfTrailingZeros_0f7a4_59 (by decide) ?_
    refine lv_iushr hx hb dJ6_numberOfTrailingZeros_0f7a4_60 rfl ?_
    refine sk_top 1 (by decide) ?_
    refine lv_istore_n (lv' := [(0, .int 1), (1, .int 5)]) hx hb dJ6_numberOfTrailingZeros_0f7a4_61 rfl hl (by decide) rfl (fun ls hl => ?_)
    refine lv_iload_n hx hb dJ6_numberOfTrailingZeros_0f7a4_62 rfl (lv_at hl 0 rfl) ?_
    refine lv_iconst (v := 4) hx hb dJ6_numberOfTrailingZeros_0f7a4_63 (by decide) ?_
    refine lv_icmp_le (tgt := 74) hx hb dJ6_numberOfTrailingZeros_0f7a4_64 (by decide) (fun c_26 => ?_) (fun c => absurd c (by decide))
    refine lv_iload_n hx hb dJ6_numberOfTrailingZeros_0f7a4_74 rfl (lv_at hl 1 rfl) ?_
    refine lv_iload_n hx hb dJ6_numberOfTrailingZeros_0f7a4_75 rfl (lv_at hl 0 rfl) ?_
    refine lv_iconst (v := 1) hx hb dJ6_numberOfTrailingZeros_0f7a4_76 (by decide) ?_
    refine lv_iushr hx hb dJ6_numberOfTrailingZeros_0f7a4_77 rfl ?_
    refine sk_top 0 (by decide) ?_
    refine lv_iadd hx hb dJ6_numberOfTrailingZeros_0f7a4_78 ?_
    refine sk_top 5 (by decide) ?_
    exact sk_iret hx hb hr rfl hlocks hK hP hD hS (⟨5, hlow, rfl, rfl⟩) (Nat.le_of_ble_eq_true rfl) (Nat.le_of_ble_eq_true rfl) dJ6_numberOfTrailingZeros_0f7a4_79
  · refine sk_top 63 (hy.trans (by decide)) ?_
    refine lv_istore_n (lv' := [(0, .int 63)]) hx hb dJ6_numberOfTrailingZeros_0f7a4_7 rfl hl (by decide) rfl (fun ls hl => ?_)
    refine lv_iload_n hx hb dJ6_numberOfTrailingZeros_0f7a4_8 rfl (lv_at hl 0 rfl) ?_
    refine lv_if_gt (tgt := 17) hx hb dJ6_numberOfTrailingZeros_0f7a4_9 (by decide) (fun c_27 => ?_) (fun c => absurd c (by decide))
    refine lv_iconst (v := 1) hx hb dJ6_numberOfTrailingZeros_0f7a4_17 (by decide) ?_
    refine lv_istore_n (lv' := [(1, .int 1), (0, .int 63)]) hx hb dJ6_numberOfTrailingZeros_0f7a4_18 rfl hl (by decide) rfl (fun ls hl => ?_)
    refine lv_iload_n hx hb dJ6_numberOfTrailingZeros_0f7a4_19 rfl (lv_at hl 1 rfl) ?_
    refine lv_ldcw (v := 65536) hx hb hown (hts _ w_4_119) dJ6_numberOfTrailingZeros_0f7a4_20 ?_
    refine lv_icmp_le (tgt := 34) hx hb dJ6_numberOfTrailingZeros_0f7a4_23 (by decide) (fun c_28 => ?_) (fun c => absurd c (by decide))
    refine lv_iload_n hx hb dJ6_numberOfTrailingZeros_0f7a4_34 rfl (lv_at hl 1 rfl) ?_
    refine lv_sipush (v := 256) hx hb dJ6_numberOfTrailingZeros_0f7a4_35 (by decide) ?_
    refine lv_icmp_le (tgt := 49) hx hb dJ6_numberOfTrailingZeros_0f7a4_38 (by decide) (fun c_29 => ?_) (fun c => absurd c (by decide))
    refine lv_iload_n hx hb dJ6_numberOfTrailingZeros_0f7a4_49 rfl (lv_at hl 1 rfl) ?_
    refine lv_bipush (v := 16) hx hb dJ6_numberOfTrailingZeros_0f7a4_50 (by decide) ?_
    refine lv_icmp_le (tgt := 62) hx hb dJ6_numberOfTrailingZeros_0f7a4_52 (by decide) (fun c => absurd c (by decide)) (fun c_30 => ?_)
    refine lv_iinc (v := 5) (lv' := [(1, .int 5), (0, .int 63)]) hx hb dJ6_numberOfTrailingZeros_0f7a4_55 hl (k := 0) rfl (by decide) (by decide) rfl (fun ls hl => ?_)
    refine lv_iload_n hx hb dJ6_numberOfTrailingZeros_0f7a4_58 rfl (lv_at hl 1 rfl) ?_
    refine lv_iconst (v := 4) hx hb dJ6_numberOfTrailingZeros_0f7a4_59 (by decide) ?_
    refine lv_iushr hx hb dJ6_numberOfTrailingZeros_0f7a4_60 rfl ?_
    refine sk_top 3 (by decide) ?_
    refine lv_istore_n (lv' := [(0, .int 3), (1, .int 5)]) hx hb dJ6_numberOfTrailingZeros_0f7a4_61 rfl hl (by decide) rfl (fun ls hl => ?_)
    refine lv_iload_n hx hb dJ6_numberOfTrailingZeros_0f7a4_62 rfl (lv_at hl 0 rfl) ?_
    refine lv_iconst (v := 4) hx hb dJ6_numberOfTrailingZeros_0f7a4_63 (by decide) ?_
    refine lv_icmp_le (tgt := 74) hx hb dJ6_numberOfTrailingZeros_0f7a4_64 (by decide) (fun c_31 => ?_) (fun c => absurd c (by decide))
    refine lv_iload_n hx hb dJ6_numberOfTrailingZeros_0f7a4_74 rfl (lv_at hl 1 rfl) ?_
    refine lv_iload_n hx hb dJ6_numberOfTrailingZeros_0f7a4_75 rfl (lv_at hl 0 rfl) ?_
    refine lv_iconst (v := 1) hx hb dJ6_numberOfTrailingZeros_0f7a4_76 (by decide) ?_
    refine lv_iushr hx hb dJ6_numberOfTrailingZeros_0f7a4_77 rfl ?_
    refine sk_top 1 (by decide) ?_
    refine lv_iadd hx hb dJ6_numberOfTrailingZeros_0f7a4_78 ?_
    refine sk_top 6 (by decide) ?_
    exact sk_iret hx hb hr rfl hlocks hK hP hD hS (⟨6, hlow, rfl, rfl⟩) (Nat.le_of_ble_eq_true rfl) (Nat.le_of_ble_eq_true rfl) dJ6_numberOfTrailingZeros_0f7a4_79
  · refine sk_top 127 (hy.trans (by decide)) ?_
    refine lv_istore_n (lv' := [(0, .int 127)]) hx hb dJ6_numberOfTrailingZeros_0f7a4_7 rfl hl (by decide) rfl (fun ls hl => ?_)
    refine lv_iload_n hx hb dJ6_numberOfTrailingZeros_0f7a4_8 rfl (lv_at hl 0 rfl) ?_
    refine lv_if_gt (tgt := 17) hx hb dJ6_numberOfTrailingZeros_0f7a4_9 (by decide) (fun c_32 => ?_) (fun c => absurd c (by decide))
    refine lv_iconst (v := 1) hx hb dJ6_numberOfTrailingZeros_0f7a4_17 (by decide) ?_
    refine lv_istore_n (lv' := [(1, .int 1), (0, .int 127)]) hx hb dJ6_numberOfTrailingZeros_0f7a4_18 rfl hl (by decide) rfl (fun ls hl => ?_)
    refine lv_iload_n hx hb dJ6_numberOfTrailingZeros_0f7a4_19 rfl (lv_at hl 1 rfl) ?_
    refine lv_ldcw (v := 65536) hx hb hown (hts _ w_4_119) dJ6_numberOfTrailingZeros_0f7a4_20 ?_
    refine lv_icmp_le (tgt := 34) hx hb dJ6_numberOfTrailingZeros_0f7a4_23 (by decide) (fun c_33 => ?_) (fun c => absurd c (by decide))
    refine lv_iload_n hx hb dJ6_numberOfTrailingZeros_0f7a4_34 rfl (lv_at hl 1 rfl) ?_
    refine lv_sipush (v := 256) hx hb dJ6_numberOfTrailingZeros_0f7a4_35 (by decide) ?_
    refine lv_icmp_le (tgt := 49) hx hb dJ6_numberOfTrailingZeros_0f7a4_38 (by decide) (fun c_34 => ?_) (fun c => absurd c (by decide))
    refine lv_iload_n hx hb dJ6_numberOfTrailingZeros_0f7a4_49 rfl (lv_at hl 1 rfl) ?_
    refine lv_bipush (v := 16) hx hb dJ6_numberOfTrailingZeros_0f7a4_50 (by decide) ?_
    refine lv_icmp_le (tgt := 62) hx hb dJ6_numberOfTrailingZeros_0f7a4_52 (by decide) (fun c => absurd c (by decide)) (fun c_35 => ?_)
    refine lv_iinc (v := 5) (lv' := [(1, .int 5), (0, .int 127)]) hx hb dJ6_numberOfTrailingZeros_0f7a4_55 hl (k := 0) rfl (by decide) (by decide) rfl (fun ls hl => ?_)
    refine lv_iload_n hx hb dJ6_numberOfTrailingZeros_0f7a4_58 rfl (lv_at hl 1 rfl) ?_
    refine lv_iconst (v := 4) hx hb dJ6_numberOfTrailingZeros_0f7a4_59 (by decide) ?_
    refine lv_iushr hx hb dJ6_numberOfTrailingZeros_0f7a4_60 rfl ?_
    refine sk_top 7 (by decide) ?_
    refine lv_istore_n (lv' := [(0, .int 7), (1, .int 5)]) hx hb dJ6_numberOfTrailingZeros_0f7a4_61 rfl hl (by decide) rfl (fun ls hl => ?_)
    refine lv_iload_n hx hb dJ6_numberOfTrailingZeros_0f7a4_62 rfl (lv_at hl 0 rfl) ?_
    refine lv_iconst (v := 4) hx hb dJ6_numberOfTrailingZeros_0f7a4_63 (by decide) ?_
    refine lv_icmp_le (tgt := 74) hx hb dJ6_numberOfTrailingZeros_0f7a4_64 (by decide) (fun c => absurd c (by decide)) (fun c_36 => ?_)
    refine lv_iinc (v := 7) (lv' := [(1, .int 7), (0, .int 7)]) hx hb dJ6_numberOfTrailingZeros_0f7a4_67 hl (k := 1) rfl (by decide) (by decide) rfl (fun ls hl => ?_)
    refine lv_iload_n hx hb dJ6_numberOfTrailingZeros_0f7a4_70 rfl (lv_at hl 1 rfl) ?_
    refine lv_iconst (v := 2) hx hb dJ6_numberOfTrailingZeros_0f7a4_71 (by decide) ?_
    refine lv_iushr hx hb dJ6_numberOfTrailingZeros_0f7a4_72 rfl ?_
    refine sk_top 1 (by decide) ?_
    refine lv_istore_n (lv' := [(0, .int 1), (1, .int 7)]) hx hb dJ6_numberOfTrailingZeros_0f7a4_73 rfl hl (by decide) rfl (fun ls hl => ?_)
    refine lv_iload_n hx hb dJ6_numberOfTrailingZeros_0f7a4_74 rfl (lv_at hl 1 rfl) ?_
    refine lv_iload_n hx hb dJ6_numberOfTrailingZeros_0f7a4_75 rfl (lv_at hl 0 rfl) ?_
    refine lv_iconst (v := 1) hx hb dJ6_numberOfTrailingZeros_0f7a4_76 (by decide) ?_
    refine lv_iushr hx hb dJ6_numberOfTrailingZeros_0f7a4_77 rfl ?_
    refine sk_top 0 (by decide) ?_
    refine lv_iadd hx hb dJ6_numberOfTrailingZeros_0f7a4_78 ?_
    refine sk_top 7 (by decide) ?_
    exact sk_iret hx hb hr rfl hlocks hK hP hD hS (⟨7, hlow, rfl, rfl⟩) (Nat.le_of_ble_eq_true rfl) (Nat.le_of_ble_eq_true rfl) dJ6_numberOfTrailingZeros_0f7a4_79
  · refine sk_top 255 (hy.trans (by decide)) ?_
    refine lv_istore_n (lv' := [(0, .int 255)]) hx hb dJ6_numberOfTrailingZeros_0f7a4_7 rfl hl (by decide) rfl (fun ls hl => ?_)
    refine lv_iload_n hx hb dJ6_numberOfTrailingZeros_0f7a4_8 rfl (lv_at hl 0 rfl) ?_
    refine lv_if_gt (tgt := 17) hx hb dJ6_numberOfTrailingZeros_0f7a4_9 (by decide) (fun c_37 => ?_) (fun c => absurd c (by decide))
    refine lv_iconst (v := 1) hx hb dJ6_numberOfTrailingZeros_0f7a4_17 (by decide) ?_
    refine lv_istore_n (lv' := [(1, .int 1), (0, .int 255)]) hx hb dJ6_numberOfTrailingZeros_0f7a4_18 rfl hl (by decide) rfl (fun ls hl => ?_)
    refine lv_iload_n hx hb dJ6_numberOfTrailingZeros_0f7a4_19 rfl (lv_at hl 1 rfl) ?_
    refine lv_ldcw (v := 65536) hx hb hown (hts _ w_4_119) dJ6_numberOfTrailingZeros_0f7a4_20 ?_
    refine lv_icmp_le (tgt := 34) hx hb dJ6_numberOfTrailingZeros_0f7a4_23 (by decide) (fun c_38 => ?_) (fun c => absurd c (by decide))
    refine lv_iload_n hx hb dJ6_numberOfTrailingZeros_0f7a4_34 rfl (lv_at hl 1 rfl) ?_
    refine lv_sipush (v := 256) hx hb dJ6_numberOfTrailingZeros_0f7a4_35 (by decide) ?_
    refine lv_icmp_le (tgt := 49) hx hb dJ6_numberOfTrailingZeros_0f7a4_38 (by decide) (fun c_39 => ?_) (fun c => absurd c (by decide))
    refine lv_iload_n hx hb dJ6_numberOfTrailingZeros_0f7a4_49 rfl (lv_at hl 1 rfl) ?_
    refine lv_bipush (v := 16) hx hb dJ6_numberOfTrailingZeros_0f7a4_50 (by decide) ?_
    refine lv_icmp_le (tgt := 62) hx hb dJ6_numberOfTrailingZeros_0f7a4_52 (by decide) (fun c => absurd c (by decide)) (fun c_40 => ?_)
    refine lv_iinc (v := 5) (lv' := [(1, .int 5), (0, .int 255)]) hx hb dJ6_numberOfTrailingZeros_0f7a4_55 hl (k := 0) rfl (by decide) (by decide) rfl (fun ls hl => ?_)
    refine lv_iload_n hx hb dJ6_numberOfTrailingZeros_0f7a4_58 rfl (lv_at hl 1 rfl) ?_
    refine lv_iconst (v := 4) hx hb dJ6_numberOfTrailingZeros_0f7a4_59 (by decide) ?_
    refine lv_iushr hx hb dJ6_numberOfTrailingZeros_0f7a4_60 rfl ?_
    refine sk_top 15 (by decide) ?_
    refine lv_istore_n (lv' := [(0, .int 15), (1, .int 5)]) hx hb dJ6_numberOfTrailingZeros_0f7a4_61 rfl hl (by decide) rfl (fun ls hl => ?_)
    refine lv_iload_n hx hb dJ6_numberOfTrailingZeros_0f7a4_62 rfl (lv_at hl 0 rfl) ?_
    refine lv_iconst (v := 4) hx hb dJ6_numberOfTrailingZeros_0f7a4_63 (by decide) ?_
    refine lv_icmp_le (tgt := 74) hx hb dJ6_numberOfTrailingZeros_0f7a4_64 (by decide) (fun c => absurd c (by decide)) (fun c_41 => ?_)
    refine lv_iinc (v := 7) (lv' := [(1, .int 7), (0, .int 15)]) hx hb dJ6_numberOfTrailingZeros_0f7a4_67 hl (k := 1) rfl (by decide) (by decide) rfl (fun ls hl => ?_)
    refine lv_iload_n hx hb dJ6_numberOfTrailingZeros_0f7a4_70 rfl (lv_at hl 1 rfl) ?_
    refine lv_iconst (v := 2) hx hb dJ6_numberOfTrailingZeros_0f7a4_71 (by decide) ?_
    refine lv_iushr hx hb dJ6_numberOfTrailingZeros_0f7a4_72 rfl ?_
    refine sk_top 3 (by decide) ?_
    refine lv_istore_n (lv' := [(0, .int 3), (1, .int 7)]) hx hb dJ6_numberOfTrailingZeros_0f7a4_73 rfl hl (by decide) rfl (fun ls hl => ?_)
    refine lv_iload_n hx hb dJ6_numberOfTrailingZeros_0f7a4_74 rfl (lv_at hl 1 rfl) ?_
    refine lv_iload_n hx hb dJ6_numberOfTrailingZeros_0f7a4_75 rfl (lv_at hl 0 rfl) ?_
    refine lv_iconst (v := 1) hx hb dJ6_numberOfTrailingZeros_0f7a4_76 (by decide) ?_
    refine lv_iushr hx hb dJ6_numberOfTrailingZeros_0f7a4_77 rfl ?_
    refine sk_top 1 (by decide) ?_
    refine lv_iadd hx hb dJ6_numberOfTrailingZeros_0f7a4_78 ?_
    refine sk_top 8 (by decide) ?_
    exact sk_iret hx hb hr rfl hlocks hK hP hD hS (⟨8, hlow, rfl, rfl⟩) (Nat.le_of_ble_eq_true rfl) (Nat.le_of_ble_eq_true rfl) dJ6_numberOfTrailingZeros_0f7a4_79
  · refine sk_top 511 (hy.trans (by decide)) ?_
    refine lv_istore_n (lv' := [(0, .int 511)]) hx hb dJ6_numberOfTrailingZeros_0f7a4_7 rfl hl (by decide) rfl (fun ls hl => ?_)
    refine lv_iload_n hx hb dJ6_numberOfTrailingZeros_0f7a4_8 rfl (lv_at hl 0 rfl) ?_
    refine lv_if_gt (tgt := 17) hx hb dJ6_numberOfTrailingZeros_0f7a4_9 (by decide) (fun c_42 => ?_) (fun c => absurd c (by decide))
    refine lv_iconst (v := 1) hx hb dJ6_numberOfTrailingZeros_0f7a4_17 (by decide) ?_
    refine lv_istore_n (lv' := [(1, .int 1), (0, .int 511)]) hx hb dJ6_numberOfTrailingZeros_0f7a4_18 rfl hl (by decide) rfl (fun ls hl => ?_)
    refine lv_iload_n hx hb dJ6_numberOfTrailingZeros_0f7a4_19 rfl (lv_at hl 1 rfl) ?_
    refine lv_ldcw (v := 65536) hx hb hown (hts _ w_4_119) dJ6_numberOfTrailingZeros_0f7a4_20 ?_
    refine lv_icmp_le (tgt := 34) hx hb dJ6_numberOfTrailingZeros_0f7a4_23 (by decide) (fun c_43 => ?_) (fun c => absurd c (by decide))
    refine lv_iload_n hx hb dJ6_numberOfTrailingZeros_0f7a4_34 rfl (lv_at hl 1 rfl) ?_
    refine lv_sipush (v := 256) hx hb dJ6_numberOfTrailingZeros_0f7a4_35 (by decide) ?_
    refine lv_icmp_le (tgt := 49) hx hb dJ6_numberOfTrailingZeros_0f7a4_38 (by decide) (fun c => absurd c (by decide)) (fun c_44 => ?_)
    refine lv_iinc (v := 9) (lv' := [(1, .int 9), (0, .int 511)]) hx hb dJ6_numberOfTrailingZeros_0f7a4_41 hl (k := 0) rfl (by decide) (by decide) rfl (fun ls hl => ?_)
    refine lv_iload_n hx hb dJ6_numberOfTrailingZeros_0f7a4_44 rfl (lv_at hl 1 rfl) ?_
    refine lv_bipush (v := 8) hx hb dJ6_numberOfTrailingZeros_0f7a4_45 (by decide) ?_
    refine lv_iushr hx hb dJ6_numberOfTrailingZeros_0f7a4_47 rfl ?_
    refine sk_top 1 (by decide) ?_
    refine lv_istore_n (lv' := [(0, .int 1), (1, .int 9)]) hx hb dJ6_numberOfTrailingZeros_0f7a4_48 rfl hl (by decide) rfl (fun ls hl => ?_)
    refine lv_iload_n hx hb dJ6_numberOfTrailingZeros_0f7a4_49 rfl (lv_at hl 0 rfl) ?_
    refine lv_bipush (v := 16) hx hb dJ6_numberOfTrailingZeros_0f7a4_50 (by decide) ?_
    refine lv_icmp_le (tgt := 62) hx hb dJ6_numberOfTrailingZeros_0f7a4_52 (by decide) (fun c_45 => ?_) (fun c => absurd c (by decide))
    refine lv_iload_n hx hb dJ6_numberOfTrailingZeros_0f7a4_62 rfl (lv_at hl 0 rfl) ?_
    refine lv_iconst (v := 4) hx hb dJ6_numberOfTrailingZeros_0f7a4_63 (by decide) ?_
    refine lv_icmp_le (tgt := 74) hx hb dJ6_numberOfTrailingZeros_0f7a4_64 (by decide) (fun c_46 => ?_) (fun c => absurd c (by decide))
    refine lv_iload_n hx hb dJ6_numberOfTrailingZeros_0f7a4_74 rfl (lv_at hl 1 rfl) ?_
    refine lv_iload_n hx hb dJ6_numberOfTrailingZeros_0f7a4_75 rfl (lv_at hl 0 rfl) ?_
    refine lv_iconst (v := 1) hx hb dJ6_numberOfTrailingZeros_0f7a4_76 (by decide) ?_
    refine lv_iushr hx hb dJ6_numberOfTrailingZeros_0f7a4_77 rfl ?_
    refine sk_top 0 (by decide) ?_
    refine lv_iadd hx hb dJ6_numberOfTrailingZeros_0f7a4_78 ?_
    refine sk_top 9 (by decide) ?_
    exact sk_iret hx hb hr rfl hlocks hK hP hD hS (⟨9, hlow, rfl, rfl⟩) (Nat.le_of_ble_eq_true rfl) (Nat.le_of_ble_eq_true rfl) dJ6_numberOfTrailingZeros_0f7a4_79

