theorem sk_out {x : Int32} {n : Nat} (h : ∀ k : Nat, k ≤ n → ¬ x = Int32.ofNat k) : x.toInt < 0 ∨ (n : Int) < x.toInt := by
  by_cases h0 : x.toInt < 0
  · exact Or.inl h0
  · refine Or.inr (Int.not_le.mp (fun h1 => h x.toInt.toNat (by omega) ?_))
    refine Int32.toInt_inj.mp ?_
    have h2 : x.toInt < 2 ^ 31 := Int32.toInt_lt x
    have h3 : (Int32.ofNat x.toInt.toNat).toInt = (x.toInt.toNat : Int) := nI_toInt (by omega)
    rw [h3]
    omega
/-! numbers that are small: Int32 by Nat -/
theorem nmul (a b : Nat) : nI a * nI b = nI (a * b) := by
  unfold nI
  exact (Int32.ofNat_mul a b).symm
theorem nsub (a b : Nat) (h : b ≤ a) : nI a - nI b = nI (a - b) := by
  have h1 : nI (a - b) + nI b = nI a := by rw [nI_add, Nat.sub_add_cancel h]
  rw [← h1, Int32.add_sub_cancel]
theorem ndiv (a b : Nat) (ha : a < 2147483648) (hb : b < 2147483648) (hb0 : 0 < b) : nI a / nI b = nI (a / b) := by
  have h1 : a / b < 2 ^ 31 := Nat.lt_of_le_of_lt (Nat.div_le_self a b) ha
  refine Int32.toInt_inj.mp ?_
  rw [Jvm.Kit.i32_div (by rw [nI_toInt ha, nI_toInt hb]; omega), nI_toInt ha, nI_toInt hb, nI_toInt h1]
  rw [Int.tdiv_eq_ediv_of_nonneg (by omega)]
  exact (Int.natCast_ediv a b).symm
theorem nrem (a b : Nat) (ha : a < 2147483648) (hb : b < 2147483648) (hb0 : 0 < b) : nI a - nI a / nI b * nI b = nI (a % b) := by
  rw [ndiv a b ha hb hb0, nmul, nsub a (a / b * b) (Nat.div_mul_le_self a b)]
  congr 1
  have h1 := Nat.div_add_mod a b
  have h2 := Nat.mul_comm b (a / b)
  omega
theorem ninc (a k : Nat) (h : Int32.ofInt (k : Int) = nI k) : nI a + Int32.ofInt (k : Int) = nI (a + k) := by
  rw [h, nI_add]
theorem nrd (a : Nat → Nat) (k : Nat) (h : k < 2147483648) : (fun j => nI (a j)) (nI k).toNatClampNeg = nI (a k) := by
  show nI (a (nI k).toNatClampNeg) = nI (a k)
  rw [nI_clamp h]
theorem vin (k n : Nat) (h : k < n) (hn : n < 2147483648) : vp_in (nI k) n := nI_in h hn
theorem nlt (a b : Nat) (ha : a < 2147483648) (hb : b < 2147483648) : nI a < nI b ↔ a < b := nI_ltI ha hb
theorem nle (a b : Nat) (ha : a < 2147483648) (hb : b < 2147483648) : nI a ≤ nI b ↔ a ≤ b := nI_leI ha hb
theorem neq (a b : Nat) (ha : a < 2147483648) (hb : b < 2147483648) : nI a = nI b ↔ a = b := nI_eq ha hb
theorem nof (x : Int32) (h : ¬ x < 0) : ∃ j : Nat, j < 2147483648 ∧ x = nI j := nI_of h
theorem nof' (x : Int32) (h : 0 ≤ x) : ∃ j : Nat, j < 2147483648 ∧ x = nI j := nI_of (Int32.not_lt.mpr h)
def updN (a : Nat → Nat) (k v : Nat) : Nat → Nat := fun j => if j = k then v else a j
theorem updN_le {a : Nat → Nat} {k v B : Nat} (h : ∀ j, a j ≤ B) (hv : v ≤ B) : ∀ j, updN a k v j ≤ B := fun j => by
  unfold updN
  by_cases hj : j = k
  · rw [if_pos hj]; exact hv
  · rw [if_neg hj]; exact h j
theorem updN_fun (a : Nat → Nat) (k v : Nat) (h : k < 2147483648) : upd (fun j => nI (a j)) (nI k).toNatClampNeg (nI v) = fun j => nI (updN a k v j) := by
  funext j
  rw [nI_clamp h]
  unfold upd updN
  by_cases hj : j = k
  · rw [if_pos hj, if_pos hj]
  · rw [if_neg hj, if_neg hj]
section SkNums
variable {p : Program} {l : Launch} {e : Env} {R : Room} {s : State} {m : MethodId} {args : Array Value} {below : List Frame} {meth : Method} {c : Code} {H : Heap} {locs : List Loc} {cells slots : Nat} {Q : State → Prop}
variable {cc : ByteArray} {pc : Nat} {ls : Array Slot} {rest : List Value} {D : va_G} {tys : List (ClassId × FieldType)} {ws : va_W} {A : Nat → Prop} {H0 : Heap} {a : Nat}
/-- a row of small numbers: what is put keeps its bound -/
theorem sk_iastN (hexec : p.tables.exec = Jvm.exec) (hb : c.code = cc) (hK : skK D tys s) (hP : va_P D vwCl ws H) (hD : va_D A ws) (hS : va_S A H0 H locs) (q0 t0 : Nat) {cA : ClassId} {n B : Nat} {f : Nat → Nat} {ws' : (Nat → Nat) → va_W} (ha : ws[q0]? = some (a, .inl (cA, n, .inl (fun j => nI (f j))))) (ht : tys[t0]? = some (cA, .int)) {k v : Nat} (hk : k < n) (hn : n < 2147483648) (hf : ∀ j, f j ≤ B) (hv : v ≤ B) (hw' : ∀ f', ws.set q0 (a, .inl (cA, n, .inl (fun j => nI (f' j)))) = ws' f') (hdg : decode cc pc = .ok (.iastore, 1))
    (kk : ∀ (f' : Nat → Nat) (H1 : Heap) (locs1 : List Loc), (∀ j, f' j ≤ B) → va_P D vwCl (ws' f') H1 → va_D A (ws' f') → va_S A H0 H1 locs1 → W p l e R s m args below meth c H1 locs1 cells slots Q (F0 m (pc + 1) ls rest)) : W p l e R s m args below meth c H locs cells slots Q (F0 m pc ls (.int (nI v) :: .int (nI k) :: .ref a :: rest)) := by
  refine va_iast hexec hb hK.1 hP hD hS q0 t0 ha ht (vin k n hk hn) hdg (fun H1 locs1 h1 h2 h3 => ?_)
  rw [updN_fun f k v (by omega)] at h1 h2
  exact kk _ H1 locs1 (updN_le hf hv) ((hw' _) ▸ h1) ((hw' _) ▸ h2) h3
theorem sk_lastO (hexec : p.tables.exec = Jvm.exec) (hb : c.code = cc) (hK : skK D tys s) (hP : va_P D vwCl ws H) (hD : va_D A ws) (hS : va_S A H0 H locs) (q0 t0 : Nat) {cA : ClassId} {n : Nat} {f : Nat → Int64} {ws' : (Nat → Int64) → va_W} (ha : ws[q0]? = some (a, .inl (cA, n, .inr (.inl f)))) (ht : tys[t0]? = some (cA, .long)) {i : Int32} {x : Int64} (hin : vp_in i n) (hw' : ∀ f', ws.set q0 (a, .inl (cA, n, .inr (.inl f'))) = ws' f') (hdg : decode cc pc = .ok (.lastore, 1))
    (kk : ∀ (f' : Nat → Int64) (H1 : Heap) (locs1 : List Loc), va_P D vwCl (ws' f') H1 → va_D A (ws' f') → va_S A H0 H1 locs1 → W p l e R s m args below meth c H1 locs1 cells slots Q (F0 m (pc + 1) ls rest)) : W p l e R s m args below meth c H locs cells slots Q (F0 m pc ls (.long x :: .int i :: .ref a :: rest)) :=
  va_last hexec hb hK.1 hP hD hS q0 t0 ha ht hin hdg (fun H1 locs1 h1 h2 h3 => kk _ H1 locs1 ((hw' _) ▸ h1) ((hw' _) ▸ h2) h3)
theorem sk_topv {x : Value} (y : Value) (h : x = y) (k : W p l e R s m args below meth c H locs cells slots Q (F0 m pc ls (y :: rest))) : W p l e R s m args below meth c H locs cells slots Q (F0 m pc ls (x :: rest)) := by
  subst h; exact k
theorem sk_ast {ws' : va_W} (hexec : p.tables.exec = Jvm.exec) (hb : c.code = cc) (hK : skK D tys s) (hP : va_P D vwCl ws H) (hD : va_D A ws) (hS : va_S A H0 H locs) (q0 t0 qk ci : Nat) {cA : ClassId} {r : vw_C} {n v : Nat} {vs : List Value} {f : Nat → Option Nat} (ha : ws[q0]? = some (a, .inl (cA, n, .inr (.inr (.inr (.inr f)))))) (ht : tys[t0]? = some (cA, .object r.1)) (hv : ws[qk]? = some (v, .inr (ci, vs))) (hc : vwCl[ci]? = some r) {i : Int32} (hin : vp_in i n) (hw' : ws.set q0 (a, .inl (cA, n, .inr (.inr (.inr (.inr (va_up f i.toNatClampNeg (some v))))))) = ws') (hdg : decode cc pc = .ok (.aastore, 1))
    (kk : ∀ (H1 : Heap) (locs1 : List Loc), va_P D vwCl ws' H1 → va_D A ws' → va_S A H0 H1 locs1 → W p l e R s m args below meth c H1 locs1 cells slots Q (F0 m (pc + 1) ls rest)) : W p l e R s m args below meth c H locs cells slots Q (F0 m pc ls (.ref v :: .int i :: .ref a :: rest)) := by
  subst hw'
  exact va_astq hexec hb hK.1 hP hD hS q0 t0 qk ci ha ht hv hc hin hdg kk
end SkNums
theorem nbool (b : Nat) (h : b ≤ 1) : narrow .boolean (.int (nI b)) = .int (nI b) := by
  match b, h with
  | 0, _ => rfl
  | 1, _ => rfl
  | n + 2, h => exact absurd h (by omega)
theorem sk_out2 {x : Int32} (a b : Nat) (h : ∀ k : Nat, a ≤ k → k ≤ b → ¬ x = Int32.ofNat k) : x.toInt < (a : Int) ∨ (b : Int) < x.toInt := by
  by_cases h0 : x.toInt < (a : Int)
  · exact Or.inl h0
  · refine Or.inr (Int.not_le.mp (fun h1 => h x.toInt.toNat (by omega) (by omega) ?_))
    refine Int32.toInt_inj.mp ?_
    have h2 : x.toInt < 2 ^ 31 := Int32.toInt_lt x
    have h3 : (Int32.ofNat x.toInt.toNat).toInt = (x.toInt.toNat : Int) := nI_toInt (by omega)
    rw [h3]
    omega
theorem ndec1 (a : Nat) (h : 1 ≤ a) : nI a + Int32.ofInt (-1) = nI (a - 1) := by
  obtain ⟨b, rfl⟩ : ∃ b, a = b + 1 := ⟨a - 1, by omega⟩
  rw [Nat.add_sub_cancel, ← nI_pred b]
  show nI (b + 1) + (-1) = nI (b + 1) - 1
  exact (Int32.sub_eq_add_neg _ _).symm
theorem nmax0 (x : Int32) : ∃ k : Nat, k < 2147483648 ∧ (if x < 0 then 0 else x) = nI k := by
  by_cases h : x < 0
  · exact ⟨0, by omega, by rw [if_pos h]; rfl⟩
  · obtain ⟨k, hk, e⟩ := nof x h
    exact ⟨k, hk, by rw [if_neg h]; exact e⟩
theorem nl2i {a : Int64} {n : Nat} (h1 : 0 ≤ a.toInt) (h2 : a.toInt < n) (hn : n < 2147483648) : ∃ k : Nat, k < n ∧ a.toInt32 = nI k := by
  refine ⟨a.toInt.toNat, by omega, ?_⟩
  refine Int32.toInt_inj.mp ?_
  rw [nI_toInt (by omega), Int64.toInt_toInt32]
  rw [Int.bmod_eq_of_le (by omega) (by omega)]
  omega
theorem lrem10 (x : Int64) : (x - x / 10 * 10).toInt = x.toInt.tmod 10 := by
  have e : (10 : Int64).toInt = 10 := rfl
  have hx1 := Int64.le_toInt x
  have hx2 := Int64.toInt_lt x
  have hd : (x / 10).toInt = x.toInt.tdiv 10 := by
    rw [Jvm.Kit.i64_div (by rw [e]; omega), e]
  have hr := Int.mul_tdiv_add_tmod x.toInt 10
  have hb1 : x.toInt.tmod 10 < 10 := Int.tmod_lt_of_pos _ (by decide)
  have hb2 : -10 < x.toInt.tmod 10 := by
    have h3 := Int.tmod_lt_of_pos (-x.toInt) (by decide : (0 : Int) < 10)
    rw [Int.neg_tmod] at h3
    omega
  have hsg : (0 ≤ x.toInt → 0 ≤ x.toInt.tmod 10) ∧ (x.toInt < 0 → x.toInt.tmod 10 ≤ 0) := by
    refine ⟨fun h => Int.tmod_nonneg 10 h, fun h => ?_⟩
    have h3 := Int.tmod_nonneg (a := -x.toInt) 10 (by omega)
    rw [Int.neg_tmod] at h3
    omega
  have hm : (x / 10 * 10).toInt = x.toInt.tdiv 10 * 10 := by
    rw [Jvm.Kit.i64_mul (by rw [hd, e]; omega) (by rw [hd, e]; omega), hd, e]
  rw [Jvm.Kit.i64_sub (by rw [hm]; omega) (by rw [hm]; omega), hm]
  omega
theorem lxor10 (x : Int64) : (0 ≤ lg_cmp (x ^^^ 10) 0) ↔ 0 ≤ x.toInt := by
  rw [lg_cmp_ge, Int64.le_iff_toInt_le]
  show (0 : Int) ≤ (x ^^^ 10).toBitVec.toInt ↔ 0 ≤ x.toBitVec.toInt
  rw [Int64.toBitVec_xor]
  have h : (10 : Int64).toBitVec.msb = false := by decide
  have a := BitVec.msb_eq_toInt (x := x.toBitVec ^^^ (10 : Int64).toBitVec)
  have b := BitVec.msb_eq_toInt (x := x.toBitVec)
  rw [BitVec.msb_xor, h, Bool.xor_false, b] at a
  have h2 := decide_eq_decide.mp a
  omega
theorem fmt10b {x v : Int64} (hv : v = x - x / 10 * 10) (h : ¬ 0 ≤ lg_cmp (x ^^^ 10) 0) : -10 < v.toInt ∧ v.toInt ≤ 0 := by
  have h1 : ¬ 0 ≤ x.toInt := fun q => h ((lxor10 x).mpr q)
  rw [hv, lrem10]
  have h3 := Int.tmod_nonneg (a := -x.toInt) 10 (by omega)
  have h4 := Int.tmod_lt_of_pos (-x.toInt) (by decide : (0 : Int) < 10)
  rw [Int.neg_tmod] at h3 h4
  omega
theorem nfitb (b : Nat) (h : b ≤ 1) : fits .boolean (.int (nI b)) = true := by
  match b, h with
  | 0, _ => rfl
  | 1, _ => rfl
  | n + 2, h => exact absurd h (by omega)
theorem npred (a : Nat) (h : 1 ≤ a) : nI a - 1 = nI (a - 1) := nsub a 1 h
theorem npm1 (a : Nat) (h : ¬ nI a - 1 < 0) : 1 ≤ a := by
  rcases Nat.eq_zero_or_pos a with h0 | h0
  · subst h0; exact absurd (by decide) h
  · exact h0
theorem npm0 (a : Nat) (ha : a < 2147483648) (h : nI a - 1 < 0) : a = 0 := by
  rcases Nat.eq_zero_or_pos a with h0 | h0
  · exact h0
  · rw [npred a h0] at h
    exact absurd h (nI_pos (by omega))
theorem nofp (x : Int32) (h : 0 < x) : ∃ j : Nat, j < 2147483648 ∧ 1 ≤ j ∧ x = nI j := by
  obtain ⟨j, hj, e⟩ := nof x (fun q => Int32.lt_irrefl (Int32.lt_trans h q))
  refine ⟨j, hj, ?_, e⟩
  rcases Nat.eq_zero_or_pos j with h0 | h0
  · subst h0; rw [e] at h; exact absurd h (by decide)
  · exact h0
theorem nushr (k j : Nat) (hk : k < 2147483648) (hj : j < 32) (P : Nat) (hP : 2 ^ j = P) : ((nI k).toUInt32 >>> ((nI j).toUInt32 &&& Int32.toUInt32 31)).toInt32 = nI (k / P) := by
  subst hP
  have h1 : ∀ j, j < 32 → ((((nI j).toUInt32 &&& Int32.toUInt32 31).toBitVec % 32).toNat = j) := by decide
  exact pk_ushrN (by omega) (nI j) j (h1 j hj)
theorem nand32 (x : Int32) : ∃ k : Nat, k ≤ 32 ∧ x &&& 32 = nI k := by
  refine ⟨(x &&& 32).toBitVec.toNat, ?_, ?_⟩
  · rw [Int32.toBitVec_and, BitVec.toNat_and]
    exact Nat.and_le_right
  · refine Int32.toBitVec_inj.mp ?_
    show _ = BitVec.ofNat 32 _
    rw [BitVec.ofNat_toNat, BitVec.setWidth_eq]
theorem ndn (x : Int32) : x + Int32.ofInt (-1) = x - 1 := by
  show x + (-1) = x - 1
  exact (Int32.sub_eq_add_neg _ _).symm
theorem nofge' (x : Int32) (b : Nat) (hb : b < 2147483648) (h : nI b ≤ x) : ∃ k : Nat, k < 2147483648 ∧ b ≤ k ∧ x = nI k := by
  have h0 : ¬ x < 0 := fun q => absurd (Int32.lt_of_le_of_lt h q) (nI_pos hb)
  obtain ⟨k, hk, e⟩ := nof x h0
  subst e
  exact ⟨k, hk, (nle b k hb hk).mp h, rfl⟩
theorem nofge (x : Int32) (b : Nat) (hb : b < 2147483648) (h : ¬ x < nI b) : ∃ k : Nat, k < 2147483648 ∧ b ≤ k ∧ x = nI k := nofge' x b hb (Int32.not_lt.mp h)
/-- a row whose first n places hold numbers up to 9 -/
def rowOk (f : Nat → Int32) (n : Nat) : Prop := ∀ j, j < n → ∃ k : Nat, k ≤ 9 ∧ f j = nI k
theorem rowOk_0 (f : Nat → Int32) : rowOk f 0 := fun j h => absurd h (Nat.not_lt_zero j)
theorem rowOk_up {f : Nat → Int32} {i v : Nat} (h : rowOk f i) (hi : i < 2147483648) (hv : v ≤ 9) : rowOk (upd f (nI i).toNatClampNeg (nI v)) (i + 1) := by
  rw [nI_clamp hi]
  intro j hj
  by_cases e : j = i
  · exact ⟨v, hv, by unfold upd; rw [if_pos e]⟩
  · obtain ⟨k, hk, e2⟩ := h j (by omega)
    exact ⟨k, hk, by unfold upd; rw [if_neg e]; exact e2⟩
theorem rowOk_at {f : Nat → Int32} {n i : Nat} (h : rowOk f n) (hi : i < n) (hb : i < 2147483648) : ∃ k : Nat, k ≤ 9 ∧ f (nI i).toNatClampNeg = nI k := by
  rw [nI_clamp hb]
  exact h i hi
theorem nshl1 (d : Nat) (h : d ≤ 9) : ∃ P : Nat, P ≤ 512 ∧ (1 : Int32) <<< (nI d &&& 31) = nI P := by
  match d, h with
  | 0, _ => exact ⟨1, by omega, by decide⟩
  | 1, _ => exact ⟨2, by omega, by decide⟩
  | 2, _ => exact ⟨4, by omega, by decide⟩
  | 3, _ => exact ⟨8, by omega, by decide⟩
  | 4, _ => exact ⟨16, by omega, by decide⟩
  | 5, _ => exact ⟨32, by omega, by decide⟩
  | 6, _ => exact ⟨64, by omega, by decide⟩
  | 7, _ => exact ⟨128, by omega, by decide⟩
  | 8, _ => exact ⟨256, by omega, by decide⟩
  | 9, _ => exact ⟨512, by omega, by decide⟩
  | n + 10, h => exact absurd h (by omega)
def updG {α : Type} (f : Nat → α) (k : Nat) (v : α) : Nat → α := fun j => if j = k then v else f j
def rotG {α : Type} (f : Nat → α) : Nat → α := fun j => if j < 19 then f (j + 1) else if j = 19 then f 0 else f j
theorem updG_le {f : Nat → Nat} {k v B : Nat} (h : ∀ j, f j ≤ B) (hv : v ≤ B) : ∀ j, updG f k v j ≤ B := fun j => by
  unfold updG
  by_cases e : j = k
  · rw [if_pos e]; exact hv
  · rw [if_neg e]; exact h j
theorem rotG_le {f : Nat → Nat} {B : Nat} (h : ∀ j, f j ≤ B) : ∀ j, rotG f j ≤ B := fun j => by
  unfold rotG
  by_cases e : j < 19
  · rw [if_pos e]; exact h _
  · rw [if_neg e]
    by_cases e2 : j = 19
    · rw [if_pos e2]; exact h _
    · rw [if_neg e2]; exact h _
/-! a world split by a mask, and put together again: one pass -/
def fmS : List Bool → va_W → va_W
  | true :: m, x :: X => x :: fmS m X
  | false :: m, _ :: X => fmS m X
  | _, _ => []
def fmR : List Bool → va_W → va_W
  | true :: m, _ :: X => fmR m X
  | false :: m, x :: X => x :: fmR m X
  | _, _ => []
def fmT : List Bool → Nat → List Nat
  | [], _ => []
  | true :: m, k => k :: fmT m (k + 1)
  | false :: m, k => fmT m (k + 1)
def fmF : List Bool → Nat → List Nat
  | [], _ => []
  | true :: m, k => fmF m (k + 1)
  | false :: m, k => k :: fmF m (k + 1)
def fmP (p T : List Nat) : List Nat := p.map (fun j => T.getD j 0)
def fmM : List Bool → va_W → va_W → va_W
  | true :: m, y :: ux, r => y :: fmM m ux r
  | false :: m, ux, x :: r => x :: fmM m ux r
  | _, _, _ => []
def fmZ : List Bool → Nat → List Nat → Nat → List Nat
  | true :: m, a, j :: q, n => (n + j) :: fmZ m a q n
  | false :: m, a, q, n => a :: fmZ m (a + 1) q n
  | _, _, _, _ => []
def fmOk : List Bool → Nat → Nat → Bool
  | [], 0, 0 => true
  | true :: m, t + 1, f => fmOk m t f
  | false :: m, t, f + 1 => fmOk m t f
  | _, _, _ => false
theorem fm_sh {X Y : va_W} {x : Nat × va_E} {k : Nat} (hY : ∀ j, j < (x :: X).length → Y[k + j]? = (x :: X)[j]?) : ∀ j, j < X.length → Y[k + 1 + j]? = X[j]? := fun j hj => by
  have h2 := hY (j + 1) (by rw [List.length_cons]; omega)
  rw [show k + 1 + j = k + (j + 1) by omega]
  exact h2
theorem fmT_S : ∀ (m : List Bool) (X Y : va_W) (k : Nat), m.length = X.length → (∀ j, j < X.length → Y[k + j]? = X[j]?) → (fmT m k).map (fun i => Y[i]?) = (fmS m X).map some
  | [], [], Y, k, _, _ => rfl
  | [], _ :: _, Y, k, h, _ => absurd h (by rw [List.length_nil, List.length_cons]; omega)
  | _ :: _, [], Y, k, h, _ => absurd h (by rw [List.length_nil, List.length_cons]; omega)
  | true :: m, x :: X, Y, k, h, hY => by
    have h0 : Y[k]? = some x := hY 0 (by rw [List.length_cons]; omega)
    have h1 := fmT_S m X Y (k + 1) (by rw [List.length_cons, List.length_cons] at h; omega) (fm_sh hY)
    show Y[k]? :: (fmT m (k + 1)).map (fun i => Y[i]?) = some x :: (fmS m X).map some
    rw [h0, h1]
  | false :: m, x :: X, Y, k, h, hY => by
    have h1 := fmT_S m X Y (k + 1) (by rw [List.length_cons, List.length_cons] at h; omega) (fm_sh hY)
    show (fmT m (k + 1)).map (fun i => Y[i]?) = (fmS m X).map some
    exact h1
