/-! bytes -/
def lo8 (x : Int32) : Nat := (x &&& 255).toBitVec.toNat
theorem lo8_le (x : Int32) : lo8 x ≤ 255 := by
  unfold lo8
  rw [Int32.toBitVec_and, BitVec.toNat_and]
  exact Nat.and_le_right
theorem lo8_eq (x : Int32) : x &&& 255 = nI (lo8 x) := by
  refine Int32.toBitVec_inj.mp ?_
  show _ = BitVec.ofNat 32 _
  unfold lo8
  rw [BitVec.ofNat_toNat, BitVec.setWidth_eq]
theorem lo8_nI {k : Nat} (h : k ≤ 255) : lo8 (nI k) = k := by
  have h1 : ∀ k, k < 256 → lo8 (nI k) = k := by decide +kernel
  exact h1 k (by omega)
/-- the k-th of the twenty bytes -/
def wByte (a b c d e : Int32) (k : Nat) : Nat := lo8 ((if k < 4 then a else if k < 8 then b else if k < 12 then c else if k < 16 then d else e) >>> (nI (8 * (3 - k % 4)) &&& 31))
def feedN (tb : Nat → Nat) (t : Nat) (f : Nat → Nat) : Nat → Nat → Nat
  | 0 => tb
  | k + 1 => updN (feedN tb t f k) (t + k) (f k)
def feedT (tb : Nat → Nat) (t : Nat) (a b c d e : Int32) : Nat → Nat := feedN tb t (wByte a b c d e) 20
theorem ush_lo (x : BitVec 32) (s : Nat) (hs : s ≤ 24) : (x >>> s) &&& 255#32 = (x.sshiftRight s) &&& 255#32 := by
  apply BitVec.eq_of_getLsbD_eq
  intro i hi
  rw [BitVec.getLsbD_and, BitVec.getLsbD_and]
  by_cases h : i < 8
  · rw [BitVec.getLsbD_ushiftRight, BitVec.getLsbD_sshiftRight]
    rw [if_pos (by omega)]
    simp [show ¬ 32 ≤ i by omega]
  · have h0 : ∀ i, i < 32 → 8 ≤ i → (255#32).getLsbD i = false := by decide
    rw [h0 i hi (by omega), Bool.and_false, Bool.and_false]
theorem by_s (x S : Int32) (k : Nat) (hk : k ≤ 24) (h1 : ((S.toUInt32 &&& Int32.toUInt32 31).toBitVec % 32).toNat = k) (h2 : ((nI k &&& 31).toBitVec.smod 32).toNat = k) : lo8 ((x.toUInt32 >>> (S.toUInt32 &&& Int32.toUInt32 31)).toInt32) = lo8 (x >>> (nI k &&& 31)) := by
  have e1 : (x.toUInt32 >>> (S.toUInt32 &&& Int32.toUInt32 31)).toInt32.toBitVec = x.toBitVec >>> k := by
    rw [← h1]
    exact UInt32.toBitVec_shiftRight _ _
  have e2 : (x >>> (nI k &&& 31)).toBitVec = x.toBitVec.sshiftRight k := by
    show x.toBitVec.sshiftRight _ = _
    rw [h2]
  have e3 : ((255 : Int32)).toBitVec = 255#32 := by decide
  unfold lo8
  rw [Int32.toBitVec_and, Int32.toBitVec_and, e1, e2, e3, ush_lo _ _ hk]
theorem by_0 (x : Int32) : lo8 x = lo8 (x >>> (nI 0 &&& 31)) := by
  have e2 : (x >>> (nI 0 &&& 31)).toBitVec = x.toBitVec.sshiftRight 0 := by
    show x.toBitVec.sshiftRight _ = _
    rw [show ((nI 0 &&& 31).toBitVec.smod 32).toNat = 0 by decide]
  unfold lo8
  rw [Int32.toBitVec_and, Int32.toBitVec_and, e2, BitVec.sshiftRight_zero]
theorem by_24 (x : Int32) : lo8 ((x.toUInt32 >>> ((24 : Int32).toUInt32 &&& Int32.toUInt32 31)).toInt32) = lo8 (x >>> (nI 24 &&& 31)) := by_s x 24 24 (by decide) (by decide) (by decide)
theorem by_16 (x : Int32) : lo8 ((x.toUInt32 >>> ((16 : Int32).toUInt32 &&& Int32.toUInt32 31)).toInt32) = lo8 (x >>> (nI 16 &&& 31)) := by_s x 16 16 (by decide) (by decide) (by decide)
theorem by_8 (x : Int32) : lo8 ((x.toUInt32 >>> ((8 : Int32).toUInt32 &&& Int32.toUInt32 31)).toInt32) = lo8 (x >>> (nI 8 &&& 31)) := by_s x 8 8 (by decide) (by decide) (by decide)
def add4 (tb : Nat → Nat) (t : Nat) (x : Int32) : Nat → Nat := updN (updN (updN (updN tb t (lo8 (x >>> (nI 24 &&& 31)))) (t + 1) (lo8 (x >>> (nI 16 &&& 31)))) (t + 2) (lo8 (x >>> (nI 8 &&& 31)))) (t + 3) (lo8 (x >>> (nI 0 &&& 31)))
theorem add_5 (tb : Nat → Nat) (t : Nat) (a b c d e : Int32) : add4 (add4 (add4 (add4 (add4 tb t a) (t + 4) b) (t + 4 + 4) c) (t + 4 + 4 + 4) d) (t + 4 + 4 + 4 + 4) e = feedT tb t a b c d e := rfl
theorem sk_iastX {p : Program} {l : Launch} {e : Env} {R : Room} {s : State} {m : MethodId} {args : Array Value} {below : List Frame} {meth : Method} {c : Code} {H : Heap} {locs : List Loc} {cells slots : Nat} {Q : State → Prop} {cc : ByteArray} {pc : Nat} {ls : Array Slot} {rest : List Value} {D : va_G} {tys : List (ClassId × FieldType)} {ws : va_W} {A : Nat → Prop} {H0 : Heap} {a : Nat} (hexec : p.tables.exec = Jvm.exec) (hb : c.code = cc) (hK : skK D tys s) (hP : va_P D vwCl ws H) (hD : va_D A ws) (hS : va_S A H0 H locs) (q0 t0 : Nat) {cA : ClassId} {n B : Nat} {f : Nat → Nat} {ws' : (Nat → Nat) → va_W} (ha : ws[q0]? = some (a, .inl (cA, n, .inl (fun j => nI (f j))))) (ht : tys[t0]? = some (cA, .int)) {k v : Nat} (hk : k < n) (hn : n < 2147483648) (hf : ∀ j, f j ≤ B) (hv : v ≤ B) (hw' : ∀ f', ws.set q0 (a, .inl (cA, n, .inl (fun j => nI (f' j)))) = ws' f') (hdg : decode cc pc = .ok (.iastore, 1))
    (kk : ∀ (f' : Nat → Nat) (H1 : Heap) (locs1 : List Loc), (∀ j, f' j ≤ B) → f' = updN f k v → va_P D vwCl (ws' f') H1 → va_D A (ws' f') → va_S A H0 H1 locs1 → W p l e R s m args below meth c H1 locs1 cells slots Q (F0 m (pc + 1) ls rest)) : W p l e R s m args below meth c H locs cells slots Q (F0 m pc ls (.int (nI v) :: .int (nI k) :: .ref a :: rest)) := by
  refine va_iast hexec hb hK.1 hP hD hS q0 t0 ha ht (vin k n hk hn) hdg (fun H1 locs1 h1 h2 h3 => ?_)
  rw [updN_fun f k v (by omega)] at h1 h2
  exact kk _ H1 locs1 (updN_le hf hv) rfl ((hw' _) ▸ h1) ((hw' _) ▸ h2) h3
def chkN (tb : Nat → Nat) : Nat → Nat
  | 0 => 139
  | k + 1 => (3 * chkN tb k + tb k) % 251

