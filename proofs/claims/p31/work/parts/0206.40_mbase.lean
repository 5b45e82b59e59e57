def mo (g : Nat → Nat) (f1 : Int32) (f2 : Int32) (f3 : Int32) (f4 : Int32) (f5 : Int32) (f6 : Int32) (f7 : Int32) (f8 : Int32) (f10 : Int32) (f22 : Int32) (f23 : Int32) (f27 : Int32) (f28 : Int32) (f29 : Int32) (f30 : Int32) (f33 : Int32) (f34 : Int32) (f35 : Int32) (f39 : Int32) (f40 : Int32) (f41 : Int32) (f42 : Int32) (f45 : Int64) (f47 : Int32) (f52 : Int32) (f55 : Int32) (f56 : Int32) (f57 : Int64) (f81 : Int32) (f83 : Int32) (f84 : Int32) (f85 : Int32) (f87 : Int32) (f88 : Int64) (f89 : Int32) (f91 : Int32) : List Value := [.ref (g 0), .int f1, .int f2, .int f3, .int f4, .int f5, .int f6, .int f7, .int f8, .ref (g 9), .int f10, .ref (g 11), .ref (g 12), .ref (g 13), .ref (g 14), .ref (g 15), .ref (g 16), .ref (g 17), .ref (g 18), .ref (g 19), .ref (g 20), .ref (g 21), .int f22, .int f23, .ref (g 24), .ref (g 25), .ref (g 26), .int f27, .int f28, .int f29, .int f30, .ref (g 31), .ref (g 32), .int f33, .int f34, .int f35, .ref (g 36), .ref (g 37), .ref (g 38), .int f39, .int f40, .int f41, .int f42, .ref (g 43), .ref (g 44), .long f45, .ref (g 46), .int f47, .ref (g 48), .ref (g 49), .ref (g 50), .ref (g 51), .int f52, .ref (g 53), .ref (g 54), .int f55, .int f56, .long f57, .ref (g 58), .ref (g 59), .ref (g 60), .ref (g 61), .ref (g 62), .ref (g 63), .ref (g 64), .ref (g 65), .ref (g 66), .ref (g 67), .ref (g 68), .ref (g 69), .ref (g 70), .ref (g 71), .ref (g 72), .ref (g 73), .ref (g 74), .ref (g 75), .ref (g 76), .ref (g 77), .ref (g 78), .ref (g 79), .ref (g 80), .int f81, .ref (g 82), .int f83, .int f84, .int f85, .ref (g 86), .int f87, .long f88, .int f89, .ref (g 90), .int f91]
def l4 (a0 a1 a2 a3 : Int32) : Nat → Int32 := fun j => match j with | 0 => a0 | 1 => a1 | 2 => a2 | 3 => a3 | _ => 0
theorem l4_0 (a0 a1 a2 a3 x : Int32) : upd (l4 a0 a1 a2 a3) (0 : Int32).toNatClampNeg x = l4 x a1 a2 a3 := by
  funext j
  match j with
  | 0 => rfl
  | 1 => rfl
  | 2 => rfl
  | 3 => rfl
  | j + 4 => rfl
theorem l4_1 (a0 a1 a2 a3 x : Int32) : upd (l4 a0 a1 a2 a3) (1 : Int32).toNatClampNeg x = l4 a0 x a2 a3 := by
  funext j
  match j with
  | 0 => rfl
  | 1 => rfl
  | 2 => rfl
  | 3 => rfl
  | j + 4 => rfl
theorem l4_2 (a0 a1 a2 a3 x : Int32) : upd (l4 a0 a1 a2 a3) (2 : Int32).toNatClampNeg x = l4 a0 a1 x a3 := by
  funext j
  match j with
  | 0 => rfl
  | 1 => rfl
  | 2 => rfl
  | 3 => rfl
  | j + 4 => rfl
theorem l4_3 (a0 a1 a2 a3 x : Int32) : upd (l4 a0 a1 a2 a3) (3 : Int32).toNatClampNeg x = l4 a0 a1 a2 x := by
  funext j
  match j with
  | 0 => rfl
  | 1 => rfl
  | 2 => rfl
  | 3 => rfl
  | j + 4 => rfl
def l6 (a0 a1 a2 a3 a4 a5 : Int32) : Nat → Int32 := fun j => match j with | 0 => a0 | 1 => a1 | 2 => a2 | 3 => a3 | 4 => a4 | 5 => a5 | _ => 0
theorem l6_0 (a0 a1 a2 a3 a4 a5 x : Int32) : upd (l6 a0 a1 a2 a3 a4 a5) (0 : Int32).toNatClampNeg x = l6 x a1 a2 a3 a4 a5 := by
  funext j
  match j with
  | 0 => rfl
  | 1 => rfl
  | 2 => rfl
  | 3 => rfl
  | 4 => rfl
  | 5 => rfl
  | j + 6 => rfl
theorem l6_1 (a0 a1 a2 a3 a4 a5 x : Int32) : upd (l6 a0 a1 a2 a3 a4 a5) (1 : Int32).toNatClampNeg x = l6 a0 x a2 a3 a4 a5 := by
  funext j
  match j with
  | 0 => rfl
  | 1 => rfl
  | 2 => rfl
  | 3 => rfl
  | 4 => rfl
  | 5 => rfl
  | j + 6 => rfl
theorem l6_2 (a0 a1 a2 a3 a4 a5 x : Int32) : upd (l6 a0 a1 a2 a3 a4 a5) (2 : Int32).toNatClampNeg x = l6 a0 a1 x a3 a4 a5 := by
  funext j
  match j with
  | 0 => rfl
  | 1 => rfl
  | 2 => rfl
  | 3 => rfl
  | 4 => rfl
  | 5 => rfl
  | j + 6 => rfl
theorem l6_3 (a0 a1 a2 a3 a4 a5 x : Int32) : upd (l6 a0 a1 a2 a3 a4 a5) (3 : Int32).toNatClampNeg x = l6 a0 a1 a2 x a4 a5 := by
  funext j
  match j with
  | 0 => rfl
  | 1 => rfl
  | 2 => rfl
  | 3 => rfl
  | 4 => rfl
  | 5 => rfl
  | j + 6 => rfl
theorem l6_4 (a0 a1 a2 a3 a4 a5 x : Int32) : upd (l6 a0 a1 a2 a3 a4 a5) (4 : Int32).toNatClampNeg x = l6 a0 a1 a2 a3 x a5 := by
  funext j
  match j with
  | 0 => rfl
  | 1 => rfl
  | 2 => rfl
  | 3 => rfl
  | 4 => rfl
  | 5 => rfl
  | j + 6 => rfl
theorem l6_5 (a0 a1 a2 a3 a4 a5 x : Int32) : upd (l6 a0 a1 a2 a3 a4 a5) (5 : Int32).toNatClampNeg x = l6 a0 a1 a2 a3 a4 x := by
  funext j
  match j with
  | 0 => rfl
  | 1 => rfl
  | 2 => rfl
  | 3 => rfl
  | 4 => rfl
  | 5 => rfl
  | j + 6 => rfl
theorem ivn (k : Nat) (h : k < 2147483648) : (nI k).toInt = (k : Int) := nI_toInt h
theorem ivp (d : Nat) (h : d < 2147483648) : (nI d - 1).toInt = (d : Int) - 1 := by
  match d, h with
  | 0, _ => decide
  | n + 1, h => rw [npred (n + 1) (by omega), ivn _ (by omega)]; omega
theorem ilt {x y : Int32} {a b : Int} (hx : x.toInt = a) (hy : y.toInt = b) : x < y ↔ a < b := by rw [Int32.lt_iff_toInt_lt, hx, hy]
theorem ile {x y : Int32} {a b : Int} (hx : x.toInt = a) (hy : y.toInt = b) : x ≤ y ↔ a ≤ b := by rw [Int32.le_iff_toInt_le, hx, hy]
theorem ieq {x y : Int32} {a b : Int} (hx : x.toInt = a) (hy : y.toInt = b) : x = y ↔ a = b := by rw [← Int32.toInt_inj, hx, hy]
theorem inK {x : Int32} {z : Int64} (n : Nat) (h0 : (0 : Int64) ≤ x.toInt64) (h1 : x.toInt64 ≤ z) (hz : z.toInt < (n : Int)) : ∃ k : Nat, k < n ∧ x = nI k := by
  have h2 : 0 ≤ x.toInt := by
    have := Int64.le_iff_toInt_le.mp h0
    rw [Int32.toInt_toInt64] at this
    exact this
  have h3 : x.toInt ≤ z.toInt := by
    have := Int64.le_iff_toInt_le.mp h1
    rw [Int32.toInt_toInt64] at this
    exact this
  obtain ⟨k, hk, rfl⟩ := nof' x (by rw [Int32.le_iff_toInt_le]; exact h2)
  rw [ivn k hk] at h3
  exact ⟨k, by omega, rfl⟩
theorem lgv (k : Nat) (h : k < 2147483648) : (Int32.toInt64 (nI k)).toInt = (k : Int) := by rw [Int32.toInt_toInt64, ivn k h]
theorem lgp (d : Nat) (h : d < 2147483648) : (Int32.toInt64 (nI d - 1)).toInt = (d : Int) - 1 := by rw [Int32.toInt_toInt64, ivp d h]
theorem lg_ge {a b : Int64} (h : ¬ lg_cmp a b < 0) : b ≤ a := Int64.not_lt.mp (fun q => h ((lg_cmp_lt a b).mpr q))
theorem lg_le {a b : Int64} (h : ¬ 0 < lg_cmp a b) : a ≤ b := Int64.not_lt.mp (fun q => h ((lg_cmp_gt a b).mpr q))
section SkRowsM
variable {p : Program} {l : Launch} {e : Env} {R : Room} {s : State} {m : MethodId} {args : Array Value} {below : List Frame} {meth : Method} {c : Code} {H : Heap} {locs : List Loc} {cells slots : Nat} {Q : State → Prop}
variable {cc : ByteArray} {pc : Nat} {ls : Array Slot} {rest : List Value} {D : va_G} {tys : List (ClassId × FieldType)} {ws : va_W} {A : Nat → Prop} {H0 : Heap} {a : Nat}
theorem sk_zastO (hexec : p.tables.exec = Jvm.exec) (hb : c.code = cc) (hK : skK D tys s) (hP : va_P D vwCl ws H) (hD : va_D A ws) (hS : va_S A H0 H locs) (q0 t0 : Nat) {cA : ClassId} {n : Nat} {f : Nat → Int32} {ws' : (Nat → Int32) → va_W} (ha : ws[q0]? = some (a, .inl (cA, n, .inl f))) (ht : tys[t0]? = some (cA, .boolean)) {i x : Int32} (hin : vp_in i n) (hw' : ∀ f', ws.set q0 (a, .inl (cA, n, .inl f')) = ws' f') (hdg : decode cc pc = .ok (.bastore, 1))
    (kk : ∀ (f' : Nat → Int32) (H1 : Heap) (locs1 : List Loc), va_P D vwCl (ws' f') H1 → va_D A (ws' f') → va_S A H0 H1 locs1 → W p l e R s m args below meth c H1 locs1 cells slots Q (F0 m (pc + 1) ls rest)) : W p l e R s m args below meth c H locs cells slots Q (F0 m pc ls (.int x :: .int i :: .ref a :: rest)) :=
  va_zast hexec hb hK.1 hP hD hS q0 t0 ha ht hin hdg (fun H1 locs1 h1 h2 h3 => kk _ H1 locs1 ((hw' _) ▸ h1) ((hw' _) ▸ h2) h3)
theorem sk_iastT {ws' : va_W} {f f' : Nat → Int32} (hexec : p.tables.exec = Jvm.exec) (hb : c.code = cc) (hK : skK D tys s) (hP : va_P D vwCl ws H) (hD : va_D A ws) (hS : va_S A H0 H locs) (q0 t0 : Nat) {cA : ClassId} {n : Nat} (ha : ws[q0]? = some (a, .inl (cA, n, .inl f))) (ht : tys[t0]? = some (cA, .int)) {i x : Int32} (hin : vp_in i n) (hf : upd f i.toNatClampNeg x = f') (hw' : ws.set q0 (a, .inl (cA, n, .inl f')) = ws') (hdg : decode cc pc = .ok (.iastore, 1))
    (kk : ∀ (H1 : Heap) (locs1 : List Loc), va_P D vwCl ws' H1 → va_D A ws' → va_S A H0 H1 locs1 → W p l e R s m args below meth c H1 locs1 cells slots Q (F0 m (pc + 1) ls rest)) : W p l e R s m args below meth c H locs cells slots Q (F0 m pc ls (.int x :: .int i :: .ref a :: rest)) := by
  subst hf
  exact va_iast hexec hb hK.1 hP hD hS q0 t0 ha ht hin hdg (fun H1 locs1 h1 h2 h3 => kk H1 locs1 (hw' ▸ h1) (hw' ▸ h2) h3)
end SkRowsM
def nowOk (f : Nat → Int32) : Prop := (∃ k : Nat, k ≤ 9 ∧ f 1 = nI k) ∧ (∃ k : Nat, k ≤ 30 ∧ f 29 = nI k)
theorem nowOk_1 {f : Nat → Int32} (h : nowOk f) : ∃ k : Nat, k ≤ 9 ∧ f (1 : Int32).toNatClampNeg = nI k := h.1
theorem upd_at {f : Nat → Int32} {i : Nat} {x : Int32} : upd f i x i = x := by simp [upd]
theorem nclamp (k : Nat) (h : k < 2147483648) : (nI k).toNatClampNeg = k := by
  have h1 := ivn k h
  rw [Int32.toNatClampNeg, h1]; rfl
theorem bits_dec (x : Int32) (h : ¬ x = 0) : (x &&& (x - 1)).toBitVec.toNat < x.toBitVec.toNat := by
  have h0 : x.toBitVec ≠ 0#32 := fun q => h (Int32.toBitVec_inj.mp (by rw [q]; rfl))
  have e : (x &&& (x - 1)).toBitVec = x.toBitVec &&& (x.toBitVec - 1#32) := rfl
  rw [e]
  generalize x.toBitVec = b at h0 ⊢
  have h1 : (b &&& (b - 1#32)).toNat ≤ (b - 1#32).toNat := by rw [BitVec.toNat_and]; exact Nat.and_le_right
  have h2 : b.toNat ≠ 0 := fun q => h0 (BitVec.eq_of_toNat_eq (by rw [q]; rfl))
  have h3 : (b - 1#32).toNat = b.toNat - 1 := by
    have hb := b.isLt
    rw [BitVec.toNat_sub]
    have : (1#32 : BitVec 32).toNat = 1 := rfl
    rw [this]
    omega
  omega

