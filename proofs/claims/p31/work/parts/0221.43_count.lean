theorem wy_init (C : Nat → Nat → Nat → Bool) (a0 : Nat) {n : Nat} (h : 1 ≤ n) : wyAt C a0 n 0 0 := by
  rw [wyAt, if_neg (by omega)]; rfl
theorem wy_fin {C : Nat → Nat → Nat → Bool} {a0 n d jm : Nat} {x : Int64} (h : wyOk C a0 n d jm x) (hj : jm = 10) : wyAt C a0 n (d + 1) x := by
  subst hj
  exact wy_end h
theorem fx_1 {C : Nat → Nat → Nat → Bool} {a0 d m : Nat} (hd : d = 0) (h : C 0 a0 m = true) : fx C a0 d m 0 1 := Or.inl ⟨hd, by rw [bfo, if_pos h]; rfl⟩
theorem fx_2 {C : Nat → Nat → Nat → Bool} {a0 d m : Nat} (hd : d = 0) (h : C 0 a0 m = false) : fx C a0 d m 0 0 := Or.inl ⟨hd, by rw [bfo, if_neg (by rw [h]; decide)]; rfl⟩
theorem fx_3 {C : Nat → Nat → Nat → Bool} {a0 d m : Nat} (hd : ¬ d = 0) : fx C a0 d m 0 0 := Or.inr ⟨by omega, rfl⟩
theorem wyAt_n {C : Nat → Nat → Nat → Bool} {a0 n d : Nat} {x : Int64} (h : wyAt C a0 n d x) (hd : d = n) : x = nL (wys C a0 (n - 1)) := by
  rw [wyAt, if_pos hd] at h; exact h
theorem wk_next {C : Nat → Nat → Nat → Bool} {n d a m : Nat} {x v : Int64} (h : wk C n d a m x) (hn : n ≤ 9) (hv : v = nL (bk C (n - 1 - d) d m)) (hg : lg_cmp x v < 0) : d + 1 < n → wk C n (d + 1) m 0 x := fun hd => wk_found h hn hv hg hd
section SkRowsN
variable {p : Program} {l : Launch} {e : Env} {R : Room} {s : State} {m : MethodId} {args : Array Value} {below : List Frame} {meth : Method} {c : Code} {H : Heap} {locs : List Loc} {cells slots : Nat} {Q : State → Prop}
variable {cc : ByteArray} {pc : Nat} {ls : Array Slot} {rest : List Value} {D : va_G} {tys : List (ClassId × FieldType)} {ws : va_W} {A : Nat → Prop} {H0 : Heap} {a : Nat}
theorem sk_lastP {Pr : (Nat → Int64) → Prop} (hexec : p.tables.exec = Jvm.exec) (hb : c.code = cc) (hK : skK D tys s) (hP : va_P D vwCl ws H) (hD : va_D A ws) (hS : va_S A H0 H locs) (q0 t0 : Nat) {cA : ClassId} {n : Nat} {f : Nat → Int64} {ws' : (Nat → Int64) → va_W} (ha : ws[q0]? = some (a, .inl (cA, n, .inr (.inl f)))) (ht : tys[t0]? = some (cA, .long)) {i : Int32} {x : Int64} (hin : vp_in i n) (hw' : ∀ f', ws.set q0 (a, .inl (cA, n, .inr (.inl f'))) = ws' f') (hup : Pr (vp_updL f i.toNatClampNeg x)) (hdg : decode cc pc = .ok (.lastore, 1))
    (kk : ∀ (f' : Nat → Int64) (H1 : Heap) (locs1 : List Loc), Pr f' → va_P D vwCl (ws' f') H1 → va_D A (ws' f') → va_S A H0 H1 locs1 → W p l e R s m args below meth c H1 locs1 cells slots Q (F0 m (pc + 1) ls rest)) : W p l e R s m args below meth c H locs cells slots Q (F0 m pc ls (.long x :: .int i :: .ref a :: rest)) :=
  va_last hexec hb hK.1 hP hD hS q0 t0 ha ht hin hdg (fun H1 locs1 h1 h2 h3 => kk _ H1 locs1 hup ((hw' _) ▸ h1) ((hw' _) ▸ h2) h3)
end SkRowsN
def mtN (nw : Nat → Int32) (mt : Int32) (d : Nat) : Bool := decide (nw (nI (2 + 3 * d + 2)).toNatClampNeg = 1) || decide ((mt >>> (nI d &&& 31)) &&& 1 = 1)
theorem mt_1 {nw : Nat → Int32} {mt : Int32} {d : Nat} (h : nw (nI (2 + 3 * d + 2)).toNatClampNeg = 1) : mtN nw mt d = true := by simp [mtN, h]
theorem mt_2 {nw : Nat → Int32} {mt : Int32} {d : Nat} (h : (mt >>> (nI d &&& 31)) &&& 1 = 1) : mtN nw mt d = true := by simp [mtN, h]
theorem mt_0 {nw : Nat → Int32} {mt : Int32} {d : Nat} (h1 : ¬ nw (nI (2 + 3 * d + 2)).toNatClampNeg = 1) (h2 : ¬ (mt >>> (nI d &&& 31)) &&& 1 = 1) : mtN nw mt d = false := by simp [mtN, h1, h2]
def cfN (nw yw yo : Nat → Int32) (mt : Int32) (d a m : Nat) : Bool := if mtN nw mt d then !(decide (yo (nI (100 * d + 10 * a + m)).toNatClampNeg = 0)) else !(decide (yw (nI (100 * d + 10 * a + m)).toNatClampNeg = 0))
theorem cf_mt {nw yw yo : Nat → Int32} {mt v : Int32} {d a m : Nat} (h : mtN nw mt d = true) (hv : v = yo (nI (100 * d + 10 * a + m)).toNatClampNeg) (hc : ¬ v = 0) : cfN nw yw yo mt d a m = true := by
  subst hv; simp [cfN, h, hc]
theorem cf_mf {nw yw yo : Nat → Int32} {mt v : Int32} {d a m : Nat} (h : mtN nw mt d = true) (hv : v = yo (nI (100 * d + 10 * a + m)).toNatClampNeg) (hc : v = 0) : cfN nw yw yo mt d a m = false := by
  subst hv; simp [cfN, h, hc]
theorem cf_wt {nw yw yo : Nat → Int32} {mt v : Int32} {d a m : Nat} (h : mtN nw mt d = false) (hv : v = yw (nI (100 * d + 10 * a + m)).toNatClampNeg) (hc : ¬ v = 0) : cfN nw yw yo mt d a m = true := by
  subst hv; simp [cfN, h, hc]
theorem cf_wf {nw yw yo : Nat → Int32} {mt v : Int32} {d a m : Nat} (h : mtN nw mt d = false) (hv : v = yw (nI (100 * d + 10 * a + m)).toNatClampNeg) (hc : v = 0) : cfN nw yw yo mt d a m = false := by
  subst hv; simp [cfN, h, hc]
theorem or_0 {b : Nat} {p q : Prop} (h : (b = 0 ∧ p) ∨ (b = 1 ∧ q)) (hb : b = 0) : p := (h.resolve_right (fun r => absurd r.1 (by omega))).2
theorem or_1 {b : Nat} {p q : Prop} (h : (b = 0 ∧ p) ∨ (b = 1 ∧ q)) (hb : ¬ b = 0) : q := (h.resolve_left (fun r => absurd r.1 hb)).2
def a0N (nw : Nat → Int32) : Nat := (nw 1).toNatClampNeg
theorem a0_eq {nw : Nat → Int32} {k : Nat} (h : nw (1 : Int32).toNatClampNeg = nI k) (hk : k ≤ 9) : k = a0N nw := by
  have h1 : nw 1 = nI k := h
  rw [a0N, h1, nclamp k (by omega)]
theorem nP10 (d ap : Nat) (h : 10 ≤ 100 * d + 10 * ap) : nI (100 * d) + 10 * (nI ap - 1) = nI (100 * d + 10 * ap - 10) := by
  have e : nI (100 * d) + 10 * (nI ap - 1) = nI (100 * d) + 10 * nI ap - 10 := by
    rw [Int32.mul_sub, Int32.sub_eq_add_neg, ← Int32.add_assoc, ← Int32.sub_eq_add_neg, show (10 : Int32) * 1 = 10 by decide]
  rw [e, show (10 : Int32) = nI 10 from rfl, nmul, nI_add, nsub _ _ h]
theorem be_z {C : Nat → Nat → Nat → Bool} {n dd : Nat} {f : Nat → Int64} (h : beOk C n dd f) (hd : dd = 0) : beOk C n 0 f := by
  subst hd
  exact h

