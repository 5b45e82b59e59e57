/-! rows: what was put, kept -/
section KxRows
variable {p : Program} {l : Launch} {e : Env} {R : Room} {s : State} {m : MethodId} {args : Array Value} {below : List Frame} {meth : Method} {c : Code} {H : Heap} {locs : List Loc} {cells slots : Nat} {Q : State → Prop}
variable {cc : ByteArray} {pc : Nat} {ls : Array Slot} {rest : List Value} {D : va_G} {tys : List (ClassId × FieldType)} {ws : va_W} {A : Nat → Prop} {H0 : Heap} {a : Nat}
theorem sk_iastE (hexec : p.tables.exec = Jvm.exec) (hb : c.code = cc) (hK : skK D tys s) (hP : va_P D vwCl ws H) (hD : va_D A ws) (hS : va_S A H0 H locs) (q0 t0 : Nat) {cA : ClassId} {n : Nat} {f : Nat → Int32} {ws' : (Nat → Int32) → va_W} (ha : ws[q0]? = some (a, .inl (cA, n, .inl f))) (ht : tys[t0]? = some (cA, .int)) {k : Nat} {x : Int32} (hk : k < n) (hn : n < 2147483648) (hw' : ∀ f', ws.set q0 (a, .inl (cA, n, .inl f')) = ws' f') (hdg : decode cc pc = .ok (.iastore, 1))
    (kk : ∀ (f' : Nat → Int32) (H1 : Heap) (locs1 : List Loc), f' = upd f k x → va_P D vwCl (ws' f') H1 → va_D A (ws' f') → va_S A H0 H1 locs1 → W p l e R s m args below meth c H1 locs1 cells slots Q (F0 m (pc + 1) ls rest)) : W p l e R s m args below meth c H locs cells slots Q (F0 m pc ls (.int x :: .int (nI k) :: .ref a :: rest)) :=
  va_iast hexec hb hK.1 hP hD hS q0 t0 ha ht (vin k n hk hn) hdg (fun H1 locs1 h1 h2 h3 => kk _ H1 locs1 (by rw [nI_clamp (by omega)]) ((hw' _) ▸ h1) ((hw' _) ▸ h2) h3)
theorem sk_lastE (hexec : p.tables.exec = Jvm.exec) (hb : c.code = cc) (hK : skK D tys s) (hP : va_P D vwCl ws H) (hD : va_D A ws) (hS : va_S A H0 H locs) (q0 t0 : Nat) {cA : ClassId} {n : Nat} {f : Nat → Int64} {ws' : (Nat → Int64) → va_W} (ha : ws[q0]? = some (a, .inl (cA, n, .inr (.inl f)))) (ht : tys[t0]? = some (cA, .long)) {k : Nat} {x : Int64} (hk : k < n) (hn : n < 2147483648) (hw' : ∀ f', ws.set q0 (a, .inl (cA, n, .inr (.inl f'))) = ws' f') (hdg : decode cc pc = .ok (.lastore, 1))
    (kk : ∀ (f' : Nat → Int64) (H1 : Heap) (locs1 : List Loc), f' = vp_updL f k x → va_P D vwCl (ws' f') H1 → va_D A (ws' f') → va_S A H0 H1 locs1 → W p l e R s m args below meth c H1 locs1 cells slots Q (F0 m (pc + 1) ls rest)) : W p l e R s m args below meth c H locs cells slots Q (F0 m pc ls (.long x :: .int (nI k) :: .ref a :: rest)) :=
  va_last hexec hb hK.1 hP hD hS q0 t0 ha ht (vin k n hk hn) hdg (fun H1 locs1 h1 h2 h3 => kk _ H1 locs1 (by rw [nI_clamp (by omega)]) ((hw' _) ▸ h1) ((hw' _) ▸ h2) h3)
theorem sk_iastNE (hexec : p.tables.exec = Jvm.exec) (hb : c.code = cc) (hK : skK D tys s) (hP : va_P D vwCl ws H) (hD : va_D A ws) (hS : va_S A H0 H locs) (q0 t0 : Nat) {cA : ClassId} {n B : Nat} {f : Nat → Nat} {ws' : (Nat → Nat) → va_W} (ha : ws[q0]? = some (a, .inl (cA, n, .inl (fun j => nI (f j))))) (ht : tys[t0]? = some (cA, .int)) {k v : Nat} (hk : k < n) (hn : n < 2147483648) (hf : ∀ j, f j ≤ B) (hv : v ≤ B) (hw' : ∀ f', ws.set q0 (a, .inl (cA, n, .inl (fun j => nI (f' j)))) = ws' f') (hdg : decode cc pc = .ok (.iastore, 1))
    (kk : ∀ (f' : Nat → Nat) (H1 : Heap) (locs1 : List Loc), (∀ j, f' j ≤ B) → f' = updN f k v → va_P D vwCl (ws' f') H1 → va_D A (ws' f') → va_S A H0 H1 locs1 → W p l e R s m args below meth c H1 locs1 cells slots Q (F0 m (pc + 1) ls rest)) : W p l e R s m args below meth c H locs cells slots Q (F0 m pc ls (.int (nI v) :: .int (nI k) :: .ref a :: rest)) := by
  refine va_iast hexec hb hK.1 hP hD hS q0 t0 ha ht (vin k n hk hn) hdg (fun H1 locs1 h1 h2 h3 => ?_)
  rw [updN_fun f k v (by omega)] at h1 h2
  exact kk _ H1 locs1 (updN_le hf hv) rfl ((hw' _) ▸ h1) ((hw' _) ▸ h2) h3
end KxRows
theorem npos_le {k : Nat} (h : 1 ≤ k) (hk : k < 2147483648) : ¬ nI k ≤ 0 := fun q => by
  have h1 := (nle k 0 hk (by decide)).mp q
  omega
theorem kx_i2l {k : Nat} (h : k < 2147483648) : Int32.toInt64 (nI k) = Int64.ofNat k := by
  refine Int64.toInt_inj.mp ?_
  rw [Int32.toInt_toInt64, nI_toInt h, Int64.toInt_ofNat_of_lt (by omega)]
/-! bounds, parts, places: as the class does them -/
theorem kclip_a {x : Int64} (h : ¬ lg_cmp x 1000000 ≤ 0) : (1000000 : Int64) = kcClip x := by
  rw [lg_cmp_le] at h
  unfold kcClip
  rw [if_pos (Int64.not_le.mp h)]
theorem kclip_b {x : Int64} (h : lg_cmp x 1000000 ≤ 0) (h2 : ¬ 0 ≤ lg_cmp x (-1000000)) : (-1000000 : Int64) = kcClip x := by
  rw [lg_cmp_le] at h
  rw [lg_cmp_ge] at h2
  unfold kcClip
  rw [if_neg (Int64.not_lt.mpr h), if_pos (Int64.not_le.mp h2)]
theorem kclip_c {x : Int64} (h : lg_cmp x 1000000 ≤ 0) (h2 : 0 ≤ lg_cmp x (-1000000)) : x = kcClip x := by
  rw [lg_cmp_le] at h
  rw [lg_cmp_ge] at h2
  unfold kcClip
  rw [if_neg (Int64.not_lt.mpr h), if_neg (Int64.not_lt.mpr h2)]
theorem kx_xor (x y : Int64) : (0 ≤ lg_cmp (x ^^^ y) 0) ↔ (x < 0 ↔ y < 0) := by
  rw [lg_cmp_ge, Int64.le_iff_toInt_le, Int64.lt_iff_toInt_lt, Int64.lt_iff_toInt_lt]
  show (0 : Int) ≤ (x ^^^ y).toBitVec.toInt ↔ (x.toBitVec.toInt < 0 ↔ y.toBitVec.toInt < 0)
  rw [Int64.toBitVec_xor]
  have a := BitVec.msb_eq_toInt (x := x.toBitVec ^^^ y.toBitVec)
  have b := BitVec.msb_eq_toInt (x := x.toBitVec)
  have d := BitVec.msb_eq_toInt (x := y.toBitVec)
  rw [BitVec.msb_xor, b, d] at a
  by_cases h1 : x.toBitVec.toInt < 0
  · by_cases h2 : y.toBitVec.toInt < 0
    · rw [decide_eq_true h1, decide_eq_true h2] at a
      have h3 := of_decide_eq_false a.symm
      exact ⟨fun _ => ⟨fun _ => h2, fun _ => h1⟩, fun _ => by omega⟩
    · rw [decide_eq_true h1, decide_eq_false h2] at a
      have h3 := of_decide_eq_true a.symm
      exact ⟨fun q => absurd q (by omega), fun q => absurd (q.mp h1) h2⟩
  · by_cases h2 : y.toBitVec.toInt < 0
    · rw [decide_eq_false h1, decide_eq_true h2] at a
      have h3 := of_decide_eq_true a.symm
      exact ⟨fun q => absurd q (by omega), fun q => absurd (q.mpr h2) h1⟩
    · rw [decide_eq_false h1, decide_eq_false h2] at a
      have h3 := of_decide_eq_false a.symm
      exact ⟨fun _ => ⟨fun q => absurd q h1, fun q => absurd q h2⟩, fun _ => by omega⟩
theorem kx_sub0 (x z : Int64) : x - z = 0 ↔ z = x := by
  constructor
  · intro h
    have h1 : x - z + z = 0 + z := by rw [h]
    rw [Int64.sub_add_cancel, Int64.zero_add] at h1
    exact h1.symm
  · intro h
    rw [h, Int64.sub_self]
theorem kfl_0 {x y : Int64} (hy : y = 0) : (0 : Int64) = kcFl x y := by
  unfold kcFl; rw [if_pos hy]
theorem kfl_a {x y : Int64} (hy : ¬ y = 0) (h : ¬ 0 ≤ lg_cmp (x ^^^ y) 0) (h2 : ¬ lg_cmp (x / y * y) x = 0) : x / y - 1 = kcFl x y := by
  unfold kcFl
  rw [if_neg hy, if_pos ⟨fun q => h2 ((lg_cmp_eq _ _).mpr ((kx_sub0 _ _).mp q)), fun q => h ((kx_xor x y).mpr q)⟩]
theorem kfl_b {x y : Int64} (hy : ¬ y = 0) (h : 0 ≤ lg_cmp (x ^^^ y) 0) : x / y = kcFl x y := by
  unfold kcFl
  rw [if_neg hy, if_neg (fun q => q.2 ((kx_xor x y).mp h))]
theorem kfl_c {x y : Int64} (hy : ¬ y = 0) (h2 : lg_cmp (x / y * y) x = 0) : x / y = kcFl x y := by
  unfold kcFl
  rw [if_neg hy, if_neg (fun q => q.1 ((kx_sub0 _ _).mpr ((lg_cmp_eq _ _).mp h2)))]
/-- by ten -/
def kcTen (v : Int64) : Nat := (v.toInt % 10).toNat
theorem kcTen_lt (v : Int64) : kcTen v < 10 := by
  unfold kcTen; omega
theorem kten_a {x v : Int64} (hv : v = x - x / 10 * 10) (h : 0 ≤ lg_cmp (x ^^^ 10) 0) : v.toInt = ((kcTen x : Nat) : Int) := by
  have h1 := (lxor10 x).mp h
  rw [hv, lrem10]
  unfold kcTen
  rw [Int.tmod_eq_emod_of_nonneg h1]
  omega
theorem kten_b {x v : Int64} (hv : v = x - x / 10 * 10) (hn : lg_cmp v 0 = 0) : v.toInt = ((kcTen x : Nat) : Int) := by
  have h1 := (lg_cmp_eq _ _).mp hn
  have h2 : v.toInt = 0 := by rw [h1]; rfl
  have h3 : x.toInt.tmod 10 = 0 := by rw [← lrem10, ← hv]; exact h2
  have h4 := Int.dvd_of_tmod_eq_zero h3
  rw [h2]
  unfold kcTen
  omega
theorem kten_c {x v r : Int64} (hv : v = x - x / 10 * 10) (h : ¬ 0 ≤ lg_cmp (x ^^^ 10) 0) (hn : ¬ lg_cmp v 0 = 0) (hr : r = v + 10) : r.toInt = ((kcTen x : Nat) : Int) := by
  obtain ⟨h1, h2⟩ := fmt10b hv h
  have e10 : (10 : Int64).toInt = 10 := rfl
  have h3 : ¬ v.toInt = 0 := fun q => hn ((lg_cmp_eq _ _).mpr (Int64.toInt_inj.mp q))
  have h4 : v.toInt = x.toInt.tmod 10 := by rw [hv, lrem10]
  have h5 := Int.mul_tdiv_add_tmod x.toInt 10
  rw [hr, Jvm.Kit.i64_add (by rw [e10]; omega) (by rw [e10]; omega), e10]
  unfold kcTen
  omega
theorem kten_i {a : Int64} {k : Nat} (h : a.toInt = (k : Int)) (hk : k < 2147483648) : a.toInt32 = nI k := by
  refine Int32.toInt_inj.mp ?_
  rw [nI_toInt hk, Int64.toInt_toInt32, h]
  rw [Int.bmod_eq_of_le (by omega) (by omega)]
theorem kop_c {c k : Nat} (h : nI (29999 + c) = nI k) (hc : c ≤ 6) (hk : k < 2147483648) : 29999 + c = k := (neq _ _ (by omega) hk).mp h
theorem kop_f {c : Nat} (h1 : 1 ≤ c) (h6 : c ≤ 6) (g0 : ¬ nI (29999 + c) = 30000) (g1 : ¬ nI (29999 + c) = 30001) (g2 : ¬ nI (29999 + c) = 30002) (g3 : ¬ nI (29999 + c) = 30003) (g4 : ¬ nI (29999 + c) = 30004) (g5 : ¬ nI (29999 + c) = 30005) : False := by
  rcases (show c = 1 ∨ c = 2 ∨ c = 3 ∨ c = 4 ∨ c = 5 ∨ c = 6 by omega) with rfl | rfl | rfl | rfl | rfl | rfl
  · exact g0 rfl
  · exact g1 rfl
  · exact g2 rfl
  · exact g3 rfl
  · exact g4 rfl
  · exact g5 rfl
theorem kop_1 {c : Nat} {x y : Int64} (h : nI (29999 + c) = 30000) (hc : c ≤ 6) : kcClip (x + y) = kcOp c x y := by
  have := kop_c (k := 30000) h hc (by decide)
  obtain rfl : c = 1 := by omega
  unfold kcOp
  rw [if_pos rfl]
theorem kop_2 {c : Nat} {x y : Int64} (h : nI (29999 + c) = 30001) (hc : c ≤ 6) : kcClip (x - y) = kcOp c x y := by
  have := kop_c (k := 30001) h hc (by decide)
  obtain rfl : c = 2 := by omega
  unfold kcOp
  rw [if_neg (by decide), if_pos rfl]
theorem kop_3 {c : Nat} {x y : Int64} (h : nI (29999 + c) = 30002) (hc : c ≤ 6) : kcClip (x * y) = kcOp c x y := by
  have := kop_c (k := 30002) h hc (by decide)
  obtain rfl : c = 3 := by omega
  unfold kcOp
  rw [if_neg (by decide), if_neg (by decide), if_pos rfl]
theorem kop_4 {c : Nat} {x y z : Int64} (h : nI (29999 + c) = 30003) (hc : c ≤ 6) (hz : z = kcFl x y) : z = kcOp c x y := by
  have := kop_c (k := 30003) h hc (by decide)
  obtain rfl : c = 4 := by omega
  exact hz
theorem kop_5 {c : Nat} {x y : Int64} (h : nI (29999 + c) = 30004) (hc : c ≤ 6) : (if y < x then y else x) = kcOp c x y := by
  have := kop_c (k := 30004) h hc (by decide)
  obtain rfl : c = 5 := by omega
  rfl
theorem kmax_c (x y : Int64) : (if y < x then x else y) = if x < y then y else x := by
  by_cases h1 : y < x
  · rw [if_pos h1, if_neg (fun q => Int64.lt_irrefl (Int64.lt_trans h1 q))]
  · by_cases h2 : x < y
    · rw [if_neg h1, if_pos h2]
    · rw [if_neg h1, if_neg h2]
      exact Int64.le_antisymm (Int64.not_lt.mp h2) (Int64.not_lt.mp h1)
theorem kop_6 {c : Nat} {x y : Int64} (h : nI (29999 + c) = 30005) (hc : c ≤ 6) : (if y < x then x else y) = kcOp c x y := by
  have := kop_c (k := 30005) h hc (by decide)
  obtain rfl : c = 6 := by omega
  rw [kmax_c]
  rfl
theorem kop_x {c k : Nat} {P : Prop} (h : nI (29999 + c) = nI k) (hc : c ≤ 6) (hk : k < 2147483648) (h2 : 30006 ≤ k) : P := by
  have := kop_c h hc hk
  exact absurd h2 (by omega)
/-! the pile -/
def stkO (f : Nat → Int64) : List Int64 → Prop
  | [] => True
  | v :: S => f S.length = v ∧ stkO f S
theorem stkO_up {f : Nat → Int64} {k : Nat} {x : Int64} : ∀ S : List Int64, S.length ≤ k → stkO f S → stkO (vp_updL f k x) S
  | [], _, _ => True.intro
  | v :: S, hk, h => by
    rw [List.length_cons] at hk
    refine ⟨?_, stkO_up S (by omega) h.2⟩
    unfold vp_updL
    rw [if_neg (by omega)]
    exact h.1
theorem stk_push {f g : Nat → Int64} {S : List Int64} {k : Nat} {x y : Int64} (h : stkO f S) (hk : k = S.length) (hg : g = vp_updL f k x) (hx : x = y) : stkO g (y :: S) := by
  subst hg hx hk
  refine ⟨?_, stkO_up S (Nat.le_refl _) h⟩
  unfold vp_updL
  rw [if_pos rfl]
theorem stk_op {f g : Nat → Int64} {R : List Int64} {k : Nat} {a b x : Int64} (h : stkO f (b :: a :: R)) (hk : k = R.length) (hg : g = vp_updL f k x) : stkO g (x :: R) := stk_push h.2.2 hk hg rfl
theorem stk_b {f : Nat → Int64} {R : List Int64} {a b : Int64} {k : Nat} (h : stkO f (b :: a :: R)) (hk : k = R.length + 1) (h2 : k < 2147483648) : f (nI k).toNatClampNeg = b := by
  rw [nI_clamp h2, hk]; exact h.1
theorem stk_a {f : Nat → Int64} {R : List Int64} {a b : Int64} {k : Nat} (h : stkO f (b :: a :: R)) (hk : k = R.length) (h2 : k < 2147483648) : f (nI k).toNatClampNeg = a := by
  rw [nI_clamp h2, hk]; exact h.2.1
theorem kcSub_c {K : List Nat} {i b : Nat} (h : i < b) (hb : b ≤ K.length) : kcSub K (i, b) = K.getD i 0 :: kcSub K (i + 1, b) := by
  unfold kcSub
  show (K.drop i).take (b - i) = K.getD i 0 :: (K.drop (i + 1)).take (b - (i + 1))
  rw [List.drop_eq_getElem_cons (by omega), show b - i = (b - (i + 1)) + 1 by omega, List.take_succ_cons, List.getD_eq_getElem?_getD, List.getElem?_eq_getElem (show i < K.length by omega)]
  rfl
theorem kcSub_e {K : List Nat} {i b : Nat} (h : b ≤ i) : kcSub K (i, b) = [] := by
  unfold kcSub
  show (K.drop i).take (b - i) = []
  rw [show b - i = 0 by omega, List.take_zero]
/-- which kind of step it is -/
theorem kx_cls {kind c : Nat} (hk : kind < 2) (h : kcN1 kind c) : (1 ≤ c ∧ c ≤ 6 ∧ cm c = nI (29999 + c)) ∨ (1000 ≤ c ∧ c < 11000 ∧ cm c = nI (c - 1000)) ∨ (40 ≤ c ∧ c < 47 ∧ cm c = nI (9960 + c)) := by
  unfold cm
  rcases h with ⟨h1, h2⟩ | ⟨h1, h2⟩ | ⟨h1, h2, h3⟩
  · exact Or.inl ⟨h1, h2, by rw [if_neg (by omega), if_pos (by omega)]⟩
  · exact Or.inr (Or.inl ⟨h1, h2, by rw [if_pos h1]⟩)
  · have h4 : c < 47 := by
      unfold allow at h3
      rcases (show kind = 0 ∨ kind = 1 by omega) with rfl | rfl
      · rw [if_pos rfl, decide_eq_true_iff] at h3; omega
      · rw [if_neg (by decide), if_pos rfl, decide_eq_true_iff] at h3; omega
    exact Or.inr (Or.inr ⟨h1, h4, by rw [if_neg (by omega), if_neg (by omega), if_neg (by omega), if_neg (by omega), if_neg (by omega), if_neg (by omega), if_neg (by omega), if_neg (by omega)]⟩)
theorem kx_neg {k : Nat} (h : k < 10000) : nI k - 10000 < 0 := by
  rw [Int32.lt_iff_toInt_lt]
  have e : (10000 : Int32).toInt = 10000 := rfl
  have e0 : (0 : Int32).toInt = 0 := rfl
  rw [Jvm.Kit.i32_sub (by rw [nI_toInt (by omega), e]; omega) (by rw [nI_toInt (by omega), e]; omega), nI_toInt (by omega), e, e0]
  omega
theorem kx_end {nm : Nat → Int64} {K : List Nat} {i b : Nat} {S : List Int64} {v : Int64} (h : kcEx nm 64 (kcSub K (i, b)) S = some [v]) (hi : b ≤ i) : S = [v] := by
  rw [kcSub_e hi] at h
  exact Option.some.inj (show some S = some [v] from h)
set_option maxHeartbeats 4000000 in
set_option maxRecDepth 100000 in
theorem c_kbounded (l : Launch) (D : va_G) (cI cJ cC cZ cS : ClassId) (x : Int64)  : skM l yX0_bounded cX0_bounded 2 (some .long) 0 0 0 0 D (skT cI cJ cC cZ cS) [.long x] [] (skL D (skT cI cJ cC cZ cS) (fun (r : Int64) (u : va_W) => r = kcClip x ∧ u = [])) := by
  refine skM_of pf_X0_bounded (Nat.le_of_ble_eq_true rfl) ?_
  intro p e s m below meth c A ls E hP hD hl
  refine skE_el E (fun hx hb hr hml hlocks hin hown hts hK hA => ?_)
  have hown : s.vm.findClass RX0 = some m.cls := hown
  have hS : va_S A s.heap s.heap [] := va_S.rf
  have hl : lv_has ls 2 [(0, .long x)] := hl
  refine lv_lload_n hx hb dX0_bounded_0 rfl (lv_at hl 0 rfl) ?_
  refine lv_ldc2 (v := 1000000) hx hb hown (hts _ w_3_231) dX0_bounded_1 ?_
  refine W.lcmp hx hb dX0_bounded_4 ?_
  refine lv_if_le (tgt := 12) hx hb dX0_bounded_5 (by decide) (fun c_1 => ?_) (fun c_1 => ?_)
  · skip
    refine lv_lload_n hx hb dX0_bounded_12 rfl (lv_at hl 0 rfl) ?_
    refine lv_ldc2 (v := (-1000000)) hx hb hown (hts _ w_3_232) dX0_bounded_13 ?_
    refine W.lcmp hx hb dX0_bounded_16 ?_
    refine lv_if_ge (tgt := 26) hx hb dX0_bounded_17 (by decide) (fun c_2 => ?_) (fun c_2 => ?_)
    · skip
      refine lv_lload_n hx hb dX0_bounded_26 rfl (lv_at hl 0 rfl) ?_
      exact sk_lret hx hb hr hlocks hK hP hD hS (⟨kclip_c c_1 c_2, rfl⟩) (Nat.le_of_ble_eq_true rfl) (Nat.le_of_ble_eq_true rfl) dX0_bounded_27
    · skip
      refine lv_ldc2 (v := (-1000000)) hx hb hown (hts _ w_3_232) dX0_bounded_20 ?_
      refine lv_goto (tgt := 27) hx hb dX0_bounded_23 (by decide) ?_
      exact sk_lret hx hb hr hlocks hK hP hD hS (⟨kclip_b c_1 c_2, rfl⟩) (Nat.le_of_ble_eq_true rfl) (Nat.le_of_ble_eq_true rfl) dX0_bounded_27
  · skip
    refine lv_ldc2 (v := 1000000) hx hb hown (hts _ w_3_231) dX0_bounded_8 ?_
    exact sk_lret hx hb hr hlocks hK hP hD hS (⟨kclip_a c_1, rfl⟩) (Nat.le_of_ble_eq_true rfl) (Nat.le_of_ble_eq_true rfl) dX0_bounded_11
set_option maxHeartbeats 4000000 in
set_option maxRecDepth 100000 in
theorem c_kfloorDiv (l : Launch) (D : va_G) (cI cJ cC cZ cS : ClassId) (x : Int64) (y : Int64) (hy : ¬ y = 0) : skM l yJ9_floorDiv_f86c9 cJ9_floorDiv_f86c9 6 (some .long) 0 0 0 0 D (skT cI cJ cC cZ cS) [.long x, .long y] [] (skL D (skT cI cJ cC cZ cS) (fun (r : Int64) (u : va_W) => r = kcFl x y ∧ u = [])) := by
  refine skM_of pf_J9_floorDiv_f86c9 (Nat.le_of_ble_eq_true rfl) ?_
  intro p e s m below meth c A ls E hP hD hl
  refine skE_el E (fun hx hb hr hml hlocks hin hown hts hK hA => ?_)
  have hown : s.vm.findClass RJ9 = some m.cls := hown
  have hS : va_S A s.heap s.heap [] := va_S.rf
  have hl : lv_has ls 6 [(0, .long x), (2, .long y)] := hl
  refine lv_lload_n hx hb dJ9_floorDiv_f86c9_0 rfl (lv_at hl 0 rfl) ?_
  refine lv_lload_n hx hb dJ9_floorDiv_f86c9_1 rfl (lv_at hl 1 rfl) ?_
  refine lv_ldiv hx hb dJ9_floorDiv_f86c9_2 hy ?_
  refine lv_lstore (lv' := [(4, .long (x / y)), (0, .long x), (2, .long y)]) hx hb dJ9_floorDiv_f86c9_3 hl (by decide) rfl (fun ls hl => ?_)
  refine lv_lload_n hx hb dJ9_floorDiv_f86c9_5 rfl (lv_at hl 1 rfl) ?_
  refine lv_lload_n hx hb dJ9_floorDiv_f86c9_6 rfl (lv_at hl 2 rfl) ?_
  refine lv_lxor hx hb dJ9_floorDiv_f86c9_7 ?_
  refine lv_lconst (v := 0) hx hb dJ9_floorDiv_f86c9_8 (by decide) ?_
  refine W.lcmp hx hb dJ9_floorDiv_f86c9_9 ?_
  refine lv_if_ge (tgt := 27) hx hb dJ9_floorDiv_f86c9_10 (by decide) (fun c_1 => ?_) (fun c_1 => ?_)
  · skip
    refine lv_lload hx hb dJ9_floorDiv_f86c9_27 (lv_at hl 0 rfl) ?_
    exact sk_lret hx hb hr hlocks hK hP hD hS (⟨kfl_b hy c_1, rfl⟩) (Nat.le_of_ble_eq_true rfl) (Nat.le_of_ble_eq_true rfl) dJ9_floorDiv_f86c9_29
  · skip
    refine lv_lload hx hb dJ9_floorDiv_f86c9_13 (lv_at hl 0 rfl) ?_
    refine lv_lload_n hx hb dJ9_floorDiv_f86c9_15 rfl (lv_at hl 2 rfl) ?_
    refine lv_lmul hx hb dJ9_floorDiv_f86c9_16 ?_
    refine lv_lload_n hx hb dJ9_floorDiv_f86c9_17 rfl (lv_at hl 1 rfl) ?_
    refine W.lcmp hx hb dJ9_floorDiv_f86c9_18 ?_
    refine lv_if_eq (tgt := 27) hx hb dJ9_floorDiv_f86c9_19 (by decide) (fun c_2 => ?_) (fun c_2 => ?_)
    · skip
      refine lv_lload hx hb dJ9_floorDiv_f86c9_27 (lv_at hl 0 rfl) ?_
      exact sk_lret hx hb hr hlocks hK hP hD hS (⟨kfl_c hy c_2, rfl⟩) (Nat.le_of_ble_eq_true rfl) (Nat.le_of_ble_eq_true rfl) dJ9_floorDiv_f86c9_29
    · skip
      refine lv_lload hx hb dJ9_floorDiv_f86c9_22 (lv_at hl 0 rfl) ?_
      refine lv_lconst (v := 1) hx hb dJ9_floorDiv_f86c9_24 (by decide) ?_
      refine lv_lsub hx hb dJ9_floorDiv_f86c9_25 ?_
      exact sk_lret hx hb hr hlocks hK hP hD hS (⟨kfl_a hy c_1 c_2, rfl⟩) (Nat.le_of_ble_eq_true rfl) (Nat.le_of_ble_eq_true rfl) dJ9_floorDiv_f86c9_26
