/-! rows: what was put, kept -/
section KxRows
variable {p : Program} {l : Launch} {e : Env} {R : Room} {s : State} {m : MethodId} {args : Array Value} {below : List Frame} {meth : Method} {c : Code} {H : Heap} {locs : List Loc} {cells slots : Nat} {Q : State → Prop}
variable {cc : ByteArray} {pc : Nat} {ls : Array Slot} {rest : List Value} {D : va_G} {tys : List (ClassId × FieldType)} {ws : va_W} {A : Nat → Prop} {H0 : Heap} {a : Nat}
theorem sk_iastE (hexec : p.tables.exec = Jvm.exec) (hb : c.code = cc) (hK : skK D tys s) (hP : va_P D vwCl ws H) (hD : va_D A ws) (hS : va_S A H0 H locs) (q0 t0 : Nat) {cA : ClassId} {n : Nat} {f : Nat → Int32} {ws' : (Nat → Int32) → va_W} (ha : ws[q0]? = some (a, .inl (cA, n, .inl f))) (ht : tys[t0]? = some (cA, .int)) {k : Nat} {x : Int32} (hk : k < n) (hn : n < 2147483648) (hw' : ∀ f', ws.set q0 (a, .inl (cA, n, .inl f')) = ws' f') (hdg : decode cc pc = .ok (.iastore, 1))
    (kk : ∀ (f' : Nat → Int32) (H1 : Heap) (locs1 : List Loc), f' = upd f k x → va_P D vwCl (ws' f') H1 → va_D A (ws' f') → va_S A H0 H1 locs1 → W p l e R s m args below meth c H1 locs1 cells slots Q (F0 m (pc + 1) ls rest)) : W p l e R s m args below meth c H locs cells slots Q (F0 m pc ls (.int x :: .int (nI k) :: .ref a :: rest)) :=
  va_iast hexec hb hK.1 hP hD hS q0 t0 ha ht (vin k n hk hn) hdg (fun H1 locs1 h1 h2 h3 => kk _ H1 locs1 (by rw [nI_clamp (by omega)]) ((hw' _) ▸ h1) ((hw' _) ▸ h2) h3)
theorem sk_lastE (hexec : p.tables.exec = Jvm.exec) (hb : c.code = cc) (hK : skK D tys s) (hP : va_P D vwCl ws H) (hD : va_D A ws) (hS : va_S A H0 H locs) (q0 t0 : Nat) {cA : ClassId} {n : Nat} {f : Nat → Int64} {ws' : (Nat → Int64) → va_W} (ha : ws[q0]? = some (a, .inl (cA, n, .inr (.inl f)))) (ht : tys[t0]? = some (cA, .long)) {k : Nat} {x : Int64} (hk : k < n) (hn : n < 2147483648) (hw' : ∀ f', ws.set q0 (a, .inl (cA, n, .inr (.inl f'))) = ws' f') (hdg : decode cc pc = .ok (.lastore, 1))
    (kk : ∀ (f' : Nat → Int64) (H1 : Heap) (locs1 : List Loc), f' = vp_updL f k x → va_P D vwCl (ws' f') H1 → va_D A (ws' f') → va_S A H0 H1 locs1 → W p l e R s m args below meth c H1 locs1 cells slots Q (F0 m (pc + 1) ls rest)) : W p l e R s m args below meth c H locs cells slots Q (F0 m pc ls (.long x :: .int (nI k) :: .ref a :: rest)) :=
  va_last hexec hb hK.1 hP hD hS q0 t0 ha ht (vin k n hk hn) hdg (fun H1 locs1 h1 h2 h3 => kk _ H1 locs1 (by rw [nI_clamp (by omega)]) ((hw' _) ▸ h1) ((hw' _) ▸ h2) h3)
theorem sk_iastNE (hexec : p.tables.exec = Jvm.exec) (hb : c.code = cc) (hK : skK D tys s) (hP : va_P D vwCl ws H) (hD : va_D A ws) (hS : va_S A H0 H locs) (q0 t0 : Nat) {cA : ClassId} {n B : Nat} {f : Nat → Nat} {ws' : (Nat → Nat) → va_W} (ha : ws[q0]? = some (a, .inl (cA, n, .inl (fun j => nI (f j))))) (ht : tys[t0]? = some (cA, .int)) {k v : Nat} (hk : k < n) (hn : n < 2147483648) (hf : ∀ j, f j ≤ B) (hv : v ≤ B) (hw' : ∀ f', ws.set q0 (a, .inl (cA, n, .inl (fun j => nI (f' j)))) = ws' f') (hdg : decode cc pc = .ok (.iastore, 1))
    (kk : ∀ (f' : Nat → Nat) (H1 : Heap) (locs1 : List Loc), (∀ j, f' j ≤ B) → f' = updN f k v → va_P D vwCl (ws' f') H1 → va_D A (ws' f') → va_S A H0 H1 locs1 → W p l e R s m args below meth c H1 locs1 cells slots Q (F0 m (pc + 1) ls rest)) : W p l e R s m args below meth c H locs cells slots Q (F0 m pc ls (.int (nI v) :: .int (nI k) :: .ref a :: rest)) := by
  refine va_iast hexec hb hK.1 hP hD hS q0 t0 ha ht (vin k n hk hn) hdg (fun H1 locs1 h1 h2 h3 => ?_)
  rw [updN_fun f k v (by omega)] at h1 h2
  exact kk _ H1 locs1 (updN_le hf hv) rfl ((hw' _) ▸ h1) ((hw' _) ▸ h2) h3
end KxRows
theorem npos_le {k : Nat} (h : 1 ≤ k) (hk : k < 2147483648) : ¬ nI k ≤ 0 := fun q => by
  have h1 := (nle k 0 hk (by decide)).mp q
  omega
theorem kx_i2l {k : Nat} (h : k < 2147483648) : Int32.toInt64 (nI k) = Int64.ofNat k := by
  refine Int64.toInt_inj.mp ?_
  rw [Int32.toInt_toInt64, nI_toInt h, Int64.toInt_ofNat_of_lt (by omega)]
/-! bounds, parts, places: as the class does them -/
theorem kclip_a {x : Int64} (h : ¬ lg_cmp x 1000000 ≤ 0) : (1000000 : Int64) = kcClip x := by
  rw [lg_cmp_le] at h
  unfold kcClip
  rw [if_pos (Int64.not_le.mp h)]
theorem kclip_b {x : Int64} (h : lg_cmp x 1000000 ≤ 0) (h2 : ¬ 0 ≤ lg_cmp x (-1000000)) : (-1000000 : Int64) = kcClip x := by
  rw [lg_cmp_le] at h
  rw [lg_cmp_ge] at h2
  unfold kcClip
  rw [if_neg (Int64.not_lt.mpr h), if_pos (Int64.not_le.mp h2)]
theorem kclip_c {x : Int64} (h : lg_cmp x 1000000 ≤ 0) (h2 : 0 ≤ lg_cmp x (-1000000)) : x = kcClip x := by
  rw [lg_cmp_le] at h
  rw [lg_cmp_ge] at h2
  unfold kcClip
  rw [if_neg (Int64.not_lt.mpr h), if_neg (Int64.not_lt.mpr h2)]
theorem kx_xor (x y : Int64) : (0 ≤ lg_cmp (x ^^^ y) 0) ↔ (x < 0 ↔ y < 0) := by
  rw [lg_cmp_ge, Int64.le_iff_toInt_le, Int64.lt_iff_toInt_lt, Int64.lt_iff_toInt_lt]
  show (0 : Int) ≤ (x ^^^ y).toBitVec.toInt ↔ (x.toBitVec.toInt < 0 ↔ y.toBitVec.toInt < 0)
  rw [Int64.toBitVec_xor]
  have a := BitVec.msb_eq_toInt (x := x.toBitVec ^^^ y.toBitVec)
  have b := BitVec.msb_eq_toInt (x := x.toBitVec)
  have d := BitVec.msb_eq_toInt (x := y.toBitVec)
  rw [BitVec.msb_xor, b, d] at a
  by_cases h1 : x.toBitVec.toInt < 0
  · by_cases h2 : y.toBitVec.toInt < 0
    · rw [decide_eq_true h1, decide_eq_true h2] at a
      have h3 := of_decide_eq_false a.symm
      exact ⟨fun _ => ⟨fun _ => h2, fun _ => h1⟩, fun _ => by omega⟩
    · rw [decide_eq_true h1, decide_eq_false h2] at a
      have h3 := of_decide_eq_true a.symm
      exact ⟨fun q => absurd q (by omega), fun q => absurd (q.mp h1) h2⟩
  · by_cases h2 : y.toBitVec.toInt < 0
    · rw [decide_eq_false h1, decide_eq_true h2] at a
      have h3 := of_decide_eq_true a.symm
      exact ⟨fun q => absurd q (by omega), fun q => absurd (q.mpr h2) h1⟩
    · rw [decide_eq_false h1, decide_eq_false h2] at a
      have h3 := of_decide_eq_false a.symm
      exact ⟨fun _ => ⟨fun q => absurd q h1, fun q => absurd q h2⟩, fun _ => by omega⟩
theorem kx_sub0 (x z : Int64) : x - z = 0 ↔ z = x := by
  constructor
  · intro h
    have h1 : x - z + z = 0 + z := by rw [h]
    rw [Int64.sub_add_cancel, Int64.zero_add] at h1
    exact h1.symm
  · intro h
    rw [h, Int64.sub_self]
theorem kfl_0 {x y : Int64} (hy : y = 0) : (0 : Int64) = kcFl x y := by
  unfold kcFl; rw [if_pos hy]
theorem kfl_a {x y : Int64} (hy : ¬ y = 0) (h : ¬ 0 ≤ lg_cmp (x ^^^ y) 0) (h2 : ¬ lg_cmp (x / y * y) x = 0) : x / y - 1 = kcFl x y := by
  unfold kcFl
  rw [if_neg hy, if_pos ⟨fun q => h2 ((lg_cmp_eq _ _).mpr ((kx_sub0 _ _).mp q)), fun q => h ((kx_xor x y).mpr q)⟩]
theorem kfl_b {x y : Int64} (hy : ¬ y = 0) (h : 0 ≤ lg_cmp (x ^^^ y) 0) : x / y = kcFl x y := by
  unfold kcFl
  rw [if_neg hy, if_neg (fun q => q.2 ((kx_xor x y).mp h))]
theorem kfl_c {x y : Int64} (hy : ¬ y = 0) (h2 : lg_cmp (x / y * y) x = 0) : x / y = kcFl x y := by
  unfold kcFl
  rw [if_neg hy, if_neg (fun q => q.1 ((kx_sub0 _ _).mpr ((lg_cmp_eq _ _).mp h2)))]
/-- by ten -/
def kcTen (v : Int64) : Nat := (v.toInt % 10).toNat
theorem kcTen_lt (v : Int64) : kcTen v < 10 := by
  unfold kcTen; omega
theorem kten_a {x v : Int64} (hv : v = x - x / 10 * 10) (h : 0 ≤ lg_cmp (x ^^^ 10) 0) : v.toInt = ((kcTen x : Nat) : Int) := by
  have h1 := (lxor10 x).mp h
  rw [hv, lrem10]
  unfold kcTen
  rw [Int.tmod_eq_emod_of_nonneg h1]
  omega
theorem kten_b {x v : Int64} (hv : v = x - x / 10 * 10) (hn : lg_cmp v 0 = 0) : v.toInt = ((kcTen x : Nat) : Int) := by
  have h1 := (lg_cmp_eq _ _).mp hn
  have h2 : v.toInt = 0 := by rw [h1]; rfl
  have h3 : x.toInt.tmod 10 = 0 := by rw [← lrem10, ← hv]; exact h2
  have h4 := Int.dvd_of_tmod_eq_zero h3
  rw [h2]
  unfold kcTen
  omega
theorem kten_c {x v r : Int64} (hv : v = x - x / 10 * 10) (h : ¬ 0 ≤ lg_cmp (x ^^^ 10) 0) (hn : ¬ lg_cmp v 0 = 0) (hr : r = v + 10) : r.toInt = ((kcTen x : Nat) : Int) := by
  obtain ⟨h1, h2⟩ := fmt10b hv h
  have e10 : (10 : Int64).toInt = 10 := rfl
  have h3 : ¬ v.toInt = 0 := fun q => hn ((lg_cmp_eq _ _).mpr (Int64.toInt_inj.mp q))
  have h4 : v.toInt = x.toInt.tmod 10 := by rw [hv, lrem10]
  have h5 := Int.mul_tdiv_add_tmod x.toInt 10
  rw [hr, Jvm.Kit.i64_add (by rw [e10]; omega) (by rw [e10]; omega), e10]
  unfold kcTen
  omega
theorem kten_i {a : Int64} {k : Nat} (h : a.toInt = (k : Int)) (hk : k < 2147483648) : a.toInt32 = nI k := by
  refine Int32.toInt_inj.mp ?_
  rw [nI_toInt hk, Int64.toInt_toInt32, h]
  rw [Int.bmod_eq_of_le (by omega) (by omega)]
theorem kop_c {c k : Nat} (h : nI (29999 + c) = nI k) (hc : c ≤ 6) (hk : k < 2147483648) : 29999 + c = k := (neq _ _ (by omega) hk).mp h
theorem kop_f {c : Nat} (h1 : 1 ≤ c) (h6 : c ≤ 6) (g0 : ¬ nI (29999 + c) = 30000) (g1 : ¬ nI (29999 + c) = 30001) (g2 : ¬ nI (29999 + c) = 30002) (g3 : ¬ nI (29999 + c) = 30003) (g4 : ¬ nI (29999 + c) = 30004) (g5 : ¬ nI (29999 + c) = 30005) : False := by
  rcases (show c = 1 ∨ c = 2 ∨ c = 3 ∨ c = 4 ∨ c = 5 ∨ c = 6 by omega) with rfl | rfl | rfl | rfl | rfl | rfl
  · exact g0 rfl
  · exact g1 rfl
  · exact g2 rfl
  · exact g3 rfl
  · exact g4 rfl
  · exact g5 rfl
theorem kop_1 {c : Nat} {x y : Int64} (h : nI (29999 + c) = 30000) (hc : c ≤ 6) : kcClip (x + y) = kcOp c x y := by
  have := kop_c (k := 30000) h hc (by decide)
  obtain rfl : c = 1 := by omega
  unfold kcOp
  rw [if_pos rfl]
theorem kop_2 {c : Nat} {x y : Int64} (h : nI (29999 + c) = 30001) (hc : c ≤ 6) : kcClip (x - y) = kcOp c x y := by
  have := kop_c (k := 30001) h hc (by decide)
  obtain rfl : c = 2 := by omega
  unfold kcOp
  rw [if_neg (by decide), if_pos rfl]
theorem kop_3 {c : Nat} {x y : Int64} (h : nI (29999 + c) = 30002) (hc : c ≤ 6) : kcClip (x * y) = kcOp c x y := by
  have := kop_c (k := 30002) h hc (by decide)
  obtain rfl : c = 3 := by omega
  unfold kcOp
  rw [if_neg (by decide), if_neg (by decide), if_pos rfl]
theorem kop_4 {c : Nat} {x y z : Int64} (h : nI (29999 + c) = 30003) (hc : c ≤ 6) (hz : z = kcFl x y) : z = kcOp c x y := by
  have := kop_c (k := 30003) h hc (by decide)
  obtain rfl : c = 4 := by omega
  exact hz
theorem kop_5 {c : Nat} {x y : Int64} (h : nI (29999 + c) = 30004) (hc : c ≤ 6) : (if y < x then y else x) = kcOp c x y := by
  have := kop_c (k := 30004) h hc (by decide)
  obtain rfl : c = 5 := by omega
  rfl
theorem kmax_c (x y : Int64) : (if y < x then x else y) = if x < y then y else x := by
  by_cases h1 : y < x
  · rw [if_pos h1, if_neg (fun q => Int64.lt_irrefl (Int64.lt_trans h1 q))]
  · by_cases h2 : x < y
    · rw [if_neg h1, if_pos h2]
    · rw [if_neg h1, if_neg h2]
      exact Int64.le_antisymm (Int64.not_lt.mp h2) (Int64.not_lt.mp h1)
theorem kop_6 {c : Nat} {x y : Int64} (h : nI (29999 + c) = 30005) (hc : c ≤ 6) : (if y < x then x else y) = kcOp c x y := by
  have := kop_c (k := 30005) h hc (by decide)
  obtain rfl : c = 6 := by omega
  rw [kmax_c]
  rfl
theorem kop_x {c k : Nat} {P : Prop} (h : nI (29999 + c) = nI k) (hc : c ≤ 6) (hk : k < 2147483648) (h2 : 30006 ≤ k) : P := by
  have := kop_c h hc hk
  exact absurd h2 (by omega)
/-! the pile -/
def stkO (f : Nat → Int64) : List Int64 → Prop
  | [] => True
  | v :: S => f S.length = v ∧ stkO f S
theorem stkO_up {f : Nat → Int64} {k : Nat} {x : Int64} : ∀ S : List Int64, S.length ≤ k → stkO f S → stkO (vp_updL f k x) S
  | [], _, _ => True.intro
  | v :: S, hk, h => by
    rw [List.length_cons] at hk
    refine ⟨?_, stkO_up S (by omega) h.2⟩
    unfold vp_updL
    rw [if_neg (by omega)]
    exact h.1
theorem stk_push {f g : Nat → Int64} {S : List Int64} {k : Nat} {x y : Int64} (h : stkO f S) (hk : k = S.length) (hg : g = vp_updL f k x) (hx : x = y) : stkO g (y :: S) := by
  subst hg hx hk
  refine ⟨?_, stkO_up S (Nat.le_refl _) h⟩
  unfold vp_updL
  rw [if_pos rfl]
theorem stk_op {f g : Nat → Int64} {R : List Int64} {k : Nat} {a b x : Int64} (h : stkO f (b :: a :: R)) (hk : k = R.length) (hg : g = vp_updL f k x) : stkO g (x :: R) := stk_push h.2.2 hk hg rfl
theorem stk_b {f : Nat → Int64} {R : List Int64} {a b : Int64} {k : Nat} (h : stkO f (b :: a :: R)) (hk : k = R.length + 1) (h2 : k < 2147483648) : f (nI k).toNatClampNeg = b := by
  rw [nI_clamp h2, hk]; exact h.1
theorem stk_a {f : Nat → Int64} {R : List Int64} {a b : Int64} {k : Nat} (h : stkO f (b :: a :: R)) (hk : k = R.length) (h2 : k < 2147483648) : f (nI k).toNatClampNeg = a := by
  rw [nI_clamp h2, hk]; exact h.2.1
theorem kcSub_c {K : List Nat} {i b : Nat} (h : i < b) (hb : b ≤ K.length) : kcSub K (i, b) = K.getD i 0 :: kcSub K (i + 1, b) := by
  unfold kcSub
  show (K.drop i).take (b - i) = K.getD i 0 :: (K.drop (i + 1)).take (b - (i + 1))
  rw [List.drop_eq_getElem_cons (by omega), show b - i = (b - (i + 1)) + 1 by omega, List.take_succ_cons, List.getD_eq_getElem?_getD, List.getElem?_eq_getElem (show i < K.length by omega)]
  rfl
theorem kcSub_e {K : List Nat} {i b : Nat} (h : b ≤ i) : kcSub K (i, b) = [] := by
  unfold kcSub
  show (K.drop i).take (b - i) = []
  rw [show b - i = 0 by omega, List.take_zero]
/-- which kind of step it is -/
theorem kx_cls {kind c : Nat} (hk : kind < 2) (h : kcN1 kind c) : (1 ≤ c ∧ c ≤ 6 ∧ cm c = nI (29999 + c)) ∨ (1000 ≤ c ∧ c < 11000 ∧ cm c = nI (c - 1000)) ∨ (40 ≤ c ∧ c < 47 ∧ cm c = nI (9960 + c)) := by
  unfold cm
  rcases h with ⟨h1, h2⟩ | ⟨h1, h2⟩ | ⟨h1, h2, h3⟩
  · exact Or.inl ⟨h1, h2, by rw [if_neg (by omega), if_pos (by omega)]⟩
  · exact Or.inr (Or.inl ⟨h1, h2, by rw [if_pos h1]⟩)
  · have h4 : c < 47 := by
      unfold allow at h3
      rcases (show kind = 0 ∨ kind = 1 by omega) with rfl | rfl
      · rw [if_pos rfl, decide_eq_true_iff] at h3; omega
      · rw [if_neg (by decide), if_pos rfl, decide_eq_true_iff] at h3; omega
    exact Or.inr (Or.inr ⟨h1, h4, by rw [if_neg (by omega), if_neg (by omega), if_neg (by omega), if_neg (by omega), if_neg (by omega), if_neg (by omega), if_neg (by omega), if_neg (by omega)]⟩)
theorem kx_neg {k : Nat} (h : k < 10000) : nI k - 10000 < 0 := by
  rw [Int32.lt_iff_toInt_lt]
  have e : (10000 : Int32).toInt = 10000 := rfl
  have e0 : (0 : Int32).toInt = 0 := rfl
  rw [Jvm.Kit.i32_sub (by rw [nI_toInt (by omega), e]; omega) (by rw [nI_toInt (by omega), e]; omega), nI_toInt (by omega), e, e0]
  omega
theorem kx_end {nm : Nat → Int64} {K : List Nat} {i b : Nat} {S : List Int64} {v : Int64} (h : kcEx nm 64 (kcSub K (i, b)) S = some [v]) (hi : b ≤ i) : S = [v] := by
  rw [kcSub_e hi] at h
  exact Option.some.inj (show some S = some [v] from h)
set_option maxHeartbeats 4000000 in
set_option maxRecDepth 100000 in
theorem c_kbounded (l : Launch) (D : va_G) (cI cJ cC cZ cS : ClassId) (x : Int64)  : skM l yX0_bounded cX0_bounded 2 (some .long) 0 0 0 0 D (skT cI cJ cC cZ cS) [.long x] [] (skL D (skT cI cJ cC cZ cS) (fun (r : Int64) (u : va_W) => r = kcClip x ∧ u = [])) := by
  refine skM_of (by decide +kernel) (Nat.le_of_ble_eq_true rfl) ?_
  intro p e s m below meth c A ls E hP hD hl
  obtain ⟨hx, hb, hr, hml, hlocks, hin, hown, hts, hK, hA⟩ := E
  have hown : s.vm.findClass RX0 = some m.cls := hown
  have hS : va_S A s.heap s.heap [] := va_S.rf
  have hl : lv_has ls 2 [(0, .long x)] := hl
  refine lv_lload_n hx hb dX0_bounded_0 rfl (lv_at hl 0 rfl) ?_
  refine lv_ldc2 (v := 1000000) hx hb hown (hts _ w_3_231) dX0_bounded_1 ?_
  refine W.lcmp hx hb dX0_bounded_4 ?_
  refine lv_if_le (tgt := 12) hx hb dX0_bounded_5 (by decide) (fun c_1 => ?_) (fun c_1 => ?_)
  · skip
    refine lv_lload_n hx hb dX0_bounded_12 rfl (lv_at hl 0 rfl) ?_
    refine lv_ldc2 (v := (-1000000)) hx hb hown (hts _ w_3_232) dX0_bounded_13 ?_
    refine W.lcmp hx hb dX0_bounded_16 ?_
    refine lv_if_ge (tgt := 26) hx hb dX0_bounded_17 (by decide) (fun c_2 => ?_) (fun c_2 => ?_)
    · skip
      refine lv_lload_n hx hb dX0_bounded_26 rfl (lv_at hl 0 rfl) ?_
      exact sk_lret hx hb hr hlocks hK hP hD hS (⟨kclip_c c_1 c_2, rfl⟩) (Nat.le_of_ble_eq_true rfl) (Nat.le_of_ble_eq_true rfl) dX0_bounded_27
    · skip
      refine lv_ldc2 (v := (-1000000)) hx hb hown (hts _ w_3_232) dX0_bounded_20 ?_
      refine lv_goto (tgt := 27) hx hb dX0_bounded_23 (by decide) ?_
      exact sk_lret hx hb hr hlocks hK hP hD hS (⟨kclip_b c_1 c_2, rfl⟩) (Nat.le_of_ble_eq_true rfl) (Nat.le_of_ble_eq_true rfl) dX0_bounded_27
  · skip
    refine lv_ldc2 (v := 1000000) hx hb hown (hts _ w_3_231) dX0_bounded_8 ?_
    exact sk_lret hx hb hr hlocks hK hP hD hS (⟨kclip_a c_1, rfl⟩) (Nat.le_of_ble_eq_true rfl) (Nat.le_of_ble_eq_true rfl) dX0_bounded_11
set_option maxHeartbeats 4000000 in
set_option maxRecDepth 100000 in
theorem c_kfloorDiv (l : Launch) (D : va_G) (cI cJ cC cZ cS : ClassId) (x : Int64) (y : Int64) (hy : ¬ y = 0) : skM l yJ9_floorDiv_f86c9 cJ9_floorDiv_f86c9 6 (some .long) 0 0 0 0 D (skT cI cJ cC cZ cS) [.long x, .long y] [] (skL D (skT cI cJ cC cZ cS) (fun (r : Int64) (u : va_W) => r = kcFl x y ∧ u = [])) := by
  refine skM_of (by decide +kernel) (Nat.le_of_ble_eq_true rfl) ?_
  intro p e s m below meth c A ls E hP hD hl
  obtain ⟨hx, hb, hr, hml, hlocks, hin, hown, hts, hK, hA⟩ := E
  have hown : s.vm.findClass RJ9 = some m.cls := hown
  have hS : va_S A s.heap s.heap [] := va_S.rf
  have hl : lv_has ls 6 [(0, .long x), (2, .long y)] := hl
  refine lv_lload_n hx hb dJ9_floorDiv_f86c9_0 rfl (lv_at hl 0 rfl) ?_
  refine lv_lload_n hx hb dJ9_floorDiv_f86c9_1 rfl (lv_at hl 1 rfl) ?_
  refine lv_ldiv hx hb dJ9_floorDiv_f86c9_2 hy ?_
  refine lv_lstore (lv' := [(4, .long (x / y)), (0, .long x), (2, .long y)]) hx hb dJ9_floorDiv_f86c9_3 hl (by decide) rfl (fun ls hl => ?_)
  refine lv_lload_n hx hb dJ9_floorDiv_f86c9_5 rfl (lv_at hl 1 rfl) ?_
  refine lv_lload_n hx hb dJ9_floorDiv_f86c9_6 rfl (lv_at hl 2 rfl) ?_
  refine lv_lxor hx hb dJ9_floorDiv_f86c9_7 ?_
  refine lv_lconst (v := 0) hx hb dJ9_floorDiv_f86c9_8 (by decide) ?_
  refine W.lcmp hx hb dJ9_floorDiv_f86c9_9 ?_
  refine lv_if_ge (tgt := 27) hx hb dJ9_floorDiv_f86c9_10 (by decide) (fun c_1 => ?_) (fun c_1 => ?_)
  · skip
    refine lv_lload hx hb dJ9_floorDiv_f86c9_27 (lv_at hl 0 rfl) ?_
    exact sk_lret hx hb hr hlocks hK hP hD hS (⟨kfl_b hy c_1, rfl⟩) (Nat.le_of_ble_eq_true rfl) (Nat.le_of_ble_eq_true rfl) dJ9_floorDiv_f86c9_29
  · skip
    refine lv_lload hx hb dJ9_floorDiv_f86c9_13 (lv_at hl 0 rfl) ?_
    refine lv_lload_n hx hb dJ9_floorDiv_f86c9_15 rfl (lv_at hl 2 rfl) ?_
    refine lv_lmul hx hb dJ9_floorDiv_f86c9_16 ?_
    refine lv_lload_n hx hb dJ9_floorDiv_f86c9_17 rfl (lv_at hl 1 rfl) ?_
    refine W.lcmp hx hb dJ9_floorDiv_f86c9_18 ?_
    refine lv_if_eq (tgt := 27) hx hb dJ9_floorDiv_f86c9_19 (by decide) (fun c_2 => ?_) (fun c_2 => ?_)
    · skip
      refine lv_lload hx hb dJ9_floorDiv_f86c9_27 (lv_at hl 0 rfl) ?_
      exact sk_lret hx hb hr hlocks hK hP hD hS (⟨kfl_c hy c_2, rfl⟩) (Nat.le_of_ble_eq_true rfl) (Nat.le_of_ble_eq_true rfl) dJ9_floorDiv_f86c9_29
    · skip
      refine lv_lload hx hb dJ9_floorDiv_f86c9_22 (lv_at hl 0 rfl) ?_
      refine lv_lconst (v := 1) hx hb dJ9_floorDiv_f86c9_24 (by decide) ?_
      refine lv_lsub hx hb dJ9_floorDiv_f86c9_25 ?_
      exact sk_lret hx hb hr hlocks hK hP hD hS (⟨kfl_a hy c_1 c_2, rfl⟩) (Nat.le_of_ble_eq_true rfl) (Nat.le_of_ble_eq_true rfl) dJ9_floorDiv_f86c9_26
set_option maxHeartbeats 4000000 in
set_option maxRecDepth 100000 in
theorem c_kfloorModL (l : Launch) (D : va_G) (cI cJ cC cZ cS : ClassId) (x : Int64)  : skM l yJ9_floorMod_f86c9 cJ9_floorMod_f86c9 6 (some .long) 0 0 0 0 D (skT cI cJ cC cZ cS) [.long x, .long 10] [] (skL D (skT cI cJ cC cZ cS) (fun (r : Int64) (u : va_W) => r.toInt = ((kcTen x : Nat) : Int) ∧ u = [])) := by
  refine skM_of (by decide +kernel) (Nat.le_of_ble_eq_true rfl) ?_
  intro p e s m below meth c A ls E hP hD hl
  obtain ⟨hx, hb, hr, hml, hlocks, hin, hown, hts, hK, hA⟩ := E
  have hown : s.vm.findClass RJ9 = some m.cls := hown
  have hS : va_S A s.heap s.heap [] := va_S.rf
  have hl : lv_has ls 6 [(0, .long x), (2, .long 10)] := hl
  refine lv_lload_n hx hb dJ9_floorMod_f86c9_0 rfl (lv_at hl 0 rfl) ?_
  refine lv_lload_n hx hb dJ9_floorMod_f86c9_1 rfl (lv_at hl 1 rfl) ?_
  refine lv_lrem hx hb dJ9_floorMod_f86c9_2 (by decide) ?_
  refine lv_topl (fun v_1 ev_1 => ?_)
  refine lv_lstore (lv' := [(4, .long v_1), (0, .long x), (2, .long 10)]) hx hb dJ9_floorMod_f86c9_3 hl (by decide) rfl (fun ls hl => ?_)
  refine lv_lload_n hx hb dJ9_floorMod_f86c9_5 rfl (lv_at hl 1 rfl) ?_
  refine lv_lload_n hx hb dJ9_floorMod_f86c9_6 rfl (lv_at hl 2 rfl) ?_
  refine lv_lxor hx hb dJ9_floorMod_f86c9_7 ?_
  refine lv_lconst (v := 0) hx hb dJ9_floorMod_f86c9_8 (by decide) ?_
  refine W.lcmp hx hb dJ9_floorMod_f86c9_9 ?_
  refine lv_if_ge (tgt := 25) hx hb dJ9_floorMod_f86c9_10 (by decide) (fun c_2 => ?_) (fun c_2 => ?_)
  · skip
    refine lv_lload hx hb dJ9_floorMod_f86c9_25 (lv_at hl 0 rfl) ?_
    exact sk_lret hx hb hr hlocks hK hP hD hS (⟨kten_a ev_1 c_2, rfl⟩) (Nat.le_of_ble_eq_true rfl) (Nat.le_of_ble_eq_true rfl) dJ9_floorMod_f86c9_27
  · skip
    refine lv_lload hx hb dJ9_floorMod_f86c9_13 (lv_at hl 0 rfl) ?_
    refine lv_lconst (v := 0) hx hb dJ9_floorMod_f86c9_15 (by decide) ?_
    refine W.lcmp hx hb dJ9_floorMod_f86c9_16 ?_
    refine lv_if_eq (tgt := 25) hx hb dJ9_floorMod_f86c9_17 (by decide) (fun c_3 => ?_) (fun c_3 => ?_)
    · skip
      refine lv_lload hx hb dJ9_floorMod_f86c9_25 (lv_at hl 0 rfl) ?_
      exact sk_lret hx hb hr hlocks hK hP hD hS (⟨kten_b ev_1 c_3, rfl⟩) (Nat.le_of_ble_eq_true rfl) (Nat.le_of_ble_eq_true rfl) dJ9_floorMod_f86c9_27
    · skip
      refine lv_lload hx hb dJ9_floorMod_f86c9_20 (lv_at hl 0 rfl) ?_
      refine lv_lload_n hx hb dJ9_floorMod_f86c9_22 rfl (lv_at hl 2 rfl) ?_
      refine lv_ladd hx hb dJ9_floorMod_f86c9_23 ?_
      refine lv_topl (fun v_4 ev_4 => ?_)
      exact sk_lret hx hb hr hlocks hK hP hD hS (⟨kten_c ev_1 c_2 c_3 ev_4, rfl⟩) (Nat.le_of_ble_eq_true rfl) (Nat.le_of_ble_eq_true rfl) dJ9_floorMod_f86c9_24
set_option maxHeartbeats 4000000 in
set_option maxRecDepth 100000 in
theorem c_kfloorMod (l : Launch) (D : va_G) (cI cJ cC cZ cS : ClassId) (x : Int64)  : skM l yJ9_floorMod_1978a cJ9_floorMod_1978a 3 (some .int) 1 25 0 0 D (skT cI cJ cC cZ cS) [.long x, .int 10] [] (skI D (skT cI cJ cC cZ cS) (fun (r : Int32) (u : va_W) => r = nI (kcTen x) ∧ u = [])) := by
  refine skM_of (by decide +kernel) (Nat.le_of_ble_eq_true rfl) ?_
  intro p e s m below meth c A ls E hP hD hl
  obtain ⟨hx, hb, hr, hml, hlocks, hin, hown, hts, hK, hA⟩ := E
  have hown : s.vm.findClass RJ9 = some m.cls := hown
  have hS : va_S A s.heap s.heap [] := va_S.rf
  have hl : lv_has ls 3 [(0, .long x), (2, .int 10)] := hl
  refine lv_lload_n hx hb dJ9_floorMod_1978a_0 rfl (lv_at hl 0 rfl) ?_
  refine lv_iload_n hx hb dJ9_floorMod_1978a_1 rfl (lv_at hl 1 rfl) ?_
  refine lv_i2l (v := 10) hx hb dJ9_floorMod_1978a_2 (by decide) ?_
  refine sk_Sl (n := 2) (rest := []) (wr := []) ⟨hx, hb, hml, hown, hts⟩ hl.1 (c_kfloorModL l D cI cJ cC cZ cS x) w_4_10 w_4_11 w_1_3 w_4_12 (by decide +kernel) ⟨⟨(Nat.le_of_ble_eq_true rfl), (Nat.le_of_ble_eq_true rfl)⟩, (Nat.le_of_ble_eq_true rfl), (Nat.le_of_ble_eq_true rfl)⟩ hK hP hD hS hA [] [] rfl rfl (by decide +kernel) (by decide +kernel) (by decide +kernel) rfl rfl (Nat.le_of_ble_eq_true rfl) dJ9_floorMod_1978a_3 (fun r_1 u H locs hw hP hD hS => ?_)
  obtain ⟨hr_2, rfl⟩ := hw
  have hP : va_P D vwCl [] H := hP
  have hD : va_D A [] := hD
  refine lv_l2i hx hb dJ9_floorMod_1978a_6 rfl ?_
  have ht := kcTen_lt x
  refine sk_top (nI (kcTen x)) (kten_i hr_2 (by omega)) ?_
  exact sk_iret hx hb hr rfl hlocks hK hP hD hS (⟨rfl, rfl⟩) (Nat.le_of_ble_eq_true rfl) (Nat.le_of_ble_eq_true rfl) dJ9_floorMod_1978a_7
set_option maxHeartbeats 4000000 in
set_option maxRecDepth 100000 in
theorem c_kofTwo (l : Launch) (D : va_G) (cI cJ cC cZ cS : ClassId) (oc : Nat) (x : Int64) (y : Int64) (hc1 : 1 ≤ oc) (hc6 : oc ≤ 6) : skM l yX0_ofTwo cX0_ofTwo 5 (some .long) 1 25 0 0 D (skT cI cJ cC cZ cS) [.int (nI (29999 + oc)), .long x, .long y] [] (skL D (skT cI cJ cC cZ cS) (fun (r : Int64) (u : va_W) => r = kcOp oc x y ∧ u = [])) := by
  refine skM_of (by decide +kernel) (Nat.le_of_ble_eq_true rfl) ?_
  intro p e s m below meth c A ls E hP hD hl
  obtain ⟨hx, hb, hr, hml, hlocks, hin, hown, hts, hK, hA⟩ := E
  have hown : s.vm.findClass RX0 = some m.cls := hown
  have hS : va_S A s.heap s.heap [] := va_S.rf
  have hl : lv_has ls 5 [(0, .int (nI (29999 + oc))), (1, .long x), (3, .long y)] := hl
  refine lv_iload_n hx hb dX0_ofTwo_0 rfl (lv_at hl 0 rfl) ?_
  by_cases g_1 : nI (29999 + oc) = 30000
  · refine lv_tableIn (off := 55) (tgt := 56) hx hb dX0_ofTwo_1 (by rw [g_1]; decide) (by rw [g_1]; decide) (by rw [g_1]; rfl) (by decide) ?_
    refine lv_lload_n hx hb dX0_ofTwo_56 rfl (lv_at hl 1 rfl) ?_
    refine lv_lload_n hx hb dX0_ofTwo_57 rfl (lv_at hl 2 rfl) ?_
    refine lv_ladd hx hb dX0_ofTwo_58 ?_
    refine sk_Sl (n := 1) (rest := []) (wr := []) ⟨hx, hb, hml, hown, hts⟩ hl.1 (c_kbounded l D cI cJ cC cZ cS (x + y)) w_3_228 w_3_229 w_1_8 w_3_230 (by decide +kernel) ⟨⟨(Nat.le_of_ble_eq_true rfl), (Nat.le_of_ble_eq_true rfl)⟩, (Nat.le_of_ble_eq_true rfl), (Nat.le_of_ble_eq_true rfl)⟩ hK hP hD hS hA [] [] rfl rfl (by decide +kernel) (by decide +kernel) (by decide +kernel) rfl rfl (Nat.le_of_ble_eq_true rfl) dX0_ofTwo_59 (fun r_2 u H locs hw hP hD hS => ?_)
    obtain ⟨hr_3, rfl⟩ := hw
    have hP : va_P D vwCl [] H := hP
    have hD : va_D A [] := hD
    subst hr_3
    exact sk_lret hx hb hr hlocks hK hP hD hS (⟨kop_1 g_1 hc6, rfl⟩) (Nat.le_of_ble_eq_true rfl) (Nat.le_of_ble_eq_true rfl) dX0_ofTwo_62
  by_cases g_4 : nI (29999 + oc) = 30001
  · refine lv_tableIn (off := 62) (tgt := 63) hx hb dX0_ofTwo_1 (by rw [g_4]; decide) (by rw [g_4]; decide) (by rw [g_4]; rfl) (by decide) ?_
    refine lv_lload_n hx hb dX0_ofTwo_63 rfl (lv_at hl 1 rfl) ?_
    refine lv_lload_n hx hb dX0_ofTwo_64 rfl (lv_at hl 2 rfl) ?_
    refine lv_lsub hx hb dX0_ofTwo_65 ?_
    refine sk_Sl (n := 1) (rest := []) (wr := []) ⟨hx, hb, hml, hown, hts⟩ hl.1 (c_kbounded l D cI cJ cC cZ cS (x - y)) w_3_228 w_3_229 w_1_8 w_3_230 (by decide +kernel) ⟨⟨(Nat.le_of_ble_eq_true rfl), (Nat.le_of_ble_eq_true rfl)⟩, (Nat.le_of_ble_eq_true rfl), (Nat.le_of_ble_eq_true rfl)⟩ hK hP hD hS hA [] [] rfl rfl (by decide +kernel) (by decide +kernel) (by decide +kernel) rfl rfl (Nat.le_of_ble_eq_true rfl) dX0_ofTwo_66 (fun r_5 u H locs hw hP hD hS => ?_)
    obtain ⟨hr_6, rfl⟩ := hw
    have hP : va_P D vwCl [] H := hP
    have hD : va_D A [] := hD
    subst hr_6
    exact sk_lret hx hb hr hlocks hK hP hD hS (⟨kop_2 g_4 hc6, rfl⟩) (Nat.le_of_ble_eq_true rfl) (Nat.le_of_ble_eq_true rfl) dX0_ofTwo_69
  by_cases g_7 : nI (29999 + oc) = 30002
  · refine lv_tableIn (off := 69) (tgt := 70) hx hb dX0_ofTwo_1 (by rw [g_7]; decide) (by rw [g_7]; decide) (by rw [g_7]; rfl) (by decide) ?_
    refine lv_lload_n hx hb dX0_ofTwo_70 rfl (lv_at hl 1 rfl) ?_
    refine lv_lload_n hx hb dX0_ofTwo_71 rfl (lv_at hl 2 rfl) ?_
    refine lv_lmul hx hb dX0_ofTwo_72 ?_
    refine sk_Sl (n := 1) (rest := []) (wr := []) ⟨hx, hb, hml, hown, hts⟩ hl.1 (c_kbounded l D cI cJ cC cZ cS (x * y)) w_3_228 w_3_229 w_1_8 w_3_230 (by decide +kernel) ⟨⟨(Nat.le_of_ble_eq_true rfl), (Nat.le_of_ble_eq_true rfl)⟩, (Nat.le_of_ble_eq_true rfl), (Nat.le_of_ble_eq_true rfl)⟩ hK hP hD hS hA [] [] rfl rfl (by decide +kernel) (by decide +kernel) (by decide +kernel) rfl rfl (Nat.le_of_ble_eq_true rfl) dX0_ofTwo_73 (fun r_8 u H locs hw hP hD hS => ?_)
    obtain ⟨hr_9, rfl⟩ := hw
    have hP : va_P D vwCl [] H := hP
    have hD : va_D A [] := hD
    subst hr_9
    exact sk_lret hx hb hr hlocks hK hP hD hS (⟨kop_3 g_7 hc6, rfl⟩) (Nat.le_of_ble_eq_true rfl) (Nat.le_of_ble_eq_true rfl) dX0_ofTwo_76
  by_cases g_10 : nI (29999 + oc) = 30003
  · refine lv_tableIn (off := 76) (tgt := 77) hx hb dX0_ofTwo_1 (by rw [g_10]; decide) (by rw [g_10]; decide) (by rw [g_10]; rfl) (by decide) ?_
    refine lv_lload_n hx hb dX0_ofTwo_77 rfl (lv_at hl 2 rfl) ?_
    refine lv_lconst (v := 0) hx hb dX0_ofTwo_78 (by decide) ?_
    refine W.lcmp hx hb dX0_ofTwo_79 ?_
    refine lv_if_ne (tgt := 87) hx hb dX0_ofTwo_80 (by decide) (fun c_11 => ?_) (fun c_11 => ?_)
    · skip
      refine lv_lload_n hx hb dX0_ofTwo_87 rfl (lv_at hl 1 rfl) ?_
      refine lv_lload_n hx hb dX0_ofTwo_88 rfl (lv_at hl 2 rfl) ?_
      refine sk_Sl (n := 2) (rest := []) (wr := []) ⟨hx, hb, hml, hown, hts⟩ hl.1 (c_kfloorDiv l D cI cJ cC cZ cS x y (lg_ne0 c_11)) w_3_233 w_3_234 w_1_3 w_3_235 (by decide +kernel) ⟨⟨(Nat.le_of_ble_eq_true rfl), (Nat.le_of_ble_eq_true rfl)⟩, (Nat.le_of_ble_eq_true rfl), (Nat.le_of_ble_eq_true rfl)⟩ hK hP hD hS hA [] [] rfl rfl (by decide +kernel) (by decide +kernel) (by decide +kernel) rfl rfl (Nat.le_of_ble_eq_true rfl) dX0_ofTwo_89 (fun r_12 u H locs hw hP hD hS => ?_)
      obtain ⟨hr_13, rfl⟩ := hw
      have hP : va_P D vwCl [] H := hP
      have hD : va_D A [] := hD
      subst hr_13
      exact sk_lret hx hb hr hlocks hK hP hD hS (⟨kop_4 g_10 hc6 rfl, rfl⟩) (Nat.le_of_ble_eq_true rfl) (Nat.le_of_ble_eq_true rfl) dX0_ofTwo_92
    · skip
      refine lv_lconst (v := 0) hx hb dX0_ofTwo_83 (by decide) ?_
      refine lv_goto (tgt := 92) hx hb dX0_ofTwo_84 (by decide) ?_
      exact sk_lret hx hb hr hlocks hK hP hD hS (⟨kop_4 g_10 hc6 (kfl_0 ((lg_cmp_eq _ _).mp c_11)), rfl⟩) (Nat.le_of_ble_eq_true rfl) (Nat.le_of_ble_eq_true rfl) dX0_ofTwo_92
  by_cases g_14 : nI (29999 + oc) = 30004
  · refine lv_tableIn (off := 92) (tgt := 93) hx hb dX0_ofTwo_1 (by rw [g_14]; decide) (by rw [g_14]; decide) (by rw [g_14]; rfl) (by decide) ?_
    refine lv_lload_n hx hb dX0_ofTwo_93 rfl (lv_at hl 1 rfl) ?_
    refine lv_lload_n hx hb dX0_ofTwo_94 rfl (lv_at hl 2 rfl) ?_
    refine va_mmin_long hx hb (by rw [hml]; exact hl.1.symm) hown (hts _ w_3_236) (hts _ w_3_237) (hts _ w_1_3) (hts _ w_3_238) (Nat.le_of_ble_eq_true rfl) (Nat.le_of_ble_eq_true rfl) (Nat.le_of_ble_eq_true rfl) (Nat.le_of_ble_eq_true rfl) dX0_ofTwo_95 ?_
    refine lv_topl (fun v_15 ev_15 => ?_)
    exact sk_lret hx hb hr hlocks hK hP hD hS (⟨ev_15.trans (kop_5 g_14 hc6), rfl⟩) (Nat.le_of_ble_eq_true rfl) (Nat.le_of_ble_eq_true rfl) dX0_ofTwo_98
  by_cases g_16 : nI (29999 + oc) = 30005
  · refine lv_tableIn (off := 98) (tgt := 99) hx hb dX0_ofTwo_1 (by rw [g_16]; decide) (by rw [g_16]; decide) (by rw [g_16]; rfl) (by decide) ?_
    refine lv_lload_n hx hb dX0_ofTwo_99 rfl (lv_at hl 1 rfl) ?_
    refine lv_lload_n hx hb dX0_ofTwo_100 rfl (lv_at hl 2 rfl) ?_
    refine va_mmax_long hx hb (by rw [hml]; exact hl.1.symm) hown (hts _ w_3_239) (hts _ w_4_0) (hts _ w_1_3) (hts _ w_4_1) (Nat.le_of_ble_eq_true rfl) (Nat.le_of_ble_eq_true rfl) (Nat.le_of_ble_eq_true rfl) (Nat.le_of_ble_eq_true rfl) dX0_ofTwo_101 ?_
    refine lv_topl (fun v_17 ev_17 => ?_)
    exact sk_lret hx hb hr hlocks hK hP hD hS (⟨ev_17.trans (kop_6 g_16 hc6), rfl⟩) (Nat.le_of_ble_eq_true rfl) (Nat.le_of_ble_eq_true rfl) dX0_ofTwo_104
  by_cases g_18 : nI (29999 + oc) = 30006
  · refine lv_tableIn (off := 104) (tgt := 105) hx hb dX0_ofTwo_1 (by rw [g_18]; decide) (by rw [g_18]; decide) (by rw [g_18]; rfl) (by decide) ?_
    refine lv_lload_n hx hb dX0_ofTwo_105 rfl (lv_at hl 1 rfl) ?_
    refine lv_lload_n hx hb dX0_ofTwo_106 rfl (lv_at hl 2 rfl) ?_
    refine W.lcmp hx hb dX0_ofTwo_107 ?_
    refine lv_if_ge (tgt := 115) hx hb dX0_ofTwo_108 (by decide) (fun c_19 => ?_) (fun c_19 => ?_)
    · skip
      refine lv_lconst (v := 0) hx hb dX0_ofTwo_115 (by decide) ?_
      exact sk_lret hx hb hr hlocks hK hP hD hS (⟨kop_x (k := 30006) g_18 hc6 (by decide) (by decide), rfl⟩) (Nat.le_of_ble_eq_true rfl) (Nat.le_of_ble_eq_true rfl) dX0_ofTwo_116
    · skip
      refine lv_lconst (v := 1) hx hb dX0_ofTwo_111 (by decide) ?_
      refine lv_goto (tgt := 116) hx hb dX0_ofTwo_112 (by decide) ?_
      exact sk_lret hx hb hr hlocks hK hP hD hS (⟨kop_x (k := 30006) g_18 hc6 (by decide) (by decide), rfl⟩) (Nat.le_of_ble_eq_true rfl) (Nat.le_of_ble_eq_true rfl) dX0_ofTwo_116
  by_cases g_20 : nI (29999 + oc) = 30007
  · refine lv_tableIn (off := 116) (tgt := 117) hx hb dX0_ofTwo_1 (by rw [g_20]; decide) (by rw [g_20]; decide) (by rw [g_20]; rfl) (by decide) ?_
    refine lv_lload_n hx hb dX0_ofTwo_117 rfl (lv_at hl 1 rfl) ?_
    refine lv_lload_n hx hb dX0_ofTwo_118 rfl (lv_at hl 2 rfl) ?_
    refine W.lcmp hx hb dX0_ofTwo_119 ?_
    refine lv_if_le (tgt := 127) hx hb dX0_ofTwo_120 (by decide) (fun c_21 => ?_) (fun c_21 => ?_)
    · skip
      refine lv_lconst (v := 0) hx hb dX0_ofTwo_127 (by decide) ?_
      exact sk_lret hx hb hr hlocks hK hP hD hS (⟨kop_x (k := 30007) g_20 hc6 (by decide) (by decide), rfl⟩) (Nat.le_of_ble_eq_true rfl) (Nat.le_of_ble_eq_true rfl) dX0_ofTwo_128
    · skip
      refine lv_lconst (v := 1) hx hb dX0_ofTwo_123 (by decide) ?_
      refine lv_goto (tgt := 128) hx hb dX0_ofTwo_124 (by decide) ?_
      exact sk_lret hx hb hr hlocks hK hP hD hS (⟨kop_x (k := 30007) g_20 hc6 (by decide) (by decide), rfl⟩) (Nat.le_of_ble_eq_true rfl) (Nat.le_of_ble_eq_true rfl) dX0_ofTwo_128
  by_cases g_22 : nI (29999 + oc) = 30008
  · refine lv_tableIn (off := 128) (tgt := 129) hx hb dX0_ofTwo_1 (by rw [g_22]; decide) (by rw [g_22]; decide) (by rw [g_22]; rfl) (by decide) ?_
    refine lv_lload_n hx hb dX0_ofTwo_129 rfl (lv_at hl 1 rfl) ?_
    refine lv_lload_n hx hb dX0_ofTwo_130 rfl (lv_at hl 2 rfl) ?_
    refine W.lcmp hx hb dX0_ofTwo_131 ?_
    refine lv_if_ne (tgt := 139) hx hb dX0_ofTwo_132 (by decide) (fun c_23 => ?_) (fun c_23 => ?_)
    · skip
      refine lv_lconst (v := 0) hx hb dX0_ofTwo_139 (by decide) ?_
      exact sk_lret hx hb hr hlocks hK hP hD hS (⟨kop_x (k := 30008) g_22 hc6 (by decide) (by decide), rfl⟩) (Nat.le_of_ble_eq_true rfl) (Nat.le_of_ble_eq_true rfl) dX0_ofTwo_140
    · skip
      refine lv_lconst (v := 1) hx hb dX0_ofTwo_135 (by decide) ?_
      refine lv_goto (tgt := 140) hx hb dX0_ofTwo_136 (by decide) ?_
      exact sk_lret hx hb hr hlocks hK hP hD hS (⟨kop_x (k := 30008) g_22 hc6 (by decide) (by decide), rfl⟩) (Nat.le_of_ble_eq_true rfl) (Nat.le_of_ble_eq_true rfl) dX0_ofTwo_140
  by_cases g_24 : nI (29999 + oc) = 30009
  · refine lv_tableIn (off := 140) (tgt := 141) hx hb dX0_ofTwo_1 (by rw [g_24]; decide) (by rw [g_24]; decide) (by rw [g_24]; rfl) (by decide) ?_
    refine lv_lload_n hx hb dX0_ofTwo_141 rfl (lv_at hl 1 rfl) ?_
    refine lv_lconst (v := 0) hx hb dX0_ofTwo_142 (by decide) ?_
    refine W.lcmp hx hb dX0_ofTwo_143 ?_
    refine lv_if_eq (tgt := 157) hx hb dX0_ofTwo_144 (by decide) (fun c_25 => ?_) (fun c_25 => ?_)
    · skip
      refine lv_lconst (v := 0) hx hb dX0_ofTwo_157 (by decide) ?_
      exact sk_lret hx hb hr hlocks hK hP hD hS (⟨kop_x (k := 30009) g_24 hc6 (by decide) (by decide), rfl⟩) (Nat.le_of_ble_eq_true rfl) (Nat.le_of_ble_eq_true rfl) dX0_ofTwo_158
    · skip
      refine lv_lload_n hx hb dX0_ofTwo_147 rfl (lv_at hl 2 rfl) ?_
      refine lv_lconst (v := 0) hx hb dX0_ofTwo_148 (by decide) ?_
      refine W.lcmp hx hb dX0_ofTwo_149 ?_
      refine lv_if_eq (tgt := 157) hx hb dX0_ofTwo_150 (by decide) (fun c_26 => ?_) (fun c_26 => ?_)
      · skip
        refine lv_lconst (v := 0) hx hb dX0_ofTwo_157 (by decide) ?_
        exact sk_lret hx hb hr hlocks hK hP hD hS (⟨kop_x (k := 30009) g_24 hc6 (by decide) (by decide), rfl⟩) (Nat.le_of_ble_eq_true rfl) (Nat.le_of_ble_eq_true rfl) dX0_ofTwo_158
      · skip
        refine lv_lconst (v := 1) hx hb dX0_ofTwo_153 (by decide) ?_
        refine lv_goto (tgt := 158) hx hb dX0_ofTwo_154 (by decide) ?_
        exact sk_lret hx hb hr hlocks hK hP hD hS (⟨kop_x (k := 30009) g_24 hc6 (by decide) (by decide), rfl⟩) (Nat.le_of_ble_eq_true rfl) (Nat.le_of_ble_eq_true rfl) dX0_ofTwo_158
  refine lv_tableOut (tgt := 159) hx hb dX0_ofTwo_1 (sk_out2 30000 30009 (by intro k hk1 hk2; rcases (show k = 30000 ∨ k = 30001 ∨ k = 30002 ∨ k = 30003 ∨ k = 30004 ∨ k = 30005 ∨ k = 30006 ∨ k = 30007 ∨ k = 30008 ∨ k = 30009 by omega) with rfl | rfl | rfl | rfl | rfl | rfl | rfl | rfl | rfl | rfl <;> assumption)) (by decide) ?_
  refine lv_lload_n hx hb dX0_ofTwo_159 rfl (lv_at hl 1 rfl) ?_
  refine lv_lconst (v := 0) hx hb dX0_ofTwo_160 (by decide) ?_
  refine W.lcmp hx hb dX0_ofTwo_161 ?_
  refine lv_if_ne (tgt := 171) hx hb dX0_ofTwo_162 (by decide) (fun c_27 => ?_) (fun c_27 => ?_)
  · skip
    refine lv_lconst (v := 1) hx hb dX0_ofTwo_171 (by decide) ?_
    refine lv_goto (tgt := 176) hx hb dX0_ofTwo_172 (by decide) ?_
    exact sk_lret hx hb hr hlocks hK hP hD hS (⟨(kop_f hc1 hc6 (by assumption) (by assumption) (by assumption) (by assumption) (by assumption) (by assumption)).elim, rfl⟩) (Nat.le_of_ble_eq_true rfl) (Nat.le_of_ble_eq_true rfl) dX0_ofTwo_176
  · skip
    refine lv_lload_n hx hb dX0_ofTwo_165 rfl (lv_at hl 2 rfl) ?_
    refine lv_lconst (v := 0) hx hb dX0_ofTwo_166 (by decide) ?_
    refine W.lcmp hx hb dX0_ofTwo_167 ?_
    refine lv_if_eq (tgt := 175) hx hb dX0_ofTwo_168 (by decide) (fun c_28 => ?_) (fun c_28 => ?_)
    · skip
      refine lv_lconst (v := 0) hx hb dX0_ofTwo_175 (by decide) ?_
      exact sk_lret hx hb hr hlocks hK hP hD hS (⟨(kop_f hc1 hc6 (by assumption) (by assumption) (by assumption) (by assumption) (by assumption) (by assumption)).elim, rfl⟩) (Nat.le_of_ble_eq_true rfl) (Nat.le_of_ble_eq_true rfl) dX0_ofTwo_176
    · skip
      refine lv_lconst (v := 1) hx hb dX0_ofTwo_171 (by decide) ?_
      refine lv_goto (tgt := 176) hx hb dX0_ofTwo_172 (by decide) ?_
      exact sk_lret hx hb hr hlocks hK hP hD hS (⟨(kop_f hc1 hc6 (by assumption) (by assumption) (by assumption) (by assumption) (by assumption) (by assumption)).elim, rfl⟩) (Nat.le_of_ble_eq_true rfl) (Nat.le_of_ble_eq_true rfl) dX0_ofTwo_176
theorem kx_k (k : Nat) : nI (10000 + k) - 10000 = nI k := by
  have h : nI (10000 + k) - nI 10000 = nI (10000 + k - 10000) := nsub (10000 + k) 10000 (by omega)
  rw [Nat.add_sub_cancel_left] at h
  exact h
set_option maxHeartbeats 4000000 in
set_option maxRecDepth 100000 in
theorem c_kCode_name (l : Launch) (D : va_G) (cI cJ cC cZ cS : ClassId) (h0 : Nat) (k1 : Nat) (k2 : Nat) (k3 : Nat) (k4 : Nat) (cl : Nat) (mw : Nat) (f3 : Nat → Int64) (o : Int32) (k : Nat) (x : Int64) (ho : o = nI (10000 + k)) (hk : k < 9) : skM l yX0_name cX0_name 5 none 0 0 0 0 D (skT cI cJ cC cZ cS) [.ref h0, .int o, .long x] [(h0, .inr (0, [.ref k1, .ref k2, .ref k3, .ref k4, .int (nI cl), .int (nI mw)])), (k3, .inl (cJ, 9, .inr (.inl f3)))] (skV D (skT cI cJ cC cZ cS) (fun (u : va_W) => ∃ (g3 : Nat → Int64), g3 = vp_updL f3 k x ∧ u = [(h0, .inr (0, [.ref k1, .ref k2, .ref k3, .ref k4, .int (nI cl), .int (nI mw)])), (k3, .inl (cJ, 9, .inr (.inl g3)))])) := by
  refine skM_of (by decide +kernel) (Nat.le_of_ble_eq_true rfl) ?_
  intro p e s m below meth c A ls E hP hD hl
  obtain ⟨hx, hb, hr, hml, hlocks, hin, hown, hts, hK, hA⟩ := E
  have hown : s.vm.findClass RX0 = some m.cls := hown
  have hS : va_S A s.heap s.heap [] := va_S.rf
  have hl : lv_has ls 5 [(0, .ref h0), (1, .int o), (2, .long x)] := hl
  refine lv_iload_n hx hb dX0_name_0 rfl (lv_at hl 1 rfl) ?_
  refine lv_sipush (v := 10000) hx hb dX0_name_1 (by decide) ?_
  refine lv_isub hx hb dX0_name_4 ?_
  refine sk_top (nI k) (by rw [ho]; exact kx_k k) ?_
  refine lv_istore (lv' := [(4, .int (nI k)), (0, .ref h0), (1, .int o), (2, .long x)]) hx hb dX0_name_5 hl (by decide) rfl (fun ls hl => ?_)
  refine lv_iload hx hb dX0_name_7 (lv_at hl 0 rfl) ?_
  refine lv_if_lt (tgt := 27) hx hb dX0_name_9 (by decide) (fun c => absurd c (nI_pos (by omega))) (fun c_1 => ?_)
  refine lv_iload hx hb dX0_name_12 (lv_at hl 0 rfl) ?_
  refine lv_bipush (v := 9) hx hb dX0_name_14 (by decide) ?_
  refine lv_icmp_ge (tgt := 27) hx hb dX0_name_16 (by decide) (fun c => absurd ((nle 9 k (by omega) (by omega)).mp c) (by omega)) (fun c_2 => ?_)
  refine lv_aload_n hx hb dX0_name_19 rfl (lv_at hl 1 rfl) ?_
  refine sk_get (v := .ref k3) (C := RX0) (T := TX0) (N := 6) hx hb hts inlX0 hown hK hP 0 rfl rfl 2 (by decide) w_1_131 rfl dX0_name_20 ?_
  refine lv_iload hx hb dX0_name_23 (lv_at hl 0 rfl) ?_
  refine lv_lload_n hx hb dX0_name_25 rfl (lv_at hl 3 rfl) ?_
  refine sk_lastE (k := k) (ws' := fun f_3 => [(h0, .inr (0, [.ref k1, .ref k2, .ref k3, .ref k4, .int (nI cl), .int (nI mw)])), (k3, .inl (cJ, 9, .inr (.inl f_3)))]) hx hb hK hP hD hS 1 1 rfl rfl (by omega) (by omega) (fun _ => rfl) dX0_name_26 (fun f_3 H locs ef_4 hP hD hS => ?_)
  exact sk_vret hx hb hr hlocks hK hP hD hS (⟨f_3, ef_4, rfl⟩) (Nat.le_of_ble_eq_true rfl) (Nat.le_of_ble_eq_true rfl) dX0_name_27
theorem kx_max (a : Nat) (h : a < 2147483648) : (if nI a < 0 then 0 else nI a) = nI a := if_neg (nI_pos h)
set_option maxHeartbeats 4000000 in
set_option maxRecDepth 100000 in
theorem c_kCode_run (l : Launch) (D : va_G) (cI cJ cC cZ cS : ClassId) (h0 : Nat) (k1 : Nat) (k2 : Nat) (k3 : Nat) (k4 : Nat) (cl : Nat) (mw : Nat) (f1 : Nat → Int32) (f2 : Nat → Int64) (f3 : Nat → Int64) (f4 : Nat → Int64) (a : Nat) (b : Nat) (K : List Nat) (nm : Nat → Int64) (v : Int64) (kn : Nat) (hcl : cl ≤ 1600) (hmw : mw ≤ 1) (hkl : cl = K.length) (hcd : cdK K cl mw f1) (hab : a ≤ b) (hbk : b ≤ K.length) (hkn : kn < 2) (hns : kcNs kn (kcSub K (a, b))) (hnm : ∀ j, j < 7 → f3 j = nm j) (hex : kcEx nm 64 (kcSub K (a, b)) [] = some [v]) : skM l yX0_run cX0_run 7 (some .long) 2 49 0 0 D (skT cI cJ cC cZ cS) [.ref h0, .int (nI a), .int (nI b)] [(h0, .inr (0, [.ref k1, .ref k2, .ref k3, .ref k4, .int (nI cl), .int (nI mw)])), (k1, .inl (cI, 1600, .inl f1)), (k2, .inl (cJ, 64, .inr (.inl f2))), (k3, .inl (cJ, 9, .inr (.inl f3))), (k4, .inl (cJ, 10, .inr (.inl f4)))] (skL D (skT cI cJ cC cZ cS) (fun (r : Int64) (u : va_W) => ∃ (g2 : Nat → Int64), r = v ∧ u = [(h0, .inr (0, [.ref k1, .ref k2, .ref k3, .ref k4, .int (nI cl), .int (nI mw)])), (k1, .inl (cI, 1600, .inl f1)), (k2, .inl (cJ, 64, .inr (.inl g2))), (k3, .inl (cJ, 9, .inr (.inl f3))), (k4, .inl (cJ, 10, .inr (.inl f4)))])) := by
  refine skM_of (by decide +kernel) (Nat.le_of_ble_eq_true rfl) ?_
  intro p e s m below meth c A ls E hP hD hl
  obtain ⟨hx, hb, hr, hml, hlocks, hin, hown, hts, hK, hA⟩ := E
  have hown : s.vm.findClass RX0 = some m.cls := hown
  have hS : va_S A s.heap s.heap [] := va_S.rf
  have hl : lv_has ls 7 [(0, .ref h0), (1, .int (nI a)), (2, .int (nI b))] := hl
  refine lv_iconst (v := 0) hx hb dX0_run_0 (by decide) ?_
  refine lv_istore_n (lv' := [(3, .int 0), (0, .ref h0), (1, .int (nI a)), (2, .int (nI b))]) hx hb dX0_run_1 rfl hl (by decide) rfl (fun ls hl => ?_)
  refine lv_iload_n hx hb dX0_run_2 rfl (lv_at hl 2 rfl) ?_
  refine lv_iconst (v := 0) hx hb dX0_run_3 (by decide) ?_
  refine va_mmax hx hb (by rw [hml]; exact hl.1.symm) hown (hts _ w_3_224) (hts _ w_1_37) (hts _ w_1_3) (hts _ w_1_38) (Nat.le_of_ble_eq_true rfl) (Nat.le_of_ble_eq_true rfl) (Nat.le_of_ble_eq_true rfl) (Nat.le_of_ble_eq_true rfl) dX0_run_4 ?_
  refine sk_top (nI a) (kx_max a (by omega)) ?_
  refine lv_istore (lv' := [(4, .int (nI a)), (3, .int 0), (0, .ref h0), (1, .int (nI a)), (2, .int (nI b))]) hx hb dX0_run_7 hl (by decide) rfl (fun ls hl => ?_)
  have lp_1 : ∀ (n_2 : Nat) (i : Nat) (tp : Nat) (fs : Nat → Int64) (SS : List Int64) (H : Heap) (locs : List Loc) (ls : Array Slot), cl - i < n_2 → (i ≤ 1600) → (a ≤ i) → (i ≤ b) → (tp = SS.length) → (tp ≤ 64) → (stkO fs SS) → (kcNs kn (kcSub K (i, b))) → (kcEx nm 64 (kcSub K (i, b)) SS = some [v]) → va_P D vwCl [(h0, .inr (0, [.ref k1, .ref k2, .ref k3, .ref k4, .int (nI cl), .int (nI mw)])), (k1, .inl (cI, 1600, .inl f1)), (k2, .inl (cJ, 64, .inr (.inl fs))), (k3, .inl (cJ, 9, .inr (.inl f3))), (k4, .inl (cJ, 10, .inr (.inl f4)))] H → va_D A [(h0, .inr (0, [.ref k1, .ref k2, .ref k3, .ref k4, .int (nI cl), .int (nI mw)])), (k1, .inl (cI, 1600, .inl f1)), (k2, .inl (cJ, 64, .inr (.inl fs))), (k3, .inl (cJ, 9, .inr (.inl f3))), (k4, .inl (cJ, 10, .inr (.inl f4)))] → va_S A s.heap H locs → lv_has ls 7 [(4, .int (nI i)), (3, .int (nI tp)), (0, .ref h0), (1, .int (nI a)), (2, .int (nI b))] → W p l e { frames := 2, cells := 0, slots := 0, locals := 49 } s m ([.ref h0, .int (nI a), .int (nI b)] : List Value).toArray below meth c H locs 0 0 (MQ below (skL D (skT cI cJ cC cZ cS) (fun (r : Int64) (u : va_W) => ∃ (g2 : Nat → Int64), r = v ∧ u = [(h0, .inr (0, [.ref k1, .ref k2, .ref k3, .ref k4, .int (nI cl), .int (nI mw)])), (k1, .inl (cI, 1600, .inl f1)), (k2, .inl (cJ, 64, .inr (.inl g2))), (k3, .inl (cJ, 9, .inr (.inl f3))), (k4, .inl (cJ, 10, .inr (.inl f4)))]) A) ([.ref h0, .int (nI a), .int (nI b)] : List Value).toArray s 0 0 A) (F0 m 9 ls []) := by
    intro n_2
    induction n_2 with
    | zero => intro i tp fs SS H locs ls hm; exact absurd hm (Nat.not_lt_zero _)
    | succ n_2 ih_lp_1 =>
      intro i tp fs SS H locs ls hm hi hai hib0 htp htp64 hst hns2 hex2 hP hD hS hl
      refine lv_iload hx hb dX0_run_9 (lv_at hl 0 rfl) ?_
      refine lv_iload_n hx hb dX0_run_11 rfl (lv_at hl 4 rfl) ?_
      refine lv_icmp_ge (tgt := 173) hx hb dX0_run_12 (by decide) (fun c_3 => ?_) (fun c_3 => ?_)
      · have c_3 : b ≤ i := (nle b i (by omega) (by omega)).mp c_3
        obtain rfl := kx_end hex2 (by omega)
        have htp3 : tp = 1 := htp
        refine lv_iload_n hx hb dX0_run_173 rfl (lv_at hl 1 rfl) ?_
        refine lv_if_le (tgt := 186) hx hb dX0_run_174 (by decide) (fun c => absurd c (npos_le (by omega) (by omega))) (fun c_4 => ?_)
        refine lv_aload_n hx hb dX0_run_177 rfl (lv_at hl 2 rfl) ?_
        refine sk_get (v := .ref k2) (C := RX0) (T := TX0) (N := 6) hx hb hts inlX0 hown hK hP 0 rfl rfl 1 (by decide) w_1_130 rfl dX0_run_178 ?_
        refine lv_iconst (v := 0) hx hb dX0_run_181 (by decide) ?_
        refine va_lald hx hb hK.1 hP 2 1 rfl rfl (by unfold vp_in; decide) dX0_run_182 ?_
        refine sk_topl v (hst.1) ?_
        refine lv_goto (tgt := 187) hx hb dX0_run_183 (by decide) ?_
        exact sk_lret hx hb hr hlocks hK hP hD hS (⟨fs, rfl, rfl⟩) (Nat.le_of_ble_eq_true rfl) (Nat.le_of_ble_eq_true rfl) dX0_run_187
      · have c_3 : ¬ (b ≤ i) := fun h => c_3 ((nle b i (by omega) (by omega)).mpr h)
        refine lv_iload hx hb dX0_run_15 (lv_at hl 0 rfl) ?_
        refine lv_aload_n hx hb dX0_run_17 rfl (lv_at hl 2 rfl) ?_
        refine sk_get (v := .int (nI cl)) (C := RX0) (T := TX0) (N := 6) hx hb hts inlX0 hown hK hP 0 rfl rfl 4 (by decide) w_1_133 rfl dX0_run_18 ?_
        refine lv_icmp_ge (tgt := 173) hx hb dX0_run_21 (by decide) (fun c => absurd ((nle cl i (by omega) (by omega)).mp c) (by omega)) (fun c_5 => ?_)
        have hib : i < b := by omega
        have hld : f1 (nI i).toNatClampNeg = cm (K.getD i 0) := by rw [nI_clamp (by omega)]; exact hcd.2.2 i (by omega)
        rw [kcSub_c hib (by omega)] at hex2 hns2
        generalize K.getD i 0 = cq at hex2 hns2 hld
        have hns3 : kcNs kn (kcSub K (i + 1, b)) := fun x hx => hns2 x (List.mem_cons_of_mem _ hx)
        obtain ⟨T, hT1, hT2, hT3⟩ := kcEx_c hex2
        rcases kx_cls hkn (hns2 cq (List.mem_cons_self ..)) with ⟨hc1, hc2, hcm⟩ | ⟨hc1, hc2, hcm⟩ | ⟨hc1, hc2, hcm⟩
        · obtain ⟨b1, a1, R1, rfl, rfl⟩ := kcSt_two (by omega) hT1
          have htp2 : tp = R1.length + 2 := htp
          refine lv_aload_n hx hb dX0_run_24 rfl (lv_at hl 2 rfl) ?_
          refine sk_get (v := .ref k1) (C := RX0) (T := TX0) (N := 6) hx hb hts inlX0 hown hK hP 0 rfl rfl 0 (by decide) w_1_129 rfl dX0_run_25 ?_
          refine lv_iload hx hb dX0_run_28 (lv_at hl 0 rfl) ?_
          refine va_iald hx hb hK.1 hP 1 0 rfl rfl (vin i 1600 (by omega) (by omega)) dX0_run_30 ?_
          refine sk_top (nI (29999 + cq)) (by rw [hld]; exact hcm) ?_
          refine lv_istore (lv' := [(5, .int (nI (29999 + cq))), (4, .int (nI i)), (3, .int (nI tp)), (0, .ref h0), (1, .int (nI a)), (2, .int (nI b))]) hx hb dX0_run_31 hl (by decide) rfl (fun ls hl => ?_)
          refine lv_iload hx hb dX0_run_33 (lv_at hl 0 rfl) ?_
          refine lv_sipush (v := 30000) hx hb dX0_run_35 (by decide) ?_
          refine lv_icmp_lt (tgt := 79) hx hb dX0_run_38 (by decide) (fun c => absurd ((nlt (29999 + cq) 30000 (by omega) (by omega)).mp c) (by omega)) (fun c_6 => ?_)
          refine lv_iload_n hx hb dX0_run_41 rfl (lv_at hl 2 rfl) ?_
          refine lv_iconst (v := 1) hx hb dX0_run_42 (by decide) ?_
          refine lv_icmp_le (tgt := 167) hx hb dX0_run_43 (by decide) (fun c => absurd ((nle tp 1 (by omega) (by omega)).mp c) (by omega)) (fun c_7 => ?_)
          refine lv_iinc (v := nI (tp - 1)) (lv' := [(3, .int (nI (tp - 1))), (5, .int (nI (29999 + cq))), (4, .int (nI i)), (0, .ref h0), (1, .int (nI a)), (2, .int (nI b))]) hx hb dX0_run_46 hl (k := 2) rfl (ndec1 tp (by omega)) (by decide) rfl (fun ls hl => ?_)
          refine lv_aload_n hx hb dX0_run_49 rfl (lv_at hl 3 rfl) ?_
          refine sk_get (v := .ref k2) (C := RX0) (T := TX0) (N := 6) hx hb hts inlX0 hown hK hP 0 rfl rfl 1 (by decide) w_1_130 rfl dX0_run_50 ?_
          refine lv_iload_n hx hb dX0_run_53 rfl (lv_at hl 0 rfl) ?_
          refine lv_iconst (v := 1) hx hb dX0_run_54 (by decide) ?_
          refine lv_isub hx hb dX0_run_55 ?_
          refine sk_top (nI (tp - 1 - 1)) (nsub (tp - 1) 1 (by omega)) ?_
          refine lv_iload hx hb dX0_run_56 (lv_at hl 1 rfl) ?_
          refine lv_aload_n hx hb dX0_run_58 rfl (lv_at hl 3 rfl) ?_
          refine sk_get (v := .ref k2) (C := RX0) (T := TX0) (N := 6) hx hb hts inlX0 hown hK hP 0 rfl rfl 1 (by decide) w_1_130 rfl dX0_run_59 ?_
          refine lv_iload_n hx hb dX0_run_62 rfl (lv_at hl 0 rfl) ?_
          refine lv_iconst (v := 1) hx hb dX0_run_63 (by decide) ?_
          refine lv_isub hx hb dX0_run_64 ?_
          refine sk_top (nI (tp - 1 - 1)) (nsub (tp - 1) 1 (by omega)) ?_
          refine va_lald hx hb hK.1 hP 2 1 rfl rfl (vin (tp - 1 - 1) 64 (by omega) (by omega)) dX0_run_65 ?_
          refine sk_topl a1 (stk_a hst (by omega) (by omega)) ?_
          refine lv_aload_n hx hb dX0_run_66 rfl (lv_at hl 3 rfl) ?_
          refine sk_get (v := .ref k2) (C := RX0) (T := TX0) (N := 6) hx hb hts inlX0 hown hK hP 0 rfl rfl 1 (by decide) w_1_130 rfl dX0_run_67 ?_
          refine lv_iload_n hx hb dX0_run_70 rfl (lv_at hl 0 rfl) ?_
          refine va_lald hx hb hK.1 hP 2 1 rfl rfl (vin (tp - 1) 64 (by omega) (by omega)) dX0_run_71 ?_
          refine sk_topl b1 (stk_b hst (by omega) (by omega)) ?_
          refine sk_Sl (n := 3) (rest := [.int (nI (tp - 1 - 1)), .ref k2]) (wr := [(h0, .inr (0, [.ref k1, .ref k2, .ref k3, .ref k4, .int (nI cl), .int (nI mw)])), (k1, .inl (cI, 1600, .inl f1)), (k2, .inl (cJ, 64, .inr (.inl fs))), (k3, .inl (cJ, 9, .inr (.inl f3))), (k4, .inl (cJ, 10, .inr (.inl f4)))]) ⟨hx, hb, hml, hown, hts⟩ hl.1 (c_kofTwo l D cI cJ cC cZ cS cq a1 b1 (by omega) (by omega)) w_3_225 w_3_226 w_1_8 w_3_227 (by decide +kernel) ⟨⟨(Nat.le_of_ble_eq_true rfl), (Nat.le_of_ble_eq_true rfl)⟩, (Nat.le_of_ble_eq_true rfl), (Nat.le_of_ble_eq_true rfl)⟩ hK hP hD hS hA [] [0, 1, 2, 3, 4] rfl rfl (by decide +kernel) (by decide +kernel) (by decide +kernel) rfl rfl (Nat.le_of_ble_eq_true rfl) dX0_run_72 (fun r_8 u H locs hw hP hD hS => ?_)
          obtain ⟨hr_9, rfl⟩ := hw
          have hP : va_P D vwCl [(h0, .inr (0, [.ref k1, .ref k2, .ref k3, .ref k4, .int (nI cl), .int (nI mw)])), (k1, .inl (cI, 1600, .inl f1)), (k2, .inl (cJ, 64, .inr (.inl fs))), (k3, .inl (cJ, 9, .inr (.inl f3))), (k4, .inl (cJ, 10, .inr (.inl f4)))] H := hP
          have hD : va_D A [(h0, .inr (0, [.ref k1, .ref k2, .ref k3, .ref k4, .int (nI cl), .int (nI mw)])), (k1, .inl (cI, 1600, .inl f1)), (k2, .inl (cJ, 64, .inr (.inl fs))), (k3, .inl (cJ, 9, .inr (.inl f3))), (k4, .inl (cJ, 10, .inr (.inl f4)))] := hD
          subst hr_9
          refine sk_lastE (k := (tp - 1 - 1)) (ws' := fun f_10 => [(h0, .inr (0, [.ref k1, .ref k2, .ref k3, .ref k4, .int (nI cl), .int (nI mw)])), (k1, .inl (cI, 1600, .inl f1)), (k2, .inl (cJ, 64, .inr (.inl f_10))), (k3, .inl (cJ, 9, .inr (.inl f3))), (k4, .inl (cJ, 10, .inr (.inl f4)))]) hx hb hK hP hD hS 2 1 rfl rfl (by omega) (by omega) (fun _ => rfl) dX0_run_75 (fun f_10 H locs ef_11 hP hD hS => ?_)
          have hs_12 := stk_op hst (by omega) ef_11
          refine lv_goto (tgt := 167) hx hb dX0_run_76 (by decide) ?_
          refine lv_iinc (v := nI (i + 1)) (lv' := [(4, .int (nI (i + 1))), (3, .int (nI (tp - 1))), (5, .int (nI (29999 + cq))), (0, .ref h0), (1, .int (nI a)), (2, .int (nI b))]) hx hb dX0_run_167 hl (k := 2) rfl (ninc i 1 (by decide)) (by decide) rfl (fun ls hl => ?_)
          refine lv_goto (tgt := 9) hx hb dX0_run_170 (by decide) ?_
          exact ih_lp_1 (i + 1) (tp - 1) f_10 (kcOp cq a1 b1 :: R1) _ _ _ (by omega) (by omega) (by omega) (by omega) (show _ = R1.length + 1 by omega) (by omega) hs_12 hns3 hT3 hP hD hS (lv_sub hl [0, 1, 3, 4, 5] rfl)
        · rw [kcSt_num (by omega)] at hT1
          obtain rfl := Option.some.inj hT1
          have htp2 : SS.length + 1 ≤ 64 := hT2
          refine lv_aload_n hx hb dX0_run_24 rfl (lv_at hl 2 rfl) ?_
          refine sk_get (v := .ref k1) (C := RX0) (T := TX0) (N := 6) hx hb hts inlX0 hown hK hP 0 rfl rfl 0 (by decide) w_1_129 rfl dX0_run_25 ?_
          refine lv_iload hx hb dX0_run_28 (lv_at hl 0 rfl) ?_
          refine va_iald hx hb hK.1 hP 1 0 rfl rfl (vin i 1600 (by omega) (by omega)) dX0_run_30 ?_
          refine sk_top (nI (cq - 1000)) (by rw [hld]; exact hcm) ?_
          refine lv_istore (lv' := [(5, .int (nI (cq - 1000))), (4, .int (nI i)), (3, .int (nI tp)), (0, .ref h0), (1, .int (nI a)), (2, .int (nI b))]) hx hb dX0_run_31 hl (by decide) rfl (fun ls hl => ?_)
          refine lv_iload hx hb dX0_run_33 (lv_at hl 0 rfl) ?_
          refine lv_sipush (v := 30000) hx hb dX0_run_35 (by decide) ?_
          refine lv_icmp_lt (tgt := 79) hx hb dX0_run_38 (by decide) (fun c_13 => ?_) (fun c => absurd ((nlt (cq - 1000) 30000 (by omega) (by omega)).mpr (by omega)) c)
          refine lv_iload hx hb dX0_run_79 (lv_at hl 0 rfl) ?_
          refine lv_sipush (v := 20000) hx hb dX0_run_81 (by decide) ?_
          refine lv_icmp_lt (tgt := 116) hx hb dX0_run_84 (by decide) (fun c_14 => ?_) (fun c => absurd ((nlt (cq - 1000) 20000 (by omega) (by omega)).mpr (by omega)) c)
          refine lv_iload_n hx hb dX0_run_116 rfl (lv_at hl 2 rfl) ?_
          refine lv_aload_n hx hb dX0_run_117 rfl (lv_at hl 3 rfl) ?_
          refine sk_get (v := .ref k2) (C := RX0) (T := TX0) (N := 6) hx hb hts inlX0 hown hK hP 0 rfl rfl 1 (by decide) w_1_130 rfl dX0_run_118 ?_
          refine va_alen (v := 64) hx hb hK.1 hP 2 1 rfl rfl rfl dX0_run_121 ?_
          refine lv_icmp_ge (tgt := 167) hx hb dX0_run_122 (by decide) (fun c => absurd ((nle 64 tp (by omega) (by omega)).mp c) (by omega)) (fun c_15 => ?_)
          refine lv_iload hx hb dX0_run_125 (lv_at hl 0 rfl) ?_
          refine lv_sipush (v := 10000) hx hb dX0_run_127 (by decide) ?_
          refine lv_isub hx hb dX0_run_130 ?_
          refine lv_istore (lv' := [(6, .int (nI (cq - 1000) - 10000)), (5, .int (nI (cq - 1000))), (4, .int (nI i)), (3, .int (nI tp)), (0, .ref h0), (1, .int (nI a)), (2, .int (nI b))]) hx hb dX0_run_131 hl (by decide) rfl (fun ls hl => ?_)
          refine lv_aload_n hx hb dX0_run_133 rfl (lv_at hl 4 rfl) ?_
          refine sk_get (v := .ref k2) (C := RX0) (T := TX0) (N := 6) hx hb hts inlX0 hown hK hP 0 rfl rfl 1 (by decide) w_1_130 rfl dX0_run_134 ?_
          refine lv_iload_n hx hb dX0_run_137 rfl (lv_at hl 3 rfl) ?_
          refine lv_iload hx hb dX0_run_138 (lv_at hl 0 rfl) ?_
          refine lv_if_lt (tgt := 160) hx hb dX0_run_140 (by decide) (fun c_16 => ?_) (fun c => absurd (kx_neg (by omega)) c)
          refine lv_iload hx hb dX0_run_160 (lv_at hl 1 rfl) ?_
          refine lv_i2l hx hb dX0_run_162 rfl ?_
          refine sk_lastE (k := tp) (ws' := fun f_17 => [(h0, .inr (0, [.ref k1, .ref k2, .ref k3, .ref k4, .int (nI cl), .int (nI mw)])), (k1, .inl (cI, 1600, .inl f1)), (k2, .inl (cJ, 64, .inr (.inl f_17))), (k3, .inl (cJ, 9, .inr (.inl f3))), (k4, .inl (cJ, 10, .inr (.inl f4)))]) hx hb hK hP hD hS 2 1 rfl rfl (by omega) (by omega) (fun _ => rfl) dX0_run_163 (fun f_17 H locs ef_18 hP hD hS => ?_)
          have hs_19 := stk_push hst htp ef_18 (kx_i2l (by omega))
          refine lv_iinc (v := nI (tp + 1)) (lv' := [(3, .int (nI (tp + 1))), (6, .int (nI (cq - 1000) - 10000)), (5, .int (nI (cq - 1000))), (4, .int (nI i)), (0, .ref h0), (1, .int (nI a)), (2, .int (nI b))]) hx hb dX0_run_164 hl (k := 3) rfl (ninc tp 1 (by decide)) (by decide) rfl (fun ls hl => ?_)
          refine lv_iinc (v := nI (i + 1)) (lv' := [(4, .int (nI (i + 1))), (3, .int (nI (tp + 1))), (6, .int (nI (cq - 1000) - 10000)), (5, .int (nI (cq - 1000))), (0, .ref h0), (1, .int (nI a)), (2, .int (nI b))]) hx hb dX0_run_167 hl (k := 3) rfl (ninc i 1 (by decide)) (by decide) rfl (fun ls hl => ?_)
          refine lv_goto (tgt := 9) hx hb dX0_run_170 (by decide) ?_
          exact ih_lp_1 (i + 1) (tp + 1) f_17 (Int64.ofNat (cq - 1000) :: SS) _ _ _ (by omega) (by omega) (by omega) (by omega) (show _ = SS.length + 1 by omega) (by omega) hs_19 hns3 hT3 hP hD hS (lv_sub hl [0, 1, 4, 5, 6] rfl)
        · rw [kcSt_nm (by omega) (by omega)] at hT1
          obtain rfl := Option.some.inj hT1
          have htp2 : SS.length + 1 ≤ 64 := hT2
          refine lv_aload_n hx hb dX0_run_24 rfl (lv_at hl 2 rfl) ?_
          refine sk_get (v := .ref k1) (C := RX0) (T := TX0) (N := 6) hx hb hts inlX0 hown hK hP 0 rfl rfl 0 (by decide) w_1_129 rfl dX0_run_25 ?_
          refine lv_iload hx hb dX0_run_28 (lv_at hl 0 rfl) ?_
          refine va_iald hx hb hK.1 hP 1 0 rfl rfl (vin i 1600 (by omega) (by omega)) dX0_run_30 ?_
          refine sk_top (nI (9960 + cq)) (by rw [hld]; exact hcm) ?_
          refine lv_istore (lv' := [(5, .int (nI (9960 + cq))), (4, .int (nI i)), (3, .int (nI tp)), (0, .ref h0), (1, .int (nI a)), (2, .int (nI b))]) hx hb dX0_run_31 hl (by decide) rfl (fun ls hl => ?_)
          refine lv_iload hx hb dX0_run_33 (lv_at hl 0 rfl) ?_
          refine lv_sipush (v := 30000) hx hb dX0_run_35 (by decide) ?_
          refine lv_icmp_lt (tgt := 79) hx hb dX0_run_38 (by decide) (fun c_20 => ?_) (fun c => absurd ((nlt (9960 + cq) 30000 (by omega) (by omega)).mpr (by omega)) c)
          refine lv_iload hx hb dX0_run_79 (lv_at hl 0 rfl) ?_
          refine lv_sipush (v := 20000) hx hb dX0_run_81 (by decide) ?_
          refine lv_icmp_lt (tgt := 116) hx hb dX0_run_84 (by decide) (fun c_21 => ?_) (fun c => absurd ((nlt (9960 + cq) 20000 (by omega) (by omega)).mpr (by omega)) c)
          refine lv_iload_n hx hb dX0_run_116 rfl (lv_at hl 2 rfl) ?_
          refine lv_aload_n hx hb dX0_run_117 rfl (lv_at hl 3 rfl) ?_
          refine sk_get (v := .ref k2) (C := RX0) (T := TX0) (N := 6) hx hb hts inlX0 hown hK hP 0 rfl rfl 1 (by decide) w_1_130 rfl dX0_run_118 ?_
          refine va_alen (v := 64) hx hb hK.1 hP 2 1 rfl rfl rfl dX0_run_121 ?_
          refine lv_icmp_ge (tgt := 167) hx hb dX0_run_122 (by decide) (fun c => absurd ((nle 64 tp (by omega) (by omega)).mp c) (by omega)) (fun c_22 => ?_)
          refine lv_iload hx hb dX0_run_125 (lv_at hl 0 rfl) ?_
          refine lv_sipush (v := 10000) hx hb dX0_run_127 (by decide) ?_
          refine lv_isub hx hb dX0_run_130 ?_
          refine sk_top (nI (9960 + cq - 10000)) (nsub (9960 + cq) 10000 (by omega)) ?_
          refine lv_istore (lv' := [(6, .int (nI (9960 + cq - 10000))), (5, .int (nI (9960 + cq))), (4, .int (nI i)), (3, .int (nI tp)), (0, .ref h0), (1, .int (nI a)), (2, .int (nI b))]) hx hb dX0_run_131 hl (by decide) rfl (fun ls hl => ?_)
          refine lv_aload_n hx hb dX0_run_133 rfl (lv_at hl 4 rfl) ?_
          refine sk_get (v := .ref k2) (C := RX0) (T := TX0) (N := 6) hx hb hts inlX0 hown hK hP 0 rfl rfl 1 (by decide) w_1_130 rfl dX0_run_134 ?_
          refine lv_iload_n hx hb dX0_run_137 rfl (lv_at hl 3 rfl) ?_
          refine lv_iload hx hb dX0_run_138 (lv_at hl 0 rfl) ?_
          refine lv_if_lt (tgt := 160) hx hb dX0_run_140 (by decide) (fun c => absurd c (nI_pos (by omega))) (fun c_23 => ?_)
          refine lv_iload hx hb dX0_run_143 (lv_at hl 0 rfl) ?_
          refine lv_bipush (v := 9) hx hb dX0_run_145 (by decide) ?_
          refine lv_icmp_ge (tgt := 160) hx hb dX0_run_147 (by decide) (fun c => absurd ((nle 9 (9960 + cq - 10000) (by omega) (by omega)).mp c) (by omega)) (fun c_24 => ?_)
          refine lv_aload_n hx hb dX0_run_150 rfl (lv_at hl 4 rfl) ?_
          refine sk_get (v := .ref k3) (C := RX0) (T := TX0) (N := 6) hx hb hts inlX0 hown hK hP 0 rfl rfl 2 (by decide) w_1_131 rfl dX0_run_151 ?_
          refine lv_iload hx hb dX0_run_154 (lv_at hl 0 rfl) ?_
          refine va_lald hx hb hK.1 hP 3 1 rfl rfl (vin (9960 + cq - 10000) 9 (by omega) (by omega)) dX0_run_156 ?_
          refine sk_topl (nm (cq - 40)) (by rw [nI_clamp (by omega), show 9960 + cq - 10000 = cq - 40 by omega]; exact hnm _ (by omega)) ?_
          refine lv_goto (tgt := 163) hx hb dX0_run_157 (by decide) ?_
          refine sk_lastE (k := tp) (ws' := fun f_25 => [(h0, .inr (0, [.ref k1, .ref k2, .ref k3, .ref k4, .int (nI cl), .int (nI mw)])), (k1, .inl (cI, 1600, .inl f1)), (k2, .inl (cJ, 64, .inr (.inl f_25))), (k3, .inl (cJ, 9, .inr (.inl f3))), (k4, .inl (cJ, 10, .inr (.inl f4)))]) hx hb hK hP hD hS 2 1 rfl rfl (by omega) (by omega) (fun _ => rfl) dX0_run_163 (fun f_25 H locs ef_26 hP hD hS => ?_)
          have hs_27 := stk_push hst htp ef_26 rfl
          refine lv_iinc (v := nI (tp + 1)) (lv' := [(3, .int (nI (tp + 1))), (6, .int (nI (9960 + cq - 10000))), (5, .int (nI (9960 + cq))), (4, .int (nI i)), (0, .ref h0), (1, .int (nI a)), (2, .int (nI b))]) hx hb dX0_run_164 hl (k := 3) rfl (ninc tp 1 (by decide)) (by decide) rfl (fun ls hl => ?_)
          refine lv_iinc (v := nI (i + 1)) (lv' := [(4, .int (nI (i + 1))), (3, .int (nI (tp + 1))), (6, .int (nI (9960 + cq - 10000))), (5, .int (nI (9960 + cq))), (0, .ref h0), (1, .int (nI a)), (2, .int (nI b))]) hx hb dX0_run_167 hl (k := 3) rfl (ninc i 1 (by decide)) (by decide) rfl (fun ls hl => ?_)
          refine lv_goto (tgt := 9) hx hb dX0_run_170 (by decide) ?_
          exact ih_lp_1 (i + 1) (tp + 1) f_25 (nm (cq - 40) :: SS) _ _ _ (by omega) (by omega) (by omega) (by omega) (show _ = SS.length + 1 by omega) (by omega) hs_27 hns3 hT3 hP hD hS (lv_sub hl [0, 1, 4, 5, 6] rfl)
  exact lp_1 (cl - a + 1) a 0 f2 ([]) _ _ _ (Nat.lt_succ_self _) (by omega) (by omega) (by omega) rfl (by omega) True.intro hns hex hP hD hS (lv_sub hl [0, 1, 2, 3, 4] rfl)
