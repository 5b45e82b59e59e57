theorem fmF_R : ∀ (m : List Bool) (X Y : va_W) (k : Nat), m.length = X.length → (∀ j, j < X.length → Y[k + j]? = X[j]?) → (fmF m k).map (fun i => Y[i]?) = (fmR m X).map some
  | [], [], Y, k, _, _ => rfl
  | [], _ :: _, Y, k, h, _ => absurd h (by rw [List.length_nil, List.length_cons]; omega)
  | _ :: _, [], Y, k, h, _ => absurd h (by rw [List.length_nil, List.length_cons]; omega)
  | false :: m, x :: X, Y, k, h, hY => by
    have h0 : Y[k]? = some x := hY 0 (by rw [List.length_cons]; omega)
    have h1 := fmF_R m X Y (k + 1) (by rw [List.length_cons, List.length_cons] at h; omega) (fm_sh hY)
    show Y[k]? :: (fmF m (k + 1)).map (fun i => Y[i]?) = some x :: (fmR m X).map some
    rw [h0, h1]
  | true :: m, x :: X, Y, k, h, hY => by
    have h1 := fmF_R m X Y (k + 1) (by rw [List.length_cons, List.length_cons] at h; omega) (fm_sh hY)
    show (fmF m (k + 1)).map (fun i => Y[i]?) = (fmR m X).map some
    exact h1
theorem fm_R {m : List Bool} {X wr : va_W} (hl : m.length = X.length) (hR : fmR m X = wr) : (fmF m 0).map (fun i => X[i]?) = wr.map some := by
  rw [← hR]
  exact fmF_R m X X 0 hl (fun j _ => by rw [Nat.zero_add])
theorem fm_C {m : List Bool} {X wcx wc : va_W} {p : List Nat} (hl : m.length = X.length) (hS : fmS m X = wcx) (hp : p.map (fun i => wcx[i]?) = wc.map some) : (fmP p (fmT m 0)).map (fun i => X[i]?) = wc.map some := by
  have h1 : (fmT m 0).map (fun i => X[i]?) = wcx.map some := by
    rw [← hS]
    exact fmT_S m X X 0 hl (fun j _ => by rw [Nat.zero_add])
  rw [← hp]
  unfold fmP
  rw [List.map_map]
  apply List.map_congr_left
  intro j hj
  have h2 : wcx[j]? ∈ wc.map some := by rw [← hp]; exact List.mem_map.mpr ⟨j, hj, rfl⟩
  obtain ⟨q, -, hq⟩ := List.mem_map.mp h2
  have h3 : ((fmT m 0).map (fun i => X[i]?))[j]? = some (some q) := by rw [h1, List.getElem?_map, ← hq]; rfl
  rw [List.getElem?_map] at h3
  cases h4 : (fmT m 0)[j]? with
  | none => rw [h4] at h3; cases h3
  | some i =>
    rw [h4] at h3
    have h5 : X[i]? = some q := Option.some.inj h3
    show X[(fmT m 0).getD j 0]? = wcx[j]?
    rw [List.getD_eq_getElem?_getD, h4, ← hq]
    exact h5
theorem fm_out {wr u : va_W} : ∀ (m : List Bool) (a : Nat) (q : List Nat) (ux r : va_W), q.map (fun i => u[i]?) = ux.map some → (∀ j, j < r.length → wr[a + j]? = r[j]?) → fmOk m ux.length r.length = true → (fmZ m a q wr.length).map (fun i => (wr ++ u)[i]?) = (fmM m ux r).map some
  | [], a, q, ux, r, _, _, _ => by
    cases q <;> cases ux <;> cases r <;> rfl
  | true :: m, a, q, [], r, _, _, h => absurd h (by cases r <;> exact Bool.noConfusion)
  | true :: m, a, [], y :: ux, r, hq, _, _ => absurd (congrArg List.length hq) (by simp)
  | true :: m, a, j :: q, y :: ux, r, hq, hr, h => by
    have hq2 : u[j]? :: q.map (fun i => u[i]?) = some y :: ux.map some := hq
    have h1 : u[j]? = some y := (List.cons.inj hq2).1
    have h2 := fm_out m a q ux r (List.cons.inj hq2).2 hr h
    show (wr ++ u)[wr.length + j]? :: (fmZ m a q wr.length).map (fun i => (wr ++ u)[i]?) = some y :: (fmM m ux r).map some
    rw [h2, List.getElem?_append_right (by omega), show wr.length + j - wr.length = j by omega, h1]
  | false :: m, a, q, ux, [], _, _, h => absurd h (by cases ux <;> exact Bool.noConfusion)
  | false :: m, a, q, ux, x :: r, hq, hr, h => by
    have h0 : wr[a]? = some x := hr 0 (by rw [List.length_cons]; omega)
    have hlt : a < wr.length := (List.getElem?_eq_some_iff.mp h0).1
    have h2 := fm_out m (a + 1) q ux r hq (fun j hj => by
      have h3 := hr (j + 1) (by rw [List.length_cons]; omega)
      rw [show a + 1 + j = a + (j + 1) by omega]
      exact h3) (by cases ux <;> exact h)
    have e1 : fmZ (false :: m) a q wr.length = a :: fmZ m (a + 1) q wr.length := by cases q <;> rfl
    have e2 : fmM (false :: m) ux (x :: r) = x :: fmM m ux r := by cases ux <;> rfl
    rw [e1, e2]
    show (wr ++ u)[a]? :: (fmZ m (a + 1) q wr.length).map (fun i => (wr ++ u)[i]?) = some x :: (fmM m ux r).map some
    rw [h2, List.getElem?_append_left hlt, h0]
def fmU (q : List Nat) (u : va_W) : va_W := q.filterMap (fun i => u[i]?)
theorem fmU_map {u : va_W} {k : Nat} (hu : u.length = k) : ∀ q : List Nat, q.all (fun i => Nat.blt i k) = true → q.map (fun i => u[i]?) = (fmU q u).map some
  | [], _ => rfl
  | i :: q, h => by
    rw [List.all_cons, Bool.and_eq_true] at h
    have h1 : i < u.length := by rw [hu]; exact Nat.le_of_ble_eq_true h.1
    have h2 : u[i]? = some u[i] := List.getElem?_eq_getElem h1
    have h3 : fmU (i :: q) u = u[i] :: fmU q u := by unfold fmU; rw [List.filterMap_cons, h2]
    rw [h3, List.map_cons, List.map_cons, h2, fmU_map hu q h.2]
theorem fm_out2 {wr u : va_W} (m : List Bool) (q : List Nat) (n k : Nat) (hn : wr.length = n) (hu : u.length = k) (hq : q.all (fun i => Nat.blt i k) = true) (hk : fmOk m q.length n = true) : (fmZ m 0 q n).map (fun i => (wr ++ u)[i]?) = (fmM m (fmU q u) wr).map some := by
  subst hn
  have h1 := fmU_map hu q hq
  have hl : (fmU q u).length = q.length := by
    have h2 := congrArg List.length h1
    rw [List.length_map, List.length_map] at h2
    exact h2.symm
  exact fm_out m 0 q _ wr h1 (fun j _ => by rw [Nat.zero_add]) (by rw [hl]; exact hk)
theorem fm_C1 {m : List Bool} {X wc : va_W} (hl : m.length = X.length) (hS : fmS m X = wc) : (fmT m 0).map (fun i => X[i]?) = wc.map some := by
  rw [← hS]
  exact fmT_S m X X 0 hl (fun j _ => by rw [Nat.zero_add])
theorem fmT_lo : ∀ (m : List Bool) (k i : Nat), i ∈ fmT m k → k ≤ i
  | [], k, i, h => absurd h (by simp [fmT])
  | true :: m, k, i, h => by
    have h1 : i = k ∨ i ∈ fmT m (k + 1) := List.mem_cons.mp h
    rcases h1 with h1 | h1
    · omega
    · have := fmT_lo m (k + 1) i h1
      omega
  | false :: m, k, i, h => by
    have := fmT_lo m (k + 1) i h
    omega
theorem fmF_lo : ∀ (m : List Bool) (k i : Nat), i ∈ fmF m k → k ≤ i
  | [], k, i, h => absurd h (by simp [fmF])
  | false :: m, k, i, h => by
    have h1 : i = k ∨ i ∈ fmF m (k + 1) := List.mem_cons.mp h
    rcases h1 with h1 | h1
    · omega
    · have := fmF_lo m (k + 1) i h1
      omega
  | true :: m, k, i, h => by
    have := fmF_lo m (k + 1) i h
    omega
theorem fm_nT : ∀ (m : List Bool) (k : Nat), va_nd (fmT m k) = true
  | [], _ => rfl
  | true :: m, k => by
    show (decide (k ∉ fmT m (k + 1)) && va_nd (fmT m (k + 1))) = true
    rw [fm_nT m (k + 1), Bool.and_true]
    exact decide_eq_true (fun h => absurd (fmT_lo m (k + 1) k h) (by omega))
  | false :: m, k => fm_nT m (k + 1)
theorem fm_nF : ∀ (m : List Bool) (k : Nat), va_nd (fmF m k) = true
  | [], _ => rfl
  | false :: m, k => by
    show (decide (k ∉ fmF m (k + 1)) && va_nd (fmF m (k + 1))) = true
    rw [fm_nF m (k + 1), Bool.and_true]
    exact decide_eq_true (fun h => absurd (fmF_lo m (k + 1) k h) (by omega))
  | true :: m, k => fm_nF m (k + 1)
theorem fm_di : ∀ (m : List Bool) (k : Nat), ∀ i ∈ fmF m k, i ∉ fmT m k
  | [], _, i, h => absurd h (by simp [fmF])
  | true :: m, k, i, h => fun h2 => by
    have h3 : i = k ∨ i ∈ fmT m (k + 1) := List.mem_cons.mp h2
    rcases h3 with h3 | h3
    · have := fmF_lo m (k + 1) i h
      omega
    · exact fm_di m (k + 1) i h h3
  | false :: m, k, i, h => fun h2 => by
    have h3 : i = k ∨ i ∈ fmF m (k + 1) := List.mem_cons.mp h
    rcases h3 with h3 | h3
    · have := fmT_lo m (k + 1) i h2
      omega
    · exact fm_di m (k + 1) i h3 h2
/-- the callee's rows put back into their places; what is new behind the others -/
def oM : List Bool → va_W → va_W → va_W
  | [], u, _ => u
  | _ :: _, u, [] => u
  | true :: m, y :: u, _ :: X => y :: oM m u X
  | true :: m, [], _ :: X => fmR m X
  | false :: m, u, x :: X => x :: oM m u X
theorem oM_perm : ∀ (m : List Bool) (u X : va_W), (oM m u X).Perm (fmR m X ++ u)
  | [], u, X => by
    have e : fmR [] X = [] := by cases X <;> rfl
    rw [e, List.nil_append]
    have e2 : oM [] u X = u := by cases X <;> rfl
    rw [e2]
  | b :: m, u, [] => by
    have e : fmR (b :: m) [] = [] := by cases b <;> rfl
    rw [e, List.nil_append]
    have e2 : oM (b :: m) u [] = u := by cases b <;> rfl
    rw [e2]
  | true :: m, y :: u, x :: X => by
    show (y :: oM m u X).Perm (fmR m X ++ y :: u)
    exact ((oM_perm m u X).cons y).trans List.perm_middle.symm
  | true :: m, [], x :: X => by
    show (fmR m X).Perm (fmR m X ++ [])
    rw [List.append_nil]
  | false :: m, u, x :: X => by
    have e : oM (false :: m) u (x :: X) = x :: oM m u X := by cases u <;> rfl
    rw [e]
    show (x :: oM m u X).Perm (x :: (fmR m X ++ u))
    exact (oM_perm m u X).cons x
theorem o_pw {ws : va_W} : (∀ (i j : Nat) (p q : Nat × va_E), ws[i]? = some p → ws[j]? = some q → p.1 = q.1 → i = j) ↔ ws.Pairwise (fun p q => p.1 ≠ q.1) := by
  constructor
  · intro h
    refine List.pairwise_iff_getElem.mpr (fun i j hi hj hij he => ?_)
    have := h i j ws[i] ws[j] (List.getElem?_eq_getElem hi) (List.getElem?_eq_getElem hj) he
    omega
  · intro h i j p q hi hj he
    obtain ⟨hi2, rfl⟩ := List.getElem?_eq_some_iff.mp hi
    obtain ⟨hj2, rfl⟩ := List.getElem?_eq_some_iff.mp hj
    rcases Nat.lt_trichotomy i j with h1 | h1 | h1
    · exact absurd he (List.pairwise_iff_getElem.mp h i j hi2 hj2 h1)
    · exact h1
    · exact absurd he.symm (List.pairwise_iff_getElem.mp h j i hj2 hi2 h1)
theorem o_Pm {D : va_G} {cl : List vw_C} {ws ws' : va_W} {H : Heap} (hP : va_P D cl ws H) (h : ∀ q, q ∈ ws' → q ∈ ws) : va_P D cl ws' H := by
  intro k q hk
  obtain ⟨i, hi⟩ := List.getElem?_of_mem (h q (List.mem_of_getElem? hk))
  exact hP i q hi
theorem o_Dp {A : Nat → Prop} {ws ws' : va_W} (hD : va_D A ws) (hw : ws'.Pairwise (fun p q => p.1 ≠ q.1)) (h : ∀ q, q ∈ ws' → q ∈ ws) : va_D A ws' := by
  refine ⟨o_pw.mpr hw, fun k q hk => ?_⟩
  obtain ⟨i, hi⟩ := List.getElem?_of_mem (h q (List.mem_of_getElem? hk))
  exact hD.2 i q hi
section OMG
variable {A : Nat → Prop} {D : va_G} {cl : List vw_C} {H : Heap} {G : Prop} {ws u ws' : va_W} {mk : List Bool}
/-- the world written anew -/
theorem o_re (hP : va_P D cl ws H) (hD : va_D A ws) (he : ws = ws') (k : va_P D cl ws' H → va_D A ws' → G) : G := by
  subst he
  exact k hP hD
/-- rows in another order -/
theorem o_or (is : List Nat) (hP : va_P D cl ws H) (hD : va_D A ws) (hn : va_nd is = true) (he : is.map (fun i => ws[i]?) = ws'.map some) (k : va_P D cl ws' H → va_D A ws' → G) : G := by
  refine k (o_Pm hP (fun q h => ?_)) (hD.sub is hn he)
  have h1 : some q ∈ ws'.map some := List.mem_map.mpr ⟨q, h, rfl⟩
  rw [← he] at h1
  obtain ⟨i, -, hi⟩ := List.mem_map.mp h1
  exact List.mem_of_getElem? hi
/-- behind a call: the callee's rows in their places -/
theorem o_mg (hP : va_P D cl (fmR mk ws ++ u) H) (hD : va_D A (fmR mk ws ++ u)) (he : oM mk u ws = ws') (k : va_P D cl ws' H → va_D A ws' → G) : G := by
  subst he
  refine k (o_Pm hP (fun q h => (oM_perm mk u ws).mem_iff.mp h)) (o_Dp hD (((oM_perm mk u ws).pairwise_iff (fun {x y} h => fun e => h e.symm)).mpr (o_pw.mp hD.1)) (fun q h => (oM_perm mk u ws).mem_iff.mp h))
theorem o_mgq {ux : va_W} (qs : List Nat) (hn : va_nd qs = true) (hq : qs.map (fun i => u[i]?) = ux.map some) (hP : va_P D cl (fmR mk ws ++ u) H) (hD : va_D A (fmR mk ws ++ u)) (he : oM mk ux ws = ws') (k : va_P D cl ws' H → va_D A ws' → G) : G := by
  have hsub : ∀ q, q ∈ ux → q ∈ u := fun q h => by
    have h1 : some q ∈ ux.map some := List.mem_map.mpr ⟨q, h, rfl⟩
    rw [← hq] at h1
    obtain ⟨i, -, hi⟩ := List.mem_map.mp h1
    exact List.mem_of_getElem? hi
  have hpw := o_pw.mp hD.1
  rw [List.pairwise_append] at hpw
  have hDu : va_D A u := o_Dp hD hpw.2.1 (fun q h => List.mem_append_right _ h)
  have hDx : va_D A ux := hDu.sub qs hn hq
  have hs2 : ∀ q, q ∈ fmR mk ws ++ ux → q ∈ fmR mk ws ++ u := fun q h => by
    rcases List.mem_append.mp h with h1 | h1
    · exact List.mem_append_left _ h1
    · exact List.mem_append_right _ (hsub q h1)
  refine o_mg (mk := mk) (ws := ws) (u := ux) (o_Pm hP hs2) (o_Dp hD ?_ hs2) he k
  rw [List.pairwise_append]
  exact ⟨hpw.1, o_pw.mp hDx.1, fun a ha b hb => hpw.2.2 a ha b (hsub b hb)⟩
theorem o_mgE {u0 : va_W} (hu : u0 = u) (hP : va_P D cl (fmR mk ws ++ u0) H) (hD : va_D A (fmR mk ws ++ u0)) (he : oM mk u ws = ws') (k : va_P D cl ws' H → va_D A ws' → G) : G := by
  subst hu
  exact o_mg hP hD he k
theorem o_mgqE {u0 ux : va_W} (hu : u0 = u) (qs : List Nat) (hn : va_nd qs = true) (hq : qs.map (fun i => u[i]?) = ux.map some) (hP : va_P D cl (fmR mk ws ++ u0) H) (hD : va_D A (fmR mk ws ++ u0)) (he : oM mk ux ws = ws') (k : va_P D cl ws' H → va_D A ws' → G) : G := by
  subst hu
  exact o_mgq qs hn hq hP hD he k
end OMG
theorem exF {α : Type} {p : α → Prop} {C : Prop} (f : ∀ a, p a → C) (h : ∃ a, p a) : C := h.elim f
theorem anF {a b C : Prop} (f : a → b → C) (h : a ∧ b) : C := f h.1 h.2
/-! bits of small numbers -/
theorem bt_eq {x y : Int32} (h : x.toBitVec.toNat = y.toBitVec.toNat) : x = y := Int32.toBitVec_inj.mp (BitVec.eq_of_toNat_eq h)
theorem bt_lt {a n : Nat} (hn : n ≤ 32) (h : a < 2 ^ n) : a < 2 ^ 32 := Nat.lt_of_lt_of_le h (Nat.pow_le_pow_right (by decide) hn)
theorem bt_or {a b n : Nat} (hn : n ≤ 32) (ha : a < 2 ^ n) (hb : b < 2 ^ n) : nI a ||| nI b = nI (a ||| b) ∧ a ||| b < 2 ^ n := by
  have h := Nat.or_lt_two_pow ha hb
  refine ⟨bt_eq ?_, h⟩
  rw [Int32.toBitVec_or, BitVec.toNat_or, pk_tn (bt_lt hn ha), pk_tn (bt_lt hn hb), pk_tn (bt_lt hn h)]
theorem bt_xor {a b n : Nat} (hn : n ≤ 32) (ha : a < 2 ^ n) (hb : b < 2 ^ n) : nI a ^^^ nI b = nI (a ^^^ b) ∧ a ^^^ b < 2 ^ n := by
  have h := Nat.xor_lt_two_pow ha hb
  refine ⟨bt_eq ?_, h⟩
  rw [Int32.toBitVec_xor, BitVec.toNat_xor, pk_tn (bt_lt hn ha), pk_tn (bt_lt hn hb), pk_tn (bt_lt hn h)]
theorem bt_sh : ∀ k, k < 31 → ((nI k &&& 31).toBitVec.smod 32).toNat = k := by decide +kernel
theorem bt_1s {d : Nat} (hd : d < 31) : (1 : Int32) <<< (nI d &&& 31) = nI (2 ^ d) := by
  have h1 : (2 : Nat) ^ d < 2 ^ 32 := Nat.pow_lt_pow_right (by decide) (by omega)
  have h := pk_shlN (n := 1) (nI d &&& 31) d (bt_sh d hd) (by rw [Nat.one_mul]; exact h1)
  rw [Nat.one_mul] at h
  exact h
theorem bt_o1 {m d n : Nat} (hn : n ≤ 31) (hm : m < 2 ^ n) (hd : d < n) : nI m ||| ((1 : Int32) <<< (nI d &&& 31)) = nI (m ||| 2 ^ d) ∧ m ||| 2 ^ d < 2 ^ n := by
  rw [bt_1s (by omega)]
  exact bt_or (by omega) hm (Nat.pow_lt_pow_right (by decide) hd)
theorem bt_x1 {m d n : Nat} (hn : n ≤ 31) (hm : m < 2 ^ n) (hd : d < n) : nI m ^^^ ((1 : Int32) <<< (nI d &&& 31)) = nI (m ^^^ 2 ^ d) ∧ m ^^^ 2 ^ d < 2 ^ n := by
  rw [bt_1s (by omega)]
  exact bt_xor (by omega) hm (Nat.pow_lt_pow_right (by decide) hd)
theorem bt_01 {v : Nat} (h : v < 2) : nI v = 1 ↔ v = 1 := by
  rcases (show v = 0 ∨ v = 1 by omega) with rfl | rfl
  · exact ⟨fun h => absurd h (by decide), fun h => absurd h (by decide)⟩
  · exact ⟨fun _ => rfl, fun _ => rfl⟩
theorem bt_bit {m d : Nat} (hm : m < 2 ^ 31) (hd : d < 31) : ((nI m >>> (nI d &&& 31)) &&& 1 = 1) ↔ m.testBit d = true := by
  have h1 : m / 2 ^ d < 2 ^ 32 := Nat.lt_of_le_of_lt (Nat.div_le_self _ _) (Nat.lt_of_lt_of_le hm (by decide))
  rw [pk_shrN hm _ d (bt_sh d hd), pk_andN h1 (m := 1) 1 (by decide), Nat.testBit_eq_decide_div_mod_eq, decide_eq_true_iff]
  exact bt_01 (Nat.mod_lt _ (by decide))
theorem skE_el {p : Program} {s : State} {m : MethodId} {meth : Method} {c : Code} {cc : ByteArray} {ret : Option FieldType} {maxL : Nat} {y : MethodName} {av : List Value} {D : va_G} {tys : List (ClassId × FieldType)} {A : Nat → Prop} {C : Prop} (h : skEnv p s m meth c cc ret maxL y av D tys A) (f : p.tables.exec = Jvm.exec → c.code = cc → meth.sig.returnType = ret → c.maxLocals = maxL → meth.locks = false → meth.name = y.name → s.vm.findClass y.cls = some m.cls → (∀ w ∈ wsL_law, w.before av.toArray s = true) → skK D tys s → (∀ q, s.heap.size ≤ q → A q) → C) : C := f h.1 h.2.1 h.2.2.1 h.2.2.2.1 h.2.2.2.2.1 h.2.2.2.2.2.1 h.2.2.2.2.2.2.1 h.2.2.2.2.2.2.2.1 h.2.2.2.2.2.2.2.2.1 h.2.2.2.2.2.2.2.2.2
theorem exE {α : Type} {p : α → Prop} {C : Prop} (h : ∃ a, p a) (f : ∀ a, p a → C) : C := h.elim f
theorem anE {a b C : Prop} (h : a ∧ b) (f : a → b → C) : C := f h.1 h.2
/-! decode, by the bytes -/
theorem dq_u1 {c : ByteArray} {k b : Nat} {x : UInt8} (h : c.data.toList[k]? = some x) (hb : x.toNat = b) : (Reader.u1 : Decoder Nat) c k = .ok (b, k + 1) := by
  have hk : k < c.data.toList.length := (List.getElem?_eq_some_iff.mp h).1
  have hk2 : k < c.size := hk
  have hg : c[k] = x := by
    have h2 := (List.getElem?_eq_some_iff.mp h).2
    rw [← h2]
    rfl
  have e : (Reader.u1 : Decoder Nat) c k = (dite (k < c.size) (fun h => (do set (k + 1); pure (c[k]).toNat : Decoder Nat)) (fun _ => throw (HasTruncated.truncated k)) : Decoder Nat) c k := rfl
  rw [e, dif_pos hk2, hg, hb]
  rfl
