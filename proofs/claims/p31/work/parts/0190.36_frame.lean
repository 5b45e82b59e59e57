/-! a contract over a few cells is one over the whole world; what is not its own stays -/
theorem fr_app {X pl w : va_W} {is : List Nat} (h : is.map (fun i => X[i]?) = w.map some) : is.map (fun i => (X ++ pl)[i]?) = w.map some := by
  rw [← h]
  apply List.map_congr_left
  intro i hi
  have h1 : X[i]? ∈ w.map some := by rw [← h]; exact List.mem_map.mpr ⟨i, hi, rfl⟩
  obtain ⟨q, -, hq⟩ := List.mem_map.mp h1
  have h2 : i < X.length := (List.getElem?_eq_some_iff.mp hq.symm).1
  exact List.getElem?_append_left h2
theorem fr_P {D : va_G} {X pl wc : va_W} {H : Heap} (hP : va_P D vwCl (X ++ pl) H) (isC : List Nat) (hC : isC.map (fun i => X[i]?) = wc.map some) : va_P D vwCl wc H := hP.sub isC (by
    have h8 := fr_app (pl := pl) hC
    have h9 : isC.filterMap (fun i => (X ++ pl)[i]?) = (isC.map (fun i => (X ++ pl)[i]?)).filterMap id := by rw [List.filterMap_map]; rfl
    rw [h9, h8]
    simp [List.filterMap_map])
theorem fr_A {X pl wc : va_W} {sz : Nat} {isC : List Nat} (hC : isC.map (fun i => X[i]?) = wc.map some) : ∀ q, va_A wc sz q → va_A (X ++ pl) sz q := by
  intro q h
  rcases h with ⟨k, e, h⟩ | h
  · have h1 : (isC.map (fun i => (X ++ pl)[i]?))[k]? = some (some (q, e)) := by rw [fr_app hC, List.getElem?_map, h]; rfl
    rw [List.getElem?_map] at h1
    cases hi : isC[k]? with
    | none => rw [hi] at h1; cases h1
    | some i => rw [hi] at h1; exact Or.inl ⟨i, e, Option.some.inj h1⟩
  · exact Or.inr h
theorem skStr.narrow {zk zv : Nat} {zf : Value} {A B : Nat → Prop} {U : State} {H : Heap} (h : skStr zk zv zf A U H) (hF : ∀ q, B q → A q) : skStr zk zv zf B U H := by
  obtain ⟨h1, h2, h3, h4, h5, h6, h7, h8⟩ := h
  exact ⟨h1, h2.narrow hF, h3.narrow hF, h4.narrow hF, h5.narrow hF, h6.narrow hF, h7.narrow hF, h8⟩
section SkFrame
variable {l : Launch} {y : MethodName} {cc : ByteArray} {maxL : Nat} {ret : Option FieldType} {fr lo mc ms : Nat} {D : va_G} {tys : List (ClassId × FieldType)} {av : List Value} {X wc wr pl : va_W}
theorem sk_frI {post post' : Int32 → va_W → Prop} (hM : skM l y cc maxL ret fr lo mc ms D tys av wc (skI D tys post)) (isC isR : List Nat) (hC : isC.map (fun i => X[i]?) = wc.map some) (hR : isR.map (fun i => X[i]?) = wr.map some) (hnC : va_nd isC = true) (hn : va_nd isR = true) (hdis : ∀ i ∈ isR, i ∉ isC)
    (himp : ∀ r u, post r u → ∃ (u' : va_W) (is : List Nat), va_nd is = true ∧ is.map (fun i => (wr ++ u)[i]?) = u'.map some ∧ post' r (u' ++ pl)) : skM l y cc maxL ret fr lo mc ms D tys av (X ++ pl) (skI D tys post') := by
  intro sz
  refine MetFree.mono (hM sz) ?_ (fun _ _ _ _ _ h => h) ?_
  · rintro a U ⟨ha, hsz, hP, hK, hD⟩
    exact ⟨ha, hsz, fr_P hP isC hC, hK, hD.sub isC hnC (fr_app hC)⟩
  · rintro a U o t ⟨ha, hsz, hP, hK, hD⟩ ⟨⟨⟨r, u, ho, hp, hB⟩, hF⟩, L, hL, hfree⟩
    subst hsz
    have hDs := hD.self (sz := U.heap.size)
    have hA : ∀ q, va_A wc U.heap.size q → va_A (X ++ pl) U.heap.size q := fr_A hC
    obtain ⟨hP', hD'⟩ := va_joinQ hP hDs isC isR hC hR hn hdis hF.2 hA hB.1 hB.2.2
    obtain ⟨u', is, h1, h2, h3⟩ := himp r u hp
    exact ⟨⟨⟨r, u' ++ pl, ho, h3, hP'.part is h2, hB.2.1, hD'.part is h1 h2⟩, hF.1, fun q h5 h6 => hF.2 q h5 (fun h => h6 (hA q h))⟩, L, hL, fun q hq => hA _ (hfree q hq)⟩
theorem sk_frI0 {post post' : Int32 → va_W → Prop} (hM : skM l y cc maxL ret fr lo mc ms D tys av wc (skI D tys post)) (isC isR : List Nat) (hC : isC.map (fun i => X[i]?) = wc.map some) (hR : isR.map (fun i => X[i]?) = wr.map some) (hnC : va_nd isC = true) (hn : va_nd isR = true) (hdis : ∀ i ∈ isR, i ∉ isC)
    (himp : ∀ r u, post r u → ∃ (u' : va_W) (is : List Nat), va_nd is = true ∧ is.map (fun i => (wr ++ u)[i]?) = u'.map some ∧ post' r u') : skM l y cc maxL ret fr lo mc ms D tys av X (skI D tys post') := by
  have h := sk_frI (pl := []) (post' := post') hM isC isR hC hR hnC hn hdis (fun r u hp => by
    obtain ⟨u', is, h1, h2, h3⟩ := himp r u hp
    exact ⟨u', is, h1, h2, by rw [List.append_nil]; exact h3⟩)
  rw [List.append_nil] at h
  exact h
theorem sk_frIZ {zk zv : Nat} {zf : Value} {post post' : Int32 → va_W → Prop} (hM : skMZ zk zv zf l y cc maxL ret fr lo mc ms D tys av wc (skI D tys post)) (isC isR : List Nat) (hC : isC.map (fun i => X[i]?) = wc.map some) (hR : isR.map (fun i => X[i]?) = wr.map some) (hnC : va_nd isC = true) (hn : va_nd isR = true) (hdis : ∀ i ∈ isR, i ∉ isC)
    (himp : ∀ r u, post r u → ∃ (u' : va_W) (is : List Nat), va_nd is = true ∧ is.map (fun i => (wr ++ u)[i]?) = u'.map some ∧ post' r (u' ++ pl)) : skMZ zk zv zf l y cc maxL ret fr lo mc ms D tys av (X ++ pl) (skI D tys post') := by
  intro sz
  refine MetFree.mono (hM sz) ?_ (fun _ _ _ _ _ h => h) ?_
  · rintro a U ⟨ha, hsz, hP, hK, hD, hZ⟩
    exact ⟨ha, hsz, fr_P hP isC hC, hK, hD.sub isC hnC (fr_app hC), hZ.narrow (fr_A hC)⟩
  · rintro a U o t ⟨ha, hsz, hP, hK, hD, hZ⟩ ⟨⟨⟨r, u, ho, hp, hB⟩, hF⟩, L, hL, hfree⟩
    subst hsz
    have hDs := hD.self (sz := U.heap.size)
    have hA : ∀ q, va_A wc U.heap.size q → va_A (X ++ pl) U.heap.size q := fr_A hC
    obtain ⟨hP', hD'⟩ := va_joinQ hP hDs isC isR hC hR hn hdis hF.2 hA hB.1 hB.2.2
    obtain ⟨u', is, h1, h2, h3⟩ := himp r u hp
    exact ⟨⟨⟨r, u' ++ pl, ho, h3, hP'.part is h2, hB.2.1, hD'.part is h1 h2⟩, hF.1, fun q h5 h6 => hF.2 q h5 (fun h => h6 (hA q h))⟩, L, hL, fun q hq => hA _ (hfree q hq)⟩
theorem sk_frL {post post' : Int64 → va_W → Prop} (hM : skM l y cc maxL ret fr lo mc ms D tys av wc (skL D tys post)) (isC isR : List Nat) (hC : isC.map (fun i => X[i]?) = wc.map some) (hR : isR.map (fun i => X[i]?) = wr.map some) (hnC : va_nd isC = true) (hn : va_nd isR = true) (hdis : ∀ i ∈ isR, i ∉ isC)
    (himp : ∀ r u, post r u → ∃ (u' : va_W) (is : List Nat), va_nd is = true ∧ is.map (fun i => (wr ++ u)[i]?) = u'.map some ∧ post' r (u' ++ pl)) : skM l y cc maxL ret fr lo mc ms D tys av (X ++ pl) (skL D tys post') := by
  intro sz
  refine MetFree.mono (hM sz) ?_ (fun _ _ _ _ _ h => h) ?_
  · rintro a U ⟨ha, hsz, hP, hK, hD⟩
    exact ⟨ha, hsz, fr_P hP isC hC, hK, hD.sub isC hnC (fr_app hC)⟩
  · rintro a U o t ⟨ha, hsz, hP, hK, hD⟩ ⟨⟨⟨r, u, ho, hp, hB⟩, hF⟩, L, hL, hfree⟩
    subst hsz
    have hDs := hD.self (sz := U.heap.size)
    have hA : ∀ q, va_A wc U.heap.size q → va_A (X ++ pl) U.heap.size q := fr_A hC
    obtain ⟨hP', hD'⟩ := va_joinQ hP hDs isC isR hC hR hn hdis hF.2 hA hB.1 hB.2.2
    obtain ⟨u', is, h1, h2, h3⟩ := himp r u hp
    exact ⟨⟨⟨r, u' ++ pl, ho, h3, hP'.part is h2, hB.2.1, hD'.part is h1 h2⟩, hF.1, fun q h5 h6 => hF.2 q h5 (fun h => h6 (hA q h))⟩, L, hL, fun q hq => hA _ (hfree q hq)⟩
theorem sk_frL0 {post post' : Int64 → va_W → Prop} (hM : skM l y cc maxL ret fr lo mc ms D tys av wc (skL D tys post)) (isC isR : List Nat) (hC : isC.map (fun i => X[i]?) = wc.map some) (hR : isR.map (fun i => X[i]?) = wr.map some) (hnC : va_nd isC = true) (hn : va_nd isR = true) (hdis : ∀ i ∈ isR, i ∉ isC)
    (himp : ∀ r u, post r u → ∃ (u' : va_W) (is : List Nat), va_nd is = true ∧ is.map (fun i => (wr ++ u)[i]?) = u'.map some ∧ post' r u') : skM l y cc maxL ret fr lo mc ms D tys av X (skL D tys post') := by
  have h := sk_frL (pl := []) (post' := post') hM isC isR hC hR hnC hn hdis (fun r u hp => by
    obtain ⟨u', is, h1, h2, h3⟩ := himp r u hp
    exact ⟨u', is, h1, h2, by rw [List.append_nil]; exact h3⟩)
  rw [List.append_nil] at h
  exact h
theorem sk_frLZ {zk zv : Nat} {zf : Value} {post post' : Int64 → va_W → Prop} (hM : skMZ zk zv zf l y cc maxL ret fr lo mc ms D tys av wc (skL D tys post)) (isC isR : List Nat) (hC : isC.map (fun i => X[i]?) = wc.map some) (hR : isR.map (fun i => X[i]?) = wr.map some) (hnC : va_nd isC = true) (hn : va_nd isR = true) (hdis : ∀ i ∈ isR, i ∉ isC)
    (himp : ∀ r u, post r u → ∃ (u' : va_W) (is : List Nat), va_nd is = true ∧ is.map (fun i => (wr ++ u)[i]?) = u'.map some ∧ post' r (u' ++ pl)) : skMZ zk zv zf l y cc maxL ret fr lo mc ms D tys av (X ++ pl) (skL D tys post') := by
  intro sz
  refine MetFree.mono (hM sz) ?_ (fun _ _ _ _ _ h => h) ?_
  · rintro a U ⟨ha, hsz, hP, hK, hD, hZ⟩
    exact ⟨ha, hsz, fr_P hP isC hC, hK, hD.sub isC hnC (fr_app hC), hZ.narrow (fr_A hC)⟩
  · rintro a U o t ⟨ha, hsz, hP, hK, hD, hZ⟩ ⟨⟨⟨r, u, ho, hp, hB⟩, hF⟩, L, hL, hfree⟩
    subst hsz
    have hDs := hD.self (sz := U.heap.size)
    have hA : ∀ q, va_A wc U.heap.size q → va_A (X ++ pl) U.heap.size q := fr_A hC
    obtain ⟨hP', hD'⟩ := va_joinQ hP hDs isC isR hC hR hn hdis hF.2 hA hB.1 hB.2.2
    obtain ⟨u', is, h1, h2, h3⟩ := himp r u hp
    exact ⟨⟨⟨r, u' ++ pl, ho, h3, hP'.part is h2, hB.2.1, hD'.part is h1 h2⟩, hF.1, fun q h5 h6 => hF.2 q h5 (fun h => h6 (hA q h))⟩, L, hL, fun q hq => hA _ (hfree q hq)⟩
end SkFrame
/-! what a lock leaves behind -/
theorem unS_pr (L : LkS) (w : Nat) : lM (untS L w) = lM L ∧ lB (untS L w) = lB L ∧ lW (untS L w) = lW L ∧ lU (untS L w) = lU L ∧ lRn (untS L w) = lRn L := by
  unfold untS
  split
  · exact ⟨rfl, rfl, rfl, rfl, rfl⟩
  · exact ⟨rfl, rfl, rfl, rfl, rfl⟩
theorem unN_pr (L : LkS) : ∀ i, lM (untN L i) = lM L ∧ lB (untN L i) = lB L ∧ lW (untN L i) = lW L ∧ lU (untN L i) = lU L ∧ lRn (untN L i) = lRn L
  | 0 => ⟨rfl, rfl, rfl, rfl, rfl⟩
  | i + 1 => by
    obtain ⟨a1, a2, a3, a4, a5⟩ := unS_pr (untN L i) i
    obtain ⟨b1, b2, b3, b4, b5⟩ := unN_pr L i
    exact ⟨a1.trans b1, a2.trans b2, a3.trans b3, a4.trans b4, a5.trans b5⟩
theorem lkC_all {L : LkS} {jd jm : Nat} {ju jr : Int32} {jc jx : Nat} {j1 jf jt jb jw : Nat → Int32} (h : lkC (lkF L) jd jm ju jr jc jx j1 jf jt jb jw) : jd = lD L ∧ jm = lM L ∧ jr = nI (lRn L) ∧ (∀ j, j < 9 → jb j = nI (lB L j)) ∧ (∀ j, j < 9 → jw j = nI (lW L j)) ∧ muO (lU L) ju ∧ (cdK (lK (lkF L)) jc jx j1 ∧ ∀ v, v < 3 → sgO (lG (lkF L) v) (jf v) (jt v)) := by
  obtain ⟨h1, h2, h3, h4, h5, h6, h7, h8⟩ := h
  obtain ⟨b1, b2, b3, b4, b5⟩ := unN_pr L 3
  refine ⟨h1.trans (lD_F L), h2.trans b1, h6.trans (congrArg nI b5), fun j hj => (h3 j hj).trans (congrArg (fun f : Nat → Nat => nI (f j)) b2), fun j hj => (h4 j hj).trans (congrArg (fun f : Nat → Nat => nI (f j)) b3), ?_, h7, h8⟩
  have e : lU (lkF L) = lU L := b4
  rw [← e]
  exact h5
theorem kTI_new {L : LkS} {sa : Nat → Nat} {ft fa fo : Nat → Int32} {fg : Nat → Int64} {fk : Nat → Int32} (h : ∀ j, j < 9 → fk j = -1) : kcTI L sa ft fa fo fg fk := fun d wk b w hd h1 h2 h3 e => by
  have h9 : ((wk * 10 + b) * 10 + w) < 2147483648 := by omega
  exact absurd ((h d hd).symm.trans e) (fun q => nI_pos h9 (by rw [← q]; decide))
theorem lockR_er {tb : Nat → Nat} {t : Nat} {L : LkS} {dy : Nat} {n : KN} {ac hn : Nat} {rf : Nat → Int32} (h : lkEr (lockP tb t)) : lockR tb t L dy n ac hn rf (-1) L dy n ac hn (upd rf 1 (rf 1 + 1)) := by
  unfold lkEr at h
  unfold lockR
  cases hP : lockP tb t with
  | ok x => rw [hP] at h; exact h.elim
  | error x => exact ⟨rfl, rfl, rfl, rfl, rfl, rfl, rfl⟩
theorem lockR_ok {tb : Nat → Nat} {t : Nat} {L : LkS} {dy : Nat} {n : KN} {ac hn : Nat} {rf : Nat → Int32} {x : LkS × Nat} (h : lockP tb t = .ok x) : lockR tb t L dy n ac hn rf (nI x.2) x.1 (lD x.1) (lkN x.1) 0 0 rf := by
  unfold lockR
  rw [h]
  exact ⟨rfl, rfl, rfl, rfl, rfl, rfl, rfl⟩
theorem undo_ke {dy ac ac2 : Nat} {n n2 : KN} {su : Nat → KN} {rf rf2 : Nat → Int32} {r : Int32} (h : undoR n ac su rf r n2 ac2 rf2) (hs : ∀ j, j < ac → nKe (su j) ≤ nKe n) : nKe n2 ≤ nKe n := by
  rcases h with ⟨c, -, rfl, -, -⟩ | ⟨-, -, rfl, -, -⟩
  · exact hs _ (by omega)
  · exact Nat.le_refl _
def flR (P : Except Err (LkS × Nat)) (a b : Int32) : Prop := match P with
  | .ok _ => a = 0 ∧ b = -1
  | .error e => a = nI e.1 ∧ b = nI e.2
theorem flR_x {P : Except Err (LkS × Nat)} {r : Int32} {dy dy2 : Nat} {xf xp : Int32} (h : lkRs P r dy dy2 xf xp) : flR P xf xp := by
  cases P with
  | ok x => exact ⟨h.2.2.1, h.2.2.2⟩
  | error e => exact ⟨h.2.2.1, h.2.2.2⟩
theorem flR_eq {P : Except Err (LkS × Nat)} {a b c d : Int32} (h1 : flR P a b) (h2 : flR P c d) : c = a ∧ d = b := by
  cases P with
  | ok x => exact ⟨h2.1.trans h1.1.symm, h2.2.trans h1.2.symm⟩
  | error e => exact ⟨h2.1.trans h1.1.symm, h2.2.trans h1.2.symm⟩
def up1 {α : Type} (f : Nat → α) (k : Nat) (v : α) : Nat → α := fun j => cond (Nat.beq j k) v (f j)
def xI (cI cJ cC cZ cS : ClassId) (x0 : Nat) (tl : Nat) (tb : Nat → Nat) (dy : Nat) (L : LkS) (nS : KN) (lg : KLg) (ac : Nat) (su : Nat → KN) (hn : Nat) (hR : Nat → Nat) (sd : Nat) (rf : Nat → Int32) (pn : Nat) (pB : Nat → Nat) (xf : Int32) (xp : Int32) (w : va_W) : Prop := ∃ (q : Nat → Nat) (nn : Nat → Nat) (ni : Nat → Int32) (fn : Nat → Nat → Nat) (fi : Nat → Nat → Int32) (fl : Nat → Nat → Int64) (sf : Nat → Option Nat) (sst : Nat → Nat) (sba : Nat → Nat) (swe : Nat → Nat) (sdy : Nat → Nat) (swk : Nat → Int32) (smo : Nat → Nat) (smu : Nat → Int32) (ske : Nat → Int32) (sfb : Nat → Nat → Int32) (sfw : Nat → Nat → Int32), (tl ≤ 1600) ∧ (∀ j, tb j ≤ 255) ∧ (pn ≤ 31) ∧ (∀ j, (fn 0) j ≤ 255) ∧ ((nn 0) ≤ 1600) ∧ ((nn 2) ≤ 1600) ∧ ((nn 1) ≤ 6) ∧ ((nn 8) ≤ 1600) ∧ ((nn 9) ≤ 1) ∧ ((nn 13) ≤ 1600) ∧ ((nn 14) ≤ 1) ∧ ((nn 3) ≤ 1600) ∧ ((nn 4) ≤ 1) ∧ (∀ j, (fn 1) j ≤ 9) ∧ ((nn 19) ≤ 9) ∧ ((nn 20) ≤ 9) ∧ ((nn 15) ≤ 9) ∧ ((nn 17) ≤ 9) ∧ ((nn 16) ≤ 999) ∧ (lRn L ≤ 100) ∧ (∀ j, j < 9 → (fi 11) j = nI ((nBa nS) j)) ∧ (∀ j, j < 9 → (fi 12) j = nI ((nWe nS) j)) ∧ (muO (nMu nS) (ni 6)) ∧ (kkO lg (nKe nS) (fi 15) (fl 9) (fi 16)) ∧ (puO ac su swk smo smu ske sfb sfw) ∧ (1 ≤ dy → cdK (lK (lkF L)) (nn 8) (nn 9) (fi 1) ∧ ∀ v, v < 3 → sgO (lG (lkF L) v) ((fi 2) v) ((fi 3) v)) ∧ (1 ≤ dy → kcTI L (fn 1) (fi 17) (fi 18) (fi 19) (fl 10) (fi 20)) ∧ (∀ j, j < hn → (fi 26) j = nI (hR j)) ∧ (∀ j, j < pn → (fn 0) j = pB j) ∧ (∀ j, j < 20 → sf j = some (sst j)) ∧ (∀ j, sdy j ≤ 9) ∧ (∀ j, smo j ≤ 9) ∧ (∀ j, j < ac → sdy j = dy) ∧ w = ((x0, .inr (11, [.ref (q 0), .ref (q 1), .ref (q 2), .ref (q 3), .ref (q 4), .ref (q 5), .ref (q 6), .ref (q 7), .ref (q 8), .ref (q 9), .ref (q 10), .ref (q 11), .ref (q 12), .ref (q 13), .ref (q 14), .int (nI hn), .ref (q 16), .long (Int64.ofNat sd)])) :: (q 0, .inr (10, [.ref (q 20), .int (nI tl)])) :: (q 20, .inl (cI, 1600, .inl (fun j => nI (tb j)))) :: (q 1, .inr (10, [.ref (q 21), .int (nI pn)])) :: (q 21, .inl (cI, 31, .inl (fun j => nI ((fn 0) j)))) :: (q 2, .inr (6, [.ref (q 0), .int (nI (nn 0)), .int (ni 0), .int (nI (nn 1)), .int (ni 1), .int (nI (nn 2)), .int xf, .int xp])) :: (q 3, .inr (3, [.ref (q 2), .ref (q 22), .ref (q 23)])) :: (q 22, .inr (8, [.ref (q 2), .int 0])) :: (q 23, .inr (8, [.ref (q 2), .int 1])) :: (q 4, .inr (5, [.ref (q 2), .ref (q 55), .ref (q 56), .int (ni 2)])) :: (q 55, .inr (8, [.ref (q 2), .int 2])) :: (q 56, .inr (0, [.ref (q 57), .ref (q 58), .ref (q 59), .ref (q 60), .int (nI (nn 3)), .int (nI (nn 4))])) :: (q 57, .inl (cI, 1600, .inl (fi 0))) :: (q 58, .inl (cJ, 64, .inr (.inl (fl 0)))) :: (q 59, .inl (cJ, 9, .inr (.inl (fl 1)))) :: (q 60, .inl (cJ, 10, .inr (.inl (fl 2)))) :: (q 5, .inr (2, [.ref (q 44), .ref (q 45), .ref (q 46), .ref (q 47), .ref (q 48), .int (nI (nn 5)), .int (nI (nn 6)), .int (ni 3), .int (nI (lRn L)), .int (nI (nn 7))])) :: (q 44, .inr (0, [.ref (q 49), .ref (q 50), .ref (q 51), .ref (q 52), .int (nI (nn 8)), .int (nI (nn 9))])) :: (q 49, .inl (cI, 1600, .inl (fi 1))) :: (q 50, .inl (cJ, 64, .inr (.inl (fl 3)))) :: (q 51, .inl (cJ, 9, .inr (.inl (fl 4)))) :: (q 52, .inl (cJ, 10, .inr (.inl (fl 5)))) :: (q 47, .inl (cI, 3, .inl (fi 2))) :: (q 48, .inl (cI, 3, .inl (fi 3))) :: (q 45, .inl (cI, 9, .inl (fi 4))) :: (q 46, .inl (cI, 9, .inl (fi 5))) :: (q 6, .inr (2, [.ref (q 24), .ref (q 25), .ref (q 26), .ref (q 27), .ref (q 28), .int (nI (nn 10)), .int (nI (nn 11)), .int (ni 4), .int (ni 5), .int (nI (nn 12))])) :: (q 24, .inr (0, [.ref (q 29), .ref (q 30), .ref (q 31), .ref (q 32), .int (nI (nn 13)), .int (nI (nn 14))])) :: (q 29, .inl (cI, 1600, .inl (fi 6))) :: (q 30, .inl (cJ, 64, .inr (.inl (fl 6)))) :: (q 31, .inl (cJ, 9, .inr (.inl (fl 7)))) :: (q 32, .inl (cJ, 10, .inr (.inl (fl 8)))) :: (q 27, .inl (cI, 3, .inl (fi 7))) :: (q 28, .inl (cI, 3, .inl (fi 8))) :: (q 25, .inl (cI, 9, .inl (fi 9))) :: (q 26, .inl (cI, 9, .inl (fi 10))) :: (q 7, .inr (7, [.ref (q 33), .ref (q 34), .int (nI dy), .int (nI (nWk nS)), .int (nI (nMo nS)), .int (ni 6), .int (nI (nKe nS))])) :: (q 33, .inl (cI, 9, .inl (fi 11))) :: (q 34, .inl (cI, 9, .inl (fi 12))) :: (q 8, .inr (7, [.ref (q 53), .ref (q 54), .int (nI (nn 15)), .int (nI (nn 16)), .int (nI (nn 17)), .int (ni 7), .int (nI (nn 18))])) :: (q 53, .inl (cI, 9, .inl (fi 13))) :: (q 54, .inl (cI, 9, .inl (fi 14))) :: (q 9, .inr (4, [.ref (q 35), .int (nI ac), .ref (q 36), .ref (q 37), .ref (q 38)])) :: (q 36, .inl (cI, 1000, .inl (fi 15))) :: (q 37, .inl (cJ, 1000, .inr (.inl (fl 9)))) :: (q 38, .inl (cI, 1000, .inl (fi 16))) :: (q 10, .inr (9, [.ref (q 61), .ref (q 62), .ref (q 63), .ref (q 64), .ref (q 65), .ref (q 66)])) :: (q 61, .inl (cI, 90, .inl (fun j => nI ((fn 1) j)))) :: (q 62, .inl (cI, 900, .inl (fi 17))) :: (q 63, .inl (cI, 90, .inl (fi 18))) :: (q 64, .inl (cI, 90, .inl (fi 19))) :: (q 65, .inl (cJ, 90, .inr (.inl (fl 10)))) :: (q 66, .inl (cI, 9, .inl (fi 20))) :: (q 11, .inr (1, [.ref (q 10), .ref (q 67), .ref (q 68), .ref (q 69), .ref (q 70), .ref (q 71), .ref (q 72), .int (nI (nn 19)), .int (nI (nn 20))])) :: (q 67, .inl (cI, 90, .inl (fi 21))) :: (q 68, .inl (cI, 9, .inl (fi 22))) :: (q 69, .inl (cI, 10, .inl (fi 23))) :: (q 70, .inl (cJ, 100, .inr (.inl (fl 11)))) :: (q 71, .inl (cJ, 100, .inr (.inl (fl 12)))) :: (q 72, .inl (cJ, 100, .inr (.inl (fl 13)))) :: (q 12, .inl (cI, 9, .inl (fi 24))) :: (q 13, .inl (cI, 9, .inl (fi 25))) :: (q 14, .inl (cI, 16, .inl (fi 26))) :: (q 16, .inl (cI, 6, .inl rf)) :: []) ++ [(q 35, .inl (cS, 20, .inr (.inr (.inr (.inr sf))))), (sst 0, .inr (7, [.ref (sba 0), .ref (swe 0), .int (nI (sdy 0)), .int (swk 0), .int (nI (smo 0)), .int (smu 0), .int (ske 0)])), (sba 0, .inl (cI, 9, .inl (sfb 0))), (swe 0, .inl (cI, 9, .inl (sfw 0))), (sst 1, .inr (7, [.ref (sba 1), .ref (swe 1), .int (nI (sdy 1)), .int (swk 1), .int (nI (smo 1)), .int (smu 1), .int (ske 1)])), (sba 1, .inl (cI, 9, .inl (sfb 1))), (swe 1, .inl (cI, 9, .inl (sfw 1))), (sst 2, .inr (7, [.ref (sba 2), .ref (swe 2), .int (nI (sdy 2)), .int (swk 2), .int (nI (smo 2)), .int (smu 2), .int (ske 2)])), (sba 2, .inl (cI, 9, .inl (sfb 2))), (swe 2, .inl (cI, 9, .inl (sfw 2))), (sst 3, .inr (7, [.ref (sba 3), .ref (swe 3), .int (nI (sdy 3)), .int (swk 3), .int (nI (smo 3)), .int (smu 3), .int (ske 3)])), (sba 3, .inl (cI, 9, .inl (sfb 3))), (swe 3, .inl (cI, 9, .inl (sfw 3))), (sst 4, .inr (7, [.ref (sba 4), .ref (swe 4), .int (nI (sdy 4)), .int (swk 4), .int (nI (smo 4)), .int (smu 4), .int (ske 4)])), (sba 4, .inl (cI, 9, .inl (sfb 4))), (swe 4, .inl (cI, 9, .inl (sfw 4))), (sst 5, .inr (7, [.ref (sba 5), .ref (swe 5), .int (nI (sdy 5)), .int (swk 5), .int (nI (smo 5)), .int (smu 5), .int (ske 5)])), (sba 5, .inl (cI, 9, .inl (sfb 5))), (swe 5, .inl (cI, 9, .inl (sfw 5))), (sst 6, .inr (7, [.ref (sba 6), .ref (swe 6), .int (nI (sdy 6)), .int (swk 6), .int (nI (smo 6)), .int (smu 6), .int (ske 6)])), (sba 6, .inl (cI, 9, .inl (sfb 6))), (swe 6, .inl (cI, 9, .inl (sfw 6))), (sst 7, .inr (7, [.ref (sba 7), .ref (swe 7), .int (nI (sdy 7)), .int (swk 7), .int (nI (smo 7)), .int (smu 7), .int (ske 7)])), (sba 7, .inl (cI, 9, .inl (sfb 7))), (swe 7, .inl (cI, 9, .inl (sfw 7))), (sst 8, .inr (7, [.ref (sba 8), .ref (swe 8), .int (nI (sdy 8)), .int (swk 8), .int (nI (smo 8)), .int (smu 8), .int (ske 8)])), (sba 8, .inl (cI, 9, .inl (sfb 8))), (swe 8, .inl (cI, 9, .inl (sfw 8))), (sst 9, .inr (7, [.ref (sba 9), .ref (swe 9), .int (nI (sdy 9)), .int (swk 9), .int (nI (smo 9)), .int (smu 9), .int (ske 9)])), (sba 9, .inl (cI, 9, .inl (sfb 9))), (swe 9, .inl (cI, 9, .inl (sfw 9))), (sst 10, .inr (7, [.ref (sba 10), .ref (swe 10), .int (nI (sdy 10)), .int (swk 10), .int (nI (smo 10)), .int (smu 10), .int (ske 10)])), (sba 10, .inl (cI, 9, .inl (sfb 10))), (swe 10, .inl (cI, 9, .inl (sfw 10))), (sst 11, .inr (7, [.ref (sba 11), .ref (swe 11), .int (nI (sdy 11)), .int (swk 11), .int (nI (smo 11)), .int (smu 11), .int (ske 11)])), (sba 11, .inl (cI, 9, .inl (sfb 11))), (swe 11, .inl (cI, 9, .inl (sfw 11))), (sst 12, .inr (7, [.ref (sba 12), .ref (swe 12), .int (nI (sdy 12)), .int (swk 12), .int (nI (smo 12)), .int (smu 12), .int (ske 12)])), (sba 12, .inl (cI, 9, .inl (sfb 12))), (swe 12, .inl (cI, 9, .inl (sfw 12))), (sst 13, .inr (7, [.ref (sba 13), .ref (swe 13), .int (nI (sdy 13)), .int (swk 13), .int (nI (smo 13)), .int (smu 13), .int (ske 13)])), (sba 13, .inl (cI, 9, .inl (sfb 13))), (swe 13, .inl (cI, 9, .inl (sfw 13))), (sst 14, .inr (7, [.ref (sba 14), .ref (swe 14), .int (nI (sdy 14)), .int (swk 14), .int (nI (smo 14)), .int (smu 14), .int (ske 14)])), (sba 14, .inl (cI, 9, .inl (sfb 14))), (swe 14, .inl (cI, 9, .inl (sfw 14))), (sst 15, .inr (7, [.ref (sba 15), .ref (swe 15), .int (nI (sdy 15)), .int (swk 15), .int (nI (smo 15)), .int (smu 15), .int (ske 15)])), (sba 15, .inl (cI, 9, .inl (sfb 15))), (swe 15, .inl (cI, 9, .inl (sfw 15))), (sst 16, .inr (7, [.ref (sba 16), .ref (swe 16), .int (nI (sdy 16)), .int (swk 16), .int (nI (smo 16)), .int (smu 16), .int (ske 16)])), (sba 16, .inl (cI, 9, .inl (sfb 16))), (swe 16, .inl (cI, 9, .inl (sfw 16))), (sst 17, .inr (7, [.ref (sba 17), .ref (swe 17), .int (nI (sdy 17)), .int (swk 17), .int (nI (smo 17)), .int (smu 17), .int (ske 17)])), (sba 17, .inl (cI, 9, .inl (sfb 17))), (swe 17, .inl (cI, 9, .inl (sfw 17))), (sst 18, .inr (7, [.ref (sba 18), .ref (swe 18), .int (nI (sdy 18)), .int (swk 18), .int (nI (smo 18)), .int (smu 18), .int (ske 18)])), (sba 18, .inl (cI, 9, .inl (sfb 18))), (swe 18, .inl (cI, 9, .inl (sfw 18))), (sst 19, .inr (7, [.ref (sba 19), .ref (swe 19), .int (nI (sdy 19)), .int (swk 19), .int (nI (smo 19)), .int (smu 19), .int (ske 19)])), (sba 19, .inl (cI, 9, .inl (sfb 19))), (swe 19, .inl (cI, 9, .inl (sfw 19)))]
