theorem rc_pre {k : List Nat} (x : Res) : rc (bindR x (fun r => .ok (r.1, k ++ r.2))) = rc x := by cases x <;> rfl
theorem rc_or {tb : Nat → Nat} {n : Nat} {F : Cur → Res} {f : Nat} {c : Cur} (k : List Nat) : rc (orR tb n F f c k) = rc (orR tb n F f c []) := by
  have h := orR_pre (tb := tb) (n := n) (F := F) k f c []
  rw [List.append_nil] at h
  rw [h, rc_pre]
def fcC (tb : Nat → Nat) (n d : Nat) (c : Cur) : Except Err Cur := rc (fcR tb n d c)
def goT (tb : Nat → Nat) (n d : Nat) (c : Cur) : Except Err Cur := rc (bindR (andR tb n (fcR tb n d) (n + 2) c []) (fun r => orR tb n (fcR tb n d) (n + 2) r.1 r.2))
theorem goT_k {tb : Nat → Nat} {n : Nat} {d : Nat} {c : Cur} (k : List Nat) : rc (bindR (andR tb n (fcR tb n d) (n + 2) c k) (fun r => orR tb n (fcR tb n d) (n + 2) r.1 r.2)) = goT tb n d c := by
  have h := andR_pre (tb := tb) (n := n) (F := fcR tb n d) k (n + 2) c []
  rw [List.append_nil] at h
  rw [h, bindR_assoc]
  unfold goT
  cases andR tb n (fcR tb n d) (n + 2) c [] with
  | error e => rfl
  | ok r =>
    show rc (orR tb n (fcR tb n d) (n + 2) r.1 (k ++ r.2)) = rc (orR tb n (fcR tb n d) (n + 2) r.1 r.2)
    rw [rc_or (k ++ r.2), rc_or r.2]
theorem te_rc {tb : Nat → Nat} {n : Nat} {d : Nat} (c : Cur) : rc (testR tb n (fcR tb n d) c) = bindR (fcC tb n d c) (goT tb n d) := by
  unfold testR bothR fcC
  rw [bindR_assoc]
  cases fcR tb n d c with
  | error e => rfl
  | ok r => exact goT_k r.2
theorem rc_bindC {G : Cur → Except Err Cur} (x : Res) : rc (bindR x (fun r => bindR (G r.1) (fun c1 => .ok (c1, r.2)))) = bindR (rc x) G := rc_bd x G
def relC (tb : Nat → Nat) (n d : Nat) (c : Cur) : Except Err Cur := match relV tb n c with
  | some _ => rc (sumD tb n 2 d (nx tb n c.1))
  | none => .error (1, c.1)
def atC (tb : Nat → Nat) (n d : Nat) (c : Cur) : Except Err Cur := if isW tb n wAll c = true then .ok (nx tb n c.1) else bindR (rc (sumD tb n 2 d c)) (relC tb n d)
theorem rc_rel {tb : Nat → Nat} {n : Nat} {d : Nat} (c : Cur) : rc (relR tb n d c) = bindR (rc (sumD tb n 2 d c)) (relC tb n d) := by
  unfold relR sumD
  cases sumOf tb n (rdPart tb n 2 d) c with
  | error e => rfl
  | ok r =>
    show rc (relB tb n d r) = relC tb n d r.1
    unfold relB relC
    cases relV tb n r.1 with
    | none => rfl
    | some v =>
      show rc (bindR (sumOf tb n (rdPart tb n 2 d) (nx tb n r.1.1)) _) = rc (sumOf tb n (rdPart tb n 2 d) (nx tb n r.1.1))
      cases sumOf tb n (rdPart tb n 2 d) (nx tb n r.1.1) <;> rfl
theorem fc_sq {tb : Nat → Nat} {n : Nat} {d : Nat} {c : Cur} (hs : isS tb n 91 c = true) : fcC tb n (d + 1) c = bindR (fcC tb n d (nx tb n c.1)) (fun c1 => bindR (goT tb n d c1) (signP tb n 93)) := by
  unfold fcC
  rw [fcR, fcB, if_neg (fun q => isW_noS q (by decide) hs), if_pos hs]
  show rc (bindR (testR tb n (fcR tb n d) (nx tb n c.1)) (fun r => bindR (signP tb n 93 r.1) (fun c1 => .ok (c1, r.2)))) = _
  rw [rc_bindC (G := signP tb n 93), te_rc, bindR_assoc]
  rfl
theorem fc_not {tb : Nat → Nat} {n : Nat} {d : Nat} {c : Cur} (hw : isW tb n wNot c = true) : fcC tb n (d + 1) c = fcC tb n d (nx tb n c.1) := by
  unfold fcC
  rw [fcR, fcB, if_pos hw]
  show rc (bindR (fcR tb n d (nx tb n c.1)) _) = _
  cases fcR tb n d (nx tb n c.1) <;> rfl
theorem fc_0 {tb : Nat → Nat} {n : Nat} {c : Cur} (h : isS tb n 91 c = true ∨ isW tb n wNot c = true) : fcC tb n 0 c = .error (4, c.1) := by
  unfold fcC
  rw [fcR, fcB]
  by_cases hw : isW tb n wNot c = true
  · rw [if_pos hw]; rfl
  · rw [if_neg hw, if_pos (h.resolve_right hw)]; rfl
theorem fc_at {tb : Nat → Nat} {n : Nat} {d : Nat} {c : Cur} (h1 : ¬ isS tb n 91 c = true) (h2 : ¬ isW tb n wNot c = true) : fcC tb n d c = atC tb n d c := by
  unfold fcC atC
  obtain ⟨Q, e⟩ := fcR_B tb n d c
  rw [e]
  unfold fcB
  rw [if_neg h2, if_neg h1]
  by_cases h3 : isW tb n wAll c = true
  · rw [if_pos h3, if_pos h3]; rfl
  · rw [if_neg h3, if_neg h3]; exact rc_rel c
theorem goT_and {tb : Nat → Nat} {n : Nat} {d : Nat} {c : Cur} (hw : isW tb n wAnd c = true) : goT tb n d c = bindR (fcC tb n d (nx tb n c.1)) (goT tb n d) := by
  have hn := nx_gt (tb := tb) (isW_lt hw)
  unfold fcC
  rw [goT, andR, if_pos hw, bindR_assoc]
  cases hF : fcR tb n d (nx tb n c.1) with
  | error e => rfl
  | ok r =>
    have hm := fcR_mono d _ _ hF
    show rc (bindR (andR tb n (fcR tb n d) (n + 1) r.1 ([] ++ r.2 ++ [10])) _) = goT tb n d r.1
    rw [andR_fuel (fcR_mono d) (n + 1) (n + 2) r.1 _ (by omega) (by omega) (by omega) (by omega)]
    exact goT_k _
theorem goT_or {tb : Nat → Nat} {n : Nat} {d : Nat} {c : Cur} (h1 : ¬ isW tb n wAnd c = true) (hw : isW tb n wOr c = true) : goT tb n d c = bindR (fcC tb n d (nx tb n c.1)) (goT tb n d) := by
  have hn := nx_gt (tb := tb) (isW_lt hw)
  unfold fcC
  rw [goT, andR_stop h1]
  show rc (orR tb n (fcR tb n d) (n + 1 + 1) c []) = _
  rw [orR, if_pos hw]
  unfold bothR
  rw [bindR_assoc]
  cases hF : fcR tb n d (nx tb n c.1) with
  | error e => rfl
  | ok r =>
    have hm := fcR_mono d _ _ hF
    show rc (bindR (andR tb n (fcR tb n d) (n + 2) r.1 r.2) _) = goT tb n d r.1
    rw [← goT_k r.2]
    cases hA : andR tb n (fcR tb n d) (n + 2) r.1 r.2 with
    | error e => rfl
    | ok a =>
      have hm2 := andR_mono (fcR_mono d) _ _ _ _ hA
      show rc (orR tb n (fcR tb n d) (n + 1) a.1 ([] ++ a.2 ++ [11])) = rc (orR tb n (fcR tb n d) (n + 2) a.1 a.2)
      rw [orR_fuel (fcR_mono d) (n + 1) (n + 2) a.1 _ (by omega) (by omega) (by omega) (by omega), rc_or, rc_or a.2]
theorem goT_stop {tb : Nat → Nat} {n : Nat} {d : Nat} {c : Cur} (h1 : ¬ isW tb n wAnd c = true) (h2 : ¬ isW tb n wOr c = true) : goT tb n d c = .ok c := by
  rw [goT, andR_stop h1]
  show rc (orR tb n (fcR tb n d) (n + 1 + 1) c []) = _
  rw [orR_stop h2]; rfl
def aftL (tb : Nat → Nat) (n : Nat) : List Nat → Nat → Cur → Except Err Cur
  | [], d, c => goT tb n d c
  | o :: L, d, c => if o = 12 then aftL tb n L (d + 1) c else if o = 25 then bindR (goT tb n d c) (fun c1 => bindR (signP tb n 93 c1) (fun c2 => aftL tb n L (d + 1) c2)) else aftL tb n L d c
def befL (tb : Nat → Nat) (n : Nat) (L : List Nat) (d : Nat) (c : Cur) : Except Err Cur := bindR (fcC tb n d c) (fun c1 => aftL tb n L d c1)
def opT : List Nat → Nat
  | [] => 0
  | o :: L => (if o = 12 ∨ o = 25 then 1 else 0) + opT L
def shT : List Nat → Prop
  | [] => True
  | o :: L => shT L ∧ (o = 12 ∨ o = 25 ∨ ((o = 10 ∨ o = 11) ∧ ¬ hdL L = 12))
def TT (X : List Nat → Nat → Cur → Except Err Cur) (T : Except Err Cur) (c : Cur) (qt : Nat → Nat) (w : Nat) (qo : Int32) : Prop := ∃ dd, dd + opT (wlist qt 0 w) = 6 ∧ qo = nI (6 - dd) ∧ shT (wlist qt 0 w) ∧ X (wlist qt 0 w) dd c = T
def tO (X : List Nat → Nat → Cur → Except Err Cur) (T o : Except Err Cur) (qt : Nat → Nat) (w : Nat) (qo : Int32) : Prop := match o with
  | .error e => T = .error e
  | .ok c => TT X T c qt w qo
theorem to_at {tb : Nat → Nat} {n : Nat} {o : Except Err Cur} {pa : Nat} {pd : Int32} {pb : Nat} {pp : Int32} {X : List Nat → Nat → Cur → Except Err Cur} {T : Except Err Cur} {qt : Nat → Nat} {w : Nat} {qo : Int32} (h : moO tb n o pa pd pb pp) (hb : pb = 0) (hy : tO X T o qt w qo) : TT X T (cuO tb n pa pd) qt w qo := by
  rw [(mo_ok h hb).1] at hy
  exact hy
theorem to_bad {tb : Nat → Nat} {n : Nat} {o : Except Err Cur} {pa : Nat} {pd : Int32} {pb : Nat} {pp : Int32} {X : List Nat → Nat → Cur → Except Err Cur} {T : Except Err Cur} {qt : Nat → Nat} {w : Nat} {qo : Int32} (h : moO tb n o pa pd pb pp) (hb : ¬ pb = 0) (hy : tO X T o qt w qo) : o = T := by
  obtain ⟨e, rfl⟩ := mo_nz h hb
  exact (show T = .error e from hy).symm
theorem wl_push {qt : Nat → Nat} {w v : Nat} : wlist (updN qt w v) 0 (w + 1) = v :: wlist qt 0 w := wlist_push (b := 0) (Nat.zero_le w)
theorem wl_pop {qt : Nat → Nat} {w : Nat} (h : 1 ≤ w) : wlist qt 0 w = qt (w - 1) :: wlist qt 0 (w - 1) := wlist_pop (b := 0) (by omega)
theorem hd_top0 {qt : Nat → Nat} {w : Nat} : hdL (wlist qt 0 w) = topO qt 0 w := hd_top (b := 0)
theorem tt_0 {tb : Nat → Nat} {n : Nat} {c : Cur} {qt : Nat → Nat} : TT (befL tb n) (rc (testR tb n (fcR tb n 6) c)) c qt 0 0 := ⟨6, rfl, rfl, trivial, (te_rc c).symm⟩
theorem nI_6 {dd : Nat} (h : dd ≤ 6) (q : ¬ nI (6 - dd) = 6) : 1 ≤ dd := by
  rcases Nat.eq_zero_or_pos dd with e | e
  · exact absurd ((qo_6 h).mpr e) q
  · exact e
theorem tb_sq {tb : Nat → Nat} {n : Nat} {T : Except Err Cur} {c : Cur} {qt : Nat → Nat} {w : Nat} {qo : Int32} (h : TT (befL tb n) T c qt w qo) (hq : ¬ qo = 6) (hs : isS tb n 91 c = true) : TT (befL tb n) T (nx tb n c.1) (updN qt w 25) (w + 1) (qo + 1) := by
  obtain ⟨dd, h1, h2, h3, h4⟩ := h
  rw [h2] at hq
  have h0 := nI_6 (by omega) hq
  obtain ⟨d, rfl⟩ : ∃ d, dd = d + 1 := ⟨dd - 1, by omega⟩
  refine ⟨d, ?_, by rw [h2]; exact nI_add1 h0 (by omega), ?_, ?_⟩
  · rw [wl_push, opT, if_pos (Or.inr rfl)]; omega
  · rw [wl_push]; exact ⟨h3, Or.inr (Or.inl rfl)⟩
  · rw [wl_push, ← h4]
    unfold befL
    rw [fc_sq hs, bindR_assoc]
    refine bindR_congr _ (fun a _ => ?_)
    rw [aftL, if_neg (by decide), if_pos rfl, bindR_assoc]
theorem tb_not {tb : Nat → Nat} {n : Nat} {T : Except Err Cur} {c : Cur} {qt : Nat → Nat} {w : Nat} {qo : Int32} (h : TT (befL tb n) T c qt w qo) (hq : ¬ qo = 6) (hw : isW tb n wNot c = true) : TT (befL tb n) T (nx tb n c.1) (updN qt w 12) (w + 1) (qo + 1) := by
  obtain ⟨dd, h1, h2, h3, h4⟩ := h
  rw [h2] at hq
  have h0 := nI_6 (by omega) hq
  obtain ⟨d, rfl⟩ : ∃ d, dd = d + 1 := ⟨dd - 1, by omega⟩
  refine ⟨d, ?_, by rw [h2]; exact nI_add1 h0 (by omega), ?_, ?_⟩
  · rw [wl_push, opT, if_pos (Or.inl rfl)]; omega
  · rw [wl_push]; exact ⟨h3, Or.inl rfl⟩
  · rw [wl_push, ← h4]
    unfold befL
    rw [fc_not hw]
    refine bindR_congr _ (fun a _ => ?_)
    rw [aftL, if_pos rfl]
theorem tb_full {tb : Nat → Nat} {n : Nat} {T : Except Err Cur} {c : Cur} {qt : Nat → Nat} {w : Nat} {qo : Int32} (h : TT (befL tb n) T c qt w qo) (hq : qo = 6) (hs : isS tb n 91 c = true ∨ isW tb n wNot c = true) : T = .error (4, c.1) := by
  obtain ⟨dd, h1, h2, h3, h4⟩ := h
  have h0 := (qo_6 (by omega)).mp (h2.symm.trans hq)
  subst h0
  rw [← h4]
  unfold befL
  rw [fc_0 hs]; rfl
theorem wl_keep {qt qt2 : Nat → Nat} {w : Nat} (h : ∀ j, j < w → qt2 j = qt j) : wlist qt2 0 w = wlist qt 0 w := wlist_cg w (fun j hj => by rw [Nat.zero_add]; exact h j hj)
theorem ta_at {tb : Nat → Nat} {n : Nat} {T : Except Err Cur} {c : Cur} {qt qt2 : Nat → Nat} {w w2 : Nat} {qo qo2 : Int32} {dd : Nat} {o2 : Except Err Cur} (h1 : dd + opT (wlist qt 0 w) = 6) (h2 : qo = nI (6 - dd)) (h3 : shT (wlist qt 0 w)) (h4 : befL tb n (wlist qt 0 w) dd c = T) (n1 : ¬ isS tb n 91 c = true) (n2 : isW tb n wNot c = false) (ho : o2 = atC tb n dd c) (hk : ∀ c2, o2 = .ok c2 → (qo2 = qo ∧ w2 = w ∧ ∀ j, j < w → qt2 j = qt j)) : tO (aftL tb n) T o2 qt2 w2 qo2 := by
  have h5 : bindR o2 (fun c1 => aftL tb n (wlist qt 0 w) dd c1) = T := by
    rw [← h4, ho]
    unfold befL
    rw [fc_at n1 (by rw [n2]; decide)]
  cases o2 with
  | error e => exact h5.symm
  | ok c2 =>
    obtain ⟨k1, k2, k3⟩ := hk c2 rfl
    subst k1; subst k2
    exact ⟨dd, by rw [wl_keep k3]; exact h1, h2, by rw [wl_keep k3]; exact h3, by rw [wl_keep k3]; exact h5⟩
theorem ta_not {tb : Nat → Nat} {n : Nat} {T : Except Err Cur} {c : Cur} {qt : Nat → Nat} {w : Nat} {qo : Int32} (h : TT (aftL tb n) T c qt w qo) (hw : 1 ≤ w) (hv : qt (w - 1) = 12) : TT (aftL tb n) T c qt (w - 1) (qo - 1) := by
  obtain ⟨dd, h1, h2, h3, h4⟩ := h
  rw [wl_pop hw, hv] at h1 h3 h4
  rw [opT, if_pos (Or.inl rfl)] at h1
  rw [aftL, if_pos rfl] at h4
  exact ⟨dd + 1, by omega, by rw [h2]; exact nI_sub1 (by omega), h3.1, h4⟩
theorem ta_drop {tb : Nat → Nat} {n : Nat} {T : Except Err Cur} {c : Cur} {qt : Nat → Nat} {w : Nat} {qo : Int32} (h : TT (aftL tb n) T c qt w qo) (hw : 1 ≤ w) (hv : qt (w - 1) = 10 ∨ qt (w - 1) = 11) : TT (aftL tb n) T c qt (w - 1) qo ∧ ¬ topO qt 0 (w - 1) = 12 := by
  obtain ⟨dd, h1, h2, h3, h4⟩ := h
  rw [wl_pop hw] at h1 h3 h4
  rw [opT, if_neg (by omega)] at h1
  rw [aftL, if_neg (by omega), if_neg (by omega)] at h4
  have h5 := h3.2
  rw [hd_top0] at h5
  exact ⟨⟨dd, by omega, h2, h3.1, h4⟩, by omega⟩
theorem ta_top {tb : Nat → Nat} {n : Nat} {T : Except Err Cur} {c : Cur} {qt : Nat → Nat} {w : Nat} {qo : Int32} (h : TT (aftL tb n) T c qt w qo) (hw : 1 ≤ w) (ht : ¬ topO qt 0 w = 12) (h25 : ¬ qt (w - 1) = 25) : qt (w - 1) = 10 ∨ qt (w - 1) = 11 := by
  obtain ⟨dd, h1, h2, h3, h4⟩ := h
  rw [wl_pop hw] at h3
  have h5 := h3.2
  have h6 : topO qt 0 w = qt (w - 1) := by unfold topO; rw [if_pos (by omega)]
  omega
theorem ta_pop {tb : Nat → Nat} {n : Nat} {T : Except Err Cur} {c : Cur} {qt : Nat → Nat} {w : Nat} {qo : Int32} (h : TT (aftL tb n) T c qt w qo) (hw : 1 ≤ w) (hv : qt (w - 1) = 25) (hs : isS tb n 93 c = true) : TT (aftL tb n) T (nx tb n c.1) qt (w - 1) (qo - 1) := by
  obtain ⟨dd, h1, h2, h3, h4⟩ := h
  rw [wl_pop hw, hv] at h1 h3 h4
  rw [opT, if_pos (Or.inr rfl)] at h1
  rw [aftL, if_neg (by decide), if_pos rfl, goT_stop (fun q => isW_noS q (by decide) hs) (fun q => isW_noS q (by decide) hs)] at h4
  have h5 : bindR (signP tb n 93 c) (fun c2 => aftL tb n (wlist qt 0 (w - 1)) (dd + 1) c2) = T := h4
  rw [signP_t hs] at h5
  exact ⟨dd + 1, by omega, by rw [h2]; exact nI_sub1 (by omega), h3.1, h5⟩
theorem aft_sqgo {tb : Nat → Nat} {n : Nat} {c c2 : Cur} {d : Nat} (hg : goT tb n d c = bindR (fcC tb n d c2) (goT tb n d)) : ∀ L, shT L → ¬ hdL L = 12 → aftL tb n L d c = bindR (fcC tb n d c2) (fun c1 => aftL tb n L d c1)
  | [], _, _ => hg
  | o :: L, hs, ht => by
    have h12 : ¬ o = 12 := ht
    by_cases h25 : o = 25
    · rw [aftL, if_neg h12, if_pos h25, hg, bindR_assoc]
      refine bindR_congr _ (fun a _ => ?_)
      rw [aftL, if_neg h12, if_pos h25]
    · have h5 := hs.2
      rw [aftL, if_neg h12, if_neg h25, aft_sqgo hg L hs.1 (by omega)]
      refine bindR_congr _ (fun a _ => ?_)
      rw [aftL, if_neg h12, if_neg h25]
theorem ta_push {tb : Nat → Nat} {n : Nat} {T : Except Err Cur} {c : Cur} {qt : Nat → Nat} {w : Nat} {qo : Int32} {v : Nat} {c2 : Cur} (h : TT (aftL tb n) T c qt w qo) (ht : ¬ topO qt 0 w = 12) (hv : v = 10 ∨ v = 11) (hg : ∀ d, goT tb n d c = bindR (fcC tb n d c2) (goT tb n d)) : TT (befL tb n) T c2 (updN qt w v) (w + 1) qo := by
  obtain ⟨dd, h1, h2, h3, h4⟩ := h
  rw [← hd_top0] at ht
  refine ⟨dd, ?_, h2, ?_, ?_⟩
  · rw [wl_push, opT, if_neg (by omega)]; omega
  · rw [wl_push]; exact ⟨h3, Or.inr (Or.inr ⟨hv, ht⟩)⟩
  · rw [wl_push, ← h4, aft_sqgo (hg dd) _ h3 ht]
    unfold befL
    refine bindR_congr _ (fun a _ => ?_)
    rw [aftL, if_neg (by omega), if_neg (by omega)]
theorem wl_noQ {qt : Nat → Nat} : ∀ w, noQ qt w → ∀ x, x ∈ wlist qt 0 w → ¬ x = 25
  | 0, _, x, hx => by cases hx
  | w + 1, h, x, hx => by
    rcases List.mem_cons.mp (show x ∈ qt (0 + w) :: wlist qt 0 w from hx) with e | e
    · rw [e, Nat.zero_add]; exact h w (by omega)
    · exact wl_noQ w (fun j hj => h j (by omega)) x e
theorem wl_hasQ {qt : Nat → Nat} : ∀ w, hasQ qt w → 25 ∈ wlist qt 0 w
  | 0, h => by obtain ⟨j, hj, -⟩ := h; omega
  | w + 1, h => by
    obtain ⟨j, hj, e⟩ := h
    show 25 ∈ qt (0 + w) :: wlist qt 0 w
    rw [Nat.zero_add]
    by_cases q : j = w
    · subst q; rw [e]; exact List.mem_cons_self ..
    · exact List.mem_cons_of_mem _ (wl_hasQ w ⟨j, by omega, e⟩)
theorem aft_sqno {tb : Nat → Nat} {n : Nat} {c : Cur} {d : Nat} (hg : goT tb n d c = .ok c) : ∀ L, shT L → ¬ hdL L = 12 → (∀ x, x ∈ L → ¬ x = 25) → aftL tb n L d c = .ok c
  | [], _, _, _ => hg
  | o :: L, hs, ht, h25 => by
    have h12 : ¬ o = 12 := ht
    have h5 := hs.2
    have h6 : ¬ o = 25 := h25 o (List.mem_cons_self ..)
    rw [aftL, if_neg h12, if_neg h6]
    exact aft_sqno hg L hs.1 (by omega) (fun x hx => h25 x (List.mem_cons_of_mem _ hx))
theorem aft_sqbad {tb : Nat → Nat} {n : Nat} {c : Cur} {d : Nat} (hg : goT tb n d c = .ok c) (hs3 : ¬ isS tb n 93 c = true) : ∀ L, shT L → ¬ hdL L = 12 → 25 ∈ L → aftL tb n L d c = .error (1, c.1)
  | [], _, _, h => by cases h
  | o :: L, hs, ht, h => by
    have h12 : ¬ o = 12 := ht
    have h5 := hs.2
    by_cases h6 : o = 25
    · rw [aftL, if_neg h12, if_pos h6, hg]
      show bindR (signP tb n 93 c) _ = _
      rw [signP_f hs3]; rfl
    · rw [aftL, if_neg h12, if_neg h6]
      rcases List.mem_cons.mp h with e | e
      · exact absurd e.symm h6
      · exact aft_sqbad hg hs3 L hs.1 (by omega) e
theorem ta_end {tb : Nat → Nat} {n : Nat} {T : Except Err Cur} {c : Cur} {qt : Nat → Nat} {w : Nat} {qo : Int32} (h : TT (aftL tb n) T c qt w qo) (ht : ¬ topO qt 0 w = 12) (hq : noQ qt w) (h1 : isW tb n wAnd c = false) (h2 : isW tb n wOr c = false) : T = .ok c := by
  obtain ⟨dd, g1, g2, g3, g4⟩ := h
  rw [← hd_top0] at ht
  rw [← g4]
  exact aft_sqno (goT_stop (by rw [h1]; decide) (by rw [h2]; decide)) _ g3 ht (wl_noQ w hq)
