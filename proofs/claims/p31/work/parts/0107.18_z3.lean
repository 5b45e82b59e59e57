/-! the table -/
def kcNm (wk b w d m t al : Nat) : Nat → Int64 := fun k => Int64.ofNat (if k = 0 then m else if k = 1 then b else if k = 2 then w else if k = 3 then d else if k = 4 then wk else if k = 5 then t else al)
def kcSaid (L : LkS) (wk b w d m : Nat) : Nat := kcTen (kcV L 0 (kcNm wk b w d m 0 0))
def kcWage (L : LkS) (wk b w d m : Nat) : Int64 := kcV L 2 (kcNm wk b w d m 0 0)
def kcBec (L : LkS) (wk b w d a t al : Nat) : Nat := kcTen (kcV L 1 (kcNm wk b w d a t al))
def kcMB (S T : Nat → Nat) (li : Nat) : Nat := kcK (fun m => T ((S m + li) % 10) == m) 10
theorem kcMB_lt (S T : Nat → Nat) (li : Nat) : kcMB S T li < 1024 := kcK_lt _ 10
def kcDy (f : Nat → Int64) (wk b w d : Nat) : Prop := f 1 = Int64.ofNat b ∧ f 2 = Int64.ofNat w ∧ f 3 = Int64.ofNat d ∧ f 4 = Int64.ofNat wk
def kcRow (L : LkS) (wk b w d : Nat) (sa : Nat → Nat) (ft fa fo : Nat → Int32) (fg : Nat → Int64) : Prop :=
  (∀ m, m < 10 → sa (d * 10 + m) = kcSaid L wk b w d m ∧ fg (d * 10 + m) = kcWage L wk b w d m) ∧
  ∀ p, p < 10 → (∀ t, t < 10 → ft ((d * 10 + p) * 10 + t) = nI (kcBec L wk b w d p t 0)) ∧ fa (d * 10 + p) = nI (kcBec L wk b w d p 0 1) ∧ fo (d * 10 + p) = nI (kcMB (kcSaid L wk b w d) (fun t => kcBec L wk b w d p t 0) 0)
def kcTI (L : LkS) (sa : Nat → Nat) (ft fa fo : Nat → Int32) (fg : Nat → Int64) (fk : Nat → Int32) : Prop :=
  ∀ d wk b w, d < 9 → wk ≤ 999 → b ≤ 9 → w ≤ 9 → fk d = nI ((wk * 10 + b) * 10 + w) → kcRow L wk b w d sa ft fa fo fg
theorem kup_s {f g : Nat → Int64} {k : Nat} {x : Int64} (e : g = vp_updL f k x) : g k = x := by
  rw [e]; unfold vp_updL; rw [if_pos rfl]
theorem kup_n {f g : Nat → Int64} {k j : Nat} {x : Int64} (e : g = vp_updL f k x) (h : ¬ j = k) : g j = f j := by
  rw [e]; unfold vp_updL; rw [if_neg h]
theorem kui_s {f g : Nat → Int32} {k : Nat} {x : Int32} (e : g = upd f k x) : g k = x := by
  rw [e]; unfold upd; rw [if_pos rfl]
theorem kui_n {f g : Nat → Int32} {k j : Nat} {x : Int32} (e : g = upd f k x) (h : ¬ j = k) : g j = f j := by
  rw [e]; unfold upd; rw [if_neg h]
theorem kun_s {f g : Nat → Nat} {k x : Nat} (e : g = updN f k x) : g k = x := by
  rw [e]; unfold updN; rw [if_pos rfl]
theorem kun_n {f g : Nat → Nat} {k j x : Nat} (e : g = updN f k x) (h : ¬ j = k) : g j = f j := by
  rw [e]; unfold updN; rw [if_neg h]
theorem kdy_of {f g1 g2 g3 g4 : Nat → Int64} {wk b w d : Nat} (e1 : g1 = vp_updL f 3 (Int32.toInt64 (nI d))) (e2 : g2 = vp_updL g1 1 (Int32.toInt64 (nI b))) (e3 : g3 = vp_updL g2 2 (Int32.toInt64 (nI w))) (e4 : g4 = vp_updL g3 4 (Int32.toInt64 (nI wk))) (hd : d < 2147483648) (hb : b < 2147483648) (hw : w < 2147483648) (hk : wk < 2147483648) : kcDy g4 wk b w d := by
  refine ⟨?_, ?_, ?_, ?_⟩
  · rw [kup_n e4 (by decide), kup_n e3 (by decide), kup_s e2, kx_i2l hb]
  · rw [kup_n e4 (by decide), kup_s e3, kx_i2l hw]
  · rw [kup_n e4 (by decide), kup_n e3 (by decide), kup_n e2 (by decide), kup_s e1, kx_i2l hd]
  · rw [kup_s e4, kx_i2l hk]
theorem kdy_up {f g : Nat → Int64} {wk b w d k : Nat} {x : Int64} (h : kcDy f wk b w d) (e : g = vp_updL f k x) (hk : k = 0 ∨ 5 ≤ k) : kcDy g wk b w d := by
  obtain ⟨h1, h2, h3, h4⟩ := h
  exact ⟨by rw [kup_n e (by omega), h1], by rw [kup_n e (by omega), h2], by rw [kup_n e (by omega), h3], by rw [kup_n e (by omega), h4]⟩
theorem kx_ex {L : LkS} {w : Nat} {p : Nat × Nat} (h : kcLk L) (hw : w < 3) (hp : lG (lkF L) w = some p) (nm : Nat → Int64) : kcEx nm 64 (kcSub (lK (lkF L)) (p.1, p.2)) [] = some [kcV L w nm] := by
  have h1 := kcV_ex h hw nm
  unfold kcSeg at h1
  rw [hp] at h1
  exact h1
theorem kx_ns {L : LkS} {w k : Nat} {p : Nat × Nat} (h : kcLk L) (hk : k = if w = 1 then 1 else 0) (hp : lG (lkF L) w = some p) : kcNs k (kcSub (lK (lkF L)) (p.1, p.2)) := by
  rw [hk]; exact (kcLk_F h w p hp).2.2.2
theorem kx_bk {L : LkS} {w : Nat} {p : Nat × Nat} (h : kcLk L) (hp : lG (lkF L) w = some p) : p.1 < p.2 ∧ p.2 ≤ (lK (lkF L)).length := ⟨(kcLk_F h w p hp).1, (kcLk_F h w p hp).2.1⟩
theorem kx_sg {L : LkS} {w : Nat} {p : Nat × Nat} {a b : Int32} (h : sgO (lG (lkF L) w) a b) (hp : lG (lkF L) w = some p) : a = nI p.1 ∧ b = nI p.2 ∧ p.2 ≤ 1600 := by
  rw [hp] at h
  exact ⟨h.1, h.2.1, h.2.2.2⟩
theorem kx_nm5 {f : Nat → Int64} {wk b w d m : Nat} (h : kcDy f wk b w d) (h0 : f 0 = Int64.ofNat m) : ∀ j, j < 5 → f j = kcNm wk b w d m 0 0 j := by
  intro j hj
  rcases (show j = 0 ∨ j = 1 ∨ j = 2 ∨ j = 3 ∨ j = 4 by omega) with rfl | rfl | rfl | rfl | rfl
  · exact h0
  · exact h.1
  · exact h.2.1
  · exact h.2.2.1
  · exact h.2.2.2
theorem kx_nm7 {f : Nat → Int64} {wk b w d m t al : Nat} (h : kcDy f wk b w d) (h0 : f 0 = Int64.ofNat m) (h5 : f 5 = Int64.ofNat t) (h6 : f 6 = Int64.ofNat al) : ∀ j, j < 7 → f j = kcNm wk b w d m t al j := by
  intro j hj
  rcases (show j = 0 ∨ j = 1 ∨ j = 2 ∨ j = 3 ∨ j = 4 ∨ j = 5 ∨ j = 6 by omega) with rfl | rfl | rfl | rfl | rfl | rfl | rfl
  · exact h0
  · exact h.1
  · exact h.2.1
  · exact h.2.2.1
  · exact h.2.2.2
  · exact h5
  · exact h6
theorem kx_said {L : LkS} {f : Nat → Int64} {wk b w d m : Nat} (hL : kcLk L) (h : kcDy f wk b w d) (h0 : f 0 = Int64.ofNat m) : kcTen (kcV L 0 f) = kcSaid L wk b w d m := by
  unfold kcSaid
  rw [kcV_cg (w := 0) (nm2 := kcNm wk b w d m 0 0) hL (by decide) (kx_nm5 h h0)]
theorem kx_wage {L : LkS} {f : Nat → Int64} {wk b w d m : Nat} (hL : kcLk L) (h : kcDy f wk b w d) (h0 : f 0 = Int64.ofNat m) : kcV L 2 f = kcWage L wk b w d m := by
  unfold kcWage
  rw [kcV_cg (w := 2) (nm2 := kcNm wk b w d m 0 0) hL (by decide) (kx_nm5 h h0)]
theorem kx_bec {L : LkS} {f : Nat → Int64} {wk b w d m t al : Nat} (hL : kcLk L) (h : kcDy f wk b w d) (h0 : f 0 = Int64.ofNat m) (h5 : f 5 = Int64.ofNat t) (h6 : f 6 = Int64.ofNat al) : kcTen (kcV L 1 f) = kcBec L wk b w d m t al := by
  unfold kcBec
  rw [kcV_cg (w := 1) (nm2 := kcNm wk b w d m t al) hL (by decide) (kx_nm7 h h0 h5 h6)]
/-! the words of a day -/
def kfw (L : LkS) (wk b w d i : Nat) (sa sb : Nat → Nat) (fg gb : Nat → Int64) : Prop :=
  (∀ m, m < i → sb (d * 10 + m) = kcSaid L wk b w d m ∧ gb (d * 10 + m) = kcWage L wk b w d m) ∧ ∀ j, j < d * 10 ∨ d * 10 + 10 ≤ j → sb j = sa j ∧ gb j = fg j
theorem kfw_0 (L : LkS) (wk b w d : Nat) (sa : Nat → Nat) (fg : Nat → Int64) : kfw L wk b w d 0 sa sa fg fg := ⟨fun m hm => absurd hm (Nat.not_lt_zero m), fun j _ => ⟨rfl, rfl⟩⟩
theorem kfw_s {L : LkS} {wk b w d i : Nat} {sa sb sc : Nat → Nat} {fg gb gc : Nat → Int64} {v : Nat} {x : Int64} (h : kfw L wk b w d i sa sb fg gb) (e1 : sc = updN sb (d * 10 + i) v) (e2 : gc = vp_updL gb (d * 10 + i) x) (hi : i < 10) (hv : v = kcSaid L wk b w d i) (hx : x = kcWage L wk b w d i) : kfw L wk b w d (i + 1) sa sc fg gc := by
  refine ⟨fun m hm => ?_, fun j hj => ?_⟩
  · by_cases e : m = i
    · subst e; rw [kun_s e1, kup_s e2]; exact ⟨hv, hx⟩
    · rw [kun_n e1 (by omega), kup_n e2 (by omega)]; exact h.1 m (by omega)
  · rw [kun_n e1 (by omega), kup_n e2 (by omega)]; exact h.2 j hj
/-! the deeds of a day -/
def kfd (L : LkS) (wk b w d i : Nat) (ft gt fa ga fo go : Nat → Int32) : Prop :=
  (∀ p, p < i → (∀ t, t < 10 → gt ((d * 10 + p) * 10 + t) = nI (kcBec L wk b w d p t 0)) ∧ ga (d * 10 + p) = nI (kcBec L wk b w d p 0 1) ∧ go (d * 10 + p) = nI (kcMB (kcSaid L wk b w d) (fun t => kcBec L wk b w d p t 0) 0)) ∧
  (∀ j, j < d * 100 ∨ d * 100 + 100 ≤ j → gt j = ft j) ∧ ∀ j, j < d * 10 ∨ d * 10 + 10 ≤ j → ga j = fa j ∧ go j = fo j
theorem kfd_0 (L : LkS) (wk b w d : Nat) (ft fa fo : Nat → Int32) : kfd L wk b w d 0 ft ft fa fa fo fo := ⟨fun m hm => absurd hm (Nat.not_lt_zero m), fun _ _ => rfl, fun j _ => ⟨rfl, rfl⟩⟩
def kft (L : LkS) (wk b w d i k : Nat) (gt ht : Nat → Int32) : Prop :=
  (∀ t, t < k → ht ((d * 10 + i) * 10 + t) = nI (kcBec L wk b w d i t 0)) ∧ ∀ j, j < (d * 10 + i) * 10 ∨ (d * 10 + i) * 10 + 10 ≤ j → ht j = gt j
theorem kft_0 (L : LkS) (wk b w d i : Nat) (gt : Nat → Int32) : kft L wk b w d i 0 gt gt := ⟨fun m hm => absurd hm (Nat.not_lt_zero m), fun _ _ => rfl⟩
theorem kft_s {L : LkS} {wk b w d i k : Nat} {gt ht hs : Nat → Int32} {x : Int32} (h : kft L wk b w d i k gt ht) (e : hs = upd ht ((d * 10 + i) * 10 + k) x) (hk : k < 10) (hx : x = nI (kcBec L wk b w d i k 0)) : kft L wk b w d i (k + 1) gt hs := by
  refine ⟨fun t ht2 => ?_, fun j hj => ?_⟩
  · by_cases q : t = k
    · subst q; rw [kui_s e]; exact hx
    · rw [kui_n e (by omega)]; exact h.1 t (by omega)
  · rw [kui_n e (by omega)]; exact h.2 j hj
theorem kfd_s {L : LkS} {wk b w d i : Nat} {ft gt ht fa ga hs fo go ho : Nat → Int32} {x y : Int32} (h : kfd L wk b w d i ft gt fa ga fo go) (h2 : kft L wk b w d i 10 gt ht) (e1 : hs = upd ga (d * 10 + i) x) (e2 : ho = upd go (d * 10 + i) y) (hi : i < 10) (hx : x = nI (kcBec L wk b w d i 0 1)) (hy : y = nI (kcMB (kcSaid L wk b w d) (fun t => kcBec L wk b w d i t 0) 0)) : kfd L wk b w d (i + 1) ft ht fa hs fo ho := by
  refine ⟨fun p hp => ?_, fun j hj => ?_, fun j hj => ?_⟩
  · by_cases q : p = i
    · subst q
      exact ⟨h2.1, by rw [kui_s e1]; exact hx, by rw [kui_s e2]; exact hy⟩
    · obtain ⟨a1, a2, a3⟩ := h.1 p (by omega)
      exact ⟨fun t ht2 => by rw [h2.2 _ (by omega)]; exact a1 t ht2, by rw [kui_n e1 (by omega)]; exact a2, by rw [kui_n e2 (by omega)]; exact a3⟩
  · rw [h2.2 j (by omega)]; exact h.2.1 j hj
  · rw [kui_n e1 (by omega), kui_n e2 (by omega)]; exact h.2.2 j hj
theorem kor_10 {x i : Nat} (hx : x < 1024) (hi : i < 10) : nI x ||| ((1 : Int32) <<< (nI i &&& 31)) = nI (x ||| 2 ^ i) := by
  exact (bt_o1 (n := 10) (by decide) hx hi).1
theorem kK_lt10 (P : Nat → Bool) {i : Nat} (hi : i ≤ 10) : kcK P i < 1024 := Nat.lt_of_lt_of_le (kcK_lt P i) (Nat.pow_le_pow_right (by decide) hi)
/-- a day's rows, whole -/
theorem krow_of {L : LkS} {wk b w d : Nat} {sa sb : Nat → Nat} {fg gb : Nat → Int64} {ft gt fa ga fo go : Nat → Int32} (h1 : kfw L wk b w d 10 sa sb fg gb) (h2 : kfd L wk b w d 10 ft gt fa ga fo go) : kcRow L wk b w d sb gt ga go gb := ⟨h1.1, h2.1⟩
theorem krow_ne {L : LkS} {wk b w d wk2 b2 w2 e : Nat} {sa sb : Nat → Nat} {fg gb : Nat → Int64} {ft gt fa ga fo go : Nat → Int32} (h1 : kfw L wk b w d 10 sa sb fg gb) (h2 : kfd L wk b w d 10 ft gt fa ga fo go) (he : ¬ e = d) (h : kcRow L wk2 b2 w2 e sa ft fa fo fg) : kcRow L wk2 b2 w2 e sb gt ga go gb := by
  refine ⟨fun m hm => ?_, fun p hp => ?_⟩
  · rw [(h1.2 _ (by omega)).1, (h1.2 _ (by omega)).2]; exact h.1 m hm
  · obtain ⟨a1, a2, a3⟩ := h.2 p hp
    exact ⟨fun t ht => by rw [h2.2.1 _ (by omega)]; exact a1 t ht, by rw [(h2.2.2 _ (by omega)).1]; exact a2, by rw [(h2.2.2 _ (by omega)).2]; exact a3⟩
theorem kti_up {L : LkS} {wk b w d : Nat} {sa sb : Nat → Nat} {fg gb : Nat → Int64} {ft gt fa ga fo go fk gk : Nat → Int32} (hT : kcTI L sa ft fa fo fg fk) (h1 : kfw L wk b w d 10 sa sb fg gb) (h2 : kfd L wk b w d 10 ft gt fa ga fo go) (e : gk = upd fk d (nI ((wk * 10 + b) * 10 + w))) (hk : wk ≤ 999) (hb : b ≤ 9) (hw : w ≤ 9) : kcTI L sb gt ga go gb gk := by
  intro d2 wk2 b2 w2 hd2 hk2 hb2 hw2 hq
  by_cases q : d2 = d
  · subst q
    rw [kui_s e] at hq
    have h3 := (neq _ _ (by omega) (by omega)).mp hq
    obtain rfl : wk = wk2 := by omega
    obtain rfl : b = b2 := by omega
    obtain rfl : w = w2 := by omega
    exact krow_of h1 h2
  · rw [kui_n e q] at hq
    exact krow_ne h1 h2 q (hT d2 wk2 b2 w2 hd2 hk2 hb2 hw2 hq)
theorem kwk {L : LkS} {wq wn wh ch : Nat} {y1 : Nat → Int32} (hL : kcLk L) (hc : cdK (lK (lkF L)) ch wh y1) (hq : (wh = 1 ∧ wq = wn) ∨ (wh = 0 ∧ wq = 0)) : kcSaid L wn = kcSaid L wq ∧ kcWage L wn = kcWage L wq ∧ kcBec L wn = kcBec L wq := by
  rcases hq with ⟨h1, rfl⟩ | ⟨h1, rfl⟩
  · exact ⟨rfl, rfl, rfl⟩
  · have h4 : 44 ∉ lK (lkF L) := fun q => absurd (hc.2.1.mpr q) (by omega)
    refine ⟨?_, ?_, ?_⟩
    · funext b w d m
      unfold kcSaid
      rw [kcV_wk (nm2 := kcNm 0 b w d m 0 0) hL (by decide) h4 (fun j hj hj4 => by unfold kcNm; rw [if_neg hj4, if_neg hj4])]
    · funext b w d m
      unfold kcWage
      rw [kcV_wk (nm2 := kcNm 0 b w d m 0 0) hL (by decide) h4 (fun j hj hj4 => by unfold kcNm; rw [if_neg hj4, if_neg hj4])]
    · funext b w d p t al
      unfold kcBec
      rw [kcV_wk (nm2 := kcNm 0 b w d p t al) hL (by decide) h4 (fun j hj hj4 => by unfold kcNm; rw [if_neg hj4, if_neg hj4])]
theorem kfw_wk {L : LkS} {wn wq b w d i : Nat} {sa sb : Nat → Nat} {fg gb : Nat → Int64} (hk : kcSaid L wn = kcSaid L wq ∧ kcWage L wn = kcWage L wq ∧ kcBec L wn = kcBec L wq) (h : kfw L wn b w d i sa sb fg gb) : kfw L wq b w d i sa sb fg gb := by
  unfold kfw at h ⊢
  rw [← hk.1, ← hk.2.1]
  exact h
theorem kfd_wk {L : LkS} {wn wq b w d i : Nat} {ft gt fa ga fo go : Nat → Int32} (hk : kcSaid L wn = kcSaid L wq ∧ kcWage L wn = kcWage L wq ∧ kcBec L wn = kcBec L wq) (h : kfd L wn b w d i ft gt fa ga fo go) : kfd L wq b w d i ft gt fa ga fo go := by
  unfold kfd at h ⊢
  rw [← hk.1, ← hk.2.2]
  exact h
theorem krow_kw {L : LkS} {wn wq b w d : Nat} {sa : Nat → Nat} {fg : Nat → Int64} {ft fa fo : Nat → Int32} (hk : kcSaid L wn = kcSaid L wq ∧ kcWage L wn = kcWage L wq ∧ kcBec L wn = kcBec L wq) (h : kcRow L wq b w d sa ft fa fo fg) : kcRow L wn b w d sa ft fa fo fg := by
  unfold kcRow at h ⊢
  rw [hk.1, hk.2.1, hk.2.2]
  exact h
theorem krows_s {L : LkS} {wq i : Nat} {B W : Nat → Nat} {sa sb : Nat → Nat} {fg gb : Nat → Int64} {ft gt fa ga fo go : Nat → Int32} (h : ∀ e, e < i → kcRow L wq (B e) (W e) e sa ft fa fo fg) (h1 : kfw L wq (B i) (W i) i 10 sa sb fg gb) (h2 : kfd L wq (B i) (W i) i 10 ft gt fa ga fo go) : ∀ e, e < i + 1 → kcRow L wq (B e) (W e) e sb gt ga go gb := fun e he => by
  by_cases q : e = i
  · subst q; exact krow_of h1 h2
  · exact krow_ne h1 h2 q (h e (by omega))
theorem krows_k {L : LkS} {wq i : Nat} {B W : Nat → Nat} {sa : Nat → Nat} {fg : Nat → Int64} {ft fa fo : Nat → Int32} (h : ∀ e, e < i → kcRow L wq (B e) (W e) e sa ft fa fo fg) (h1 : kcRow L wq (B i) (W i) i sa ft fa fo fg) : ∀ e, e < i + 1 → kcRow L wq (B e) (W e) e sa ft fa fo fg := fun e he => by
  by_cases q : e = i
  · subst q; exact h1
  · exact h e (by omega)
set_option maxHeartbeats 4000000 in
set_option maxRecDepth 100000 in
theorem c_knameDay (l : Launch) (D : va_G) (cI cJ cC cZ cS : ClassId) (q : Nat → Nat) (ch : Nat) (wh : Nat) (y3 : Nat → Int64) (o0 : Nat) (o1 : Nat) (o2 : Nat) (dy : Nat) (wn : Nat) (mo : Nat) (ke : Nat) (mu : Int32) (fb : Nat → Int32) (fw : Nat → Int32) (d : Nat) (b : Nat) (w : Nat) (hd : d < 9) (hfbd : fb d = nI b) (hfwd : fw d = nI w) (hb9 : b ≤ 9) (hw9 : w ≤ 9) (hwn : wn ≤ 999) : skM l yX9_nameDay cX9_nameDay 3 none 1 24 0 0 D (skT cI cJ cC cZ cS) [.ref (q 44), .ref o0, .int (nI d)] [(q 44, .inr (0, [.ref (q 49), .ref (q 50), .ref (q 51), .ref (q 52), .int (nI ch), .int (nI wh)])), (q 51, .inl (cJ, 9, .inr (.inl y3))), (o0, .inr (7, [.ref o1, .ref o2, .int (nI dy), .int (nI wn), .int (nI mo), .int mu, .int (nI ke)])), (o1, .inl (cI, 9, .inl fb)), (o2, .inl (cI, 9, .inl fw))] (skV D (skT cI cJ cC cZ cS) (fun (u : va_W) => ∃ (z3 : Nat → Int64), kcDy z3 wn b w d ∧ u = [(q 44, .inr (0, [.ref (q 49), .ref (q 50), .ref (q 51), .ref (q 52), .int (nI ch), .int (nI wh)])), (q 51, .inl (cJ, 9, .inr (.inl z3))), (o0, .inr (7, [.ref o1, .ref o2, .int (nI dy), .int (nI wn), .int (nI mo), .int mu, .int (nI ke)])), (o1, .inl (cI, 9, .inl fb)), (o2, .inl (cI, 9, .inl fw))])) := by
  refine skM_of pf_X9_nameDay (Nat.le_of_ble_eq_true rfl) ?_
  intro p e s m below meth c A ls E hP hD hl
  refine skE_el E (fun hx hb hr hml hlocks hin hown hts hK hA => ?_)
  have hown : s.vm.findClass RX9 = some m.cls := hown
  have hS : va_S A s.heap s.heap [] := va_S.rf
  have hl : lv_has ls 3 [(0, .ref (q 44)), (1, .ref o0), (2, .int (nI d))] := hl
  refine lv_aload_n hx hb dX9_nameDay_0 rfl (lv_at hl 0 rfl) ?_
  refine lv_sipush (v := 10003) hx hb dX9_nameDay_1 (by decide) ?_
  refine lv_iload_n hx hb dX9_nameDay_4 rfl (lv_at hl 2 rfl) ?_
  refine lv_i2l hx hb dX9_nameDay_5 rfl ?_
  refine sk_Vv (q0 := 0) (n := 2) (rest := []) (wr := fmR om_5_18 _) ⟨hx, hb, hml, hown, hts⟩ hl.1 (c_kCode_name l D cI cJ cC cZ cS (q 44) (q 49) (q 50) (q 51) (q 52) ch wh y3 10003 3 (Int32.toInt64 (nI d)) (by decide) (by decide)) w_3_212 w_3_213 w_3_214 w_1_8 w_3_215 hd_X0_name_2 ⟨⟨(Nat.le_of_ble_eq_true rfl), (Nat.le_of_ble_eq_true rfl)⟩, (Nat.le_of_ble_eq_true rfl), (Nat.le_of_ble_eq_true rfl)⟩ hK hP hD hS hA (fmT om_5_18 0) (fmF om_5_18 0) (fm_C1 rfl rfl) (fm_R rfl rfl) (fm_nT om_5_18 0) (fm_nF om_5_18 0) (fm_di om_5_18 0) rfl rfl rfl rfl (Nat.le_of_ble_eq_true rfl) dX9_nameDay_6 (fun u H locs hw hP hD hS => ?_)
  refine exE hw (fun g3_1 hw1 => anE hw1 (fun hg3_2 eu_3 => ?_))
  clear hw hw1
  refine o_mgE (ws' := [(q 44, .inr (0, [.ref (q 49), .ref (q 50), .ref (q 51), .ref (q 52), .int (nI ch), .int (nI wh)])), (q 51, .inl (cJ, 9, .inr (.inl g3_1))), (o0, .inr (7, [.ref o1, .ref o2, .int (nI dy), .int (nI wn), .int (nI mo), .int mu, .int (nI ke)])), (o1, .inl (cI, 9, .inl fb)), (o2, .inl (cI, 9, .inl fw))]) eu_3 hP hD rfl (fun hP hD => ?_)
  refine lv_aload_n hx hb dX9_nameDay_9 rfl (lv_at hl 0 rfl) ?_
  refine lv_sipush (v := 10001) hx hb dX9_nameDay_10 (by decide) ?_
  refine lv_aload_n hx hb dX9_nameDay_13 rfl (lv_at hl 1 rfl) ?_
  refine sk_get (v := .ref o1) (C := RX7) (T := TX7) (N := 7) hx hb hts inlX7 hown hK hP 2 rfl rfl 0 (by decide) w_1_231 rfl dX9_nameDay_14 ?_
  refine lv_iload_n hx hb dX9_nameDay_17 rfl (lv_at hl 2 rfl) ?_
  refine va_iald hx hb hK.1 hP 3 0 rfl rfl (vin d 9 (by omega) (by omega)) dX9_nameDay_18 ?_
  refine sk_top (nI b) (by rw [nI_clamp (by omega)]; exact hfbd) ?_
  refine lv_i2l hx hb dX9_nameDay_19 rfl ?_
  refine sk_Vv (q0 := 0) (n := 2) (rest := []) (wr := fmR om_5_18 _) ⟨hx, hb, hml, hown, hts⟩ hl.1 (c_kCode_name l D cI cJ cC cZ cS (q 44) (q 49) (q 50) (q 51) (q 52) ch wh g3_1 10001 1 (Int32.toInt64 (nI b)) (by decide) (by decide)) w_3_212 w_3_213 w_3_214 w_1_8 w_3_215 hd_X0_name_2 ⟨⟨(Nat.le_of_ble_eq_true rfl), (Nat.le_of_ble_eq_true rfl)⟩, (Nat.le_of_ble_eq_true rfl), (Nat.le_of_ble_eq_true rfl)⟩ hK hP hD hS hA (fmT om_5_18 0) (fmF om_5_18 0) (fm_C1 rfl rfl) (fm_R rfl rfl) (fm_nT om_5_18 0) (fm_nF om_5_18 0) (fm_di om_5_18 0) rfl rfl rfl rfl (Nat.le_of_ble_eq_true rfl) dX9_nameDay_20 (fun u H locs hw hP hD hS => ?_)
  refine exE hw (fun g3_4 hw1 => anE hw1 (fun hg3_5 eu_6 => ?_))
  clear hw hw1
  refine o_mgE (ws' := [(q 44, .inr (0, [.ref (q 49), .ref (q 50), .ref (q 51), .ref (q 52), .int (nI ch), .int (nI wh)])), (q 51, .inl (cJ, 9, .inr (.inl g3_4))), (o0, .inr (7, [.ref o1, .ref o2, .int (nI dy), .int (nI wn), .int (nI mo), .int mu, .int (nI ke)])), (o1, .inl (cI, 9, .inl fb)), (o2, .inl (cI, 9, .inl fw))]) eu_6 hP hD rfl (fun hP hD => ?_)
  refine lv_aload_n hx hb dX9_nameDay_23 rfl (lv_at hl 0 rfl) ?_
  refine lv_sipush (v := 10002) hx hb dX9_nameDay_24 (by decide) ?_
  refine lv_aload_n hx hb dX9_nameDay_27 rfl (lv_at hl 1 rfl) ?_
  refine sk_get (v := .ref o2) (C := RX7) (T := TX7) (N := 7) hx hb hts inlX7 hown hK hP 2 rfl rfl 1 (by decide) w_1_235 rfl dX9_nameDay_28 ?_
  refine lv_iload_n hx hb dX9_nameDay_31 rfl (lv_at hl 2 rfl) ?_
  refine va_iald hx hb hK.1 hP 4 0 rfl rfl (vin d 9 (by omega) (by omega)) dX9_nameDay_32 ?_
  refine sk_top (nI w) (by rw [nI_clamp (by omega)]; exact hfwd) ?_
  refine lv_i2l hx hb dX9_nameDay_33 rfl ?_
  refine sk_Vv (q0 := 0) (n := 2) (rest := []) (wr := fmR om_5_18 _) ⟨hx, hb, hml, hown, hts⟩ hl.1 (c_kCode_name l D cI cJ cC cZ cS (q 44) (q 49) (q 50) (q 51) (q 52) ch wh g3_4 10002 2 (Int32.toInt64 (nI w)) (by decide) (by decide)) w_3_212 w_3_213 w_3_214 w_1_8 w_3_215 hd_X0_name_2 ⟨⟨(Nat.le_of_ble_eq_true rfl), (Nat.le_of_ble_eq_true rfl)⟩, (Nat.le_of_ble_eq_true rfl), (Nat.le_of_ble_eq_true rfl)⟩ hK hP hD hS hA (fmT om_5_18 0) (fmF om_5_18 0) (fm_C1 rfl rfl) (fm_R rfl rfl) (fm_nT om_5_18 0) (fm_nF om_5_18 0) (fm_di om_5_18 0) rfl rfl rfl rfl (Nat.le_of_ble_eq_true rfl) dX9_nameDay_34 (fun u H locs hw hP hD hS => ?_)
  refine exE hw (fun g3_7 hw1 => anE hw1 (fun hg3_8 eu_9 => ?_))
  clear hw hw1
  refine o_mgE (ws' := [(q 44, .inr (0, [.ref (q 49), .ref (q 50), .ref (q 51), .ref (q 52), .int (nI ch), .int (nI wh)])), (q 51, .inl (cJ, 9, .inr (.inl g3_7))), (o0, .inr (7, [.ref o1, .ref o2, .int (nI dy), .int (nI wn), .int (nI mo), .int mu, .int (nI ke)])), (o1, .inl (cI, 9, .inl fb)), (o2, .inl (cI, 9, .inl fw))]) eu_9 hP hD rfl (fun hP hD => ?_)
  refine lv_aload_n hx hb dX9_nameDay_37 rfl (lv_at hl 0 rfl) ?_
  refine lv_sipush (v := 10004) hx hb dX9_nameDay_38 (by decide) ?_
  refine lv_aload_n hx hb dX9_nameDay_41 rfl (lv_at hl 1 rfl) ?_
  refine sk_get (v := .int (nI wn)) (C := RX7) (T := TX7) (N := 7) hx hb hts inlX7 hown hK hP 2 rfl rfl 3 (by decide) w_2_4 rfl dX9_nameDay_42 ?_
  refine lv_i2l hx hb dX9_nameDay_45 rfl ?_
  refine sk_Vv (q0 := 0) (n := 2) (rest := []) (wr := fmR om_5_18 _) ⟨hx, hb, hml, hown, hts⟩ hl.1 (c_kCode_name l D cI cJ cC cZ cS (q 44) (q 49) (q 50) (q 51) (q 52) ch wh g3_7 10004 4 (Int32.toInt64 (nI wn)) (by decide) (by decide)) w_3_212 w_3_213 w_3_214 w_1_8 w_3_215 hd_X0_name_2 ⟨⟨(Nat.le_of_ble_eq_true rfl), (Nat.le_of_ble_eq_true rfl)⟩, (Nat.le_of_ble_eq_true rfl), (Nat.le_of_ble_eq_true rfl)⟩ hK hP hD hS hA (fmT om_5_18 0) (fmF om_5_18 0) (fm_C1 rfl rfl) (fm_R rfl rfl) (fm_nT om_5_18 0) (fm_nF om_5_18 0) (fm_di om_5_18 0) rfl rfl rfl rfl (Nat.le_of_ble_eq_true rfl) dX9_nameDay_46 (fun u H locs hw hP hD hS => ?_)
  refine exE hw (fun g3_10 hw1 => anE hw1 (fun hg3_11 eu_12 => ?_))
  clear hw hw1
  refine o_mgE (ws' := [(q 44, .inr (0, [.ref (q 49), .ref (q 50), .ref (q 51), .ref (q 52), .int (nI ch), .int (nI wh)])), (q 51, .inl (cJ, 9, .inr (.inl g3_10))), (o0, .inr (7, [.ref o1, .ref o2, .int (nI dy), .int (nI wn), .int (nI mo), .int mu, .int (nI ke)])), (o1, .inl (cI, 9, .inl fb)), (o2, .inl (cI, 9, .inl fw))]) eu_12 hP hD rfl (fun hP hD => ?_)
  exact sk_vret hx hb hr hlocks hK hP hD hS (⟨g3_10, kdy_of hg3_2 hg3_5 hg3_8 hg3_11 (by omega) (by omega) (by omega) (by omega), rfl⟩) (Nat.le_of_ble_eq_true rfl) (Nat.le_of_ble_eq_true rfl) dX9_nameDay_49
