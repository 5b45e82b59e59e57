/-! the table -/
def kcNm (wk b w d m t al : Nat) : Nat → Int64 := fun k => Int64.ofNat (if k = 0 then m else if k = 1 then b else if k = 2 then w else if k = 3 then d else if k = 4 then wk else if k = 5 then t else al)
def kcSaid (L : LkS) (wk b w d m : Nat) : Nat := kcTen (kcV L 0 (kcNm wk b w d m 0 0))
def kcWage (L : LkS) (wk b w d m : Nat) : Int64 := kcV L 2 (kcNm wk b w d m 0 0)
def kcBec (L : LkS) (wk b w d a t al : Nat) : Nat := kcTen (kcV L 1 (kcNm wk b w d a t al))
def kcMB (S T : Nat → Nat) (li : Nat) : Nat := kcK (fun m => T ((S m + li) % 10) == m) 10
theorem kcMB_lt (S T : Nat → Nat) (li : Nat) : kcMB S T li < 1024 := kcK_lt _ 10
def kcDy (f : Nat → Int64) (wk b w d : Nat) : Prop := f 1 = Int64.ofNat b ∧ f 2 = Int64.ofNat w ∧ f 3 = Int64.ofNat d ∧ f 4 = Int64.ofNat wk
def kcRow (L : LkS) (wk b w d : Nat) (sa : Nat → Nat) (ft fa fo : Nat → Int32) (fg : Nat → Int64) : Prop :=
  (∀ m, m < 10 → sa (d * 10 + m) = kcSaid L wk b w d m ∧ fg (d * 10 + m) = kcWage L wk b w d m) ∧
  ∀ p, p < 10 → (∀ t, t < 10 → ft ((d * 10 + p) * 10 + t) = nI (kcBec L wk b w d p t 0)) ∧ fa (d * 10 + p) = nI (kcBec L wk b w d p 0 1) ∧ fo (d * 10 + p) = nI (kcMB (kcSaid L wk b w d) (fun t => kcBec L wk b w d p t 0) 0)
def kcTI (L : LkS) (sa : Nat → Nat) (ft fa fo : Nat → Int32) (fg : Nat → Int64) (fk : Nat → Int32) : Prop :=
  ∀ d wk b w, d < 9 → wk ≤ 999 → b ≤ 9 → w ≤ 9 → fk d = nI ((wk * 10 + b) * 10 + w) → kcRow L wk b w d sa ft fa fo fg
theorem kup_s {f g : Nat → Int64} {k : Nat} {x : Int64} (e : g = vp_updL f k x) : g k = x := by
  rw [e]; unfold vp_updL; rw [if_pos rfl]
theorem kup_n {f g : Nat → Int64} {k j : Nat} {x : Int64} (e : g = vp_updL f k x) (h : ¬ j = k) : g j = f j := by
  rw [e]; unfold vp_updL; rw [if_neg h]
theorem kui_s {f g : Nat → Int32} {k : Nat} {x : Int32} (e : g = upd f k x) : g k = x := by
  rw [e]; unfold upd; rw [if_pos rfl]
theorem kui_n {f g : Nat → Int32} {k j : Nat} {x : Int32} (e : g = upd f k x) (h : ¬ j = k) : g j = f j := by
  rw [e]; unfold upd; rw [if_neg h]
theorem kun_s {f g : Nat → Nat} {k x : Nat} (e : g = updN f k x) : g k = x := by
  rw [e]; unfold updN; rw [if_pos rfl]
theorem kun_n {f g : Nat → Nat} {k j x : Nat} (e : g = updN f k x) (h : ¬ j = k) : g j = f j := by
  rw [e]; unfold updN; rw [if_neg h]
theorem kdy_of {f g1 g2 g3 g4 : Nat → Int64} {wk b w d : Nat} (e1 : g1 = vp_updL f 3 (Int32.toInt64 (nI d))) (e2 : g2 = vp_updL g1 1 (Int32.toInt64 (nI b))) (e3 : g3 = vp_updL g2 2 (Int32.toInt64 (nI w))) (e4 : g4 = vp_updL g3 4 (Int32.toInt64 (nI wk))) (hd : d < 2147483648) (hb : b < 2147483648) (hw : w < 2147483648) (hk : wk < 2147483648) : kcDy g4 wk b w d := by
  refine ⟨?_, ?_, ?_, ?_⟩
  · rw [kup_n e4 (by decide), kup_n e3 (by decide), kup_s e2, kx_i2l hb]
  · rw [kup_n e4 (by decide), kup_s e3, kx_i2l hw]
  · rw [kup_n e4 (by decide), kup_n e3 (by decide), kup_n e2 (by decide), kup_s e1, kx_i2l hd]
  · rw [kup_s e4, kx_i2l hk]
theorem kdy_up {f g : Nat → Int64} {wk b w d k : Nat} {x : Int64} (h : kcDy f wk b w d) (e : g = vp_updL f k x) (hk : k = 0 ∨ 5 ≤ k) : kcDy g wk b w d := by
  obtain ⟨h1, h2, h3, h4⟩ := h
  exact ⟨by rw [kup_n e (by omega), h1], by rw [kup_n e (by omega), h2], by rw [kup_n e (by omega), h3], by rw [kup_n e (by omega), h4]⟩
theorem kx_ex {L : LkS} {w : Nat} {p : Nat × Nat} (h : kcLk L) (hw : w < 3) (hp : lG (lkF L) w = some p) (nm : Nat → Int64) : kcEx nm 64 (kcSub (lK (lkF L)) (p.1, p.2)) [] = some [kcV L w nm] := by
  have h1 := kcV_ex h hw nm
  unfold kcSeg at h1
  rw [hp] at h1
  exact h1
theorem kx_ns {L : LkS} {w k : Nat} {p : Nat × Nat} (h : kcLk L) (hk : k = if w = 1 then 1 else 0) (hp : lG (lkF L) w = some p) : kcNs k (kcSub (lK (lkF L)) (p.1, p.2)) := by
  rw [hk]; exact (kcLk_F h w p hp).2.2.2
theorem kx_bk {L : LkS} {w : Nat} {p : Nat × Nat} (h : kcLk L) (hp : lG (lkF L) w = some p) : p.1 < p.2 ∧ p.2 ≤ (lK (lkF L)).length := ⟨(kcLk_F h w p hp).1, (kcLk_F h w p hp).2.1⟩
theorem kx_sg {L : LkS} {w : Nat} {p : Nat × Nat} {a b : Int32} (h : sgO (lG (lkF L) w) a b) (hp : lG (lkF L) w = some p) : a = nI p.1 ∧ b = nI p.2 ∧ p.2 ≤ 1600 := by
  rw [hp] at h
  exact ⟨h.1, h.2.1, h.2.2.2⟩
theorem kx_nm5 {f : Nat → Int64} {wk b w d m : Nat} (h : kcDy f wk b w d) (h0 : f 0 = Int64.ofNat m) : ∀ j, j < 5 → f j = kcNm wk b w d m 0 0 j := by
  intro j hj
  rcases (show j = 0 ∨ j = 1 ∨ j = 2 ∨ j = 3 ∨ j = 4 by omega) with rfl | rfl | rfl | rfl | rfl
  · exact h0
  · exact h.1
  · exact h.2.1
  · exact h.2.2.1
  · exact h.2.2.2
theorem kx_nm7 {f : Nat → Int64} {wk b w d m t al : Nat} (h : kcDy f wk b w d) (h0 : f 0 = Int64.ofNat m) (h5 : f 5 = Int64.ofNat t) (h6 : f 6 = Int64.ofNat al) : ∀ j, j < 7 → f j = kcNm wk b w d m t al j := by
  intro j hj
  rcases (show j = 0 ∨ j = 1 ∨ j = 2 ∨ j = 3 ∨ j = 4 ∨ j = 5 ∨ j = 6 by omega) with rfl | rfl | rfl | rfl | rfl | rfl | rfl
  · exact h0
  · exact h.1
  · exact h.2.1
  · exact h.2.2.1
  · exact h.2.2.2
  · exact h5
  · exact h6
theorem kx_said {L : LkS} {f : Nat → Int64} {wk b w d m : Nat} (hL : kcLk L) (h : kcDy f wk b w d) (h0 : f 0 = Int64.ofNat m) : kcTen (kcV L 0 f) = kcSaid L wk b w d m := by
  unfold kcSaid
  rw [kcV_cg (w := 0) (nm2 := kcNm wk b w d m 0 0) hL (by decide) (kx_nm5 h h0)]
theorem kx_wage {L : LkS} {f : Nat → Int64} {wk b w d m : Nat} (hL : kcLk L) (h : kcDy f wk b w d) (h0 : f 0 = Int64.ofNat m) : kcV L 2 f = kcWage L wk b w d m := by
  unfold kcWage
  rw [kcV_cg (w := 2) (nm2 := kcNm wk b w d m 0 0) hL (by decide) (kx_nm5 h h0)]
theorem kx_bec {L : LkS} {f : Nat → Int64} {wk b w d m t al : Nat} (hL : kcLk L) (h : kcDy f wk b w d) (h0 : f 0 = Int64.ofNat m) (h5 : f 5 = Int64.ofNat t) (h6 : f 6 = Int64.ofNat al) : kcTen (kcV L 1 f) = kcBec L wk b w d m t al := by
  unfold kcBec
  rw [kcV_cg (w := 1) (nm2 := kcNm wk b w d m t al) hL (by decide) (kx_nm7 h h0 h5 h6)]
/-! the words of a day -/
def kfw (L : LkS) (wk b w d i : Nat) (sa sb : Nat → Nat) (fg gb : Nat → Int64) : Prop :=
  (∀ m, m < i → sb (d * 10 + m) = kcSaid L wk b w d m ∧ gb (d * 10 + m) = kcWage L wk b w d m) ∧ ∀ j, j < d * 10 ∨ d * 10 + 10 ≤ j → sb j = sa j ∧ gb j = fg j
theorem kfw_0 (L : LkS) (wk b w d : Nat) (sa : Nat → Nat) (fg : Nat → Int64) : kfw L wk b w d 0 sa sa fg fg := ⟨fun m hm => absurd hm (Nat.not_lt_zero m), fun j _ => ⟨rfl, rfl⟩⟩
theorem kfw_s {L : LkS} {wk b w d i : Nat} {sa sb sc : Nat → Nat} {fg gb gc : Nat → Int64} {v : Nat} {x : Int64} (h : kfw L wk b w d i sa sb fg gb) (e1 : sc = updN sb (d * 10 + i) v) (e2 : gc = vp_updL gb (d * 10 + i) x) (hi : i < 10) (hv : v = kcSaid L wk b w d i) (hx : x = kcWage L wk b w d i) : kfw L wk b w d (i + 1) sa sc fg gc := by
  refine ⟨fun m hm => ?_, fun j hj => ?_⟩
  · by_cases e : m = i
    · subst e; rw [kun_s e1, kup_s e2]; exact ⟨hv, hx⟩
    · rw [kun_n e1 (by omega), kup_n e2 (by omega)]; exact h.1 m (by omega)
  · rw [kun_n e1 (by omega), kup_n e2 (by omega)]; exact h.2 j hj
/-! the deeds of a day -/
def kfd (L : LkS) (wk b w d i : Nat) (ft gt fa ga fo go : Nat → Int32) : Prop :=
  (∀ p, p < i → (∀ t, t < 10 → gt ((d * 10 + p) * 10 + t) = nI (kcBec L wk b w d p t 0)) ∧ ga (d * 10 + p) = nI (kcBec L wk b w d p 0 1) ∧ go (d * 10 + p) = nI (kcMB (kcSaid L wk b w d) (fun t => kcBec L wk b w d p t 0) 0)) ∧
  (∀ j, j < d * 100 ∨ d * 100 + 100 ≤ j → gt j = ft j) ∧ ∀ j, j < d * 10 ∨ d * 10 + 10 ≤ j → ga j = fa j ∧ go j = fo j
theorem kfd_0 (L : LkS) (wk b w d : Nat) (ft fa fo : Nat → Int32) : kfd L wk b w d 0 ft ft fa fa fo fo := ⟨fun m hm => absurd hm (Nat.not_lt_zero m), fun _ _ => rfl, fun j _ => ⟨rfl, rfl⟩⟩
def kft (L : LkS) (wk b w d i k : Nat) (gt ht : Nat → Int32) : Prop :=
  (∀ t, t < k → ht ((d * 10 + i) * 10 + t) = nI (kcBec L wk b w d i t 0)) ∧ ∀ j, j < (d * 10 + i) * 10 ∨ (d * 10 + i) * 10 + 10 ≤ j → ht j = gt j
theorem kft_0 (L : LkS) (wk b w d i : Nat) (gt : Nat → Int32) : kft L wk b w d i 0 gt gt := ⟨fun m hm => absurd hm (Nat.not_lt_zero m), fun _ _ => rfl⟩
theorem kft_s {L : LkS} {wk b w d i k : Nat} {gt ht hs : Nat → Int32} {x : Int32} (h : kft L wk b w d i k gt ht) (e : hs = upd ht ((d * 10 + i) * 10 + k) x) (hk : k < 10) (hx : x = nI (kcBec L wk b w d i k 0)) : kft L wk b w d i (k + 1) gt hs := by
  refine ⟨fun t ht2 => ?_, fun j hj => ?_⟩
  · by_cases q : t = k
    · subst q; rw [kui_s e]; exact hx
    · rw [kui_n e (by omega)]; exact h.1 t (by omega)
  · rw [kui_n e (by omega)]; exact h.2 j hj
theorem kfd_s {L : LkS} {wk b w d i : Nat} {ft gt ht fa ga hs fo go ho : Nat → Int32} {x y : Int32} (h : kfd L wk b w d i ft gt fa ga fo go) (h2 : kft L wk b w d i 10 gt ht) (e1 : hs = upd ga (d * 10 + i) x) (e2 : ho = upd go (d * 10 + i) y) (hi : i < 10) (hx : x = nI (kcBec L wk b w d i 0 1)) (hy : y = nI (kcMB (kcSaid L wk b w d) (fun t => kcBec L wk b w d i t 0) 0)) : kfd L wk b w d (i + 1) ft ht fa hs fo ho := by
  refine ⟨fun p hp => ?_, fun j hj => ?_, fun j hj => ?_⟩
  · by_cases q : p = i
    · subst q
      exact ⟨h2.1, by rw [kui_s e1]; exact hx, by rw [kui_s e2]; exact hy⟩
    · obtain ⟨a1, a2, a3⟩ := h.1 p (by omega)
      exact ⟨fun t ht2 => by rw [h2.2 _ (by omega)]; exact a1 t ht2, by rw [kui_n e1 (by omega)]; exact a2, by rw [kui_n e2 (by omega)]; exact a3⟩
  · rw [h2.2 j (by omega)]; exact h.2.1 j hj
  · rw [kui_n e1 (by omega), kui_n e2 (by omega)]; exact h.2.2 j hj
theorem kor_10 {x i : Nat} (hx : x < 1024) (hi : i < 10) : nI x ||| ((1 : Int32) <<< (nI i &&& 31)) = nI (x ||| 2 ^ i) := by
  exact (bt_o1 (n := 10) (by decide) hx hi).1
theorem kK_lt10 (P : Nat → Bool) {i : Nat} (hi : i ≤ 10) : kcK P i < 1024 := Nat.lt_of_lt_of_le (kcK_lt P i) (Nat.pow_le_pow_right (by decide) hi)
/-- a day's rows, whole -/
theorem krow_of {L : LkS} {wk b w d : Nat} {sa sb : Nat → Nat} {fg gb : Nat → Int64} {ft gt fa ga fo go : Nat → Int32} (h1 : kfw L wk b w d 10 sa sb fg gb) (h2 : kfd L wk b w d 10 ft gt fa ga fo go) : kcRow L wk b w d sb gt ga go gb := ⟨h1.1, h2.1⟩
theorem krow_ne {L : LkS} {wk b w d wk2 b2 w2 e : Nat} {sa sb : Nat → Nat} {fg gb : Nat → Int64} {ft gt fa ga fo go : Nat → Int32} (h1 : kfw L wk b w d 10 sa sb fg gb) (h2 : kfd L wk b w d 10 ft gt fa ga fo go) (he : ¬ e = d) (h : kcRow L wk2 b2 w2 e sa ft fa fo fg) : kcRow L wk2 b2 w2 e sb gt ga go gb := by
  refine ⟨fun m hm => ?_, fun p hp => ?_⟩
  · rw [(h1.2 _ (by omega)).1, (h1.2 _ (by omega)).2]; exact h.1 m hm
  · obtain ⟨a1, a2, a3⟩ := h.2 p hp
    exact ⟨fun t ht => by rw [h2.2.1 _ (by omega)]; exact a1 t ht, by rw [(h2.2.2 _ (by omega)).1]; exact a2, by rw [(h2.2.2 _ (by omega)).2]; exact a3⟩
theorem kti_up {L : LkS} {wk b w d : Nat} {sa sb : Nat → Nat} {fg gb : Nat → Int64} {ft gt fa ga fo go fk gk : Nat → Int32} (hT : kcTI L sa ft fa fo fg fk) (h1 : kfw L wk b w d 10 sa sb fg gb) (h2 : kfd L wk b w d 10 ft gt fa ga fo go) (e : gk = upd fk d (nI ((wk * 10 + b) * 10 + w))) (hk : wk ≤ 999) (hb : b ≤ 9) (hw : w ≤ 9) : kcTI L sb gt ga go gb gk := by
  intro d2 wk2 b2 w2 hd2 hk2 hb2 hw2 hq
  by_cases q : d2 = d
  · subst q
    rw [kui_s e] at hq
    have h3 := (neq _ _ (by omega) (by omega)).mp hq
    obtain rfl : wk = wk2 := by omega
    obtain rfl : b = b2 := by omega
    obtain rfl : w = w2 := by omega
    exact krow_of h1 h2
  · rw [kui_n e q] at hq
    exact krow_ne h1 h2 q (hT d2 wk2 b2 w2 hd2 hk2 hb2 hw2 hq)
theorem kwk {L : LkS} {wq wn wh ch : Nat} {y1 : Nat → Int32} (hL : kcLk L) (hc : cdK (lK (lkF L)) ch wh y1) (hq : (wh = 1 ∧ wq = wn) ∨ (wh = 0 ∧ wq = 0)) : kcSaid L wn = kcSaid L wq ∧ kcWage L wn = kcWage L wq ∧ kcBec L wn = kcBec L wq := by
  rcases hq with ⟨h1, rfl⟩ | ⟨h1, rfl⟩
  · exact ⟨rfl, rfl, rfl⟩
  · have h4 : 44 ∉ lK (lkF L) := fun q => absurd (hc.2.1.mpr q) (by omega)
    refine ⟨?_, ?_, ?_⟩
    · funext b w d m
      unfold kcSaid
      rw [kcV_wk (nm2 := kcNm 0 b w d m 0 0) hL (by decide) h4 (fun j hj hj4 => by unfold kcNm; rw [if_neg hj4, if_neg hj4])]
    · funext b w d m
      unfold kcWage
      rw [kcV_wk (nm2 := kcNm 0 b w d m 0 0) hL (by decide) h4 (fun j hj hj4 => by unfold kcNm; rw [if_neg hj4, if_neg hj4])]
    · funext b w d p t al
      unfold kcBec
      rw [kcV_wk (nm2 := kcNm 0 b w d p t al) hL (by decide) h4 (fun j hj hj4 => by unfold kcNm; rw [if_neg hj4, if_neg hj4])]
theorem kfw_wk {L : LkS} {wn wq b w d i : Nat} {sa sb : Nat → Nat} {fg gb : Nat → Int64} (hk : kcSaid L wn = kcSaid L wq ∧ kcWage L wn = kcWage L wq ∧ kcBec L wn = kcBec L wq) (h : kfw L wn b w d i sa sb fg gb) : kfw L wq b w d i sa sb fg gb := by
  unfold kfw at h ⊢
  rw [← hk.1, ← hk.2.1]
  exact h
theorem kfd_wk {L : LkS} {wn wq b w d i : Nat} {ft gt fa ga fo go : Nat → Int32} (hk : kcSaid L wn = kcSaid L wq ∧ kcWage L wn = kcWage L wq ∧ kcBec L wn = kcBec L wq) (h : kfd L wn b w d i ft gt fa ga fo go) : kfd L wq b w d i ft gt fa ga fo go := by
  unfold kfd at h ⊢
  rw [← hk.1, ← hk.2.2]
  exact h
theorem krow_kw {L : LkS} {wn wq b w d : Nat} {sa : Nat → Nat} {fg : Nat → Int64} {ft fa fo : Nat → Int32} (hk : kcSaid L wn = kcSaid L wq ∧ kcWage L wn = kcWage L wq ∧ kcBec L wn = kcBec L wq) (h : kcRow L wq b w d sa ft fa fo fg) : kcRow L wn b w d sa ft fa fo fg := by
  unfold kcRow at h ⊢
  rw [hk.1, hk.2.1, hk.2.2]
  exact h
theorem krows_s {L : LkS} {wq i : Nat} {B W : Nat → Nat} {sa sb : Nat → Nat} {fg gb : Nat → Int64} {ft gt fa ga fo go : Nat → Int32} (h : ∀ e, e < i → kcRow L wq (B e) (W e) e sa ft fa fo fg) (h1 : kfw L wq (B i) (W i) i 10 sa sb fg gb) (h2 : kfd L wq (B i) (W i) i 10 ft gt fa ga fo go) : ∀ e, e < i + 1 → kcRow L wq (B e) (W e) e sb gt ga go gb := fun e he => by
  by_cases q : e = i
  · subst q; exact krow_of h1 h2
  · exact krow_ne h1 h2 q (h e (by omega))
theorem krows_k {L : LkS} {wq i : Nat} {B W : Nat → Nat} {sa : Nat → Nat} {fg : Nat → Int64} {ft fa fo : Nat → Int32} (h : ∀ e, e < i → kcRow L wq (B e) (W e) e sa ft fa fo fg) (h1 : kcRow L wq (B i) (W i) i sa ft fa fo fg) : ∀ e, e < i + 1 → kcRow L wq (B e) (W e) e sa ft fa fo fg := fun e he => by
  by_cases q : e = i
  · subst q; exact h1
  · exact h e (by omega)
set_option maxHeartbeats 4000000 in
set_option maxRecDepth 100000 in
theorem c_knameDay (l : Launch) (D : va_G) (cI cJ cC cZ cS : ClassId) (q : Nat → Nat) (ch : Nat) (wh : Nat) (y3 : Nat → Int64) (o0 : Nat) (o1 : Nat) (o2 : Nat) (dy : Nat) (wn : Nat) (mo : Nat) (ke : Nat) (mu : Int32) (fb : Nat → Int32) (fw : Nat → Int32) (d : Nat) (b : Nat) (w : Nat) (hd : d < 9) (hfbd : fb d = nI b) (hfwd : fw d = nI w) (hb9 : b ≤ 9) (hw9 : w ≤ 9) (hwn : wn ≤ 999) : skM l yX9_nameDay cX9_nameDay 3 none 1 24 0 0 D (skT cI cJ cC cZ cS) [.ref (q 44), .ref o0, .int (nI d)] [ro_rrrrnn (q 44) 0 (q 49) (q 50) (q 51) (q 52) ch wh, ra_J (q 51) cJ 9 y3, ro_rrnnnin o0 7 o1 o2 dy wn mo mu ke, ra_I o1 cI 9 fb, ra_I o2 cI 9 fw] (skV D (skT cI cJ cC cZ cS) (fun (u : va_W) => ∃ (z3 : Nat → Int64), kcDy z3 wn b w d ∧ u = [ro_rrrrnn (q 44) 0 (q 49) (q 50) (q 51) (q 52) ch wh, ra_J (q 51) cJ 9 z3, ro_rrnnnin o0 7 o1 o2 dy wn mo mu ke, ra_I o1 cI 9 fb, ra_I o2 cI 9 fw])) := by
  refine skM_of pf_X9_nameDay (Nat.le_of_ble_eq_true rfl) ?_
  intro p e s m below meth c A ls E hP hD hl
  refine skE_el E (fun hx hb hr hml hlocks hin hown hts hK hA => ?_)
  have hown : s.vm.findClass RX9 = some m.cls := hown
  have hS : va_S A s.heap s.heap [] := va_S.rf
  have hl : lv_has ls 3 [(0, .ref (q 44)), (1, .ref o0), (2, .int (nI d))] := hl
  refine lv_aload_n hx hb dX9_nameDay_0 rfl (lv_at hl 0 rfl) ?_
  refine lv_sipush (v := 10003) hx hb dX9_nameDay_1 (by decide) ?_
  refine lv_iload_n hx hb dX9_nameDay_4 rfl (lv_at hl 2 rfl) ?_
  refine lv_i2l hx hb dX9_nameDay_5 rfl ?_
  refine sk_Vv (q0 := 0) (n := 2) (rest := []) (wr := fmR om_5_18 _) ⟨hx, hb, hml, hown, hts⟩ hl.1 (c_kCode_name l D cI cJ cC cZ cS (q 44) (q 49) (q 50) (q 51) (q 52) ch wh y3 10003 3 (Int32.toInt64 (nI d)) (by decide) (by decide)) w_3_212 w_3_213 w_3_214 w_1_8 w_3_215 hd_X0_name_2 ⟨⟨(Nat.le_of_ble_eq_true rfl), (Nat.le_of_ble_eq_true rfl)⟩, (Nat.le_of_ble_eq_true rfl), (Nat.le_of_ble_eq_true rfl)⟩ hK hP hD hS hA (fmT om_5_18 0) (fmF om_5_18 0) (fm_C1 rfl rfl) (fm_R rfl rfl) (fm_nT om_5_18 0) (fm_nF om_5_18 0) (fm_di om_5_18 0) rfl rfl rfl rfl (Nat.le_of_ble_eq_true rfl) dX9_nameDay_6 (fun u H locs hw hP hD hS => ?_)
  refine exE hw (fun g3_1 hw1 => anE hw1 (fun hg3_2 eu_3 => ?_))
  clear hw hw1
  refine o_mgE (ws' := [ro_rrrrnn (q 44) 0 (q 49) (q 50) (q 51) (q 52) ch wh, ra_J (q 51) cJ 9 g3_1, ro_rrnnnin o0 7 o1 o2 dy wn mo mu ke, ra_I o1 cI 9 fb, ra_I o2 cI 9 fw]) eu_3 hP hD rfl (fun hP hD => ?_)
  refine lv_aload_n hx hb dX9_nameDay_9 rfl (lv_at hl 0 rfl) ?_
  refine lv_sipush (v := 10001) hx hb dX9_nameDay_10 (by decide) ?_
  refine lv_aload_n hx hb dX9_nameDay_13 rfl (lv_at hl 1 rfl) ?_
  refine sk_get (v := .ref o1) (C := RX7) (T := TX7) (N := 7) hx hb hts inlX7 hown hK hP 2 rfl rfl 0 (Nat.le_of_ble_eq_true rfl) w_1_231 rfl dX9_nameDay_14 ?_
  refine lv_iload_n hx hb dX9_nameDay_17 rfl (lv_at hl 2 rfl) ?_
  refine va_iald hx hb hK.1 hP 3 0 rfl rfl (vin d 9 (by omega) (Nat.le_of_ble_eq_true rfl)) dX9_nameDay_18 ?_
  refine sk_top (nI b) (by rw [nI_clamp (by omega)]; exact hfbd) ?_
  refine lv_i2l hx hb dX9_nameDay_19 rfl ?_
  refine sk_Vv (q0 := 0) (n := 2) (rest := []) (wr := fmR om_5_18 _) ⟨hx, hb, hml, hown, hts⟩ hl.1 (c_kCode_name l D cI cJ cC cZ cS (q 44) (q 49) (q 50) (q 51) (q 52) ch wh g3_1 10001 1 (Int32.toInt64 (nI b)) (by decide) (by decide)) w_3_212 w_3_213 w_3_214 w_1_8 w_3_215 hd_X0_name_2 ⟨⟨(Nat.le_of_ble_eq_true rfl), (Nat.le_of_ble_eq_true rfl)⟩, (Nat.le_of_ble_eq_true rfl), (Nat.le_of_ble_eq_true rfl)⟩ hK hP hD hS hA (fmT om_5_18 0) (fmF om_5_18 0) (fm_C1 rfl rfl) (fm_R rfl rfl) (fm_nT om_5_18 0) (fm_nF om_5_18 0) (fm_di om_5_18 0) rfl rfl rfl rfl (Nat.le_of_ble_eq_true rfl) dX9_nameDay_20 (fun u H locs hw hP hD hS => ?_)
  refine exE hw (fun g3_4 hw1 => anE hw1 (fun hg3_5 eu_6 => ?_))
  clear hw hw1
  refine o_mgE (ws' := [ro_rrrrnn (q 44) 0 (q 49) (q 50) (q 51) (q 52) ch wh, ra_J (q 51) cJ 9 g3_4, ro_rrnnnin o0 7 o1 o2 dy wn mo mu ke, ra_I o1 cI 9 fb, ra_I o2 cI 9 fw]) eu_6 hP hD rfl (fun hP hD => ?_)
  refine lv_aload_n hx hb dX9_nameDay_23 rfl (lv_at hl 0 rfl) ?_
  refine lv_sipush (v := 10002) hx hb dX9_nameDay_24 (by decide) ?_
  refine lv_aload_n hx hb dX9_nameDay_27 rfl (lv_at hl 1 rfl) ?_
  refine sk_get (v := .ref o2) (C := RX7) (T := TX7) (N := 7) hx hb hts inlX7 hown hK hP 2 rfl rfl 1 (Nat.le_of_ble_eq_true rfl) w_1_235 rfl dX9_nameDay_28 ?_
  refine lv_iload_n hx hb dX9_nameDay_31 rfl (lv_at hl 2 rfl) ?_
  refine va_iald hx hb hK.1 hP 4 0 rfl rfl (vin d 9 (by omega) (Nat.le_of_ble_eq_true rfl)) dX9_nameDay_32 ?_
  refine sk_top (nI w) (by rw [nI_clamp (by omega)]; exact hfwd) ?_
  refine lv_i2l hx hb dX9_nameDay_33 rfl ?_
  refine sk_Vv (q0 := 0) (n := 2) (rest := []) (wr := fmR om_5_18 _) ⟨hx, hb, hml, hown, hts⟩ hl.1 (c_kCode_name l D cI cJ cC cZ cS (q 44) (q 49) (q 50) (q 51) (q 52) ch wh g3_4 10002 2 (Int32.toInt64 (nI w)) (by decide) (by decide)) w_3_212 w_3_213 w_3_214 w_1_8 w_3_215 hd_X0_name_2 ⟨⟨(Nat.le_of_ble_eq_true rfl), (Nat.le_of_ble_eq_true rfl)⟩, (Nat.le_of_ble_eq_true rfl), (Nat.le_of_ble_eq_true rfl)⟩ hK hP hD hS hA (fmT om_5_18 0) (fmF om_5_18 0) (fm_C1 rfl rfl) (fm_R rfl rfl) (fm_nT om_5_18 0) (fm_nF om_5_18 0) (fm_di om_5_18 0) rfl rfl rfl rfl (Nat.le_of_ble_eq_true rfl) dX9_nameDay_34 (fun u H locs hw hP hD hS => ?_)
  refine exE hw (fun g3_7 hw1 => anE hw1 (fun hg3_8 eu_9 => ?_))
  clear hw hw1
  refine o_mgE (ws' := [ro_rrrrnn (q 44) 0 (q 49) (q 50) (q 51) (q 52) ch wh, ra_J (q 51) cJ 9 g3_7, ro_rrnnnin o0 7 o1 o2 dy wn mo mu ke, ra_I o1 cI 9 fb, ra_I o2 cI 9 fw]) eu_9 hP hD rfl (fun hP hD => ?_)
  refine lv_aload_n hx hb dX9_nameDay_37 rfl (lv_at hl 0 rfl) ?_
  refine lv_sipush (v := 10004) hx hb dX9_nameDay_38 (by decide) ?_
  refine lv_aload_n hx hb dX9_nameDay_41 rfl (lv_at hl 1 rfl) ?_
  refine sk_get (v := .int (nI wn)) (C := RX7) (T := TX7) (N := 7) hx hb hts inlX7 hown hK hP 2 rfl rfl 3 (Nat.le_of_ble_eq_true rfl) w_2_4 rfl dX9_nameDay_42 ?_
  refine lv_i2l hx hb dX9_nameDay_45 rfl ?_
  refine sk_Vv (q0 := 0) (n := 2) (rest := []) (wr := fmR om_5_18 _) ⟨hx, hb, hml, hown, hts⟩ hl.1 (c_kCode_name l D cI cJ cC cZ cS (q 44) (q 49) (q 50) (q 51) (q 52) ch wh g3_7 10004 4 (Int32.toInt64 (nI wn)) (by decide) (by decide)) w_3_212 w_3_213 w_3_214 w_1_8 w_3_215 hd_X0_name_2 ⟨⟨(Nat.le_of_ble_eq_true rfl), (Nat.le_of_ble_eq_true rfl)⟩, (Nat.le_of_ble_eq_true rfl), (Nat.le_of_ble_eq_true rfl)⟩ hK hP hD hS hA (fmT om_5_18 0) (fmF om_5_18 0) (fm_C1 rfl rfl) (fm_R rfl rfl) (fm_nT om_5_18 0) (fm_nF om_5_18 0) (fm_di om_5_18 0) rfl rfl rfl rfl (Nat.le_of_ble_eq_true rfl) dX9_nameDay_46 (fun u H locs hw hP hD hS => ?_)
  refine exE hw (fun g3_10 hw1 => anE hw1 (fun hg3_11 eu_12 => ?_))
  clear hw hw1
  refine o_mgE (ws' := [ro_rrrrnn (q 44) 0 (q 49) (q 50) (q 51) (q 52) ch wh, ra_J (q 51) cJ 9 g3_10, ro_rrnnnin o0 7 o1 o2 dy wn mo mu ke, ra_I o1 cI 9 fb, ra_I o2 cI 9 fw]) eu_12 hP hD rfl (fun hP hD => ?_)
  exact sk_vret hx hb hr hlocks hK hP hD hS (⟨g3_10, kdy_of hg3_2 hg3_5 hg3_8 hg3_11 (by omega) (by omega) (by omega) (by omega), rfl⟩) (Nat.le_of_ble_eq_true rfl) (Nat.le_of_ble_eq_true rfl) dX9_nameDay_49
set_option maxHeartbeats 4000000 in
set_option maxRecDepth 100000 in
theorem c_kfillWords (l : Launch) (D : va_G) (cI cJ cC cZ cS : ClassId) (q : Nat → Nat) (dh : Nat) (mh : Nat) (uh : Int32) (rh : Int32) (nh : Nat) (ch : Nat) (wh : Nat) (y1 : Nat → Int32) (y2 : Nat → Int64) (y3 : Nat → Int64) (y4 : Nat → Int64) (yf : Nat → Int32) (yt : Nat → Int32) (sa : Nat → Nat) (fg : Nat → Int64) (d : Nat) (wk : Nat) (b : Nat) (w : Nat) (L : LkS) (hsa : ∀ j, sa j ≤ 9) (hch : ch ≤ 1600) (hwh : wh ≤ 1) (hd : d < 9) (hLk : kcLk L) (hcd : cdK (lK (lkF L)) ch wh y1) (hsg : ∀ v, v < 3 → sgO (lG (lkF L) v) (yf v) (yt v)) (hdy3 : kcDy y3 wk b w d) : skM l yX9_fillWords cX9_fillWords 6 none 3 75 0 0 D (skT cI cJ cC cZ cS) [.ref (q 10), .ref (q 5), .int (nI d)] [ro_rrrrrr (q 10) 9 (q 61) (q 62) (q 63) (q 64) (q 65) (q 66), ra_N (q 61) cI 90 sa, ra_J (q 65) cJ 90 fg, ro_rrrrrnniin (q 5) 2 (q 44) (q 45) (q 46) (q 47) (q 48) dh mh uh rh nh, ro_rrrrnn (q 44) 0 (q 49) (q 50) (q 51) (q 52) ch wh, ra_I (q 49) cI 1600 y1, ra_J (q 50) cJ 64 y2, ra_J (q 51) cJ 9 y3, ra_J (q 52) cJ 10 y4, ra_I (q 47) cI 3 yf, ra_I (q 48) cI 3 yt] (skV D (skT cI cJ cC cZ cS) (fun (u : va_W) => ∃ (sa2 : Nat → Nat), ∃ (fg2 : Nat → Int64), ∃ (z2 : Nat → Int64), ∃ (z3 : Nat → Int64), (∀ j, sa2 j ≤ 9) ∧ kfw L wk b w d 10 sa sa2 fg fg2 ∧ kcDy z3 wk b w d ∧ u = [ro_rrrrrr (q 10) 9 (q 61) (q 62) (q 63) (q 64) (q 65) (q 66), ra_N (q 61) cI 90 sa2, ra_J (q 65) cJ 90 fg2, ro_rrrrrnniin (q 5) 2 (q 44) (q 45) (q 46) (q 47) (q 48) dh mh uh rh nh, ro_rrrrnn (q 44) 0 (q 49) (q 50) (q 51) (q 52) ch wh, ra_I (q 49) cI 1600 y1, ra_J (q 50) cJ 64 z2, ra_J (q 51) cJ 9 z3, ra_J (q 52) cJ 10 y4, ra_I (q 47) cI 3 yf, ra_I (q 48) cI 3 yt])) := by
  refine skM_of pf_X9_fillWords (Nat.le_of_ble_eq_true rfl) ?_
  intro p e s m below meth c A ls E hP hD hl
  refine skE_el E (fun hx hb hr hml hlocks hin hown hts hK hA => ?_)
  have hown : s.vm.findClass RX9 = some m.cls := hown
  have hS : va_S A s.heap s.heap [] := va_S.rf
  have hl : lv_has ls 6 [(0, .ref (q 10)), (1, .ref (q 5)), (2, .int (nI d))] := hl
  refine lv_aload_n hx hb dX9_fillWords_0 rfl (lv_at hl 1 rfl) ?_
  refine sk_get (v := .ref (q 44)) (C := RX2) (T := TX2) (N := 10) hx hb hts inlX2 hown hK hP 3 rfl rfl 0 (Nat.le_of_ble_eq_true rfl) w_1_176 rfl dX9_fillWords_1 ?_
  refine lv_astore_n (lv' := [(3, .ref (q 44)), (0, .ref (q 10)), (1, .ref (q 5)), (2, .int (nI d))]) hx hb dX9_fillWords_4 rfl hl (by decide) rfl (fun ls hl => ?_)
  obtain ⟨p0, hp0⟩ := untN_some (L := L) 3 0 (by decide)
  have hbp0 := kx_bk hLk hp0
  have hsp0 := kx_sg (hsg 0 (by decide)) hp0
  have hlp0 := hsp0.2.2
  obtain ⟨p2, hp2⟩ := untN_some (L := L) 3 2 (by decide)
  have hbp2 := kx_bk hLk hp2
  have hsp2 := kx_sg (hsg 2 (by decide)) hp2
  have hlp2 := hsp2.2.2
  refine lv_iconst (v := 0) hx hb dX9_fillWords_5 ic_0 ?_
  refine lv_istore (lv' := [(4, .int 0), (3, .ref (q 44)), (0, .ref (q 10)), (1, .ref (q 5)), (2, .int (nI d))]) hx hb dX9_fillWords_6 hl (by decide) rfl (fun ls hl => ?_)
  have lp_1 : ∀ (n_2 : Nat) (i : Nat) (sb : Nat → Nat) (gb : Nat → Int64) (u2 : Nat → Int64) (u3 : Nat → Int64) (H : Heap) (locs : List Loc) (ls : Array Slot), 10 - i < n_2 → (∀ j, sb j ≤ 9) → (i ≤ 10) → (kfw L wk b w d i sa sb fg gb) → (kcDy u3 wk b w d) → va_P D vwCl [ro_rrrrrr (q 10) 9 (q 61) (q 62) (q 63) (q 64) (q 65) (q 66), ra_N (q 61) cI 90 sb, ra_J (q 65) cJ 90 gb, ro_rrrrrnniin (q 5) 2 (q 44) (q 45) (q 46) (q 47) (q 48) dh mh uh rh nh, ro_rrrrnn (q 44) 0 (q 49) (q 50) (q 51) (q 52) ch wh, ra_I (q 49) cI 1600 y1, ra_J (q 50) cJ 64 u2, ra_J (q 51) cJ 9 u3, ra_J (q 52) cJ 10 y4, ra_I (q 47) cI 3 yf, ra_I (q 48) cI 3 yt] H → va_D A [ro_rrrrrr (q 10) 9 (q 61) (q 62) (q 63) (q 64) (q 65) (q 66), ra_N (q 61) cI 90 sb, ra_J (q 65) cJ 90 gb, ro_rrrrrnniin (q 5) 2 (q 44) (q 45) (q 46) (q 47) (q 48) dh mh uh rh nh, ro_rrrrnn (q 44) 0 (q 49) (q 50) (q 51) (q 52) ch wh, ra_I (q 49) cI 1600 y1, ra_J (q 50) cJ 64 u2, ra_J (q 51) cJ 9 u3, ra_J (q 52) cJ 10 y4, ra_I (q 47) cI 3 yf, ra_I (q 48) cI 3 yt] → va_S A s.heap H locs → lv_has ls 6 [(4, .int (nI i)), (3, .ref (q 44)), (0, .ref (q 10)), (1, .ref (q 5)), (2, .int (nI d))] → W p l e { frames := 3, cells := 0, slots := 0, locals := 75 } s m ([.ref (q 10), .ref (q 5), .int (nI d)] : List Value).toArray below meth c H locs 0 0 (MQ below (skV D (skT cI cJ cC cZ cS) (fun (u : va_W) => ∃ (sa2 : Nat → Nat), ∃ (fg2 : Nat → Int64), ∃ (z2 : Nat → Int64), ∃ (z3 : Nat → Int64), (∀ j, sa2 j ≤ 9) ∧ kfw L wk b w d 10 sa sa2 fg fg2 ∧ kcDy z3 wk b w d ∧ u = [ro_rrrrrr (q 10) 9 (q 61) (q 62) (q 63) (q 64) (q 65) (q 66), ra_N (q 61) cI 90 sa2, ra_J (q 65) cJ 90 fg2, ro_rrrrrnniin (q 5) 2 (q 44) (q 45) (q 46) (q 47) (q 48) dh mh uh rh nh, ro_rrrrnn (q 44) 0 (q 49) (q 50) (q 51) (q 52) ch wh, ra_I (q 49) cI 1600 y1, ra_J (q 50) cJ 64 z2, ra_J (q 51) cJ 9 z3, ra_J (q 52) cJ 10 y4, ra_I (q 47) cI 3 yf, ra_I (q 48) cI 3 yt]) A) ([.ref (q 10), .ref (q 5), .int (nI d)] : List Value).toArray s 0 0 A) (F0 m 8 ls []) := by
    intro n_2
    induction n_2 with
    | zero => intro i sb gb u2 u3 H locs ls hm; exact absurd hm (Nat.not_lt_zero _)
    | succ n_2 ih_lp_1 =>
      intro i sb gb u2 u3 H locs ls hm hsb hi hfi hdi hP hD hS hl
      refine lv_iload hx hb dX9_fillWords_8 (lv_at hl 0 rfl) ?_
      refine lv_bipush (v := 10) hx hb dX9_fillWords_10 (by decide) ?_
      refine lv_icmp_ge (tgt := 91) hx hb dX9_fillWords_12 (by decide) (fun c_3 => ?_) (fun c_3 => ?_)
      · have c_3 : 10 ≤ i := (nle 10 i (Nat.le_of_ble_eq_true rfl) (by omega)).mp c_3
        exact sk_vret hx hb hr hlocks hK hP hD hS (⟨sb, gb, u2, u3, hsb, (show kfw L wk b w d 10 sa sb fg gb by rw [show 10 = i by omega]; exact hfi), hdi, rfl⟩) (Nat.le_of_ble_eq_true rfl) (Nat.le_of_ble_eq_true rfl) dX9_fillWords_91
      · have c_3 : ¬ (10 ≤ i) := fun h => c_3 ((nle 10 i (Nat.le_of_ble_eq_true rfl) (by omega)).mpr h)
        refine lv_iload_n hx hb dX9_fillWords_15 rfl (lv_at hl 4 rfl) ?_
        refine lv_bipush (v := 10) hx hb dX9_fillWords_16 (by decide) ?_
        refine lv_imul hx hb dX9_fillWords_18 ?_
        refine sk_top (nI (d * 10)) (nmul d 10) ?_
        refine lv_iload hx hb dX9_fillWords_19 (lv_at hl 0 rfl) ?_
        refine lv_iadd hx hb dX9_fillWords_21 ?_
        refine sk_top (nI (d * 10 + i)) (nI_add (d * 10) i) ?_
        refine lv_istore (lv' := [(5, .int (nI (d * 10 + i))), (4, .int (nI i)), (3, .ref (q 44)), (0, .ref (q 10)), (1, .ref (q 5)), (2, .int (nI d))]) hx hb dX9_fillWords_22 hl (by decide) rfl (fun ls hl => ?_)
        refine lv_aload_n hx hb dX9_fillWords_24 rfl (lv_at hl 2 rfl) ?_
        refine lv_sipush (v := 10000) hx hb dX9_fillWords_25 (by decide) ?_
        refine lv_iload hx hb dX9_fillWords_28 (lv_at hl 1 rfl) ?_
        refine lv_i2l hx hb dX9_fillWords_30 rfl ?_
        refine sk_Vv (q0 := 0) (n := 2) (rest := []) (wr := fmR om_11_48 _) ⟨hx, hb, hml, hown, hts⟩ hl.1 (c_kCode_name l D cI cJ cC cZ cS (q 44) (q 49) (q 50) (q 51) (q 52) ch wh u3 10000 0 (Int32.toInt64 (nI i)) (by decide) (by decide)) w_3_212 w_3_213 w_3_214 w_1_8 w_3_215 hd_X0_name_2 ⟨⟨(Nat.le_of_ble_eq_true rfl), (Nat.le_of_ble_eq_true rfl)⟩, (Nat.le_of_ble_eq_true rfl), (Nat.le_of_ble_eq_true rfl)⟩ hK hP hD hS hA (fmT om_11_48 0) (fmF om_11_48 0) (fm_C1 rfl rfl) (fm_R rfl rfl) (fm_nT om_11_48 0) (fm_nF om_11_48 0) (fm_di om_11_48 0) rfl rfl rfl rfl (Nat.le_of_ble_eq_true rfl) dX9_fillWords_31 (fun u H locs hw hP hD hS => ?_)
        refine exE hw (fun g3_4 hw1 => anE hw1 (fun hg3_5 eu_6 => ?_))
        clear hw hw1
        refine o_mgE (ws' := [ro_rrrrrr (q 10) 9 (q 61) (q 62) (q 63) (q 64) (q 65) (q 66), ra_N (q 61) cI 90 sb, ra_J (q 65) cJ 90 gb, ro_rrrrrnniin (q 5) 2 (q 44) (q 45) (q 46) (q 47) (q 48) dh mh uh rh nh, ro_rrrrnn (q 44) 0 (q 49) (q 50) (q 51) (q 52) ch wh, ra_I (q 49) cI 1600 y1, ra_J (q 50) cJ 64 u2, ra_J (q 51) cJ 9 g3_4, ra_J (q 52) cJ 10 y4, ra_I (q 47) cI 3 yf, ra_I (q 48) cI 3 yt]) eu_6 hP hD rfl (fun hP hD => ?_)
        have hd_7 := kdy_up hdi hg3_5 (by decide)
        have hn_8 := (kup_s hg3_5).trans (kx_i2l (by omega))
        refine lv_aload_n hx hb dX9_fillWords_34 rfl (lv_at hl 3 rfl) ?_
        refine sk_get (v := .ref (q 61)) (C := RX9) (T := TX9) (N := 6) hx hb hts inlX9 hown hK hP 0 rfl rfl 0 (Nat.le_of_ble_eq_true rfl) w_2_63 rfl dX9_fillWords_35 ?_
        refine lv_iload hx hb dX9_fillWords_38 (lv_at hl 0 rfl) ?_
        refine lv_aload_n hx hb dX9_fillWords_40 rfl (lv_at hl 2 rfl) ?_
        refine lv_aload_n hx hb dX9_fillWords_41 rfl (lv_at hl 4 rfl) ?_
        refine sk_get (v := .ref (q 47)) (C := RX2) (T := TX2) (N := 10) hx hb hts inlX2 hown hK hP 3 rfl rfl 3 (Nat.le_of_ble_eq_true rfl) w_1_185 rfl dX9_fillWords_42 ?_
        refine lv_iconst (v := 0) hx hb dX9_fillWords_45 ic_0 ?_
        refine va_iald hx hb hK.1 hP 9 0 rfl rfl (by unfold vp_in; decide) dX9_fillWords_46 ?_
        refine sk_top (nI p0.1) (hsp0.1) ?_
        refine lv_aload_n hx hb dX9_fillWords_47 rfl (lv_at hl 4 rfl) ?_
        refine sk_get (v := .ref (q 48)) (C := RX2) (T := TX2) (N := 10) hx hb hts inlX2 hown hK hP 3 rfl rfl 4 (Nat.le_of_ble_eq_true rfl) w_1_187 rfl dX9_fillWords_48 ?_
        refine lv_iconst (v := 0) hx hb dX9_fillWords_51 ic_0 ?_
        refine va_iald hx hb hK.1 hP 10 0 rfl rfl (by unfold vp_in; decide) dX9_fillWords_52 ?_
        refine sk_top (nI p0.2) (hsp0.2.1) ?_
        refine sk_Vl (q0 := 0) (n := 2) (rest := [.int (nI (d * 10 + i)), .ref (q 61)]) (wr := fmR om_11_7c _) ⟨hx, hb, hml, hown, hts⟩ hl.1 (c_kCode_run l D cI cJ cC cZ cS (q 44) (q 49) (q 50) (q 51) (q 52) ch wh y1 u2 g3_4 y4 p0.1 p0.2 (lK (lkF L)) g3_4 (kcV L 0 g3_4) 0 hch hwh hcd.1 hcd (Nat.le_of_lt hbp0.1) hbp0.2 (by omega) (kx_ns hLk rfl hp0) (fun _ _ => rfl) (kx_ex hLk (by decide) hp0 _)) w_3_220 w_3_221 w_3_222 w_1_8 w_3_223 hd_X0_run_2 ⟨⟨(Nat.le_of_ble_eq_true rfl), (Nat.le_of_ble_eq_true rfl)⟩, (Nat.le_of_ble_eq_true rfl), (Nat.le_of_ble_eq_true rfl)⟩ hK hP hD hS hA (fmT om_11_7c 0) (fmF om_11_7c 0) (fm_C1 rfl rfl) (fm_R rfl rfl) (fm_nT om_11_7c 0) (fm_nF om_11_7c 0) (fm_di om_11_7c 0) rfl rfl rfl rfl (Nat.le_of_ble_eq_true rfl) dX9_fillWords_53 (fun r_10 u H locs hw hP hD hS => ?_)
        refine exE hw (fun g2_9 hw1 => anE hw1 (fun er_12 eu_11 => ?_))
        clear hw hw1
        subst er_12
        refine o_mgE (ws' := [ro_rrrrrr (q 10) 9 (q 61) (q 62) (q 63) (q 64) (q 65) (q 66), ra_N (q 61) cI 90 sb, ra_J (q 65) cJ 90 gb, ro_rrrrrnniin (q 5) 2 (q 44) (q 45) (q 46) (q 47) (q 48) dh mh uh rh nh, ro_rrrrnn (q 44) 0 (q 49) (q 50) (q 51) (q 52) ch wh, ra_I (q 49) cI 1600 y1, ra_J (q 50) cJ 64 g2_9, ra_J (q 51) cJ 9 g3_4, ra_J (q 52) cJ 10 y4, ra_I (q 47) cI 3 yf, ra_I (q 48) cI 3 yt]) eu_11 hP hD rfl (fun hP hD => ?_)
        refine lv_bipush (v := 10) hx hb dX9_fillWords_56 (by decide) ?_
        refine sk_Si (n := 2) (rest := [.int (nI (d * 10 + i)), .ref (q 61)]) (wr := [ro_rrrrrr (q 10) 9 (q 61) (q 62) (q 63) (q 64) (q 65) (q 66), ra_N (q 61) cI 90 sb, ra_J (q 65) cJ 90 gb, ro_rrrrrnniin (q 5) 2 (q 44) (q 45) (q 46) (q 47) (q 48) dh mh uh rh nh, ro_rrrrnn (q 44) 0 (q 49) (q 50) (q 51) (q 52) ch wh, ra_I (q 49) cI 1600 y1, ra_J (q 50) cJ 64 g2_9, ra_J (q 51) cJ 9 g3_4, ra_J (q 52) cJ 10 y4, ra_I (q 47) cI 3 yf, ra_I (q 48) cI 3 yt]) ⟨hx, hb, hml, hown, hts⟩ hl.1 (c_kfloorMod l D cI cJ cC cZ cS (kcV L 0 g3_4)) w_4_7 w_4_8 w_1_3 w_4_9 hd_J9_floorMod_1978a_2 ⟨⟨(Nat.le_of_ble_eq_true rfl), (Nat.le_of_ble_eq_true rfl)⟩, (Nat.le_of_ble_eq_true rfl), (Nat.le_of_ble_eq_true rfl)⟩ hK hP hD hS hA [] [0, 1, 2, 3, 4, 5, 6, 7, 8, 9, 10] rfl rfl (by decide +kernel) (by decide +kernel) (by decide +kernel) rfl rfl (Nat.le_of_ble_eq_true rfl) dX9_fillWords_58 (fun r_13 u H locs hw hP hD hS => ?_)
        obtain ⟨rfl, rfl⟩ := hw
        refine o_re (ws' := [ro_rrrrrr (q 10) 9 (q 61) (q 62) (q 63) (q 64) (q 65) (q 66), ra_N (q 61) cI 90 sb, ra_J (q 65) cJ 90 gb, ro_rrrrrnniin (q 5) 2 (q 44) (q 45) (q 46) (q 47) (q 48) dh mh uh rh nh, ro_rrrrnn (q 44) 0 (q 49) (q 50) (q 51) (q 52) ch wh, ra_I (q 49) cI 1600 y1, ra_J (q 50) cJ 64 g2_9, ra_J (q 51) cJ 9 g3_4, ra_J (q 52) cJ 10 y4, ra_I (q 47) cI 3 yf, ra_I (q 48) cI 3 yt]) hP hD rfl (fun hP hD => ?_)
        have hk_14 := kcTen_lt (kcV L 0 g3_4)
        refine sk_iastNE (k := (d * 10 + i)) (v := (kcTen (kcV L 0 g3_4))) (B := 9) (ws' := fun f_15 => [ro_rrrrrr (q 10) 9 (q 61) (q 62) (q 63) (q 64) (q 65) (q 66), ra_N (q 61) cI 90 f_15, ra_J (q 65) cJ 90 gb, ro_rrrrrnniin (q 5) 2 (q 44) (q 45) (q 46) (q 47) (q 48) dh mh uh rh nh, ro_rrrrnn (q 44) 0 (q 49) (q 50) (q 51) (q 52) ch wh, ra_I (q 49) cI 1600 y1, ra_J (q 50) cJ 64 g2_9, ra_J (q 51) cJ 9 g3_4, ra_J (q 52) cJ 10 y4, ra_I (q 47) cI 3 yf, ra_I (q 48) cI 3 yt]) hx hb hK hP hD hS 1 0 rfl rfl (by omega) (by omega) hsb (by omega) (fun _ => rfl) dX9_fillWords_61 (fun f_15 H locs hf_17 ef_16 hP hD hS => ?_)
        refine lv_aload_n hx hb dX9_fillWords_62 rfl (lv_at hl 3 rfl) ?_
        refine sk_get (v := .ref (q 65)) (C := RX9) (T := TX9) (N := 6) hx hb hts inlX9 hown hK hP 0 rfl rfl 4 (Nat.le_of_ble_eq_true rfl) w_2_72 rfl dX9_fillWords_63 ?_
        refine lv_iload hx hb dX9_fillWords_66 (lv_at hl 0 rfl) ?_
        refine lv_aload_n hx hb dX9_fillWords_68 rfl (lv_at hl 2 rfl) ?_
        refine lv_aload_n hx hb dX9_fillWords_69 rfl (lv_at hl 4 rfl) ?_
        refine sk_get (v := .ref (q 47)) (C := RX2) (T := TX2) (N := 10) hx hb hts inlX2 hown hK hP 3 rfl rfl 3 (Nat.le_of_ble_eq_true rfl) w_1_185 rfl dX9_fillWords_70 ?_
        refine lv_iconst (v := 2) hx hb dX9_fillWords_73 ic_2 ?_
        refine va_iald hx hb hK.1 hP 9 0 rfl rfl (by unfold vp_in; decide) dX9_fillWords_74 ?_
        refine sk_top (nI p2.1) (hsp2.1) ?_
        refine lv_aload_n hx hb dX9_fillWords_75 rfl (lv_at hl 4 rfl) ?_
        refine sk_get (v := .ref (q 48)) (C := RX2) (T := TX2) (N := 10) hx hb hts inlX2 hown hK hP 3 rfl rfl 4 (Nat.le_of_ble_eq_true rfl) w_1_187 rfl dX9_fillWords_76 ?_
        refine lv_iconst (v := 2) hx hb dX9_fillWords_79 ic_2 ?_
        refine va_iald hx hb hK.1 hP 10 0 rfl rfl (by unfold vp_in; decide) dX9_fillWords_80 ?_
        refine sk_top (nI p2.2) (hsp2.2.1) ?_
        refine sk_Vl (q0 := 0) (n := 2) (rest := [.int (nI (d * 10 + i)), .ref (q 65)]) (wr := fmR om_11_7c _) ⟨hx, hb, hml, hown, hts⟩ hl.1 (c_kCode_run l D cI cJ cC cZ cS (q 44) (q 49) (q 50) (q 51) (q 52) ch wh y1 g2_9 g3_4 y4 p2.1 p2.2 (lK (lkF L)) g3_4 (kcV L 2 g3_4) 0 hch hwh hcd.1 hcd (Nat.le_of_lt hbp2.1) hbp2.2 (by omega) (kx_ns hLk rfl hp2) (fun _ _ => rfl) (kx_ex hLk (by decide) hp2 _)) w_3_220 w_3_221 w_3_222 w_1_8 w_3_223 hd_X0_run_2 ⟨⟨(Nat.le_of_ble_eq_true rfl), (Nat.le_of_ble_eq_true rfl)⟩, (Nat.le_of_ble_eq_true rfl), (Nat.le_of_ble_eq_true rfl)⟩ hK hP hD hS hA (fmT om_11_7c 0) (fmF om_11_7c 0) (fm_C1 rfl rfl) (fm_R rfl rfl) (fm_nT om_11_7c 0) (fm_nF om_11_7c 0) (fm_di om_11_7c 0) rfl rfl rfl rfl (Nat.le_of_ble_eq_true rfl) dX9_fillWords_81 (fun r_19 u H locs hw hP hD hS => ?_)
        refine exE hw (fun g2_18 hw1 => anE hw1 (fun er_21 eu_20 => ?_))
        clear hw hw1
        subst er_21
        refine o_mgE (ws' := [ro_rrrrrr (q 10) 9 (q 61) (q 62) (q 63) (q 64) (q 65) (q 66), ra_N (q 61) cI 90 f_15, ra_J (q 65) cJ 90 gb, ro_rrrrrnniin (q 5) 2 (q 44) (q 45) (q 46) (q 47) (q 48) dh mh uh rh nh, ro_rrrrnn (q 44) 0 (q 49) (q 50) (q 51) (q 52) ch wh, ra_I (q 49) cI 1600 y1, ra_J (q 50) cJ 64 g2_18, ra_J (q 51) cJ 9 g3_4, ra_J (q 52) cJ 10 y4, ra_I (q 47) cI 3 yf, ra_I (q 48) cI 3 yt]) eu_20 hP hD rfl (fun hP hD => ?_)
        refine sk_lastE (k := (d * 10 + i)) (ws' := fun f_22 => [ro_rrrrrr (q 10) 9 (q 61) (q 62) (q 63) (q 64) (q 65) (q 66), ra_N (q 61) cI 90 f_15, ra_J (q 65) cJ 90 f_22, ro_rrrrrnniin (q 5) 2 (q 44) (q 45) (q 46) (q 47) (q 48) dh mh uh rh nh, ro_rrrrnn (q 44) 0 (q 49) (q 50) (q 51) (q 52) ch wh, ra_I (q 49) cI 1600 y1, ra_J (q 50) cJ 64 g2_18, ra_J (q 51) cJ 9 g3_4, ra_J (q 52) cJ 10 y4, ra_I (q 47) cI 3 yf, ra_I (q 48) cI 3 yt]) hx hb hK hP hD hS 2 1 rfl rfl (by omega) (by omega) (fun _ => rfl) dX9_fillWords_84 (fun f_22 H locs ef_23 hP hD hS => ?_)
        refine lv_iinc (v := nI (i + 1)) (lv' := [(4, .int (nI (i + 1))), (5, .int (nI (d * 10 + i))), (3, .ref (q 44)), (0, .ref (q 10)), (1, .ref (q 5)), (2, .int (nI d))]) hx hb dX9_fillWords_85 hl (k := 1) rfl (ninc i 1 (by decide)) (by decide) rfl (fun ls hl => ?_)
        refine lv_goto (tgt := 8) hx hb dX9_fillWords_88 (by decide) ?_
        exact ih_lp_1 (i + 1) f_15 f_22 g2_18 g3_4 _ _ _ (by omega) hf_17 (by omega) (kfw_s hfi ef_16 ef_23 (by omega) (kx_said hLk hd_7 hn_8) (kx_wage hLk hd_7 hn_8)) hd_7 hP hD hS (lv_sub hl [0, 2, 3, 4, 5] rfl)
  exact lp_1 (10 - 0 + 1) 0 sa fg y2 y3 _ _ _ (Nat.lt_succ_self _) hsa (by omega) (kfw_0 _ _ _ _ _ _ _) hdy3 hP hD hS (lv_sub hl [0, 1, 2, 3, 4] rfl)
theorem kbeq {a b : Nat} (h : a = b) : (a == b) = true := beq_iff_eq.mpr h
set_option maxHeartbeats 4000000 in
set_option maxRecDepth 100000 in
theorem c_kmoodsBehind (l : Launch) (D : va_G) (cI cJ cC cZ cS : ClassId) (q : Nat → Nat) (sa : Nat → Nat) (ft : Nat → Int32) (d : Nat) (ah : Nat) (li : Nat) (S : Nat → Nat) (T : Nat → Nat) (hsa : ∀ j, sa j ≤ 9) (hd : d < 9) (hah : ah < 10) (hli : li < 10) (hSm : ∀ m, m < 10 → sa (d * 10 + m) = S m) (hTm : ∀ t, t < 10 → ft ((d * 10 + ah) * 10 + t) = nI (T t)) (hT9 : ∀ t, T t < 10) : skM l yX9_moodsBehind cX9_moodsBehind 7 (some .int) 0 0 0 0 D (skT cI cJ cC cZ cS) [.ref (q 10), .int (nI d), .int (nI ah), .int (nI li)] [ro_rrrrrr (q 10) 9 (q 61) (q 62) (q 63) (q 64) (q 65) (q 66), ra_N (q 61) cI 90 sa, ra_I (q 62) cI 900 ft] (skI D (skT cI cJ cC cZ cS) (fun (r : Int32) (u : va_W) => r = nI (kcMB S T li) ∧ u = [ro_rrrrrr (q 10) 9 (q 61) (q 62) (q 63) (q 64) (q 65) (q 66), ra_N (q 61) cI 90 sa, ra_I (q 62) cI 900 ft])) := by
  refine skM_of pf_X9_moodsBehind (Nat.le_of_ble_eq_true rfl) ?_
  intro p e s m below meth c A ls E hP hD hl
  refine skE_el E (fun hx hb hr hml hlocks hin hown hts hK hA => ?_)
  have hown : s.vm.findClass RX9 = some m.cls := hown
  have hS : va_S A s.heap s.heap [] := va_S.rf
  have hl : lv_has ls 7 [(0, .ref (q 10)), (1, .int (nI d)), (2, .int (nI ah)), (3, .int (nI li))] := hl
  refine lv_iconst (v := 0) hx hb dX9_moodsBehind_0 ic_0 ?_
  refine lv_istore (lv' := [(4, .int 0), (0, .ref (q 10)), (1, .int (nI d)), (2, .int (nI ah)), (3, .int (nI li))]) hx hb dX9_moodsBehind_1 hl (by decide) rfl (fun ls hl => ?_)
  refine lv_iconst (v := 0) hx hb dX9_moodsBehind_3 ic_0 ?_
  refine lv_istore (lv' := [(5, .int 0), (4, .int 0), (0, .ref (q 10)), (1, .int (nI d)), (2, .int (nI ah)), (3, .int (nI li))]) hx hb dX9_moodsBehind_4 hl (by decide) rfl (fun ls hl => ?_)
  have lp_1 : ∀ (n_2 : Nat) (i : Nat) (mk : Nat) (H : Heap) (locs : List Loc) (ls : Array Slot), 10 - i < n_2 → (i ≤ 10) → (mk = kcK (fun m => T ((S m + li) % 10) == m) i) → va_P D vwCl [ro_rrrrrr (q 10) 9 (q 61) (q 62) (q 63) (q 64) (q 65) (q 66), ra_N (q 61) cI 90 sa, ra_I (q 62) cI 900 ft] H → va_D A [ro_rrrrrr (q 10) 9 (q 61) (q 62) (q 63) (q 64) (q 65) (q 66), ra_N (q 61) cI 90 sa, ra_I (q 62) cI 900 ft] → va_S A s.heap H locs → lv_has ls 7 [(5, .int (nI i)), (4, .int (nI mk)), (0, .ref (q 10)), (1, .int (nI d)), (2, .int (nI ah)), (3, .int (nI li))] → W p l e { frames := 0, cells := 0, slots := 0, locals := 0 } s m ([.ref (q 10), .int (nI d), .int (nI ah), .int (nI li)] : List Value).toArray below meth c H locs 0 0 (MQ below (skI D (skT cI cJ cC cZ cS) (fun (r : Int32) (u : va_W) => r = nI (kcMB S T li) ∧ u = [ro_rrrrrr (q 10) 9 (q 61) (q 62) (q 63) (q 64) (q 65) (q 66), ra_N (q 61) cI 90 sa, ra_I (q 62) cI 900 ft]) A) ([.ref (q 10), .int (nI d), .int (nI ah), .int (nI li)] : List Value).toArray s 0 0 A) (F0 m 6 ls []) := by
    intro n_2
    induction n_2 with
    | zero => intro i mk H locs ls hm; exact absurd hm (Nat.not_lt_zero _)
    | succ n_2 ih_lp_1 =>
      intro i mk H locs ls hm hi hmk hP hD hS hl
      refine lv_iload hx hb dX9_moodsBehind_6 (lv_at hl 0 rfl) ?_
      refine lv_bipush (v := 10) hx hb dX9_moodsBehind_8 (by decide) ?_
      refine lv_icmp_ge (tgt := 69) hx hb dX9_moodsBehind_10 (by decide) (fun c_3 => ?_) (fun c_3 => ?_)
      · have c_3 : 10 ≤ i := (nle 10 i (Nat.le_of_ble_eq_true rfl) (by omega)).mp c_3
        obtain rfl : i = 10 := by omega
        have hmk2 : mk = kcMB S T li := hmk
        subst hmk2
        refine lv_iload hx hb dX9_moodsBehind_69 (lv_at hl 1 rfl) ?_
        exact sk_iret hx hb hr rfl hlocks hK hP hD hS (⟨rfl, rfl⟩) (Nat.le_of_ble_eq_true rfl) (Nat.le_of_ble_eq_true rfl) dX9_moodsBehind_71
      · have c_3 : ¬ (10 ≤ i) := fun h => c_3 ((nle 10 i (Nat.le_of_ble_eq_true rfl) (by omega)).mpr h)
        refine lv_aload_n hx hb dX9_moodsBehind_13 rfl (lv_at hl 2 rfl) ?_
        refine sk_get (v := .ref (q 61)) (C := RX9) (T := TX9) (N := 6) hx hb hts inlX9 hown hK hP 0 rfl rfl 0 (Nat.le_of_ble_eq_true rfl) w_2_63 rfl dX9_moodsBehind_14 ?_
        refine lv_iload_n hx hb dX9_moodsBehind_17 rfl (lv_at hl 3 rfl) ?_
        refine lv_bipush (v := 10) hx hb dX9_moodsBehind_18 (by decide) ?_
        refine lv_imul hx hb dX9_moodsBehind_20 ?_
        refine sk_top (nI (d * 10)) (nmul d 10) ?_
        refine lv_iload hx hb dX9_moodsBehind_21 (lv_at hl 0 rfl) ?_
        refine lv_iadd hx hb dX9_moodsBehind_23 ?_
        refine sk_top (nI (d * 10 + i)) (nI_add (d * 10) i) ?_
        refine va_iald hx hb hK.1 hP 1 0 rfl rfl (vin (d * 10 + i) 90 (by omega) (Nat.le_of_ble_eq_true rfl)) dX9_moodsBehind_24 ?_
        refine sk_top (nI (sa (d * 10 + i))) (nrd sa (d * 10 + i) (by omega)) ?_
        have hb_4 := hsa (d * 10 + i)
        refine lv_iload_n hx hb dX9_moodsBehind_25 rfl (lv_at hl 5 rfl) ?_
        refine lv_iadd hx hb dX9_moodsBehind_26 ?_
        refine sk_top (nI (sa (d * 10 + i) + li)) (nI_add (sa (d * 10 + i)) li) ?_
        refine lv_bipush (v := 10) hx hb dX9_moodsBehind_27 (by decide) ?_
        refine lv_irem hx hb dX9_moodsBehind_29 (by decide) ?_
        refine sk_top (nI ((sa (d * 10 + i) + li) % 10)) (nrem (sa (d * 10 + i) + li) 10 (by omega) (by omega) (by omega)) ?_
        refine lv_istore (lv' := [(6, .int (nI ((sa (d * 10 + i) + li) % 10))), (5, .int (nI i)), (4, .int (nI mk)), (0, .ref (q 10)), (1, .int (nI d)), (2, .int (nI ah)), (3, .int (nI li))]) hx hb dX9_moodsBehind_30 hl (by decide) rfl (fun ls hl => ?_)
        refine lv_aload_n hx hb dX9_moodsBehind_32 rfl (lv_at hl 3 rfl) ?_
        refine sk_get (v := .ref (q 62)) (C := RX9) (T := TX9) (N := 6) hx hb hts inlX9 hown hK hP 0 rfl rfl 1 (Nat.le_of_ble_eq_true rfl) w_2_65 rfl dX9_moodsBehind_33 ?_
        refine lv_iload_n hx hb dX9_moodsBehind_36 rfl (lv_at hl 4 rfl) ?_
        refine lv_bipush (v := 10) hx hb dX9_moodsBehind_37 (by decide) ?_
        refine lv_imul hx hb dX9_moodsBehind_39 ?_
        refine sk_top (nI (d * 10)) (nmul d 10) ?_
        refine lv_iload_n hx hb dX9_moodsBehind_40 rfl (lv_at hl 5 rfl) ?_
        refine lv_iadd hx hb dX9_moodsBehind_41 ?_
        refine sk_top (nI (d * 10 + ah)) (nI_add (d * 10) ah) ?_
        refine lv_bipush (v := 10) hx hb dX9_moodsBehind_42 (by decide) ?_
        refine lv_imul hx hb dX9_moodsBehind_44 ?_
        refine sk_top (nI ((d * 10 + ah) * 10)) (nmul (d * 10 + ah) 10) ?_
        refine lv_iload hx hb dX9_moodsBehind_45 (lv_at hl 0 rfl) ?_
        refine lv_iadd hx hb dX9_moodsBehind_47 ?_
        refine sk_top (nI ((d * 10 + ah) * 10 + ((sa (d * 10 + i) + li) % 10))) (nI_add ((d * 10 + ah) * 10) ((sa (d * 10 + i) + li) % 10)) ?_
        refine va_iald hx hb hK.1 hP 2 0 rfl rfl (vin ((d * 10 + ah) * 10 + ((sa (d * 10 + i) + li) % 10)) 900 (by omega) (by omega)) dX9_moodsBehind_48 ?_
        have hTi := hT9 ((S i + li) % 10)
        refine sk_top (nI (T ((S i + li) % 10))) (by rw [nI_clamp (by omega), hSm i (by omega)]; exact hTm _ (by omega)) ?_
        refine lv_iload hx hb dX9_moodsBehind_49 (lv_at hl 1 rfl) ?_
        refine lv_icmp_ne (tgt := 63) hx hb dX9_moodsBehind_51 (by decide) (fun c_5 => ?_) (fun c_5 => ?_)
        · have c_5 : ¬ (T ((S i + li) % 10) = i) := fun h => c_5 ((neq (T ((S i + li) % 10)) i (by omega) (by omega)).mpr h)
          refine lv_iinc (v := nI (i + 1)) (lv' := [(5, .int (nI (i + 1))), (6, .int (nI ((sa (d * 10 + i) + li) % 10))), (4, .int (nI mk)), (0, .ref (q 10)), (1, .int (nI d)), (2, .int (nI ah)), (3, .int (nI li))]) hx hb dX9_moodsBehind_63 hl (k := 1) rfl (ninc i 1 (by decide)) (by decide) rfl (fun ls hl => ?_)
          refine lv_goto (tgt := 6) hx hb dX9_moodsBehind_66 (by decide) ?_
          exact ih_lp_1 (i + 1) mk _ _ _ (by omega) (by omega) (by rw [kcK_no (fun m => T ((S m + li) % 10) == m) i (fun hq => c_5 (eq_of_beq hq))]; exact hmk) hP hD hS (lv_sub hl [0, 2, 3, 4, 5, 6] rfl)
        · have c_5 : T ((S i + li) % 10) = i := (neq (T ((S i + li) % 10)) i (by omega) (by omega)).mp c_5
          refine lv_iload hx hb dX9_moodsBehind_54 (lv_at hl 2 rfl) ?_
          refine lv_iconst (v := 1) hx hb dX9_moodsBehind_56 ic_1 ?_
          refine lv_iload hx hb dX9_moodsBehind_57 (lv_at hl 1 rfl) ?_
          refine lv_ishl hx hb dX9_moodsBehind_59 ?_
          refine lv_ior hx hb dX9_moodsBehind_60 ?_
          have hml_ := kK_lt10 (fun m => T ((S m + li) % 10) == m) (show i ≤ 10 by omega)
          rw [← hmk] at hml_
          refine sk_top (nI (mk ||| 2 ^ i)) (kor_10 (by omega) (by omega)) ?_
          refine lv_istore (lv' := [(4, .int (nI (mk ||| 2 ^ i))), (6, .int (nI ((sa (d * 10 + i) + li) % 10))), (5, .int (nI i)), (0, .ref (q 10)), (1, .int (nI d)), (2, .int (nI ah)), (3, .int (nI li))]) hx hb dX9_moodsBehind_61 hl (by decide) rfl (fun ls hl => ?_)
          refine lv_iinc (v := nI (i + 1)) (lv' := [(5, .int (nI (i + 1))), (4, .int (nI (mk ||| 2 ^ i))), (6, .int (nI ((sa (d * 10 + i) + li) % 10))), (0, .ref (q 10)), (1, .int (nI d)), (2, .int (nI ah)), (3, .int (nI li))]) hx hb dX9_moodsBehind_63 hl (k := 2) rfl (ninc i 1 (by decide)) (by decide) rfl (fun ls hl => ?_)
          refine lv_goto (tgt := 6) hx hb dX9_moodsBehind_66 (by decide) ?_
          exact ih_lp_1 (i + 1) (mk ||| 2 ^ i) _ _ _ (by omega) (by omega) (by rw [hmk]; exact kcK_or (fun m => T ((S m + li) % 10) == m) i (kbeq c_5)) hP hD hS (lv_sub hl [0, 1, 3, 4, 5, 6] rfl)
  exact lp_1 (10 - 0 + 1) 0 0 _ _ _ (Nat.lt_succ_self _) (by omega) rfl hP hD hS (lv_sub hl [0, 1, 2, 3, 4, 5] rfl)
theorem kft_10 {P : Prop} (h : P) : P := h
set_option maxHeartbeats 4000000 in
set_option maxRecDepth 100000 in
theorem c_kfillDeeds (l : Launch) (D : va_G) (cI cJ cC cZ cS : ClassId) (q : Nat → Nat) (dh : Nat) (mh : Nat) (uh : Int32) (rh : Int32) (nh : Nat) (ch : Nat) (wh : Nat) (y1 : Nat → Int32) (y2 : Nat → Int64) (y3 : Nat → Int64) (y4 : Nat → Int64) (yf : Nat → Int32) (yt : Nat → Int32) (sa : Nat → Nat) (ft : Nat → Int32) (fa : Nat → Int32) (fo : Nat → Int32) (d : Nat) (wk : Nat) (b : Nat) (w : Nat) (L : LkS) (fg : Nat → Int64) (sa0 : Nat → Nat) (fg0 : Nat → Int64) (hsa : ∀ j, sa j ≤ 9) (hch : ch ≤ 1600) (hwh : wh ≤ 1) (hd : d < 9) (hLk : kcLk L) (hcd : cdK (lK (lkF L)) ch wh y1) (hsg : ∀ v, v < 3 → sgO (lG (lkF L) v) (yf v) (yt v)) (hdy3 : kcDy y3 wk b w d) (hfw2 : kfw L wk b w d 10 sa0 sa fg0 fg) : skM l yX9_fillDeeds cX9_fillDeeds 9 none 3 75 0 0 D (skT cI cJ cC cZ cS) [.ref (q 10), .ref (q 5), .int (nI d)] [ro_rrrrrr (q 10) 9 (q 61) (q 62) (q 63) (q 64) (q 65) (q 66), ra_N (q 61) cI 90 sa, ra_I (q 62) cI 900 ft, ra_I (q 63) cI 90 fa, ra_I (q 64) cI 90 fo, ro_rrrrrnniin (q 5) 2 (q 44) (q 45) (q 46) (q 47) (q 48) dh mh uh rh nh, ro_rrrrnn (q 44) 0 (q 49) (q 50) (q 51) (q 52) ch wh, ra_I (q 49) cI 1600 y1, ra_J (q 50) cJ 64 y2, ra_J (q 51) cJ 9 y3, ra_J (q 52) cJ 10 y4, ra_I (q 47) cI 3 yf, ra_I (q 48) cI 3 yt] (skV D (skT cI cJ cC cZ cS) (fun (u : va_W) => ∃ (ft2 : Nat → Int32), ∃ (fa2 : Nat → Int32), ∃ (fo2 : Nat → Int32), ∃ (z2 : Nat → Int64), ∃ (z3 : Nat → Int64), kfd L wk b w d 10 ft ft2 fa fa2 fo fo2 ∧ u = [ro_rrrrrr (q 10) 9 (q 61) (q 62) (q 63) (q 64) (q 65) (q 66), ra_N (q 61) cI 90 sa, ra_I (q 62) cI 900 ft2, ra_I (q 63) cI 90 fa2, ra_I (q 64) cI 90 fo2, ro_rrrrrnniin (q 5) 2 (q 44) (q 45) (q 46) (q 47) (q 48) dh mh uh rh nh, ro_rrrrnn (q 44) 0 (q 49) (q 50) (q 51) (q 52) ch wh, ra_I (q 49) cI 1600 y1, ra_J (q 50) cJ 64 z2, ra_J (q 51) cJ 9 z3, ra_J (q 52) cJ 10 y4, ra_I (q 47) cI 3 yf, ra_I (q 48) cI 3 yt])) := by
  refine skM_of pf_X9_fillDeeds (Nat.le_of_ble_eq_true rfl) ?_
  intro p e s m below meth c A ls E hP hD hl
  refine skE_el E (fun hx hb hr hml hlocks hin hown hts hK hA => ?_)
  have hown : s.vm.findClass RX9 = some m.cls := hown
  have hS : va_S A s.heap s.heap [] := va_S.rf
  have hl : lv_has ls 9 [(0, .ref (q 10)), (1, .ref (q 5)), (2, .int (nI d))] := hl
  refine lv_aload_n hx hb dX9_fillDeeds_0 rfl (lv_at hl 1 rfl) ?_
  refine sk_get (v := .ref (q 44)) (C := RX2) (T := TX2) (N := 10) hx hb hts inlX2 hown hK hP 5 rfl rfl 0 (Nat.le_of_ble_eq_true rfl) w_1_176 rfl dX9_fillDeeds_1 ?_
  refine lv_astore_n (lv' := [(3, .ref (q 44)), (0, .ref (q 10)), (1, .ref (q 5)), (2, .int (nI d))]) hx hb dX9_fillDeeds_4 rfl hl (by decide) rfl (fun ls hl => ?_)
  obtain ⟨p1, hp1⟩ := untN_some (L := L) 3 1 (by decide)
  have hbp1 := kx_bk hLk hp1
  have hsp1 := kx_sg (hsg 1 (by decide)) hp1
  have hlp1 := hsp1.2.2
  refine lv_aload_n hx hb dX9_fillDeeds_5 rfl (lv_at hl 2 rfl) ?_
  refine sk_get (v := .ref (q 47)) (C := RX2) (T := TX2) (N := 10) hx hb hts inlX2 hown hK hP 5 rfl rfl 3 (Nat.le_of_ble_eq_true rfl) w_1_185 rfl dX9_fillDeeds_6 ?_
  refine lv_iconst (v := 1) hx hb dX9_fillDeeds_9 ic_1 ?_
  refine va_iald hx hb hK.1 hP 11 0 rfl rfl (by unfold vp_in; decide) dX9_fillDeeds_10 ?_
  refine sk_top (nI p1.1) (hsp1.1) ?_
  refine lv_istore (lv' := [(4, .int (nI p1.1)), (3, .ref (q 44)), (0, .ref (q 10)), (1, .ref (q 5)), (2, .int (nI d))]) hx hb dX9_fillDeeds_11 hl (by decide) rfl (fun ls hl => ?_)
  refine lv_aload_n hx hb dX9_fillDeeds_13 rfl (lv_at hl 3 rfl) ?_
  refine sk_get (v := .ref (q 48)) (C := RX2) (T := TX2) (N := 10) hx hb hts inlX2 hown hK hP 5 rfl rfl 4 (Nat.le_of_ble_eq_true rfl) w_1_187 rfl dX9_fillDeeds_14 ?_
  refine lv_iconst (v := 1) hx hb dX9_fillDeeds_17 ic_1 ?_
  refine va_iald hx hb hK.1 hP 12 0 rfl rfl (by unfold vp_in; decide) dX9_fillDeeds_18 ?_
  refine sk_top (nI p1.2) (hsp1.2.1) ?_
  refine lv_istore (lv' := [(5, .int (nI p1.2)), (4, .int (nI p1.1)), (3, .ref (q 44)), (0, .ref (q 10)), (1, .ref (q 5)), (2, .int (nI d))]) hx hb dX9_fillDeeds_19 hl (by decide) rfl (fun ls hl => ?_)
  refine lv_iconst (v := 0) hx hb dX9_fillDeeds_21 ic_0 ?_
  refine lv_istore (lv' := [(6, .int 0), (5, .int (nI p1.2)), (4, .int (nI p1.1)), (3, .ref (q 44)), (0, .ref (q 10)), (1, .ref (q 5)), (2, .int (nI d))]) hx hb dX9_fillDeeds_22 hl (by decide) rfl (fun ls hl => ?_)
  have lp_1 : ∀ (n_2 : Nat) (i : Nat) (gt : Nat → Int32) (ga : Nat → Int32) (go : Nat → Int32) (u2 : Nat → Int64) (u3 : Nat → Int64) (H : Heap) (locs : List Loc) (ls : Array Slot), 10 - i < n_2 → (i ≤ 10) → (kfd L wk b w d i ft gt fa ga fo go) → (kcDy u3 wk b w d) → va_P D vwCl [ro_rrrrrr (q 10) 9 (q 61) (q 62) (q 63) (q 64) (q 65) (q 66), ra_N (q 61) cI 90 sa, ra_I (q 62) cI 900 gt, ra_I (q 63) cI 90 ga, ra_I (q 64) cI 90 go, ro_rrrrrnniin (q 5) 2 (q 44) (q 45) (q 46) (q 47) (q 48) dh mh uh rh nh, ro_rrrrnn (q 44) 0 (q 49) (q 50) (q 51) (q 52) ch wh, ra_I (q 49) cI 1600 y1, ra_J (q 50) cJ 64 u2, ra_J (q 51) cJ 9 u3, ra_J (q 52) cJ 10 y4, ra_I (q 47) cI 3 yf, ra_I (q 48) cI 3 yt] H → va_D A [ro_rrrrrr (q 10) 9 (q 61) (q 62) (q 63) (q 64) (q 65) (q 66), ra_N (q 61) cI 90 sa, ra_I (q 62) cI 900 gt, ra_I (q 63) cI 90 ga, ra_I (q 64) cI 90 go, ro_rrrrrnniin (q 5) 2 (q 44) (q 45) (q 46) (q 47) (q 48) dh mh uh rh nh, ro_rrrrnn (q 44) 0 (q 49) (q 50) (q 51) (q 52) ch wh, ra_I (q 49) cI 1600 y1, ra_J (q 50) cJ 64 u2, ra_J (q 51) cJ 9 u3, ra_J (q 52) cJ 10 y4, ra_I (q 47) cI 3 yf, ra_I (q 48) cI 3 yt] → va_S A s.heap H locs → lv_has ls 9 [(6, .int (nI i)), (5, .int (nI p1.2)), (4, .int (nI p1.1)), (3, .ref (q 44)), (0, .ref (q 10)), (1, .ref (q 5)), (2, .int (nI d))] → W p l e { frames := 3, cells := 0, slots := 0, locals := 75 } s m ([.ref (q 10), .ref (q 5), .int (nI d)] : List Value).toArray below meth c H locs 0 0 (MQ below (skV D (skT cI cJ cC cZ cS) (fun (u : va_W) => ∃ (ft2 : Nat → Int32), ∃ (fa2 : Nat → Int32), ∃ (fo2 : Nat → Int32), ∃ (z2 : Nat → Int64), ∃ (z3 : Nat → Int64), kfd L wk b w d 10 ft ft2 fa fa2 fo fo2 ∧ u = [ro_rrrrrr (q 10) 9 (q 61) (q 62) (q 63) (q 64) (q 65) (q 66), ra_N (q 61) cI 90 sa, ra_I (q 62) cI 900 ft2, ra_I (q 63) cI 90 fa2, ra_I (q 64) cI 90 fo2, ro_rrrrrnniin (q 5) 2 (q 44) (q 45) (q 46) (q 47) (q 48) dh mh uh rh nh, ro_rrrrnn (q 44) 0 (q 49) (q 50) (q 51) (q 52) ch wh, ra_I (q 49) cI 1600 y1, ra_J (q 50) cJ 64 z2, ra_J (q 51) cJ 9 z3, ra_J (q 52) cJ 10 y4, ra_I (q 47) cI 3 yf, ra_I (q 48) cI 3 yt]) A) ([.ref (q 10), .ref (q 5), .int (nI d)] : List Value).toArray s 0 0 A) (F0 m 24 ls []) := by
    intro n_2
    induction n_2 with
    | zero => intro i gt ga go u2 u3 H locs ls hm; exact absurd hm (Nat.not_lt_zero _)
    | succ n_2 ih_lp_1 =>
      intro i gt ga go u2 u3 H locs ls hm hi hfi hdi hP hD hS hl
      refine lv_iload hx hb dX9_fillDeeds_24 (lv_at hl 0 rfl) ?_
      refine lv_bipush (v := 10) hx hb dX9_fillDeeds_26 (by decide) ?_
      refine lv_icmp_ge (tgt := 167) hx hb dX9_fillDeeds_28 (by decide) (fun c_3 => ?_) (fun c_3 => ?_)
      · have c_3 : 10 ≤ i := (nle 10 i (Nat.le_of_ble_eq_true rfl) (by omega)).mp c_3
        exact sk_vret hx hb hr hlocks hK hP hD hS (⟨gt, ga, go, u2, u3, (show kfd L wk b w d 10 ft gt fa ga fo go by rw [show 10 = i by omega]; exact hfi), rfl⟩) (Nat.le_of_ble_eq_true rfl) (Nat.le_of_ble_eq_true rfl) dX9_fillDeeds_167
      · have c_3 : ¬ (10 ≤ i) := fun h => c_3 ((nle 10 i (Nat.le_of_ble_eq_true rfl) (by omega)).mpr h)
        refine lv_iload_n hx hb dX9_fillDeeds_31 rfl (lv_at hl 6 rfl) ?_
        refine lv_bipush (v := 10) hx hb dX9_fillDeeds_32 (by decide) ?_
        refine lv_imul hx hb dX9_fillDeeds_34 ?_
        refine sk_top (nI (d * 10)) (nmul d 10) ?_
        refine lv_iload hx hb dX9_fillDeeds_35 (lv_at hl 0 rfl) ?_
        refine lv_iadd hx hb dX9_fillDeeds_37 ?_
        refine sk_top (nI (d * 10 + i)) (nI_add (d * 10) i) ?_
        refine lv_istore (lv' := [(7, .int (nI (d * 10 + i))), (6, .int (nI i)), (5, .int (nI p1.2)), (4, .int (nI p1.1)), (3, .ref (q 44)), (0, .ref (q 10)), (1, .ref (q 5)), (2, .int (nI d))]) hx hb dX9_fillDeeds_38 hl (by decide) rfl (fun ls hl => ?_)
        refine lv_aload_n hx hb dX9_fillDeeds_40 rfl (lv_at hl 4 rfl) ?_
        refine lv_sipush (v := 10000) hx hb dX9_fillDeeds_41 (by decide) ?_
        refine lv_iload hx hb dX9_fillDeeds_44 (lv_at hl 1 rfl) ?_
        refine lv_i2l hx hb dX9_fillDeeds_46 rfl ?_
        refine sk_Vv (q0 := 0) (n := 2) (rest := []) (wr := fmR om_13_48 _) ⟨hx, hb, hml, hown, hts⟩ hl.1 (c_kCode_name l D cI cJ cC cZ cS (q 44) (q 49) (q 50) (q 51) (q 52) ch wh u3 10000 0 (Int32.toInt64 (nI i)) (by decide) (by decide)) w_3_212 w_3_213 w_3_214 w_1_8 w_3_215 hd_X0_name_2 ⟨⟨(Nat.le_of_ble_eq_true rfl), (Nat.le_of_ble_eq_true rfl)⟩, (Nat.le_of_ble_eq_true rfl), (Nat.le_of_ble_eq_true rfl)⟩ hK hP hD hS hA (fmT om_13_48 0) (fmF om_13_48 0) (fm_C1 rfl rfl) (fm_R rfl rfl) (fm_nT om_13_48 0) (fm_nF om_13_48 0) (fm_di om_13_48 0) rfl rfl rfl rfl (Nat.le_of_ble_eq_true rfl) dX9_fillDeeds_47 (fun u H locs hw hP hD hS => ?_)
        refine exE hw (fun g3_4 hw1 => anE hw1 (fun hg3_5 eu_6 => ?_))
        clear hw hw1
        refine o_mgE (ws' := [ro_rrrrrr (q 10) 9 (q 61) (q 62) (q 63) (q 64) (q 65) (q 66), ra_N (q 61) cI 90 sa, ra_I (q 62) cI 900 gt, ra_I (q 63) cI 90 ga, ra_I (q 64) cI 90 go, ro_rrrrrnniin (q 5) 2 (q 44) (q 45) (q 46) (q 47) (q 48) dh mh uh rh nh, ro_rrrrnn (q 44) 0 (q 49) (q 50) (q 51) (q 52) ch wh, ra_I (q 49) cI 1600 y1, ra_J (q 50) cJ 64 u2, ra_J (q 51) cJ 9 g3_4, ra_J (q 52) cJ 10 y4, ra_I (q 47) cI 3 yf, ra_I (q 48) cI 3 yt]) eu_6 hP hD rfl (fun hP hD => ?_)
        have hd_7 := kdy_up hdi hg3_5 (by decide)
        have hn_8 := (kup_s hg3_5).trans (kx_i2l (by omega))
        refine lv_aload_n hx hb dX9_fillDeeds_50 rfl (lv_at hl 4 rfl) ?_
        refine lv_sipush (v := 10006) hx hb dX9_fillDeeds_51 (by decide) ?_
        refine lv_lconst (v := 1) hx hb dX9_fillDeeds_54 (by decide) ?_
        refine sk_Vv (q0 := 0) (n := 2) (rest := []) (wr := fmR om_13_48 _) ⟨hx, hb, hml, hown, hts⟩ hl.1 (c_kCode_name l D cI cJ cC cZ cS (q 44) (q 49) (q 50) (q 51) (q 52) ch wh g3_4 10006 6 1 (by decide) (by decide)) w_3_212 w_3_213 w_3_214 w_1_8 w_3_215 hd_X0_name_2 ⟨⟨(Nat.le_of_ble_eq_true rfl), (Nat.le_of_ble_eq_true rfl)⟩, (Nat.le_of_ble_eq_true rfl), (Nat.le_of_ble_eq_true rfl)⟩ hK hP hD hS hA (fmT om_13_48 0) (fmF om_13_48 0) (fm_C1 rfl rfl) (fm_R rfl rfl) (fm_nT om_13_48 0) (fm_nF om_13_48 0) (fm_di om_13_48 0) rfl rfl rfl rfl (Nat.le_of_ble_eq_true rfl) dX9_fillDeeds_55 (fun u H locs hw hP hD hS => ?_)
        refine exE hw (fun g3_9 hw1 => anE hw1 (fun hg3_10 eu_11 => ?_))
        clear hw hw1
        refine o_mgE (ws' := [ro_rrrrrr (q 10) 9 (q 61) (q 62) (q 63) (q 64) (q 65) (q 66), ra_N (q 61) cI 90 sa, ra_I (q 62) cI 900 gt, ra_I (q 63) cI 90 ga, ra_I (q 64) cI 90 go, ro_rrrrrnniin (q 5) 2 (q 44) (q 45) (q 46) (q 47) (q 48) dh mh uh rh nh, ro_rrrrnn (q 44) 0 (q 49) (q 50) (q 51) (q 52) ch wh, ra_I (q 49) cI 1600 y1, ra_J (q 50) cJ 64 u2, ra_J (q 51) cJ 9 g3_9, ra_J (q 52) cJ 10 y4, ra_I (q 47) cI 3 yf, ra_I (q 48) cI 3 yt]) eu_11 hP hD rfl (fun hP hD => ?_)
        have hd_12 := kdy_up hd_7 hg3_10 (by decide)
        have hn_13 := (kup_n hg3_10 (by decide)).trans hn_8
        have hn_14 := kup_s hg3_10
        refine lv_aload_n hx hb dX9_fillDeeds_58 rfl (lv_at hl 4 rfl) ?_
        refine lv_sipush (v := 10005) hx hb dX9_fillDeeds_59 (by decide) ?_
        refine lv_lconst (v := 0) hx hb dX9_fillDeeds_62 (by decide) ?_
        refine sk_Vv (q0 := 0) (n := 2) (rest := []) (wr := fmR om_13_48 _) ⟨hx, hb, hml, hown, hts⟩ hl.1 (c_kCode_name l D cI cJ cC cZ cS (q 44) (q 49) (q 50) (q 51) (q 52) ch wh g3_9 10005 5 0 (by decide) (by decide)) w_3_212 w_3_213 w_3_214 w_1_8 w_3_215 hd_X0_name_2 ⟨⟨(Nat.le_of_ble_eq_true rfl), (Nat.le_of_ble_eq_true rfl)⟩, (Nat.le_of_ble_eq_true rfl), (Nat.le_of_ble_eq_true rfl)⟩ hK hP hD hS hA (fmT om_13_48 0) (fmF om_13_48 0) (fm_C1 rfl rfl) (fm_R rfl rfl) (fm_nT om_13_48 0) (fm_nF om_13_48 0) (fm_di om_13_48 0) rfl rfl rfl rfl (Nat.le_of_ble_eq_true rfl) dX9_fillDeeds_63 (fun u H locs hw hP hD hS => ?_)
        refine exE hw (fun g3_15 hw1 => anE hw1 (fun hg3_16 eu_17 => ?_))
        clear hw hw1
        refine o_mgE (ws' := [ro_rrrrrr (q 10) 9 (q 61) (q 62) (q 63) (q 64) (q 65) (q 66), ra_N (q 61) cI 90 sa, ra_I (q 62) cI 900 gt, ra_I (q 63) cI 90 ga, ra_I (q 64) cI 90 go, ro_rrrrrnniin (q 5) 2 (q 44) (q 45) (q 46) (q 47) (q 48) dh mh uh rh nh, ro_rrrrnn (q 44) 0 (q 49) (q 50) (q 51) (q 52) ch wh, ra_I (q 49) cI 1600 y1, ra_J (q 50) cJ 64 u2, ra_J (q 51) cJ 9 g3_15, ra_J (q 52) cJ 10 y4, ra_I (q 47) cI 3 yf, ra_I (q 48) cI 3 yt]) eu_17 hP hD rfl (fun hP hD => ?_)
        have hd_18 := kdy_up hd_12 hg3_16 (by decide)
        have hn_19 := (kup_n hg3_16 (by decide)).trans hn_13
        have hn_20 := (kup_n hg3_16 (by decide)).trans hn_14
        have hn_21 := kup_s hg3_16
        refine lv_aload_n hx hb dX9_fillDeeds_66 rfl (lv_at hl 5 rfl) ?_
        refine sk_get (v := .ref (q 63)) (C := RX9) (T := TX9) (N := 6) hx hb hts inlX9 hown hK hP 0 rfl rfl 2 (Nat.le_of_ble_eq_true rfl) w_2_67 rfl dX9_fillDeeds_67 ?_
        refine lv_iload hx hb dX9_fillDeeds_70 (lv_at hl 0 rfl) ?_
        refine lv_aload_n hx hb dX9_fillDeeds_72 rfl (lv_at hl 4 rfl) ?_
        refine lv_iload hx hb dX9_fillDeeds_73 (lv_at hl 3 rfl) ?_
        refine lv_iload hx hb dX9_fillDeeds_75 (lv_at hl 2 rfl) ?_
        refine sk_Vl (q0 := 0) (n := 2) (rest := [.int (nI (d * 10 + i)), .ref (q 63)]) (wr := fmR om_13_7c _) ⟨hx, hb, hml, hown, hts⟩ hl.1 (c_kCode_run l D cI cJ cC cZ cS (q 44) (q 49) (q 50) (q 51) (q 52) ch wh y1 u2 g3_15 y4 p1.1 p1.2 (lK (lkF L)) g3_15 (kcV L 1 g3_15) 1 hch hwh hcd.1 hcd (Nat.le_of_lt hbp1.1) hbp1.2 (by omega) (kx_ns hLk rfl hp1) (fun _ _ => rfl) (kx_ex hLk (by decide) hp1 _)) w_3_220 w_3_221 w_3_222 w_1_8 w_3_223 hd_X0_run_2 ⟨⟨(Nat.le_of_ble_eq_true rfl), (Nat.le_of_ble_eq_true rfl)⟩, (Nat.le_of_ble_eq_true rfl), (Nat.le_of_ble_eq_true rfl)⟩ hK hP hD hS hA (fmT om_13_7c 0) (fmF om_13_7c 0) (fm_C1 rfl rfl) (fm_R rfl rfl) (fm_nT om_13_7c 0) (fm_nF om_13_7c 0) (fm_di om_13_7c 0) rfl rfl rfl rfl (Nat.le_of_ble_eq_true rfl) dX9_fillDeeds_77 (fun r_23 u H locs hw hP hD hS => ?_)
        refine exE hw (fun g2_22 hw1 => anE hw1 (fun er_25 eu_24 => ?_))
        clear hw hw1
        subst er_25
        refine o_mgE (ws' := [ro_rrrrrr (q 10) 9 (q 61) (q 62) (q 63) (q 64) (q 65) (q 66), ra_N (q 61) cI 90 sa, ra_I (q 62) cI 900 gt, ra_I (q 63) cI 90 ga, ra_I (q 64) cI 90 go, ro_rrrrrnniin (q 5) 2 (q 44) (q 45) (q 46) (q 47) (q 48) dh mh uh rh nh, ro_rrrrnn (q 44) 0 (q 49) (q 50) (q 51) (q 52) ch wh, ra_I (q 49) cI 1600 y1, ra_J (q 50) cJ 64 g2_22, ra_J (q 51) cJ 9 g3_15, ra_J (q 52) cJ 10 y4, ra_I (q 47) cI 3 yf, ra_I (q 48) cI 3 yt]) eu_24 hP hD rfl (fun hP hD => ?_)
        refine lv_bipush (v := 10) hx hb dX9_fillDeeds_80 (by decide) ?_
        refine sk_Si (n := 2) (rest := [.int (nI (d * 10 + i)), .ref (q 63)]) (wr := [ro_rrrrrr (q 10) 9 (q 61) (q 62) (q 63) (q 64) (q 65) (q 66), ra_N (q 61) cI 90 sa, ra_I (q 62) cI 900 gt, ra_I (q 63) cI 90 ga, ra_I (q 64) cI 90 go, ro_rrrrrnniin (q 5) 2 (q 44) (q 45) (q 46) (q 47) (q 48) dh mh uh rh nh, ro_rrrrnn (q 44) 0 (q 49) (q 50) (q 51) (q 52) ch wh, ra_I (q 49) cI 1600 y1, ra_J (q 50) cJ 64 g2_22, ra_J (q 51) cJ 9 g3_15, ra_J (q 52) cJ 10 y4, ra_I (q 47) cI 3 yf, ra_I (q 48) cI 3 yt]) ⟨hx, hb, hml, hown, hts⟩ hl.1 (c_kfloorMod l D cI cJ cC cZ cS (kcV L 1 g3_15)) w_4_7 w_4_8 w_1_3 w_4_9 hd_J9_floorMod_1978a_2 ⟨⟨(Nat.le_of_ble_eq_true rfl), (Nat.le_of_ble_eq_true rfl)⟩, (Nat.le_of_ble_eq_true rfl), (Nat.le_of_ble_eq_true rfl)⟩ hK hP hD hS hA [] [0, 1, 2, 3, 4, 5, 6, 7, 8, 9, 10, 11, 12] rfl rfl (by decide +kernel) (by decide +kernel) (by decide +kernel) rfl rfl (Nat.le_of_ble_eq_true rfl) dX9_fillDeeds_82 (fun r_26 u H locs hw hP hD hS => ?_)
        obtain ⟨rfl, rfl⟩ := hw
        refine o_re (ws' := [ro_rrrrrr (q 10) 9 (q 61) (q 62) (q 63) (q 64) (q 65) (q 66), ra_N (q 61) cI 90 sa, ra_I (q 62) cI 900 gt, ra_I (q 63) cI 90 ga, ra_I (q 64) cI 90 go, ro_rrrrrnniin (q 5) 2 (q 44) (q 45) (q 46) (q 47) (q 48) dh mh uh rh nh, ro_rrrrnn (q 44) 0 (q 49) (q 50) (q 51) (q 52) ch wh, ra_I (q 49) cI 1600 y1, ra_J (q 50) cJ 64 g2_22, ra_J (q 51) cJ 9 g3_15, ra_J (q 52) cJ 10 y4, ra_I (q 47) cI 3 yf, ra_I (q 48) cI 3 yt]) hP hD rfl (fun hP hD => ?_)
        have hk_27 := kcTen_lt (kcV L 1 g3_15)
        refine sk_iastE (k := (d * 10 + i)) (ws' := fun f_28 => [ro_rrrrrr (q 10) 9 (q 61) (q 62) (q 63) (q 64) (q 65) (q 66), ra_N (q 61) cI 90 sa, ra_I (q 62) cI 900 gt, ra_I (q 63) cI 90 f_28, ra_I (q 64) cI 90 go, ro_rrrrrnniin (q 5) 2 (q 44) (q 45) (q 46) (q 47) (q 48) dh mh uh rh nh, ro_rrrrnn (q 44) 0 (q 49) (q 50) (q 51) (q 52) ch wh, ra_I (q 49) cI 1600 y1, ra_J (q 50) cJ 64 g2_22, ra_J (q 51) cJ 9 g3_15, ra_J (q 52) cJ 10 y4, ra_I (q 47) cI 3 yf, ra_I (q 48) cI 3 yt]) hx hb hK hP hD hS 3 0 rfl rfl (by omega) (by omega) (fun _ => rfl) dX9_fillDeeds_85 (fun f_28 H locs ef_29 hP hD hS => ?_)
        refine lv_aload_n hx hb dX9_fillDeeds_86 rfl (lv_at hl 4 rfl) ?_
        refine lv_sipush (v := 10006) hx hb dX9_fillDeeds_87 (by decide) ?_
        refine lv_lconst (v := 0) hx hb dX9_fillDeeds_90 (by decide) ?_
        refine sk_Vv (q0 := 0) (n := 2) (rest := []) (wr := fmR om_13_48 _) ⟨hx, hb, hml, hown, hts⟩ hl.1 (c_kCode_name l D cI cJ cC cZ cS (q 44) (q 49) (q 50) (q 51) (q 52) ch wh g3_15 10006 6 0 (by decide) (by decide)) w_3_212 w_3_213 w_3_214 w_1_8 w_3_215 hd_X0_name_2 ⟨⟨(Nat.le_of_ble_eq_true rfl), (Nat.le_of_ble_eq_true rfl)⟩, (Nat.le_of_ble_eq_true rfl), (Nat.le_of_ble_eq_true rfl)⟩ hK hP hD hS hA (fmT om_13_48 0) (fmF om_13_48 0) (fm_C1 rfl rfl) (fm_R rfl rfl) (fm_nT om_13_48 0) (fm_nF om_13_48 0) (fm_di om_13_48 0) rfl rfl rfl rfl (Nat.le_of_ble_eq_true rfl) dX9_fillDeeds_91 (fun u H locs hw hP hD hS => ?_)
        refine exE hw (fun g3_30 hw1 => anE hw1 (fun hg3_31 eu_32 => ?_))
        clear hw hw1
        refine o_mgE (ws' := [ro_rrrrrr (q 10) 9 (q 61) (q 62) (q 63) (q 64) (q 65) (q 66), ra_N (q 61) cI 90 sa, ra_I (q 62) cI 900 gt, ra_I (q 63) cI 90 f_28, ra_I (q 64) cI 90 go, ro_rrrrrnniin (q 5) 2 (q 44) (q 45) (q 46) (q 47) (q 48) dh mh uh rh nh, ro_rrrrnn (q 44) 0 (q 49) (q 50) (q 51) (q 52) ch wh, ra_I (q 49) cI 1600 y1, ra_J (q 50) cJ 64 g2_22, ra_J (q 51) cJ 9 g3_30, ra_J (q 52) cJ 10 y4, ra_I (q 47) cI 3 yf, ra_I (q 48) cI 3 yt]) eu_32 hP hD rfl (fun hP hD => ?_)
        have hd_33 := kdy_up hd_18 hg3_31 (by decide)
        have hn_34 := (kup_n hg3_31 (by decide)).trans hn_19
        have hn_35 := (kup_n hg3_31 (by decide)).trans hn_21
        have hn_36 := kup_s hg3_31
        refine lv_iconst (v := 0) hx hb dX9_fillDeeds_94 ic_0 ?_
        refine lv_istore (lv' := [(8, .int 0), (7, .int (nI (d * 10 + i))), (6, .int (nI i)), (5, .int (nI p1.2)), (4, .int (nI p1.1)), (3, .ref (q 44)), (0, .ref (q 10)), (1, .ref (q 5)), (2, .int (nI d))]) hx hb dX9_fillDeeds_95 hl (by decide) rfl (fun ls hl => ?_)
        have lp_37 : ∀ (n_38 : Nat) (jj : Nat) (gt2 : Nat → Int32) (v2 : Nat → Int64) (v3 : Nat → Int64) (H : Heap) (locs : List Loc) (ls : Array Slot), 10 - jj < n_38 → (jj ≤ 10) → (kft L wk b w d i jj gt gt2) → (kcDy v3 wk b w d) → (v3 0 = Int64.ofNat i) → (v3 6 = Int64.ofNat 0) → va_P D vwCl [ro_rrrrrr (q 10) 9 (q 61) (q 62) (q 63) (q 64) (q 65) (q 66), ra_N (q 61) cI 90 sa, ra_I (q 62) cI 900 gt2, ra_I (q 63) cI 90 f_28, ra_I (q 64) cI 90 go, ro_rrrrrnniin (q 5) 2 (q 44) (q 45) (q 46) (q 47) (q 48) dh mh uh rh nh, ro_rrrrnn (q 44) 0 (q 49) (q 50) (q 51) (q 52) ch wh, ra_I (q 49) cI 1600 y1, ra_J (q 50) cJ 64 v2, ra_J (q 51) cJ 9 v3, ra_J (q 52) cJ 10 y4, ra_I (q 47) cI 3 yf, ra_I (q 48) cI 3 yt] H → va_D A [ro_rrrrrr (q 10) 9 (q 61) (q 62) (q 63) (q 64) (q 65) (q 66), ra_N (q 61) cI 90 sa, ra_I (q 62) cI 900 gt2, ra_I (q 63) cI 90 f_28, ra_I (q 64) cI 90 go, ro_rrrrrnniin (q 5) 2 (q 44) (q 45) (q 46) (q 47) (q 48) dh mh uh rh nh, ro_rrrrnn (q 44) 0 (q 49) (q 50) (q 51) (q 52) ch wh, ra_I (q 49) cI 1600 y1, ra_J (q 50) cJ 64 v2, ra_J (q 51) cJ 9 v3, ra_J (q 52) cJ 10 y4, ra_I (q 47) cI 3 yf, ra_I (q 48) cI 3 yt] → va_S A s.heap H locs → lv_has ls 9 [(8, .int (nI jj)), (7, .int (nI (d * 10 + i))), (6, .int (nI i)), (5, .int (nI p1.2)), (4, .int (nI p1.1)), (3, .ref (q 44)), (0, .ref (q 10)), (1, .ref (q 5)), (2, .int (nI d))] → W p l e { frames := 3, cells := 0, slots := 0, locals := 75 } s m ([.ref (q 10), .ref (q 5), .int (nI d)] : List Value).toArray below meth c H locs 0 0 (MQ below (skV D (skT cI cJ cC cZ cS) (fun (u : va_W) => ∃ (ft2 : Nat → Int32), ∃ (fa2 : Nat → Int32), ∃ (fo2 : Nat → Int32), ∃ (z2 : Nat → Int64), ∃ (z3 : Nat → Int64), kfd L wk b w d 10 ft ft2 fa fa2 fo fo2 ∧ u = [ro_rrrrrr (q 10) 9 (q 61) (q 62) (q 63) (q 64) (q 65) (q 66), ra_N (q 61) cI 90 sa, ra_I (q 62) cI 900 ft2, ra_I (q 63) cI 90 fa2, ra_I (q 64) cI 90 fo2, ro_rrrrrnniin (q 5) 2 (q 44) (q 45) (q 46) (q 47) (q 48) dh mh uh rh nh, ro_rrrrnn (q 44) 0 (q 49) (q 50) (q 51) (q 52) ch wh, ra_I (q 49) cI 1600 y1, ra_J (q 50) cJ 64 z2, ra_J (q 51) cJ 9 z3, ra_J (q 52) cJ 10 y4, ra_I (q 47) cI 3 yf, ra_I (q 48) cI 3 yt]) A) ([.ref (q 10), .ref (q 5), .int (nI d)] : List Value).toArray s 0 0 A) (F0 m 97 ls []) := by
          intro n_38
          induction n_38 with
          | zero => intro jj gt2 v2 v3 H locs ls hm; exact absurd hm (Nat.not_lt_zero _)
          | succ n_38 ih_lp_37 =>
            intro jj gt2 v2 v3 H locs ls hm hjj hfj hdj hj0 hj6 hP hD hS hl
            refine lv_iload hx hb dX9_fillDeeds_97 (lv_at hl 0 rfl) ?_
            refine lv_bipush (v := 10) hx hb dX9_fillDeeds_99 (by decide) ?_
            refine lv_icmp_ge (tgt := 146) hx hb dX9_fillDeeds_101 (by decide) (fun c_39 => ?_) (fun c_39 => ?_)
            · have c_39 : 10 ≤ jj := (nle 10 jj (Nat.le_of_ble_eq_true rfl) (by omega)).mp c_39
              refine lv_aload_n hx hb dX9_fillDeeds_146 rfl (lv_at hl 6 rfl) ?_
              refine sk_get (v := .ref (q 64)) (C := RX9) (T := TX9) (N := 6) hx hb hts inlX9 hown hK hP 0 rfl rfl 3 (Nat.le_of_ble_eq_true rfl) w_2_70 rfl dX9_fillDeeds_147 ?_
              refine lv_iload hx hb dX9_fillDeeds_150 (lv_at hl 1 rfl) ?_
              refine lv_aload_n hx hb dX9_fillDeeds_152 rfl (lv_at hl 6 rfl) ?_
              refine lv_iload_n hx hb dX9_fillDeeds_153 rfl (lv_at hl 8 rfl) ?_
              refine lv_iload hx hb dX9_fillDeeds_154 (lv_at hl 2 rfl) ?_
              refine lv_iconst (v := 0) hx hb dX9_fillDeeds_156 ic_0 ?_
              refine sk_Vi (q0 := 0) (n := 3) (rest := [.int (nI (d * 10 + i)), .ref (q 64)]) (wr := fmR om_13_1c00 _) ⟨hx, hb, hml, hown, hts⟩ hl.1 (c_kmoodsBehind l D cI cJ cC cZ cS q sa gt2 d i 0 (kcSaid L wk b w d) (fun t => kcBec L wk b w d i t 0) hsa hd (by omega) (by omega) (fun m hm => (hfw2.1 m hm).1) (kft_10 (show kft L wk b w d i 10 gt gt2 by rw [show 10 = jj by omega]; exact hfj)).1 (fun t => kcTen_lt _)) w_4_17 w_4_18 w_4_19 w_1_12 w_4_20 hd_X9_moodsBehind_3 ⟨⟨(Nat.le_of_ble_eq_true rfl), (Nat.le_of_ble_eq_true rfl)⟩, (Nat.le_of_ble_eq_true rfl), (Nat.le_of_ble_eq_true rfl)⟩ hK hP hD hS hA (fmT om_13_1c00 0) (fmF om_13_1c00 0) (fm_C1 rfl rfl) (fm_R rfl rfl) (fm_nT om_13_1c00 0) (fm_nF om_13_1c00 0) (fm_di om_13_1c00 0) rfl rfl rfl rfl (Nat.le_of_ble_eq_true rfl) dX9_fillDeeds_157 (fun r_40 u H locs hw hP hD hS => ?_)
              refine anE hw (fun er_42 eu_41 => ?_)
              clear hw
              subst er_42
              refine o_mgE (ws' := [ro_rrrrrr (q 10) 9 (q 61) (q 62) (q 63) (q 64) (q 65) (q 66), ra_N (q 61) cI 90 sa, ra_I (q 62) cI 900 gt2, ra_I (q 63) cI 90 f_28, ra_I (q 64) cI 90 go, ro_rrrrrnniin (q 5) 2 (q 44) (q 45) (q 46) (q 47) (q 48) dh mh uh rh nh, ro_rrrrnn (q 44) 0 (q 49) (q 50) (q 51) (q 52) ch wh, ra_I (q 49) cI 1600 y1, ra_J (q 50) cJ 64 v2, ra_J (q 51) cJ 9 v3, ra_J (q 52) cJ 10 y4, ra_I (q 47) cI 3 yf, ra_I (q 48) cI 3 yt]) eu_41 hP hD rfl (fun hP hD => ?_)
              refine sk_iastE (k := (d * 10 + i)) (ws' := fun f_43 => [ro_rrrrrr (q 10) 9 (q 61) (q 62) (q 63) (q 64) (q 65) (q 66), ra_N (q 61) cI 90 sa, ra_I (q 62) cI 900 gt2, ra_I (q 63) cI 90 f_28, ra_I (q 64) cI 90 f_43, ro_rrrrrnniin (q 5) 2 (q 44) (q 45) (q 46) (q 47) (q 48) dh mh uh rh nh, ro_rrrrnn (q 44) 0 (q 49) (q 50) (q 51) (q 52) ch wh, ra_I (q 49) cI 1600 y1, ra_J (q 50) cJ 64 v2, ra_J (q 51) cJ 9 v3, ra_J (q 52) cJ 10 y4, ra_I (q 47) cI 3 yf, ra_I (q 48) cI 3 yt]) hx hb hK hP hD hS 4 0 rfl rfl (by omega) (by omega) (fun _ => rfl) dX9_fillDeeds_160 (fun f_43 H locs ef_44 hP hD hS => ?_)
              refine lv_iinc (v := nI (i + 1)) (lv' := [(6, .int (nI (i + 1))), (8, .int (nI jj)), (7, .int (nI (d * 10 + i))), (5, .int (nI p1.2)), (4, .int (nI p1.1)), (3, .ref (q 44)), (0, .ref (q 10)), (1, .ref (q 5)), (2, .int (nI d))]) hx hb dX9_fillDeeds_161 hl (k := 2) rfl (ninc i 1 (by decide)) (by decide) rfl (fun ls hl => ?_)
              refine lv_goto (tgt := 24) hx hb dX9_fillDeeds_164 (by decide) ?_
              exact ih_lp_1 (i + 1) gt2 f_28 f_43 v2 v3 _ _ _ (by omega) (by omega) (kfd_s hfi (show kft L wk b w d i 10 gt gt2 by rw [show 10 = jj by omega]; exact hfj) ef_29 ef_44 (by omega) (congrArg nI (kx_bec hLk hd_18 hn_19 hn_21 hn_20)) rfl) hdj hP hD hS (lv_sub hl [0, 3, 4, 5, 6, 7, 8] rfl)
            · have c_39 : ¬ (10 ≤ jj) := fun h => c_39 ((nle 10 jj (Nat.le_of_ble_eq_true rfl) (by omega)).mpr h)
              refine lv_aload_n hx hb dX9_fillDeeds_104 rfl (lv_at hl 5 rfl) ?_
              refine lv_sipush (v := 10005) hx hb dX9_fillDeeds_105 (by decide) ?_
              refine lv_iload hx hb dX9_fillDeeds_108 (lv_at hl 0 rfl) ?_
              refine lv_i2l hx hb dX9_fillDeeds_110 rfl ?_
              refine sk_Vv (q0 := 0) (n := 2) (rest := []) (wr := fmR om_13_48 _) ⟨hx, hb, hml, hown, hts⟩ hl.1 (c_kCode_name l D cI cJ cC cZ cS (q 44) (q 49) (q 50) (q 51) (q 52) ch wh v3 10005 5 (Int32.toInt64 (nI jj)) (by decide) (by decide)) w_3_212 w_3_213 w_3_214 w_1_8 w_3_215 hd_X0_name_2 ⟨⟨(Nat.le_of_ble_eq_true rfl), (Nat.le_of_ble_eq_true rfl)⟩, (Nat.le_of_ble_eq_true rfl), (Nat.le_of_ble_eq_true rfl)⟩ hK hP hD hS hA (fmT om_13_48 0) (fmF om_13_48 0) (fm_C1 rfl rfl) (fm_R rfl rfl) (fm_nT om_13_48 0) (fm_nF om_13_48 0) (fm_di om_13_48 0) rfl rfl rfl rfl (Nat.le_of_ble_eq_true rfl) dX9_fillDeeds_111 (fun u H locs hw hP hD hS => ?_)
              refine exE hw (fun g3_45 hw1 => anE hw1 (fun hg3_46 eu_47 => ?_))
              clear hw hw1
              refine o_mgE (ws' := [ro_rrrrrr (q 10) 9 (q 61) (q 62) (q 63) (q 64) (q 65) (q 66), ra_N (q 61) cI 90 sa, ra_I (q 62) cI 900 gt2, ra_I (q 63) cI 90 f_28, ra_I (q 64) cI 90 go, ro_rrrrrnniin (q 5) 2 (q 44) (q 45) (q 46) (q 47) (q 48) dh mh uh rh nh, ro_rrrrnn (q 44) 0 (q 49) (q 50) (q 51) (q 52) ch wh, ra_I (q 49) cI 1600 y1, ra_J (q 50) cJ 64 v2, ra_J (q 51) cJ 9 g3_45, ra_J (q 52) cJ 10 y4, ra_I (q 47) cI 3 yf, ra_I (q 48) cI 3 yt]) eu_47 hP hD rfl (fun hP hD => ?_)
              have hd_48 := kdy_up hdj hg3_46 (by decide)
              have hn_49 := (kup_n hg3_46 (by decide)).trans hj0
              have hn_50 := (kup_n hg3_46 (by decide)).trans hj6
              have hn_51 := (kup_s hg3_46).trans (kx_i2l (by omega))
              refine lv_aload_n hx hb dX9_fillDeeds_114 rfl (lv_at hl 6 rfl) ?_
              refine sk_get (v := .ref (q 62)) (C := RX9) (T := TX9) (N := 6) hx hb hts inlX9 hown hK hP 0 rfl rfl 1 (Nat.le_of_ble_eq_true rfl) w_2_65 rfl dX9_fillDeeds_115 ?_
              refine lv_iload hx hb dX9_fillDeeds_118 (lv_at hl 1 rfl) ?_
              refine lv_bipush (v := 10) hx hb dX9_fillDeeds_120 (by decide) ?_
              refine lv_imul hx hb dX9_fillDeeds_122 ?_
              refine sk_top (nI ((d * 10 + i) * 10)) (nmul (d * 10 + i) 10) ?_
              refine lv_iload hx hb dX9_fillDeeds_123 (lv_at hl 0 rfl) ?_
              refine lv_iadd hx hb dX9_fillDeeds_125 ?_
              refine sk_top (nI ((d * 10 + i) * 10 + jj)) (nI_add ((d * 10 + i) * 10) jj) ?_
              refine lv_aload_n hx hb dX9_fillDeeds_126 rfl (lv_at hl 5 rfl) ?_
              refine lv_iload hx hb dX9_fillDeeds_127 (lv_at hl 4 rfl) ?_
              refine lv_iload hx hb dX9_fillDeeds_129 (lv_at hl 3 rfl) ?_
              refine sk_Vl (q0 := 0) (n := 2) (rest := [.int (nI ((d * 10 + i) * 10 + jj)), .ref (q 62)]) (wr := fmR om_13_7c _) ⟨hx, hb, hml, hown, hts⟩ hl.1 (c_kCode_run l D cI cJ cC cZ cS (q 44) (q 49) (q 50) (q 51) (q 52) ch wh y1 v2 g3_45 y4 p1.1 p1.2 (lK (lkF L)) g3_45 (kcV L 1 g3_45) 1 hch hwh hcd.1 hcd (Nat.le_of_lt hbp1.1) hbp1.2 (by omega) (kx_ns hLk rfl hp1) (fun _ _ => rfl) (kx_ex hLk (by decide) hp1 _)) w_3_220 w_3_221 w_3_222 w_1_8 w_3_223 hd_X0_run_2 ⟨⟨(Nat.le_of_ble_eq_true rfl), (Nat.le_of_ble_eq_true rfl)⟩, (Nat.le_of_ble_eq_true rfl), (Nat.le_of_ble_eq_true rfl)⟩ hK hP hD hS hA (fmT om_13_7c 0) (fmF om_13_7c 0) (fm_C1 rfl rfl) (fm_R rfl rfl) (fm_nT om_13_7c 0) (fm_nF om_13_7c 0) (fm_di om_13_7c 0) rfl rfl rfl rfl (Nat.le_of_ble_eq_true rfl) dX9_fillDeeds_131 (fun r_53 u H locs hw hP hD hS => ?_)
              refine exE hw (fun g2_52 hw1 => anE hw1 (fun er_55 eu_54 => ?_))
              clear hw hw1
              subst er_55
              refine o_mgE (ws' := [ro_rrrrrr (q 10) 9 (q 61) (q 62) (q 63) (q 64) (q 65) (q 66), ra_N (q 61) cI 90 sa, ra_I (q 62) cI 900 gt2, ra_I (q 63) cI 90 f_28, ra_I (q 64) cI 90 go, ro_rrrrrnniin (q 5) 2 (q 44) (q 45) (q 46) (q 47) (q 48) dh mh uh rh nh, ro_rrrrnn (q 44) 0 (q 49) (q 50) (q 51) (q 52) ch wh, ra_I (q 49) cI 1600 y1, ra_J (q 50) cJ 64 g2_52, ra_J (q 51) cJ 9 g3_45, ra_J (q 52) cJ 10 y4, ra_I (q 47) cI 3 yf, ra_I (q 48) cI 3 yt]) eu_54 hP hD rfl (fun hP hD => ?_)
              refine lv_bipush (v := 10) hx hb dX9_fillDeeds_134 (by decide) ?_
              refine sk_Si (n := 2) (rest := [.int (nI ((d * 10 + i) * 10 + jj)), .ref (q 62)]) (wr := [ro_rrrrrr (q 10) 9 (q 61) (q 62) (q 63) (q 64) (q 65) (q 66), ra_N (q 61) cI 90 sa, ra_I (q 62) cI 900 gt2, ra_I (q 63) cI 90 f_28, ra_I (q 64) cI 90 go, ro_rrrrrnniin (q 5) 2 (q 44) (q 45) (q 46) (q 47) (q 48) dh mh uh rh nh, ro_rrrrnn (q 44) 0 (q 49) (q 50) (q 51) (q 52) ch wh, ra_I (q 49) cI 1600 y1, ra_J (q 50) cJ 64 g2_52, ra_J (q 51) cJ 9 g3_45, ra_J (q 52) cJ 10 y4, ra_I (q 47) cI 3 yf, ra_I (q 48) cI 3 yt]) ⟨hx, hb, hml, hown, hts⟩ hl.1 (c_kfloorMod l D cI cJ cC cZ cS (kcV L 1 g3_45)) w_4_7 w_4_8 w_1_3 w_4_9 hd_J9_floorMod_1978a_2 ⟨⟨(Nat.le_of_ble_eq_true rfl), (Nat.le_of_ble_eq_true rfl)⟩, (Nat.le_of_ble_eq_true rfl), (Nat.le_of_ble_eq_true rfl)⟩ hK hP hD hS hA [] [0, 1, 2, 3, 4, 5, 6, 7, 8, 9, 10, 11, 12] rfl rfl (by decide +kernel) (by decide +kernel) (by decide +kernel) rfl rfl (Nat.le_of_ble_eq_true rfl) dX9_fillDeeds_136 (fun r_56 u H locs hw hP hD hS => ?_)
              obtain ⟨rfl, rfl⟩ := hw
              refine o_re (ws' := [ro_rrrrrr (q 10) 9 (q 61) (q 62) (q 63) (q 64) (q 65) (q 66), ra_N (q 61) cI 90 sa, ra_I (q 62) cI 900 gt2, ra_I (q 63) cI 90 f_28, ra_I (q 64) cI 90 go, ro_rrrrrnniin (q 5) 2 (q 44) (q 45) (q 46) (q 47) (q 48) dh mh uh rh nh, ro_rrrrnn (q 44) 0 (q 49) (q 50) (q 51) (q 52) ch wh, ra_I (q 49) cI 1600 y1, ra_J (q 50) cJ 64 g2_52, ra_J (q 51) cJ 9 g3_45, ra_J (q 52) cJ 10 y4, ra_I (q 47) cI 3 yf, ra_I (q 48) cI 3 yt]) hP hD rfl (fun hP hD => ?_)
              have hk_57 := kcTen_lt (kcV L 1 g3_45)
              refine sk_iastE (k := ((d * 10 + i) * 10 + jj)) (ws' := fun f_58 => [ro_rrrrrr (q 10) 9 (q 61) (q 62) (q 63) (q 64) (q 65) (q 66), ra_N (q 61) cI 90 sa, ra_I (q 62) cI 900 f_58, ra_I (q 63) cI 90 f_28, ra_I (q 64) cI 90 go, ro_rrrrrnniin (q 5) 2 (q 44) (q 45) (q 46) (q 47) (q 48) dh mh uh rh nh, ro_rrrrnn (q 44) 0 (q 49) (q 50) (q 51) (q 52) ch wh, ra_I (q 49) cI 1600 y1, ra_J (q 50) cJ 64 g2_52, ra_J (q 51) cJ 9 g3_45, ra_J (q 52) cJ 10 y4, ra_I (q 47) cI 3 yf, ra_I (q 48) cI 3 yt]) hx hb hK hP hD hS 2 0 rfl rfl (by omega) (by omega) (fun _ => rfl) dX9_fillDeeds_139 (fun f_58 H locs ef_59 hP hD hS => ?_)
              refine lv_iinc (v := nI (jj + 1)) (lv' := [(8, .int (nI (jj + 1))), (7, .int (nI (d * 10 + i))), (6, .int (nI i)), (5, .int (nI p1.2)), (4, .int (nI p1.1)), (3, .ref (q 44)), (0, .ref (q 10)), (1, .ref (q 5)), (2, .int (nI d))]) hx hb dX9_fillDeeds_140 hl (k := 0) rfl (ninc jj 1 (by decide)) (by decide) rfl (fun ls hl => ?_)
              refine lv_goto (tgt := 97) hx hb dX9_fillDeeds_143 (by decide) ?_
              exact ih_lp_37 (jj + 1) f_58 g2_52 g3_45 _ _ _ (by omega) (by omega) (kft_s hfj ef_59 (by omega) (congrArg nI (kx_bec hLk hd_48 hn_49 hn_51 hn_50))) hd_48 hn_49 hn_50 hP hD hS (lv_sub hl [0, 1, 2, 3, 4, 5, 6, 7, 8] rfl)
        exact lp_37 (10 - 0 + 1) 0 gt g2_22 g3_30 _ _ _ (Nat.lt_succ_self _) (by omega) (kft_0 _ _ _ _ _ _ _) hd_33 hn_34 hn_36 hP hD hS (lv_sub hl [0, 1, 2, 3, 4, 5, 6, 7, 8] rfl)
  exact lp_1 (10 - 0 + 1) 0 ft fa fo y2 y3 _ _ _ (Nat.lt_succ_self _) (by omega) (kfd_0 _ _ _ _ _ _ _ _) hdy3 hP hD hS (lv_sub hl [0, 1, 2, 3, 4, 5, 6] rfl)
set_option maxHeartbeats 4000000 in
set_option maxRecDepth 100000 in
theorem c_kfit (l : Launch) (D : va_G) (cI cJ cC cZ cS : ClassId) (q : Nat → Nat) (dh : Nat) (mh : Nat) (uh : Int32) (rh : Int32) (nh : Nat) (ch : Nat) (wh : Nat) (y1 : Nat → Int32) (y2 : Nat → Int64) (y3 : Nat → Int64) (y4 : Nat → Int64) (yf : Nat → Int32) (yt : Nat → Int32) (sa : Nat → Nat) (ft : Nat → Int32) (fa : Nat → Int32) (fo : Nat → Int32) (fg : Nat → Int64) (fk : Nat → Int32) (o0 : Nat) (o1 : Nat) (o2 : Nat) (dy : Nat) (wn : Nat) (mo : Nat) (ke : Nat) (mu : Int32) (fb : Nat → Int32) (fw : Nat → Int32) (Ba : Nat → Nat) (We : Nat → Nat) (L : LkS) (hsa : ∀ j, sa j ≤ 9) (hch : ch ≤ 1600) (hwh : wh ≤ 1) (hdy : dy ≤ 9) (hmo : mo ≤ 9) (hLk : kcLk L) (hcd : cdK (lK (lkF L)) ch wh y1) (hsg : ∀ v, v < 3 → sgO (lG (lkF L) v) (yf v) (yt v)) (hfb : ∀ j, j < 9 → fb j = nI (Ba j)) (hfw : ∀ j, j < 9 → fw j = nI (We j)) (hB9 : ∀ j, Ba j ≤ 9) (hW9 : ∀ j, We j ≤ 9) (hwn : wn ≤ 999) (hti : kcTI L sa ft fa fo fg fk) : skM l yX9_fit cX9_fit 6 none 4 103 0 0 D (skT cI cJ cC cZ cS) [.ref (q 10), .ref (q 5), .ref o0] [ro_rrrrrr (q 10) 9 (q 61) (q 62) (q 63) (q 64) (q 65) (q 66), ra_N (q 61) cI 90 sa, ra_I (q 62) cI 900 ft, ra_I (q 63) cI 90 fa, ra_I (q 64) cI 90 fo, ra_J (q 65) cJ 90 fg, ra_I (q 66) cI 9 fk, ro_rrrrrnniin (q 5) 2 (q 44) (q 45) (q 46) (q 47) (q 48) dh mh uh rh nh, ro_rrrrnn (q 44) 0 (q 49) (q 50) (q 51) (q 52) ch wh, ra_I (q 49) cI 1600 y1, ra_J (q 50) cJ 64 y2, ra_J (q 51) cJ 9 y3, ra_J (q 52) cJ 10 y4, ra_I (q 47) cI 3 yf, ra_I (q 48) cI 3 yt, ro_rrnnnin o0 7 o1 o2 dy wn mo mu ke, ra_I o1 cI 9 fb, ra_I o2 cI 9 fw] (skV D (skT cI cJ cC cZ cS) (fun (u : va_W) => ∃ (sa2 : Nat → Nat), ∃ (ft2 : Nat → Int32), ∃ (fa2 : Nat → Int32), ∃ (fo2 : Nat → Int32), ∃ (fg2 : Nat → Int64), ∃ (fk2 : Nat → Int32), ∃ (z2 : Nat → Int64), ∃ (z3 : Nat → Int64), (∀ j, sa2 j ≤ 9) ∧ kcTI L sa2 ft2 fa2 fo2 fg2 fk2 ∧ (∀ e, e < dy → kcRow L wn (Ba e) (We e) e sa2 ft2 fa2 fo2 fg2) ∧ u = [ro_rrrrrr (q 10) 9 (q 61) (q 62) (q 63) (q 64) (q 65) (q 66), ra_N (q 61) cI 90 sa2, ra_I (q 62) cI 900 ft2, ra_I (q 63) cI 90 fa2, ra_I (q 64) cI 90 fo2, ra_J (q 65) cJ 90 fg2, ra_I (q 66) cI 9 fk2, ro_rrrrrnniin (q 5) 2 (q 44) (q 45) (q 46) (q 47) (q 48) dh mh uh rh nh, ro_rrrrnn (q 44) 0 (q 49) (q 50) (q 51) (q 52) ch wh, ra_I (q 49) cI 1600 y1, ra_J (q 50) cJ 64 z2, ra_J (q 51) cJ 9 z3, ra_J (q 52) cJ 10 y4, ra_I (q 47) cI 3 yf, ra_I (q 48) cI 3 yt, ro_rrnnnin o0 7 o1 o2 dy wn mo mu ke, ra_I o1 cI 9 fb, ra_I o2 cI 9 fw])) := by
  refine skM_of pf_X9_fit (Nat.le_of_ble_eq_true rfl) ?_
  intro p e s m below meth c A ls E hP hD hl
  refine skE_el E (fun hx hb hr hml hlocks hin hown hts hK hA => ?_)
  have hown : s.vm.findClass RX9 = some m.cls := hown
  have hS : va_S A s.heap s.heap [] := va_S.rf
  have hl : lv_has ls 6 [(0, .ref (q 10)), (1, .ref (q 5)), (2, .ref o0)] := hl
  have jn_1 : ∀ (wq : Nat) (H : Heap) (locs : List Loc) (ls : Array Slot), ((wh = 1 ∧ wq = wn) ∨ (wh = 0 ∧ wq = 0)) → (wq ≤ 999) → va_P D vwCl [ro_rrrrrr (q 10) 9 (q 61) (q 62) (q 63) (q 64) (q 65) (q 66), ra_N (q 61) cI 90 sa, ra_I (q 62) cI 900 ft, ra_I (q 63) cI 90 fa, ra_I (q 64) cI 90 fo, ra_J (q 65) cJ 90 fg, ra_I (q 66) cI 9 fk, ro_rrrrrnniin (q 5) 2 (q 44) (q 45) (q 46) (q 47) (q 48) dh mh uh rh nh, ro_rrrrnn (q 44) 0 (q 49) (q 50) (q 51) (q 52) ch wh, ra_I (q 49) cI 1600 y1, ra_J (q 50) cJ 64 y2, ra_J (q 51) cJ 9 y3, ra_J (q 52) cJ 10 y4, ra_I (q 47) cI 3 yf, ra_I (q 48) cI 3 yt, ro_rrnnnin o0 7 o1 o2 dy wn mo mu ke, ra_I o1 cI 9 fb, ra_I o2 cI 9 fw] H → va_D A [ro_rrrrrr (q 10) 9 (q 61) (q 62) (q 63) (q 64) (q 65) (q 66), ra_N (q 61) cI 90 sa, ra_I (q 62) cI 900 ft, ra_I (q 63) cI 90 fa, ra_I (q 64) cI 90 fo, ra_J (q 65) cJ 90 fg, ra_I (q 66) cI 9 fk, ro_rrrrrnniin (q 5) 2 (q 44) (q 45) (q 46) (q 47) (q 48) dh mh uh rh nh, ro_rrrrnn (q 44) 0 (q 49) (q 50) (q 51) (q 52) ch wh, ra_I (q 49) cI 1600 y1, ra_J (q 50) cJ 64 y2, ra_J (q 51) cJ 9 y3, ra_J (q 52) cJ 10 y4, ra_I (q 47) cI 3 yf, ra_I (q 48) cI 3 yt, ro_rrnnnin o0 7 o1 o2 dy wn mo mu ke, ra_I o1 cI 9 fb, ra_I o2 cI 9 fw] → va_S A s.heap H locs → lv_has ls 6 [(0, .ref (q 10)), (1, .ref (q 5)), (2, .ref o0)] → W p l e { frames := 4, cells := 0, slots := 0, locals := 103 } s m ([.ref (q 10), .ref (q 5), .ref o0] : List Value).toArray below meth c H locs 0 0 (MQ below (skV D (skT cI cJ cC cZ cS) (fun (u : va_W) => ∃ (sa2 : Nat → Nat), ∃ (ft2 : Nat → Int32), ∃ (fa2 : Nat → Int32), ∃ (fo2 : Nat → Int32), ∃ (fg2 : Nat → Int64), ∃ (fk2 : Nat → Int32), ∃ (z2 : Nat → Int64), ∃ (z3 : Nat → Int64), (∀ j, sa2 j ≤ 9) ∧ kcTI L sa2 ft2 fa2 fo2 fg2 fk2 ∧ (∀ e, e < dy → kcRow L wn (Ba e) (We e) e sa2 ft2 fa2 fo2 fg2) ∧ u = [ro_rrrrrr (q 10) 9 (q 61) (q 62) (q 63) (q 64) (q 65) (q 66), ra_N (q 61) cI 90 sa2, ra_I (q 62) cI 900 ft2, ra_I (q 63) cI 90 fa2, ra_I (q 64) cI 90 fo2, ra_J (q 65) cJ 90 fg2, ra_I (q 66) cI 9 fk2, ro_rrrrrnniin (q 5) 2 (q 44) (q 45) (q 46) (q 47) (q 48) dh mh uh rh nh, ro_rrrrnn (q 44) 0 (q 49) (q 50) (q 51) (q 52) ch wh, ra_I (q 49) cI 1600 y1, ra_J (q 50) cJ 64 z2, ra_J (q 51) cJ 9 z3, ra_J (q 52) cJ 10 y4, ra_I (q 47) cI 3 yf, ra_I (q 48) cI 3 yt, ro_rrnnnin o0 7 o1 o2 dy wn mo mu ke, ra_I o1 cI 9 fb, ra_I o2 cI 9 fw]) A) ([.ref (q 10), .ref (q 5), .ref o0] : List Value).toArray s 0 0 A) (F0 m 18 ls [.int (nI wq)]) := by
    intro wq H locs ls hwq hwq9 hP hD hS hl
    refine lv_istore_n (lv' := [(3, .int (nI wq)), (0, .ref (q 10)), (1, .ref (q 5)), (2, .ref o0)]) hx hb dX9_fit_18 rfl hl (by decide) rfl (fun ls hl => ?_)
    have hkw := kwk hLk hcd hwq
    refine lv_iconst (v := 0) hx hb dX9_fit_19 ic_0 ?_
    refine lv_istore (lv' := [(4, .int 0), (3, .int (nI wq)), (0, .ref (q 10)), (1, .ref (q 5)), (2, .ref o0)]) hx hb dX9_fit_20 hl (by decide) rfl (fun ls hl => ?_)
    have lp_2 : ∀ (n_3 : Nat) (i : Nat) (sb : Nat → Nat) (gt : Nat → Int32) (ga : Nat → Int32) (go : Nat → Int32) (gg : Nat → Int64) (gk : Nat → Int32) (u2 : Nat → Int64) (u3 : Nat → Int64) (H : Heap) (locs : List Loc) (ls : Array Slot), 9 - i < n_3 → (∀ j, sb j ≤ 9) → (i ≤ dy) → (kcTI L sb gt ga go gg gk) → (∀ e, e < i → kcRow L wq (Ba e) (We e) e sb gt ga go gg) → va_P D vwCl [ro_rrrrrr (q 10) 9 (q 61) (q 62) (q 63) (q 64) (q 65) (q 66), ra_N (q 61) cI 90 sb, ra_I (q 62) cI 900 gt, ra_I (q 63) cI 90 ga, ra_I (q 64) cI 90 go, ra_J (q 65) cJ 90 gg, ra_I (q 66) cI 9 gk, ro_rrrrrnniin (q 5) 2 (q 44) (q 45) (q 46) (q 47) (q 48) dh mh uh rh nh, ro_rrrrnn (q 44) 0 (q 49) (q 50) (q 51) (q 52) ch wh, ra_I (q 49) cI 1600 y1, ra_J (q 50) cJ 64 u2, ra_J (q 51) cJ 9 u3, ra_J (q 52) cJ 10 y4, ra_I (q 47) cI 3 yf, ra_I (q 48) cI 3 yt, ro_rrnnnin o0 7 o1 o2 dy wn mo mu ke, ra_I o1 cI 9 fb, ra_I o2 cI 9 fw] H → va_D A [ro_rrrrrr (q 10) 9 (q 61) (q 62) (q 63) (q 64) (q 65) (q 66), ra_N (q 61) cI 90 sb, ra_I (q 62) cI 900 gt, ra_I (q 63) cI 90 ga, ra_I (q 64) cI 90 go, ra_J (q 65) cJ 90 gg, ra_I (q 66) cI 9 gk, ro_rrrrrnniin (q 5) 2 (q 44) (q 45) (q 46) (q 47) (q 48) dh mh uh rh nh, ro_rrrrnn (q 44) 0 (q 49) (q 50) (q 51) (q 52) ch wh, ra_I (q 49) cI 1600 y1, ra_J (q 50) cJ 64 u2, ra_J (q 51) cJ 9 u3, ra_J (q 52) cJ 10 y4, ra_I (q 47) cI 3 yf, ra_I (q 48) cI 3 yt, ro_rrnnnin o0 7 o1 o2 dy wn mo mu ke, ra_I o1 cI 9 fb, ra_I o2 cI 9 fw] → va_S A s.heap H locs → lv_has ls 6 [(4, .int (nI i)), (3, .int (nI wq)), (0, .ref (q 10)), (1, .ref (q 5)), (2, .ref o0)] → W p l e { frames := 4, cells := 0, slots := 0, locals := 103 } s m ([.ref (q 10), .ref (q 5), .ref o0] : List Value).toArray below meth c H locs 0 0 (MQ below (skV D (skT cI cJ cC cZ cS) (fun (u : va_W) => ∃ (sa2 : Nat → Nat), ∃ (ft2 : Nat → Int32), ∃ (fa2 : Nat → Int32), ∃ (fo2 : Nat → Int32), ∃ (fg2 : Nat → Int64), ∃ (fk2 : Nat → Int32), ∃ (z2 : Nat → Int64), ∃ (z3 : Nat → Int64), (∀ j, sa2 j ≤ 9) ∧ kcTI L sa2 ft2 fa2 fo2 fg2 fk2 ∧ (∀ e, e < dy → kcRow L wn (Ba e) (We e) e sa2 ft2 fa2 fo2 fg2) ∧ u = [ro_rrrrrr (q 10) 9 (q 61) (q 62) (q 63) (q 64) (q 65) (q 66), ra_N (q 61) cI 90 sa2, ra_I (q 62) cI 900 ft2, ra_I (q 63) cI 90 fa2, ra_I (q 64) cI 90 fo2, ra_J (q 65) cJ 90 fg2, ra_I (q 66) cI 9 fk2, ro_rrrrrnniin (q 5) 2 (q 44) (q 45) (q 46) (q 47) (q 48) dh mh uh rh nh, ro_rrrrnn (q 44) 0 (q 49) (q 50) (q 51) (q 52) ch wh, ra_I (q 49) cI 1600 y1, ra_J (q 50) cJ 64 z2, ra_J (q 51) cJ 9 z3, ra_J (q 52) cJ 10 y4, ra_I (q 47) cI 3 yf, ra_I (q 48) cI 3 yt, ro_rrnnnin o0 7 o1 o2 dy wn mo mu ke, ra_I o1 cI 9 fb, ra_I o2 cI 9 fw]) A) ([.ref (q 10), .ref (q 5), .ref o0] : List Value).toArray s 0 0 A) (F0 m 22 ls []) := by
      intro n_3
      induction n_3 with
      | zero => intro i sb gt ga go gg gk u2 u3 H locs ls hm; exact absurd hm (Nat.not_lt_zero _)
      | succ n_3 ih_lp_2 =>
        intro i sb gt ga go gg gk u2 u3 H locs ls hm hsb hi hti_ hro hP hD hS hl
        refine lv_iload hx hb dX9_fit_22 (lv_at hl 0 rfl) ?_
        refine lv_aload_n hx hb dX9_fit_24 rfl (lv_at hl 4 rfl) ?_
        refine sk_get (v := .int (nI dy)) (C := RX7) (T := TX7) (N := 7) hx hb hts inlX7 hown hK hP 15 rfl rfl 2 (Nat.le_of_ble_eq_true rfl) w_2_0 rfl dX9_fit_25 ?_
        refine lv_icmp_ge (tgt := 114) hx hb dX9_fit_28 (by decide) (fun c_4 => ?_) (fun c_4 => ?_)
        · have c_4 : dy ≤ i := (nle dy i (by omega) (by omega)).mp c_4
          exact sk_vret hx hb hr hlocks hK hP hD hS (⟨sb, gt, ga, go, gg, gk, u2, u3, hsb, hti_, (fun e he => krow_kw hkw (hro e (by omega))), rfl⟩) (Nat.le_of_ble_eq_true rfl) (Nat.le_of_ble_eq_true rfl) dX9_fit_114
        · have c_4 : ¬ (dy ≤ i) := fun h => c_4 ((nle dy i (by omega) (by omega)).mpr h)
          refine lv_iload hx hb dX9_fit_31 (lv_at hl 0 rfl) ?_
          refine lv_bipush (v := 9) hx hb dX9_fit_33 (by decide) ?_
          refine lv_icmp_ge (tgt := 114) hx hb dX9_fit_35 (by decide) (fun c => absurd ((nle 9 i (Nat.le_of_ble_eq_true rfl) (by omega)).mp c) (by omega)) (fun c_5 => ?_)
          have hBi := hB9 i
          have hWi := hW9 i
          refine lv_iload_n hx hb dX9_fit_38 rfl (lv_at hl 1 rfl) ?_
          refine lv_bipush (v := 10) hx hb dX9_fit_39 (by decide) ?_
          refine lv_imul hx hb dX9_fit_41 ?_
          refine sk_top (nI (wq * 10)) (nmul wq 10) ?_
          refine lv_aload_n hx hb dX9_fit_42 rfl (lv_at hl 4 rfl) ?_
          refine sk_get (v := .ref o1) (C := RX7) (T := TX7) (N := 7) hx hb hts inlX7 hown hK hP 15 rfl rfl 0 (Nat.le_of_ble_eq_true rfl) w_1_231 rfl dX9_fit_43 ?_
          refine lv_iload hx hb dX9_fit_46 (lv_at hl 0 rfl) ?_
          refine va_iald hx hb hK.1 hP 16 0 rfl rfl (vin i 9 (by omega) (Nat.le_of_ble_eq_true rfl)) dX9_fit_48 ?_
          refine sk_top (nI (Ba i)) (by rw [nI_clamp (by omega)]; exact hfb i (by omega)) ?_
          refine lv_iadd hx hb dX9_fit_49 ?_
          refine sk_top (nI (wq * 10 + (Ba i))) (nI_add (wq * 10) (Ba i)) ?_
          refine lv_bipush (v := 10) hx hb dX9_fit_50 (by decide) ?_
          refine lv_imul hx hb dX9_fit_52 ?_
          refine sk_top (nI ((wq * 10 + (Ba i)) * 10)) (nmul (wq * 10 + (Ba i)) 10) ?_
          refine lv_aload_n hx hb dX9_fit_53 rfl (lv_at hl 4 rfl) ?_
          refine sk_get (v := .ref o2) (C := RX7) (T := TX7) (N := 7) hx hb hts inlX7 hown hK hP 15 rfl rfl 1 (Nat.le_of_ble_eq_true rfl) w_1_235 rfl dX9_fit_54 ?_
          refine lv_iload hx hb dX9_fit_57 (lv_at hl 0 rfl) ?_
          refine va_iald hx hb hK.1 hP 17 0 rfl rfl (vin i 9 (by omega) (Nat.le_of_ble_eq_true rfl)) dX9_fit_59 ?_
          refine sk_top (nI (We i)) (by rw [nI_clamp (by omega)]; exact hfw i (by omega)) ?_
          refine lv_iadd hx hb dX9_fit_60 ?_
          refine sk_top (nI ((wq * 10 + (Ba i)) * 10 + (We i))) (nI_add ((wq * 10 + (Ba i)) * 10) (We i)) ?_
          refine lv_istore (lv' := [(5, .int (nI ((wq * 10 + (Ba i)) * 10 + (We i)))), (4, .int (nI i)), (3, .int (nI wq)), (0, .ref (q 10)), (1, .ref (q 5)), (2, .ref o0)]) hx hb dX9_fit_61 hl (by decide) rfl (fun ls hl => ?_)
          refine lv_aload_n hx hb dX9_fit_63 rfl (lv_at hl 3 rfl) ?_
          refine sk_get (v := .ref (q 66)) (C := RX9) (T := TX9) (N := 6) hx hb hts inlX9 hown hK hP 0 rfl rfl 5 (Nat.le_of_ble_eq_true rfl) w_2_75 rfl dX9_fit_64 ?_
          refine lv_iload hx hb dX9_fit_67 (lv_at hl 1 rfl) ?_
          refine va_iald hx hb hK.1 hP 6 0 rfl rfl (vin i 9 (by omega) (Nat.le_of_ble_eq_true rfl)) dX9_fit_69 ?_
          refine sk_top (gk i) (by rw [nI_clamp (by omega)]) ?_
          refine lv_iload hx hb dX9_fit_70 (lv_at hl 0 rfl) ?_
          refine lv_icmp_eq (tgt := 108) hx hb dX9_fit_72 (by decide) (fun c_6 => ?_) (fun c_6 => ?_)
          · skip
            refine lv_iinc (v := nI (i + 1)) (lv' := [(4, .int (nI (i + 1))), (5, .int (nI ((wq * 10 + (Ba i)) * 10 + (We i)))), (3, .int (nI wq)), (0, .ref (q 10)), (1, .ref (q 5)), (2, .ref o0)]) hx hb dX9_fit_108 hl (k := 1) rfl (ninc i 1 (by decide)) (by decide) rfl (fun ls hl => ?_)
            refine lv_goto (tgt := 22) hx hb dX9_fit_111 (by decide) ?_
            exact ih_lp_2 (i + 1) sb gt ga go gg gk u2 u3 _ _ _ (by omega) hsb (by omega) hti_ (krows_k hro (hti_ i wq (Ba i) (We i) (by omega) (by omega) hBi hWi c_6)) hP hD hS (lv_sub hl [0, 2, 3, 4, 5] rfl)
          · skip
            refine lv_aload_n hx hb dX9_fit_75 rfl (lv_at hl 3 rfl) ?_
            refine sk_get (v := .ref (q 66)) (C := RX9) (T := TX9) (N := 6) hx hb hts inlX9 hown hK hP 0 rfl rfl 5 (Nat.le_of_ble_eq_true rfl) w_2_75 rfl dX9_fit_76 ?_
            refine lv_iload hx hb dX9_fit_79 (lv_at hl 1 rfl) ?_
            refine lv_iload hx hb dX9_fit_81 (lv_at hl 0 rfl) ?_
            refine sk_iastE (k := i) (ws' := fun f_7 => [ro_rrrrrr (q 10) 9 (q 61) (q 62) (q 63) (q 64) (q 65) (q 66), ra_N (q 61) cI 90 sb, ra_I (q 62) cI 900 gt, ra_I (q 63) cI 90 ga, ra_I (q 64) cI 90 go, ra_J (q 65) cJ 90 gg, ra_I (q 66) cI 9 f_7, ro_rrrrrnniin (q 5) 2 (q 44) (q 45) (q 46) (q 47) (q 48) dh mh uh rh nh, ro_rrrrnn (q 44) 0 (q 49) (q 50) (q 51) (q 52) ch wh, ra_I (q 49) cI 1600 y1, ra_J (q 50) cJ 64 u2, ra_J (q 51) cJ 9 u3, ra_J (q 52) cJ 10 y4, ra_I (q 47) cI 3 yf, ra_I (q 48) cI 3 yt, ro_rrnnnin o0 7 o1 o2 dy wn mo mu ke, ra_I o1 cI 9 fb, ra_I o2 cI 9 fw]) hx hb hK hP hD hS 6 0 rfl rfl (by omega) (by omega) (fun _ => rfl) dX9_fit_83 (fun f_7 H locs ef_8 hP hD hS => ?_)
            refine lv_aload_n hx hb dX9_fit_84 rfl (lv_at hl 4 rfl) ?_
            refine sk_get (v := .ref (q 44)) (C := RX2) (T := TX2) (N := 10) hx hb hts inlX2 hown hK hP 7 rfl rfl 0 (Nat.le_of_ble_eq_true rfl) w_1_176 rfl dX9_fit_85 ?_
            refine lv_aload_n hx hb dX9_fit_88 rfl (lv_at hl 5 rfl) ?_
            refine lv_iload hx hb dX9_fit_89 (lv_at hl 1 rfl) ?_
            refine sk_Sv (n := 3) (rest := []) (wr := fmR om_18_247 _) ⟨hx, hb, hml, hown, hts⟩ hl.1 (c_knameDay l D cI cJ cC cZ cS q ch wh u3 o0 o1 o2 dy wn mo ke mu fb fw i (Ba i) (We i) (by omega) (hfb i (by omega)) (hfw i (by omega)) (hB9 i) (hW9 i) hwn) w_3_209 w_3_210 w_1_12 w_3_211 hd_X9_nameDay_3 ⟨⟨(Nat.le_of_ble_eq_true rfl), (Nat.le_of_ble_eq_true rfl)⟩, (Nat.le_of_ble_eq_true rfl), (Nat.le_of_ble_eq_true rfl)⟩ hK hP hD hS hA (fmT om_18_247 0) (fmF om_18_247 0) (fm_C1 rfl rfl) (fm_R rfl rfl) (fm_nT om_18_247 0) (fm_nF om_18_247 0) (fm_di om_18_247 0) rfl rfl (Nat.le_of_ble_eq_true rfl) dX9_fit_91 (fun u H locs hw hP hD hS => ?_)
            refine exE hw (fun z3_9 hw1 => anE hw1 (fun hdy3_10 eu_11 => ?_))
            clear hw hw1
            refine o_mgE (ws' := [ro_rrrrrr (q 10) 9 (q 61) (q 62) (q 63) (q 64) (q 65) (q 66), ra_N (q 61) cI 90 sb, ra_I (q 62) cI 900 gt, ra_I (q 63) cI 90 ga, ra_I (q 64) cI 90 go, ra_J (q 65) cJ 90 gg, ra_I (q 66) cI 9 f_7, ro_rrrrrnniin (q 5) 2 (q 44) (q 45) (q 46) (q 47) (q 48) dh mh uh rh nh, ro_rrrrnn (q 44) 0 (q 49) (q 50) (q 51) (q 52) ch wh, ra_I (q 49) cI 1600 y1, ra_J (q 50) cJ 64 u2, ra_J (q 51) cJ 9 z3_9, ra_J (q 52) cJ 10 y4, ra_I (q 47) cI 3 yf, ra_I (q 48) cI 3 yt, ro_rrnnnin o0 7 o1 o2 dy wn mo mu ke, ra_I o1 cI 9 fb, ra_I o2 cI 9 fw]) eu_11 hP hD rfl (fun hP hD => ?_)
            refine lv_aload_n hx hb dX9_fit_94 rfl (lv_at hl 3 rfl) ?_
            refine lv_aload_n hx hb dX9_fit_95 rfl (lv_at hl 4 rfl) ?_
            refine lv_iload hx hb dX9_fit_96 (lv_at hl 1 rfl) ?_
            refine sk_Vv (q0 := 0) (n := 2) (rest := []) (wr := fmR om_18_317f8 _) ⟨hx, hb, hml, hown, hts⟩ hl.1 (c_kfillWords l D cI cJ cC cZ cS q dh mh uh rh nh ch wh y1 u2 z3_9 y4 yf yt sb gg i wn (Ba i) (We i) L hsb hch hwh (by omega) hLk hcd hsg hdy3_10) w_3_216 w_3_218 w_0_15 w_1_12 w_3_219 hd_X9_fillWords_2 ⟨⟨(Nat.le_of_ble_eq_true rfl), (Nat.le_of_ble_eq_true rfl)⟩, (Nat.le_of_ble_eq_true rfl), (Nat.le_of_ble_eq_true rfl)⟩ hK hP hD hS hA (fmT om_18_317f8 0) (fmF om_18_317f8 0) (fm_C1 rfl rfl) (fm_R rfl rfl) (fm_nT om_18_317f8 0) (fm_nF om_18_317f8 0) (fm_di om_18_317f8 0) rfl rfl rfl rfl (Nat.le_of_ble_eq_true rfl) dX9_fit_98 (fun u H locs hw hP hD hS => ?_)
            refine exE hw (fun sa2_12 hw1 => exE hw1 (fun fg2_13 hw2 => exE hw2 (fun z2_14 hw3 => exE hw3 (fun z3_15 hw4 => anE hw4 (fun hsa2_16 hw5 => anE hw5 (fun hfw2_17 hw6 => anE hw6 (fun hdy2_18 eu_19 => ?_)))))))
            clear hw hw1 hw2 hw3 hw4 hw5 hw6
            refine o_mgE (ws' := [ro_rrrrrr (q 10) 9 (q 61) (q 62) (q 63) (q 64) (q 65) (q 66), ra_N (q 61) cI 90 sa2_12, ra_I (q 62) cI 900 gt, ra_I (q 63) cI 90 ga, ra_I (q 64) cI 90 go, ra_J (q 65) cJ 90 fg2_13, ra_I (q 66) cI 9 f_7, ro_rrrrrnniin (q 5) 2 (q 44) (q 45) (q 46) (q 47) (q 48) dh mh uh rh nh, ro_rrrrnn (q 44) 0 (q 49) (q 50) (q 51) (q 52) ch wh, ra_I (q 49) cI 1600 y1, ra_J (q 50) cJ 64 z2_14, ra_J (q 51) cJ 9 z3_15, ra_J (q 52) cJ 10 y4, ra_I (q 47) cI 3 yf, ra_I (q 48) cI 3 yt, ro_rrnnnin o0 7 o1 o2 dy wn mo mu ke, ra_I o1 cI 9 fb, ra_I o2 cI 9 fw]) eu_19 hP hD rfl (fun hP hD => ?_)
            refine lv_aload_n hx hb dX9_fit_101 rfl (lv_at hl 3 rfl) ?_
            refine lv_aload_n hx hb dX9_fit_102 rfl (lv_at hl 4 rfl) ?_
            refine lv_iload hx hb dX9_fit_103 (lv_at hl 1 rfl) ?_
            refine sk_Vv (q0 := 0) (n := 2) (rest := []) (wr := fmR om_18_3e7f8 _) ⟨hx, hb, hml, hown, hts⟩ hl.1 (c_kfillDeeds l D cI cJ cC cZ cS q dh mh uh rh nh ch wh y1 z2_14 z3_15 y4 yf yt sa2_12 gt ga go i wn (Ba i) (We i) L fg2_13 sb gg hsa2_16 hch hwh (by omega) hLk hcd hsg hdy2_18 hfw2_17) w_4_13 w_4_15 w_0_17 w_1_12 w_4_16 hd_X9_fillDeeds_2 ⟨⟨(Nat.le_of_ble_eq_true rfl), (Nat.le_of_ble_eq_true rfl)⟩, (Nat.le_of_ble_eq_true rfl), (Nat.le_of_ble_eq_true rfl)⟩ hK hP hD hS hA (fmT om_18_3e7f8 0) (fmF om_18_3e7f8 0) (fm_C1 rfl rfl) (fm_R rfl rfl) (fm_nT om_18_3e7f8 0) (fm_nF om_18_3e7f8 0) (fm_di om_18_3e7f8 0) rfl rfl rfl rfl (Nat.le_of_ble_eq_true rfl) dX9_fit_105 (fun u H locs hw hP hD hS => ?_)
            refine exE hw (fun ft2_20 hw1 => exE hw1 (fun fa2_21 hw2 => exE hw2 (fun fo2_22 hw3 => exE hw3 (fun z2_23 hw4 => exE hw4 (fun z3_24 hw5 => anE hw5 (fun hfd2_25 eu_26 => ?_))))))
            clear hw hw1 hw2 hw3 hw4 hw5
            refine o_mgE (ws' := [ro_rrrrrr (q 10) 9 (q 61) (q 62) (q 63) (q 64) (q 65) (q 66), ra_N (q 61) cI 90 sa2_12, ra_I (q 62) cI 900 ft2_20, ra_I (q 63) cI 90 fa2_21, ra_I (q 64) cI 90 fo2_22, ra_J (q 65) cJ 90 fg2_13, ra_I (q 66) cI 9 f_7, ro_rrrrrnniin (q 5) 2 (q 44) (q 45) (q 46) (q 47) (q 48) dh mh uh rh nh, ro_rrrrnn (q 44) 0 (q 49) (q 50) (q 51) (q 52) ch wh, ra_I (q 49) cI 1600 y1, ra_J (q 50) cJ 64 z2_23, ra_J (q 51) cJ 9 z3_24, ra_J (q 52) cJ 10 y4, ra_I (q 47) cI 3 yf, ra_I (q 48) cI 3 yt, ro_rrnnnin o0 7 o1 o2 dy wn mo mu ke, ra_I o1 cI 9 fb, ra_I o2 cI 9 fw]) eu_26 hP hD rfl (fun hP hD => ?_)
            refine lv_iinc (v := nI (i + 1)) (lv' := [(4, .int (nI (i + 1))), (5, .int (nI ((wq * 10 + (Ba i)) * 10 + (We i)))), (3, .int (nI wq)), (0, .ref (q 10)), (1, .ref (q 5)), (2, .ref o0)]) hx hb dX9_fit_108 hl (k := 1) rfl (ninc i 1 (by decide)) (by decide) rfl (fun ls hl => ?_)
            refine lv_goto (tgt := 22) hx hb dX9_fit_111 (by decide) ?_
            exact ih_lp_2 (i + 1) sa2_12 ft2_20 fa2_21 fo2_22 fg2_13 f_7 z2_23 z3_24 _ _ _ (by omega) hsa2_16 (by omega) (kti_up hti_ (kfw_wk hkw hfw2_17) (kfd_wk hkw hfd2_25) ef_8 (by omega) hBi hWi) (krows_s hro (kfw_wk hkw hfw2_17) (kfd_wk hkw hfd2_25)) hP hD hS (lv_sub hl [0, 2, 3, 4, 5] rfl)
    exact lp_2 (9 - 0 + 1) 0 sa ft fa fo fg fk y2 y3 _ _ _ (Nat.lt_succ_self _) hsa (by omega) hti (fun e he => absurd he (Nat.not_lt_zero e)) hP hD hS (lv_sub hl [0, 1, 2, 3, 4] rfl)
  refine lv_aload_n hx hb dX9_fit_0 rfl (lv_at hl 1 rfl) ?_
  refine sk_get (v := .ref (q 44)) (C := RX2) (T := TX2) (N := 10) hx hb hts inlX2 hown hK hP 7 rfl rfl 0 (Nat.le_of_ble_eq_true rfl) w_1_176 rfl dX9_fit_1 ?_
  refine sk_get (v := .int (nI wh)) (C := RX0) (T := TX0) (N := 6) hx hb hts inlX0 hown hK hP 8 rfl rfl 5 (Nat.le_of_ble_eq_true rfl) w_1_137 rfl dX9_fit_4 ?_
  refine lv_if_eq (tgt := 17) hx hb dX9_fit_7 (by decide) (fun c_27 => ?_) (fun c_27 => ?_)
  · have c_27 : wh = 0 := (neq wh 0 (by omega) (Nat.le_of_ble_eq_true rfl)).mp c_27
    refine lv_iconst (v := 0) hx hb dX9_fit_17 ic_0 ?_
    exact jn_1 0 _ _ _ (Or.inr ⟨by omega, rfl⟩) (by omega) hP hD hS (lv_sub hl [0, 1, 2] rfl)
  · have c_27 : ¬ (wh = 0) := fun h => c_27 ((neq wh 0 (by omega) (Nat.le_of_ble_eq_true rfl)).mpr h)
    refine lv_aload_n hx hb dX9_fit_10 rfl (lv_at hl 2 rfl) ?_
    refine sk_get (v := .int (nI wn)) (C := RX7) (T := TX7) (N := 7) hx hb hts inlX7 hown hK hP 15 rfl rfl 3 (Nat.le_of_ble_eq_true rfl) w_2_4 rfl dX9_fit_11 ?_
    refine lv_goto (tgt := 18) hx hb dX9_fit_14 (by decide) ?_
    exact jn_1 wn _ _ _ (Or.inl ⟨by omega, rfl⟩) hwn hP hD hS (lv_sub hl [0, 1, 2] rfl)
/-! the graph -/
def kcFo (L : LkS) (wn : Nat) (B W : Nat → Nat) (U : Nat → Bool) (li d a m : Nat) : Bool :=
  if U d = true then kcBec L wn (B d) (W d) d a 0 1 == m else kcBec L wn (B d) (W d) d a ((kcSaid L wn (B d) (W d) d m + li) % 10) 0 == m
def kcLe (E : Nat → Nat → Nat → Bool) (d p : Nat) (v : Int32) : Prop := ∃ x, v = nI x ∧ x < 1024 ∧ ∀ m, m < 10 → x.testBit m = E d p m
def kcLd (E : Nat → Nat → Nat → Bool) (gd : Nat) (e1 e2 : Nat → Int32) : Prop := ∀ d, d < gd → ∀ p, p < 10 → ∃ x y, e1 (d * 10 + p) = nI x ∧ e2 d = nI y ∧ x < 1024 ∧ y < 1024 ∧ ∀ m, m < 10 → (x &&& y).testBit m = E d p m
def kcLv (E : Nat → Nat → Nat → Bool) (gd i : Nat) (e3 : Nat → Int32) : Prop := ∀ d, i ≤ d → d ≤ gd → ∃ z, e3 d = nI z ∧ z < 1024 ∧ ∀ m, m < 10 → (z.testBit m = true ↔ 0 < kcC E (gd - d) d m)
def kcNx (E : Nat → Nat → Nat → Bool) (gd d a x : Nat) : Prop := x < 1024 ∧ ∀ m, m < 10 → (x.testBit m = true ↔ 0 < kcW E gd d a m)
theorem knd32 {a b : Nat} (ha : a < 1024) (hb : b < 1024) : nI a &&& nI b = nI (a &&& b) ∧ a &&& b < 1024 := by
  have h3 : a &&& b < 2 ^ 10 := Nat.and_lt_two_pow a hb
  refine ⟨?_, h3⟩
  refine Int32.toBitVec_inj.mp ?_
  rw [Int32.toBitVec_and]
  show BitVec.ofNat 32 a &&& BitVec.ofNat 32 b = BitVec.ofNat 32 (a &&& b)
  refine BitVec.eq_of_toNat_eq ?_
  rw [BitVec.toNat_and, BitVec.toNat_ofNat, BitVec.toNat_ofNat, BitVec.toNat_ofNat, Nat.mod_eq_of_lt (show a < 2 ^ 32 by omega), Nat.mod_eq_of_lt (show b < 2 ^ 32 by omega), Nat.mod_eq_of_lt (show a &&& b < 2 ^ 32 by omega)]
theorem ktb {x k : Nat} (hx : x < 1024) (hk : k < 10) : ((nI x >>> (nI k &&& 31)) &&& 1 = 1) ↔ x.testBit k = true := by
  exact bt_bit (by omega) (by omega)
theorem kshl1 {k : Nat} (hk : k < 10) : ((1 : Int32) <<< (nI k &&& 31)) = nI (2 ^ k) ∧ 2 ^ k < 1024 := by
  have h : ∀ k, k < 10 → ((1 : Int32) <<< (nI k &&& 31)) = nI (2 ^ k) ∧ 2 ^ k < 1024 := by decide +kernel
  exact h k hk
theorem kW_pos {E : Nat → Nat → Nat → Bool} {n d a m : Nat} : 0 < kcW E n d a m ↔ E d a m = true ∧ 0 < kcC E (n - (d + 1)) (d + 1) m := by
  unfold kcW
  by_cases h : E d a m = true
  · rw [if_pos h]; exact ⟨fun q => ⟨h, q⟩, fun q => q.2⟩
  · rw [if_neg h]; exact ⟨fun q => absurd q (Nat.lt_irrefl 0), fun q => absurd q.1 h⟩
theorem knx_of {E : Nat → Nat → Nat → Bool} {gd d a x y z : Nat} (hx : x < 1024) (hy : y < 1024) (hz : z < 1024) (h1 : ∀ m, m < 10 → (x &&& y).testBit m = E d a m) (h2 : ∀ m, m < 10 → (z.testBit m = true ↔ 0 < kcC E (gd - (d + 1)) (d + 1) m)) : kcNx E gd d a (x &&& y &&& z) := by
  refine ⟨(knd32 (knd32 hx hy).2 hz).2, fun m hm => ?_⟩
  rw [Nat.testBit_and, Bool.and_eq_true, h1 m hm, h2 m hm, kW_pos]
theorem knx_z {E : Nat → Nat → Nat → Bool} {gd d a x : Nat} (h : kcNx E gd d a x) (hd : d < gd) : x = 0 ↔ kcC E (gd - d) d a = 0 := by
  rw [← kcW_S hd]
  constructor
  · intro q
    refine kcS_z 10 (fun m hm => ?_)
    have h1 := h.2 m hm
    rw [q, Nat.zero_testBit] at h1
    exact Nat.eq_zero_of_not_pos (fun q2 => Bool.noConfusion (h1.mpr q2))
  · intro q
    refine Nat.eq_of_testBit_eq (fun i => ?_)
    rw [Nat.zero_testBit]
    by_cases hi : i < 10
    · cases hb : x.testBit i with
      | false => rfl
      | true =>
        have h1 := (h.2 i hi).mp hb
        rw [kcS_pos 10 q i hi] at h1
        exact absurd h1 (Nat.lt_irrefl 0)
    · have h7 : (2 : Nat) ^ 10 ≤ 2 ^ i := Nat.pow_le_pow_right (by decide) (by omega)
      exact Nat.testBit_lt_two_pow (Nat.lt_of_lt_of_le h.1 h7)
theorem klv_top {E : Nat → Nat → Nat → Bool} {gd : Nat} {e f : Nat → Int32} (h : f = upd e gd 1023) : kcLv E gd gd f := by
  intro d h1 h2
  obtain rfl : d = gd := by omega
  refine ⟨1023, kui_s h, by decide, fun m hm => ?_⟩
  rw [Nat.sub_self]
  have h3 : ∀ m, m < 10 → Nat.testBit 1023 m = true := by decide
  exact ⟨fun _ => (by show 0 < 1; decide), fun _ => h3 m hm⟩
theorem klv_s {E : Nat → Nat → Nat → Bool} {gd i z : Nat} {e f : Nat → Int32} (h : kcLv E gd (i + 1) e) (hf : f = upd e i (nI z)) (hz : z = kcK (fun p => decide (0 < kcC E (gd - i) i p)) 10) : kcLv E gd i f := by
  intro d h1 h2
  by_cases q : d = i
  · subst q
    refine ⟨z, kui_s hf, by rw [hz]; exact kcK_lt _ 10, fun m hm => ?_⟩
    rw [hz, kcK_bit, decide_eq_true hm, Bool.true_and, decide_eq_true_iff]
  · obtain ⟨y, a, b, c⟩ := h d (by omega) h2
    exact ⟨y, by rw [kui_n hf q]; exact a, b, c⟩
theorem klv_i {E : Nat → Nat → Nat → Bool} {gd i j : Nat} {e : Nat → Int32} (h : kcLv E gd i e) (hj : i ≤ j) : kcLv E gd j e := fun d h1 h2 => h d (by omega) h2
/-- the lowest bit -/
def kcLow (x v : Nat) : Prop := v < 10 ∧ x.testBit v = true ∧ ∀ k, k < v → x.testBit k = false
theorem kntz {x : Nat} (h0 : 1 ≤ x) (h1 : x < 1024) : ∃ v, v < 10 ∧ kcLow x v ∧ (nI x ^^^ (-1)) &&& nI (x - 1) = nI (2 ^ v - 1) := by
  have h : ∀ x, x < 1024 → 1 ≤ x → ∃ v, v < 10 ∧ (v < 10 ∧ x.testBit v = true ∧ ∀ k, k < v → x.testBit k = false) ∧ (nI x ^^^ (-1)) &&& nI (x - 1) = nI (2 ^ v - 1) := by decide +kernel
  exact h x h1 h0
theorem klow_P {E : Nat → Nat → Nat → Bool} {gd d a x v : Nat} (h : kcNx E gd d a x) (hl : kcLow x v) : kcP (kcW E gd d a) 10 0 0 = (v, 0) := by
  refine kcP_zero 10 0 v (Nat.zero_le v) (by have := hl.1; omega) ((h.2 v hl.1).mp hl.2.1) (fun i _ hi => ?_)
  have h1 := h.2 i (by have := hl.1; omega)
  rw [hl.2.2 i hi] at h1
  exact Nat.eq_zero_of_not_pos (fun q => Bool.noConfusion (h1.mpr q))
/-! rows of a week -/
def kcRw (E : Nat → Nat → Nat → Bool) (gd a0 x i : Nat) (f : Nat → Int32) : Prop := ∀ d, d < i → f d = nI (kcM E gd a0 x d)
theorem krw_s {E : Nat → Nat → Nat → Bool} {gd a0 x i v : Nat} {f g : Nat → Int32} (h : kcRw E gd a0 x i f) (e : g = upd f i (nI v)) (hv : (kcA E gd a0 x (i + 1)).1 = v) : kcRw E gd a0 x (i + 1) g := fun d hd => by
  by_cases q : d = i
  · subst q; rw [kui_s e, ← hv]; rfl
  · rw [kui_n e q]; exact h d (by omega)
theorem krw_0 (E : Nat → Nat → Nat → Bool) (gd a0 x : Nat) (f : Nat → Int32) : kcRw E gd a0 x 0 f := fun d hd => absurd hd (Nat.not_lt_zero d)
theorem kfirst_s {E : Nat → Nat → Nat → Bool} {gd a0 i a x v : Nat} (ha : (kcA E gd a0 0 i).1 = a) (h2 : (kcA E gd a0 0 i).2 = 0) (h : kcNx E gd i a x) (hl : kcLow x v) : (kcA E gd a0 0 (i + 1)).1 = v ∧ (kcA E gd a0 0 (i + 1)).2 = 0 := by
  rw [kcA_s, ha, h2, klow_P h hl]
  exact ⟨rfl, rfl⟩
theorem knx_pos {E : Nat → Nat → Nat → Bool} {gd a0 n i a x : Nat} (h0 : a0 < 10) (hn : n < kcC E gd 0 a0) (ha : (kcA E gd a0 n i).1 = a) (h : kcNx E gd i a x) (hi : i < gd) : 1 ≤ x ∧ a < 10 := by
  have h1 := kcA_ok h0 hn i (by omega)
  rw [ha] at h1
  refine ⟨Nat.pos_of_ne_zero (fun q => ?_), h1.1⟩
  have h2 := (knx_z h hi).mp q
  rw [h2] at h1
  exact absurd h1.2 (Nat.not_lt_zero _)
/-! ways -/
def kcWy (E : Nat → Nat → Nat → Bool) (gd i : Nat) (f : Nat → Int64) : Prop := ∀ d, i ≤ d → d ≤ gd → ∀ m, m < 10 → f (d * 10 + m) = Int64.ofNat (kcC E (gd - d) d m)
theorem kwy_top {E : Nat → Nat → Nat → Bool} {gd : Nat} {f : Nat → Int64} (h : ∀ m, m < 10 → f (gd * 10 + m) = 1) : kcWy E gd gd f := by
  intro d h1 h2 m hm
  obtain rfl : d = gd := by omega
  rw [h m hm, Nat.sub_self]
  rfl
theorem kone_s {gd i : Nat} {f g : Nat → Int64} (h : ∀ m, m < i → f (gd * 10 + m) = 1) (e : g = vp_updL f (gd * 10 + i) 1) : ∀ m, m < i + 1 → g (gd * 10 + m) = 1 := fun m hm => by
  by_cases q : m = i
  · subst q; exact kup_s e
  · rw [kup_n e (by omega)]; exact h m (by omega)
/-- a day's ways, so far -/
def kcWj (E : Nat → Nat → Nat → Bool) (gd d j : Nat) (f : Nat → Int64) : Prop := kcWy E gd (d + 1) f ∧ ∀ p, p < j → f (d * 10 + p) = Int64.ofNat (kcC E (gd - d) d p)
theorem kwj_0 {E : Nat → Nat → Nat → Bool} {gd d e : Nat} {f : Nat → Int64} (h : kcWy E gd e f) (he : e = d + 1) : kcWj E gd d 0 f := ⟨he ▸ h, fun p hp => absurd hp (Nat.not_lt_zero p)⟩
theorem kwj_s {E : Nat → Nat → Nat → Bool} {gd d j : Nat} {f g : Nat → Int64} {x : Int64} (h : kcWj E gd d j f) (e : g = vp_updL f (d * 10 + j) x) (hj : j < 10) (hd : d < gd) (hx : x = Int64.ofNat (kcS (kcW E gd d j) 10)) : kcWj E gd d (j + 1) g := by
  refine ⟨fun d2 h1 h2 m hm => ?_, fun p hp => ?_⟩
  · rw [kup_n e (by omega)]; exact h.1 d2 h1 h2 m hm
  · by_cases q : p = j
    · subst q; rw [kup_s e, hx, kcW_S hd]
    · rw [kup_n e (by omega)]; exact h.2 p (by omega)
theorem kwj_10 {E : Nat → Nat → Nat → Bool} {gd d : Nat} {f : Nat → Int64} (h : kcWj E gd d 10 f) : kcWy E gd d f := fun d2 h1 h2 m hm => by
  by_cases q : d2 = d
  · subst q; exact h.2 m hm
  · exact h.1 d2 (by omega) h2 m hm
theorem kofn_add (a b : Nat) : Int64.ofNat a + Int64.ofNat b = Int64.ofNat (a + b) := (Int64.ofNat_add a b).symm
theorem ksm_y {E : Nat → Nat → Nat → Bool} {gd d a x k : Nat} {f : Nat → Int64} {s : Int64} (h : kcNx E gd d a x) (hw : kcWy E gd (d + 1) f) (hd : d < gd) (hk : k < 10) (hb : x.testBit k = true) (hs : s = Int64.ofNat (kcS (kcW E gd d a) k)) : s + f ((d + 1) * 10 + k) = Int64.ofNat (kcS (kcW E gd d a) (k + 1)) := by
  have h1 := kW_pos.mp ((h.2 k hk).mp hb)
  rw [hs, hw (d + 1) (Nat.le_refl _) (by omega) k hk, kofn_add]
  congr 1
  show _ = kcS (kcW E gd d a) k + kcW E gd d a k
  unfold kcW
  rw [if_pos h1.1]
theorem ksm_n {E : Nat → Nat → Nat → Bool} {gd d a x k : Nat} {s : Int64} (h : kcNx E gd d a x) (hk : k < 10) (hb : ¬ x.testBit k = true) (hs : s = Int64.ofNat (kcS (kcW E gd d a) k)) : s + 0 = Int64.ofNat (kcS (kcW E gd d a) (k + 1)) := by
  have h1 : kcW E gd d a k = 0 := Nat.eq_zero_of_not_pos (fun q => hb ((h.2 k hk).mpr q))
  rw [hs, Int64.add_zero]
  congr 1
  show kcS (kcW E gd d a) k = kcS (kcW E gd d a) k + kcW E gd d a k
  rw [h1, Nat.add_zero]
theorem kwh_y {E : Nat → Nat → Nat → Bool} {gd d a x k : Nat} {f : Nat → Int64} (h : kcNx E gd d a x) (hw : kcWy E gd 0 f) (hd : d < gd) (hk : k < 10) (hb : x.testBit k = true) : f ((d + 1) * 10 + k) = Int64.ofNat (kcW E gd d a k) := by
  have h1 := kW_pos.mp ((h.2 k hk).mp hb)
  rw [hw (d + 1) (Nat.zero_le _) (by omega) k hk]
  unfold kcW
  rw [if_pos h1.1]
theorem kwh_n {E : Nat → Nat → Nat → Bool} {gd d a x k : Nat} (h : kcNx E gd d a x) (hk : k < 10) (hb : ¬ x.testBit k = true) : (0 : Int64) = Int64.ofNat (kcW E gd d a k) := by
  have h1 : kcW E gd d a k = 0 := Nat.eq_zero_of_not_pos (fun q => hb ((h.2 k hk).mpr q))
  rw [h1]; rfl
theorem klt {a b : Nat} (ha : a < 9223372036854775808) (hb : b < 9223372036854775808) : Int64.ofNat a < Int64.ofNat b ↔ a < b := by
  rw [Int64.lt_iff_toInt_lt, Int64.toInt_ofNat_of_lt (by omega), Int64.toInt_ofNat_of_lt (by omega)]
  omega
theorem kcmp_ge {a b : Nat} (ha : a < 9223372036854775808) (hb : b < 9223372036854775808) : 0 ≤ lg_cmp (Int64.ofNat a) (Int64.ofNat b) ↔ b ≤ a := by
  rw [lg_cmp_ge, ← Int64.not_lt, klt ha hb, Nat.not_lt]
theorem kofn_sub {a b : Nat} (h : b ≤ a) : Int64.ofNat a - Int64.ofNat b = Int64.ofNat (a - b) := by
  have h1 : Int64.ofNat (a - b) + Int64.ofNat b = Int64.ofNat a := by rw [kofn_add, Nat.sub_add_cancel h]
  rw [← h1, Int64.add_sub_cancel]
theorem kW_le (E : Nat → Nat → Nat → Bool) {gd : Nat} (h : gd ≤ 9) (d a m : Nat) : kcW E gd d a m ≤ 1000000000 := by
  unfold kcW
  split
  · exact kcC_9 E (by omega) _ _
  · exact Nat.zero_le _
theorem kcT_10 (w : Nat → Nat) : kcT w 10 0 = kcS w 10 := by
  have h := kcT_S w 10 0
  rw [show kcS w 0 = 0 from rfl, Nat.zero_add, Nat.zero_add] at h
  exact h
theorem kcT_s {w : Nat → Nat} {j y : Nat} (hj : j < 10) (h : y < kcT w (10 - j) j) (hn : w j ≤ y) : y - w j < kcT w (10 - (j + 1)) (j + 1) := by
  rw [show 10 - j = (10 - (j + 1)) + 1 by omega] at h
  have h1 : y < w j + kcT w (10 - (j + 1)) (j + 1) := h
  omega
theorem kcT_e {w : Nat → Nat} {j y : Nat} (hj : 10 ≤ j) (h : y < kcT w (10 - j) j) : False := by
  rw [show 10 - j = 0 by omega] at h
  exact Nat.not_lt_zero y h
/-! laying -/
def kcLa (E : Nat → Nat → Nat → Bool) (i : Nat) (f : Nat → Int32) : Prop := ∀ d, d < i → ∀ p, p < 10 → kcLe E d p (f (d * 10 + p))
def kcLj (E : Nat → Nat → Nat → Bool) (i j : Nat) (f : Nat → Int32) : Prop := kcLa E i f ∧ ∀ p, p < j → kcLe E i p (f (i * 10 + p))
theorem kla_0 (E : Nat → Nat → Nat → Bool) (f : Nat → Int32) : kcLa E 0 f := fun d hd => absurd hd (Nat.not_lt_zero d)
theorem klj_0 {E : Nat → Nat → Nat → Bool} {i : Nat} {f : Nat → Int32} (h : kcLa E i f) : kcLj E i 0 f := ⟨h, fun p hp => absurd hp (Nat.not_lt_zero p)⟩
theorem klj_s {E : Nat → Nat → Nat → Bool} {i j : Nat} {f g : Nat → Int32} {v : Int32} (h : kcLj E i j f) (e : g = upd f (i * 10 + j) v) (hj : j < 10) (hv : kcLe E i j v) : kcLj E i (j + 1) g := by
  refine ⟨fun d hd p hp => ?_, fun p hp => ?_⟩
  · rw [kui_n e (by omega)]; exact h.1 d hd p hp
  · by_cases q : p = j
    · subst q; rw [kui_s e]; exact hv
    · rw [kui_n e (by omega)]; exact h.2 p (by omega)
theorem klj_10 {E : Nat → Nat → Nat → Bool} {i : Nat} {f : Nat → Int32} (h : kcLj E i 10 f) : kcLa E (i + 1) f := fun d hd p hp => by
  by_cases q : d = i
  · subst q; exact h.2 p hp
  · exact h.1 d (by omega) p hp
theorem kld_of {E : Nat → Nat → Nat → Bool} {gd : Nat} {f g : Nat → Int32} (h : kcLa E gd f) (hg : allV 1023 9 g) (h9 : gd ≤ 9) : kcLd E gd f g := fun d hd p hp => by
  obtain ⟨x, a, b, c⟩ := h d hd p hp
  refine ⟨x, 1023, a, hg d (by omega), b, by decide, fun m hm => ?_⟩
  have h3 : ∀ m, m < 10 → Nat.testBit 1023 m = true := by decide
  rw [Nat.testBit_and, h3 m hm, Bool.and_true]
  exact c m hm
theorem kle_al {L : LkS} {wn : Nat} {B W : Nat → Nat} {U : Nat → Bool} {li d p : Nat} (hu : U d = true) : kcLe (kcFo L wn B W U li) d p ((1 : Int32) <<< (nI (kcBec L wn (B d) (W d) d p 0 1) &&& 31)) := by
  have hk := kcTen_lt (kcV L 1 (kcNm wn (B d) (W d) d p 0 1))
  obtain ⟨h1, h2⟩ := kshl1 (k := kcBec L wn (B d) (W d) d p 0 1) hk
  refine ⟨_, h1, h2, fun m hm => ?_⟩
  rw [Nat.testBit_two_pow]
  unfold kcFo
  rw [if_pos hu]
  by_cases q : kcBec L wn (B d) (W d) d p 0 1 = m
  · rw [decide_eq_true q, q]; exact (beq_self_eq_true m).symm
  · rw [decide_eq_false q]; exact (beq_eq_false_iff_ne.mpr q).symm
theorem kle_mb {L : LkS} {wn : Nat} {B W : Nat → Nat} {U : Nat → Bool} {li d p : Nat} (hu : ¬ U d = true) : kcLe (kcFo L wn B W U li) d p (nI (kcMB (kcSaid L wn (B d) (W d) d) (fun t => kcBec L wn (B d) (W d) d p t 0) li)) := by
  refine ⟨_, rfl, kcMB_lt _ _ _, fun m hm => ?_⟩
  unfold kcMB kcFo
  rw [kcK_bit, decide_eq_true hm, Bool.true_and, if_neg hu]
theorem kle_mb0 {L : LkS} {wn : Nat} {B W : Nat → Nat} {U : Nat → Bool} {li d p : Nat} (hu : ¬ U d = true) (h0 : li = 0) : kcLe (kcFo L wn B W U li) d p (nI (kcMB (kcSaid L wn (B d) (W d) d) (fun t => kcBec L wn (B d) (W d) d p t 0) 0)) := by
  subst h0; exact kle_mb hu
theorem krw_e {E : Nat → Nat → Nat → Bool} {gd a0 x i : Nat} {f : Nat → Int32} (h : kcRw E gd a0 x i f) (e : gd = i) : kcRw E gd a0 x gd f := by
  subst e; exact h
set_option maxHeartbeats 4000000 in
set_option maxRecDepth 100000 in
theorem c_kntz (l : Launch) (D : va_G) (cI cJ cC cZ cS : ClassId) (x : Nat) (hx0 : 1 ≤ x) (hx1 : x < 1024) : skM l yJ6_numberOfTrailingZeros_0f7a4 cJ6_numberOfTrailingZeros_0f7a4 2 (some .int) 0 0 0 0 D (skT cI cJ cC cZ cS) [.int (nI x)] [] (skI D (skT cI cJ cC cZ cS) (fun (r : Int32) (u : va_W) => ∃ (v : Nat), kcLow x v ∧ r = nI v ∧ u = [])) := by
  refine skM_of pf_J6_numberOfTrailingZeros_0f7a4 (Nat.le_of_ble_eq_true rfl) ?_
  intro p e s m below meth c A ls E hP hD hl
  refine skE_el E (fun hx hb hr hml hlocks hin hown hts hK hA => ?_)
  have hown : s.vm.findClass RJ6 = some m.cls := hown
  have hS : va_S A s.heap s.heap [] := va_S.rf
  have hl : lv_has ls 2 [(0, .int (nI x))] := hl
  refine lv_iload_n hx hb dJ6_numberOfTrailingZeros_0f7a4_0 rfl (lv_at hl 0 rfl) ?_
  refine lv_iconst (v := (-1)) hx hb dJ6_numberOfTrailingZeros_0f7a4_1 (by decide) ?_
  refine lv_ixor hx hb dJ6_numberOfTrailingZeros_0f7a4_2 ?_
  refine lv_iload_n hx hb dJ6_numberOfTrailingZeros_0f7a4_3 rfl (lv_at hl 0 rfl) ?_
  refine lv_iconst (v := 1) hx hb dJ6_numberOfTrailingZeros_0f7a4_4 ic_1 ?_
  refine lv_isub hx hb dJ6_numberOfTrailingZeros_0f7a4_5 ?_
  refine sk_top (nI (x - 1)) (nsub x 1 (by omega)) ?_
  refine lv_iand hx hb dJ6_numberOfTrailingZeros_0f7a4_6 ?_
  obtain ⟨v, hv10, hlow, hy⟩ := kntz hx0 hx1
  rcases (show v = 0 ∨ v = 1 ∨ v = 2 ∨ v = 3 ∨ v = 4 ∨ v = 5 ∨ v = 6 ∨ v = 7 ∨ v = 8 ∨ v = 9 by omega) with rfl | rfl | rfl | rfl | rfl | rfl | rfl | rfl | rfl | rfl
  · refine sk_top 0 (hy.trans (by decide)) ?_
    refine lv_istore_n (lv' := [(0, .int 0)]) hx hb dJ6_numberOfTrailingZeros_0f7a4_7 rfl hl (by decide) rfl (fun ls hl => ?_)
    refine lv_iload_n hx hb dJ6_numberOfTrailingZeros_0f7a4_8 rfl (lv_at hl 0 rfl) ?_
    refine lv_if_gt (tgt := 17) hx hb dJ6_numberOfTrailingZeros_0f7a4_9 (by decide) (fun c => absurd c (by decide)) (fun c_1 => ?_)
    refine lv_iload_n hx hb dJ6_numberOfTrailingZeros_0f7a4_12 rfl (lv_at hl 0 rfl) ?_
    refine lv_bipush (v := 32) hx hb dJ6_numberOfTrailingZeros_0f7a4_13 (by decide) ?_
    refine lv_iand hx hb dJ6_numberOfTrailingZeros_0f7a4_15 ?_
    refine sk_top 0 (by decide) ?_
    exact sk_iret hx hb hr rfl hlocks hK hP hD hS (⟨0, hlow, rfl, rfl⟩) (Nat.le_of_ble_eq_true rfl) (Nat.le_of_ble_eq_true rfl) dJ6_numberOfTrailingZeros_0f7a4_16
  · refine sk_top 1 (hy.trans (by decide)) ?_
    refine lv_istore_n (lv' := [(0, .int 1)]) hx hb dJ6_numberOfTrailingZeros_0f7a4_7 rfl hl (by decide) rfl (fun ls hl => ?_)
    refine lv_iload_n hx hb dJ6_numberOfTrailingZeros_0f7a4_8 rfl (lv_at hl 0 rfl) ?_
    refine lv_if_gt (tgt := 17) hx hb dJ6_numberOfTrailingZeros_0f7a4_9 (by decide) (fun c_2 => ?_) (fun c => absurd c (by decide))
    refine lv_iconst (v := 1) hx hb dJ6_numberOfTrailingZeros_0f7a4_17 ic_1 ?_
    refine lv_istore_n (lv' := [(1, .int 1), (0, .int 1)]) hx hb dJ6_numberOfTrailingZeros_0f7a4_18 rfl hl (by decide) rfl (fun ls hl => ?_)
    refine lv_iload_n hx hb dJ6_numberOfTrailingZeros_0f7a4_19 rfl (lv_at hl 1 rfl) ?_
    refine lv_ldcw (v := 65536) hx hb hown (hts _ w_4_119) dJ6_numberOfTrailingZeros_0f7a4_20 ?_
    refine lv_icmp_le (tgt := 34) hx hb dJ6_numberOfTrailingZeros_0f7a4_23 (by decide) (fun c_3 => ?_) (fun c => absurd c (by decide))
    refine lv_iload_n hx hb dJ6_numberOfTrailingZeros_0f7a4_34 rfl (lv_at hl 1 rfl) ?_
    refine lv_sipush (v := 256) hx hb dJ6_numberOfTrailingZeros_0f7a4_35 (by decide) ?_
    refine lv_icmp_le (tgt := 49) hx hb dJ6_numberOfTrailingZeros_0f7a4_38 (by decide) (fun c_4 => ?_) (fun c => absurd c (by decide))
    refine lv_iload_n hx hb dJ6_numberOfTrailingZeros_0f7a4_49 rfl (lv_at hl 1 rfl) ?_
    refine lv_bipush (v := 16) hx hb dJ6_numberOfTrailingZeros_0f7a4_50 (by decide) ?_
    refine lv_icmp_le (tgt := 62) hx hb dJ6_numberOfTrailingZeros_0f7a4_52 (by decide) (fun c_5 => ?_) (fun c => absurd c (by decide))
    refine lv_iload_n hx hb dJ6_numberOfTrailingZeros_0f7a4_62 rfl (lv_at hl 1 rfl) ?_
    refine lv_iconst (v := 4) hx hb dJ6_numberOfTrailingZeros_0f7a4_63 ic_4 ?_
    refine lv_icmp_le (tgt := 74) hx hb dJ6_numberOfTrailingZeros_0f7a4_64 (by decide) (fun c_6 => ?_) (fun c => absurd c (by decide))
    refine lv_iload_n hx hb dJ6_numberOfTrailingZeros_0f7a4_74 rfl (lv_at hl 0 rfl) ?_
    refine lv_iload_n hx hb dJ6_numberOfTrailingZeros_0f7a4_75 rfl (lv_at hl 1 rfl) ?_
    refine lv_iconst (v := 1) hx hb dJ6_numberOfTrailingZeros_0f7a4_76 ic_1 ?_
    refine lv_iushr hx hb dJ6_numberOfTrailingZeros_0f7a4_77 rfl ?_
    refine sk_top 0 (by decide) ?_
    refine lv_iadd hx hb dJ6_numberOfTrailingZeros_0f7a4_78 ?_
    refine sk_top 1 (by decide) ?_
    exact sk_iret hx hb hr rfl hlocks hK hP hD hS (⟨1, hlow, rfl, rfl⟩) (Nat.le_of_ble_eq_true rfl) (Nat.le_of_ble_eq_true rfl) dJ6_numberOfTrailingZeros_0f7a4_79
  · refine sk_top 3 (hy.trans (by decide)) ?_
    refine lv_istore_n (lv' := [(0, .int 3)]) hx hb dJ6_numberOfTrailingZeros_0f7a4_7 rfl hl (by decide) rfl (fun ls hl => ?_)
    refine lv_iload_n hx hb dJ6_numberOfTrailingZeros_0f7a4_8 rfl (lv_at hl 0 rfl) ?_
    refine lv_if_gt (tgt := 17) hx hb dJ6_numberOfTrailingZeros_0f7a4_9 (by decide) (fun c_7 => ?_) (fun c => absurd c (by decide))
    refine lv_iconst (v := 1) hx hb dJ6_numberOfTrailingZeros_0f7a4_17 ic_1 ?_
    refine lv_istore_n (lv' := [(1, .int 1), (0, .int 3)]) hx hb dJ6_numberOfTrailingZeros_0f7a4_18 rfl hl (by decide) rfl (fun ls hl => ?_)
    refine lv_iload_n hx hb dJ6_numberOfTrailingZeros_0f7a4_19 rfl (lv_at hl 1 rfl) ?_
    refine lv_ldcw (v := 65536) hx hb hown (hts _ w_4_119) dJ6_numberOfTrailingZeros_0f7a4_20 ?_
    refine lv_icmp_le (tgt := 34) hx hb dJ6_numberOfTrailingZeros_0f7a4_23 (by decide) (fun c_8 => ?_) (fun c => absurd c (by decide))
    refine lv_iload_n hx hb dJ6_numberOfTrailingZeros_0f7a4_34 rfl (lv_at hl 1 rfl) ?_
    refine lv_sipush (v := 256) hx hb dJ6_numberOfTrailingZeros_0f7a4_35 (by decide) ?_
    refine lv_icmp_le (tgt := 49) hx hb dJ6_numberOfTrailingZeros_0f7a4_38 (by decide) (fun c_9 => ?_) (fun c => absurd c (by decide))
    refine lv_iload_n hx hb dJ6_numberOfTrailingZeros_0f7a4_49 rfl (lv_at hl 1 rfl) ?_
    refine lv_bipush (v := 16) hx hb dJ6_numberOfTrailingZeros_0f7a4_50 (by decide) ?_
    refine lv_icmp_le (tgt := 62) hx hb dJ6_numberOfTrailingZeros_0f7a4_52 (by decide) (fun c_10 => ?_) (fun c => absurd c (by decide))
    refine lv_iload_n hx hb dJ6_numberOfTrailingZeros_0f7a4_62 rfl (lv_at hl 1 rfl) ?_
    refine lv_iconst (v := 4) hx hb dJ6_numberOfTrailingZeros_0f7a4_63 ic_4 ?_
    refine lv_icmp_le (tgt := 74) hx hb dJ6_numberOfTrailingZeros_0f7a4_64 (by decide) (fun c_11 => ?_) (fun c => absurd c (by decide))
    refine lv_iload_n hx hb dJ6_numberOfTrailingZeros_0f7a4_74 rfl (lv_at hl 0 rfl) ?_
    refine lv_iload_n hx hb dJ6_numberOfTrailingZeros_0f7a4_75 rfl (lv_at hl 1 rfl) ?_
    refine lv_iconst (v := 1) hx hb dJ6_numberOfTrailingZeros_0f7a4_76 ic_1 ?_
    refine lv_iushr hx hb dJ6_numberOfTrailingZeros_0f7a4_77 rfl ?_
    refine sk_top 1 (by decide) ?_
    refine lv_iadd hx hb dJ6_numberOfTrailingZeros_0f7a4_78 ?_
    refine sk_top 2 (by decide) ?_
    exact sk_iret hx hb hr rfl hlocks hK hP hD hS (⟨2, hlow, rfl, rfl⟩) (Nat.le_of_ble_eq_true rfl) (Nat.le_of_ble_eq_true rfl) dJ6_numberOfTrailingZeros_0f7a4_79
  · refine sk_top 7 (hy.trans (by decide)) ?_
    refine lv_istore_n (lv' := [(0, .int 7)]) hx hb dJ6_numberOfTrailingZeros_0f7a4_7 rfl hl (by decide) rfl (fun ls hl => ?_)
    refine lv_iload_n hx hb dJ6_numberOfTrailingZeros_0f7a4_8 rfl (lv_at hl 0 rfl) ?_
    refine lv_if_gt (tgt := 17) hx hb dJ6_numberOfTrailingZeros_0f7a4_9 (by decide) (fun c_12 => ?_) (fun c => absurd c (by decide))
    refine lv_iconst (v := 1) hx hb dJ6_numberOfTrailingZeros_0f7a4_17 ic_1 ?_
    refine lv_istore_n (lv' := [(1, .int 1), (0, .int 7)]) hx hb dJ6_numberOfTrailingZeros_0f7a4_18 rfl hl (by decide) rfl (fun ls hl => ?_)
    refine lv_iload_n hx hb dJ6_numberOfTrailingZeros_0f7a4_19 rfl (lv_at hl 1 rfl) ?_
    refine lv_ldcw (v := 65536) hx hb hown (hts _ w_4_119) dJ6_numberOfTrailingZeros_0f7a4_20 ?_
    refine lv_icmp_le (tgt := 34) hx hb dJ6_numberOfTrailingZeros_0f7a4_23 (by decide) (fun c_13 => ?_) (fun c => absurd c (by decide))
    refine lv_iload_n hx hb dJ6_numberOfTrailingZeros_0f7a4_34 rfl (lv_at hl 1 rfl) ?_
    refine lv_sipush (v := 256) hx hb dJ6_numberOfTrailingZeros_0f7a4_35 (by decide) ?_
    refine lv_icmp_le (tgt := 49) hx hb dJ6_numberOfTrailingZeros_0f7a4_38 (by decide) (fun c_14 => ?_) (fun c => absurd c (by decide))
    refine lv_iload_n hx hb dJ6_numberOfTrailingZeros_0f7a4_49 rfl (lv_at hl 1 rfl) ?_
    refine lv_bipush (v := 16) hx hb dJ6_numberOfTrailingZeros_0f7a4_50 (by decide) ?_
    refine lv_icmp_le (tgt := 62) hx hb dJ6_numberOfTrailingZeros_0f7a4_52 (by decide) (fun c_15 => ?_) (fun c => absurd c (by decide))
    refine lv_iload_n hx hb dJ6_numberOfTrailingZeros_0f7a4_62 rfl (lv_at hl 1 rfl) ?_
    refine lv_iconst (v := 4) hx hb dJ6_numberOfTrailingZeros_0f7a4_63 ic_4 ?_
    refine lv_icmp_le (tgt := 74) hx hb dJ6_numberOfTrailingZeros_0f7a4_64 (by decide) (fun c => absurd c (by decide)) (fun c_16 => ?_)
    refine lv_iinc (v := 3) (lv' := [(1, .int 3), (0, .int 7)]) hx hb dJ6_numberOfTrailingZeros_0f7a4_67 hl (k := 0) rfl (by decide) (by decide) rfl (fun ls hl => ?_)
    refine lv_iload_n hx hb dJ6_numberOfTrailingZeros_0f7a4_70 rfl (lv_at hl 1 rfl) ?_
    refine lv_iconst (v := 2) hx hb dJ6_numberOfTrailingZeros_0f7a4_71 ic_2 ?_
    refine lv_iushr hx hb dJ6_numberOfTrailingZeros_0f7a4_72 rfl ?_
    refine sk_top 1 (by decide) ?_
    refine lv_istore_n (lv' := [(0, .int 1), (1, .int 3)]) hx hb dJ6_numberOfTrailingZeros_0f7a4_73 rfl hl (by decide) rfl (fun ls hl => ?_)
    refine lv_iload_n hx hb dJ6_numberOfTrailingZeros_0f7a4_74 rfl (lv_at hl 1 rfl) ?_
    refine lv_iload_n hx hb dJ6_numberOfTrailingZeros_0f7a4_75 rfl (lv_at hl 0 rfl) ?_
    refine lv_iconst (v := 1) hx hb dJ6_numberOfTrailingZeros_0f7a4_76 ic_1 ?_
    refine lv_iushr hx hb dJ6_numberOfTrailingZeros_0f7a4_77 rfl ?_
    refine sk_top 0 (by decide) ?_
    refine lv_iadd hx hb dJ6_numberOfTrailingZeros_0f7a4_78 ?_
    refine sk_top 3 (by decide) ?_
    exact sk_iret hx hb hr rfl hlocks hK hP hD hS (⟨3, hlow, rfl, rfl⟩) (Nat.le_of_ble_eq_true rfl) (Nat.le_of_ble_eq_true rfl) dJ6_numberOfTrailingZeros_0f7a4_79
  · refine sk_top 15 (hy.trans (by decide)) ?_
    refine lv_istore_n (lv' := [(0, .int 15)]) hx hb dJ6_numberOfTrailingZeros_0f7a4_7 rfl hl (by decide) rfl (fun ls hl => ?_)
    refine lv_iload_n hx hb dJ6_numberOfTrailingZeros_0f7a4_8 rfl (lv_at hl 0 rfl) ?_
    refine lv_if_gt (tgt := 17) hx hb dJ6_numberOfTrailingZeros_0f7a4_9 (by decide) (fun c_17 => ?_) (fun c => absurd c (by decide))
    refine lv_iconst (v := 1) hx hb dJ6_numberOfTrailingZeros_0f7a4_17 ic_1 ?_
    refine lv_istore_n (lv' := [(1, .int 1), (0, .int 15)]) hx hb dJ6_numberOfTrailingZeros_0f7a4_18 rfl hl (by decide) rfl (fun ls hl => ?_)
    refine lv_iload_n hx hb dJ6_numberOfTrailingZeros_0f7a4_19 rfl (lv_at hl 1 rfl) ?_
    refine lv_ldcw (v := 65536) hx hb hown (hts _ w_4_119) dJ6_numberOfTrailingZeros_0f7a4_20 ?_
    refine lv_icmp_le (tgt := 34) hx hb dJ6_numberOfTrailingZeros_0f7a4_23 (by decide) (fun c_18 => ?_) (fun c => absurd c (by decide))
    refine lv_iload_n hx hb dJ6_numberOfTrailingZeros_0f7a4_34 rfl (lv_at hl 1 rfl) ?_
    refine lv_sipush (v := 256) hx hb dJ6_numberOfTrailingZeros_0f7a4_35 (by decide) ?_
    refine lv_icmp_le (tgt := 49) hx hb dJ6_numberOfTrailingZeros_0f7a4_38 (by decide) (fun c_19 => ?_) (fun c => absurd c (by decide))
    refine lv_iload_n hx hb dJ6_numberOfTrailingZeros_0f7a4_49 rfl (lv_at hl 1 rfl) ?_
    refine lv_bipush (v := 16) hx hb dJ6_numberOfTrailingZeros_0f7a4_50 (by decide) ?_
    refine lv_icmp_le (tgt := 62) hx hb dJ6_numberOfTrailingZeros_0f7a4_52 (by decide) (fun c_20 => ?_) (fun c => absurd c (by decide))
    refine lv_iload_n hx hb dJ6_numberOfTrailingZeros_0f7a4_62 rfl (lv_at hl 1 rfl) ?_
    refine lv_iconst (v := 4) hx hb dJ6_numberOfTrailingZeros_0f7a4_63 ic_4 ?_
    refine lv_icmp_le (tgt := 74) hx hb dJ6_numberOfTrailingZeros_0f7a4_64 (by decide) (fun c => absurd c (by decide)) (fun c_21 => ?_)
    refine lv_iinc (v := 3) (lv' := [(1, .int 3), (0, .int 15)]) hx hb dJ6_numberOfTrailingZeros_0f7a4_67 hl (k := 0) rfl (by decide) (by decide) rfl (fun ls hl => ?_)
    refine lv_iload_n hx hb dJ6_numberOfTrailingZeros_0f7a4_70 rfl (lv_at hl 1 rfl) ?_
    refine lv_iconst (v := 2) hx hb dJ6_numberOfTrailingZeros_0f7a4_71 ic_2 ?_
    refine lv_iushr hx hb dJ6_numberOfTrailingZeros_0f7a4_72 rfl ?_
    refine sk_top 3 (by decide) ?_
    refine lv_istore_n (lv' := [(0, .int 3), (1, .int 3)]) hx hb dJ6_numberOfTrailingZeros_0f7a4_73 rfl hl (by decide) rfl (fun ls hl => ?_)
    refine lv_iload_n hx hb dJ6_numberOfTrailingZeros_0f7a4_74 rfl (lv_at hl 1 rfl) ?_
    refine lv_iload_n hx hb dJ6_numberOfTrailingZeros_0f7a4_75 rfl (lv_at hl 0 rfl) ?_
    refine lv_iconst (v := 1) hx hb dJ6_numberOfTrailingZeros_0f7a4_76 ic_1 ?_
    refine lv_iushr hx hb dJ6_numberOfTrailingZeros_0f7a4_77 rfl ?_
    refine sk_top 1 (by decide) ?_
    refine lv_iadd hx hb dJ6_numberOfTrailingZeros_0f7a4_78 ?_
    refine sk_top 4 (by decide) ?_
    exact sk_iret hx hb hr rfl hlocks hK hP hD hS (⟨4, hlow, rfl, rfl⟩) (Nat.le_of_ble_eq_true rfl) (Nat.le_of_ble_eq_true rfl) dJ6_numberOfTrailingZeros_0f7a4_79
  · refine sk_top 31 (hy.trans (by decide)) ?_
    refine lv_istore_n (lv' := [(0, .int 31)]) hx hb dJ6_numberOfTrailingZeros_0f7a4_7 rfl hl (by decide) rfl (fun ls hl => ?_)
    refine lv_iload_n hx hb dJ6_numberOfTrailingZeros_0f7a4_8 rfl (lv_at hl 0 rfl) ?_
    refine lv_if_gt (tgt := 17) hx hb dJ6_numberOfTrailingZeros_0f7a4_9 (by decide) (fun c_22 => ?_) (fun c => absurd c (by decide))
    refine lv_iconst (v := 1) hx hb dJ6_numberOfTrailingZeros_0f7a4_17 ic_1 ?_
    refine lv_istore_n (lv' := [(1, .int 1), (0, .int 31)]) hx hb dJ6_numberOfTrailingZeros_0f7a4_18 rfl hl (by decide) rfl (fun ls hl => ?_)
    refine lv_iload_n hx hb dJ6_numberOfTrailingZeros_0f7a4_19 rfl (lv_at hl 1 rfl) ?_
    refine lv_ldcw (v := 65536) hx hb hown (hts _ w_4_119) dJ6_numberOfTrailingZeros_0f7a4_20 ?_
    refine lv_icmp_le (tgt := 34) hx hb dJ6_numberOfTrailingZeros_0f7a4_23 (by decide) (fun c_23 => ?_) (fun c => absurd c (by decide))
    refine lv_iload_n hx hb dJ6_numberOfTrailingZeros_0f7a4_34 rfl (lv_at hl 1 rfl) ?_
    refine lv_sipush (v := 256) hx hb dJ6_numberOfTrailingZeros_0f7a4_35 (by decide) ?_
    refine lv_icmp_le (tgt := 49) hx hb dJ6_numberOfTrailingZeros_0f7a4_38 (by decide) (fun c_24 => ?_) (fun c => absurd c (by decide))
    refine lv_iload_n hx hb dJ6_numberOfTrailingZeros_0f7a4_49 rfl (lv_at hl 1 rfl) ?_
    refine lv_bipush (v := 16) hx hb dJ6_numberOfTrailingZeros_0f7a4_50 (by decide) ?_
    refine lv_icmp_le (tgt := 62) hx hb dJ6_numberOfTrailingZeros_0f7a4_52 (by decide) (fun c => absurd c (by decide)) (fun c_25 => ?_)
    refine lv_iinc (v := 5) (lv' := [(1, .int 5), (0, .int 31)]) hx hb dJ6_numberOfTrailingZeros_0f7a4_55 hl (k := 0) rfl (by decide) (by decide) rfl (fun ls hl => ?_)
    refine lv_iload_n hx hb dJ6_numberOfTrailingZeros_0f7a4_58 rfl (lv_at hl 1 rfl) ?_
    refine lv_iconst (v := 4) hx hb dJ6_numberOfTrailingZeros_0f7a4_59 ic_4 ?_
    refine lv_iushr hx hb dJ6_numberOfTrailingZeros_0f7a4_60 rfl ?_
    refine sk_top 1 (by decide) ?_
    refine lv_istore_n (lv' := [(0, .int 1), (1, .int 5)]) hx hb dJ6_numberOfTrailingZeros_0f7a4_61 rfl hl (by decide) rfl (fun ls hl => ?_)
    refine lv_iload_n hx hb dJ6_numberOfTrailingZeros_0f7a4_62 rfl (lv_at hl 0 rfl) ?_
    refine lv_iconst (v := 4) hx hb dJ6_numberOfTrailingZeros_0f7a4_63 ic_4 ?_
    refine lv_icmp_le (tgt := 74) hx hb dJ6_numberOfTrailingZeros_0f7a4_64 (by decide) (fun c_26 => ?_) (fun c => absurd c (by decide))
    refine lv_iload_n hx hb dJ6_numberOfTrailingZeros_0f7a4_74 rfl (lv_at hl 1 rfl) ?_
    refine lv_iload_n hx hb dJ6_numberOfTrailingZeros_0f7a4_75 rfl (lv_at hl 0 rfl) ?_
    refine lv_iconst (v := 1) hx hb dJ6_numberOfTrailingZeros_0f7a4_76 ic_1 ?_
    refine lv_iushr hx hb dJ6_numberOfTrailingZeros_0f7a4_77 rfl ?_
    refine sk_top 0 (by decide) ?_
    refine lv_iadd hx hb dJ6_numberOfTrailingZeros_0f7a4_78 ?_
    refine sk_top 5 (by decide) ?_
    exact sk_iret hx hb hr rfl hlocks hK hP hD hS (⟨5, hlow, rfl, rfl⟩) (Nat.le_of_ble_eq_true rfl) (Nat.le_of_ble_eq_true rfl) dJ6_numberOfTrailingZeros_0f7a4_79
  · refine sk_top 63 (hy.trans (by decide)) ?_
    refine lv_istore_n (lv' := [(0, .int 63)]) hx hb dJ6_numberOfTrailingZeros_0f7a4_7 rfl hl (by decide) rfl (fun ls hl => ?_)
    refine lv_iload_n hx hb dJ6_numberOfTrailingZeros_0f7a4_8 rfl (lv_at hl 0 rfl) ?_
    refine lv_if_gt (tgt := 17) hx hb dJ6_numberOfTrailingZeros_0f7a4_9 (by decide) (fun c_27 => ?_) (fun c => absurd c (by decide))
    refine lv_iconst (v := 1) hx hb dJ6_numberOfTrailingZeros_0f7a4_17 ic_1 ?_
    refine lv_istore_n (lv' := [(1, .int 1), (0, .int 63)]) hx hb dJ6_numberOfTrailingZeros_0f7a4_18 rfl hl (by decide) rfl (fun ls hl => ?_)
    refine lv_iload_n hx hb dJ6_numberOfTrailingZeros_0f7a4_19 rfl (lv_at hl 1 rfl) ?_
    refine lv_ldcw (v := 65536) hx hb hown (hts _ w_4_119) dJ6_numberOfTrailingZeros_0f7a4_20 ?_
    refine lv_icmp_le (tgt := 34) hx hb dJ6_numberOfTrailingZeros_0f7a4_23 (by decide) (fun c_28 => ?_) (fun c => absurd c (by decide))
    refine lv_iload_n hx hb dJ6_numberOfTrailingZeros_0f7a4_34 rfl (lv_at hl 1 rfl) ?_
    refine lv_sipush (v := 256) hx hb dJ6_numberOfTrailingZeros_0f7a4_35 (by decide) ?_
    refine lv_icmp_le (tgt := 49) hx hb dJ6_numberOfTrailingZeros_0f7a4_38 (by decide) (fun c_29 => ?_) (fun c => absurd c (by decide))
    refine lv_iload_n hx hb dJ6_numberOfTrailingZeros_0f7a4_49 rfl (lv_at hl 1 rfl) ?_
    refine lv_bipush (v := 16) hx hb dJ6_numberOfTrailingZeros_0f7a4_50 (by decide) ?_
    refine lv_icmp_le (tgt := 62) hx hb dJ6_numberOfTrailingZeros_0f7a4_52 (by decide) (fun c => absurd c (by decide)) (fun c_30 => ?_)
    refine lv_iinc (v := 5) (lv' := [(1, .int 5), (0, .int 63)]) hx hb dJ6_numberOfTrailingZeros_0f7a4_55 hl (k := 0) rfl (by decide) (by decide) rfl (fun ls hl => ?_)
    refine lv_iload_n hx hb dJ6_numberOfTrailingZeros_0f7a4_58 rfl (lv_at hl 1 rfl) ?_
    refine lv_iconst (v := 4) hx hb dJ6_numberOfTrailingZeros_0f7a4_59 ic_4 ?_
    refine lv_iushr hx hb dJ6_numberOfTrailingZeros_0f7a4_60 rfl ?_
    refine sk_top 3 (by decide) ?_
    refine lv_istore_n (lv' := [(0, .int 3), (1, .int 5)]) hx hb dJ6_numberOfTrailingZeros_0f7a4_61 rfl hl (by decide) rfl (fun ls hl => ?_)
    refine lv_iload_n hx hb dJ6_numberOfTrailingZeros_0f7a4_62 rfl (lv_at hl 0 rfl) ?_
    refine lv_iconst (v := 4) hx hb dJ6_numberOfTrailingZeros_0f7a4_63 ic_4 ?_
    refine lv_icmp_le (tgt := 74) hx hb dJ6_numberOfTrailingZeros_0f7a4_64 (by decide) (fun c_31 => ?_) (fun c => absurd c (by decide))
    refine lv_iload_n hx hb dJ6_numberOfTrailingZeros_0f7a4_74 rfl (lv_at hl 1 rfl) ?_
    refine lv_iload_n hx hb dJ6_numberOfTrailingZeros_0f7a4_75 rfl (lv_at hl 0 rfl) ?_
    refine lv_iconst (v := 1) hx hb dJ6_numberOfTrailingZeros_0f7a4_76 ic_1 ?_
    refine lv_iushr hx hb dJ6_numberOfTrailingZeros_0f7a4_77 rfl ?_
    refine sk_top 1 (by decide) ?_
    refine lv_iadd hx hb dJ6_numberOfTrailingZeros_0f7a4_78 ?_
    refine sk_top 6 (by decide) ?_
    exact sk_iret hx hb hr rfl hlocks hK hP hD hS (⟨6, hlow, rfl, rfl⟩) (Nat.le_of_ble_eq_true rfl) (Nat.le_of_ble_eq_true rfl) dJ6_numberOfTrailingZeros_0f7a4_79
  · refine sk_top 127 (hy.trans (by decide)) ?_
    refine lv_istore_n (lv' := [(0, .int 127)]) hx hb dJ6_numberOfTrailingZeros_0f7a4_7 rfl hl (by decide) rfl (fun ls hl => ?_)
    refine lv_iload_n hx hb dJ6_numberOfTrailingZeros_0f7a4_8 rfl (lv_at hl 0 rfl) ?_
    refine lv_if_gt (tgt := 17) hx hb dJ6_numberOfTrailingZeros_0f7a4_9 (by decide) (fun c_32 => ?_) (fun c => absurd c (by decide))
    refine lv_iconst (v := 1) hx hb dJ6_numberOfTrailingZeros_0f7a4_17 ic_1 ?_
    refine lv_istore_n (lv' := [(1, .int 1), (0, .int 127)]) hx hb dJ6_numberOfTrailingZeros_0f7a4_18 rfl hl (by decide) rfl (fun ls hl => ?_)
    refine lv_iload_n hx hb dJ6_numberOfTrailingZeros_0f7a4_19 rfl (lv_at hl 1 rfl) ?_
    refine lv_ldcw (v := 65536) hx hb hown (hts _ w_4_119) dJ6_numberOfTrailingZeros_0f7a4_20 ?_
    refine lv_icmp_le (tgt := 34) hx hb dJ6_numberOfTrailingZeros_0f7a4_23 (by decide) (fun c_33 => ?_) (fun c => absurd c (by decide))
    refine lv_iload_n hx hb dJ6_numberOfTrailingZeros_0f7a4_34 rfl (lv_at hl 1 rfl) ?_
    refine lv_sipush (v := 256) hx hb dJ6_numberOfTrailingZeros_0f7a4_35 (by decide) ?_
    refine lv_icmp_le (tgt := 49) hx hb dJ6_numberOfTrailingZeros_0f7a4_38 (by decide) (fun c_34 => ?_) (fun c => absurd c (by decide))
    refine lv_iload_n hx hb dJ6_numberOfTrailingZeros_0f7a4_49 rfl (lv_at hl 1 rfl) ?_
    refine lv_bipush (v := 16) hx hb dJ6_numberOfTrailingZeros_0f7a4_50 (by decide) ?_
    refine lv_icmp_le (tgt := 62) hx hb dJ6_numberOfTrailingZeros_0f7a4_52 (by decide) (fun c => absurd c (by decide)) (fun c_35 => ?_)
    refine lv_iinc (v := 5) (lv' := [(1, .int 5), (0, .int 127)]) hx hb dJ6_numberOfTrailingZeros_0f7a4_55 hl (k := 0) rfl (by decide) (by decide) rfl (fun ls hl => ?_)
    refine lv_iload_n hx hb dJ6_numberOfTrailingZeros_0f7a4_58 rfl (lv_at hl 1 rfl) ?_
    refine lv_iconst (v := 4) hx hb dJ6_numberOfTrailingZeros_0f7a4_59 ic_4 ?_
    refine lv_iushr hx hb dJ6_numberOfTrailingZeros_0f7a4_60 rfl ?_
    refine sk_top 7 (by decide) ?_
    refine lv_istore_n (lv' := [(0, .int 7), (1, .int 5)]) hx hb dJ6_numberOfTrailingZeros_0f7a4_61 rfl hl (by decide) rfl (fun ls hl => ?_)
    refine lv_iload_n hx hb dJ6_numberOfTrailingZeros_0f7a4_62 rfl (lv_at hl 0 rfl) ?_
    refine lv_iconst (v := 4) hx hb dJ6_numberOfTrailingZeros_0f7a4_63 ic_4 ?_
    refine lv_icmp_le (tgt := 74) hx hb dJ6_numberOfTrailingZeros_0f7a4_64 (by decide) (fun c => absurd c (by decide)) (fun c_36 => ?_)
    refine lv_iinc (v := 7) (lv' := [(1, .int 7), (0, .int 7)]) hx hb dJ6_numberOfTrailingZeros_0f7a4_67 hl (k := 1) rfl (by decide) (by decide) rfl (fun ls hl => ?_)
    refine lv_iload_n hx hb dJ6_numberOfTrailingZeros_0f7a4_70 rfl (lv_at hl 1 rfl) ?_
    refine lv_iconst (v := 2) hx hb dJ6_numberOfTrailingZeros_0f7a4_71 ic_2 ?_
    refine lv_iushr hx hb dJ6_numberOfTrailingZeros_0f7a4_72 rfl ?_
    refine sk_top 1 (by decide) ?_
    refine lv_istore_n (lv' := [(0, .int 1), (1, .int 7)]) hx hb dJ6_numberOfTrailingZeros_0f7a4_73 rfl hl (by decide) rfl (fun ls hl => ?_)
    refine lv_iload_n hx hb dJ6_numberOfTrailingZeros_0f7a4_74 rfl (lv_at hl 1 rfl) ?_
    refine lv_iload_n hx hb dJ6_numberOfTrailingZeros_0f7a4_75 rfl (lv_at hl 0 rfl) ?_
    refine lv_iconst (v := 1) hx hb dJ6_numberOfTrailingZeros_0f7a4_76 ic_1 ?_
    refine lv_iushr hx hb dJ6_numberOfTrailingZeros_0f7a4_77 rfl ?_
    refine sk_top 0 (by decide) ?_
    refine lv_iadd hx hb dJ6_numberOfTrailingZeros_0f7a4_78 ?_
    refine sk_top 7 (by decide) ?_
    exact sk_iret hx hb hr rfl hlocks hK hP hD hS (⟨7, hlow, rfl, rfl⟩) (Nat.le_of_ble_eq_true rfl) (Nat.le_of_ble_eq_true rfl) dJ6_numberOfTrailingZeros_0f7a4_79
  · refine sk_top 255 (hy.trans (by decide)) ?_
    refine lv_istore_n (lv' := [(0, .int 255)]) hx hb dJ6_numberOfTrailingZeros_0f7a4_7 rfl hl (by decide) rfl (fun ls hl => ?_)
    refine lv_iload_n hx hb dJ6_numberOfTrailingZeros_0f7a4_8 rfl (lv_at hl 0 rfl) ?_
    refine lv_if_gt (tgt := 17) hx hb dJ6_numberOfTrailingZeros_0f7a4_9 (by decide) (fun c_37 => ?_) (fun c => absurd c (by decide))
    refine lv_iconst (v := 1) hx hb dJ6_numberOfTrailingZeros_0f7a4_17 ic_1 ?_
    refine lv_istore_n (lv' := [(1, .int 1), (0, .int 255)]) hx hb dJ6_numberOfTrailingZeros_0f7a4_18 rfl hl (by decide) rfl (fun ls hl => ?_)
    refine lv_iload_n hx hb dJ6_numberOfTrailingZeros_0f7a4_19 rfl (lv_at hl 1 rfl) ?_
    refine lv_ldcw (v := 65536) hx hb hown (hts _ w_4_119) dJ6_numberOfTrailingZeros_0f7a4_20 ?_
    refine lv_icmp_le (tgt := 34) hx hb dJ6_numberOfTrailingZeros_0f7a4_23 (by decide) (fun c_38 => ?_) (fun c => absurd c (by decide))
    refine lv_iload_n hx hb dJ6_numberOfTrailingZeros_0f7a4_34 rfl (lv_at hl 1 rfl) ?_
    refine lv_sipush (v := 256) hx hb dJ6_numberOfTrailingZeros_0f7a4_35 (by decide) ?_
    refine lv_icmp_le (tgt := 49) hx hb dJ6_numberOfTrailingZeros_0f7a4_38 (by decide) (fun c_39 => ?_) (fun c => absurd c (by decide))
    refine lv_iload_n hx hb dJ6_numberOfTrailingZeros_0f7a4_49 rfl (lv_at hl 1 rfl) ?_
    refine lv_bipush (v := 16) hx hb dJ6_numberOfTrailingZeros_0f7a4_50 (by decide) ?_
    refine lv_icmp_le (tgt := 62) hx hb dJ6_numberOfTrailingZeros_0f7a4_52 (by decide) (fun c => absurd c (by decide)) (fun c_40 => ?_)
    refine lv_iinc (v := 5) (lv' := [(1, .int 5), (0, .int 255)]) hx hb dJ6_numberOfTrailingZeros_0f7a4_55 hl (k := 0) rfl (by decide) (by decide) rfl (fun ls hl => ?_)
    refine lv_iload_n hx hb dJ6_numberOfTrailingZeros_0f7a4_58 rfl (lv_at hl 1 rfl) ?_
    refine lv_iconst (v := 4) hx hb dJ6_numberOfTrailingZeros_0f7a4_59 ic_4 ?_
    refine lv_iushr hx hb dJ6_numberOfTrailingZeros_0f7a4_60 rfl ?_
    refine sk_top 15 (by decide) ?_
    refine lv_istore_n (lv' := [(0, .int 15), (1, .int 5)]) hx hb dJ6_numberOfTrailingZeros_0f7a4_61 rfl hl (by decide) rfl (fun ls hl => ?_)
    refine lv_iload_n hx hb dJ6_numberOfTrailingZeros_0f7a4_62 rfl (lv_at hl 0 rfl) ?_
    refine lv_iconst (v := 4) hx hb dJ6_numberOfTrailingZeros_0f7a4_63 ic_4 ?_
    refine lv_icmp_le (tgt := 74) hx hb dJ6_numberOfTrailingZeros_0f7a4_64 (by decide) (fun c => absurd c (by decide)) (fun c_41 => ?_)
    refine lv_iinc (v := 7) (lv' := [(1, .int 7), (0, .int 15)]) hx hb dJ6_numberOfTrailingZeros_0f7a4_67 hl (k := 1) rfl (by decide) (by decide) rfl (fun ls hl => ?_)
    refine lv_iload_n hx hb dJ6_numberOfTrailingZeros_0f7a4_70 rfl (lv_at hl 1 rfl) ?_
    refine lv_iconst (v := 2) hx hb dJ6_numberOfTrailingZeros_0f7a4_71 ic_2 ?_
    refine lv_iushr hx hb dJ6_numberOfTrailingZeros_0f7a4_72 rfl ?_
    refine sk_top 3 (by decide) ?_
    refine lv_istore_n (lv' := [(0, .int 3), (1, .int 7)]) hx hb dJ6_numberOfTrailingZeros_0f7a4_73 rfl hl (by decide) rfl (fun ls hl => ?_)
    refine lv_iload_n hx hb dJ6_numberOfTrailingZeros_0f7a4_74 rfl (lv_at hl 1 rfl) ?_
    refine lv_iload_n hx hb dJ6_numberOfTrailingZeros_0f7a4_75 rfl (lv_at hl 0 rfl) ?_
    refine lv_iconst (v := 1) hx hb dJ6_numberOfTrailingZeros_0f7a4_76 ic_1 ?_
    refine lv_iushr hx hb dJ6_numberOfTrailingZeros_0f7a4_77 rfl ?_
    refine sk_top 1 (by decide) ?_
    refine lv_iadd hx hb dJ6_numberOfTrailingZeros_0f7a4_78 ?_
    refine sk_top 8 (by decide) ?_
    exact sk_iret hx hb hr rfl hlocks hK hP hD hS (⟨8, hlow, rfl, rfl⟩) (Nat.le_of_ble_eq_true rfl) (Nat.le_of_ble_eq_true rfl) dJ6_numberOfTrailingZeros_0f7a4_79
  · refine sk_top 511 (hy.trans (by decide)) ?_
    refine lv_istore_n (lv' := [(0, .int 511)]) hx hb dJ6_numberOfTrailingZeros_0f7a4_7 rfl hl (by decide) rfl (fun ls hl => ?_)
    refine lv_iload_n hx hb dJ6_numberOfTrailingZeros_0f7a4_8 rfl (lv_at hl 0 rfl) ?_
    refine lv_if_gt (tgt := 17) hx hb dJ6_numberOfTrailingZeros_0f7a4_9 (by decide) (fun c_42 => ?_) (fun c => absurd c (by decide))
    refine lv_iconst (v := 1) hx hb dJ6_numberOfTrailingZeros_0f7a4_17 ic_1 ?_
    refine lv_istore_n (lv' := [(1, .int 1), (0, .int 511)]) hx hb dJ6_numberOfTrailingZeros_0f7a4_18 rfl hl (by decide) rfl (fun ls hl => ?_)
    refine lv_iload_n hx hb dJ6_numberOfTrailingZeros_0f7a4_19 rfl (lv_at hl 1 rfl) ?_
    refine lv_ldcw (v := 65536) hx hb hown (hts _ w_4_119) dJ6_numberOfTrailingZeros_0f7a4_20 ?_
    refine lv_icmp_le (tgt := 34) hx hb dJ6_numberOfTrailingZeros_0f7a4_23 (by decide) (fun c_43 => ?_) (fun c => absurd c (by decide))
    refine lv_iload_n hx hb dJ6_numberOfTrailingZeros_0f7a4_34 rfl (lv_at hl 1 rfl) ?_
    refine lv_sipush (v := 256) hx hb dJ6_numberOfTrailingZeros_0f7a4_35 (by decide) ?_
    refine lv_icmp_le (tgt := 49) hx hb dJ6_numberOfTrailingZeros_0f7a4_38 (by decide) (fun c => absurd c (by decide)) (fun c_44 => ?_)
    refine lv_iinc (v := 9) (lv' := [(1, .int 9), (0, .int 511)]) hx hb dJ6_numberOfTrailingZeros_0f7a4_41 hl (k := 0) rfl (by decide) (by decide) rfl (fun ls hl => ?_)
    refine lv_iload_n hx hb dJ6_numberOfTrailingZeros_0f7a4_44 rfl (lv_at hl 1 rfl) ?_
    refine lv_bipush (v := 8) hx hb dJ6_numberOfTrailingZeros_0f7a4_45 (by decide) ?_
    refine lv_iushr hx hb dJ6_numberOfTrailingZeros_0f7a4_47 rfl ?_
    refine sk_top 1 (by decide) ?_
    refine lv_istore_n (lv' := [(0, .int 1), (1, .int 9)]) hx hb dJ6_numberOfTrailingZeros_0f7a4_48 rfl hl (by decide) rfl (fun ls hl => ?_)
    refine lv_iload_n hx hb dJ6_numberOfTrailingZeros_0f7a4_49 rfl (lv_at hl 0 rfl) ?_
    refine lv_bipush (v := 16) hx hb dJ6_numberOfTrailingZeros_0f7a4_50 (by decide) ?_
    refine lv_icmp_le (tgt := 62) hx hb dJ6_numberOfTrailingZeros_0f7a4_52 (by decide) (fun c_45 => ?_) (fun c => absurd c (by decide))
    refine lv_iload_n hx hb dJ6_numberOfTrailingZeros_0f7a4_62 rfl (lv_at hl 0 rfl) ?_
    refine lv_iconst (v := 4) hx hb dJ6_numberOfTrailingZeros_0f7a4_63 ic_4 ?_
    refine lv_icmp_le (tgt := 74) hx hb dJ6_numberOfTrailingZeros_0f7a4_64 (by decide) (fun c_46 => ?_) (fun c => absurd c (by decide))
    refine lv_iload_n hx hb dJ6_numberOfTrailingZeros_0f7a4_74 rfl (lv_at hl 1 rfl) ?_
    refine lv_iload_n hx hb dJ6_numberOfTrailingZeros_0f7a4_75 rfl (lv_at hl 0 rfl) ?_
    refine lv_iconst (v := 1) hx hb dJ6_numberOfTrailingZeros_0f7a4_76 ic_1 ?_
    refine lv_iushr hx hb dJ6_numberOfTrailingZeros_0f7a4_77 rfl ?_
    refine sk_top 0 (by decide) ?_
    refine lv_iadd hx hb dJ6_numberOfTrailingZeros_0f7a4_78 ?_
    refine sk_top 9 (by decide) ?_
    exact sk_iret hx hb hr rfl hlocks hK hP hD hS (⟨9, hlow, rfl, rfl⟩) (Nat.le_of_ble_eq_true rfl) (Nat.le_of_ble_eq_true rfl) dJ6_numberOfTrailingZeros_0f7a4_79
set_option maxHeartbeats 4000000 in
set_option maxRecDepth 100000 in
theorem c_knext (l : Launch) (D : va_G) (cI cJ cC cZ cS : ClassId) (q : Nat → Nat) (gd : Nat) (gs : Nat) (e1 : Nat → Int32) (e2 : Nat → Int32) (e3 : Nat → Int32) (d : Nat) (ah : Nat) (Ed : Nat → Nat → Nat → Bool) (hgd : gd ≤ 9) (hd : d < gd) (hah : ah < 10) (hld : kcLd Ed gd e1 e2) (hlv : kcLv Ed gd (d + 1) e3) : skM l yX1_next cX1_next 3 (some .int) 0 0 0 0 D (skT cI cJ cC cZ cS) [.ref (q 11), .int (nI d), .int (nI ah)] [ro_rrrrrrrnn (q 11) 1 (q 10) (q 67) (q 68) (q 69) (q 70) (q 71) (q 72) gd gs, ra_I (q 67) cI 90 e1, ra_I (q 68) cI 9 e2, ra_I (q 69) cI 10 e3] (skI D (skT cI cJ cC cZ cS) (fun (r : Int32) (u : va_W) => ∃ (nq : Nat), kcNx Ed gd d ah nq ∧ r = nI nq ∧ u = [ro_rrrrrrrnn (q 11) 1 (q 10) (q 67) (q 68) (q 69) (q 70) (q 71) (q 72) gd gs, ra_I (q 67) cI 90 e1, ra_I (q 68) cI 9 e2, ra_I (q 69) cI 10 e3])) := by
  refine skM_of pf_X1_next (Nat.le_of_ble_eq_true rfl) ?_
  intro p e s m below meth c A ls E hP hD hl
  refine skE_el E (fun hx hb hr hml hlocks hin hown hts hK hA => ?_)
  have hown : s.vm.findClass RX1 = some m.cls := hown
  have hS : va_S A s.heap s.heap [] := va_S.rf
  have hl : lv_has ls 3 [(0, .ref (q 11)), (1, .int (nI d)), (2, .int (nI ah))] := hl
  refine lv_aload_n hx hb dX1_next_0 rfl (lv_at hl 0 rfl) ?_
  refine sk_get (v := .ref (q 67)) (C := RX1) (T := TX1) (N := 9) hx hb hts inlX1 hown hK hP 0 rfl rfl 1 (Nat.le_of_ble_eq_true rfl) w_2_96 rfl dX1_next_1 ?_
  refine lv_iload_n hx hb dX1_next_4 rfl (lv_at hl 1 rfl) ?_
  refine lv_bipush (v := 10) hx hb dX1_next_5 (by decide) ?_
  refine lv_imul hx hb dX1_next_7 ?_
  refine sk_top (nI (d * 10)) (nmul d 10) ?_
  refine lv_iload_n hx hb dX1_next_8 rfl (lv_at hl 2 rfl) ?_
  refine lv_iadd hx hb dX1_next_9 ?_
  refine sk_top (nI (d * 10 + ah)) (nI_add (d * 10) ah) ?_
  refine va_iald hx hb hK.1 hP 1 0 rfl rfl (vin (d * 10 + ah) 90 (by omega) (Nat.le_of_ble_eq_true rfl)) dX1_next_10 ?_
  obtain ⟨x, y, hx1_, hy1_, hxl, hyl, hxy⟩ := hld d (by omega) ah (by omega)
  obtain ⟨z, hz1_, hzl, hzz⟩ := hlv (d + 1) (Nat.le_refl _) (by omega)
  refine sk_top (nI x) (by rw [nI_clamp (by omega)]; exact hx1_) ?_
  refine lv_aload_n hx hb dX1_next_11 rfl (lv_at hl 0 rfl) ?_
  refine sk_get (v := .ref (q 68)) (C := RX1) (T := TX1) (N := 9) hx hb hts inlX1 hown hK hP 0 rfl rfl 2 (Nat.le_of_ble_eq_true rfl) w_2_97 rfl dX1_next_12 ?_
  refine lv_iload_n hx hb dX1_next_15 rfl (lv_at hl 1 rfl) ?_
  refine va_iald hx hb hK.1 hP 2 0 rfl rfl (vin d 9 (by omega) (Nat.le_of_ble_eq_true rfl)) dX1_next_16 ?_
  refine sk_top (nI y) (by rw [nI_clamp (by omega)]; exact hy1_) ?_
  refine lv_iand hx hb dX1_next_17 ?_
  refine sk_top (nI (x &&& y)) (knd32 hxl hyl).1 ?_
  refine lv_aload_n hx hb dX1_next_18 rfl (lv_at hl 0 rfl) ?_
  refine sk_get (v := .ref (q 69)) (C := RX1) (T := TX1) (N := 9) hx hb hts inlX1 hown hK hP 0 rfl rfl 3 (Nat.le_of_ble_eq_true rfl) w_2_98 rfl dX1_next_19 ?_
  refine lv_iload_n hx hb dX1_next_22 rfl (lv_at hl 1 rfl) ?_
  refine lv_iconst (v := 1) hx hb dX1_next_23 ic_1 ?_
  refine lv_iadd hx hb dX1_next_24 ?_
  refine sk_top (nI (d + 1)) (nI_add d 1) ?_
  refine va_iald hx hb hK.1 hP 3 0 rfl rfl (vin (d + 1) 10 (by omega) (Nat.le_of_ble_eq_true rfl)) dX1_next_25 ?_
  refine sk_top (nI z) (by rw [nI_clamp (by omega)]; exact hz1_) ?_
  refine lv_iand hx hb dX1_next_26 ?_
  refine sk_top (nI (x &&& y &&& z)) (knd32 (knd32 hxl hyl).2 hzl).1 ?_
  exact sk_iret hx hb hr rfl hlocks hK hP hD hS (⟨x &&& y &&& z, knx_of hxl hyl hzl hxy hzz, rfl, rfl⟩) (Nat.le_of_ble_eq_true rfl) (Nat.le_of_ble_eq_true rfl) dX1_next_27
set_option maxHeartbeats 4000000 in
set_option maxRecDepth 100000 in
theorem c_ksettle (l : Launch) (D : va_G) (cI cJ cC cZ cS : ClassId) (q : Nat → Nat) (gd : Nat) (gs : Nat) (e1 : Nat → Int32) (e2 : Nat → Int32) (e3 : Nat → Int32) (Ed : Nat → Nat → Nat → Bool) (hgd : gd ≤ 9) (hgs : gs ≤ 9) (hld : kcLd Ed gd e1 e2) : skM l yX1_settle cX1_settle 4 (some .boolean) 1 22 0 0 D (skT cI cJ cC cZ cS) [.ref (q 11)] [ro_rrrrrrrnn (q 11) 1 (q 10) (q 67) (q 68) (q 69) (q 70) (q 71) (q 72) gd gs, ra_I (q 67) cI 90 e1, ra_I (q 68) cI 9 e2, ra_I (q 69) cI 10 e3] (skI D (skT cI cJ cC cZ cS) (fun (r : Int32) (u : va_W) => ∃ (b : Nat), ∃ (g3 : Nat → Int32), ((b = 0 ∧ kcC Ed gd 0 gs = 0) ∨ (b = 1 ∧ 0 < kcC Ed gd 0 gs)) ∧ kcLv Ed gd 0 g3 ∧ r = nI b ∧ u = [ro_rrrrrrrnn (q 11) 1 (q 10) (q 67) (q 68) (q 69) (q 70) (q 71) (q 72) gd gs, ra_I (q 67) cI 90 e1, ra_I (q 68) cI 9 e2, ra_I (q 69) cI 10 g3])) := by
  refine skM_of pf_X1_settle (Nat.le_of_ble_eq_true rfl) ?_
  intro p e s m below meth c A ls E hP hD hl
  refine skE_el E (fun hx hb hr hml hlocks hin hown hts hK hA => ?_)
  have hown : s.vm.findClass RX1 = some m.cls := hown
  have hS : va_S A s.heap s.heap [] := va_S.rf
  have hl : lv_has ls 4 [(0, .ref (q 11))] := hl
  refine lv_aload_n hx hb dX1_settle_0 rfl (lv_at hl 0 rfl) ?_
  refine sk_get (v := .ref (q 69)) (C := RX1) (T := TX1) (N := 9) hx hb hts inlX1 hown hK hP 0 rfl rfl 3 (Nat.le_of_ble_eq_true rfl) w_2_98 rfl dX1_settle_1 ?_
  refine lv_aload_n hx hb dX1_settle_4 rfl (lv_at hl 0 rfl) ?_
  refine sk_get (v := .int (nI gd)) (C := RX1) (T := TX1) (N := 9) hx hb hts inlX1 hown hK hP 0 rfl rfl 7 (Nat.le_of_ble_eq_true rfl) w_2_102 rfl dX1_settle_5 ?_
  refine lv_sipush (v := 1023) hx hb dX1_settle_8 (by decide) ?_
  refine sk_iastE (k := gd) (ws' := fun f_1 => [ro_rrrrrrrnn (q 11) 1 (q 10) (q 67) (q 68) (q 69) (q 70) (q 71) (q 72) gd gs, ra_I (q 67) cI 90 e1, ra_I (q 68) cI 9 e2, ra_I (q 69) cI 10 f_1]) hx hb hK hP hD hS 3 0 rfl rfl (by omega) (by omega) (fun _ => rfl) dX1_settle_11 (fun f_1 H locs ef_2 hP hD hS => ?_)
  refine lv_aload_n hx hb dX1_settle_12 rfl (lv_at hl 0 rfl) ?_
  refine sk_get (v := .int (nI gd)) (C := RX1) (T := TX1) (N := 9) hx hb hts inlX1 hown hK hP 0 rfl rfl 7 (Nat.le_of_ble_eq_true rfl) w_2_102 rfl dX1_settle_13 ?_
  refine lv_iconst (v := 1) hx hb dX1_settle_16 ic_1 ?_
  refine lv_isub hx hb dX1_settle_17 ?_
  refine lv_istore_n (lv' := [(1, .int (nI gd - 1)), (0, .ref (q 11))]) hx hb dX1_settle_18 rfl hl (by decide) rfl (fun ls hl => ?_)
  have lp_3 : ∀ (n_4 : Nat) (dd : Nat) (a3 : Nat → Int32) (H : Heap) (locs : List Loc) (ls : Array Slot), dd < n_4 → (dd ≤ gd) → (kcLv Ed gd dd a3) → va_P D vwCl [ro_rrrrrrrnn (q 11) 1 (q 10) (q 67) (q 68) (q 69) (q 70) (q 71) (q 72) gd gs, ra_I (q 67) cI 90 e1, ra_I (q 68) cI 9 e2, ra_I (q 69) cI 10 a3] H → va_D A [ro_rrrrrrrnn (q 11) 1 (q 10) (q 67) (q 68) (q 69) (q 70) (q 71) (q 72) gd gs, ra_I (q 67) cI 90 e1, ra_I (q 68) cI 9 e2, ra_I (q 69) cI 10 a3] → va_S A s.heap H locs → lv_has ls 4 [(1, .int (nI dd - 1)), (0, .ref (q 11))] → W p l e { frames := 1, cells := 0, slots := 0, locals := 22 } s m ([.ref (q 11)] : List Value).toArray below meth c H locs 0 0 (MQ below (skI D (skT cI cJ cC cZ cS) (fun (r : Int32) (u : va_W) => ∃ (b : Nat), ∃ (g3 : Nat → Int32), ((b = 0 ∧ kcC Ed gd 0 gs = 0) ∨ (b = 1 ∧ 0 < kcC Ed gd 0 gs)) ∧ kcLv Ed gd 0 g3 ∧ r = nI b ∧ u = [ro_rrrrrrrnn (q 11) 1 (q 10) (q 67) (q 68) (q 69) (q 70) (q 71) (q 72) gd gs, ra_I (q 67) cI 90 e1, ra_I (q 68) cI 9 e2, ra_I (q 69) cI 10 g3]) A) ([.ref (q 11)] : List Value).toArray s 0 0 A) (F0 m 19 ls []) := by
    intro n_4
    induction n_4 with
    | zero => intro dd a3 H locs ls hm; exact absurd hm (Nat.not_lt_zero _)
    | succ n_4 ih_lp_3 =>
      intro dd a3 H locs ls hm hdd hlv_ hP hD hS hl
      refine lv_iload_n hx hb dX1_settle_19 rfl (lv_at hl 0 rfl) ?_
      refine lv_if_lt (tgt := 67) hx hb dX1_settle_20 (by decide) (fun c_5 => ?_) (fun c_5 => ?_)
      · have c_5 : dd = 0 := npm0 dd (by omega) c_5
        refine lv_aload_n hx hb dX1_settle_67 rfl (lv_at hl 1 rfl) ?_
        refine sk_get (v := .ref (q 69)) (C := RX1) (T := TX1) (N := 9) hx hb hts inlX1 hown hK hP 0 rfl rfl 3 (Nat.le_of_ble_eq_true rfl) w_2_98 rfl dX1_settle_68 ?_
        refine lv_iconst (v := 0) hx hb dX1_settle_71 ic_0 ?_
        refine va_iald hx hb hK.1 hP 3 0 rfl rfl (by unfold vp_in; decide) dX1_settle_72 ?_
        obtain ⟨z, hz1_, hzl, hzz⟩ := hlv_ 0 (by omega) (by omega)
        refine sk_top (nI z) hz1_ ?_
        refine lv_aload_n hx hb dX1_settle_73 rfl (lv_at hl 1 rfl) ?_
        refine sk_get (v := .int (nI gs)) (C := RX1) (T := TX1) (N := 9) hx hb hts inlX1 hown hK hP 0 rfl rfl 8 (Nat.le_of_ble_eq_true rfl) w_2_103 rfl dX1_settle_74 ?_
        refine lv_ishr hx hb dX1_settle_77 ?_
        refine lv_iconst (v := 1) hx hb dX1_settle_78 ic_1 ?_
        refine lv_iand hx hb dX1_settle_79 ?_
        refine lv_iconst (v := 1) hx hb dX1_settle_80 ic_1 ?_
        refine lv_icmp_ne (tgt := 88) hx hb dX1_settle_81 (by decide) (fun c_6 => ?_) (fun c_6 => ?_)
        · skip
          refine lv_iconst (v := 0) hx hb dX1_settle_88 ic_0 ?_
          exact sk_iret hx hb hr rfl hlocks hK hP hD hS (⟨0, a3, Or.inl ⟨rfl, Nat.eq_zero_of_not_pos (fun hq => c_6 ((ktb hzl (by omega)).mpr ((hzz gs (by omega)).mpr hq)))⟩, (klv_i hlv_ (by omega)), rfl, rfl⟩) (Nat.le_of_ble_eq_true rfl) (Nat.le_of_ble_eq_true rfl) dX1_settle_89
        · skip
          refine lv_iconst (v := 1) hx hb dX1_settle_84 ic_1 ?_
          refine lv_goto (tgt := 89) hx hb dX1_settle_85 (by decide) ?_
          exact sk_iret hx hb hr rfl hlocks hK hP hD hS (⟨1, a3, Or.inr ⟨rfl, (hzz gs (by omega)).mp ((ktb hzl (by omega)).mp c_6)⟩, (klv_i hlv_ (by omega)), rfl, rfl⟩) (Nat.le_of_ble_eq_true rfl) (Nat.le_of_ble_eq_true rfl) dX1_settle_89
      · have c_5 : 1 ≤ dd := npm1 dd c_5
        rw [npred dd (by omega)] at hl
        refine lv_iconst (v := 0) hx hb dX1_settle_23 ic_0 ?_
        refine lv_istore_n (lv' := [(2, .int 0), (1, .int (nI (dd - 1))), (0, .ref (q 11))]) hx hb dX1_settle_24 rfl hl (by decide) rfl (fun ls hl => ?_)
        refine lv_iconst (v := 0) hx hb dX1_settle_25 ic_0 ?_
        refine lv_istore_n (lv' := [(3, .int 0), (2, .int 0), (1, .int (nI (dd - 1))), (0, .ref (q 11))]) hx hb dX1_settle_26 rfl hl (by decide) rfl (fun ls hl => ?_)
        have lp_7 : ∀ (n_8 : Nat) (i : Nat) (mk : Nat) (H : Heap) (locs : List Loc) (ls : Array Slot), 10 - i < n_8 → (i ≤ 10) → (mk = kcK (fun p => decide (0 < kcC Ed (gd - (dd - 1)) (dd - 1) p)) i) → va_P D vwCl [ro_rrrrrrrnn (q 11) 1 (q 10) (q 67) (q 68) (q 69) (q 70) (q 71) (q 72) gd gs, ra_I (q 67) cI 90 e1, ra_I (q 68) cI 9 e2, ra_I (q 69) cI 10 a3] H → va_D A [ro_rrrrrrrnn (q 11) 1 (q 10) (q 67) (q 68) (q 69) (q 70) (q 71) (q 72) gd gs, ra_I (q 67) cI 90 e1, ra_I (q 68) cI 9 e2, ra_I (q 69) cI 10 a3] → va_S A s.heap H locs → lv_has ls 4 [(3, .int (nI i)), (2, .int (nI mk)), (1, .int (nI (dd - 1))), (0, .ref (q 11))] → W p l e { frames := 1, cells := 0, slots := 0, locals := 22 } s m ([.ref (q 11)] : List Value).toArray below meth c H locs 0 0 (MQ below (skI D (skT cI cJ cC cZ cS) (fun (r : Int32) (u : va_W) => ∃ (b : Nat), ∃ (g3 : Nat → Int32), ((b = 0 ∧ kcC Ed gd 0 gs = 0) ∨ (b = 1 ∧ 0 < kcC Ed gd 0 gs)) ∧ kcLv Ed gd 0 g3 ∧ r = nI b ∧ u = [ro_rrrrrrrnn (q 11) 1 (q 10) (q 67) (q 68) (q 69) (q 70) (q 71) (q 72) gd gs, ra_I (q 67) cI 90 e1, ra_I (q 68) cI 9 e2, ra_I (q 69) cI 10 g3]) A) ([.ref (q 11)] : List Value).toArray s 0 0 A) (F0 m 27 ls []) := by
          intro n_8
          induction n_8 with
          | zero => intro i mk H locs ls hm; exact absurd hm (Nat.not_lt_zero _)
          | succ n_8 ih_lp_7 =>
            intro i mk H locs ls hm hi hmk hP hD hS hl
            refine lv_iload_n hx hb dX1_settle_27 rfl (lv_at hl 0 rfl) ?_
            refine lv_bipush (v := 10) hx hb dX1_settle_28 (by decide) ?_
            refine lv_icmp_ge (tgt := 54) hx hb dX1_settle_30 (by decide) (fun c_9 => ?_) (fun c_9 => ?_)
            · have c_9 : 10 ≤ i := (nle 10 i (Nat.le_of_ble_eq_true rfl) (by omega)).mp c_9
              refine lv_aload_n hx hb dX1_settle_54 rfl (lv_at hl 3 rfl) ?_
              refine sk_get (v := .ref (q 69)) (C := RX1) (T := TX1) (N := 9) hx hb hts inlX1 hown hK hP 0 rfl rfl 3 (Nat.le_of_ble_eq_true rfl) w_2_98 rfl dX1_settle_55 ?_
              refine lv_iload_n hx hb dX1_settle_58 rfl (lv_at hl 2 rfl) ?_
              refine lv_iload_n hx hb dX1_settle_59 rfl (lv_at hl 1 rfl) ?_
              refine sk_iastE (k := (dd - 1)) (ws' := fun f_10 => [ro_rrrrrrrnn (q 11) 1 (q 10) (q 67) (q 68) (q 69) (q 70) (q 71) (q 72) gd gs, ra_I (q 67) cI 90 e1, ra_I (q 68) cI 9 e2, ra_I (q 69) cI 10 f_10]) hx hb hK hP hD hS 3 0 rfl rfl (by omega) (by omega) (fun _ => rfl) dX1_settle_60 (fun f_10 H locs ef_11 hP hD hS => ?_)
              refine lv_iinc (v := nI (dd - 1) - 1) (lv' := [(1, .int (nI (dd - 1) - 1)), (3, .int (nI i)), (2, .int (nI mk)), (0, .ref (q 11))]) hx hb dX1_settle_61 hl (k := 2) rfl (ndn _) (by decide) rfl (fun ls hl => ?_)
              refine lv_goto (tgt := 19) hx hb dX1_settle_64 (by decide) ?_
              exact ih_lp_3 (dd - 1) f_10 _ _ _ (by omega) (by omega) (klv_s (show kcLv Ed gd (dd - 1 + 1) a3 by rw [show dd - 1 + 1 = dd by omega]; exact hlv_) ef_11 (by rw [hmk, show i = 10 by omega])) hP hD hS (lv_sub hl [0, 3] rfl)
            · have c_9 : ¬ (10 ≤ i) := fun h => c_9 ((nle 10 i (Nat.le_of_ble_eq_true rfl) (by omega)).mpr h)
              refine lv_aload_n hx hb dX1_settle_33 rfl (lv_at hl 3 rfl) ?_
              refine lv_iload_n hx hb dX1_settle_34 rfl (lv_at hl 2 rfl) ?_
              refine lv_iload_n hx hb dX1_settle_35 rfl (lv_at hl 0 rfl) ?_
              refine sk_Vi (q0 := 0) (n := 2) (rest := []) (wr := fmR om_4_f _) ⟨hx, hb, hml, hown, hts⟩ hl.1 (c_knext l D cI cJ cC cZ cS q gd gs e1 e2 a3 (dd - 1) i Ed hgd (by omega) (by omega) hld (klv_i hlv_ (by omega))) w_4_57 w_4_59 w_0_20 w_1_13 w_4_60 hd_X1_next_2 ⟨⟨(Nat.le_of_ble_eq_true rfl), (Nat.le_of_ble_eq_true rfl)⟩, (Nat.le_of_ble_eq_true rfl), (Nat.le_of_ble_eq_true rfl)⟩ hK hP hD hS hA (fmT om_4_f 0) (fmF om_4_f 0) (fm_C1 rfl rfl) (fm_R rfl rfl) (fm_nT om_4_f 0) (fm_nF om_4_f 0) (fm_di om_4_f 0) rfl rfl rfl rfl (Nat.le_of_ble_eq_true rfl) dX1_settle_36 (fun r_13 u H locs hw hP hD hS => ?_)
              refine exE hw (fun nq_12 hw1 => anE hw1 (fun hnx_14 hw2 => anE hw2 (fun er_16 eu_15 => ?_)))
              clear hw hw1 hw2
              subst er_16
              refine o_mgE (ws' := [ro_rrrrrrrnn (q 11) 1 (q 10) (q 67) (q 68) (q 69) (q 70) (q 71) (q 72) gd gs, ra_I (q 67) cI 90 e1, ra_I (q 68) cI 9 e2, ra_I (q 69) cI 10 a3]) eu_15 hP hD rfl (fun hP hD => ?_)
              have hl_17 := hnx_14.1
              refine lv_if_eq (tgt := 48) hx hb dX1_settle_39 (by decide) (fun c_18 => ?_) (fun c_18 => ?_)
              · have c_18 : nq_12 = 0 := (neq nq_12 0 (by omega) (Nat.le_of_ble_eq_true rfl)).mp c_18
                refine lv_iinc (v := nI (i + 1)) (lv' := [(3, .int (nI (i + 1))), (2, .int (nI mk)), (1, .int (nI (dd - 1))), (0, .ref (q 11))]) hx hb dX1_settle_48 hl (k := 0) rfl (ninc i 1 (by decide)) (by decide) rfl (fun ls hl => ?_)
                refine lv_goto (tgt := 27) hx hb dX1_settle_51 (by decide) ?_
                exact ih_lp_7 (i + 1) mk _ _ _ (by omega) (by omega) (by rw [kcK_no (fun p => decide (0 < kcC Ed (gd - (dd - 1)) (dd - 1) p)) i (fun hq => absurd (of_decide_eq_true hq) (by rw [(knx_z hnx_14 (by omega)).mp c_18]; exact Nat.lt_irrefl 0))]; exact hmk) hP hD hS (lv_sub hl [0, 1, 2, 3] rfl)
              · have c_18 : ¬ (nq_12 = 0) := fun h => c_18 ((neq nq_12 0 (by omega) (Nat.le_of_ble_eq_true rfl)).mpr h)
                refine lv_iload_n hx hb dX1_settle_42 rfl (lv_at hl 1 rfl) ?_
                refine lv_iconst (v := 1) hx hb dX1_settle_43 ic_1 ?_
                refine lv_iload_n hx hb dX1_settle_44 rfl (lv_at hl 0 rfl) ?_
                refine lv_ishl hx hb dX1_settle_45 ?_
                refine lv_ior hx hb dX1_settle_46 ?_
                have hml_ := kK_lt10 (fun p => decide (0 < kcC Ed (gd - (dd - 1)) (dd - 1) p)) (show i ≤ 10 by omega)
                rw [← hmk] at hml_
                refine sk_top (nI (mk ||| 2 ^ i)) (kor_10 (by omega) (by omega)) ?_
                refine lv_istore_n (lv' := [(2, .int (nI (mk ||| 2 ^ i))), (3, .int (nI i)), (1, .int (nI (dd - 1))), (0, .ref (q 11))]) hx hb dX1_settle_47 rfl hl (by decide) rfl (fun ls hl => ?_)
                refine lv_iinc (v := nI (i + 1)) (lv' := [(3, .int (nI (i + 1))), (2, .int (nI (mk ||| 2 ^ i))), (1, .int (nI (dd - 1))), (0, .ref (q 11))]) hx hb dX1_settle_48 hl (k := 1) rfl (ninc i 1 (by decide)) (by decide) rfl (fun ls hl => ?_)
                refine lv_goto (tgt := 27) hx hb dX1_settle_51 (by decide) ?_
                exact ih_lp_7 (i + 1) (mk ||| 2 ^ i) _ _ _ (by omega) (by omega) (by rw [hmk]; exact kcK_or (fun p => decide (0 < kcC Ed (gd - (dd - 1)) (dd - 1) p)) i (decide_eq_true (Nat.pos_of_ne_zero (fun hq => c_18 ((knx_z hnx_14 (by omega)).mpr hq))))) hP hD hS (lv_sub hl [0, 1, 2, 3] rfl)
        exact lp_7 (10 - 0 + 1) 0 0 _ _ _ (Nat.lt_succ_self _) (by omega) rfl hP hD hS (lv_sub hl [0, 1, 2, 3] rfl)
  exact lp_3 (gd + 1) gd f_1 _ _ _ (Nat.lt_succ_self _) (by omega) (klv_top ef_2) hP hD hS (lv_sub hl [0, 1] rfl)
set_option maxHeartbeats 4000000 in
set_option maxRecDepth 100000 in
theorem c_ktakeFirst (l : Launch) (D : va_G) (cI cJ cC cZ cS : ClassId) (q : Nat → Nat) (gd : Nat) (gs : Nat) (e1 : Nat → Int32) (e2 : Nat → Int32) (e3 : Nat → Int32) (rw : Nat) (ra : Nat → Int32) (Ed : Nat → Nat → Nat → Bool) (hgd : gd ≤ 9) (hgs : gs ≤ 9) (hld : kcLd Ed gd e1 e2) (hlv : kcLv Ed gd 0 e3) (hgo : 0 < kcC Ed gd 0 gs) : skM l yX1_takeFirst cX1_takeFirst 4 none 1 22 0 0 D (skT cI cJ cC cZ cS) [.ref (q 11), .ref rw] [ro_rrrrrrrnn (q 11) 1 (q 10) (q 67) (q 68) (q 69) (q 70) (q 71) (q 72) gd gs, ra_I (q 67) cI 90 e1, ra_I (q 68) cI 9 e2, ra_I (q 69) cI 10 e3, ra_I rw cI 9 ra] (skV D (skT cI cJ cC cZ cS) (fun (u : va_W) => ∃ (ra2 : Nat → Int32), kcRw Ed gd gs 0 gd ra2 ∧ u = [ro_rrrrrrrnn (q 11) 1 (q 10) (q 67) (q 68) (q 69) (q 70) (q 71) (q 72) gd gs, ra_I (q 67) cI 90 e1, ra_I (q 68) cI 9 e2, ra_I (q 69) cI 10 e3, ra_I rw cI 9 ra2])) := by
  refine skM_of pf_X1_takeFirst (Nat.le_of_ble_eq_true rfl) ?_
  intro p e s m below meth c A ls E hP hD hl
  refine skE_el E (fun hx hb hr hml hlocks hin hown hts hK hA => ?_)
  have hown : s.vm.findClass RX1 = some m.cls := hown
  have hS : va_S A s.heap s.heap [] := va_S.rf
  have hl : lv_has ls 4 [(0, .ref (q 11)), (1, .ref rw)] := hl
  refine lv_aload_n hx hb dX1_takeFirst_0 rfl (lv_at hl 0 rfl) ?_
  refine sk_get (v := .int (nI gs)) (C := RX1) (T := TX1) (N := 9) hx hb hts inlX1 hown hK hP 0 rfl rfl 8 (Nat.le_of_ble_eq_true rfl) w_2_103 rfl dX1_takeFirst_1 ?_
  refine lv_istore_n (lv' := [(2, .int (nI gs)), (0, .ref (q 11)), (1, .ref rw)]) hx hb dX1_takeFirst_4 rfl hl (by decide) rfl (fun ls hl => ?_)
  refine lv_iconst (v := 0) hx hb dX1_takeFirst_5 ic_0 ?_
  refine lv_istore_n (lv' := [(3, .int 0), (2, .int (nI gs)), (0, .ref (q 11)), (1, .ref rw)]) hx hb dX1_takeFirst_6 rfl hl (by decide) rfl (fun ls hl => ?_)
  have lp_1 : ∀ (n_2 : Nat) (i : Nat) (ah : Nat) (rb : Nat → Int32) (H : Heap) (locs : List Loc) (ls : Array Slot), gd - i < n_2 → (i ≤ gd) → (ah < 10) → ((kcA Ed gd gs 0 i).1 = ah) → ((kcA Ed gd gs 0 i).2 = 0) → (kcRw Ed gd gs 0 i rb) → va_P D vwCl [ro_rrrrrrrnn (q 11) 1 (q 10) (q 67) (q 68) (q 69) (q 70) (q 71) (q 72) gd gs, ra_I (q 67) cI 90 e1, ra_I (q 68) cI 9 e2, ra_I (q 69) cI 10 e3, ra_I rw cI 9 rb] H → va_D A [ro_rrrrrrrnn (q 11) 1 (q 10) (q 67) (q 68) (q 69) (q 70) (q 71) (q 72) gd gs, ra_I (q 67) cI 90 e1, ra_I (q 68) cI 9 e2, ra_I (q 69) cI 10 e3, ra_I rw cI 9 rb] → va_S A s.heap H locs → lv_has ls 4 [(3, .int (nI i)), (2, .int (nI ah)), (0, .ref (q 11)), (1, .ref rw)] → W p l e { frames := 1, cells := 0, slots := 0, locals := 22 } s m ([.ref (q 11), .ref rw] : List Value).toArray below meth c H locs 0 0 (MQ below (skV D (skT cI cJ cC cZ cS) (fun (u : va_W) => ∃ (ra2 : Nat → Int32), kcRw Ed gd gs 0 gd ra2 ∧ u = [ro_rrrrrrrnn (q 11) 1 (q 10) (q 67) (q 68) (q 69) (q 70) (q 71) (q 72) gd gs, ra_I (q 67) cI 90 e1, ra_I (q 68) cI 9 e2, ra_I (q 69) cI 10 e3, ra_I rw cI 9 ra2]) A) ([.ref (q 11), .ref rw] : List Value).toArray s 0 0 A) (F0 m 7 ls []) := by
    intro n_2
    induction n_2 with
    | zero => intro i ah rb H locs ls hm; exact absurd hm (Nat.not_lt_zero _)
    | succ n_2 ih_lp_1 =>
      intro i ah rb H locs ls hm hi hah haa hzz hrr hP hD hS hl
      refine lv_iload_n hx hb dX1_takeFirst_7 rfl (lv_at hl 0 rfl) ?_
      refine lv_aload_n hx hb dX1_takeFirst_8 rfl (lv_at hl 2 rfl) ?_
      refine sk_get (v := .int (nI gd)) (C := RX1) (T := TX1) (N := 9) hx hb hts inlX1 hown hK hP 0 rfl rfl 7 (Nat.le_of_ble_eq_true rfl) w_2_102 rfl dX1_takeFirst_9 ?_
      refine lv_icmp_ge (tgt := 38) hx hb dX1_takeFirst_12 (by decide) (fun c_3 => ?_) (fun c_3 => ?_)
      · have c_3 : gd ≤ i := (nle gd i (by omega) (by omega)).mp c_3
        exact sk_vret hx hb hr hlocks hK hP hD hS (⟨rb, krw_e hrr (by omega), rfl⟩) (Nat.le_of_ble_eq_true rfl) (Nat.le_of_ble_eq_true rfl) dX1_takeFirst_38
      · have c_3 : ¬ (gd ≤ i) := fun h => c_3 ((nle gd i (by omega) (by omega)).mpr h)
        refine lv_aload_n hx hb dX1_takeFirst_15 rfl (lv_at hl 2 rfl) ?_
        refine lv_iload_n hx hb dX1_takeFirst_16 rfl (lv_at hl 0 rfl) ?_
        refine lv_iload_n hx hb dX1_takeFirst_17 rfl (lv_at hl 1 rfl) ?_
        refine sk_Vi (q0 := 0) (n := 2) (rest := []) (wr := fmR om_5_1e _) ⟨hx, hb, hml, hown, hts⟩ hl.1 (c_knext l D cI cJ cC cZ cS q gd gs e1 e2 e3 i ah Ed hgd (by omega) hah hld (klv_i hlv (by omega))) w_4_57 w_4_59 w_0_20 w_1_13 w_4_60 hd_X1_next_2 ⟨⟨(Nat.le_of_ble_eq_true rfl), (Nat.le_of_ble_eq_true rfl)⟩, (Nat.le_of_ble_eq_true rfl), (Nat.le_of_ble_eq_true rfl)⟩ hK hP hD hS hA (fmT om_5_1e 0) (fmF om_5_1e 0) (fm_C1 rfl rfl) (fm_R rfl rfl) (fm_nT om_5_1e 0) (fm_nF om_5_1e 0) (fm_di om_5_1e 0) rfl rfl rfl rfl (Nat.le_of_ble_eq_true rfl) dX1_takeFirst_18 (fun r_5 u H locs hw hP hD hS => ?_)
        refine exE hw (fun nq_4 hw1 => anE hw1 (fun hnx_6 hw2 => anE hw2 (fun er_8 eu_7 => ?_)))
        clear hw hw1 hw2
        subst er_8
        refine o_mgE (ws' := [ro_rrrrrrrnn (q 11) 1 (q 10) (q 67) (q 68) (q 69) (q 70) (q 71) (q 72) gd gs, ra_I (q 67) cI 90 e1, ra_I (q 68) cI 9 e2, ra_I (q 69) cI 10 e3, ra_I rw cI 9 rb]) eu_7 hP hD rfl (fun hP hD => ?_)
        have hp_9 := knx_pos (by omega) hgo haa hnx_6 (by omega)
        have hl_10 := hnx_6.1
        have hl_11 := hp_9.1
        refine sk_Si (n := 1) (rest := []) (wr := [ro_rrrrrrrnn (q 11) 1 (q 10) (q 67) (q 68) (q 69) (q 70) (q 71) (q 72) gd gs, ra_I (q 67) cI 90 e1, ra_I (q 68) cI 9 e2, ra_I (q 69) cI 10 e3, ra_I rw cI 9 rb]) ⟨hx, hb, hml, hown, hts⟩ hl.1 (c_kntz l D cI cJ cC cZ cS nq_4 (by omega) (by omega)) w_4_116 w_4_117 w_1_21 w_4_118 hd_J6_numberOfTrailingZeros_0f7a4_1 ⟨⟨(Nat.le_of_ble_eq_true rfl), (Nat.le_of_ble_eq_true rfl)⟩, (Nat.le_of_ble_eq_true rfl), (Nat.le_of_ble_eq_true rfl)⟩ hK hP hD hS hA [] [0, 1, 2, 3, 4] rfl rfl (by decide +kernel) (by decide +kernel) (by decide +kernel) rfl rfl (Nat.le_of_ble_eq_true rfl) dX1_takeFirst_21 (fun r_13 u H locs hw hP hD hS => ?_)
        obtain ⟨v_12, hlow_14, rfl, rfl⟩ := hw
        refine o_re (ws' := [ro_rrrrrrrnn (q 11) 1 (q 10) (q 67) (q 68) (q 69) (q 70) (q 71) (q 72) gd gs, ra_I (q 67) cI 90 e1, ra_I (q 68) cI 9 e2, ra_I (q 69) cI 10 e3, ra_I rw cI 9 rb]) hP hD rfl (fun hP hD => ?_)
        have hl_15 := hlow_14.1
        refine lv_bipush (v := 10) hx hb dX1_takeFirst_24 (by decide) ?_
        refine lv_irem hx hb dX1_takeFirst_26 (by decide) ?_
        refine sk_top (nI v_12) ((nrem v_12 10 (by omega) (by omega) (by omega)).trans (congrArg nI (Nat.mod_eq_of_lt (by omega)))) ?_
        refine lv_istore_n (lv' := [(2, .int (nI v_12)), (3, .int (nI i)), (0, .ref (q 11)), (1, .ref rw)]) hx hb dX1_takeFirst_27 rfl hl (by decide) rfl (fun ls hl => ?_)
        refine lv_aload_n hx hb dX1_takeFirst_28 rfl (lv_at hl 3 rfl) ?_
        refine lv_iload_n hx hb dX1_takeFirst_29 rfl (lv_at hl 1 rfl) ?_
        refine lv_iload_n hx hb dX1_takeFirst_30 rfl (lv_at hl 0 rfl) ?_
        refine sk_iastE (k := i) (ws' := fun f_16 => [ro_rrrrrrrnn (q 11) 1 (q 10) (q 67) (q 68) (q 69) (q 70) (q 71) (q 72) gd gs, ra_I (q 67) cI 90 e1, ra_I (q 68) cI 9 e2, ra_I (q 69) cI 10 e3, ra_I rw cI 9 f_16]) hx hb hK hP hD hS 4 0 rfl rfl (by omega) (by omega) (fun _ => rfl) dX1_takeFirst_31 (fun f_16 H locs ef_17 hP hD hS => ?_)
        have hk_18 := kfirst_s haa hzz hnx_6 hlow_14
        refine lv_iinc (v := nI (i + 1)) (lv' := [(3, .int (nI (i + 1))), (2, .int (nI v_12)), (0, .ref (q 11)), (1, .ref rw)]) hx hb dX1_takeFirst_32 hl (k := 1) rfl (ninc i 1 (by decide)) (by decide) rfl (fun ls hl => ?_)
        refine lv_goto (tgt := 7) hx hb dX1_takeFirst_35 (by decide) ?_
        exact ih_lp_1 (i + 1) v_12 f_16 _ _ _ (by omega) (by omega) (by omega) hk_18.1 hk_18.2 (krw_s hrr ef_17 hk_18.1) hP hD hS (lv_sub hl [0, 1, 2, 3] rfl)
  exact lp_1 (gd - 0 + 1) 0 gs ra _ _ _ (Nat.lt_succ_self _) (by omega) (by omega) rfl rfl (krw_0 _ _ _ _ _) hP hD hS (lv_sub hl [0, 1, 2, 3] rfl)
set_option maxHeartbeats 4000000 in
set_option maxRecDepth 100000 in
theorem c_kcountWays (l : Launch) (D : va_G) (cI cJ cC cZ cS : ClassId) (q : Nat → Nat) (gd : Nat) (gs : Nat) (e1 : Nat → Int32) (e2 : Nat → Int32) (e3 : Nat → Int32) (e4 : Nat → Int64) (Ed : Nat → Nat → Nat → Bool) (hgd : gd ≤ 9) (hgs : gs ≤ 9) (hld : kcLd Ed gd e1 e2) (hlv : kcLv Ed gd 0 e3) : skM l yX1_countWays cX1_countWays 7 (some .long) 1 22 0 0 D (skT cI cJ cC cZ cS) [.ref (q 11)] [ro_rrrrrrrnn (q 11) 1 (q 10) (q 67) (q 68) (q 69) (q 70) (q 71) (q 72) gd gs, ra_I (q 67) cI 90 e1, ra_I (q 68) cI 9 e2, ra_I (q 69) cI 10 e3, ra_J (q 70) cJ 100 e4] (skL D (skT cI cJ cC cZ cS) (fun (r : Int64) (u : va_W) => ∃ (g4 : Nat → Int64), kcWy Ed gd 0 g4 ∧ r = Int64.ofNat (kcC Ed gd 0 gs) ∧ u = [ro_rrrrrrrnn (q 11) 1 (q 10) (q 67) (q 68) (q 69) (q 70) (q 71) (q 72) gd gs, ra_I (q 67) cI 90 e1, ra_I (q 68) cI 9 e2, ra_I (q 69) cI 10 e3, ra_J (q 70) cJ 100 g4])) := by
  refine skM_of pf_X1_countWays (Nat.le_of_ble_eq_true rfl) ?_
  intro p e s m below meth c A ls E hP hD hl
  refine skE_el E (fun hx hb hr hml hlocks hin hown hts hK hA => ?_)
  have hown : s.vm.findClass RX1 = some m.cls := hown
  have hS : va_S A s.heap s.heap [] := va_S.rf
  have hl : lv_has ls 7 [(0, .ref (q 11))] := hl
  refine lv_iconst (v := 0) hx hb dX1_countWays_0 ic_0 ?_
  refine lv_istore_n (lv' := [(1, .int 0), (0, .ref (q 11))]) hx hb dX1_countWays_1 rfl hl (by decide) rfl (fun ls hl => ?_)
  have lp_1 : ∀ (n_2 : Nat) (i : Nat) (a4 : Nat → Int64) (H : Heap) (locs : List Loc) (ls : Array Slot), 10 - i < n_2 → (i ≤ 10) → (∀ m, m < i → a4 (gd * 10 + m) = 1) → va_P D vwCl [ro_rrrrrrrnn (q 11) 1 (q 10) (q 67) (q 68) (q 69) (q 70) (q 71) (q 72) gd gs, ra_I (q 67) cI 90 e1, ra_I (q 68) cI 9 e2, ra_I (q 69) cI 10 e3, ra_J (q 70) cJ 100 a4] H → va_D A [ro_rrrrrrrnn (q 11) 1 (q 10) (q 67) (q 68) (q 69) (q 70) (q 71) (q 72) gd gs, ra_I (q 67) cI 90 e1, ra_I (q 68) cI 9 e2, ra_I (q 69) cI 10 e3, ra_J (q 70) cJ 100 a4] → va_S A s.heap H locs → lv_has ls 7 [(1, .int (nI i)), (0, .ref (q 11))] → W p l e { frames := 1, cells := 0, slots := 0, locals := 22 } s m ([.ref (q 11)] : List Value).toArray below meth c H locs 0 0 (MQ below (skL D (skT cI cJ cC cZ cS) (fun (r : Int64) (u : va_W) => ∃ (g4 : Nat → Int64), kcWy Ed gd 0 g4 ∧ r = Int64.ofNat (kcC Ed gd 0 gs) ∧ u = [ro_rrrrrrrnn (q 11) 1 (q 10) (q 67) (q 68) (q 69) (q 70) (q 71) (q 72) gd gs, ra_I (q 67) cI 90 e1, ra_I (q 68) cI 9 e2, ra_I (q 69) cI 10 e3, ra_J (q 70) cJ 100 g4]) A) ([.ref (q 11)] : List Value).toArray s 0 0 A) (F0 m 2 ls []) := by
    intro n_2
    induction n_2 with
    | zero => intro i a4 H locs ls hm; exact absurd hm (Nat.not_lt_zero _)
    | succ n_2 ih_lp_1 =>
      intro i a4 H locs ls hm hi hone hP hD hS hl
      refine lv_iload_n hx hb dX1_countWays_2 rfl (lv_at hl 0 rfl) ?_
      refine lv_bipush (v := 10) hx hb dX1_countWays_3 (by decide) ?_
      refine lv_icmp_ge (tgt := 29) hx hb dX1_countWays_5 (by decide) (fun c_3 => ?_) (fun c_3 => ?_)
      · have c_3 : 10 ≤ i := (nle 10 i (Nat.le_of_ble_eq_true rfl) (by omega)).mp c_3
        refine lv_aload_n hx hb dX1_countWays_29 rfl (lv_at hl 1 rfl) ?_
        refine sk_get (v := .int (nI gd)) (C := RX1) (T := TX1) (N := 9) hx hb hts inlX1 hown hK hP 0 rfl rfl 7 (Nat.le_of_ble_eq_true rfl) w_2_102 rfl dX1_countWays_30 ?_
        refine lv_iconst (v := 1) hx hb dX1_countWays_33 ic_1 ?_
        refine lv_isub hx hb dX1_countWays_34 ?_
        refine lv_istore_n (lv' := [(1, .int (nI gd - 1)), (0, .ref (q 11))]) hx hb dX1_countWays_35 rfl hl (by decide) rfl (fun ls hl => ?_)
        have lp_4 : ∀ (n_5 : Nat) (dd : Nat) (b4 : Nat → Int64) (H : Heap) (locs : List Loc) (ls : Array Slot), dd < n_5 → (dd ≤ gd) → (kcWy Ed gd dd b4) → va_P D vwCl [ro_rrrrrrrnn (q 11) 1 (q 10) (q 67) (q 68) (q 69) (q 70) (q 71) (q 72) gd gs, ra_I (q 67) cI 90 e1, ra_I (q 68) cI 9 e2, ra_I (q 69) cI 10 e3, ra_J (q 70) cJ 100 b4] H → va_D A [ro_rrrrrrrnn (q 11) 1 (q 10) (q 67) (q 68) (q 69) (q 70) (q 71) (q 72) gd gs, ra_I (q 67) cI 90 e1, ra_I (q 68) cI 9 e2, ra_I (q 69) cI 10 e3, ra_J (q 70) cJ 100 b4] → va_S A s.heap H locs → lv_has ls 7 [(1, .int (nI dd - 1)), (0, .ref (q 11))] → W p l e { frames := 1, cells := 0, slots := 0, locals := 22 } s m ([.ref (q 11)] : List Value).toArray below meth c H locs 0 0 (MQ below (skL D (skT cI cJ cC cZ cS) (fun (r : Int64) (u : va_W) => ∃ (g4 : Nat → Int64), kcWy Ed gd 0 g4 ∧ r = Int64.ofNat (kcC Ed gd 0 gs) ∧ u = [ro_rrrrrrrnn (q 11) 1 (q 10) (q 67) (q 68) (q 69) (q 70) (q 71) (q 72) gd gs, ra_I (q 67) cI 90 e1, ra_I (q 68) cI 9 e2, ra_I (q 69) cI 10 e3, ra_J (q 70) cJ 100 g4]) A) ([.ref (q 11)] : List Value).toArray s 0 0 A) (F0 m 36 ls []) := by
          intro n_5
          induction n_5 with
          | zero => intro dd b4 H locs ls hm; exact absurd hm (Nat.not_lt_zero _)
          | succ n_5 ih_lp_4 =>
            intro dd b4 H locs ls hm hdd hwy_ hP hD hS hl
            refine lv_iload_n hx hb dX1_countWays_36 rfl (lv_at hl 0 rfl) ?_
            refine lv_if_lt (tgt := 132) hx hb dX1_countWays_37 (by decide) (fun c_6 => ?_) (fun c_6 => ?_)
            · have c_6 : dd = 0 := npm0 dd (by omega) c_6
              refine lv_aload_n hx hb dX1_countWays_132 rfl (lv_at hl 1 rfl) ?_
              refine sk_get (v := .ref (q 70)) (C := RX1) (T := TX1) (N := 9) hx hb hts inlX1 hown hK hP 0 rfl rfl 4 (Nat.le_of_ble_eq_true rfl) w_2_99 rfl dX1_countWays_133 ?_
              refine lv_aload_n hx hb dX1_countWays_136 rfl (lv_at hl 1 rfl) ?_
              refine sk_get (v := .int (nI gs)) (C := RX1) (T := TX1) (N := 9) hx hb hts inlX1 hown hK hP 0 rfl rfl 8 (Nat.le_of_ble_eq_true rfl) w_2_103 rfl dX1_countWays_137 ?_
              refine va_lald hx hb hK.1 hP 4 1 rfl rfl (vin gs 100 (by omega) (Nat.le_of_ble_eq_true rfl)) dX1_countWays_140 ?_
              have hfin := hwy_ 0 (by omega) (by omega) gs (by omega)
              rw [Nat.zero_mul, Nat.zero_add, Nat.sub_zero] at hfin
              refine sk_topl (Int64.ofNat (kcC Ed gd 0 gs)) (by rw [nI_clamp (by omega)]; exact hfin) ?_
              exact sk_lret hx hb hr hlocks hK hP hD hS (⟨b4, (fun d h1 h2 => hwy_ d (by omega) h2), rfl, rfl⟩) (Nat.le_of_ble_eq_true rfl) (Nat.le_of_ble_eq_true rfl) dX1_countWays_141
            · have c_6 : 1 ≤ dd := npm1 dd c_6
              rw [npred dd (by omega)] at hl
              refine lv_iconst (v := 0) hx hb dX1_countWays_40 ic_0 ?_
              refine lv_istore_n (lv' := [(2, .int 0), (1, .int (nI (dd - 1))), (0, .ref (q 11))]) hx hb dX1_countWays_41 rfl hl (by decide) rfl (fun ls hl => ?_)
              have lp_7 : ∀ (n_8 : Nat) (jj : Nat) (c4 : Nat → Int64) (H : Heap) (locs : List Loc) (ls : Array Slot), 10 - jj < n_8 → (jj ≤ 10) → (kcWj Ed gd (dd - 1) jj c4) → va_P D vwCl [ro_rrrrrrrnn (q 11) 1 (q 10) (q 67) (q 68) (q 69) (q 70) (q 71) (q 72) gd gs, ra_I (q 67) cI 90 e1, ra_I (q 68) cI 9 e2, ra_I (q 69) cI 10 e3, ra_J (q 70) cJ 100 c4] H → va_D A [ro_rrrrrrrnn (q 11) 1 (q 10) (q 67) (q 68) (q 69) (q 70) (q 71) (q 72) gd gs, ra_I (q 67) cI 90 e1, ra_I (q 68) cI 9 e2, ra_I (q 69) cI 10 e3, ra_J (q 70) cJ 100 c4] → va_S A s.heap H locs → lv_has ls 7 [(2, .int (nI jj)), (1, .int (nI (dd - 1))), (0, .ref (q 11))] → W p l e { frames := 1, cells := 0, slots := 0, locals := 22 } s m ([.ref (q 11)] : List Value).toArray below meth c H locs 0 0 (MQ below (skL D (skT cI cJ cC cZ cS) (fun (r : Int64) (u : va_W) => ∃ (g4 : Nat → Int64), kcWy Ed gd 0 g4 ∧ r = Int64.ofNat (kcC Ed gd 0 gs) ∧ u = [ro_rrrrrrrnn (q 11) 1 (q 10) (q 67) (q 68) (q 69) (q 70) (q 71) (q 72) gd gs, ra_I (q 67) cI 90 e1, ra_I (q 68) cI 9 e2, ra_I (q 69) cI 10 e3, ra_J (q 70) cJ 100 g4]) A) ([.ref (q 11)] : List Value).toArray s 0 0 A) (F0 m 42 ls []) := by
                intro n_8
                induction n_8 with
                | zero => intro jj c4 H locs ls hm; exact absurd hm (Nat.not_lt_zero _)
                | succ n_8 ih_lp_7 =>
                  intro jj c4 H locs ls hm hjj hwj hP hD hS hl
                  refine lv_iload_n hx hb dX1_countWays_42 rfl (lv_at hl 0 rfl) ?_
                  refine lv_bipush (v := 10) hx hb dX1_countWays_43 (by decide) ?_
                  refine lv_icmp_ge (tgt := 126) hx hb dX1_countWays_45 (by decide) (fun c_9 => ?_) (fun c_9 => ?_)
                  · have c_9 : 10 ≤ jj := (nle 10 jj (Nat.le_of_ble_eq_true rfl) (by omega)).mp c_9
                    refine lv_iinc (v := nI (dd - 1) - 1) (lv' := [(1, .int (nI (dd - 1) - 1)), (2, .int (nI jj)), (0, .ref (q 11))]) hx hb dX1_countWays_126 hl (k := 1) rfl (ndn _) (by decide) rfl (fun ls hl => ?_)
                    refine lv_goto (tgt := 36) hx hb dX1_countWays_129 (by decide) ?_
                    exact ih_lp_4 (dd - 1) c4 _ _ _ (by omega) (by omega) (kwj_10 (show kcWj Ed gd (dd - 1) 10 c4 by rw [show 10 = jj by omega]; exact hwj)) hP hD hS (lv_sub hl [0, 2] rfl)
                  · have c_9 : ¬ (10 ≤ jj) := fun h => c_9 ((nle 10 jj (Nat.le_of_ble_eq_true rfl) (by omega)).mpr h)
                    refine lv_aload_n hx hb dX1_countWays_48 rfl (lv_at hl 2 rfl) ?_
                    refine lv_iload_n hx hb dX1_countWays_49 rfl (lv_at hl 1 rfl) ?_
                    refine lv_iload_n hx hb dX1_countWays_50 rfl (lv_at hl 0 rfl) ?_
                    refine sk_Vi (q0 := 0) (n := 2) (rest := []) (wr := fmR om_5_1e _) ⟨hx, hb, hml, hown, hts⟩ hl.1 (c_knext l D cI cJ cC cZ cS q gd gs e1 e2 e3 (dd - 1) jj Ed hgd (by omega) (by omega) hld (klv_i hlv (by omega))) w_4_57 w_4_59 w_0_20 w_1_13 w_4_60 hd_X1_next_2 ⟨⟨(Nat.le_of_ble_eq_true rfl), (Nat.le_of_ble_eq_true rfl)⟩, (Nat.le_of_ble_eq_true rfl), (Nat.le_of_ble_eq_true rfl)⟩ hK hP hD hS hA (fmT om_5_1e 0) (fmF om_5_1e 0) (fm_C1 rfl rfl) (fm_R rfl rfl) (fm_nT om_5_1e 0) (fm_nF om_5_1e 0) (fm_di om_5_1e 0) rfl rfl rfl rfl (Nat.le_of_ble_eq_true rfl) dX1_countWays_51 (fun r_11 u H locs hw hP hD hS => ?_)
                    refine exE hw (fun nq_10 hw1 => anE hw1 (fun hnx_12 hw2 => anE hw2 (fun er_14 eu_13 => ?_)))
                    clear hw hw1 hw2
                    subst er_14
                    refine o_mgE (ws' := [ro_rrrrrrrnn (q 11) 1 (q 10) (q 67) (q 68) (q 69) (q 70) (q 71) (q 72) gd gs, ra_I (q 67) cI 90 e1, ra_I (q 68) cI 9 e2, ra_I (q 69) cI 10 e3, ra_J (q 70) cJ 100 c4]) eu_13 hP hD rfl (fun hP hD => ?_)
                    have hl_15 := hnx_12.1
                    refine lv_istore_n (lv' := [(3, .int (nI nq_10)), (2, .int (nI jj)), (1, .int (nI (dd - 1))), (0, .ref (q 11))]) hx hb dX1_countWays_54 rfl hl (by decide) rfl (fun ls hl => ?_)
                    refine lv_lconst (v := 0) hx hb dX1_countWays_55 (by decide) ?_
                    refine lv_lstore (lv' := [(4, .long 0), (3, .int (nI nq_10)), (2, .int (nI jj)), (1, .int (nI (dd - 1))), (0, .ref (q 11))]) hx hb dX1_countWays_56 hl (by decide) rfl (fun ls hl => ?_)
                    refine lv_iconst (v := 0) hx hb dX1_countWays_58 ic_0 ?_
                    refine lv_istore (lv' := [(6, .int 0), (4, .long 0), (3, .int (nI nq_10)), (2, .int (nI jj)), (1, .int (nI (dd - 1))), (0, .ref (q 11))]) hx hb dX1_countWays_59 hl (by decide) rfl (fun ls hl => ?_)
                    have lp_16 : ∀ (n_17 : Nat) (kk : Nat) (sm : Int64) (H : Heap) (locs : List Loc) (ls : Array Slot), 10 - kk < n_17 → (kk ≤ 10) → (sm = Int64.ofNat (kcS (kcW Ed gd (dd - 1) jj) kk)) → va_P D vwCl [ro_rrrrrrrnn (q 11) 1 (q 10) (q 67) (q 68) (q 69) (q 70) (q 71) (q 72) gd gs, ra_I (q 67) cI 90 e1, ra_I (q 68) cI 9 e2, ra_I (q 69) cI 10 e3, ra_J (q 70) cJ 100 c4] H → va_D A [ro_rrrrrrrnn (q 11) 1 (q 10) (q 67) (q 68) (q 69) (q 70) (q 71) (q 72) gd gs, ra_I (q 67) cI 90 e1, ra_I (q 68) cI 9 e2, ra_I (q 69) cI 10 e3, ra_J (q 70) cJ 100 c4] → va_S A s.heap H locs → lv_has ls 7 [(6, .int (nI kk)), (4, .long sm), (3, .int (nI nq_10)), (2, .int (nI jj)), (1, .int (nI (dd - 1))), (0, .ref (q 11))] → W p l e { frames := 1, cells := 0, slots := 0, locals := 22 } s m ([.ref (q 11)] : List Value).toArray below meth c H locs 0 0 (MQ below (skL D (skT cI cJ cC cZ cS) (fun (r : Int64) (u : va_W) => ∃ (g4 : Nat → Int64), kcWy Ed gd 0 g4 ∧ r = Int64.ofNat (kcC Ed gd 0 gs) ∧ u = [ro_rrrrrrrnn (q 11) 1 (q 10) (q 67) (q 68) (q 69) (q 70) (q 71) (q 72) gd gs, ra_I (q 67) cI 90 e1, ra_I (q 68) cI 9 e2, ra_I (q 69) cI 10 e3, ra_J (q 70) cJ 100 g4]) A) ([.ref (q 11)] : List Value).toArray s 0 0 A) (F0 m 61 ls []) := by
                      intro n_17
                      induction n_17 with
                      | zero => intro kk sm H locs ls hm; exact absurd hm (Nat.not_lt_zero _)
                      | succ n_17 ih_lp_16 =>
                        intro kk sm H locs ls hm hkk hsm hP hD hS hl
                        refine lv_iload hx hb dX1_countWays_61 (lv_at hl 0 rfl) ?_
                        refine lv_bipush (v := 10) hx hb dX1_countWays_63 (by decide) ?_
                        refine lv_icmp_ge (tgt := 107) hx hb dX1_countWays_65 (by decide) (fun c_18 => ?_) (fun c_18 => ?_)
                        · have c_18 : 10 ≤ kk := (nle 10 kk (Nat.le_of_ble_eq_true rfl) (by omega)).mp c_18
                          refine lv_aload_n hx hb dX1_countWays_107 rfl (lv_at hl 5 rfl) ?_
                          refine sk_get (v := .ref (q 70)) (C := RX1) (T := TX1) (N := 9) hx hb hts inlX1 hown hK hP 0 rfl rfl 4 (Nat.le_of_ble_eq_true rfl) w_2_99 rfl dX1_countWays_108 ?_
                          refine lv_iload_n hx hb dX1_countWays_111 rfl (lv_at hl 4 rfl) ?_
                          refine lv_bipush (v := 10) hx hb dX1_countWays_112 (by decide) ?_
                          refine lv_imul hx hb dX1_countWays_114 ?_
                          refine sk_top (nI ((dd - 1) * 10)) (nmul (dd - 1) 10) ?_
                          refine lv_iload_n hx hb dX1_countWays_115 rfl (lv_at hl 3 rfl) ?_
                          refine lv_iadd hx hb dX1_countWays_116 ?_
                          refine sk_top (nI ((dd - 1) * 10 + jj)) (nI_add ((dd - 1) * 10) jj) ?_
                          refine lv_lload hx hb dX1_countWays_117 (lv_at hl 1 rfl) ?_
                          refine sk_lastE (k := ((dd - 1) * 10 + jj)) (ws' := fun f_19 => [ro_rrrrrrrnn (q 11) 1 (q 10) (q 67) (q 68) (q 69) (q 70) (q 71) (q 72) gd gs, ra_I (q 67) cI 90 e1, ra_I (q 68) cI 9 e2, ra_I (q 69) cI 10 e3, ra_J (q 70) cJ 100 f_19]) hx hb hK hP hD hS 4 1 rfl rfl (by omega) (by omega) (fun _ => rfl) dX1_countWays_119 (fun f_19 H locs ef_20 hP hD hS => ?_)
                          refine lv_iinc (v := nI (jj + 1)) (lv' := [(2, .int (nI (jj + 1))), (6, .int (nI kk)), (4, .long sm), (3, .int (nI nq_10)), (1, .int (nI (dd - 1))), (0, .ref (q 11))]) hx hb dX1_countWays_120 hl (k := 3) rfl (ninc jj 1 (by decide)) (by decide) rfl (fun ls hl => ?_)
                          refine lv_goto (tgt := 42) hx hb dX1_countWays_123 (by decide) ?_
                          exact ih_lp_7 (jj + 1) f_19 _ _ _ (by omega) (by omega) (kwj_s hwj ef_20 (by omega) (by omega) (by rw [hsm, show kk = 10 by omega])) hP hD hS (lv_sub hl [0, 4, 5] rfl)
                        · have c_18 : ¬ (10 ≤ kk) := fun h => c_18 ((nle 10 kk (Nat.le_of_ble_eq_true rfl) (by omega)).mpr h)
                          refine lv_lload hx hb dX1_countWays_68 (lv_at hl 1 rfl) ?_
                          refine lv_iload_n hx hb dX1_countWays_70 rfl (lv_at hl 2 rfl) ?_
                          refine lv_iload hx hb dX1_countWays_71 (lv_at hl 0 rfl) ?_
                          refine lv_ishr hx hb dX1_countWays_73 ?_
                          refine lv_iconst (v := 1) hx hb dX1_countWays_74 ic_1 ?_
                          refine lv_iand hx hb dX1_countWays_75 ?_
                          refine lv_iconst (v := 1) hx hb dX1_countWays_76 ic_1 ?_
                          refine lv_icmp_ne (tgt := 97) hx hb dX1_countWays_77 (by decide) (fun c_21 => ?_) (fun c_21 => ?_)
                          · skip
                            refine lv_lconst (v := 0) hx hb dX1_countWays_97 (by decide) ?_
                            refine lv_ladd hx hb dX1_countWays_98 ?_
                            refine lv_lstore (lv' := [(4, .long (sm + 0)), (6, .int (nI kk)), (3, .int (nI nq_10)), (2, .int (nI jj)), (1, .int (nI (dd - 1))), (0, .ref (q 11))]) hx hb dX1_countWays_99 hl (by decide) rfl (fun ls hl => ?_)
                            refine lv_iinc (v := nI (kk + 1)) (lv' := [(6, .int (nI (kk + 1))), (4, .long (sm + 0)), (3, .int (nI nq_10)), (2, .int (nI jj)), (1, .int (nI (dd - 1))), (0, .ref (q 11))]) hx hb dX1_countWays_101 hl (k := 1) rfl (ninc kk 1 (by decide)) (by decide) rfl (fun ls hl => ?_)
                            refine lv_goto (tgt := 61) hx hb dX1_countWays_104 (by decide) ?_
                            exact ih_lp_16 (kk + 1) (sm + 0) _ _ _ (by omega) (by omega) (ksm_n hnx_12 (by omega) (fun hq => c_21 ((ktb hnx_12.1 (by omega)).mpr hq)) hsm) hP hD hS (lv_sub hl [0, 1, 2, 3, 4, 5] rfl)
                          · skip
                            refine lv_aload_n hx hb dX1_countWays_80 rfl (lv_at hl 5 rfl) ?_
                            refine sk_get (v := .ref (q 70)) (C := RX1) (T := TX1) (N := 9) hx hb hts inlX1 hown hK hP 0 rfl rfl 4 (Nat.le_of_ble_eq_true rfl) w_2_99 rfl dX1_countWays_81 ?_
                            refine lv_iload_n hx hb dX1_countWays_84 rfl (lv_at hl 4 rfl) ?_
                            refine lv_iconst (v := 1) hx hb dX1_countWays_85 ic_1 ?_
                            refine lv_iadd hx hb dX1_countWays_86 ?_
                            refine sk_top (nI (dd - 1 + 1)) (nI_add (dd - 1) 1) ?_
                            refine lv_bipush (v := 10) hx hb dX1_countWays_87 (by decide) ?_
                            refine lv_imul hx hb dX1_countWays_89 ?_
                            refine sk_top (nI ((dd - 1 + 1) * 10)) (nmul (dd - 1 + 1) 10) ?_
                            refine lv_iload hx hb dX1_countWays_90 (lv_at hl 0 rfl) ?_
                            refine lv_iadd hx hb dX1_countWays_92 ?_
                            refine sk_top (nI ((dd - 1 + 1) * 10 + kk)) (nI_add ((dd - 1 + 1) * 10) kk) ?_
                            refine va_lald hx hb hK.1 hP 4 1 rfl rfl (vin ((dd - 1 + 1) * 10 + kk) 100 (by omega) (Nat.le_of_ble_eq_true rfl)) dX1_countWays_93 ?_
                            refine sk_topl (c4 ((dd - 1 + 1) * 10 + kk)) (by rw [nI_clamp (by omega)]) ?_
                            refine lv_goto (tgt := 98) hx hb dX1_countWays_94 (by decide) ?_
                            refine lv_ladd hx hb dX1_countWays_98 ?_
                            refine lv_lstore (lv' := [(4, .long (sm + (c4 ((dd - 1 + 1) * 10 + kk)))), (6, .int (nI kk)), (3, .int (nI nq_10)), (2, .int (nI jj)), (1, .int (nI (dd - 1))), (0, .ref (q 11))]) hx hb dX1_countWays_99 hl (by decide) rfl (fun ls hl => ?_)
                            refine lv_iinc (v := nI (kk + 1)) (lv' := [(6, .int (nI (kk + 1))), (4, .long (sm + (c4 ((dd - 1 + 1) * 10 + kk)))), (3, .int (nI nq_10)), (2, .int (nI jj)), (1, .int (nI (dd - 1))), (0, .ref (q 11))]) hx hb dX1_countWays_101 hl (k := 1) rfl (ninc kk 1 (by decide)) (by decide) rfl (fun ls hl => ?_)
                            refine lv_goto (tgt := 61) hx hb dX1_countWays_104 (by decide) ?_
                            exact ih_lp_16 (kk + 1) (sm + (c4 ((dd - 1 + 1) * 10 + kk))) _ _ _ (by omega) (by omega) (ksm_y hnx_12 hwj.1 (by omega) (by omega) ((ktb hnx_12.1 (by omega)).mp c_21) hsm) hP hD hS (lv_sub hl [0, 1, 2, 3, 4, 5] rfl)
                    exact lp_16 (10 - 0 + 1) 0 0 _ _ _ (Nat.lt_succ_self _) (by omega) rfl hP hD hS (lv_sub hl [0, 1, 2, 3, 4, 5] rfl)
              exact lp_7 (10 - 0 + 1) 0 b4 _ _ _ (Nat.lt_succ_self _) (by omega) (kwj_0 hwy_ (by omega)) hP hD hS (lv_sub hl [0, 1, 2] rfl)
        exact lp_4 (gd + 1) gd a4 _ _ _ (Nat.lt_succ_self _) (by omega) (kwy_top (fun m hm => hone m (by omega))) hP hD hS (lv_sub hl [0, 1] rfl)
      · have c_3 : ¬ (10 ≤ i) := fun h => c_3 ((nle 10 i (Nat.le_of_ble_eq_true rfl) (by omega)).mpr h)
        refine lv_aload_n hx hb dX1_countWays_8 rfl (lv_at hl 1 rfl) ?_
        refine sk_get (v := .ref (q 70)) (C := RX1) (T := TX1) (N := 9) hx hb hts inlX1 hown hK hP 0 rfl rfl 4 (Nat.le_of_ble_eq_true rfl) w_2_99 rfl dX1_countWays_9 ?_
        refine lv_aload_n hx hb dX1_countWays_12 rfl (lv_at hl 1 rfl) ?_
        refine sk_get (v := .int (nI gd)) (C := RX1) (T := TX1) (N := 9) hx hb hts inlX1 hown hK hP 0 rfl rfl 7 (Nat.le_of_ble_eq_true rfl) w_2_102 rfl dX1_countWays_13 ?_
        refine lv_bipush (v := 10) hx hb dX1_countWays_16 (by decide) ?_
        refine lv_imul hx hb dX1_countWays_18 ?_
        refine sk_top (nI (gd * 10)) (nmul gd 10) ?_
        refine lv_iload_n hx hb dX1_countWays_19 rfl (lv_at hl 0 rfl) ?_
        refine lv_iadd hx hb dX1_countWays_20 ?_
        refine sk_top (nI (gd * 10 + i)) (nI_add (gd * 10) i) ?_
        refine lv_lconst (v := 1) hx hb dX1_countWays_21 (by decide) ?_
        refine sk_lastE (k := (gd * 10 + i)) (ws' := fun f_22 => [ro_rrrrrrrnn (q 11) 1 (q 10) (q 67) (q 68) (q 69) (q 70) (q 71) (q 72) gd gs, ra_I (q 67) cI 90 e1, ra_I (q 68) cI 9 e2, ra_I (q 69) cI 10 e3, ra_J (q 70) cJ 100 f_22]) hx hb hK hP hD hS 4 1 rfl rfl (by omega) (by omega) (fun _ => rfl) dX1_countWays_22 (fun f_22 H locs ef_23 hP hD hS => ?_)
        refine lv_iinc (v := nI (i + 1)) (lv' := [(1, .int (nI (i + 1))), (0, .ref (q 11))]) hx hb dX1_countWays_23 hl (k := 0) rfl (ninc i 1 (by decide)) (by decide) rfl (fun ls hl => ?_)
        refine lv_goto (tgt := 2) hx hb dX1_countWays_26 (by decide) ?_
        exact ih_lp_1 (i + 1) f_22 _ _ _ (by omega) (by omega) (kone_s hone ef_23) hP hD hS (lv_sub hl [0, 1] rfl)
  exact lp_1 (10 - 0 + 1) 0 e4 _ _ _ (Nat.lt_succ_self _) (by omega) (fun m hm => absurd hm (Nat.not_lt_zero m)) hP hD hS (lv_sub hl [0, 1] rfl)
set_option maxHeartbeats 4000000 in
set_option maxRecDepth 100000 in
theorem c_ktakeNumbered (l : Launch) (D : va_G) (cI cJ cC cZ cS : ClassId) (q : Nat → Nat) (gd : Nat) (gs : Nat) (e1 : Nat → Int32) (e2 : Nat → Int32) (e3 : Nat → Int32) (e4 : Nat → Int64) (rw : Nat) (ra : Nat → Int32) (Ed : Nat → Nat → Nat → Bool) (nu : Nat) (hgd : gd ≤ 9) (hgs : gs ≤ 9) (hld : kcLd Ed gd e1 e2) (hlv : kcLv Ed gd 0 e3) (hwy : kcWy Ed gd 0 e4) (hnu : nu < kcC Ed gd 0 gs) : skM l yX1_takeNumbered cX1_takeNumbered 13 none 1 22 0 0 D (skT cI cJ cC cZ cS) [.ref (q 11), .long (Int64.ofNat nu), .ref rw] [ro_rrrrrrrnn (q 11) 1 (q 10) (q 67) (q 68) (q 69) (q 70) (q 71) (q 72) gd gs, ra_I (q 67) cI 90 e1, ra_I (q 68) cI 9 e2, ra_I (q 69) cI 10 e3, ra_J (q 70) cJ 100 e4, ra_I rw cI 9 ra] (skV D (skT cI cJ cC cZ cS) (fun (u : va_W) => ∃ (ra2 : Nat → Int32), kcRw Ed gd gs nu gd ra2 ∧ u = [ro_rrrrrrrnn (q 11) 1 (q 10) (q 67) (q 68) (q 69) (q 70) (q 71) (q 72) gd gs, ra_I (q 67) cI 90 e1, ra_I (q 68) cI 9 e2, ra_I (q 69) cI 10 e3, ra_J (q 70) cJ 100 e4, ra_I rw cI 9 ra2])) := by
  refine skM_of pf_X1_takeNumbered (Nat.le_of_ble_eq_true rfl) ?_
  intro p e s m below meth c A ls E hP hD hl
  refine skE_el E (fun hx hb hr hml hlocks hin hown hts hK hA => ?_)
  have hown : s.vm.findClass RX1 = some m.cls := hown
  have hS : va_S A s.heap s.heap [] := va_S.rf
  have hl : lv_has ls 13 [(0, .ref (q 11)), (1, .long (Int64.ofNat nu)), (3, .ref rw)] := hl
  refine lv_lload_n hx hb dX1_takeNumbered_0 rfl (lv_at hl 1 rfl) ?_
  refine lv_lstore (lv' := [(4, .long (Int64.ofNat nu)), (0, .ref (q 11)), (1, .long (Int64.ofNat nu)), (3, .ref rw)]) hx hb dX1_takeNumbered_1 hl (by decide) rfl (fun ls hl => ?_)
  refine lv_aload_n hx hb dX1_takeNumbered_3 rfl (lv_at hl 1 rfl) ?_
  refine sk_get (v := .int (nI gs)) (C := RX1) (T := TX1) (N := 9) hx hb hts inlX1 hown hK hP 0 rfl rfl 8 (Nat.le_of_ble_eq_true rfl) w_2_103 rfl dX1_takeNumbered_4 ?_
  refine lv_istore (lv' := [(6, .int (nI gs)), (4, .long (Int64.ofNat nu)), (0, .ref (q 11)), (1, .long (Int64.ofNat nu)), (3, .ref rw)]) hx hb dX1_takeNumbered_7 hl (by decide) rfl (fun ls hl => ?_)
  refine lv_iconst (v := 0) hx hb dX1_takeNumbered_9 ic_0 ?_
  refine lv_istore (lv' := [(7, .int 0), (6, .int (nI gs)), (4, .long (Int64.ofNat nu)), (0, .ref (q 11)), (1, .long (Int64.ofNat nu)), (3, .ref rw)]) hx hb dX1_takeNumbered_10 hl (by decide) rfl (fun ls hl => ?_)
  have lp_1 : ∀ (n_2 : Nat) (i : Nat) (ah : Nat) (lf : Int64) (rb : Nat → Int32) (H : Heap) (locs : List Loc) (ls : Array Slot), gd - i < n_2 → (i ≤ gd) → (ah < 10) → ((kcA Ed gd gs nu i).1 = ah) → (lf = Int64.ofNat (kcA Ed gd gs nu i).2) → (kcRw Ed gd gs nu i rb) → va_P D vwCl [ro_rrrrrrrnn (q 11) 1 (q 10) (q 67) (q 68) (q 69) (q 70) (q 71) (q 72) gd gs, ra_I (q 67) cI 90 e1, ra_I (q 68) cI 9 e2, ra_I (q 69) cI 10 e3, ra_J (q 70) cJ 100 e4, ra_I rw cI 9 rb] H → va_D A [ro_rrrrrrrnn (q 11) 1 (q 10) (q 67) (q 68) (q 69) (q 70) (q 71) (q 72) gd gs, ra_I (q 67) cI 90 e1, ra_I (q 68) cI 9 e2, ra_I (q 69) cI 10 e3, ra_J (q 70) cJ 100 e4, ra_I rw cI 9 rb] → va_S A s.heap H locs → lv_has ls 13 [(7, .int (nI i)), (6, .int (nI ah)), (4, .long lf), (0, .ref (q 11)), (1, .long (Int64.ofNat nu)), (3, .ref rw)] → W p l e { frames := 1, cells := 0, slots := 0, locals := 22 } s m ([.ref (q 11), .long (Int64.ofNat nu), .ref rw] : List Value).toArray below meth c H locs 0 0 (MQ below (skV D (skT cI cJ cC cZ cS) (fun (u : va_W) => ∃ (ra2 : Nat → Int32), kcRw Ed gd gs nu gd ra2 ∧ u = [ro_rrrrrrrnn (q 11) 1 (q 10) (q 67) (q 68) (q 69) (q 70) (q 71) (q 72) gd gs, ra_I (q 67) cI 90 e1, ra_I (q 68) cI 9 e2, ra_I (q 69) cI 10 e3, ra_J (q 70) cJ 100 e4, ra_I rw cI 9 ra2]) A) ([.ref (q 11), .long (Int64.ofNat nu), .ref rw] : List Value).toArray s 0 0 A) (F0 m 12 ls []) := by
    intro n_2
    induction n_2 with
    | zero => intro i ah lf rb H locs ls hm; exact absurd hm (Nat.not_lt_zero _)
    | succ n_2 ih_lp_1 =>
      intro i ah lf rb H locs ls hm hi hah haa hlf hrr hP hD hS hl
      refine lv_iload hx hb dX1_takeNumbered_12 (lv_at hl 0 rfl) ?_
      refine lv_aload_n hx hb dX1_takeNumbered_14 rfl (lv_at hl 3 rfl) ?_
      refine sk_get (v := .int (nI gd)) (C := RX1) (T := TX1) (N := 9) hx hb hts inlX1 hown hK hP 0 rfl rfl 7 (Nat.le_of_ble_eq_true rfl) w_2_102 rfl dX1_takeNumbered_15 ?_
      refine lv_icmp_ge (tgt := 120) hx hb dX1_takeNumbered_18 (by decide) (fun c_3 => ?_) (fun c_3 => ?_)
      · have c_3 : gd ≤ i := (nle gd i (by omega) (by omega)).mp c_3
        exact sk_vret hx hb hr hlocks hK hP hD hS (⟨rb, krw_e hrr (by omega), rfl⟩) (Nat.le_of_ble_eq_true rfl) (Nat.le_of_ble_eq_true rfl) dX1_takeNumbered_120
      · have c_3 : ¬ (gd ≤ i) := fun h => c_3 ((nle gd i (by omega) (by omega)).mpr h)
        refine lv_aload_n hx hb dX1_takeNumbered_21 rfl (lv_at hl 3 rfl) ?_
        refine lv_iload hx hb dX1_takeNumbered_22 (lv_at hl 0 rfl) ?_
        refine lv_iload hx hb dX1_takeNumbered_24 (lv_at hl 1 rfl) ?_
        refine sk_Vi (q0 := 0) (n := 2) (rest := []) (wr := fmR om_6_3c _) ⟨hx, hb, hml, hown, hts⟩ hl.1 (c_knext l D cI cJ cC cZ cS q gd gs e1 e2 e3 i ah Ed hgd (by omega) hah hld (klv_i hlv (by omega))) w_4_57 w_4_59 w_0_20 w_1_13 w_4_60 hd_X1_next_2 ⟨⟨(Nat.le_of_ble_eq_true rfl), (Nat.le_of_ble_eq_true rfl)⟩, (Nat.le_of_ble_eq_true rfl), (Nat.le_of_ble_eq_true rfl)⟩ hK hP hD hS hA (fmT om_6_3c 0) (fmF om_6_3c 0) (fm_C1 rfl rfl) (fm_R rfl rfl) (fm_nT om_6_3c 0) (fm_nF om_6_3c 0) (fm_di om_6_3c 0) rfl rfl rfl rfl (Nat.le_of_ble_eq_true rfl) dX1_takeNumbered_26 (fun r_5 u H locs hw hP hD hS => ?_)
        refine exE hw (fun nq_4 hw1 => anE hw1 (fun hnx_6 hw2 => anE hw2 (fun er_8 eu_7 => ?_)))
        clear hw hw1 hw2
        subst er_8
        refine o_mgE (ws' := [ro_rrrrrrrnn (q 11) 1 (q 10) (q 67) (q 68) (q 69) (q 70) (q 71) (q 72) gd gs, ra_I (q 67) cI 90 e1, ra_I (q 68) cI 9 e2, ra_I (q 69) cI 10 e3, ra_J (q 70) cJ 100 e4, ra_I rw cI 9 rb]) eu_7 hP hD rfl (fun hP hD => ?_)
        have hl_9 := hnx_6.1
        have hok := kcA_ok (by omega) hnu i (by omega)
        rw [haa, ← kcW_S (show i < gd by omega), ← kcT_10] at hok
        refine lv_istore (lv' := [(8, .int (nI nq_4)), (7, .int (nI i)), (6, .int (nI ah)), (4, .long lf), (0, .ref (q 11)), (1, .long (Int64.ofNat nu)), (3, .ref rw)]) hx hb dX1_takeNumbered_29 hl (by decide) rfl (fun ls hl => ?_)
        refine lv_iconst (v := 0) hx hb dX1_takeNumbered_31 ic_0 ?_
        refine lv_istore (lv' := [(9, .int 0), (8, .int (nI nq_4)), (7, .int (nI i)), (6, .int (nI ah)), (4, .long lf), (0, .ref (q 11)), (1, .long (Int64.ofNat nu)), (3, .ref rw)]) hx hb dX1_takeNumbered_32 hl (by decide) rfl (fun ls hl => ?_)
        refine lv_iconst (v := 0) hx hb dX1_takeNumbered_34 ic_0 ?_
        refine lv_istore (lv' := [(10, .int 0), (9, .int 0), (8, .int (nI nq_4)), (7, .int (nI i)), (6, .int (nI ah)), (4, .long lf), (0, .ref (q 11)), (1, .long (Int64.ofNat nu)), (3, .ref rw)]) hx hb dX1_takeNumbered_35 hl (by decide) rfl (fun ls hl => ?_)
        have lp_10 : ∀ (n_11 : Nat) (jj : Nat) (lf2 : Int64) (yy : Nat) (H : Heap) (locs : List Loc) (ls : Array Slot), 10 - jj < n_11 → (jj ≤ 10) → (lf2 = Int64.ofNat yy) → (kcP (kcW Ed gd i ah) (10 - jj) jj yy = kcP (kcW Ed gd i ah) 10 0 (kcA Ed gd gs nu i).2) → (yy < kcT (kcW Ed gd i ah) (10 - jj) jj) → (yy ≤ 10000000000) → va_P D vwCl [ro_rrrrrrrnn (q 11) 1 (q 10) (q 67) (q 68) (q 69) (q 70) (q 71) (q 72) gd gs, ra_I (q 67) cI 90 e1, ra_I (q 68) cI 9 e2, ra_I (q 69) cI 10 e3, ra_J (q 70) cJ 100 e4, ra_I rw cI 9 rb] H → va_D A [ro_rrrrrrrnn (q 11) 1 (q 10) (q 67) (q 68) (q 69) (q 70) (q 71) (q 72) gd gs, ra_I (q 67) cI 90 e1, ra_I (q 68) cI 9 e2, ra_I (q 69) cI 10 e3, ra_J (q 70) cJ 100 e4, ra_I rw cI 9 rb] → va_S A s.heap H locs → lv_has ls 13 [(10, .int (nI jj)), (9, .int 0), (8, .int (nI nq_4)), (7, .int (nI i)), (6, .int (nI ah)), (4, .long lf2), (0, .ref (q 11)), (1, .long (Int64.ofNat nu)), (3, .ref rw)] → W p l e { frames := 1, cells := 0, slots := 0, locals := 22 } s m ([.ref (q 11), .long (Int64.ofNat nu), .ref rw] : List Value).toArray below meth c H locs 0 0 (MQ below (skV D (skT cI cJ cC cZ cS) (fun (u : va_W) => ∃ (ra2 : Nat → Int32), kcRw Ed gd gs nu gd ra2 ∧ u = [ro_rrrrrrrnn (q 11) 1 (q 10) (q 67) (q 68) (q 69) (q 70) (q 71) (q 72) gd gs, ra_I (q 67) cI 90 e1, ra_I (q 68) cI 9 e2, ra_I (q 69) cI 10 e3, ra_J (q 70) cJ 100 e4, ra_I rw cI 9 ra2]) A) ([.ref (q 11), .long (Int64.ofNat nu), .ref rw] : List Value).toArray s 0 0 A) (F0 m 37 ls []) := by
          intro n_11
          induction n_11 with
          | zero => intro jj lf2 yy H locs ls hm; exact absurd hm (Nat.not_lt_zero _)
          | succ n_11 ih_lp_10 =>
            intro jj lf2 yy H locs ls hm hjj hl2 hyP hyT hyl hP hD hS hl
            refine lv_iload hx hb dX1_takeNumbered_37 (lv_at hl 0 rfl) ?_
            refine lv_bipush (v := 10) hx hb dX1_takeNumbered_39 (by decide) ?_
            refine lv_icmp_ge (tgt := 104) hx hb dX1_takeNumbered_41 (by decide) (fun c_12 => ?_) (fun c_12 => ?_)
            · have c_12 : 10 ≤ jj := (nle 10 jj (Nat.le_of_ble_eq_true rfl) (by omega)).mp c_12
              exact (kcT_e (by omega) hyT).elim
            · have c_12 : ¬ (10 ≤ jj) := fun h => c_12 ((nle 10 jj (Nat.le_of_ble_eq_true rfl) (by omega)).mpr h)
              subst hl2
              refine lv_iload hx hb dX1_takeNumbered_44 (lv_at hl 2 rfl) ?_
              refine lv_iload hx hb dX1_takeNumbered_46 (lv_at hl 0 rfl) ?_
              refine lv_ishr hx hb dX1_takeNumbered_48 ?_
              refine lv_iconst (v := 1) hx hb dX1_takeNumbered_49 ic_1 ?_
              refine lv_iand hx hb dX1_takeNumbered_50 ?_
              refine lv_iconst (v := 1) hx hb dX1_takeNumbered_51 ic_1 ?_
              refine lv_icmp_ne (tgt := 73) hx hb dX1_takeNumbered_52 (by decide) (fun c_13 => ?_) (fun c_13 => ?_)
              · skip
                refine lv_lconst (v := 0) hx hb dX1_takeNumbered_73 (by decide) ?_
                refine lv_lstore (lv' := [(11, .long 0), (10, .int (nI jj)), (9, .int 0), (8, .int (nI nq_4)), (7, .int (nI i)), (6, .int (nI ah)), (4, .long (Int64.ofNat yy)), (0, .ref (q 11)), (1, .long (Int64.ofNat nu)), (3, .ref rw)]) hx hb dX1_takeNumbered_74 hl (by decide) rfl (fun ls hl => ?_)
                have hh_14 := kwh_n hnx_6 (show jj < 10 by omega) (fun hq => c_13 ((ktb hnx_6.1 (by omega)).mpr hq))
                have hl_15 := kW_le Ed hgd i ah jj
                rw [hh_14] at hl
                refine lv_lload hx hb dX1_takeNumbered_76 (lv_at hl 6 rfl) ?_
                refine lv_lload hx hb dX1_takeNumbered_78 (lv_at hl 0 rfl) ?_
                refine W.lcmp hx hb dX1_takeNumbered_80 ?_
                refine lv_if_ge (tgt := 91) hx hb dX1_takeNumbered_81 (by decide) (fun c_16 => ?_) (fun c_16 => ?_)
                · skip
                  refine lv_lload hx hb dX1_takeNumbered_91 (lv_at hl 6 rfl) ?_
                  refine lv_lload hx hb dX1_takeNumbered_93 (lv_at hl 0 rfl) ?_
                  refine lv_lsub hx hb dX1_takeNumbered_95 ?_
                  have hge := (kcmp_ge (by omega) (by omega)).mp c_16
                  refine sk_topl (Int64.ofNat (yy - kcW Ed gd i ah jj)) (kofn_sub hge) ?_
                  refine lv_lstore (lv' := [(4, .long (Int64.ofNat (yy - kcW Ed gd i ah jj))), (11, .long (Int64.ofNat (kcW Ed gd i ah jj))), (10, .int (nI jj)), (9, .int 0), (8, .int (nI nq_4)), (7, .int (nI i)), (6, .int (nI ah)), (0, .ref (q 11)), (1, .long (Int64.ofNat nu)), (3, .ref rw)]) hx hb dX1_takeNumbered_96 hl (by decide) rfl (fun ls hl => ?_)
                  refine lv_iinc (v := nI (jj + 1)) (lv' := [(10, .int (nI (jj + 1))), (4, .long (Int64.ofNat (yy - kcW Ed gd i ah jj))), (11, .long (Int64.ofNat (kcW Ed gd i ah jj))), (9, .int 0), (8, .int (nI nq_4)), (7, .int (nI i)), (6, .int (nI ah)), (0, .ref (q 11)), (1, .long (Int64.ofNat nu)), (3, .ref rw)]) hx hb dX1_takeNumbered_98 hl (k := 2) rfl (ninc jj 1 (by decide)) (by decide) rfl (fun ls hl => ?_)
                  refine lv_goto (tgt := 37) hx hb dX1_takeNumbered_101 (by decide) ?_
                  exact ih_lp_10 (jj + 1) (Int64.ofNat (yy - kcW Ed gd i ah jj)) (yy - kcW Ed gd i ah jj) _ _ _ (by omega) (by omega) rfl ((kcP_go (by omega) (Nat.not_lt.mpr hge)).symm.trans hyP) (kcT_s (by omega) hyT hge) (by omega) hP hD hS (lv_sub hl [0, 3, 4, 5, 6, 1, 7, 8, 9] rfl)
                · skip
                  refine lv_iload hx hb dX1_takeNumbered_84 (lv_at hl 1 rfl) ?_
                  refine lv_istore (lv' := [(9, .int (nI jj)), (11, .long (Int64.ofNat (kcW Ed gd i ah jj))), (10, .int (nI jj)), (8, .int (nI nq_4)), (7, .int (nI i)), (6, .int (nI ah)), (4, .long (Int64.ofNat yy)), (0, .ref (q 11)), (1, .long (Int64.ofNat nu)), (3, .ref rw)]) hx hb dX1_takeNumbered_86 hl (by decide) rfl (fun ls hl => ?_)
                  refine lv_goto (tgt := 104) hx hb dX1_takeNumbered_88 (by decide) ?_
                  refine lv_aload_n hx hb dX1_takeNumbered_104 rfl (lv_at hl 9 rfl) ?_
                  refine lv_iload hx hb dX1_takeNumbered_105 (lv_at hl 4 rfl) ?_
                  refine lv_iload hx hb dX1_takeNumbered_107 (lv_at hl 0 rfl) ?_
                  refine sk_iastE (k := i) (ws' := fun f_17 => [ro_rrrrrrrnn (q 11) 1 (q 10) (q 67) (q 68) (q 69) (q 70) (q 71) (q 72) gd gs, ra_I (q 67) cI 90 e1, ra_I (q 68) cI 9 e2, ra_I (q 69) cI 10 e3, ra_J (q 70) cJ 100 e4, ra_I rw cI 9 f_17]) hx hb hK hP hD hS 5 0 rfl rfl (by omega) (by omega) (fun _ => rfl) dX1_takeNumbered_109 (fun f_17 H locs ef_18 hP hD hS => ?_)
                  have hk_19 : kcA Ed gd gs nu (i + 1) = (jj, yy) := by rw [kcA_s, haa, ← hyP]; exact kcP_at (by omega) (Nat.lt_of_not_le (fun hq => c_16 ((kcmp_ge (by omega) (by omega)).mpr hq)))
                  refine lv_iload hx hb dX1_takeNumbered_110 (lv_at hl 0 rfl) ?_
                  refine lv_istore (lv' := [(6, .int (nI jj)), (9, .int (nI jj)), (11, .long (Int64.ofNat (kcW Ed gd i ah jj))), (10, .int (nI jj)), (8, .int (nI nq_4)), (7, .int (nI i)), (4, .long (Int64.ofNat yy)), (0, .ref (q 11)), (1, .long (Int64.ofNat nu)), (3, .ref rw)]) hx hb dX1_takeNumbered_112 hl (by decide) rfl (fun ls hl => ?_)
                  refine lv_iinc (v := nI (i + 1)) (lv' := [(7, .int (nI (i + 1))), (6, .int (nI jj)), (9, .int (nI jj)), (11, .long (Int64.ofNat (kcW Ed gd i ah jj))), (10, .int (nI jj)), (8, .int (nI nq_4)), (4, .long (Int64.ofNat yy)), (0, .ref (q 11)), (1, .long (Int64.ofNat nu)), (3, .ref rw)]) hx hb dX1_takeNumbered_114 hl (k := 5) rfl (ninc i 1 (by decide)) (by decide) rfl (fun ls hl => ?_)
                  refine lv_goto (tgt := 12) hx hb dX1_takeNumbered_117 (by decide) ?_
                  exact ih_lp_1 (i + 1) jj (Int64.ofNat yy) f_17 _ _ _ (by omega) (by omega) (by omega) (by rw [hk_19]) (by rw [hk_19]) (krw_s hrr ef_18 (by rw [hk_19])) hP hD hS (lv_sub hl [0, 1, 6, 7, 8, 9] rfl)
              · skip
                refine lv_aload_n hx hb dX1_takeNumbered_55 rfl (lv_at hl 6 rfl) ?_
                refine sk_get (v := .ref (q 70)) (C := RX1) (T := TX1) (N := 9) hx hb hts inlX1 hown hK hP 0 rfl rfl 4 (Nat.le_of_ble_eq_true rfl) w_2_99 rfl dX1_takeNumbered_56 ?_
                refine lv_iload hx hb dX1_takeNumbered_59 (lv_at hl 3 rfl) ?_
                refine lv_iconst (v := 1) hx hb dX1_takeNumbered_61 ic_1 ?_
                refine lv_iadd hx hb dX1_takeNumbered_62 ?_
                refine sk_top (nI (i + 1)) (nI_add i 1) ?_
                refine lv_bipush (v := 10) hx hb dX1_takeNumbered_63 (by decide) ?_
                refine lv_imul hx hb dX1_takeNumbered_65 ?_
                refine sk_top (nI ((i + 1) * 10)) (nmul (i + 1) 10) ?_
                refine lv_iload hx hb dX1_takeNumbered_66 (lv_at hl 0 rfl) ?_
                refine lv_iadd hx hb dX1_takeNumbered_68 ?_
                refine sk_top (nI ((i + 1) * 10 + jj)) (nI_add ((i + 1) * 10) jj) ?_
                refine va_lald hx hb hK.1 hP 4 1 rfl rfl (vin ((i + 1) * 10 + jj) 100 (by omega) (Nat.le_of_ble_eq_true rfl)) dX1_takeNumbered_69 ?_
                refine sk_topl (e4 ((i + 1) * 10 + jj)) (by rw [nI_clamp (by omega)]) ?_
                refine lv_goto (tgt := 74) hx hb dX1_takeNumbered_70 (by decide) ?_
                refine lv_lstore (lv' := [(11, .long (e4 ((i + 1) * 10 + jj))), (10, .int (nI jj)), (9, .int 0), (8, .int (nI nq_4)), (7, .int (nI i)), (6, .int (nI ah)), (4, .long (Int64.ofNat yy)), (0, .ref (q 11)), (1, .long (Int64.ofNat nu)), (3, .ref rw)]) hx hb dX1_takeNumbered_74 hl (by decide) rfl (fun ls hl => ?_)
                have hh_20 := kwh_y hnx_6 hwy (show i < gd by omega) (show jj < 10 by omega) ((ktb hnx_6.1 (by omega)).mp c_13)
                have hl_21 := kW_le Ed hgd i ah jj
                rw [hh_20] at hl
                refine lv_lload hx hb dX1_takeNumbered_76 (lv_at hl 6 rfl) ?_
                refine lv_lload hx hb dX1_takeNumbered_78 (lv_at hl 0 rfl) ?_
                refine W.lcmp hx hb dX1_takeNumbered_80 ?_
                refine lv_if_ge (tgt := 91) hx hb dX1_takeNumbered_81 (by decide) (fun c_22 => ?_) (fun c_22 => ?_)
                · skip
                  refine lv_lload hx hb dX1_takeNumbered_91 (lv_at hl 6 rfl) ?_
                  refine lv_lload hx hb dX1_takeNumbered_93 (lv_at hl 0 rfl) ?_
                  refine lv_lsub hx hb dX1_takeNumbered_95 ?_
                  have hge := (kcmp_ge (by omega) (by omega)).mp c_22
                  refine sk_topl (Int64.ofNat (yy - kcW Ed gd i ah jj)) (kofn_sub hge) ?_
                  refine lv_lstore (lv' := [(4, .long (Int64.ofNat (yy - kcW Ed gd i ah jj))), (11, .long (Int64.ofNat (kcW Ed gd i ah jj))), (10, .int (nI jj)), (9, .int 0), (8, .int (nI nq_4)), (7, .int (nI i)), (6, .int (nI ah)), (0, .ref (q 11)), (1, .long (Int64.ofNat nu)), (3, .ref rw)]) hx hb dX1_takeNumbered_96 hl (by decide) rfl (fun ls hl => ?_)
                  refine lv_iinc (v := nI (jj + 1)) (lv' := [(10, .int (nI (jj + 1))), (4, .long (Int64.ofNat (yy - kcW Ed gd i ah jj))), (11, .long (Int64.ofNat (kcW Ed gd i ah jj))), (9, .int 0), (8, .int (nI nq_4)), (7, .int (nI i)), (6, .int (nI ah)), (0, .ref (q 11)), (1, .long (Int64.ofNat nu)), (3, .ref rw)]) hx hb dX1_takeNumbered_98 hl (k := 2) rfl (ninc jj 1 (by decide)) (by decide) rfl (fun ls hl => ?_)
                  refine lv_goto (tgt := 37) hx hb dX1_takeNumbered_101 (by decide) ?_
                  exact ih_lp_10 (jj + 1) (Int64.ofNat (yy - kcW Ed gd i ah jj)) (yy - kcW Ed gd i ah jj) _ _ _ (by omega) (by omega) rfl ((kcP_go (by omega) (Nat.not_lt.mpr hge)).symm.trans hyP) (kcT_s (by omega) hyT hge) (by omega) hP hD hS (lv_sub hl [0, 3, 4, 5, 6, 1, 7, 8, 9] rfl)
                · skip
                  refine lv_iload hx hb dX1_takeNumbered_84 (lv_at hl 1 rfl) ?_
                  refine lv_istore (lv' := [(9, .int (nI jj)), (11, .long (Int64.ofNat (kcW Ed gd i ah jj))), (10, .int (nI jj)), (8, .int (nI nq_4)), (7, .int (nI i)), (6, .int (nI ah)), (4, .long (Int64.ofNat yy)), (0, .ref (q 11)), (1, .long (Int64.ofNat nu)), (3, .ref rw)]) hx hb dX1_takeNumbered_86 hl (by decide) rfl (fun ls hl => ?_)
                  refine lv_goto (tgt := 104) hx hb dX1_takeNumbered_88 (by decide) ?_
                  refine lv_aload_n hx hb dX1_takeNumbered_104 rfl (lv_at hl 9 rfl) ?_
                  refine lv_iload hx hb dX1_takeNumbered_105 (lv_at hl 4 rfl) ?_
                  refine lv_iload hx hb dX1_takeNumbered_107 (lv_at hl 0 rfl) ?_
                  refine sk_iastE (k := i) (ws' := fun f_23 => [ro_rrrrrrrnn (q 11) 1 (q 10) (q 67) (q 68) (q 69) (q 70) (q 71) (q 72) gd gs, ra_I (q 67) cI 90 e1, ra_I (q 68) cI 9 e2, ra_I (q 69) cI 10 e3, ra_J (q 70) cJ 100 e4, ra_I rw cI 9 f_23]) hx hb hK hP hD hS 5 0 rfl rfl (by omega) (by omega) (fun _ => rfl) dX1_takeNumbered_109 (fun f_23 H locs ef_24 hP hD hS => ?_)
                  have hk_25 : kcA Ed gd gs nu (i + 1) = (jj, yy) := by rw [kcA_s, haa, ← hyP]; exact kcP_at (by omega) (Nat.lt_of_not_le (fun hq => c_22 ((kcmp_ge (by omega) (by omega)).mpr hq)))
                  refine lv_iload hx hb dX1_takeNumbered_110 (lv_at hl 0 rfl) ?_
                  refine lv_istore (lv' := [(6, .int (nI jj)), (9, .int (nI jj)), (11, .long (Int64.ofNat (kcW Ed gd i ah jj))), (10, .int (nI jj)), (8, .int (nI nq_4)), (7, .int (nI i)), (4, .long (Int64.ofNat yy)), (0, .ref (q 11)), (1, .long (Int64.ofNat nu)), (3, .ref rw)]) hx hb dX1_takeNumbered_112 hl (by decide) rfl (fun ls hl => ?_)
                  refine lv_iinc (v := nI (i + 1)) (lv' := [(7, .int (nI (i + 1))), (6, .int (nI jj)), (9, .int (nI jj)), (11, .long (Int64.ofNat (kcW Ed gd i ah jj))), (10, .int (nI jj)), (8, .int (nI nq_4)), (4, .long (Int64.ofNat yy)), (0, .ref (q 11)), (1, .long (Int64.ofNat nu)), (3, .ref rw)]) hx hb dX1_takeNumbered_114 hl (k := 5) rfl (ninc i 1 (by decide)) (by decide) rfl (fun ls hl => ?_)
                  refine lv_goto (tgt := 12) hx hb dX1_takeNumbered_117 (by decide) ?_
                  exact ih_lp_1 (i + 1) jj (Int64.ofNat yy) f_23 _ _ _ (by omega) (by omega) (by omega) (by rw [hk_25]) (by rw [hk_25]) (krw_s hrr ef_24 (by rw [hk_25])) hP hD hS (lv_sub hl [0, 1, 6, 7, 8, 9] rfl)
        exact lp_10 (10 - 0 + 1) 0 lf ((kcA Ed gd gs nu i).2) _ _ _ (Nat.lt_succ_self _) (by omega) hlf rfl hok.2 (by have := kcC_9 Ed (show gd - i ≤ 9 by omega) i ah; have h5 := hok.2; rw [kcT_10, kcW_S (show i < gd by omega)] at h5; omega) hP hD hS (lv_sub hl [0, 1, 2, 3, 4, 5, 6, 7, 8] rfl)
  exact lp_1 (gd - 0 + 1) 0 gs (Int64.ofNat nu) ra _ _ _ (Nat.lt_succ_self _) (by omega) (by omega) rfl rfl (krw_0 _ _ _ _ _) hP hD hS (lv_sub hl [0, 1, 2, 3, 4, 5] rfl)
theorem kbq_0 {b : Nat} {P : Prop} (h : (b = 1 ∧ P) ∨ (b = 0 ∧ ¬ P)) (e : b = 0) : ¬ P := h.elim (fun q => absurd q.1 (by omega)) (fun q => q.2)
theorem kbq_1 {b : Nat} {P : Prop} (h : (b = 1 ∧ P) ∨ (b = 0 ∧ ¬ P)) (e : ¬ b = 0) : P := h.elim (fun q => q.2) (fun q => absurd q.1 e)
set_option maxHeartbeats 4000000 in
set_option maxRecDepth 100000 in
theorem c_klay (l : Launch) (D : va_G) (cI cJ cC cZ cS : ClassId) (q : Nat → Nat) (gd : Nat) (gs : Nat) (e1 : Nat → Int32) (e2 : Nat → Int32) (sa : Nat → Nat) (ft : Nat → Int32) (fa : Nat → Int32) (fo : Nat → Int32) (o0 : Nat) (o1 : Nat) (o2 : Nat) (dy : Nat) (wn : Nat) (mo : Nat) (ke : Nat) (mu : Int32) (fb : Nat → Int32) (fw : Nat → Int32) (Ba : Nat → Nat) (We : Nat → Nat) (L : LkS) (li : Nat) (U : Nat → Bool) (o : Int32) (fg : Nat → Int64) (hsa : ∀ j, sa j ≤ 9) (hdy : dy ≤ 9) (hmo : mo ≤ 9) (hli : li < 10) (hU : muO U o) (hrows : ∀ e, e < dy → kcRow L wn (Ba e) (We e) e sa ft fa fo fg) : skM l yX1_lay cX1_lay 8 none 1 26 0 0 D (skT cI cJ cC cZ cS) [.ref (q 11), .ref o0, .int o, .int (nI li)] [ro_rrrrrrrnn (q 11) 1 (q 10) (q 67) (q 68) (q 69) (q 70) (q 71) (q 72) gd gs, ra_I (q 67) cI 90 e1, ra_I (q 68) cI 9 e2, ro_rrrrrr (q 10) 9 (q 61) (q 62) (q 63) (q 64) (q 65) (q 66), ra_N (q 61) cI 90 sa, ra_I (q 62) cI 900 ft, ra_I (q 63) cI 90 fa, ra_I (q 64) cI 90 fo, ro_rrnnnin o0 7 o1 o2 dy wn mo mu ke] (skV D (skT cI cJ cC cZ cS) (fun (u : va_W) => ∃ (g1 : Nat → Int32), ∃ (g2 : Nat → Int32), kcLd (kcFo L wn Ba We U li) dy g1 g2 ∧ u = [ro_rrrrrrrnn (q 11) 1 (q 10) (q 67) (q 68) (q 69) (q 70) (q 71) (q 72) dy mo, ra_I (q 67) cI 90 g1, ra_I (q 68) cI 9 g2, ro_rrrrrr (q 10) 9 (q 61) (q 62) (q 63) (q 64) (q 65) (q 66), ra_N (q 61) cI 90 sa, ra_I (q 62) cI 900 ft, ra_I (q 63) cI 90 fa, ra_I (q 64) cI 90 fo, ro_rrnnnin o0 7 o1 o2 dy wn mo mu ke])) := by
  refine skM_of pf_X1_lay (Nat.le_of_ble_eq_true rfl) ?_
  intro p e s m below meth c A ls E hP hD hl
  refine skE_el E (fun hx hb hr hml hlocks hin hown hts hK hA => ?_)
  have hown : s.vm.findClass RX1 = some m.cls := hown
  have hS : va_S A s.heap s.heap [] := va_S.rf
  have hl : lv_has ls 8 [(0, .ref (q 11)), (1, .ref o0), (2, .int o), (3, .int (nI li))] := hl
  refine lv_aload_n hx hb dX1_lay_0 rfl (lv_at hl 0 rfl) ?_
  refine lv_aload_n hx hb dX1_lay_1 rfl (lv_at hl 1 rfl) ?_
  refine sk_get (v := .int (nI dy)) (C := RX7) (T := TX7) (N := 7) hx hb hts inlX7 hown hK hP 8 rfl rfl 2 (Nat.le_of_ble_eq_true rfl) w_1_239 rfl dX1_lay_2 ?_
  refine sk_put (ws' := [ro_rrrrrrrnn (q 11) 1 (q 10) (q 67) (q 68) (q 69) (q 70) (q 71) (q 72) dy gs, ra_I (q 67) cI 90 e1, ra_I (q 68) cI 9 e2, ro_rrrrrr (q 10) 9 (q 61) (q 62) (q 63) (q 64) (q 65) (q 66), ra_N (q 61) cI 90 sa, ra_I (q 62) cI 900 ft, ra_I (q 63) cI 90 fa, ra_I (q 64) cI 90 fo, ro_rrnnnin o0 7 o1 o2 dy wn mo mu ke]) (C := RX1) (T := TX1) (N := 9) (v := .int (nI dy)) hx hb hts inlX1 tyX1 tyX1_ok nmX1 hown hK hP hD hS 0 rfl rfl 7 (Nat.le_of_ble_eq_true rfl) w_2_102 rfl rfl rfl (Nat.le_of_ble_eq_true rfl) rfl dX1_lay_5 (fun H locs hP hD hS => ?_)
  refine lv_aload_n hx hb dX1_lay_8 rfl (lv_at hl 0 rfl) ?_
  refine lv_aload_n hx hb dX1_lay_9 rfl (lv_at hl 1 rfl) ?_
  refine sk_get (v := .int (nI mo)) (C := RX7) (T := TX7) (N := 7) hx hb hts inlX7 hown hK hP 8 rfl rfl 4 (Nat.le_of_ble_eq_true rfl) w_2_9 rfl dX1_lay_10 ?_
  refine sk_put (ws' := [ro_rrrrrrrnn (q 11) 1 (q 10) (q 67) (q 68) (q 69) (q 70) (q 71) (q 72) dy mo, ra_I (q 67) cI 90 e1, ra_I (q 68) cI 9 e2, ro_rrrrrr (q 10) 9 (q 61) (q 62) (q 63) (q 64) (q 65) (q 66), ra_N (q 61) cI 90 sa, ra_I (q 62) cI 900 ft, ra_I (q 63) cI 90 fa, ra_I (q 64) cI 90 fo, ro_rrnnnin o0 7 o1 o2 dy wn mo mu ke]) (C := RX1) (T := TX1) (N := 9) (v := .int (nI mo)) hx hb hts inlX1 tyX1 tyX1_ok nmX1 hown hK hP hD hS 0 rfl rfl 8 (Nat.le_of_ble_eq_true rfl) w_2_103 rfl rfl rfl (Nat.le_of_ble_eq_true rfl) rfl dX1_lay_13 (fun H locs hP hD hS => ?_)
  refine lv_aload_n hx hb dX1_lay_16 rfl (lv_at hl 0 rfl) ?_
  refine sk_get (v := .ref (q 68)) (C := RX1) (T := TX1) (N := 9) hx hb hts inlX1 hown hK hP 0 rfl rfl 2 (Nat.le_of_ble_eq_true rfl) w_2_97 rfl dX1_lay_17 ?_
  refine lv_sipush (v := 1023) hx hb dX1_lay_20 (by decide) ?_
  refine sk_Sv (n := 2) (rest := []) (wr := fmR om_9_40 _) ⟨hx, hb, hml, hown, hts⟩ hl.1 (c_efillX l D cI cJ cC cZ cS (q 68) 9 e2 1023 (by omega)) w_4_51 w_2_219 w_1_15 w_2_220 hd_J7_fill_53178_2 ⟨⟨(Nat.le_of_ble_eq_true rfl), (Nat.le_of_ble_eq_true rfl)⟩, (Nat.le_of_ble_eq_true rfl), (Nat.le_of_ble_eq_true rfl)⟩ hK hP hD hS hA (fmT om_9_40 0) (fmF om_9_40 0) (fm_C1 rfl rfl) (fm_R rfl rfl) (fm_nT om_9_40 0) (fm_nF om_9_40 0) (fm_di om_9_40 0) rfl rfl (Nat.le_of_ble_eq_true rfl) dX1_lay_23 (fun u H locs hw hP hD hS => ?_)
  refine exE hw (fun g_1 hw1 => anE hw1 (fun hfl_2 eu_3 => ?_))
  clear hw hw1
  refine o_mgE (ws' := [ro_rrrrrrrnn (q 11) 1 (q 10) (q 67) (q 68) (q 69) (q 70) (q 71) (q 72) dy mo, ra_I (q 67) cI 90 e1, ra_I (q 68) cI 9 g_1, ro_rrrrrr (q 10) 9 (q 61) (q 62) (q 63) (q 64) (q 65) (q 66), ra_N (q 61) cI 90 sa, ra_I (q 62) cI 900 ft, ra_I (q 63) cI 90 fa, ra_I (q 64) cI 90 fo, ro_rrnnnin o0 7 o1 o2 dy wn mo mu ke]) eu_3 hP hD rfl (fun hP hD => ?_)
  refine lv_iconst (v := 0) hx hb dX1_lay_26 ic_0 ?_
  refine lv_istore (lv' := [(4, .int 0), (0, .ref (q 11)), (1, .ref o0), (2, .int o), (3, .int (nI li))]) hx hb dX1_lay_27 hl (by decide) rfl (fun ls hl => ?_)
  have lp_4 : ∀ (n_5 : Nat) (i : Nat) (a1 : Nat → Int32) (H : Heap) (locs : List Loc) (ls : Array Slot), dy - i < n_5 → (i ≤ dy) → (kcLa (kcFo L wn Ba We U li) i a1) → va_P D vwCl [ro_rrrrrrrnn (q 11) 1 (q 10) (q 67) (q 68) (q 69) (q 70) (q 71) (q 72) dy mo, ra_I (q 67) cI 90 a1, ra_I (q 68) cI 9 g_1, ro_rrrrrr (q 10) 9 (q 61) (q 62) (q 63) (q 64) (q 65) (q 66), ra_N (q 61) cI 90 sa, ra_I (q 62) cI 900 ft, ra_I (q 63) cI 90 fa, ra_I (q 64) cI 90 fo, ro_rrnnnin o0 7 o1 o2 dy wn mo mu ke] H → va_D A [ro_rrrrrrrnn (q 11) 1 (q 10) (q 67) (q 68) (q 69) (q 70) (q 71) (q 72) dy mo, ra_I (q 67) cI 90 a1, ra_I (q 68) cI 9 g_1, ro_rrrrrr (q 10) 9 (q 61) (q 62) (q 63) (q 64) (q 65) (q 66), ra_N (q 61) cI 90 sa, ra_I (q 62) cI 900 ft, ra_I (q 63) cI 90 fa, ra_I (q 64) cI 90 fo, ro_rrnnnin o0 7 o1 o2 dy wn mo mu ke] → va_S A s.heap H locs → lv_has ls 8 [(4, .int (nI i)), (0, .ref (q 11)), (1, .ref o0), (2, .int o), (3, .int (nI li))] → W p l e { frames := 1, cells := 0, slots := 0, locals := 26 } s m ([.ref (q 11), .ref o0, .int o, .int (nI li)] : List Value).toArray below meth c H locs 0 0 (MQ below (skV D (skT cI cJ cC cZ cS) (fun (u : va_W) => ∃ (g1 : Nat → Int32), ∃ (g2 : Nat → Int32), kcLd (kcFo L wn Ba We U li) dy g1 g2 ∧ u = [ro_rrrrrrrnn (q 11) 1 (q 10) (q 67) (q 68) (q 69) (q 70) (q 71) (q 72) dy mo, ra_I (q 67) cI 90 g1, ra_I (q 68) cI 9 g2, ro_rrrrrr (q 10) 9 (q 61) (q 62) (q 63) (q 64) (q 65) (q 66), ra_N (q 61) cI 90 sa, ra_I (q 62) cI 900 ft, ra_I (q 63) cI 90 fa, ra_I (q 64) cI 90 fo, ro_rrnnnin o0 7 o1 o2 dy wn mo mu ke]) A) ([.ref (q 11), .ref o0, .int o, .int (nI li)] : List Value).toArray s 0 0 A) (F0 m 29 ls []) := by
    intro n_5
    induction n_5 with
    | zero => intro i a1 H locs ls hm; exact absurd hm (Nat.not_lt_zero _)
    | succ n_5 ih_lp_4 =>
      intro i a1 H locs ls hm hi hla hP hD hS hl
      refine lv_iload hx hb dX1_lay_29 (lv_at hl 0 rfl) ?_
      refine lv_aload_n hx hb dX1_lay_31 rfl (lv_at hl 1 rfl) ?_
      refine sk_get (v := .int (nI dy)) (C := RX1) (T := TX1) (N := 9) hx hb hts inlX1 hown hK hP 0 rfl rfl 7 (Nat.le_of_ble_eq_true rfl) w_2_102 rfl dX1_lay_32 ?_
      refine lv_icmp_ge (tgt := 150) hx hb dX1_lay_35 (by decide) (fun c_6 => ?_) (fun c_6 => ?_)
      · have c_6 : dy ≤ i := (nle dy i (by omega) (by omega)).mp c_6
        exact sk_vret hx hb hr hlocks hK hP hD hS (⟨a1, g_1, (kld_of (show kcLa (kcFo L wn Ba We U li) dy a1 by rw [show dy = i by omega]; exact hla) hfl_2 hdy), rfl⟩) (Nat.le_of_ble_eq_true rfl) (Nat.le_of_ble_eq_true rfl) dX1_lay_150
      · have c_6 : ¬ (dy ≤ i) := fun h => c_6 ((nle dy i (by omega) (by omega)).mpr h)
        have jn_7 : ∀ (bq : Nat) (H : Heap) (locs : List Loc) (ls : Array Slot), (bq ≤ 1) → ((bq = 1 ∧ U i = true) ∨ (bq = 0 ∧ ¬ U i = true)) → va_P D vwCl [ro_rrrrrrrnn (q 11) 1 (q 10) (q 67) (q 68) (q 69) (q 70) (q 71) (q 72) dy mo, ra_I (q 67) cI 90 a1, ra_I (q 68) cI 9 g_1, ro_rrrrrr (q 10) 9 (q 61) (q 62) (q 63) (q 64) (q 65) (q 66), ra_N (q 61) cI 90 sa, ra_I (q 62) cI 900 ft, ra_I (q 63) cI 90 fa, ra_I (q 64) cI 90 fo, ro_rrnnnin o0 7 o1 o2 dy wn mo mu ke] H → va_D A [ro_rrrrrrrnn (q 11) 1 (q 10) (q 67) (q 68) (q 69) (q 70) (q 71) (q 72) dy mo, ra_I (q 67) cI 90 a1, ra_I (q 68) cI 9 g_1, ro_rrrrrr (q 10) 9 (q 61) (q 62) (q 63) (q 64) (q 65) (q 66), ra_N (q 61) cI 90 sa, ra_I (q 62) cI 900 ft, ra_I (q 63) cI 90 fa, ra_I (q 64) cI 90 fo, ro_rrnnnin o0 7 o1 o2 dy wn mo mu ke] → va_S A s.heap H locs → lv_has ls 8 [(4, .int (nI i)), (0, .ref (q 11)), (1, .ref o0), (2, .int o), (3, .int (nI li))] → W p l e { frames := 1, cells := 0, slots := 0, locals := 26 } s m ([.ref (q 11), .ref o0, .int o, .int (nI li)] : List Value).toArray below meth c H locs 0 0 (MQ below (skV D (skT cI cJ cC cZ cS) (fun (u : va_W) => ∃ (g1 : Nat → Int32), ∃ (g2 : Nat → Int32), kcLd (kcFo L wn Ba We U li) dy g1 g2 ∧ u = [ro_rrrrrrrnn (q 11) 1 (q 10) (q 67) (q 68) (q 69) (q 70) (q 71) (q 72) dy mo, ra_I (q 67) cI 90 g1, ra_I (q 68) cI 9 g2, ro_rrrrrr (q 10) 9 (q 61) (q 62) (q 63) (q 64) (q 65) (q 66), ra_N (q 61) cI 90 sa, ra_I (q 62) cI 900 ft, ra_I (q 63) cI 90 fa, ra_I (q 64) cI 90 fo, ro_rrnnnin o0 7 o1 o2 dy wn mo mu ke]) A) ([.ref (q 11), .ref o0, .int o, .int (nI li)] : List Value).toArray s 0 0 A) (F0 m 53 ls [.int (nI bq)]) := by
          intro bq H locs ls hbq1 hbq hP hD hS hl
          refine lv_istore (lv' := [(5, .int (nI bq)), (4, .int (nI i)), (0, .ref (q 11)), (1, .ref o0), (2, .int o), (3, .int (nI li))]) hx hb dX1_lay_53 hl (by decide) rfl (fun ls hl => ?_)
          refine lv_iconst (v := 0) hx hb dX1_lay_55 ic_0 ?_
          refine lv_istore (lv' := [(6, .int 0), (5, .int (nI bq)), (4, .int (nI i)), (0, .ref (q 11)), (1, .ref o0), (2, .int o), (3, .int (nI li))]) hx hb dX1_lay_56 hl (by decide) rfl (fun ls hl => ?_)
          have lp_8 : ∀ (n_9 : Nat) (jj : Nat) (a2 : Nat → Int32) (H : Heap) (locs : List Loc) (ls : Array Slot), 10 - jj < n_9 → (jj ≤ 10) → (kcLj (kcFo L wn Ba We U li) i jj a2) → va_P D vwCl [ro_rrrrrrrnn (q 11) 1 (q 10) (q 67) (q 68) (q 69) (q 70) (q 71) (q 72) dy mo, ra_I (q 67) cI 90 a2, ra_I (q 68) cI 9 g_1, ro_rrrrrr (q 10) 9 (q 61) (q 62) (q 63) (q 64) (q 65) (q 66), ra_N (q 61) cI 90 sa, ra_I (q 62) cI 900 ft, ra_I (q 63) cI 90 fa, ra_I (q 64) cI 90 fo, ro_rrnnnin o0 7 o1 o2 dy wn mo mu ke] H → va_D A [ro_rrrrrrrnn (q 11) 1 (q 10) (q 67) (q 68) (q 69) (q 70) (q 71) (q 72) dy mo, ra_I (q 67) cI 90 a2, ra_I (q 68) cI 9 g_1, ro_rrrrrr (q 10) 9 (q 61) (q 62) (q 63) (q 64) (q 65) (q 66), ra_N (q 61) cI 90 sa, ra_I (q 62) cI 900 ft, ra_I (q 63) cI 90 fa, ra_I (q 64) cI 90 fo, ro_rrnnnin o0 7 o1 o2 dy wn mo mu ke] → va_S A s.heap H locs → lv_has ls 8 [(6, .int (nI jj)), (5, .int (nI bq)), (4, .int (nI i)), (0, .ref (q 11)), (1, .ref o0), (2, .int o), (3, .int (nI li))] → W p l e { frames := 1, cells := 0, slots := 0, locals := 26 } s m ([.ref (q 11), .ref o0, .int o, .int (nI li)] : List Value).toArray below meth c H locs 0 0 (MQ below (skV D (skT cI cJ cC cZ cS) (fun (u : va_W) => ∃ (g1 : Nat → Int32), ∃ (g2 : Nat → Int32), kcLd (kcFo L wn Ba We U li) dy g1 g2 ∧ u = [ro_rrrrrrrnn (q 11) 1 (q 10) (q 67) (q 68) (q 69) (q 70) (q 71) (q 72) dy mo, ra_I (q 67) cI 90 g1, ra_I (q 68) cI 9 g2, ro_rrrrrr (q 10) 9 (q 61) (q 62) (q 63) (q 64) (q 65) (q 66), ra_N (q 61) cI 90 sa, ra_I (q 62) cI 900 ft, ra_I (q 63) cI 90 fa, ra_I (q 64) cI 90 fo, ro_rrnnnin o0 7 o1 o2 dy wn mo mu ke]) A) ([.ref (q 11), .ref o0, .int o, .int (nI li)] : List Value).toArray s 0 0 A) (F0 m 58 ls []) := by
            intro n_9
            induction n_9 with
            | zero => intro jj a2 H locs ls hm; exact absurd hm (Nat.not_lt_zero _)
            | succ n_9 ih_lp_8 =>
              intro jj a2 H locs ls hm hjj hlj hP hD hS hl
              refine lv_iload hx hb dX1_lay_58 (lv_at hl 0 rfl) ?_
              refine lv_bipush (v := 10) hx hb dX1_lay_60 (by decide) ?_
              refine lv_icmp_ge (tgt := 144) hx hb dX1_lay_62 (by decide) (fun c_10 => ?_) (fun c_10 => ?_)
              · have c_10 : 10 ≤ jj := (nle 10 jj (Nat.le_of_ble_eq_true rfl) (by omega)).mp c_10
                refine lv_iinc (v := nI (i + 1)) (lv' := [(4, .int (nI (i + 1))), (6, .int (nI jj)), (5, .int (nI bq)), (0, .ref (q 11)), (1, .ref o0), (2, .int o), (3, .int (nI li))]) hx hb dX1_lay_144 hl (k := 2) rfl (ninc i 1 (by decide)) (by decide) rfl (fun ls hl => ?_)
                refine lv_goto (tgt := 29) hx hb dX1_lay_147 (by decide) ?_
                exact ih_lp_4 (i + 1) a2 _ _ _ (by omega) (by omega) (klj_10 (show kcLj (kcFo L wn Ba We U li) i 10 a2 by rw [show 10 = jj by omega]; exact hlj)) hP hD hS (lv_sub hl [0, 3, 4, 5, 6] rfl)
              · have c_10 : ¬ (10 ≤ jj) := fun h => c_10 ((nle 10 jj (Nat.le_of_ble_eq_true rfl) (by omega)).mpr h)
                refine lv_iload hx hb dX1_lay_65 (lv_at hl 2 rfl) ?_
                refine lv_bipush (v := 10) hx hb dX1_lay_67 (by decide) ?_
                refine lv_imul hx hb dX1_lay_69 ?_
                refine sk_top (nI (i * 10)) (nmul i 10) ?_
                refine lv_iload hx hb dX1_lay_70 (lv_at hl 0 rfl) ?_
                refine lv_iadd hx hb dX1_lay_72 ?_
                refine sk_top (nI (i * 10 + jj)) (nI_add (i * 10) jj) ?_
                refine lv_istore (lv' := [(7, .int (nI (i * 10 + jj))), (6, .int (nI jj)), (5, .int (nI bq)), (4, .int (nI i)), (0, .ref (q 11)), (1, .ref o0), (2, .int o), (3, .int (nI li))]) hx hb dX1_lay_73 hl (by decide) rfl (fun ls hl => ?_)
                refine lv_iload hx hb dX1_lay_75 (lv_at hl 2 rfl) ?_
                refine lv_if_eq (tgt := 102) hx hb dX1_lay_77 (by decide) (fun c_11 => ?_) (fun c_11 => ?_)
                · have c_11 : bq = 0 := (neq bq 0 (by omega) (Nat.le_of_ble_eq_true rfl)).mp c_11
                  refine lv_aload_n hx hb dX1_lay_102 rfl (lv_at hl 4 rfl) ?_
                  refine sk_get (v := .ref (q 67)) (C := RX1) (T := TX1) (N := 9) hx hb hts inlX1 hown hK hP 0 rfl rfl 1 (Nat.le_of_ble_eq_true rfl) w_2_96 rfl dX1_lay_103 ?_
                  refine lv_iload hx hb dX1_lay_106 (lv_at hl 0 rfl) ?_
                  refine lv_iload_n hx hb dX1_lay_108 rfl (lv_at hl 7 rfl) ?_
                  refine lv_if_ne (tgt := 125) hx hb dX1_lay_109 (by decide) (fun c_12 => ?_) (fun c_12 => ?_)
                  · have c_12 : ¬ (li = 0) := fun h => c_12 ((neq li 0 (by omega) (Nat.le_of_ble_eq_true rfl)).mpr h)
                    refine lv_aload_n hx hb dX1_lay_125 rfl (lv_at hl 4 rfl) ?_
                    refine sk_get (v := .ref (q 10)) (C := RX1) (T := TX1) (N := 9) hx hb hts inlX1 hown hK hP 0 rfl rfl 0 (Nat.le_of_ble_eq_true rfl) w_2_95 rfl dX1_lay_126 ?_
                    refine lv_iload hx hb dX1_lay_129 (lv_at hl 3 rfl) ?_
                    refine lv_iload hx hb dX1_lay_131 (lv_at hl 1 rfl) ?_
                    refine lv_iload_n hx hb dX1_lay_133 rfl (lv_at hl 7 rfl) ?_
                    refine sk_Vi (q0 := 0) (n := 3) (rest := [.int (nI (i * 10 + jj)), .ref (q 67)]) (wr := fmR om_9_38 _) ⟨hx, hb, hml, hown, hts⟩ hl.1 (c_kmoodsBehind l D cI cJ cC cZ cS q sa ft i jj li (kcSaid L wn (Ba i) (We i) i) (fun t => kcBec L wn (Ba i) (We i) i jj t 0) hsa (by omega) (by omega) hli (fun m hm => ((hrows i (by omega)).1 m hm).1) ((hrows i (by omega)).2 jj (by omega)).1 (fun t => kcTen_lt _)) w_4_52 w_4_18 w_4_19 w_1_12 w_4_20 hd_X9_moodsBehind_3 ⟨⟨(Nat.le_of_ble_eq_true rfl), (Nat.le_of_ble_eq_true rfl)⟩, (Nat.le_of_ble_eq_true rfl), (Nat.le_of_ble_eq_true rfl)⟩ hK hP hD hS hA (fmT om_9_38 0) (fmF om_9_38 0) (fm_C1 rfl rfl) (fm_R rfl rfl) (fm_nT om_9_38 0) (fm_nF om_9_38 0) (fm_di om_9_38 0) rfl rfl rfl rfl (Nat.le_of_ble_eq_true rfl) dX1_lay_134 (fun r_13 u H locs hw hP hD hS => ?_)
                    refine anE hw (fun er_15 eu_14 => ?_)
                    clear hw
                    subst er_15
                    refine o_mgE (ws' := [ro_rrrrrrrnn (q 11) 1 (q 10) (q 67) (q 68) (q 69) (q 70) (q 71) (q 72) dy mo, ra_I (q 67) cI 90 a2, ra_I (q 68) cI 9 g_1, ro_rrrrrr (q 10) 9 (q 61) (q 62) (q 63) (q 64) (q 65) (q 66), ra_N (q 61) cI 90 sa, ra_I (q 62) cI 900 ft, ra_I (q 63) cI 90 fa, ra_I (q 64) cI 90 fo, ro_rrnnnin o0 7 o1 o2 dy wn mo mu ke]) eu_14 hP hD rfl (fun hP hD => ?_)
                    refine sk_iastE (k := (i * 10 + jj)) (ws' := fun f_16 => [ro_rrrrrrrnn (q 11) 1 (q 10) (q 67) (q 68) (q 69) (q 70) (q 71) (q 72) dy mo, ra_I (q 67) cI 90 f_16, ra_I (q 68) cI 9 g_1, ro_rrrrrr (q 10) 9 (q 61) (q 62) (q 63) (q 64) (q 65) (q 66), ra_N (q 61) cI 90 sa, ra_I (q 62) cI 900 ft, ra_I (q 63) cI 90 fa, ra_I (q 64) cI 90 fo, ro_rrnnnin o0 7 o1 o2 dy wn mo mu ke]) hx hb hK hP hD hS 1 0 rfl rfl (by omega) (by omega) (fun _ => rfl) dX1_lay_137 (fun f_16 H locs ef_17 hP hD hS => ?_)
                    refine lv_iinc (v := nI (jj + 1)) (lv' := [(6, .int (nI (jj + 1))), (7, .int (nI (i * 10 + jj))), (5, .int (nI bq)), (4, .int (nI i)), (0, .ref (q 11)), (1, .ref o0), (2, .int o), (3, .int (nI li))]) hx hb dX1_lay_138 hl (k := 1) rfl (ninc jj 1 (by decide)) (by decide) rfl (fun ls hl => ?_)
                    refine lv_goto (tgt := 58) hx hb dX1_lay_141 (by decide) ?_
                    exact ih_lp_8 (jj + 1) f_16 _ _ _ (by omega) (by omega) (klj_s hlj ef_17 (by omega) (kle_mb (kbq_0 hbq c_11))) hP hD hS (lv_sub hl [0, 2, 3, 4, 5, 6, 7] rfl)
                  · have c_12 : li = 0 := (neq li 0 (by omega) (Nat.le_of_ble_eq_true rfl)).mp c_12
                    refine lv_aload_n hx hb dX1_lay_112 rfl (lv_at hl 4 rfl) ?_
                    refine sk_get (v := .ref (q 10)) (C := RX1) (T := TX1) (N := 9) hx hb hts inlX1 hown hK hP 0 rfl rfl 0 (Nat.le_of_ble_eq_true rfl) w_2_95 rfl dX1_lay_113 ?_
                    refine sk_get (v := .ref (q 64)) (C := RX9) (T := TX9) (N := 6) hx hb hts inlX9 hown hK hP 3 rfl rfl 3 (Nat.le_of_ble_eq_true rfl) w_2_71 rfl dX1_lay_116 ?_
                    refine lv_iload hx hb dX1_lay_119 (lv_at hl 0 rfl) ?_
                    refine va_iald hx hb hK.1 hP 7 0 rfl rfl (vin (i * 10 + jj) 90 (by omega) (Nat.le_of_ble_eq_true rfl)) dX1_lay_121 ?_
                    refine sk_top (nI (kcMB (kcSaid L wn (Ba i) (We i) i) (fun t => kcBec L wn (Ba i) (We i) i jj t 0) 0)) (by rw [nI_clamp (by omega)]; exact ((hrows i (by omega)).2 jj (by omega)).2.2) ?_
                    refine lv_goto (tgt := 137) hx hb dX1_lay_122 (by decide) ?_
                    refine sk_iastE (k := (i * 10 + jj)) (ws' := fun f_18 => [ro_rrrrrrrnn (q 11) 1 (q 10) (q 67) (q 68) (q 69) (q 70) (q 71) (q 72) dy mo, ra_I (q 67) cI 90 f_18, ra_I (q 68) cI 9 g_1, ro_rrrrrr (q 10) 9 (q 61) (q 62) (q 63) (q 64) (q 65) (q 66), ra_N (q 61) cI 90 sa, ra_I (q 62) cI 900 ft, ra_I (q 63) cI 90 fa, ra_I (q 64) cI 90 fo, ro_rrnnnin o0 7 o1 o2 dy wn mo mu ke]) hx hb hK hP hD hS 1 0 rfl rfl (by omega) (by omega) (fun _ => rfl) dX1_lay_137 (fun f_18 H locs ef_19 hP hD hS => ?_)
                    refine lv_iinc (v := nI (jj + 1)) (lv' := [(6, .int (nI (jj + 1))), (7, .int (nI (i * 10 + jj))), (5, .int (nI bq)), (4, .int (nI i)), (0, .ref (q 11)), (1, .ref o0), (2, .int o), (3, .int (nI li))]) hx hb dX1_lay_138 hl (k := 1) rfl (ninc jj 1 (by decide)) (by decide) rfl (fun ls hl => ?_)
                    refine lv_goto (tgt := 58) hx hb dX1_lay_141 (by decide) ?_
                    exact ih_lp_8 (jj + 1) f_18 _ _ _ (by omega) (by omega) (klj_s hlj ef_19 (by omega) (kle_mb0 (kbq_0 hbq c_11) c_12)) hP hD hS (lv_sub hl [0, 2, 3, 4, 5, 6, 7] rfl)
                · have c_11 : ¬ (bq = 0) := fun h => c_11 ((neq bq 0 (by omega) (Nat.le_of_ble_eq_true rfl)).mpr h)
                  refine lv_aload_n hx hb dX1_lay_80 rfl (lv_at hl 4 rfl) ?_
                  refine sk_get (v := .ref (q 67)) (C := RX1) (T := TX1) (N := 9) hx hb hts inlX1 hown hK hP 0 rfl rfl 1 (Nat.le_of_ble_eq_true rfl) w_2_96 rfl dX1_lay_81 ?_
                  refine lv_iload hx hb dX1_lay_84 (lv_at hl 0 rfl) ?_
                  refine lv_iconst (v := 1) hx hb dX1_lay_86 ic_1 ?_
                  refine lv_aload_n hx hb dX1_lay_87 rfl (lv_at hl 4 rfl) ?_
                  refine sk_get (v := .ref (q 10)) (C := RX1) (T := TX1) (N := 9) hx hb hts inlX1 hown hK hP 0 rfl rfl 0 (Nat.le_of_ble_eq_true rfl) w_2_95 rfl dX1_lay_88 ?_
                  refine sk_get (v := .ref (q 63)) (C := RX9) (T := TX9) (N := 6) hx hb hts inlX9 hown hK hP 3 rfl rfl 2 (Nat.le_of_ble_eq_true rfl) w_2_68 rfl dX1_lay_91 ?_
                  refine lv_iload hx hb dX1_lay_94 (lv_at hl 0 rfl) ?_
                  refine va_iald hx hb hK.1 hP 6 0 rfl rfl (vin (i * 10 + jj) 90 (by omega) (Nat.le_of_ble_eq_true rfl)) dX1_lay_96 ?_
                  refine sk_top (nI (kcBec L wn (Ba i) (We i) i jj 0 1)) (by rw [nI_clamp (by omega)]; exact ((hrows i (by omega)).2 jj (by omega)).2.1) ?_
                  refine lv_ishl hx hb dX1_lay_97 ?_
                  refine sk_iastE (k := (i * 10 + jj)) (ws' := fun f_20 => [ro_rrrrrrrnn (q 11) 1 (q 10) (q 67) (q 68) (q 69) (q 70) (q 71) (q 72) dy mo, ra_I (q 67) cI 90 f_20, ra_I (q 68) cI 9 g_1, ro_rrrrrr (q 10) 9 (q 61) (q 62) (q 63) (q 64) (q 65) (q 66), ra_N (q 61) cI 90 sa, ra_I (q 62) cI 900 ft, ra_I (q 63) cI 90 fa, ra_I (q 64) cI 90 fo, ro_rrnnnin o0 7 o1 o2 dy wn mo mu ke]) hx hb hK hP hD hS 1 0 rfl rfl (by omega) (by omega) (fun _ => rfl) dX1_lay_98 (fun f_20 H locs ef_21 hP hD hS => ?_)
                  refine lv_goto (tgt := 138) hx hb dX1_lay_99 (by decide) ?_
                  refine lv_iinc (v := nI (jj + 1)) (lv' := [(6, .int (nI (jj + 1))), (7, .int (nI (i * 10 + jj))), (5, .int (nI bq)), (4, .int (nI i)), (0, .ref (q 11)), (1, .ref o0), (2, .int o), (3, .int (nI li))]) hx hb dX1_lay_138 hl (k := 1) rfl (ninc jj 1 (by decide)) (by decide) rfl (fun ls hl => ?_)
                  refine lv_goto (tgt := 58) hx hb dX1_lay_141 (by decide) ?_
                  exact ih_lp_8 (jj + 1) f_20 _ _ _ (by omega) (by omega) (klj_s hlj ef_21 (by omega) (kle_al (kbq_1 hbq c_11))) hP hD hS (lv_sub hl [0, 2, 3, 4, 5, 6, 7] rfl)
          exact lp_8 (10 - 0 + 1) 0 a1 _ _ _ (Nat.lt_succ_self _) (by omega) (klj_0 hla) hP hD hS (lv_sub hl [0, 1, 2, 3, 4, 5, 6] rfl)
        refine lv_iload_n hx hb dX1_lay_38 rfl (lv_at hl 3 rfl) ?_
        refine lv_iload hx hb dX1_lay_39 (lv_at hl 0 rfl) ?_
        refine lv_ishr hx hb dX1_lay_41 ?_
        refine lv_iconst (v := 1) hx hb dX1_lay_42 ic_1 ?_
        refine lv_iand hx hb dX1_lay_43 ?_
        refine lv_iconst (v := 1) hx hb dX1_lay_44 ic_1 ?_
        refine lv_icmp_ne (tgt := 52) hx hb dX1_lay_45 (by decide) (fun c_22 => ?_) (fun c_22 => ?_)
        · skip
          refine lv_iconst (v := 0) hx hb dX1_lay_52 ic_0 ?_
          exact jn_7 0 _ _ _ (by omega) (Or.inr ⟨rfl, fun hq => c_22 ((muO_bit hU (by omega)).mpr hq)⟩) hP hD hS (lv_sub hl [0, 1, 2, 3, 4] rfl)
        · skip
          refine lv_iconst (v := 1) hx hb dX1_lay_48 ic_1 ?_
          refine lv_goto (tgt := 53) hx hb dX1_lay_49 (by decide) ?_
          exact jn_7 1 _ _ _ (by omega) (Or.inl ⟨rfl, (muO_bit hU (by omega)).mp c_22⟩) hP hD hS (lv_sub hl [0, 1, 2, 3, 4] rfl)
  exact lp_4 (dy - 0 + 1) 0 e1 _ _ _ (Nat.lt_succ_self _) (by omega) (kla_0 _ _) hP hD hS (lv_sub hl [0, 1, 2, 3, 4] rfl)
/-! a state -/
section KxCopy
variable {p : Program} {l : Launch} {e : Env} {R : Room} {s : State} {m : MethodId} {args : Array Value} {below : List Frame} {meth : Method} {c : Code} {H : Heap} {locs : List Loc} {cells slots : Nat} {Q : State → Prop}
variable {cc : ByteArray} {pc : Nat} {ls : Array Slot} {rest : List Value} {D : va_G} {tys : List (ClassId × FieldType)} {ws : va_W} {A : Nat → Prop} {H0 : Heap} {a : Nat}
theorem sk_copyE (hexec : p.tables.exec = Jvm.exec) (hb : c.code = cc) (hml : c.maxLocals = ls.size) {own : String} {index : Nat} (hts : ∀ w ∈ wsL_law, w.before args s = true) (hown : s.vm.findClass own = some m.cls) (hlink : Cond.methodLink own index arraycopyName ∈ wsL_law) (hnat : Cond.native arraycopyName ∈ wsL_law) (hstat : Cond.static arraycopyName ∈ wsL_law) (hini : Cond.initialized "java/lang/System" ∈ wsL_law)
    (hK : skK D tys s) (hP : va_P D vwCl ws H) (hD : va_D A ws) (hS : va_S A H0 H locs) (q0 q1 t0 : Nat) {a0 : Nat} {c0 : ClassId} {n0 n1 : Nat} {f g : Nat → Int32} {ws' : (Nat → Int32) → va_W} (ha0 : ws[q0]? = some (a0, .inl (c0, n0, .inl f))) (ha1 : ws[q1]? = some (a, .inl (c0, n1, .inl g))) (ht0 : tys[t0]? = some (c0, .int))
    {n : Int32} (h3 : ¬ n < 0) (h4 : n.toNatClampNeg ≤ n0) (h5 : n.toNatClampNeg ≤ n1) (hframes : 1 ≤ R.frames) (hlocals : (rest.map fun v => v.category).sum + (nativeFrameWords "java/lang/System" "arraycopy" 5 + 11) ≤ R.locals) (hw' : ∀ f', ws.set q1 (a, .inl (c0, n1, .inl f')) = ws' f') (hdg : decode cc pc = .ok (.invokestatic index, 3))
    (kk : ∀ (f' : Nat → Int32) (H1 : Heap) (locs1 : List Loc), f' = va_cpy f g 0 0 n.toNatClampNeg → va_P D vwCl (ws' f') H1 → va_D A (ws' f') → va_S A H0 H1 locs1 → W p l e R s m args below meth c H1 locs1 cells slots Q (F0 m (pc + 3) ls rest)) : W p l e R s m args below meth c H locs cells slots Q (F0 m pc ls (.int n :: .int 0 :: .ref a :: .int 0 :: .ref a0 :: rest)) :=
  va_copyi hexec hb hml hown (hts _ hlink) (hts _ hnat) (hts _ hstat) (hts _ hini) hK.1 hP hD hS q0 q1 t0 t0 ha0 ha1 ht0 ht0 rfl (by decide) (by decide) h3 (by rw [show (0 : Int32).toNatClampNeg = 0 from rfl, Nat.zero_add]; exact h4) (by rw [show (0 : Int32).toNatClampNeg = 0 from rfl, Nat.zero_add]; exact h5) (fun _ _ => rfl) hframes hlocals hdg (fun H1 locs1 h1 h2 h3 => kk _ H1 locs1 rfl ((hw' _) ▸ h1) ((hw' _) ▸ h2) h3)
end KxCopy
theorem cpy9 {f g h : Nat → Int32} (e : h = va_cpy f g 0 0 (9 : Int32).toNatClampNeg) : ∀ j, j < 9 → h j = f j := fun j hj => by
  rw [e, show (9 : Int32).toNatClampNeg = 9 from rfl]
  unfold va_cpy
  rw [if_pos ⟨by omega, by omega⟩, Nat.zero_add, Nat.sub_zero]
set_option maxHeartbeats 4000000 in
set_option maxRecDepth 100000 in
theorem c_kState_copy (l : Launch) (D : va_G) (cI cJ cC cZ cS : ClassId) (h0 : Nat) (k1 : Nat) (k2 : Nat) (dy : Nat) (mo : Nat) (wk : Int32) (mu : Int32) (ke : Int32) (fb : Nat → Int32) (fw : Nat → Int32) (o0 : Nat) (o1 : Nat) (o2 : Nat) (dy2 : Nat) (mo2 : Nat) (wk2 : Int32) (mu2 : Int32) (ke2 : Int32) (fb2 : Nat → Int32) (fw2 : Nat → Int32)  : skM l yX7_copy cX7_copy 2 none 1 80 0 0 D (skT cI cJ cC cZ cS) [.ref h0, .ref o0] [ro_rrninii h0 7 k1 k2 dy wk mo mu ke, ra_I k1 cI 9 fb, ra_I k2 cI 9 fw, ro_rrninii o0 7 o1 o2 dy2 wk2 mo2 mu2 ke2, ra_I o1 cI 9 fb2, ra_I o2 cI 9 fw2] (skV D (skT cI cJ cC cZ cS) (fun (u : va_W) => ∃ (g1 : Nat → Int32), ∃ (g2 : Nat → Int32), (∀ j, j < 9 → g1 j = fb2 j) ∧ (∀ j, j < 9 → g2 j = fw2 j) ∧ u = [ro_rrninii h0 7 k1 k2 dy2 wk2 mo2 mu2 ke2, ra_I k1 cI 9 g1, ra_I k2 cI 9 g2, ro_rrninii o0 7 o1 o2 dy2 wk2 mo2 mu2 ke2, ra_I o1 cI 9 fb2, ra_I o2 cI 9 fw2])) := by
  refine skM_of pf_X7_copy (Nat.le_of_ble_eq_true rfl) ?_
  intro p e s m below meth c A ls E hP hD hl
  refine skE_el E (fun hx hb hr hml hlocks hin hown hts hK hA => ?_)
  have hown : s.vm.findClass RX7 = some m.cls := hown
  have hS : va_S A s.heap s.heap [] := va_S.rf
  have hl : lv_has ls 2 [(0, .ref h0), (1, .ref o0)] := hl
  refine lv_aload_n hx hb dX7_copy_0 rfl (lv_at hl 0 rfl) ?_
  refine lv_aload_n hx hb dX7_copy_1 rfl (lv_at hl 1 rfl) ?_
  refine sk_get (v := .int (nI dy2)) (C := RX7) (T := TX7) (N := 7) hx hb hts inlX7 hown hK hP 3 rfl rfl 2 (Nat.le_of_ble_eq_true rfl) w_1_238 rfl dX7_copy_2 ?_
  refine sk_put (ws' := [ro_rrninii h0 7 k1 k2 dy2 wk mo mu ke, ra_I k1 cI 9 fb, ra_I k2 cI 9 fw, ro_rrninii o0 7 o1 o2 dy2 wk2 mo2 mu2 ke2, ra_I o1 cI 9 fb2, ra_I o2 cI 9 fw2]) (C := RX7) (T := TX7) (N := 7) (v := .int (nI dy2)) hx hb hts inlX7 tyX7 tyX7_ok nmX7 hown hK hP hD hS 0 rfl rfl 2 (Nat.le_of_ble_eq_true rfl) w_1_238 rfl rfl rfl (Nat.le_of_ble_eq_true rfl) rfl dX7_copy_5 (fun H locs hP hD hS => ?_)
  refine lv_aload_n hx hb dX7_copy_8 rfl (lv_at hl 0 rfl) ?_
  refine lv_aload_n hx hb dX7_copy_9 rfl (lv_at hl 1 rfl) ?_
  refine sk_get (v := .int wk2) (C := RX7) (T := TX7) (N := 7) hx hb hts inlX7 hown hK hP 3 rfl rfl 3 (Nat.le_of_ble_eq_true rfl) w_2_3 rfl dX7_copy_10 ?_
  refine sk_put (ws' := [ro_rrninii h0 7 k1 k2 dy2 wk2 mo mu ke, ra_I k1 cI 9 fb, ra_I k2 cI 9 fw, ro_rrninii o0 7 o1 o2 dy2 wk2 mo2 mu2 ke2, ra_I o1 cI 9 fb2, ra_I o2 cI 9 fw2]) (C := RX7) (T := TX7) (N := 7) (v := .int wk2) hx hb hts inlX7 tyX7 tyX7_ok nmX7 hown hK hP hD hS 0 rfl rfl 3 (Nat.le_of_ble_eq_true rfl) w_2_3 rfl rfl rfl (Nat.le_of_ble_eq_true rfl) rfl dX7_copy_13 (fun H locs hP hD hS => ?_)
  refine lv_aload_n hx hb dX7_copy_16 rfl (lv_at hl 0 rfl) ?_
  refine lv_aload_n hx hb dX7_copy_17 rfl (lv_at hl 1 rfl) ?_
  refine sk_get (v := .int (nI mo2)) (C := RX7) (T := TX7) (N := 7) hx hb hts inlX7 hown hK hP 3 rfl rfl 4 (Nat.le_of_ble_eq_true rfl) w_2_8 rfl dX7_copy_18 ?_
  refine sk_put (ws' := [ro_rrninii h0 7 k1 k2 dy2 wk2 mo2 mu ke, ra_I k1 cI 9 fb, ra_I k2 cI 9 fw, ro_rrninii o0 7 o1 o2 dy2 wk2 mo2 mu2 ke2, ra_I o1 cI 9 fb2, ra_I o2 cI 9 fw2]) (C := RX7) (T := TX7) (N := 7) (v := .int (nI mo2)) hx hb hts inlX7 tyX7 tyX7_ok nmX7 hown hK hP hD hS 0 rfl rfl 4 (Nat.le_of_ble_eq_true rfl) w_2_8 rfl rfl rfl (Nat.le_of_ble_eq_true rfl) rfl dX7_copy_21 (fun H locs hP hD hS => ?_)
  refine lv_aload_n hx hb dX7_copy_24 rfl (lv_at hl 0 rfl) ?_
  refine lv_aload_n hx hb dX7_copy_25 rfl (lv_at hl 1 rfl) ?_
  refine sk_get (v := .int mu2) (C := RX7) (T := TX7) (N := 7) hx hb hts inlX7 hown hK hP 3 rfl rfl 5 (Nat.le_of_ble_eq_true rfl) w_2_11 rfl dX7_copy_26 ?_
  refine sk_put (ws' := [ro_rrninii h0 7 k1 k2 dy2 wk2 mo2 mu2 ke, ra_I k1 cI 9 fb, ra_I k2 cI 9 fw, ro_rrninii o0 7 o1 o2 dy2 wk2 mo2 mu2 ke2, ra_I o1 cI 9 fb2, ra_I o2 cI 9 fw2]) (C := RX7) (T := TX7) (N := 7) (v := .int mu2) hx hb hts inlX7 tyX7 tyX7_ok nmX7 hown hK hP hD hS 0 rfl rfl 5 (Nat.le_of_ble_eq_true rfl) w_2_11 rfl rfl rfl (Nat.le_of_ble_eq_true rfl) rfl dX7_copy_29 (fun H locs hP hD hS => ?_)
  refine lv_aload_n hx hb dX7_copy_32 rfl (lv_at hl 0 rfl) ?_
  refine lv_aload_n hx hb dX7_copy_33 rfl (lv_at hl 1 rfl) ?_
  refine sk_get (v := .int ke2) (C := RX7) (T := TX7) (N := 7) hx hb hts inlX7 hown hK hP 3 rfl rfl 6 (Nat.le_of_ble_eq_true rfl) w_2_13 rfl dX7_copy_34 ?_
  refine sk_put (ws' := [ro_rrninii h0 7 k1 k2 dy2 wk2 mo2 mu2 ke2, ra_I k1 cI 9 fb, ra_I k2 cI 9 fw, ro_rrninii o0 7 o1 o2 dy2 wk2 mo2 mu2 ke2, ra_I o1 cI 9 fb2, ra_I o2 cI 9 fw2]) (C := RX7) (T := TX7) (N := 7) (v := .int ke2) hx hb hts inlX7 tyX7 tyX7_ok nmX7 hown hK hP hD hS 0 rfl rfl 6 (Nat.le_of_ble_eq_true rfl) w_2_13 rfl rfl rfl (Nat.le_of_ble_eq_true rfl) rfl dX7_copy_37 (fun H locs hP hD hS => ?_)
  refine lv_aload_n hx hb dX7_copy_40 rfl (lv_at hl 1 rfl) ?_
  refine sk_get (v := .ref o1) (C := RX7) (T := TX7) (N := 7) hx hb hts inlX7 hown hK hP 3 rfl rfl 0 (Nat.le_of_ble_eq_true rfl) w_1_230 rfl dX7_copy_41 ?_
  refine lv_iconst (v := 0) hx hb dX7_copy_44 ic_0 ?_
  refine lv_aload_n hx hb dX7_copy_45 rfl (lv_at hl 0 rfl) ?_
  refine sk_get (v := .ref k1) (C := RX7) (T := TX7) (N := 7) hx hb hts inlX7 hown hK hP 0 rfl rfl 0 (Nat.le_of_ble_eq_true rfl) w_1_230 rfl dX7_copy_46 ?_
  refine lv_iconst (v := 0) hx hb dX7_copy_49 ic_0 ?_
  refine lv_bipush (v := 9) hx hb dX7_copy_50 (by decide) ?_
  refine sk_copyE (ws' := fun f_1 => [ro_rrninii h0 7 k1 k2 dy2 wk2 mo2 mu2 ke2, ra_I k1 cI 9 f_1, ra_I k2 cI 9 fw, ro_rrninii o0 7 o1 o2 dy2 wk2 mo2 mu2 ke2, ra_I o1 cI 9 fb2, ra_I o2 cI 9 fw2]) hx hb (by rw [hml]; exact hl.1.symm) hts hown w_3_152 w_3_154 w_3_153 w_1_20 hK hP hD hS 4 1 0 rfl rfl rfl (by decide) (by decide) (by decide) (Nat.le_of_ble_eq_true rfl) (Nat.le_of_ble_eq_true rfl) (fun _ => rfl) dX7_copy_52 (fun f_1 H locs ec_2 hP hD hS => ?_)
  refine lv_aload_n hx hb dX7_copy_55 rfl (lv_at hl 1 rfl) ?_
  refine sk_get (v := .ref o2) (C := RX7) (T := TX7) (N := 7) hx hb hts inlX7 hown hK hP 3 rfl rfl 1 (Nat.le_of_ble_eq_true rfl) w_1_234 rfl dX7_copy_56 ?_
  refine lv_iconst (v := 0) hx hb dX7_copy_59 ic_0 ?_
  refine lv_aload_n hx hb dX7_copy_60 rfl (lv_at hl 0 rfl) ?_
  refine sk_get (v := .ref k2) (C := RX7) (T := TX7) (N := 7) hx hb hts inlX7 hown hK hP 0 rfl rfl 1 (Nat.le_of_ble_eq_true rfl) w_1_234 rfl dX7_copy_61 ?_
  refine lv_iconst (v := 0) hx hb dX7_copy_64 ic_0 ?_
  refine lv_bipush (v := 9) hx hb dX7_copy_65 (by decide) ?_
  refine sk_copyE (ws' := fun f_3 => [ro_rrninii h0 7 k1 k2 dy2 wk2 mo2 mu2 ke2, ra_I k1 cI 9 f_1, ra_I k2 cI 9 f_3, ro_rrninii o0 7 o1 o2 dy2 wk2 mo2 mu2 ke2, ra_I o1 cI 9 fb2, ra_I o2 cI 9 fw2]) hx hb (by rw [hml]; exact hl.1.symm) hts hown w_3_152 w_3_154 w_3_153 w_1_20 hK hP hD hS 5 2 0 rfl rfl rfl (by decide) (by decide) (by decide) (Nat.le_of_ble_eq_true rfl) (Nat.le_of_ble_eq_true rfl) (fun _ => rfl) dX7_copy_67 (fun f_3 H locs ec_4 hP hD hS => ?_)
  exact sk_vret hx hb hr hlocks hK hP hD hS (⟨f_1, f_3, cpy9 ec_2, cpy9 ec_4, rfl⟩) (Nat.le_of_ble_eq_true rfl) (Nat.le_of_ble_eq_true rfl) dX7_copy_70
set_option maxHeartbeats 4000000 in
set_option maxRecDepth 100000 in
theorem c_kState_begin (l : Launch) (D : va_G) (cI cJ cC cZ cS : ClassId) (h0 : Nat) (k1 : Nat) (k2 : Nat) (dy : Nat) (mo : Nat) (wk : Int32) (mu : Int32) (ke : Int32) (fb : Nat → Int32) (fw : Nat → Int32) (o0 : Nat) (o1 : Nat) (o2 : Nat) (o3 : Nat) (o4 : Nat) (o5 : Nat) (dl : Nat) (ml : Nat) (nl : Nat) (ul : Int32) (rl : Int32) (xb : Nat → Int32) (xw : Nat → Int32)  : skM l yX7_begin cX7_begin 2 none 1 80 0 0 D (skT cI cJ cC cZ cS) [.ref h0, .ref o0] [ro_rrninii h0 7 k1 k2 dy wk mo mu ke, ra_I k1 cI 9 fb, ra_I k2 cI 9 fw, ro_rrrrrnniin o0 2 o1 o2 o3 o4 o5 dl ml ul rl nl, ra_I o2 cI 9 xb, ra_I o3 cI 9 xw] (skV D (skT cI cJ cC cZ cS) (fun (u : va_W) => ∃ (g1 : Nat → Int32), ∃ (g2 : Nat → Int32), (∀ j, j < 9 → g1 j = xb j) ∧ (∀ j, j < 9 → g2 j = xw j) ∧ u = [ro_rrninii h0 7 k1 k2 dl 0 ml ul 0, ra_I k1 cI 9 g1, ra_I k2 cI 9 g2, ro_rrrrrnniin o0 2 o1 o2 o3 o4 o5 dl ml ul rl nl, ra_I o2 cI 9 xb, ra_I o3 cI 9 xw])) := by
  refine skM_of pf_X7_begin (Nat.le_of_ble_eq_true rfl) ?_
  intro p e s m below meth c A ls E hP hD hl
  refine skE_el E (fun hx hb hr hml hlocks hin hown hts hK hA => ?_)
  have hown : s.vm.findClass RX7 = some m.cls := hown
  have hS : va_S A s.heap s.heap [] := va_S.rf
  have hl : lv_has ls 2 [(0, .ref h0), (1, .ref o0)] := hl
  refine lv_aload_n hx hb dX7_begin_0 rfl (lv_at hl 0 rfl) ?_
  refine lv_aload_n hx hb dX7_begin_1 rfl (lv_at hl 1 rfl) ?_
  refine sk_get (v := .int (nI dl)) (C := RX2) (T := TX2) (N := 10) hx hb hts inlX2 hown hK hP 3 rfl rfl 5 (Nat.le_of_ble_eq_true rfl) w_1_189 rfl dX7_begin_2 ?_
  refine sk_put (ws' := [ro_rrninii h0 7 k1 k2 dl wk mo mu ke, ra_I k1 cI 9 fb, ra_I k2 cI 9 fw, ro_rrrrrnniin o0 2 o1 o2 o3 o4 o5 dl ml ul rl nl, ra_I o2 cI 9 xb, ra_I o3 cI 9 xw]) (C := RX7) (T := TX7) (N := 7) (v := .int (nI dl)) hx hb hts inlX7 tyX7 tyX7_ok nmX7 hown hK hP hD hS 0 rfl rfl 2 (Nat.le_of_ble_eq_true rfl) w_1_238 rfl rfl rfl (Nat.le_of_ble_eq_true rfl) rfl dX7_begin_5 (fun H locs hP hD hS => ?_)
  refine lv_aload_n hx hb dX7_begin_8 rfl (lv_at hl 0 rfl) ?_
  refine lv_iconst (v := 0) hx hb dX7_begin_9 ic_0 ?_
  refine sk_put (ws' := [ro_rrninii h0 7 k1 k2 dl 0 mo mu ke, ra_I k1 cI 9 fb, ra_I k2 cI 9 fw, ro_rrrrrnniin o0 2 o1 o2 o3 o4 o5 dl ml ul rl nl, ra_I o2 cI 9 xb, ra_I o3 cI 9 xw]) (C := RX7) (T := TX7) (N := 7) (v := .int 0) hx hb hts inlX7 tyX7 tyX7_ok nmX7 hown hK hP hD hS 0 rfl rfl 3 (Nat.le_of_ble_eq_true rfl) w_2_3 rfl rfl rfl (Nat.le_of_ble_eq_true rfl) rfl dX7_begin_10 (fun H locs hP hD hS => ?_)
  refine lv_aload_n hx hb dX7_begin_13 rfl (lv_at hl 0 rfl) ?_
  refine lv_aload_n hx hb dX7_begin_14 rfl (lv_at hl 1 rfl) ?_
  refine sk_get (v := .int (nI ml)) (C := RX2) (T := TX2) (N := 10) hx hb hts inlX2 hown hK hP 3 rfl rfl 6 (Nat.le_of_ble_eq_true rfl) w_1_192 rfl dX7_begin_15 ?_
  refine sk_put (ws' := [ro_rrninii h0 7 k1 k2 dl 0 ml mu ke, ra_I k1 cI 9 fb, ra_I k2 cI 9 fw, ro_rrrrrnniin o0 2 o1 o2 o3 o4 o5 dl ml ul rl nl, ra_I o2 cI 9 xb, ra_I o3 cI 9 xw]) (C := RX7) (T := TX7) (N := 7) (v := .int (nI ml)) hx hb hts inlX7 tyX7 tyX7_ok nmX7 hown hK hP hD hS 0 rfl rfl 4 (Nat.le_of_ble_eq_true rfl) w_2_8 rfl rfl rfl (Nat.le_of_ble_eq_true rfl) rfl dX7_begin_18 (fun H locs hP hD hS => ?_)
  refine lv_aload_n hx hb dX7_begin_21 rfl (lv_at hl 0 rfl) ?_
  refine lv_aload_n hx hb dX7_begin_22 rfl (lv_at hl 1 rfl) ?_
  refine sk_get (v := .int ul) (C := RX2) (T := TX2) (N := 10) hx hb hts inlX2 hown hK hP 3 rfl rfl 7 (Nat.le_of_ble_eq_true rfl) w_1_195 rfl dX7_begin_23 ?_
  refine sk_put (ws' := [ro_rrninii h0 7 k1 k2 dl 0 ml ul ke, ra_I k1 cI 9 fb, ra_I k2 cI 9 fw, ro_rrrrrnniin o0 2 o1 o2 o3 o4 o5 dl ml ul rl nl, ra_I o2 cI 9 xb, ra_I o3 cI 9 xw]) (C := RX7) (T := TX7) (N := 7) (v := .int ul) hx hb hts inlX7 tyX7 tyX7_ok nmX7 hown hK hP hD hS 0 rfl rfl 5 (Nat.le_of_ble_eq_true rfl) w_2_11 rfl rfl rfl (Nat.le_of_ble_eq_true rfl) rfl dX7_begin_26 (fun H locs hP hD hS => ?_)
  refine lv_aload_n hx hb dX7_begin_29 rfl (lv_at hl 0 rfl) ?_
  refine lv_iconst (v := 0) hx hb dX7_begin_30 ic_0 ?_
  refine sk_put (ws' := [ro_rrninii h0 7 k1 k2 dl 0 ml ul 0, ra_I k1 cI 9 fb, ra_I k2 cI 9 fw, ro_rrrrrnniin o0 2 o1 o2 o3 o4 o5 dl ml ul rl nl, ra_I o2 cI 9 xb, ra_I o3 cI 9 xw]) (C := RX7) (T := TX7) (N := 7) (v := .int 0) hx hb hts inlX7 tyX7 tyX7_ok nmX7 hown hK hP hD hS 0 rfl rfl 6 (Nat.le_of_ble_eq_true rfl) w_2_13 rfl rfl rfl (Nat.le_of_ble_eq_true rfl) rfl dX7_begin_31 (fun H locs hP hD hS => ?_)
  refine lv_aload_n hx hb dX7_begin_34 rfl (lv_at hl 1 rfl) ?_
  refine sk_get (v := .ref o2) (C := RX2) (T := TX2) (N := 10) hx hb hts inlX2 hown hK hP 3 rfl rfl 1 (Nat.le_of_ble_eq_true rfl) w_1_179 rfl dX7_begin_35 ?_
  refine lv_iconst (v := 0) hx hb dX7_begin_38 ic_0 ?_
  refine lv_aload_n hx hb dX7_begin_39 rfl (lv_at hl 0 rfl) ?_
  refine sk_get (v := .ref k1) (C := RX7) (T := TX7) (N := 7) hx hb hts inlX7 hown hK hP 0 rfl rfl 0 (Nat.le_of_ble_eq_true rfl) w_1_230 rfl dX7_begin_40 ?_
  refine lv_iconst (v := 0) hx hb dX7_begin_43 ic_0 ?_
  refine lv_bipush (v := 9) hx hb dX7_begin_44 (by decide) ?_
  refine sk_copyE (ws' := fun f_1 => [ro_rrninii h0 7 k1 k2 dl 0 ml ul 0, ra_I k1 cI 9 f_1, ra_I k2 cI 9 fw, ro_rrrrrnniin o0 2 o1 o2 o3 o4 o5 dl ml ul rl nl, ra_I o2 cI 9 xb, ra_I o3 cI 9 xw]) hx hb (by rw [hml]; exact hl.1.symm) hts hown w_3_152 w_3_154 w_3_153 w_1_20 hK hP hD hS 4 1 0 rfl rfl rfl (by decide) (by decide) (by decide) (Nat.le_of_ble_eq_true rfl) (Nat.le_of_ble_eq_true rfl) (fun _ => rfl) dX7_begin_46 (fun f_1 H locs ec_2 hP hD hS => ?_)
  refine lv_aload_n hx hb dX7_begin_49 rfl (lv_at hl 1 rfl) ?_
  refine sk_get (v := .ref o3) (C := RX2) (T := TX2) (N := 10) hx hb hts inlX2 hown hK hP 3 rfl rfl 2 (Nat.le_of_ble_eq_true rfl) w_1_182 rfl dX7_begin_50 ?_
  refine lv_iconst (v := 0) hx hb dX7_begin_53 ic_0 ?_
  refine lv_aload_n hx hb dX7_begin_54 rfl (lv_at hl 0 rfl) ?_
  refine sk_get (v := .ref k2) (C := RX7) (T := TX7) (N := 7) hx hb hts inlX7 hown hK hP 0 rfl rfl 1 (Nat.le_of_ble_eq_true rfl) w_1_234 rfl dX7_begin_55 ?_
  refine lv_iconst (v := 0) hx hb dX7_begin_58 ic_0 ?_
  refine lv_bipush (v := 9) hx hb dX7_begin_59 (by decide) ?_
  refine sk_copyE (ws' := fun f_3 => [ro_rrninii h0 7 k1 k2 dl 0 ml ul 0, ra_I k1 cI 9 f_1, ra_I k2 cI 9 f_3, ro_rrrrrnniin o0 2 o1 o2 o3 o4 o5 dl ml ul rl nl, ra_I o2 cI 9 xb, ra_I o3 cI 9 xw]) hx hb (by rw [hml]; exact hl.1.symm) hts hown w_3_152 w_3_154 w_3_153 w_1_20 hK hP hD hS 5 2 0 rfl rfl rfl (by decide) (by decide) (by decide) (Nat.le_of_ble_eq_true rfl) (Nat.le_of_ble_eq_true rfl) (fun _ => rfl) dX7_begin_61 (fun f_3 H locs ec_4 hP hD hS => ?_)
  exact sk_vret hx hb hr hlocks hK hP hD hS (⟨f_1, f_3, cpy9 ec_2, cpy9 ec_4, rfl⟩) (Nat.le_of_ble_eq_true rfl) (Nat.le_of_ble_eq_true rfl) dX7_begin_64
set_option maxHeartbeats 4000000 in
set_option maxRecDepth 100000 in
theorem c_kState_isMute (l : Launch) (D : va_G) (cI cJ cC cZ cS : ClassId) (h0 : Nat) (k1 : Nat) (k2 : Nat) (dy : Nat) (mo : Nat) (wk : Int32) (mu : Int32) (ke : Int32) (d : Nat) (U : Nat → Bool) (hd : d < 9) (hU : muO U mu) : skM l yX7_isMute cX7_isMute 2 (some .boolean) 0 0 0 0 D (skT cI cJ cC cZ cS) [.ref h0, .int (nI d)] [ro_rrninii h0 7 k1 k2 dy wk mo mu ke] (skI D (skT cI cJ cC cZ cS) (fun (r : Int32) (u : va_W) => ∃ (b : Nat), ((b = 1 ∧ U d = true) ∨ (b = 0 ∧ ¬ U d = true)) ∧ r = nI b ∧ u = [ro_rrninii h0 7 k1 k2 dy wk mo mu ke])) := by
  refine skM_of pf_X7_isMute (Nat.le_of_ble_eq_true rfl) ?_
  intro p e s m below meth c A ls E hP hD hl
  refine skE_el E (fun hx hb hr hml hlocks hin hown hts hK hA => ?_)
  have hown : s.vm.findClass RX7 = some m.cls := hown
  have hS : va_S A s.heap s.heap [] := va_S.rf
  have hl : lv_has ls 2 [(0, .ref h0), (1, .int (nI d))] := hl
  refine lv_aload_n hx hb dX7_isMute_0 rfl (lv_at hl 0 rfl) ?_
  refine sk_get (v := .int mu) (C := RX7) (T := TX7) (N := 7) hx hb hts inlX7 hown hK hP 0 rfl rfl 5 (Nat.le_of_ble_eq_true rfl) w_2_11 rfl dX7_isMute_1 ?_
  refine lv_iload_n hx hb dX7_isMute_4 rfl (lv_at hl 1 rfl) ?_
  refine lv_ishr hx hb dX7_isMute_5 ?_
  refine lv_iconst (v := 1) hx hb dX7_isMute_6 ic_1 ?_
  refine lv_iand hx hb dX7_isMute_7 ?_
  refine lv_iconst (v := 1) hx hb dX7_isMute_8 ic_1 ?_
  refine lv_icmp_ne (tgt := 16) hx hb dX7_isMute_9 (by decide) (fun c_1 => ?_) (fun c_1 => ?_)
  · skip
    refine lv_iconst (v := 0) hx hb dX7_isMute_16 ic_0 ?_
    exact sk_iret hx hb hr rfl hlocks hK hP hD hS (⟨0, Or.inr ⟨rfl, fun hq => c_1 ((muO_bit hU (by omega)).mpr hq)⟩, rfl, rfl⟩) (Nat.le_of_ble_eq_true rfl) (Nat.le_of_ble_eq_true rfl) dX7_isMute_17
  · skip
    refine lv_iconst (v := 1) hx hb dX7_isMute_12 ic_1 ?_
    refine lv_goto (tgt := 17) hx hb dX7_isMute_13 (by decide) ?_
    exact sk_iret hx hb hr rfl hlocks hK hP hD hS (⟨1, Or.inl ⟨rfl, (muO_bit hU (by omega)).mp c_1⟩, rfl, rfl⟩) (Nat.le_of_ble_eq_true rfl) (Nat.le_of_ble_eq_true rfl) dX7_isMute_17
set_option maxHeartbeats 4000000 in
set_option maxRecDepth 100000 in
theorem c_kState_amount (l : Launch) (D : va_G) (cI cJ cC cZ cS : ClassId) (h0 : Nat) (k1 : Nat) (k2 : Nat) (dy : Nat) (mo : Nat) (wk : Int32) (mu : Int32) (ke : Int32) (fb : Nat → Int32) (fw : Nat → Int32) (d : Nat) (w : Nat) (Ba : Nat → Nat) (We : Nat → Nat) (hd : d < 9) (hfb : ∀ j, j < 9 → fb j = nI (Ba j)) (hfw : ∀ j, j < 9 → fw j = nI (We j)) (hw : w ≤ 1) : skM l yX7_amount cX7_amount 3 (some .int) 0 0 0 0 D (skT cI cJ cC cZ cS) [.ref h0, .int (nI d), .int (nI w)] [ro_rrninii h0 7 k1 k2 dy wk mo mu ke, ra_I k1 cI 9 fb, ra_I k2 cI 9 fw] (skI D (skT cI cJ cC cZ cS) (fun (r : Int32) (u : va_W) => ∃ (v : Nat), v = (if w = 0 then Ba d else We d) ∧ r = nI v ∧ u = [ro_rrninii h0 7 k1 k2 dy wk mo mu ke, ra_I k1 cI 9 fb, ra_I k2 cI 9 fw])) := by
  refine skM_of pf_X7_amount (Nat.le_of_ble_eq_true rfl) ?_
  intro p e s m below meth c A ls E hP hD hl
  refine skE_el E (fun hx hb hr hml hlocks hin hown hts hK hA => ?_)
  have hown : s.vm.findClass RX7 = some m.cls := hown
  have hS : va_S A s.heap s.heap [] := va_S.rf
  have hl : lv_has ls 3 [(0, .ref h0), (1, .int (nI d)), (2, .int (nI w))] := hl
  refine lv_iload_n hx hb dX7_amount_0 rfl (lv_at hl 2 rfl) ?_
  refine lv_if_ne (tgt := 13) hx hb dX7_amount_1 (by decide) (fun c_1 => ?_) (fun c_1 => ?_)
  · have c_1 : ¬ (w = 0) := fun h => c_1 ((neq w 0 (by omega) (Nat.le_of_ble_eq_true rfl)).mpr h)
    refine lv_aload_n hx hb dX7_amount_13 rfl (lv_at hl 0 rfl) ?_
    refine sk_get (v := .ref k2) (C := RX7) (T := TX7) (N := 7) hx hb hts inlX7 hown hK hP 0 rfl rfl 1 (Nat.le_of_ble_eq_true rfl) w_1_234 rfl dX7_amount_14 ?_
    refine lv_iload_n hx hb dX7_amount_17 rfl (lv_at hl 1 rfl) ?_
    refine va_iald hx hb hK.1 hP 2 0 rfl rfl (vin d 9 (by omega) (Nat.le_of_ble_eq_true rfl)) dX7_amount_18 ?_
    refine sk_top (nI (We d)) (by rw [nI_clamp (by omega)]; exact hfw d hd) ?_
    exact sk_iret hx hb hr rfl hlocks hK hP hD hS (⟨We d, (if_neg c_1).symm, rfl, rfl⟩) (Nat.le_of_ble_eq_true rfl) (Nat.le_of_ble_eq_true rfl) dX7_amount_19
  · have c_1 : w = 0 := (neq w 0 (by omega) (Nat.le_of_ble_eq_true rfl)).mp c_1
    refine lv_aload_n hx hb dX7_amount_4 rfl (lv_at hl 0 rfl) ?_
    refine sk_get (v := .ref k1) (C := RX7) (T := TX7) (N := 7) hx hb hts inlX7 hown hK hP 0 rfl rfl 0 (Nat.le_of_ble_eq_true rfl) w_1_230 rfl dX7_amount_5 ?_
    refine lv_iload_n hx hb dX7_amount_8 rfl (lv_at hl 1 rfl) ?_
    refine va_iald hx hb hK.1 hP 1 0 rfl rfl (vin d 9 (by omega) (Nat.le_of_ble_eq_true rfl)) dX7_amount_9 ?_
    refine sk_top (nI (Ba d)) (by rw [nI_clamp (by omega)]; exact hfb d hd) ?_
    refine lv_goto (tgt := 19) hx hb dX7_amount_10 (by decide) ?_
    exact sk_iret hx hb hr rfl hlocks hK hP hD hS (⟨Ba d, (if_pos c_1).symm, rfl, rfl⟩) (Nat.le_of_ble_eq_true rfl) (Nat.le_of_ble_eq_true rfl) dX7_amount_19
set_option maxHeartbeats 4000000 in
set_option maxRecDepth 100000 in
theorem c_kState_put0 (l : Launch) (D : va_G) (cI cJ cC cZ cS : ClassId) (h0 : Nat) (k1 : Nat) (k2 : Nat) (dy : Nat) (mo : Nat) (wk : Int32) (mu : Int32) (ke : Int32) (fb : Nat → Int32) (fw : Nat → Int32) (d : Nat) (o : Int32) (hd : d < 9) : skM l yX7_put cX7_put 4 none 0 0 0 0 D (skT cI cJ cC cZ cS) [.ref h0, .int (nI d), .int 0, .int o] [ro_rrninii h0 7 k1 k2 dy wk mo mu ke, ra_I k1 cI 9 fb, ra_I k2 cI 9 fw] (skV D (skT cI cJ cC cZ cS) (fun (u : va_W) => ∃ (g1 : Nat → Int32), g1 = upd fb d o ∧ u = [ro_rrninii h0 7 k1 k2 dy wk mo mu ke, ra_I k1 cI 9 g1, ra_I k2 cI 9 fw])) := by
  refine skM_of pf_X7_put (Nat.le_of_ble_eq_true rfl) ?_
  intro p e s m below meth c A ls E hP hD hl
  refine skE_el E (fun hx hb hr hml hlocks hin hown hts hK hA => ?_)
  have hown : s.vm.findClass RX7 = some m.cls := hown
  have hS : va_S A s.heap s.heap [] := va_S.rf
  have hl : lv_has ls 4 [(0, .ref h0), (1, .int (nI d)), (2, .int 0), (3, .int o)] := hl
  refine lv_iload_n hx hb dX7_put_0 rfl (lv_at hl 2 rfl) ?_
  refine lv_if_ne (tgt := 14) hx hb dX7_put_1 (by decide) (fun c => absurd c (by decide)) (fun c_1 => ?_)
  refine lv_aload_n hx hb dX7_put_4 rfl (lv_at hl 0 rfl) ?_
  refine sk_get (v := .ref k1) (C := RX7) (T := TX7) (N := 7) hx hb hts inlX7 hown hK hP 0 rfl rfl 0 (Nat.le_of_ble_eq_true rfl) w_1_230 rfl dX7_put_5 ?_
  refine lv_iload_n hx hb dX7_put_8 rfl (lv_at hl 1 rfl) ?_
  refine lv_iload_n hx hb dX7_put_9 rfl (lv_at hl 3 rfl) ?_
  refine sk_iastE (k := d) (ws' := fun f_2 => [ro_rrninii h0 7 k1 k2 dy wk mo mu ke, ra_I k1 cI 9 f_2, ra_I k2 cI 9 fw]) hx hb hK hP hD hS 1 0 rfl rfl (by omega) (by omega) (fun _ => rfl) dX7_put_10 (fun f_2 H locs ef_3 hP hD hS => ?_)
  refine lv_goto (tgt := 21) hx hb dX7_put_11 (by decide) ?_
  exact sk_vret hx hb hr hlocks hK hP hD hS (⟨f_2, ef_3, rfl⟩) (Nat.le_of_ble_eq_true rfl) (Nat.le_of_ble_eq_true rfl) dX7_put_21
set_option maxHeartbeats 4000000 in
set_option maxRecDepth 100000 in
theorem c_kState_put1 (l : Launch) (D : va_G) (cI cJ cC cZ cS : ClassId) (h0 : Nat) (k1 : Nat) (k2 : Nat) (dy : Nat) (mo : Nat) (wk : Int32) (mu : Int32) (ke : Int32) (fb : Nat → Int32) (fw : Nat → Int32) (d : Nat) (o : Int32) (hd : d < 9) : skM l yX7_put cX7_put 4 none 0 0 0 0 D (skT cI cJ cC cZ cS) [.ref h0, .int (nI d), .int 1, .int o] [ro_rrninii h0 7 k1 k2 dy wk mo mu ke, ra_I k1 cI 9 fb, ra_I k2 cI 9 fw] (skV D (skT cI cJ cC cZ cS) (fun (u : va_W) => ∃ (g1 : Nat → Int32), g1 = upd fw d o ∧ u = [ro_rrninii h0 7 k1 k2 dy wk mo mu ke, ra_I k1 cI 9 fb, ra_I k2 cI 9 g1])) := by
  refine skM_of pf_X7_put (Nat.le_of_ble_eq_true rfl) ?_
  intro p e s m below meth c A ls E hP hD hl
  refine skE_el E (fun hx hb hr hml hlocks hin hown hts hK hA => ?_)
  have hown : s.vm.findClass RX7 = some m.cls := hown
  have hS : va_S A s.heap s.heap [] := va_S.rf
  have hl : lv_has ls 4 [(0, .ref h0), (1, .int (nI d)), (2, .int 1), (3, .int o)] := hl
  refine lv_iload_n hx hb dX7_put_0 rfl (lv_at hl 2 rfl) ?_
  refine lv_if_ne (tgt := 14) hx hb dX7_put_1 (by decide) (fun c_1 => ?_) (fun c => absurd c (by decide))
  refine lv_aload_n hx hb dX7_put_14 rfl (lv_at hl 0 rfl) ?_
  refine sk_get (v := .ref k2) (C := RX7) (T := TX7) (N := 7) hx hb hts inlX7 hown hK hP 0 rfl rfl 1 (Nat.le_of_ble_eq_true rfl) w_1_234 rfl dX7_put_15 ?_
  refine lv_iload_n hx hb dX7_put_18 rfl (lv_at hl 1 rfl) ?_
  refine lv_iload_n hx hb dX7_put_19 rfl (lv_at hl 3 rfl) ?_
  refine sk_iastE (k := d) (ws' := fun f_2 => [ro_rrninii h0 7 k1 k2 dy wk mo mu ke, ra_I k1 cI 9 fb, ra_I k2 cI 9 f_2]) hx hb hK hP hD hS 2 0 rfl rfl (by omega) (by omega) (fun _ => rfl) dX7_put_20 (fun f_2 H locs ef_3 hP hD hS => ?_)
  exact sk_vret hx hb hr hlocks hK hP hD hS (⟨f_2, ef_3, rfl⟩) (Nat.le_of_ble_eq_true rfl) (Nat.le_of_ble_eq_true rfl) dX7_put_21
/-! draws, what is kept -/
def kdr (x : Nat) : Nat := (1103515245 * x + 12345) % 2147483648
def kdv (x m : Nat) : Nat := kdr x / 64 % m
theorem kdr_lt (x : Nat) : kdr x < 2147483648 := Nat.mod_lt _ (by decide)
theorem kofn_mul (a b : Nat) : Int64.ofNat a * Int64.ofNat b = Int64.ofNat (a * b) := (Int64.ofNat_mul a b).symm
theorem kdr_and (x : Nat) : (1103515245 * Int64.ofNat x + 12345) &&& 2147483647 = Int64.ofNat (kdr x) := by
  have h1 : (1103515245 : Int64) * Int64.ofNat x + 12345 = Int64.ofNat (1103515245 * x + 12345) := by
    rw [Int64.ofNat_add, Int64.ofNat_mul]; rfl
  rw [h1]
  refine Int64.toBitVec_inj.mp ?_
  rw [Int64.toBitVec_and]
  show BitVec.ofNat 64 (1103515245 * x + 12345) &&& BitVec.ofNat 64 2147483647 = BitVec.ofNat 64 (kdr x)
  refine BitVec.eq_of_toNat_eq ?_
  rw [BitVec.toNat_and, BitVec.toNat_ofNat, BitVec.toNat_ofNat, BitVec.toNat_ofNat]
  have h2 := kdr_lt x
  rw [Nat.mod_eq_of_lt (show kdr x < 2 ^ 64 by omega), Nat.mod_eq_of_lt (show 2147483647 < 2 ^ 64 by decide), show 2147483647 = 2 ^ 31 - 1 from rfl, Nat.and_two_pow_sub_one_eq_mod]
  unfold kdr
  generalize 1103515245 * x + 12345 = y
  exact Nat.mod_mod_of_dvd y (show 2 ^ 31 ∣ 2 ^ 64 from Nat.pow_dvd_pow 2 (by decide))
theorem kofn_int {a : Nat} (h : a < 9223372036854775808) : (Int64.ofNat a).toInt = (a : Int) := Int64.toInt_ofNat_of_lt h
theorem kofn_div {a b : Nat} (ha : a < 9223372036854775808) (hb : b < 9223372036854775808) (h0 : 0 < b) : Int64.ofNat a / Int64.ofNat b = Int64.ofNat (a / b) := by
  have h1 : a / b < 9223372036854775808 := Nat.lt_of_le_of_lt (Nat.div_le_self a b) ha
  refine Int64.toInt_inj.mp ?_
  rw [Jvm.Kit.i64_div (by rw [kofn_int ha, kofn_int hb]; omega), kofn_int ha, kofn_int hb, kofn_int h1]
  rw [Int.tdiv_eq_ediv_of_nonneg (by omega)]
  exact (Int.natCast_ediv a b).symm
theorem kofn_rem {a b : Nat} (ha : a < 9223372036854775808) (hb : b < 9223372036854775808) (h0 : 0 < b) : Int64.ofNat a - Int64.ofNat a / Int64.ofNat b * Int64.ofNat b = Int64.ofNat (a % b) := by
  rw [kofn_div ha hb h0, kofn_mul, kofn_sub (Nat.div_mul_le_self a b)]
  congr 1
  have h1 := Nat.div_add_mod a b
  have h2 := Nat.mul_comm b (a / b)
  omega
theorem kofn_pos {m : Nat} (h : 1 ≤ m) (hm : m < 9223372036854775808) : ¬ lg_cmp (Int64.ofNat m) 0 ≤ 0 := fun q => by
  have h1 := (lg_cmp_le _ _).mp q
  rw [Int64.le_iff_toInt_le, kofn_int hm] at h1
  have e0 : (0 : Int64).toInt = 0 := rfl
  rw [e0] at h1
  omega
theorem kofn_ne {m : Nat} (h : 1 ≤ m) (hm : m < 9223372036854775808) : ¬ Int64.ofNat m = 0 := fun q => by
  have h1 := kofn_int hm
  rw [q] at h1
  have e0 : (0 : Int64).toInt = 0 := rfl
  omega
abbrev KLg := Nat → Nat × Nat × Nat
def kkO (lg : KLg) (n : Nat) (p1 : Nat → Int32) (p2 : Nat → Int64) (p3 : Nat → Int32) : Prop := ∀ k, k < n → p1 k = nI (lg k).1 ∧ p2 k = Int64.ofNat (lg k).2.1 ∧ p3 k = nI (lg k).2.2
theorem kk_s {lg : KLg} {n : Nat} {p1 p3 r1 r3 : Nat → Int32} {p2 r2 : Nat → Int64} {a b c : Nat} (h : kkO lg n p1 p2 p3) (e1 : r1 = upd p1 n (nI a)) (e2 : r2 = vp_updL p2 n (Int64.ofNat b)) (e3 : r3 = upd p3 n (nI c)) : kkO (updG lg n (a, b, c)) (n + 1) r1 r2 r3 := fun k hk => by
  unfold updG
  by_cases q : k = n
  · subst q; rw [if_pos rfl, kui_s e1, kup_s e2, kui_s e3]; exact ⟨rfl, rfl, rfl⟩
  · rw [if_neg q, kui_n e1 q, kup_n e2 q, kui_n e3 q]; exact h k (by omega)
/-! the days by the seed -/
abbrev KDs := Nat × (Nat → Nat) × (Nat → Nat)
def kds (rn d : Nat) (s : KDs) : KDs := if kdv s.1 100 < rn then (kdr s.1, s.2.1, updG s.2.2 d (min (s.2.2 d + 1) 9)) else (kdr (kdr s.1), updG s.2.1 d (kdv (kdr s.1) 10), s.2.2)
def kda (rn : Nat) (s : KDs) : Nat → KDs
  | 0 => s
  | d + 1 => kds rn d (kda rn s d)
/-! a week by the seed -/
theorem kl2i {k : Nat} (h : k < 2147483648) : (Int64.ofNat k).toInt32 = nI k := kten_i (by rw [kofn_int (by omega)]) h
theorem kmin9 {a : Nat} (h : a < 2147483648) : (if (9 : Int32) < nI a then 9 else nI a) = nI (min a 9) := by
  by_cases q : 9 < a
  · rw [if_pos (show (9 : Int32) < nI a from (nlt 9 a (by decide) h).mpr q), Nat.min_eq_right (by omega)]; rfl
  · rw [if_neg (show ¬ (9 : Int32) < nI a from fun c => q ((nlt 9 a (by decide) h).mp c)), Nat.min_eq_left (by omega)]
theorem kdv_lt {x m : Nat} (h : 1 ≤ m) : kdv x m < m := Nat.mod_lt _ h
theorem kda_s (rn : Nat) (s : KDs) (d : Nat) : kda rn s (d + 1) = kds rn d (kda rn s d) := rfl
def kdO (S : KDs) (zb zw : Nat → Int32) : Prop := (∀ j, j < 9 → zb j = nI (S.2.1 j)) ∧ (∀ j, j < 9 → zw j = nI (S.2.2 j)) ∧ (∀ j, S.2.1 j ≤ 9) ∧ (∀ j, S.2.2 j ≤ 9) ∧ S.1 < 2147483648
theorem kd_wet {S : KDs} {zb zw zx : Nat → Int32} {rn d : Nat} (h : kdO S zb zw) (hr : kdv S.1 100 < rn) (e : zx = upd zw d (nI (min (S.2.2 d + 1) 9))) : kdO (kds rn d S) zb zx := by
  obtain ⟨h1, h2, h3, h4, h5⟩ := h
  unfold kds
  rw [if_pos hr]
  refine ⟨h1, fun j hj => ?_, h3, fun j => ?_, kdr_lt _⟩
  · show zx j = nI (updG S.2.2 d (min (S.2.2 d + 1) 9) j)
    unfold updG
    by_cases q : j = d
    · subst q; rw [if_pos rfl]; exact kui_s e
    · rw [if_neg q, kui_n e q]; exact h2 j hj
  · show updG S.2.2 d (min (S.2.2 d + 1) 9) j ≤ 9
    unfold updG
    by_cases q : j = d
    · rw [if_pos q]; exact Nat.min_le_right _ _
    · rw [if_neg q]; exact h4 j
theorem kd_barge {S : KDs} {zb zw zx : Nat → Int32} {rn d : Nat} (h : kdO S zb zw) (hr : ¬ kdv S.1 100 < rn) (e : zx = upd zb d (nI (kdv (kdr S.1) 10))) : kdO (kds rn d S) zx zw := by
  obtain ⟨h1, h2, h3, h4, h5⟩ := h
  unfold kds
  rw [if_neg hr]
  refine ⟨fun j hj => ?_, h2, fun j => ?_, h4, kdr_lt _⟩
  · show zx j = nI (updG S.2.1 d (kdv (kdr S.1) 10) j)
    unfold updG
    by_cases q : j = d
    · subst q; rw [if_pos rfl]; exact kui_s e
    · rw [if_neg q, kui_n e q]; exact h1 j hj
  · show updG S.2.1 d (kdv (kdr S.1) 10) j ≤ 9
    unfold updG
    by_cases q : j = d
    · rw [if_pos q]; have := kdv_lt (x := kdr S.1) (m := 10) (by decide); omega
    · rw [if_neg q]; exact h3 j
theorem kds_1 {rn d : Nat} {S : KDs} (hr : kdv S.1 100 < rn) : (kds rn d S).1 = kdr S.1 := by unfold kds; rw [if_pos hr]
theorem kds_2 {rn d : Nat} {S : KDs} (hr : ¬ kdv S.1 100 < rn) : (kds rn d S).1 = kdr (kdr S.1) := by unfold kds; rw [if_neg hr]
theorem kmin30 {a : Nat} (h : a < 2147483648) : (if (30 : Int32) < nI a then 30 else nI a) = nI (min a 30) := by
  by_cases q : 30 < a
  · rw [if_pos (show (30 : Int32) < nI a from (nlt 30 a (by decide) h).mpr q), Nat.min_eq_right (by omega)]; rfl
  · rw [if_neg (show ¬ (30 : Int32) < nI a from fun c => q ((nlt 30 a (by decide) h).mp c)), Nat.min_eq_left (by omega)]
/-! a state is saved -/
def psh {α : Type} (ac : Nat) (f : Nat → α) (x : α) : Nat → α := if ac < 20 then updG f ac x else updG (rotG f) 19 x
theorem psh_lt {α : Type} {ac : Nat} (h : ac < 20) (f : Nat → α) (x : α) : updG f ac x = psh ac f x := by unfold psh; rw [if_pos h]
theorem psh_20 {α : Type} {ac : Nat} (h : ¬ ac < 20) (f : Nat → α) (x : α) : updG (rotG f) 19 x = psh ac f x := by unfold psh; rw [if_neg h]
/-! the state that both sides hold -/
abbrev KN := Nat × Nat × (Nat → Nat) × (Nat → Nat) × (Nat → Bool) × Nat
abbrev nWk (n : KN) : Nat := n.1
abbrev nMo (n : KN) : Nat := n.2.1
abbrev nBa (n : KN) : Nat → Nat := n.2.2.1
abbrev nWe (n : KN) : Nat → Nat := n.2.2.2.1
abbrev nMu (n : KN) : Nat → Bool := n.2.2.2.2.1
abbrev nKe (n : KN) : Nat := n.2.2.2.2.2
def kE (L : LkS) (n : KN) : Nat → Nat → Nat → Bool := kcFo L (nWk n) (nBa n) (nWe n) (nMu n) 0
def kNum (L : LkS) (dy : Nat) (n : KN) : Nat := kcC (kE L n) dy 0 (nMo n)
def kLast (L : LkS) (dy : Nat) (n : KN) (x : Nat) : Nat := kcM (kE L n) dy (nMo n) x (dy - 1)
/-- the week of a number goes by -/
def kPass (L : LkS) (dy : Nat) (n : KN) (x : Nat) : KN := (nWk n + 1, kLast L dy n x, nBa n, nWe n, nMu n, nKe n + 1)
def kKeep (L : LkS) (dy : Nat) (n : KN) (g : KLg) (x : Nat) : KLg := updG g (nKe n) (nWk n, kNum L dy n, kLast L dy n x)
/-! the calls -/
def kIn (d : Int32) (n : Nat) : Prop := ∃ k : Nat, k < n ∧ d = nI k
theorem kIn_neg {d : Int32} {n : Nat} (h : d < 0) (hn : n ≤ 2147483647) : ¬ kIn d n := fun ⟨k, hk, e⟩ => by
  rw [e] at h
  exact nI_pos (show k < 2147483648 by omega) h
theorem kIn_ge {k n : Nat} (h : n ≤ k) (hk : k < 2147483648) : ¬ kIn (nI k) n := fun ⟨j, hj, e⟩ => by
  have := (neq k j hk (by omega)).mp e
  omega
/-! what calls answer -/
def dayV (Ba We : Nat → Nat) (U : Nat → Bool) (k : Nat) (w : Int32) : Int32 := if w = 0 then nI (Ba k) else if w = 1 then nI (We k) else if w = 2 then (if U k = true then 1 else 0) else -1
def dayR (dy : Nat) (Ba We : Nat → Nat) (U : Nat → Bool) (d w r : Int32) : Prop := (¬ kIn d dy ∧ r = -1) ∨ ∃ k, k < dy ∧ d = nI k ∧ r = dayV Ba We U k w
theorem dayR_eq {dy : Nat} {Ba We : Nat → Nat} {U : Nat → Bool} {d w r q : Int32} (h9 : dy ≤ 9) (h1 : dayR dy Ba We U d w r) (h2 : dayR dy Ba We U d w q) : r = q := by
  rcases h1 with ⟨a, b⟩ | ⟨k, a, b, e⟩ <;> rcases h2 with ⟨a', b'⟩ | ⟨k', a', b', e'⟩
  · rw [b, b']
  · exact absurd ⟨k', a', b'⟩ a
  · exact absurd ⟨k, a, b⟩ a'
  · have h3 := (neq k k' (by omega) (by omega)).mp (b.symm.trans b')
    subst h3
    rw [e, e']
def toldR (L : LkS) (dy wn : Nat) (Ba We : Nat → Nat) (U : Nat → Bool) (d o r : Int32) : Prop := ((∀ k j, k < dy → d = nI k → j < 10 → o = nI j → U k = true) ∧ r = -1) ∨ ∃ k j, k < dy ∧ d = nI k ∧ j < 10 ∧ o = nI j ∧ ¬ U k = true ∧ r = nI (kcSaid L wn (Ba k) (We k) k j)
theorem toldR_eq {L : LkS} {dy wn : Nat} {Ba We : Nat → Nat} {U : Nat → Bool} {d o r q : Int32} (h9 : dy ≤ 9) (h1 : toldR L dy wn Ba We U d o r) (h2 : toldR L dy wn Ba We U d o q) : r = q := by
  rcases h1 with ⟨a, b⟩ | ⟨k, j, a1, a2, a3, a4, a5, a6⟩ <;> rcases h2 with ⟨a', b'⟩ | ⟨k', j', c1, c2, c3, c4, c5, c6⟩
  · rw [b, b']
  · exact absurd (a k' j' c1 c2 c3 c4) c5
  · exact absurd (a' k j a1 a2 a3 a4) a5
  · have h3 := (neq k k' (by omega) (by omega)).mp (a2.symm.trans c2)
    have h4 := (neq j j' (by omega) (by omega)).mp (a4.symm.trans c4)
    subst h3 h4
    rw [a6, c6]
def weeksR (dy n : Nat) (r : Int64) : Prop := (dy = 0 ∧ r = -1000000000000000) ∨ (1 ≤ dy ∧ r = Int64.ofNat n)
theorem weeksR_eq {dy n : Nat} {r q : Int64} (h1 : weeksR dy n r) (h2 : weeksR dy n q) : r = q := by
  rcases h1 with ⟨a, b⟩ | ⟨a, b⟩ <;> rcases h2 with ⟨c, d⟩ | ⟨c, d⟩
  · rw [b, d]
  · omega
  · omega
  · rw [b, d]
def moodR (E : Nat → Nat → Nat → Bool) (dy mo : Nat) (k d r : Int32) : Prop := ((∀ j x, j < dy → d = nI j → x < kcC E dy 0 mo → ¬ k = nI x) ∧ r = -1) ∨ ∃ j x, j < dy ∧ d = nI j ∧ x < kcC E dy 0 mo ∧ k = nI x ∧ r = nI (kcM E dy mo x j)
theorem moodR_eq {E : Nat → Nat → Nat → Bool} {dy mo : Nat} {k d r q : Int32} (h9 : dy ≤ 9) (h1 : moodR E dy mo k d r) (h2 : moodR E dy mo k d q) : r = q := by
  have hc := kcC_9 E h9 0 mo
  rcases h1 with ⟨a, b⟩ | ⟨j, x, a1, a2, a3, a4, a5⟩ <;> rcases h2 with ⟨a', b'⟩ | ⟨j', x', c1, c2, c3, c4, c5⟩
  · rw [b, b']
  · exact absurd c4 (a j' x' c1 c2 c3)
  · exact absurd a4 (a' j x a1 a2 a3)
  · have h3 := (neq j j' (by omega) (by omega)).mp (a2.symm.trans c2)
    have h4 := (neq x x' (by omega) (by omega)).mp (a4.symm.trans c4)
    subst h3 h4
    rw [a5, c5]
def statR (rf : Nat → Int32) (w r : Int32) : Prop := (¬ kIn w 6 ∧ r = -1) ∨ ∃ k, k < 6 ∧ w = nI k ∧ r = rf k
theorem statR_eq {rf : Nat → Int32} {w r q : Int32} (h1 : statR rf w r) (h2 : statR rf w q) : r = q := by
  rcases h1 with ⟨a, b⟩ | ⟨k, a, b, e⟩ <;> rcases h2 with ⟨a', b'⟩ | ⟨k', a', b', e'⟩
  · rw [b, b']
  · exact absurd ⟨k', a', b'⟩ a
  · exact absurd ⟨k, a, b⟩ a'
  · have h3 := (neq k k' (by omega) (by omega)).mp (b.symm.trans b')
    subst h3
    rw [e, e']
/-! what a lock's numbers can be -/
def kcL9 (L : LkS) : Prop := 2 ≤ lD L ∧ lD L ≤ 9 ∧ lM L ≤ 9 ∧ (∀ j, lB L j ≤ 9) ∧ (∀ j, lW L j ≤ 9) ∧ (∀ j, lU L j = true → j < lD L) ∧ lRn L ≤ 100
theorem kl9_amt {tb : Nat → Nat} {n d : Nat} {c : Cur} {x : (Nat × Nat) × Cur} (h : amtP tb n d c = .ok x) : x.1.1 ≤ d - 1 ∧ x.1.2 ≤ 9 := by
  obtain ⟨y, h1, h2⟩ := bindR_ok (show bindR (numP tb n 0 (d - 1) (nx tb n c.1)) (fun x => bindR (numP tb n 0 9 x.2) (fun y => .ok ((x.1, y.1), y.2))) = .ok x from h)
  obtain ⟨z, h3, h4⟩ := bindR_ok h2
  cases h4
  exact ⟨(numP_val h1).2, (numP_val h3).2⟩
theorem kl9_sum {tb : Nat → Nat} {n : Nat} {L : LkS} {w kind : Nat} {c : Cur} {r : LkS × Cur} (hL : kcL9 L) (h : sumL tb n L w kind c = .ok r) : kcL9 r.1 := by
  unfold sumL at h
  split at h
  · cases h
  · obtain ⟨a, h1, h2⟩ := bindR_ok h
    cases h2
    exact hL
theorem kl9_body {tb : Nat → Nat} {n : Nat} {L : LkS} {c : Cur} {r : LkS × Cur} (hL : kcL9 L) (h : bodyP tb n L c = .ok r) : kcL9 r.1 := by
  obtain ⟨k1, k2, k3, k4, k5, k6, k7⟩ := id hL
  unfold bodyP at h
  split at h
  · obtain ⟨x, h1, h2⟩ := bindR_ok h
    cases h2
    exact ⟨k1, k2, k3, updG_le k4 (kl9_amt h1).2, k5, k6, k7⟩
  · split at h
    · obtain ⟨x, h1, h2⟩ := bindR_ok h
      cases h2
      exact ⟨k1, k2, k3, k4, updG_le k5 (kl9_amt h1).2, k6, k7⟩
    · split at h
      · obtain ⟨x, h1, h2⟩ := bindR_ok h
        have hx := (numP_val h1).2
        have h3 : (if lU L x.1 = true then (.error (2, (nx tb n c.1).1) : LkR) else .ok (stU L x.1, x.2)) = .ok r := h2
        split at h3
        · cases h3
        · cases h3
          refine ⟨k1, k2, k3, k4, k5, fun j hj => ?_, k7⟩
          have hj2 : updG (lU L) x.1 true j = true := hj
          unfold updG at hj2
          show j < lD L
          by_cases e : j = x.1
          · omega
          · rw [if_neg e] at hj2; exact k6 j hj2
      · split at h
        · exact kl9_sum hL h
        · split at h
          · exact kl9_sum hL h
          · split at h
            · exact kl9_sum hL h
            · split at h
              · obtain ⟨x, h1, h2⟩ := bindR_ok h
                cases h2
                exact ⟨k1, k2, k3, k4, k5, k6, (numP_val h1).2⟩
              · cases h
theorem kl9_stm {tb : Nat → Nat} {n : Nat} {q r : LkS × Cur} (hL : kcL9 q.1) (h : stmP tb n q = .ok r) : kcL9 r.1 := by
  obtain ⟨x, h1, h2⟩ := bindR_ok (show bindR (bodyP tb n q.1 q.2) (fun r => bindR (signP tb n 59 r.2) (fun c => .ok (r.1, c))) = .ok r from h)
  obtain ⟨y, h3, h4⟩ := bindR_ok h2
  cases h4
  exact kl9_body (r := x) hL h1
theorem kl9_stP {tb : Nat → Nat} {n : Nat} : ∀ f q r, stP tb n f q = .ok r → kcL9 q.1 → kcL9 r.1
  | 0, q, r, h, hL => by
    have h1 : (if n ≤ q.2.1 then (.ok (q.1, 60) : Except Err (LkS × Nat)) else .error (5, q.2.1)) = .ok r := h
    split at h1
    · cases h1; exact hL
    · cases h1
  | f + 1, q, r, h, hL => by
    have h1 : (if n ≤ q.2.1 then (.ok (q.1, 60 - (f + 1)) : Except Err (LkS × Nat)) else bindR (stmP tb n q) (stP tb n f)) = .ok r := h
    split at h1
    · cases h1; exact hL
    · obtain ⟨x, h2, h3⟩ := bindR_ok h1
      exact kl9_stP f x r h3 (kl9_stm hL h2)
theorem kl9_open {tb : Nat → Nat} {n : Nat} {c : Cur} {r : LkS × Cur} (h : openP tb n c = .ok r) : kcL9 r.1 := by
  unfold openP at h
  obtain ⟨c1, h1, h2⟩ := bindR_ok h
  obtain ⟨d, h3, h4⟩ := bindR_ok h2
  obtain ⟨c2, h5, h6⟩ := bindR_ok h4
  obtain ⟨m, h7, h8⟩ := bindR_ok h6
  obtain ⟨c3, h9, h10⟩ := bindR_ok h8
  cases h10
  exact ⟨(numP_val h3).1, (numP_val h3).2, (numP_val h7).2, fun _ => Nat.zero_le _, fun _ => Nat.zero_le _, fun j hj => Bool.noConfusion (show false = true from hj), Nat.zero_le _⟩
theorem kl9_lock {tb : Nat → Nat} {n : Nat} {r : LkS × Nat} (h : lockP tb n = .ok r) : kcL9 r.1 := by
  obtain ⟨x, h1, h2⟩ := bindR_ok (show bindR (openP tb n (sk tb n 0, false)) (stP tb n 59) = .ok r from h)
  exact kl9_stP 59 x r h2 (kl9_open h1)
/-! one answer, one state behind it -/
def kR {α : Type} (C : α → Prop) (P0 : Prop) (P : α → Prop) : Prop := ((∀ x, ¬ C x) ∧ P0) ∨ ∃ x, C x ∧ P x
theorem kR_eq {α : Type} {C : α → Prop} {P0 Q0 R : Prop} {P Q : α → Prop} (h1 : kR C P0 P) (h2 : kR C Q0 Q) (hC : ∀ x y, C x → C y → x = y) (h0 : P0 → Q0 → R) (hp : ∀ x, P x → Q x → R) : R := by
  rcases h1 with ⟨a, b⟩ | ⟨x, a, b⟩ <;> rcases h2 with ⟨c, d⟩ | ⟨y, c, d⟩
  · exact h0 b d
  · exact absurd c (a y)
  · exact absurd a (c x)
  · obtain rfl := hC x y a c; exact hp x b d
theorem kR_1 {α : Type} {C : α → Prop} {P0 : Prop} {P : α → Prop} (x : α) (h : C x) (hp : P x) : kR C P0 P := Or.inr ⟨x, h, hp⟩
theorem kR_0 {α : Type} {C : α → Prop} {P0 : Prop} {P : α → Prop} (h : ∀ x, ¬ C x) (hp : P0) : kR C P0 P := Or.inl ⟨h, hp⟩
def kB (c P Q : Prop) : Prop := (c ∧ P) ∨ (¬ c ∧ Q)
theorem kB_eq {c P Q P2 Q2 R : Prop} (h1 : kB c P Q) (h2 : kB c P2 Q2) (hp : P → P2 → R) (hq : Q → Q2 → R) : R := by
  rcases h1 with ⟨a, b⟩ | ⟨a, b⟩ <;> rcases h2 with ⟨e, d⟩ | ⟨e, d⟩
  · exact hp b d
  · exact absurd a e
  · exact absurd e a
  · exact hq b d
theorem kB_1 {c P Q : Prop} (h : c) (hp : P) : kB c P Q := Or.inl ⟨h, hp⟩
theorem kB_0 {c P Q : Prop} (h : ¬ c) (hp : Q) : kB c P Q := Or.inr ⟨h, hp⟩
theorem kIe {a b : Nat} {x : Int32} (h1 : x = nI a) (h2 : x = nI b) (ha : a < 2147483648) (hb : b < 2147483648) : a = b := (neq a b ha hb).mp (h1.symm.trans h2)
/-! has, kept -/
def kSum (U : Nat → Bool) (n : Nat) : Nat := kcS (fun d => if U d = true then 1 else 0) n
def hasV (dy wn mo : Nat) (U : Nat → Bool) (ke hn ac : Nat) (w : Int32) : Int32 := if w = 0 then nI dy else if w = 1 then nI wn else if w = 2 then nI mo else if w = 3 then nI (kSum U 9) else if w = 4 then nI (min ke 30) else if w = 5 then nI hn else if w = 6 then nI ac else -1
def keptX (lg : KLg) (ke j v : Nat) : Nat := if v = 0 then (lg (ke - min ke 30 + j)).1 else if v = 1 then (lg (ke - min ke 30 + j)).2.1 else (lg (ke - min ke 30 + j)).2.2
def keptR (lg : KLg) (ke : Nat) (k w : Int32) (r : Int64) : Prop := kR (fun x : Nat × Nat => x.1 < min ke 30 ∧ k = nI x.1 ∧ x.2 < 3 ∧ w = nI x.2) (r = -1000000000000000) (fun x => r = Int64.ofNat (keptX lg ke x.1 x.2))
theorem keptR_eq {lg : KLg} {ke : Nat} {k w : Int32} {r q : Int64} (h1 : keptR lg ke k w r) (h2 : keptR lg ke k w q) : r = q :=
  kR_eq h1 h2 (fun x y a b => Prod.ext (kIe a.2.1 b.2.1 (by omega) (by omega)) (kIe a.2.2.2 b.2.2.2 (by omega) (by omega))) (fun a b => a.trans b.symm) (fun _ a b => a.trans b.symm)
/-! what can be, of a state -/
def nOk (dy : Nat) (n : KN) : Prop := nWk n ≤ 999 ∧ nMo n ≤ 9 ∧ (∀ j, nBa n j ≤ 9) ∧ (∀ j, nWe n j ≤ 9) ∧ (∀ j, nMu n j = true → j < dy) ∧ nKe n ≤ nWk n
def sOk (dy : Nat) (n : KN) (ac : Nat) (su : Nat → KN) : Prop := nOk dy n ∧ ac ≤ 20 ∧ (∀ j, j < ac → nOk dy (su j)) ∧ (∀ i j, i ≤ j → j < ac → nKe (su i) ≤ nKe (su j)) ∧ ∀ j, j < ac → nKe (su j) ≤ nKe n
theorem sOk_push {dy ac : Nat} {n n2 : KN} {su : Nat → KN} (h : sOk dy n ac su) (h2 : nOk dy n2) (hk : nKe n ≤ nKe n2) : sOk dy n2 (min (ac + 1) 20) (psh ac su n) := by
  obtain ⟨a1, a2, a3, a4, a5⟩ := h
  unfold psh
  by_cases q : ac < 20
  · rw [if_pos q]
    refine ⟨h2, by omega, fun j hj => ?_, fun i j hi hj => ?_, fun j hj => ?_⟩
    · unfold updG
      by_cases e : j = ac
      · rw [if_pos e]; exact a1
      · rw [if_neg e]; exact a3 j (by omega)
    · unfold updG
      by_cases e : j = ac
      · rw [if_pos e]
        by_cases e2 : i = ac
        · rw [if_pos e2]; exact Nat.le_refl _
        · rw [if_neg e2]; exact a5 i (by omega)
      · rw [if_neg e, if_neg (show ¬ i = ac by omega)]; exact a4 i j hi (by omega)
    · unfold updG
      by_cases e : j = ac
      · rw [if_pos e]; exact hk
      · rw [if_neg e]; exact Nat.le_trans (a5 j (by omega)) hk
  · rw [if_neg q]
    refine ⟨h2, by omega, fun j hj => ?_, fun i j hi hj => ?_, fun j hj => ?_⟩
    · unfold updG
      by_cases e : j = 19
      · rw [if_pos e]; exact a1
      · rw [if_neg e]; unfold rotG; rw [if_pos (by omega)]; exact a3 (j + 1) (by omega)
    · unfold updG
      by_cases e : j = 19
      · rw [if_pos e]
        by_cases e2 : i = 19
        · rw [if_pos e2]; exact Nat.le_refl _
        · rw [if_neg e2]; unfold rotG; rw [if_pos (by omega)]; exact a5 (i + 1) (by omega)
      · rw [if_neg e, if_neg (show ¬ i = 19 by omega)]
        unfold rotG
        rw [if_pos (show i < 19 by omega), if_pos (show j < 19 by omega)]
        exact a4 (i + 1) (j + 1) (by omega) (by omega)
    · unfold updG
      by_cases e : j = 19
      · rw [if_pos e]; exact hk
      · rw [if_neg e]; unfold rotG; rw [if_pos (by omega)]; exact Nat.le_trans (a5 (j + 1) (by omega)) hk
theorem sOk_pop {dy ac : Nat} {n : KN} {su : Nat → KN} (h : sOk dy n ac su) (hc : 1 ≤ ac) : sOk dy (su (ac - 1)) (ac - 1) su :=
  ⟨h.2.2.1 _ (by omega), by have := h.2.1; omega, fun j hj => h.2.2.1 j (by omega), fun i j hi hj => h.2.2.2.1 i j hi (by omega), fun j hj => h.2.2.2.1 j (ac - 1) (by omega) (by omega)⟩
theorem sOk_none {dy : Nat} {n : KN} {su : Nat → KN} (h : nOk dy n) : sOk dy n 0 su := ⟨h, by omega, fun j hj => absurd hj (Nat.not_lt_zero j), fun i j _ hj => absurd hj (Nat.not_lt_zero j), fun j hj => absurd hj (Nat.not_lt_zero j)⟩
def lgOk (lg : KLg) : Prop := ∀ k, (lg k).1 ≤ 999 ∧ (lg k).2.1 ≤ 1000000000 ∧ (lg k).2.2 ≤ 9
theorem lgOk_up {lg : KLg} {k a b c : Nat} (h : lgOk lg) (h1 : a ≤ 999) (h2 : b ≤ 1000000000) (h3 : c ≤ 9) : lgOk (updG lg k (a, b, c)) := fun j => by
  unfold updG
  by_cases e : j = k
  · rw [if_pos e]; exact ⟨h1, h2, h3⟩
  · rw [if_neg e]; exact h j
def kOk (L : LkS) (dy : Nat) (n : KN) (lg : KLg) (ac : Nat) (su : Nat → KN) (hn : Nat) (hR : Nat → Nat) (sd : Nat) : Prop :=
  kcLk L ∧ (lK L).length ≤ 1600 ∧ dy ≤ 9 ∧ (1 ≤ dy → kcL9 L ∧ dy = lD L) ∧ sOk dy n ac su ∧ lgOk lg ∧ hn ≤ 16 ∧ (∀ j, j < hn → hR j < 10 * dy) ∧ sd < 2147483648
/-! acts: set, mute -/
def actP (n : KN) (ac : Nat) (su : Nat → KN) (rf : Nat → Int32) (n2 m2 : KN) (ac2 : Nat) (su2 : Nat → KN) (rf2 : Nat → Int32) : Prop := n2 = m2 ∧ ac2 = min (ac + 1) 20 ∧ su2 = psh ac su n ∧ rf2 = rf
def actN (n : KN) (ac : Nat) (su : Nat → KN) (rf : Nat → Int32) (w : Nat) (n2 : KN) (ac2 : Nat) (su2 : Nat → KN) (rf2 : Nat → Int32) : Prop := n2 = n ∧ ac2 = ac ∧ su2 = su ∧ rf2 = upd rf w (rf w + 1)
def setR (dy : Nat) (n : KN) (ac : Nat) (su : Nat → KN) (rf : Nat → Int32) (d w o r : Int32) (n2 : KN) (ac2 : Nat) (su2 : Nat → KN) (rf2 : Nat → Int32) : Prop :=
  kR (fun x : Nat × Nat => x.1 < dy ∧ d = nI x.1 ∧ x.2 < 10 ∧ o = nI x.2 ∧ ((w = 0 ∧ ¬ nBa n x.1 = x.2) ∨ (w = 1 ∧ ¬ nWe n x.1 = x.2)))
    (r = 0 ∧ actN n ac su rf 2 n2 ac2 su2 rf2)
    (fun x => r = 1 ∧ actP n ac su rf n2 (nWk n, nMo n, if w = 0 then updG (nBa n) x.1 x.2 else nBa n, if w = 0 then nWe n else updG (nWe n) x.1 x.2, nMu n, nKe n) ac2 su2 rf2)
def act5 (r q : Int32) (n2 n3 : KN) (ac2 ac3 : Nat) (su2 su3 : Nat → KN) (rf2 rf3 : Nat → Int32) : Prop := r = q ∧ n2 = n3 ∧ ac2 = ac3 ∧ su2 = su3 ∧ rf2 = rf3
theorem actP_5 {n : KN} {ac : Nat} {su : Nat → KN} {rf : Nat → Int32} {r q c : Int32} {n2 n3 m : KN} {ac2 ac3 : Nat} {su2 su3 : Nat → KN} {rf2 rf3 : Nat → Int32} (h1 : r = c ∧ actP n ac su rf n2 m ac2 su2 rf2) (h2 : q = c ∧ actP n ac su rf n3 m ac3 su3 rf3) : act5 r q n2 n3 ac2 ac3 su2 su3 rf2 rf3 := by
  obtain ⟨a, b1, b2, b3, b4⟩ := h1
  obtain ⟨e, c1, c2, c3, c4⟩ := h2
  exact ⟨a.trans e.symm, b1.trans c1.symm, b2.trans c2.symm, b3.trans c3.symm, b4.trans c4.symm⟩
theorem actN_5 {n : KN} {ac w : Nat} {su : Nat → KN} {rf : Nat → Int32} {r q c : Int32} {n2 n3 : KN} {ac2 ac3 : Nat} {su2 su3 : Nat → KN} {rf2 rf3 : Nat → Int32} (h1 : r = c ∧ actN n ac su rf w n2 ac2 su2 rf2) (h2 : q = c ∧ actN n ac su rf w n3 ac3 su3 rf3) : act5 r q n2 n3 ac2 ac3 su2 su3 rf2 rf3 := by
  obtain ⟨a, b1, b2, b3, b4⟩ := h1
  obtain ⟨e, c1, c2, c3, c4⟩ := h2
  exact ⟨a.trans e.symm, b1.trans c1.symm, b2.trans c2.symm, b3.trans c3.symm, b4.trans c4.symm⟩
theorem setR_eq {dy : Nat} {n : KN} {ac : Nat} {su : Nat → KN} {rf : Nat → Int32} {d w o r q : Int32} {n2 n3 : KN} {ac2 ac3 : Nat} {su2 su3 : Nat → KN} {rf2 rf3 : Nat → Int32} (h9 : dy ≤ 9) (h1 : setR dy n ac su rf d w o r n2 ac2 su2 rf2) (h2 : setR dy n ac su rf d w o q n3 ac3 su3 rf3) : act5 r q n2 n3 ac2 ac3 su2 su3 rf2 rf3 :=
  kR_eq h1 h2 (fun x y a b => Prod.ext (kIe a.2.1 b.2.1 (by omega) (by omega)) (kIe a.2.2.2.1 b.2.2.2.1 (by omega) (by omega))) (fun a b => actN_5 a b) (fun _ a b => actP_5 a b)
theorem updG_t {U : Nat → Bool} {k dy : Nat} {b : Bool} (h : ∀ j, U j = true → j < dy) (hk : k < dy) : ∀ j, updG U k b j = true → j < dy := fun j hj => by
  unfold updG at hj
  by_cases e : j = k
  · omega
  · rw [if_neg e] at hj; exact h j hj
theorem setR_ok {dy : Nat} {n : KN} {ac : Nat} {su : Nat → KN} {rf : Nat → Int32} {d w o r : Int32} {n2 : KN} {ac2 : Nat} {su2 : Nat → KN} {rf2 : Nat → Int32} (h : setR dy n ac su rf d w o r n2 ac2 su2 rf2) (hk : sOk dy n ac su) : sOk dy n2 ac2 su2 ∧ nKe n2 = nKe n := by
  rcases h with ⟨-, -, rfl, rfl, rfl, -⟩ | ⟨x, hx, -, rfl, rfl, rfl, -⟩
  · exact ⟨hk, rfl⟩
  · obtain ⟨b1, b2, b3, b4, b5, b6⟩ := hk.1
    refine ⟨sOk_push hk ⟨b1, b2, ?_, ?_, b5, b6⟩ (Nat.le_refl _), rfl⟩
    · show ∀ j, (if w = 0 then updG (nBa n) x.1 x.2 else nBa n) j ≤ 9
      split
      · exact updG_le b3 (by omega)
      · exact b3
    · show ∀ j, (if w = 0 then nWe n else updG (nWe n) x.1 x.2) j ≤ 9
      split
      · exact b4
      · exact updG_le b4 (by omega)
def muteR (dy : Nat) (n : KN) (ac : Nat) (su : Nat → KN) (rf : Nat → Int32) (d w r : Int32) (n2 : KN) (ac2 : Nat) (su2 : Nat → KN) (rf2 : Nat → Int32) : Prop :=
  kR (fun x : Nat => x < dy ∧ d = nI x ∧ ((w = 1 ∧ ¬ nMu n x = true) ∨ (w = 0 ∧ nMu n x = true)))
    (r = 0 ∧ actN n ac su rf 2 n2 ac2 su2 rf2)
    (fun x => r = 1 ∧ actP n ac su rf n2 (nWk n, nMo n, nBa n, nWe n, updG (nMu n) x (!nMu n x), nKe n) ac2 su2 rf2)
theorem muteR_eq {dy : Nat} {n : KN} {ac : Nat} {su : Nat → KN} {rf : Nat → Int32} {d w r q : Int32} {n2 n3 : KN} {ac2 ac3 : Nat} {su2 su3 : Nat → KN} {rf2 rf3 : Nat → Int32} (h9 : dy ≤ 9) (h1 : muteR dy n ac su rf d w r n2 ac2 su2 rf2) (h2 : muteR dy n ac su rf d w q n3 ac3 su3 rf3) : act5 r q n2 n3 ac2 ac3 su2 su3 rf2 rf3 :=
  kR_eq h1 h2 (fun x y a b => kIe a.2.1 b.2.1 (by omega) (by omega)) (fun a b => actN_5 a b) (fun _ a b => actP_5 a b)
theorem muteR_ok {dy : Nat} {n : KN} {ac : Nat} {su : Nat → KN} {rf : Nat → Int32} {d w r : Int32} {n2 : KN} {ac2 : Nat} {su2 : Nat → KN} {rf2 : Nat → Int32} (h : muteR dy n ac su rf d w r n2 ac2 su2 rf2) (hk : sOk dy n ac su) : sOk dy n2 ac2 su2 ∧ nKe n2 = nKe n := by
  rcases h with ⟨-, -, rfl, rfl, rfl, -⟩ | ⟨x, hx, -, rfl, rfl, rfl, -⟩
  · exact ⟨hk, rfl⟩
  · obtain ⟨b1, b2, b3, b4, b5, b6⟩ := hk.1
    exact ⟨sOk_push hk ⟨b1, b2, b3, b4, updG_t b5 hx.1, b6⟩ (Nat.le_refl _), rfl⟩
/-! weeks that go -/
theorem kLast_9 {L : LkS} {dy x : Nat} {n : KN} (hd : 1 ≤ dy) (hm : nMo n ≤ 9) (hx : x < kNum L dy n) : kLast L dy n x ≤ 9 := by
  have h1 := (kcA_ok (E := kE L n) (n := dy) (a0 := nMo n) (x := x) (by omega) hx (dy - 1 + 1) (by omega)).1
  have h2 : kLast L dy n x < 10 := h1
  omega
theorem nOk_pass {L : LkS} {dy x : Nat} {n : KN} (h : nOk dy n) (hd : 1 ≤ dy) (hw : nWk n < 999) (hx : x < kNum L dy n) : nOk dy (kPass L dy n x) := by
  obtain ⟨b1, b2, b3, b4, b5, b6⟩ := h
  exact ⟨by show nWk n + 1 ≤ 999; omega, kLast_9 hd b2 hx, b3, b4, b5, by show nKe n + 1 ≤ nWk n + 1; omega⟩
theorem lgOk_keep {L : LkS} {dy x : Nat} {n : KN} {lg : KLg} (h : nOk dy n) (hd : 1 ≤ dy) (h9 : dy ≤ 9) (hl : lgOk lg) (hx : x < kNum L dy n) : lgOk (kKeep L dy n lg x) := lgOk_up hl h.1 (kcC_9 _ h9 _ _) (kLast_9 hd h.2.1 hx)
def goR (L : LkS) (dy : Nat) (n : KN) (lg : KLg) (ac : Nat) (su : Nat → KN) (rf : Nat → Int32) (r : Int32) (n2 : KN) (lg2 : KLg) (ac2 : Nat) (su2 : Nat → KN) (rf2 : Nat → Int32) : Prop :=
  kB (1 ≤ dy ∧ nWk n < 999 ∧ 0 < kNum L dy n) (lg2 = kKeep L dy n lg 0 ∧ r = nI (kLast L dy n 0) ∧ actP n ac su rf n2 (kPass L dy n 0) ac2 su2 rf2) (lg2 = lg ∧ r = -1 ∧ actN n ac su rf 3 n2 ac2 su2 rf2)
theorem goR_eq {L : LkS} {dy : Nat} {n : KN} {lg : KLg} {ac : Nat} {su : Nat → KN} {rf : Nat → Int32} {r q : Int32} {n2 n3 : KN} {lg2 lg3 : KLg} {ac2 ac3 : Nat} {su2 su3 : Nat → KN} {rf2 rf3 : Nat → Int32} (h1 : goR L dy n lg ac su rf r n2 lg2 ac2 su2 rf2) (h2 : goR L dy n lg ac su rf q n3 lg3 ac3 su3 rf3) : lg2 = lg3 ∧ act5 r q n2 n3 ac2 ac3 su2 su3 rf2 rf3 :=
  kB_eq h1 h2 (fun a b => ⟨a.1.trans b.1.symm, actP_5 a.2 b.2⟩) (fun a b => ⟨a.1.trans b.1.symm, actN_5 a.2 b.2⟩)
theorem goR_ok {L : LkS} {dy : Nat} {n : KN} {lg : KLg} {ac : Nat} {su : Nat → KN} {rf : Nat → Int32} {r : Int32} {n2 : KN} {lg2 : KLg} {ac2 : Nat} {su2 : Nat → KN} {rf2 : Nat → Int32} (h : goR L dy n lg ac su rf r n2 lg2 ac2 su2 rf2) (h9 : dy ≤ 9) (hk : sOk dy n ac su) (hl : lgOk lg) : sOk dy n2 ac2 su2 ∧ lgOk lg2 := by
  rcases h with ⟨⟨c1, c2, c3⟩, rfl, -, rfl, rfl, rfl, -⟩ | ⟨-, rfl, -, rfl, rfl, rfl, -⟩
  · exact ⟨sOk_push hk (nOk_pass hk.1 c1 c2 c3) (Nat.le_succ _), lgOk_keep hk.1 c1 h9 hl c3⟩
  · exact ⟨hk, hl⟩
/-! weeks by the seed -/
abbrev KC := KN × KLg × Nat
def kchN (rn dy : Nat) (s : KC) : KN := (nWk s.1, nMo s.1, (kda rn (s.2.2, nBa s.1, nWe s.1) dy).2.1, (kda rn (s.2.2, nBa s.1, nWe s.1) dy).2.2, nMu s.1, nKe s.1)
def kchS (rn dy : Nat) (s : KC) : Nat := (kda rn (s.2.2, nBa s.1, nWe s.1) dy).1
def kchX (L : LkS) (dy : Nat) (s : KC) : Nat := kdv (kchS (lRn L) dy s) (kNum L dy (kchN (lRn L) dy s))
/-- one week by the seed, if it goes -/
def kch1 (L : LkS) (dy : Nat) (s : KC) : KC := (kPass L dy (kchN (lRn L) dy s) (kchX L dy s), kKeep L dy (kchN (lRn L) dy s) s.2.1 (kchX L dy s), kdr (kchS (lRn L) dy s))
def kch0 (L : LkS) (dy : Nat) (s : KC) : KC := (kchN (lRn L) dy s, s.2.1, kchS (lRn L) dy s)
def kch (L : LkS) (dy : Nat) : Nat → KC → KC × Nat
  | 0, s => (s, 0)
  | f + 1, s => if kNum L dy (kchN (lRn L) dy s) = 0 then (kch0 L dy s, 0) else ((kch L dy f (kch1 L dy s)).1, (kch L dy f (kch1 L dy s)).2 + 1)
theorem kch_no {L : LkS} {dy f : Nat} {s : KC} (h : kNum L dy (kchN (lRn L) dy s) = 0) : kch L dy (f + 1) s = (kch0 L dy s, 0) := if_pos h
theorem kch_go {L : LkS} {dy f : Nat} {s : KC} (h : 0 < kNum L dy (kchN (lRn L) dy s)) : kch L dy (f + 1) s = ((kch L dy f (kch1 L dy s)).1, (kch L dy f (kch1 L dy s)).2 + 1) := if_neg (by omega)
theorem kds_9 {rn d : Nat} {s : KDs} (h1 : ∀ j, s.2.1 j ≤ 9) (h2 : ∀ j, s.2.2 j ≤ 9) (h3 : s.1 < 2147483648) : (∀ j, (kds rn d s).2.1 j ≤ 9) ∧ (∀ j, (kds rn d s).2.2 j ≤ 9) ∧ (kds rn d s).1 < 2147483648 := by
  unfold kds
  split
  · exact ⟨h1, updG_le h2 (Nat.min_le_right _ _), kdr_lt _⟩
  · exact ⟨updG_le h1 (by have := kdv_lt (x := kdr s.1) (m := 10) (by decide); omega), h2, kdr_lt _⟩
theorem kda_9 {rn : Nat} {s : KDs} (h1 : ∀ j, s.2.1 j ≤ 9) (h2 : ∀ j, s.2.2 j ≤ 9) (h3 : s.1 < 2147483648) : ∀ d, (∀ j, (kda rn s d).2.1 j ≤ 9) ∧ (∀ j, (kda rn s d).2.2 j ≤ 9) ∧ (kda rn s d).1 < 2147483648
  | 0 => ⟨h1, h2, h3⟩
  | d + 1 => by
    obtain ⟨a, b, c⟩ := kda_9 (rn := rn) h1 h2 h3 d
    exact kds_9 a b c
def kcOk (dy : Nat) (s : KC) : Prop := nOk dy s.1 ∧ lgOk s.2.1 ∧ s.2.2 < 2147483648
theorem kcOk_0 {L : LkS} {dy : Nat} {s : KC} (h : kcOk dy s) : kcOk dy (kch0 L dy s) ∧ nKe (kch0 L dy s).1 = nKe s.1 := by
  obtain ⟨⟨b1, b2, b3, b4, b5, b6⟩, h2, h3⟩ := h
  obtain ⟨c1, c2, c3⟩ := kda_9 (rn := lRn L) (s := (s.2.2, nBa s.1, nWe s.1)) b3 b4 h3 dy
  exact ⟨⟨⟨b1, b2, c1, c2, b5, b6⟩, h2, c3⟩, rfl⟩
theorem kcOk_1 {L : LkS} {dy : Nat} {s : KC} (h : kcOk dy s) (hd : 1 ≤ dy) (h9 : dy ≤ 9) (hw : nWk s.1 < 999) (hn : 0 < kNum L dy (kchN (lRn L) dy s)) : kcOk dy (kch1 L dy s) ∧ nKe s.1 ≤ nKe (kch1 L dy s).1 := by
  have h0 := (kcOk_0 (L := L) h).1
  have hx : kchX L dy s < kNum L dy (kchN (lRn L) dy s) := kdv_lt hn
  have h1 : nOk dy (kchN (lRn L) dy s) := h0.1
  exact ⟨⟨nOk_pass h1 hd hw hx, lgOk_keep h1 hd h9 h.2.1 hx, kdr_lt _⟩, Nat.le_succ _⟩
theorem kcOk_n {L : LkS} {dy : Nat} (hd : 1 ≤ dy) (h9 : dy ≤ 9) : ∀ f s, kcOk dy s → nWk s.1 + f ≤ 999 → kcOk dy (kch L dy f s).1 ∧ nKe s.1 ≤ nKe (kch L dy f s).1.1
  | 0, s, h, _ => ⟨h, Nat.le_refl _⟩
  | f + 1, s, h, hw => by
    by_cases q : kNum L dy (kchN (lRn L) dy s) = 0
    · rw [kch_no q]
      have h1 := kcOk_0 (L := L) h
      exact ⟨h1.1, Nat.le_of_eq h1.2.symm⟩
    · rw [kch_go (by omega)]
      have h1 := kcOk_1 (L := L) h hd h9 (by omega) (by omega)
      have h2 := kcOk_n (L := L) hd h9 f (kch1 L dy s) h1.1 (by show nWk s.1 + 1 + f ≤ 999; omega)
      exact ⟨h2.1, Nat.le_trans h1.2 h2.2⟩
def chanceR (L : LkS) (dy : Nat) (n : KN) (lg : KLg) (ac : Nat) (su : Nat → KN) (sd : Nat) (rf : Nat → Int32) (c r : Int32) (n2 : KN) (lg2 : KLg) (ac2 : Nat) (su2 : Nat → KN) (sd2 : Nat) (rf2 : Nat → Int32) : Prop :=
  kR (fun x : Nat => 1 ≤ dy ∧ 1 ≤ x ∧ x ≤ 30 ∧ c = nI x ∧ nWk n + x ≤ 999) ((lg2 = lg ∧ sd2 = sd) ∧ r = -1 ∧ actN n ac su rf 3 n2 ac2 su2 rf2)
    (fun x => (lg2 = (kch L dy x (n, lg, sd)).1.2.1 ∧ sd2 = (kch L dy x (n, lg, sd)).1.2.2) ∧ r = nI (kch L dy x (n, lg, sd)).2 ∧ actP n ac su rf n2 (kch L dy x (n, lg, sd)).1.1 ac2 su2 rf2)
theorem chanceR_eq {L : LkS} {dy : Nat} {n : KN} {lg : KLg} {ac : Nat} {su : Nat → KN} {sd : Nat} {rf : Nat → Int32} {c r q : Int32} {n2 n3 : KN} {lg2 lg3 : KLg} {ac2 ac3 : Nat} {su2 su3 : Nat → KN} {sd2 sd3 : Nat} {rf2 rf3 : Nat → Int32} (h1 : chanceR L dy n lg ac su sd rf c r n2 lg2 ac2 su2 sd2 rf2) (h2 : chanceR L dy n lg ac su sd rf c q n3 lg3 ac3 su3 sd3 rf3) : (lg2 = lg3 ∧ sd2 = sd3) ∧ act5 r q n2 n3 ac2 ac3 su2 su3 rf2 rf3 :=
  kR_eq h1 h2 (fun x y a b => kIe a.2.2.2.1 b.2.2.2.1 (by omega) (by omega)) (fun a b => ⟨⟨a.1.1.trans b.1.1.symm, a.1.2.trans b.1.2.symm⟩, actN_5 a.2 b.2⟩) (fun _ a b => ⟨⟨a.1.1.trans b.1.1.symm, a.1.2.trans b.1.2.symm⟩, actP_5 a.2 b.2⟩)
theorem chanceR_ok {L : LkS} {dy : Nat} {n : KN} {lg : KLg} {ac : Nat} {su : Nat → KN} {sd : Nat} {rf : Nat → Int32} {c r : Int32} {n2 : KN} {lg2 : KLg} {ac2 : Nat} {su2 : Nat → KN} {sd2 : Nat} {rf2 : Nat → Int32} (h : chanceR L dy n lg ac su sd rf c r n2 lg2 ac2 su2 sd2 rf2) (h9 : dy ≤ 9) (hk : sOk dy n ac su) (hl : lgOk lg) (hs : sd < 2147483648) : sOk dy n2 ac2 su2 ∧ lgOk lg2 ∧ sd2 < 2147483648 := by
  rcases h with ⟨-, ⟨rfl, rfl⟩, -, rfl, rfl, rfl, -⟩ | ⟨x, hx, ⟨rfl, rfl⟩, -, rfl, rfl, rfl, -⟩
  · exact ⟨hk, hl, hs⟩
  · have h1 := kcOk_n (L := L) hx.1 h9 x (n, lg, sd) ⟨hk.1, hl, hs⟩ hx.2.2.2.2
    exact ⟨sOk_push hk h1.1.1 h1.2, h1.1.2.1, h1.1.2.2⟩
/-! undone, the seed -/
def undoR (n : KN) (ac : Nat) (su : Nat → KN) (rf : Nat → Int32) (r : Int32) (n2 : KN) (ac2 : Nat) (rf2 : Nat → Int32) : Prop :=
  kB (1 ≤ ac) (r = 1 ∧ n2 = su (ac - 1) ∧ ac2 = ac - 1 ∧ rf2 = rf) (r = 0 ∧ n2 = n ∧ ac2 = ac ∧ rf2 = upd rf 4 (rf 4 + 1))
theorem undoR_eq {n : KN} {ac : Nat} {su : Nat → KN} {rf : Nat → Int32} {r q : Int32} {n2 n3 : KN} {ac2 ac3 : Nat} {rf2 rf3 : Nat → Int32} (h1 : undoR n ac su rf r n2 ac2 rf2) (h2 : undoR n ac su rf q n3 ac3 rf3) : r = q ∧ n2 = n3 ∧ ac2 = ac3 ∧ rf2 = rf3 :=
  kB_eq h1 h2 (fun a b => ⟨a.1.trans b.1.symm, a.2.1.trans b.2.1.symm, a.2.2.1.trans b.2.2.1.symm, a.2.2.2.trans b.2.2.2.symm⟩) (fun a b => ⟨a.1.trans b.1.symm, a.2.1.trans b.2.1.symm, a.2.2.1.trans b.2.2.1.symm, a.2.2.2.trans b.2.2.2.symm⟩)
theorem undoR_ok {dy : Nat} {n : KN} {ac : Nat} {su : Nat → KN} {rf : Nat → Int32} {r : Int32} {n2 : KN} {ac2 : Nat} {rf2 : Nat → Int32} (h : undoR n ac su rf r n2 ac2 rf2) (hk : sOk dy n ac su) : sOk dy n2 ac2 su := by
  rcases h with ⟨c, -, rfl, rfl, -⟩ | ⟨-, -, rfl, rfl, -⟩
  · exact sOk_pop hk c
  · exact hk
def seedR (sd : Nat) (rf : Nat → Int32) (s r : Int32) (sd2 : Nat) (rf2 : Nat → Int32) : Prop :=
  kR (fun x : Nat => x < 2147483648 ∧ s = nI x) (r = 0 ∧ sd2 = sd ∧ rf2 = upd rf 5 (rf 5 + 1)) (fun x => r = 1 ∧ sd2 = x ∧ rf2 = rf)
theorem seedR_eq {sd : Nat} {rf : Nat → Int32} {s r q : Int32} {sd2 sd3 : Nat} {rf2 rf3 : Nat → Int32} (h1 : seedR sd rf s r sd2 rf2) (h2 : seedR sd rf s q sd3 rf3) : r = q ∧ sd2 = sd3 ∧ rf2 = rf3 :=
  kR_eq h1 h2 (fun x y a b => kIe a.2 b.2 a.1 b.1) (fun a b => ⟨a.1.trans b.1.symm, a.2.1.trans b.2.1.symm, a.2.2.trans b.2.2.symm⟩) (fun _ a b => ⟨a.1.trans b.1.symm, a.2.1.trans b.2.1.symm, a.2.2.trans b.2.2.symm⟩)
theorem seedR_ok {sd : Nat} {rf : Nat → Int32} {s r : Int32} {sd2 : Nat} {rf2 : Nat → Int32} (h : seedR sd rf s r sd2 rf2) (hs : sd < 2147483648) : sd2 < 2147483648 := by
  rcases h with ⟨-, -, rfl, -⟩ | ⟨x, hx, -, rfl, -⟩
  · exact hs
  · exact hx.1
/-! what is heard -/
def hearC (dy : Nat) (U : Nat → Bool) (tb : Nat → Nat) (t : Nat) : Prop := 1 ≤ dy ∧ 2 ≤ t ∧ t ≤ 32 ∧ t % 2 = 0 ∧ ∀ i, 2 * i < t → tb (2 * i) < dy ∧ ¬ U (tb (2 * i)) = true ∧ tb (2 * i + 1) < 10
def hrR (tb : Nat → Nat) (i : Nat) : Nat := tb (2 * i) * 10 + tb (2 * i + 1)
def hearR (dy : Nat) (U : Nat → Bool) (tb : Nat → Nat) (t hn : Nat) (hR : Nat → Nat) (rf : Nat → Int32) (r : Int32) (hn2 : Nat) (hR2 : Nat → Nat) (rf2 : Nat → Int32) : Prop :=
  kB (hearC dy U tb t) (r = nI (t / 2) ∧ hn2 = t / 2 ∧ hR2 = hrR tb ∧ rf2 = rf) (r = -1 ∧ hn2 = hn ∧ hR2 = hR ∧ rf2 = upd rf 1 (rf 1 + 1))
theorem hearR_eq {dy : Nat} {U : Nat → Bool} {tb : Nat → Nat} {t hn : Nat} {hR : Nat → Nat} {rf : Nat → Int32} {r q : Int32} {hn2 hn3 : Nat} {hR2 hR3 : Nat → Nat} {rf2 rf3 : Nat → Int32} (h1 : hearR dy U tb t hn hR rf r hn2 hR2 rf2) (h2 : hearR dy U tb t hn hR rf q hn3 hR3 rf3) : r = q ∧ hn2 = hn3 ∧ hR2 = hR3 ∧ rf2 = rf3 :=
  kB_eq h1 h2 (fun a b => ⟨a.1.trans b.1.symm, a.2.1.trans b.2.1.symm, a.2.2.1.trans b.2.2.1.symm, a.2.2.2.trans b.2.2.2.symm⟩) (fun a b => ⟨a.1.trans b.1.symm, a.2.1.trans b.2.1.symm, a.2.2.1.trans b.2.2.1.symm, a.2.2.2.trans b.2.2.2.symm⟩)
theorem hearR_ok {dy : Nat} {U : Nat → Bool} {tb : Nat → Nat} {t hn : Nat} {hR : Nat → Nat} {rf : Nat → Int32} {r : Int32} {hn2 : Nat} {hR2 : Nat → Nat} {rf2 : Nat → Int32} (h : hearR dy U tb t hn hR rf r hn2 hR2 rf2) (h9 : dy ≤ 9) (h1 : hn ≤ 16) (h2 : ∀ j, j < hn → hR j < 10 * dy) : hn2 ≤ 16 ∧ ∀ j, j < hn2 → hR2 j < 10 * dy := by
  rcases h with ⟨⟨c1, c2, c3, c4, c5⟩, -, rfl, rfl, -⟩ | ⟨-, -, rfl, rfl, -⟩
  · refine ⟨by omega, fun j hj => ?_⟩
    have := c5 j (by omega)
    show tb (2 * j) * 10 + tb (2 * j + 1) < 10 * dy
    omega
  · exact ⟨h1, h2⟩
/-! the lock -/
def lkN (L : LkS) : KN := (0, lM L, lB L, lW L, lU L, 0)
def lockR (tb : Nat → Nat) (t : Nat) (L : LkS) (dy : Nat) (n : KN) (ac hn : Nat) (rf : Nat → Int32) (r : Int32) (L2 : LkS) (d2 : Nat) (n2 : KN) (ac2 hn2 : Nat) (rf2 : Nat → Int32) : Prop := match lockP tb t with
  | .ok x => r = nI x.2 ∧ L2 = x.1 ∧ d2 = lD x.1 ∧ n2 = lkN x.1 ∧ ac2 = 0 ∧ hn2 = 0 ∧ rf2 = rf
  | .error _ => r = -1 ∧ L2 = L ∧ d2 = dy ∧ n2 = n ∧ ac2 = ac ∧ hn2 = hn ∧ rf2 = upd rf 1 (rf 1 + 1)
theorem lockR_eq {tb : Nat → Nat} {t : Nat} {L : LkS} {dy : Nat} {n : KN} {ac hn : Nat} {rf : Nat → Int32} {r q : Int32} {L2 L3 : LkS} {d2 d3 : Nat} {n2 n3 : KN} {ac2 hn2 ac3 hn3 : Nat} {rf2 rf3 : Nat → Int32} (h1 : lockR tb t L dy n ac hn rf r L2 d2 n2 ac2 hn2 rf2) (h2 : lockR tb t L dy n ac hn rf q L3 d3 n3 ac3 hn3 rf3) : r = q ∧ L2 = L3 ∧ d2 = d3 ∧ n2 = n3 ∧ ac2 = ac3 ∧ hn2 = hn3 ∧ rf2 = rf3 := by
  unfold lockR at h1 h2
  cases hP : lockP tb t with
  | ok x =>
    rw [hP] at h1 h2
    obtain ⟨a1, a2, a3, a4, a5, a6, a7⟩ := h1
    obtain ⟨b1, b2, b3, b4, b5, b6, b7⟩ := h2
    exact ⟨a1.trans b1.symm, a2.trans b2.symm, a3.trans b3.symm, a4.trans b4.symm, a5.trans b5.symm, a6.trans b6.symm, a7.trans b7.symm⟩
  | error x =>
    rw [hP] at h1 h2
    obtain ⟨a1, a2, a3, a4, a5, a6, a7⟩ := h1
    obtain ⟨b1, b2, b3, b4, b5, b6, b7⟩ := h2
    exact ⟨a1.trans b1.symm, a2.trans b2.symm, a3.trans b3.symm, a4.trans b4.symm, a5.trans b5.symm, a6.trans b6.symm, a7.trans b7.symm⟩
theorem nOk_lock {L : LkS} (h : kcL9 L) : nOk (lD L) (lkN L) := ⟨Nat.zero_le _, h.2.2.1, h.2.2.2.1, h.2.2.2.2.1, h.2.2.2.2.2.1, Nat.le_refl _⟩
theorem dg_X11_isDay_0_0 : bqL cX11_isDay 0 [(0, [27]), (1, [155, 0, 18]), (19, [3]), (20, [172]), (4, [27]), (5, [42]), (6, [180, 0, 59]), (9, [180, 0, 144]), (12, [162, 0, 7]), (15, [4]), (16, [167, 0, 4])] = true := by decide +kernel
theorem dX11_isDay_0 : decode cX11_isDay 0 = .ok (.iload_n 1, 1) := q_iload_n1 (bat_get dg_X11_isDay_0_0 0 rfl rfl)
theorem dX11_isDay_1 : decode cX11_isDay 1 = .ok (.ifCond .lt 18, 3) := q_ifCond_lt (bat_get dg_X11_isDay_0_0 1 rfl rfl) rfl
theorem dX11_isDay_19 : decode cX11_isDay 19 = .ok (.iconst 0, 1) := q_iconst0 (bat_get dg_X11_isDay_0_0 2 rfl rfl)
theorem dX11_isDay_20 : decode cX11_isDay 20 = .ok (.ireturn, 1) := q_ireturn (bat_get dg_X11_isDay_0_0 3 rfl rfl)
theorem dX11_isDay_4 : decode cX11_isDay 4 = .ok (.iload_n 1, 1) := q_iload_n1 (bat_get dg_X11_isDay_0_0 4 rfl rfl)
theorem dX11_isDay_5 : decode cX11_isDay 5 = .ok (.aload_n 0, 1) := q_aload_n0 (bat_get dg_X11_isDay_0_0 5 rfl rfl)
theorem dX11_isDay_6 : decode cX11_isDay 6 = .ok (.getfield 59, 3) := q_getfield (bat_get dg_X11_isDay_0_0 6 rfl rfl) rfl
theorem dX11_isDay_9 : decode cX11_isDay 9 = .ok (.getfield 144, 3) := q_getfield (bat_get dg_X11_isDay_0_0 7 rfl rfl) rfl
theorem dX11_isDay_12 : decode cX11_isDay 12 = .ok (.if_icmp .ge 7, 3) := q_if_icmp_ge (bat_get dg_X11_isDay_0_0 8 rfl rfl) rfl
theorem dX11_isDay_15 : decode cX11_isDay 15 = .ok (.iconst 1, 1) := q_iconst1 (bat_get dg_X11_isDay_0_0 9 rfl rfl)
theorem dX11_isDay_16 : decode cX11_isDay 16 = .ok (.goto 4, 3) := q_goto (bat_get dg_X11_isDay_0_0 10 rfl rfl) rfl
theorem w_2_130 : (Cond.fieldLink RX11 59 "SameKeeper" "now" "LSameKeeper$State;") ∈ wsL_law := sk_mem (ck_2 _ (List.mem_of_getElem? (i := 130) rfl)) rfl
theorem w_2_1 : (Cond.fieldLink RX11 144 "SameKeeper$State" "days" "I") ∈ wsL_law := sk_mem (ck_2 _ (List.mem_of_getElem? (i := 1) rfl)) rfl
theorem w_3_193 : (Cond.code yX11_isDay cX11_isDay 2 (some .boolean)) ∈ wsL_law := sk_mem (ck_3 _ (List.mem_of_getElem? (i := 193) rfl)) rfl
set_option maxHeartbeats 4000000 in
set_option maxRecDepth 100000 in
theorem c_x_isDay (l : Launch) (D : va_G) (cI cJ cC cZ cS : ClassId) (x0 : Nat) (q : Nat → Nat) (hc : Int32) (dr : Int64) (dy : Nat) (mo : Nat) (wk : Int32) (mu : Int32) (ke : Int32) (fb : Nat → Int32) (fw : Nat → Int32) (d : Int32) (hdy : dy ≤ 9) : skM l yX11_isDay cX11_isDay 2 (some .boolean) 0 0 0 0 D (skT cI cJ cC cZ cS) [.ref x0, .int d] [ro_rrrrrrrrrrrrrrrirl x0 11 (q 0) (q 1) (q 2) (q 3) (q 4) (q 5) (q 6) (q 7) (q 8) (q 9) (q 10) (q 11) (q 12) (q 13) (q 14) hc (q 16) dr, ro_rrninii (q 7) 7 (q 33) (q 34) dy wk mo mu ke] (skI D (skT cI cJ cC cZ cS) (fun (r : Int32) (u : va_W) => ∃ (b : Nat), (b = 0 ∨ (b = 1 ∧ ∃ kq : Nat, kq < dy ∧ d = nI kq)) ∧ r = nI b ∧ u = [ro_rrrrrrrrrrrrrrrirl x0 11 (q 0) (q 1) (q 2) (q 3) (q 4) (q 5) (q 6) (q 7) (q 8) (q 9) (q 10) (q 11) (q 12) (q 13) (q 14) hc (q 16) dr, ro_rrninii (q 7) 7 (q 33) (q 34) dy wk mo mu ke])) := by
  refine skM_of pf_X11_isDay (Nat.le_of_ble_eq_true rfl) ?_
  intro p e s m below meth c A ls E hP hD hl
  refine skE_el E (fun hx hb hr hml hlocks hin hown hts hK hA => ?_)
  have hown : s.vm.findClass RX11 = some m.cls := hown
  have hS : va_S A s.heap s.heap [] := va_S.rf
  have hl : lv_has ls 2 [(0, .ref x0), (1, .int d)] := hl
  refine lv_iload_n hx hb dX11_isDay_0 rfl (lv_at hl 1 rfl) ?_
  refine lv_if_lt (tgt := 19) hx hb dX11_isDay_1 (by decide) (fun c_1 => ?_) (fun c_1 => ?_)
  · skip
    refine lv_iconst (v := 0) hx hb dX11_isDay_19 ic_0 ?_
    exact sk_iret hx hb hr rfl hlocks hK hP hD hS (⟨0, Or.inl rfl, rfl, rfl⟩) (Nat.le_of_ble_eq_true rfl) (Nat.le_of_ble_eq_true rfl) dX11_isDay_20
  · obtain ⟨k_2, hk_2, rfl⟩ := nof d c_1
    refine lv_iload_n hx hb dX11_isDay_4 rfl (lv_at hl 1 rfl) ?_
    refine lv_aload_n hx hb dX11_isDay_5 rfl (lv_at hl 0 rfl) ?_
    refine sk_get (v := .ref (q 7)) (C := RX11) (T := TX11) (N := 18) hx hb hts inlX11 hown hK hP 0 rfl rfl 7 (Nat.le_of_ble_eq_true rfl) w_2_130 rfl dX11_isDay_6 ?_
    refine sk_get (v := .int (nI dy)) (C := RX7) (T := TX7) (N := 7) hx hb hts inlX7 hown hK hP 1 rfl rfl 2 (Nat.le_of_ble_eq_true rfl) w_2_1 rfl dX11_isDay_9 ?_
    refine lv_icmp_ge (tgt := 19) hx hb dX11_isDay_12 (by decide) (fun c_3 => ?_) (fun c_3 => ?_)
    · have c_3 : dy ≤ k_2 := (nle dy k_2 (by omega) (by omega)).mp c_3
      refine lv_iconst (v := 0) hx hb dX11_isDay_19 ic_0 ?_
      exact sk_iret hx hb hr rfl hlocks hK hP hD hS (⟨0, Or.inl rfl, rfl, rfl⟩) (Nat.le_of_ble_eq_true rfl) (Nat.le_of_ble_eq_true rfl) dX11_isDay_20
    · have c_3 : ¬ (dy ≤ k_2) := fun h => c_3 ((nle dy k_2 (by omega) (by omega)).mpr h)
      refine lv_iconst (v := 1) hx hb dX11_isDay_15 ic_1 ?_
      refine lv_goto (tgt := 20) hx hb dX11_isDay_16 (by decide) ?_
      exact sk_iret hx hb hr rfl hlocks hK hP hD hS (⟨1, Or.inr ⟨rfl, k_2, by omega, rfl⟩, rfl, rfl⟩) (Nat.le_of_ble_eq_true rfl) (Nat.le_of_ble_eq_true rfl) dX11_isDay_20
theorem dg_X11_isDigit_0_0 : bqL cX11_isDigit 0 [(0, [26]), (1, [155, 0, 13]), (14, [3]), (15, [172]), (4, [26]), (5, [16, 10]), (7, [162, 0, 7]), (10, [4]), (11, [167, 0, 4])] = true := by decide +kernel
theorem dX11_isDigit_0 : decode cX11_isDigit 0 = .ok (.iload_n 0, 1) := q_iload_n0 (bat_get dg_X11_isDigit_0_0 0 rfl rfl)
theorem dX11_isDigit_1 : decode cX11_isDigit 1 = .ok (.ifCond .lt 13, 3) := q_ifCond_lt (bat_get dg_X11_isDigit_0_0 1 rfl rfl) rfl
theorem dX11_isDigit_14 : decode cX11_isDigit 14 = .ok (.iconst 0, 1) := q_iconst0 (bat_get dg_X11_isDigit_0_0 2 rfl rfl)
theorem dX11_isDigit_15 : decode cX11_isDigit 15 = .ok (.ireturn, 1) := q_ireturn (bat_get dg_X11_isDigit_0_0 3 rfl rfl)
theorem dX11_isDigit_4 : decode cX11_isDigit 4 = .ok (.iload_n 0, 1) := q_iload_n0 (bat_get dg_X11_isDigit_0_0 4 rfl rfl)
theorem dX11_isDigit_5 : decode cX11_isDigit 5 = .ok (.bipush 10, 2) := q_bipush (bat_get dg_X11_isDigit_0_0 5 rfl rfl) rfl
theorem dX11_isDigit_7 : decode cX11_isDigit 7 = .ok (.if_icmp .ge 7, 3) := q_if_icmp_ge (bat_get dg_X11_isDigit_0_0 6 rfl rfl) rfl
theorem dX11_isDigit_10 : decode cX11_isDigit 10 = .ok (.iconst 1, 1) := q_iconst1 (bat_get dg_X11_isDigit_0_0 7 rfl rfl)
theorem dX11_isDigit_11 : decode cX11_isDigit 11 = .ok (.goto 4, 3) := q_goto (bat_get dg_X11_isDigit_0_0 8 rfl rfl) rfl
theorem w_3_204 : (Cond.code yX11_isDigit cX11_isDigit 1 (some .boolean)) ∈ wsL_law := sk_mem (ck_3 _ (List.mem_of_getElem? (i := 204) rfl)) rfl
set_option maxHeartbeats 4000000 in
set_option maxRecDepth 100000 in
theorem c_x_isDigit (l : Launch) (D : va_G) (cI cJ cC cZ cS : ClassId) (d : Int32)  : skM l yX11_isDigit cX11_isDigit 1 (some .boolean) 0 0 0 0 D (skT cI cJ cC cZ cS) [.int d] [] (skI D (skT cI cJ cC cZ cS) (fun (r : Int32) (u : va_W) => ∃ (b : Nat), (b = 0 ∨ (b = 1 ∧ ∃ kq : Nat, kq < 10 ∧ d = nI kq)) ∧ r = nI b ∧ u = [])) := by
  refine skM_of pf_X11_isDigit (Nat.le_of_ble_eq_true rfl) ?_
  intro p e s m below meth c A ls E hP hD hl
  refine skE_el E (fun hx hb hr hml hlocks hin hown hts hK hA => ?_)
  have hown : s.vm.findClass RX11 = some m.cls := hown
  have hS : va_S A s.heap s.heap [] := va_S.rf
  have hl : lv_has ls 1 [(0, .int d)] := hl
  refine lv_iload_n hx hb dX11_isDigit_0 rfl (lv_at hl 0 rfl) ?_
  refine lv_if_lt (tgt := 14) hx hb dX11_isDigit_1 (by decide) (fun c_1 => ?_) (fun c_1 => ?_)
  · skip
    refine lv_iconst (v := 0) hx hb dX11_isDigit_14 ic_0 ?_
    exact sk_iret hx hb hr rfl hlocks hK hP hD hS (⟨0, Or.inl rfl, rfl, rfl⟩) (Nat.le_of_ble_eq_true rfl) (Nat.le_of_ble_eq_true rfl) dX11_isDigit_15
  · obtain ⟨k_2, hk_2, rfl⟩ := nof d c_1
    refine lv_iload_n hx hb dX11_isDigit_4 rfl (lv_at hl 0 rfl) ?_
    refine lv_bipush (v := 10) hx hb dX11_isDigit_5 (by decide) ?_
    refine lv_icmp_ge (tgt := 14) hx hb dX11_isDigit_7 (by decide) (fun c_3 => ?_) (fun c_3 => ?_)
    · have c_3 : 10 ≤ k_2 := (nle 10 k_2 (Nat.le_of_ble_eq_true rfl) (by omega)).mp c_3
      refine lv_iconst (v := 0) hx hb dX11_isDigit_14 ic_0 ?_
      exact sk_iret hx hb hr rfl hlocks hK hP hD hS (⟨0, Or.inl rfl, rfl, rfl⟩) (Nat.le_of_ble_eq_true rfl) (Nat.le_of_ble_eq_true rfl) dX11_isDigit_15
    · have c_3 : ¬ (10 ≤ k_2) := fun h => c_3 ((nle 10 k_2 (Nat.le_of_ble_eq_true rfl) (by omega)).mpr h)
      refine lv_iconst (v := 1) hx hb dX11_isDigit_10 ic_1 ?_
      refine lv_goto (tgt := 15) hx hb dX11_isDigit_11 (by decide) ?_
      exact sk_iret hx hb hr rfl hlocks hK hP hD hS (⟨1, Or.inr ⟨rfl, k_2, by omega, rfl⟩, rfl, rfl⟩) (Nat.le_of_ble_eq_true rfl) (Nat.le_of_ble_eq_true rfl) dX11_isDigit_15
theorem dg_X11_isWordOf_0_0 : bqL cX11_isWordOf 0 [(0, [42]), (1, [27]), (2, [182, 0, 170]), (5, [153, 0, 25]), (30, [3]), (31, [172]), (8, [42]), (9, [180, 0, 59]), (12, [27]), (13, [182, 0, 179]), (16, [154, 0, 14]), (19, [28]), (20, [184, 0, 182]), (23, [153, 0, 7]), (26, [4]), (27, [167, 0, 4])] = true := by decide +kernel
theorem dX11_isWordOf_0 : decode cX11_isWordOf 0 = .ok (.aload_n 0, 1) := q_aload_n0 (bat_get dg_X11_isWordOf_0_0 0 rfl rfl)
theorem dX11_isWordOf_1 : decode cX11_isWordOf 1 = .ok (.iload_n 1, 1) := q_iload_n1 (bat_get dg_X11_isWordOf_0_0 1 rfl rfl)
theorem dX11_isWordOf_2 : decode cX11_isWordOf 2 = .ok (.invokevirtual 170, 3) := q_invokevirtual (bat_get dg_X11_isWordOf_0_0 2 rfl rfl) rfl
theorem dX11_isWordOf_5 : decode cX11_isWordOf 5 = .ok (.ifCond .eq 25, 3) := q_ifCond_eq (bat_get dg_X11_isWordOf_0_0 3 rfl rfl) rfl
theorem dX11_isWordOf_30 : decode cX11_isWordOf 30 = .ok (.iconst 0, 1) := q_iconst0 (bat_get dg_X11_isWordOf_0_0 4 rfl rfl)
theorem dX11_isWordOf_31 : decode cX11_isWordOf 31 = .ok (.ireturn, 1) := q_ireturn (bat_get dg_X11_isWordOf_0_0 5 rfl rfl)
theorem dX11_isWordOf_8 : decode cX11_isWordOf 8 = .ok (.aload_n 0, 1) := q_aload_n0 (bat_get dg_X11_isWordOf_0_0 6 rfl rfl)
theorem dX11_isWordOf_9 : decode cX11_isWordOf 9 = .ok (.getfield 59, 3) := q_getfield (bat_get dg_X11_isWordOf_0_0 7 rfl rfl) rfl
theorem dX11_isWordOf_12 : decode cX11_isWordOf 12 = .ok (.iload_n 1, 1) := q_iload_n1 (bat_get dg_X11_isWordOf_0_0 8 rfl rfl)
theorem dX11_isWordOf_13 : decode cX11_isWordOf 13 = .ok (.invokevirtual 179, 3) := q_invokevirtual (bat_get dg_X11_isWordOf_0_0 9 rfl rfl) rfl
theorem dX11_isWordOf_16 : decode cX11_isWordOf 16 = .ok (.ifCond .ne 14, 3) := q_ifCond_ne (bat_get dg_X11_isWordOf_0_0 10 rfl rfl) rfl
theorem dX11_isWordOf_19 : decode cX11_isWordOf 19 = .ok (.iload_n 2, 1) := q_iload_n2 (bat_get dg_X11_isWordOf_0_0 11 rfl rfl)
theorem dX11_isWordOf_20 : decode cX11_isWordOf 20 = .ok (.invokestatic 182, 3) := q_invokestatic (bat_get dg_X11_isWordOf_0_0 12 rfl rfl) rfl
theorem dX11_isWordOf_23 : decode cX11_isWordOf 23 = .ok (.ifCond .eq 7, 3) := q_ifCond_eq (bat_get dg_X11_isWordOf_0_0 13 rfl rfl) rfl
theorem dX11_isWordOf_26 : decode cX11_isWordOf 26 = .ok (.iconst 1, 1) := q_iconst1 (bat_get dg_X11_isWordOf_0_0 14 rfl rfl)
theorem dX11_isWordOf_27 : decode cX11_isWordOf 27 = .ok (.goto 4, 3) := q_goto (bat_get dg_X11_isWordOf_0_0 15 rfl rfl) rfl
theorem w_3_190 : (Cond.methodLink RX11 170 yX11_isDay) ∈ wsL_law := sk_mem (ck_3 _ (List.mem_of_getElem? (i := 190) rfl)) rfl
theorem w_3_192 : (Cond.instanceMethod yX11_isDay) ∈ wsL_law := sk_mem (ck_3 _ (List.mem_of_getElem? (i := 192) rfl)) rfl
theorem w_0_14 : (Cond.selects RX11 yX11_isDay yX11_isDay) ∈ wsL_law := sk_mem (ck_0 _ (List.mem_of_getElem? (i := 14) rfl)) rfl
theorem w_1_1 : (Cond.initialized RX11) ∈ wsL_law := sk_mem (ck_1 _ (List.mem_of_getElem? (i := 1) rfl)) rfl
theorem w_3_194 : (Cond.methodLink RX11 179 yX7_isMute) ∈ wsL_law := sk_mem (ck_3 _ (List.mem_of_getElem? (i := 194) rfl)) rfl
theorem w_3_202 : (Cond.methodLink RX11 182 yX11_isDigit) ∈ wsL_law := sk_mem (ck_3 _ (List.mem_of_getElem? (i := 202) rfl)) rfl
theorem w_3_203 : (Cond.static yX11_isDigit) ∈ wsL_law := sk_mem (ck_3 _ (List.mem_of_getElem? (i := 203) rfl)) rfl
theorem w_4_189 : (Cond.code yX11_isWordOf cX11_isWordOf 3 (some .boolean)) ∈ wsL_law := sk_mem (ck_4 _ (List.mem_of_getElem? (i := 189) rfl)) rfl
theorem hd_X11_isDay_1 : skD yX11_isDay 1 := by decide +kernel
theorem hd_X11_isDigit_1 : skD yX11_isDigit 1 := by decide +kernel
set_option maxHeartbeats 4000000 in
set_option maxRecDepth 100000 in
theorem c_x_isWordOf (l : Launch) (D : va_G) (cI cJ cC cZ cS : ClassId) (x0 : Nat) (q : Nat → Nat) (hc : Int32) (dr : Int64) (dy : Nat) (mo : Nat) (wk : Int32) (mu : Int32) (ke : Int32) (fb : Nat → Int32) (fw : Nat → Int32) (d : Int32) (w : Int32) (hdy : dy ≤ 9) : skM l yX11_isWordOf cX11_isWordOf 3 (some .boolean) 1 21 0 0 D (skT cI cJ cC cZ cS) [.ref x0, .int d, .int w] [ro_rrrrrrrrrrrrrrrirl x0 11 (q 0) (q 1) (q 2) (q 3) (q 4) (q 5) (q 6) (q 7) (q 8) (q 9) (q 10) (q 11) (q 12) (q 13) (q 14) hc (q 16) dr, ro_rrninii (q 7) 7 (q 33) (q 34) dy wk mo mu ke] (skI D (skT cI cJ cC cZ cS) (fun (r : Int32) (u : va_W) => ∃ (b : Nat), (b = 0 ∨ (b = 1 ∧ ∃ kq : Nat, kq < dy ∧ d = nI kq)) ∧ r = nI b ∧ u = [ro_rrrrrrrrrrrrrrrirl x0 11 (q 0) (q 1) (q 2) (q 3) (q 4) (q 5) (q 6) (q 7) (q 8) (q 9) (q 10) (q 11) (q 12) (q 13) (q 14) hc (q 16) dr, ro_rrninii (q 7) 7 (q 33) (q 34) dy wk mo mu ke])) := by
  refine skM_of pf_X11_isWordOf (Nat.le_of_ble_eq_true rfl) ?_
  intro p e s m below meth c A ls E hP hD hl
  refine skE_el E (fun hx hb hr hml hlocks hin hown hts hK hA => ?_)
  have hown : s.vm.findClass RX11 = some m.cls := hown
  have hS : va_S A s.heap s.heap [] := va_S.rf
  have hl : lv_has ls 3 [(0, .ref x0), (1, .int d), (2, .int w)] := hl
  refine lv_aload_n hx hb dX11_isWordOf_0 rfl (lv_at hl 0 rfl) ?_
  refine lv_iload_n hx hb dX11_isWordOf_1 rfl (lv_at hl 1 rfl) ?_
  refine sk_Vi (q0 := 0) (n := 1) (rest := []) (wr := fmR om_2_3 _) ⟨hx, hb, hml, hown, hts⟩ hl.1 (c_x_isDay l D cI cJ cC cZ cS x0 q hc dr dy mo wk mu ke fb fw d hdy) w_3_190 w_3_192 w_0_14 w_1_1 w_3_193 hd_X11_isDay_1 ⟨⟨(Nat.le_of_ble_eq_true rfl), (Nat.le_of_ble_eq_true rfl)⟩, (Nat.le_of_ble_eq_true rfl), (Nat.le_of_ble_eq_true rfl)⟩ hK hP hD hS hA (fmT om_2_3 0) (fmF om_2_3 0) (fm_C1 rfl rfl) (fm_R rfl rfl) (fm_nT om_2_3 0) (fm_nF om_2_3 0) (fm_di om_2_3 0) rfl rfl rfl rfl (Nat.le_of_ble_eq_true rfl) dX11_isWordOf_2 (fun r_2 u H locs hw hP hD hS => ?_)
  refine exE hw (fun b_1 hw1 => anE hw1 (fun hb1_3 hw2 => anE hw2 (fun er_5 eu_4 => ?_)))
  clear hw hw1 hw2
  subst er_5
  refine o_mgE (ws' := [ro_rrrrrrrrrrrrrrrirl x0 11 (q 0) (q 1) (q 2) (q 3) (q 4) (q 5) (q 6) (q 7) (q 8) (q 9) (q 10) (q 11) (q 12) (q 13) (q 14) hc (q 16) dr, ro_rrninii (q 7) 7 (q 33) (q 34) dy wk mo mu ke]) eu_4 hP hD rfl (fun hP hD => ?_)
  refine lv_if_eq (tgt := 30) hx hb dX11_isWordOf_5 (by decide) (fun c_6 => ?_) (fun c_6 => ?_)
  · have c_6 : b_1 = 0 := (neq b_1 0 (by omega) (Nat.le_of_ble_eq_true rfl)).mp c_6
    refine lv_iconst (v := 0) hx hb dX11_isWordOf_30 ic_0 ?_
    exact sk_iret hx hb hr rfl hlocks hK hP hD hS (⟨0, Or.inl rfl, rfl, rfl⟩) (Nat.le_of_ble_eq_true rfl) (Nat.le_of_ble_eq_true rfl) dX11_isWordOf_31
  · have c_6 : ¬ (b_1 = 0) := fun h => c_6 ((neq b_1 0 (by omega) (Nat.le_of_ble_eq_true rfl)).mpr h)
    obtain ⟨kd_7, hkd_8, rfl⟩ : ∃ kq : Nat, kq < dy ∧ d = nI kq := by
      rcases hb1_3 with hq | ⟨_, hq⟩
      · exact absurd hq (by omega)
      · exact hq
    refine lv_aload_n hx hb dX11_isWordOf_8 rfl (lv_at hl 0 rfl) ?_
    refine sk_get (v := .ref (q 7)) (C := RX11) (T := TX11) (N := 18) hx hb hts inlX11 hown hK hP 0 rfl rfl 7 (Nat.le_of_ble_eq_true rfl) w_2_130 rfl dX11_isWordOf_9 ?_
    refine lv_iload_n hx hb dX11_isWordOf_12 rfl (lv_at hl 1 rfl) ?_
    refine sk_Vi (q0 := 0) (n := 1) (rest := []) (wr := fmR om_2_1 _) ⟨hx, hb, hml, hown, hts⟩ hl.1 (c_State_isMute l D cI cJ cC cZ cS (q 7) (q 33) (q 34) dy mo wk mu ke (nI kd_7)) w_3_194 w_3_195 w_3_196 w_1_10 w_3_197 hd_X7_isMute_1 ⟨⟨(Nat.le_of_ble_eq_true rfl), (Nat.le_of_ble_eq_true rfl)⟩, (Nat.le_of_ble_eq_true rfl), (Nat.le_of_ble_eq_true rfl)⟩ hK hP hD hS hA (fmT om_2_1 0) (fmF om_2_1 0) (fm_C1 rfl rfl) (fm_R rfl rfl) (fm_nT om_2_1 0) (fm_nF om_2_1 0) (fm_di om_2_1 0) rfl rfl rfl rfl (Nat.le_of_ble_eq_true rfl) dX11_isWordOf_13 (fun r_10 u H locs hw hP hD hS => ?_)
    refine exE hw (fun b_9 hw1 => anE hw1 (fun hb1_11 hw2 => anE hw2 (fun er_13 eu_12 => ?_)))
    clear hw hw1 hw2
    subst er_13
    refine o_mgE (ws' := [ro_rrrrrrrrrrrrrrrirl x0 11 (q 0) (q 1) (q 2) (q 3) (q 4) (q 5) (q 6) (q 7) (q 8) (q 9) (q 10) (q 11) (q 12) (q 13) (q 14) hc (q 16) dr, ro_rrninii (q 7) 7 (q 33) (q 34) dy wk mo mu ke]) eu_12 hP hD rfl (fun hP hD => ?_)
    refine lv_if_ne (tgt := 30) hx hb dX11_isWordOf_16 (by decide) (fun c_14 => ?_) (fun c_14 => ?_)
    · have c_14 : ¬ (b_9 = 0) := fun h => c_14 ((neq b_9 0 (by omega) (Nat.le_of_ble_eq_true rfl)).mpr h)
      refine lv_iconst (v := 0) hx hb dX11_isWordOf_30 ic_0 ?_
      exact sk_iret hx hb hr rfl hlocks hK hP hD hS (⟨0, Or.inl rfl, rfl, rfl⟩) (Nat.le_of_ble_eq_true rfl) (Nat.le_of_ble_eq_true rfl) dX11_isWordOf_31
    · have c_14 : b_9 = 0 := (neq b_9 0 (by omega) (Nat.le_of_ble_eq_true rfl)).mp c_14
      refine lv_iload_n hx hb dX11_isWordOf_19 rfl (lv_at hl 2 rfl) ?_
      refine sk_Si (n := 1) (rest := []) (wr := [ro_rrrrrrrrrrrrrrrirl x0 11 (q 0) (q 1) (q 2) (q 3) (q 4) (q 5) (q 6) (q 7) (q 8) (q 9) (q 10) (q 11) (q 12) (q 13) (q 14) hc (q 16) dr, ro_rrninii (q 7) 7 (q 33) (q 34) dy wk mo mu ke]) ⟨hx, hb, hml, hown, hts⟩ hl.1 (c_x_isDigit l D cI cJ cC cZ cS w) w_3_202 w_3_203 w_1_1 w_3_204 hd_X11_isDigit_1 ⟨⟨(Nat.le_of_ble_eq_true rfl), (Nat.le_of_ble_eq_true rfl)⟩, (Nat.le_of_ble_eq_true rfl), (Nat.le_of_ble_eq_true rfl)⟩ hK hP hD hS hA [] [0, 1] rfl rfl (by decide +kernel) (by decide +kernel) (by decide +kernel) rfl rfl (Nat.le_of_ble_eq_true rfl) dX11_isWordOf_20 (fun r_16 u H locs hw hP hD hS => ?_)
      obtain ⟨b_15, hb1_17, rfl, rfl⟩ := hw
      refine o_re (ws' := [ro_rrrrrrrrrrrrrrrirl x0 11 (q 0) (q 1) (q 2) (q 3) (q 4) (q 5) (q 6) (q 7) (q 8) (q 9) (q 10) (q 11) (q 12) (q 13) (q 14) hc (q 16) dr, ro_rrninii (q 7) 7 (q 33) (q 34) dy wk mo mu ke]) hP hD rfl (fun hP hD => ?_)
      refine lv_if_eq (tgt := 30) hx hb dX11_isWordOf_23 (by decide) (fun c_18 => ?_) (fun c_18 => ?_)
      · have c_18 : b_15 = 0 := (neq b_15 0 (by omega) (Nat.le_of_ble_eq_true rfl)).mp c_18
        refine lv_iconst (v := 0) hx hb dX11_isWordOf_30 ic_0 ?_
        exact sk_iret hx hb hr rfl hlocks hK hP hD hS (⟨0, Or.inl rfl, rfl, rfl⟩) (Nat.le_of_ble_eq_true rfl) (Nat.le_of_ble_eq_true rfl) dX11_isWordOf_31
      · have c_18 : ¬ (b_15 = 0) := fun h => c_18 ((neq b_15 0 (by omega) (Nat.le_of_ble_eq_true rfl)).mpr h)
        obtain ⟨kd_19, hkd_20, rfl⟩ : ∃ kq : Nat, kq < 10 ∧ w = nI kq := by
          rcases hb1_17 with hq | ⟨_, hq⟩
          · exact absurd hq (by omega)
          · exact hq
        refine lv_iconst (v := 1) hx hb dX11_isWordOf_26 ic_1 ?_
        refine lv_goto (tgt := 31) hx hb dX11_isWordOf_27 (by decide) ?_
        exact sk_iret hx hb hr rfl hlocks hK hP hD hS (⟨1, Or.inr ⟨rfl, kd_7, by omega, rfl⟩, rfl, rfl⟩) (Nat.le_of_ble_eq_true rfl) (Nat.le_of_ble_eq_true rfl) dX11_isWordOf_31
theorem dX11_fault_1 : decode cX11_fault 1 = .ok (.lookupswitch 43 #[(0, 27), (1, 35)], 27) := by decide +kernel
theorem dg_X11_fault_0_0 : bqL cX11_fault 0 [(0, [27]), (28, [42]), (29, [180, 0, 26]), (32, [180, 0, 128]), (35, [172]), (36, [42]), (37, [180, 0, 26]), (40, [180, 0, 141]), (43, [172]), (44, [2]), (45, [172])] = true := by decide +kernel
theorem dX11_fault_0 : decode cX11_fault 0 = .ok (.iload_n 1, 1) := q_iload_n1 (bat_get dg_X11_fault_0_0 0 rfl rfl)
theorem dX11_fault_28 : decode cX11_fault 28 = .ok (.aload_n 0, 1) := q_aload_n0 (bat_get dg_X11_fault_0_0 1 rfl rfl)
theorem dX11_fault_29 : decode cX11_fault 29 = .ok (.getfield 26, 3) := q_getfield (bat_get dg_X11_fault_0_0 2 rfl rfl) rfl
theorem dX11_fault_32 : decode cX11_fault 32 = .ok (.getfield 128, 3) := q_getfield (bat_get dg_X11_fault_0_0 3 rfl rfl) rfl
theorem dX11_fault_35 : decode cX11_fault 35 = .ok (.ireturn, 1) := q_ireturn (bat_get dg_X11_fault_0_0 4 rfl rfl)
theorem dX11_fault_36 : decode cX11_fault 36 = .ok (.aload_n 0, 1) := q_aload_n0 (bat_get dg_X11_fault_0_0 5 rfl rfl)
theorem dX11_fault_37 : decode cX11_fault 37 = .ok (.getfield 26, 3) := q_getfield (bat_get dg_X11_fault_0_0 6 rfl rfl) rfl
theorem dX11_fault_40 : decode cX11_fault 40 = .ok (.getfield 141, 3) := q_getfield (bat_get dg_X11_fault_0_0 7 rfl rfl) rfl
theorem dX11_fault_43 : decode cX11_fault 43 = .ok (.ireturn, 1) := q_ireturn (bat_get dg_X11_fault_0_0 8 rfl rfl)
theorem dX11_fault_44 : decode cX11_fault 44 = .ok (.iconst (-1), 1) := q_iconstm1 (bat_get dg_X11_fault_0_0 9 rfl rfl)
theorem dX11_fault_45 : decode cX11_fault 45 = .ok (.ireturn, 1) := q_ireturn (bat_get dg_X11_fault_0_0 10 rfl rfl)
theorem w_2_125 : (Cond.fieldLink RX11 26 "SameKeeper" "reader" "LSameKeeper$Reader;") ∈ wsL_law := sk_mem (ck_2 _ (List.mem_of_getElem? (i := 125) rfl)) rfl
theorem w_1_68 : (Cond.fieldLink RX11 128 "SameKeeper$Reader" "fault" "I") ∈ wsL_law := sk_mem (ck_1 _ (List.mem_of_getElem? (i := 68) rfl)) rfl
theorem w_1_70 : (Cond.fieldLink RX11 141 "SameKeeper$Reader" "place" "I") ∈ wsL_law := sk_mem (ck_1 _ (List.mem_of_getElem? (i := 70) rfl)) rfl
theorem w_3_168 : (Cond.code yX11_fault cX11_fault 2 (some .int)) ∈ wsL_law := sk_mem (ck_3 _ (List.mem_of_getElem? (i := 168) rfl)) rfl
set_option maxHeartbeats 4000000 in
set_option maxRecDepth 100000 in
theorem c_y_fault (l : Launch) (D : va_G) (cI cJ cC cZ cS : ClassId) (x0 : Nat) (q : Nat → Nat) (hc : Int32) (dr : Int64) (xa : Nat) (xv : Int32) (xo : Nat) (xt : Int32) (xz : Nat) (xf : Int32) (xp : Int32) (w : Int32)  : skM l yX11_fault cX11_fault 2 (some .int) 0 0 0 0 D (skT cI cJ cC cZ cS) [.ref x0, .int w] [ro_rrrrrrrrrrrrrrrirl x0 11 (q 0) (q 1) (q 2) (q 3) (q 4) (q 5) (q 6) (q 7) (q 8) (q 9) (q 10) (q 11) (q 12) (q 13) (q 14) hc (q 16) dr, ro_rnininii (q 2) 6 (q 0) xa xv xo xt xz xf xp] (skI D (skT cI cJ cC cZ cS) (fun (r : Int32) (u : va_W) => ((w = 0 ∧ r = xf) ∨ (w = 1 ∧ r = xp) ∨ (¬ w = 0 ∧ ¬ w = 1 ∧ r = -1)) ∧ u = [ro_rrrrrrrrrrrrrrrirl x0 11 (q 0) (q 1) (q 2) (q 3) (q 4) (q 5) (q 6) (q 7) (q 8) (q 9) (q 10) (q 11) (q 12) (q 13) (q 14) hc (q 16) dr, ro_rnininii (q 2) 6 (q 0) xa xv xo xt xz xf xp])) := by
  refine skM_of pf_X11_fault (Nat.le_of_ble_eq_true rfl) ?_
  intro p e s m below meth c A ls E hP hD hl
  refine skE_el E (fun hx hb hr hml hlocks hin hown hts hK hA => ?_)
  have hown : s.vm.findClass RX11 = some m.cls := hown
  have hS : va_S A s.heap s.heap [] := va_S.rf
  have hl : lv_has ls 2 [(0, .ref x0), (1, .int w)] := hl
  refine lv_iload_n hx hb dX11_fault_0 rfl (lv_at hl 1 rfl) ?_
  by_cases g_1 : w = 0
  · refine lv_lookup (off := 27) (tgt := 28) hx hb dX11_fault_1 (by decide) (by rw [g_1]; decide) (by decide) ?_
    refine lv_aload_n hx hb dX11_fault_28 rfl (lv_at hl 0 rfl) ?_
    refine sk_get (v := .ref (q 2)) (C := RX11) (T := TX11) (N := 18) hx hb hts inlX11 hown hK hP 0 rfl rfl 2 (Nat.le_of_ble_eq_true rfl) w_2_125 rfl dX11_fault_29 ?_
    refine sk_get (v := .int xf) (C := RX6) (T := TX6) (N := 8) hx hb hts inlX6 hown hK hP 1 rfl rfl 6 (Nat.le_of_ble_eq_true rfl) w_1_68 rfl dX11_fault_32 ?_
    exact sk_iret hx hb hr rfl hlocks hK hP hD hS (⟨(Or.inl ⟨g_1, rfl⟩), rfl⟩) (Nat.le_of_ble_eq_true rfl) (Nat.le_of_ble_eq_true rfl) dX11_fault_35
  by_cases g_2 : w = 1
  · refine lv_lookup (off := 35) (tgt := 36) hx hb dX11_fault_1 (by decide) (by rw [g_2]; decide) (by decide) ?_
    refine lv_aload_n hx hb dX11_fault_36 rfl (lv_at hl 0 rfl) ?_
    refine sk_get (v := .ref (q 2)) (C := RX11) (T := TX11) (N := 18) hx hb hts inlX11 hown hK hP 0 rfl rfl 2 (Nat.le_of_ble_eq_true rfl) w_2_125 rfl dX11_fault_37 ?_
    refine sk_get (v := .int xp) (C := RX6) (T := TX6) (N := 8) hx hb hts inlX6 hown hK hP 1 rfl rfl 7 (Nat.le_of_ble_eq_true rfl) w_1_70 rfl dX11_fault_40 ?_
    exact sk_iret hx hb hr rfl hlocks hK hP hD hS (⟨(Or.inr (Or.inl ⟨g_2, rfl⟩)), rfl⟩) (Nat.le_of_ble_eq_true rfl) (Nat.le_of_ble_eq_true rfl) dX11_fault_43
  refine lv_lookup (off := 43) (tgt := 44) hx hb dX11_fault_1 (by decide) (by rw [lv_osw g_1 (by decide)]; rw [lv_osw g_2 (by decide)]; rfl) (by decide) ?_
  refine lv_iconst (v := (-1)) hx hb dX11_fault_44 (by decide) ?_
  exact sk_iret hx hb hr rfl hlocks hK hP hD hS (⟨(Or.inr (Or.inr ⟨by assumption, by assumption, rfl⟩)), rfl⟩) (Nat.le_of_ble_eq_true rfl) (Nat.le_of_ble_eq_true rfl) dX11_fault_45
theorem dg_J6_bitCount_0f7a4_0_0 : bqL cJ6_bitCount_0f7a4 0 [(0, [26]), (1, [26]), (2, [4]), (3, [124]), (4, [19, 1, 9]), (7, [126]), (8, [100]), (9, [59]), (10, [26]), (11, [19, 1, 10]), (14, [126]), (15, [26]), (16, [5]), (17, [124]), (18, [19, 1, 10]), (21, [126]), (22, [96]), (23, [59]), (24, [26]), (25, [26]), (26, [7]), (27, [124]), (28, [96]), (29, [19, 1, 11]), (32, [126]), (33, [59]), (34, [26]), (35, [26]), (36, [16, 8]), (38, [124]), (39, [96]), (40, [59]), (41, [26]), (42, [26]), (43, [16, 16]), (45, [124]), (46, [96]), (47, [59]), (48, [26]), (49, [16, 63])] = true := by decide +kernel
theorem dJ6_bitCount_0f7a4_0 : decode cJ6_bitCount_0f7a4 0 = .ok (.iload_n 0, 1) := q_iload_n0 (bat_get dg_J6_bitCount_0f7a4_0_0 0 rfl rfl)
theorem dJ6_bitCount_0f7a4_1 : decode cJ6_bitCount_0f7a4 1 = .ok (.iload_n 0, 1) := q_iload_n0 (bat_get dg_J6_bitCount_0f7a4_0_0 1 rfl rfl)
theorem dJ6_bitCount_0f7a4_2 : decode cJ6_bitCount_0f7a4 2 = .ok (.iconst 1, 1) := q_iconst1 (bat_get dg_J6_bitCount_0f7a4_0_0 2 rfl rfl)
theorem dJ6_bitCount_0f7a4_3 : decode cJ6_bitCount_0f7a4 3 = .ok (.iushr, 1) := q_iushr (bat_get dg_J6_bitCount_0f7a4_0_0 3 rfl rfl)
theorem dJ6_bitCount_0f7a4_4 : decode cJ6_bitCount_0f7a4 4 = .ok (.ldc_w 265, 3) := q_ldc_w (bat_get dg_J6_bitCount_0f7a4_0_0 4 rfl rfl) rfl
theorem dJ6_bitCount_0f7a4_7 : decode cJ6_bitCount_0f7a4 7 = .ok (.iand, 1) := q_iand (bat_get dg_J6_bitCount_0f7a4_0_0 5 rfl rfl)
theorem dJ6_bitCount_0f7a4_8 : decode cJ6_bitCount_0f7a4 8 = .ok (.isub, 1) := q_isub (bat_get dg_J6_bitCount_0f7a4_0_0 6 rfl rfl)
theorem dJ6_bitCount_0f7a4_9 : decode cJ6_bitCount_0f7a4 9 = .ok (.istore_n 0, 1) := q_istore_n0 (bat_get dg_J6_bitCount_0f7a4_0_0 7 rfl rfl)
theorem dJ6_bitCount_0f7a4_10 : decode cJ6_bitCount_0f7a4 10 = .ok (.iload_n 0, 1) := q_iload_n0 (bat_get dg_J6_bitCount_0f7a4_0_0 8 rfl rfl)
theorem dJ6_bitCount_0f7a4_11 : decode cJ6_bitCount_0f7a4 11 = .ok (.ldc_w 266, 3) := q_ldc_w (bat_get dg_J6_bitCount_0f7a4_0_0 9 rfl rfl) rfl
theorem dJ6_bitCount_0f7a4_14 : decode cJ6_bitCount_0f7a4 14 = .ok (.iand, 1) := q_iand (bat_get dg_J6_bitCount_0f7a4_0_0 10 rfl rfl)
theorem dJ6_bitCount_0f7a4_15 : decode cJ6_bitCount_0f7a4 15 = .ok (.iload_n 0, 1) := q_iload_n0 (bat_get dg_J6_bitCount_0f7a4_0_0 11 rfl rfl)
theorem dJ6_bitCount_0f7a4_16 : decode cJ6_bitCount_0f7a4 16 = .ok (.iconst 2, 1) := q_iconst2 (bat_get dg_J6_bitCount_0f7a4_0_0 12 rfl rfl)
theorem dJ6_bitCount_0f7a4_17 : decode cJ6_bitCount_0f7a4 17 = .ok (.iushr, 1) := q_iushr (bat_get dg_J6_bitCount_0f7a4_0_0 13 rfl rfl)
theorem dJ6_bitCount_0f7a4_18 : decode cJ6_bitCount_0f7a4 18 = .ok (.ldc_w 266, 3) := q_ldc_w (bat_get dg_J6_bitCount_0f7a4_0_0 14 rfl rfl) rfl
theorem dJ6_bitCount_0f7a4_21 : decode cJ6_bitCount_0f7a4 21 = .ok (.iand, 1) := q_iand (bat_get dg_J6_bitCount_0f7a4_0_0 15 rfl rfl)
theorem dJ6_bitCount_0f7a4_22 : decode cJ6_bitCount_0f7a4 22 = .ok (.iadd, 1) := q_iadd (bat_get dg_J6_bitCount_0f7a4_0_0 16 rfl rfl)
theorem dJ6_bitCount_0f7a4_23 : decode cJ6_bitCount_0f7a4 23 = .ok (.istore_n 0, 1) := q_istore_n0 (bat_get dg_J6_bitCount_0f7a4_0_0 17 rfl rfl)
theorem dJ6_bitCount_0f7a4_24 : decode cJ6_bitCount_0f7a4 24 = .ok (.iload_n 0, 1) := q_iload_n0 (bat_get dg_J6_bitCount_0f7a4_0_0 18 rfl rfl)
theorem dJ6_bitCount_0f7a4_25 : decode cJ6_bitCount_0f7a4 25 = .ok (.iload_n 0, 1) := q_iload_n0 (bat_get dg_J6_bitCount_0f7a4_0_0 19 rfl rfl)
theorem dJ6_bitCount_0f7a4_26 : decode cJ6_bitCount_0f7a4 26 = .ok (.iconst 4, 1) := q_iconst4 (bat_get dg_J6_bitCount_0f7a4_0_0 20 rfl rfl)
theorem dJ6_bitCount_0f7a4_27 : decode cJ6_bitCount_0f7a4 27 = .ok (.iushr, 1) := q_iushr (bat_get dg_J6_bitCount_0f7a4_0_0 21 rfl rfl)
theorem dJ6_bitCount_0f7a4_28 : decode cJ6_bitCount_0f7a4 28 = .ok (.iadd, 1) := q_iadd (bat_get dg_J6_bitCount_0f7a4_0_0 22 rfl rfl)
theorem dJ6_bitCount_0f7a4_29 : decode cJ6_bitCount_0f7a4 29 = .ok (.ldc_w 267, 3) := q_ldc_w (bat_get dg_J6_bitCount_0f7a4_0_0 23 rfl rfl) rfl
theorem dJ6_bitCount_0f7a4_32 : decode cJ6_bitCount_0f7a4 32 = .ok (.iand, 1) := q_iand (bat_get dg_J6_bitCount_0f7a4_0_0 24 rfl rfl)
theorem dJ6_bitCount_0f7a4_33 : decode cJ6_bitCount_0f7a4 33 = .ok (.istore_n 0, 1) := q_istore_n0 (bat_get dg_J6_bitCount_0f7a4_0_0 25 rfl rfl)
theorem dJ6_bitCount_0f7a4_34 : decode cJ6_bitCount_0f7a4 34 = .ok (.iload_n 0, 1) := q_iload_n0 (bat_get dg_J6_bitCount_0f7a4_0_0 26 rfl rfl)
theorem dJ6_bitCount_0f7a4_35 : decode cJ6_bitCount_0f7a4 35 = .ok (.iload_n 0, 1) := q_iload_n0 (bat_get dg_J6_bitCount_0f7a4_0_0 27 rfl rfl)
theorem dJ6_bitCount_0f7a4_36 : decode cJ6_bitCount_0f7a4 36 = .ok (.bipush 8, 2) := q_bipush (bat_get dg_J6_bitCount_0f7a4_0_0 28 rfl rfl) rfl
theorem dJ6_bitCount_0f7a4_38 : decode cJ6_bitCount_0f7a4 38 = .ok (.iushr, 1) := q_iushr (bat_get dg_J6_bitCount_0f7a4_0_0 29 rfl rfl)
theorem dJ6_bitCount_0f7a4_39 : decode cJ6_bitCount_0f7a4 39 = .ok (.iadd, 1) := q_iadd (bat_get dg_J6_bitCount_0f7a4_0_0 30 rfl rfl)
theorem dJ6_bitCount_0f7a4_40 : decode cJ6_bitCount_0f7a4 40 = .ok (.istore_n 0, 1) := q_istore_n0 (bat_get dg_J6_bitCount_0f7a4_0_0 31 rfl rfl)
theorem dJ6_bitCount_0f7a4_41 : decode cJ6_bitCount_0f7a4 41 = .ok (.iload_n 0, 1) := q_iload_n0 (bat_get dg_J6_bitCount_0f7a4_0_0 32 rfl rfl)
theorem dJ6_bitCount_0f7a4_42 : decode cJ6_bitCount_0f7a4 42 = .ok (.iload_n 0, 1) := q_iload_n0 (bat_get dg_J6_bitCount_0f7a4_0_0 33 rfl rfl)
theorem dJ6_bitCount_0f7a4_43 : decode cJ6_bitCount_0f7a4 43 = .ok (.bipush 16, 2) := q_bipush (bat_get dg_J6_bitCount_0f7a4_0_0 34 rfl rfl) rfl
theorem dJ6_bitCount_0f7a4_45 : decode cJ6_bitCount_0f7a4 45 = .ok (.iushr, 1) := q_iushr (bat_get dg_J6_bitCount_0f7a4_0_0 35 rfl rfl)
theorem dJ6_bitCount_0f7a4_46 : decode cJ6_bitCount_0f7a4 46 = .ok (.iadd, 1) := q_iadd (bat_get dg_J6_bitCount_0f7a4_0_0 36 rfl rfl)
theorem dJ6_bitCount_0f7a4_47 : decode cJ6_bitCount_0f7a4 47 = .ok (.istore_n 0, 1) := q_istore_n0 (bat_get dg_J6_bitCount_0f7a4_0_0 37 rfl rfl)
theorem dJ6_bitCount_0f7a4_48 : decode cJ6_bitCount_0f7a4 48 = .ok (.iload_n 0, 1) := q_iload_n0 (bat_get dg_J6_bitCount_0f7a4_0_0 38 rfl rfl)
theorem dJ6_bitCount_0f7a4_49 : decode cJ6_bitCount_0f7a4 49 = .ok (.bipush 63, 2) := q_bipush (bat_get dg_J6_bitCount_0f7a4_0_0 39 rfl rfl) rfl
theorem dg_J6_bitCount_0f7a4_51_51 : bqL cJ6_bitCount_0f7a4 51 [(0, [126]), (1, [172])] = true := by decide +kernel
theorem dJ6_bitCount_0f7a4_51 : decode cJ6_bitCount_0f7a4 51 = .ok (.iand, 1) := q_iand (bat_get dg_J6_bitCount_0f7a4_51_51 0 rfl rfl)
theorem dJ6_bitCount_0f7a4_52 : decode cJ6_bitCount_0f7a4 52 = .ok (.ireturn, 1) := q_ireturn (bat_get dg_J6_bitCount_0f7a4_51_51 1 rfl rfl)
theorem w_3_176 : (Cond.constant RJ6 265 (1431655765)) ∈ wsL_law := sk_mem (ck_3 _ (List.mem_of_getElem? (i := 176) rfl)) rfl
theorem w_3_177 : (Cond.constant RJ6 266 (858993459)) ∈ wsL_law := sk_mem (ck_3 _ (List.mem_of_getElem? (i := 177) rfl)) rfl
theorem w_3_178 : (Cond.constant RJ6 267 (252645135)) ∈ wsL_law := sk_mem (ck_3 _ (List.mem_of_getElem? (i := 178) rfl)) rfl
theorem w_3_175 : (Cond.code yJ6_bitCount_0f7a4 cJ6_bitCount_0f7a4 1 (some .int)) ∈ wsL_law := sk_mem (ck_3 _ (List.mem_of_getElem? (i := 175) rfl)) rfl
set_option maxHeartbeats 4000000 in
set_option maxRecDepth 100000 in
theorem c_bitCount (l : Launch) (D : va_G) (cI cJ cC cZ cS : ClassId) (o : Int32)  : skM l yJ6_bitCount_0f7a4 cJ6_bitCount_0f7a4 1 (some .int) 0 0 0 0 D (skT cI cJ cC cZ cS) [.int o] [] (skI D (skT cI cJ cC cZ cS) (fun (r : Int32) (u : va_W) => u = [])) := by
  refine skM_of pf_J6_bitCount_0f7a4 (Nat.le_of_ble_eq_true rfl) ?_
  intro p e s m below meth c A ls E hP hD hl
  refine skE_el E (fun hx hb hr hml hlocks hin hown hts hK hA => ?_)
  have hown : s.vm.findClass RJ6 = some m.cls := hown
  have hS : va_S A s.heap s.heap [] := va_S.rf
  have hl : lv_has ls 1 [(0, .int o)] := hl
  refine lv_iload_n hx hb dJ6_bitCount_0f7a4_0 rfl (lv_at hl 0 rfl) ?_
  refine lv_iload_n hx hb dJ6_bitCount_0f7a4_1 rfl (lv_at hl 0 rfl) ?_
  refine lv_iconst (v := 1) hx hb dJ6_bitCount_0f7a4_2 ic_1 ?_
  refine lv_iushr hx hb dJ6_bitCount_0f7a4_3 rfl ?_
  refine lv_topi (fun v_1 ev_1 => ?_)
  refine lv_ldcw (v := 1431655765) hx hb hown (hts _ w_3_176) dJ6_bitCount_0f7a4_4 ?_
  refine lv_iand hx hb dJ6_bitCount_0f7a4_7 ?_
  refine lv_topi (fun v_2 ev_2 => ?_)
  refine lv_isub hx hb dJ6_bitCount_0f7a4_8 ?_
  refine lv_topi (fun v_3 ev_3 => ?_)
  refine lv_istore_n (lv' := [(0, .int v_3)]) hx hb dJ6_bitCount_0f7a4_9 rfl hl (by decide) rfl (fun ls hl => ?_)
  refine lv_iload_n hx hb dJ6_bitCount_0f7a4_10 rfl (lv_at hl 0 rfl) ?_
  refine lv_ldcw (v := 858993459) hx hb hown (hts _ w_3_177) dJ6_bitCount_0f7a4_11 ?_
  refine lv_iand hx hb dJ6_bitCount_0f7a4_14 ?_
  refine lv_topi (fun v_4 ev_4 => ?_)
  refine lv_iload_n hx hb dJ6_bitCount_0f7a4_15 rfl (lv_at hl 0 rfl) ?_
  refine lv_iconst (v := 2) hx hb dJ6_bitCount_0f7a4_16 ic_2 ?_
  refine lv_iushr hx hb dJ6_bitCount_0f7a4_17 rfl ?_
  refine lv_topi (fun v_5 ev_5 => ?_)
  refine lv_ldcw (v := 858993459) hx hb hown (hts _ w_3_177) dJ6_bitCount_0f7a4_18 ?_
  refine lv_iand hx hb dJ6_bitCount_0f7a4_21 ?_
  refine lv_topi (fun v_6 ev_6 => ?_)
  refine lv_iadd hx hb dJ6_bitCount_0f7a4_22 ?_
  refine lv_topi (fun v_7 ev_7 => ?_)
  refine lv_istore_n (lv' := [(0, .int v_7)]) hx hb dJ6_bitCount_0f7a4_23 rfl hl (by decide) rfl (fun ls hl => ?_)
  refine lv_iload_n hx hb dJ6_bitCount_0f7a4_24 rfl (lv_at hl 0 rfl) ?_
  refine lv_iload_n hx hb dJ6_bitCount_0f7a4_25 rfl (lv_at hl 0 rfl) ?_
  refine lv_iconst (v := 4) hx hb dJ6_bitCount_0f7a4_26 ic_4 ?_
  refine lv_iushr hx hb dJ6_bitCount_0f7a4_27 rfl ?_
  refine lv_topi (fun v_8 ev_8 => ?_)
  refine lv_iadd hx hb dJ6_bitCount_0f7a4_28 ?_
  refine lv_topi (fun v_9 ev_9 => ?_)
  refine lv_ldcw (v := 252645135) hx hb hown (hts _ w_3_178) dJ6_bitCount_0f7a4_29 ?_
  refine lv_iand hx hb dJ6_bitCount_0f7a4_32 ?_
  refine lv_topi (fun v_10 ev_10 => ?_)
  refine lv_istore_n (lv' := [(0, .int v_10)]) hx hb dJ6_bitCount_0f7a4_33 rfl hl (by decide) rfl (fun ls hl => ?_)
  refine lv_iload_n hx hb dJ6_bitCount_0f7a4_34 rfl (lv_at hl 0 rfl) ?_
  refine lv_iload_n hx hb dJ6_bitCount_0f7a4_35 rfl (lv_at hl 0 rfl) ?_
  refine lv_bipush (v := 8) hx hb dJ6_bitCount_0f7a4_36 (by decide) ?_
  refine lv_iushr hx hb dJ6_bitCount_0f7a4_38 rfl ?_
  refine lv_topi (fun v_11 ev_11 => ?_)
  refine lv_iadd hx hb dJ6_bitCount_0f7a4_39 ?_
  refine lv_topi (fun v_12 ev_12 => ?_)
  refine lv_istore_n (lv' := [(0, .int v_12)]) hx hb dJ6_bitCount_0f7a4_40 rfl hl (by decide) rfl (fun ls hl => ?_)
  refine lv_iload_n hx hb dJ6_bitCount_0f7a4_41 rfl (lv_at hl 0 rfl) ?_
  refine lv_iload_n hx hb dJ6_bitCount_0f7a4_42 rfl (lv_at hl 0 rfl) ?_
  refine lv_bipush (v := 16) hx hb dJ6_bitCount_0f7a4_43 (by decide) ?_
  refine lv_iushr hx hb dJ6_bitCount_0f7a4_45 rfl ?_
  refine lv_topi (fun v_13 ev_13 => ?_)
  refine lv_iadd hx hb dJ6_bitCount_0f7a4_46 ?_
  refine lv_topi (fun v_14 ev_14 => ?_)
  refine lv_istore_n (lv' := [(0, .int v_14)]) hx hb dJ6_bitCount_0f7a4_47 rfl hl (by decide) rfl (fun ls hl => ?_)
  refine lv_iload_n hx hb dJ6_bitCount_0f7a4_48 rfl (lv_at hl 0 rfl) ?_
  refine lv_bipush (v := 63) hx hb dJ6_bitCount_0f7a4_49 (by decide) ?_
  refine lv_iand hx hb dJ6_bitCount_0f7a4_51 ?_
  refine lv_topi (fun v_15 ev_15 => ?_)
  exact sk_iret hx hb hr rfl hlocks hK hP hD hS rfl (Nat.le_of_ble_eq_true rfl) (Nat.le_of_ble_eq_true rfl) dJ6_bitCount_0f7a4_52
theorem dg_X4_forget_0_0 : bqL cX4_forget 0 [(0, [42]), (1, [3]), (2, [181, 0, 17]), (5, [177])] = true := by decide +kernel
theorem dX4_forget_0 : decode cX4_forget 0 = .ok (.aload_n 0, 1) := q_aload_n0 (bat_get dg_X4_forget_0_0 0 rfl rfl)
theorem dX4_forget_1 : decode cX4_forget 1 = .ok (.iconst 0, 1) := q_iconst0 (bat_get dg_X4_forget_0_0 1 rfl rfl)
theorem dX4_forget_2 : decode cX4_forget 2 = .ok (.putfield 17, 3) := q_putfield (bat_get dg_X4_forget_0_0 2 rfl rfl) rfl
theorem dX4_forget_5 : decode cX4_forget 5 = .ok (.return_, 1) := q_return_ (bat_get dg_X4_forget_0_0 3 rfl rfl)
theorem w_2_41 : (Cond.fieldLink RX4 17 "SameKeeper$Past" "acts" "I") ∈ wsL_law := sk_mem (ck_2 _ (List.mem_of_getElem? (i := 41) rfl)) rfl
theorem w_3_158 : (Cond.code yX4_forget cX4_forget 1 none) ∈ wsL_law := sk_mem (ck_3 _ (List.mem_of_getElem? (i := 158) rfl)) rfl
set_option maxHeartbeats 4000000 in
set_option maxRecDepth 100000 in
theorem c_past_forget (l : Launch) (D : va_G) (cI cJ cC cZ cS : ClassId) (q : Nat → Nat) (ac : Nat)  : skM l yX4_forget cX4_forget 1 none 0 0 0 0 D (skT cI cJ cC cZ cS) [.ref (q 9)] [ro_rnrrr (q 9) 4 (q 35) ac (q 36) (q 37) (q 38)] (skV D (skT cI cJ cC cZ cS) (fun (u : va_W) => u = [ro_rirrr (q 9) 4 (q 35) 0 (q 36) (q 37) (q 38)])) := by
  refine skM_of pf_X4_forget (Nat.le_of_ble_eq_true rfl) ?_
  intro p e s m below meth c A ls E hP hD hl
  refine skE_el E (fun hx hb hr hml hlocks hin hown hts hK hA => ?_)
  have hown : s.vm.findClass RX4 = some m.cls := hown
  have hS : va_S A s.heap s.heap [] := va_S.rf
  have hl : lv_has ls 1 [(0, .ref (q 9))] := hl
  refine lv_aload_n hx hb dX4_forget_0 rfl (lv_at hl 0 rfl) ?_
  refine lv_iconst (v := 0) hx hb dX4_forget_1 ic_0 ?_
  refine sk_put (ws' := [ro_rirrr (q 9) 4 (q 35) 0 (q 36) (q 37) (q 38)]) (C := RX4) (T := TX4) (N := 5) (v := .int 0) hx hb hts inlX4 tyX4 tyX4_ok nmX4 hown hK hP hD hS 0 rfl rfl 1 (Nat.le_of_ble_eq_true rfl) w_2_41 rfl rfl rfl (Nat.le_of_ble_eq_true rfl) rfl dX4_forget_2 (fun H locs hP hD hS => ?_)
  exact sk_vret hx hb hr hlocks hK hP hD hS rfl (Nat.le_of_ble_eq_true rfl) (Nat.le_of_ble_eq_true rfl) dX4_forget_5
theorem dg_X11_isAtRest_0_0 : bqL cX11_isAtRest 0 [(0, [42]), (1, [180, 0, 85]), (4, [42]), (5, [180, 0, 89]), (8, [182, 1, 29]), (11, [3]), (12, [61]), (13, [28]), (14, [42]), (15, [180, 0, 59]), (18, [180, 0, 144]), (21, [162, 0, 108]), (129, [4]), (130, [172]), (24, [42]), (25, [180, 0, 59]), (28, [28]), (29, [182, 0, 179]), (32, [153, 0, 6]), (38, [42]), (39, [180, 0, 85]), (42, [42]), (43, [180, 0, 59]), (46, [27]), (47, [4]), (48, [28]), (49, [120]), (50, [130]), (51, [3]), (52, [182, 0, 230]), (55, [42]), (56, [180, 0, 85]), (59, [182, 0, 234]), (62, [154, 0, 6]), (68, [42]), (69, [180, 0, 85]), (72, [42]), (73, [180, 0, 93]), (76, [182, 1, 29]), (79, [42])] = true := by decide +kernel
theorem dX11_isAtRest_0 : decode cX11_isAtRest 0 = .ok (.aload_n 0, 1) := q_aload_n0 (bat_get dg_X11_isAtRest_0_0 0 rfl rfl)
theorem dX11_isAtRest_1 : decode cX11_isAtRest 1 = .ok (.getfield 85, 3) := q_getfield (bat_get dg_X11_isAtRest_0_0 1 rfl rfl) rfl
theorem dX11_isAtRest_4 : decode cX11_isAtRest 4 = .ok (.aload_n 0, 1) := q_aload_n0 (bat_get dg_X11_isAtRest_0_0 2 rfl rfl)
theorem dX11_isAtRest_5 : decode cX11_isAtRest 5 = .ok (.getfield 89, 3) := q_getfield (bat_get dg_X11_isAtRest_0_0 3 rfl rfl) rfl
theorem dX11_isAtRest_8 : decode cX11_isAtRest 8 = .ok (.invokevirtual 285, 3) := q_invokevirtual (bat_get dg_X11_isAtRest_0_0 4 rfl rfl) rfl
theorem dX11_isAtRest_11 : decode cX11_isAtRest 11 = .ok (.iconst 0, 1) := q_iconst0 (bat_get dg_X11_isAtRest_0_0 5 rfl rfl)
theorem dX11_isAtRest_12 : decode cX11_isAtRest 12 = .ok (.istore_n 2, 1) := q_istore_n2 (bat_get dg_X11_isAtRest_0_0 6 rfl rfl)
theorem dX11_isAtRest_13 : decode cX11_isAtRest 13 = .ok (.iload_n 2, 1) := q_iload_n2 (bat_get dg_X11_isAtRest_0_0 7 rfl rfl)
theorem dX11_isAtRest_14 : decode cX11_isAtRest 14 = .ok (.aload_n 0, 1) := q_aload_n0 (bat_get dg_X11_isAtRest_0_0 8 rfl rfl)
theorem dX11_isAtRest_15 : decode cX11_isAtRest 15 = .ok (.getfield 59, 3) := q_getfield (bat_get dg_X11_isAtRest_0_0 9 rfl rfl) rfl
theorem dX11_isAtRest_18 : decode cX11_isAtRest 18 = .ok (.getfield 144, 3) := q_getfield (bat_get dg_X11_isAtRest_0_0 10 rfl rfl) rfl
theorem dX11_isAtRest_21 : decode cX11_isAtRest 21 = .ok (.if_icmp .ge 108, 3) := q_if_icmp_ge (bat_get dg_X11_isAtRest_0_0 11 rfl rfl) rfl
theorem dX11_isAtRest_129 : decode cX11_isAtRest 129 = .ok (.iconst 1, 1) := q_iconst1 (bat_get dg_X11_isAtRest_0_0 12 rfl rfl)
theorem dX11_isAtRest_130 : decode cX11_isAtRest 130 = .ok (.ireturn, 1) := q_ireturn (bat_get dg_X11_isAtRest_0_0 13 rfl rfl)
theorem dX11_isAtRest_24 : decode cX11_isAtRest 24 = .ok (.aload_n 0, 1) := q_aload_n0 (bat_get dg_X11_isAtRest_0_0 14 rfl rfl)
theorem dX11_isAtRest_25 : decode cX11_isAtRest 25 = .ok (.getfield 59, 3) := q_getfield (bat_get dg_X11_isAtRest_0_0 15 rfl rfl) rfl
theorem dX11_isAtRest_28 : decode cX11_isAtRest 28 = .ok (.iload_n 2, 1) := q_iload_n2 (bat_get dg_X11_isAtRest_0_0 16 rfl rfl)
theorem dX11_isAtRest_29 : decode cX11_isAtRest 29 = .ok (.invokevirtual 179, 3) := q_invokevirtual (bat_get dg_X11_isAtRest_0_0 17 rfl rfl) rfl
theorem dX11_isAtRest_32 : decode cX11_isAtRest 32 = .ok (.ifCond .eq 6, 3) := q_ifCond_eq (bat_get dg_X11_isAtRest_0_0 18 rfl rfl) rfl
theorem dX11_isAtRest_38 : decode cX11_isAtRest 38 = .ok (.aload_n 0, 1) := q_aload_n0 (bat_get dg_X11_isAtRest_0_0 19 rfl rfl)
theorem dX11_isAtRest_39 : decode cX11_isAtRest 39 = .ok (.getfield 85, 3) := q_getfield (bat_get dg_X11_isAtRest_0_0 20 rfl rfl) rfl
theorem dX11_isAtRest_42 : decode cX11_isAtRest 42 = .ok (.aload_n 0, 1) := q_aload_n0 (bat_get dg_X11_isAtRest_0_0 21 rfl rfl)
theorem dX11_isAtRest_43 : decode cX11_isAtRest 43 = .ok (.getfield 59, 3) := q_getfield (bat_get dg_X11_isAtRest_0_0 22 rfl rfl) rfl
theorem dX11_isAtRest_46 : decode cX11_isAtRest 46 = .ok (.iload_n 1, 1) := q_iload_n1 (bat_get dg_X11_isAtRest_0_0 23 rfl rfl)
theorem dX11_isAtRest_47 : decode cX11_isAtRest 47 = .ok (.iconst 1, 1) := q_iconst1 (bat_get dg_X11_isAtRest_0_0 24 rfl rfl)
theorem dX11_isAtRest_48 : decode cX11_isAtRest 48 = .ok (.iload_n 2, 1) := q_iload_n2 (bat_get dg_X11_isAtRest_0_0 25 rfl rfl)
theorem dX11_isAtRest_49 : decode cX11_isAtRest 49 = .ok (.ishl, 1) := q_ishl (bat_get dg_X11_isAtRest_0_0 26 rfl rfl)
theorem dX11_isAtRest_50 : decode cX11_isAtRest 50 = .ok (.ixor, 1) := q_ixor (bat_get dg_X11_isAtRest_0_0 27 rfl rfl)
theorem dX11_isAtRest_51 : decode cX11_isAtRest 51 = .ok (.iconst 0, 1) := q_iconst0 (bat_get dg_X11_isAtRest_0_0 28 rfl rfl)
theorem dX11_isAtRest_52 : decode cX11_isAtRest 52 = .ok (.invokevirtual 230, 3) := q_invokevirtual (bat_get dg_X11_isAtRest_0_0 29 rfl rfl) rfl
theorem dX11_isAtRest_55 : decode cX11_isAtRest 55 = .ok (.aload_n 0, 1) := q_aload_n0 (bat_get dg_X11_isAtRest_0_0 30 rfl rfl)
theorem dX11_isAtRest_56 : decode cX11_isAtRest 56 = .ok (.getfield 85, 3) := q_getfield (bat_get dg_X11_isAtRest_0_0 31 rfl rfl) rfl
theorem dX11_isAtRest_59 : decode cX11_isAtRest 59 = .ok (.invokevirtual 234, 3) := q_invokevirtual (bat_get dg_X11_isAtRest_0_0 32 rfl rfl) rfl
theorem dX11_isAtRest_62 : decode cX11_isAtRest 62 = .ok (.ifCond .ne 6, 3) := q_ifCond_ne (bat_get dg_X11_isAtRest_0_0 33 rfl rfl) rfl
theorem dX11_isAtRest_68 : decode cX11_isAtRest 68 = .ok (.aload_n 0, 1) := q_aload_n0 (bat_get dg_X11_isAtRest_0_0 34 rfl rfl)
theorem dX11_isAtRest_69 : decode cX11_isAtRest 69 = .ok (.getfield 85, 3) := q_getfield (bat_get dg_X11_isAtRest_0_0 35 rfl rfl) rfl
theorem dX11_isAtRest_72 : decode cX11_isAtRest 72 = .ok (.aload_n 0, 1) := q_aload_n0 (bat_get dg_X11_isAtRest_0_0 36 rfl rfl)
theorem dX11_isAtRest_73 : decode cX11_isAtRest 73 = .ok (.getfield 93, 3) := q_getfield (bat_get dg_X11_isAtRest_0_0 37 rfl rfl) rfl
theorem dX11_isAtRest_76 : decode cX11_isAtRest 76 = .ok (.invokevirtual 285, 3) := q_invokevirtual (bat_get dg_X11_isAtRest_0_0 38 rfl rfl) rfl
theorem dX11_isAtRest_79 : decode cX11_isAtRest 79 = .ok (.aload_n 0, 1) := q_aload_n0 (bat_get dg_X11_isAtRest_0_0 39 rfl rfl)
theorem dg_X11_isAtRest_35_80 : bqL cX11_isAtRest 35 [(45, [180, 0, 76]), (48, [180, 1, 81]), (51, [28]), (52, [16, 10]), (54, [104]), (55, [42]), (56, [180, 0, 93]), (59, [28]), (60, [46]), (61, [96]), (62, [47]), (63, [42]), (64, [180, 0, 76]), (67, [180, 1, 81]), (70, [28]), (71, [16, 10]), (73, [104]), (74, [42]), (75, [180, 0, 89]), (78, [28]), (79, [46]), (80, [96]), (81, [47]), (82, [148]), (83, [158, 0, 5]), (88, [132, 2, 1]), (91, [167, 255, 143]), (86, [3]), (87, [172]), (30, [167, 0, 58]), (0, [167, 0, 88])] = true := by decide +kernel
theorem dX11_isAtRest_80 : decode cX11_isAtRest 80 = .ok (.getfield 76, 3) := q_getfield (bat_get dg_X11_isAtRest_35_80 0 rfl rfl) rfl
theorem dX11_isAtRest_83 : decode cX11_isAtRest 83 = .ok (.getfield 337, 3) := q_getfield (bat_get dg_X11_isAtRest_35_80 1 rfl rfl) rfl
theorem dX11_isAtRest_86 : decode cX11_isAtRest 86 = .ok (.iload_n 2, 1) := q_iload_n2 (bat_get dg_X11_isAtRest_35_80 2 rfl rfl)
theorem dX11_isAtRest_87 : decode cX11_isAtRest 87 = .ok (.bipush 10, 2) := q_bipush (bat_get dg_X11_isAtRest_35_80 3 rfl rfl) rfl
theorem dX11_isAtRest_89 : decode cX11_isAtRest 89 = .ok (.imul, 1) := q_imul (bat_get dg_X11_isAtRest_35_80 4 rfl rfl)
theorem dX11_isAtRest_90 : decode cX11_isAtRest 90 = .ok (.aload_n 0, 1) := q_aload_n0 (bat_get dg_X11_isAtRest_35_80 5 rfl rfl)
theorem dX11_isAtRest_91 : decode cX11_isAtRest 91 = .ok (.getfield 93, 3) := q_getfield (bat_get dg_X11_isAtRest_35_80 6 rfl rfl) rfl
theorem dX11_isAtRest_94 : decode cX11_isAtRest 94 = .ok (.iload_n 2, 1) := q_iload_n2 (bat_get dg_X11_isAtRest_35_80 7 rfl rfl)
theorem dX11_isAtRest_95 : decode cX11_isAtRest 95 = .ok (.iaload, 1) := q_iaload (bat_get dg_X11_isAtRest_35_80 8 rfl rfl)
theorem dX11_isAtRest_96 : decode cX11_isAtRest 96 = .ok (.iadd, 1) := q_iadd (bat_get dg_X11_isAtRest_35_80 9 rfl rfl)
theorem dX11_isAtRest_97 : decode cX11_isAtRest 97 = .ok (.laload, 1) := q_laload (bat_get dg_X11_isAtRest_35_80 10 rfl rfl)
theorem dX11_isAtRest_98 : decode cX11_isAtRest 98 = .ok (.aload_n 0, 1) := q_aload_n0 (bat_get dg_X11_isAtRest_35_80 11 rfl rfl)
theorem dX11_isAtRest_99 : decode cX11_isAtRest 99 = .ok (.getfield 76, 3) := q_getfield (bat_get dg_X11_isAtRest_35_80 12 rfl rfl) rfl
theorem dX11_isAtRest_102 : decode cX11_isAtRest 102 = .ok (.getfield 337, 3) := q_getfield (bat_get dg_X11_isAtRest_35_80 13 rfl rfl) rfl
theorem dX11_isAtRest_105 : decode cX11_isAtRest 105 = .ok (.iload_n 2, 1) := q_iload_n2 (bat_get dg_X11_isAtRest_35_80 14 rfl rfl)
theorem dX11_isAtRest_106 : decode cX11_isAtRest 106 = .ok (.bipush 10, 2) := q_bipush (bat_get dg_X11_isAtRest_35_80 15 rfl rfl) rfl
theorem dX11_isAtRest_108 : decode cX11_isAtRest 108 = .ok (.imul, 1) := q_imul (bat_get dg_X11_isAtRest_35_80 16 rfl rfl)
theorem dX11_isAtRest_109 : decode cX11_isAtRest 109 = .ok (.aload_n 0, 1) := q_aload_n0 (bat_get dg_X11_isAtRest_35_80 17 rfl rfl)
theorem dX11_isAtRest_110 : decode cX11_isAtRest 110 = .ok (.getfield 89, 3) := q_getfield (bat_get dg_X11_isAtRest_35_80 18 rfl rfl) rfl
theorem dX11_isAtRest_113 : decode cX11_isAtRest 113 = .ok (.iload_n 2, 1) := q_iload_n2 (bat_get dg_X11_isAtRest_35_80 19 rfl rfl)
theorem dX11_isAtRest_114 : decode cX11_isAtRest 114 = .ok (.iaload, 1) := q_iaload (bat_get dg_X11_isAtRest_35_80 20 rfl rfl)
theorem dX11_isAtRest_115 : decode cX11_isAtRest 115 = .ok (.iadd, 1) := q_iadd (bat_get dg_X11_isAtRest_35_80 21 rfl rfl)
theorem dX11_isAtRest_116 : decode cX11_isAtRest 116 = .ok (.laload, 1) := q_laload (bat_get dg_X11_isAtRest_35_80 22 rfl rfl)
theorem dX11_isAtRest_117 : decode cX11_isAtRest 117 = .ok (.lcmp, 1) := q_lcmp (bat_get dg_X11_isAtRest_35_80 23 rfl rfl)
theorem dX11_isAtRest_118 : decode cX11_isAtRest 118 = .ok (.ifCond .le 5, 3) := q_ifCond_le (bat_get dg_X11_isAtRest_35_80 24 rfl rfl) rfl
theorem dX11_isAtRest_123 : decode cX11_isAtRest 123 = .ok (.iinc 2 1, 3) := q_iinc (bat_get dg_X11_isAtRest_35_80 25 rfl rfl) rfl
theorem dX11_isAtRest_126 : decode cX11_isAtRest 126 = .ok (.goto (-113), 3) := q_goto (bat_get dg_X11_isAtRest_35_80 26 rfl rfl) rfl
theorem dX11_isAtRest_121 : decode cX11_isAtRest 121 = .ok (.iconst 0, 1) := q_iconst0 (bat_get dg_X11_isAtRest_35_80 27 rfl rfl)
theorem dX11_isAtRest_122 : decode cX11_isAtRest 122 = .ok (.ireturn, 1) := q_ireturn (bat_get dg_X11_isAtRest_35_80 28 rfl rfl)
theorem dX11_isAtRest_65 : decode cX11_isAtRest 65 = .ok (.goto 58, 3) := q_goto (bat_get dg_X11_isAtRest_35_80 29 rfl rfl) rfl
theorem dX11_isAtRest_35 : decode cX11_isAtRest 35 = .ok (.goto 88, 3) := q_goto (bat_get dg_X11_isAtRest_35_80 30 rfl rfl) rfl
theorem w_2_134 : (Cond.fieldLink RX11 85 "SameKeeper" "graph" "LSameKeeper$Graph;") ∈ wsL_law := sk_mem (ck_2 _ (List.mem_of_getElem? (i := 134) rfl)) rfl
theorem w_2_135 : (Cond.fieldLink RX11 89 "SameKeeper" "row" "[I") ∈ wsL_law := sk_mem (ck_2 _ (List.mem_of_getElem? (i := 135) rfl)) rfl
theorem w_4_112 : (Cond.methodLink RX11 285 yX1_takeFirst) ∈ wsL_law := sk_mem (ck_4 _ (List.mem_of_getElem? (i := 112) rfl)) rfl
theorem w_4_113 : (Cond.instanceMethod yX1_takeFirst) ∈ wsL_law := sk_mem (ck_4 _ (List.mem_of_getElem? (i := 113) rfl)) rfl
theorem w_4_114 : (Cond.selects RX1 yX1_takeFirst yX1_takeFirst) ∈ wsL_law := sk_mem (ck_4 _ (List.mem_of_getElem? (i := 114) rfl)) rfl
theorem w_4_47 : (Cond.methodLink RX11 230 yX1_lay) ∈ wsL_law := sk_mem (ck_4 _ (List.mem_of_getElem? (i := 47) rfl)) rfl
theorem w_4_48 : (Cond.instanceMethod yX1_lay) ∈ wsL_law := sk_mem (ck_4 _ (List.mem_of_getElem? (i := 48) rfl)) rfl
theorem w_4_49 : (Cond.selects RX1 yX1_lay yX1_lay) ∈ wsL_law := sk_mem (ck_4 _ (List.mem_of_getElem? (i := 49) rfl)) rfl
theorem w_4_53 : (Cond.methodLink RX11 234 yX1_settle) ∈ wsL_law := sk_mem (ck_4 _ (List.mem_of_getElem? (i := 53) rfl)) rfl
theorem w_4_54 : (Cond.instanceMethod yX1_settle) ∈ wsL_law := sk_mem (ck_4 _ (List.mem_of_getElem? (i := 54) rfl)) rfl
theorem w_4_55 : (Cond.selects RX1 yX1_settle yX1_settle) ∈ wsL_law := sk_mem (ck_4 _ (List.mem_of_getElem? (i := 55) rfl)) rfl
theorem w_2_136 : (Cond.fieldLink RX11 93 "SameKeeper" "otherRow" "[I") ∈ wsL_law := sk_mem (ck_2 _ (List.mem_of_getElem? (i := 136) rfl)) rfl
theorem w_2_133 : (Cond.fieldLink RX11 76 "SameKeeper" "table" "LSameKeeper$Table;") ∈ wsL_law := sk_mem (ck_2 _ (List.mem_of_getElem? (i := 133) rfl)) rfl
theorem w_2_74 : (Cond.fieldLink RX11 337 "SameKeeper$Table" "wages" "[J") ∈ wsL_law := sk_mem (ck_2 _ (List.mem_of_getElem? (i := 74) rfl)) rfl
theorem w_4_111 : (Cond.code yX11_isAtRest cX11_isAtRest 3 (some .boolean)) ∈ wsL_law := sk_mem (ck_4 _ (List.mem_of_getElem? (i := 111) rfl)) rfl
def om_17_3e : List Bool := false :: false :: false :: false :: false :: false :: false :: false :: false :: false :: false :: true :: true :: true :: true :: true :: false :: []
def om_17_100 : List Bool := false :: false :: false :: false :: false :: false :: false :: false :: true :: false :: false :: false :: false :: false :: false :: false :: false :: []
def om_17_f938 : List Bool := false :: true :: true :: true :: true :: true :: false :: false :: true :: false :: false :: true :: true :: true :: false :: false :: false :: []
def om_17_3c : List Bool := false :: false :: false :: false :: false :: false :: false :: false :: false :: false :: false :: true :: true :: true :: true :: false :: false :: []
def om_17_3d : List Bool := false :: false :: false :: false :: false :: false :: false :: false :: false :: false :: false :: true :: true :: true :: true :: false :: true :: []
theorem hd_X1_takeFirst_1 : skD yX1_takeFirst 1 := by decide +kernel
theorem hd_X1_lay_3 : skD yX1_lay 3 := by decide +kernel
theorem hd_X1_settle_0 : skD yX1_settle 0 := by decide +kernel
set_option maxHeartbeats 4000000 in
set_option maxRecDepth 100000 in
theorem c_x_isAtRest (l : Launch) (D : va_G) (cI cJ cC cZ cS : ClassId) (x0 : Nat) (q : Nat → Nat) (hc : Int32) (dr : Int64) (sa : Nat → Nat) (ft : Nat → Int32) (fa : Nat → Int32) (fo : Nat → Int32) (fg : Nat → Int64) (fk : Nat → Int32) (dy : Nat) (mo : Nat) (wk : Int32) (mu : Int32) (ke : Int32) (fb : Nat → Int32) (fw : Nat → Int32) (gs : Nat) (e1 : Nat → Int32) (e2 : Nat → Int32) (e3 : Nat → Int32) (ra : Nat → Int32) (rc : Nat → Int32) (o : Int32) (hsa : ∀ j, sa j ≤ 9) (hdy : dy ≤ 9) (hmo : mo ≤ 9) (hgs : gs ≤ 9) : skM l yX11_isAtRest cX11_isAtRest 3 (some .boolean) 2 53 0 0 D (skT cI cJ cC cZ cS) [.ref x0, .int o] [ro_rrrrrrrrrrrrrrrirl x0 11 (q 0) (q 1) (q 2) (q 3) (q 4) (q 5) (q 6) (q 7) (q 8) (q 9) (q 10) (q 11) (q 12) (q 13) (q 14) hc (q 16) dr, ro_rrrrrr (q 10) 9 (q 61) (q 62) (q 63) (q 64) (q 65) (q 66), ra_N (q 61) cI 90 sa, ra_I (q 62) cI 900 ft, ra_I (q 63) cI 90 fa, ra_I (q 64) cI 90 fo, ra_J (q 65) cJ 90 fg, ra_I (q 66) cI 9 fk, ro_rrninii (q 7) 7 (q 33) (q 34) dy wk mo mu ke, ra_I (q 33) cI 9 fb, ra_I (q 34) cI 9 fw, ro_rrrrrrrnn (q 11) 1 (q 10) (q 67) (q 68) (q 69) (q 70) (q 71) (q 72) dy gs, ra_I (q 67) cI 90 e1, ra_I (q 68) cI 9 e2, ra_I (q 69) cI 10 e3, ra_I (q 12) cI 9 ra, ra_I (q 13) cI 9 rc] (skI D (skT cI cJ cC cZ cS) (fun (r : Int32) (u : va_W) => ∃ (gd2 : Nat), ∃ (gs2 : Nat), ∃ (b : Nat), ∃ (g1 : Nat → Int32), ∃ (g2 : Nat → Int32), ∃ (g3 : Nat → Int32), ∃ (ra2 : Nat → Int32), ∃ (rc2 : Nat → Int32), gd2 ≤ 9 ∧ gs2 ≤ 9 ∧ b ≤ 1 ∧ r = nI b ∧ u = [ro_rrrrrrrrrrrrrrrirl x0 11 (q 0) (q 1) (q 2) (q 3) (q 4) (q 5) (q 6) (q 7) (q 8) (q 9) (q 10) (q 11) (q 12) (q 13) (q 14) hc (q 16) dr, ro_rrrrrr (q 10) 9 (q 61) (q 62) (q 63) (q 64) (q 65) (q 66), ra_N (q 61) cI 90 sa, ra_I (q 62) cI 900 ft, ra_I (q 63) cI 90 fa, ra_I (q 64) cI 90 fo, ra_J (q 65) cJ 90 fg, ra_I (q 66) cI 9 fk, ro_rrninii (q 7) 7 (q 33) (q 34) dy wk mo mu ke, ra_I (q 33) cI 9 fb, ra_I (q 34) cI 9 fw, ro_rrrrrrrnn (q 11) 1 (q 10) (q 67) (q 68) (q 69) (q 70) (q 71) (q 72) gd2 gs2, ra_I (q 67) cI 90 g1, ra_I (q 68) cI 9 g2, ra_I (q 69) cI 10 g3, ra_I (q 12) cI 9 ra2, ra_I (q 13) cI 9 rc2])) := by
  refine skM_of pf_X11_isAtRest (Nat.le_of_ble_eq_true rfl) ?_
  intro p e s m below meth c A ls E hP hD hl
  refine skE_el E (fun hx hb hr hml hlocks hin hown hts hK hA => ?_)
  have hown : s.vm.findClass RX11 = some m.cls := hown
  have hS : va_S A s.heap s.heap [] := va_S.rf
  have hl : lv_has ls 3 [(0, .ref x0), (1, .int o)] := hl
  refine lv_aload_n hx hb dX11_isAtRest_0 rfl (lv_at hl 0 rfl) ?_
  refine sk_get (v := .ref (q 11)) (C := RX11) (T := TX11) (N := 18) hx hb hts inlX11 hown hK hP 0 rfl rfl 11 (Nat.le_of_ble_eq_true rfl) w_2_134 rfl dX11_isAtRest_1 ?_
  refine lv_aload_n hx hb dX11_isAtRest_4 rfl (lv_at hl 0 rfl) ?_
  refine sk_get (v := .ref (q 12)) (C := RX11) (T := TX11) (N := 18) hx hb hts inlX11 hown hK hP 0 rfl rfl 12 (Nat.le_of_ble_eq_true rfl) w_2_135 rfl dX11_isAtRest_5 ?_
  refine sk_Vv (q0 := 0) (n := 1) (rest := []) (wr := fmR om_17_3e _) ⟨hx, hb, hml, hown, hts⟩ hl.1 (c_takeFirst l D cI cJ cC cZ cS q dy gs e1 e2 e3 (q 12) ra hdy hgs) w_4_112 w_4_113 w_4_114 w_1_13 w_4_115 hd_X1_takeFirst_1 ⟨⟨(Nat.le_of_ble_eq_true rfl), (Nat.le_of_ble_eq_true rfl)⟩, (Nat.le_of_ble_eq_true rfl), (Nat.le_of_ble_eq_true rfl)⟩ hK hP hD hS hA (fmT om_17_3e 0) (fmF om_17_3e 0) (fm_C1 rfl rfl) (fm_R rfl rfl) (fm_nT om_17_3e 0) (fm_nF om_17_3e 0) (fm_di om_17_3e 0) rfl rfl rfl rfl (Nat.le_of_ble_eq_true rfl) dX11_isAtRest_8 (fun u H locs hw hP hD hS => ?_)
  refine exE hw (fun ra2_1 hw1 => anE hw1 (fun hra2_2 eu_3 => ?_))
  clear hw hw1
  refine o_mgE (ws' := [ro_rrrrrrrrrrrrrrrirl x0 11 (q 0) (q 1) (q 2) (q 3) (q 4) (q 5) (q 6) (q 7) (q 8) (q 9) (q 10) (q 11) (q 12) (q 13) (q 14) hc (q 16) dr, ro_rrrrrr (q 10) 9 (q 61) (q 62) (q 63) (q 64) (q 65) (q 66), ra_N (q 61) cI 90 sa, ra_I (q 62) cI 900 ft, ra_I (q 63) cI 90 fa, ra_I (q 64) cI 90 fo, ra_J (q 65) cJ 90 fg, ra_I (q 66) cI 9 fk, ro_rrninii (q 7) 7 (q 33) (q 34) dy wk mo mu ke, ra_I (q 33) cI 9 fb, ra_I (q 34) cI 9 fw, ro_rrrrrrrnn (q 11) 1 (q 10) (q 67) (q 68) (q 69) (q 70) (q 71) (q 72) dy gs, ra_I (q 67) cI 90 e1, ra_I (q 68) cI 9 e2, ra_I (q 69) cI 10 e3, ra_I (q 12) cI 9 ra2_1, ra_I (q 13) cI 9 rc]) eu_3 hP hD rfl (fun hP hD => ?_)
  have h12 := hra2_2
  refine lv_iconst (v := 0) hx hb dX11_isAtRest_11 ic_0 ?_
  refine lv_istore_n (lv' := [(2, .int 0), (0, .ref x0), (1, .int o)]) hx hb dX11_isAtRest_12 rfl hl (by decide) rfl (fun ls hl => ?_)
  have lp_4 : ∀ (n_5 : Nat) (i : Nat) (zd : Nat) (zs : Nat) (b1 : Nat → Int32) (b2 : Nat → Int32) (b3 : Nat → Int32) (bc : Nat → Int32) (H : Heap) (locs : List Loc) (ls : Array Slot), dy - i < n_5 → (i ≤ dy) → (zd ≤ 9) → (zs ≤ 9) → va_P D vwCl [ro_rrrrrrrrrrrrrrrirl x0 11 (q 0) (q 1) (q 2) (q 3) (q 4) (q 5) (q 6) (q 7) (q 8) (q 9) (q 10) (q 11) (q 12) (q 13) (q 14) hc (q 16) dr, ro_rrrrrr (q 10) 9 (q 61) (q 62) (q 63) (q 64) (q 65) (q 66), ra_N (q 61) cI 90 sa, ra_I (q 62) cI 900 ft, ra_I (q 63) cI 90 fa, ra_I (q 64) cI 90 fo, ra_J (q 65) cJ 90 fg, ra_I (q 66) cI 9 fk, ro_rrninii (q 7) 7 (q 33) (q 34) dy wk mo mu ke, ra_I (q 33) cI 9 fb, ra_I (q 34) cI 9 fw, ro_rrrrrrrnn (q 11) 1 (q 10) (q 67) (q 68) (q 69) (q 70) (q 71) (q 72) zd zs, ra_I (q 67) cI 90 b1, ra_I (q 68) cI 9 b2, ra_I (q 69) cI 10 b3, ra_I (q 12) cI 9 ra2_1, ra_I (q 13) cI 9 bc] H → va_D A [ro_rrrrrrrrrrrrrrrirl x0 11 (q 0) (q 1) (q 2) (q 3) (q 4) (q 5) (q 6) (q 7) (q 8) (q 9) (q 10) (q 11) (q 12) (q 13) (q 14) hc (q 16) dr, ro_rrrrrr (q 10) 9 (q 61) (q 62) (q 63) (q 64) (q 65) (q 66), ra_N (q 61) cI 90 sa, ra_I (q 62) cI 900 ft, ra_I (q 63) cI 90 fa, ra_I (q 64) cI 90 fo, ra_J (q 65) cJ 90 fg, ra_I (q 66) cI 9 fk, ro_rrninii (q 7) 7 (q 33) (q 34) dy wk mo mu ke, ra_I (q 33) cI 9 fb, ra_I (q 34) cI 9 fw, ro_rrrrrrrnn (q 11) 1 (q 10) (q 67) (q 68) (q 69) (q 70) (q 71) (q 72) zd zs, ra_I (q 67) cI 90 b1, ra_I (q 68) cI 9 b2, ra_I (q 69) cI 10 b3, ra_I (q 12) cI 9 ra2_1, ra_I (q 13) cI 9 bc] → va_S A s.heap H locs → lv_has ls 3 [(2, .int (nI i)), (0, .ref x0), (1, .int o)] → W p l e { frames := 2, cells := 0, slots := 0, locals := 53 } s m ([.ref x0, .int o] : List Value).toArray below meth c H locs 0 0 (MQ below (skI D (skT cI cJ cC cZ cS) (fun (r : Int32) (u : va_W) => ∃ (gd2 : Nat), ∃ (gs2 : Nat), ∃ (b : Nat), ∃ (g1 : Nat → Int32), ∃ (g2 : Nat → Int32), ∃ (g3 : Nat → Int32), ∃ (ra2 : Nat → Int32), ∃ (rc2 : Nat → Int32), gd2 ≤ 9 ∧ gs2 ≤ 9 ∧ b ≤ 1 ∧ r = nI b ∧ u = [ro_rrrrrrrrrrrrrrrirl x0 11 (q 0) (q 1) (q 2) (q 3) (q 4) (q 5) (q 6) (q 7) (q 8) (q 9) (q 10) (q 11) (q 12) (q 13) (q 14) hc (q 16) dr, ro_rrrrrr (q 10) 9 (q 61) (q 62) (q 63) (q 64) (q 65) (q 66), ra_N (q 61) cI 90 sa, ra_I (q 62) cI 900 ft, ra_I (q 63) cI 90 fa, ra_I (q 64) cI 90 fo, ra_J (q 65) cJ 90 fg, ra_I (q 66) cI 9 fk, ro_rrninii (q 7) 7 (q 33) (q 34) dy wk mo mu ke, ra_I (q 33) cI 9 fb, ra_I (q 34) cI 9 fw, ro_rrrrrrrnn (q 11) 1 (q 10) (q 67) (q 68) (q 69) (q 70) (q 71) (q 72) gd2 gs2, ra_I (q 67) cI 90 g1, ra_I (q 68) cI 9 g2, ra_I (q 69) cI 10 g3, ra_I (q 12) cI 9 ra2, ra_I (q 13) cI 9 rc2]) A) ([.ref x0, .int o] : List Value).toArray s 0 0 A) (F0 m 13 ls []) := by
    intro n_5
    induction n_5 with
    | zero => intro i zd zs b1 b2 b3 bc H locs ls hm; exact absurd hm (Nat.not_lt_zero _)
    | succ n_5 ih_lp_4 =>
      intro i zd zs b1 b2 b3 bc H locs ls hm hi hzd hzs hP hD hS hl
      refine lv_iload_n hx hb dX11_isAtRest_13 rfl (lv_at hl 0 rfl) ?_
      refine lv_aload_n hx hb dX11_isAtRest_14 rfl (lv_at hl 1 rfl) ?_
      refine sk_get (v := .ref (q 7)) (C := RX11) (T := TX11) (N := 18) hx hb hts inlX11 hown hK hP 0 rfl rfl 7 (Nat.le_of_ble_eq_true rfl) w_2_130 rfl dX11_isAtRest_15 ?_
      refine sk_get (v := .int (nI dy)) (C := RX7) (T := TX7) (N := 7) hx hb hts inlX7 hown hK hP 8 rfl rfl 2 (Nat.le_of_ble_eq_true rfl) w_2_1 rfl dX11_isAtRest_18 ?_
      refine lv_icmp_ge (tgt := 129) hx hb dX11_isAtRest_21 (by decide) (fun c_6 => ?_) (fun c_6 => ?_)
      · have c_6 : dy ≤ i := (nle dy i (by omega) (by omega)).mp c_6
        refine lv_iconst (v := 1) hx hb dX11_isAtRest_129 ic_1 ?_
        exact sk_iret hx hb hr rfl hlocks hK hP hD hS (⟨zd, zs, 1, b1, b2, b3, ra2_1, bc, hzd, hzs, by omega, rfl, rfl⟩) (Nat.le_of_ble_eq_true rfl) (Nat.le_of_ble_eq_true rfl) dX11_isAtRest_130
      · have c_6 : ¬ (dy ≤ i) := fun h => c_6 ((nle dy i (by omega) (by omega)).mpr h)
        refine lv_aload_n hx hb dX11_isAtRest_24 rfl (lv_at hl 1 rfl) ?_
        refine sk_get (v := .ref (q 7)) (C := RX11) (T := TX11) (N := 18) hx hb hts inlX11 hown hK hP 0 rfl rfl 7 (Nat.le_of_ble_eq_true rfl) w_2_130 rfl dX11_isAtRest_25 ?_
        refine lv_iload_n hx hb dX11_isAtRest_28 rfl (lv_at hl 0 rfl) ?_
        refine sk_Vi (q0 := 0) (n := 1) (rest := []) (wr := fmR om_17_100 _) ⟨hx, hb, hml, hown, hts⟩ hl.1 (c_State_isMute l D cI cJ cC cZ cS (q 7) (q 33) (q 34) dy mo wk mu ke (nI i)) w_3_194 w_3_195 w_3_196 w_1_10 w_3_197 hd_X7_isMute_1 ⟨⟨(Nat.le_of_ble_eq_true rfl), (Nat.le_of_ble_eq_true rfl)⟩, (Nat.le_of_ble_eq_true rfl), (Nat.le_of_ble_eq_true rfl)⟩ hK hP hD hS hA (fmT om_17_100 0) (fmF om_17_100 0) (fm_C1 rfl rfl) (fm_R rfl rfl) (fm_nT om_17_100 0) (fm_nF om_17_100 0) (fm_di om_17_100 0) rfl rfl rfl rfl (Nat.le_of_ble_eq_true rfl) dX11_isAtRest_29 (fun r_8 u H locs hw hP hD hS => ?_)
        refine exE hw (fun b_7 hw1 => anE hw1 (fun hb1_9 hw2 => anE hw2 (fun er_11 eu_10 => ?_)))
        clear hw hw1 hw2
        subst er_11
        refine o_mgE (ws' := [ro_rrrrrrrrrrrrrrrirl x0 11 (q 0) (q 1) (q 2) (q 3) (q 4) (q 5) (q 6) (q 7) (q 8) (q 9) (q 10) (q 11) (q 12) (q 13) (q 14) hc (q 16) dr, ro_rrrrrr (q 10) 9 (q 61) (q 62) (q 63) (q 64) (q 65) (q 66), ra_N (q 61) cI 90 sa, ra_I (q 62) cI 900 ft, ra_I (q 63) cI 90 fa, ra_I (q 64) cI 90 fo, ra_J (q 65) cJ 90 fg, ra_I (q 66) cI 9 fk, ro_rrninii (q 7) 7 (q 33) (q 34) dy wk mo mu ke, ra_I (q 33) cI 9 fb, ra_I (q 34) cI 9 fw, ro_rrrrrrrnn (q 11) 1 (q 10) (q 67) (q 68) (q 69) (q 70) (q 71) (q 72) zd zs, ra_I (q 67) cI 90 b1, ra_I (q 68) cI 9 b2, ra_I (q 69) cI 10 b3, ra_I (q 12) cI 9 ra2_1, ra_I (q 13) cI 9 bc]) eu_10 hP hD rfl (fun hP hD => ?_)
        refine lv_if_eq (tgt := 38) hx hb dX11_isAtRest_32 (by decide) (fun c_12 => ?_) (fun c_12 => ?_)
        · have c_12 : b_7 = 0 := (neq b_7 0 (by omega) (Nat.le_of_ble_eq_true rfl)).mp c_12
          refine lv_aload_n hx hb dX11_isAtRest_38 rfl (lv_at hl 1 rfl) ?_
          refine sk_get (v := .ref (q 11)) (C := RX11) (T := TX11) (N := 18) hx hb hts inlX11 hown hK hP 0 rfl rfl 11 (Nat.le_of_ble_eq_true rfl) w_2_134 rfl dX11_isAtRest_39 ?_
          refine lv_aload_n hx hb dX11_isAtRest_42 rfl (lv_at hl 1 rfl) ?_
          refine sk_get (v := .ref (q 7)) (C := RX11) (T := TX11) (N := 18) hx hb hts inlX11 hown hK hP 0 rfl rfl 7 (Nat.le_of_ble_eq_true rfl) w_2_130 rfl dX11_isAtRest_43 ?_
          refine lv_iload_n hx hb dX11_isAtRest_46 rfl (lv_at hl 2 rfl) ?_
          refine lv_iconst (v := 1) hx hb dX11_isAtRest_47 ic_1 ?_
          refine lv_iload_n hx hb dX11_isAtRest_48 rfl (lv_at hl 0 rfl) ?_
          refine lv_ishl hx hb dX11_isAtRest_49 ?_
          refine lv_topi (fun v_13 ev_13 => ?_)
          refine lv_ixor hx hb dX11_isAtRest_50 ?_
          refine lv_topi (fun v_14 ev_14 => ?_)
          refine lv_iconst (v := 0) hx hb dX11_isAtRest_51 ic_0 ?_
          refine sk_Vv (q0 := 0) (n := 3) (rest := []) (wr := fmR om_17_f938 _) ⟨hx, hb, hml, hown, hts⟩ hl.1 (c_lay l D cI cJ cC cZ cS q zd zs b1 b2 sa ft fa fo (q 7) (q 33) (q 34) dy mo wk mu ke fb fw 0 v_14 hsa hdy hmo (by omega)) w_4_47 w_4_48 w_4_49 w_1_13 w_4_50 hd_X1_lay_3 ⟨⟨(Nat.le_of_ble_eq_true rfl), (Nat.le_of_ble_eq_true rfl)⟩, (Nat.le_of_ble_eq_true rfl), (Nat.le_of_ble_eq_true rfl)⟩ hK hP hD hS hA [11, 12, 13, 1, 2, 3, 4, 5, 8] (fmF om_17_f938 0) rfl (fm_R rfl rfl) (by decide +kernel) (fm_nF om_17_f938 0) (by decide +kernel) rfl rfl rfl rfl (Nat.le_of_ble_eq_true rfl) dX11_isAtRest_52 (fun u H locs hw hP hD hS => ?_)
          refine exE hw (fun g1_15 hw1 => exE hw1 (fun g2_16 eu_17 => ?_))
          clear hw hw1
          refine o_mgqE (ux := [ro_rrrrrr (q 10) 9 (q 61) (q 62) (q 63) (q 64) (q 65) (q 66), ra_N (q 61) cI 90 sa, ra_I (q 62) cI 900 ft, ra_I (q 63) cI 90 fa, ra_I (q 64) cI 90 fo, ro_rrninii (q 7) 7 (q 33) (q 34) dy wk mo mu ke, ro_rrrrrrrnn (q 11) 1 (q 10) (q 67) (q 68) (q 69) (q 70) (q 71) (q 72) dy mo, ra_I (q 67) cI 90 g1_15, ra_I (q 68) cI 9 g2_16]) (ws' := [ro_rrrrrrrrrrrrrrrirl x0 11 (q 0) (q 1) (q 2) (q 3) (q 4) (q 5) (q 6) (q 7) (q 8) (q 9) (q 10) (q 11) (q 12) (q 13) (q 14) hc (q 16) dr, ro_rrrrrr (q 10) 9 (q 61) (q 62) (q 63) (q 64) (q 65) (q 66), ra_N (q 61) cI 90 sa, ra_I (q 62) cI 900 ft, ra_I (q 63) cI 90 fa, ra_I (q 64) cI 90 fo, ra_J (q 65) cJ 90 fg, ra_I (q 66) cI 9 fk, ro_rrninii (q 7) 7 (q 33) (q 34) dy wk mo mu ke, ra_I (q 33) cI 9 fb, ra_I (q 34) cI 9 fw, ro_rrrrrrrnn (q 11) 1 (q 10) (q 67) (q 68) (q 69) (q 70) (q 71) (q 72) dy mo, ra_I (q 67) cI 90 g1_15, ra_I (q 68) cI 9 g2_16, ra_I (q 69) cI 10 b3, ra_I (q 12) cI 9 ra2_1, ra_I (q 13) cI 9 bc]) eu_17 [3, 4, 5, 6, 7, 8, 0, 1, 2] (by decide +kernel) rfl hP hD rfl (fun hP hD => ?_)
          refine lv_aload_n hx hb dX11_isAtRest_55 rfl (lv_at hl 1 rfl) ?_
          refine sk_get (v := .ref (q 11)) (C := RX11) (T := TX11) (N := 18) hx hb hts inlX11 hown hK hP 0 rfl rfl 11 (Nat.le_of_ble_eq_true rfl) w_2_134 rfl dX11_isAtRest_56 ?_
          refine sk_Vi (q0 := 0) (n := 0) (rest := []) (wr := fmR om_17_3c _) ⟨hx, hb, hml, hown, hts⟩ hl.1 (c_settle l D cI cJ cC cZ cS q dy mo g1_15 g2_16 b3 hdy hmo) w_4_53 w_4_54 w_4_55 w_1_13 w_4_56 hd_X1_settle_0 ⟨⟨(Nat.le_of_ble_eq_true rfl), (Nat.le_of_ble_eq_true rfl)⟩, (Nat.le_of_ble_eq_true rfl), (Nat.le_of_ble_eq_true rfl)⟩ hK hP hD hS hA (fmT om_17_3c 0) (fmF om_17_3c 0) (fm_C1 rfl rfl) (fm_R rfl rfl) (fm_nT om_17_3c 0) (fm_nF om_17_3c 0) (fm_di om_17_3c 0) rfl rfl rfl rfl (Nat.le_of_ble_eq_true rfl) dX11_isAtRest_59 (fun r_20 u H locs hw hP hD hS => ?_)
          refine exE hw (fun b_18 hw1 => exE hw1 (fun g3_19 hw2 => anE hw2 (fun hb1_21 hw3 => anE hw3 (fun er_23 eu_22 => ?_))))
          clear hw hw1 hw2 hw3
          subst er_23
          refine o_mgE (ws' := [ro_rrrrrrrrrrrrrrrirl x0 11 (q 0) (q 1) (q 2) (q 3) (q 4) (q 5) (q 6) (q 7) (q 8) (q 9) (q 10) (q 11) (q 12) (q 13) (q 14) hc (q 16) dr, ro_rrrrrr (q 10) 9 (q 61) (q 62) (q 63) (q 64) (q 65) (q 66), ra_N (q 61) cI 90 sa, ra_I (q 62) cI 900 ft, ra_I (q 63) cI 90 fa, ra_I (q 64) cI 90 fo, ra_J (q 65) cJ 90 fg, ra_I (q 66) cI 9 fk, ro_rrninii (q 7) 7 (q 33) (q 34) dy wk mo mu ke, ra_I (q 33) cI 9 fb, ra_I (q 34) cI 9 fw, ro_rrrrrrrnn (q 11) 1 (q 10) (q 67) (q 68) (q 69) (q 70) (q 71) (q 72) dy mo, ra_I (q 67) cI 90 g1_15, ra_I (q 68) cI 9 g2_16, ra_I (q 69) cI 10 g3_19, ra_I (q 12) cI 9 ra2_1, ra_I (q 13) cI 9 bc]) eu_22 hP hD rfl (fun hP hD => ?_)
          refine lv_if_ne (tgt := 68) hx hb dX11_isAtRest_62 (by decide) (fun c_24 => ?_) (fun c_24 => ?_)
          · have c_24 : ¬ (b_18 = 0) := fun h => c_24 ((neq b_18 0 (by omega) (Nat.le_of_ble_eq_true rfl)).mpr h)
            refine lv_aload_n hx hb dX11_isAtRest_68 rfl (lv_at hl 1 rfl) ?_
            refine sk_get (v := .ref (q 11)) (C := RX11) (T := TX11) (N := 18) hx hb hts inlX11 hown hK hP 0 rfl rfl 11 (Nat.le_of_ble_eq_true rfl) w_2_134 rfl dX11_isAtRest_69 ?_
            refine lv_aload_n hx hb dX11_isAtRest_72 rfl (lv_at hl 1 rfl) ?_
            refine sk_get (v := .ref (q 13)) (C := RX11) (T := TX11) (N := 18) hx hb hts inlX11 hown hK hP 0 rfl rfl 13 (Nat.le_of_ble_eq_true rfl) w_2_136 rfl dX11_isAtRest_73 ?_
            refine sk_Vv (q0 := 0) (n := 1) (rest := []) (wr := fmR om_17_3d _) ⟨hx, hb, hml, hown, hts⟩ hl.1 (c_takeFirst l D cI cJ cC cZ cS q dy mo g1_15 g2_16 g3_19 (q 13) bc hdy hmo) w_4_112 w_4_113 w_4_114 w_1_13 w_4_115 hd_X1_takeFirst_1 ⟨⟨(Nat.le_of_ble_eq_true rfl), (Nat.le_of_ble_eq_true rfl)⟩, (Nat.le_of_ble_eq_true rfl), (Nat.le_of_ble_eq_true rfl)⟩ hK hP hD hS hA (fmT om_17_3d 0) (fmF om_17_3d 0) (fm_C1 rfl rfl) (fm_R rfl rfl) (fm_nT om_17_3d 0) (fm_nF om_17_3d 0) (fm_di om_17_3d 0) rfl rfl rfl rfl (Nat.le_of_ble_eq_true rfl) dX11_isAtRest_76 (fun u H locs hw hP hD hS => ?_)
            refine exE hw (fun ra2_25 hw1 => anE hw1 (fun hra2_26 eu_27 => ?_))
            clear hw hw1
            refine o_mgE (ws' := [ro_rrrrrrrrrrrrrrrirl x0 11 (q 0) (q 1) (q 2) (q 3) (q 4) (q 5) (q 6) (q 7) (q 8) (q 9) (q 10) (q 11) (q 12) (q 13) (q 14) hc (q 16) dr, ro_rrrrrr (q 10) 9 (q 61) (q 62) (q 63) (q 64) (q 65) (q 66), ra_N (q 61) cI 90 sa, ra_I (q 62) cI 900 ft, ra_I (q 63) cI 90 fa, ra_I (q 64) cI 90 fo, ra_J (q 65) cJ 90 fg, ra_I (q 66) cI 9 fk, ro_rrninii (q 7) 7 (q 33) (q 34) dy wk mo mu ke, ra_I (q 33) cI 9 fb, ra_I (q 34) cI 9 fw, ro_rrrrrrrnn (q 11) 1 (q 10) (q 67) (q 68) (q 69) (q 70) (q 71) (q 72) dy mo, ra_I (q 67) cI 90 g1_15, ra_I (q 68) cI 9 g2_16, ra_I (q 69) cI 10 g3_19, ra_I (q 12) cI 9 ra2_1, ra_I (q 13) cI 9 ra2_25]) eu_27 hP hD rfl (fun hP hD => ?_)
            refine lv_aload_n hx hb dX11_isAtRest_79 rfl (lv_at hl 1 rfl) ?_
            refine sk_get (v := .ref (q 10)) (C := RX11) (T := TX11) (N := 18) hx hb hts inlX11 hown hK hP 0 rfl rfl 10 (Nat.le_of_ble_eq_true rfl) w_2_133 rfl dX11_isAtRest_80 ?_
            refine sk_get (v := .ref (q 65)) (C := RX9) (T := TX9) (N := 6) hx hb hts inlX9 hown hK hP 1 rfl rfl 4 (Nat.le_of_ble_eq_true rfl) w_2_74 rfl dX11_isAtRest_83 ?_
            refine lv_iload_n hx hb dX11_isAtRest_86 rfl (lv_at hl 0 rfl) ?_
            refine lv_bipush (v := 10) hx hb dX11_isAtRest_87 (by decide) ?_
            refine lv_imul hx hb dX11_isAtRest_89 ?_
            refine sk_top (nI (i * 10)) (nmul i 10) ?_
            refine lv_aload_n hx hb dX11_isAtRest_90 rfl (lv_at hl 1 rfl) ?_
            refine sk_get (v := .ref (q 13)) (C := RX11) (T := TX11) (N := 18) hx hb hts inlX11 hown hK hP 0 rfl rfl 13 (Nat.le_of_ble_eq_true rfl) w_2_136 rfl dX11_isAtRest_91 ?_
            refine lv_iload_n hx hb dX11_isAtRest_94 rfl (lv_at hl 0 rfl) ?_
            refine va_iald hx hb hK.1 hP 16 0 rfl rfl (vin i 9 (by omega) (Nat.le_of_ble_eq_true rfl)) dX11_isAtRest_95 ?_
            obtain ⟨k_28, hk_28, ek_28⟩ := rowOk_at (i := i) hra2_26 (by omega) (by omega)
            refine sk_top (nI k_28) ek_28 ?_
            refine lv_iadd hx hb dX11_isAtRest_96 ?_
            refine sk_top (nI (i * 10 + k_28)) (nI_add (i * 10) k_28) ?_
            refine va_lald hx hb hK.1 hP 6 1 rfl rfl (vin (i * 10 + k_28) 90 (by omega) (Nat.le_of_ble_eq_true rfl)) dX11_isAtRest_97 ?_
            refine lv_topl (fun v_29 ev_29 => ?_)
            refine lv_aload_n hx hb dX11_isAtRest_98 rfl (lv_at hl 1 rfl) ?_
            refine sk_get (v := .ref (q 10)) (C := RX11) (T := TX11) (N := 18) hx hb hts inlX11 hown hK hP 0 rfl rfl 10 (Nat.le_of_ble_eq_true rfl) w_2_133 rfl dX11_isAtRest_99 ?_
            refine sk_get (v := .ref (q 65)) (C := RX9) (T := TX9) (N := 6) hx hb hts inlX9 hown hK hP 1 rfl rfl 4 (Nat.le_of_ble_eq_true rfl) w_2_74 rfl dX11_isAtRest_102 ?_
            refine lv_iload_n hx hb dX11_isAtRest_105 rfl (lv_at hl 0 rfl) ?_
            refine lv_bipush (v := 10) hx hb dX11_isAtRest_106 (by decide) ?_
            refine lv_imul hx hb dX11_isAtRest_108 ?_
            refine sk_top (nI (i * 10)) (nmul i 10) ?_
            refine lv_aload_n hx hb dX11_isAtRest_109 rfl (lv_at hl 1 rfl) ?_
            refine sk_get (v := .ref (q 12)) (C := RX11) (T := TX11) (N := 18) hx hb hts inlX11 hown hK hP 0 rfl rfl 12 (Nat.le_of_ble_eq_true rfl) w_2_135 rfl dX11_isAtRest_110 ?_
            refine lv_iload_n hx hb dX11_isAtRest_113 rfl (lv_at hl 0 rfl) ?_
            refine va_iald hx hb hK.1 hP 15 0 rfl rfl (vin i 9 (by omega) (Nat.le_of_ble_eq_true rfl)) dX11_isAtRest_114 ?_
            obtain ⟨k_30, hk_30, ek_30⟩ := rowOk_at (i := i) h12 (by omega) (by omega)
            refine sk_top (nI k_30) ek_30 ?_
            refine lv_iadd hx hb dX11_isAtRest_115 ?_
            refine sk_top (nI (i * 10 + k_30)) (nI_add (i * 10) k_30) ?_
            refine va_lald hx hb hK.1 hP 6 1 rfl rfl (vin (i * 10 + k_30) 90 (by omega) (Nat.le_of_ble_eq_true rfl)) dX11_isAtRest_116 ?_
            refine lv_topl (fun v_31 ev_31 => ?_)
            refine W.lcmp hx hb dX11_isAtRest_117 ?_
            refine lv_if_le (tgt := 123) hx hb dX11_isAtRest_118 (by decide) (fun c_32 => ?_) (fun c_32 => ?_)
            · skip
              refine lv_iinc (v := nI (i + 1)) (lv' := [(2, .int (nI (i + 1))), (0, .ref x0), (1, .int o)]) hx hb dX11_isAtRest_123 hl (k := 0) rfl (ninc i 1 (by decide)) (by decide) rfl (fun ls hl => ?_)
              refine lv_goto (tgt := 13) hx hb dX11_isAtRest_126 (by decide) ?_
              exact ih_lp_4 (i + 1) dy mo g1_15 g2_16 g3_19 ra2_25 _ _ _ (by omega) (by omega) hdy hmo hP hD hS (lv_sub hl [0, 1, 2] rfl)
            · skip
              refine lv_iconst (v := 0) hx hb dX11_isAtRest_121 ic_0 ?_
              exact sk_iret hx hb hr rfl hlocks hK hP hD hS (⟨dy, mo, 0, g1_15, g2_16, g3_19, ra2_1, ra2_25, hdy, hmo, by omega, rfl, rfl⟩) (Nat.le_of_ble_eq_true rfl) (Nat.le_of_ble_eq_true rfl) dX11_isAtRest_122
          · have c_24 : b_18 = 0 := (neq b_18 0 (by omega) (Nat.le_of_ble_eq_true rfl)).mp c_24
            refine lv_goto (tgt := 123) hx hb dX11_isAtRest_65 (by decide) ?_
            refine lv_iinc (v := nI (i + 1)) (lv' := [(2, .int (nI (i + 1))), (0, .ref x0), (1, .int o)]) hx hb dX11_isAtRest_123 hl (k := 0) rfl (ninc i 1 (by decide)) (by decide) rfl (fun ls hl => ?_)
            refine lv_goto (tgt := 13) hx hb dX11_isAtRest_126 (by decide) ?_
            exact ih_lp_4 (i + 1) dy mo g1_15 g2_16 g3_19 bc _ _ _ (by omega) (by omega) hdy hmo hP hD hS (lv_sub hl [0, 1, 2] rfl)
        · have c_12 : ¬ (b_7 = 0) := fun h => c_12 ((neq b_7 0 (by omega) (Nat.le_of_ble_eq_true rfl)).mpr h)
          refine lv_goto (tgt := 123) hx hb dX11_isAtRest_35 (by decide) ?_
          refine lv_iinc (v := nI (i + 1)) (lv' := [(2, .int (nI (i + 1))), (0, .ref x0), (1, .int o)]) hx hb dX11_isAtRest_123 hl (k := 0) rfl (ninc i 1 (by decide)) (by decide) rfl (fun ls hl => ?_)
          refine lv_goto (tgt := 13) hx hb dX11_isAtRest_126 (by decide) ?_
          exact ih_lp_4 (i + 1) zd zs b1 b2 b3 bc _ _ _ (by omega) (by omega) hzd hzs hP hD hS (lv_sub hl [0, 1, 2] rfl)
  exact lp_4 (dy - 0 + 1) 0 dy gs e1 e2 e3 rc _ _ _ (Nat.lt_succ_self _) (by omega) hdy hgs hP hD hS (lv_sub hl [0, 1, 2] rfl)
theorem dX11_serves_26 : decode cX11_serves 26 = .ok (.lookupswitch 53 #[(1, 26), (2, 47)], 26) := by decide +kernel
theorem dg_X11_serves_0_0 : bqL cX11_serves 0 [(0, [42]), (1, [180, 0, 85]), (4, [42]), (5, [180, 0, 59]), (8, [28]), (9, [3]), (10, [182, 0, 230]), (13, [42]), (14, [180, 0, 85]), (17, [182, 0, 234]), (20, [154, 0, 5]), (25, [27]), (52, [42]), (53, [180, 0, 85]), (56, [29]), (57, [182, 1, 6]), (60, [4]), (61, [21, 4]), (63, [120]), (64, [160, 0, 7]), (71, [3]), (72, [172]), (67, [4]), (68, [167, 0, 4]), (73, [42]), (74, [28]), (75, [182, 1, 78]), (78, [172]), (79, [4]), (80, [172]), (23, [3]), (24, [172])] = true := by decide +kernel
theorem dX11_serves_0 : decode cX11_serves 0 = .ok (.aload_n 0, 1) := q_aload_n0 (bat_get dg_X11_serves_0_0 0 rfl rfl)
theorem dX11_serves_1 : decode cX11_serves 1 = .ok (.getfield 85, 3) := q_getfield (bat_get dg_X11_serves_0_0 1 rfl rfl) rfl
theorem dX11_serves_4 : decode cX11_serves 4 = .ok (.aload_n 0, 1) := q_aload_n0 (bat_get dg_X11_serves_0_0 2 rfl rfl)
theorem dX11_serves_5 : decode cX11_serves 5 = .ok (.getfield 59, 3) := q_getfield (bat_get dg_X11_serves_0_0 3 rfl rfl) rfl
theorem dX11_serves_8 : decode cX11_serves 8 = .ok (.iload_n 2, 1) := q_iload_n2 (bat_get dg_X11_serves_0_0 4 rfl rfl)
theorem dX11_serves_9 : decode cX11_serves 9 = .ok (.iconst 0, 1) := q_iconst0 (bat_get dg_X11_serves_0_0 5 rfl rfl)
theorem dX11_serves_10 : decode cX11_serves 10 = .ok (.invokevirtual 230, 3) := q_invokevirtual (bat_get dg_X11_serves_0_0 6 rfl rfl) rfl
theorem dX11_serves_13 : decode cX11_serves 13 = .ok (.aload_n 0, 1) := q_aload_n0 (bat_get dg_X11_serves_0_0 7 rfl rfl)
theorem dX11_serves_14 : decode cX11_serves 14 = .ok (.getfield 85, 3) := q_getfield (bat_get dg_X11_serves_0_0 8 rfl rfl) rfl
theorem dX11_serves_17 : decode cX11_serves 17 = .ok (.invokevirtual 234, 3) := q_invokevirtual (bat_get dg_X11_serves_0_0 9 rfl rfl) rfl
theorem dX11_serves_20 : decode cX11_serves 20 = .ok (.ifCond .ne 5, 3) := q_ifCond_ne (bat_get dg_X11_serves_0_0 10 rfl rfl) rfl
theorem dX11_serves_25 : decode cX11_serves 25 = .ok (.iload_n 1, 1) := q_iload_n1 (bat_get dg_X11_serves_0_0 11 rfl rfl)
theorem dX11_serves_52 : decode cX11_serves 52 = .ok (.aload_n 0, 1) := q_aload_n0 (bat_get dg_X11_serves_0_0 12 rfl rfl)
theorem dX11_serves_53 : decode cX11_serves 53 = .ok (.getfield 85, 3) := q_getfield (bat_get dg_X11_serves_0_0 13 rfl rfl) rfl
theorem dX11_serves_56 : decode cX11_serves 56 = .ok (.iload_n 3, 1) := q_iload_n3 (bat_get dg_X11_serves_0_0 14 rfl rfl)
theorem dX11_serves_57 : decode cX11_serves 57 = .ok (.invokevirtual 262, 3) := q_invokevirtual (bat_get dg_X11_serves_0_0 15 rfl rfl) rfl
theorem dX11_serves_60 : decode cX11_serves 60 = .ok (.iconst 1, 1) := q_iconst1 (bat_get dg_X11_serves_0_0 16 rfl rfl)
theorem dX11_serves_61 : decode cX11_serves 61 = .ok (.iload 4, 2) := q_iload (bat_get dg_X11_serves_0_0 17 rfl rfl)
theorem dX11_serves_63 : decode cX11_serves 63 = .ok (.ishl, 1) := q_ishl (bat_get dg_X11_serves_0_0 18 rfl rfl)
theorem dX11_serves_64 : decode cX11_serves 64 = .ok (.if_icmp .ne 7, 3) := q_if_icmp_ne (bat_get dg_X11_serves_0_0 19 rfl rfl) rfl
theorem dX11_serves_71 : decode cX11_serves 71 = .ok (.iconst 0, 1) := q_iconst0 (bat_get dg_X11_serves_0_0 20 rfl rfl)
theorem dX11_serves_72 : decode cX11_serves 72 = .ok (.ireturn, 1) := q_ireturn (bat_get dg_X11_serves_0_0 21 rfl rfl)
theorem dX11_serves_67 : decode cX11_serves 67 = .ok (.iconst 1, 1) := q_iconst1 (bat_get dg_X11_serves_0_0 22 rfl rfl)
theorem dX11_serves_68 : decode cX11_serves 68 = .ok (.goto 4, 3) := q_goto (bat_get dg_X11_serves_0_0 23 rfl rfl) rfl
theorem dX11_serves_73 : decode cX11_serves 73 = .ok (.aload_n 0, 1) := q_aload_n0 (bat_get dg_X11_serves_0_0 24 rfl rfl)
theorem dX11_serves_74 : decode cX11_serves 74 = .ok (.iload_n 2, 1) := q_iload_n2 (bat_get dg_X11_serves_0_0 25 rfl rfl)
theorem dX11_serves_75 : decode cX11_serves 75 = .ok (.invokevirtual 334, 3) := q_invokevirtual (bat_get dg_X11_serves_0_0 26 rfl rfl) rfl
theorem dX11_serves_78 : decode cX11_serves 78 = .ok (.ireturn, 1) := q_ireturn (bat_get dg_X11_serves_0_0 27 rfl rfl)
theorem dX11_serves_79 : decode cX11_serves 79 = .ok (.iconst 1, 1) := q_iconst1 (bat_get dg_X11_serves_0_0 28 rfl rfl)
theorem dX11_serves_80 : decode cX11_serves 80 = .ok (.ireturn, 1) := q_ireturn (bat_get dg_X11_serves_0_0 29 rfl rfl)
theorem dX11_serves_23 : decode cX11_serves 23 = .ok (.iconst 0, 1) := q_iconst0 (bat_get dg_X11_serves_0_0 30 rfl rfl)
theorem dX11_serves_24 : decode cX11_serves 24 = .ok (.ireturn, 1) := q_ireturn (bat_get dg_X11_serves_0_0 31 rfl rfl)
theorem w_4_104 : (Cond.methodLink RX11 262 yX1_moodsOf) ∈ wsL_law := sk_mem (ck_4 _ (List.mem_of_getElem? (i := 104) rfl)) rfl
theorem w_4_105 : (Cond.instanceMethod yX1_moodsOf) ∈ wsL_law := sk_mem (ck_4 _ (List.mem_of_getElem? (i := 105) rfl)) rfl
theorem w_4_106 : (Cond.selects RX1 yX1_moodsOf yX1_moodsOf) ∈ wsL_law := sk_mem (ck_4 _ (List.mem_of_getElem? (i := 106) rfl)) rfl
theorem w_4_108 : (Cond.methodLink RX11 334 yX11_isAtRest) ∈ wsL_law := sk_mem (ck_4 _ (List.mem_of_getElem? (i := 108) rfl)) rfl
theorem w_4_110 : (Cond.instanceMethod yX11_isAtRest) ∈ wsL_law := sk_mem (ck_4 _ (List.mem_of_getElem? (i := 110) rfl)) rfl
theorem w_0_24 : (Cond.selects RX11 yX11_isAtRest yX11_isAtRest) ∈ wsL_law := sk_mem (ck_0 _ (List.mem_of_getElem? (i := 24) rfl)) rfl
theorem w_4_103 : (Cond.code yX11_serves cX11_serves 5 (some .boolean)) ∈ wsL_law := sk_mem (ck_4 _ (List.mem_of_getElem? (i := 103) rfl)) rfl
def om_17_1ffff : List Bool := true :: true :: true :: true :: true :: true :: true :: true :: true :: true :: true :: true :: true :: true :: true :: true :: true :: []
theorem hd_X1_moodsOf_1 : skD yX1_moodsOf 1 := by decide +kernel
theorem hd_X11_isAtRest_1 : skD yX11_isAtRest 1 := by decide +kernel
set_option maxHeartbeats 4000000 in
set_option maxRecDepth 100000 in
theorem c_x_serves (l : Launch) (D : va_G) (cI cJ cC cZ cS : ClassId) (x0 : Nat) (q : Nat → Nat) (hc : Int32) (dr : Int64) (sa : Nat → Nat) (ft : Nat → Int32) (fa : Nat → Int32) (fo : Nat → Int32) (fg : Nat → Int64) (fk : Nat → Int32) (dy : Nat) (mo : Nat) (wk : Int32) (mu : Int32) (ke : Int32) (fb : Nat → Int32) (fw : Nat → Int32) (gd : Nat) (gs : Nat) (e1 : Nat → Int32) (e2 : Nat → Int32) (e3 : Nat → Int32) (ra : Nat → Int32) (rc : Nat → Int32) (d : Nat) (a1 : Int32) (o : Int32) (w : Int32) (hsa : ∀ j, sa j ≤ 9) (hdy : dy ≤ 9) (hmo : mo ≤ 9) (hgd : gd ≤ 9) (hgs : gs ≤ 9) (hd : d < 9) : skM l yX11_serves cX11_serves 5 (some .boolean) 3 75 0 0 D (skT cI cJ cC cZ cS) [.ref x0, .int a1, .int o, .int (nI d), .int w] [ro_rrrrrrrrrrrrrrrirl x0 11 (q 0) (q 1) (q 2) (q 3) (q 4) (q 5) (q 6) (q 7) (q 8) (q 9) (q 10) (q 11) (q 12) (q 13) (q 14) hc (q 16) dr, ro_rrrrrr (q 10) 9 (q 61) (q 62) (q 63) (q 64) (q 65) (q 66), ra_N (q 61) cI 90 sa, ra_I (q 62) cI 900 ft, ra_I (q 63) cI 90 fa, ra_I (q 64) cI 90 fo, ra_J (q 65) cJ 90 fg, ra_I (q 66) cI 9 fk, ro_rrninii (q 7) 7 (q 33) (q 34) dy wk mo mu ke, ra_I (q 33) cI 9 fb, ra_I (q 34) cI 9 fw, ro_rrrrrrrnn (q 11) 1 (q 10) (q 67) (q 68) (q 69) (q 70) (q 71) (q 72) gd gs, ra_I (q 67) cI 90 e1, ra_I (q 68) cI 9 e2, ra_I (q 69) cI 10 e3, ra_I (q 12) cI 9 ra, ra_I (q 13) cI 9 rc] (skI D (skT cI cJ cC cZ cS) (fun (r : Int32) (u : va_W) => ∃ (gd2 : Nat), ∃ (gs2 : Nat), ∃ (b : Nat), ∃ (g1 : Nat → Int32), ∃ (g2 : Nat → Int32), ∃ (g3 : Nat → Int32), ∃ (ra2 : Nat → Int32), ∃ (rc2 : Nat → Int32), gd2 ≤ 9 ∧ gs2 ≤ 9 ∧ b ≤ 1 ∧ r = nI b ∧ u = [ro_rrrrrrrrrrrrrrrirl x0 11 (q 0) (q 1) (q 2) (q 3) (q 4) (q 5) (q 6) (q 7) (q 8) (q 9) (q 10) (q 11) (q 12) (q 13) (q 14) hc (q 16) dr, ro_rrrrrr (q 10) 9 (q 61) (q 62) (q 63) (q 64) (q 65) (q 66), ra_N (q 61) cI 90 sa, ra_I (q 62) cI 900 ft, ra_I (q 63) cI 90 fa, ra_I (q 64) cI 90 fo, ra_J (q 65) cJ 90 fg, ra_I (q 66) cI 9 fk, ro_rrninii (q 7) 7 (q 33) (q 34) dy wk mo mu ke, ra_I (q 33) cI 9 fb, ra_I (q 34) cI 9 fw, ro_rrrrrrrnn (q 11) 1 (q 10) (q 67) (q 68) (q 69) (q 70) (q 71) (q 72) gd2 gs2, ra_I (q 67) cI 90 g1, ra_I (q 68) cI 9 g2, ra_I (q 69) cI 10 g3, ra_I (q 12) cI 9 ra2, ra_I (q 13) cI 9 rc2])) := by
  refine skM_of pf_X11_serves (Nat.le_of_ble_eq_true rfl) ?_
  intro p e s m below meth c A ls E hP hD hl
  refine skE_el E (fun hx hb hr hml hlocks hin hown hts hK hA => ?_)
  have hown : s.vm.findClass RX11 = some m.cls := hown
  have hS : va_S A s.heap s.heap [] := va_S.rf
  have hl : lv_has ls 5 [(0, .ref x0), (1, .int a1), (2, .int o), (3, .int (nI d)), (4, .int w)] := hl
  refine lv_aload_n hx hb dX11_serves_0 rfl (lv_at hl 0 rfl) ?_
  refine sk_get (v := .ref (q 11)) (C := RX11) (T := TX11) (N := 18) hx hb hts inlX11 hown hK hP 0 rfl rfl 11 (Nat.le_of_ble_eq_true rfl) w_2_134 rfl dX11_serves_1 ?_
  refine lv_aload_n hx hb dX11_serves_4 rfl (lv_at hl 0 rfl) ?_
  refine sk_get (v := .ref (q 7)) (C := RX11) (T := TX11) (N := 18) hx hb hts inlX11 hown hK hP 0 rfl rfl 7 (Nat.le_of_ble_eq_true rfl) w_2_130 rfl dX11_serves_5 ?_
  refine lv_iload_n hx hb dX11_serves_8 rfl (lv_at hl 2 rfl) ?_
  refine lv_iconst (v := 0) hx hb dX11_serves_9 ic_0 ?_
  refine sk_Vv (q0 := 0) (n := 3) (rest := []) (wr := fmR om_17_f938 _) ⟨hx, hb, hml, hown, hts⟩ hl.1 (c_lay l D cI cJ cC cZ cS q gd gs e1 e2 sa ft fa fo (q 7) (q 33) (q 34) dy mo wk mu ke fb fw 0 o hsa hdy hmo (by omega)) w_4_47 w_4_48 w_4_49 w_1_13 w_4_50 hd_X1_lay_3 ⟨⟨(Nat.le_of_ble_eq_true rfl), (Nat.le_of_ble_eq_true rfl)⟩, (Nat.le_of_ble_eq_true rfl), (Nat.le_of_ble_eq_true rfl)⟩ hK hP hD hS hA [11, 12, 13, 1, 2, 3, 4, 5, 8] (fmF om_17_f938 0) rfl (fm_R rfl rfl) (by decide +kernel) (fm_nF om_17_f938 0) (by decide +kernel) rfl rfl rfl rfl (Nat.le_of_ble_eq_true rfl) dX11_serves_10 (fun u H locs hw hP hD hS => ?_)
  refine exE hw (fun g1_1 hw1 => exE hw1 (fun g2_2 eu_3 => ?_))
  clear hw hw1
  refine o_mgqE (ux := [ro_rrrrrr (q 10) 9 (q 61) (q 62) (q 63) (q 64) (q 65) (q 66), ra_N (q 61) cI 90 sa, ra_I (q 62) cI 900 ft, ra_I (q 63) cI 90 fa, ra_I (q 64) cI 90 fo, ro_rrninii (q 7) 7 (q 33) (q 34) dy wk mo mu ke, ro_rrrrrrrnn (q 11) 1 (q 10) (q 67) (q 68) (q 69) (q 70) (q 71) (q 72) dy mo, ra_I (q 67) cI 90 g1_1, ra_I (q 68) cI 9 g2_2]) (ws' := [ro_rrrrrrrrrrrrrrrirl x0 11 (q 0) (q 1) (q 2) (q 3) (q 4) (q 5) (q 6) (q 7) (q 8) (q 9) (q 10) (q 11) (q 12) (q 13) (q 14) hc (q 16) dr, ro_rrrrrr (q 10) 9 (q 61) (q 62) (q 63) (q 64) (q 65) (q 66), ra_N (q 61) cI 90 sa, ra_I (q 62) cI 900 ft, ra_I (q 63) cI 90 fa, ra_I (q 64) cI 90 fo, ra_J (q 65) cJ 90 fg, ra_I (q 66) cI 9 fk, ro_rrninii (q 7) 7 (q 33) (q 34) dy wk mo mu ke, ra_I (q 33) cI 9 fb, ra_I (q 34) cI 9 fw, ro_rrrrrrrnn (q 11) 1 (q 10) (q 67) (q 68) (q 69) (q 70) (q 71) (q 72) dy mo, ra_I (q 67) cI 90 g1_1, ra_I (q 68) cI 9 g2_2, ra_I (q 69) cI 10 e3, ra_I (q 12) cI 9 ra, ra_I (q 13) cI 9 rc]) eu_3 [3, 4, 5, 6, 7, 8, 0, 1, 2] (by decide +kernel) rfl hP hD rfl (fun hP hD => ?_)
  refine lv_aload_n hx hb dX11_serves_13 rfl (lv_at hl 0 rfl) ?_
  refine sk_get (v := .ref (q 11)) (C := RX11) (T := TX11) (N := 18) hx hb hts inlX11 hown hK hP 0 rfl rfl 11 (Nat.le_of_ble_eq_true rfl) w_2_134 rfl dX11_serves_14 ?_
  refine sk_Vi (q0 := 0) (n := 0) (rest := []) (wr := fmR om_17_3c _) ⟨hx, hb, hml, hown, hts⟩ hl.1 (c_settle l D cI cJ cC cZ cS q dy mo g1_1 g2_2 e3 hdy hmo) w_4_53 w_4_54 w_4_55 w_1_13 w_4_56 hd_X1_settle_0 ⟨⟨(Nat.le_of_ble_eq_true rfl), (Nat.le_of_ble_eq_true rfl)⟩, (Nat.le_of_ble_eq_true rfl), (Nat.le_of_ble_eq_true rfl)⟩ hK hP hD hS hA (fmT om_17_3c 0) (fmF om_17_3c 0) (fm_C1 rfl rfl) (fm_R rfl rfl) (fm_nT om_17_3c 0) (fm_nF om_17_3c 0) (fm_di om_17_3c 0) rfl rfl rfl rfl (Nat.le_of_ble_eq_true rfl) dX11_serves_17 (fun r_6 u H locs hw hP hD hS => ?_)
  refine exE hw (fun b_4 hw1 => exE hw1 (fun g3_5 hw2 => anE hw2 (fun hb1_7 hw3 => anE hw3 (fun er_9 eu_8 => ?_))))
  clear hw hw1 hw2 hw3
  subst er_9
  refine o_mgE (ws' := [ro_rrrrrrrrrrrrrrrirl x0 11 (q 0) (q 1) (q 2) (q 3) (q 4) (q 5) (q 6) (q 7) (q 8) (q 9) (q 10) (q 11) (q 12) (q 13) (q 14) hc (q 16) dr, ro_rrrrrr (q 10) 9 (q 61) (q 62) (q 63) (q 64) (q 65) (q 66), ra_N (q 61) cI 90 sa, ra_I (q 62) cI 900 ft, ra_I (q 63) cI 90 fa, ra_I (q 64) cI 90 fo, ra_J (q 65) cJ 90 fg, ra_I (q 66) cI 9 fk, ro_rrninii (q 7) 7 (q 33) (q 34) dy wk mo mu ke, ra_I (q 33) cI 9 fb, ra_I (q 34) cI 9 fw, ro_rrrrrrrnn (q 11) 1 (q 10) (q 67) (q 68) (q 69) (q 70) (q 71) (q 72) dy mo, ra_I (q 67) cI 90 g1_1, ra_I (q 68) cI 9 g2_2, ra_I (q 69) cI 10 g3_5, ra_I (q 12) cI 9 ra, ra_I (q 13) cI 9 rc]) eu_8 hP hD rfl (fun hP hD => ?_)
  refine lv_if_ne (tgt := 25) hx hb dX11_serves_20 (by decide) (fun c_10 => ?_) (fun c_10 => ?_)
  · have c_10 : ¬ (b_4 = 0) := fun h => c_10 ((neq b_4 0 (by omega) (Nat.le_of_ble_eq_true rfl)).mpr h)
    refine lv_iload_n hx hb dX11_serves_25 rfl (lv_at hl 1 rfl) ?_
    by_cases g_11 : a1 = 1
    · refine lv_lookup (off := 26) (tgt := 52) hx hb dX11_serves_26 (by decide) (by rw [g_11]; decide) (by decide) ?_
      refine lv_aload_n hx hb dX11_serves_52 rfl (lv_at hl 0 rfl) ?_
      refine sk_get (v := .ref (q 11)) (C := RX11) (T := TX11) (N := 18) hx hb hts inlX11 hown hK hP 0 rfl rfl 11 (Nat.le_of_ble_eq_true rfl) w_2_134 rfl dX11_serves_53 ?_
      refine lv_iload_n hx hb dX11_serves_56 rfl (lv_at hl 3 rfl) ?_
      refine sk_Vi (q0 := 0) (n := 1) (rest := []) (wr := fmR om_17_3c _) ⟨hx, hb, hml, hown, hts⟩ hl.1 (c_moodsOf l D cI cJ cC cZ cS q dy mo g1_1 g2_2 g3_5 d hdy hmo hd) w_4_104 w_4_105 w_4_106 w_1_13 w_4_107 hd_X1_moodsOf_1 ⟨⟨(Nat.le_of_ble_eq_true rfl), (Nat.le_of_ble_eq_true rfl)⟩, (Nat.le_of_ble_eq_true rfl), (Nat.le_of_ble_eq_true rfl)⟩ hK hP hD hS hA (fmT om_17_3c 0) (fmF om_17_3c 0) (fm_C1 rfl rfl) (fm_R rfl rfl) (fm_nT om_17_3c 0) (fm_nF om_17_3c 0) (fm_di om_17_3c 0) rfl rfl rfl rfl (Nat.le_of_ble_eq_true rfl) dX11_serves_57 (fun r_12 u H locs hw hP hD hS => ?_)
      refine o_mgE (ws' := [ro_rrrrrrrrrrrrrrrirl x0 11 (q 0) (q 1) (q 2) (q 3) (q 4) (q 5) (q 6) (q 7) (q 8) (q 9) (q 10) (q 11) (q 12) (q 13) (q 14) hc (q 16) dr, ro_rrrrrr (q 10) 9 (q 61) (q 62) (q 63) (q 64) (q 65) (q 66), ra_N (q 61) cI 90 sa, ra_I (q 62) cI 900 ft, ra_I (q 63) cI 90 fa, ra_I (q 64) cI 90 fo, ra_J (q 65) cJ 90 fg, ra_I (q 66) cI 9 fk, ro_rrninii (q 7) 7 (q 33) (q 34) dy wk mo mu ke, ra_I (q 33) cI 9 fb, ra_I (q 34) cI 9 fw, ro_rrrrrrrnn (q 11) 1 (q 10) (q 67) (q 68) (q 69) (q 70) (q 71) (q 72) dy mo, ra_I (q 67) cI 90 g1_1, ra_I (q 68) cI 9 g2_2, ra_I (q 69) cI 10 g3_5, ra_I (q 12) cI 9 ra, ra_I (q 13) cI 9 rc]) hw hP hD rfl (fun hP hD => ?_)
      refine lv_iconst (v := 1) hx hb dX11_serves_60 ic_1 ?_
      refine lv_iload hx hb dX11_serves_61 (lv_at hl 4 rfl) ?_
      refine lv_ishl hx hb dX11_serves_63 ?_
      refine lv_topi (fun v_13 ev_13 => ?_)
      refine lv_icmp_ne (tgt := 71) hx hb dX11_serves_64 (by decide) (fun c_14 => ?_) (fun c_14 => ?_)
      · skip
        refine lv_iconst (v := 0) hx hb dX11_serves_71 ic_0 ?_
        exact sk_iret hx hb hr rfl hlocks hK hP hD hS (⟨dy, mo, 0, g1_1, g2_2, g3_5, ra, rc, hdy, hmo, by omega, rfl, rfl⟩) (Nat.le_of_ble_eq_true rfl) (Nat.le_of_ble_eq_true rfl) dX11_serves_72
      · skip
        refine lv_iconst (v := 1) hx hb dX11_serves_67 ic_1 ?_
        refine lv_goto (tgt := 72) hx hb dX11_serves_68 (by decide) ?_
        exact sk_iret hx hb hr rfl hlocks hK hP hD hS (⟨dy, mo, 1, g1_1, g2_2, g3_5, ra, rc, hdy, hmo, by omega, rfl, rfl⟩) (Nat.le_of_ble_eq_true rfl) (Nat.le_of_ble_eq_true rfl) dX11_serves_72
    by_cases g_15 : a1 = 2
    · refine lv_lookup (off := 47) (tgt := 73) hx hb dX11_serves_26 (by decide) (by rw [g_15]; decide) (by decide) ?_
      refine lv_aload_n hx hb dX11_serves_73 rfl (lv_at hl 0 rfl) ?_
      refine lv_iload_n hx hb dX11_serves_74 rfl (lv_at hl 2 rfl) ?_
      refine sk_Vi (q0 := 0) (n := 1) (rest := []) (wr := fmR om_17_1ffff _) ⟨hx, hb, hml, hown, hts⟩ hl.1 (c_x_isAtRest l D cI cJ cC cZ cS x0 q hc dr sa ft fa fo fg fk dy mo wk mu ke fb fw mo g1_1 g2_2 g3_5 ra rc o hsa hdy hmo hmo) w_4_108 w_4_110 w_0_24 w_1_1 w_4_111 hd_X11_isAtRest_1 ⟨⟨(Nat.le_of_ble_eq_true rfl), (Nat.le_of_ble_eq_true rfl)⟩, (Nat.le_of_ble_eq_true rfl), (Nat.le_of_ble_eq_true rfl)⟩ hK hP hD hS hA (fmT om_17_1ffff 0) (fmF om_17_1ffff 0) (fm_C1 rfl rfl) (fm_R rfl rfl) (fm_nT om_17_1ffff 0) (fm_nF om_17_1ffff 0) (fm_di om_17_1ffff 0) rfl rfl rfl rfl (Nat.le_of_ble_eq_true rfl) dX11_serves_75 (fun r_24 u H locs hw hP hD hS => ?_)
      refine exE hw (fun gd2_16 hw1 => exE hw1 (fun gs2_17 hw2 => exE hw2 (fun b_18 hw3 => exE hw3 (fun g1_19 hw4 => exE hw4 (fun g2_20 hw5 => exE hw5 (fun g3_21 hw6 => exE hw6 (fun ra2_22 hw7 => exE hw7 (fun rc2_23 hw8 => anE hw8 (fun hgd2_25 hw9 => anE hw9 (fun hgs2_26 hw10 => anE hw10 (fun hb1_27 hw11 => anE hw11 (fun er_29 eu_28 => ?_))))))))))))
      clear hw hw1 hw2 hw3 hw4 hw5 hw6 hw7 hw8 hw9 hw10 hw11
      subst er_29
      refine o_mgE (ws' := [ro_rrrrrrrrrrrrrrrirl x0 11 (q 0) (q 1) (q 2) (q 3) (q 4) (q 5) (q 6) (q 7) (q 8) (q 9) (q 10) (q 11) (q 12) (q 13) (q 14) hc (q 16) dr, ro_rrrrrr (q 10) 9 (q 61) (q 62) (q 63) (q 64) (q 65) (q 66), ra_N (q 61) cI 90 sa, ra_I (q 62) cI 900 ft, ra_I (q 63) cI 90 fa, ra_I (q 64) cI 90 fo, ra_J (q 65) cJ 90 fg, ra_I (q 66) cI 9 fk, ro_rrninii (q 7) 7 (q 33) (q 34) dy wk mo mu ke, ra_I (q 33) cI 9 fb, ra_I (q 34) cI 9 fw, ro_rrrrrrrnn (q 11) 1 (q 10) (q 67) (q 68) (q 69) (q 70) (q 71) (q 72) gd2_16 gs2_17, ra_I (q 67) cI 90 g1_19, ra_I (q 68) cI 9 g2_20, ra_I (q 69) cI 10 g3_21, ra_I (q 12) cI 9 ra2_22, ra_I (q 13) cI 9 rc2_23]) eu_28 hP hD rfl (fun hP hD => ?_)
      exact sk_iret hx hb hr (nbool b_18 (by omega)) hlocks hK hP hD hS (⟨gd2_16, gs2_17, b_18, g1_19, g2_20, g3_21, ra2_22, rc2_23, hgd2_25, hgs2_26, hb1_27, rfl, rfl⟩) (Nat.le_of_ble_eq_true rfl) (Nat.le_of_ble_eq_true rfl) dX11_serves_78
    refine lv_lookup (off := 53) (tgt := 79) hx hb dX11_serves_26 (by decide) (by rw [lv_osw g_11 (by decide)]; rw [lv_osw g_15 (by decide)]; rfl) (by decide) ?_
    refine lv_iconst (v := 1) hx hb dX11_serves_79 ic_1 ?_
    exact sk_iret hx hb hr rfl hlocks hK hP hD hS (⟨dy, mo, 1, g1_1, g2_2, g3_5, ra, rc, hdy, hmo, by omega, rfl, rfl⟩) (Nat.le_of_ble_eq_true rfl) (Nat.le_of_ble_eq_true rfl) dX11_serves_80
  · have c_10 : b_4 = 0 := (neq b_4 0 (by omega) (Nat.le_of_ble_eq_true rfl)).mp c_10
    refine lv_iconst (v := 0) hx hb dX11_serves_23 ic_0 ?_
    exact sk_iret hx hb hr rfl hlocks hK hP hD hS (⟨dy, mo, 0, g1_1, g2_2, g3_5, ra, rc, hdy, hmo, by omega, rfl, rfl⟩) (Nat.le_of_ble_eq_true rfl) (Nat.le_of_ble_eq_true rfl) dX11_serves_24
