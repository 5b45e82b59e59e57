theorem kB_1 {c P Q : Prop} (h : c) (hp : P) : kB c P Q := Or.inl ⟨h, hp⟩
theorem kB_0 {c P Q : Prop} (h : ¬ c) (hp : Q) : kB c P Q := Or.inr ⟨h, hp⟩
theorem kIe {a b : Nat} {x : Int32} (h1 : x = nI a) (h2 : x = nI b) (ha : a < 2147483648) (hb : b < 2147483648) : a = b := (neq a b ha hb).mp (h1.symm.trans h2)
/-! has, kept -/
def kSum (U : Nat → Bool) (n : Nat) : Nat := kcS (fun d => if U d = true then 1 else 0) n
def hasV (dy wn mo : Nat) (U : Nat → Bool) (ke hn ac : Nat) (w : Int32) : Int32 := if w = 0 then nI dy else if w = 1 then nI wn else if w = 2 then nI mo else if w = 3 then nI (kSum U 9) else if w = 4 then nI (min ke 30) else if w = 5 then nI hn else if w = 6 then nI ac else -1
def keptX (lg : KLg) (ke j v : Nat) : Nat := if v = 0 then (lg (ke - min ke 30 + j)).1 else if v = 1 then (lg (ke - min ke 30 + j)).2.1 else (lg (ke - min ke 30 + j)).2.2
def keptR (lg : KLg) (ke : Nat) (k w : Int32) (r : Int64) : Prop := kR (fun x : Nat × Nat => x.1 < min ke 30 ∧ k = nI x.1 ∧ x.2 < 3 ∧ w = nI x.2) (r = -1000000000000000) (fun x => r = Int64.ofNat (keptX lg ke x.1 x.2))
theorem keptR_eq {lg : KLg} {ke : Nat} {k w : Int32} {r q : Int64} (h1 : keptR lg ke k w r) (h2 : keptR lg ke k w q) : r = q :=
  kR_eq h1 h2 (fun x y a b => Prod.ext (kIe a.2.1 b.2.1 (by omega) (by omega)) (kIe a.2.2.2 b.2.2.2 (by omega) (by omega))) (fun a b => a.trans b.symm) (fun _ a b => a.trans b.symm)
/-! what can be, of a state -/
def nOk (dy : Nat) (n : KN) : Prop := nWk n ≤ 999 ∧ nMo n ≤ 9 ∧ (∀ j, nBa n j ≤ 9) ∧ (∀ j, nWe n j ≤ 9) ∧ (∀ j, nMu n j = true → j < dy) ∧ nKe n ≤ nWk n
def sOk (dy : Nat) (n : KN) (ac : Nat) (su : Nat → KN) : Prop := nOk dy n ∧ ac ≤ 20 ∧ (∀ j, j < ac → nOk dy (su j)) ∧ (∀ i j, i ≤ j → j < ac → nKe (su i) ≤ nKe (su j)) ∧ ∀ j, j < ac → nKe (su j) ≤ nKe n
theorem sOk_push {dy ac : Nat} {n n2 : KN} {su : Nat → KN} (h : sOk dy n ac su) (h2 : nOk dy n2) (hk : nKe n ≤ nKe n2) : sOk dy n2 (min (ac + 1) 20) (psh ac su n) := by
  obtain ⟨a1, a2, a3, a4, a5⟩ := h
  unfold psh
  by_cases q : ac < 20
  · rw [if_pos q]
    refine ⟨h2, by omega, fun j hj => ?_, fun i j hi hj => ?_, fun j hj => ?_⟩
    · unfold updG
      by_cases e : j = ac
      · rw [if_pos e]; exact a1
      · rw [if_neg e]; exact a3 j (by omega)
    · unfold updG
      by_cases e : j = ac
      · rw [if_pos e]
        by_cases e2 : i = ac
        · rw [if_pos e2]; exact Nat.le_refl _
        · rw [if_neg e2]; exact a5 i (by omega)
      · rw [if_neg e, if_neg (show ¬ i = ac by omega)]; exact a4 i j hi (by omega)
    · unfold updG
      by_cases e : j = ac
      · rw [if_pos e]; exact hk
      · rw [if_neg e]; exact Nat.le_trans (a5 j (by omega)) hk
  · rw [if_neg q]
    refine ⟨h2, by omega, fun j hj => ?_, fun i j hi hj => ?_, fun j hj => ?_⟩
    · unfold updG
      by_cases e : j = 19
      · rw [if_pos e]; exact a1
      · rw [if_neg e]; unfold rotG; rw [if_pos (by omega)]; exact a3 (j + 1) (by omega)
    · unfold updG
      by_cases e : j = 19
      · rw [if_pos e]
        by_cases e2 : i = 19
        · rw [if_pos e2]; exact Nat.le_refl _
        · rw [if_neg e2]; unfold rotG; rw [if_pos (by omega)]; exact a5 (i + 1) (by omega)
      · rw [if_neg e, if_neg (show ¬ i = 19 by omega)]
        unfold rotG
        rw [if_pos (show i < 19 by omega), if_pos (show j < 19 by omega)]
        exact a4 (i + 1) (j + 1) (by omega) (by omega)
    · unfold updG
      by_cases e : j = 19
      · rw [if_pos e]; exact hk
      · rw [if_neg e]; unfold rotG; rw [if_pos (by omega)]; exact Nat.le_trans (a5 (j + 1) (by omega)) hk
theorem sOk_pop {dy ac : Nat} {n : KN} {su : Nat → KN} (h : sOk dy n ac su) (hc : 1 ≤ ac) : sOk dy (su (ac - 1)) (ac - 1) su :=
  ⟨h.2.2.1 _ (by omega), by have := h.2.1; omega, fun j hj => h.2.2.1 j (by omega), fun i j hi hj => h.2.2.2.1 i j hi (by omega), fun j hj => h.2.2.2.1 j (ac - 1) (by omega) (by omega)⟩
theorem sOk_none {dy : Nat} {n : KN} {su : Nat → KN} (h : nOk dy n) : sOk dy n 0 su := ⟨h, by omega, fun j hj => absurd hj (Nat.not_lt_zero j), fun i j _ hj => absurd hj (Nat.not_lt_zero j), fun j hj => absurd hj (Nat.not_lt_zero j)⟩
def lgOk (lg : KLg) : Prop := ∀ k, (lg k).1 ≤ 999 ∧ (lg k).2.1 ≤ 1000000000 ∧ (lg k).2.2 ≤ 9
theorem lgOk_up {lg : KLg} {k a b c : Nat} (h : lgOk lg) (h1 : a ≤ 999) (h2 : b ≤ 1000000000) (h3 : c ≤ 9) : lgOk (updG lg k (a, b, c)) := fun j => by
  unfold updG
  by_cases e : j = k
  · rw [if_pos e]; exact ⟨h1, h2, h3⟩
  · rw [if_neg e]; exact h j
def kOk (L : LkS) (dy : Nat) (n : KN) (lg : KLg) (ac : Nat) (su : Nat → KN) (hn : Nat) (hR : Nat → Nat) (sd : Nat) : Prop :=
  kcLk L ∧ (lK L).length ≤ 1600 ∧ dy ≤ 9 ∧ (1 ≤ dy → kcL9 L ∧ dy = lD L) ∧ sOk dy n ac su ∧ lgOk lg ∧ hn ≤ 16 ∧ (∀ j, j < hn → hR j < 10 * dy) ∧ sd < 2147483648
/-! acts: set, mute -/
def actP (n : KN) (ac : Nat) (su : Nat → KN) (rf : Nat → Int32) (n2 m2 : KN) (ac2 : Nat) (su2 : Nat → KN) (rf2 : Nat → Int32) : Prop := n2 = m2 ∧ ac2 = min (ac + 1) 20 ∧ su2 = psh ac su n ∧ rf2 = rf
def actN (n : KN) (ac : Nat) (su : Nat → KN) (rf : Nat → Int32) (w : Nat) (n2 : KN) (ac2 : Nat) (su2 : Nat → KN) (rf2 : Nat → Int32) : Prop := n2 = n ∧ ac2 = ac ∧ su2 = su ∧ rf2 = upd rf w (rf w + 1)
def setR (dy : Nat) (n : KN) (ac : Nat) (su : Nat → KN) (rf : Nat → Int32) (d w o r : Int32) (n2 : KN) (ac2 : Nat) (su2 : Nat → KN) (rf2 : Nat → Int32) : Prop :=
  kR (fun x : Nat × Nat => x.1 < dy ∧ d = nI x.1 ∧ x.2 < 10 ∧ o = nI x.2 ∧ ((w = 0 ∧ ¬ nBa n x.1 = x.2) ∨ (w = 1 ∧ ¬ nWe n x.1 = x.2)))
    (r = 0 ∧ actN n ac su rf 2 n2 ac2 su2 rf2)
    (fun x => r = 1 ∧ actP n ac su rf n2 (nWk n, nMo n, if w = 0 then updG (nBa n) x.1 x.2 else nBa n, if w = 0 then nWe n else updG (nWe n) x.1 x.2, nMu n, nKe n) ac2 su2 rf2)
def act5 (r q : Int32) (n2 n3 : KN) (ac2 ac3 : Nat) (su2 su3 : Nat → KN) (rf2 rf3 : Nat → Int32) : Prop := r = q ∧ n2 = n3 ∧ ac2 = ac3 ∧ su2 = su3 ∧ rf2 = rf3
theorem actP_5 {n : KN} {ac : Nat} {su : Nat → KN} {rf : Nat → Int32} {r q c : Int32} {n2 n3 m : KN} {ac2 ac3 : Nat} {su2 su3 : Nat → KN} {rf2 rf3 : Nat → Int32} (h1 : r = c ∧ actP n ac su rf n2 m ac2 su2 rf2) (h2 : q = c ∧ actP n ac su rf n3 m ac3 su3 rf3) : act5 r q n2 n3 ac2 ac3 su2 su3 rf2 rf3 := by
  obtain ⟨a, b1, b2, b3, b4⟩ := h1
  obtain ⟨e, c1, c2, c3, c4⟩ := h2
  exact ⟨a.trans e.symm, b1.trans c1.symm, b2.trans c2.symm, b3.trans c3.symm, b4.trans c4.symm⟩
theorem actN_5 {n : KN} {ac w : Nat} {su : Nat → KN} {rf : Nat → Int32} {r q c : Int32} {n2 n3 : KN} {ac2 ac3 : Nat} {su2 su3 : Nat → KN} {rf2 rf3 : Nat → Int32} (h1 : r = c ∧ actN n ac su rf w n2 ac2 su2 rf2) (h2 : q = c ∧ actN n ac su rf w n3 ac3 su3 rf3) : act5 r q n2 n3 ac2 ac3 su2 su3 rf2 rf3 := by
  obtain ⟨a, b1, b2, b3, b4⟩ := h1
  obtain ⟨e, c1, c2, c3, c4⟩ := h2
  exact ⟨a.trans e.symm, b1.trans c1.symm, b2.trans c2.symm, b3.trans c3.symm, b4.trans c4.symm⟩
theorem setR_eq {dy : Nat} {n : KN} {ac : Nat} {su : Nat → KN} {rf : Nat → Int32} {d w o r q : Int32} {n2 n3 : KN} {ac2 ac3 : Nat} {su2 su3 : Nat → KN} {rf2 rf3 : Nat → Int32} (h9 : dy ≤ 9) (h1 : setR dy n ac su rf d w o r n2 ac2 su2 rf2) (h2 : setR dy n ac su rf d w o q n3 ac3 su3 rf3) : act5 r q n2 n3 ac2 ac3 su2 su3 rf2 rf3 :=
  kR_eq h1 h2 (fun x y a b => Prod.ext (kIe a.2.1 b.2.1 (by omega) (by omega)) (kIe a.2.2.2.1 b.2.2.2.1 (by omega) (by omega))) (fun a b => actN_5 a b) (fun _ a b => actP_5 a b)
theorem updG_t {U : Nat → Bool} {k dy : Nat} {b : Bool} (h : ∀ j, U j = true → j < dy) (hk : k < dy) : ∀ j, updG U k b j = true → j < dy := fun j hj => by
  unfold updG at hj
  by_cases e : j = k
  · omega
  · rw [if_neg e] at hj; exact h j hj
theorem setR_ok {dy : Nat} {n : KN} {ac : Nat} {su : Nat → KN} {rf : Nat → Int32} {d w o r : Int32} {n2 : KN} {ac2 : Nat} {su2 : Nat → KN} {rf2 : Nat → Int32} (h : setR dy n ac su rf d w o r n2 ac2 su2 rf2) (hk : sOk dy n ac su) : sOk dy n2 ac2 su2 ∧ nKe n2 = nKe n := by
  rcases h with ⟨-, -, rfl, rfl, rfl, -⟩ | ⟨x, hx, -, rfl, rfl, rfl, -⟩
  · exact ⟨hk, rfl⟩
  · obtain ⟨b1, b2, b3, b4, b5, b6⟩ := hk.1
    refine ⟨sOk_push hk ⟨b1, b2, ?_, ?_, b5, b6⟩ (Nat.le_refl _), rfl⟩
    · show ∀ j, (if w = 0 then updG (nBa n) x.1 x.2 else nBa n) j ≤ 9
      split
      · exact updG_le b3 (by omega)
      · exact b3
    · show ∀ j, (if w = 0 then nWe n else updG (nWe n) x.1 x.2) j ≤ 9
      split
      · exact b4
      · exact updG_le b4 (by omega)
def muteR (dy : Nat) (n : KN) (ac : Nat) (su : Nat → KN) (rf : Nat → Int32) (d w r : Int32) (n2 : KN) (ac2 : Nat) (su2 : Nat → KN) (rf2 : Nat → Int32) : Prop :=
  kR (fun x : Nat => x < dy ∧ d = nI x ∧ ((w = 1 ∧ ¬ nMu n x = true) ∨ (w = 0 ∧ nMu n x = true)))
    (r = 0 ∧ actN n ac su rf 2 n2 ac2 su2 rf2)
    (fun x => r = 1 ∧ actP n ac su rf n2 (nWk n, nMo n, nBa n, nWe n, updG (nMu n) x (!nMu n x), nKe n) ac2 su2 rf2)
theorem muteR_eq {dy : Nat} {n : KN} {ac : Nat} {su : Nat → KN} {rf : Nat → Int32} {d w r q : Int32} {n2 n3 : KN} {ac2 ac3 : Nat} {su2 su3 : Nat → KN} {rf2 rf3 : Nat → Int32} (h9 : dy ≤ 9) (h1 : muteR dy n ac su rf d w r n2 ac2 su2 rf2) (h2 : muteR dy n ac su rf d w q n3 ac3 su3 rf3) : act5 r q n2 n3 ac2 ac3 su2 su3 rf2 rf3 :=
  kR_eq h1 h2 (fun x y a b => kIe a.2.1 b.2.1 (by omega) (by omega)) (fun a b => actN_5 a b) (fun _ a b => actP_5 a b)
theorem muteR_ok {dy : Nat} {n : KN} {ac : Nat} {su : Nat → KN} {rf : Nat → Int32} {d w r : Int32} {n2 : KN} {ac2 : Nat} {su2 : Nat → KN} {rf2 : Nat → Int32} (h : muteR dy n ac su rf d w r n2 ac2 su2 rf2) (hk : sOk dy n ac su) : sOk dy n2 ac2 su2 ∧ nKe n2 = nKe n := by
  rcases h with ⟨-, -, rfl, rfl, rfl, -⟩ | ⟨x, hx, -, rfl, rfl, rfl, -⟩
  · exact ⟨hk, rfl⟩
  · obtain ⟨b1, b2, b3, b4, b5, b6⟩ := hk.1
    exact ⟨sOk_push hk ⟨b1, b2, b3, b4, updG_t b5 hx.1, b6⟩ (Nat.le_refl _), rfl⟩
/-! weeks that go -/
theorem kLast_9 {L : LkS} {dy x : Nat} {n : KN} (hd : 1 ≤ dy) (hm : nMo n ≤ 9) (hx : x < kNum L dy n) : kLast L dy n x ≤ 9 := by
  have h1 := (kcA_ok (E := kE L n) (n := dy) (a0 := nMo n) (x := x) (by omega) hx (dy - 1 + 1) (by omega)).1
  have h2 : kLast L dy n x < 10 := h1
  omega
theorem nOk_pass {L : LkS} {dy x : Nat} {n : KN} (h : nOk dy n) (hd : 1 ≤ dy) (hw : nWk n < 999) (hx : x < kNum L dy n) : nOk dy (kPass L dy n x) := by
  obtain ⟨b1, b2, b3, b4, b5, b6⟩ := h
  exact ⟨by show nWk n + 1 ≤ 999; omega, kLast_9 hd b2 hx, b3, b4, b5, by show nKe n + 1 ≤ nWk n + 1; omega⟩
theorem lgOk_keep {L : LkS} {dy x : Nat} {n : KN} {lg : KLg} (h : nOk dy n) (hd : 1 ≤ dy) (h9 : dy ≤ 9) (hl : lgOk lg) (hx : x < kNum L dy n) : lgOk (kKeep L dy n lg x) := lgOk_up hl h.1 (kcC_9 _ h9 _ _) (kLast_9 hd h.2.1 hx)
def goR (L : LkS) (dy : Nat) (n : KN) (lg : KLg) (ac : Nat) (su : Nat → KN) (rf : Nat → Int32) (r : Int32) (n2 : KN) (lg2 : KLg) (ac2 : Nat) (su2 : Nat → KN) (rf2 : Nat → Int32) : Prop :=
  kB (1 ≤ dy ∧ nWk n < 999 ∧ 0 < kNum L dy n) (lg2 = kKeep L dy n lg 0 ∧ r = nI (kLast L dy n 0) ∧ actP n ac su rf n2 (kPass L dy n 0) ac2 su2 rf2) (lg2 = lg ∧ r = -1 ∧ actN n ac su rf 3 n2 ac2 su2 rf2)
theorem goR_eq {L : LkS} {dy : Nat} {n : KN} {lg : KLg} {ac : Nat} {su : Nat → KN} {rf : Nat → Int32} {r q : Int32} {n2 n3 : KN} {lg2 lg3 : KLg} {ac2 ac3 : Nat} {su2 su3 : Nat → KN} {rf2 rf3 : Nat → Int32} (h1 : goR L dy n lg ac su rf r n2 lg2 ac2 su2 rf2) (h2 : goR L dy n lg ac su rf q n3 lg3 ac3 su3 rf3) : lg2 = lg3 ∧ act5 r q n2 n3 ac2 ac3 su2 su3 rf2 rf3 :=
  kB_eq h1 h2 (fun a b => ⟨a.1.trans b.1.symm, actP_5 a.2 b.2⟩) (fun a b => ⟨a.1.trans b.1.symm, actN_5 a.2 b.2⟩)
theorem goR_ok {L : LkS} {dy : Nat} {n : KN} {lg : KLg} {ac : Nat} {su : Nat → KN} {rf : Nat → Int32} {r : Int32} {n2 : KN} {lg2 : KLg} {ac2 : Nat} {su2 : Nat → KN} {rf2 : Nat → Int32} (h : goR L dy n lg ac su rf r n2 lg2 ac2 su2 rf2) (h9 : dy ≤ 9) (hk : sOk dy n ac su) (hl : lgOk lg) : sOk dy n2 ac2 su2 ∧ lgOk lg2 := by
  rcases h with ⟨⟨c1, c2, c3⟩, rfl, -, rfl, rfl, rfl, -⟩ | ⟨-, rfl, -, rfl, rfl, rfl, -⟩
  · exact ⟨sOk_push hk (nOk_pass hk.1 c1 c2 c3) (Nat.le_succ _), lgOk_keep hk.1 c1 h9 hl c3⟩
  · exact ⟨hk, hl⟩
/-! weeks by the seed -/
abbrev KC := KN × KLg × Nat
def kchN (rn dy : Nat) (s : KC) : KN := (nWk s.1, nMo s.1, (kda rn (s.2.2, nBa s.1, nWe s.1) dy).2.1, (kda rn (s.2.2, nBa s.1, nWe s.1) dy).2.2, nMu s.1, nKe s.1)
def kchS (rn dy : Nat) (s : KC) : Nat := (kda rn (s.2.2, nBa s.1, nWe s.1) dy).1
def kchX (L : LkS) (dy : Nat) (s : KC) : Nat := kdv (kchS (lRn L) dy s) (kNum L dy (kchN (lRn L) dy s))
/-- one week by the seed, if it goes -/
def kch1 (L : LkS) (dy : Nat) (s : KC) : KC := (kPass L dy (kchN (lRn L) dy s) (kchX L dy s), kKeep L dy (kchN (lRn L) dy s) s.2.1 (kchX L dy s), kdr (kchS (lRn L) dy s))
def kch0 (L : LkS) (dy : Nat) (s : KC) : KC := (kchN (lRn L) dy s, s.2.1, kchS (lRn L) dy s)
def kch (L : LkS) (dy : Nat) : Nat → KC → KC × Nat
  | 0, s => (s, 0)
  | f + 1, s => if kNum L dy (kchN (lRn L) dy s) = 0 then (kch0 L dy s, 0) else ((kch L dy f (kch1 L dy s)).1, (kch L dy f (kch1 L dy s)).2 + 1)
theorem kch_no {L : LkS} {dy f : Nat} {s : KC} (h : kNum L dy (kchN (lRn L) dy s) = 0) : kch L dy (f + 1) s = (kch0 L dy s, 0) := if_pos h
theorem kch_go {L : LkS} {dy f : Nat} {s : KC} (h : 0 < kNum L dy (kchN (lRn L) dy s)) : kch L dy (f + 1) s = ((kch L dy f (kch1 L dy s)).1, (kch L dy f (kch1 L dy s)).2 + 1) := if_neg (by omega)
theorem kds_9 {rn d : Nat} {s : KDs} (h1 : ∀ j, s.2.1 j ≤ 9) (h2 : ∀ j, s.2.2 j ≤ 9) (h3 : s.1 < 2147483648) : (∀ j, (kds rn d s).2.1 j ≤ 9) ∧ (∀ j, (kds rn d s).2.2 j ≤ 9) ∧ (kds rn d s).1 < 2147483648 := by
  unfold kds
  split
  · exact ⟨h1, updG_le h2 (Nat.min_le_right _ _), kdr_lt _⟩
  · exact ⟨updG_le h1 (by have := kdv_lt (x := kdr s.1) (m := 10) (by decide); omega), h2, kdr_lt _⟩
theorem kda_9 {rn : Nat} {s : KDs} (h1 : ∀ j, s.2.1 j ≤ 9) (h2 : ∀ j, s.2.2 j ≤ 9) (h3 : s.1 < 2147483648) : ∀ d, (∀ j, (kda rn s d).2.1 j ≤ 9) ∧ (∀ j, (kda rn s d).2.2 j ≤ 9) ∧ (kda rn s d).1 < 2147483648
  | 0 => ⟨h1, h2, h3⟩
  | d + 1 => by
    obtain ⟨a, b, c⟩ := kda_9 (rn := rn) h1 h2 h3 d
    exact kds_9 a b c
def kcOk (dy : Nat) (s : KC) : Prop := nOk dy s.1 ∧ lgOk s.2.1 ∧ s.2.2 < 2147483648
theorem kcOk_0 {L : LkS} {dy : Nat} {s : KC} (h : kcOk dy s) : kcOk dy (kch0 L dy s) ∧ nKe (kch0 L dy s).1 = nKe s.1 := by
  obtain ⟨⟨b1, b2, b3, b4, b5, b6⟩, h2, h3⟩ := h
  obtain ⟨c1, c2, c3⟩ := kda_9 (rn := lRn L) (s := (s.2.2, nBa s.1, nWe s.1)) b3 b4 h3 dy
  exact ⟨⟨⟨b1, b2, c1, c2, b5, b6⟩, h2, c3⟩, rfl⟩
theorem kcOk_1 {L : LkS} {dy : Nat} {s : KC} (h : kcOk dy s) (hd : 1 ≤ dy) (h9 : dy ≤ 9) (hw : nWk s.1 < 999) (hn : 0 < kNum L dy (kchN (lRn L) dy s)) : kcOk dy (kch1 L dy s) ∧ nKe s.1 ≤ nKe (kch1 L dy s).1 := by
  have h0 := (kcOk_0 (L := L) h).1
  have hx : kchX L dy s < kNum L dy (kchN (lRn L) dy s) := kdv_lt hn
  have h1 : nOk dy (kchN (lRn L) dy s) := h0.1
  exact ⟨⟨nOk_pass h1 hd hw hx, lgOk_keep h1 hd h9 h.2.1 hx, kdr_lt _⟩, Nat.le_succ _⟩
theorem kcOk_n {L : LkS} {dy : Nat} (hd : 1 ≤ dy) (h9 : dy ≤ 9) : ∀ f s, kcOk dy s → nWk s.1 + f ≤ 999 → kcOk dy (kch L dy f s).1 ∧ nKe s.1 ≤ nKe (kch L dy f s).1.1
  | 0, s, h, _ => ⟨h, Nat.le_refl _⟩
  | f + 1, s, h, hw => by
    by_cases q : kNum L dy (kchN (lRn L) dy s) = 0
    · rw [kch_no q]
      have h1 := kcOk_0 (L := L) h
      exact ⟨h1.1, Nat.le_of_eq h1.2.symm⟩
    · rw [kch_go (by omega)]
      have h1 := kcOk_1 (L := L) h hd h9 (by omega) (by omega)
      have h2 := kcOk_n (L := L) hd h9 f (kch1 L dy s) h1.1 (by show nWk s.1 + 1 + f ≤ 999; omega)
      exact ⟨h2.1, Nat.le_trans h1.2 h2.2⟩
def chanceR (L : LkS) (dy : Nat) (n : KN) (lg : KLg) (ac : Nat) (su : Nat → KN) (sd : Nat) (rf : Nat → Int32) (c r : Int32) (n2 : KN) (lg2 : KLg) (ac2 : Nat) (su2 : Nat → KN) (sd2 : Nat) (rf2 : Nat → Int32) : Prop :=
  kR (fun x : Nat => 1 ≤ dy ∧ 1 ≤ x ∧ x ≤ 30 ∧ c = nI x ∧ nWk n + x ≤ 999) ((lg2 = lg ∧ sd2 = sd) ∧ r = -1 ∧ actN n ac su rf 3 n2 ac2 su2 rf2)
    (fun x => (lg2 = (kch L dy x (n, lg, sd)).1.2.1 ∧ sd2 = (kch L dy x (n, lg, sd)).1.2.2) ∧ r = nI (kch L dy x (n, lg, sd)).2 ∧ actP n ac su rf n2 (kch L dy x (n, lg, sd)).1.1 ac2 su2 rf2)
theorem chanceR_eq {L : LkS} {dy : Nat} {n : KN} {lg : KLg} {ac : Nat} {su : Nat → KN} {sd : Nat} {rf : Nat → Int32} {c r q : Int32} {n2 n3 : KN} {lg2 lg3 : KLg} {ac2 ac3 : Nat} {su2 su3 : Nat → KN} {sd2 sd3 : Nat} {rf2 rf3 : Nat → Int32} (h1 : chanceR L dy n lg ac su sd rf c r n2 lg2 ac2 su2 sd2 rf2) (h2 : chanceR L dy n lg ac su sd rf c q n3 lg3 ac3 su3 sd3 rf3) : (lg2 = lg3 ∧ sd2 = sd3) ∧ act5 r q n2 n3 ac2 ac3 su2 su3 rf2 rf3 :=
  kR_eq h1 h2 (fun x y a b => kIe a.2.2.2.1 b.2.2.2.1 (by omega) (by omega)) (fun a b => ⟨⟨a.1.1.trans b.1.1.symm, a.1.2.trans b.1.2.symm⟩, actN_5 a.2 b.2⟩) (fun _ a b => ⟨⟨a.1.1.trans b.1.1.symm, a.1.2.trans b.1.2.symm⟩, actP_5 a.2 b.2⟩)
