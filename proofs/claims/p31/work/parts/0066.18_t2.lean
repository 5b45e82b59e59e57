theorem vd_up {tb : Nat → Nat} {x z w : Nat} (hx : x ≤ z) (h4 : z - x < 4) (h : w = vd tb x (min 4 (z - x))) (hb : 48 ≤ tb z) : w * 10 + tb z - 48 = vd tb x (min 4 (z + 1 - x)) := by
  rw [show min 4 (z + 1 - x) = (z - x) + 1 by omega, vd, show x + (z - x) = z by omega, h, show min 4 (z - x) = z - x by omega]
  omega
theorem vd_st {tb : Nat → Nat} {x z w : Nat} (h4 : ¬ (z - x < 4)) (h : w = vd tb x (min 4 (z - x))) : w = vd tb x (min 4 (z + 1 - x)) := by
  rw [h, show min 4 (z + 1 - x) = min 4 (z - x) by omega]
theorem vd_fin {tb : Nat → Nat} {n x z w : Nat} (h : w = vd tb x (min 4 (z - x))) (e : z = ext qD tb n x) : w = numV tb n x := by
  rw [h, e]; rfl
theorem vd_lt {tb : Nat → Nat} {a : Nat} : ∀ k, (∀ i, i < k → tb (a + i) ≤ 57) → vd tb a k < 10 ^ k
  | 0, _ => by show (0 : Nat) < 10 ^ 0; decide
  | k + 1, h => by
    have h1 := vd_lt k (fun i hi => h i (by omega))
    have h2 := h k (by omega)
    rw [vd, Nat.pow_succ]
    generalize 10 ^ k = p at *
    omega
theorem numV_le (tb : Nat → Nat) (n a : Nat) : numV tb n a ≤ 9999 := by
  unfold numV
  have h1 := vd_lt (tb := tb) (a := a) (min 4 (ext qD tb n a - a)) (fun i hi => (qD_t.mp (ext_all (n := n) (a := a) (j := a + i) (by omega) (by omega)).2).2)
  have h2 : 10 ^ (min 4 (ext qD tb n a - a)) ≤ 10 ^ 4 := Nat.pow_le_pow_right (by decide) (by omega)
  have h3 : (10 : Nat) ^ 4 = 10000 := by decide
  rw [h3] at h2
  omega
/-! the reader's fields: what was read so far -/
def teN (tb : Nat → Nat) (n a : Nat) : Nat := if a < n then te tb n a else a
def erO (e : Err) (xt xf xp : Int32) : Prop := xf = nI e.1 ∧ xp = nI e.2 ∧ 1 ≤ e.1 ∧ e.1 ≤ 5 ∧ e.2 ≤ 1700 ∧ xt = -2
def rdC (tb : Nat → Nat) (n : Nat) (c : Cur) (xa : Nat) (xv xt : Int32) (xz : Nat) (xf xp : Int32) : Prop := xf = 0 ∧ xp = -1 ∧ xz = c.1 ∧ c.1 ≤ n ∧ xt = tokOf tb n c ∧ xa = teN tb n c.1 ∧ (xt = -3 → xv = nI (numV tb n c.1))
def rdO (tb : Nat → Nat) (n : Nat) (o : Except Err Cur) (xa : Nat) (xv xt : Int32) (xz : Nat) (xf xp : Int32) : Prop := match o with
  | .ok c => rdC tb n c xa xv xt xz xf xp
  | .error e => erO e xt xf xp
/-- before a step: where it goes on, and whether a word or a number stood there -/
def stO (n : Nat) (b : Except Err Cur) (xa : Nat) (xt xf xp : Int32) : Prop := match b with
  | .ok c => xf = 0 ∧ xp = -1 ∧ xa = c.1 ∧ c.1 ≤ n ∧ (c.2 = true ↔ (xt = -3 ∨ (256 : Int32) ≤ xt))
  | .error e => erO e xt xf xp
def stF (tb : Nat → Nat) (n : Nat) (p : Cur) : Except Err Cur := .ok (sk tb n p.1, p.2 && sk tb n p.1 == p.1)
def beF (tb : Nat → Nat) (n : Nat) (c : Cur) : Except Err Cur := .ok (te tb n c.1, qL (tb c.1) || qD (tb c.1))
theorem stF_beF {tb : Nat → Nat} {n : Nat} (o : Except Err Cur) : bindR (bindR o (beF tb n)) (stF tb n) = bindR o (fun c => .ok (nx tb n c.1)) := by
  cases o <;> rfl
theorem er_ne {e : Err} {xt xf xp : Int32} (h : erO e xt xf xp) : ¬ xf = 0 := fun q => by
  obtain ⟨h1, -, h3, h4, -, -⟩ := h
  have := i_eq (h1.symm.trans q)
  rw [i_nI (by omega)] at this
  have e0 : ((0 : Int32)).toInt = 0 := by decide
  rw [e0] at this
  omega
theorem rdO_tok {tb : Nat → Nat} {n : Nat} {o : Except Err Cur} {xa : Nat} {xv xt : Int32} {xz : Nat} {xf xp : Int32} (h : rdO tb n o xa xv xt xz xf xp) (ht : ¬ xt = -2) : ∃ c, o = .ok c ∧ rdC tb n c xa xv xt xz xf xp := by
  cases o with
  | ok c => exact ⟨c, rfl, h⟩
  | error e => exact absurd h.2.2.2.2.2 ht
theorem rdO_er {tb : Nat → Nat} {n : Nat} {o : Except Err Cur} {xa : Nat} {xv xt : Int32} {xz : Nat} {xf xp : Int32} (h : rdO tb n o xa xv xt xz xf xp) (hf : ¬ xf = 0) : ∃ e, o = .error e ∧ erO e xt xf xp := by
  cases o with
  | ok c => exact absurd h.1 hf
  | error e => exact ⟨e, rfl, h⟩
theorem stO_ok {n : Nat} {b : Except Err Cur} {xa : Nat} {xt xf xp : Int32} (h : stO n b xa xt xf xp) (hf : xf = 0) : ∃ c : Cur, b = .ok c ∧ xp = -1 ∧ xa = c.1 ∧ c.1 ≤ n ∧ (c.2 = true ↔ (xt = -3 ∨ (256 : Int32) ≤ xt)) := by
  cases b with
  | ok c => exact ⟨c, rfl, h.2⟩
  | error e => exact absurd hf (er_ne h)
theorem te_le {tb : Nat → Nat} {n s : Nat} (h : s < n) : te tb n s ≤ n := by
  unfold te
  split
  · exact ext_le (by omega)
  · split
    · exact ext_le (by omega)
    · omega
/-- where a token can be stepped over -/
theorem rd_st {tb : Nat → Nat} {n : Nat} {o : Except Err Cur} {xa : Nat} {xv xt : Int32} {xz : Nat} {xf xp : Int32} (htb : ∀ j, tb j ≤ 255) (h : rdO tb n o xa xv xt xz xf xp) (hr : ¬ xt = -1 ∧ ¬ xt = -2) : stO n (bindR o (beF tb n)) xa xt xf xp := by
  cases o with
  | error e => exact h
  | ok c =>
    obtain ⟨h1, h2, h3, h4, h5, h6, -⟩ := h
    rw [h5] at hr
    have h9 := tok_real htb hr.1 hr.2
    refine ⟨h1, h2, ?_, te_le h9.1, by rw [h5]; exact h9.2⟩
    show xa = te tb n c.1
    rw [h6]; unfold teN; rw [if_pos h9.1]
theorem st_err {tb : Nat → Nat} {n : Nat} {b : Except Err Cur} {xa : Nat} {xv xt : Int32} {xz : Nat} {xf xp : Int32} (h : stO n b xa xt xf xp) (hf : ¬ xf = 0) : rdO tb n (bindR b (stF tb n)) xa xv xt xz xf xp := by
  cases b with
  | ok c => exact absurd h.1 hf
  | error e => exact h
/-- what was taken for what is behind: the place, or none -/
def bhO (c : Cur) (bh : Int32) : Prop := (c.2 = true ∧ bh = nI c.1) ∨ (c.2 = false ∧ bh = -1)
theorem bh_1 {c : Cur} {xa : Nat} {xt : Int32} (hx : xa = c.1) (h : c.2 = true ↔ (xt = -3 ∨ (256 : Int32) ≤ xt)) (ht : xt = -3 ∨ (256 : Int32) ≤ xt) : bhO c (nI xa) := Or.inl ⟨h.mpr ht, by rw [hx]⟩
theorem bh_2 {c : Cur} {xt : Int32} (h : c.2 = true ↔ (xt = -3 ∨ (256 : Int32) ≤ xt)) (ht : ¬ (xt = -3 ∨ (256 : Int32) ≤ xt)) : bhO c (-1) := Or.inr ⟨by
  cases hc : c.2 with
  | false => rfl
  | true => exact absurd (h.mp hc) ht, rfl⟩
/-- whether it stands side by side with what is behind -/
theorem bh_eq {c : Cur} {bh : Int32} {z : Nat} (h : bhO c bh) (hz : z < 2147483648) (hc : c.1 < 2147483648) : (nI z = bh) ↔ (c.2 && z == c.1) = true := by
  rcases h with ⟨h1, rfl⟩ | ⟨h1, rfl⟩
  · rw [h1, Bool.true_and, beq_iff_eq]; exact nI_eq (by omega) (by omega)
  · rw [h1, Bool.false_and]
    exact ⟨fun q => by have := i_eq q; rw [i_nI hz, i_m1] at this; omega, fun q => by cases q⟩
def tkU (tb : Nat → Nat) (n s : Nat) (yk yv : Int32) : Prop := (qL (tb s) = true ∧ yk = wordTok (wl tb n s)) ∨ (qL (tb s) = false ∧ qD (tb s) = true ∧ yk = -3 ∧ yv = nI (numV tb n s))
theorem st_end {tb : Nat → Nat} {n : Nat} {b : Except Err Cur} {c : Cur} {xv : Int32} {z : Nat} {xf xp : Int32} (hb : b = .ok c) (hf : xf = 0) (hp : xp = -1) (hn : c.1 ≤ n) (hz : z = sk tb n c.1) (h : n ≤ z) : rdO tb n (bindR b (stF tb n)) z xv (-1) z xf xp := by
  subst hb
  have hl : z ≤ n := by rw [hz]; exact ext_le hn
  refine ⟨hf, hp, hz, by rw [← hz]; omega, ?_, ?_, fun q => by have := i_eq q; rw [i_m1, i_m3] at this; omega⟩
  · unfold tokOf; rw [if_neg (by show ¬ sk tb n c.1 < n; omega)]
  · show z = teN tb n (sk tb n c.1)
    unfold teN; rw [if_neg (by omega)]; exact hz
theorem st_sign {tb : Nat → Nat} {n : Nat} {b : Except Err Cur} {c : Cur} {xv : Int32} {z : Nat} {xf xp : Int32} (htb : ∀ j, tb j ≤ 255) (hb : b = .ok c) (hf : xf = 0) (hp : xp = -1) (hz : z = sk tb n c.1) (h : z < n) (h1 : qL (tb z) = false) (h2 : qD (tb z) = false) : rdO tb n (bindR b (stF tb n)) (z + 1) xv (nI (tb z)) z xf xp := by
  subst hb
  subst hz
  have hx := htb (sk tb n c.1)
  refine ⟨hf, hp, rfl, Nat.le_of_lt h, ?_, ?_, fun q => ?_⟩
  · unfold tokOf
    dsimp only
    rw [if_pos h, h1, if_neg (by decide), h2, if_neg (by decide)]
  · unfold teN te
    dsimp only
    rw [if_pos h, h1, if_neg (by decide), h2, if_neg (by decide)]
  · have := i_eq q
    rw [i_nI (by omega), i_m3] at this
    omega
theorem st_wnE {tb : Nat → Nat} {n : Nat} {b : Except Err Cur} {c : Cur} {yv yk bh : Int32} {y z : Nat} {xf xp : Int32} (hb : b = .ok c) (hf : xf = 0) (hp : xp = -1) (hz : z = sk tb n c.1) (h : z < n) (hn : n ≤ 1600) (hc : c.1 ≤ n) (ht : tkU tb n z yk yv) (hy : y = te tb n z) (hbh : bhO c bh) (e : nI z = bh) : rdO tb n (bindR b (stF tb n)) y yv (-2) z xf xp := by
  have hfl := (bh_eq hbh (show z < 2147483648 by omega) (by omega)).mp e
  subst hb
  subst hz
  refine ⟨hf, hp, rfl, Nat.le_of_lt h, ?_, ?_, fun q => ?_⟩
  · unfold tokOf
    dsimp only
    rw [if_pos h]
    rcases ht with ⟨t1, -⟩ | ⟨t1, t2, -, -⟩
    · rw [if_pos t1, if_pos hfl]
    · rw [if_neg (by rw [t1]; decide), if_pos t2, if_pos hfl]
  · unfold teN
    dsimp only
    rw [if_pos h]; exact hy
  · have := i_eq q
    rw [i_m2, i_m3] at this
    omega
theorem st_wnN {tb : Nat → Nat} {n : Nat} {b : Except Err Cur} {c : Cur} {yv yk bh : Int32} {y z : Nat} {xf xp : Int32} (hb : b = .ok c) (hf : xf = 0) (hp : xp = -1) (hz : z = sk tb n c.1) (h : z < n) (hn : n ≤ 1600) (hc : c.1 ≤ n) (ht : tkU tb n z yk yv) (hy : y = te tb n z) (hbh : bhO c bh) (e : ¬ nI z = bh) : rdO tb n (bindR b (stF tb n)) y yv yk z xf xp := by
  have hfl : ¬ (c.2 && z == c.1) = true := fun q => e ((bh_eq hbh (show z < 2147483648 by omega) (by omega)).mpr q)
  subst hb
  subst hz
  refine ⟨hf, hp, rfl, Nat.le_of_lt h, ?_, ?_, fun q => ?_⟩
  · unfold tokOf
    dsimp only
    rw [if_pos h]
    rcases ht with ⟨t1, t2⟩ | ⟨t1, t2, t3, -⟩
    · rw [if_pos t1, if_neg hfl]; exact t2
    · rw [if_neg (by rw [t1]; decide), if_pos t2, if_neg hfl]; exact t3
  · unfold teN
    dsimp only
    rw [if_pos h]; exact hy
  · rcases ht with ⟨t1, t2⟩ | ⟨t1, t2, t3, t4⟩
    · exfalso
      rcases wt_cases (wl tb n (sk tb n c.1)) with ⟨w1, w2⟩ | ⟨j, w1, w2, w3⟩
      · rw [t2, w1] at q; have := i_eq q; rw [i_m3, i_m2] at this; omega
      · rw [t2, w3] at q; have := i_eq q; rw [i_m3, i_nI (by omega)] at this; omega
    · exact t4
theorem te_w {tb : Nat → Nat} {n z : Nat} (h : qL (tb z) = true) : te tb n z = ext qL tb n z := by unfold te; rw [if_pos h]
theorem te_n {tb : Nat → Nat} {n z : Nat} (h1 : qL (tb z) = false) (h : qD (tb z) = true) : te tb n z = ext qD tb n z := by unfold te; rw [if_neg (by rw [h1]; decide), if_pos h]
theorem qL_f {c : Nat} (h : ¬ (97 ≤ c ∧ c ≤ 122)) : qL c = false := by
  cases q : qL c with
  | false => rfl
  | true => exact absurd (qL_t.mp q) h
theorem qD_f {c : Nat} (h : ¬ (48 ≤ c ∧ c ≤ 57)) : qD c = false := by
  cases q : qD c with
  | false => rfl
  | true => exact absurd (qD_t.mp q) h
/-! what each call of the reader does to what was read -/
def nxF (tb : Nat → Nat) (n : Nat) (c : Cur) : Except Err Cur := .ok (nx tb n c.1)
def hereF (k : Nat) (c : Cur) : Except Err Cur := .error (k, c.1)
def tkF (tb : Nat → Nat) (n : Nat) (w : Int32) (c : Cur) : Except Err Cur := if tokOf tb n c = w then .ok (nx tb n c.1) else .error (1, c.1)
def nmF (tb : Nat → Nat) (n lo hi : Nat) (c : Cur) : Except Err Cur := bindR (numP tb n lo hi c) (fun r => .ok r.2)
def opF (tb : Nat → Nat) (n : Nat) (w : Int32) (xo : Nat) (c : Cur) : Except Err Cur := if tokOf tb n c = w then (if xo < 6 then .ok (nx tb n c.1) else .error (4, c.1)) else .error (1, c.1)
theorem stF_nx {tb : Nat → Nat} {n : Nat} (o : Except Err Cur) : bindR (bindR o (beF tb n)) (stF tb n) = bindR o (nxF tb n) := stF_beF o
theorem st_0 (tb : Nat → Nat) (n : Nat) : stO n (.ok (0, false)) 0 (-1) 0 (-1) := ⟨rfl, rfl, rfl, Nat.zero_le _, by decide⟩
theorem fail_er {tb : Nat → Nat} {n : Nat} {o : Except Err Cur} {xa : Nat} {xv xt : Int32} {xz : Nat} {xf xp : Int32} {f : Cur → Except Err Cur} (h : rdO tb n o xa xv xt xz xf xp) (hf : ¬ xf = 0) : rdO tb n (bindR o f) xa xv (-2) xz xf xp := by
  cases o with
  | ok c => exact absurd h.1 hf
  | error e => exact ⟨h.1, h.2.1, h.2.2.1, h.2.2.2.1, h.2.2.2.2.1, rfl⟩
theorem fail_ok {tb : Nat → Nat} {n : Nat} {o : Except Err Cur} {xa : Nat} {xv xt : Int32} {xz : Nat} {xf xp : Int32} {k w : Nat} (h : rdO tb n o xa xv xt xz xf xp) (hf : xf = 0) (hk : 1 ≤ k) (hk5 : k ≤ 5) (hw : w ≤ 1700) : rdO tb n (bindR o (fun _ => .error (k, w))) xa xv (-2) xz (nI k) (nI w) := by
  cases o with
  | ok c => exact ⟨rfl, rfl, hk, hk5, hw, rfl⟩
  | error e => exact absurd hf (er_ne h)
theorem rd_swap {tb : Nat → Nat} {n : Nat} {o : Except Err Cur} {xa : Nat} {xv xt : Int32} {xz : Nat} {xf xp : Int32} {f g : Cur → Except Err Cur} {ya : Nat} {yv yt : Int32} {yz : Nat} {yf yp : Int32} (h : rdO tb n o xa xv xt xz xf xp) (e : ∀ c, rdC tb n c xa xv xt xz xf xp → f c = g c) (hp : rdO tb n (bindR o f) ya yv yt yz yf yp) : rdO tb n (bindR o g) ya yv yt yz yf yp := by
  cases o with
  | error e => exact hp
  | ok c =>
    have : bindR (.ok c) f = bindR (.ok c) g := e c h
    rw [← this]; exact hp
theorem fh_eq {tb : Nat → Nat} {n : Nat} {o : Except Err Cur} {xa : Nat} {xv xt : Int32} {xz : Nat} {xf xp : Int32} {k : Nat} {yv yt : Int32} {ya yz : Nat} {yf yp : Int32} (h : rdO tb n o xa xv xt xz xf xp) (hp : rdO tb n (bindR o (fun _ => .error (k, xz))) ya yv yt yz yf yp) : rdO tb n (bindR o (hereF k)) ya yv yt yz yf yp :=
  rd_swap h (fun c hc => by rw [hc.2.2.1]; rfl) hp
theorem nd_t {tb : Nat → Nat} {n : Nat} {o : Except Err Cur} {xa : Nat} {xv xt : Int32} {xz : Nat} {xf xp : Int32} {w yv yt : Int32} {ya yz : Nat} {yf yp : Int32} (h : rdO tb n o xa xv xt xz xf xp) (e : xt = w) (hp : rdO tb n (bindR o (nxF tb n)) ya yv yt yz yf yp) : rdO tb n (bindR o (tkF tb n w)) ya yv yt yz yf yp :=
  rd_swap h (fun c hc => by unfold tkF; rw [if_pos (hc.2.2.2.2.1.symm.trans e)]; rfl) hp
theorem nd_f {tb : Nat → Nat} {n : Nat} {o : Except Err Cur} {xa : Nat} {xv xt : Int32} {xz : Nat} {xf xp : Int32} {w yv yt : Int32} {ya yz : Nat} {yf yp : Int32} (h : rdO tb n o xa xv xt xz xf xp) (e : ¬ xt = w) (hp : rdO tb n (bindR o (hereF 1)) ya yv yt yz yf yp) : rdO tb n (bindR o (tkF tb n w)) ya yv yt yz yf yp :=
  rd_swap h (fun c hc => by unfold tkF; rw [if_neg (fun q => e (hc.2.2.2.2.1.trans q))]; rfl) hp
theorem op_1 {tb : Nat → Nat} {n : Nat} {o : Except Err Cur} {xa : Nat} {xv xt : Int32} {xz : Nat} {xf xp : Int32} {xo : Nat} {w yv yt : Int32} {ya yz : Nat} {yf yp : Int32} (h : rdO tb n o xa xv xt xz xf xp) (e : xt = w) (hx : xo < 6) (hp : rdO tb n (bindR o (nxF tb n)) ya yv yt yz yf yp) : rdO tb n (bindR o (opF tb n w xo)) ya yv yt yz yf yp :=
  rd_swap h (fun c hc => by unfold opF; rw [if_pos (hc.2.2.2.2.1.symm.trans e), if_pos hx]; rfl) hp
theorem op_2 {tb : Nat → Nat} {n : Nat} {o : Except Err Cur} {xa : Nat} {xv xt : Int32} {xz : Nat} {xf xp : Int32} {xo : Nat} {w yv yt : Int32} {ya yz : Nat} {yf yp : Int32} (h : rdO tb n o xa xv xt xz xf xp) (e : xt = w) (hx : ¬ xo < 6) (hp : rdO tb n (bindR o (fun _ => .error (4, xz))) ya yv yt yz yf yp) : rdO tb n (bindR o (opF tb n w xo)) ya yv yt yz yf yp :=
  rd_swap h (fun c hc => by unfold opF; rw [if_pos (hc.2.2.2.2.1.symm.trans e), if_neg hx, hc.2.2.1]) hp
theorem op_3 {tb : Nat → Nat} {n : Nat} {o : Except Err Cur} {xa : Nat} {xv xt : Int32} {xz : Nat} {xf xp : Int32} {xo : Nat} {w yv yt : Int32} {ya yz : Nat} {yf yp : Int32} (h : rdO tb n o xa xv xt xz xf xp) (e : ¬ xt = w) (hp : rdO tb n (bindR o (hereF 1)) ya yv yt yz yf yp) : rdO tb n (bindR o (opF tb n w xo)) ya yv yt yz yf yp :=
  rd_swap h (fun c hc => by unfold opF; rw [if_neg (fun q => e (hc.2.2.2.2.1.trans q))]; rfl) hp
/-- a number: how the reader's numbers look at one -/
theorem nm_c {tb : Nat → Nat} {n : Nat} {o : Except Err Cur} {xa : Nat} {xv xt : Int32} {xz : Nat} {xf xp : Int32} (htb : ∀ j, tb j ≤ 255) (h : rdO tb n o xa xv xt xz xf xp) (e : xt = -3) : xv = nI (numV tb n xz) ∧ xz ≤ xa ∧ (∀ c, rdC tb n c xa xv xt xz xf xp → c.1 = xz ∧ xa = ext qD tb n xz ∧ (c.1 < n ∧ qD (tb c.1) = true ∧ c.2 = false)) := by
  have key : ∀ c, rdC tb n c xa xv xt xz xf xp → c.1 = xz ∧ xa = ext qD tb n xz ∧ (c.1 < n ∧ qD (tb c.1) = true ∧ c.2 = false) := by
    intro c hc
    obtain ⟨h1, h2, h3, h4, h5, h6, h7⟩ := hc
    have h8 := (tok_N htb).mp (h5.symm.trans e)
    have h9 := qD_t.mp h8.2.1
    refine ⟨h3.symm, ?_, h8⟩
    rw [h6, h3]; unfold teN; rw [if_pos h8.1]
    exact te_n (qL_f (by omega)) h8.2.1
  obtain ⟨c, ho, hc⟩ := rdO_tok h (by rw [e]; decide)
  have h8 := key c hc
  refine ⟨by rw [← h8.1]; exact hc.2.2.2.2.2.2 e, by rw [h8.2.1]; exact ext_ge _ _ _ _, key⟩
theorem nm_in {tb : Nat → Nat} {n lo hi xz xa : Nat} {c : Cur} (hc : c.1 = xz ∧ xa = ext qD tb n xz ∧ (c.1 < n ∧ qD (tb c.1) = true ∧ c.2 = false)) : numP tb n lo hi c = if 4 < xa - xz then .error (1, c.1 + 4) else if vd tb c.1 (xa - xz) < lo ∨ hi < vd tb c.1 (xa - xz) then .error (2, c.1) else .ok (vd tb c.1 (xa - xz), nx tb n c.1) := by
  unfold numP
  rw [if_pos hc.2.2, hc.1, ← hc.2.1]
theorem numV_in {tb : Nat → Nat} {n xz xa : Nat} (h : xa = ext qD tb n xz) (h4 : ¬ 4 < xa - xz) : numV tb n xz = vd tb xz (xa - xz) := by
  unfold numV; rw [← h, show min 4 (xa - xz) = xa - xz by omega]
