/-! a lock's text: days, mood, barges, wets, mute days, rain, all steps, where each sum's steps stand -/
abbrev LkS := Nat × Nat × (Nat → Nat) × (Nat → Nat) × (Nat → Bool) × Nat × List Nat × (Nat → Option (Nat × Nat))
abbrev LkR := Except Err (LkS × Cur)
abbrev lD (L : LkS) : Nat := L.1
abbrev lM (L : LkS) : Nat := L.2.1
abbrev lB (L : LkS) : Nat → Nat := L.2.2.1
abbrev lW (L : LkS) : Nat → Nat := L.2.2.2.1
abbrev lU (L : LkS) : Nat → Bool := L.2.2.2.2.1
abbrev lRn (L : LkS) : Nat := L.2.2.2.2.2.1
abbrev lK (L : LkS) : List Nat := L.2.2.2.2.2.2.1
abbrev lG (L : LkS) : Nat → Option (Nat × Nat) := L.2.2.2.2.2.2.2
def L0 (d m : Nat) : LkS := (d, m, fun _ => 0, fun _ => 0, fun _ => false, 0, [], fun _ => none)
def stB (L : LkS) (d v : Nat) : LkS := (lD L, lM L, updG (lB L) d v, lW L, lU L, lRn L, lK L, lG L)
def stW (L : LkS) (d v : Nat) : LkS := (lD L, lM L, lB L, updG (lW L) d v, lU L, lRn L, lK L, lG L)
def stU (L : LkS) (d : Nat) : LkS := (lD L, lM L, lB L, lW L, updG (lU L) d true, lRn L, lK L, lG L)
def stN (L : LkS) (v : Nat) : LkS := (lD L, lM L, lB L, lW L, lU L, v, lK L, lG L)
def stS (L : LkS) (w : Nat) (k : List Nat) : LkS := (lD L, lM L, lB L, lW L, lU L, lRn L, lK L ++ k, updG (lG L) w (some ((lK L).length, (lK L).length + k.length)))
def amtP (tb : Nat → Nat) (n d : Nat) (c : Cur) : Except Err ((Nat × Nat) × Cur) := bindR (numP tb n 0 (d - 1) (nx tb n c.1)) (fun x => bindR (numP tb n 0 9 x.2) (fun y => .ok ((x.1, y.1), y.2)))
def sumL (tb : Nat → Nat) (n : Nat) (L : LkS) (w kind : Nat) (c : Cur) : LkR := if (lG L w).isSome = true then .error (5, c.1) else bindR (sumD tb n kind 6 (nx tb n c.1)) (fun r => .ok (stS L w r.2, r.1))
def bodyP (tb : Nat → Nat) (n : Nat) (L : LkS) (c : Cur) : LkR :=
  if isW tb n (CWs.getD 2 []) c = true then bindR (amtP tb n (lD L) c) (fun x => .ok (stB L x.1.1 x.1.2, x.2))
  else if isW tb n (CWs.getD 3 []) c = true then bindR (amtP tb n (lD L) c) (fun x => .ok (stW L x.1.1 x.1.2, x.2))
  else if isW tb n (CWs.getD 4 []) c = true then bindR (numP tb n 0 (lD L - 1) (nx tb n c.1)) (fun x => if lU L x.1 = true then .error (2, (nx tb n c.1).1) else .ok (stU L x.1, x.2))
  else if isW tb n (CWs.getD 5 []) c = true then sumL tb n L 0 0 c
  else if isW tb n (CWs.getD 6 []) c = true then sumL tb n L 1 1 c
  else if isW tb n (CWs.getD 7 []) c = true then sumL tb n L 2 0 c
  else if isW tb n (CWs.getD 8 []) c = true then bindR (numP tb n 0 100 (nx tb n c.1)) (fun x => .ok (stN L x.1, x.2))
  else .error (1, c.1)
def stmP (tb : Nat → Nat) (n : Nat) (r : LkS × Cur) : LkR := bindR (bodyP tb n r.1 r.2) (fun r => bindR (signP tb n 59 r.2) (fun c => .ok (r.1, c)))
/-- statements, while some may still come -/
def stP (tb : Nat → Nat) (n : Nat) : Nat → LkS × Cur → Except Err (LkS × Nat)
  | 0, r => if n ≤ r.2.1 then .ok (r.1, 60) else .error (5, r.2.1)
  | f + 1, r => if n ≤ r.2.1 then .ok (r.1, 60 - (f + 1)) else bindR (stmP tb n r) (stP tb n f)
def openP (tb : Nat → Nat) (n : Nat) (c : Cur) : LkR := bindR (wordP tb n (CWs.getD 0 []) c) (fun c1 => bindR (numP tb n 2 9 c1) (fun d => bindR (wordP tb n (CWs.getD 1 []) d.2) (fun c2 => bindR (numP tb n 0 9 c2) (fun m => bindR (signP tb n 59 m.2) (fun c3 => .ok (L0 d.1 m.1, c3))))))
def lockP (tb : Nat → Nat) (n : Nat) : Except Err (LkS × Nat) := bindR (openP tb n (sk tb n 0, false)) (stP tb n 59)
/-! the class's lock -/
def muO (mu : Nat → Bool) (ju : Int32) : Prop := ∃ m : Nat, m < 512 ∧ ju = nI m ∧ ∀ d, d < 9 → m.testBit d = mu d
def sgO (g : Option (Nat × Nat)) (a b : Int32) : Prop := match g with
  | none => a = 0 ∧ b = 0
  | some p => a = nI p.1 ∧ b = nI p.2 ∧ p.1 < p.2 ∧ p.2 ≤ 1600
def lkC (L : LkS) (jd jm : Nat) (ju jr : Int32) (jc jx : Nat) (j1 jf jt jb jw : Nat → Int32) : Prop := jd = lD L ∧ jm = lM L ∧ (∀ j, j < 9 → jb j = nI (lB L j)) ∧ (∀ j, j < 9 → jw j = nI (lW L j)) ∧ muO (lU L) ju ∧ jr = nI (lRn L) ∧ cdK (lK L) jc jx j1 ∧ ∀ w, w < 3 → sgO (lG L w) (jf w) (jt w)
def lc (o : LkR) : Except Err Cur := bindR o (fun r => .ok r.2)
def lr (o : LkR) : Res := bindR o (fun r => .ok (r.2, lK r.1))
def ld (o : LkR) (F : Cur → Except Err Cur) : LkR := bindR o (fun r => bindR (F r.2) (fun c => .ok (r.1, c)))
def llO (tb : Nat → Nat) (n : Nat) (o : LkR) (xa : Nat) (xv xt : Int32) (xz : Nat) (xf xp : Int32) (jd jm : Nat) (ju jr : Int32) (jc jx : Nat) (j1 jf jt jb jw : Nat → Int32) : Prop := rdO tb n (lc o) xa xv xt xz xf xp ∧ ∀ r, o = .ok r → lkC r.1 jd jm ju jr jc jx j1 jf jt jb jw
theorem lc_ld (o : LkR) (F : Cur → Except Err Cur) : lc (ld o F) = bindR (lc o) F := by
  cases o with
  | error e => rfl
  | ok r =>
    show bindR (bindR (F r.2) (fun c => .ok (r.1, c))) _ = F r.2
    cases F r.2 <;> rfl
theorem ll_ld {tb : Nat → Nat} {n : Nat} {o : LkR} {xa : Nat} {xv xt : Int32} {xz : Nat} {xf xp : Int32} {ya : Nat} {yv yt : Int32} {yz : Nat} {yf yp : Int32} {jd jm : Nat} {ju jr : Int32} {jc jx : Nat} {j1 jf jt jb jw : Nat → Int32} {F : Cur → Except Err Cur} (h : llO tb n o xa xv xt xz xf xp jd jm ju jr jc jx j1 jf jt jb jw) (h2 : rdO tb n (bindR (lc o) F) ya yv yt yz yf yp) : llO tb n (ld o F) ya yv yt yz yf yp jd jm ju jr jc jx j1 jf jt jb jw := by
  refine ⟨by rw [lc_ld]; exact h2, fun q hq => ?_⟩
  obtain ⟨r, h3, h4⟩ := bindR_ok hq
  obtain ⟨c, h5, h6⟩ := bindR_ok h4
  cases h6
  exact h.2 r h3
theorem mu_bit {m d : Nat} (hm : m < 512) (hd : d < 9) : ((nI m >>> (nI d &&& 31)) &&& 1 = 1) ↔ m.testBit d = true := by
  exact bt_bit (by omega) (by omega)
theorem mu_or {m d : Nat} (hm : m < 512) (hd : d < 9) : nI m ||| ((1 : Int32) <<< (nI d &&& 31)) = nI (m ||| 2 ^ d) ∧ m ||| 2 ^ d < 512 := by
  exact bt_o1 (n := 9) (by decide) hm hd
theorem muO_bit {mu : Nat → Bool} {ju : Int32} {d : Nat} (h : muO mu ju) (hd : d < 9) : ((ju >>> (nI d &&& 31)) &&& 1 = 1) ↔ mu d = true := by
  obtain ⟨m, hm, rfl, hb⟩ := h
  rw [mu_bit hm hd, hb d hd]
theorem muO_or {mu : Nat → Bool} {ju : Int32} {d : Nat} (h : muO mu ju) (hd : d < 9) : muO (updG mu d true) (ju ||| ((1 : Int32) <<< (nI d &&& 31))) := by
  obtain ⟨m, hm, rfl, hb⟩ := h
  have h1 := mu_or hm hd
  refine ⟨m ||| 2 ^ d, h1.2, h1.1, fun j hj => ?_⟩
  rw [Nat.testBit_or, Nat.testBit_two_pow, hb j hj]
  unfold updG
  by_cases e : j = d
  · subst e; rw [if_pos rfl]; simp
  · rw [if_neg e]
    have : decide (d = j) = false := by rw [decide_eq_false_iff_not]; exact fun q => e q.symm
    rw [this, Bool.or_false]
theorem muO_0 : muO (fun _ => false) 0 := ⟨0, by decide, rfl, fun d _ => Nat.zero_testBit d⟩
/-! numbers, mute days: the reader's part -/
def amO (tb : Nat → Nat) (n d : Nat) (o : Except Err Cur) : Except Err Cur := bindR (bindR (bindR o (nxF tb n)) (nmF tb n 0 (d - 1))) (nmF tb n 0 9)
def amV (tb : Nat → Nat) (n d : Nat) (o : Except Err Cur) (dv mv : Nat) : Prop := dv < 9 ∧ nvO tb n 0 (d - 1) (bindR o (nxF tb n)) dv ∧ nvO tb n 0 9 (bindR (bindR o (nxF tb n)) (nmF tb n 0 (d - 1))) mv
def muF (mu : Nat → Bool) (dv w : Nat) (c : Cur) : Except Err Cur := if mu dv = true then .error (2, w) else .ok c
def mtO (tb : Nat → Nat) (n d : Nat) (mu : Nat → Bool) (dv w : Nat) (o : Except Err Cur) : Except Err Cur := bindR (bindR (bindR o (nxF tb n)) (nmF tb n 0 (d - 1))) (muF mu dv w)
def mtV (tb : Nat → Nat) (n d : Nat) (o : Except Err Cur) (dv w : Nat) : Prop := dv < 9 ∧ nvO tb n 0 (d - 1) (bindR o (nxF tb n)) dv ∧ ∀ c, o = .ok c → w = (nx tb n c.1).1
theorem mt_yes {tb : Nat → Nat} {n dv w : Nat} {mu : Nat → Bool} {o : Except Err Cur} {xa : Nat} {xv xt : Int32} {xz : Nat} {xf xp : Int32} (hm : mu dv = true) (h : rdO tb n (bindR o (fun _ => .error (2, w))) xa xv xt xz xf xp) : rdO tb n (bindR o (muF mu dv w)) xa xv xt xz xf xp := by
  have e : (fun _ : Cur => (Except.error (2, w) : Except Err Cur)) = muF mu dv w := by
    funext c; unfold muF; rw [if_pos hm]
  rw [← e]; exact h
theorem mt_no {tb : Nat → Nat} {n dv w : Nat} {mu : Nat → Bool} {o : Except Err Cur} {xa : Nat} {xv xt : Int32} {xz : Nat} {xf xp : Int32} (hm : ¬ mu dv = true) (h : rdO tb n o xa xv xt xz xf xp) : rdO tb n (bindR o (muF mu dv w)) xa xv xt xz xf xp := by
  have e : bindR o (muF mu dv w) = o := by
    cases o with
    | error e => rfl
    | ok c => show muF mu dv w c = _; unfold muF; rw [if_neg hm]
  rw [e]; exact h
theorem mt_er {tb : Nat → Nat} {n dv w : Nat} {mu : Nat → Bool} {o : Except Err Cur} {xa : Nat} {xv xt : Int32} {xz : Nat} {xf xp : Int32} (h : rdO tb n o xa xv xt xz xf xp) (hf : ¬ xf = 0) : rdO tb n (bindR o (muF mu dv w)) xa xv xt xz xf xp := by
  obtain ⟨e, he, hx⟩ := rdO_er h hf
  rw [he]; exact hx
theorem mt_w {tb : Nat → Nat} {n : Nat} {o : Except Err Cur} {xa : Nat} {xv xt : Int32} {xz : Nat} {xf xp : Int32} (h : rdO tb n (bindR o (nxF tb n)) xa xv xt xz xf xp) : ∀ c, o = .ok c → xz = (nx tb n c.1).1 := by
  intro c hc
  subst hc
  exact h.2.2.1
/-- what a statement of numbers does -/
def nbO (tb : Nat → Nat) (n d : Nat) (mu : Nat → Bool) (o : Except Err Cur) (t : Int32) (xa : Nat) (xv xt : Int32) (xz : Nat) (xf xp ju ju2 jr jr2 : Int32) (jb jb2 jw jw2 : Nat → Int32) : Prop :=
  (t = 258 ∧ ∃ dv mv, amV tb n d o dv mv ∧ rdO tb n (amO tb n d o) xa xv xt xz xf xp ∧ jb2 = upd jb dv (nI mv) ∧ jw2 = jw ∧ ju2 = ju ∧ jr2 = jr) ∨
  (t = 259 ∧ ∃ dv mv, amV tb n d o dv mv ∧ rdO tb n (amO tb n d o) xa xv xt xz xf xp ∧ jw2 = upd jw dv (nI mv) ∧ jb2 = jb ∧ ju2 = ju ∧ jr2 = jr) ∨
  (t = 260 ∧ ∃ dv w, mtV tb n d o dv w ∧ rdO tb n (mtO tb n d mu dv w o) xa xv xt xz xf xp ∧ muO (updG mu dv true) ju2 ∧ jb2 = jb ∧ jw2 = jw ∧ jr2 = jr) ∨
  (t = 264 ∧ ∃ v, nvO tb n 0 100 (bindR o (nxF tb n)) v ∧ rdO tb n (bindR (bindR o (nxF tb n)) (nmF tb n 0 100)) xa xv xt xz xf xp ∧ jr2 = nI v ∧ jb2 = jb ∧ jw2 = jw ∧ ju2 = ju) ∨
  (¬ t = 258 ∧ ¬ t = 259 ∧ ¬ t = 260 ∧ ¬ t = 264 ∧ rdO tb n (bindR o (hereF 1)) xa xv xt xz xf xp ∧ jb2 = jb ∧ jw2 = jw ∧ ju2 = ju ∧ jr2 = jr)

