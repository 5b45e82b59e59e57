/-! the class's lock, statement by statement -/
theorem word_tk {tb : Nat → Nat} {n k : Nat} (htb : ∀ j, tb j ≤ 255) (hk : k < 28) : tkF tb n (nI (256 + k)) = wordP tb n (CWs.getD k []) := by
  funext c
  unfold tkF wordP
  by_cases h : isW tb n (CWs.getD k []) c = true
  · rw [if_pos h, if_pos ((tok_W htb hk).mpr h)]
  · rw [if_neg h, if_neg (fun q => h ((tok_W htb hk).mp q))]
theorem tk256 {tb : Nat → Nat} {n : Nat} (htb : ∀ j, tb j ≤ 255) : tkF tb n 256 = wordP tb n (CWs.getD 0 []) := word_tk (k := 0) htb (by decide)
theorem tk257 {tb : Nat → Nat} {n : Nat} (htb : ∀ j, tb j ≤ 255) : tkF tb n 257 = wordP tb n (CWs.getD 1 []) := word_tk (k := 1) htb (by decide)
theorem tk59 {tb : Nat → Nat} {n : Nat} (htb : ∀ j, tb j ≤ 255) : tkF tb n 59 = signP tb n 59 := tkF_sign (b := 59) htb (by decide)
theorem ll_t {tb : Nat → Nat} {n : Nat} {o : LkR} {xa : Nat} {xv xt : Int32} {xz : Nat} {xf xp : Int32} {jd jm : Nat} {ju jr : Int32} {jc jx : Nat} {j1 jf jt jb jw : Nat → Int32} {r : LkS × Cur} (h : llO tb n o xa xv xt xz xf xp jd jm ju jr jc jx j1 jf jt jb jw) (e : o = .ok r) : rdC tb n r.2 xa xv xt xz xf xp := by
  subst e; exact h.1
theorem opn_lc {tb : Nat → Nat} {n : Nat} (htb : ∀ j, tb j ≤ 255) (c : Cur) : lc (openP tb n c) = opnO tb n (.ok c) := by
  unfold lc openP opnO nmF
  rw [tk256 htb, tk257 htb, tk59 htb]
  show bindR (bindR (wordP tb n (CWs.getD 0 []) c) _) _ = bindR (bindR (bindR (bindR (wordP tb n (CWs.getD 0 []) c) _) _) _) _
  cases wordP tb n (CWs.getD 0 []) c with
  | error e => rfl
  | ok c1 =>
    show bindR (bindR (numP tb n 2 9 c1) _) _ = bindR (bindR (bindR (bindR (numP tb n 2 9 c1) _) _) _) _
    cases numP tb n 2 9 c1 with
    | error e => rfl
    | ok d =>
      show bindR (bindR (wordP tb n (CWs.getD 1 []) d.2) _) _ = bindR (bindR (wordP tb n (CWs.getD 1 []) d.2) _) _
      cases wordP tb n (CWs.getD 1 []) d.2 with
      | error e => rfl
      | ok c2 =>
        show bindR (bindR (numP tb n 0 9 c2) _) _ = bindR (bindR (numP tb n 0 9 c2) _) _
        cases numP tb n 0 9 c2 with
        | error e => rfl
        | ok m =>
          show bindR (bindR (signP tb n 59 m.2) _) _ = signP tb n 59 m.2
          cases signP tb n 59 m.2 <;> rfl
theorem ll_open {tb : Nat → Nat} {n : Nat} {c : Cur} {xa : Nat} {xv xt : Int32} {xz : Nat} {xf xp : Int32} {jd jm : Nat} {j1 jf jt jb jw : Nat → Int32} (htb : ∀ j, tb j ≤ 255) (h : rdO tb n (opnO tb n (.ok c)) xa xv xt xz xf xp) (hd : nvO tb n 2 9 (bindR (.ok c) (tkF tb n 256)) jd) (hm : nvO tb n 0 9 (bindR (bindR (bindR (.ok c) (tkF tb n 256)) (nmF tb n 2 9)) (tkF tb n 257)) jm) (hf : allV 0 3 jf) (ht : allV 0 3 jt) (hb : allV 0 9 jb) (hw : allV 0 9 jw) : llO tb n (openP tb n c) xa xv xt xz xf xp jd jm 0 0 0 0 j1 jf jt jb jw := by
  refine ⟨by rw [opn_lc htb]; exact h, fun r hr => ?_⟩
  obtain ⟨c1, h1, h2⟩ := bindR_ok hr
  obtain ⟨d, h3, h4⟩ := bindR_ok h2
  obtain ⟨c2, h5, h6⟩ := bindR_ok h4
  obtain ⟨m, h7, h8⟩ := bindR_ok h6
  obtain ⟨c3, h9, h10⟩ := bindR_ok h8
  cases h10
  have e1 : bindR (.ok c) (tkF tb n 256) = .ok c1 := by show tkF tb n 256 c = _; rw [tk256 htb]; exact h1
  have e2 : nmF tb n 2 9 c1 = .ok d.2 := by unfold nmF; rw [h3]; rfl
  have e3 : tkF tb n 257 d.2 = .ok c2 := by rw [tk257 htb]; exact h5
  refine ⟨hd c1 d e1 h3, hm c2 m (by rw [e1]; show bindR (nmF tb n 2 9 c1) _ = _; rw [e2]; exact e3) h7, hb, hw, muO_0, rfl, ⟨rfl, ⟨fun q => absurd q (by decide), fun q => by cases (show 44 ∈ ([] : List Nat) from q)⟩, fun j hj => absurd hj (Nat.not_lt_zero j)⟩, fun w hw => ⟨hf w hw, ht w hw⟩⟩
theorem muO_eq {mu nu : Nat → Bool} {ju : Int32} (h : muO mu ju) (h2 : muO nu ju) {d : Nat} (hd : d < 9) : mu d = nu d := by
  have a := muO_bit h hd
  have b := muO_bit h2 hd
  rw [a] at b
  cases hm : mu d with
  | true => exact (b.mp hm).symm
  | false =>
    cases hn : nu d with
    | false => rfl
    | true => rw [b.mpr hn] at hm; cases hm
theorem nb_mu {tb : Nat → Nat} {n d : Nat} {mu : Nat → Bool} {o : Except Err Cur} {t : Int32} {xa : Nat} {xv xt : Int32} {xz : Nat} {xf xp : Int32} {ju ju2 jr jr2 : Int32} {jb jb2 jw jw2 : Nat → Int32} (h : nbO tb n d mu o t xa xv xt xz xf xp ju ju2 jr jr2 jb jb2 jw jw2) (hm : muO mu ju) : ∃ nu, muO nu ju2 := by
  rcases h with ⟨-, dv, mv, -, -, -, -, e, -⟩ | ⟨-, dv, mv, -, -, -, -, e, -⟩ | ⟨-, dv, w, -, -, e, -, -, -⟩ | ⟨-, v, -, -, -, -, -, e⟩ | ⟨-, -, -, -, -, -, -, e, -⟩
  · exact ⟨mu, e ▸ hm⟩
  · exact ⟨mu, e ▸ hm⟩
  · exact ⟨_, e⟩
  · exact ⟨mu, e ▸ hm⟩
  · exact ⟨mu, e ▸ hm⟩
def bodyR (tb : Nat → Nat) (n : Nat) (r : LkS × Cur) : LkR := bodyP tb n r.1 r.2
theorem tkW {tb : Nat → Nat} {n k : Nat} {c : Cur} {t : Int32} (htb : ∀ j, tb j ≤ 255) (hk : k < 28) (ht : t = tokOf tb n c) : t = nI (256 + k) ↔ isW tb n (CWs.getD k []) c = true := by
  rw [ht]; exact tok_W htb hk
/-- which statement stands there, by the token -/
theorem body_tok {tb : Nat → Nat} {n : Nat} {L : LkS} {c : Cur} {t : Int32} (htb : ∀ j, tb j ≤ 255) (ht : t = tokOf tb n c) : bodyP tb n L c = (if t = 258 then bindR (amtP tb n (lD L) c) (fun x => .ok (stB L x.1.1 x.1.2, x.2)) else if t = 259 then bindR (amtP tb n (lD L) c) (fun x => .ok (stW L x.1.1 x.1.2, x.2)) else if t = 260 then bindR (numP tb n 0 (lD L - 1) (nx tb n c.1)) (fun x => if lU L x.1 = true then .error (2, (nx tb n c.1).1) else .ok (stU L x.1, x.2)) else if t = 261 then sumL tb n L 0 0 c else if t = 262 then sumL tb n L 1 1 c else if t = 263 then sumL tb n L 2 0 c else if t = 264 then bindR (numP tb n 0 100 (nx tb n c.1)) (fun x => .ok (stN L x.1, x.2)) else .error (1, c.1)) := by
  unfold bodyP
  have e2 : t = 258 ↔ isW tb n (CWs.getD 2 []) c = true := tkW (k := 2) htb (by decide) ht
  have e3 : t = 259 ↔ isW tb n (CWs.getD 3 []) c = true := tkW (k := 3) htb (by decide) ht
  have e4 : t = 260 ↔ isW tb n (CWs.getD 4 []) c = true := tkW (k := 4) htb (by decide) ht
  have e5 : t = 261 ↔ isW tb n (CWs.getD 5 []) c = true := tkW (k := 5) htb (by decide) ht
  have e6 : t = 262 ↔ isW tb n (CWs.getD 6 []) c = true := tkW (k := 6) htb (by decide) ht
  have e7 : t = 263 ↔ isW tb n (CWs.getD 7 []) c = true := tkW (k := 7) htb (by decide) ht
  have e8 : t = 264 ↔ isW tb n (CWs.getD 8 []) c = true := tkW (k := 8) htb (by decide) ht
  simp only [e2, e3, e4, e5, e6, e7, e8]
theorem am_lc {tb : Nat → Nat} {n d : Nat} {c : Cur} : amO tb n d (.ok c) = bindR (amtP tb n d c) (fun x => .ok x.2) := by
  unfold amO amtP nmF
  show bindR (bindR (numP tb n 0 (d - 1) (nx tb n c.1)) _) _ = _
  cases numP tb n 0 (d - 1) (nx tb n c.1) with
  | error e => rfl
  | ok x =>
    show bindR (numP tb n 0 9 x.2) _ = bindR (bindR (numP tb n 0 9 x.2) _) _
    cases numP tb n 0 9 x.2 <;> rfl
theorem am_val {tb : Nat → Nat} {n d dv mv : Nat} {c : Cur} {x : (Nat × Nat) × Cur} (h : amV tb n d (.ok c) dv mv) (hx : amtP tb n d c = .ok x) : dv = x.1.1 ∧ mv = x.1.2 := by
  obtain ⟨y, h1, h2⟩ := bindR_ok hx
  obtain ⟨z, h3, h4⟩ := bindR_ok h2
  cases h4
  refine ⟨h.2.1 _ y rfl h1, h.2.2 y.2 z ?_ h3⟩
  show bindR (numP tb n 0 (d - 1) (nx tb n c.1)) _ = _
  rw [h1]; rfl
theorem row_up {f : Nat → Int32} {b : Nat → Nat} {d v : Nat} (h : ∀ j, j < 9 → f j = nI (b j)) : ∀ j, j < 9 → upd f d (nI v) j = nI (updG b d v j) := by
  intro j hj
  unfold upd updG
  by_cases e : j = d
  · rw [if_pos e, if_pos e]
  · rw [if_neg e, if_neg e]; exact h j hj
theorem mu_cg {mu nu : Nat → Bool} {d : Nat} {ju : Int32} (hd : d < 9) (h : muO (updG mu d true) ju) (e : ∀ j, j < 9 → mu j = nu j) : muO (updG nu d true) ju := by
  obtain ⟨m, hm, e1, hb⟩ := h
  refine ⟨m, hm, e1, fun j hj => ?_⟩
  rw [hb j hj]
  unfold updG
  by_cases q : j = d
  · rw [if_pos q, if_pos q]
  · rw [if_neg q, if_neg q]; exact e j hj
/-- numbers -/
theorem ll_nb {tb : Nat → Nat} {n : Nat} {o : LkR} {mu : Nat → Bool} {xa : Nat} {xv xt : Int32} {xz : Nat} {xf xp : Int32} {ya : Nat} {yv yt : Int32} {yz : Nat} {yf yp : Int32} {jd jm : Nat} {ju jr : Int32} {jc jx : Nat} {j1 jf jt jb jw : Nat → Int32} {ju2 jr2 : Int32} {jb2 jw2 : Nat → Int32} (htb : ∀ j, tb j ≤ 255) (h : llO tb n o xa xv xt xz xf xp jd jm ju jr jc jx j1 jf jt jb jw) (hmu : muO mu ju) (h1 : ¬ xt = 261) (h2 : ¬ xt = 262) (h3 : ¬ xt = 263) (hn : nbO tb n jd mu (lc o) xt ya yv yt yz yf yp ju ju2 jr jr2 jb jb2 jw jw2) : llO tb n (bindR o (bodyR tb n)) ya yv yt yz yf yp jd jm ju2 jr2 jc jx j1 jf jt jb2 jw2 := by
  cases o with
  | error e =>
    refine ⟨?_, fun r hr => by cases hr⟩
    rcases hn with ⟨-, dv, mv, -, q, -⟩ | ⟨-, dv, mv, -, q, -⟩ | ⟨-, dv, w, -, q, -⟩ | ⟨-, v, -, q, -⟩ | ⟨-, -, -, -, q, -⟩ <;> exact q
  | ok r =>
    obtain ⟨L, c⟩ := r
    have ht : xt = tokOf tb n c := (ll_t h rfl).2.2.2.2.1
    obtain ⟨k1, k2, k3, k4, k5, k6, k7, k8⟩ := h.2 _ rfl
    have hb : bindR (.ok (L, c)) (bodyR tb n) = bodyP tb n L c := rfl
    rw [hb, body_tok htb ht]
    have hl : lc (.ok (L, c)) = .ok c := rfl
    rw [hl] at hn
    have k1' : lD L = jd := k1.symm
    rcases hn with ⟨t0, dv, mv, hv, q, e1, e2, e3, e4⟩ | ⟨t0, dv, mv, hv, q, e1, e2, e3, e4⟩ | ⟨t0, dv, w, hv, q, e1, e2, e3, e4⟩ | ⟨t0, v, hv, q, e1, e2, e3, e4⟩ | ⟨t1, t2, t3, t4, q, e1, e2, e3, e4⟩
    · rw [if_pos t0]
      rw [am_lc] at q
      have hv1 : amV tb n (lD L) (.ok c) dv mv := by rw [k1']; exact hv
      refine ⟨?_, fun s hs => ?_⟩
      · rw [k1']
        show rdO tb n (bindR (bindR _ _) _) ya yv yt yz yf yp
        rw [bindR_assoc]; exact q
      · obtain ⟨x, h5, h6⟩ := bindR_ok hs
        cases h6
        have h7 := am_val hv1 h5
        refine ⟨k1, k2, ?_, by rw [e2]; exact k4, by rw [e3]; exact k5, by rw [e4]; exact k6, k7, k8⟩
        rw [e1, h7.1, h7.2]; exact row_up k3
    · rw [if_neg (by rw [t0]; decide), if_pos t0]
      rw [am_lc] at q
      have hv1 : amV tb n (lD L) (.ok c) dv mv := by rw [k1']; exact hv
      refine ⟨?_, fun s hs => ?_⟩
      · rw [k1']
        show rdO tb n (bindR (bindR _ _) _) ya yv yt yz yf yp
        rw [bindR_assoc]; exact q
      · obtain ⟨x, h5, h6⟩ := bindR_ok hs
        cases h6
        have h7 := am_val hv1 h5
        refine ⟨k1, k2, by rw [e2]; exact k3, ?_, by rw [e3]; exact k5, by rw [e4]; exact k6, k7, k8⟩
        rw [e1, h7.1, h7.2]; exact row_up k4
    · rw [if_neg (by rw [t0]; decide), if_neg (by rw [t0]; decide), if_pos t0, k1']
      obtain ⟨v1, v2, v3⟩ := hv
      have v4 := v3 c rfl
      have q' : rdO tb n (bindR (bindR (numP tb n 0 (jd - 1) (nx tb n c.1)) (fun r => .ok r.2)) (muF mu dv w)) ya yv yt yz yf yp := q
      cases hx : numP tb n 0 (jd - 1) (nx tb n c.1) with
      | error e =>
        rw [hx] at q'
        exact ⟨q', fun s hs => by cases hs⟩
      | ok x =>
        rw [hx] at q'
        have v5 := v2 _ x rfl hx
        have v6 : mu dv = lU L dv := muO_eq hmu k5 v1
        have q2 : rdO tb n (muF mu dv w x.2) ya yv yt yz yf yp := q'
        unfold muF at q2
        rw [v6, v5] at q2
        show llO tb n (if lU L x.1 = true then .error (2, (nx tb n c.1).1) else .ok (stU L x.1, x.2)) _ _ _ _ _ _ _ _ _ _ _ _ _ _ _ _ _
        by_cases hu : lU L x.1 = true
        · rw [if_pos hu] at q2 ⊢
          rw [v4] at q2
          exact ⟨q2, fun s hs => by cases hs⟩
        · rw [if_neg hu] at q2 ⊢
          refine ⟨q2, fun s hs => ?_⟩
          cases hs
          refine ⟨k1, k2, by rw [e2]; exact k3, by rw [e3]; exact k4, ?_, by rw [e4]; exact k6, k7, k8⟩
          rw [v5] at e1 v1
          exact mu_cg v1 e1 (fun j hj => muO_eq hmu k5 hj)
    · rw [if_neg (by rw [t0]; decide), if_neg (by rw [t0]; decide), if_neg (by rw [t0]; decide), if_neg h1, if_neg h2, if_neg h3, if_pos t0]
      have q' : rdO tb n (bindR (numP tb n 0 100 (nx tb n c.1)) (fun r => .ok r.2)) ya yv yt yz yf yp := q
      cases hx : numP tb n 0 100 (nx tb n c.1) with
      | error e =>
        rw [hx] at q'
        exact ⟨q', fun s hs => by cases hs⟩
      | ok x =>
        rw [hx] at q'
        refine ⟨q', fun s hs => ?_⟩
        cases hs
        have v5 := hv _ x rfl hx
        exact ⟨k1, k2, by rw [e2]; exact k3, by rw [e3]; exact k4, by rw [e4]; exact k5, by rw [e1, v5]; rfl, k7, k8⟩
    · rw [if_neg t1, if_neg t2, if_neg t3, if_neg h1, if_neg h2, if_neg h3, if_neg t4]
      exact ⟨q, fun s hs => by cases hs⟩
/-- sums -/
def smO (tb : Nat → Nat) (n kn w : Nat) (o : Res) (xa : Nat) (xv xt : Int32) (xz : Nat) (xf xp : Int32) (jc jc2 jx2 : Nat) (j1' jf jf2 jt jt2 : Nat → Int32) : Prop :=
  (jf w < jt w ∧ rsO tb n (bd o (hereF 5)) xa xv xt xz xf xp jc2 jx2 j1' ∧ jf2 = jf ∧ jt2 = jt) ∨ (¬ jf w < jt w ∧ rsO tb n (bindR (bd o (nxF tb n)) (apF (sumOf tb n (rdPart tb n kn 6)))) xa xv xt xz xf xp jc2 jx2 j1' ∧ jf2 = upd jf w (nI jc) ∧ jt2 = upd jt w (nI jc2))
theorem rs_fh {tb : Nat → Nat} {n k : Nat} {o : Res} {xa : Nat} {xv xt : Int32} {xz : Nat} {xf xp : Int32} {ya : Nat} {yv yt : Int32} {yz : Nat} {yf yp : Int32} {cl mw : Nat} {f : Nat → Int32} {c2 w2 : Nat} {g : Nat → Int32} (h : rsO tb n o xa xv xt xz xf xp cl mw f) (h2 : rsO tb n (bd o (fun _ => .error (k, xz))) ya yv yt yz yf yp c2 w2 g) : rsO tb n (bd o (hereF k)) ya yv yt yz yf yp c2 w2 g := by
  have e : bd o (fun _ => .error (k, xz)) = bd o (hereF k) := by
    cases o with
    | error e => rfl
    | ok r =>
      have := (rs_c h rfl).2.2.1
      show bindR (Except.error (k, xz) : Except Err Cur) (fun c => Except.ok (c, r.2)) = bindR (hereF k r.1) (fun c => Except.ok (c, r.2))
      unfold hereF; rw [this]
  rw [← e]; exact h2
theorem lr_rs {tb : Nat → Nat} {n : Nat} {o : LkR} {xa : Nat} {xv xt : Int32} {xz : Nat} {xf xp : Int32} {jd jm : Nat} {ju jr : Int32} {jc jx : Nat} {j1 jf jt jb jw : Nat → Int32} (h : llO tb n o xa xv xt xz xf xp jd jm ju jr jc jx j1 jf jt jb jw) : rsO tb n (lr o) xa xv xt xz xf xp jc jx j1 := by
  refine ⟨?_, fun q hq => ?_⟩
  · have e : rc (lr o) = lc o := by cases o <;> rfl
    rw [e]; exact h.1
  · obtain ⟨r, h1, h2⟩ := bindR_ok hq
    cases h2
    exact (h.2 r h1).2.2.2.2.2.2.1
def len5 (o : LkR) : Prop := ∀ r, o = .ok r → (lK r.1).length + 5 ≤ r.2.1
theorem lr_len {o : LkR} (h : len5 o) : lenO (lr o) := fun q hq => by
  obtain ⟨r, h1, h2⟩ := bindR_ok hq
  cases h2
  have := h r h1
  show (lK r.1).length ≤ r.2.1
  omega
theorem sg_lt {g : Option (Nat × Nat)} {a b : Int32} (h : sgO g a b) : a < b ↔ g.isSome = true := by
  cases g with
  | none =>
    rw [h.1, h.2]
    exact ⟨fun q => absurd q (by decide), fun q => by cases q⟩
  | some p =>
    obtain ⟨h1, h2, h3, h4⟩ := h
    refine ⟨fun _ => rfl, fun _ => ?_⟩
    rw [h1, h2, Int32.lt_iff_toInt_lt, i_nI (by omega), i_nI (by omega)]
    omega
/-- a sum has a step at least -/
theorem mulLp_k {tb : Nat → Nat} {n : Nat} {P : Cur → Res} : ∀ f c k r, mulLp tb n P f c k = .ok r → k.length ≤ r.2.length
  | 0, c, k, r, h => by cases h
  | f + 1, c, k, r, h => by
    rw [mulLp] at h
    split at h
    · obtain ⟨a, h1, h2⟩ := bindR_ok h
      have := mulLp_k f _ _ _ h2
      rw [List.length_append, List.length_append] at this
      omega
    · split at h
      · obtain ⟨a, h1, h2⟩ := bindR_ok h
        have := mulLp_k f _ _ _ h2
        rw [List.length_append, List.length_append] at this
        omega
      · cases h; exact Nat.le_refl _
theorem addLp_k {tb : Nat → Nat} {n : Nat} {P : Cur → Res} : ∀ f c k r, addLp tb n P f c k = .ok r → k.length ≤ r.2.length
  | 0, c, k, r, h => by cases h
  | f + 1, c, k, r, h => by
    rw [addLp] at h
    split at h
    · obtain ⟨a, h1, h2⟩ := bindR_ok h
      have := addLp_k f _ _ _ h2
      rw [List.length_append, List.length_append] at this
      omega
    · split at h
      · obtain ⟨a, h1, h2⟩ := bindR_ok h
        have := addLp_k f _ _ _ h2
        rw [List.length_append, List.length_append] at this
        omega
      · cases h; exact Nat.le_refl _
def oneP (P : Cur → Res) : Prop := ∀ c r, P c = .ok r → 1 ≤ r.2.length
theorem one_sum {tb : Nat → Nat} {n : Nat} {P : Cur → Res} (hP : oneP P) : oneP (sumOf tb n P) := fun c r h => by
  obtain ⟨a, h1, h2⟩ := bindR_ok h
  obtain ⟨b, h3, h4⟩ := bindR_ok h1
  have q1 := hP _ _ h3
  have q2 := mulLp_k _ _ _ _ h4
  have q3 := addLp_k _ _ _ _ h2
  omega
theorem one_partB {tb : Nat → Nat} {n kind : Nat} {Q : Option (Cur → Res)} (hQ : ∀ P, Q = some P → oneP P) : oneP (partB tb n kind Q) := fun c r h => by
  unfold partB at h
  split at h
  · cases Q with
    | none => cases h
    | some P =>
      obtain ⟨a, h1, h2⟩ := bindR_ok h
      obtain ⟨c1, h3, h4⟩ := bindR_ok h2
      cases h4
      exact (one_sum (hQ P rfl) _ _ h1 : 1 ≤ a.2.length)
  · split at h
    · split at h
      · cases Q with
        | none => cases h
        | some P =>
          obtain ⟨a, h1, h2⟩ := bindR_ok h
          obtain ⟨c2, h3, h4⟩ := bindR_ok h2
          obtain ⟨a2, h5, h6⟩ := bindR_ok h4
          obtain ⟨c3, h7, h8⟩ := bindR_ok h6
          cases h8
          show 1 ≤ (a.2 ++ a2.2 ++ [_]).length
          rw [List.length_append, List.length_singleton]; omega
      · cases h
    · split at h
      · cases Q with
        | none => cases h
        | some P =>
          obtain ⟨a, h1, h2⟩ := bindR_ok h
          cases h2
          show 1 ≤ (a.2 ++ [60]).length
          rw [List.length_append, List.length_singleton]; omega
      · cases hk : partIx tb n kind c with
        | some k => rw [hk] at h; cases h; exact Nat.le_refl 1
        | none =>
          rw [hk] at h
          obtain ⟨a, h1, h2⟩ := bindR_ok h
          cases h2
          exact Nat.le_refl 1
