/-! the class's lock, statement by statement -/
theorem word_tk {tb : Nat → Nat} {n k : Nat} (htb : ∀ j, tb j ≤ 255) (hk : k < 28) : tkF tb n (nI (256 + k)) = wordP tb n (CWs.getD k []) := by
  funext c
  unfold tkF wordP
  by_cases h : isW tb n (CWs.getD k []) c = true
  · rw [if_pos h, if_pos ((tok_W htb hk).mpr h)]
  · rw [if_neg h, if_neg (fun q => h ((tok_W htb hk).mp q))]
theorem tk256 {tb : Nat → Nat} {n : Nat} (htb : ∀ j, tb j ≤ 255) : tkF tb n 256 = wordP tb n (CWs.getD 0 []) := word_tk (k := 0) htb (by decide)
theorem tk257 {tb : Nat → Nat} {n : Nat} (htb : ∀ j, tb j ≤ 255) : tkF tb n 257 = wordP tb n (CWs.getD 1 []) := word_tk (k := 1) htb (by decide)
theorem tk59 {tb : Nat → Nat} {n : Nat} (htb : ∀ j, tb j ≤ 255) : tkF tb n 59 = signP tb n 59 := tkF_sign (b := 59) htb (by decide)
theorem ll_t {tb : Nat → Nat} {n : Nat} {o : LkR} {xa : Nat} {xv xt : Int32} {xz : Nat} {xf xp : Int32} {jd jm : Nat} {ju jr : Int32} {jc jx : Nat} {j1 jf jt jb jw : Nat → Int32} {r : LkS × Cur} (h : llO tb n o xa xv xt xz xf xp jd jm ju jr jc jx j1 jf jt jb jw) (e : o = .ok r) : rdC tb n r.2 xa xv xt xz xf xp := by
  subst e; exact h.1
theorem opn_lc {tb : Nat → Nat} {n : Nat} (htb : ∀ j, tb j ≤ 255) (c : Cur) : lc (openP tb n c) = opnO tb n (.ok c) := by
  unfold lc openP opnO nmF
  rw [tk256 htb, tk257 htb, tk59 htb]
  show bindR (bindR (wordP tb n (CWs.getD 0 []) c) _) _ = bindR (bindR (bindR (bindR (wordP tb n (CWs.getD 0 []) c) _) _) _) _
  cases wordP tb n (CWs.getD 0 []) c with
  | error e => rfl
  | ok c1 =>
    show bindR (bindR (numP tb n 2 9 c1) _) _ = bindR (bindR (bindR (bindR (numP tb n 2 9 c1) _) _) _) _
    cases numP tb n 2 9 c1 with
    | error e => rfl
    | ok d =>
      show bindR (bindR (wordP tb n (CWs.getD 1 []) d.2) _) _ = bindR (bindR (wordP tb n (CWs.getD 1 []) d.2) _) _
      cases wordP tb n (CWs.getD 1 []) d.2 with
      | error e => rfl
      | ok c2 =>
        show bindR (bindR (numP tb n 0 9 c2) _) _ = bindR (bindR (numP tb n 0 9 c2) _) _
        cases numP tb n 0 9 c2 with
        | error e => rfl
        | ok m =>
          show bindR (bindR (signP tb n 59 m.2) _) _ = signP tb n 59 m.2
          cases signP tb n 59 m.2 <;> rfl
theorem ll_open {tb : Nat → Nat} {n : Nat} {c : Cur} {xa : Nat} {xv xt : Int32} {xz : Nat} {xf xp : Int32} {jd jm : Nat} {j1 jf jt jb jw : Nat → Int32} (htb : ∀ j, tb j ≤ 255) (h : rdO tb n (opnO tb n (.ok c)) xa xv xt xz xf xp) (hd : nvO tb n 2 9 (bindR (.ok c) (tkF tb n 256)) jd) (hm : nvO tb n 0 9 (bindR (bindR (bindR (.ok c) (tkF tb n 256)) (nmF tb n 2 9)) (tkF tb n 257)) jm) (hf : allV 0 3 jf) (ht : allV 0 3 jt) (hb : allV 0 9 jb) (hw : allV 0 9 jw) : llO tb n (openP tb n c) xa xv xt xz xf xp jd jm 0 0 0 0 j1 jf jt jb jw := by
  refine ⟨by rw [opn_lc htb]; exact h, fun r hr => ?_⟩
  obtain ⟨c1, h1, h2⟩ := bindR_ok hr
  obtain ⟨d, h3, h4⟩ := bindR_ok h2
  obtain ⟨c2, h5, h6⟩ := bindR_ok h4
  obtain ⟨m, h7, h8⟩ := bindR_ok h6
  obtain ⟨c3, h9, h10⟩ := bindR_ok h8
  cases h10
  have e1 : bindR (.ok c) (tkF tb n 256) = .ok c1 := by show tkF tb n 256 c = _; rw [tk256 htb]; exact h1
  have e2 : nmF tb n 2 9 c1 = .ok d.2 := by unfold nmF; rw [h3]; rfl
  have e3 : tkF tb n 257 d.2 = .ok c2 := by rw [tk257 htb]; exact h5
  refine ⟨hd c1 d e1 h3, hm c2 m (by rw [e1]; show bindR (nmF tb n 2 9 c1) _ = _; rw [e2]; exact e3) h7, hb, hw, muO_0, rfl, ⟨rfl, ⟨fun q => absurd q (by decide), fun q => by cases (show 44 ∈ ([] : List Nat) from q)⟩, fun j hj => absurd hj (Nat.not_lt_zero j)⟩, fun w hw => ⟨hf w hw, ht w hw⟩⟩
theorem muO_eq {mu nu : Nat → Bool} {ju : Int32} (h : muO mu ju) (h2 : muO nu ju) {d : Nat} (hd : d < 9) : mu d = nu d := by
  have a := muO_bit h hd
  have b := muO_bit h2 hd
  rw [a] at b
  cases hm : mu d with
  | true => exact (b.mp hm).symm
  | false =>
    cases hn : nu d with
    | false => rfl
    | true => rw [b.mpr hn] at hm; cases hm
theorem nb_mu {tb : Nat → Nat} {n d : Nat} {mu : Nat → Bool} {o : Except Err Cur} {t : Int32} {xa : Nat} {xv xt : Int32} {xz : Nat} {xf xp : Int32} {ju ju2 jr jr2 : Int32} {jb jb2 jw jw2 : Nat → Int32} (h : nbO tb n d mu o t xa xv xt xz xf xp ju ju2 jr jr2 jb jb2 jw jw2) (hm : muO mu ju) : ∃ nu, muO nu ju2 := by
  rcases h with ⟨-, dv, mv, -, -, -, -, e, -⟩ | ⟨-, dv, mv, -, -, -, -, e, -⟩ | ⟨-, dv, w, -, -, e, -, -, -⟩ | ⟨-, v, -, -, -, -, -, e⟩ | ⟨-, -, -, -, -, -, -, e, -⟩
  · exact ⟨mu, e ▸ hm⟩
  · exact ⟨mu, e ▸ hm⟩
  · exact ⟨_, e⟩
  · exact ⟨mu, e ▸ hm⟩
  · exact ⟨mu, e ▸ hm⟩
def bodyR (tb : Nat → Nat) (n : Nat) (r : LkS × Cur) : LkR := bodyP tb n r.1 r.2
theorem tkW {tb : Nat → Nat} {n k : Nat} {c : Cur} {t : Int32} (htb : ∀ j, tb j ≤ 255) (hk : k < 28) (ht : t = tokOf tb n c) : t = nI (256 + k) ↔ isW tb n (CWs.getD k []) c = true := by
  rw [ht]; exact tok_W htb hk
/-- which statement stands there, by the token -/
theorem body_tok {tb : Nat → Nat} {n : Nat} {L : LkS} {c : Cur} {t : Int32} (htb : ∀ j, tb j ≤ 255) (ht : t = tokOf tb n c) : bodyP tb n L c = (if t = 258 then bindR (amtP tb n (lD L) c) (fun x => .ok (stB L x.1.1 x.1.2, x.2)) else if t = 259 then bindR (amtP tb n (lD L) c) (fun x => .ok (stW L x.1.1 x.1.2, x.2)) else if t = 260 then bindR (numP tb n 0 (lD L - 1) (nx tb n c.1)) (fun x => if lU L x.1 = true then .error (2, (nx tb n c.1).1) else .ok (stU L x.1, x.2)) else if t = 261 then sumL tb n L 0 0 c else if t = 262 then sumL tb n L 1 1 c else if t = 263 then sumL tb n L 2 0 c else if t = 264 then bindR (numP tb n 0 100 (nx tb n c.1)) (fun x => .ok (stN L x.1, x.2)) else .error (1, c.1)) := by
  unfold bodyP
  have e2 : t = 258 ↔ isW tb n (CWs.getD 2 []) c = true := tkW (k := 2) htb (by decide) ht
  have e3 : t = 259 ↔ isW tb n (CWs.getD 3 []) c = true := tkW (k := 3) htb (by decide) ht
  have e4 : t = 260 ↔ isW tb n (CWs.getD 4 []) c = true := tkW (k := 4) htb (by decide) ht
  have e5 : t = 261 ↔ isW tb n (CWs.getD 5 []) c = true := tkW (k := 5) htb (by decide) ht
  have e6 : t = 262 ↔ isW tb n (CWs.getD 6 []) c = true := tkW (k := 6) htb (by decide) ht
  have e7 : t = 263 ↔ isW tb n (CWs.getD 7 []) c = true := tkW (k := 7) htb (by decide) ht
  have e8 : t = 264 ↔ isW tb n (CWs.getD 8 []) c = true := tkW (k := 8) htb (by decide) ht
  simp only [e2, e3, e4, e5, e6, e7, e8]
theorem am_lc {tb : Nat → Nat} {n d : Nat} {c : Cur} : amO tb n d (.ok c) = bindR (amtP tb n d c) (fun x => .ok x.2) := by
  unfold amO amtP nmF
  show bindR (bindR (numP tb n 0 (d - 1) (nx tb n c.1)) _) _ = _
  cases numP tb n 0 (d - 1) (nx tb n c.1) with
  | error e => rfl
  | ok x =>
    show bindR (numP tb n 0 9 x.2) _ = bindR (bindR (numP tb n 0 9 x.2) _) _
    cases numP tb n 0 9 x.2 <;> rfl
theorem am_val {tb : Nat → Nat} {n d dv mv : Nat} {c : Cur} {x : (Nat × Nat) × Cur} (h : amV tb n d (.ok c) dv mv) (hx : amtP tb n d c = .ok x) : dv = x.1.1 ∧ mv = x.1.2 := by
  obtain ⟨y, h1, h2⟩ := bindR_ok hx
  obtain ⟨z, h3, h4⟩ := bindR_ok h2
  cases h4
  refine ⟨h.2.1 _ y rfl h1, h.2.2 y.2 z ?_ h3⟩
  show bindR (numP tb n 0 (d - 1) (nx tb n c.1)) _ = _
  rw [h1]; rfl
theorem row_up {f : Nat → Int32} {b : Nat → Nat} {d v : Nat} (h : ∀ j, j < 9 → f j = nI (b j)) : ∀ j, j < 9 → upd f d (nI v) j = nI (updG b d v j) := by
  intro j hj
  unfold upd updG
  by_cases e : j = d
  · rw [if_pos e, if_pos e]
  · rw [if_neg e, if_neg e]; exact h j hj
theorem mu_cg {mu nu : Nat → Bool} {d : Nat} {ju : Int32} (hd : d < 9) (h : muO (updG mu d true) ju) (e : ∀ j, j < 9 → mu j = nu j) : muO (updG nu d true) ju := by
  obtain ⟨m, hm, e1, hb⟩ := h
  refine ⟨m, hm, e1, fun j hj => ?_⟩
  rw [hb j hj]
  unfold updG
  by_cases q : j = d
  · rw [if_pos q, if_pos q]
  · rw [if_neg q, if_neg q]; exact e j hj
/-- numbers -/
theorem ll_nb {tb : Nat → Nat} {n : Nat} {o : LkR} {mu : Nat → Bool} {xa : Nat} {xv xt : Int32} {xz : Nat} {xf xp : Int32} {ya : Nat} {yv yt : Int32} {yz : Nat} {yf yp : Int32} {jd jm : Nat} {ju jr : Int32} {jc jx : Nat} {j1 jf jt jb jw : Nat → Int32} {ju2 jr2 : Int32} {jb2 jw2 : Nat → Int32} (htb : ∀ j, tb j ≤ 255) (h : llO tb n o xa xv xt xz xf xp jd jm ju jr jc jx j1 jf jt jb jw) (hmu : muO mu ju) (h1 : ¬ xt = 261) (h2 : ¬ xt = 262) (h3 : ¬ xt = 263) (hn : nbO tb n jd mu (lc o) xt ya yv yt yz yf yp ju ju2 jr jr2 jb jb2 jw jw2) : llO tb n (bindR o (bodyR tb n)) ya yv yt yz yf yp jd jm ju2 jr2 jc jx j1 jf jt jb2 jw2 := by
  cases o with
  | error e =>
    refine ⟨?_, fun r hr => by cases hr⟩
    rcases hn with ⟨-, dv, mv, -, q, -⟩ | ⟨-, dv, mv, -, q, -⟩ | ⟨-, dv, w, -, q, -⟩ | ⟨-, v, -, q, -⟩ | ⟨-, -, -, -, q, -⟩ <;> exact q
  | ok r =>
    obtain ⟨L, c⟩ := r
    have ht : xt = tokOf tb n c := (ll_t h rfl).2.2.2.2.1
    obtain ⟨k1, k2, k3, k4, k5, k6, k7, k8⟩ := h.2 _ rfl
    have hb : bindR (.ok (L, c)) (bodyR tb n) = bodyP tb n L c := rfl
    rw [hb, body_tok htb ht]
    have hl : lc (.ok (L, c)) = .ok c := rfl
    rw [hl] at hn
    have k1' : lD L = jd := k1.symm
    rcases hn with ⟨t0, dv, mv, hv, q, e1, e2, e3, e4⟩ | ⟨t0, dv, mv, hv, q, e1, e2, e3, e4⟩ | ⟨t0, dv, w, hv, q, e1, e2, e3, e4⟩ | ⟨t0, v, hv, q, e1, e2, e3, e4⟩ | ⟨t1, t2, t3, t4, q, e1, e2, e3, e4⟩
    · rw [if_pos t0]
      rw [am_lc] at q
      have hv1 : amV tb n (lD L) (.ok c) dv mv := by rw [k1']; exact hv
      refine ⟨?_, fun s hs => ?_⟩
      · rw [k1']
        show rdO tb n (bindR (bindR _ _) _) ya yv yt yz yf yp
        rw [bindR_assoc]; exact q
      · obtain ⟨x, h5, h6⟩ := bindR_ok hs
        cases h6
        have h7 := am_val hv1 h5
        refine ⟨k1, k2, ?_, by rw [e2]; exact k4, by rw [e3]; exact k5, by rw [e4]; exact k6, k7, k8⟩
        rw [e1, h7.1, h7.2]; exact row_up k3
    · rw [if_neg (by rw [t0]; decide), if_pos t0]
      rw [am_lc] at q
      have hv1 : amV tb n (lD L) (.ok c) dv mv := by rw [k1']; exact hv
      refine ⟨?_, fun s hs => ?_⟩
      · rw [k1']
        show rdO tb n (bindR (bindR _ _) _) ya yv yt yz yf yp
        rw [bindR_assoc]; exact q
      · obtain ⟨x, h5, h6⟩ := bindR_ok hs
        cases h6
        have h7 := am_val hv1 h5
        refine ⟨k1, k2, by rw [e2]; exact k3, ?_, by rw [e3]; exact k5, by rw [e4]; exact k6, k7, k8⟩
        rw [e1, h7.1, h7.2]; exact row_up k4
    · rw [if_neg (by rw [t0]; decide), if_neg (by rw [t0]; decide), if_pos t0, k1']
      obtain ⟨v1, v2, v3⟩ := hv
      have v4 := v3 c rfl
      have q' : rdO tb n (bindR (bindR (numP tb n 0 (jd - 1) (nx tb n c.1)) (fun r => .ok r.2)) (muF mu dv w)) ya yv yt yz yf yp := q
      cases hx : numP tb n 0 (jd - 1) (nx tb n c.1) with
      | error e =>
        rw [hx] at q'
        exact ⟨q', fun s hs => by cases hs⟩
      | ok x =>
        rw [hx] at q'
        have v5 := v2 _ x rfl hx
        have v6 : mu dv = lU L dv := muO_eq hmu k5 v1
        have q2 : rdO tb n (muF mu dv w x.2) ya yv yt yz yf yp := q'
        unfold muF at q2
        rw [v6, v5] at q2
        show llO tb n (if lU L x.1 = true then .error (2, (nx tb n c.1).1) else .ok (stU L x.1, x.2)) _ _ _ _ _ _ _ _ _ _ _ _ _ _ _ _ _
        by_cases hu : lU L x.1 = true
        · rw [if_pos hu] at q2 ⊢
          rw [v4] at q2
          exact ⟨q2, fun s hs => by cases hs⟩
        · rw [if_neg hu] at q2 ⊢
          refine ⟨q2, fun s hs => ?_⟩
          cases hs
          refine ⟨k1, k2, by rw [e2]; exact k3, by rw [e3]; exact k4, ?_, by rw [e4]; exact k6, k7, k8⟩
          rw [v5] at e1 v1
          exact mu_cg v1 e1 (fun j hj => muO_eq hmu k5 hj)
    · rw [if_neg (by rw [t0]; decide), if_neg (by rw [t0]; decide), if_neg (by rw [t0]; decide), if_neg h1, if_neg h2, if_neg h3, if_pos t0]
      have q' : rdO tb n (bindR (numP tb n 0 100 (nx tb n c.1)) (fun r => .ok r.2)) ya yv yt yz yf yp := q
      cases hx : numP tb n 0 100 (nx tb n c.1) with
      | error e =>
        rw [hx] at q'
        exact ⟨q', fun s hs => by cases hs⟩
      | ok x =>
        rw [hx] at q'
        refine ⟨q', fun s hs => ?_⟩
        cases hs
        have v5 := hv _ x rfl hx
        exact ⟨k1, k2, by rw [e2]; exact k3, by rw [e3]; exact k4, by rw [e4]; exact k5, by rw [e1, v5]; rfl, k7, k8⟩
    · rw [if_neg t1, if_neg t2, if_neg t3, if_neg h1, if_neg h2, if_neg h3, if_neg t4]
      exact ⟨q, fun s hs => by cases hs⟩
/-- sums -/
def smO (tb : Nat → Nat) (n kn w : Nat) (o : Res) (xa : Nat) (xv xt : Int32) (xz : Nat) (xf xp : Int32) (jc jc2 jx2 : Nat) (j1' jf jf2 jt jt2 : Nat → Int32) : Prop :=
  (jf w < jt w ∧ rsO tb n (bd o (hereF 5)) xa xv xt xz xf xp jc2 jx2 j1' ∧ jf2 = jf ∧ jt2 = jt) ∨ (¬ jf w < jt w ∧ rsO tb n (bindR (bd o (nxF tb n)) (apF (sumOf tb n (rdPart tb n kn 6)))) xa xv xt xz xf xp jc2 jx2 j1' ∧ jf2 = upd jf w (nI jc) ∧ jt2 = upd jt w (nI jc2))
theorem rs_fh {tb : Nat → Nat} {n k : Nat} {o : Res} {xa : Nat} {xv xt : Int32} {xz : Nat} {xf xp : Int32} {ya : Nat} {yv yt : Int32} {yz : Nat} {yf yp : Int32} {cl mw : Nat} {f : Nat → Int32} {c2 w2 : Nat} {g : Nat → Int32} (h : rsO tb n o xa xv xt xz xf xp cl mw f) (h2 : rsO tb n (bd o (fun _ => .error (k, xz))) ya yv yt yz yf yp c2 w2 g) : rsO tb n (bd o (hereF k)) ya yv yt yz yf yp c2 w2 g := by
  have e : bd o (fun _ => .error (k, xz)) = bd o (hereF k) := by
    cases o with
    | error e => rfl
    | ok r =>
      have := (rs_c h rfl).2.2.1
      show bindR (Except.error (k, xz) : Except Err Cur) (fun c => Except.ok (c, r.2)) = bindR (hereF k r.1) (fun c => Except.ok (c, r.2))
      unfold hereF; rw [this]
  rw [← e]; exact h2
theorem lr_rs {tb : Nat → Nat} {n : Nat} {o : LkR} {xa : Nat} {xv xt : Int32} {xz : Nat} {xf xp : Int32} {jd jm : Nat} {ju jr : Int32} {jc jx : Nat} {j1 jf jt jb jw : Nat → Int32} (h : llO tb n o xa xv xt xz xf xp jd jm ju jr jc jx j1 jf jt jb jw) : rsO tb n (lr o) xa xv xt xz xf xp jc jx j1 := by
  refine ⟨?_, fun q hq => ?_⟩
  · have e : rc (lr o) = lc o := by cases o <;> rfl
    rw [e]; exact h.1
  · obtain ⟨r, h1, h2⟩ := bindR_ok hq
    cases h2
    exact (h.2 r h1).2.2.2.2.2.2.1
def len5 (o : LkR) : Prop := ∀ r, o = .ok r → (lK r.1).length + 5 ≤ r.2.1
theorem lr_len {o : LkR} (h : len5 o) : lenO (lr o) := fun q hq => by
  obtain ⟨r, h1, h2⟩ := bindR_ok hq
  cases h2
  have := h r h1
  show (lK r.1).length ≤ r.2.1
  omega
theorem sg_lt {g : Option (Nat × Nat)} {a b : Int32} (h : sgO g a b) : a < b ↔ g.isSome = true := by
  cases g with
  | none =>
    rw [h.1, h.2]
    exact ⟨fun q => absurd q (by decide), fun q => by cases q⟩
  | some p =>
    obtain ⟨h1, h2, h3, h4⟩ := h
    refine ⟨fun _ => rfl, fun _ => ?_⟩
    rw [h1, h2, Int32.lt_iff_toInt_lt, i_nI (by omega), i_nI (by omega)]
    omega
/-- a sum has a step at least -/
theorem mulLp_k {tb : Nat → Nat} {n : Nat} {P : Cur → Res} : ∀ f c k r, mulLp tb n P f c k = .ok r → k.length ≤ r.2.length
  | 0, c, k, r, h => by cases h
  | f + 1, c, k, r, h => by
    rw [mulLp] at h
    split at h
    · obtain ⟨a, h1, h2⟩ := bindR_ok h
      have := mulLp_k f _ _ _ h2
      rw [List.length_append, List.length_append] at this
      omega
    · split at h
      · obtain ⟨a, h1, h2⟩ := bindR_ok h
        have := mulLp_k f _ _ _ h2
        rw [List.length_append, List.length_append] at this
        omega
      · cases h; exact Nat.le_refl _
theorem addLp_k {tb : Nat → Nat} {n : Nat} {P : Cur → Res} : ∀ f c k r, addLp tb n P f c k = .ok r → k.length ≤ r.2.length
  | 0, c, k, r, h => by cases h
  | f + 1, c, k, r, h => by
    rw [addLp] at h
    split at h
    · obtain ⟨a, h1, h2⟩ := bindR_ok h
      have := addLp_k f _ _ _ h2
      rw [List.length_append, List.length_append] at this
      omega
    · split at h
      · obtain ⟨a, h1, h2⟩ := bindR_ok h
        have := addLp_k f _ _ _ h2
        rw [List.length_append, List.length_append] at this
        omega
      · cases h; exact Nat.le_refl _
def oneP (P : Cur → Res) : Prop := ∀ c r, P c = .ok r → 1 ≤ r.2.length
theorem one_sum {tb : Nat → Nat} {n : Nat} {P : Cur → Res} (hP : oneP P) : oneP (sumOf tb n P) := fun c r h => by
  obtain ⟨a, h1, h2⟩ := bindR_ok h
  obtain ⟨b, h3, h4⟩ := bindR_ok h1
  have q1 := hP _ _ h3
  have q2 := mulLp_k _ _ _ _ h4
  have q3 := addLp_k _ _ _ _ h2
  omega
theorem one_partB {tb : Nat → Nat} {n kind : Nat} {Q : Option (Cur → Res)} (hQ : ∀ P, Q = some P → oneP P) : oneP (partB tb n kind Q) := fun c r h => by
  unfold partB at h
  split at h
  · cases Q with
    | none => cases h
    | some P =>
      obtain ⟨a, h1, h2⟩ := bindR_ok h
      obtain ⟨c1, h3, h4⟩ := bindR_ok h2
      cases h4
      exact (one_sum (hQ P rfl) _ _ h1 : 1 ≤ a.2.length)
  · split at h
    · split at h
      · cases Q with
        | none => cases h
        | some P =>
          obtain ⟨a, h1, h2⟩ := bindR_ok h
          obtain ⟨c2, h3, h4⟩ := bindR_ok h2
          obtain ⟨a2, h5, h6⟩ := bindR_ok h4
          obtain ⟨c3, h7, h8⟩ := bindR_ok h6
          cases h8
          show 1 ≤ (a.2 ++ a2.2 ++ [_]).length
          rw [List.length_append, List.length_singleton]; omega
      · cases h
    · split at h
      · cases Q with
        | none => cases h
        | some P =>
          obtain ⟨a, h1, h2⟩ := bindR_ok h
          cases h2
          show 1 ≤ (a.2 ++ [60]).length
          rw [List.length_append, List.length_singleton]; omega
      · cases hk : partIx tb n kind c with
        | some k => rw [hk] at h; cases h; exact Nat.le_refl 1
        | none =>
          rw [hk] at h
          obtain ⟨a, h1, h2⟩ := bindR_ok h
          cases h2
          exact Nat.le_refl 1
theorem one_part {tb : Nat → Nat} {n kind : Nat} : ∀ d, oneP (rdPart tb n kind d)
  | 0 => one_partB (Q := none) (fun P hp => by cases hp)
  | d + 1 => one_partB (Q := some (rdPart tb n kind d)) (fun P hp => by cases hp; exact one_part d)
theorem ll_sum {tb : Nat → Nat} {n kn w : Nat} {o : LkR} {xa : Nat} {xv xt : Int32} {xz : Nat} {xf xp : Int32} {ya : Nat} {yv yt : Int32} {yz : Nat} {yf yp : Int32} {jd jm : Nat} {ju jr : Int32} {jc jx : Nat} {j1 jf jt jb jw : Nat → Int32} {jc2 jx2 : Nat} {j12 jf2 jt2 : Nat → Int32} (htb : ∀ j, tb j ≤ 255) (hn : n ≤ 1600) (h : llO tb n o xa xv xt xz xf xp jd jm ju jr jc jx j1 jf jt jb jw) (hw : w < 3) (hk : (xt = 261 ∧ w = 0 ∧ kn = 0) ∨ (xt = 262 ∧ w = 1 ∧ kn = 1) ∨ (xt = 263 ∧ w = 2 ∧ kn = 0)) (h5 : len5 o) (hs : smO tb n kn w (lr o) ya yv yt yz yf yp jc jc2 jx2 j12 jf jf2 jt jt2) : llO tb n (bindR o (bodyR tb n)) ya yv yt yz yf yp jd jm ju jr jc2 jx2 j12 jf2 jt2 jb jw := by
  cases o with
  | error e =>
    refine ⟨?_, fun r hr => by cases hr⟩
    rcases hs with ⟨-, q, -⟩ | ⟨-, q, -⟩ <;> exact q.1
  | ok r =>
    obtain ⟨L, c⟩ := r
    have ht : xt = tokOf tb n c := (ll_t h rfl).2.2.2.2.1
    obtain ⟨k1, k2, k3, k4, k5, k6, k7, k8⟩ := h.2 _ rfl
    have hb : bindR (.ok (L, c)) (bodyR tb n) = sumL tb n L w kn c := by
      show bodyP tb n L c = _
      rw [body_tok htb ht]
      rcases hk with ⟨t, rfl, rfl⟩ | ⟨t, rfl, rfl⟩ | ⟨t, rfl, rfl⟩
      · rw [if_neg (by rw [t]; decide), if_neg (by rw [t]; decide), if_neg (by rw [t]; decide), if_pos t]
      · rw [if_neg (by rw [t]; decide), if_neg (by rw [t]; decide), if_neg (by rw [t]; decide), if_neg (by rw [t]; decide), if_pos t]
      · rw [if_neg (by rw [t]; decide), if_neg (by rw [t]; decide), if_neg (by rw [t]; decide), if_neg (by rw [t]; decide), if_neg (by rw [t]; decide), if_pos t]
    rw [hb]
    have hlt := sg_lt (k8 w hw)
    have h5' : (lK L).length + 5 ≤ c.1 := h5 _ rfl
    have hcn : c.1 ≤ n := (ll_t h rfl).2.2.2.1
    unfold sumL
    rcases hs with ⟨t, q, e1, e2⟩ | ⟨t, q, e1, e2⟩
    · rw [if_pos (hlt.mp t)]
      exact ⟨q.1, fun s hs => by cases hs⟩
    · rw [if_neg (fun z => t (hlt.mpr z))]
      have q1 : rsO tb n (bindR (sumD tb n kn 6 (nx tb n c.1)) (fun z => .ok (z.1, lK L ++ z.2))) ya yv yt yz yf yp jc2 jx2 j12 := q
      cases hx : sumD tb n kn 6 (nx tb n c.1) with
      | error e =>
        rw [hx] at q1
        exact ⟨q1.1, fun s hs => by cases hs⟩
      | ok x =>
        rw [hx] at q1
        refine ⟨q1.1, fun s hs => ?_⟩
        cases hs
        have q2 := q1.2 _ rfl
        have o1 := one_sum (tb := tb) (n := n) (one_part 6) _ _ hx
        have o2 := len_sum (tb := tb) (n := n) (len_part 6) _ _ hx
        have o3 := (show rdC tb n x.1 ya yv yt yz yf yp from q1.1).2.2.2.1
        have o4 := nx_ge tb n c.1
        refine ⟨k1, k2, k3, k4, k5, k6, q2, fun v hv => ?_⟩
        have hj : jc = (lK L).length := k7.1
        have hj2 : jc2 = (lK L).length + x.2.length := by have := q2.1; rw [List.length_append] at this; exact this
        rw [e1, e2]
        show sgO (updG (lG L) w (some ((lK L).length, (lK L).length + x.2.length)) v) _ _
        unfold updG upd
        by_cases e : v = w
        · rw [if_pos e, if_pos e, if_pos e, hj, hj2]
          exact ⟨rfl, rfl, by show (lK L).length < (lK L).length + x.2.length; omega, by show (lK L).length + x.2.length ≤ 1600; omega⟩
        · rw [if_neg e, if_neg e, if_neg e]; exact k8 v hv
/-- statements go forward, and have no more steps than bytes -/
theorem num_gt {tb : Nat → Nat} {n lo hi : Nat} {c : Cur} {r : Nat × Cur} (h : numP tb n lo hi c = .ok r) : c.1 < r.2.1 := by
  have := numP_ok h
  rw [this.2]; exact nx_gt this.1
theorem body_len {tb : Nat → Nat} {n : Nat} {L : LkS} {c : Cur} {r : LkS × Cur} (h : bodyP tb n L c = .ok r) (h5 : (lK L).length + 5 ≤ c.1) : (lK r.1).length + 5 ≤ r.2.1 := by
  have hx := nx_ge tb n c.1
  have am : ∀ x, amtP tb n (lD L) c = .ok x → c.1 ≤ x.2.1 := fun x hx2 => by
    obtain ⟨y, h1, h2⟩ := bindR_ok hx2
    obtain ⟨z, h3, h4⟩ := bindR_ok h2
    cases h4
    have a := num_gt h1
    have b := num_gt h3
    show c.1 ≤ z.2.1
    omega
  have sm : ∀ w kn, sumL tb n L w kn c = .ok r → (lK r.1).length + 5 ≤ r.2.1 := fun w kn hs => by
    unfold sumL at hs
    split at hs
    · cases hs
    · obtain ⟨y, h1, h2⟩ := bindR_ok hs
      cases h2
      have o2 := len_sum (tb := tb) (n := n) (len_part 6) _ _ h1
      show (lK L ++ y.2).length + 5 ≤ y.1.1
      rw [List.length_append]; omega
  unfold bodyP at h
  split at h
  · obtain ⟨x, h1, h2⟩ := bindR_ok h
    cases h2
    have := am x h1
    show (lK L).length + 5 ≤ x.2.1
    omega
  · split at h
    · obtain ⟨x, h1, h2⟩ := bindR_ok h
      cases h2
      have := am x h1
      show (lK L).length + 5 ≤ x.2.1
      omega
    · split at h
      · obtain ⟨x, h1, h2⟩ := bindR_ok h
        have := num_gt h1
        split at h2
        · cases h2
        · cases h2
          show (lK L).length + 5 ≤ x.2.1
          omega
      · split at h
        · exact sm _ _ h
        · split at h
          · exact sm _ _ h
          · split at h
            · exact sm _ _ h
            · split at h
              · obtain ⟨x, h1, h2⟩ := bindR_ok h
                cases h2
                have := num_gt h1
                show (lK L).length + 5 ≤ x.2.1
                omega
              · cases h
theorem len5_b {tb : Nat → Nat} {n : Nat} {o : LkR} (h : len5 o) : len5 (bindR o (bodyR tb n)) := fun q hq => by
  obtain ⟨r, h1, h2⟩ := bindR_ok hq
  exact body_len h2 (h r h1)
theorem len5_ld {o : LkR} {F : Cur → Except Err Cur} (hF : fwd F) (h : len5 o) : len5 (ld o F) := fun q hq => by
  obtain ⟨r, h3, h4⟩ := bindR_ok hq
  obtain ⟨c, h5, h6⟩ := bindR_ok h4
  cases h6
  have := h r h3
  have b := hF _ _ h5
  show (lK r.1).length + 5 ≤ c.1
  omega
theorem word_gt {tb : Nat → Nat} {n : Nat} {w : List Nat} {c c1 : Cur} (h : wordP tb n w c = .ok c1) : c.1 < c1.1 := by
  unfold wordP at h
  split at h
  · next hw => cases h; exact nx_gt (isW_lt hw)
  · cases h
theorem len5_open {tb : Nat → Nat} {n : Nat} {c : Cur} : len5 (openP tb n c) := fun q hq => by
  obtain ⟨c1, h1, h2⟩ := bindR_ok hq
  obtain ⟨d, h3, h4⟩ := bindR_ok h2
  obtain ⟨c2, h5, h6⟩ := bindR_ok h4
  obtain ⟨m, h7, h8⟩ := bindR_ok h6
  obtain ⟨c3, h9, h10⟩ := bindR_ok h8
  cases h10
  have a1 := word_gt h1
  have a2 := num_gt h3
  have a3 := word_gt h5
  have a4 := num_gt h7
  have a5 := (signP_ok h9).2.2
  show 0 + 5 ≤ c3.1
  omega
/-- the loop over statements -/
theorem lk_s {tb : Nat → Nat} {n y : Nat} {o wo : LkR} {xa : Nat} {xv xt : Int32} {xz : Nat} {xf xp : Int32} {jd jm : Nat} {ju jr : Int32} {jc jx : Nat} {j1 jf jt jb jw : Nat → Int32} (htb : ∀ j, tb j ≤ 255) (h : llO tb n o xa xv xt xz xf xp jd jm ju jr jc jx j1 jf jt jb jw) (ht : ¬ xt = -1) (hy : y < 60) (hw : wo = bindR o (bodyR tb n)) (hr : bindR o (stP tb n (60 - y)) = lockP tb n) : bindR (ld wo (tkF tb n 59)) (stP tb n (60 - (y + 1))) = lockP tb n := by
  rw [← hr, hw, tk59 htb]
  cases o with
  | error e => rfl
  | ok r =>
    have hx : ¬ n ≤ r.2.1 := fun q => ht ((ll_t h rfl).2.2.2.2.1.trans ((tok_E htb).mpr q))
    show _ = stP tb n (60 - y) r
    rw [show 60 - y = (60 - (y + 1)) + 1 by omega, stP, if_neg hx]
    rfl
def fnO (P : Except Err (LkS × Nat)) (xf xp : Int32) (jn jd jm : Nat) (ju jr : Int32) (jc jx : Nat) (j1 jf jt jb jw : Nat → Int32) : Prop := match P with
  | .ok r => xf = 0 ∧ xp = -1 ∧ jn = r.2 ∧ lkC r.1 jd jm ju jr jc jx j1 jf jt jb jw ∧ (lK r.1).length + 5 ≤ 1600
  | .error e => xf = nI e.1 ∧ xp = nI e.2 ∧ 1 ≤ e.1 ∧ e.1 ≤ 5 ∧ e.2 ≤ 1700
theorem fin_er {tb : Nat → Nat} {n y : Nat} {o : LkR} {xa : Nat} {xv xt : Int32} {xz : Nat} {xf xp : Int32} {jd jm : Nat} {ju jr : Int32} {jc jx : Nat} {j1 jf jt jb jw : Nat → Int32} (h : llO tb n o xa xv xt xz xf xp jd jm ju jr jc jx j1 jf jt jb jw) (hf : ¬ xf = 0) (hr : bindR o (stP tb n (60 - y)) = lockP tb n) : fnO (lockP tb n) xf xp y jd jm ju jr jc jx j1 jf jt jb jw := by
  obtain ⟨e, he, hx⟩ := rdO_er h.1 hf
  cases o with
  | ok r => cases he
  | error e2 =>
    cases he
    rw [← hr]
    exact ⟨hx.1, hx.2.1, hx.2.2.1, hx.2.2.2.1, hx.2.2.2.2.1⟩
theorem fin_end {tb : Nat → Nat} {n y : Nat} {o : LkR} {xa : Nat} {xv xt : Int32} {xz : Nat} {xf xp : Int32} {jd jm : Nat} {ju jr : Int32} {jc jx : Nat} {j1 jf jt jb jw : Nat → Int32} (htb : ∀ j, tb j ≤ 255) (hn : n ≤ 1600) (h : llO tb n o xa xv xt xz xf xp jd jm ju jr jc jx j1 jf jt jb jw) (hf : xf = 0) (ht : xt = -1) (hy : y ≤ 60) (h5 : len5 o) (hr : bindR o (stP tb n (60 - y)) = lockP tb n) : fnO (lockP tb n) xf xp y jd jm ju jr jc jx j1 jf jt jb jw := by
  cases o with
  | error e => exact absurd hf (er_ne h.1)
  | ok r =>
    have hc := ll_t h rfl
    have hx : n ≤ r.2.1 := (tok_E htb).mp (hc.2.2.2.2.1.symm.trans ht)
    have e : stP tb n (60 - y) r = .ok (r.1, y) := by
      cases hk : 60 - y with
      | zero => rw [stP, if_pos hx, show y = 60 by omega]
      | succ f => rw [stP, if_pos hx, ← hk, show 60 - (60 - y) = y by omega]
    have hr2 : stP tb n (60 - y) r = lockP tb n := hr
    rw [← hr2, e]
    have := h5 r rfl
    exact ⟨hf, hc.2.1, rfl, h.2 r rfl, by show (lK r.1).length + 5 ≤ 1600; have := hc.2.2.2.1; omega⟩
theorem fin_many {tb : Nat → Nat} {n y : Nat} {o : LkR} {xa : Nat} {xv xt : Int32} {xz : Nat} {xf xp : Int32} {ya : Nat} {yv yt : Int32} {yz : Nat} {yf yp : Int32} {jd jm : Nat} {ju jr : Int32} {jc jx : Nat} {j1 jf jt jb jw : Nat → Int32} (htb : ∀ j, tb j ≤ 255) (h : llO tb n o xa xv xt xz xf xp jd jm ju jr jc jx j1 jf jt jb jw) (hf : xf = 0) (ht : ¬ xt = -1) (hy : 60 ≤ y) (h2 : rdO tb n (bindR (lc o) (fun _ => .error (5, xz))) ya yv yt yz yf yp) (hr : bindR o (stP tb n (60 - y)) = lockP tb n) : fnO (lockP tb n) yf yp y jd jm ju jr jc jx j1 jf jt jb jw := by
  cases o with
  | error e => exact absurd hf (er_ne h.1)
  | ok r =>
    have hc := ll_t h rfl
    have hx : ¬ n ≤ r.2.1 := fun q => ht (hc.2.2.2.2.1.trans ((tok_E htb).mpr q))
    have hr2 : stP tb n (60 - y) r = lockP tb n := hr
    rw [← hr2, show 60 - y = 0 by omega, stP, if_neg hx, ← hc.2.2.1]
    exact ⟨h2.1, h2.2.1, h2.2.2.1, h2.2.2.2.1, h2.2.2.2.2.1⟩
/-! sums that were not told -/
def untS (L : LkS) (w : Nat) : LkS := if (lG L w).isSome = true then L else stS L w [if w = 1 then 45 else 40]
def untN (L : LkS) : Nat → LkS
  | 0 => L
  | i + 1 => untS (untN L i) i
def lkF (L : LkS) : LkS := untN L 3
def unR (P : Except Err (LkS × Nat)) (i : Nat) : Res := bindR P (fun r => .ok ((0, false), lK (untN r.1 i)))
def unO (P : Except Err (LkS × Nat)) (i jd jm : Nat) (ju jr : Int32) (jc jx : Nat) (j1 jf jt jb jw : Nat → Int32) : Prop := ∀ r, P = .ok r → lkC (untN r.1 i) jd jm ju jr jc jx j1 jf jt jb jw ∧ (lK (untN r.1 i)).length + 5 ≤ 1600 + i
theorem un_co {P : Except Err (LkS × Nat)} {i : Nat} {jd jm : Nat} {ju jr : Int32} {jc jx : Nat} {j1 jf jt jb jw : Nat → Int32} (h : unO P i jd jm ju jr jc jx j1 jf jt jb jw) : coO (unR P i) jc jx j1 := fun q hq => by
  obtain ⟨r, h1, h2⟩ := bindR_ok hq
  cases h2
  exact (h r h1).1.2.2.2.2.2.2.1
theorem un_rm {P : Except Err (LkS × Nat)} {i : Nat} {jd jm : Nat} {ju jr : Int32} {jc jx : Nat} {j1 jf jt jb jw : Nat → Int32} (h : unO P i jd jm ju jr jc jx j1 jf jt jb jw) (hi : i < 3) : ∀ q, unR P i = .ok q → q.2.length < 1600 := fun q hq => by
  obtain ⟨r, h1, h2⟩ := bindR_ok hq
  cases h2
  have := (h r h1).2
  show (lK (untN r.1 i)).length < 1600
  omega
theorem un_has {P : Except Err (LkS × Nat)} {i : Nat} {jd jm : Nat} {ju jr : Int32} {jc jx : Nat} {j1 jf jt jb jw : Nat → Int32} (h : unO P i jd jm ju jr jc jx j1 jf jt jb jw) (hi : i < 3) (hs : jf i < jt i) : unO P (i + 1) jd jm ju jr jc jx j1 jf jt jb jw := fun r hr => by
  obtain ⟨h1, h2⟩ := h r hr
  have e : untN r.1 (i + 1) = untN r.1 i := by
    show untS (untN r.1 i) i = _
    unfold untS
    rw [if_pos ((sg_lt (h1.2.2.2.2.2.2.2 i hi)).mp hs)]
  rw [e]; exact ⟨h1, by omega⟩
theorem un_add {P : Except Err (LkS × Nat)} {i : Nat} {jd jm : Nat} {ju jr : Int32} {jc jx : Nat} {j1 jf jt jb jw : Nat → Int32} {jc2 jx2 : Nat} {k1 : Nat → Int32} (h : unO P i jd jm ju jr jc jx j1 jf jt jb jw) (hi : i < 3) (hs : ¬ jf i < jt i) (hc : coO (ad (unR P i) (if i = 1 then 45 else 40)) jc2 jx2 k1) : unO P (i + 1) jd jm ju jr jc2 jx2 k1 (upd jf i (nI jc)) (upd jt i (nI jc2)) jb jw := fun r hr => by
  obtain ⟨h1, h2⟩ := h r hr
  have e : untN r.1 (i + 1) = stS (untN r.1 i) i [if i = 1 then 45 else 40] := by
    show untS (untN r.1 i) i = _
    unfold untS
    rw [if_neg (fun q => hs ((sg_lt (h1.2.2.2.2.2.2.2 i hi)).mpr q))]
  have q := hc ((0, false), lK (untN r.1 i) ++ [if i = 1 then 45 else 40]) (by rw [hr]; rfl)
  rw [e]
  generalize untN r.1 i = L at *
  obtain ⟨k1', k2, k3, k4, k5, k6, k7, k8⟩ := h1
  have hj : jc = (lK L).length := k7.1
  have hj2 : jc2 = (lK L).length + 1 := by have := q.1; rw [List.length_append, List.length_singleton] at this; exact this
  refine ⟨⟨k1', k2, k3, k4, k5, k6, q, fun v hv => ?_⟩, ?_⟩
  · show sgO (updG (lG L) i (some ((lK L).length, (lK L).length + 1)) v) _ _
    unfold updG upd
    by_cases e : v = i
    · rw [if_pos e, if_pos e, if_pos e, hj, hj2]
      exact ⟨rfl, rfl, by show (lK L).length < (lK L).length + 1; omega, by show (lK L).length + 1 ≤ 1600; omega⟩
    · rw [if_neg e, if_neg e, if_neg e]; exact k8 v hv
  · show (lK L ++ [_]).length + 5 ≤ _
    rw [List.length_append, List.length_singleton]; omega
def finO (tb : Nat → Nat) (n : Nat) (xf xp : Int32) (jn jd jm : Nat) (ju jr : Int32) (jc jx : Nat) (j1 jf jt jb jw : Nat → Int32) : Prop := match lockP tb n with
  | .ok r => xf = 0 ∧ xp = -1 ∧ jn = r.2 ∧ lkC (lkF r.1) jd jm ju jr jc jx j1 jf jt jb jw
  | .error e => xf = nI e.1 ∧ xp = nI e.2 ∧ 1 ≤ e.1 ∧ e.1 ≤ 5 ∧ e.2 ≤ 1700
theorem un_0 {P : Except Err (LkS × Nat)} {xf xp : Int32} {jn : Nat} {jd jm : Nat} {ju jr : Int32} {jc jx : Nat} {j1 jf jt jb jw : Nat → Int32} (h : fnO P xf xp jn jd jm ju jr jc jx j1 jf jt jb jw) : unO P 0 jd jm ju jr jc jx j1 jf jt jb jw := fun r hr => by
  subst hr
  exact ⟨h.2.2.2.1, h.2.2.2.2⟩
theorem fin_un {tb : Nat → Nat} {n : Nat} {xf xp : Int32} {jn : Nat} {jd jm : Nat} {ju jr : Int32} {jc jx : Nat} {j1 jf jt jb jw : Nat → Int32} {jc2 jx2 : Nat} {k1 kf kt : Nat → Int32} (h : fnO (lockP tb n) xf xp jn jd jm ju jr jc jx j1 jf jt jb jw) (h2 : unO (lockP tb n) 3 jd jm ju jr jc2 jx2 k1 kf kt jb jw) : finO tb n xf xp jn jd jm ju jr jc2 jx2 k1 kf kt jb jw := by
  unfold finO
  cases hP : lockP tb n with
  | error e => rw [hP] at h; exact h
  | ok r =>
    rw [hP] at h
    exact ⟨h.1, h.2.1, h.2.2.1, (h2 r hP).1⟩
set_option maxHeartbeats 4000000 in
set_option maxRecDepth 100000 in
theorem c_elt_sumOf (l : Launch) (D : va_G) (cI cJ cC cZ cS : ClassId) (zk zv : Nat) (zf : Value) (q : Nat → Nat) (xa : Nat) (xv : Int32) (xt : Int32) (xz : Nat) (xf : Int32) (xp : Int32) (tl : Nat) (tb : Nat → Nat) (jd : Nat) (jm : Nat) (ju : Int32) (jr : Int32) (jn : Nat) (jc : Nat) (jx : Nat) (j1 : Nat → Int32) (jf : Nat → Int32) (jt : Nat → Int32) (u0 : Nat) (kn : Nat) (w : Nat) (og : Res) (hxa : xa ≤ 1600) (hxz : xz ≤ 1600) (htl : tl ≤ 1600) (htb : ∀ j, tb j ≤ 255) (hjc : jc ≤ 1600) (hjx : jx ≤ 1) (hw : w < 3) (hkn : kn ≤ 2) (hre : ¬ xt = -1 ∧ ¬ xt = -2) (hO : rsO tb tl og xa xv xt xz xf xp jc jx j1) (hlen : lenO og) : skMZ zk zv zf l yX3_readSumOf cX3_readSumOf 4 none 55 1321 0 0 D (skT cI cJ cC cZ cS) [.ref (q 3), .ref (q 6), .int (nI w), .ref u0] [ro_rrr (q 3) 3 (q 2) (q 22) (q 23), ro_rniiinii (q 2) 6 (q 0) xa xv 0 xt xz xf xp, ro_rn (q 0) 10 (q 20) tl, ra_N (q 20) cI 1600 tb, ro_rn u0 8 (q 2) kn, ro_rrrrrnniin (q 6) 2 (q 24) (q 25) (q 26) (q 27) (q 28) jd jm ju jr jn, ro_rrrrnn (q 24) 0 (q 29) (q 30) (q 31) (q 32) jc jx, ra_I (q 29) cI 1600 j1, ra_I (q 27) cI 3 jf, ra_I (q 28) cI 3 jt] (skV D (skT cI cJ cC cZ cS) (fun (u : va_W) => ∃ (xa2 : Nat), ∃ (xv2 : Int32), ∃ (xt2 : Int32), ∃ (xz2 : Nat), ∃ (xf2 : Int32), ∃ (xp2 : Int32), ∃ (jc2 : Nat), ∃ (jx2 : Nat), ∃ (k1_ : Nat → Int32), ∃ (kf_ : Nat → Int32), ∃ (kt_ : Nat → Int32), xa2 ≤ 1600 ∧ xz2 ≤ 1600 ∧ jc2 ≤ 1600 ∧ jx2 ≤ 1 ∧ smO tb tl kn w og xa2 xv2 xt2 xz2 xf2 xp2 jc jc2 jx2 k1_ jf kf_ jt kt_ ∧ u = [ro_rrr (q 3) 3 (q 2) (q 22) (q 23), ro_rniiinii (q 2) 6 (q 0) xa2 xv2 0 xt2 xz2 xf2 xp2, ro_rn (q 0) 10 (q 20) tl, ra_N (q 20) cI 1600 tb, ro_rn u0 8 (q 2) kn, ro_rrrrrnniin (q 6) 2 (q 24) (q 25) (q 26) (q 27) (q 28) jd jm ju jr jn, ro_rrrrnn (q 24) 0 (q 29) (q 30) (q 31) (q 32) jc2 jx2, ra_I (q 29) cI 1600 k1_, ra_I (q 27) cI 3 kf_, ra_I (q 28) cI 3 kt_])) := by
  refine skMZ_of pf_X3_readSumOf (Nat.le_of_ble_eq_true rfl) ?_
  intro p e s m below meth c A ls E hP hD hZ hl
  refine skE_el E (fun hx hb hr hml hlocks hin hown hts hK hA => ?_)
  have hown : s.vm.findClass RX3 = some m.cls := hown
  have hS : va_S A s.heap s.heap [] := va_S.rf
  have hl : lv_has ls 4 [(0, .ref (q 3)), (1, .ref (q 6)), (2, .int (nI w)), (3, .ref u0)] := hl
  refine lv_aload_n hx hb dX3_readSumOf_0 rfl (lv_at hl 1 rfl) ?_
  refine lv_iload_n hx hb dX3_readSumOf_1 rfl (lv_at hl 2 rfl) ?_
  refine sk_Vi (q0 := 0) (n := 1) (rest := []) (wr := fmR om_10_13 _) ⟨hx, hb, hml, hown, hts⟩ hl.1 (c_elk_hasSum l D cI cJ cC cZ cS q jd jm ju jr jn jf jt w hw) w_3_70 w_3_71 w_3_72 w_1_9 w_3_73 hd_X2_hasSum_1 ⟨⟨(Nat.le_of_ble_eq_true rfl), (Nat.le_of_ble_eq_true rfl)⟩, (Nat.le_of_ble_eq_true rfl), (Nat.le_of_ble_eq_true rfl)⟩ hK hP hD hS hA (fmT om_10_13 0) (fmF om_10_13 0) (fm_C1 rfl rfl) (fm_R rfl rfl) (fm_nT om_10_13 0) (fm_nF om_10_13 0) (fm_di om_10_13 0) rfl rfl rfl rfl (Nat.le_of_ble_eq_true rfl) dX3_readSumOf_2 (fun r_2 u H locs hw hP hD hS => ?_)
  refine exE hw (fun b_1 hw1 => anE hw1 (fun hb1_3 hw2 => anE hw2 (fun hhs_4 hw3 => anE hw3 (fun er_6 eu_5 => ?_))))
  clear hw hw1 hw2 hw3
  subst er_6
  refine o_mgE (ws' := [ro_rrr (q 3) 3 (q 2) (q 22) (q 23), ro_rniiinii (q 2) 6 (q 0) xa xv 0 xt xz xf xp, ro_rn (q 0) 10 (q 20) tl, ra_N (q 20) cI 1600 tb, ro_rn u0 8 (q 2) kn, ro_rrrrrnniin (q 6) 2 (q 24) (q 25) (q 26) (q 27) (q 28) jd jm ju jr jn, ro_rrrrnn (q 24) 0 (q 29) (q 30) (q 31) (q 32) jc jx, ra_I (q 29) cI 1600 j1, ra_I (q 27) cI 3 jf, ra_I (q 28) cI 3 jt]) eu_5 hP hD rfl (fun hP hD => ?_)
  refine lv_if_eq (tgt := 24) hx hb dX3_readSumOf_5 (by decide) (fun c_7 => ?_) (fun c_7 => ?_)
  · have c_7 : b_1 = 0 := (neq b_1 0 (by omega) (Nat.le_of_ble_eq_true rfl)).mp c_7
    refine lv_aload_n hx hb dX3_readSumOf_24 rfl (lv_at hl 0 rfl) ?_
    refine sk_get (v := .ref (q 2)) (C := RX3) (T := TX3) (N := 3) hx hb hts inlX3 hown hK hP 0 rfl rfl 0 (Nat.le_of_ble_eq_true rfl) w_1_107 rfl dX3_readSumOf_25 ?_
    refine sk_VvZ (q0 := 0) (n := 0) (rest := []) (wr := fmR om_10_1c0 _) ⟨hx, hb, hml, hown, hts⟩ hl.1 (c_erd_step l D cI cJ cC cZ cS zk zv zf q xa xv 0 xt xz xf xp tl tb (bindR (rc og) (beF tb tl)) hxa hxz htl htb (rd_st htb (hO).1 hre)) w_3_75 w_2_226 w_2_227 w_1_4 w_2_228 hd_X6_step_0 ⟨⟨(Nat.le_of_ble_eq_true rfl), (Nat.le_of_ble_eq_true rfl)⟩, (Nat.le_of_ble_eq_true rfl), (Nat.le_of_ble_eq_true rfl)⟩ hK hP hD hS hZ hA (fmT om_10_1c0 0) (fmF om_10_1c0 0) (fm_C1 rfl rfl) (fm_R rfl rfl) (fm_nT om_10_1c0 0) (fm_nF om_10_1c0 0) (fm_di om_10_1c0 0) rfl rfl rfl rfl (Nat.le_of_ble_eq_true rfl) dX3_readSumOf_28 (fun u H locs hw hP hD hS => ?_)
    refine exE hw (fun xa2_8 hw1 => exE hw1 (fun xv2_9 hw2 => exE hw2 (fun xt2_10 hw3 => exE hw3 (fun xz2_11 hw4 => anE hw4 (fun hxa2_12 hw5 => anE hw5 (fun hxz2_13 hw6 => anE hw6 (fun hO2_14 eu_15 => ?_)))))))
    clear hw hw1 hw2 hw3 hw4 hw5 hw6
    refine o_mgE (ws' := [ro_rrr (q 3) 3 (q 2) (q 22) (q 23), ro_rniiinii (q 2) 6 (q 0) xa2_8 xv2_9 0 xt2_10 xz2_11 xf xp, ro_rn (q 0) 10 (q 20) tl, ra_N (q 20) cI 1600 tb, ro_rn u0 8 (q 2) kn, ro_rrrrrnniin (q 6) 2 (q 24) (q 25) (q 26) (q 27) (q 28) jd jm ju jr jn, ro_rrrrnn (q 24) 0 (q 29) (q 30) (q 31) (q 32) jc jx, ra_I (q 29) cI 1600 j1, ra_I (q 27) cI 3 jf, ra_I (q 28) cI 3 jt]) eu_15 hP hD rfl (fun hP hD => ?_)
    rw [stF_nx] at hO2_14
    have hO_16 := rs_bd hO hO2_14
    have hL_17 := lenS_nx htb hO hre hlen
    refine lv_aload_n hx hb dX3_readSumOf_31 rfl (lv_at hl 1 rfl) ?_
    refine lv_iload_n hx hb dX3_readSumOf_32 rfl (lv_at hl 2 rfl) ?_
    refine sk_Vv (q0 := 0) (n := 1) (rest := []) (wr := fmR om_10_1a _) ⟨hx, hb, hml, hown, hts⟩ hl.1 (c_elk_beginSum l D cI cJ cC cZ cS q jd jm ju jr jn jc jx jf w hw) w_3_76 w_3_77 w_3_78 w_1_9 w_3_79 hd_X2_beginSum_1 ⟨⟨(Nat.le_of_ble_eq_true rfl), (Nat.le_of_ble_eq_true rfl)⟩, (Nat.le_of_ble_eq_true rfl), (Nat.le_of_ble_eq_true rfl)⟩ hK hP hD hS hA (fmT om_10_1a 0) (fmF om_10_1a 0) (fm_C1 rfl rfl) (fm_R rfl rfl) (fm_nT om_10_1a 0) (fm_nF om_10_1a 0) (fm_di om_10_1a 0) rfl rfl rfl rfl (Nat.le_of_ble_eq_true rfl) dX3_readSumOf_33 (fun u H locs hw hP hD hS => ?_)
    refine exE hw (fun gf_18 hw1 => anE hw1 (fun hgf_19 eu_20 => ?_))
    clear hw hw1
    refine o_mgE (ws' := [ro_rrr (q 3) 3 (q 2) (q 22) (q 23), ro_rniiinii (q 2) 6 (q 0) xa2_8 xv2_9 0 xt2_10 xz2_11 xf xp, ro_rn (q 0) 10 (q 20) tl, ra_N (q 20) cI 1600 tb, ro_rn u0 8 (q 2) kn, ro_rrrrrnniin (q 6) 2 (q 24) (q 25) (q 26) (q 27) (q 28) jd jm ju jr jn, ro_rrrrnn (q 24) 0 (q 29) (q 30) (q 31) (q 32) jc jx, ra_I (q 29) cI 1600 j1, ra_I (q 27) cI 3 gf_18, ra_I (q 28) cI 3 jt]) eu_20 hP hD rfl (fun hP hD => ?_)
    refine lv_aload_n hx hb dX3_readSumOf_36 rfl (lv_at hl 3 rfl) ?_
    refine lv_aload_n hx hb dX3_readSumOf_37 rfl (lv_at hl 1 rfl) ?_
    refine sk_get (v := .ref (q 24)) (C := RX2) (T := TX2) (N := 10) hx hb hts inlX2 hown hK hP 5 rfl rfl 0 (Nat.le_of_ble_eq_true rfl) w_1_177 rfl dX3_readSumOf_38 ?_
    refine sk_VvZ (q0 := 0) (n := 1) (rest := []) (wr := fmR om_10_1ec _) ⟨hx, hb, hml, hown, hts⟩ hl.1 (c_esread l D cI cJ cC cZ cS zk zv zf 6 q u0 kn xa2_8 xv2_9 0 xt2_10 xz2_11 xf xp tl tb (q 24) (q 29) (q 30) (q 31) (q 32) jc jx j1 (bd og (nxF tb tl)) hxa2_12 hxz2_13 htl htb hjc hjx hkn (by omega) hO_16 (lenO_S hL_17)) w_3_80 w_3_81 w_3_82 w_1_6 w_3_83 hd_X8_read_1 ⟨⟨(Nat.le_of_ble_eq_true rfl), (Nat.le_of_ble_eq_true rfl)⟩, (Nat.le_of_ble_eq_true rfl), (Nat.le_of_ble_eq_true rfl)⟩ hK hP hD hS hZ hA [4, 1, 2, 3, 6, 7] (fmF om_10_1ec 0) rfl (fm_R rfl rfl) (by decide +kernel) (fm_nF om_10_1ec 0) (by decide +kernel) rfl rfl rfl rfl (Nat.le_of_ble_eq_true rfl) dX3_readSumOf_41 (fun u H locs hw hP hD hS => ?_)
    refine exE hw (fun xa2_21 hw1 => exE hw1 (fun xv2_22 hw2 => exE hw2 (fun xt2_23 hw3 => exE hw3 (fun xz2_24 hw4 => exE hw4 (fun xf2_25 hw5 => exE hw5 (fun xp2_26 hw6 => exE hw6 (fun c2_27 hw7 => exE hw7 (fun w2_28 hw8 => exE hw8 (fun g1_29 hw9 => anE hw9 (fun hxa2_30 hw10 => anE hw10 (fun hxz2_31 hw11 => anE hw11 (fun hc2_32 hw12 => anE hw12 (fun hw2_33 hw13 => anE hw13 (fun hO2_34 eu_35 => ?_))))))))))))))
    clear hw hw1 hw2 hw3 hw4 hw5 hw6 hw7 hw8 hw9 hw10 hw11 hw12 hw13
    refine o_mgqE (ux := [ro_rniiinii (q 2) 6 (q 0) xa2_21 xv2_22 0 xt2_23 xz2_24 xf2_25 xp2_26, ro_rn (q 0) 10 (q 20) tl, ra_N (q 20) cI 1600 tb, ro_rn u0 8 (q 2) kn, ro_rrrrnn (q 24) 0 (q 29) (q 30) (q 31) (q 32) c2_27 w2_28, ra_I (q 29) cI 1600 g1_29]) (ws' := [ro_rrr (q 3) 3 (q 2) (q 22) (q 23), ro_rniiinii (q 2) 6 (q 0) xa2_21 xv2_22 0 xt2_23 xz2_24 xf2_25 xp2_26, ro_rn (q 0) 10 (q 20) tl, ra_N (q 20) cI 1600 tb, ro_rn u0 8 (q 2) kn, ro_rrrrrnniin (q 6) 2 (q 24) (q 25) (q 26) (q 27) (q 28) jd jm ju jr jn, ro_rrrrnn (q 24) 0 (q 29) (q 30) (q 31) (q 32) c2_27 w2_28, ra_I (q 29) cI 1600 g1_29, ra_I (q 27) cI 3 gf_18, ra_I (q 28) cI 3 jt]) eu_35 [1, 2, 3, 0, 4, 5] (by decide +kernel) rfl hP hD rfl (fun hP hD => ?_)
    have hL_36 := lenS_ap (len_sum (tb := tb) (n := tl) (len_part (tb := tb) (n := tl) (kind := kn) 6)) hL_17
    refine lv_aload_n hx hb dX3_readSumOf_44 rfl (lv_at hl 1 rfl) ?_
    refine lv_iload_n hx hb dX3_readSumOf_45 rfl (lv_at hl 2 rfl) ?_
    refine sk_Vv (q0 := 0) (n := 1) (rest := []) (wr := fmR om_10_19 _) ⟨hx, hb, hml, hown, hts⟩ hl.1 (c_elk_endSum l D cI cJ cC cZ cS q jd jm ju jr jn c2_27 w2_28 jt w hw) w_3_123 w_3_124 w_3_125 w_1_9 w_3_126 hd_X2_endSum_1 ⟨⟨(Nat.le_of_ble_eq_true rfl), (Nat.le_of_ble_eq_true rfl)⟩, (Nat.le_of_ble_eq_true rfl), (Nat.le_of_ble_eq_true rfl)⟩ hK hP hD hS hA (fmT om_10_19 0) (fmF om_10_19 0) (fm_C1 rfl rfl) (fm_R rfl rfl) (fm_nT om_10_19 0) (fm_nF om_10_19 0) (fm_di om_10_19 0) rfl rfl rfl rfl (Nat.le_of_ble_eq_true rfl) dX3_readSumOf_46 (fun u H locs hw hP hD hS => ?_)
    refine exE hw (fun gt_37 hw1 => anE hw1 (fun hgt_38 eu_39 => ?_))
    clear hw hw1
    refine o_mgE (ws' := [ro_rrr (q 3) 3 (q 2) (q 22) (q 23), ro_rniiinii (q 2) 6 (q 0) xa2_21 xv2_22 0 xt2_23 xz2_24 xf2_25 xp2_26, ro_rn (q 0) 10 (q 20) tl, ra_N (q 20) cI 1600 tb, ro_rn u0 8 (q 2) kn, ro_rrrrrnniin (q 6) 2 (q 24) (q 25) (q 26) (q 27) (q 28) jd jm ju jr jn, ro_rrrrnn (q 24) 0 (q 29) (q 30) (q 31) (q 32) c2_27 w2_28, ra_I (q 29) cI 1600 g1_29, ra_I (q 27) cI 3 gf_18, ra_I (q 28) cI 3 gt_37]) eu_39 hP hD rfl (fun hP hD => ?_)
    exact sk_vret hx hb hr hlocks hK hP hD hS (⟨xa2_21, xv2_22, xt2_23, xz2_24, xf2_25, xp2_26, c2_27, w2_28, g1_29, gf_18, gt_37, hxa2_30, hxz2_31, hc2_32, hw2_33, Or.inr ⟨rr_0 hhs_4 (by omega), hO2_34, hgf_19, hgt_38⟩, rfl⟩) (Nat.le_of_ble_eq_true rfl) (Nat.le_of_ble_eq_true rfl) dX3_readSumOf_49
  · have c_7 : ¬ (b_1 = 0) := fun h => c_7 ((neq b_1 0 (by omega) (Nat.le_of_ble_eq_true rfl)).mpr h)
    refine lv_aload_n hx hb dX3_readSumOf_8 rfl (lv_at hl 0 rfl) ?_
    refine sk_get (v := .ref (q 2)) (C := RX3) (T := TX3) (N := 3) hx hb hts inlX3 hown hK hP 0 rfl rfl 0 (Nat.le_of_ble_eq_true rfl) w_1_107 rfl dX3_readSumOf_9 ?_
    refine lv_iconst (v := 5) hx hb dX3_readSumOf_12 ic_5 ?_
    refine lv_aload_n hx hb dX3_readSumOf_13 rfl (lv_at hl 0 rfl) ?_
    refine sk_get (v := .ref (q 2)) (C := RX3) (T := TX3) (N := 3) hx hb hts inlX3 hown hK hP 0 rfl rfl 0 (Nat.le_of_ble_eq_true rfl) w_1_107 rfl dX3_readSumOf_14 ?_
    refine sk_get (v := .int (nI xz)) (C := RX6) (T := TX6) (N := 8) hx hb hts inlX6 hown hK hP 1 rfl rfl 5 (Nat.le_of_ble_eq_true rfl) w_1_65 rfl dX3_readSumOf_17 ?_
    refine sk_Vv (q0 := 0) (n := 2) (rest := []) (wr := fmR om_10_100 _) ⟨hx, hb, hml, hown, hts⟩ hl.1 (c_erd_fail l D cI cJ cC cZ cS q xa xv 0 xt xz xf xp tl tb 5 xz (rc og) (by omega) (by omega) (by omega) (hO).1) w_3_74 w_3_59 w_3_60 w_1_4 w_3_61 hd_X6_fail_2 ⟨⟨(Nat.le_of_ble_eq_true rfl), (Nat.le_of_ble_eq_true rfl)⟩, (Nat.le_of_ble_eq_true rfl), (Nat.le_of_ble_eq_true rfl)⟩ hK hP hD hS hA (fmT om_10_100 0) (fmF om_10_100 0) (fm_C1 rfl rfl) (fm_R rfl rfl) (fm_nT om_10_100 0) (fm_nF om_10_100 0) (fm_di om_10_100 0) rfl rfl rfl rfl (Nat.le_of_ble_eq_true rfl) dX3_readSumOf_20 (fun u H locs hw hP hD hS => ?_)
    refine exE hw (fun xf2_40 hw1 => exE hw1 (fun xp2_41 hw2 => anE hw2 (fun hO2_42 eu_43 => ?_)))
    clear hw hw1 hw2
    refine o_mgE (ws' := [ro_rrr (q 3) 3 (q 2) (q 22) (q 23), ro_rniiinii (q 2) 6 (q 0) xa xv 0 (-2) xz xf2_40 xp2_41, ro_rn (q 0) 10 (q 20) tl, ra_N (q 20) cI 1600 tb, ro_rn u0 8 (q 2) kn, ro_rrrrrnniin (q 6) 2 (q 24) (q 25) (q 26) (q 27) (q 28) jd jm ju jr jn, ro_rrrrnn (q 24) 0 (q 29) (q 30) (q 31) (q 32) jc jx, ra_I (q 29) cI 1600 j1, ra_I (q 27) cI 3 jf, ra_I (q 28) cI 3 jt]) eu_43 hP hD rfl (fun hP hD => ?_)
    have hO_44 := rs_bd hO hO2_42
    exact sk_vret hx hb hr hlocks hK hP hD hS (⟨xa, xv, (-2), xz, xf2_40, xp2_41, jc, jx, j1, jf, jt, hxa, hxz, hjc, hjx, Or.inl ⟨rr_1 hhs_4 (by omega), rs_fh hO hO_44, rfl, rfl⟩, rfl⟩) (Nat.le_of_ble_eq_true rfl) (Nat.le_of_ble_eq_true rfl) dX3_readSumOf_23
set_option maxHeartbeats 4000000 in
set_option maxRecDepth 100000 in
theorem c_elk_addUntold (l : Launch) (D : va_G) (cI cJ cC cZ cS : ClassId) (q : Nat → Nat) (jd : Nat) (jm : Nat) (ju : Int32) (jr : Int32) (jn : Nat) (jc : Nat) (jx : Nat) (j1 : Nat → Int32) (jf : Nat → Int32) (jt : Nat → Int32) (jb : Nat → Int32) (jw : Nat → Int32) (tl : Nat) (tb : Nat → Nat) (hjc : jc ≤ 1600) (hjx : jx ≤ 1) (hun0 : unO (lockP tb tl) 0 jd jm ju jr jc jx j1 jf jt jb jw) : skM l yX2_addUntold cX2_addUntold 2 none 1 21 0 0 D (skT cI cJ cC cZ cS) [.ref (q 6)] [ro_rrrrrnniin (q 6) 2 (q 24) (q 25) (q 26) (q 27) (q 28) jd jm ju jr jn, ro_rrrrnn (q 24) 0 (q 29) (q 30) (q 31) (q 32) jc jx, ra_I (q 29) cI 1600 j1, ra_I (q 27) cI 3 jf, ra_I (q 28) cI 3 jt] (skV D (skT cI cJ cC cZ cS) (fun (u : va_W) => ∃ (jc2 : Nat), ∃ (jx2 : Nat), ∃ (k1_ : Nat → Int32), ∃ (kf_ : Nat → Int32), ∃ (kt_ : Nat → Int32), jc2 ≤ 1600 ∧ jx2 ≤ 1 ∧ unO (lockP tb tl) 3 jd jm ju jr jc2 jx2 k1_ kf_ kt_ jb jw ∧ u = [ro_rrrrrnniin (q 6) 2 (q 24) (q 25) (q 26) (q 27) (q 28) jd jm ju jr jn, ro_rrrrnn (q 24) 0 (q 29) (q 30) (q 31) (q 32) jc2 jx2, ra_I (q 29) cI 1600 k1_, ra_I (q 27) cI 3 kf_, ra_I (q 28) cI 3 kt_])) := by
  refine skM_of pf_X2_addUntold (Nat.le_of_ble_eq_true rfl) ?_
  intro p e s m below meth c A ls E hP hD hl
  refine skE_el E (fun hx hb hr hml hlocks hin hown hts hK hA => ?_)
  have hown : s.vm.findClass RX2 = some m.cls := hown
  have hS : va_S A s.heap s.heap [] := va_S.rf
  have hl : lv_has ls 2 [(0, .ref (q 6))] := hl
  refine lv_iconst (v := 0) hx hb dX2_addUntold_0 ic_0 ?_
  refine lv_istore_n (lv' := [(1, .int 0), (0, .ref (q 6))]) hx hb dX2_addUntold_1 rfl hl (by decide) rfl (fun ls hl => ?_)
  have lp_1 : ∀ (n_2 : Nat) (i : Nat) (yc : Nat) (yx : Nat) (y1 : Nat → Int32) (yf : Nat → Int32) (yt : Nat → Int32) (H : Heap) (locs : List Loc) (ls : Array Slot), 3 - i < n_2 → (i ≤ 3) → (yc ≤ 1600) → (yx ≤ 1) → (unO (lockP tb tl) i jd jm ju jr yc yx y1 yf yt jb jw) → va_P D vwCl [ro_rrrrrnniin (q 6) 2 (q 24) (q 25) (q 26) (q 27) (q 28) jd jm ju jr jn, ro_rrrrnn (q 24) 0 (q 29) (q 30) (q 31) (q 32) yc yx, ra_I (q 29) cI 1600 y1, ra_I (q 27) cI 3 yf, ra_I (q 28) cI 3 yt] H → va_D A [ro_rrrrrnniin (q 6) 2 (q 24) (q 25) (q 26) (q 27) (q 28) jd jm ju jr jn, ro_rrrrnn (q 24) 0 (q 29) (q 30) (q 31) (q 32) yc yx, ra_I (q 29) cI 1600 y1, ra_I (q 27) cI 3 yf, ra_I (q 28) cI 3 yt] → va_S A s.heap H locs → lv_has ls 2 [(1, .int (nI i)), (0, .ref (q 6))] → W p l e { frames := 1, cells := 0, slots := 0, locals := 21 } s m ([.ref (q 6)] : List Value).toArray below meth c H locs 0 0 (MQ below (skV D (skT cI cJ cC cZ cS) (fun (u : va_W) => ∃ (jc2 : Nat), ∃ (jx2 : Nat), ∃ (k1_ : Nat → Int32), ∃ (kf_ : Nat → Int32), ∃ (kt_ : Nat → Int32), jc2 ≤ 1600 ∧ jx2 ≤ 1 ∧ unO (lockP tb tl) 3 jd jm ju jr jc2 jx2 k1_ kf_ kt_ jb jw ∧ u = [ro_rrrrrnniin (q 6) 2 (q 24) (q 25) (q 26) (q 27) (q 28) jd jm ju jr jn, ro_rrrrnn (q 24) 0 (q 29) (q 30) (q 31) (q 32) jc2 jx2, ra_I (q 29) cI 1600 k1_, ra_I (q 27) cI 3 kf_, ra_I (q 28) cI 3 kt_]) A) ([.ref (q 6)] : List Value).toArray s 0 0 A) (F0 m 2 ls []) := by
    intro n_2
    induction n_2 with
    | zero => intro i yc yx y1 yf yt H locs ls hm; exact absurd hm (Nat.not_lt_zero _)
    | succ n_2 ih_lp_1 =>
      intro i yc yx y1 yf yt H locs ls hm hi hyc hyx hun hP hD hS hl
      refine lv_iload_n hx hb dX2_addUntold_2 rfl (lv_at hl 0 rfl) ?_
      refine lv_iconst (v := 2) hx hb dX2_addUntold_3 ic_2 ?_
      refine lv_icmp_gt (tgt := 52) hx hb dX2_addUntold_4 (by decide) (fun c_3 => ?_) (fun c_3 => ?_)
      · have c_3 : 2 < i := (nlt 2 i (Nat.le_of_ble_eq_true rfl) (by omega)).mp c_3
        exact sk_vret hx hb hr hlocks hK hP hD hS (⟨yc, yx, y1, yf, yt, hyc, hyx, (show unO (lockP tb tl) 3 jd jm ju jr yc yx y1 yf yt jb jw by rw [show 3 = i by omega]; exact hun), rfl⟩) (Nat.le_of_ble_eq_true rfl) (Nat.le_of_ble_eq_true rfl) dX2_addUntold_52
      · have c_3 : ¬ (2 < i) := fun h => c_3 ((nlt 2 i (Nat.le_of_ble_eq_true rfl) (by omega)).mpr h)
        refine lv_aload_n hx hb dX2_addUntold_7 rfl (lv_at hl 1 rfl) ?_
        refine lv_iload_n hx hb dX2_addUntold_8 rfl (lv_at hl 0 rfl) ?_
        refine sk_Vi (q0 := 0) (n := 1) (rest := []) (wr := fmR om_5_13 _) ⟨hx, hb, hml, hown, hts⟩ hl.1 (c_elk_hasSum l D cI cJ cC cZ cS q jd jm ju jr jn yf yt i (by omega)) w_3_144 w_3_71 w_3_72 w_1_9 w_3_73 hd_X2_hasSum_1 ⟨⟨(Nat.le_of_ble_eq_true rfl), (Nat.le_of_ble_eq_true rfl)⟩, (Nat.le_of_ble_eq_true rfl), (Nat.le_of_ble_eq_true rfl)⟩ hK hP hD hS hA (fmT om_5_13 0) (fmF om_5_13 0) (fm_C1 rfl rfl) (fm_R rfl rfl) (fm_nT om_5_13 0) (fm_nF om_5_13 0) (fm_di om_5_13 0) rfl rfl rfl rfl (Nat.le_of_ble_eq_true rfl) dX2_addUntold_9 (fun r_5 u H locs hw hP hD hS => ?_)
        refine exE hw (fun b_4 hw1 => anE hw1 (fun hb1_6 hw2 => anE hw2 (fun hhs_7 hw3 => anE hw3 (fun er_9 eu_8 => ?_))))
        clear hw hw1 hw2 hw3
        subst er_9
        refine o_mgE (ws' := [ro_rrrrrnniin (q 6) 2 (q 24) (q 25) (q 26) (q 27) (q 28) jd jm ju jr jn, ro_rrrrnn (q 24) 0 (q 29) (q 30) (q 31) (q 32) yc yx, ra_I (q 29) cI 1600 y1, ra_I (q 27) cI 3 yf, ra_I (q 28) cI 3 yt]) eu_8 hP hD rfl (fun hP hD => ?_)
        refine lv_if_ne (tgt := 46) hx hb dX2_addUntold_12 (by decide) (fun c_10 => ?_) (fun c_10 => ?_)
        · have c_10 : ¬ (b_4 = 0) := fun h => c_10 ((neq b_4 0 (by omega) (Nat.le_of_ble_eq_true rfl)).mpr h)
          refine lv_iinc (v := nI (i + 1)) (lv' := [(1, .int (nI (i + 1))), (0, .ref (q 6))]) hx hb dX2_addUntold_46 hl (k := 0) rfl (ninc i 1 (by decide)) (by decide) rfl (fun ls hl => ?_)
          refine lv_goto (tgt := 2) hx hb dX2_addUntold_49 (by decide) ?_
          exact ih_lp_1 (i + 1) yc yx y1 yf yt _ _ _ (by omega) (by omega) hyc hyx (un_has hun (by omega) (rr_1 hhs_7 (by omega))) hP hD hS (lv_sub hl [0, 1] rfl)
        · have c_10 : b_4 = 0 := (neq b_4 0 (by omega) (Nat.le_of_ble_eq_true rfl)).mp c_10
          refine lv_aload_n hx hb dX2_addUntold_15 rfl (lv_at hl 1 rfl) ?_
          refine lv_iload_n hx hb dX2_addUntold_16 rfl (lv_at hl 0 rfl) ?_
          refine sk_Vv (q0 := 0) (n := 1) (rest := []) (wr := fmR om_5_1a _) ⟨hx, hb, hml, hown, hts⟩ hl.1 (c_elk_beginSum l D cI cJ cC cZ cS q jd jm ju jr jn yc yx yf i (by omega)) w_3_145 w_3_77 w_3_78 w_1_9 w_3_79 hd_X2_beginSum_1 ⟨⟨(Nat.le_of_ble_eq_true rfl), (Nat.le_of_ble_eq_true rfl)⟩, (Nat.le_of_ble_eq_true rfl), (Nat.le_of_ble_eq_true rfl)⟩ hK hP hD hS hA (fmT om_5_1a 0) (fmF om_5_1a 0) (fm_C1 rfl rfl) (fm_R rfl rfl) (fm_nT om_5_1a 0) (fm_nF om_5_1a 0) (fm_di om_5_1a 0) rfl rfl rfl rfl (Nat.le_of_ble_eq_true rfl) dX2_addUntold_17 (fun u H locs hw hP hD hS => ?_)
          refine exE hw (fun gf_11 hw1 => anE hw1 (fun hgf_12 eu_13 => ?_))
          clear hw hw1
          refine o_mgE (ws' := [ro_rrrrrnniin (q 6) 2 (q 24) (q 25) (q 26) (q 27) (q 28) jd jm ju jr jn, ro_rrrrnn (q 24) 0 (q 29) (q 30) (q 31) (q 32) yc yx, ra_I (q 29) cI 1600 y1, ra_I (q 27) cI 3 gf_11, ra_I (q 28) cI 3 yt]) eu_13 hP hD rfl (fun hP hD => ?_)
          refine lv_aload_n hx hb dX2_addUntold_20 rfl (lv_at hl 1 rfl) ?_
          refine sk_get (v := .ref (q 24)) (C := RX2) (T := TX2) (N := 10) hx hb hts inlX2 hown hK hP 0 rfl rfl 0 (Nat.le_of_ble_eq_true rfl) w_1_175 rfl dX2_addUntold_21 ?_
          refine lv_iload_n hx hb dX2_addUntold_24 rfl (lv_at hl 0 rfl) ?_
          refine lv_iconst (v := 1) hx hb dX2_addUntold_25 ic_1 ?_
          refine lv_icmp_ne (tgt := 35) hx hb dX2_addUntold_26 (by decide) (fun c_14 => ?_) (fun c_14 => ?_)
          · have c_14 : ¬ (i = 1) := fun h => c_14 ((neq i 1 (by omega) (Nat.le_of_ble_eq_true rfl)).mpr h)
            refine lv_sipush (v := 10000) hx hb dX2_addUntold_35 (by decide) ?_
            refine sk_Vv (q0 := 0) (n := 1) (rest := []) (wr := fmR om_5_c _) ⟨hx, hb, hml, hown, hts⟩ hl.1 (c_eCode_addX l D cI cJ cC cZ cS (q 24) (q 29) (q 30) (q 31) (q 32) yc yx y1 10000 (unR (lockP tb tl) i) 40 hyc hyx (by decide) (by omega) (un_co hun) (un_rm hun (by omega))) w_3_146 w_3_98 w_3_99 w_1_8 w_3_100 hd_X0_add_1 ⟨⟨(Nat.le_of_ble_eq_true rfl), (Nat.le_of_ble_eq_true rfl)⟩, (Nat.le_of_ble_eq_true rfl), (Nat.le_of_ble_eq_true rfl)⟩ hK hP hD hS hA (fmT om_5_c 0) (fmF om_5_c 0) (fm_C1 rfl rfl) (fm_R rfl rfl) (fm_nT om_5_c 0) (fm_nF om_5_c 0) (fm_di om_5_c 0) rfl rfl rfl rfl (Nat.le_of_ble_eq_true rfl) dX2_addUntold_38 (fun u H locs hw hP hD hS => ?_)
            refine exE hw (fun c2_15 hw1 => exE hw1 (fun w2_16 hw2 => exE hw2 (fun g1_17 hw3 => anE hw3 (fun hc2_18 hw4 => anE hw4 (fun hw2_19 hw5 => anE hw5 (fun hO2_20 eu_21 => ?_))))))
            clear hw hw1 hw2 hw3 hw4 hw5
            refine o_mgE (ws' := [ro_rrrrrnniin (q 6) 2 (q 24) (q 25) (q 26) (q 27) (q 28) jd jm ju jr jn, ro_rrrrnn (q 24) 0 (q 29) (q 30) (q 31) (q 32) c2_15 w2_16, ra_I (q 29) cI 1600 g1_17, ra_I (q 27) cI 3 gf_11, ra_I (q 28) cI 3 yt]) eu_21 hP hD rfl (fun hP hD => ?_)
            refine lv_aload_n hx hb dX2_addUntold_41 rfl (lv_at hl 1 rfl) ?_
            refine lv_iload_n hx hb dX2_addUntold_42 rfl (lv_at hl 0 rfl) ?_
            refine sk_Vv (q0 := 0) (n := 1) (rest := []) (wr := fmR om_5_19 _) ⟨hx, hb, hml, hown, hts⟩ hl.1 (c_elk_endSum l D cI cJ cC cZ cS q jd jm ju jr jn c2_15 w2_16 yt i (by omega)) w_3_147 w_3_124 w_3_125 w_1_9 w_3_126 hd_X2_endSum_1 ⟨⟨(Nat.le_of_ble_eq_true rfl), (Nat.le_of_ble_eq_true rfl)⟩, (Nat.le_of_ble_eq_true rfl), (Nat.le_of_ble_eq_true rfl)⟩ hK hP hD hS hA (fmT om_5_19 0) (fmF om_5_19 0) (fm_C1 rfl rfl) (fm_R rfl rfl) (fm_nT om_5_19 0) (fm_nF om_5_19 0) (fm_di om_5_19 0) rfl rfl rfl rfl (Nat.le_of_ble_eq_true rfl) dX2_addUntold_43 (fun u H locs hw hP hD hS => ?_)
            refine exE hw (fun gt_22 hw1 => anE hw1 (fun hgt_23 eu_24 => ?_))
            clear hw hw1
            refine o_mgE (ws' := [ro_rrrrrnniin (q 6) 2 (q 24) (q 25) (q 26) (q 27) (q 28) jd jm ju jr jn, ro_rrrrnn (q 24) 0 (q 29) (q 30) (q 31) (q 32) c2_15 w2_16, ra_I (q 29) cI 1600 g1_17, ra_I (q 27) cI 3 gf_11, ra_I (q 28) cI 3 gt_22]) eu_24 hP hD rfl (fun hP hD => ?_)
            refine lv_iinc (v := nI (i + 1)) (lv' := [(1, .int (nI (i + 1))), (0, .ref (q 6))]) hx hb dX2_addUntold_46 hl (k := 0) rfl (ninc i 1 (by decide)) (by decide) rfl (fun ls hl => ?_)
            refine lv_goto (tgt := 2) hx hb dX2_addUntold_49 (by decide) ?_
            exact ih_lp_1 (i + 1) c2_15 w2_16 g1_17 gf_11 gt_22 _ _ _ (by omega) (by omega) hc2_18 hw2_19 (by rw [hgf_12, hgt_23]; exact un_add hun (by omega) (rr_0 hhs_7 (by omega)) (by rw [(if_neg c_14)]; exact hO2_20)) hP hD hS (lv_sub hl [0, 1] rfl)
          · have c_14 : i = 1 := (neq i 1 (by omega) (Nat.le_of_ble_eq_true rfl)).mp c_14
            refine lv_sipush (v := 10005) hx hb dX2_addUntold_29 (by decide) ?_
            refine lv_goto (tgt := 38) hx hb dX2_addUntold_32 (by decide) ?_
            refine sk_Vv (q0 := 0) (n := 1) (rest := []) (wr := fmR om_5_c _) ⟨hx, hb, hml, hown, hts⟩ hl.1 (c_eCode_addX l D cI cJ cC cZ cS (q 24) (q 29) (q 30) (q 31) (q 32) yc yx y1 10005 (unR (lockP tb tl) i) 45 hyc hyx (by decide) (by omega) (un_co hun) (un_rm hun (by omega))) w_3_146 w_3_98 w_3_99 w_1_8 w_3_100 hd_X0_add_1 ⟨⟨(Nat.le_of_ble_eq_true rfl), (Nat.le_of_ble_eq_true rfl)⟩, (Nat.le_of_ble_eq_true rfl), (Nat.le_of_ble_eq_true rfl)⟩ hK hP hD hS hA (fmT om_5_c 0) (fmF om_5_c 0) (fm_C1 rfl rfl) (fm_R rfl rfl) (fm_nT om_5_c 0) (fm_nF om_5_c 0) (fm_di om_5_c 0) rfl rfl rfl rfl (Nat.le_of_ble_eq_true rfl) dX2_addUntold_38 (fun u H locs hw hP hD hS => ?_)
            refine exE hw (fun c2_25 hw1 => exE hw1 (fun w2_26 hw2 => exE hw2 (fun g1_27 hw3 => anE hw3 (fun hc2_28 hw4 => anE hw4 (fun hw2_29 hw5 => anE hw5 (fun hO2_30 eu_31 => ?_))))))
            clear hw hw1 hw2 hw3 hw4 hw5
            refine o_mgE (ws' := [ro_rrrrrnniin (q 6) 2 (q 24) (q 25) (q 26) (q 27) (q 28) jd jm ju jr jn, ro_rrrrnn (q 24) 0 (q 29) (q 30) (q 31) (q 32) c2_25 w2_26, ra_I (q 29) cI 1600 g1_27, ra_I (q 27) cI 3 gf_11, ra_I (q 28) cI 3 yt]) eu_31 hP hD rfl (fun hP hD => ?_)
            refine lv_aload_n hx hb dX2_addUntold_41 rfl (lv_at hl 1 rfl) ?_
            refine lv_iload_n hx hb dX2_addUntold_42 rfl (lv_at hl 0 rfl) ?_
            refine sk_Vv (q0 := 0) (n := 1) (rest := []) (wr := fmR om_5_19 _) ⟨hx, hb, hml, hown, hts⟩ hl.1 (c_elk_endSum l D cI cJ cC cZ cS q jd jm ju jr jn c2_25 w2_26 yt i (by omega)) w_3_147 w_3_124 w_3_125 w_1_9 w_3_126 hd_X2_endSum_1 ⟨⟨(Nat.le_of_ble_eq_true rfl), (Nat.le_of_ble_eq_true rfl)⟩, (Nat.le_of_ble_eq_true rfl), (Nat.le_of_ble_eq_true rfl)⟩ hK hP hD hS hA (fmT om_5_19 0) (fmF om_5_19 0) (fm_C1 rfl rfl) (fm_R rfl rfl) (fm_nT om_5_19 0) (fm_nF om_5_19 0) (fm_di om_5_19 0) rfl rfl rfl rfl (Nat.le_of_ble_eq_true rfl) dX2_addUntold_43 (fun u H locs hw hP hD hS => ?_)
            refine exE hw (fun gt_32 hw1 => anE hw1 (fun hgt_33 eu_34 => ?_))
            clear hw hw1
            refine o_mgE (ws' := [ro_rrrrrnniin (q 6) 2 (q 24) (q 25) (q 26) (q 27) (q 28) jd jm ju jr jn, ro_rrrrnn (q 24) 0 (q 29) (q 30) (q 31) (q 32) c2_25 w2_26, ra_I (q 29) cI 1600 g1_27, ra_I (q 27) cI 3 gf_11, ra_I (q 28) cI 3 gt_32]) eu_34 hP hD rfl (fun hP hD => ?_)
            refine lv_iinc (v := nI (i + 1)) (lv' := [(1, .int (nI (i + 1))), (0, .ref (q 6))]) hx hb dX2_addUntold_46 hl (k := 0) rfl (ninc i 1 (by decide)) (by decide) rfl (fun ls hl => ?_)
            refine lv_goto (tgt := 2) hx hb dX2_addUntold_49 (by decide) ?_
            exact ih_lp_1 (i + 1) c2_25 w2_26 g1_27 gf_11 gt_32 _ _ _ (by omega) (by omega) hc2_28 hw2_29 (by rw [hgf_12, hgt_33]; exact un_add hun (by omega) (rr_0 hhs_7 (by omega)) (by rw [(if_pos c_14)]; exact hO2_30)) hP hD hS (lv_sub hl [0, 1] rfl)
  exact lp_1 (3 - 0 + 1) 0 jc jx j1 jf jt _ _ _ (Nat.lt_succ_self _) (by omega) hjc hjx hun0 hP hD hS (lv_sub hl [0, 1] rfl)
set_option maxHeartbeats 4000000 in
set_option maxRecDepth 100000 in
theorem c_elt_read (l : Launch) (D : va_G) (cI cJ cC cZ cS : ClassId) (zk zv : Nat) (zf : Value) (q : Nat → Nat) (xa : Nat) (xv : Int32) (xo : Nat) (xt : Int32) (xz : Nat) (xf : Int32) (xp : Int32) (tl : Nat) (tb : Nat → Nat) (jd : Nat) (jm : Nat) (ju : Int32) (jr : Int32) (jn : Nat) (jc : Nat) (jx : Nat) (j1 : Nat → Int32) (jf : Nat → Int32) (jt : Nat → Int32) (jb : Nat → Int32) (jw : Nat → Int32) (hxa : xa ≤ 1600) (hxz : xz ≤ 1600) (htl : tl ≤ 1600) (htb : ∀ j, tb j ≤ 255) (hjc : jc ≤ 1600) (hjx : jx ≤ 1) : skMZ zk zv zf l yX3_read cX3_read 2 none 56 1344 0 0 D (skT cI cJ cC cZ cS) [.ref (q 3), .ref (q 6)] [ro_rrr (q 3) 3 (q 2) (q 22) (q 23), ro_rnininii (q 2) 6 (q 0) xa xv xo xt xz xf xp, ro_rn (q 0) 10 (q 20) tl, ra_N (q 20) cI 1600 tb, ro_ri (q 22) 8 (q 2) 0, ro_ri (q 23) 8 (q 2) 1, ro_rrrrrnniin (q 6) 2 (q 24) (q 25) (q 26) (q 27) (q 28) jd jm ju jr jn, ro_rrrrnn (q 24) 0 (q 29) (q 30) (q 31) (q 32) jc jx, ra_I (q 29) cI 1600 j1, ra_I (q 27) cI 3 jf, ra_I (q 28) cI 3 jt, ra_I (q 25) cI 9 jb, ra_I (q 26) cI 9 jw] (skV D (skT cI cJ cC cZ cS) (fun (u : va_W) => ∃ (xa2 : Nat), ∃ (xv2 : Int32), ∃ (xt2 : Int32), ∃ (xz2 : Nat), ∃ (xf2 : Int32), ∃ (xp2 : Int32), ∃ (jc2 : Nat), ∃ (jx2 : Nat), ∃ (k1_ : Nat → Int32), ∃ (kf_ : Nat → Int32), ∃ (kt_ : Nat → Int32), ∃ (jd2 : Nat), ∃ (jm2 : Nat), ∃ (jn2 : Nat), ∃ (ju2 : Int32), ∃ (jr2 : Int32), ∃ (jb2 : Nat → Int32), ∃ (jw2 : Nat → Int32), xa2 ≤ 1600 ∧ xz2 ≤ 1600 ∧ jc2 ≤ 1600 ∧ jx2 ≤ 1 ∧ 2 ≤ jd2 ∧ jd2 ≤ 9 ∧ jm2 ≤ 9 ∧ jn2 ≤ 60 ∧ finO tb tl xf2 xp2 jn2 jd2 jm2 ju2 jr2 jc2 jx2 k1_ kf_ kt_ jb2 jw2 ∧ u = [ro_rrr (q 3) 3 (q 2) (q 22) (q 23), ro_rniiinii (q 2) 6 (q 0) xa2 xv2 0 xt2 xz2 xf2 xp2, ro_rn (q 0) 10 (q 20) tl, ra_N (q 20) cI 1600 tb, ro_ri (q 22) 8 (q 2) 0, ro_ri (q 23) 8 (q 2) 1, ro_rrrrrnniin (q 6) 2 (q 24) (q 25) (q 26) (q 27) (q 28) jd2 jm2 ju2 jr2 jn2, ro_rrrrnn (q 24) 0 (q 29) (q 30) (q 31) (q 32) jc2 jx2, ra_I (q 29) cI 1600 k1_, ra_I (q 27) cI 3 kf_, ra_I (q 28) cI 3 kt_, ra_I (q 25) cI 9 jb2, ra_I (q 26) cI 9 jw2])) := by
  refine skMZ_of pf_X3_read (Nat.le_of_ble_eq_true rfl) ?_
  intro p e s m below meth c A ls E hP hD hZ hl
  refine skE_el E (fun hx hb hr hml hlocks hin hown hts hK hA => ?_)
  have hown : s.vm.findClass RX3 = some m.cls := hown
  have hS : va_S A s.heap s.heap [] := va_S.rf
  have hl : lv_has ls 2 [(0, .ref (q 3)), (1, .ref (q 6))] := hl
  refine lv_aload_n hx hb dX3_read_0 rfl (lv_at hl 1 rfl) ?_
  refine sk_Vv (q0 := 0) (n := 0) (rest := []) (wr := fmR om_13_6f _) ⟨hx, hb, hml, hown, hts⟩ hl.1 (c_elk_clear l D cI cJ cC cZ cS q jd jm ju jr jn jc jx jf jt jb jw) w_2_210 w_2_211 w_2_212 w_1_9 w_2_213 hd_X2_clear_0 ⟨⟨(Nat.le_of_ble_eq_true rfl), (Nat.le_of_ble_eq_true rfl)⟩, (Nat.le_of_ble_eq_true rfl), (Nat.le_of_ble_eq_true rfl)⟩ hK hP hD hS hA (fmT om_13_6f 0) (fmF om_13_6f 0) (fm_C1 rfl rfl) (fm_R rfl rfl) (fm_nT om_13_6f 0) (fm_nF om_13_6f 0) (fm_di om_13_6f 0) rfl rfl rfl rfl (Nat.le_of_ble_eq_true rfl) dX3_read_1 (fun u H locs hw hP hD hS => ?_)
  refine exE hw (fun gf_1 hw1 => exE hw1 (fun gt_2 hw2 => exE hw2 (fun gb_3 hw3 => exE hw3 (fun gw_4 hw4 => anE hw4 (fun hgf_5 hw5 => anE hw5 (fun hgt_6 hw6 => anE hw6 (fun hgb_7 hw7 => anE hw7 (fun hgw_8 eu_9 => ?_))))))))
  clear hw hw1 hw2 hw3 hw4 hw5 hw6 hw7
  refine o_mgE (ws' := [ro_rrr (q 3) 3 (q 2) (q 22) (q 23), ro_rnininii (q 2) 6 (q 0) xa xv xo xt xz xf xp, ro_rn (q 0) 10 (q 20) tl, ra_N (q 20) cI 1600 tb, ro_ri (q 22) 8 (q 2) 0, ro_ri (q 23) 8 (q 2) 1, ro_rrrrrnniii (q 6) 2 (q 24) (q 25) (q 26) (q 27) (q 28) jd jm 0 0 0, ro_rrrrii (q 24) 0 (q 29) (q 30) (q 31) (q 32) 0 0, ra_I (q 29) cI 1600 j1, ra_I (q 27) cI 3 gf_1, ra_I (q 28) cI 3 gt_2, ra_I (q 25) cI 9 gb_3, ra_I (q 26) cI 9 gw_4]) eu_9 hP hD rfl (fun hP hD => ?_)
  refine lv_aload_n hx hb dX3_read_4 rfl (lv_at hl 0 rfl) ?_
  refine sk_get (v := .ref (q 2)) (C := RX3) (T := TX3) (N := 3) hx hb hts inlX3 hown hK hP 0 rfl rfl 0 (Nat.le_of_ble_eq_true rfl) w_1_107 rfl dX3_read_5 ?_
  refine sk_VvZ (q0 := 0) (n := 0) (rest := []) (wr := fmR om_13_e00 _) ⟨hx, hb, hml, hown, hts⟩ hl.1 (c_erd_begin l D cI cJ cC cZ cS zk zv zf q xa xv xo xt xz xf xp tl tb hxa hxz htl htb) w_2_221 w_2_222 w_2_223 w_1_4 w_2_224 hd_X6_begin_0 ⟨⟨(Nat.le_of_ble_eq_true rfl), (Nat.le_of_ble_eq_true rfl)⟩, (Nat.le_of_ble_eq_true rfl), (Nat.le_of_ble_eq_true rfl)⟩ hK hP hD hS hZ hA (fmT om_13_e00 0) (fmF om_13_e00 0) (fm_C1 rfl rfl) (fm_R rfl rfl) (fm_nT om_13_e00 0) (fm_nF om_13_e00 0) (fm_di om_13_e00 0) rfl rfl rfl rfl (Nat.le_of_ble_eq_true rfl) dX3_read_8 (fun u H locs hw hP hD hS => ?_)
  refine exE hw (fun xa2_10 hw1 => exE hw1 (fun xv2_11 hw2 => exE hw2 (fun xt2_12 hw3 => exE hw3 (fun xz2_13 hw4 => anE hw4 (fun hxa2_14 hw5 => anE hw5 (fun hxz2_15 hw6 => anE hw6 (fun hO2_16 eu_17 => ?_)))))))
  clear hw hw1 hw2 hw3 hw4 hw5 hw6
  refine o_mgE (ws' := [ro_rrr (q 3) 3 (q 2) (q 22) (q 23), ro_rniiinii (q 2) 6 (q 0) xa2_10 xv2_11 0 xt2_12 xz2_13 0 (-1), ro_rn (q 0) 10 (q 20) tl, ra_N (q 20) cI 1600 tb, ro_ri (q 22) 8 (q 2) 0, ro_ri (q 23) 8 (q 2) 1, ro_rrrrrnniii (q 6) 2 (q 24) (q 25) (q 26) (q 27) (q 28) jd jm 0 0 0, ro_rrrrii (q 24) 0 (q 29) (q 30) (q 31) (q 32) 0 0, ra_I (q 29) cI 1600 j1, ra_I (q 27) cI 3 gf_1, ra_I (q 28) cI 3 gt_2, ra_I (q 25) cI 9 gb_3, ra_I (q 26) cI 9 gw_4]) eu_17 hP hD rfl (fun hP hD => ?_)
  refine lv_aload_n hx hb dX3_read_11 rfl (lv_at hl 0 rfl) ?_
  refine lv_aload_n hx hb dX3_read_12 rfl (lv_at hl 1 rfl) ?_
  refine sk_VvZ (q0 := 0) (n := 1) (rest := []) (wr := fmR om_13_1e40 _) ⟨hx, hb, hml, hown, hts⟩ hl.1 (c_elt_opening l D cI cJ cC cZ cS zk zv zf q xa2_10 xv2_11 0 xt2_12 xz2_13 0 (-1) tl tb jd jm 0 0 0 (.ok (sk tb tl 0, false)) hxa2_14 hxz2_15 htl htb hO2_16) w_3_46 w_3_48 w_0_4 w_1_5 w_3_49 hd_X3_readOpening_1 ⟨⟨(Nat.le_of_ble_eq_true rfl), (Nat.le_of_ble_eq_true rfl)⟩, (Nat.le_of_ble_eq_true rfl), (Nat.le_of_ble_eq_true rfl)⟩ hK hP hD hS hZ hA (fmT om_13_1e40 0) (fmF om_13_1e40 0) (fm_C1 rfl rfl) (fm_R rfl rfl) (fm_nT om_13_1e40 0) (fm_nF om_13_1e40 0) (fm_di om_13_1e40 0) rfl rfl rfl rfl (Nat.le_of_ble_eq_true rfl) dX3_read_13 (fun u H locs hw hP hD hS => ?_)
  refine exE hw (fun xa2_18 hw1 => exE hw1 (fun xv2_19 hw2 => exE hw2 (fun xt2_20 hw3 => exE hw3 (fun xz2_21 hw4 => exE hw4 (fun xf2_22 hw5 => exE hw5 (fun xp2_23 hw6 => exE hw6 (fun jd2_24 hw7 => exE hw7 (fun jm2_25 hw8 => anE hw8 (fun hxa2_26 hw9 => anE hw9 (fun hxz2_27 hw10 => anE hw10 (fun hjd2_28 hw11 => anE hw11 (fun hjd3_29 hw12 => anE hw12 (fun hjm2_30 hw13 => anE hw13 (fun hnd_31 hw14 => anE hw14 (fun hnm_32 hw15 => anE hw15 (fun hO2_33 eu_34 => ?_))))))))))))))))
  clear hw hw1 hw2 hw3 hw4 hw5 hw6 hw7 hw8 hw9 hw10 hw11 hw12 hw13 hw14 hw15
  refine o_mgE (ws' := [ro_rrr (q 3) 3 (q 2) (q 22) (q 23), ro_rniiinii (q 2) 6 (q 0) xa2_18 xv2_19 0 xt2_20 xz2_21 xf2_22 xp2_23, ro_rn (q 0) 10 (q 20) tl, ra_N (q 20) cI 1600 tb, ro_ri (q 22) 8 (q 2) 0, ro_ri (q 23) 8 (q 2) 1, ro_rrrrrnniii (q 6) 2 (q 24) (q 25) (q 26) (q 27) (q 28) jd2_24 jm2_25 0 0 1, ro_rrrrii (q 24) 0 (q 29) (q 30) (q 31) (q 32) 0 0, ra_I (q 29) cI 1600 j1, ra_I (q 27) cI 3 gf_1, ra_I (q 28) cI 3 gt_2, ra_I (q 25) cI 9 gb_3, ra_I (q 26) cI 9 gw_4]) eu_34 hP hD rfl (fun hP hD => ?_)
  have hO_35 := ll_open (j1 := j1) htb hO2_33 hnd_31 hnm_32 hgf_5 hgt_6 hgb_7 hgw_8
  have lp_36 : ∀ (n_37 : Nat) (za : Nat) (zw : Int32) (zt : Int32) (zz : Nat) (zg : Int32) (zp : Int32) (yu : Int32) (yr : Int32) (yn : Nat) (yc : Nat) (yx : Nat) (y1 : Nat → Int32) (yf : Nat → Int32) (yt : Nat → Int32) (yb : Nat → Int32) (yw : Nat → Int32) (zmu : Nat → Bool) (zo : LkR) (H : Heap) (locs : List Loc) (ls : Array Slot), 60 - yn < n_37 → (llO tb tl zo za zw zt zz zg zp jd2_24 jm2_25 yu yr yc yx y1 yf yt yb yw) → (yn ≤ 60) → (za ≤ 1600) → (zz ≤ 1600) → (yc ≤ 1600) → (yx ≤ 1) → (muO zmu yu) → (len5 zo) → (bindR zo (stP tb tl (60 - yn)) = lockP tb tl) → va_P D vwCl [ro_rrr (q 3) 3 (q 2) (q 22) (q 23), ro_rniiinii (q 2) 6 (q 0) za zw 0 zt zz zg zp, ro_rn (q 0) 10 (q 20) tl, ra_N (q 20) cI 1600 tb, ro_ri (q 22) 8 (q 2) 0, ro_ri (q 23) 8 (q 2) 1, ro_rrrrrnniin (q 6) 2 (q 24) (q 25) (q 26) (q 27) (q 28) jd2_24 jm2_25 yu yr yn, ro_rrrrnn (q 24) 0 (q 29) (q 30) (q 31) (q 32) yc yx, ra_I (q 29) cI 1600 y1, ra_I (q 27) cI 3 yf, ra_I (q 28) cI 3 yt, ra_I (q 25) cI 9 yb, ra_I (q 26) cI 9 yw] H → va_D A [ro_rrr (q 3) 3 (q 2) (q 22) (q 23), ro_rniiinii (q 2) 6 (q 0) za zw 0 zt zz zg zp, ro_rn (q 0) 10 (q 20) tl, ra_N (q 20) cI 1600 tb, ro_ri (q 22) 8 (q 2) 0, ro_ri (q 23) 8 (q 2) 1, ro_rrrrrnniin (q 6) 2 (q 24) (q 25) (q 26) (q 27) (q 28) jd2_24 jm2_25 yu yr yn, ro_rrrrnn (q 24) 0 (q 29) (q 30) (q 31) (q 32) yc yx, ra_I (q 29) cI 1600 y1, ra_I (q 27) cI 3 yf, ra_I (q 28) cI 3 yt, ra_I (q 25) cI 9 yb, ra_I (q 26) cI 9 yw] → va_S A s.heap H locs → lv_has ls 2 [(0, .ref (q 3)), (1, .ref (q 6))] → W p l e { frames := 56, cells := 0, slots := 0, locals := 1344 } s m ([.ref (q 3), .ref (q 6)] : List Value).toArray below meth c H locs 0 0 (MQ below (skV D (skT cI cJ cC cZ cS) (fun (u : va_W) => ∃ (xa2 : Nat), ∃ (xv2 : Int32), ∃ (xt2 : Int32), ∃ (xz2 : Nat), ∃ (xf2 : Int32), ∃ (xp2 : Int32), ∃ (jc2 : Nat), ∃ (jx2 : Nat), ∃ (k1_ : Nat → Int32), ∃ (kf_ : Nat → Int32), ∃ (kt_ : Nat → Int32), ∃ (jd2 : Nat), ∃ (jm2 : Nat), ∃ (jn2 : Nat), ∃ (ju2 : Int32), ∃ (jr2 : Int32), ∃ (jb2 : Nat → Int32), ∃ (jw2 : Nat → Int32), xa2 ≤ 1600 ∧ xz2 ≤ 1600 ∧ jc2 ≤ 1600 ∧ jx2 ≤ 1 ∧ 2 ≤ jd2 ∧ jd2 ≤ 9 ∧ jm2 ≤ 9 ∧ jn2 ≤ 60 ∧ finO tb tl xf2 xp2 jn2 jd2 jm2 ju2 jr2 jc2 jx2 k1_ kf_ kt_ jb2 jw2 ∧ u = [ro_rrr (q 3) 3 (q 2) (q 22) (q 23), ro_rniiinii (q 2) 6 (q 0) xa2 xv2 0 xt2 xz2 xf2 xp2, ro_rn (q 0) 10 (q 20) tl, ra_N (q 20) cI 1600 tb, ro_ri (q 22) 8 (q 2) 0, ro_ri (q 23) 8 (q 2) 1, ro_rrrrrnniin (q 6) 2 (q 24) (q 25) (q 26) (q 27) (q 28) jd2 jm2 ju2 jr2 jn2, ro_rrrrnn (q 24) 0 (q 29) (q 30) (q 31) (q 32) jc2 jx2, ra_I (q 29) cI 1600 k1_, ra_I (q 27) cI 3 kf_, ra_I (q 28) cI 3 kt_, ra_I (q 25) cI 9 jb2, ra_I (q 26) cI 9 jw2]) A) ([.ref (q 3), .ref (q 6)] : List Value).toArray s 0 0 A) (F0 m 16 ls []) := by
    intro n_37
    induction n_37 with
    | zero => intro za zw zt zz zg zp yu yr yn yc yx y1 yf yt yb yw zmu zo H locs ls hm; exact absurd hm (Nat.not_lt_zero _)
    | succ n_37 ih_lp_36 =>
      intro za zw zt zz zg zp yu yr yn yc yx y1 yf yt yb yw zmu zo H locs ls hm hzO hyn hza hzz hyc hyx hzm hz5 hrem hP hD hS hl
      refine lv_aload_n hx hb dX3_read_16 rfl (lv_at hl 1 rfl) ?_
      refine sk_get (v := .int (nI yn)) (C := RX2) (T := TX2) (N := 10) hx hb hts inlX2 hown hK hP 6 rfl rfl 9 (Nat.le_of_ble_eq_true rfl) w_1_201 rfl dX3_read_17 ?_
      refine lv_bipush (v := 60) hx hb dX3_read_20 (by decide) ?_
      refine lv_icmp_ge (tgt := 146) hx hb dX3_read_22 (by decide) (fun c_38 => ?_) (fun c_38 => ?_)
      · have c_38 : 60 ≤ yn := (nle 60 yn (Nat.le_of_ble_eq_true rfl) (by omega)).mp c_38
        have jn_39 : ∀ (et : Int32) (eg : Int32) (ep : Int32) (H : Heap) (locs : List Loc) (ls : Array Slot), (fnO (lockP tb tl) eg ep yn jd2_24 jm2_25 yu yr yc yx y1 yf yt yb yw) → va_P D vwCl [ro_rrr (q 3) 3 (q 2) (q 22) (q 23), ro_rniiinii (q 2) 6 (q 0) za zw 0 et zz eg ep, ro_rn (q 0) 10 (q 20) tl, ra_N (q 20) cI 1600 tb, ro_ri (q 22) 8 (q 2) 0, ro_ri (q 23) 8 (q 2) 1, ro_rrrrrnniin (q 6) 2 (q 24) (q 25) (q 26) (q 27) (q 28) jd2_24 jm2_25 yu yr yn, ro_rrrrnn (q 24) 0 (q 29) (q 30) (q 31) (q 32) yc yx, ra_I (q 29) cI 1600 y1, ra_I (q 27) cI 3 yf, ra_I (q 28) cI 3 yt, ra_I (q 25) cI 9 yb, ra_I (q 26) cI 9 yw] H → va_D A [ro_rrr (q 3) 3 (q 2) (q 22) (q 23), ro_rniiinii (q 2) 6 (q 0) za zw 0 et zz eg ep, ro_rn (q 0) 10 (q 20) tl, ra_N (q 20) cI 1600 tb, ro_ri (q 22) 8 (q 2) 0, ro_ri (q 23) 8 (q 2) 1, ro_rrrrrnniin (q 6) 2 (q 24) (q 25) (q 26) (q 27) (q 28) jd2_24 jm2_25 yu yr yn, ro_rrrrnn (q 24) 0 (q 29) (q 30) (q 31) (q 32) yc yx, ra_I (q 29) cI 1600 y1, ra_I (q 27) cI 3 yf, ra_I (q 28) cI 3 yt, ra_I (q 25) cI 9 yb, ra_I (q 26) cI 9 yw] → va_S A s.heap H locs → lv_has ls 2 [(0, .ref (q 3)), (1, .ref (q 6))] → W p l e { frames := 56, cells := 0, slots := 0, locals := 1344 } s m ([.ref (q 3), .ref (q 6)] : List Value).toArray below meth c H locs 0 0 (MQ below (skV D (skT cI cJ cC cZ cS) (fun (u : va_W) => ∃ (xa2 : Nat), ∃ (xv2 : Int32), ∃ (xt2 : Int32), ∃ (xz2 : Nat), ∃ (xf2 : Int32), ∃ (xp2 : Int32), ∃ (jc2 : Nat), ∃ (jx2 : Nat), ∃ (k1_ : Nat → Int32), ∃ (kf_ : Nat → Int32), ∃ (kt_ : Nat → Int32), ∃ (jd2 : Nat), ∃ (jm2 : Nat), ∃ (jn2 : Nat), ∃ (ju2 : Int32), ∃ (jr2 : Int32), ∃ (jb2 : Nat → Int32), ∃ (jw2 : Nat → Int32), xa2 ≤ 1600 ∧ xz2 ≤ 1600 ∧ jc2 ≤ 1600 ∧ jx2 ≤ 1 ∧ 2 ≤ jd2 ∧ jd2 ≤ 9 ∧ jm2 ≤ 9 ∧ jn2 ≤ 60 ∧ finO tb tl xf2 xp2 jn2 jd2 jm2 ju2 jr2 jc2 jx2 k1_ kf_ kt_ jb2 jw2 ∧ u = [ro_rrr (q 3) 3 (q 2) (q 22) (q 23), ro_rniiinii (q 2) 6 (q 0) xa2 xv2 0 xt2 xz2 xf2 xp2, ro_rn (q 0) 10 (q 20) tl, ra_N (q 20) cI 1600 tb, ro_ri (q 22) 8 (q 2) 0, ro_ri (q 23) 8 (q 2) 1, ro_rrrrrnniin (q 6) 2 (q 24) (q 25) (q 26) (q 27) (q 28) jd2 jm2 ju2 jr2 jn2, ro_rrrrnn (q 24) 0 (q 29) (q 30) (q 31) (q 32) jc2 jx2, ra_I (q 29) cI 1600 k1_, ra_I (q 27) cI 3 kf_, ra_I (q 28) cI 3 kt_, ra_I (q 25) cI 9 jb2, ra_I (q 26) cI 9 jw2]) A) ([.ref (q 3), .ref (q 6)] : List Value).toArray s 0 0 A) (F0 m 182 ls []) := by
          intro et eg ep H locs ls hfn hP hD hS hl
          refine lv_aload_n hx hb dX3_read_182 rfl (lv_at hl 1 rfl) ?_
          refine sk_Vv (q0 := 0) (n := 0) (rest := []) (wr := fmR om_13_7c _) ⟨hx, hb, hml, hown, hts⟩ hl.1 (c_elk_addUntold l D cI cJ cC cZ cS q jd2_24 jm2_25 yu yr yn yc yx y1 yf yt yb yw tl tb hyc hyx (un_0 hfn)) w_3_140 w_3_141 w_3_142 w_1_9 w_3_143 hd_X2_addUntold_0 ⟨⟨(Nat.le_of_ble_eq_true rfl), (Nat.le_of_ble_eq_true rfl)⟩, (Nat.le_of_ble_eq_true rfl), (Nat.le_of_ble_eq_true rfl)⟩ hK hP hD hS hA (fmT om_13_7c 0) (fmF om_13_7c 0) (fm_C1 rfl rfl) (fm_R rfl rfl) (fm_nT om_13_7c 0) (fm_nF om_13_7c 0) (fm_di om_13_7c 0) rfl rfl rfl rfl (Nat.le_of_ble_eq_true rfl) dX3_read_183 (fun u H locs hw hP hD hS => ?_)
          refine exE hw (fun jc2_40 hw1 => exE hw1 (fun jx2_41 hw2 => exE hw2 (fun k1__42 hw3 => exE hw3 (fun kf__43 hw4 => exE hw4 (fun kt__44 hw5 => anE hw5 (fun hjc2_45 hw6 => anE hw6 (fun hjx2_46 hw7 => anE hw7 (fun hun2_47 eu_48 => ?_))))))))
          clear hw hw1 hw2 hw3 hw4 hw5 hw6 hw7
          refine o_mgE (ws' := [ro_rrr (q 3) 3 (q 2) (q 22) (q 23), ro_rniiinii (q 2) 6 (q 0) za zw 0 et zz eg ep, ro_rn (q 0) 10 (q 20) tl, ra_N (q 20) cI 1600 tb, ro_ri (q 22) 8 (q 2) 0, ro_ri (q 23) 8 (q 2) 1, ro_rrrrrnniin (q 6) 2 (q 24) (q 25) (q 26) (q 27) (q 28) jd2_24 jm2_25 yu yr yn, ro_rrrrnn (q 24) 0 (q 29) (q 30) (q 31) (q 32) jc2_40 jx2_41, ra_I (q 29) cI 1600 k1__42, ra_I (q 27) cI 3 kf__43, ra_I (q 28) cI 3 kt__44, ra_I (q 25) cI 9 yb, ra_I (q 26) cI 9 yw]) eu_48 hP hD rfl (fun hP hD => ?_)
          exact sk_vret hx hb hr hlocks hK hP hD hS (⟨za, zw, et, zz, eg, ep, jc2_40, jx2_41, k1__42, kf__43, kt__44, jd2_24, jm2_25, yn, yu, yr, yb, yw, hza, hzz, hjc2_45, hjx2_46, hjd2_28, hjd3_29, hjm2_30, hyn, fin_un hfn hun2_47, rfl⟩) (Nat.le_of_ble_eq_true rfl) (Nat.le_of_ble_eq_true rfl) dX3_read_186
        refine lv_aload_n hx hb dX3_read_146 rfl (lv_at hl 0 rfl) ?_
        refine sk_get (v := .ref (q 2)) (C := RX3) (T := TX3) (N := 3) hx hb hts inlX3 hown hK hP 0 rfl rfl 0 (Nat.le_of_ble_eq_true rfl) w_1_107 rfl dX3_read_147 ?_
        refine sk_get (v := .int zg) (C := RX6) (T := TX6) (N := 8) hx hb hts inlX6 hown hK hP 1 rfl rfl 6 (Nat.le_of_ble_eq_true rfl) w_1_67 rfl dX3_read_150 ?_
        refine lv_if_ne (tgt := 182) hx hb dX3_read_153 (by decide) (fun c_49 => ?_) (fun c_49 => ?_)
        · skip
          exact jn_39 zt zg zp _ _ _ (fin_er hzO c_49 hrem) hP hD hS (lv_sub hl [0, 1] rfl)
        · skip
          refine lv_aload_n hx hb dX3_read_156 rfl (lv_at hl 0 rfl) ?_
          refine sk_get (v := .ref (q 2)) (C := RX3) (T := TX3) (N := 3) hx hb hts inlX3 hown hK hP 0 rfl rfl 0 (Nat.le_of_ble_eq_true rfl) w_1_107 rfl dX3_read_157 ?_
          refine sk_get (v := .int zt) (C := RX6) (T := TX6) (N := 8) hx hb hts inlX6 hown hK hP 1 rfl rfl 4 (Nat.le_of_ble_eq_true rfl) w_1_62 rfl dX3_read_160 ?_
          refine lv_iconst (v := (-1)) hx hb dX3_read_163 (by decide) ?_
          refine lv_icmp_eq (tgt := 182) hx hb dX3_read_164 (by decide) (fun c_50 => ?_) (fun c_50 => ?_)
          · skip
            exact jn_39 zt zg zp _ _ _ (fin_end htb htl hzO c_49 c_50 (by omega) hz5 hrem) hP hD hS (lv_sub hl [0, 1] rfl)
          · skip
            refine lv_aload_n hx hb dX3_read_167 rfl (lv_at hl 0 rfl) ?_
            refine sk_get (v := .ref (q 2)) (C := RX3) (T := TX3) (N := 3) hx hb hts inlX3 hown hK hP 0 rfl rfl 0 (Nat.le_of_ble_eq_true rfl) w_1_107 rfl dX3_read_168 ?_
            refine lv_iconst (v := 5) hx hb dX3_read_171 ic_5 ?_
            refine lv_aload_n hx hb dX3_read_172 rfl (lv_at hl 0 rfl) ?_
            refine sk_get (v := .ref (q 2)) (C := RX3) (T := TX3) (N := 3) hx hb hts inlX3 hown hK hP 0 rfl rfl 0 (Nat.le_of_ble_eq_true rfl) w_1_107 rfl dX3_read_173 ?_
            refine sk_get (v := .int (nI zz)) (C := RX6) (T := TX6) (N := 8) hx hb hts inlX6 hown hK hP 1 rfl rfl 5 (Nat.le_of_ble_eq_true rfl) w_1_65 rfl dX3_read_176 ?_
            refine sk_Vv (q0 := 0) (n := 2) (rest := []) (wr := fmR om_13_800 _) ⟨hx, hb, hml, hown, hts⟩ hl.1 (c_erd_fail l D cI cJ cC cZ cS q za zw 0 zt zz zg zp tl tb 5 zz (lc zo) (by omega) (by omega) (by omega) (hzO).1) w_3_74 w_3_59 w_3_60 w_1_4 w_3_61 hd_X6_fail_2 ⟨⟨(Nat.le_of_ble_eq_true rfl), (Nat.le_of_ble_eq_true rfl)⟩, (Nat.le_of_ble_eq_true rfl), (Nat.le_of_ble_eq_true rfl)⟩ hK hP hD hS hA (fmT om_13_800 0) (fmF om_13_800 0) (fm_C1 rfl rfl) (fm_R rfl rfl) (fm_nT om_13_800 0) (fm_nF om_13_800 0) (fm_di om_13_800 0) rfl rfl rfl rfl (Nat.le_of_ble_eq_true rfl) dX3_read_179 (fun u H locs hw hP hD hS => ?_)
            refine exE hw (fun xf2_51 hw1 => exE hw1 (fun xp2_52 hw2 => anE hw2 (fun hO2_53 eu_54 => ?_)))
            clear hw hw1 hw2
            refine o_mgE (ws' := [ro_rrr (q 3) 3 (q 2) (q 22) (q 23), ro_rniiinii (q 2) 6 (q 0) za zw 0 (-2) zz xf2_51 xp2_52, ro_rn (q 0) 10 (q 20) tl, ra_N (q 20) cI 1600 tb, ro_ri (q 22) 8 (q 2) 0, ro_ri (q 23) 8 (q 2) 1, ro_rrrrrnniin (q 6) 2 (q 24) (q 25) (q 26) (q 27) (q 28) jd2_24 jm2_25 yu yr yn, ro_rrrrnn (q 24) 0 (q 29) (q 30) (q 31) (q 32) yc yx, ra_I (q 29) cI 1600 y1, ra_I (q 27) cI 3 yf, ra_I (q 28) cI 3 yt, ra_I (q 25) cI 9 yb, ra_I (q 26) cI 9 yw]) eu_54 hP hD rfl (fun hP hD => ?_)
            have hO_55 := ll_ld hzO hO2_53
            exact jn_39 (-2) xf2_51 xp2_52 _ _ _ (fin_many htb hzO c_49 c_50 (by omega) hO2_53 hrem) hP hD hS (lv_sub hl [0, 1] rfl)
      · have c_38 : ¬ (60 ≤ yn) := fun h => c_38 ((nle 60 yn (Nat.le_of_ble_eq_true rfl) (by omega)).mpr h)
        refine lv_aload_n hx hb dX3_read_25 rfl (lv_at hl 0 rfl) ?_
        refine sk_get (v := .ref (q 2)) (C := RX3) (T := TX3) (N := 3) hx hb hts inlX3 hown hK hP 0 rfl rfl 0 (Nat.le_of_ble_eq_true rfl) w_1_107 rfl dX3_read_26 ?_
        refine sk_get (v := .int zg) (C := RX6) (T := TX6) (N := 8) hx hb hts inlX6 hown hK hP 1 rfl rfl 6 (Nat.le_of_ble_eq_true rfl) w_1_67 rfl dX3_read_29 ?_
        refine lv_if_ne (tgt := 146) hx hb dX3_read_32 (by decide) (fun c_56 => ?_) (fun c_56 => ?_)
        · skip
          have jn_57 : ∀ (et : Int32) (eg : Int32) (ep : Int32) (H : Heap) (locs : List Loc) (ls : Array Slot), (fnO (lockP tb tl) eg ep yn jd2_24 jm2_25 yu yr yc yx y1 yf yt yb yw) → va_P D vwCl [ro_rrr (q 3) 3 (q 2) (q 22) (q 23), ro_rniiinii (q 2) 6 (q 0) za zw 0 et zz eg ep, ro_rn (q 0) 10 (q 20) tl, ra_N (q 20) cI 1600 tb, ro_ri (q 22) 8 (q 2) 0, ro_ri (q 23) 8 (q 2) 1, ro_rrrrrnniin (q 6) 2 (q 24) (q 25) (q 26) (q 27) (q 28) jd2_24 jm2_25 yu yr yn, ro_rrrrnn (q 24) 0 (q 29) (q 30) (q 31) (q 32) yc yx, ra_I (q 29) cI 1600 y1, ra_I (q 27) cI 3 yf, ra_I (q 28) cI 3 yt, ra_I (q 25) cI 9 yb, ra_I (q 26) cI 9 yw] H → va_D A [ro_rrr (q 3) 3 (q 2) (q 22) (q 23), ro_rniiinii (q 2) 6 (q 0) za zw 0 et zz eg ep, ro_rn (q 0) 10 (q 20) tl, ra_N (q 20) cI 1600 tb, ro_ri (q 22) 8 (q 2) 0, ro_ri (q 23) 8 (q 2) 1, ro_rrrrrnniin (q 6) 2 (q 24) (q 25) (q 26) (q 27) (q 28) jd2_24 jm2_25 yu yr yn, ro_rrrrnn (q 24) 0 (q 29) (q 30) (q 31) (q 32) yc yx, ra_I (q 29) cI 1600 y1, ra_I (q 27) cI 3 yf, ra_I (q 28) cI 3 yt, ra_I (q 25) cI 9 yb, ra_I (q 26) cI 9 yw] → va_S A s.heap H locs → lv_has ls 2 [(0, .ref (q 3)), (1, .ref (q 6))] → W p l e { frames := 56, cells := 0, slots := 0, locals := 1344 } s m ([.ref (q 3), .ref (q 6)] : List Value).toArray below meth c H locs 0 0 (MQ below (skV D (skT cI cJ cC cZ cS) (fun (u : va_W) => ∃ (xa2 : Nat), ∃ (xv2 : Int32), ∃ (xt2 : Int32), ∃ (xz2 : Nat), ∃ (xf2 : Int32), ∃ (xp2 : Int32), ∃ (jc2 : Nat), ∃ (jx2 : Nat), ∃ (k1_ : Nat → Int32), ∃ (kf_ : Nat → Int32), ∃ (kt_ : Nat → Int32), ∃ (jd2 : Nat), ∃ (jm2 : Nat), ∃ (jn2 : Nat), ∃ (ju2 : Int32), ∃ (jr2 : Int32), ∃ (jb2 : Nat → Int32), ∃ (jw2 : Nat → Int32), xa2 ≤ 1600 ∧ xz2 ≤ 1600 ∧ jc2 ≤ 1600 ∧ jx2 ≤ 1 ∧ 2 ≤ jd2 ∧ jd2 ≤ 9 ∧ jm2 ≤ 9 ∧ jn2 ≤ 60 ∧ finO tb tl xf2 xp2 jn2 jd2 jm2 ju2 jr2 jc2 jx2 k1_ kf_ kt_ jb2 jw2 ∧ u = [ro_rrr (q 3) 3 (q 2) (q 22) (q 23), ro_rniiinii (q 2) 6 (q 0) xa2 xv2 0 xt2 xz2 xf2 xp2, ro_rn (q 0) 10 (q 20) tl, ra_N (q 20) cI 1600 tb, ro_ri (q 22) 8 (q 2) 0, ro_ri (q 23) 8 (q 2) 1, ro_rrrrrnniin (q 6) 2 (q 24) (q 25) (q 26) (q 27) (q 28) jd2 jm2 ju2 jr2 jn2, ro_rrrrnn (q 24) 0 (q 29) (q 30) (q 31) (q 32) jc2 jx2, ra_I (q 29) cI 1600 k1_, ra_I (q 27) cI 3 kf_, ra_I (q 28) cI 3 kt_, ra_I (q 25) cI 9 jb2, ra_I (q 26) cI 9 jw2]) A) ([.ref (q 3), .ref (q 6)] : List Value).toArray s 0 0 A) (F0 m 182 ls []) := by
            intro et eg ep H locs ls hfn hP hD hS hl
            refine lv_aload_n hx hb dX3_read_182 rfl (lv_at hl 1 rfl) ?_
            refine sk_Vv (q0 := 0) (n := 0) (rest := []) (wr := fmR om_13_7c _) ⟨hx, hb, hml, hown, hts⟩ hl.1 (c_elk_addUntold l D cI cJ cC cZ cS q jd2_24 jm2_25 yu yr yn yc yx y1 yf yt yb yw tl tb hyc hyx (un_0 hfn)) w_3_140 w_3_141 w_3_142 w_1_9 w_3_143 hd_X2_addUntold_0 ⟨⟨(Nat.le_of_ble_eq_true rfl), (Nat.le_of_ble_eq_true rfl)⟩, (Nat.le_of_ble_eq_true rfl), (Nat.le_of_ble_eq_true rfl)⟩ hK hP hD hS hA (fmT om_13_7c 0) (fmF om_13_7c 0) (fm_C1 rfl rfl) (fm_R rfl rfl) (fm_nT om_13_7c 0) (fm_nF om_13_7c 0) (fm_di om_13_7c 0) rfl rfl rfl rfl (Nat.le_of_ble_eq_true rfl) dX3_read_183 (fun u H locs hw hP hD hS => ?_)
            refine exE hw (fun jc2_58 hw1 => exE hw1 (fun jx2_59 hw2 => exE hw2 (fun k1__60 hw3 => exE hw3 (fun kf__61 hw4 => exE hw4 (fun kt__62 hw5 => anE hw5 (fun hjc2_63 hw6 => anE hw6 (fun hjx2_64 hw7 => anE hw7 (fun hun2_65 eu_66 => ?_))))))))
            clear hw hw1 hw2 hw3 hw4 hw5 hw6 hw7
            refine o_mgE (ws' := [ro_rrr (q 3) 3 (q 2) (q 22) (q 23), ro_rniiinii (q 2) 6 (q 0) za zw 0 et zz eg ep, ro_rn (q 0) 10 (q 20) tl, ra_N (q 20) cI 1600 tb, ro_ri (q 22) 8 (q 2) 0, ro_ri (q 23) 8 (q 2) 1, ro_rrrrrnniin (q 6) 2 (q 24) (q 25) (q 26) (q 27) (q 28) jd2_24 jm2_25 yu yr yn, ro_rrrrnn (q 24) 0 (q 29) (q 30) (q 31) (q 32) jc2_58 jx2_59, ra_I (q 29) cI 1600 k1__60, ra_I (q 27) cI 3 kf__61, ra_I (q 28) cI 3 kt__62, ra_I (q 25) cI 9 yb, ra_I (q 26) cI 9 yw]) eu_66 hP hD rfl (fun hP hD => ?_)
            exact sk_vret hx hb hr hlocks hK hP hD hS (⟨za, zw, et, zz, eg, ep, jc2_58, jx2_59, k1__60, kf__61, kt__62, jd2_24, jm2_25, yn, yu, yr, yb, yw, hza, hzz, hjc2_63, hjx2_64, hjd2_28, hjd3_29, hjm2_30, hyn, fin_un hfn hun2_65, rfl⟩) (Nat.le_of_ble_eq_true rfl) (Nat.le_of_ble_eq_true rfl) dX3_read_186
          refine lv_aload_n hx hb dX3_read_146 rfl (lv_at hl 0 rfl) ?_
          refine sk_get (v := .ref (q 2)) (C := RX3) (T := TX3) (N := 3) hx hb hts inlX3 hown hK hP 0 rfl rfl 0 (Nat.le_of_ble_eq_true rfl) w_1_107 rfl dX3_read_147 ?_
          refine sk_get (v := .int zg) (C := RX6) (T := TX6) (N := 8) hx hb hts inlX6 hown hK hP 1 rfl rfl 6 (Nat.le_of_ble_eq_true rfl) w_1_67 rfl dX3_read_150 ?_
          refine lv_if_ne (tgt := 182) hx hb dX3_read_153 (by decide) (fun c_67 => ?_) (fun c => absurd c c_56)
          exact jn_57 zt zg zp _ _ _ (fin_er hzO c_56 hrem) hP hD hS (lv_sub hl [0, 1] rfl)
        · skip
          refine lv_aload_n hx hb dX3_read_35 rfl (lv_at hl 0 rfl) ?_
          refine sk_get (v := .ref (q 2)) (C := RX3) (T := TX3) (N := 3) hx hb hts inlX3 hown hK hP 0 rfl rfl 0 (Nat.le_of_ble_eq_true rfl) w_1_107 rfl dX3_read_36 ?_
          refine sk_get (v := .int zt) (C := RX6) (T := TX6) (N := 8) hx hb hts inlX6 hown hK hP 1 rfl rfl 4 (Nat.le_of_ble_eq_true rfl) w_1_62 rfl dX3_read_39 ?_
          refine lv_iconst (v := (-1)) hx hb dX3_read_42 (by decide) ?_
          refine lv_icmp_eq (tgt := 146) hx hb dX3_read_43 (by decide) (fun c_68 => ?_) (fun c_68 => ?_)
          · skip
            have jn_69 : ∀ (et : Int32) (eg : Int32) (ep : Int32) (H : Heap) (locs : List Loc) (ls : Array Slot), (fnO (lockP tb tl) eg ep yn jd2_24 jm2_25 yu yr yc yx y1 yf yt yb yw) → va_P D vwCl [ro_rrr (q 3) 3 (q 2) (q 22) (q 23), ro_rniiinii (q 2) 6 (q 0) za zw 0 et zz eg ep, ro_rn (q 0) 10 (q 20) tl, ra_N (q 20) cI 1600 tb, ro_ri (q 22) 8 (q 2) 0, ro_ri (q 23) 8 (q 2) 1, ro_rrrrrnniin (q 6) 2 (q 24) (q 25) (q 26) (q 27) (q 28) jd2_24 jm2_25 yu yr yn, ro_rrrrnn (q 24) 0 (q 29) (q 30) (q 31) (q 32) yc yx, ra_I (q 29) cI 1600 y1, ra_I (q 27) cI 3 yf, ra_I (q 28) cI 3 yt, ra_I (q 25) cI 9 yb, ra_I (q 26) cI 9 yw] H → va_D A [ro_rrr (q 3) 3 (q 2) (q 22) (q 23), ro_rniiinii (q 2) 6 (q 0) za zw 0 et zz eg ep, ro_rn (q 0) 10 (q 20) tl, ra_N (q 20) cI 1600 tb, ro_ri (q 22) 8 (q 2) 0, ro_ri (q 23) 8 (q 2) 1, ro_rrrrrnniin (q 6) 2 (q 24) (q 25) (q 26) (q 27) (q 28) jd2_24 jm2_25 yu yr yn, ro_rrrrnn (q 24) 0 (q 29) (q 30) (q 31) (q 32) yc yx, ra_I (q 29) cI 1600 y1, ra_I (q 27) cI 3 yf, ra_I (q 28) cI 3 yt, ra_I (q 25) cI 9 yb, ra_I (q 26) cI 9 yw] → va_S A s.heap H locs → lv_has ls 2 [(0, .ref (q 3)), (1, .ref (q 6))] → W p l e { frames := 56, cells := 0, slots := 0, locals := 1344 } s m ([.ref (q 3), .ref (q 6)] : List Value).toArray below meth c H locs 0 0 (MQ below (skV D (skT cI cJ cC cZ cS) (fun (u : va_W) => ∃ (xa2 : Nat), ∃ (xv2 : Int32), ∃ (xt2 : Int32), ∃ (xz2 : Nat), ∃ (xf2 : Int32), ∃ (xp2 : Int32), ∃ (jc2 : Nat), ∃ (jx2 : Nat), ∃ (k1_ : Nat → Int32), ∃ (kf_ : Nat → Int32), ∃ (kt_ : Nat → Int32), ∃ (jd2 : Nat), ∃ (jm2 : Nat), ∃ (jn2 : Nat), ∃ (ju2 : Int32), ∃ (jr2 : Int32), ∃ (jb2 : Nat → Int32), ∃ (jw2 : Nat → Int32), xa2 ≤ 1600 ∧ xz2 ≤ 1600 ∧ jc2 ≤ 1600 ∧ jx2 ≤ 1 ∧ 2 ≤ jd2 ∧ jd2 ≤ 9 ∧ jm2 ≤ 9 ∧ jn2 ≤ 60 ∧ finO tb tl xf2 xp2 jn2 jd2 jm2 ju2 jr2 jc2 jx2 k1_ kf_ kt_ jb2 jw2 ∧ u = [ro_rrr (q 3) 3 (q 2) (q 22) (q 23), ro_rniiinii (q 2) 6 (q 0) xa2 xv2 0 xt2 xz2 xf2 xp2, ro_rn (q 0) 10 (q 20) tl, ra_N (q 20) cI 1600 tb, ro_ri (q 22) 8 (q 2) 0, ro_ri (q 23) 8 (q 2) 1, ro_rrrrrnniin (q 6) 2 (q 24) (q 25) (q 26) (q 27) (q 28) jd2 jm2 ju2 jr2 jn2, ro_rrrrnn (q 24) 0 (q 29) (q 30) (q 31) (q 32) jc2 jx2, ra_I (q 29) cI 1600 k1_, ra_I (q 27) cI 3 kf_, ra_I (q 28) cI 3 kt_, ra_I (q 25) cI 9 jb2, ra_I (q 26) cI 9 jw2]) A) ([.ref (q 3), .ref (q 6)] : List Value).toArray s 0 0 A) (F0 m 182 ls []) := by
              intro et eg ep H locs ls hfn hP hD hS hl
              refine lv_aload_n hx hb dX3_read_182 rfl (lv_at hl 1 rfl) ?_
              refine sk_Vv (q0 := 0) (n := 0) (rest := []) (wr := fmR om_13_7c _) ⟨hx, hb, hml, hown, hts⟩ hl.1 (c_elk_addUntold l D cI cJ cC cZ cS q jd2_24 jm2_25 yu yr yn yc yx y1 yf yt yb yw tl tb hyc hyx (un_0 hfn)) w_3_140 w_3_141 w_3_142 w_1_9 w_3_143 hd_X2_addUntold_0 ⟨⟨(Nat.le_of_ble_eq_true rfl), (Nat.le_of_ble_eq_true rfl)⟩, (Nat.le_of_ble_eq_true rfl), (Nat.le_of_ble_eq_true rfl)⟩ hK hP hD hS hA (fmT om_13_7c 0) (fmF om_13_7c 0) (fm_C1 rfl rfl) (fm_R rfl rfl) (fm_nT om_13_7c 0) (fm_nF om_13_7c 0) (fm_di om_13_7c 0) rfl rfl rfl rfl (Nat.le_of_ble_eq_true rfl) dX3_read_183 (fun u H locs hw hP hD hS => ?_)
              refine exE hw (fun jc2_70 hw1 => exE hw1 (fun jx2_71 hw2 => exE hw2 (fun k1__72 hw3 => exE hw3 (fun kf__73 hw4 => exE hw4 (fun kt__74 hw5 => anE hw5 (fun hjc2_75 hw6 => anE hw6 (fun hjx2_76 hw7 => anE hw7 (fun hun2_77 eu_78 => ?_))))))))
              clear hw hw1 hw2 hw3 hw4 hw5 hw6 hw7
              refine o_mgE (ws' := [ro_rrr (q 3) 3 (q 2) (q 22) (q 23), ro_rniiinii (q 2) 6 (q 0) za zw 0 et zz eg ep, ro_rn (q 0) 10 (q 20) tl, ra_N (q 20) cI 1600 tb, ro_ri (q 22) 8 (q 2) 0, ro_ri (q 23) 8 (q 2) 1, ro_rrrrrnniin (q 6) 2 (q 24) (q 25) (q 26) (q 27) (q 28) jd2_24 jm2_25 yu yr yn, ro_rrrrnn (q 24) 0 (q 29) (q 30) (q 31) (q 32) jc2_70 jx2_71, ra_I (q 29) cI 1600 k1__72, ra_I (q 27) cI 3 kf__73, ra_I (q 28) cI 3 kt__74, ra_I (q 25) cI 9 yb, ra_I (q 26) cI 9 yw]) eu_78 hP hD rfl (fun hP hD => ?_)
              exact sk_vret hx hb hr hlocks hK hP hD hS (⟨za, zw, et, zz, eg, ep, jc2_70, jx2_71, k1__72, kf__73, kt__74, jd2_24, jm2_25, yn, yu, yr, yb, yw, hza, hzz, hjc2_75, hjx2_76, hjd2_28, hjd3_29, hjm2_30, hyn, fin_un hfn hun2_77, rfl⟩) (Nat.le_of_ble_eq_true rfl) (Nat.le_of_ble_eq_true rfl) dX3_read_186
            refine lv_aload_n hx hb dX3_read_146 rfl (lv_at hl 0 rfl) ?_
            refine sk_get (v := .ref (q 2)) (C := RX3) (T := TX3) (N := 3) hx hb hts inlX3 hown hK hP 0 rfl rfl 0 (Nat.le_of_ble_eq_true rfl) w_1_107 rfl dX3_read_147 ?_
            refine sk_get (v := .int zg) (C := RX6) (T := TX6) (N := 8) hx hb hts inlX6 hown hK hP 1 rfl rfl 6 (Nat.le_of_ble_eq_true rfl) w_1_67 rfl dX3_read_150 ?_
            refine lv_if_ne (tgt := 182) hx hb dX3_read_153 (by decide) (fun c => absurd c_56 c) (fun c_79 => ?_)
            refine lv_aload_n hx hb dX3_read_156 rfl (lv_at hl 0 rfl) ?_
            refine sk_get (v := .ref (q 2)) (C := RX3) (T := TX3) (N := 3) hx hb hts inlX3 hown hK hP 0 rfl rfl 0 (Nat.le_of_ble_eq_true rfl) w_1_107 rfl dX3_read_157 ?_
            refine sk_get (v := .int zt) (C := RX6) (T := TX6) (N := 8) hx hb hts inlX6 hown hK hP 1 rfl rfl 4 (Nat.le_of_ble_eq_true rfl) w_1_62 rfl dX3_read_160 ?_
            refine lv_iconst (v := (-1)) hx hb dX3_read_163 (by decide) ?_
            refine lv_icmp_eq (tgt := 182) hx hb dX3_read_164 (by decide) (fun c_80 => ?_) (fun c => absurd c_68 c)
            exact jn_69 zt zg zp _ _ _ (fin_end htb htl hzO c_56 c_68 (by omega) hz5 hrem) hP hD hS (lv_sub hl [0, 1] rfl)
          · skip
            have jn_81 : ∀ (oa : Nat) (ow : Int32) (ot : Int32) (oz : Nat) (of0 : Int32) (op0 : Int32) (ou : Int32) (or_ : Int32) (oc : Nat) (ox : Nat) (o1_ : Nat → Int32) (of_ : Nat → Int32) (ot_ : Nat → Int32) (ob_ : Nat → Int32) (ow_ : Nat → Int32) (omu : Nat → Bool) (wo : LkR) (H : Heap) (locs : List Loc) (ls : Array Slot), (llO tb tl wo oa ow ot oz of0 op0 jd2_24 jm2_25 ou or_ oc ox o1_ of_ ot_ ob_ ow_) → (oa ≤ 1600) → (oz ≤ 1600) → (oc ≤ 1600) → (ox ≤ 1) → (muO omu ou) → (wo = bindR zo (bodyR tb tl)) → va_P D vwCl [ro_rrr (q 3) 3 (q 2) (q 22) (q 23), ro_rniiinii (q 2) 6 (q 0) oa ow 0 ot oz of0 op0, ro_rn (q 0) 10 (q 20) tl, ra_N (q 20) cI 1600 tb, ro_ri (q 22) 8 (q 2) 0, ro_ri (q 23) 8 (q 2) 1, ro_rrrrrnniin (q 6) 2 (q 24) (q 25) (q 26) (q 27) (q 28) jd2_24 jm2_25 ou or_ yn, ro_rrrrnn (q 24) 0 (q 29) (q 30) (q 31) (q 32) oc ox, ra_I (q 29) cI 1600 o1_, ra_I (q 27) cI 3 of_, ra_I (q 28) cI 3 ot_, ra_I (q 25) cI 9 ob_, ra_I (q 26) cI 9 ow_] H → va_D A [ro_rrr (q 3) 3 (q 2) (q 22) (q 23), ro_rniiinii (q 2) 6 (q 0) oa ow 0 ot oz of0 op0, ro_rn (q 0) 10 (q 20) tl, ra_N (q 20) cI 1600 tb, ro_ri (q 22) 8 (q 2) 0, ro_ri (q 23) 8 (q 2) 1, ro_rrrrrnniin (q 6) 2 (q 24) (q 25) (q 26) (q 27) (q 28) jd2_24 jm2_25 ou or_ yn, ro_rrrrnn (q 24) 0 (q 29) (q 30) (q 31) (q 32) oc ox, ra_I (q 29) cI 1600 o1_, ra_I (q 27) cI 3 of_, ra_I (q 28) cI 3 ot_, ra_I (q 25) cI 9 ob_, ra_I (q 26) cI 9 ow_] → va_S A s.heap H locs → lv_has ls 2 [(0, .ref (q 3)), (1, .ref (q 6))] → W p l e { frames := 56, cells := 0, slots := 0, locals := 1344 } s m ([.ref (q 3), .ref (q 6)] : List Value).toArray below meth c H locs 0 0 (MQ below (skV D (skT cI cJ cC cZ cS) (fun (u : va_W) => ∃ (xa2 : Nat), ∃ (xv2 : Int32), ∃ (xt2 : Int32), ∃ (xz2 : Nat), ∃ (xf2 : Int32), ∃ (xp2 : Int32), ∃ (jc2 : Nat), ∃ (jx2 : Nat), ∃ (k1_ : Nat → Int32), ∃ (kf_ : Nat → Int32), ∃ (kt_ : Nat → Int32), ∃ (jd2 : Nat), ∃ (jm2 : Nat), ∃ (jn2 : Nat), ∃ (ju2 : Int32), ∃ (jr2 : Int32), ∃ (jb2 : Nat → Int32), ∃ (jw2 : Nat → Int32), xa2 ≤ 1600 ∧ xz2 ≤ 1600 ∧ jc2 ≤ 1600 ∧ jx2 ≤ 1 ∧ 2 ≤ jd2 ∧ jd2 ≤ 9 ∧ jm2 ≤ 9 ∧ jn2 ≤ 60 ∧ finO tb tl xf2 xp2 jn2 jd2 jm2 ju2 jr2 jc2 jx2 k1_ kf_ kt_ jb2 jw2 ∧ u = [ro_rrr (q 3) 3 (q 2) (q 22) (q 23), ro_rniiinii (q 2) 6 (q 0) xa2 xv2 0 xt2 xz2 xf2 xp2, ro_rn (q 0) 10 (q 20) tl, ra_N (q 20) cI 1600 tb, ro_ri (q 22) 8 (q 2) 0, ro_ri (q 23) 8 (q 2) 1, ro_rrrrrnniin (q 6) 2 (q 24) (q 25) (q 26) (q 27) (q 28) jd2 jm2 ju2 jr2 jn2, ro_rrrrnn (q 24) 0 (q 29) (q 30) (q 31) (q 32) jc2 jx2, ra_I (q 29) cI 1600 k1_, ra_I (q 27) cI 3 kf_, ra_I (q 28) cI 3 kt_, ra_I (q 25) cI 9 jb2, ra_I (q 26) cI 9 jw2]) A) ([.ref (q 3), .ref (q 6)] : List Value).toArray s 0 0 A) (F0 m 124 ls []) := by
              intro oa ow ot oz of0 op0 ou or_ oc ox o1_ of_ ot_ ob_ ow_ omu wo H locs ls hwO hoa hoz hoc hox hom hwb hP hD hS hl
              refine lv_aload_n hx hb dX3_read_124 rfl (lv_at hl 0 rfl) ?_
              refine sk_get (v := .ref (q 2)) (C := RX3) (T := TX3) (N := 3) hx hb hts inlX3 hown hK hP 0 rfl rfl 0 (Nat.le_of_ble_eq_true rfl) w_1_107 rfl dX3_read_125 ?_
              refine lv_bipush (v := 59) hx hb dX3_read_128 (by decide) ?_
              refine sk_VvZ (q0 := 0) (n := 1) (rest := []) (wr := fmR om_13_e00 _) ⟨hx, hb, hml, hown, hts⟩ hl.1 (c_erd_needs l D cI cJ cC cZ cS zk zv zf q oa ow 0 ot oz of0 op0 tl tb 59 (lc wo) hoa hoz htl htb (by decide) (hwO).1) w_3_50 w_3_51 w_3_52 w_1_4 w_3_53 hd_X6_needs_1 ⟨⟨(Nat.le_of_ble_eq_true rfl), (Nat.le_of_ble_eq_true rfl)⟩, (Nat.le_of_ble_eq_true rfl), (Nat.le_of_ble_eq_true rfl)⟩ hK hP hD hS hZ hA (fmT om_13_e00 0) (fmF om_13_e00 0) (fm_C1 rfl rfl) (fm_R rfl rfl) (fm_nT om_13_e00 0) (fm_nF om_13_e00 0) (fm_di om_13_e00 0) rfl rfl rfl rfl (Nat.le_of_ble_eq_true rfl) dX3_read_130 (fun u H locs hw hP hD hS => ?_)
              refine exE hw (fun xa2_82 hw1 => exE hw1 (fun xv2_83 hw2 => exE hw2 (fun xt2_84 hw3 => exE hw3 (fun xz2_85 hw4 => exE hw4 (fun xf2_86 hw5 => exE hw5 (fun xp2_87 hw6 => anE hw6 (fun hxa2_88 hw7 => anE hw7 (fun hxz2_89 hw8 => anE hw8 (fun hO2_90 eu_91 => ?_)))))))))
              clear hw hw1 hw2 hw3 hw4 hw5 hw6 hw7 hw8
              refine o_mgE (ws' := [ro_rrr (q 3) 3 (q 2) (q 22) (q 23), ro_rniiinii (q 2) 6 (q 0) xa2_82 xv2_83 0 xt2_84 xz2_85 xf2_86 xp2_87, ro_rn (q 0) 10 (q 20) tl, ra_N (q 20) cI 1600 tb, ro_ri (q 22) 8 (q 2) 0, ro_ri (q 23) 8 (q 2) 1, ro_rrrrrnniin (q 6) 2 (q 24) (q 25) (q 26) (q 27) (q 28) jd2_24 jm2_25 ou or_ yn, ro_rrrrnn (q 24) 0 (q 29) (q 30) (q 31) (q 32) oc ox, ra_I (q 29) cI 1600 o1_, ra_I (q 27) cI 3 of_, ra_I (q 28) cI 3 ot_, ra_I (q 25) cI 9 ob_, ra_I (q 26) cI 9 ow_]) eu_91 hP hD rfl (fun hP hD => ?_)
              have hO_92 := ll_ld hwO hO2_90
              refine lv_aload_n hx hb dX3_read_133 rfl (lv_at hl 1 rfl) ?_
              refine lv_dup hx hb dX3_read_134 rfl ?_
              refine sk_get (v := .int (nI yn)) (C := RX2) (T := TX2) (N := 10) hx hb hts inlX2 hown hK hP 6 rfl rfl 9 (Nat.le_of_ble_eq_true rfl) w_1_201 rfl dX3_read_135 ?_
              refine lv_iconst (v := 1) hx hb dX3_read_138 ic_1 ?_
              refine lv_iadd hx hb dX3_read_139 ?_
              refine sk_top (nI (yn + 1)) (nI_add yn 1) ?_
              refine sk_put (ws' := [ro_rrr (q 3) 3 (q 2) (q 22) (q 23), ro_rniiinii (q 2) 6 (q 0) xa2_82 xv2_83 0 xt2_84 xz2_85 xf2_86 xp2_87, ro_rn (q 0) 10 (q 20) tl, ra_N (q 20) cI 1600 tb, ro_ri (q 22) 8 (q 2) 0, ro_ri (q 23) 8 (q 2) 1, ro_rrrrrnniin (q 6) 2 (q 24) (q 25) (q 26) (q 27) (q 28) jd2_24 jm2_25 ou or_ (yn + 1), ro_rrrrnn (q 24) 0 (q 29) (q 30) (q 31) (q 32) oc ox, ra_I (q 29) cI 1600 o1_, ra_I (q 27) cI 3 of_, ra_I (q 28) cI 3 ot_, ra_I (q 25) cI 9 ob_, ra_I (q 26) cI 9 ow_]) (C := RX2) (T := TX2) (N := 10) (v := .int (nI (yn + 1))) hx hb hts inlX2 tyX2 tyX2_ok nmX2 hown hK hP hD hS 6 rfl rfl 9 (Nat.le_of_ble_eq_true rfl) w_1_201 rfl rfl rfl (Nat.le_of_ble_eq_true rfl) rfl dX3_read_140 (fun H locs hP hD hS => ?_)
              refine lv_goto (tgt := 16) hx hb dX3_read_143 (by decide) ?_
              exact ih_lp_36 xa2_82 xv2_83 xt2_84 xz2_85 xf2_86 xp2_87 ou or_ (yn + 1) oc ox o1_ of_ ot_ ob_ ow_ omu (ld wo (tkF tb tl 59)) _ _ _ (by omega) hO_92 (by omega) hxa2_88 hxz2_89 hoc hox hom (len5_ld (fwd_tk (tb := tb) (n := tl) (w := 59)) (by rw [hwb]; exact len5_b hz5)) (lk_s htb hzO c_68 (by omega) hwb hrem) hP hD hS (lv_sub hl [0, 1] rfl)
            refine lv_aload_n hx hb dX3_read_46 rfl (lv_at hl 0 rfl) ?_
            refine sk_get (v := .ref (q 2)) (C := RX3) (T := TX3) (N := 3) hx hb hts inlX3 hown hK hP 0 rfl rfl 0 (Nat.le_of_ble_eq_true rfl) w_1_107 rfl dX3_read_47 ?_
            refine sk_get (v := .int zt) (C := RX6) (T := TX6) (N := 8) hx hb hts inlX6 hown hK hP 1 rfl rfl 4 (Nat.le_of_ble_eq_true rfl) w_1_62 rfl dX3_read_50 ?_
            by_cases g_93 : zt = 261
            · refine lv_tableIn (off := 27) (tgt := 80) hx hb dX3_read_53 (by rw [g_93]; decide) (by rw [g_93]; decide) (by rw [g_93]; rfl) (by decide) ?_
              refine lv_aload_n hx hb dX3_read_80 rfl (lv_at hl 0 rfl) ?_
              refine lv_aload_n hx hb dX3_read_81 rfl (lv_at hl 1 rfl) ?_
              refine lv_iconst (v := 0) hx hb dX3_read_82 ic_0 ?_
              refine lv_aload_n hx hb dX3_read_83 rfl (lv_at hl 0 rfl) ?_
              refine sk_get (v := .ref (q 22)) (C := RX3) (T := TX3) (N := 3) hx hb hts inlX3 hown hK hP 0 rfl rfl 1 (Nat.le_of_ble_eq_true rfl) w_1_108 rfl dX3_read_84 ?_
              refine sk_VvZ (q0 := 0) (n := 3) (rest := []) (wr := fmR om_13_1f7c _) ⟨hx, hb, hml, hown, hts⟩ hl.1 (c_elt_sumOf l D cI cJ cC cZ cS zk zv zf q za zw zt zz zg zp tl tb jd2_24 jm2_25 yu yr yn yc yx y1 yf yt (q 22) 0 0 (lr zo) hza hzz htl htb hyc hyx (by omega) (by omega) ⟨by rw [g_93]; decide, by rw [g_93]; decide⟩ (lr_rs hzO) (lr_len hz5)) w_3_66 w_3_68 w_0_5 w_1_5 w_3_69 hd_X3_readSumOf_3 ⟨⟨(Nat.le_of_ble_eq_true rfl), (Nat.le_of_ble_eq_true rfl)⟩, (Nat.le_of_ble_eq_true rfl), (Nat.le_of_ble_eq_true rfl)⟩ hK hP hD hS hZ hA (fmT om_13_1f7c 0) (fmF om_13_1f7c 0) (fm_C1 rfl rfl) (fm_R rfl rfl) (fm_nT om_13_1f7c 0) (fm_nF om_13_1f7c 0) (fm_di om_13_1f7c 0) rfl rfl rfl rfl (Nat.le_of_ble_eq_true rfl) dX3_read_87 (fun u H locs hw hP hD hS => ?_)
              refine exE hw (fun xa2_94 hw1 => exE hw1 (fun xv2_95 hw2 => exE hw2 (fun xt2_96 hw3 => exE hw3 (fun xz2_97 hw4 => exE hw4 (fun xf2_98 hw5 => exE hw5 (fun xp2_99 hw6 => exE hw6 (fun jc2_100 hw7 => exE hw7 (fun jx2_101 hw8 => exE hw8 (fun k1__102 hw9 => exE hw9 (fun kf__103 hw10 => exE hw10 (fun kt__104 hw11 => anE hw11 (fun hxa2_105 hw12 => anE hw12 (fun hxz2_106 hw13 => anE hw13 (fun hjc2_107 hw14 => anE hw14 (fun hjx2_108 hw15 => anE hw15 (fun hsm_109 eu_110 => ?_))))))))))))))))
              clear hw hw1 hw2 hw3 hw4 hw5 hw6 hw7 hw8 hw9 hw10 hw11 hw12 hw13 hw14 hw15
              refine o_mgE (ws' := [ro_rrr (q 3) 3 (q 2) (q 22) (q 23), ro_rniiinii (q 2) 6 (q 0) xa2_94 xv2_95 0 xt2_96 xz2_97 xf2_98 xp2_99, ro_rn (q 0) 10 (q 20) tl, ra_N (q 20) cI 1600 tb, ro_ri (q 22) 8 (q 2) 0, ro_ri (q 23) 8 (q 2) 1, ro_rrrrrnniin (q 6) 2 (q 24) (q 25) (q 26) (q 27) (q 28) jd2_24 jm2_25 yu yr yn, ro_rrrrnn (q 24) 0 (q 29) (q 30) (q 31) (q 32) jc2_100 jx2_101, ra_I (q 29) cI 1600 k1__102, ra_I (q 27) cI 3 kf__103, ra_I (q 28) cI 3 kt__104, ra_I (q 25) cI 9 yb, ra_I (q 26) cI 9 yw]) eu_110 hP hD rfl (fun hP hD => ?_)
              have hO_111 := ll_sum htb htl hzO (by decide) (Or.inl ⟨g_93, rfl, rfl⟩) hz5 hsm_109
              refine lv_goto (tgt := 124) hx hb dX3_read_90 (by decide) ?_
              exact jn_81 xa2_94 xv2_95 xt2_96 xz2_97 xf2_98 xp2_99 yu yr jc2_100 jx2_101 k1__102 kf__103 kt__104 yb yw zmu (bindR zo (bodyR tb tl)) _ _ _ hO_111 hxa2_105 hxz2_106 hjc2_107 hjx2_108 hzm rfl hP hD hS (lv_sub hl [0, 1] rfl)
            by_cases g_112 : zt = 262
            · refine lv_tableIn (off := 40) (tgt := 93) hx hb dX3_read_53 (by rw [g_112]; decide) (by rw [g_112]; decide) (by rw [g_112]; rfl) (by decide) ?_
              refine lv_aload_n hx hb dX3_read_93 rfl (lv_at hl 0 rfl) ?_
              refine lv_aload_n hx hb dX3_read_94 rfl (lv_at hl 1 rfl) ?_
              refine lv_iconst (v := 1) hx hb dX3_read_95 ic_1 ?_
              refine lv_aload_n hx hb dX3_read_96 rfl (lv_at hl 0 rfl) ?_
              refine sk_get (v := .ref (q 23)) (C := RX3) (T := TX3) (N := 3) hx hb hts inlX3 hown hK hP 0 rfl rfl 2 (Nat.le_of_ble_eq_true rfl) w_1_109 rfl dX3_read_97 ?_
              refine sk_VvZ (q0 := 0) (n := 3) (rest := []) (wr := fmR om_13_1efc _) ⟨hx, hb, hml, hown, hts⟩ hl.1 (c_elt_sumOf l D cI cJ cC cZ cS zk zv zf q za zw zt zz zg zp tl tb jd2_24 jm2_25 yu yr yn yc yx y1 yf yt (q 23) 1 1 (lr zo) hza hzz htl htb hyc hyx (by omega) (by omega) ⟨by rw [g_112]; decide, by rw [g_112]; decide⟩ (lr_rs hzO) (lr_len hz5)) w_3_66 w_3_68 w_0_5 w_1_5 w_3_69 hd_X3_readSumOf_3 ⟨⟨(Nat.le_of_ble_eq_true rfl), (Nat.le_of_ble_eq_true rfl)⟩, (Nat.le_of_ble_eq_true rfl), (Nat.le_of_ble_eq_true rfl)⟩ hK hP hD hS hZ hA (fmT om_13_1efc 0) (fmF om_13_1efc 0) (fm_C1 rfl rfl) (fm_R rfl rfl) (fm_nT om_13_1efc 0) (fm_nF om_13_1efc 0) (fm_di om_13_1efc 0) rfl rfl rfl rfl (Nat.le_of_ble_eq_true rfl) dX3_read_100 (fun u H locs hw hP hD hS => ?_)
              refine exE hw (fun xa2_113 hw1 => exE hw1 (fun xv2_114 hw2 => exE hw2 (fun xt2_115 hw3 => exE hw3 (fun xz2_116 hw4 => exE hw4 (fun xf2_117 hw5 => exE hw5 (fun xp2_118 hw6 => exE hw6 (fun jc2_119 hw7 => exE hw7 (fun jx2_120 hw8 => exE hw8 (fun k1__121 hw9 => exE hw9 (fun kf__122 hw10 => exE hw10 (fun kt__123 hw11 => anE hw11 (fun hxa2_124 hw12 => anE hw12 (fun hxz2_125 hw13 => anE hw13 (fun hjc2_126 hw14 => anE hw14 (fun hjx2_127 hw15 => anE hw15 (fun hsm_128 eu_129 => ?_))))))))))))))))
              clear hw hw1 hw2 hw3 hw4 hw5 hw6 hw7 hw8 hw9 hw10 hw11 hw12 hw13 hw14 hw15
              refine o_mgE (ws' := [ro_rrr (q 3) 3 (q 2) (q 22) (q 23), ro_rniiinii (q 2) 6 (q 0) xa2_113 xv2_114 0 xt2_115 xz2_116 xf2_117 xp2_118, ro_rn (q 0) 10 (q 20) tl, ra_N (q 20) cI 1600 tb, ro_ri (q 22) 8 (q 2) 0, ro_ri (q 23) 8 (q 2) 1, ro_rrrrrnniin (q 6) 2 (q 24) (q 25) (q 26) (q 27) (q 28) jd2_24 jm2_25 yu yr yn, ro_rrrrnn (q 24) 0 (q 29) (q 30) (q 31) (q 32) jc2_119 jx2_120, ra_I (q 29) cI 1600 k1__121, ra_I (q 27) cI 3 kf__122, ra_I (q 28) cI 3 kt__123, ra_I (q 25) cI 9 yb, ra_I (q 26) cI 9 yw]) eu_129 hP hD rfl (fun hP hD => ?_)
              have hO_130 := ll_sum htb htl hzO (by decide) (Or.inr (Or.inl ⟨g_112, rfl, rfl⟩)) hz5 hsm_128
              refine lv_goto (tgt := 124) hx hb dX3_read_103 (by decide) ?_
              exact jn_81 xa2_113 xv2_114 xt2_115 xz2_116 xf2_117 xp2_118 yu yr jc2_119 jx2_120 k1__121 kf__122 kt__123 yb yw zmu (bindR zo (bodyR tb tl)) _ _ _ hO_130 hxa2_124 hxz2_125 hjc2_126 hjx2_127 hzm rfl hP hD hS (lv_sub hl [0, 1] rfl)
            by_cases g_131 : zt = 263
            · refine lv_tableIn (off := 53) (tgt := 106) hx hb dX3_read_53 (by rw [g_131]; decide) (by rw [g_131]; decide) (by rw [g_131]; rfl) (by decide) ?_
              refine lv_aload_n hx hb dX3_read_106 rfl (lv_at hl 0 rfl) ?_
              refine lv_aload_n hx hb dX3_read_107 rfl (lv_at hl 1 rfl) ?_
              refine lv_iconst (v := 2) hx hb dX3_read_108 ic_2 ?_
              refine lv_aload_n hx hb dX3_read_109 rfl (lv_at hl 0 rfl) ?_
              refine sk_get (v := .ref (q 22)) (C := RX3) (T := TX3) (N := 3) hx hb hts inlX3 hown hK hP 0 rfl rfl 1 (Nat.le_of_ble_eq_true rfl) w_1_108 rfl dX3_read_110 ?_
              refine sk_VvZ (q0 := 0) (n := 3) (rest := []) (wr := fmR om_13_1f7c _) ⟨hx, hb, hml, hown, hts⟩ hl.1 (c_elt_sumOf l D cI cJ cC cZ cS zk zv zf q za zw zt zz zg zp tl tb jd2_24 jm2_25 yu yr yn yc yx y1 yf yt (q 22) 0 2 (lr zo) hza hzz htl htb hyc hyx (by omega) (by omega) ⟨by rw [g_131]; decide, by rw [g_131]; decide⟩ (lr_rs hzO) (lr_len hz5)) w_3_66 w_3_68 w_0_5 w_1_5 w_3_69 hd_X3_readSumOf_3 ⟨⟨(Nat.le_of_ble_eq_true rfl), (Nat.le_of_ble_eq_true rfl)⟩, (Nat.le_of_ble_eq_true rfl), (Nat.le_of_ble_eq_true rfl)⟩ hK hP hD hS hZ hA (fmT om_13_1f7c 0) (fmF om_13_1f7c 0) (fm_C1 rfl rfl) (fm_R rfl rfl) (fm_nT om_13_1f7c 0) (fm_nF om_13_1f7c 0) (fm_di om_13_1f7c 0) rfl rfl rfl rfl (Nat.le_of_ble_eq_true rfl) dX3_read_113 (fun u H locs hw hP hD hS => ?_)
              refine exE hw (fun xa2_132 hw1 => exE hw1 (fun xv2_133 hw2 => exE hw2 (fun xt2_134 hw3 => exE hw3 (fun xz2_135 hw4 => exE hw4 (fun xf2_136 hw5 => exE hw5 (fun xp2_137 hw6 => exE hw6 (fun jc2_138 hw7 => exE hw7 (fun jx2_139 hw8 => exE hw8 (fun k1__140 hw9 => exE hw9 (fun kf__141 hw10 => exE hw10 (fun kt__142 hw11 => anE hw11 (fun hxa2_143 hw12 => anE hw12 (fun hxz2_144 hw13 => anE hw13 (fun hjc2_145 hw14 => anE hw14 (fun hjx2_146 hw15 => anE hw15 (fun hsm_147 eu_148 => ?_))))))))))))))))
              clear hw hw1 hw2 hw3 hw4 hw5 hw6 hw7 hw8 hw9 hw10 hw11 hw12 hw13 hw14 hw15
              refine o_mgE (ws' := [ro_rrr (q 3) 3 (q 2) (q 22) (q 23), ro_rniiinii (q 2) 6 (q 0) xa2_132 xv2_133 0 xt2_134 xz2_135 xf2_136 xp2_137, ro_rn (q 0) 10 (q 20) tl, ra_N (q 20) cI 1600 tb, ro_ri (q 22) 8 (q 2) 0, ro_ri (q 23) 8 (q 2) 1, ro_rrrrrnniin (q 6) 2 (q 24) (q 25) (q 26) (q 27) (q 28) jd2_24 jm2_25 yu yr yn, ro_rrrrnn (q 24) 0 (q 29) (q 30) (q 31) (q 32) jc2_138 jx2_139, ra_I (q 29) cI 1600 k1__140, ra_I (q 27) cI 3 kf__141, ra_I (q 28) cI 3 kt__142, ra_I (q 25) cI 9 yb, ra_I (q 26) cI 9 yw]) eu_148 hP hD rfl (fun hP hD => ?_)
              have hO_149 := ll_sum htb htl hzO (by decide) (Or.inr (Or.inr ⟨g_131, rfl, rfl⟩)) hz5 hsm_147
              refine lv_goto (tgt := 124) hx hb dX3_read_116 (by decide) ?_
              exact jn_81 xa2_132 xv2_133 xt2_134 xz2_135 xf2_136 xp2_137 yu yr jc2_138 jx2_139 k1__140 kf__141 kt__142 yb yw zmu (bindR zo (bodyR tb tl)) _ _ _ hO_149 hxa2_143 hxz2_144 hjc2_145 hjx2_146 hzm rfl hP hD hS (lv_sub hl [0, 1] rfl)
            refine lv_tableOut (tgt := 119) hx hb dX3_read_53 (sk_out2 261 263 (by intro k hk1 hk2; rcases (show k = 261 ∨ k = 262 ∨ k = 263 by omega) with rfl | rfl | rfl <;> assumption)) (by decide) ?_
            refine lv_aload_n hx hb dX3_read_119 rfl (lv_at hl 0 rfl) ?_
            refine lv_aload_n hx hb dX3_read_120 rfl (lv_at hl 1 rfl) ?_
            refine sk_VvZ (q0 := 0) (n := 1) (rest := []) (wr := fmR om_13_1e43 _) ⟨hx, hb, hml, hown, hts⟩ hl.1 (c_elt_numbers l D cI cJ cC cZ cS zk zv zf q za zw 0 zt zz zg zp tl tb jd2_24 jm2_25 yu yr yn yb yw zmu (lc zo) hza hzz htl htb (by omega) hjd3_29 hzm hzO.1) w_3_127 w_3_129 w_0_11 w_1_5 w_3_130 hd_X3_readNumbers_1 ⟨⟨(Nat.le_of_ble_eq_true rfl), (Nat.le_of_ble_eq_true rfl)⟩, (Nat.le_of_ble_eq_true rfl), (Nat.le_of_ble_eq_true rfl)⟩ hK hP hD hS hZ hA (fmT om_13_1e43 0) (fmF om_13_1e43 0) (fm_C1 rfl rfl) (fm_R rfl rfl) (fm_nT om_13_1e43 0) (fm_nF om_13_1e43 0) (fm_di om_13_1e43 0) rfl rfl rfl rfl (Nat.le_of_ble_eq_true rfl) dX3_read_121 (fun u H locs hw hP hD hS => ?_)
            refine exE hw (fun xa2_150 hw1 => exE hw1 (fun xv2_151 hw2 => exE hw2 (fun xt2_152 hw3 => exE hw3 (fun xz2_153 hw4 => exE hw4 (fun xf2_154 hw5 => exE hw5 (fun xp2_155 hw6 => exE hw6 (fun ju2_156 hw7 => exE hw7 (fun jr2_157 hw8 => exE hw8 (fun jb2_158 hw9 => exE hw9 (fun jw2_159 hw10 => anE hw10 (fun hxa2_160 hw11 => anE hw11 (fun hxz2_161 hw12 => anE hw12 (fun hnb_162 eu_163 => ?_)))))))))))))
            clear hw hw1 hw2 hw3 hw4 hw5 hw6 hw7 hw8 hw9 hw10 hw11 hw12
            refine o_mgE (ws' := [ro_rrr (q 3) 3 (q 2) (q 22) (q 23), ro_rniiinii (q 2) 6 (q 0) xa2_150 xv2_151 0 xt2_152 xz2_153 xf2_154 xp2_155, ro_rn (q 0) 10 (q 20) tl, ra_N (q 20) cI 1600 tb, ro_ri (q 22) 8 (q 2) 0, ro_ri (q 23) 8 (q 2) 1, ro_rrrrrnniin (q 6) 2 (q 24) (q 25) (q 26) (q 27) (q 28) jd2_24 jm2_25 ju2_156 jr2_157 yn, ro_rrrrnn (q 24) 0 (q 29) (q 30) (q 31) (q 32) yc yx, ra_I (q 29) cI 1600 y1, ra_I (q 27) cI 3 yf, ra_I (q 28) cI 3 yt, ra_I (q 25) cI 9 jb2_158, ra_I (q 26) cI 9 jw2_159]) eu_163 hP hD rfl (fun hP hD => ?_)
            have hO_164 := ll_nb htb hzO hzm (by assumption) (by assumption) (by assumption) hnb_162
            obtain ⟨mu_165, hmu_165⟩ := nb_mu hnb_162 hzm
            exact jn_81 xa2_150 xv2_151 xt2_152 xz2_153 xf2_154 xp2_155 ju2_156 jr2_157 yc yx y1 yf yt jb2_158 jw2_159 mu_165 (bindR zo (bodyR tb tl)) _ _ _ hO_164 hxa2_160 hxz2_161 hyc hyx hmu_165 rfl hP hD hS (lv_sub hl [0, 1] rfl)
  exact lp_36 (60 - 1 + 1) xa2_18 xv2_19 xt2_20 xz2_21 xf2_22 xp2_23 0 0 1 0 0 j1 gf_1 gt_2 gb_3 gw_4 (fun _ => false) (openP tb tl (sk tb tl 0, false)) _ _ _ (Nat.lt_succ_self _) hO_35 (by omega) hxa2_26 hxz2_27 (by omega) (by omega) muO_0 (len5_open) (show bindR _ (stP tb tl 59) = _ from rfl) hP hD hS (lv_sub hl [0, 1] rfl)
/-! bytes -/
def lo8 (x : Int32) : Nat := (x &&& 255).toBitVec.toNat
theorem lo8_le (x : Int32) : lo8 x ≤ 255 := by
  unfold lo8
  rw [Int32.toBitVec_and, BitVec.toNat_and]
  exact Nat.and_le_right
theorem lo8_eq (x : Int32) : x &&& 255 = nI (lo8 x) := by
  refine Int32.toBitVec_inj.mp ?_
  show _ = BitVec.ofNat 32 _
  unfold lo8
  rw [BitVec.ofNat_toNat, BitVec.setWidth_eq]
theorem lo8_nI {k : Nat} (h : k ≤ 255) : lo8 (nI k) = k := by
  have h1 : ∀ k, k < 256 → lo8 (nI k) = k := by decide +kernel
  exact h1 k (by omega)
/-- the k-th of the twenty bytes -/
def wByte (a b c d e : Int32) (k : Nat) : Nat := lo8 ((if k < 4 then a else if k < 8 then b else if k < 12 then c else if k < 16 then d else e) >>> (nI (8 * (3 - k % 4)) &&& 31))
def feedN (tb : Nat → Nat) (t : Nat) (f : Nat → Nat) : Nat → Nat → Nat
  | 0 => tb
  | k + 1 => updN (feedN tb t f k) (t + k) (f k)
def feedT (tb : Nat → Nat) (t : Nat) (a b c d e : Int32) : Nat → Nat := feedN tb t (wByte a b c d e) 20
theorem ush_lo (x : BitVec 32) (s : Nat) (hs : s ≤ 24) : (x >>> s) &&& 255#32 = (x.sshiftRight s) &&& 255#32 := by
  apply BitVec.eq_of_getLsbD_eq
  intro i hi
  rw [BitVec.getLsbD_and, BitVec.getLsbD_and]
  by_cases h : i < 8
  · rw [BitVec.getLsbD_ushiftRight, BitVec.getLsbD_sshiftRight]
    rw [if_pos (by omega)]
    simp [show ¬ 32 ≤ i by omega]
  · have h0 : ∀ i, i < 32 → 8 ≤ i → (255#32).getLsbD i = false := by decide
    rw [h0 i hi (by omega), Bool.and_false, Bool.and_false]
theorem by_s (x S : Int32) (k : Nat) (hk : k ≤ 24) (h1 : ((S.toUInt32 &&& Int32.toUInt32 31).toBitVec % 32).toNat = k) (h2 : ((nI k &&& 31).toBitVec.smod 32).toNat = k) : lo8 ((x.toUInt32 >>> (S.toUInt32 &&& Int32.toUInt32 31)).toInt32) = lo8 (x >>> (nI k &&& 31)) := by
  have e1 : (x.toUInt32 >>> (S.toUInt32 &&& Int32.toUInt32 31)).toInt32.toBitVec = x.toBitVec >>> k := by
    rw [← h1]
    exact UInt32.toBitVec_shiftRight _ _
  have e2 : (x >>> (nI k &&& 31)).toBitVec = x.toBitVec.sshiftRight k := by
    show x.toBitVec.sshiftRight _ = _
    rw [h2]
  have e3 : ((255 : Int32)).toBitVec = 255#32 := by decide
  unfold lo8
  rw [Int32.toBitVec_and, Int32.toBitVec_and, e1, e2, e3, ush_lo _ _ hk]
theorem by_0 (x : Int32) : lo8 x = lo8 (x >>> (nI 0 &&& 31)) := by
  have e2 : (x >>> (nI 0 &&& 31)).toBitVec = x.toBitVec.sshiftRight 0 := by
    show x.toBitVec.sshiftRight _ = _
    rw [show ((nI 0 &&& 31).toBitVec.smod 32).toNat = 0 by decide]
  unfold lo8
  rw [Int32.toBitVec_and, Int32.toBitVec_and, e2, BitVec.sshiftRight_zero]
theorem by_24 (x : Int32) : lo8 ((x.toUInt32 >>> ((24 : Int32).toUInt32 &&& Int32.toUInt32 31)).toInt32) = lo8 (x >>> (nI 24 &&& 31)) := by_s x 24 24 (by decide) (by decide) (by decide)
theorem by_16 (x : Int32) : lo8 ((x.toUInt32 >>> ((16 : Int32).toUInt32 &&& Int32.toUInt32 31)).toInt32) = lo8 (x >>> (nI 16 &&& 31)) := by_s x 16 16 (by decide) (by decide) (by decide)
theorem by_8 (x : Int32) : lo8 ((x.toUInt32 >>> ((8 : Int32).toUInt32 &&& Int32.toUInt32 31)).toInt32) = lo8 (x >>> (nI 8 &&& 31)) := by_s x 8 8 (by decide) (by decide) (by decide)
def add4 (tb : Nat → Nat) (t : Nat) (x : Int32) : Nat → Nat := updN (updN (updN (updN tb t (lo8 (x >>> (nI 24 &&& 31)))) (t + 1) (lo8 (x >>> (nI 16 &&& 31)))) (t + 2) (lo8 (x >>> (nI 8 &&& 31)))) (t + 3) (lo8 (x >>> (nI 0 &&& 31)))
theorem add_5 (tb : Nat → Nat) (t : Nat) (a b c d e : Int32) : add4 (add4 (add4 (add4 (add4 tb t a) (t + 4) b) (t + 4 + 4) c) (t + 4 + 4 + 4) d) (t + 4 + 4 + 4 + 4) e = feedT tb t a b c d e := rfl
theorem sk_iastX {p : Program} {l : Launch} {e : Env} {R : Room} {s : State} {m : MethodId} {args : Array Value} {below : List Frame} {meth : Method} {c : Code} {H : Heap} {locs : List Loc} {cells slots : Nat} {Q : State → Prop} {cc : ByteArray} {pc : Nat} {ls : Array Slot} {rest : List Value} {D : va_G} {tys : List (ClassId × FieldType)} {ws : va_W} {A : Nat → Prop} {H0 : Heap} {a : Nat} (hexec : p.tables.exec = Jvm.exec) (hb : c.code = cc) (hK : skK D tys s) (hP : va_P D vwCl ws H) (hD : va_D A ws) (hS : va_S A H0 H locs) (q0 t0 : Nat) {cA : ClassId} {n B : Nat} {f : Nat → Nat} {ws' : (Nat → Nat) → va_W} (ha : ws[q0]? = some (a, .inl (cA, n, .inl (fun j => nI (f j))))) (ht : tys[t0]? = some (cA, .int)) {k v : Nat} (hk : k < n) (hn : n < 2147483648) (hf : ∀ j, f j ≤ B) (hv : v ≤ B) (hw' : ∀ f', ws.set q0 (a, .inl (cA, n, .inl (fun j => nI (f' j)))) = ws' f') (hdg : decode cc pc = .ok (.iastore, 1))
    (kk : ∀ (f' : Nat → Nat) (H1 : Heap) (locs1 : List Loc), (∀ j, f' j ≤ B) → f' = updN f k v → va_P D vwCl (ws' f') H1 → va_D A (ws' f') → va_S A H0 H1 locs1 → W p l e R s m args below meth c H1 locs1 cells slots Q (F0 m (pc + 1) ls rest)) : W p l e R s m args below meth c H locs cells slots Q (F0 m pc ls (.int (nI v) :: .int (nI k) :: .ref a :: rest)) := by
  refine va_iast hexec hb hK.1 hP hD hS q0 t0 ha ht (vin k n hk hn) hdg (fun H1 locs1 h1 h2 h3 => ?_)
  rw [updN_fun f k v (by omega)] at h1 h2
  exact kk _ H1 locs1 (updN_le hf hv) rfl ((hw' _) ▸ h1) ((hw' _) ▸ h2) h3
def chkN (tb : Nat → Nat) : Nat → Nat
  | 0 => 139
  | k + 1 => (3 * chkN tb k + tb k) % 251
set_option maxHeartbeats 4000000 in
set_option maxRecDepth 100000 in
theorem c_eTape_add_1600 (l : Launch) (D : va_G) (cI cJ cC cZ cS : ClassId) (h0 : Nat) (k1 : Nat) (tl : Nat) (tb : Nat → Nat) (o : Int32) (htl : tl ≤ 1600) (htb : ∀ j, tb j ≤ 255) : skM l yX10_add cX10_add 2 none 0 0 0 0 D (skT cI cJ cC cZ cS) [.ref h0, .int o] [ro_rn h0 10 k1 tl, ra_N k1 cI 1600 tb] (skV D (skT cI cJ cC cZ cS) (fun (u : va_W) => ∃ (t2 : Nat), ∃ (tb2 : Nat → Nat), ((tl < 1600 ∧ t2 = tl + 1) ∨ (1600 ≤ tl ∧ t2 = tl)) ∧ (∀ j, tb2 j ≤ 255) ∧ (tl < 1600 → tb2 = updN tb tl (lo8 o)) ∧ u = [ro_rn h0 10 k1 t2, ra_N k1 cI 1600 tb2])) := by
  refine skM_of pf_X10_add (Nat.le_of_ble_eq_true rfl) ?_
  intro p e s m below meth c A ls E hP hD hl
  refine skE_el E (fun hx hb hr hml hlocks hin hown hts hK hA => ?_)
  have hown : s.vm.findClass RX10 = some m.cls := hown
  have hS : va_S A s.heap s.heap [] := va_S.rf
  have hl : lv_has ls 2 [(0, .ref h0), (1, .int o)] := hl
  refine lv_aload_n hx hb dX10_add_0 rfl (lv_at hl 0 rfl) ?_
  refine sk_get (v := .int (nI tl)) (C := RX10) (T := TX10) (N := 2) hx hb hts inlX10 hown hK hP 0 rfl rfl 1 (Nat.le_of_ble_eq_true rfl) w_1_41 rfl dX10_add_1 ?_
  refine lv_aload_n hx hb dX10_add_4 rfl (lv_at hl 0 rfl) ?_
  refine sk_get (v := .ref k1) (C := RX10) (T := TX10) (N := 2) hx hb hts inlX10 hown hK hP 0 rfl rfl 0 (Nat.le_of_ble_eq_true rfl) w_1_39 rfl dX10_add_5 ?_
  refine va_alen (v := 1600) hx hb hK.1 hP 1 0 rfl rfl rfl dX10_add_8 ?_
  refine lv_icmp_ge (tgt := 36) hx hb dX10_add_9 (by decide) (fun c_1 => ?_) (fun c_1 => ?_)
  · have c_1 : 1600 ≤ tl := (nle 1600 tl (Nat.le_of_ble_eq_true rfl) (by omega)).mp c_1
    exact sk_vret hx hb hr hlocks hK hP hD hS (⟨tl, tb, by omega, htb, (fun hq => absurd hq (by omega)), rfl⟩) (Nat.le_of_ble_eq_true rfl) (Nat.le_of_ble_eq_true rfl) dX10_add_36
  · have c_1 : ¬ (1600 ≤ tl) := fun h => c_1 ((nle 1600 tl (Nat.le_of_ble_eq_true rfl) (by omega)).mpr h)
    refine lv_aload_n hx hb dX10_add_12 rfl (lv_at hl 0 rfl) ?_
    refine sk_get (v := .ref k1) (C := RX10) (T := TX10) (N := 2) hx hb hts inlX10 hown hK hP 0 rfl rfl 0 (Nat.le_of_ble_eq_true rfl) w_1_39 rfl dX10_add_13 ?_
    refine lv_aload_n hx hb dX10_add_16 rfl (lv_at hl 0 rfl) ?_
    refine sk_get (v := .int (nI tl)) (C := RX10) (T := TX10) (N := 2) hx hb hts inlX10 hown hK hP 0 rfl rfl 1 (Nat.le_of_ble_eq_true rfl) w_1_41 rfl dX10_add_17 ?_
    refine lv_iload_n hx hb dX10_add_20 rfl (lv_at hl 1 rfl) ?_
    refine lv_sipush (v := 255) hx hb dX10_add_21 (by decide) ?_
    refine lv_iand hx hb dX10_add_24 ?_
    have hlo_2 := lo8_le o
    refine sk_top (nI (lo8 o)) (lo8_eq o) ?_
    refine sk_iastX (k := tl) (v := (lo8 o)) (B := 255) (ws' := fun f_3 => [ro_rn h0 10 k1 tl, ra_N k1 cI 1600 f_3]) hx hb hK hP hD hS 1 0 rfl rfl (by omega) (by omega) htb (by omega) (fun _ => rfl) dX10_add_25 (fun f_3 H locs hf_4 ef_5 hP hD hS => ?_)
    refine lv_aload_n hx hb dX10_add_26 rfl (lv_at hl 0 rfl) ?_
    refine lv_dup hx hb dX10_add_27 rfl ?_
    refine sk_get (v := .int (nI tl)) (C := RX10) (T := TX10) (N := 2) hx hb hts inlX10 hown hK hP 0 rfl rfl 1 (Nat.le_of_ble_eq_true rfl) w_1_41 rfl dX10_add_28 ?_
    refine lv_iconst (v := 1) hx hb dX10_add_31 ic_1 ?_
    refine lv_iadd hx hb dX10_add_32 ?_
    refine sk_top (nI (tl + 1)) (nI_add tl 1) ?_
    refine sk_put (ws' := [ro_rn h0 10 k1 (tl + 1), ra_N k1 cI 1600 f_3]) (C := RX10) (T := TX10) (N := 2) (v := .int (nI (tl + 1))) hx hb hts inlX10 tyX10 tyX10_ok nmX10 hown hK hP hD hS 0 rfl rfl 1 (Nat.le_of_ble_eq_true rfl) w_1_41 rfl rfl rfl (Nat.le_of_ble_eq_true rfl) rfl dX10_add_33 (fun H locs hP hD hS => ?_)
    exact sk_vret hx hb hr hlocks hK hP hD hS (⟨tl + 1, f_3, by omega, hf_4, (fun _ => ef_5), rfl⟩) (Nat.le_of_ble_eq_true rfl) (Nat.le_of_ble_eq_true rfl) dX10_add_36
set_option maxHeartbeats 4000000 in
set_option maxRecDepth 100000 in
theorem c_eTape_left_1600 (l : Launch) (D : va_G) (cI cJ cC cZ cS : ClassId) (h0 : Nat) (k1 : Nat) (tl : Nat) (tb : Nat → Nat) (k : Nat) (htl : tl ≤ 1600) (htb : ∀ j, tb j ≤ 255) (hk : k < 1600) : skM l yX10_left cX10_left 2 (some .int) 0 0 0 0 D (skT cI cJ cC cZ cS) [.ref h0, .int (nI k)] [ro_rn h0 10 k1 tl, ra_N k1 cI 1600 tb] (skI D (skT cI cJ cC cZ cS) (fun (r : Int32) (u : va_W) => tb k ≤ 255 ∧ r = nI (tb k) ∧ u = [ro_rn h0 10 k1 tl, ra_N k1 cI 1600 tb])) := by
  refine skM_of pf_X10_left (Nat.le_of_ble_eq_true rfl) ?_
  intro p e s m below meth c A ls E hP hD hl
  refine skE_el E (fun hx hb hr hml hlocks hin hown hts hK hA => ?_)
  have hown : s.vm.findClass RX10 = some m.cls := hown
  have hS : va_S A s.heap s.heap [] := va_S.rf
  have hl : lv_has ls 2 [(0, .ref h0), (1, .int (nI k))] := hl
  refine lv_iload_n hx hb dX10_left_0 rfl (lv_at hl 1 rfl) ?_
  refine lv_if_lt (tgt := 22) hx hb dX10_left_1 (by decide) (fun c => absurd c (nI_pos (by omega))) (fun c_1 => ?_)
  refine lv_iload_n hx hb dX10_left_4 rfl (lv_at hl 1 rfl) ?_
  refine lv_aload_n hx hb dX10_left_5 rfl (lv_at hl 0 rfl) ?_
  refine sk_get (v := .ref k1) (C := RX10) (T := TX10) (N := 2) hx hb hts inlX10 hown hK hP 0 rfl rfl 0 (Nat.le_of_ble_eq_true rfl) w_1_39 rfl dX10_left_6 ?_
  refine va_alen (v := 1600) hx hb hK.1 hP 1 0 rfl rfl rfl dX10_left_9 ?_
  refine lv_icmp_ge (tgt := 22) hx hb dX10_left_10 (by decide) (fun c => absurd c (fun h9 => absurd ((nle 1600 k (Nat.le_of_ble_eq_true rfl) (by omega)).mp h9) (by omega))) (fun c_2 => ?_)
  refine lv_aload_n hx hb dX10_left_13 rfl (lv_at hl 0 rfl) ?_
  refine sk_get (v := .ref k1) (C := RX10) (T := TX10) (N := 2) hx hb hts inlX10 hown hK hP 0 rfl rfl 0 (Nat.le_of_ble_eq_true rfl) w_1_39 rfl dX10_left_14 ?_
  refine lv_iload_n hx hb dX10_left_17 rfl (lv_at hl 1 rfl) ?_
  refine va_iald hx hb hK.1 hP 1 0 rfl rfl (vin k 1600 (by omega) (Nat.le_of_ble_eq_true rfl)) dX10_left_18 ?_
  refine sk_top (nI (tb k)) (nrd tb k (by omega)) ?_
  have hb_3 := htb k
  refine lv_goto (tgt := 23) hx hb dX10_left_19 (by decide) ?_
  exact sk_iret hx hb hr rfl hlocks hK hP hD hS (⟨htb k, rfl, rfl⟩) (Nat.le_of_ble_eq_true rfl) (Nat.le_of_ble_eq_true rfl) dX10_left_23
set_option maxHeartbeats 4000000 in
set_option maxRecDepth 100000 in
theorem c_eTape_checkOf_1600 (l : Launch) (D : va_G) (cI cJ cC cZ cS : ClassId) (h0 : Nat) (k1 : Nat) (tl : Nat) (tb : Nat → Nat) (cn : Nat) (htl : tl ≤ 1600) (htb : ∀ j, tb j ≤ 255) (hcn : cn ≤ 1600) : skM l yX10_checkOf cX10_checkOf 4 (some .int) 1 21 0 0 D (skT cI cJ cC cZ cS) [.ref h0, .int (nI cn)] [ro_rn h0 10 k1 tl, ra_N k1 cI 1600 tb] (skI D (skT cI cJ cC cZ cS) (fun (r : Int32) (u : va_W) => ∃ (ck2 : Nat), ck2 = chkN tb cn ∧ ck2 < 251 ∧ r = nI ck2 ∧ u = [ro_rn h0 10 k1 tl, ra_N k1 cI 1600 tb])) := by
  refine skM_of pf_X10_checkOf (Nat.le_of_ble_eq_true rfl) ?_
  intro p e s m below meth c A ls E hP hD hl
  refine skE_el E (fun hx hb hr hml hlocks hin hown hts hK hA => ?_)
  have hown : s.vm.findClass RX10 = some m.cls := hown
  have hS : va_S A s.heap s.heap [] := va_S.rf
  have hl : lv_has ls 4 [(0, .ref h0), (1, .int (nI cn))] := hl
  refine lv_sipush (v := 139) hx hb dX10_checkOf_0 (by decide) ?_
  refine lv_istore_n (lv' := [(2, .int 139), (0, .ref h0), (1, .int (nI cn))]) hx hb dX10_checkOf_3 rfl hl (by decide) rfl (fun ls hl => ?_)
  refine lv_iconst (v := 0) hx hb dX10_checkOf_4 ic_0 ?_
  refine lv_istore_n (lv' := [(3, .int 0), (2, .int 139), (0, .ref h0), (1, .int (nI cn))]) hx hb dX10_checkOf_5 rfl hl (by decide) rfl (fun ls hl => ?_)
  have lp_1 : ∀ (n_2 : Nat) (i : Nat) (ck : Nat) (H : Heap) (locs : List Loc) (ls : Array Slot), cn - i < n_2 → (i ≤ cn) → (ck < 251) → (ck = chkN tb i) → va_P D vwCl [ro_rn h0 10 k1 tl, ra_N k1 cI 1600 tb] H → va_D A [ro_rn h0 10 k1 tl, ra_N k1 cI 1600 tb] → va_S A s.heap H locs → lv_has ls 4 [(3, .int (nI i)), (2, .int (nI ck)), (0, .ref h0), (1, .int (nI cn))] → W p l e { frames := 1, cells := 0, slots := 0, locals := 21 } s m ([.ref h0, .int (nI cn)] : List Value).toArray below meth c H locs 0 0 (MQ below (skI D (skT cI cJ cC cZ cS) (fun (r : Int32) (u : va_W) => ∃ (ck2 : Nat), ck2 = chkN tb cn ∧ ck2 < 251 ∧ r = nI ck2 ∧ u = [ro_rn h0 10 k1 tl, ra_N k1 cI 1600 tb]) A) ([.ref h0, .int (nI cn)] : List Value).toArray s 0 0 A) (F0 m 6 ls []) := by
    intro n_2
    induction n_2 with
    | zero => intro i ck H locs ls hm; exact absurd hm (Nat.not_lt_zero _)
    | succ n_2 ih_lp_1 =>
      intro i ck H locs ls hm hi hc9 hci hP hD hS hl
      refine lv_iload_n hx hb dX10_checkOf_6 rfl (lv_at hl 0 rfl) ?_
      refine lv_iload_n hx hb dX10_checkOf_7 rfl (lv_at hl 3 rfl) ?_
      refine lv_icmp_ge (tgt := 31) hx hb dX10_checkOf_8 (by decide) (fun c_3 => ?_) (fun c_3 => ?_)
      · have c_3 : cn ≤ i := (nle cn i (by omega) (by omega)).mp c_3
        refine lv_iload_n hx hb dX10_checkOf_31 rfl (lv_at hl 1 rfl) ?_
        exact sk_iret hx hb hr rfl hlocks hK hP hD hS (⟨ck, (by rw [show cn = i by omega]; exact hci), hc9, rfl, rfl⟩) (Nat.le_of_ble_eq_true rfl) (Nat.le_of_ble_eq_true rfl) dX10_checkOf_32
      · have c_3 : ¬ (cn ≤ i) := fun h => c_3 ((nle cn i (by omega) (by omega)).mpr h)
        refine lv_iconst (v := 3) hx hb dX10_checkOf_11 ic_3 ?_
        refine lv_iload_n hx hb dX10_checkOf_12 rfl (lv_at hl 1 rfl) ?_
        refine lv_imul hx hb dX10_checkOf_13 ?_
        refine sk_top (nI (3 * ck)) (nmul 3 ck) ?_
        refine lv_aload_n hx hb dX10_checkOf_14 rfl (lv_at hl 2 rfl) ?_
        refine lv_iload_n hx hb dX10_checkOf_15 rfl (lv_at hl 0 rfl) ?_
        refine sk_Vi (q0 := 0) (n := 1) (rest := [.int (nI (3 * ck))]) (wr := fmR om_2_3 _) ⟨hx, hb, hml, hown, hts⟩ hl.1 (c_eTape_left_1600 l D cI cJ cC cZ cS h0 k1 tl tb i htl htb (by omega)) w_5_132 w_4_215 w_4_216 w_1_2 w_4_217 hd_X10_left_1 ⟨⟨(Nat.le_of_ble_eq_true rfl), (Nat.le_of_ble_eq_true rfl)⟩, (Nat.le_of_ble_eq_true rfl), (Nat.le_of_ble_eq_true rfl)⟩ hK hP hD hS hA (fmT om_2_3 0) (fmF om_2_3 0) (fm_C1 rfl rfl) (fm_R rfl rfl) (fm_nT om_2_3 0) (fm_nF om_2_3 0) (fm_di om_2_3 0) rfl rfl rfl rfl (Nat.le_of_ble_eq_true rfl) dX10_checkOf_16 (fun r_4 u H locs hw hP hD hS => ?_)
        refine anE hw (fun hv_5 hw1 => anE hw1 (fun er_7 eu_6 => ?_))
        clear hw hw1
        subst er_7
        refine o_mgE (ws' := [ro_rn h0 10 k1 tl, ra_N k1 cI 1600 tb]) eu_6 hP hD rfl (fun hP hD => ?_)
        refine lv_iadd hx hb dX10_checkOf_19 ?_
        refine sk_top (nI (3 * ck + (tb i))) (nI_add (3 * ck) (tb i)) ?_
        refine lv_sipush (v := 251) hx hb dX10_checkOf_20 (by decide) ?_
        refine lv_irem hx hb dX10_checkOf_23 (by decide) ?_
        refine sk_top (nI ((3 * ck + (tb i)) % 251)) (nrem (3 * ck + (tb i)) 251 (by omega) (by omega) (by omega)) ?_
        refine lv_istore_n (lv' := [(2, .int (nI ((3 * ck + (tb i)) % 251))), (3, .int (nI i)), (0, .ref h0), (1, .int (nI cn))]) hx hb dX10_checkOf_24 rfl hl (by decide) rfl (fun ls hl => ?_)
        refine lv_iinc (v := nI (i + 1)) (lv' := [(3, .int (nI (i + 1))), (2, .int (nI ((3 * ck + (tb i)) % 251))), (0, .ref h0), (1, .int (nI cn))]) hx hb dX10_checkOf_25 hl (k := 1) rfl (ninc i 1 (by decide)) (by decide) rfl (fun ls hl => ?_)
        refine lv_goto (tgt := 6) hx hb dX10_checkOf_28 (by decide) ?_
        exact ih_lp_1 (i + 1) ((3 * ck + (tb i)) % 251) _ _ _ (by omega) (by omega) (by omega) (by rw [chkN, ← hci]) hP hD hS (lv_sub hl [0, 1, 2, 3] rfl)
  exact lp_1 (cn - 0 + 1) 0 139 _ _ _ (Nat.lt_succ_self _) (by omega) (by omega) rfl hP hD hS (lv_sub hl [0, 1, 2, 3] rfl)
set_option maxHeartbeats 4000000 in
set_option maxRecDepth 100000 in
theorem c_eTape_add_31 (l : Launch) (D : va_G) (cI cJ cC cZ cS : ClassId) (h0 : Nat) (k1 : Nat) (tl : Nat) (tb : Nat → Nat) (o : Int32) (htl : tl ≤ 31) (htb : ∀ j, tb j ≤ 255) : skM l yX10_add cX10_add 2 none 0 0 0 0 D (skT cI cJ cC cZ cS) [.ref h0, .int o] [ro_rn h0 10 k1 tl, ra_N k1 cI 31 tb] (skV D (skT cI cJ cC cZ cS) (fun (u : va_W) => ∃ (t2 : Nat), ∃ (tb2 : Nat → Nat), ((tl < 31 ∧ t2 = tl + 1) ∨ (31 ≤ tl ∧ t2 = tl)) ∧ (∀ j, tb2 j ≤ 255) ∧ (tl < 31 → tb2 = updN tb tl (lo8 o)) ∧ u = [ro_rn h0 10 k1 t2, ra_N k1 cI 31 tb2])) := by
  refine skM_of pf_X10_add (Nat.le_of_ble_eq_true rfl) ?_
  intro p e s m below meth c A ls E hP hD hl
  refine skE_el E (fun hx hb hr hml hlocks hin hown hts hK hA => ?_)
  have hown : s.vm.findClass RX10 = some m.cls := hown
  have hS : va_S A s.heap s.heap [] := va_S.rf
  have hl : lv_has ls 2 [(0, .ref h0), (1, .int o)] := hl
  refine lv_aload_n hx hb dX10_add_0 rfl (lv_at hl 0 rfl) ?_
  refine sk_get (v := .int (nI tl)) (C := RX10) (T := TX10) (N := 2) hx hb hts inlX10 hown hK hP 0 rfl rfl 1 (Nat.le_of_ble_eq_true rfl) w_1_41 rfl dX10_add_1 ?_
  refine lv_aload_n hx hb dX10_add_4 rfl (lv_at hl 0 rfl) ?_
  refine sk_get (v := .ref k1) (C := RX10) (T := TX10) (N := 2) hx hb hts inlX10 hown hK hP 0 rfl rfl 0 (Nat.le_of_ble_eq_true rfl) w_1_39 rfl dX10_add_5 ?_
  refine va_alen (v := 31) hx hb hK.1 hP 1 0 rfl rfl rfl dX10_add_8 ?_
  refine lv_icmp_ge (tgt := 36) hx hb dX10_add_9 (by decide) (fun c_1 => ?_) (fun c_1 => ?_)
  · have c_1 : 31 ≤ tl := (nle 31 tl (Nat.le_of_ble_eq_true rfl) (by omega)).mp c_1
    exact sk_vret hx hb hr hlocks hK hP hD hS (⟨tl, tb, by omega, htb, (fun hq => absurd hq (by omega)), rfl⟩) (Nat.le_of_ble_eq_true rfl) (Nat.le_of_ble_eq_true rfl) dX10_add_36
  · have c_1 : ¬ (31 ≤ tl) := fun h => c_1 ((nle 31 tl (Nat.le_of_ble_eq_true rfl) (by omega)).mpr h)
    refine lv_aload_n hx hb dX10_add_12 rfl (lv_at hl 0 rfl) ?_
    refine sk_get (v := .ref k1) (C := RX10) (T := TX10) (N := 2) hx hb hts inlX10 hown hK hP 0 rfl rfl 0 (Nat.le_of_ble_eq_true rfl) w_1_39 rfl dX10_add_13 ?_
    refine lv_aload_n hx hb dX10_add_16 rfl (lv_at hl 0 rfl) ?_
    refine sk_get (v := .int (nI tl)) (C := RX10) (T := TX10) (N := 2) hx hb hts inlX10 hown hK hP 0 rfl rfl 1 (Nat.le_of_ble_eq_true rfl) w_1_41 rfl dX10_add_17 ?_
    refine lv_iload_n hx hb dX10_add_20 rfl (lv_at hl 1 rfl) ?_
    refine lv_sipush (v := 255) hx hb dX10_add_21 (by decide) ?_
    refine lv_iand hx hb dX10_add_24 ?_
    have hlo_2 := lo8_le o
    refine sk_top (nI (lo8 o)) (lo8_eq o) ?_
    refine sk_iastX (k := tl) (v := (lo8 o)) (B := 255) (ws' := fun f_3 => [ro_rn h0 10 k1 tl, ra_N k1 cI 31 f_3]) hx hb hK hP hD hS 1 0 rfl rfl (by omega) (by omega) htb (by omega) (fun _ => rfl) dX10_add_25 (fun f_3 H locs hf_4 ef_5 hP hD hS => ?_)
    refine lv_aload_n hx hb dX10_add_26 rfl (lv_at hl 0 rfl) ?_
    refine lv_dup hx hb dX10_add_27 rfl ?_
    refine sk_get (v := .int (nI tl)) (C := RX10) (T := TX10) (N := 2) hx hb hts inlX10 hown hK hP 0 rfl rfl 1 (Nat.le_of_ble_eq_true rfl) w_1_41 rfl dX10_add_28 ?_
    refine lv_iconst (v := 1) hx hb dX10_add_31 ic_1 ?_
    refine lv_iadd hx hb dX10_add_32 ?_
    refine sk_top (nI (tl + 1)) (nI_add tl 1) ?_
    refine sk_put (ws' := [ro_rn h0 10 k1 (tl + 1), ra_N k1 cI 31 f_3]) (C := RX10) (T := TX10) (N := 2) (v := .int (nI (tl + 1))) hx hb hts inlX10 tyX10 tyX10_ok nmX10 hown hK hP hD hS 0 rfl rfl 1 (Nat.le_of_ble_eq_true rfl) w_1_41 rfl rfl rfl (Nat.le_of_ble_eq_true rfl) rfl dX10_add_33 (fun H locs hP hD hS => ?_)
    exact sk_vret hx hb hr hlocks hK hP hD hS (⟨tl + 1, f_3, by omega, hf_4, (fun _ => ef_5), rfl⟩) (Nat.le_of_ble_eq_true rfl) (Nat.le_of_ble_eq_true rfl) dX10_add_36
set_option maxHeartbeats 4000000 in
set_option maxRecDepth 100000 in
theorem c_eTape_left_31 (l : Launch) (D : va_G) (cI cJ cC cZ cS : ClassId) (h0 : Nat) (k1 : Nat) (tl : Nat) (tb : Nat → Nat) (k : Nat) (htl : tl ≤ 31) (htb : ∀ j, tb j ≤ 255) (hk : k < 31) : skM l yX10_left cX10_left 2 (some .int) 0 0 0 0 D (skT cI cJ cC cZ cS) [.ref h0, .int (nI k)] [ro_rn h0 10 k1 tl, ra_N k1 cI 31 tb] (skI D (skT cI cJ cC cZ cS) (fun (r : Int32) (u : va_W) => tb k ≤ 255 ∧ r = nI (tb k) ∧ u = [ro_rn h0 10 k1 tl, ra_N k1 cI 31 tb])) := by
  refine skM_of pf_X10_left (Nat.le_of_ble_eq_true rfl) ?_
  intro p e s m below meth c A ls E hP hD hl
  refine skE_el E (fun hx hb hr hml hlocks hin hown hts hK hA => ?_)
  have hown : s.vm.findClass RX10 = some m.cls := hown
  have hS : va_S A s.heap s.heap [] := va_S.rf
  have hl : lv_has ls 2 [(0, .ref h0), (1, .int (nI k))] := hl
  refine lv_iload_n hx hb dX10_left_0 rfl (lv_at hl 1 rfl) ?_
  refine lv_if_lt (tgt := 22) hx hb dX10_left_1 (by decide) (fun c => absurd c (nI_pos (by omega))) (fun c_1 => ?_)
  refine lv_iload_n hx hb dX10_left_4 rfl (lv_at hl 1 rfl) ?_
  refine lv_aload_n hx hb dX10_left_5 rfl (lv_at hl 0 rfl) ?_
  refine sk_get (v := .ref k1) (C := RX10) (T := TX10) (N := 2) hx hb hts inlX10 hown hK hP 0 rfl rfl 0 (Nat.le_of_ble_eq_true rfl) w_1_39 rfl dX10_left_6 ?_
  refine va_alen (v := 31) hx hb hK.1 hP 1 0 rfl rfl rfl dX10_left_9 ?_
  refine lv_icmp_ge (tgt := 22) hx hb dX10_left_10 (by decide) (fun c => absurd c (fun h9 => absurd ((nle 31 k (Nat.le_of_ble_eq_true rfl) (by omega)).mp h9) (by omega))) (fun c_2 => ?_)
  refine lv_aload_n hx hb dX10_left_13 rfl (lv_at hl 0 rfl) ?_
  refine sk_get (v := .ref k1) (C := RX10) (T := TX10) (N := 2) hx hb hts inlX10 hown hK hP 0 rfl rfl 0 (Nat.le_of_ble_eq_true rfl) w_1_39 rfl dX10_left_14 ?_
  refine lv_iload_n hx hb dX10_left_17 rfl (lv_at hl 1 rfl) ?_
  refine va_iald hx hb hK.1 hP 1 0 rfl rfl (vin k 31 (by omega) (Nat.le_of_ble_eq_true rfl)) dX10_left_18 ?_
  refine sk_top (nI (tb k)) (nrd tb k (by omega)) ?_
  have hb_3 := htb k
  refine lv_goto (tgt := 23) hx hb dX10_left_19 (by decide) ?_
  exact sk_iret hx hb hr rfl hlocks hK hP hD hS (⟨htb k, rfl, rfl⟩) (Nat.le_of_ble_eq_true rfl) (Nat.le_of_ble_eq_true rfl) dX10_left_23
set_option maxHeartbeats 4000000 in
set_option maxRecDepth 100000 in
theorem c_eTape_checkOf_31 (l : Launch) (D : va_G) (cI cJ cC cZ cS : ClassId) (h0 : Nat) (k1 : Nat) (tl : Nat) (tb : Nat → Nat) (cn : Nat) (htl : tl ≤ 31) (htb : ∀ j, tb j ≤ 255) (hcn : cn ≤ 31) : skM l yX10_checkOf cX10_checkOf 4 (some .int) 1 21 0 0 D (skT cI cJ cC cZ cS) [.ref h0, .int (nI cn)] [ro_rn h0 10 k1 tl, ra_N k1 cI 31 tb] (skI D (skT cI cJ cC cZ cS) (fun (r : Int32) (u : va_W) => ∃ (ck2 : Nat), ck2 = chkN tb cn ∧ ck2 < 251 ∧ r = nI ck2 ∧ u = [ro_rn h0 10 k1 tl, ra_N k1 cI 31 tb])) := by
  refine skM_of pf_X10_checkOf (Nat.le_of_ble_eq_true rfl) ?_
  intro p e s m below meth c A ls E hP hD hl
  refine skE_el E (fun hx hb hr hml hlocks hin hown hts hK hA => ?_)
  have hown : s.vm.findClass RX10 = some m.cls := hown
  have hS : va_S A s.heap s.heap [] := va_S.rf
  have hl : lv_has ls 4 [(0, .ref h0), (1, .int (nI cn))] := hl
  refine lv_sipush (v := 139) hx hb dX10_checkOf_0 (by decide) ?_
  refine lv_istore_n (lv' := [(2, .int 139), (0, .ref h0), (1, .int (nI cn))]) hx hb dX10_checkOf_3 rfl hl (by decide) rfl (fun ls hl => ?_)
  refine lv_iconst (v := 0) hx hb dX10_checkOf_4 ic_0 ?_
  refine lv_istore_n (lv' := [(3, .int 0), (2, .int 139), (0, .ref h0), (1, .int (nI cn))]) hx hb dX10_checkOf_5 rfl hl (by decide) rfl (fun ls hl => ?_)
  have lp_1 : ∀ (n_2 : Nat) (i : Nat) (ck : Nat) (H : Heap) (locs : List Loc) (ls : Array Slot), cn - i < n_2 → (i ≤ cn) → (ck < 251) → (ck = chkN tb i) → va_P D vwCl [ro_rn h0 10 k1 tl, ra_N k1 cI 31 tb] H → va_D A [ro_rn h0 10 k1 tl, ra_N k1 cI 31 tb] → va_S A s.heap H locs → lv_has ls 4 [(3, .int (nI i)), (2, .int (nI ck)), (0, .ref h0), (1, .int (nI cn))] → W p l e { frames := 1, cells := 0, slots := 0, locals := 21 } s m ([.ref h0, .int (nI cn)] : List Value).toArray below meth c H locs 0 0 (MQ below (skI D (skT cI cJ cC cZ cS) (fun (r : Int32) (u : va_W) => ∃ (ck2 : Nat), ck2 = chkN tb cn ∧ ck2 < 251 ∧ r = nI ck2 ∧ u = [ro_rn h0 10 k1 tl, ra_N k1 cI 31 tb]) A) ([.ref h0, .int (nI cn)] : List Value).toArray s 0 0 A) (F0 m 6 ls []) := by
    intro n_2
    induction n_2 with
    | zero => intro i ck H locs ls hm; exact absurd hm (Nat.not_lt_zero _)
    | succ n_2 ih_lp_1 =>
      intro i ck H locs ls hm hi hc9 hci hP hD hS hl
      refine lv_iload_n hx hb dX10_checkOf_6 rfl (lv_at hl 0 rfl) ?_
      refine lv_iload_n hx hb dX10_checkOf_7 rfl (lv_at hl 3 rfl) ?_
      refine lv_icmp_ge (tgt := 31) hx hb dX10_checkOf_8 (by decide) (fun c_3 => ?_) (fun c_3 => ?_)
      · have c_3 : cn ≤ i := (nle cn i (by omega) (by omega)).mp c_3
        refine lv_iload_n hx hb dX10_checkOf_31 rfl (lv_at hl 1 rfl) ?_
        exact sk_iret hx hb hr rfl hlocks hK hP hD hS (⟨ck, (by rw [show cn = i by omega]; exact hci), hc9, rfl, rfl⟩) (Nat.le_of_ble_eq_true rfl) (Nat.le_of_ble_eq_true rfl) dX10_checkOf_32
      · have c_3 : ¬ (cn ≤ i) := fun h => c_3 ((nle cn i (by omega) (by omega)).mpr h)
        refine lv_iconst (v := 3) hx hb dX10_checkOf_11 ic_3 ?_
        refine lv_iload_n hx hb dX10_checkOf_12 rfl (lv_at hl 1 rfl) ?_
        refine lv_imul hx hb dX10_checkOf_13 ?_
        refine sk_top (nI (3 * ck)) (nmul 3 ck) ?_
        refine lv_aload_n hx hb dX10_checkOf_14 rfl (lv_at hl 2 rfl) ?_
        refine lv_iload_n hx hb dX10_checkOf_15 rfl (lv_at hl 0 rfl) ?_
        refine sk_Vi (q0 := 0) (n := 1) (rest := [.int (nI (3 * ck))]) (wr := fmR om_2_3 _) ⟨hx, hb, hml, hown, hts⟩ hl.1 (c_eTape_left_31 l D cI cJ cC cZ cS h0 k1 tl tb i htl htb (by omega)) w_5_132 w_4_215 w_4_216 w_1_2 w_4_217 hd_X10_left_1 ⟨⟨(Nat.le_of_ble_eq_true rfl), (Nat.le_of_ble_eq_true rfl)⟩, (Nat.le_of_ble_eq_true rfl), (Nat.le_of_ble_eq_true rfl)⟩ hK hP hD hS hA (fmT om_2_3 0) (fmF om_2_3 0) (fm_C1 rfl rfl) (fm_R rfl rfl) (fm_nT om_2_3 0) (fm_nF om_2_3 0) (fm_di om_2_3 0) rfl rfl rfl rfl (Nat.le_of_ble_eq_true rfl) dX10_checkOf_16 (fun r_4 u H locs hw hP hD hS => ?_)
        refine anE hw (fun hv_5 hw1 => anE hw1 (fun er_7 eu_6 => ?_))
        clear hw hw1
        subst er_7
        refine o_mgE (ws' := [ro_rn h0 10 k1 tl, ra_N k1 cI 31 tb]) eu_6 hP hD rfl (fun hP hD => ?_)
        refine lv_iadd hx hb dX10_checkOf_19 ?_
        refine sk_top (nI (3 * ck + (tb i))) (nI_add (3 * ck) (tb i)) ?_
        refine lv_sipush (v := 251) hx hb dX10_checkOf_20 (by decide) ?_
        refine lv_irem hx hb dX10_checkOf_23 (by decide) ?_
        refine sk_top (nI ((3 * ck + (tb i)) % 251)) (nrem (3 * ck + (tb i)) 251 (by omega) (by omega) (by omega)) ?_
        refine lv_istore_n (lv' := [(2, .int (nI ((3 * ck + (tb i)) % 251))), (3, .int (nI i)), (0, .ref h0), (1, .int (nI cn))]) hx hb dX10_checkOf_24 rfl hl (by decide) rfl (fun ls hl => ?_)
        refine lv_iinc (v := nI (i + 1)) (lv' := [(3, .int (nI (i + 1))), (2, .int (nI ((3 * ck + (tb i)) % 251))), (0, .ref h0), (1, .int (nI cn))]) hx hb dX10_checkOf_25 hl (k := 1) rfl (ninc i 1 (by decide)) (by decide) rfl (fun ls hl => ?_)
        refine lv_goto (tgt := 6) hx hb dX10_checkOf_28 (by decide) ?_
        exact ih_lp_1 (i + 1) ((3 * ck + (tb i)) % 251) _ _ _ (by omega) (by omega) (by omega) (by rw [chkN, ← hci]) hP hD hS (lv_sub hl [0, 1, 2, 3] rfl)
  exact lp_1 (cn - 0 + 1) 0 139 _ _ _ (Nat.lt_succ_self _) (by omega) (by omega) rfl hP hD hS (lv_sub hl [0, 1, 2, 3] rfl)
set_option maxHeartbeats 4000000 in
set_option maxRecDepth 100000 in
theorem c_eTape_addNumber (l : Launch) (D : va_G) (cI cJ cC cZ cS : ClassId) (h0 : Nat) (k1 : Nat) (tl : Nat) (tb : Nat → Nat) (o : Int32) (htl : tl ≤ 1600) (htb : ∀ j, tb j ≤ 255) : skM l yX10_addNumber cX10_addNumber 2 none 1 21 0 0 D (skT cI cJ cC cZ cS) [.ref h0, .int o] [ro_rn h0 10 k1 tl, ra_N k1 cI 1600 tb] (skV D (skT cI cJ cC cZ cS) (fun (u : va_W) => ∃ (t2 : Nat), ∃ (tb2 : Nat → Nat), ((tl ≤ 1596 → t2 = tl + 4)) ∧ t2 ≤ 1600 ∧ (∀ j, tb2 j ≤ 255) ∧ (tl ≤ 1596 → tb2 = add4 tb tl o) ∧ u = [ro_rn h0 10 k1 t2, ra_N k1 cI 1600 tb2])) := by
  refine skM_of pf_X10_addNumber (Nat.le_of_ble_eq_true rfl) ?_
  intro p e s m below meth c A ls E hP hD hl
  refine skE_el E (fun hx hb hr hml hlocks hin hown hts hK hA => ?_)
  have hown : s.vm.findClass RX10 = some m.cls := hown
  have hS : va_S A s.heap s.heap [] := va_S.rf
  have hl : lv_has ls 2 [(0, .ref h0), (1, .int o)] := hl
  refine lv_aload_n hx hb dX10_addNumber_0 rfl (lv_at hl 0 rfl) ?_
  refine lv_iload_n hx hb dX10_addNumber_1 rfl (lv_at hl 1 rfl) ?_
  refine lv_bipush (v := 24) hx hb dX10_addNumber_2 (by decide) ?_
  refine lv_iushr hx hb dX10_addNumber_4 rfl ?_
  refine sk_Vv (q0 := 0) (n := 1) (rest := []) (wr := fmR om_2_3 _) ⟨hx, hb, hml, hown, hts⟩ hl.1 (c_eTape_add_1600 l D cI cJ cC cZ cS h0 k1 tl tb (((o).toUInt32 >>> ((24 : Int32).toUInt32 &&& Int32.toUInt32 31)).toInt32) htl htb) w_2_190 w_2_191 w_2_192 w_1_2 w_2_193 hd_X10_add_1 ⟨⟨(Nat.le_of_ble_eq_true rfl), (Nat.le_of_ble_eq_true rfl)⟩, (Nat.le_of_ble_eq_true rfl), (Nat.le_of_ble_eq_true rfl)⟩ hK hP hD hS hA (fmT om_2_3 0) (fmF om_2_3 0) (fm_C1 rfl rfl) (fm_R rfl rfl) (fm_nT om_2_3 0) (fm_nF om_2_3 0) (fm_di om_2_3 0) rfl rfl rfl rfl (Nat.le_of_ble_eq_true rfl) dX10_addNumber_5 (fun u H locs hw hP hD hS => ?_)
  refine exE hw (fun t2_1 hw1 => exE hw1 (fun tb2_2 hw2 => anE hw2 (fun ht2_3 hw3 => anE hw3 (fun htb2_4 hw4 => anE hw4 (fun hup_5 eu_6 => ?_)))))
  clear hw hw1 hw2 hw3 hw4
  refine o_mgE (ws' := [ro_rn h0 10 k1 t2_1, ra_N k1 cI 1600 tb2_2]) eu_6 hP hD rfl (fun hP hD => ?_)
  refine lv_aload_n hx hb dX10_addNumber_8 rfl (lv_at hl 0 rfl) ?_
  refine lv_iload_n hx hb dX10_addNumber_9 rfl (lv_at hl 1 rfl) ?_
  refine lv_bipush (v := 16) hx hb dX10_addNumber_10 (by decide) ?_
  refine lv_iushr hx hb dX10_addNumber_12 rfl ?_
  refine sk_Vv (q0 := 0) (n := 1) (rest := []) (wr := fmR om_2_3 _) ⟨hx, hb, hml, hown, hts⟩ hl.1 (c_eTape_add_1600 l D cI cJ cC cZ cS h0 k1 t2_1 tb2_2 (((o).toUInt32 >>> ((16 : Int32).toUInt32 &&& Int32.toUInt32 31)).toInt32) (by omega) htb2_4) w_2_190 w_2_191 w_2_192 w_1_2 w_2_193 hd_X10_add_1 ⟨⟨(Nat.le_of_ble_eq_true rfl), (Nat.le_of_ble_eq_true rfl)⟩, (Nat.le_of_ble_eq_true rfl), (Nat.le_of_ble_eq_true rfl)⟩ hK hP hD hS hA (fmT om_2_3 0) (fmF om_2_3 0) (fm_C1 rfl rfl) (fm_R rfl rfl) (fm_nT om_2_3 0) (fm_nF om_2_3 0) (fm_di om_2_3 0) rfl rfl rfl rfl (Nat.le_of_ble_eq_true rfl) dX10_addNumber_13 (fun u H locs hw hP hD hS => ?_)
  refine exE hw (fun t2_7 hw1 => exE hw1 (fun tb2_8 hw2 => anE hw2 (fun ht2_9 hw3 => anE hw3 (fun htb2_10 hw4 => anE hw4 (fun hup_11 eu_12 => ?_)))))
  clear hw hw1 hw2 hw3 hw4
  refine o_mgE (ws' := [ro_rn h0 10 k1 t2_7, ra_N k1 cI 1600 tb2_8]) eu_12 hP hD rfl (fun hP hD => ?_)
  refine lv_aload_n hx hb dX10_addNumber_16 rfl (lv_at hl 0 rfl) ?_
  refine lv_iload_n hx hb dX10_addNumber_17 rfl (lv_at hl 1 rfl) ?_
  refine lv_bipush (v := 8) hx hb dX10_addNumber_18 (by decide) ?_
  refine lv_iushr hx hb dX10_addNumber_20 rfl ?_
  refine sk_Vv (q0 := 0) (n := 1) (rest := []) (wr := fmR om_2_3 _) ⟨hx, hb, hml, hown, hts⟩ hl.1 (c_eTape_add_1600 l D cI cJ cC cZ cS h0 k1 t2_7 tb2_8 (((o).toUInt32 >>> ((8 : Int32).toUInt32 &&& Int32.toUInt32 31)).toInt32) (by omega) htb2_10) w_2_190 w_2_191 w_2_192 w_1_2 w_2_193 hd_X10_add_1 ⟨⟨(Nat.le_of_ble_eq_true rfl), (Nat.le_of_ble_eq_true rfl)⟩, (Nat.le_of_ble_eq_true rfl), (Nat.le_of_ble_eq_true rfl)⟩ hK hP hD hS hA (fmT om_2_3 0) (fmF om_2_3 0) (fm_C1 rfl rfl) (fm_R rfl rfl) (fm_nT om_2_3 0) (fm_nF om_2_3 0) (fm_di om_2_3 0) rfl rfl rfl rfl (Nat.le_of_ble_eq_true rfl) dX10_addNumber_21 (fun u H locs hw hP hD hS => ?_)
  refine exE hw (fun t2_13 hw1 => exE hw1 (fun tb2_14 hw2 => anE hw2 (fun ht2_15 hw3 => anE hw3 (fun htb2_16 hw4 => anE hw4 (fun hup_17 eu_18 => ?_)))))
  clear hw hw1 hw2 hw3 hw4
  refine o_mgE (ws' := [ro_rn h0 10 k1 t2_13, ra_N k1 cI 1600 tb2_14]) eu_18 hP hD rfl (fun hP hD => ?_)
  refine lv_aload_n hx hb dX10_addNumber_24 rfl (lv_at hl 0 rfl) ?_
  refine lv_iload_n hx hb dX10_addNumber_25 rfl (lv_at hl 1 rfl) ?_
  refine sk_Vv (q0 := 0) (n := 1) (rest := []) (wr := fmR om_2_3 _) ⟨hx, hb, hml, hown, hts⟩ hl.1 (c_eTape_add_1600 l D cI cJ cC cZ cS h0 k1 t2_13 tb2_14 o (by omega) htb2_16) w_2_190 w_2_191 w_2_192 w_1_2 w_2_193 hd_X10_add_1 ⟨⟨(Nat.le_of_ble_eq_true rfl), (Nat.le_of_ble_eq_true rfl)⟩, (Nat.le_of_ble_eq_true rfl), (Nat.le_of_ble_eq_true rfl)⟩ hK hP hD hS hA (fmT om_2_3 0) (fmF om_2_3 0) (fm_C1 rfl rfl) (fm_R rfl rfl) (fm_nT om_2_3 0) (fm_nF om_2_3 0) (fm_di om_2_3 0) rfl rfl rfl rfl (Nat.le_of_ble_eq_true rfl) dX10_addNumber_26 (fun u H locs hw hP hD hS => ?_)
  refine exE hw (fun t2_19 hw1 => exE hw1 (fun tb2_20 hw2 => anE hw2 (fun ht2_21 hw3 => anE hw3 (fun htb2_22 hw4 => anE hw4 (fun hup_23 eu_24 => ?_)))))
  clear hw hw1 hw2 hw3 hw4
  refine o_mgE (ws' := [ro_rn h0 10 k1 t2_19, ra_N k1 cI 1600 tb2_20]) eu_24 hP hD rfl (fun hP hD => ?_)
  exact sk_vret hx hb hr hlocks hK hP hD hS (⟨t2_19, tb2_20, by omega, by omega, htb2_22, (fun hq => by rw [hup_23 (by omega), hup_17 (by omega), hup_11 (by omega), hup_5 (by omega), by_24, by_16, by_8, by_0 o, show t2_1 = tl + 1 by omega, show t2_7 = tl + 2 by omega, show t2_13 = tl + 3 by omega]; rfl), rfl⟩) (Nat.le_of_ble_eq_true rfl) (Nat.le_of_ble_eq_true rfl) dX10_addNumber_29
/-! tests: signs, words, what is read -/
def wNot : List Nat := [110, 111, 116]
def wAnd : List Nat := [97, 110, 100]
def wOr : List Nat := [111, 114]
def wAll : List Nat := [97, 108, 108]
theorem tok275 {tb : Nat → Nat} {n : Nat} {c : Cur} (htb : ∀ j, tb j ≤ 255) : tokOf tb n c = 275 ↔ isW tb n wNot c = true := tok_W (k := 19) htb (by decide)
theorem tok274 {tb : Nat → Nat} {n : Nat} {c : Cur} (htb : ∀ j, tb j ≤ 255) : tokOf tb n c = 274 ↔ isW tb n wAnd c = true := tok_W (k := 18) htb (by decide)
theorem tok273 {tb : Nat → Nat} {n : Nat} {c : Cur} (htb : ∀ j, tb j ≤ 255) : tokOf tb n c = 273 ↔ isW tb n wOr c = true := tok_W (k := 17) htb (by decide)
theorem tok276 {tb : Nat → Nat} {n : Nat} {c : Cur} (htb : ∀ j, tb j ≤ 255) : tokOf tb n c = 276 ↔ isW tb n wAll c = true := tok_W (k := 20) htb (by decide)
theorem tok91 {tb : Nat → Nat} {n : Nat} {c : Cur} (htb : ∀ j, tb j ≤ 255) : tokOf tb n c = 91 ↔ isS tb n 91 c = true := tok_S (b := 91) htb (by decide)
theorem tok60 {tb : Nat → Nat} {n : Nat} {c : Cur} (htb : ∀ j, tb j ≤ 255) : tokOf tb n c = 60 ↔ isS tb n 60 c = true := tok_S (b := 60) htb (by decide)
theorem tok61 {tb : Nat → Nat} {n : Nat} {c : Cur} (htb : ∀ j, tb j ≤ 255) : tokOf tb n c = 61 ↔ isS tb n 61 c = true := tok_S (b := 61) htb (by decide)
theorem tok62 {tb : Nat → Nat} {n : Nat} {c : Cur} (htb : ∀ j, tb j ≤ 255) : tokOf tb n c = 62 ↔ isS tb n 62 c = true := tok_S (b := 62) htb (by decide)
theorem tk93 {tb : Nat → Nat} {n : Nat} (htb : ∀ j, tb j ≤ 255) : tkF tb n 93 = signP tb n 93 := tkF_sign (b := 93) htb (by decide)
def andR (tb : Nat → Nat) (n : Nat) (F : Cur → Res) : Nat → Cur → List Nat → Res
  | 0, _, _ => .error (0, 0)
  | f + 1, c, k => if isW tb n wAnd c = true then bindR (F (nx tb n c.1)) (fun r => andR tb n F f r.1 (k ++ r.2 ++ [10])) else .ok (c, k)
def bothR (tb : Nat → Nat) (n : Nat) (F : Cur → Res) (c : Cur) : Res := bindR (F c) (fun r => andR tb n F (n + 2) r.1 r.2)
def orR (tb : Nat → Nat) (n : Nat) (F : Cur → Res) : Nat → Cur → List Nat → Res
  | 0, _, _ => .error (0, 0)
  | f + 1, c, k => if isW tb n wOr c = true then bindR (bothR tb n F (nx tb n c.1)) (fun r => orR tb n F f r.1 (k ++ r.2 ++ [11])) else .ok (c, k)
def testR (tb : Nat → Nat) (n : Nat) (F : Cur → Res) (c : Cur) : Res := bindR (bothR tb n F c) (fun r => orR tb n F (n + 2) r.1 r.2)
def relV (tb : Nat → Nat) (n : Nat) (c : Cur) : Option Nat := if isS tb n 60 c = true then some 7 else if isS tb n 62 c = true then some 8 else if isS tb n 61 c = true then some 9 else none
def relB (tb : Nat → Nat) (n d : Nat) (r : Cur × List Nat) : Res := match relV tb n r.1 with
  | some v => bindR (sumOf tb n (rdPart tb n 2 d) (nx tb n r.1.1)) (fun q => .ok (q.1, r.2 ++ q.2 ++ [v]))
  | none => .error (1, r.1.1)
def relR (tb : Nat → Nat) (n d : Nat) (c : Cur) : Res := bindR (sumOf tb n (rdPart tb n 2 d) c) (relB tb n d)
def fcB (tb : Nat → Nat) (n d : Nat) (Q : Option (Cur → Res)) (c : Cur) : Res :=
  if isW tb n wNot c = true then
    (match Q with
     | none => .error (4, c.1)
     | some F => bindR (F (nx tb n c.1)) (fun r => .ok (r.1, r.2 ++ [12])))
  else if isS tb n 91 c = true then
    (match Q with
     | none => .error (4, c.1)
     | some F => bindR (testR tb n F (nx tb n c.1)) (fun r => bindR (signP tb n 93 r.1) (fun c1 => .ok (c1, r.2))))
  else if isW tb n wAll c = true then .ok (nx tb n c.1, [13])
  else relR tb n d c
def fcR (tb : Nat → Nat) (n : Nat) : Nat → Cur → Res
  | 0, c => fcB tb n 0 none c
  | d + 1, c => fcB tb n (d + 1) (some (fcR tb n d)) c
/-! they never go back -/
theorem andR_mono {tb : Nat → Nat} {n : Nat} {F : Cur → Res} (hF : mono F) : ∀ f c k r, andR tb n F f c k = .ok r → c.1 ≤ r.1.1
  | 0, c, k, r, h => by cases h
  | f + 1, c, k, r, h => by
    rw [andR] at h
    split at h
    · next hs =>
      have hn := nx_gt (tb := tb) (isW_lt hs)
      obtain ⟨a, h1, h2⟩ := bindR_ok h
      have b1 := hF _ _ h1
      have b2 := andR_mono hF f _ _ _ h2
      omega
    · cases h; exact Nat.le_refl _
theorem bothR_mono {tb : Nat → Nat} {n : Nat} {F : Cur → Res} (hF : mono F) : mono (bothR tb n F) := by
  intro c r h
  obtain ⟨a, h1, h2⟩ := bindR_ok h
  have b1 := hF _ _ h1
  have b2 := andR_mono hF _ _ _ _ h2
  omega
theorem orR_mono {tb : Nat → Nat} {n : Nat} {F : Cur → Res} (hF : mono F) : ∀ f c k r, orR tb n F f c k = .ok r → c.1 ≤ r.1.1
  | 0, c, k, r, h => by cases h
  | f + 1, c, k, r, h => by
    rw [orR] at h
    split at h
    · next hs =>
      have hn := nx_gt (tb := tb) (isW_lt hs)
      obtain ⟨a, h1, h2⟩ := bindR_ok h
      have b1 := bothR_mono hF _ _ h1
      have b2 := orR_mono hF f _ _ _ h2
      omega
    · cases h; exact Nat.le_refl _
theorem testR_mono {tb : Nat → Nat} {n : Nat} {F : Cur → Res} (hF : mono F) : mono (testR tb n F) := by
  intro c r h
  obtain ⟨a, h1, h2⟩ := bindR_ok h
  have b1 := bothR_mono hF _ _ h1
  have b2 := orR_mono hF _ _ _ _ h2
  omega
theorem relR_mono {tb : Nat → Nat} {n d : Nat} : mono (relR tb n d) := by
  intro c r h
  obtain ⟨a, h1, h2⟩ := bindR_ok h
  have b1 := sumOf_mono rdPart_mono _ _ h1
  unfold relB at h2
  split at h2
  · obtain ⟨q, h3, h4⟩ := bindR_ok h2
    cases h4
    have b2 := sumOf_mono rdPart_mono _ _ h3
    have b3 := nx_ge tb n a.1.1
    show c.1 ≤ q.1.1
    omega
  · cases h2
theorem fcB_mono {tb : Nat → Nat} {n d : Nat} {Q : Option (Cur → Res)} (hQ : ∀ F, Q = some F → mono F) : mono (fcB tb n d Q) := by
  intro c r h
  unfold fcB at h
  have hg := nx_ge tb n c.1
  split at h
  · cases Q with
    | none => cases h
    | some F =>
      obtain ⟨a, h1, h2⟩ := bindR_ok h
      cases h2
      have b1 := hQ F rfl _ _ h1
      show c.1 ≤ a.1.1
      omega
  · split at h
    · cases Q with
      | none => cases h
      | some F =>
        obtain ⟨a, h1, h2⟩ := bindR_ok h
        obtain ⟨c1, h3, h4⟩ := bindR_ok h2
        cases h4
        have b1 := testR_mono (hQ F rfl) _ _ h1
        have b2 := (signP_ok h3).2.2
        show c.1 ≤ c1.1
        omega
    · split at h
      · cases h; exact hg
      · exact relR_mono _ _ h
theorem fcR_mono {tb : Nat → Nat} {n : Nat} : ∀ d, mono (fcR tb n d)
  | 0 => fun c r h => fcB_mono (Q := none) (fun F hF => by cases hF) c r h
  | d + 1 => fun c r h => fcB_mono (Q := some (fcR tb n d)) (fun F hF => by cases hF; exact fcR_mono d) c r h
/-! enough rounds are enough -/
theorem andR_fuel {tb : Nat → Nat} {n : Nat} {F : Cur → Res} (hF : mono F) : ∀ f g c k, n < f + c.1 → n < g + c.1 → 1 ≤ f → 1 ≤ g → andR tb n F f c k = andR tb n F g c k
  | 0, g, c, k, _, _, h, _ => absurd h (by omega)
  | f + 1, 0, c, k, _, _, _, h => absurd h (by omega)
  | f + 1, g + 1, c, k, h1, h2, _, _ => by
    rw [andR, andR]
    split
    · next hs =>
      have hl := isW_lt hs
      have hn := nx_gt (tb := tb) hl
      refine bindR_congr _ (fun a ha => ?_)
      have h3 := hF _ _ ha
      exact andR_fuel hF f g _ _ (by omega) (by omega) (by omega) (by omega)
    · rfl
theorem orR_fuel {tb : Nat → Nat} {n : Nat} {F : Cur → Res} (hF : mono F) : ∀ f g c k, n < f + c.1 → n < g + c.1 → 1 ≤ f → 1 ≤ g → orR tb n F f c k = orR tb n F g c k
  | 0, g, c, k, _, _, h, _ => absurd h (by omega)
  | f + 1, 0, c, k, _, _, _, h => absurd h (by omega)
  | f + 1, g + 1, c, k, h1, h2, _, _ => by
    rw [orR, orR]
    split
    · next hs =>
      have hl := isW_lt hs
      have hn := nx_gt (tb := tb) hl
      refine bindR_congr _ (fun a ha => ?_)
      have h3 := bothR_mono hF _ _ ha
      exact orR_fuel hF f g _ _ (by omega) (by omega) (by omega) (by omega)
    · rfl
theorem andR_stop {tb : Nat → Nat} {n : Nat} {F : Cur → Res} {f : Nat} {c : Cur} {k : List Nat} (h : ¬ isW tb n wAnd c = true) : andR tb n F (f + 1) c k = .ok (c, k) := by rw [andR, if_neg h]
theorem orR_stop {tb : Nat → Nat} {n : Nat} {F : Cur → Res} {f : Nat} {c : Cur} {k : List Nat} (h : ¬ isW tb n wOr c = true) : orR tb n F (f + 1) c k = .ok (c, k) := by rw [orR, if_neg h]
theorem andR_pre {tb : Nat → Nat} {n : Nat} {F : Cur → Res} (k : List Nat) : ∀ f c q, andR tb n F f c (k ++ q) = bindR (andR tb n F f c q) (fun r => .ok (r.1, k ++ r.2))
  | 0, c, q => rfl
  | f + 1, c, q => by
    rw [andR, andR]
    split
    · rw [bindR_assoc]
      refine bindR_congr _ (fun a _ => ?_)
      rw [← andR_pre k f, List.append_assoc, List.append_assoc, List.append_assoc]
    · rfl
theorem orR_pre {tb : Nat → Nat} {n : Nat} {F : Cur → Res} (k : List Nat) : ∀ f c q, orR tb n F f c (k ++ q) = bindR (orR tb n F f c q) (fun r => .ok (r.1, k ++ r.2))
  | 0, c, q => rfl
  | f + 1, c, q => by
    rw [orR, orR]
    split
    · rw [bindR_assoc]
      refine bindR_congr _ (fun a _ => ?_)
      rw [← orR_pre k f, List.append_assoc, List.append_assoc, List.append_assoc]
    · rfl
/-! no more steps than bytes -/
theorem andR_len {tb : Nat → Nat} {n : Nat} {F : Cur → Res} (hF : lenP F) : ∀ f c k r, andR tb n F f c k = .ok r → r.2.length + c.1 ≤ r.1.1 + k.length
  | 0, c, k, r, h => by cases h
  | f + 1, c, k, r, h => by
    rw [andR] at h
    split at h
    · next hs =>
      have hn := nx_gt (tb := tb) (isW_lt hs)
      obtain ⟨a, h1, h2⟩ := bindR_ok h
      have b1 := hF _ _ h1
      have b2 := andR_len hF f _ _ _ h2
      rw [List.length_append, List.length_append, List.length_singleton] at b2
      omega
    · cases h; show k.length + c.1 ≤ c.1 + k.length; omega
theorem len_both {tb : Nat → Nat} {n : Nat} {F : Cur → Res} (hF : lenP F) : lenP (bothR tb n F) := fun c q h => by
  obtain ⟨a, h1, h2⟩ := bindR_ok h
  have b1 := hF _ _ h1
  have b2 := andR_len hF _ _ _ _ h2
  omega
theorem orR_len {tb : Nat → Nat} {n : Nat} {F : Cur → Res} (hF : lenP F) : ∀ f c k r, orR tb n F f c k = .ok r → r.2.length + c.1 ≤ r.1.1 + k.length
  | 0, c, k, r, h => by cases h
  | f + 1, c, k, r, h => by
    rw [orR] at h
    split at h
    · next hs =>
      have hn := nx_gt (tb := tb) (isW_lt hs)
      obtain ⟨a, h1, h2⟩ := bindR_ok h
      have b1 := len_both hF _ _ h1
      have b2 := orR_len hF f _ _ _ h2
      rw [List.length_append, List.length_append, List.length_singleton] at b2
      omega
    · cases h; show k.length + c.1 ≤ c.1 + k.length; omega
theorem len_test {tb : Nat → Nat} {n : Nat} {F : Cur → Res} (hF : lenP F) : lenP (testR tb n F) := fun c q h => by
  obtain ⟨a, h1, h2⟩ := bindR_ok h
  have b1 := len_both hF _ _ h1
  have b2 := orR_len hF _ _ _ _ h2
  omega
theorem relV_lt {tb : Nat → Nat} {n v : Nat} {c : Cur} (h : relV tb n c = some v) : c.1 < n := by
  unfold relV at h
  split at h
  · next hs => exact (isS_lt hs).1
  · split at h
    · next hs => exact (isS_lt hs).1
    · split at h
      · next hs => exact (isS_lt hs).1
      · cases h
theorem len_rel {tb : Nat → Nat} {n d : Nat} : lenP (relR tb n d) := fun c q h => by
  obtain ⟨a, h1, h2⟩ := bindR_ok h
  have b1 := len_sum (len_part d) _ _ h1
  unfold relB at h2
  split at h2
  · next v hv =>
    obtain ⟨z, h3, h4⟩ := bindR_ok h2
    cases h4
    have b2 := len_sum (len_part d) _ _ h3
    have b3 := nx_gt (tb := tb) (relV_lt hv)
    show (a.2 ++ z.2 ++ [v]).length + c.1 ≤ z.1.1
    rw [List.length_append, List.length_append, List.length_singleton]
    omega
  · cases h2
theorem len_fcB {tb : Nat → Nat} {n d : Nat} {Q : Option (Cur → Res)} (hQ : ∀ F, Q = some F → lenP F) : lenP (fcB tb n d Q) := fun c r h => by
  unfold fcB at h
  split at h
  · next hw =>
    have hn := nx_gt (tb := tb) (isW_lt hw)
    cases Q with
    | none => cases h
    | some F =>
      obtain ⟨a, h1, h2⟩ := bindR_ok h
      cases h2
      have b1 := hQ F rfl _ _ h1
      show (a.2 ++ [12]).length + c.1 ≤ a.1.1
      rw [List.length_append, List.length_singleton]
      omega
  · split at h
    · next hs =>
      have hn := nx_gt (tb := tb) (isS_lt hs).1
      cases Q with
      | none => cases h
      | some F =>
        obtain ⟨a, h1, h2⟩ := bindR_ok h
        obtain ⟨c1, h3, h4⟩ := bindR_ok h2
        cases h4
        have b1 := len_test (hQ F rfl) _ _ h1
        have b2 := (signP_ok h3).2.2
        show a.2.length + c.1 ≤ c1.1
        omega
    · split at h
      · next hw =>
        have hn := nx_gt (tb := tb) (isW_lt hw)
        cases h
        show 1 + c.1 ≤ (nx tb n c.1).1
        omega
      · exact len_rel _ _ h
theorem len_fc {tb : Nat → Nat} {n : Nat} : ∀ d, lenP (fcR tb n d)
  | 0 => fun c r h => len_fcB (Q := none) (fun F hF => by cases hF) c r h
  | d + 1 => fun c r h => len_fcB (Q := some (fcR tb n d)) (fun F hF => by cases hF; exact len_fc d) c r h
/-! a fact, by its token -/
theorem fB_not {tb : Nat → Nat} {n d : Nat} {c : Cur} (htb : ∀ j, tb j ≤ 255) (h : tokOf tb n c = 275) : fcR tb n (d + 1) c = bindR (fcR tb n d (nx tb n c.1)) (fun r => .ok (r.1, r.2 ++ [12])) := by
  rw [fcR, fcB, if_pos ((tok275 htb).mp h)]
theorem fB_not0 {tb : Nat → Nat} {n : Nat} {c : Cur} (htb : ∀ j, tb j ≤ 255) (h : tokOf tb n c = 275) : fcR tb n 0 c = .error (4, c.1) := by
  rw [fcR, fcB, if_pos ((tok275 htb).mp h)]
theorem t_noN {tb : Nat → Nat} {n : Nat} {c : Cur} (htb : ∀ j, tb j ≤ 255) {w : Int32} (h : tokOf tb n c = w) (hw : ¬ w = 275) : ¬ isW tb n wNot c = true := fun q => hw (h.symm.trans ((tok275 htb).mpr q))
theorem fB_sq {tb : Nat → Nat} {n d : Nat} {c : Cur} (htb : ∀ j, tb j ≤ 255) (h : tokOf tb n c = 91) : fcR tb n (d + 1) c = bindR (testR tb n (fcR tb n d) (nx tb n c.1)) (fun r => bindR (signP tb n 93 r.1) (fun c1 => .ok (c1, r.2))) := by
  rw [fcR, fcB, if_neg (t_noN htb h (by decide)), if_pos ((tok91 htb).mp h)]
theorem fB_sq0 {tb : Nat → Nat} {n : Nat} {c : Cur} (htb : ∀ j, tb j ≤ 255) (h : tokOf tb n c = 91) : fcR tb n 0 c = .error (4, c.1) := by
  rw [fcR, fcB, if_neg (t_noN htb h (by decide)), if_pos ((tok91 htb).mp h)]
theorem fcR_B (tb : Nat → Nat) (n d : Nat) (c : Cur) : ∃ Q, fcR tb n d c = fcB tb n d Q c := by
  cases d with
  | zero => exact ⟨none, rfl⟩
  | succ d => exact ⟨some (fcR tb n d), rfl⟩
theorem fB_all {tb : Nat → Nat} {n d : Nat} {c : Cur} (htb : ∀ j, tb j ≤ 255) (h : tokOf tb n c = 276) : fcR tb n d c = .ok (nx tb n c.1, [13]) := by
  obtain ⟨Q, e⟩ := fcR_B tb n d c
  rw [e]
  unfold fcB
  rw [if_neg (t_noN htb h (by decide)), if_neg (fun q => absurd (h.symm.trans ((tok91 htb).mpr q)) (by decide)), if_pos ((tok276 htb).mp h)]
theorem fB_rel {tb : Nat → Nat} {n d : Nat} {c : Cur} (htb : ∀ j, tb j ≤ 255) (h1 : ¬ tokOf tb n c = 275) (h2 : ¬ tokOf tb n c = 91) (h3 : ¬ tokOf tb n c = 276) : fcR tb n d c = relR tb n d c := by
  obtain ⟨Q, e⟩ := fcR_B tb n d c
  rw [e]
  unfold fcB
  rw [if_neg (fun q => h1 ((tok275 htb).mpr q)), if_neg (fun q => h2 ((tok91 htb).mpr q)), if_neg (fun q => h3 ((tok276 htb).mpr q))]
def relT (t : Int32) (v : Nat) : Prop := (t = 60 ∧ v = 7) ∨ (t = 62 ∧ v = 8) ∨ (t = 61 ∧ v = 9)
theorem relT_real {t : Int32} {v : Nat} (h : relT t v) : ¬ t = -1 ∧ ¬ t = -2 := by
  rcases h with ⟨h, -⟩ | ⟨h, -⟩ | ⟨h, -⟩ <;> (rw [h]; decide)
theorem relV_some {tb : Nat → Nat} {n v : Nat} {c : Cur} (htb : ∀ j, tb j ≤ 255) (h : relT (tokOf tb n c) v) : relV tb n c = some v := by
  unfold relV
  rcases h with ⟨h, e⟩ | ⟨h, e⟩ | ⟨h, e⟩
  · rw [if_pos ((tok60 htb).mp h), e]
  · rw [if_neg (fun q => absurd (h.symm.trans ((tok60 htb).mpr q)) (by decide)), if_pos ((tok62 htb).mp h), e]
  · rw [if_neg (fun q => absurd (h.symm.trans ((tok60 htb).mpr q)) (by decide)), if_neg (fun q => absurd (h.symm.trans ((tok62 htb).mpr q)) (by decide)), if_pos ((tok61 htb).mp h), e]
theorem relV_none {tb : Nat → Nat} {n : Nat} {c : Cur} (htb : ∀ j, tb j ≤ 255) (h1 : ¬ tokOf tb n c = 60) (h2 : ¬ tokOf tb n c = 62) (h3 : ¬ tokOf tb n c = 61) : relV tb n c = none := by
  unfold relV
  rw [if_neg (fun q => h1 ((tok60 htb).mpr q)), if_neg (fun q => h2 ((tok62 htb).mpr q)), if_neg (fun q => h3 ((tok61 htb).mpr q))]
/-! what the class does with a fact is the fact -/
theorem op_ok {tb : Nat → Nat} {n xo : Nat} {w : Int32} {r : Cur × List Nat} (ht : tokOf tb n r.1 = w) (hx : xo < 6) : bd (.ok r) (opF tb n w xo) = .ok (nx tb n r.1.1, r.2) := by
  show bindR (opF tb n w xo r.1) _ = _
  unfold opF; rw [if_pos ht, if_pos hx]; rfl
theorem f_not {tb : Nat → Nat} {n d xo : Nat} {o : Res} {xa : Nat} {xv xt : Int32} {xz : Nat} {xf xp : Int32} {cl mw : Nat} {f : Nat → Int32} (htb : ∀ j, tb j ≤ 255) (h : rsO tb n o xa xv xt xz xf xp cl mw f) (e : xt = 275) (hx : xo < 6) (hd : 1 ≤ d) : ad (bindR (bd o (opF tb n 275 xo)) (apF (fcR tb n (d - 1)))) 12 = bindR o (apF (fcR tb n d)) := by
  obtain ⟨d, rfl⟩ : ∃ m, d = m + 1 := ⟨d - 1, by omega⟩
  rw [Nat.add_sub_cancel]
  cases o with
  | error e => rfl
  | ok r =>
    have ht := (rs_t h rfl).symm.trans e
    rw [op_ok ht hx]
    show bindR (bindR (fcR tb n d (nx tb n r.1.1)) _) _ = bindR (fcR tb n (d + 1) r.1) _
    rw [fB_not htb ht, bindR_assoc, bindR_assoc]
    refine bindR_congr _ (fun a _ => ?_)
    show Except.ok (a.1, (r.2 ++ a.2) ++ [12]) = Except.ok (a.1, r.2 ++ (a.2 ++ [12]))
    rw [List.append_assoc]
theorem f_not0 {tb : Nat → Nat} {n d xo : Nat} {o : Res} {xa : Nat} {xv xt : Int32} {xz : Nat} {xf xp : Int32} {cl mw : Nat} {f : Nat → Int32} (htb : ∀ j, tb j ≤ 255) (h : rsO tb n o xa xv xt xz xf xp cl mw f) (e : xt = 275) (hx : xo = 6) (hd : d = 0) : bd o (opF tb n 275 xo) = bindR o (apF (fcR tb n d)) := by
  subst hd
  cases o with
  | error e => rfl
  | ok r =>
    have ht := (rs_t h rfl).symm.trans e
    show bindR (opF tb n 275 xo r.1) _ = bindR (fcR tb n 0 r.1) _
    unfold opF; rw [if_pos ht, if_neg (by omega), fB_not0 htb ht]; rfl
theorem f_sq {tb : Nat → Nat} {n d xo : Nat} {o : Res} {xa : Nat} {xv xt : Int32} {xz : Nat} {xf xp : Int32} {cl mw : Nat} {f : Nat → Int32} (htb : ∀ j, tb j ≤ 255) (h : rsO tb n o xa xv xt xz xf xp cl mw f) (e : xt = 91) (hx : xo < 6) (hd : 1 ≤ d) : bd (bindR (bd o (opF tb n 91 xo)) (apF (testR tb n (fcR tb n (d - 1))))) (tkF tb n 93) = bindR o (apF (fcR tb n d)) := by
  obtain ⟨d, rfl⟩ : ∃ m, d = m + 1 := ⟨d - 1, by omega⟩
  rw [Nat.add_sub_cancel]
  cases o with
  | error e => rfl
  | ok r =>
    have ht := (rs_t h rfl).symm.trans e
    rw [op_ok ht hx, tk93 htb]
    show bindR (bindR (testR tb n (fcR tb n d) (nx tb n r.1.1)) _) _ = bindR (fcR tb n (d + 1) r.1) _
    rw [fB_sq htb ht, bindR_assoc, bindR_assoc]
    refine bindR_congr _ (fun a _ => ?_)
    show bindR (signP tb n 93 a.1) _ = bindR (bindR (signP tb n 93 a.1) _) _
    rw [bindR_assoc]
    rfl
theorem f_sq0 {tb : Nat → Nat} {n d xo : Nat} {o : Res} {xa : Nat} {xv xt : Int32} {xz : Nat} {xf xp : Int32} {cl mw : Nat} {f : Nat → Int32} (htb : ∀ j, tb j ≤ 255) (h : rsO tb n o xa xv xt xz xf xp cl mw f) (e : xt = 91) (hx : xo = 6) (hd : d = 0) : bd o (opF tb n 91 xo) = bindR o (apF (fcR tb n d)) := by
  subst hd
  cases o with
  | error e => rfl
  | ok r =>
    have ht := (rs_t h rfl).symm.trans e
    show bindR (opF tb n 91 xo r.1) _ = bindR (fcR tb n 0 r.1) _
    unfold opF; rw [if_pos ht, if_neg (by omega), fB_sq0 htb ht]; rfl
theorem f_all {tb : Nat → Nat} {n d : Nat} {o : Res} {xa : Nat} {xv xt : Int32} {xz : Nat} {xf xp : Int32} {cl mw : Nat} {f : Nat → Int32} (htb : ∀ j, tb j ≤ 255) (h : rsO tb n o xa xv xt xz xf xp cl mw f) (e : xt = 276) : ad (bd o (nxF tb n)) 13 = bindR o (apF (fcR tb n d)) := by
  cases o with
  | error e => rfl
  | ok r =>
    have ht := (rs_t h rfl).symm.trans e
    show _ = bindR (fcR tb n d r.1) _
    rw [fB_all htb ht]; rfl
theorem f_rel {tb : Nat → Nat} {n d : Nat} {o : Res} {xa : Nat} {xv xt : Int32} {xz : Nat} {xf xp : Int32} {cl mw : Nat} {f : Nat → Int32} (htb : ∀ j, tb j ≤ 255) (h : rsO tb n o xa xv xt xz xf xp cl mw f) (h1 : ¬ xt = 275) (h2 : ¬ xt = 91) (h3 : ¬ xt = 276) : bindR o (fun r => bindR (sumOf tb n (rdPart tb n 2 d) r.1) (fun q => bindR (relB tb n d q) (fun z => .ok (z.1, r.2 ++ z.2)))) = bindR o (apF (fcR tb n d)) := by
  cases o with
  | error e => rfl
  | ok r =>
    have ht := rs_t h rfl
    rw [ht] at h1 h2 h3
    show _ = bindR (fcR tb n d r.1) _
    rw [fB_rel htb h1 h2 h3]
    unfold relR
    rw [bindR_assoc]
    rfl
theorem f_relN {tb : Nat → Nat} {n d : Nat} {o : Res} {xa : Nat} {xv xt : Int32} {xz : Nat} {xf xp : Int32} {cl mw : Nat} {f : Nat → Int32} {ya : Nat} {yv yt : Int32} {yz : Nat} {yf yp : Int32} {c2 w2 : Nat} {g : Nat → Int32} (htb : ∀ j, tb j ≤ 255) (h : rsO tb n o xa xv xt xz xf xp cl mw f) (h1 : ¬ xt = 275) (h2 : ¬ xt = 91) (h3 : ¬ xt = 276) (hy : rsO tb n (bindR o (apF (sumOf tb n (rdPart tb n 2 d)))) ya yv yt yz yf yp c2 w2 g) (g1 : ¬ yt = 60) (g2 : ¬ yt = 62) (g3 : ¬ yt = 61) : bd (bindR o (apF (sumOf tb n (rdPart tb n 2 d)))) (hereF 1) = bindR o (apF (fcR tb n d)) := by
  rw [← f_rel htb h h1 h2 h3]
  cases o with
  | error e => rfl
  | ok r =>
    show bindR (bindR (sumOf tb n (rdPart tb n 2 d) r.1) _) _ = bindR (sumOf tb n (rdPart tb n 2 d) r.1) _
    cases hq : sumOf tb n (rdPart tb n 2 d) r.1 with
    | error e => rfl
    | ok q =>
      have e2 : bindR (.ok r) (apF (sumOf tb n (rdPart tb n 2 d))) = .ok (q.1, r.2 ++ q.2) := by
        show bindR (sumOf tb n (rdPart tb n 2 d) r.1) _ = _
        rw [hq]; rfl
      have ht := rs_t hy e2
      rw [ht] at g1 g2 g3
      show _ = bindR (relB tb n d q) _
      unfold relB
      rw [relV_none htb g1 g2 g3]
      rfl
theorem f_relY {tb : Nat → Nat} {n d v : Nat} {o : Res} {xa : Nat} {xv xt : Int32} {xz : Nat} {xf xp : Int32} {cl mw : Nat} {f : Nat → Int32} {ya : Nat} {yv yt : Int32} {yz : Nat} {yf yp : Int32} {c2 w2 : Nat} {g : Nat → Int32} (htb : ∀ j, tb j ≤ 255) (h : rsO tb n o xa xv xt xz xf xp cl mw f) (h1 : ¬ xt = 275) (h2 : ¬ xt = 91) (h3 : ¬ xt = 276) (hy : rsO tb n (bindR o (apF (sumOf tb n (rdPart tb n 2 d)))) ya yv yt yz yf yp c2 w2 g) (g1 : relT yt v) : ad (bindR (bd (bindR o (apF (sumOf tb n (rdPart tb n 2 d)))) (nxF tb n)) (apF (sumOf tb n (rdPart tb n 2 d)))) v = bindR o (apF (fcR tb n d)) := by
  rw [← f_rel htb h h1 h2 h3]
  cases o with
  | error e => rfl
  | ok r =>
    show ad (bindR (bd (bindR (sumOf tb n (rdPart tb n 2 d) r.1) _) _) _) v = bindR (sumOf tb n (rdPart tb n 2 d) r.1) _
    cases hq : sumOf tb n (rdPart tb n 2 d) r.1 with
    | error e => rfl
    | ok q =>
      have e2 : bindR (.ok r) (apF (sumOf tb n (rdPart tb n 2 d))) = .ok (q.1, r.2 ++ q.2) := by
        show bindR (sumOf tb n (rdPart tb n 2 d) r.1) _ = _
        rw [hq]; rfl
      have ht := rs_t hy e2
      rw [ht] at g1
      show bindR (bindR (sumOf tb n (rdPart tb n 2 d) (nx tb n q.1.1)) (fun z => .ok (z.1, (r.2 ++ q.2) ++ z.2))) (fun z => .ok (z.1, z.2 ++ [v])) = bindR (relB tb n d q) _
      unfold relB
      rw [relV_some htb g1, bindR_assoc]
      show _ = bindR (bindR (sumOf tb n (rdPart tb n 2 d) (nx tb n q.1.1)) _) _
      rw [bindR_assoc]
      refine bindR_congr _ (fun a _ => ?_)
      show Except.ok (a.1, ((r.2 ++ q.2) ++ a.2) ++ [v]) = Except.ok (a.1, r.2 ++ (q.2 ++ a.2 ++ [v]))
      rw [List.append_assoc, List.append_assoc, List.append_assoc]
/-! the reader's fields changed, not what was read -/
theorem rs_re {tb : Nat → Nat} {n : Nat} {o : Res} {xa : Nat} {xv xt : Int32} {xz : Nat} {xf xp : Int32} {cl mw : Nat} {f : Nat → Int32} {ya : Nat} {yv yt : Int32} {yz : Nat} {yf yp : Int32} (h : rsO tb n o xa xv xt xz xf xp cl mw f) (h2 : rdO tb n (rc o) ya yv yt yz yf yp) : rsO tb n o ya yv yt yz yf yp cl mw f := ⟨h2, h.2⟩
theorem both_0 {tb : Nat → Nat} {n : Nat} {F : Cur → Res} (o : Res) : bindR (bindR o (apF F)) (fun r => andR tb n F (n + 2) r.1 r.2) = bindR o (apF (bothR tb n F)) := by
  cases o with
  | error e => rfl
  | ok r =>
    show bindR (bindR (F r.1) _) _ = bindR (bindR (F r.1) _) _
    rw [bindR_assoc, bindR_assoc]
    refine bindR_congr _ (fun a _ => ?_)
    exact andR_pre r.2 (n + 2) a.1 a.2
theorem both_s {tb : Nat → Nat} {n : Nat} {F : Cur → Res} {T : Res} {o : Res} {xa : Nat} {xv xt : Int32} {xz : Nat} {xf xp : Int32} {cl mw : Nat} {f : Nat → Int32} (htb : ∀ j, tb j ≤ 255) (h : rsO tb n o xa xv xt xz xf xp cl mw f) (hF : mono F) (e : xt = 274) (hT : bindR o (fun r => andR tb n F (n + 2) r.1 r.2) = T) : bindR (ad (bindR (bd o (nxF tb n)) (apF F)) 10) (fun r => andR tb n F (n + 2) r.1 r.2) = T := by
  rw [← hT]
  cases o with
  | error e => rfl
  | ok r =>
    rw [rs_t h rfl] at e
    show bindR (bindR (bindR (F (nx tb n r.1.1)) (fun q => .ok (q.1, r.2 ++ q.2))) (fun q => .ok (q.1, q.2 ++ [10]))) _ = andR tb n F (n + 2) r.1 r.2
    rw [andR, bindR_assoc, bindR_assoc]
    have hs := (tok274 htb).mp e
    have hn := nx_gt (tb := tb) (isW_lt hs)
    rw [if_pos hs]
    refine bindR_congr _ (fun a ha => ?_)
    have hm := hF _ _ ha
    exact andR_fuel hF _ _ _ _ (by omega) (by omega) (by omega) (by omega)
theorem both_e {tb : Nat → Nat} {n i : Nat} {F : Cur → Res} {T : Res} {o : Res} {xa : Nat} {xv xt : Int32} {xz : Nat} {xf xp : Int32} {cl mw : Nat} {f : Nat → Int32} {ya : Nat} {yv yt : Int32} {yz : Nat} {yf yp : Int32} (htb : ∀ j, tb j ≤ 255) (h : rsO tb n o xa xv xt xz xf xp cl mw f) (hn : n ≤ 1600) (hi : iO i o) (e : 1600 ≤ i ∨ ¬ xt = 274) (hT : bindR o (fun r => andR tb n F (n + 2) r.1 r.2) = T) (h2 : rsO tb n o ya yv yt yz yf yp cl mw f) : rsO tb n T ya yv yt yz yf yp cl mw f := by
  have : T = o := by
    rw [← hT]
    cases o with
    | error e => rfl
    | ok r =>
      have hx := hi r rfl
      rw [rs_t h rfl] at e
      have a1 : ¬ isW tb n wAnd r.1 = true := fun q => by
        have q1 := isW_lt q
        have q2 := (tok274 htb).mpr q
        rcases e with e | e
        · omega
        · exact e q2
      show andR tb n F (n + 1 + 1) r.1 r.2 = _
      rw [andR_stop a1]
  rw [this]; exact h2
theorem test_0 {tb : Nat → Nat} {n : Nat} {F : Cur → Res} (o : Res) : bindR (bindR o (apF (bothR tb n F))) (fun r => orR tb n F (n + 2) r.1 r.2) = bindR o (apF (testR tb n F)) := by
  cases o with
  | error e => rfl
  | ok r =>
    show bindR (bindR ((bothR tb n F) r.1) _) _ = bindR (bindR ((bothR tb n F) r.1) _) _
    rw [bindR_assoc, bindR_assoc]
    refine bindR_congr _ (fun a _ => ?_)
    exact orR_pre r.2 (n + 2) a.1 a.2
theorem test_s {tb : Nat → Nat} {n : Nat} {F : Cur → Res} {T : Res} {o : Res} {xa : Nat} {xv xt : Int32} {xz : Nat} {xf xp : Int32} {cl mw : Nat} {f : Nat → Int32} (htb : ∀ j, tb j ≤ 255) (h : rsO tb n o xa xv xt xz xf xp cl mw f) (hF : mono F) (e : xt = 273) (hT : bindR o (fun r => orR tb n F (n + 2) r.1 r.2) = T) : bindR (ad (bindR (bd o (nxF tb n)) (apF (bothR tb n F))) 11) (fun r => orR tb n F (n + 2) r.1 r.2) = T := by
  rw [← hT]
  cases o with
  | error e => rfl
  | ok r =>
    rw [rs_t h rfl] at e
    show bindR (bindR (bindR ((bothR tb n F) (nx tb n r.1.1)) (fun q => .ok (q.1, r.2 ++ q.2))) (fun q => .ok (q.1, q.2 ++ [11]))) _ = orR tb n F (n + 2) r.1 r.2
    rw [orR, bindR_assoc, bindR_assoc]
    have hs := (tok273 htb).mp e
    have hn := nx_gt (tb := tb) (isW_lt hs)
    rw [if_pos hs]
    refine bindR_congr _ (fun a ha => ?_)
    have hm := (bothR_mono hF) _ _ ha
    exact orR_fuel hF _ _ _ _ (by omega) (by omega) (by omega) (by omega)
theorem test_e {tb : Nat → Nat} {n i : Nat} {F : Cur → Res} {T : Res} {o : Res} {xa : Nat} {xv xt : Int32} {xz : Nat} {xf xp : Int32} {cl mw : Nat} {f : Nat → Int32} {ya : Nat} {yv yt : Int32} {yz : Nat} {yf yp : Int32} (htb : ∀ j, tb j ≤ 255) (h : rsO tb n o xa xv xt xz xf xp cl mw f) (hn : n ≤ 1600) (hi : iO i o) (e : 1600 ≤ i ∨ ¬ xt = 273) (hT : bindR o (fun r => orR tb n F (n + 2) r.1 r.2) = T) (h2 : rsO tb n o ya yv yt yz yf yp cl mw f) : rsO tb n T ya yv yt yz yf yp cl mw f := by
  have : T = o := by
    rw [← hT]
    cases o with
    | error e => rfl
    | ok r =>
      have hx := hi r rfl
      rw [rs_t h rfl] at e
      have a1 : ¬ isW tb n wOr r.1 = true := fun q => by
        have q1 := isW_lt q
        have q2 := (tok273 htb).mpr q
        rcases e with e | e
        · omega
        · exact e q2
      show orR tb n F (n + 1 + 1) r.1 r.2 = _
      rw [orR_stop a1]
  rw [this]; exact h2
/-! a question -/
def qsP (tb : Nat → Nat) (n : Nat) (c : Cur) : Except Err Cur := rc (sumOf tb n (rdPart tb n 2 6) c)
def qtP (tb : Nat → Nat) (n : Nat) (c : Cur) : Except Err Cur := rc (testR tb n (fcR tb n 6) c)
def isV (tb : Nat → Nat) (n k : Nat) (c : Cur) : Bool := isW tb n (CWs.getD k []) c
def quF (tb : Nat → Nat) (n : Nat) (c : Cur) : Except Err Cur :=
  if isV tb n 15 c = true ∨ isV tb n 23 c = true ∨ isV tb n 24 c = true then qtP tb n (nx tb n c.1)
  else if isV tb n 25 c = true ∨ isV tb n 26 c = true ∨ isV tb n 27 c = true then qsP tb n (nx tb n c.1)
  else .error (1, c.1)
def fiF (n : Nat) (c : Cur) : Except Err Cur := if n ≤ c.1 then .ok c else .error (1, c.1)
def quP (tb : Nat → Nat) (n : Nat) : Except Err Cur := bindR (quF tb n (sk tb n 0, false)) (fiF n)
def quO (P : Except Err Cur) (xf xp : Int32) : Prop := match P with
  | .ok _ => xf = 0 ∧ xp = -1
  | .error e => xf = nI e.1 ∧ xp = nI e.2
theorem qu_rd {tb : Nat → Nat} {n : Nat} {P : Except Err Cur} {xa : Nat} {xv xt : Int32} {xz : Nat} {xf xp : Int32} (h : rdO tb n P xa xv xt xz xf xp) : quO P xf xp := by
  cases P with
  | ok c => exact ⟨h.1, h.2.1⟩
  | error e => exact ⟨h.1, h.2.1⟩
theorem qu_eq {P : Except Err Cur} {a b c d : Int32} (h1 : quO P a b) (h2 : quO P c d) : c = a ∧ d = b := by
  cases P with
  | ok z => exact ⟨h2.1.trans h1.1.symm, h2.2.trans h1.2.symm⟩
  | error e => exact ⟨h2.1.trans h1.1.symm, h2.2.trans h1.2.symm⟩
def ftO (w a b r : Int32) : Prop := (w = 0 ∧ r = a) ∨ (w = 1 ∧ r = b) ∨ (¬ w = 0 ∧ ¬ w = 1 ∧ r = -1)
theorem ftO_eq {w a b r q : Int32} (h1 : ftO w a b r) (h2 : ftO w a b q) : r = q := by
  rcases h1 with ⟨e, h1⟩ | ⟨e, h1⟩ | ⟨e1, e2, h1⟩
  · rcases h2 with ⟨f, h2⟩ | ⟨f, h2⟩ | ⟨f1, f2, h2⟩
    · rw [h1, h2]
    · exact absurd (e.symm.trans f) (by decide)
    · exact absurd e f1
  · rcases h2 with ⟨f, h2⟩ | ⟨f, h2⟩ | ⟨f1, f2, h2⟩
    · exact absurd (f.symm.trans e) (by decide)
    · rw [h1, h2]
    · exact absurd e f2
  · rcases h2 with ⟨f, h2⟩ | ⟨f, h2⟩ | ⟨f1, f2, h2⟩
    · exact absurd f e1
    · exact absurd f e2
    · rw [h1, h2]
def askR (tb : Nat → Nat) (tl dy : Nat) (xf xp ef ep : Int32) : Prop := (dy = 0 ∧ ef = xf ∧ ep = xp) ∨ (1 ≤ dy ∧ quO (quP tb tl) ef ep)
theorem askR_eq {tb : Nat → Nat} {tl dy : Nat} {xf xp a b c d : Int32} (h1 : askR tb tl dy xf xp a b) (h2 : askR tb tl dy xf xp c d) : c = a ∧ d = b := by
  rcases h1 with ⟨e, h1, h1'⟩ | ⟨e, h1⟩
  · rcases h2 with ⟨f, h2, h2'⟩ | ⟨f, h2⟩
    · exact ⟨h2.trans h1.symm, h2'.trans h1'.symm⟩
    · omega
  · rcases h2 with ⟨f, h2, h2'⟩ | ⟨f, h2⟩
    · omega
    · exact qu_eq h1 h2
theorem askR_il {tb : Nat → Nat} {tl dy il : Nat} {xf xp a b : Int32} (h : (il = 0 ∧ a = xf ∧ b = xp) ∨ (il = 1 ∧ quO (quP tb tl) a b)) (h1 : il = 1 → 1 ≤ dy) (h2 : 1 ≤ dy → il = 1) : askR tb tl dy xf xp a b := by
  rcases h with ⟨e, h⟩ | ⟨e, h⟩
  · refine Or.inl ⟨?_, h⟩
    rcases Nat.eq_zero_or_pos dy with q | q
    · exact q
    · have := h2 q; omega
  · exact Or.inr ⟨h1 e, h⟩
/-- by the word that a question begins with -/
theorem tokV {tb : Nat → Nat} {n k : Nat} {c : Cur} (htb : ∀ j, tb j ≤ 255) (hk : k < 28) : tokOf tb n c = nI (256 + k) ↔ isV tb n k c = true := tok_W htb hk
theorem isV_1 {tb : Nat → Nat} {n j k : Nat} {c : Cur} (htb : ∀ j, tb j ≤ 255) (hj : j < 28) (hk : k < 28) (h : isV tb n j c = true) (hne : ¬ j = k) : ¬ isV tb n k c = true := fun q => by
  have a := ((tokV htb hj).mpr h).symm.trans ((tokV htb hk).mpr q)
  have := (nI_eq (by omega) (by omega)).mp a
  omega
theorem rc_ap {P : Cur → Res} (o : Res) : rc (bindR o (apF P)) = bindR (rc o) (fun c => rc (P c)) := by
  cases o with
  | error e => rfl
  | ok r =>
    show bindR (bindR (P r.1) (fun q => .ok (q.1, r.2 ++ q.2))) _ = bindR (P r.1) _
    rw [bindR_assoc]; rfl
theorem q_t {tb : Nat → Nat} {n k : Nat} {xa : Nat} {xv xt : Int32} {xz : Nat} {xf xp : Int32} (htb : ∀ j, tb j ≤ 255) (h : rdO tb n (.ok (sk tb n 0, false)) xa xv xt xz xf xp) (e : xt = nI (256 + k)) (hk : k = 15 ∨ k = 23 ∨ k = 24) : rc (bindR (.ok (nx tb n (sk tb n 0), [])) (apF (testR tb n (fcR tb n 6)))) = quF tb n (sk tb n 0, false) := by
  have ht : tokOf tb n (sk tb n 0, false) = nI (256 + k) := h.2.2.2.2.1.symm.trans e
  have hv := (tokV htb (by omega)).mp ht
  rw [rc_ap]
  unfold quF
  rw [if_pos (by rcases hk with hk | hk | hk <;> subst hk; exact Or.inl hv; exact Or.inr (Or.inl hv); exact Or.inr (Or.inr hv))]
  rfl
theorem q_s {tb : Nat → Nat} {n k : Nat} {xa : Nat} {xv xt : Int32} {xz : Nat} {xf xp : Int32} (htb : ∀ j, tb j ≤ 255) (h : rdO tb n (.ok (sk tb n 0, false)) xa xv xt xz xf xp) (e : xt = nI (256 + k)) (hk : k = 25 ∨ k = 26 ∨ k = 27) : rc (bindR (.ok (nx tb n (sk tb n 0), [])) (apF (sumOf tb n (rdPart tb n 2 6)))) = quF tb n (sk tb n 0, false) := by
  have ht : tokOf tb n (sk tb n 0, false) = nI (256 + k) := h.2.2.2.2.1.symm.trans e
  have hv := (tokV htb (by omega)).mp ht
  rw [rc_ap]
  unfold quF
  rw [if_neg (fun q => by rcases q with q | q | q <;> exact isV_1 htb (by omega) (by omega) hv (by omega) q), if_pos (by rcases hk with hk | hk | hk <;> subst hk; exact Or.inl hv; exact Or.inr (Or.inl hv); exact Or.inr (Or.inr hv))]
  rfl
theorem q_n {tb : Nat → Nat} {n : Nat} {xa : Nat} {xv xt : Int32} {xz : Nat} {xf xp : Int32} (htb : ∀ j, tb j ≤ 255) (h : rdO tb n (.ok (sk tb n 0, false)) xa xv xt xz xf xp) (h1 : ¬ xt = 271) (h2 : ¬ xt = 279) (h3 : ¬ xt = 280) (h4 : ¬ xt = 281) (h5 : ¬ xt = 282) (h6 : ¬ xt = 283) : bindR (.ok (sk tb n 0, false)) (hereF 1) = quF tb n (sk tb n 0, false) := by
  have ht : xt = tokOf tb n (sk tb n 0, false) := h.2.2.2.2.1
  have g : ∀ k, k < 28 → ¬ xt = nI (256 + k) → ¬ isV tb n k (sk tb n 0, false) = true := fun k hk a q => a (ht.trans ((tokV htb hk).mpr q))
  unfold quF
  rw [if_neg (fun q => by rcases q with q | q | q; exact g 15 (by decide) h1 q; exact g 23 (by decide) h2 q; exact g 24 (by decide) h3 q), if_neg (fun q => by rcases q with q | q | q; exact g 25 (by decide) h4 q; exact g 26 (by decide) h5 q; exact g 27 (by decide) h6 q)]
  rfl
theorem rs_0 {tb : Nat → Nat} {n : Nat} {c : Cur} {xa : Nat} {xv xt : Int32} {xz : Nat} {xf xp : Int32} {f : Nat → Int32} (h : rdO tb n (.ok c) xa xv xt xz xf xp) : rsO tb n (.ok (c, [])) xa xv xt xz xf xp 0 0 f := ⟨h, fun r hr => by
  cases hr
  exact ⟨rfl, ⟨fun q => absurd q (by decide), fun q => by cases q⟩, fun j hj => absurd hj (Nat.not_lt_zero j)⟩⟩
theorem lenO_0 (c : Cur) : lenO (.ok (c, [])) := fun r e => by cases e; exact Nat.zero_le _
theorem cm_9 {v : Nat} (h : v ≤ 9) : ¬ cm v = -1 := by
  match v, h with
  | 0, _ => decide
  | 1, _ => decide
  | 2, _ => decide
  | 3, _ => decide
  | 4, _ => decide
  | 5, _ => decide
  | 6, _ => decide
  | 7, _ => decide
  | 8, _ => decide
  | 9, _ => decide
  | v + 10, h => exact absurd h (by omega)
/-- the end: nothing more, or a fault here -/
theorem q_e1 {tb : Nat → Nat} {n : Nat} {o : Except Err Cur} {xa : Nat} {xv xt : Int32} {xz : Nat} {xf xp : Int32} (htb : ∀ j, tb j ≤ 255) (h : rdO tb n o xa xv xt xz xf xp) (e : xt = -1) : rdO tb n (bindR o (fiF n)) xa xv xt xz xf xp := by
  cases o with
  | error e => exact h
  | ok c =>
    have h0 : rdC tb n c xa xv xt xz xf xp := h
    have hn := (tok_E htb).mp (h0.2.2.2.2.1.symm.trans e)
    have h1 : bindR (.ok c) (fiF n) = .ok c := by show fiF n c = _; unfold fiF; rw [if_pos hn]
    rw [h1]; exact h
theorem q_e2 {tb : Nat → Nat} {n : Nat} {o : Except Err Cur} {xa : Nat} {xv xt : Int32} {xz : Nat} {xf xp : Int32} {ya : Nat} {yv yt : Int32} {yz : Nat} {yf yp : Int32} (htb : ∀ j, tb j ≤ 255) (h : rdO tb n o xa xv xt xz xf xp) (e : ¬ xt = -1) (hp : rdO tb n (bindR o (hereF 1)) ya yv yt yz yf yp) : rdO tb n (bindR o (fiF n)) ya yv yt yz yf yp :=
  rd_swap h (fun c hc => by unfold fiF; rw [if_neg (fun q => e (hc.2.2.2.2.1.trans ((tok_E htb).mpr q)))]; rfl) hp
set_option maxHeartbeats 4000000 in
set_option maxRecDepth 100000 in
theorem c_eq_stepOf (l : Launch) (D : va_G) (cI cJ cC cZ cS : ClassId) (o : Int32)  : skM l yX5_stepOf cX5_stepOf 1 (some .int) 0 0 0 0 D (skT cI cJ cC cZ cS) [.int o] [] (skI D (skT cI cJ cC cZ cS) (fun (r : Int32) (u : va_W) => ((r = -1 ∧ ¬ o = 60 ∧ ¬ o = 62 ∧ ¬ o = 61) ∨ ∃ v : Nat, v ≤ 9 ∧ r = cm v ∧ relT o v) ∧ u = [])) := by
  refine skM_of pf_X5_stepOf (Nat.le_of_ble_eq_true rfl) ?_
  intro p e s m below meth c A ls E hP hD hl
  refine skE_el E (fun hx hb hr hml hlocks hin hown hts hK hA => ?_)
  have hown : s.vm.findClass RX5 = some m.cls := hown
  have hS : va_S A s.heap s.heap [] := va_S.rf
  have hl : lv_has ls 1 [(0, .int o)] := hl
  refine lv_iload_n hx hb dX5_stepOf_0 rfl (lv_at hl 0 rfl) ?_
  by_cases g_1 : o = 60
  · refine lv_tableIn (off := 27) (tgt := 28) hx hb dX5_stepOf_1 (by rw [g_1]; decide) (by rw [g_1]; decide) (by rw [g_1]; rfl) (by decide) ?_
    refine lv_sipush (v := 30006) hx hb dX5_stepOf_28 (by decide) ?_
    exact sk_iret hx hb hr rfl hlocks hK hP hD hS (⟨(Or.inr ⟨7, by omega, by decide, Or.inl ⟨g_1, rfl⟩⟩), rfl⟩) (Nat.le_of_ble_eq_true rfl) (Nat.le_of_ble_eq_true rfl) dX5_stepOf_31
  by_cases g_2 : o = 61
  · refine lv_tableIn (off := 35) (tgt := 36) hx hb dX5_stepOf_1 (by rw [g_2]; decide) (by rw [g_2]; decide) (by rw [g_2]; rfl) (by decide) ?_
    refine lv_sipush (v := 30008) hx hb dX5_stepOf_36 (by decide) ?_
    exact sk_iret hx hb hr rfl hlocks hK hP hD hS (⟨(Or.inr ⟨9, by omega, by decide, Or.inr (Or.inr ⟨g_2, rfl⟩)⟩), rfl⟩) (Nat.le_of_ble_eq_true rfl) (Nat.le_of_ble_eq_true rfl) dX5_stepOf_39
  by_cases g_3 : o = 62
  · refine lv_tableIn (off := 31) (tgt := 32) hx hb dX5_stepOf_1 (by rw [g_3]; decide) (by rw [g_3]; decide) (by rw [g_3]; rfl) (by decide) ?_
    refine lv_sipush (v := 30007) hx hb dX5_stepOf_32 (by decide) ?_
    exact sk_iret hx hb hr rfl hlocks hK hP hD hS (⟨(Or.inr ⟨8, by omega, by decide, Or.inr (Or.inl ⟨g_3, rfl⟩)⟩), rfl⟩) (Nat.le_of_ble_eq_true rfl) (Nat.le_of_ble_eq_true rfl) dX5_stepOf_35
  refine lv_tableOut (tgt := 40) hx hb dX5_stepOf_1 (sk_out2 60 62 (by intro k hk1 hk2; rcases (show k = 60 ∨ k = 61 ∨ k = 62 by omega) with rfl | rfl | rfl <;> assumption)) (by decide) ?_
  refine lv_iconst (v := (-1)) hx hb dX5_stepOf_40 (by decide) ?_
  exact sk_iret hx hb hr rfl hlocks hK hP hD hS (⟨(Or.inl ⟨rfl, by assumption, by assumption, by assumption⟩), rfl⟩) (Nat.le_of_ble_eq_true rfl) (Nat.le_of_ble_eq_true rfl) dX5_stepOf_41
def CT_ereadFact (l : Launch) (D : va_G) (cI cJ cC cZ cS : ClassId) (zk zv : Nat) (zf : Value) (dd : Nat) : Prop := ∀ (q : Nat → Nat) (vb : Int32) (xa : Nat) (xv : Int32) (xo : Nat) (xt : Int32) (xz : Nat) (xf : Int32) (xp : Int32) (tl : Nat) (tb : Nat → Nat) (cl : Nat) (mw : Nat) (f1 : Nat → Int32) (og : Res) (hxa : xa ≤ 1600) (hxz : xz ≤ 1600) (htl : tl ≤ 1600) (htb : ∀ j, tb j ≤ 255) (hcl : cl ≤ 1600) (hmw : mw ≤ 1) (hdd : xo + dd = 6) (hO : rsO tb tl og xa xv xt xz xf xp cl mw f1) (hlen : lenO og), skMZ zk zv zf l yX5_readFact cX5_readFact 2 none (40 + 8 * dd) (900 + 200 * dd) 0 0 D (skT cI cJ cC cZ cS) [.ref (q 4)] [ro_rrri (q 4) 5 (q 2) (q 55) (q 56) vb, ro_ri (q 55) 8 (q 2) 2, ro_rnininii (q 2) 6 (q 0) xa xv xo xt xz xf xp, ro_rn (q 0) 10 (q 20) tl, ra_N (q 20) cI 1600 tb, ro_rrrrnn (q 56) 0 (q 57) (q 58) (q 59) (q 60) cl mw, ra_I (q 57) cI 1600 f1] (skV D (skT cI cJ cC cZ cS) (fun (u : va_W) => ∃ (xa2 : Nat), ∃ (xv2 : Int32), ∃ (xt2 : Int32), ∃ (xz2 : Nat), ∃ (xf2 : Int32), ∃ (xp2 : Int32), ∃ (c2 : Nat), ∃ (w2 : Nat), ∃ (g1 : Nat → Int32), xa2 ≤ 1600 ∧ xz2 ≤ 1600 ∧ c2 ≤ 1600 ∧ w2 ≤ 1 ∧ rsO tb tl (bindR og (apF (fcR tb tl dd))) xa2 xv2 xt2 xz2 xf2 xp2 c2 w2 g1 ∧ u = [ro_rrri (q 4) 5 (q 2) (q 55) (q 56) vb, ro_ri (q 55) 8 (q 2) 2, ro_rnininii (q 2) 6 (q 0) xa2 xv2 xo xt2 xz2 xf2 xp2, ro_rn (q 0) 10 (q 20) tl, ra_N (q 20) cI 1600 tb, ro_rrrrnn (q 56) 0 (q 57) (q 58) (q 59) (q 60) c2 w2, ra_I (q 57) cI 1600 g1]))
def CT_ereadBoth (l : Launch) (D : va_G) (cI cJ cC cZ cS : ClassId) (zk zv : Nat) (zf : Value) (dd : Nat) : Prop := ∀ (q : Nat → Nat) (vb : Int32) (xa : Nat) (xv : Int32) (xo : Nat) (xt : Int32) (xz : Nat) (xf : Int32) (xp : Int32) (tl : Nat) (tb : Nat → Nat) (cl : Nat) (mw : Nat) (f1 : Nat → Int32) (og : Res) (hxa : xa ≤ 1600) (hxz : xz ≤ 1600) (htl : tl ≤ 1600) (htb : ∀ j, tb j ≤ 255) (hcl : cl ≤ 1600) (hmw : mw ≤ 1) (hdd : xo + dd = 6) (hO : rsO tb tl og xa xv xt xz xf xp cl mw f1) (hlen : lenO og), skMZ zk zv zf l yX5_readBoth cX5_readBoth 2 none (41 + 8 * dd) (925 + 200 * dd) 0 0 D (skT cI cJ cC cZ cS) [.ref (q 4)] [ro_rrri (q 4) 5 (q 2) (q 55) (q 56) vb, ro_ri (q 55) 8 (q 2) 2, ro_rnininii (q 2) 6 (q 0) xa xv xo xt xz xf xp, ro_rn (q 0) 10 (q 20) tl, ra_N (q 20) cI 1600 tb, ro_rrrrnn (q 56) 0 (q 57) (q 58) (q 59) (q 60) cl mw, ra_I (q 57) cI 1600 f1] (skV D (skT cI cJ cC cZ cS) (fun (u : va_W) => ∃ (xa2 : Nat), ∃ (xv2 : Int32), ∃ (xt2 : Int32), ∃ (xz2 : Nat), ∃ (xf2 : Int32), ∃ (xp2 : Int32), ∃ (c2 : Nat), ∃ (w2 : Nat), ∃ (g1 : Nat → Int32), xa2 ≤ 1600 ∧ xz2 ≤ 1600 ∧ c2 ≤ 1600 ∧ w2 ≤ 1 ∧ rsO tb tl (bindR og (apF (bothR tb tl (fcR tb tl dd)))) xa2 xv2 xt2 xz2 xf2 xp2 c2 w2 g1 ∧ u = [ro_rrri (q 4) 5 (q 2) (q 55) (q 56) vb, ro_ri (q 55) 8 (q 2) 2, ro_rnininii (q 2) 6 (q 0) xa2 xv2 xo xt2 xz2 xf2 xp2, ro_rn (q 0) 10 (q 20) tl, ra_N (q 20) cI 1600 tb, ro_rrrrnn (q 56) 0 (q 57) (q 58) (q 59) (q 60) c2 w2, ra_I (q 57) cI 1600 g1]))
def CT_ereadTest (l : Launch) (D : va_G) (cI cJ cC cZ cS : ClassId) (zk zv : Nat) (zf : Value) (dd : Nat) : Prop := ∀ (q : Nat → Nat) (vb : Int32) (xa : Nat) (xv : Int32) (xo : Nat) (xt : Int32) (xz : Nat) (xf : Int32) (xp : Int32) (tl : Nat) (tb : Nat → Nat) (cl : Nat) (mw : Nat) (f1 : Nat → Int32) (og : Res) (hxa : xa ≤ 1600) (hxz : xz ≤ 1600) (htl : tl ≤ 1600) (htb : ∀ j, tb j ≤ 255) (hcl : cl ≤ 1600) (hmw : mw ≤ 1) (hdd : xo + dd = 6) (hO : rsO tb tl og xa xv xt xz xf xp cl mw f1) (hlen : lenO og), skMZ zk zv zf l yX5_readTest cX5_readTest 2 none (42 + 8 * dd) (950 + 200 * dd) 0 0 D (skT cI cJ cC cZ cS) [.ref (q 4)] [ro_rrri (q 4) 5 (q 2) (q 55) (q 56) vb, ro_ri (q 55) 8 (q 2) 2, ro_rnininii (q 2) 6 (q 0) xa xv xo xt xz xf xp, ro_rn (q 0) 10 (q 20) tl, ra_N (q 20) cI 1600 tb, ro_rrrrnn (q 56) 0 (q 57) (q 58) (q 59) (q 60) cl mw, ra_I (q 57) cI 1600 f1] (skV D (skT cI cJ cC cZ cS) (fun (u : va_W) => ∃ (xa2 : Nat), ∃ (xv2 : Int32), ∃ (xt2 : Int32), ∃ (xz2 : Nat), ∃ (xf2 : Int32), ∃ (xp2 : Int32), ∃ (c2 : Nat), ∃ (w2 : Nat), ∃ (g1 : Nat → Int32), xa2 ≤ 1600 ∧ xz2 ≤ 1600 ∧ c2 ≤ 1600 ∧ w2 ≤ 1 ∧ rsO tb tl (bindR og (apF (testR tb tl (fcR tb tl dd)))) xa2 xv2 xt2 xz2 xf2 xp2 c2 w2 g1 ∧ u = [ro_rrri (q 4) 5 (q 2) (q 55) (q 56) vb, ro_ri (q 55) 8 (q 2) 2, ro_rnininii (q 2) 6 (q 0) xa2 xv2 xo xt2 xz2 xf2 xp2, ro_rn (q 0) 10 (q 20) tl, ra_N (q 20) cI 1600 tb, ro_rrrrnn (q 56) 0 (q 57) (q 58) (q 59) (q 60) c2 w2, ra_I (q 57) cI 1600 g1]))
set_option maxHeartbeats 4000000 in
set_option maxRecDepth 100000 in
theorem c_ereadFact (l : Launch) (D : va_G) (cI cJ cC cZ cS : ClassId) (zk zv : Nat) (zf : Value) (dd : Nat) (ht : ∀ d, d + 1 = dd → CT_ereadTest l D cI cJ cC cZ cS zk zv zf d) (hf : ∀ d, d + 1 = dd → CT_ereadFact l D cI cJ cC cZ cS zk zv zf d) : CT_ereadFact l D cI cJ cC cZ cS zk zv zf dd := by
  intro q vb xa xv xo xt xz xf xp tl tb cl mw f1 og hxa hxz htl htb hcl hmw hdd hO hlen
  refine skMZ_of pf_X5_readFact (Nat.le_of_ble_eq_true rfl) ?_
  intro p e s m below meth c A ls E hP hD hZ hl
  refine skE_el E (fun hx hb hr hml hlocks hin hown hts hK hA => ?_)
  have hown : s.vm.findClass RX5 = some m.cls := hown
  have hS : va_S A s.heap s.heap [] := va_S.rf
  have hl : lv_has ls 2 [(0, .ref (q 4))] := hl
  refine lv_aload_n hx hb dX5_readFact_0 rfl (lv_at hl 0 rfl) ?_
  refine sk_get (v := .ref (q 2)) (C := RX5) (T := TX5) (N := 4) hx hb hts inlX5 hown hK hP 0 rfl rfl 0 (Nat.le_of_ble_eq_true rfl) w_1_154 rfl dX5_readFact_1 ?_
  refine sk_get (v := .int xt) (C := RX6) (T := TX6) (N := 8) hx hb hts inlX6 hown hK hP 2 rfl rfl 4 (Nat.le_of_ble_eq_true rfl) w_1_61 rfl dX5_readFact_4 ?_
  refine lv_sipush (v := 275) hx hb dX5_readFact_7 (by decide) ?_
  refine lv_icmp_ne (tgt := 50) hx hb dX5_readFact_10 (by decide) (fun c_1 => ?_) (fun c_1 => ?_)
  · skip
    refine lv_aload_n hx hb dX5_readFact_50 rfl (lv_at hl 0 rfl) ?_
    refine sk_get (v := .ref (q 2)) (C := RX5) (T := TX5) (N := 4) hx hb hts inlX5 hown hK hP 0 rfl rfl 0 (Nat.le_of_ble_eq_true rfl) w_1_154 rfl dX5_readFact_51 ?_
    refine sk_get (v := .int xt) (C := RX6) (T := TX6) (N := 8) hx hb hts inlX6 hown hK hP 2 rfl rfl 4 (Nat.le_of_ble_eq_true rfl) w_1_61 rfl dX5_readFact_54 ?_
    refine lv_bipush (v := 91) hx hb dX5_readFact_57 (by decide) ?_
    refine lv_icmp_ne (tgt := 97) hx hb dX5_readFact_59 (by decide) (fun c_2 => ?_) (fun c_2 => ?_)
    · skip
      refine lv_aload_n hx hb dX5_readFact_97 rfl (lv_at hl 0 rfl) ?_
      refine sk_get (v := .ref (q 2)) (C := RX5) (T := TX5) (N := 4) hx hb hts inlX5 hown hK hP 0 rfl rfl 0 (Nat.le_of_ble_eq_true rfl) w_1_154 rfl dX5_readFact_98 ?_
      refine lv_sipush (v := 276) hx hb dX5_readFact_101 (by decide) ?_
      refine sk_ViZ (q0 := 0) (n := 1) (rest := []) (wr := fmR om_7_1c _) ⟨hx, hb, hml, hown, hts⟩ hl.1 (c_erd_takes l D cI cJ cC cZ cS zk zv zf q xa xv xo xt xz xf xp tl tb 276 (rc og) hxa hxz htl htb (by decide) (hO).1) w_5_86 w_5_87 w_5_88 w_1_4 w_5_89 hd_X6_takes_1 ⟨⟨(by dsimp only; omega), (by dsimp only; omega)⟩, (by dsimp only; omega), (by dsimp only; omega)⟩ hK hP hD hS hZ hA (fmT om_7_1c 0) (fmF om_7_1c 0) (fm_C1 rfl rfl) (fm_R rfl rfl) (fm_nT om_7_1c 0) (fm_nF om_7_1c 0) (fm_di om_7_1c 0) rfl rfl rfl rfl (Nat.le_of_ble_eq_true rfl) dX5_readFact_104 (fun r_10 u H locs hw hP hD hS => ?_)
      refine exE hw (fun xa2_3 hw1 => exE hw1 (fun xv2_4 hw2 => exE hw2 (fun xt2_5 hw3 => exE hw3 (fun xz2_6 hw4 => exE hw4 (fun xf2_7 hw5 => exE hw5 (fun xp2_8 hw6 => exE hw6 (fun b_9 hw7 => anE hw7 (fun hxa2_11 hw8 => anE hw8 (fun hxz2_12 hw9 => anE hw9 (fun hb1_13 hw10 => anE hw10 (fun hO2_14 hw11 => anE hw11 (fun er_16 eu_15 => ?_))))))))))))
      clear hw hw1 hw2 hw3 hw4 hw5 hw6 hw7 hw8 hw9 hw10 hw11
      subst er_16
      refine o_mgE (ws' := [ro_rrri (q 4) 5 (q 2) (q 55) (q 56) vb, ro_ri (q 55) 8 (q 2) 2, ro_rnininii (q 2) 6 (q 0) xa2_3 xv2_4 xo xt2_5 xz2_6 xf2_7 xp2_8, ro_rn (q 0) 10 (q 20) tl, ra_N (q 20) cI 1600 tb, ro_rrrrnn (q 56) 0 (q 57) (q 58) (q 59) (q 60) cl mw, ra_I (q 57) cI 1600 f1]) eu_15 hP hD rfl (fun hP hD => ?_)
      refine lv_if_eq (tgt := 121) hx hb dX5_readFact_107 (by decide) (fun c_17 => ?_) (fun c_17 => ?_)
      · have c_17 : b_9 = 0 := (neq b_9 0 (by omega) (Nat.le_of_ble_eq_true rfl)).mp c_17
        have hw_19 := (rr_0 hO2_14 (by omega)).1
        have hO_18 := rs_re hO (rr_0 hO2_14 (by omega)).2
        refine lv_aload_n hx hb dX5_readFact_121 rfl (lv_at hl 0 rfl) ?_
        refine sk_get (v := .ref (q 55)) (C := RX5) (T := TX5) (N := 4) hx hb hts inlX5 hown hK hP 0 rfl rfl 1 (Nat.le_of_ble_eq_true rfl) w_1_155 rfl dX5_readFact_122 ?_
        refine lv_aload_n hx hb dX5_readFact_125 rfl (lv_at hl 0 rfl) ?_
        refine sk_get (v := .ref (q 56)) (C := RX5) (T := TX5) (N := 4) hx hb hts inlX5 hown hK hP 0 rfl rfl 2 (Nat.le_of_ble_eq_true rfl) w_1_156 rfl dX5_readFact_126 ?_
        refine sk_VvZ (q0 := 0) (n := 1) (rest := []) (wr := fmR om_7_3f _) ⟨hx, hb, hml, hown, hts⟩ hl.1 (c_esread l D cI cJ cC cZ cS zk zv zf dd q (q 55) 2 xa2_3 xv2_4 xo xt2_5 xz2_6 xf2_7 xp2_8 tl tb (q 56) (q 57) (q 58) (q 59) (q 60) cl mw f1 og hxa2_11 hxz2_12 htl htb hcl hmw (by omega) hdd hO_18 hlen) w_5_90 w_3_81 w_3_82 w_1_6 w_3_83 hd_X8_read_1 ⟨⟨(by dsimp only; omega), (by dsimp only; omega)⟩, (by dsimp only; omega), (by dsimp only; omega)⟩ hK hP hD hS hZ hA (fmT om_7_3f 0) (fmF om_7_3f 0) (fm_C1 rfl rfl) (fm_R rfl rfl) (fm_nT om_7_3f 0) (fm_nF om_7_3f 0) (fm_di om_7_3f 0) rfl rfl rfl rfl (Nat.le_of_ble_eq_true rfl) dX5_readFact_129 (fun u H locs hw hP hD hS => ?_)
        refine exE hw (fun xa2_20 hw1 => exE hw1 (fun xv2_21 hw2 => exE hw2 (fun xt2_22 hw3 => exE hw3 (fun xz2_23 hw4 => exE hw4 (fun xf2_24 hw5 => exE hw5 (fun xp2_25 hw6 => exE hw6 (fun c2_26 hw7 => exE hw7 (fun w2_27 hw8 => exE hw8 (fun g1_28 hw9 => anE hw9 (fun hxa2_29 hw10 => anE hw10 (fun hxz2_30 hw11 => anE hw11 (fun hc2_31 hw12 => anE hw12 (fun hw2_32 hw13 => anE hw13 (fun hO2_33 eu_34 => ?_))))))))))))))
        clear hw hw1 hw2 hw3 hw4 hw5 hw6 hw7 hw8 hw9 hw10 hw11 hw12 hw13
        refine o_mgE (ws' := [ro_rrri (q 4) 5 (q 2) (q 55) (q 56) vb, ro_ri (q 55) 8 (q 2) 2, ro_rnininii (q 2) 6 (q 0) xa2_20 xv2_21 xo xt2_22 xz2_23 xf2_24 xp2_25, ro_rn (q 0) 10 (q 20) tl, ra_N (q 20) cI 1600 tb, ro_rrrrnn (q 56) 0 (q 57) (q 58) (q 59) (q 60) c2_26 w2_27, ra_I (q 57) cI 1600 g1_28]) eu_34 hP hD rfl (fun hP hD => ?_)
        have hL_35 := lenO_ap (len_sum (tb := tb) (n := tl) (len_part (tb := tb) (n := tl) (kind := 2) dd)) hlen
        refine lv_aload_n hx hb dX5_readFact_132 rfl (lv_at hl 0 rfl) ?_
        refine sk_get (v := .ref (q 2)) (C := RX5) (T := TX5) (N := 4) hx hb hts inlX5 hown hK hP 0 rfl rfl 0 (Nat.le_of_ble_eq_true rfl) w_1_154 rfl dX5_readFact_133 ?_
        refine sk_get (v := .int xt2_22) (C := RX6) (T := TX6) (N := 8) hx hb hts inlX6 hown hK hP 2 rfl rfl 4 (Nat.le_of_ble_eq_true rfl) w_1_61 rfl dX5_readFact_136 ?_
        refine sk_Si (n := 1) (rest := []) (wr := [ro_rrri (q 4) 5 (q 2) (q 55) (q 56) vb, ro_ri (q 55) 8 (q 2) 2, ro_rnininii (q 2) 6 (q 0) xa2_20 xv2_21 xo xt2_22 xz2_23 xf2_24 xp2_25, ro_rn (q 0) 10 (q 20) tl, ra_N (q 20) cI 1600 tb, ro_rrrrnn (q 56) 0 (q 57) (q 58) (q 59) (q 60) c2_26 w2_27, ra_I (q 57) cI 1600 g1_28]) ⟨hx, hb, hml, hown, hts⟩ hl.1 (c_eq_stepOf l D cI cJ cC cZ cS xt2_22) w_5_91 w_5_92 w_1_7 w_5_93 hd_X5_stepOf_1 ⟨⟨(by dsimp only; omega), (by dsimp only; omega)⟩, (by dsimp only; omega), (by dsimp only; omega)⟩ hK hP hD hS hA [] [0, 1, 2, 3, 4, 5, 6] rfl rfl (by decide +kernel) (by decide +kernel) (by decide +kernel) rfl rfl (Nat.le_of_ble_eq_true rfl) dX5_readFact_139 (fun r_36 u H locs hw hP hD hS => ?_)
        obtain ⟨hst_37, rfl⟩ := hw
        refine o_re (ws' := [ro_rrri (q 4) 5 (q 2) (q 55) (q 56) vb, ro_ri (q 55) 8 (q 2) 2, ro_rnininii (q 2) 6 (q 0) xa2_20 xv2_21 xo xt2_22 xz2_23 xf2_24 xp2_25, ro_rn (q 0) 10 (q 20) tl, ra_N (q 20) cI 1600 tb, ro_rrrrnn (q 56) 0 (q 57) (q 58) (q 59) (q 60) c2_26 w2_27, ra_I (q 57) cI 1600 g1_28]) hP hD rfl (fun hP hD => ?_)
        refine lv_istore_n (lv' := [(1, .int r_36), (0, .ref (q 4))]) hx hb dX5_readFact_142 rfl hl (by decide) rfl (fun ls hl => ?_)
        refine lv_iload_n hx hb dX5_readFact_143 rfl (lv_at hl 0 rfl) ?_
        refine lv_iconst (v := (-1)) hx hb dX5_readFact_144 (by decide) ?_
        refine lv_icmp_ne (tgt := 158) hx hb dX5_readFact_145 (by decide) (fun c_38 => ?_) (fun c_38 => ?_)
        · obtain ⟨vx, hvx, hvr, hvt⟩ := hst_37.resolve_left (fun hq => c_38 hq.1)
          refine lv_aload_n hx hb dX5_readFact_158 rfl (lv_at hl 1 rfl) ?_
          refine sk_get (v := .ref (q 2)) (C := RX5) (T := TX5) (N := 4) hx hb hts inlX5 hown hK hP 0 rfl rfl 0 (Nat.le_of_ble_eq_true rfl) w_1_154 rfl dX5_readFact_159 ?_
          refine sk_VvZ (q0 := 0) (n := 0) (rest := []) (wr := fmR om_7_1c _) ⟨hx, hb, hml, hown, hts⟩ hl.1 (c_erd_step l D cI cJ cC cZ cS zk zv zf q xa2_20 xv2_21 xo xt2_22 xz2_23 xf2_24 xp2_25 tl tb (bindR (rc (bindR og (apF (sumOf tb tl (rdPart tb tl 2 dd))))) (beF tb tl)) hxa2_29 hxz2_30 htl htb (rd_st htb (hO2_33).1 (relT_real hvt))) w_5_69 w_2_226 w_2_227 w_1_4 w_2_228 hd_X6_step_0 ⟨⟨(by dsimp only; omega), (by dsimp only; omega)⟩, (by dsimp only; omega), (by dsimp only; omega)⟩ hK hP hD hS hZ hA (fmT om_7_1c 0) (fmF om_7_1c 0) (fm_C1 rfl rfl) (fm_R rfl rfl) (fm_nT om_7_1c 0) (fm_nF om_7_1c 0) (fm_di om_7_1c 0) rfl rfl rfl rfl (Nat.le_of_ble_eq_true rfl) dX5_readFact_162 (fun u H locs hw hP hD hS => ?_)
          refine exE hw (fun xa2_39 hw1 => exE hw1 (fun xv2_40 hw2 => exE hw2 (fun xt2_41 hw3 => exE hw3 (fun xz2_42 hw4 => anE hw4 (fun hxa2_43 hw5 => anE hw5 (fun hxz2_44 hw6 => anE hw6 (fun hO2_45 eu_46 => ?_)))))))
          clear hw hw1 hw2 hw3 hw4 hw5 hw6
          refine o_mgE (ws' := [ro_rrri (q 4) 5 (q 2) (q 55) (q 56) vb, ro_ri (q 55) 8 (q 2) 2, ro_rnininii (q 2) 6 (q 0) xa2_39 xv2_40 xo xt2_41 xz2_42 xf2_24 xp2_25, ro_rn (q 0) 10 (q 20) tl, ra_N (q 20) cI 1600 tb, ro_rrrrnn (q 56) 0 (q 57) (q 58) (q 59) (q 60) c2_26 w2_27, ra_I (q 57) cI 1600 g1_28]) eu_46 hP hD rfl (fun hP hD => ?_)
          rw [stF_nx] at hO2_45
          have hO_47 := rs_bd hO2_33 hO2_45
          have hL_48 := lenS_nx htb hO2_33 (relT_real hvt) hL_35
          refine lv_aload_n hx hb dX5_readFact_165 rfl (lv_at hl 1 rfl) ?_
          refine sk_get (v := .ref (q 55)) (C := RX5) (T := TX5) (N := 4) hx hb hts inlX5 hown hK hP 0 rfl rfl 1 (Nat.le_of_ble_eq_true rfl) w_1_155 rfl dX5_readFact_166 ?_
          refine lv_aload_n hx hb dX5_readFact_169 rfl (lv_at hl 1 rfl) ?_
          refine sk_get (v := .ref (q 56)) (C := RX5) (T := TX5) (N := 4) hx hb hts inlX5 hown hK hP 0 rfl rfl 2 (Nat.le_of_ble_eq_true rfl) w_1_156 rfl dX5_readFact_170 ?_
          refine sk_VvZ (q0 := 0) (n := 1) (rest := []) (wr := fmR om_7_3f _) ⟨hx, hb, hml, hown, hts⟩ hl.1 (c_esread l D cI cJ cC cZ cS zk zv zf dd q (q 55) 2 xa2_39 xv2_40 xo xt2_41 xz2_42 xf2_24 xp2_25 tl tb (q 56) (q 57) (q 58) (q 59) (q 60) c2_26 w2_27 g1_28 (bd (bindR og (apF (sumOf tb tl (rdPart tb tl 2 dd)))) (nxF tb tl)) hxa2_43 hxz2_44 htl htb hc2_31 hw2_32 (by omega) hdd hO_47 (lenO_S hL_48)) w_5_90 w_3_81 w_3_82 w_1_6 w_3_83 hd_X8_read_1 ⟨⟨(by dsimp only; omega), (by dsimp only; omega)⟩, (by dsimp only; omega), (by dsimp only; omega)⟩ hK hP hD hS hZ hA (fmT om_7_3f 0) (fmF om_7_3f 0) (fm_C1 rfl rfl) (fm_R rfl rfl) (fm_nT om_7_3f 0) (fm_nF om_7_3f 0) (fm_di om_7_3f 0) rfl rfl rfl rfl (Nat.le_of_ble_eq_true rfl) dX5_readFact_173 (fun u H locs hw hP hD hS => ?_)
          refine exE hw (fun xa2_49 hw1 => exE hw1 (fun xv2_50 hw2 => exE hw2 (fun xt2_51 hw3 => exE hw3 (fun xz2_52 hw4 => exE hw4 (fun xf2_53 hw5 => exE hw5 (fun xp2_54 hw6 => exE hw6 (fun c2_55 hw7 => exE hw7 (fun w2_56 hw8 => exE hw8 (fun g1_57 hw9 => anE hw9 (fun hxa2_58 hw10 => anE hw10 (fun hxz2_59 hw11 => anE hw11 (fun hc2_60 hw12 => anE hw12 (fun hw2_61 hw13 => anE hw13 (fun hO2_62 eu_63 => ?_))))))))))))))
          clear hw hw1 hw2 hw3 hw4 hw5 hw6 hw7 hw8 hw9 hw10 hw11 hw12 hw13
          refine o_mgE (ws' := [ro_rrri (q 4) 5 (q 2) (q 55) (q 56) vb, ro_ri (q 55) 8 (q 2) 2, ro_rnininii (q 2) 6 (q 0) xa2_49 xv2_50 xo xt2_51 xz2_52 xf2_53 xp2_54, ro_rn (q 0) 10 (q 20) tl, ra_N (q 20) cI 1600 tb, ro_rrrrnn (q 56) 0 (q 57) (q 58) (q 59) (q 60) c2_55 w2_56, ra_I (q 57) cI 1600 g1_57]) eu_63 hP hD rfl (fun hP hD => ?_)
          have hL_64 := lenS_ap (len_sum (tb := tb) (n := tl) (len_part (tb := tb) (n := tl) (kind := 2) dd)) hL_48
          refine lv_aload_n hx hb dX5_readFact_176 rfl (lv_at hl 1 rfl) ?_
          refine sk_get (v := .ref (q 56)) (C := RX5) (T := TX5) (N := 4) hx hb hts inlX5 hown hK hP 0 rfl rfl 2 (Nat.le_of_ble_eq_true rfl) w_1_156 rfl dX5_readFact_177 ?_
          refine lv_iload_n hx hb dX5_readFact_180 rfl (lv_at hl 0 rfl) ?_
          refine sk_Vv (q0 := 0) (n := 1) (rest := []) (wr := fmR om_7_3 _) ⟨hx, hb, hml, hown, hts⟩ hl.1 (c_eCode_addX l D cI cJ cC cZ cS (q 56) (q 57) (q 58) (q 59) (q 60) c2_55 w2_56 g1_57 r_36 (bindR (bd (bindR og (apF (sumOf tb tl (rdPart tb tl 2 dd)))) (nxF tb tl)) (apF (sumOf tb tl (rdPart tb tl 2 dd)))) vx hc2_60 hw2_61 hvr (by omega) (hO2_62).2 (rm_S hO2_62 htl hL_64)) w_5_83 w_3_98 w_3_99 w_1_8 w_3_100 hd_X0_add_1 ⟨⟨(by dsimp only; omega), (by dsimp only; omega)⟩, (by dsimp only; omega), (by dsimp only; omega)⟩ hK hP hD hS hA (fmT om_7_3 0) (fmF om_7_3 0) (fm_C1 rfl rfl) (fm_R rfl rfl) (fm_nT om_7_3 0) (fm_nF om_7_3 0) (fm_di om_7_3 0) rfl rfl rfl rfl (Nat.le_of_ble_eq_true rfl) dX5_readFact_181 (fun u H locs hw hP hD hS => ?_)
          refine exE hw (fun c2_65 hw1 => exE hw1 (fun w2_66 hw2 => exE hw2 (fun g1_67 hw3 => anE hw3 (fun hc2_68 hw4 => anE hw4 (fun hw2_69 hw5 => anE hw5 (fun hO2_70 eu_71 => ?_))))))
          clear hw hw1 hw2 hw3 hw4 hw5
          refine o_mgE (ws' := [ro_rrri (q 4) 5 (q 2) (q 55) (q 56) vb, ro_ri (q 55) 8 (q 2) 2, ro_rnininii (q 2) 6 (q 0) xa2_49 xv2_50 xo xt2_51 xz2_52 xf2_53 xp2_54, ro_rn (q 0) 10 (q 20) tl, ra_N (q 20) cI 1600 tb, ro_rrrrnn (q 56) 0 (q 57) (q 58) (q 59) (q 60) c2_65 w2_66, ra_I (q 57) cI 1600 g1_67]) eu_71 hP hD rfl (fun hP hD => ?_)
          have hO_72 := rs_ad hO2_62 hO2_70
          have hL_73 := lenO_ad (v := vx) hL_64
          exact sk_vret hx hb hr hlocks hK hP hD hS (⟨xa2_49, xv2_50, xt2_51, xz2_52, xf2_53, xp2_54, c2_65, w2_66, g1_67, hxa2_58, hxz2_59, hc2_68, hw2_69, by rw [← f_relY htb hO c_1 c_2 hw_19 hO2_33 hvt]; exact hO_72, rfl⟩) (Nat.le_of_ble_eq_true rfl) (Nat.le_of_ble_eq_true rfl) dX5_readFact_184
        · have hno := (hst_37.resolve_right (fun hq => by obtain ⟨v9, hv9, e9, -⟩ := hq; exact cm_9 hv9 (e9.symm.trans c_38))).2
          refine lv_aload_n hx hb dX5_readFact_148 rfl (lv_at hl 1 rfl) ?_
          refine sk_get (v := .ref (q 2)) (C := RX5) (T := TX5) (N := 4) hx hb hts inlX5 hown hK hP 0 rfl rfl 0 (Nat.le_of_ble_eq_true rfl) w_1_154 rfl dX5_readFact_149 ?_
          refine sk_Vv (q0 := 0) (n := 0) (rest := []) (wr := fmR om_7_10 _) ⟨hx, hb, hml, hown, hts⟩ hl.1 (c_erd_failHere l D cI cJ cC cZ cS q xa2_20 xv2_21 xo xt2_22 xz2_23 xf2_24 xp2_25 tl tb (rc (bindR og (apF (sumOf tb tl (rdPart tb tl 2 dd))))) hxz2_30 (hO2_33).1) w_5_94 w_3_55 w_3_56 w_1_4 w_3_57 hd_X6_failHere_0 ⟨⟨(by dsimp only; omega), (by dsimp only; omega)⟩, (by dsimp only; omega), (by dsimp only; omega)⟩ hK hP hD hS hA (fmT om_7_10 0) (fmF om_7_10 0) (fm_C1 rfl rfl) (fm_R rfl rfl) (fm_nT om_7_10 0) (fm_nF om_7_10 0) (fm_di om_7_10 0) rfl rfl rfl rfl (Nat.le_of_ble_eq_true rfl) dX5_readFact_152 (fun u H locs hw hP hD hS => ?_)
          refine exE hw (fun xf2_74 hw1 => exE hw1 (fun xp2_75 hw2 => anE hw2 (fun hO2_76 eu_77 => ?_)))
          clear hw hw1 hw2
          refine o_mgE (ws' := [ro_rrri (q 4) 5 (q 2) (q 55) (q 56) vb, ro_ri (q 55) 8 (q 2) 2, ro_rnininii (q 2) 6 (q 0) xa2_20 xv2_21 xo (-2) xz2_23 xf2_74 xp2_75, ro_rn (q 0) 10 (q 20) tl, ra_N (q 20) cI 1600 tb, ro_rrrrnn (q 56) 0 (q 57) (q 58) (q 59) (q 60) c2_26 w2_27, ra_I (q 57) cI 1600 g1_28]) eu_77 hP hD rfl (fun hP hD => ?_)
          have hO_78 := rs_bd hO2_33 hO2_76
          have hL_79 := lenO_bd (fwd_here (k := 1)) hL_35
          refine lv_goto (tgt := 184) hx hb dX5_readFact_155 (by decide) ?_
          exact sk_vret hx hb hr hlocks hK hP hD hS (⟨xa2_20, xv2_21, (-2), xz2_23, xf2_74, xp2_75, c2_26, w2_27, g1_28, hxa2_29, hxz2_30, hc2_31, hw2_32, by rw [← f_relN htb hO c_1 c_2 hw_19 hO2_33 hno.1 hno.2.1 hno.2.2]; exact hO_78, rfl⟩) (Nat.le_of_ble_eq_true rfl) (Nat.le_of_ble_eq_true rfl) dX5_readFact_184
      · have c_17 : ¬ (b_9 = 0) := fun h => c_17 ((neq b_9 0 (by omega) (Nat.le_of_ble_eq_true rfl)).mpr h)
        have hw_81 := (rr_1 hO2_14 (by omega)).1
        have hO_80 := rs_bd hO (rr_1 hO2_14 (by omega)).2
        have hL_82 := lenS_nx htb hO ⟨by rw [hw_81]; decide, by rw [hw_81]; decide⟩ hlen
        refine lv_aload_n hx hb dX5_readFact_110 rfl (lv_at hl 0 rfl) ?_
        refine sk_get (v := .ref (q 56)) (C := RX5) (T := TX5) (N := 4) hx hb hts inlX5 hown hK hP 0 rfl rfl 2 (Nat.le_of_ble_eq_true rfl) w_1_156 rfl dX5_readFact_111 ?_
        refine lv_iconst (v := 1) hx hb dX5_readFact_114 ic_1 ?_
        refine sk_Vv (q0 := 0) (n := 1) (rest := []) (wr := fmR om_7_3 _) ⟨hx, hb, hml, hown, hts⟩ hl.1 (c_eCode_addX l D cI cJ cC cZ cS (q 56) (q 57) (q 58) (q 59) (q 60) cl mw f1 1 (bd og (nxF tb tl)) 13 hcl hmw (by decide) (by omega) (hO_80).2 (rm_S hO_80 htl hL_82)) w_5_83 w_3_98 w_3_99 w_1_8 w_3_100 hd_X0_add_1 ⟨⟨(by dsimp only; omega), (by dsimp only; omega)⟩, (by dsimp only; omega), (by dsimp only; omega)⟩ hK hP hD hS hA (fmT om_7_3 0) (fmF om_7_3 0) (fm_C1 rfl rfl) (fm_R rfl rfl) (fm_nT om_7_3 0) (fm_nF om_7_3 0) (fm_di om_7_3 0) rfl rfl rfl rfl (Nat.le_of_ble_eq_true rfl) dX5_readFact_115 (fun u H locs hw hP hD hS => ?_)
        refine exE hw (fun c2_83 hw1 => exE hw1 (fun w2_84 hw2 => exE hw2 (fun g1_85 hw3 => anE hw3 (fun hc2_86 hw4 => anE hw4 (fun hw2_87 hw5 => anE hw5 (fun hO2_88 eu_89 => ?_))))))
        clear hw hw1 hw2 hw3 hw4 hw5
        refine o_mgE (ws' := [ro_rrri (q 4) 5 (q 2) (q 55) (q 56) vb, ro_ri (q 55) 8 (q 2) 2, ro_rnininii (q 2) 6 (q 0) xa2_3 xv2_4 xo xt2_5 xz2_6 xf2_7 xp2_8, ro_rn (q 0) 10 (q 20) tl, ra_N (q 20) cI 1600 tb, ro_rrrrnn (q 56) 0 (q 57) (q 58) (q 59) (q 60) c2_83 w2_84, ra_I (q 57) cI 1600 g1_85]) eu_89 hP hD rfl (fun hP hD => ?_)
        have hO_90 := rs_ad hO_80 hO2_88
        have hL_91 := lenO_ad (v := 13) hL_82
        refine lv_goto (tgt := 184) hx hb dX5_readFact_118 (by decide) ?_
        exact sk_vret hx hb hr hlocks hK hP hD hS (⟨xa2_3, xv2_4, xt2_5, xz2_6, xf2_7, xp2_8, c2_83, w2_84, g1_85, hxa2_11, hxz2_12, hc2_86, hw2_87, by rw [← f_all htb hO hw_81]; exact hO_90, rfl⟩) (Nat.le_of_ble_eq_true rfl) (Nat.le_of_ble_eq_true rfl) dX5_readFact_184
    · skip
      refine lv_aload_n hx hb dX5_readFact_62 rfl (lv_at hl 0 rfl) ?_
      refine sk_get (v := .ref (q 2)) (C := RX5) (T := TX5) (N := 4) hx hb hts inlX5 hown hK hP 0 rfl rfl 0 (Nat.le_of_ble_eq_true rfl) w_1_154 rfl dX5_readFact_63 ?_
      refine lv_bipush (v := 91) hx hb dX5_readFact_66 (by decide) ?_
      refine sk_ViZ (q0 := 0) (n := 1) (rest := []) (wr := fmR om_7_1c _) ⟨hx, hb, hml, hown, hts⟩ hl.1 (c_erd_opens l D cI cJ cC cZ cS zk zv zf q xa xv xo xt xz xf xp tl tb 91 (rc og) hxa hxz htl htb (by decide) (by omega) (hO).1) w_5_82 w_3_102 w_3_103 w_1_4 w_3_104 hd_X6_opens_1 ⟨⟨(by dsimp only; omega), (by dsimp only; omega)⟩, (by dsimp only; omega), (by dsimp only; omega)⟩ hK hP hD hS hZ hA (fmT om_7_1c 0) (fmF om_7_1c 0) (fm_C1 rfl rfl) (fm_R rfl rfl) (fm_nT om_7_1c 0) (fm_nF om_7_1c 0) (fm_di om_7_1c 0) rfl rfl rfl rfl (Nat.le_of_ble_eq_true rfl) dX5_readFact_68 (fun r_99 u H locs hw hP hD hS => ?_)
      refine exE hw (fun xa2_92 hw1 => exE hw1 (fun xv2_93 hw2 => exE hw2 (fun xt2_94 hw3 => exE hw3 (fun xz2_95 hw4 => exE hw4 (fun xf2_96 hw5 => exE hw5 (fun xp2_97 hw6 => exE hw6 (fun b_98 hw7 => anE hw7 (fun hxa2_100 hw8 => anE hw8 (fun hxz2_101 hw9 => anE hw9 (fun hb1_102 hw10 => anE hw10 (fun hO2_103 hw11 => anE hw11 (fun er_105 eu_104 => ?_))))))))))))
      clear hw hw1 hw2 hw3 hw4 hw5 hw6 hw7 hw8 hw9 hw10 hw11
      subst er_105
      refine o_mgE (ws' := [ro_rrri (q 4) 5 (q 2) (q 55) (q 56) vb, ro_ri (q 55) 8 (q 2) 2, ro_rnininii (q 2) 6 (q 0) xa2_92 xv2_93 (xo + b_98) xt2_94 xz2_95 xf2_96 xp2_97, ro_rn (q 0) 10 (q 20) tl, ra_N (q 20) cI 1600 tb, ro_rrrrnn (q 56) 0 (q 57) (q 58) (q 59) (q 60) cl mw, ra_I (q 57) cI 1600 f1]) eu_104 hP hD rfl (fun hP hD => ?_)
      have hO_106 := rs_bd hO hO2_103
      have hL_107 := lenS_op (n := tl) (w := 91) (xo := xo) htb (by decide) hlen
      refine lv_if_eq (tgt := 184) hx hb dX5_readFact_71 (by decide) (fun c_108 => ?_) (fun c_108 => ?_)
      · have c_108 : b_98 = 0 := (neq b_98 0 (by omega) (Nat.le_of_ble_eq_true rfl)).mp c_108
        obtain rfl : b_98 = 0 := by omega
        exact sk_vret hx hb hr hlocks hK hP hD hS (⟨xa2_92, xv2_93, xt2_94, xz2_95, xf2_96, xp2_97, cl, mw, f1, hxa2_100, hxz2_101, hcl, hmw, by rw [← f_sq0 (xo := xo) htb hO c_2 (rr_0 hb1_102 (by omega) c_2) (by have := rr_0 hb1_102 (by omega) c_2; omega)]; exact hO_106, rfl⟩) (Nat.le_of_ble_eq_true rfl) (Nat.le_of_ble_eq_true rfl) dX5_readFact_184
      · have c_108 : ¬ (b_98 = 0) := fun h => c_108 ((neq b_98 0 (by omega) (Nat.le_of_ble_eq_true rfl)).mpr h)
        have hxo1 := (rr_1 hb1_102 (by omega)).1
        obtain rfl : b_98 = 1 := by omega
        refine lv_aload_n hx hb dX5_readFact_74 rfl (lv_at hl 0 rfl) ?_
        refine sk_VvZ (q0 := 0) (n := 0) (rest := []) (wr := fmR om_7_7f _) ⟨hx, hb, hml, hown, hts⟩ hl.1 (ht (dd - 1) (by omega) q vb xa2_92 xv2_93 (xo + 1) xt2_94 xz2_95 xf2_96 xp2_97 tl tb cl mw f1 (bd og (opF tb tl 91 xo)) hxa2_100 hxz2_101 htl htb hcl hmw (by omega) hO_106 (lenO_S hL_107)) w_5_70 w_5_72 w_0_34 w_1_7 w_5_73 hd_X5_readTest_0 ⟨⟨(by dsimp only; omega), (by dsimp only; omega)⟩, (by dsimp only; omega), (by dsimp only; omega)⟩ hK hP hD hS hZ hA (fmT om_7_7f 0) (fmF om_7_7f 0) (fm_C1 rfl rfl) (fm_R rfl rfl) (fm_nT om_7_7f 0) (fm_nF om_7_7f 0) (fm_di om_7_7f 0) rfl rfl rfl rfl (Nat.le_of_ble_eq_true rfl) dX5_readFact_75 (fun u H locs hw hP hD hS => ?_)
        refine exE hw (fun xa2_109 hw1 => exE hw1 (fun xv2_110 hw2 => exE hw2 (fun xt2_111 hw3 => exE hw3 (fun xz2_112 hw4 => exE hw4 (fun xf2_113 hw5 => exE hw5 (fun xp2_114 hw6 => exE hw6 (fun c2_115 hw7 => exE hw7 (fun w2_116 hw8 => exE hw8 (fun g1_117 hw9 => anE hw9 (fun hxa2_118 hw10 => anE hw10 (fun hxz2_119 hw11 => anE hw11 (fun hc2_120 hw12 => anE hw12 (fun hw2_121 hw13 => anE hw13 (fun hO2_122 eu_123 => ?_))))))))))))))
        clear hw hw1 hw2 hw3 hw4 hw5 hw6 hw7 hw8 hw9 hw10 hw11 hw12 hw13
        refine o_mgE (ws' := [ro_rrri (q 4) 5 (q 2) (q 55) (q 56) vb, ro_ri (q 55) 8 (q 2) 2, ro_rnininii (q 2) 6 (q 0) xa2_109 xv2_110 (xo + 1) xt2_111 xz2_112 xf2_113 xp2_114, ro_rn (q 0) 10 (q 20) tl, ra_N (q 20) cI 1600 tb, ro_rrrrnn (q 56) 0 (q 57) (q 58) (q 59) (q 60) c2_115 w2_116, ra_I (q 57) cI 1600 g1_117]) eu_123 hP hD rfl (fun hP hD => ?_)
        have hL_124 := lenS_ap (len_test (tb := tb) (n := tl) (len_fc (tb := tb) (n := tl) (dd - 1))) hL_107
        refine lv_aload_n hx hb dX5_readFact_78 rfl (lv_at hl 0 rfl) ?_
        refine sk_get (v := .ref (q 2)) (C := RX5) (T := TX5) (N := 4) hx hb hts inlX5 hown hK hP 0 rfl rfl 0 (Nat.le_of_ble_eq_true rfl) w_1_154 rfl dX5_readFact_79 ?_
        refine sk_Vv (q0 := 0) (n := 0) (rest := []) (wr := fmR om_7_10 _) ⟨hx, hb, hml, hown, hts⟩ hl.1 (c_erd_shuts l D cI cJ cC cZ cS q xa2_109 xv2_110 (xo + 1) xt2_111 xz2_112 xf2_113 xp2_114 (by omega) (by omega)) w_5_84 w_3_106 w_3_107 w_1_4 w_3_108 hd_X6_shuts_0 ⟨⟨(by dsimp only; omega), (by dsimp only; omega)⟩, (by dsimp only; omega), (by dsimp only; omega)⟩ hK hP hD hS hA (fmT om_7_10 0) (fmF om_7_10 0) (fm_C1 rfl rfl) (fm_R rfl rfl) (fm_nT om_7_10 0) (fm_nF om_7_10 0) (fm_di om_7_10 0) rfl rfl rfl rfl (Nat.le_of_ble_eq_true rfl) dX5_readFact_82 (fun u H locs hw hP hD hS => ?_)
        refine o_mgE (ws' := [ro_rrri (q 4) 5 (q 2) (q 55) (q 56) vb, ro_ri (q 55) 8 (q 2) 2, ro_rnininii (q 2) 6 (q 0) xa2_109 xv2_110 ((xo + 1) - 1) xt2_111 xz2_112 xf2_113 xp2_114, ro_rn (q 0) 10 (q 20) tl, ra_N (q 20) cI 1600 tb, ro_rrrrnn (q 56) 0 (q 57) (q 58) (q 59) (q 60) c2_115 w2_116, ra_I (q 57) cI 1600 g1_117]) hw hP hD rfl (fun hP hD => ?_)
        refine lv_aload_n hx hb dX5_readFact_85 rfl (lv_at hl 0 rfl) ?_
        refine sk_get (v := .ref (q 2)) (C := RX5) (T := TX5) (N := 4) hx hb hts inlX5 hown hK hP 0 rfl rfl 0 (Nat.le_of_ble_eq_true rfl) w_1_154 rfl dX5_readFact_86 ?_
        refine lv_bipush (v := 93) hx hb dX5_readFact_89 (by decide) ?_
        refine sk_VvZ (q0 := 0) (n := 1) (rest := []) (wr := fmR om_7_1c _) ⟨hx, hb, hml, hown, hts⟩ hl.1 (c_erd_needs l D cI cJ cC cZ cS zk zv zf q xa2_109 xv2_110 ((xo + 1) - 1) xt2_111 xz2_112 xf2_113 xp2_114 tl tb 93 (rc (bindR (bd og (opF tb tl 91 xo)) (apF (testR tb tl (fcR tb tl (dd - 1)))))) hxa2_118 hxz2_119 htl htb (by decide) (hO2_122).1) w_5_85 w_3_51 w_3_52 w_1_4 w_3_53 hd_X6_needs_1 ⟨⟨(by dsimp only; omega), (by dsimp only; omega)⟩, (by dsimp only; omega), (by dsimp only; omega)⟩ hK hP hD hS hZ hA (fmT om_7_1c 0) (fmF om_7_1c 0) (fm_C1 rfl rfl) (fm_R rfl rfl) (fm_nT om_7_1c 0) (fm_nF om_7_1c 0) (fm_di om_7_1c 0) rfl rfl rfl rfl (Nat.le_of_ble_eq_true rfl) dX5_readFact_91 (fun u H locs hw hP hD hS => ?_)
        refine exE hw (fun xa2_125 hw1 => exE hw1 (fun xv2_126 hw2 => exE hw2 (fun xt2_127 hw3 => exE hw3 (fun xz2_128 hw4 => exE hw4 (fun xf2_129 hw5 => exE hw5 (fun xp2_130 hw6 => anE hw6 (fun hxa2_131 hw7 => anE hw7 (fun hxz2_132 hw8 => anE hw8 (fun hO2_133 eu_134 => ?_)))))))))
        clear hw hw1 hw2 hw3 hw4 hw5 hw6 hw7 hw8
        refine o_mgE (ws' := [ro_rrri (q 4) 5 (q 2) (q 55) (q 56) vb, ro_ri (q 55) 8 (q 2) 2, ro_rnininii (q 2) 6 (q 0) xa2_125 xv2_126 ((xo + 1) - 1) xt2_127 xz2_128 xf2_129 xp2_130, ro_rn (q 0) 10 (q 20) tl, ra_N (q 20) cI 1600 tb, ro_rrrrnn (q 56) 0 (q 57) (q 58) (q 59) (q 60) c2_115 w2_116, ra_I (q 57) cI 1600 g1_117]) eu_134 hP hD rfl (fun hP hD => ?_)
        have hO_135 := rs_bd hO2_122 hO2_133
        have hL_136 := lenS_bd (fwd_tk (tb := tb) (n := tl) (w := 93)) hL_124
        refine lv_goto (tgt := 184) hx hb dX5_readFact_94 (by decide) ?_
        exact sk_vret hx hb hr hlocks hK hP hD hS (⟨xa2_125, xv2_126, xt2_127, xz2_128, xf2_129, xp2_130, c2_115, w2_116, g1_117, hxa2_131, hxz2_132, hc2_120, hw2_121, by rw [← f_sq (xo := xo) htb hO c_2 (by omega) (by omega)]; exact hO_135, rfl⟩) (Nat.le_of_ble_eq_true rfl) (Nat.le_of_ble_eq_true rfl) dX5_readFact_184
  · skip
    refine lv_aload_n hx hb dX5_readFact_13 rfl (lv_at hl 0 rfl) ?_
    refine sk_get (v := .ref (q 2)) (C := RX5) (T := TX5) (N := 4) hx hb hts inlX5 hown hK hP 0 rfl rfl 0 (Nat.le_of_ble_eq_true rfl) w_1_154 rfl dX5_readFact_14 ?_
    refine lv_sipush (v := 275) hx hb dX5_readFact_17 (by decide) ?_
    refine sk_ViZ (q0 := 0) (n := 1) (rest := []) (wr := fmR om_7_1c _) ⟨hx, hb, hml, hown, hts⟩ hl.1 (c_erd_opens l D cI cJ cC cZ cS zk zv zf q xa xv xo xt xz xf xp tl tb 275 (rc og) hxa hxz htl htb (by decide) (by omega) (hO).1) w_5_82 w_3_102 w_3_103 w_1_4 w_3_104 hd_X6_opens_1 ⟨⟨(by dsimp only; omega), (by dsimp only; omega)⟩, (by dsimp only; omega), (by dsimp only; omega)⟩ hK hP hD hS hZ hA (fmT om_7_1c 0) (fmF om_7_1c 0) (fm_C1 rfl rfl) (fm_R rfl rfl) (fm_nT om_7_1c 0) (fm_nF om_7_1c 0) (fm_di om_7_1c 0) rfl rfl rfl rfl (Nat.le_of_ble_eq_true rfl) dX5_readFact_20 (fun r_144 u H locs hw hP hD hS => ?_)
    refine exE hw (fun xa2_137 hw1 => exE hw1 (fun xv2_138 hw2 => exE hw2 (fun xt2_139 hw3 => exE hw3 (fun xz2_140 hw4 => exE hw4 (fun xf2_141 hw5 => exE hw5 (fun xp2_142 hw6 => exE hw6 (fun b_143 hw7 => anE hw7 (fun hxa2_145 hw8 => anE hw8 (fun hxz2_146 hw9 => anE hw9 (fun hb1_147 hw10 => anE hw10 (fun hO2_148 hw11 => anE hw11 (fun er_150 eu_149 => ?_))))))))))))
    clear hw hw1 hw2 hw3 hw4 hw5 hw6 hw7 hw8 hw9 hw10 hw11
    subst er_150
    refine o_mgE (ws' := [ro_rrri (q 4) 5 (q 2) (q 55) (q 56) vb, ro_ri (q 55) 8 (q 2) 2, ro_rnininii (q 2) 6 (q 0) xa2_137 xv2_138 (xo + b_143) xt2_139 xz2_140 xf2_141 xp2_142, ro_rn (q 0) 10 (q 20) tl, ra_N (q 20) cI 1600 tb, ro_rrrrnn (q 56) 0 (q 57) (q 58) (q 59) (q 60) cl mw, ra_I (q 57) cI 1600 f1]) eu_149 hP hD rfl (fun hP hD => ?_)
    have hO_151 := rs_bd hO hO2_148
    have hL_152 := lenS_op (n := tl) (w := 275) (xo := xo) htb (by decide) hlen
    refine lv_if_eq (tgt := 184) hx hb dX5_readFact_23 (by decide) (fun c_153 => ?_) (fun c_153 => ?_)
    · have c_153 : b_143 = 0 := (neq b_143 0 (by omega) (Nat.le_of_ble_eq_true rfl)).mp c_153
      obtain rfl : b_143 = 0 := by omega
      exact sk_vret hx hb hr hlocks hK hP hD hS (⟨xa2_137, xv2_138, xt2_139, xz2_140, xf2_141, xp2_142, cl, mw, f1, hxa2_145, hxz2_146, hcl, hmw, by rw [← f_not0 (xo := xo) htb hO c_1 (rr_0 hb1_147 (by omega) c_1) (by have := rr_0 hb1_147 (by omega) c_1; omega)]; exact hO_151, rfl⟩) (Nat.le_of_ble_eq_true rfl) (Nat.le_of_ble_eq_true rfl) dX5_readFact_184
    · have c_153 : ¬ (b_143 = 0) := fun h => c_153 ((neq b_143 0 (by omega) (Nat.le_of_ble_eq_true rfl)).mpr h)
      have hxo1 := (rr_1 hb1_147 (by omega)).1
      obtain rfl : b_143 = 1 := by omega
      refine lv_aload_n hx hb dX5_readFact_26 rfl (lv_at hl 0 rfl) ?_
      refine sk_VvZ (q0 := 0) (n := 0) (rest := []) (wr := fmR om_7_7f _) ⟨hx, hb, hml, hown, hts⟩ hl.1 (hf (dd - 1) (by omega) q vb xa2_137 xv2_138 (xo + 1) xt2_139 xz2_140 xf2_141 xp2_142 tl tb cl mw f1 (bd og (opF tb tl 275 xo)) hxa2_145 hxz2_146 htl htb hcl hmw (by omega) hO_151 (lenO_S hL_152)) w_5_78 w_5_80 w_0_36 w_1_7 w_5_81 hd_X5_readFact_0 ⟨⟨(by dsimp only; omega), (by dsimp only; omega)⟩, (by dsimp only; omega), (by dsimp only; omega)⟩ hK hP hD hS hZ hA (fmT om_7_7f 0) (fmF om_7_7f 0) (fm_C1 rfl rfl) (fm_R rfl rfl) (fm_nT om_7_7f 0) (fm_nF om_7_7f 0) (fm_di om_7_7f 0) rfl rfl rfl rfl (Nat.le_of_ble_eq_true rfl) dX5_readFact_27 (fun u H locs hw hP hD hS => ?_)
      refine exE hw (fun xa2_154 hw1 => exE hw1 (fun xv2_155 hw2 => exE hw2 (fun xt2_156 hw3 => exE hw3 (fun xz2_157 hw4 => exE hw4 (fun xf2_158 hw5 => exE hw5 (fun xp2_159 hw6 => exE hw6 (fun c2_160 hw7 => exE hw7 (fun w2_161 hw8 => exE hw8 (fun g1_162 hw9 => anE hw9 (fun hxa2_163 hw10 => anE hw10 (fun hxz2_164 hw11 => anE hw11 (fun hc2_165 hw12 => anE hw12 (fun hw2_166 hw13 => anE hw13 (fun hO2_167 eu_168 => ?_))))))))))))))
      clear hw hw1 hw2 hw3 hw4 hw5 hw6 hw7 hw8 hw9 hw10 hw11 hw12 hw13
      refine o_mgE (ws' := [ro_rrri (q 4) 5 (q 2) (q 55) (q 56) vb, ro_ri (q 55) 8 (q 2) 2, ro_rnininii (q 2) 6 (q 0) xa2_154 xv2_155 (xo + 1) xt2_156 xz2_157 xf2_158 xp2_159, ro_rn (q 0) 10 (q 20) tl, ra_N (q 20) cI 1600 tb, ro_rrrrnn (q 56) 0 (q 57) (q 58) (q 59) (q 60) c2_160 w2_161, ra_I (q 57) cI 1600 g1_162]) eu_168 hP hD rfl (fun hP hD => ?_)
      have hL_169 := lenS_ap (len_fc (tb := tb) (n := tl) (dd - 1)) hL_152
      refine lv_aload_n hx hb dX5_readFact_30 rfl (lv_at hl 0 rfl) ?_
      refine sk_get (v := .ref (q 56)) (C := RX5) (T := TX5) (N := 4) hx hb hts inlX5 hown hK hP 0 rfl rfl 2 (Nat.le_of_ble_eq_true rfl) w_1_156 rfl dX5_readFact_31 ?_
      refine lv_sipush (v := 20001) hx hb dX5_readFact_34 (by decide) ?_
      refine sk_Vv (q0 := 0) (n := 1) (rest := []) (wr := fmR om_7_3 _) ⟨hx, hb, hml, hown, hts⟩ hl.1 (c_eCode_addX l D cI cJ cC cZ cS (q 56) (q 57) (q 58) (q 59) (q 60) c2_160 w2_161 g1_162 20001 (bindR (bd og (opF tb tl 275 xo)) (apF (fcR tb tl (dd - 1)))) 12 hc2_165 hw2_166 (by decide) (by omega) (hO2_167).2 (rm_S hO2_167 htl hL_169)) w_5_83 w_3_98 w_3_99 w_1_8 w_3_100 hd_X0_add_1 ⟨⟨(by dsimp only; omega), (by dsimp only; omega)⟩, (by dsimp only; omega), (by dsimp only; omega)⟩ hK hP hD hS hA (fmT om_7_3 0) (fmF om_7_3 0) (fm_C1 rfl rfl) (fm_R rfl rfl) (fm_nT om_7_3 0) (fm_nF om_7_3 0) (fm_di om_7_3 0) rfl rfl rfl rfl (Nat.le_of_ble_eq_true rfl) dX5_readFact_37 (fun u H locs hw hP hD hS => ?_)
      refine exE hw (fun c2_170 hw1 => exE hw1 (fun w2_171 hw2 => exE hw2 (fun g1_172 hw3 => anE hw3 (fun hc2_173 hw4 => anE hw4 (fun hw2_174 hw5 => anE hw5 (fun hO2_175 eu_176 => ?_))))))
      clear hw hw1 hw2 hw3 hw4 hw5
      refine o_mgE (ws' := [ro_rrri (q 4) 5 (q 2) (q 55) (q 56) vb, ro_ri (q 55) 8 (q 2) 2, ro_rnininii (q 2) 6 (q 0) xa2_154 xv2_155 (xo + 1) xt2_156 xz2_157 xf2_158 xp2_159, ro_rn (q 0) 10 (q 20) tl, ra_N (q 20) cI 1600 tb, ro_rrrrnn (q 56) 0 (q 57) (q 58) (q 59) (q 60) c2_170 w2_171, ra_I (q 57) cI 1600 g1_172]) eu_176 hP hD rfl (fun hP hD => ?_)
      have hO_177 := rs_ad hO2_167 hO2_175
      have hL_178 := lenO_ad (v := 12) hL_169
      refine lv_aload_n hx hb dX5_readFact_40 rfl (lv_at hl 0 rfl) ?_
      refine sk_get (v := .ref (q 2)) (C := RX5) (T := TX5) (N := 4) hx hb hts inlX5 hown hK hP 0 rfl rfl 0 (Nat.le_of_ble_eq_true rfl) w_1_154 rfl dX5_readFact_41 ?_
      refine sk_Vv (q0 := 0) (n := 0) (rest := []) (wr := fmR om_7_10 _) ⟨hx, hb, hml, hown, hts⟩ hl.1 (c_erd_shuts l D cI cJ cC cZ cS q xa2_154 xv2_155 (xo + 1) xt2_156 xz2_157 xf2_158 xp2_159 (by omega) (by omega)) w_5_84 w_3_106 w_3_107 w_1_4 w_3_108 hd_X6_shuts_0 ⟨⟨(by dsimp only; omega), (by dsimp only; omega)⟩, (by dsimp only; omega), (by dsimp only; omega)⟩ hK hP hD hS hA (fmT om_7_10 0) (fmF om_7_10 0) (fm_C1 rfl rfl) (fm_R rfl rfl) (fm_nT om_7_10 0) (fm_nF om_7_10 0) (fm_di om_7_10 0) rfl rfl rfl rfl (Nat.le_of_ble_eq_true rfl) dX5_readFact_44 (fun u H locs hw hP hD hS => ?_)
      refine o_mgE (ws' := [ro_rrri (q 4) 5 (q 2) (q 55) (q 56) vb, ro_ri (q 55) 8 (q 2) 2, ro_rnininii (q 2) 6 (q 0) xa2_154 xv2_155 ((xo + 1) - 1) xt2_156 xz2_157 xf2_158 xp2_159, ro_rn (q 0) 10 (q 20) tl, ra_N (q 20) cI 1600 tb, ro_rrrrnn (q 56) 0 (q 57) (q 58) (q 59) (q 60) c2_170 w2_171, ra_I (q 57) cI 1600 g1_172]) hw hP hD rfl (fun hP hD => ?_)
      refine lv_goto (tgt := 184) hx hb dX5_readFact_47 (by decide) ?_
      exact sk_vret hx hb hr hlocks hK hP hD hS (⟨xa2_154, xv2_155, xt2_156, xz2_157, xf2_158, xp2_159, c2_170, w2_171, g1_172, hxa2_163, hxz2_164, hc2_173, hw2_174, by rw [← f_not (xo := xo) htb hO c_1 (by omega) (by omega)]; exact hO_177, rfl⟩) (Nat.le_of_ble_eq_true rfl) (Nat.le_of_ble_eq_true rfl) dX5_readFact_184
set_option maxHeartbeats 4000000 in
set_option maxRecDepth 100000 in
theorem c_ereadBoth (l : Launch) (D : va_G) (cI cJ cC cZ cS : ClassId) (zk zv : Nat) (zf : Value) (dd : Nat) (hq : CT_ereadFact l D cI cJ cC cZ cS zk zv zf dd) : CT_ereadBoth l D cI cJ cC cZ cS zk zv zf dd := by
  intro q vb xa xv xo xt xz xf xp tl tb cl mw f1 og hxa hxz htl htb hcl hmw hdd hO hlen
  refine skMZ_of pf_X5_readBoth (Nat.le_of_ble_eq_true rfl) ?_
  intro p e s m below meth c A ls E hP hD hZ hl
  refine skE_el E (fun hx hb hr hml hlocks hin hown hts hK hA => ?_)
  have hown : s.vm.findClass RX5 = some m.cls := hown
  have hS : va_S A s.heap s.heap [] := va_S.rf
  have hl : lv_has ls 2 [(0, .ref (q 4))] := hl
  refine lv_aload_n hx hb dX5_readBoth_0 rfl (lv_at hl 0 rfl) ?_
  refine sk_VvZ (q0 := 0) (n := 0) (rest := []) (wr := fmR om_7_7f _) ⟨hx, hb, hml, hown, hts⟩ hl.1 (hq q vb xa xv xo xt xz xf xp tl tb cl mw f1 og hxa hxz htl htb hcl hmw hdd hO hlen) w_5_78 w_5_80 w_0_36 w_1_7 w_5_81 hd_X5_readFact_0 ⟨⟨(by dsimp only; omega), (by dsimp only; omega)⟩, (by dsimp only; omega), (by dsimp only; omega)⟩ hK hP hD hS hZ hA (fmT om_7_7f 0) (fmF om_7_7f 0) (fm_C1 rfl rfl) (fm_R rfl rfl) (fm_nT om_7_7f 0) (fm_nF om_7_7f 0) (fm_di om_7_7f 0) rfl rfl rfl rfl (Nat.le_of_ble_eq_true rfl) dX5_readBoth_1 (fun u H locs hw hP hD hS => ?_)
  refine exE hw (fun xa2_1 hw1 => exE hw1 (fun xv2_2 hw2 => exE hw2 (fun xt2_3 hw3 => exE hw3 (fun xz2_4 hw4 => exE hw4 (fun xf2_5 hw5 => exE hw5 (fun xp2_6 hw6 => exE hw6 (fun c2_7 hw7 => exE hw7 (fun w2_8 hw8 => exE hw8 (fun g1_9 hw9 => anE hw9 (fun hxa2_10 hw10 => anE hw10 (fun hxz2_11 hw11 => anE hw11 (fun hc2_12 hw12 => anE hw12 (fun hw2_13 hw13 => anE hw13 (fun hO2_14 eu_15 => ?_))))))))))))))
  clear hw hw1 hw2 hw3 hw4 hw5 hw6 hw7 hw8 hw9 hw10 hw11 hw12 hw13
  refine o_mgE (ws' := [ro_rrri (q 4) 5 (q 2) (q 55) (q 56) vb, ro_ri (q 55) 8 (q 2) 2, ro_rnininii (q 2) 6 (q 0) xa2_1 xv2_2 xo xt2_3 xz2_4 xf2_5 xp2_6, ro_rn (q 0) 10 (q 20) tl, ra_N (q 20) cI 1600 tb, ro_rrrrnn (q 56) 0 (q 57) (q 58) (q 59) (q 60) c2_7 w2_8, ra_I (q 57) cI 1600 g1_9]) eu_15 hP hD rfl (fun hP hD => ?_)
  have hL_16 := lenO_ap (len_fc (tb := tb) (n := tl) dd) hlen
  refine lv_iconst (v := 0) hx hb dX5_readBoth_4 ic_0 ?_
  refine lv_istore_n (lv' := [(1, .int 0), (0, .ref (q 4))]) hx hb dX5_readBoth_5 rfl hl (by decide) rfl (fun ls hl => ?_)
  have lp_17 : ∀ (n_18 : Nat) (i : Nat) (za : Nat) (zw : Int32) (zt : Int32) (zz : Nat) (zg : Int32) (zp : Int32) (yc : Nat) (yw : Nat) (yf : Nat → Int32) (zo : Res) (H : Heap) (locs : List Loc) (ls : Array Slot), 1600 - i < n_18 → (rsO tb tl zo za zw zt zz zg zp yc yw yf) → (i ≤ 1600) → (za ≤ 1600) → (zz ≤ 1600) → (yc ≤ 1600) → (yw ≤ 1) → (lenO zo) → (iO i zo) → (bindR zo (fun r => andR tb tl (fcR tb tl dd) (tl + 2) r.1 r.2) = bindR og (apF (bothR tb tl (fcR tb tl dd)))) → va_P D vwCl [ro_rrri (q 4) 5 (q 2) (q 55) (q 56) vb, ro_ri (q 55) 8 (q 2) 2, ro_rnininii (q 2) 6 (q 0) za zw xo zt zz zg zp, ro_rn (q 0) 10 (q 20) tl, ra_N (q 20) cI 1600 tb, ro_rrrrnn (q 56) 0 (q 57) (q 58) (q 59) (q 60) yc yw, ra_I (q 57) cI 1600 yf] H → va_D A [ro_rrri (q 4) 5 (q 2) (q 55) (q 56) vb, ro_ri (q 55) 8 (q 2) 2, ro_rnininii (q 2) 6 (q 0) za zw xo zt zz zg zp, ro_rn (q 0) 10 (q 20) tl, ra_N (q 20) cI 1600 tb, ro_rrrrnn (q 56) 0 (q 57) (q 58) (q 59) (q 60) yc yw, ra_I (q 57) cI 1600 yf] → va_S A s.heap H locs → lv_has ls 2 [(1, .int (nI i)), (0, .ref (q 4))] → W p l e { frames := 41 + 8 * dd, cells := 0, slots := 0, locals := 925 + 200 * dd } s m ([.ref (q 4)] : List Value).toArray below meth c H locs 0 0 (MQ below (skV D (skT cI cJ cC cZ cS) (fun (u : va_W) => ∃ (xa2 : Nat), ∃ (xv2 : Int32), ∃ (xt2 : Int32), ∃ (xz2 : Nat), ∃ (xf2 : Int32), ∃ (xp2 : Int32), ∃ (c2 : Nat), ∃ (w2 : Nat), ∃ (g1 : Nat → Int32), xa2 ≤ 1600 ∧ xz2 ≤ 1600 ∧ c2 ≤ 1600 ∧ w2 ≤ 1 ∧ rsO tb tl (bindR og (apF (bothR tb tl (fcR tb tl dd)))) xa2 xv2 xt2 xz2 xf2 xp2 c2 w2 g1 ∧ u = [ro_rrri (q 4) 5 (q 2) (q 55) (q 56) vb, ro_ri (q 55) 8 (q 2) 2, ro_rnininii (q 2) 6 (q 0) xa2 xv2 xo xt2 xz2 xf2 xp2, ro_rn (q 0) 10 (q 20) tl, ra_N (q 20) cI 1600 tb, ro_rrrrnn (q 56) 0 (q 57) (q 58) (q 59) (q 60) c2 w2, ra_I (q 57) cI 1600 g1]) A) ([.ref (q 4)] : List Value).toArray s 0 0 A) (F0 m 6 ls []) := by
    intro n_18
    induction n_18 with
    | zero => intro i za zw zt zz zg zp yc yw yf zo H locs ls hm; exact absurd hm (Nat.not_lt_zero _)
    | succ n_18 ih_lp_17 =>
      intro i za zw zt zz zg zp yc yw yf zo H locs ls hm hzO hi hza hzz hyc hyw hzl hiO hrem hP hD hS hl
      refine lv_iload_n hx hb dX5_readBoth_6 rfl (lv_at hl 0 rfl) ?_
      refine lv_sipush (v := 1600) hx hb dX5_readBoth_7 (by decide) ?_
      refine lv_icmp_ge (tgt := 46) hx hb dX5_readBoth_10 (by decide) (fun c_19 => ?_) (fun c_19 => ?_)
      · have c_19 : 1600 ≤ i := (nle 1600 i (Nat.le_of_ble_eq_true rfl) (by omega)).mp c_19
        exact sk_vret hx hb hr hlocks hK hP hD hS (⟨za, zw, zt, zz, zg, zp, yc, yw, yf, hza, hzz, hyc, hyw, both_e htb hzO htl hiO (Or.inl (by omega)) hrem hzO, rfl⟩) (Nat.le_of_ble_eq_true rfl) (Nat.le_of_ble_eq_true rfl) dX5_readBoth_46
      · have c_19 : ¬ (1600 ≤ i) := fun h => c_19 ((nle 1600 i (Nat.le_of_ble_eq_true rfl) (by omega)).mpr h)
        refine lv_aload_n hx hb dX5_readBoth_13 rfl (lv_at hl 1 rfl) ?_
        refine sk_get (v := .ref (q 2)) (C := RX5) (T := TX5) (N := 4) hx hb hts inlX5 hown hK hP 0 rfl rfl 0 (Nat.le_of_ble_eq_true rfl) w_1_154 rfl dX5_readBoth_14 ?_
        refine lv_sipush (v := 274) hx hb dX5_readBoth_17 (by decide) ?_
        refine sk_ViZ (q0 := 0) (n := 1) (rest := []) (wr := fmR om_7_1c _) ⟨hx, hb, hml, hown, hts⟩ hl.1 (c_erd_takes l D cI cJ cC cZ cS zk zv zf q za zw xo zt zz zg zp tl tb 274 (rc zo) hza hzz htl htb (by decide) (hzO).1) w_5_86 w_5_87 w_5_88 w_1_4 w_5_89 hd_X6_takes_1 ⟨⟨(by dsimp only; omega), (by dsimp only; omega)⟩, (by dsimp only; omega), (by dsimp only; omega)⟩ hK hP hD hS hZ hA (fmT om_7_1c 0) (fmF om_7_1c 0) (fm_C1 rfl rfl) (fm_R rfl rfl) (fm_nT om_7_1c 0) (fm_nF om_7_1c 0) (fm_di om_7_1c 0) rfl rfl rfl rfl (Nat.le_of_ble_eq_true rfl) dX5_readBoth_20 (fun r_27 u H locs hw hP hD hS => ?_)
        refine exE hw (fun xa2_20 hw1 => exE hw1 (fun xv2_21 hw2 => exE hw2 (fun xt2_22 hw3 => exE hw3 (fun xz2_23 hw4 => exE hw4 (fun xf2_24 hw5 => exE hw5 (fun xp2_25 hw6 => exE hw6 (fun b_26 hw7 => anE hw7 (fun hxa2_28 hw8 => anE hw8 (fun hxz2_29 hw9 => anE hw9 (fun hb1_30 hw10 => anE hw10 (fun hO2_31 hw11 => anE hw11 (fun er_33 eu_32 => ?_))))))))))))
        clear hw hw1 hw2 hw3 hw4 hw5 hw6 hw7 hw8 hw9 hw10 hw11
        subst er_33
        refine o_mgE (ws' := [ro_rrri (q 4) 5 (q 2) (q 55) (q 56) vb, ro_ri (q 55) 8 (q 2) 2, ro_rnininii (q 2) 6 (q 0) xa2_20 xv2_21 xo xt2_22 xz2_23 xf2_24 xp2_25, ro_rn (q 0) 10 (q 20) tl, ra_N (q 20) cI 1600 tb, ro_rrrrnn (q 56) 0 (q 57) (q 58) (q 59) (q 60) yc yw, ra_I (q 57) cI 1600 yf]) eu_32 hP hD rfl (fun hP hD => ?_)
        refine lv_if_eq (tgt := 46) hx hb dX5_readBoth_23 (by decide) (fun c_34 => ?_) (fun c_34 => ?_)
        · have c_34 : b_26 = 0 := (neq b_26 0 (by omega) (Nat.le_of_ble_eq_true rfl)).mp c_34
          have hw_36 := (rr_0 hO2_31 (by omega)).1
          have hO_35 := rs_re hzO (rr_0 hO2_31 (by omega)).2
          exact sk_vret hx hb hr hlocks hK hP hD hS (⟨xa2_20, xv2_21, xt2_22, xz2_23, xf2_24, xp2_25, yc, yw, yf, hxa2_28, hxz2_29, hyc, hyw, both_e htb hzO htl hiO (Or.inr hw_36) hrem hO_35, rfl⟩) (Nat.le_of_ble_eq_true rfl) (Nat.le_of_ble_eq_true rfl) dX5_readBoth_46
        · have c_34 : ¬ (b_26 = 0) := fun h => c_34 ((neq b_26 0 (by omega) (Nat.le_of_ble_eq_true rfl)).mpr h)
          have hw_38 := (rr_1 hO2_31 (by omega)).1
          have hO_37 := rs_bd hzO (rr_1 hO2_31 (by omega)).2
          have hL_39 := lenS_nx htb hzO ⟨by rw [hw_38]; decide, by rw [hw_38]; decide⟩ hzl
          refine lv_aload_n hx hb dX5_readBoth_26 rfl (lv_at hl 1 rfl) ?_
          refine sk_VvZ (q0 := 0) (n := 0) (rest := []) (wr := fmR om_7_7f _) ⟨hx, hb, hml, hown, hts⟩ hl.1 (hq q vb xa2_20 xv2_21 xo xt2_22 xz2_23 xf2_24 xp2_25 tl tb yc yw yf (bd zo (nxF tb tl)) hxa2_28 hxz2_29 htl htb hyc hyw hdd hO_37 (lenO_S hL_39)) w_5_78 w_5_80 w_0_36 w_1_7 w_5_81 hd_X5_readFact_0 ⟨⟨(by dsimp only; omega), (by dsimp only; omega)⟩, (by dsimp only; omega), (by dsimp only; omega)⟩ hK hP hD hS hZ hA (fmT om_7_7f 0) (fmF om_7_7f 0) (fm_C1 rfl rfl) (fm_R rfl rfl) (fm_nT om_7_7f 0) (fm_nF om_7_7f 0) (fm_di om_7_7f 0) rfl rfl rfl rfl (Nat.le_of_ble_eq_true rfl) dX5_readBoth_27 (fun u H locs hw hP hD hS => ?_)
          refine exE hw (fun xa2_40 hw1 => exE hw1 (fun xv2_41 hw2 => exE hw2 (fun xt2_42 hw3 => exE hw3 (fun xz2_43 hw4 => exE hw4 (fun xf2_44 hw5 => exE hw5 (fun xp2_45 hw6 => exE hw6 (fun c2_46 hw7 => exE hw7 (fun w2_47 hw8 => exE hw8 (fun g1_48 hw9 => anE hw9 (fun hxa2_49 hw10 => anE hw10 (fun hxz2_50 hw11 => anE hw11 (fun hc2_51 hw12 => anE hw12 (fun hw2_52 hw13 => anE hw13 (fun hO2_53 eu_54 => ?_))))))))))))))
          clear hw hw1 hw2 hw3 hw4 hw5 hw6 hw7 hw8 hw9 hw10 hw11 hw12 hw13
          refine o_mgE (ws' := [ro_rrri (q 4) 5 (q 2) (q 55) (q 56) vb, ro_ri (q 55) 8 (q 2) 2, ro_rnininii (q 2) 6 (q 0) xa2_40 xv2_41 xo xt2_42 xz2_43 xf2_44 xp2_45, ro_rn (q 0) 10 (q 20) tl, ra_N (q 20) cI 1600 tb, ro_rrrrnn (q 56) 0 (q 57) (q 58) (q 59) (q 60) c2_46 w2_47, ra_I (q 57) cI 1600 g1_48]) eu_54 hP hD rfl (fun hP hD => ?_)
          have hL_55 := lenS_ap (len_fc (tb := tb) (n := tl) dd) hL_39
          refine lv_aload_n hx hb dX5_readBoth_30 rfl (lv_at hl 1 rfl) ?_
          refine sk_get (v := .ref (q 56)) (C := RX5) (T := TX5) (N := 4) hx hb hts inlX5 hown hK hP 0 rfl rfl 2 (Nat.le_of_ble_eq_true rfl) w_1_156 rfl dX5_readBoth_31 ?_
          refine lv_sipush (v := 30009) hx hb dX5_readBoth_34 (by decide) ?_
          refine sk_Vv (q0 := 0) (n := 1) (rest := []) (wr := fmR om_7_3 _) ⟨hx, hb, hml, hown, hts⟩ hl.1 (c_eCode_addX l D cI cJ cC cZ cS (q 56) (q 57) (q 58) (q 59) (q 60) c2_46 w2_47 g1_48 30009 (bindR (bd zo (nxF tb tl)) (apF (fcR tb tl dd))) 10 hc2_51 hw2_52 (by decide) (by omega) (hO2_53).2 (rm_S hO2_53 htl hL_55)) w_5_83 w_3_98 w_3_99 w_1_8 w_3_100 hd_X0_add_1 ⟨⟨(by dsimp only; omega), (by dsimp only; omega)⟩, (by dsimp only; omega), (by dsimp only; omega)⟩ hK hP hD hS hA (fmT om_7_3 0) (fmF om_7_3 0) (fm_C1 rfl rfl) (fm_R rfl rfl) (fm_nT om_7_3 0) (fm_nF om_7_3 0) (fm_di om_7_3 0) rfl rfl rfl rfl (Nat.le_of_ble_eq_true rfl) dX5_readBoth_37 (fun u H locs hw hP hD hS => ?_)
          refine exE hw (fun c2_56 hw1 => exE hw1 (fun w2_57 hw2 => exE hw2 (fun g1_58 hw3 => anE hw3 (fun hc2_59 hw4 => anE hw4 (fun hw2_60 hw5 => anE hw5 (fun hO2_61 eu_62 => ?_))))))
          clear hw hw1 hw2 hw3 hw4 hw5
          refine o_mgE (ws' := [ro_rrri (q 4) 5 (q 2) (q 55) (q 56) vb, ro_ri (q 55) 8 (q 2) 2, ro_rnininii (q 2) 6 (q 0) xa2_40 xv2_41 xo xt2_42 xz2_43 xf2_44 xp2_45, ro_rn (q 0) 10 (q 20) tl, ra_N (q 20) cI 1600 tb, ro_rrrrnn (q 56) 0 (q 57) (q 58) (q 59) (q 60) c2_56 w2_57, ra_I (q 57) cI 1600 g1_58]) eu_62 hP hD rfl (fun hP hD => ?_)
          have hO_63 := rs_ad hO2_53 hO2_61
          have hL_64 := lenO_ad (v := 10) hL_55
          refine lv_iinc (v := nI (i + 1)) (lv' := [(1, .int (nI (i + 1))), (0, .ref (q 4))]) hx hb dX5_readBoth_40 hl (k := 0) rfl (ninc i 1 (by decide)) (by decide) rfl (fun ls hl => ?_)
          refine lv_goto (tgt := 6) hx hb dX5_readBoth_43 (by decide) ?_
          exact ih_lp_17 (i + 1) xa2_40 xv2_41 xt2_42 xz2_43 xf2_44 xp2_45 c2_56 w2_57 g1_58 (ad (bindR (bd zo (nxF tb tl)) (apF (fcR tb tl dd))) 10) _ _ _ (by omega) hO_63 (by omega) hxa2_49 hxz2_50 hc2_59 hw2_60 hL_64 (iO_s htb hzO ⟨by rw [hw_38]; decide, by rw [hw_38]; decide⟩ (fcR_mono dd) hiO) (both_s htb hzO (fcR_mono dd) hw_38 hrem) hP hD hS (lv_sub hl [0, 1] rfl)
  exact lp_17 (1600 - 0 + 1) 0 xa2_1 xv2_2 xt2_3 xz2_4 xf2_5 xp2_6 c2_7 w2_8 g1_9 (bindR og (apF (fcR tb tl dd))) _ _ _ (Nat.lt_succ_self _) hO2_14 (by omega) hxa2_10 hxz2_11 hc2_12 hw2_13 hL_16 (iO_0 _) (both_0 _) hP hD hS (lv_sub hl [0, 1] rfl)
set_option maxHeartbeats 4000000 in
set_option maxRecDepth 100000 in
theorem c_ereadTest (l : Launch) (D : va_G) (cI cJ cC cZ cS : ClassId) (zk zv : Nat) (zf : Value) (dd : Nat) (hq : CT_ereadBoth l D cI cJ cC cZ cS zk zv zf dd) : CT_ereadTest l D cI cJ cC cZ cS zk zv zf dd := by
  intro q vb xa xv xo xt xz xf xp tl tb cl mw f1 og hxa hxz htl htb hcl hmw hdd hO hlen
  refine skMZ_of pf_X5_readTest (Nat.le_of_ble_eq_true rfl) ?_
  intro p e s m below meth c A ls E hP hD hZ hl
  refine skE_el E (fun hx hb hr hml hlocks hin hown hts hK hA => ?_)
  have hown : s.vm.findClass RX5 = some m.cls := hown
  have hS : va_S A s.heap s.heap [] := va_S.rf
  have hl : lv_has ls 2 [(0, .ref (q 4))] := hl
  refine lv_aload_n hx hb dX5_readTest_0 rfl (lv_at hl 0 rfl) ?_
  refine sk_VvZ (q0 := 0) (n := 0) (rest := []) (wr := fmR om_7_7f _) ⟨hx, hb, hml, hown, hts⟩ hl.1 (hq q vb xa xv xo xt xz xf xp tl tb cl mw f1 og hxa hxz htl htb hcl hmw hdd hO hlen) w_5_74 w_5_76 w_0_35 w_1_7 w_5_77 hd_X5_readBoth_0 ⟨⟨(by dsimp only; omega), (by dsimp only; omega)⟩, (by dsimp only; omega), (by dsimp only; omega)⟩ hK hP hD hS hZ hA (fmT om_7_7f 0) (fmF om_7_7f 0) (fm_C1 rfl rfl) (fm_R rfl rfl) (fm_nT om_7_7f 0) (fm_nF om_7_7f 0) (fm_di om_7_7f 0) rfl rfl rfl rfl (Nat.le_of_ble_eq_true rfl) dX5_readTest_1 (fun u H locs hw hP hD hS => ?_)
  refine exE hw (fun xa2_1 hw1 => exE hw1 (fun xv2_2 hw2 => exE hw2 (fun xt2_3 hw3 => exE hw3 (fun xz2_4 hw4 => exE hw4 (fun xf2_5 hw5 => exE hw5 (fun xp2_6 hw6 => exE hw6 (fun c2_7 hw7 => exE hw7 (fun w2_8 hw8 => exE hw8 (fun g1_9 hw9 => anE hw9 (fun hxa2_10 hw10 => anE hw10 (fun hxz2_11 hw11 => anE hw11 (fun hc2_12 hw12 => anE hw12 (fun hw2_13 hw13 => anE hw13 (fun hO2_14 eu_15 => ?_))))))))))))))
  clear hw hw1 hw2 hw3 hw4 hw5 hw6 hw7 hw8 hw9 hw10 hw11 hw12 hw13
  refine o_mgE (ws' := [ro_rrri (q 4) 5 (q 2) (q 55) (q 56) vb, ro_ri (q 55) 8 (q 2) 2, ro_rnininii (q 2) 6 (q 0) xa2_1 xv2_2 xo xt2_3 xz2_4 xf2_5 xp2_6, ro_rn (q 0) 10 (q 20) tl, ra_N (q 20) cI 1600 tb, ro_rrrrnn (q 56) 0 (q 57) (q 58) (q 59) (q 60) c2_7 w2_8, ra_I (q 57) cI 1600 g1_9]) eu_15 hP hD rfl (fun hP hD => ?_)
  have hL_16 := lenO_ap (len_both (tb := tb) (n := tl) (len_fc (tb := tb) (n := tl) dd)) hlen
  refine lv_iconst (v := 0) hx hb dX5_readTest_4 ic_0 ?_
  refine lv_istore_n (lv' := [(1, .int 0), (0, .ref (q 4))]) hx hb dX5_readTest_5 rfl hl (by decide) rfl (fun ls hl => ?_)
  have lp_17 : ∀ (n_18 : Nat) (i : Nat) (za : Nat) (zw : Int32) (zt : Int32) (zz : Nat) (zg : Int32) (zp : Int32) (yc : Nat) (yw : Nat) (yf : Nat → Int32) (zo : Res) (H : Heap) (locs : List Loc) (ls : Array Slot), 1600 - i < n_18 → (rsO tb tl zo za zw zt zz zg zp yc yw yf) → (i ≤ 1600) → (za ≤ 1600) → (zz ≤ 1600) → (yc ≤ 1600) → (yw ≤ 1) → (lenO zo) → (iO i zo) → (bindR zo (fun r => orR tb tl (fcR tb tl dd) (tl + 2) r.1 r.2) = bindR og (apF (testR tb tl (fcR tb tl dd)))) → va_P D vwCl [ro_rrri (q 4) 5 (q 2) (q 55) (q 56) vb, ro_ri (q 55) 8 (q 2) 2, ro_rnininii (q 2) 6 (q 0) za zw xo zt zz zg zp, ro_rn (q 0) 10 (q 20) tl, ra_N (q 20) cI 1600 tb, ro_rrrrnn (q 56) 0 (q 57) (q 58) (q 59) (q 60) yc yw, ra_I (q 57) cI 1600 yf] H → va_D A [ro_rrri (q 4) 5 (q 2) (q 55) (q 56) vb, ro_ri (q 55) 8 (q 2) 2, ro_rnininii (q 2) 6 (q 0) za zw xo zt zz zg zp, ro_rn (q 0) 10 (q 20) tl, ra_N (q 20) cI 1600 tb, ro_rrrrnn (q 56) 0 (q 57) (q 58) (q 59) (q 60) yc yw, ra_I (q 57) cI 1600 yf] → va_S A s.heap H locs → lv_has ls 2 [(1, .int (nI i)), (0, .ref (q 4))] → W p l e { frames := 42 + 8 * dd, cells := 0, slots := 0, locals := 950 + 200 * dd } s m ([.ref (q 4)] : List Value).toArray below meth c H locs 0 0 (MQ below (skV D (skT cI cJ cC cZ cS) (fun (u : va_W) => ∃ (xa2 : Nat), ∃ (xv2 : Int32), ∃ (xt2 : Int32), ∃ (xz2 : Nat), ∃ (xf2 : Int32), ∃ (xp2 : Int32), ∃ (c2 : Nat), ∃ (w2 : Nat), ∃ (g1 : Nat → Int32), xa2 ≤ 1600 ∧ xz2 ≤ 1600 ∧ c2 ≤ 1600 ∧ w2 ≤ 1 ∧ rsO tb tl (bindR og (apF (testR tb tl (fcR tb tl dd)))) xa2 xv2 xt2 xz2 xf2 xp2 c2 w2 g1 ∧ u = [ro_rrri (q 4) 5 (q 2) (q 55) (q 56) vb, ro_ri (q 55) 8 (q 2) 2, ro_rnininii (q 2) 6 (q 0) xa2 xv2 xo xt2 xz2 xf2 xp2, ro_rn (q 0) 10 (q 20) tl, ra_N (q 20) cI 1600 tb, ro_rrrrnn (q 56) 0 (q 57) (q 58) (q 59) (q 60) c2 w2, ra_I (q 57) cI 1600 g1]) A) ([.ref (q 4)] : List Value).toArray s 0 0 A) (F0 m 6 ls []) := by
    intro n_18
    induction n_18 with
    | zero => intro i za zw zt zz zg zp yc yw yf zo H locs ls hm; exact absurd hm (Nat.not_lt_zero _)
    | succ n_18 ih_lp_17 =>
      intro i za zw zt zz zg zp yc yw yf zo H locs ls hm hzO hi hza hzz hyc hyw hzl hiO hrem hP hD hS hl
      refine lv_iload_n hx hb dX5_readTest_6 rfl (lv_at hl 0 rfl) ?_
      refine lv_sipush (v := 1600) hx hb dX5_readTest_7 (by decide) ?_
      refine lv_icmp_ge (tgt := 46) hx hb dX5_readTest_10 (by decide) (fun c_19 => ?_) (fun c_19 => ?_)
      · have c_19 : 1600 ≤ i := (nle 1600 i (Nat.le_of_ble_eq_true rfl) (by omega)).mp c_19
        exact sk_vret hx hb hr hlocks hK hP hD hS (⟨za, zw, zt, zz, zg, zp, yc, yw, yf, hza, hzz, hyc, hyw, test_e htb hzO htl hiO (Or.inl (by omega)) hrem hzO, rfl⟩) (Nat.le_of_ble_eq_true rfl) (Nat.le_of_ble_eq_true rfl) dX5_readTest_46
      · have c_19 : ¬ (1600 ≤ i) := fun h => c_19 ((nle 1600 i (Nat.le_of_ble_eq_true rfl) (by omega)).mpr h)
        refine lv_aload_n hx hb dX5_readTest_13 rfl (lv_at hl 1 rfl) ?_
        refine sk_get (v := .ref (q 2)) (C := RX5) (T := TX5) (N := 4) hx hb hts inlX5 hown hK hP 0 rfl rfl 0 (Nat.le_of_ble_eq_true rfl) w_1_154 rfl dX5_readTest_14 ?_
        refine lv_sipush (v := 273) hx hb dX5_readTest_17 (by decide) ?_
        refine sk_ViZ (q0 := 0) (n := 1) (rest := []) (wr := fmR om_7_1c _) ⟨hx, hb, hml, hown, hts⟩ hl.1 (c_erd_takes l D cI cJ cC cZ cS zk zv zf q za zw xo zt zz zg zp tl tb 273 (rc zo) hza hzz htl htb (by decide) (hzO).1) w_5_86 w_5_87 w_5_88 w_1_4 w_5_89 hd_X6_takes_1 ⟨⟨(by dsimp only; omega), (by dsimp only; omega)⟩, (by dsimp only; omega), (by dsimp only; omega)⟩ hK hP hD hS hZ hA (fmT om_7_1c 0) (fmF om_7_1c 0) (fm_C1 rfl rfl) (fm_R rfl rfl) (fm_nT om_7_1c 0) (fm_nF om_7_1c 0) (fm_di om_7_1c 0) rfl rfl rfl rfl (Nat.le_of_ble_eq_true rfl) dX5_readTest_20 (fun r_27 u H locs hw hP hD hS => ?_)
        refine exE hw (fun xa2_20 hw1 => exE hw1 (fun xv2_21 hw2 => exE hw2 (fun xt2_22 hw3 => exE hw3 (fun xz2_23 hw4 => exE hw4 (fun xf2_24 hw5 => exE hw5 (fun xp2_25 hw6 => exE hw6 (fun b_26 hw7 => anE hw7 (fun hxa2_28 hw8 => anE hw8 (fun hxz2_29 hw9 => anE hw9 (fun hb1_30 hw10 => anE hw10 (fun hO2_31 hw11 => anE hw11 (fun er_33 eu_32 => ?_))))))))))))
        clear hw hw1 hw2 hw3 hw4 hw5 hw6 hw7 hw8 hw9 hw10 hw11
        subst er_33
        refine o_mgE (ws' := [ro_rrri (q 4) 5 (q 2) (q 55) (q 56) vb, ro_ri (q 55) 8 (q 2) 2, ro_rnininii (q 2) 6 (q 0) xa2_20 xv2_21 xo xt2_22 xz2_23 xf2_24 xp2_25, ro_rn (q 0) 10 (q 20) tl, ra_N (q 20) cI 1600 tb, ro_rrrrnn (q 56) 0 (q 57) (q 58) (q 59) (q 60) yc yw, ra_I (q 57) cI 1600 yf]) eu_32 hP hD rfl (fun hP hD => ?_)
        refine lv_if_eq (tgt := 46) hx hb dX5_readTest_23 (by decide) (fun c_34 => ?_) (fun c_34 => ?_)
        · have c_34 : b_26 = 0 := (neq b_26 0 (by omega) (Nat.le_of_ble_eq_true rfl)).mp c_34
          have hw_36 := (rr_0 hO2_31 (by omega)).1
          have hO_35 := rs_re hzO (rr_0 hO2_31 (by omega)).2
          exact sk_vret hx hb hr hlocks hK hP hD hS (⟨xa2_20, xv2_21, xt2_22, xz2_23, xf2_24, xp2_25, yc, yw, yf, hxa2_28, hxz2_29, hyc, hyw, test_e htb hzO htl hiO (Or.inr hw_36) hrem hO_35, rfl⟩) (Nat.le_of_ble_eq_true rfl) (Nat.le_of_ble_eq_true rfl) dX5_readTest_46
        · have c_34 : ¬ (b_26 = 0) := fun h => c_34 ((neq b_26 0 (by omega) (Nat.le_of_ble_eq_true rfl)).mpr h)
          have hw_38 := (rr_1 hO2_31 (by omega)).1
          have hO_37 := rs_bd hzO (rr_1 hO2_31 (by omega)).2
          have hL_39 := lenS_nx htb hzO ⟨by rw [hw_38]; decide, by rw [hw_38]; decide⟩ hzl
          refine lv_aload_n hx hb dX5_readTest_26 rfl (lv_at hl 1 rfl) ?_
          refine sk_VvZ (q0 := 0) (n := 0) (rest := []) (wr := fmR om_7_7f _) ⟨hx, hb, hml, hown, hts⟩ hl.1 (hq q vb xa2_20 xv2_21 xo xt2_22 xz2_23 xf2_24 xp2_25 tl tb yc yw yf (bd zo (nxF tb tl)) hxa2_28 hxz2_29 htl htb hyc hyw hdd hO_37 (lenO_S hL_39)) w_5_74 w_5_76 w_0_35 w_1_7 w_5_77 hd_X5_readBoth_0 ⟨⟨(by dsimp only; omega), (by dsimp only; omega)⟩, (by dsimp only; omega), (by dsimp only; omega)⟩ hK hP hD hS hZ hA (fmT om_7_7f 0) (fmF om_7_7f 0) (fm_C1 rfl rfl) (fm_R rfl rfl) (fm_nT om_7_7f 0) (fm_nF om_7_7f 0) (fm_di om_7_7f 0) rfl rfl rfl rfl (Nat.le_of_ble_eq_true rfl) dX5_readTest_27 (fun u H locs hw hP hD hS => ?_)
          refine exE hw (fun xa2_40 hw1 => exE hw1 (fun xv2_41 hw2 => exE hw2 (fun xt2_42 hw3 => exE hw3 (fun xz2_43 hw4 => exE hw4 (fun xf2_44 hw5 => exE hw5 (fun xp2_45 hw6 => exE hw6 (fun c2_46 hw7 => exE hw7 (fun w2_47 hw8 => exE hw8 (fun g1_48 hw9 => anE hw9 (fun hxa2_49 hw10 => anE hw10 (fun hxz2_50 hw11 => anE hw11 (fun hc2_51 hw12 => anE hw12 (fun hw2_52 hw13 => anE hw13 (fun hO2_53 eu_54 => ?_))))))))))))))
          clear hw hw1 hw2 hw3 hw4 hw5 hw6 hw7 hw8 hw9 hw10 hw11 hw12 hw13
          refine o_mgE (ws' := [ro_rrri (q 4) 5 (q 2) (q 55) (q 56) vb, ro_ri (q 55) 8 (q 2) 2, ro_rnininii (q 2) 6 (q 0) xa2_40 xv2_41 xo xt2_42 xz2_43 xf2_44 xp2_45, ro_rn (q 0) 10 (q 20) tl, ra_N (q 20) cI 1600 tb, ro_rrrrnn (q 56) 0 (q 57) (q 58) (q 59) (q 60) c2_46 w2_47, ra_I (q 57) cI 1600 g1_48]) eu_54 hP hD rfl (fun hP hD => ?_)
          have hL_55 := lenS_ap (len_both (tb := tb) (n := tl) (len_fc (tb := tb) (n := tl) dd)) hL_39
          refine lv_aload_n hx hb dX5_readTest_30 rfl (lv_at hl 1 rfl) ?_
          refine sk_get (v := .ref (q 56)) (C := RX5) (T := TX5) (N := 4) hx hb hts inlX5 hown hK hP 0 rfl rfl 2 (Nat.le_of_ble_eq_true rfl) w_1_156 rfl dX5_readTest_31 ?_
          refine lv_sipush (v := 30010) hx hb dX5_readTest_34 (by decide) ?_
          refine sk_Vv (q0 := 0) (n := 1) (rest := []) (wr := fmR om_7_3 _) ⟨hx, hb, hml, hown, hts⟩ hl.1 (c_eCode_addX l D cI cJ cC cZ cS (q 56) (q 57) (q 58) (q 59) (q 60) c2_46 w2_47 g1_48 30010 (bindR (bd zo (nxF tb tl)) (apF (bothR tb tl (fcR tb tl dd)))) 11 hc2_51 hw2_52 (by decide) (by omega) (hO2_53).2 (rm_S hO2_53 htl hL_55)) w_5_83 w_3_98 w_3_99 w_1_8 w_3_100 hd_X0_add_1 ⟨⟨(by dsimp only; omega), (by dsimp only; omega)⟩, (by dsimp only; omega), (by dsimp only; omega)⟩ hK hP hD hS hA (fmT om_7_3 0) (fmF om_7_3 0) (fm_C1 rfl rfl) (fm_R rfl rfl) (fm_nT om_7_3 0) (fm_nF om_7_3 0) (fm_di om_7_3 0) rfl rfl rfl rfl (Nat.le_of_ble_eq_true rfl) dX5_readTest_37 (fun u H locs hw hP hD hS => ?_)
          refine exE hw (fun c2_56 hw1 => exE hw1 (fun w2_57 hw2 => exE hw2 (fun g1_58 hw3 => anE hw3 (fun hc2_59 hw4 => anE hw4 (fun hw2_60 hw5 => anE hw5 (fun hO2_61 eu_62 => ?_))))))
          clear hw hw1 hw2 hw3 hw4 hw5
          refine o_mgE (ws' := [ro_rrri (q 4) 5 (q 2) (q 55) (q 56) vb, ro_ri (q 55) 8 (q 2) 2, ro_rnininii (q 2) 6 (q 0) xa2_40 xv2_41 xo xt2_42 xz2_43 xf2_44 xp2_45, ro_rn (q 0) 10 (q 20) tl, ra_N (q 20) cI 1600 tb, ro_rrrrnn (q 56) 0 (q 57) (q 58) (q 59) (q 60) c2_56 w2_57, ra_I (q 57) cI 1600 g1_58]) eu_62 hP hD rfl (fun hP hD => ?_)
          have hO_63 := rs_ad hO2_53 hO2_61
          have hL_64 := lenO_ad (v := 11) hL_55
          refine lv_iinc (v := nI (i + 1)) (lv' := [(1, .int (nI (i + 1))), (0, .ref (q 4))]) hx hb dX5_readTest_40 hl (k := 0) rfl (ninc i 1 (by decide)) (by decide) rfl (fun ls hl => ?_)
          refine lv_goto (tgt := 6) hx hb dX5_readTest_43 (by decide) ?_
          exact ih_lp_17 (i + 1) xa2_40 xv2_41 xt2_42 xz2_43 xf2_44 xp2_45 c2_56 w2_57 g1_58 (ad (bindR (bd zo (nxF tb tl)) (apF (bothR tb tl (fcR tb tl dd)))) 11) _ _ _ (by omega) hO_63 (by omega) hxa2_49 hxz2_50 hc2_59 hw2_60 hL_64 (iO_s htb hzO ⟨by rw [hw_38]; decide, by rw [hw_38]; decide⟩ (bothR_mono (fcR_mono dd)) hiO) (test_s htb hzO (fcR_mono dd) hw_38 hrem) hP hD hS (lv_sub hl [0, 1] rfl)
  exact lp_17 (1600 - 0 + 1) 0 xa2_1 xv2_2 xt2_3 xz2_4 xf2_5 xp2_6 c2_7 w2_8 g1_9 (bindR og (apF (bothR tb tl (fcR tb tl dd)))) _ _ _ (Nat.lt_succ_self _) hO2_14 (by omega) hxa2_10 hxz2_11 hc2_12 hw2_13 hL_16 (iO_0 _) (test_0 _) hP hD hS (lv_sub hl [0, 1] rfl)
theorem c_etests (l : Launch) (D : va_G) (cI cJ cC cZ cS : ClassId) (zk zv : Nat) (zf : Value) (dd : Nat) : CT_ereadTest l D cI cJ cC cZ cS zk zv zf dd ∧ CT_ereadFact l D cI cJ cC cZ cS zk zv zf dd := by
  induction dd with
  | zero =>
    have h1 := c_ereadFact l D cI cJ cC cZ cS zk zv zf 0 (fun d h => absurd h (by omega)) (fun d h => absurd h (by omega))
    exact ⟨c_ereadTest l D cI cJ cC cZ cS zk zv zf 0 (c_ereadBoth l D cI cJ cC cZ cS zk zv zf 0 h1), h1⟩
  | succ n ih =>
    have ht : ∀ d, d + 1 = n + 1 → CT_ereadTest l D cI cJ cC cZ cS zk zv zf d := fun d h => by rw [show d = n by omega]; exact ih.1
    have hf : ∀ d, d + 1 = n + 1 → CT_ereadFact l D cI cJ cC cZ cS zk zv zf d := fun d h => by rw [show d = n by omega]; exact ih.2
    have h1 := c_ereadFact l D cI cJ cC cZ cS zk zv zf (n + 1) ht hf
    exact ⟨c_ereadTest l D cI cJ cC cZ cS zk zv zf (n + 1) (c_ereadBoth l D cI cJ cC cZ cS zk zv zf (n + 1) h1), h1⟩
set_option maxHeartbeats 4000000 in
set_option maxRecDepth 100000 in
theorem c_eq_read (l : Launch) (D : va_G) (cI cJ cC cZ cS : ClassId) (zk zv : Nat) (zf : Value) (q : Nat → Nat) (vb : Int32) (xa : Nat) (xv : Int32) (xo : Nat) (xt : Int32) (xz : Nat) (xf : Int32) (xp : Int32) (tl : Nat) (tb : Nat → Nat) (cl : Nat) (mw : Nat) (f1 : Nat → Int32) (hxa : xa ≤ 1600) (hxz : xz ≤ 1600) (htl : tl ≤ 1600) (htb : ∀ j, tb j ≤ 255) (hcl : cl ≤ 1600) (hmw : mw ≤ 1) : skMZ zk zv zf l yX5_read cX5_read 1 none 91 2171 0 0 D (skT cI cJ cC cZ cS) [.ref (q 4)] [ro_rrri (q 4) 5 (q 2) (q 55) (q 56) vb, ro_ri (q 55) 8 (q 2) 2, ro_rnininii (q 2) 6 (q 0) xa xv xo xt xz xf xp, ro_rn (q 0) 10 (q 20) tl, ra_N (q 20) cI 1600 tb, ro_rrrrnn (q 56) 0 (q 57) (q 58) (q 59) (q 60) cl mw, ra_I (q 57) cI 1600 f1] (skV D (skT cI cJ cC cZ cS) (fun (u : va_W) => ∃ (xa2 : Nat), ∃ (xv2 : Int32), ∃ (xt2 : Int32), ∃ (xz2 : Nat), ∃ (xf2 : Int32), ∃ (xp2 : Int32), ∃ (c2 : Nat), ∃ (w2 : Nat), ∃ (g1 : Nat → Int32), ∃ (vb2 : Int32), xa2 ≤ 1600 ∧ xz2 ≤ 1600 ∧ c2 ≤ 1600 ∧ w2 ≤ 1 ∧ rdO tb tl (quP tb tl) xa2 xv2 xt2 xz2 xf2 xp2 ∧ u = [ro_rrri (q 4) 5 (q 2) (q 55) (q 56) vb2, ro_ri (q 55) 8 (q 2) 2, ro_rniiinii (q 2) 6 (q 0) xa2 xv2 0 xt2 xz2 xf2 xp2, ro_rn (q 0) 10 (q 20) tl, ra_N (q 20) cI 1600 tb, ro_rrrrnn (q 56) 0 (q 57) (q 58) (q 59) (q 60) c2 w2, ra_I (q 57) cI 1600 g1])) := by
  refine skMZ_of pf_X5_read (Nat.le_of_ble_eq_true rfl) ?_
  intro p e s m below meth c A ls E hP hD hZ hl
  refine skE_el E (fun hx hb hr hml hlocks hin hown hts hK hA => ?_)
  have hown : s.vm.findClass RX5 = some m.cls := hown
  have hS : va_S A s.heap s.heap [] := va_S.rf
  have hl : lv_has ls 1 [(0, .ref (q 4))] := hl
  refine lv_aload_n hx hb dX5_read_0 rfl (lv_at hl 0 rfl) ?_
  refine sk_get (v := .ref (q 56)) (C := RX5) (T := TX5) (N := 4) hx hb hts inlX5 hown hK hP 0 rfl rfl 2 (Nat.le_of_ble_eq_true rfl) w_1_156 rfl dX5_read_1 ?_
  refine sk_Vv (q0 := 0) (n := 0) (rest := []) (wr := fmR om_7_2 _) ⟨hx, hb, hml, hown, hts⟩ hl.1 (c_Code_clear l D cI cJ cC cZ cS (q 56) (q 57) (q 58) (q 59) (q 60) cl mw) w_5_67 w_2_215 w_2_216 w_1_8 w_2_217 hd_X0_clear_0 ⟨⟨(Nat.le_of_ble_eq_true rfl), (Nat.le_of_ble_eq_true rfl)⟩, (Nat.le_of_ble_eq_true rfl), (Nat.le_of_ble_eq_true rfl)⟩ hK hP hD hS hA (fmT om_7_2 0) (fmF om_7_2 0) (fm_C1 rfl rfl) (fm_R rfl rfl) (fm_nT om_7_2 0) (fm_nF om_7_2 0) (fm_di om_7_2 0) rfl rfl rfl rfl (Nat.le_of_ble_eq_true rfl) dX5_read_4 (fun u H locs hw hP hD hS => ?_)
  refine o_mgE (ws' := [ro_rrri (q 4) 5 (q 2) (q 55) (q 56) vb, ro_ri (q 55) 8 (q 2) 2, ro_rnininii (q 2) 6 (q 0) xa xv xo xt xz xf xp, ro_rn (q 0) 10 (q 20) tl, ra_N (q 20) cI 1600 tb, ro_rrrrii (q 56) 0 (q 57) (q 58) (q 59) (q 60) 0 0, ra_I (q 57) cI 1600 f1]) hw hP hD rfl (fun hP hD => ?_)
  refine lv_aload_n hx hb dX5_read_7 rfl (lv_at hl 0 rfl) ?_
  refine sk_get (v := .ref (q 2)) (C := RX5) (T := TX5) (N := 4) hx hb hts inlX5 hown hK hP 0 rfl rfl 0 (Nat.le_of_ble_eq_true rfl) w_1_154 rfl dX5_read_8 ?_
  refine sk_VvZ (q0 := 0) (n := 0) (rest := []) (wr := fmR om_7_1c _) ⟨hx, hb, hml, hown, hts⟩ hl.1 (c_erd_begin l D cI cJ cC cZ cS zk zv zf q xa xv xo xt xz xf xp tl tb hxa hxz htl htb) w_5_68 w_2_222 w_2_223 w_1_4 w_2_224 hd_X6_begin_0 ⟨⟨(Nat.le_of_ble_eq_true rfl), (Nat.le_of_ble_eq_true rfl)⟩, (Nat.le_of_ble_eq_true rfl), (Nat.le_of_ble_eq_true rfl)⟩ hK hP hD hS hZ hA (fmT om_7_1c 0) (fmF om_7_1c 0) (fm_C1 rfl rfl) (fm_R rfl rfl) (fm_nT om_7_1c 0) (fm_nF om_7_1c 0) (fm_di om_7_1c 0) rfl rfl rfl rfl (Nat.le_of_ble_eq_true rfl) dX5_read_11 (fun u H locs hw hP hD hS => ?_)
  refine exE hw (fun xa2_1 hw1 => exE hw1 (fun xv2_2 hw2 => exE hw2 (fun xt2_3 hw3 => exE hw3 (fun xz2_4 hw4 => anE hw4 (fun hxa2_5 hw5 => anE hw5 (fun hxz2_6 hw6 => anE hw6 (fun hO2_7 eu_8 => ?_)))))))
  clear hw hw1 hw2 hw3 hw4 hw5 hw6
  refine o_mgE (ws' := [ro_rrri (q 4) 5 (q 2) (q 55) (q 56) vb, ro_ri (q 55) 8 (q 2) 2, ro_rniiinii (q 2) 6 (q 0) xa2_1 xv2_2 0 xt2_3 xz2_4 0 (-1), ro_rn (q 0) 10 (q 20) tl, ra_N (q 20) cI 1600 tb, ro_rrrrii (q 56) 0 (q 57) (q 58) (q 59) (q 60) 0 0, ra_I (q 57) cI 1600 f1]) eu_8 hP hD rfl (fun hP hD => ?_)
  refine lv_aload_n hx hb dX5_read_14 rfl (lv_at hl 0 rfl) ?_
  refine lv_aload_n hx hb dX5_read_15 rfl (lv_at hl 0 rfl) ?_
  refine sk_get (v := .ref (q 2)) (C := RX5) (T := TX5) (N := 4) hx hb hts inlX5 hown hK hP 0 rfl rfl 0 (Nat.le_of_ble_eq_true rfl) w_1_154 rfl dX5_read_16 ?_
  refine sk_get (v := .int xt2_3) (C := RX6) (T := TX6) (N := 8) hx hb hts inlX6 hown hK hP 2 rfl rfl 4 (Nat.le_of_ble_eq_true rfl) w_1_61 rfl dX5_read_19 ?_
  refine sk_put (ws' := [ro_rrri (q 4) 5 (q 2) (q 55) (q 56) xt2_3, ro_ri (q 55) 8 (q 2) 2, ro_rniiinii (q 2) 6 (q 0) xa2_1 xv2_2 0 xt2_3 xz2_4 0 (-1), ro_rn (q 0) 10 (q 20) tl, ra_N (q 20) cI 1600 tb, ro_rrrrii (q 56) 0 (q 57) (q 58) (q 59) (q 60) 0 0, ra_I (q 57) cI 1600 f1]) (C := RX5) (T := TX5) (N := 4) (v := .int xt2_3) hx hb hts inlX5 tyX5 tyX5_ok nmX5 hown hK hP hD hS 0 rfl rfl 3 (Nat.le_of_ble_eq_true rfl) w_1_157 rfl rfl rfl (Nat.le_of_ble_eq_true rfl) rfl dX5_read_22 (fun H locs hP hD hS => ?_)
  have jn_9 : ∀ (oa : Nat) (ow : Int32) (ot : Int32) (oz : Nat) (og : Int32) (op : Int32) (oc : Nat) (ox : Nat) (o1_ : Nat → Int32) (wo : Except Err Cur) (H : Heap) (locs : List Loc) (ls : Array Slot), (rdO tb tl wo oa ow ot oz og op) → (oa ≤ 1600) → (oz ≤ 1600) → (oc ≤ 1600) → (ox ≤ 1) → (wo = quF tb tl (sk tb tl 0, false)) → va_P D vwCl [ro_rrri (q 4) 5 (q 2) (q 55) (q 56) xt2_3, ro_ri (q 55) 8 (q 2) 2, ro_rniiinii (q 2) 6 (q 0) oa ow 0 ot oz og op, ro_rn (q 0) 10 (q 20) tl, ra_N (q 20) cI 1600 tb, ro_rrrrnn (q 56) 0 (q 57) (q 58) (q 59) (q 60) oc ox, ra_I (q 57) cI 1600 o1_] H → va_D A [ro_rrri (q 4) 5 (q 2) (q 55) (q 56) xt2_3, ro_ri (q 55) 8 (q 2) 2, ro_rniiinii (q 2) 6 (q 0) oa ow 0 ot oz og op, ro_rn (q 0) 10 (q 20) tl, ra_N (q 20) cI 1600 tb, ro_rrrrnn (q 56) 0 (q 57) (q 58) (q 59) (q 60) oc ox, ra_I (q 57) cI 1600 o1_] → va_S A s.heap H locs → lv_has ls 1 [(0, .ref (q 4))] → W p l e { frames := 91, cells := 0, slots := 0, locals := 2171 } s m ([.ref (q 4)] : List Value).toArray below meth c H locs 0 0 (MQ below (skV D (skT cI cJ cC cZ cS) (fun (u : va_W) => ∃ (xa2 : Nat), ∃ (xv2 : Int32), ∃ (xt2 : Int32), ∃ (xz2 : Nat), ∃ (xf2 : Int32), ∃ (xp2 : Int32), ∃ (c2 : Nat), ∃ (w2 : Nat), ∃ (g1 : Nat → Int32), ∃ (vb2 : Int32), xa2 ≤ 1600 ∧ xz2 ≤ 1600 ∧ c2 ≤ 1600 ∧ w2 ≤ 1 ∧ rdO tb tl (quP tb tl) xa2 xv2 xt2 xz2 xf2 xp2 ∧ u = [ro_rrri (q 4) 5 (q 2) (q 55) (q 56) vb2, ro_ri (q 55) 8 (q 2) 2, ro_rniiinii (q 2) 6 (q 0) xa2 xv2 0 xt2 xz2 xf2 xp2, ro_rn (q 0) 10 (q 20) tl, ra_N (q 20) cI 1600 tb, ro_rrrrnn (q 56) 0 (q 57) (q 58) (q 59) (q 60) c2 w2, ra_I (q 57) cI 1600 g1]) A) ([.ref (q 4)] : List Value).toArray s 0 0 A) (F0 m 138 ls []) := by
    intro oa ow ot oz og op oc ox o1_ wo H locs ls hwO hoa hoz hoc hox hwq hP hD hS hl
    refine lv_aload_n hx hb dX5_read_138 rfl (lv_at hl 0 rfl) ?_
    refine sk_get (v := .ref (q 2)) (C := RX5) (T := TX5) (N := 4) hx hb hts inlX5 hown hK hP 0 rfl rfl 0 (Nat.le_of_ble_eq_true rfl) w_1_154 rfl dX5_read_139 ?_
    refine sk_get (v := .int ot) (C := RX6) (T := TX6) (N := 8) hx hb hts inlX6 hown hK hP 2 rfl rfl 4 (Nat.le_of_ble_eq_true rfl) w_1_61 rfl dX5_read_142 ?_
    refine lv_iconst (v := (-1)) hx hb dX5_read_145 (by decide) ?_
    refine lv_icmp_eq (tgt := 156) hx hb dX5_read_146 (by decide) (fun c_10 => ?_) (fun c_10 => ?_)
    · skip
      exact sk_vret hx hb hr hlocks hK hP hD hS (⟨oa, ow, ot, oz, og, op, oc, ox, o1_, xt2_3, hoa, hoz, hoc, hox, (by have h9 := q_e1 htb hwO c_10; rw [hwq] at h9; exact h9), rfl⟩) (Nat.le_of_ble_eq_true rfl) (Nat.le_of_ble_eq_true rfl) dX5_read_156
    · skip
      refine lv_aload_n hx hb dX5_read_149 rfl (lv_at hl 0 rfl) ?_
      refine sk_get (v := .ref (q 2)) (C := RX5) (T := TX5) (N := 4) hx hb hts inlX5 hown hK hP 0 rfl rfl 0 (Nat.le_of_ble_eq_true rfl) w_1_154 rfl dX5_read_150 ?_
      refine sk_Vv (q0 := 0) (n := 0) (rest := []) (wr := fmR om_7_10 _) ⟨hx, hb, hml, hown, hts⟩ hl.1 (c_erd_failHere l D cI cJ cC cZ cS q oa ow 0 ot oz og op tl tb wo hoz hwO) w_5_94 w_3_55 w_3_56 w_1_4 w_3_57 hd_X6_failHere_0 ⟨⟨(Nat.le_of_ble_eq_true rfl), (Nat.le_of_ble_eq_true rfl)⟩, (Nat.le_of_ble_eq_true rfl), (Nat.le_of_ble_eq_true rfl)⟩ hK hP hD hS hA (fmT om_7_10 0) (fmF om_7_10 0) (fm_C1 rfl rfl) (fm_R rfl rfl) (fm_nT om_7_10 0) (fm_nF om_7_10 0) (fm_di om_7_10 0) rfl rfl rfl rfl (Nat.le_of_ble_eq_true rfl) dX5_read_153 (fun u H locs hw hP hD hS => ?_)
      refine exE hw (fun xf2_11 hw1 => exE hw1 (fun xp2_12 hw2 => anE hw2 (fun hO2_13 eu_14 => ?_)))
      clear hw hw1 hw2
      refine o_mgE (ws' := [ro_rrri (q 4) 5 (q 2) (q 55) (q 56) xt2_3, ro_ri (q 55) 8 (q 2) 2, ro_rniiinii (q 2) 6 (q 0) oa ow 0 (-2) oz xf2_11 xp2_12, ro_rn (q 0) 10 (q 20) tl, ra_N (q 20) cI 1600 tb, ro_rrrrnn (q 56) 0 (q 57) (q 58) (q 59) (q 60) oc ox, ra_I (q 57) cI 1600 o1_]) eu_14 hP hD rfl (fun hP hD => ?_)
      exact sk_vret hx hb hr hlocks hK hP hD hS (⟨oa, ow, (-2), oz, xf2_11, xp2_12, oc, ox, o1_, xt2_3, hoa, hoz, hoc, hox, (by have h9 := q_e2 htb hwO c_10 hO2_13; rw [hwq] at h9; exact h9), rfl⟩) (Nat.le_of_ble_eq_true rfl) (Nat.le_of_ble_eq_true rfl) dX5_read_156
  refine lv_aload_n hx hb dX5_read_25 rfl (lv_at hl 0 rfl) ?_
  refine sk_get (v := .int xt2_3) (C := RX5) (T := TX5) (N := 4) hx hb hts inlX5 hown hK hP 0 rfl rfl 3 (Nat.le_of_ble_eq_true rfl) w_1_157 rfl dX5_read_26 ?_
  by_cases g_15 : xt2_3 = 271
  · refine lv_tableIn (off := 67) (tgt := 96) hx hb dX5_read_29 (by rw [g_15]; decide) (by rw [g_15]; decide) (by rw [g_15]; rfl) (by decide) ?_
    refine lv_aload_n hx hb dX5_read_96 rfl (lv_at hl 0 rfl) ?_
    refine sk_get (v := .ref (q 2)) (C := RX5) (T := TX5) (N := 4) hx hb hts inlX5 hown hK hP 0 rfl rfl 0 (Nat.le_of_ble_eq_true rfl) w_1_154 rfl dX5_read_97 ?_
    refine sk_VvZ (q0 := 0) (n := 0) (rest := []) (wr := fmR om_7_1c _) ⟨hx, hb, hml, hown, hts⟩ hl.1 (c_erd_step l D cI cJ cC cZ cS zk zv zf q xa2_1 xv2_2 0 xt2_3 xz2_4 0 (-1) tl tb (bindR (.ok (sk tb tl 0, false)) (beF tb tl)) hxa2_5 hxz2_6 htl htb (rd_st htb hO2_7 ⟨by rw [g_15]; decide, by rw [g_15]; decide⟩)) w_5_69 w_2_226 w_2_227 w_1_4 w_2_228 hd_X6_step_0 ⟨⟨(Nat.le_of_ble_eq_true rfl), (Nat.le_of_ble_eq_true rfl)⟩, (Nat.le_of_ble_eq_true rfl), (Nat.le_of_ble_eq_true rfl)⟩ hK hP hD hS hZ hA (fmT om_7_1c 0) (fmF om_7_1c 0) (fm_C1 rfl rfl) (fm_R rfl rfl) (fm_nT om_7_1c 0) (fm_nF om_7_1c 0) (fm_di om_7_1c 0) rfl rfl rfl rfl (Nat.le_of_ble_eq_true rfl) dX5_read_100 (fun u H locs hw hP hD hS => ?_)
    refine exE hw (fun xa2_16 hw1 => exE hw1 (fun xv2_17 hw2 => exE hw2 (fun xt2_18 hw3 => exE hw3 (fun xz2_19 hw4 => anE hw4 (fun hxa2_20 hw5 => anE hw5 (fun hxz2_21 hw6 => anE hw6 (fun hO2_22 eu_23 => ?_)))))))
    clear hw hw1 hw2 hw3 hw4 hw5 hw6
    refine o_mgE (ws' := [ro_rrri (q 4) 5 (q 2) (q 55) (q 56) xt2_3, ro_ri (q 55) 8 (q 2) 2, ro_rniiinii (q 2) 6 (q 0) xa2_16 xv2_17 0 xt2_18 xz2_19 0 (-1), ro_rn (q 0) 10 (q 20) tl, ra_N (q 20) cI 1600 tb, ro_rrrrii (q 56) 0 (q 57) (q 58) (q 59) (q 60) 0 0, ra_I (q 57) cI 1600 f1]) eu_23 hP hD rfl (fun hP hD => ?_)
    rw [stF_nx] at hO2_22
    have hO_24 := rs_0 (c := nx tb tl (sk tb tl 0)) (f := f1) hO2_22
    refine lv_aload_n hx hb dX5_read_103 rfl (lv_at hl 0 rfl) ?_
    refine sk_VvZ (q0 := 0) (n := 0) (rest := []) (wr := fmR om_7_7f _) ⟨hx, hb, hml, hown, hts⟩ hl.1 ((c_etests l D cI cJ cC cZ cS zk zv zf 6).1 q xt2_3 xa2_16 xv2_17 0 xt2_18 xz2_19 0 (-1) tl tb 0 0 f1 (.ok (nx tb tl (sk tb tl 0), [])) hxa2_20 hxz2_21 htl htb (by omega) (by omega) (by omega) hO_24 (lenO_0 (nx tb tl (sk tb tl 0)))) w_5_70 w_5_72 w_0_34 w_1_7 w_5_73 hd_X5_readTest_0 ⟨⟨(Nat.le_of_ble_eq_true rfl), (Nat.le_of_ble_eq_true rfl)⟩, (Nat.le_of_ble_eq_true rfl), (Nat.le_of_ble_eq_true rfl)⟩ hK hP hD hS hZ hA (fmT om_7_7f 0) (fmF om_7_7f 0) (fm_C1 rfl rfl) (fm_R rfl rfl) (fm_nT om_7_7f 0) (fm_nF om_7_7f 0) (fm_di om_7_7f 0) rfl rfl rfl rfl (Nat.le_of_ble_eq_true rfl) dX5_read_104 (fun u H locs hw hP hD hS => ?_)
    refine exE hw (fun xa2_25 hw1 => exE hw1 (fun xv2_26 hw2 => exE hw2 (fun xt2_27 hw3 => exE hw3 (fun xz2_28 hw4 => exE hw4 (fun xf2_29 hw5 => exE hw5 (fun xp2_30 hw6 => exE hw6 (fun c2_31 hw7 => exE hw7 (fun w2_32 hw8 => exE hw8 (fun g1_33 hw9 => anE hw9 (fun hxa2_34 hw10 => anE hw10 (fun hxz2_35 hw11 => anE hw11 (fun hc2_36 hw12 => anE hw12 (fun hw2_37 hw13 => anE hw13 (fun hO2_38 eu_39 => ?_))))))))))))))
    clear hw hw1 hw2 hw3 hw4 hw5 hw6 hw7 hw8 hw9 hw10 hw11 hw12 hw13
    refine o_mgE (ws' := [ro_rrri (q 4) 5 (q 2) (q 55) (q 56) xt2_3, ro_ri (q 55) 8 (q 2) 2, ro_rniiinii (q 2) 6 (q 0) xa2_25 xv2_26 0 xt2_27 xz2_28 xf2_29 xp2_30, ro_rn (q 0) 10 (q 20) tl, ra_N (q 20) cI 1600 tb, ro_rrrrnn (q 56) 0 (q 57) (q 58) (q 59) (q 60) c2_31 w2_32, ra_I (q 57) cI 1600 g1_33]) eu_39 hP hD rfl (fun hP hD => ?_)
    have hL_40 := lenO_ap (len_test (tb := tb) (n := tl) (len_fc (tb := tb) (n := tl) 6)) (lenO_0 (nx tb tl (sk tb tl 0)))
    have hO_41 := (hO2_38).1
    rw [q_t (k := 15) htb hO2_7 g_15 (by decide)] at hO_41
    refine lv_goto (tgt := 138) hx hb dX5_read_107 (by decide) ?_
    exact jn_9 xa2_25 xv2_26 xt2_27 xz2_28 xf2_29 xp2_30 c2_31 w2_32 g1_33 (quF tb tl (sk tb tl 0, false)) _ _ _ hO_41 hxa2_34 hxz2_35 hc2_36 hw2_37 rfl hP hD hS (lv_sub hl [0] rfl)
  by_cases g_42 : xt2_3 = 272
  · refine lv_tableIn (off := 102) (tgt := 131) hx hb dX5_read_29 (by rw [g_42]; decide) (by rw [g_42]; decide) (by rw [g_42]; rfl) (by decide) ?_
    refine lv_aload_n hx hb dX5_read_131 rfl (lv_at hl 0 rfl) ?_
    refine sk_get (v := .ref (q 2)) (C := RX5) (T := TX5) (N := 4) hx hb hts inlX5 hown hK hP 0 rfl rfl 0 (Nat.le_of_ble_eq_true rfl) w_1_154 rfl dX5_read_132 ?_
    refine sk_Vv (q0 := 0) (n := 0) (rest := []) (wr := fmR om_7_10 _) ⟨hx, hb, hml, hown, hts⟩ hl.1 (c_erd_failHere l D cI cJ cC cZ cS q xa2_1 xv2_2 0 xt2_3 xz2_4 0 (-1) tl tb (.ok (sk tb tl 0, false)) hxz2_6 hO2_7) w_5_94 w_3_55 w_3_56 w_1_4 w_3_57 hd_X6_failHere_0 ⟨⟨(Nat.le_of_ble_eq_true rfl), (Nat.le_of_ble_eq_true rfl)⟩, (Nat.le_of_ble_eq_true rfl), (Nat.le_of_ble_eq_true rfl)⟩ hK hP hD hS hA (fmT om_7_10 0) (fmF om_7_10 0) (fm_C1 rfl rfl) (fm_R rfl rfl) (fm_nT om_7_10 0) (fm_nF om_7_10 0) (fm_di om_7_10 0) rfl rfl rfl rfl (Nat.le_of_ble_eq_true rfl) dX5_read_135 (fun u H locs hw hP hD hS => ?_)
    refine exE hw (fun xf2_43 hw1 => exE hw1 (fun xp2_44 hw2 => anE hw2 (fun hO2_45 eu_46 => ?_)))
    clear hw hw1 hw2
    refine o_mgE (ws' := [ro_rrri (q 4) 5 (q 2) (q 55) (q 56) xt2_3, ro_ri (q 55) 8 (q 2) 2, ro_rniiinii (q 2) 6 (q 0) xa2_1 xv2_2 0 (-2) xz2_4 xf2_43 xp2_44, ro_rn (q 0) 10 (q 20) tl, ra_N (q 20) cI 1600 tb, ro_rrrrii (q 56) 0 (q 57) (q 58) (q 59) (q 60) 0 0, ra_I (q 57) cI 1600 f1]) eu_46 hP hD rfl (fun hP hD => ?_)
    have hO_47 := hO2_45
    rw [q_n htb hO2_7 (by rw [g_42]; decide) (by rw [g_42]; decide) (by rw [g_42]; decide) (by rw [g_42]; decide) (by rw [g_42]; decide) (by rw [g_42]; decide)] at hO_47
    exact jn_9 xa2_1 xv2_2 (-2) xz2_4 xf2_43 xp2_44 0 0 f1 (quF tb tl (sk tb tl 0, false)) _ _ _ hO_47 hxa2_5 hxz2_6 (by omega) (by omega) rfl hP hD hS (lv_sub hl [0] rfl)
  by_cases g_48 : xt2_3 = 273
  · refine lv_tableIn (off := 102) (tgt := 131) hx hb dX5_read_29 (by rw [g_48]; decide) (by rw [g_48]; decide) (by rw [g_48]; rfl) (by decide) ?_
    refine lv_aload_n hx hb dX5_read_131 rfl (lv_at hl 0 rfl) ?_
    refine sk_get (v := .ref (q 2)) (C := RX5) (T := TX5) (N := 4) hx hb hts inlX5 hown hK hP 0 rfl rfl 0 (Nat.le_of_ble_eq_true rfl) w_1_154 rfl dX5_read_132 ?_
    refine sk_Vv (q0 := 0) (n := 0) (rest := []) (wr := fmR om_7_10 _) ⟨hx, hb, hml, hown, hts⟩ hl.1 (c_erd_failHere l D cI cJ cC cZ cS q xa2_1 xv2_2 0 xt2_3 xz2_4 0 (-1) tl tb (.ok (sk tb tl 0, false)) hxz2_6 hO2_7) w_5_94 w_3_55 w_3_56 w_1_4 w_3_57 hd_X6_failHere_0 ⟨⟨(Nat.le_of_ble_eq_true rfl), (Nat.le_of_ble_eq_true rfl)⟩, (Nat.le_of_ble_eq_true rfl), (Nat.le_of_ble_eq_true rfl)⟩ hK hP hD hS hA (fmT om_7_10 0) (fmF om_7_10 0) (fm_C1 rfl rfl) (fm_R rfl rfl) (fm_nT om_7_10 0) (fm_nF om_7_10 0) (fm_di om_7_10 0) rfl rfl rfl rfl (Nat.le_of_ble_eq_true rfl) dX5_read_135 (fun u H locs hw hP hD hS => ?_)
    refine exE hw (fun xf2_49 hw1 => exE hw1 (fun xp2_50 hw2 => anE hw2 (fun hO2_51 eu_52 => ?_)))
    clear hw hw1 hw2
    refine o_mgE (ws' := [ro_rrri (q 4) 5 (q 2) (q 55) (q 56) xt2_3, ro_ri (q 55) 8 (q 2) 2, ro_rniiinii (q 2) 6 (q 0) xa2_1 xv2_2 0 (-2) xz2_4 xf2_49 xp2_50, ro_rn (q 0) 10 (q 20) tl, ra_N (q 20) cI 1600 tb, ro_rrrrii (q 56) 0 (q 57) (q 58) (q 59) (q 60) 0 0, ra_I (q 57) cI 1600 f1]) eu_52 hP hD rfl (fun hP hD => ?_)
    have hO_53 := hO2_51
    rw [q_n htb hO2_7 (by rw [g_48]; decide) (by rw [g_48]; decide) (by rw [g_48]; decide) (by rw [g_48]; decide) (by rw [g_48]; decide) (by rw [g_48]; decide)] at hO_53
    exact jn_9 xa2_1 xv2_2 (-2) xz2_4 xf2_49 xp2_50 0 0 f1 (quF tb tl (sk tb tl 0, false)) _ _ _ hO_53 hxa2_5 hxz2_6 (by omega) (by omega) rfl hP hD hS (lv_sub hl [0] rfl)
  by_cases g_54 : xt2_3 = 274
  · refine lv_tableIn (off := 102) (tgt := 131) hx hb dX5_read_29 (by rw [g_54]; decide) (by rw [g_54]; decide) (by rw [g_54]; rfl) (by decide) ?_
    refine lv_aload_n hx hb dX5_read_131 rfl (lv_at hl 0 rfl) ?_
    refine sk_get (v := .ref (q 2)) (C := RX5) (T := TX5) (N := 4) hx hb hts inlX5 hown hK hP 0 rfl rfl 0 (Nat.le_of_ble_eq_true rfl) w_1_154 rfl dX5_read_132 ?_
    refine sk_Vv (q0 := 0) (n := 0) (rest := []) (wr := fmR om_7_10 _) ⟨hx, hb, hml, hown, hts⟩ hl.1 (c_erd_failHere l D cI cJ cC cZ cS q xa2_1 xv2_2 0 xt2_3 xz2_4 0 (-1) tl tb (.ok (sk tb tl 0, false)) hxz2_6 hO2_7) w_5_94 w_3_55 w_3_56 w_1_4 w_3_57 hd_X6_failHere_0 ⟨⟨(Nat.le_of_ble_eq_true rfl), (Nat.le_of_ble_eq_true rfl)⟩, (Nat.le_of_ble_eq_true rfl), (Nat.le_of_ble_eq_true rfl)⟩ hK hP hD hS hA (fmT om_7_10 0) (fmF om_7_10 0) (fm_C1 rfl rfl) (fm_R rfl rfl) (fm_nT om_7_10 0) (fm_nF om_7_10 0) (fm_di om_7_10 0) rfl rfl rfl rfl (Nat.le_of_ble_eq_true rfl) dX5_read_135 (fun u H locs hw hP hD hS => ?_)
    refine exE hw (fun xf2_55 hw1 => exE hw1 (fun xp2_56 hw2 => anE hw2 (fun hO2_57 eu_58 => ?_)))
    clear hw hw1 hw2
    refine o_mgE (ws' := [ro_rrri (q 4) 5 (q 2) (q 55) (q 56) xt2_3, ro_ri (q 55) 8 (q 2) 2, ro_rniiinii (q 2) 6 (q 0) xa2_1 xv2_2 0 (-2) xz2_4 xf2_55 xp2_56, ro_rn (q 0) 10 (q 20) tl, ra_N (q 20) cI 1600 tb, ro_rrrrii (q 56) 0 (q 57) (q 58) (q 59) (q 60) 0 0, ra_I (q 57) cI 1600 f1]) eu_58 hP hD rfl (fun hP hD => ?_)
    have hO_59 := hO2_57
    rw [q_n htb hO2_7 (by rw [g_54]; decide) (by rw [g_54]; decide) (by rw [g_54]; decide) (by rw [g_54]; decide) (by rw [g_54]; decide) (by rw [g_54]; decide)] at hO_59
    exact jn_9 xa2_1 xv2_2 (-2) xz2_4 xf2_55 xp2_56 0 0 f1 (quF tb tl (sk tb tl 0, false)) _ _ _ hO_59 hxa2_5 hxz2_6 (by omega) (by omega) rfl hP hD hS (lv_sub hl [0] rfl)
  by_cases g_60 : xt2_3 = 275
  · refine lv_tableIn (off := 102) (tgt := 131) hx hb dX5_read_29 (by rw [g_60]; decide) (by rw [g_60]; decide) (by rw [g_60]; rfl) (by decide) ?_
    refine lv_aload_n hx hb dX5_read_131 rfl (lv_at hl 0 rfl) ?_
    refine sk_get (v := .ref (q 2)) (C := RX5) (T := TX5) (N := 4) hx hb hts inlX5 hown hK hP 0 rfl rfl 0 (Nat.le_of_ble_eq_true rfl) w_1_154 rfl dX5_read_132 ?_
    refine sk_Vv (q0 := 0) (n := 0) (rest := []) (wr := fmR om_7_10 _) ⟨hx, hb, hml, hown, hts⟩ hl.1 (c_erd_failHere l D cI cJ cC cZ cS q xa2_1 xv2_2 0 xt2_3 xz2_4 0 (-1) tl tb (.ok (sk tb tl 0, false)) hxz2_6 hO2_7) w_5_94 w_3_55 w_3_56 w_1_4 w_3_57 hd_X6_failHere_0 ⟨⟨(Nat.le_of_ble_eq_true rfl), (Nat.le_of_ble_eq_true rfl)⟩, (Nat.le_of_ble_eq_true rfl), (Nat.le_of_ble_eq_true rfl)⟩ hK hP hD hS hA (fmT om_7_10 0) (fmF om_7_10 0) (fm_C1 rfl rfl) (fm_R rfl rfl) (fm_nT om_7_10 0) (fm_nF om_7_10 0) (fm_di om_7_10 0) rfl rfl rfl rfl (Nat.le_of_ble_eq_true rfl) dX5_read_135 (fun u H locs hw hP hD hS => ?_)
    refine exE hw (fun xf2_61 hw1 => exE hw1 (fun xp2_62 hw2 => anE hw2 (fun hO2_63 eu_64 => ?_)))
    clear hw hw1 hw2
    refine o_mgE (ws' := [ro_rrri (q 4) 5 (q 2) (q 55) (q 56) xt2_3, ro_ri (q 55) 8 (q 2) 2, ro_rniiinii (q 2) 6 (q 0) xa2_1 xv2_2 0 (-2) xz2_4 xf2_61 xp2_62, ro_rn (q 0) 10 (q 20) tl, ra_N (q 20) cI 1600 tb, ro_rrrrii (q 56) 0 (q 57) (q 58) (q 59) (q 60) 0 0, ra_I (q 57) cI 1600 f1]) eu_64 hP hD rfl (fun hP hD => ?_)
    have hO_65 := hO2_63
    rw [q_n htb hO2_7 (by rw [g_60]; decide) (by rw [g_60]; decide) (by rw [g_60]; decide) (by rw [g_60]; decide) (by rw [g_60]; decide) (by rw [g_60]; decide)] at hO_65
    exact jn_9 xa2_1 xv2_2 (-2) xz2_4 xf2_61 xp2_62 0 0 f1 (quF tb tl (sk tb tl 0, false)) _ _ _ hO_65 hxa2_5 hxz2_6 (by omega) (by omega) rfl hP hD hS (lv_sub hl [0] rfl)
  by_cases g_66 : xt2_3 = 276
  · refine lv_tableIn (off := 102) (tgt := 131) hx hb dX5_read_29 (by rw [g_66]; decide) (by rw [g_66]; decide) (by rw [g_66]; rfl) (by decide) ?_
    refine lv_aload_n hx hb dX5_read_131 rfl (lv_at hl 0 rfl) ?_
    refine sk_get (v := .ref (q 2)) (C := RX5) (T := TX5) (N := 4) hx hb hts inlX5 hown hK hP 0 rfl rfl 0 (Nat.le_of_ble_eq_true rfl) w_1_154 rfl dX5_read_132 ?_
    refine sk_Vv (q0 := 0) (n := 0) (rest := []) (wr := fmR om_7_10 _) ⟨hx, hb, hml, hown, hts⟩ hl.1 (c_erd_failHere l D cI cJ cC cZ cS q xa2_1 xv2_2 0 xt2_3 xz2_4 0 (-1) tl tb (.ok (sk tb tl 0, false)) hxz2_6 hO2_7) w_5_94 w_3_55 w_3_56 w_1_4 w_3_57 hd_X6_failHere_0 ⟨⟨(Nat.le_of_ble_eq_true rfl), (Nat.le_of_ble_eq_true rfl)⟩, (Nat.le_of_ble_eq_true rfl), (Nat.le_of_ble_eq_true rfl)⟩ hK hP hD hS hA (fmT om_7_10 0) (fmF om_7_10 0) (fm_C1 rfl rfl) (fm_R rfl rfl) (fm_nT om_7_10 0) (fm_nF om_7_10 0) (fm_di om_7_10 0) rfl rfl rfl rfl (Nat.le_of_ble_eq_true rfl) dX5_read_135 (fun u H locs hw hP hD hS => ?_)
    refine exE hw (fun xf2_67 hw1 => exE hw1 (fun xp2_68 hw2 => anE hw2 (fun hO2_69 eu_70 => ?_)))
    clear hw hw1 hw2
    refine o_mgE (ws' := [ro_rrri (q 4) 5 (q 2) (q 55) (q 56) xt2_3, ro_ri (q 55) 8 (q 2) 2, ro_rniiinii (q 2) 6 (q 0) xa2_1 xv2_2 0 (-2) xz2_4 xf2_67 xp2_68, ro_rn (q 0) 10 (q 20) tl, ra_N (q 20) cI 1600 tb, ro_rrrrii (q 56) 0 (q 57) (q 58) (q 59) (q 60) 0 0, ra_I (q 57) cI 1600 f1]) eu_70 hP hD rfl (fun hP hD => ?_)
    have hO_71 := hO2_69
    rw [q_n htb hO2_7 (by rw [g_66]; decide) (by rw [g_66]; decide) (by rw [g_66]; decide) (by rw [g_66]; decide) (by rw [g_66]; decide) (by rw [g_66]; decide)] at hO_71
    exact jn_9 xa2_1 xv2_2 (-2) xz2_4 xf2_67 xp2_68 0 0 f1 (quF tb tl (sk tb tl 0, false)) _ _ _ hO_71 hxa2_5 hxz2_6 (by omega) (by omega) rfl hP hD hS (lv_sub hl [0] rfl)
  by_cases g_72 : xt2_3 = 277
  · refine lv_tableIn (off := 102) (tgt := 131) hx hb dX5_read_29 (by rw [g_72]; decide) (by rw [g_72]; decide) (by rw [g_72]; rfl) (by decide) ?_
    refine lv_aload_n hx hb dX5_read_131 rfl (lv_at hl 0 rfl) ?_
    refine sk_get (v := .ref (q 2)) (C := RX5) (T := TX5) (N := 4) hx hb hts inlX5 hown hK hP 0 rfl rfl 0 (Nat.le_of_ble_eq_true rfl) w_1_154 rfl dX5_read_132 ?_
    refine sk_Vv (q0 := 0) (n := 0) (rest := []) (wr := fmR om_7_10 _) ⟨hx, hb, hml, hown, hts⟩ hl.1 (c_erd_failHere l D cI cJ cC cZ cS q xa2_1 xv2_2 0 xt2_3 xz2_4 0 (-1) tl tb (.ok (sk tb tl 0, false)) hxz2_6 hO2_7) w_5_94 w_3_55 w_3_56 w_1_4 w_3_57 hd_X6_failHere_0 ⟨⟨(Nat.le_of_ble_eq_true rfl), (Nat.le_of_ble_eq_true rfl)⟩, (Nat.le_of_ble_eq_true rfl), (Nat.le_of_ble_eq_true rfl)⟩ hK hP hD hS hA (fmT om_7_10 0) (fmF om_7_10 0) (fm_C1 rfl rfl) (fm_R rfl rfl) (fm_nT om_7_10 0) (fm_nF om_7_10 0) (fm_di om_7_10 0) rfl rfl rfl rfl (Nat.le_of_ble_eq_true rfl) dX5_read_135 (fun u H locs hw hP hD hS => ?_)
    refine exE hw (fun xf2_73 hw1 => exE hw1 (fun xp2_74 hw2 => anE hw2 (fun hO2_75 eu_76 => ?_)))
    clear hw hw1 hw2
    refine o_mgE (ws' := [ro_rrri (q 4) 5 (q 2) (q 55) (q 56) xt2_3, ro_ri (q 55) 8 (q 2) 2, ro_rniiinii (q 2) 6 (q 0) xa2_1 xv2_2 0 (-2) xz2_4 xf2_73 xp2_74, ro_rn (q 0) 10 (q 20) tl, ra_N (q 20) cI 1600 tb, ro_rrrrii (q 56) 0 (q 57) (q 58) (q 59) (q 60) 0 0, ra_I (q 57) cI 1600 f1]) eu_76 hP hD rfl (fun hP hD => ?_)
    have hO_77 := hO2_75
    rw [q_n htb hO2_7 (by rw [g_72]; decide) (by rw [g_72]; decide) (by rw [g_72]; decide) (by rw [g_72]; decide) (by rw [g_72]; decide) (by rw [g_72]; decide)] at hO_77
    exact jn_9 xa2_1 xv2_2 (-2) xz2_4 xf2_73 xp2_74 0 0 f1 (quF tb tl (sk tb tl 0, false)) _ _ _ hO_77 hxa2_5 hxz2_6 (by omega) (by omega) rfl hP hD hS (lv_sub hl [0] rfl)
  by_cases g_78 : xt2_3 = 278
  · refine lv_tableIn (off := 102) (tgt := 131) hx hb dX5_read_29 (by rw [g_78]; decide) (by rw [g_78]; decide) (by rw [g_78]; rfl) (by decide) ?_
    refine lv_aload_n hx hb dX5_read_131 rfl (lv_at hl 0 rfl) ?_
    refine sk_get (v := .ref (q 2)) (C := RX5) (T := TX5) (N := 4) hx hb hts inlX5 hown hK hP 0 rfl rfl 0 (Nat.le_of_ble_eq_true rfl) w_1_154 rfl dX5_read_132 ?_
    refine sk_Vv (q0 := 0) (n := 0) (rest := []) (wr := fmR om_7_10 _) ⟨hx, hb, hml, hown, hts⟩ hl.1 (c_erd_failHere l D cI cJ cC cZ cS q xa2_1 xv2_2 0 xt2_3 xz2_4 0 (-1) tl tb (.ok (sk tb tl 0, false)) hxz2_6 hO2_7) w_5_94 w_3_55 w_3_56 w_1_4 w_3_57 hd_X6_failHere_0 ⟨⟨(Nat.le_of_ble_eq_true rfl), (Nat.le_of_ble_eq_true rfl)⟩, (Nat.le_of_ble_eq_true rfl), (Nat.le_of_ble_eq_true rfl)⟩ hK hP hD hS hA (fmT om_7_10 0) (fmF om_7_10 0) (fm_C1 rfl rfl) (fm_R rfl rfl) (fm_nT om_7_10 0) (fm_nF om_7_10 0) (fm_di om_7_10 0) rfl rfl rfl rfl (Nat.le_of_ble_eq_true rfl) dX5_read_135 (fun u H locs hw hP hD hS => ?_)
    refine exE hw (fun xf2_79 hw1 => exE hw1 (fun xp2_80 hw2 => anE hw2 (fun hO2_81 eu_82 => ?_)))
    clear hw hw1 hw2
    refine o_mgE (ws' := [ro_rrri (q 4) 5 (q 2) (q 55) (q 56) xt2_3, ro_ri (q 55) 8 (q 2) 2, ro_rniiinii (q 2) 6 (q 0) xa2_1 xv2_2 0 (-2) xz2_4 xf2_79 xp2_80, ro_rn (q 0) 10 (q 20) tl, ra_N (q 20) cI 1600 tb, ro_rrrrii (q 56) 0 (q 57) (q 58) (q 59) (q 60) 0 0, ra_I (q 57) cI 1600 f1]) eu_82 hP hD rfl (fun hP hD => ?_)
    have hO_83 := hO2_81
    rw [q_n htb hO2_7 (by rw [g_78]; decide) (by rw [g_78]; decide) (by rw [g_78]; decide) (by rw [g_78]; decide) (by rw [g_78]; decide) (by rw [g_78]; decide)] at hO_83
    exact jn_9 xa2_1 xv2_2 (-2) xz2_4 xf2_79 xp2_80 0 0 f1 (quF tb tl (sk tb tl 0, false)) _ _ _ hO_83 hxa2_5 hxz2_6 (by omega) (by omega) rfl hP hD hS (lv_sub hl [0] rfl)
  by_cases g_84 : xt2_3 = 279
  · refine lv_tableIn (off := 67) (tgt := 96) hx hb dX5_read_29 (by rw [g_84]; decide) (by rw [g_84]; decide) (by rw [g_84]; rfl) (by decide) ?_
    refine lv_aload_n hx hb dX5_read_96 rfl (lv_at hl 0 rfl) ?_
    refine sk_get (v := .ref (q 2)) (C := RX5) (T := TX5) (N := 4) hx hb hts inlX5 hown hK hP 0 rfl rfl 0 (Nat.le_of_ble_eq_true rfl) w_1_154 rfl dX5_read_97 ?_
    refine sk_VvZ (q0 := 0) (n := 0) (rest := []) (wr := fmR om_7_1c _) ⟨hx, hb, hml, hown, hts⟩ hl.1 (c_erd_step l D cI cJ cC cZ cS zk zv zf q xa2_1 xv2_2 0 xt2_3 xz2_4 0 (-1) tl tb (bindR (.ok (sk tb tl 0, false)) (beF tb tl)) hxa2_5 hxz2_6 htl htb (rd_st htb hO2_7 ⟨by rw [g_84]; decide, by rw [g_84]; decide⟩)) w_5_69 w_2_226 w_2_227 w_1_4 w_2_228 hd_X6_step_0 ⟨⟨(Nat.le_of_ble_eq_true rfl), (Nat.le_of_ble_eq_true rfl)⟩, (Nat.le_of_ble_eq_true rfl), (Nat.le_of_ble_eq_true rfl)⟩ hK hP hD hS hZ hA (fmT om_7_1c 0) (fmF om_7_1c 0) (fm_C1 rfl rfl) (fm_R rfl rfl) (fm_nT om_7_1c 0) (fm_nF om_7_1c 0) (fm_di om_7_1c 0) rfl rfl rfl rfl (Nat.le_of_ble_eq_true rfl) dX5_read_100 (fun u H locs hw hP hD hS => ?_)
    refine exE hw (fun xa2_85 hw1 => exE hw1 (fun xv2_86 hw2 => exE hw2 (fun xt2_87 hw3 => exE hw3 (fun xz2_88 hw4 => anE hw4 (fun hxa2_89 hw5 => anE hw5 (fun hxz2_90 hw6 => anE hw6 (fun hO2_91 eu_92 => ?_)))))))
    clear hw hw1 hw2 hw3 hw4 hw5 hw6
    refine o_mgE (ws' := [ro_rrri (q 4) 5 (q 2) (q 55) (q 56) xt2_3, ro_ri (q 55) 8 (q 2) 2, ro_rniiinii (q 2) 6 (q 0) xa2_85 xv2_86 0 xt2_87 xz2_88 0 (-1), ro_rn (q 0) 10 (q 20) tl, ra_N (q 20) cI 1600 tb, ro_rrrrii (q 56) 0 (q 57) (q 58) (q 59) (q 60) 0 0, ra_I (q 57) cI 1600 f1]) eu_92 hP hD rfl (fun hP hD => ?_)
    rw [stF_nx] at hO2_91
    have hO_93 := rs_0 (c := nx tb tl (sk tb tl 0)) (f := f1) hO2_91
    refine lv_aload_n hx hb dX5_read_103 rfl (lv_at hl 0 rfl) ?_
    refine sk_VvZ (q0 := 0) (n := 0) (rest := []) (wr := fmR om_7_7f _) ⟨hx, hb, hml, hown, hts⟩ hl.1 ((c_etests l D cI cJ cC cZ cS zk zv zf 6).1 q xt2_3 xa2_85 xv2_86 0 xt2_87 xz2_88 0 (-1) tl tb 0 0 f1 (.ok (nx tb tl (sk tb tl 0), [])) hxa2_89 hxz2_90 htl htb (by omega) (by omega) (by omega) hO_93 (lenO_0 (nx tb tl (sk tb tl 0)))) w_5_70 w_5_72 w_0_34 w_1_7 w_5_73 hd_X5_readTest_0 ⟨⟨(Nat.le_of_ble_eq_true rfl), (Nat.le_of_ble_eq_true rfl)⟩, (Nat.le_of_ble_eq_true rfl), (Nat.le_of_ble_eq_true rfl)⟩ hK hP hD hS hZ hA (fmT om_7_7f 0) (fmF om_7_7f 0) (fm_C1 rfl rfl) (fm_R rfl rfl) (fm_nT om_7_7f 0) (fm_nF om_7_7f 0) (fm_di om_7_7f 0) rfl rfl rfl rfl (Nat.le_of_ble_eq_true rfl) dX5_read_104 (fun u H locs hw hP hD hS => ?_)
    refine exE hw (fun xa2_94 hw1 => exE hw1 (fun xv2_95 hw2 => exE hw2 (fun xt2_96 hw3 => exE hw3 (fun xz2_97 hw4 => exE hw4 (fun xf2_98 hw5 => exE hw5 (fun xp2_99 hw6 => exE hw6 (fun c2_100 hw7 => exE hw7 (fun w2_101 hw8 => exE hw8 (fun g1_102 hw9 => anE hw9 (fun hxa2_103 hw10 => anE hw10 (fun hxz2_104 hw11 => anE hw11 (fun hc2_105 hw12 => anE hw12 (fun hw2_106 hw13 => anE hw13 (fun hO2_107 eu_108 => ?_))))))))))))))
    clear hw hw1 hw2 hw3 hw4 hw5 hw6 hw7 hw8 hw9 hw10 hw11 hw12 hw13
    refine o_mgE (ws' := [ro_rrri (q 4) 5 (q 2) (q 55) (q 56) xt2_3, ro_ri (q 55) 8 (q 2) 2, ro_rniiinii (q 2) 6 (q 0) xa2_94 xv2_95 0 xt2_96 xz2_97 xf2_98 xp2_99, ro_rn (q 0) 10 (q 20) tl, ra_N (q 20) cI 1600 tb, ro_rrrrnn (q 56) 0 (q 57) (q 58) (q 59) (q 60) c2_100 w2_101, ra_I (q 57) cI 1600 g1_102]) eu_108 hP hD rfl (fun hP hD => ?_)
    have hL_109 := lenO_ap (len_test (tb := tb) (n := tl) (len_fc (tb := tb) (n := tl) 6)) (lenO_0 (nx tb tl (sk tb tl 0)))
    have hO_110 := (hO2_107).1
    rw [q_t (k := 23) htb hO2_7 g_84 (by decide)] at hO_110
    refine lv_goto (tgt := 138) hx hb dX5_read_107 (by decide) ?_
    exact jn_9 xa2_94 xv2_95 xt2_96 xz2_97 xf2_98 xp2_99 c2_100 w2_101 g1_102 (quF tb tl (sk tb tl 0, false)) _ _ _ hO_110 hxa2_103 hxz2_104 hc2_105 hw2_106 rfl hP hD hS (lv_sub hl [0] rfl)
  by_cases g_111 : xt2_3 = 280
  · refine lv_tableIn (off := 67) (tgt := 96) hx hb dX5_read_29 (by rw [g_111]; decide) (by rw [g_111]; decide) (by rw [g_111]; rfl) (by decide) ?_
    refine lv_aload_n hx hb dX5_read_96 rfl (lv_at hl 0 rfl) ?_
    refine sk_get (v := .ref (q 2)) (C := RX5) (T := TX5) (N := 4) hx hb hts inlX5 hown hK hP 0 rfl rfl 0 (Nat.le_of_ble_eq_true rfl) w_1_154 rfl dX5_read_97 ?_
    refine sk_VvZ (q0 := 0) (n := 0) (rest := []) (wr := fmR om_7_1c _) ⟨hx, hb, hml, hown, hts⟩ hl.1 (c_erd_step l D cI cJ cC cZ cS zk zv zf q xa2_1 xv2_2 0 xt2_3 xz2_4 0 (-1) tl tb (bindR (.ok (sk tb tl 0, false)) (beF tb tl)) hxa2_5 hxz2_6 htl htb (rd_st htb hO2_7 ⟨by rw [g_111]; decide, by rw [g_111]; decide⟩)) w_5_69 w_2_226 w_2_227 w_1_4 w_2_228 hd_X6_step_0 ⟨⟨(Nat.le_of_ble_eq_true rfl), (Nat.le_of_ble_eq_true rfl)⟩, (Nat.le_of_ble_eq_true rfl), (Nat.le_of_ble_eq_true rfl)⟩ hK hP hD hS hZ hA (fmT om_7_1c 0) (fmF om_7_1c 0) (fm_C1 rfl rfl) (fm_R rfl rfl) (fm_nT om_7_1c 0) (fm_nF om_7_1c 0) (fm_di om_7_1c 0) rfl rfl rfl rfl (Nat.le_of_ble_eq_true rfl) dX5_read_100 (fun u H locs hw hP hD hS => ?_)
    refine exE hw (fun xa2_112 hw1 => exE hw1 (fun xv2_113 hw2 => exE hw2 (fun xt2_114 hw3 => exE hw3 (fun xz2_115 hw4 => anE hw4 (fun hxa2_116 hw5 => anE hw5 (fun hxz2_117 hw6 => anE hw6 (fun hO2_118 eu_119 => ?_)))))))
    clear hw hw1 hw2 hw3 hw4 hw5 hw6
    refine o_mgE (ws' := [ro_rrri (q 4) 5 (q 2) (q 55) (q 56) xt2_3, ro_ri (q 55) 8 (q 2) 2, ro_rniiinii (q 2) 6 (q 0) xa2_112 xv2_113 0 xt2_114 xz2_115 0 (-1), ro_rn (q 0) 10 (q 20) tl, ra_N (q 20) cI 1600 tb, ro_rrrrii (q 56) 0 (q 57) (q 58) (q 59) (q 60) 0 0, ra_I (q 57) cI 1600 f1]) eu_119 hP hD rfl (fun hP hD => ?_)
    rw [stF_nx] at hO2_118
    have hO_120 := rs_0 (c := nx tb tl (sk tb tl 0)) (f := f1) hO2_118
    refine lv_aload_n hx hb dX5_read_103 rfl (lv_at hl 0 rfl) ?_
    refine sk_VvZ (q0 := 0) (n := 0) (rest := []) (wr := fmR om_7_7f _) ⟨hx, hb, hml, hown, hts⟩ hl.1 ((c_etests l D cI cJ cC cZ cS zk zv zf 6).1 q xt2_3 xa2_112 xv2_113 0 xt2_114 xz2_115 0 (-1) tl tb 0 0 f1 (.ok (nx tb tl (sk tb tl 0), [])) hxa2_116 hxz2_117 htl htb (by omega) (by omega) (by omega) hO_120 (lenO_0 (nx tb tl (sk tb tl 0)))) w_5_70 w_5_72 w_0_34 w_1_7 w_5_73 hd_X5_readTest_0 ⟨⟨(Nat.le_of_ble_eq_true rfl), (Nat.le_of_ble_eq_true rfl)⟩, (Nat.le_of_ble_eq_true rfl), (Nat.le_of_ble_eq_true rfl)⟩ hK hP hD hS hZ hA (fmT om_7_7f 0) (fmF om_7_7f 0) (fm_C1 rfl rfl) (fm_R rfl rfl) (fm_nT om_7_7f 0) (fm_nF om_7_7f 0) (fm_di om_7_7f 0) rfl rfl rfl rfl (Nat.le_of_ble_eq_true rfl) dX5_read_104 (fun u H locs hw hP hD hS => ?_)
    refine exE hw (fun xa2_121 hw1 => exE hw1 (fun xv2_122 hw2 => exE hw2 (fun xt2_123 hw3 => exE hw3 (fun xz2_124 hw4 => exE hw4 (fun xf2_125 hw5 => exE hw5 (fun xp2_126 hw6 => exE hw6 (fun c2_127 hw7 => exE hw7 (fun w2_128 hw8 => exE hw8 (fun g1_129 hw9 => anE hw9 (fun hxa2_130 hw10 => anE hw10 (fun hxz2_131 hw11 => anE hw11 (fun hc2_132 hw12 => anE hw12 (fun hw2_133 hw13 => anE hw13 (fun hO2_134 eu_135 => ?_))))))))))))))
    clear hw hw1 hw2 hw3 hw4 hw5 hw6 hw7 hw8 hw9 hw10 hw11 hw12 hw13
    refine o_mgE (ws' := [ro_rrri (q 4) 5 (q 2) (q 55) (q 56) xt2_3, ro_ri (q 55) 8 (q 2) 2, ro_rniiinii (q 2) 6 (q 0) xa2_121 xv2_122 0 xt2_123 xz2_124 xf2_125 xp2_126, ro_rn (q 0) 10 (q 20) tl, ra_N (q 20) cI 1600 tb, ro_rrrrnn (q 56) 0 (q 57) (q 58) (q 59) (q 60) c2_127 w2_128, ra_I (q 57) cI 1600 g1_129]) eu_135 hP hD rfl (fun hP hD => ?_)
    have hL_136 := lenO_ap (len_test (tb := tb) (n := tl) (len_fc (tb := tb) (n := tl) 6)) (lenO_0 (nx tb tl (sk tb tl 0)))
    have hO_137 := (hO2_134).1
    rw [q_t (k := 24) htb hO2_7 g_111 (by decide)] at hO_137
    refine lv_goto (tgt := 138) hx hb dX5_read_107 (by decide) ?_
    exact jn_9 xa2_121 xv2_122 xt2_123 xz2_124 xf2_125 xp2_126 c2_127 w2_128 g1_129 (quF tb tl (sk tb tl 0, false)) _ _ _ hO_137 hxa2_130 hxz2_131 hc2_132 hw2_133 rfl hP hD hS (lv_sub hl [0] rfl)
  by_cases g_138 : xt2_3 = 281
  · refine lv_tableIn (off := 81) (tgt := 110) hx hb dX5_read_29 (by rw [g_138]; decide) (by rw [g_138]; decide) (by rw [g_138]; rfl) (by decide) ?_
    refine lv_aload_n hx hb dX5_read_110 rfl (lv_at hl 0 rfl) ?_
    refine sk_get (v := .ref (q 2)) (C := RX5) (T := TX5) (N := 4) hx hb hts inlX5 hown hK hP 0 rfl rfl 0 (Nat.le_of_ble_eq_true rfl) w_1_154 rfl dX5_read_111 ?_
    refine sk_VvZ (q0 := 0) (n := 0) (rest := []) (wr := fmR om_7_1c _) ⟨hx, hb, hml, hown, hts⟩ hl.1 (c_erd_step l D cI cJ cC cZ cS zk zv zf q xa2_1 xv2_2 0 xt2_3 xz2_4 0 (-1) tl tb (bindR (.ok (sk tb tl 0, false)) (beF tb tl)) hxa2_5 hxz2_6 htl htb (rd_st htb hO2_7 ⟨by rw [g_138]; decide, by rw [g_138]; decide⟩)) w_5_69 w_2_226 w_2_227 w_1_4 w_2_228 hd_X6_step_0 ⟨⟨(Nat.le_of_ble_eq_true rfl), (Nat.le_of_ble_eq_true rfl)⟩, (Nat.le_of_ble_eq_true rfl), (Nat.le_of_ble_eq_true rfl)⟩ hK hP hD hS hZ hA (fmT om_7_1c 0) (fmF om_7_1c 0) (fm_C1 rfl rfl) (fm_R rfl rfl) (fm_nT om_7_1c 0) (fm_nF om_7_1c 0) (fm_di om_7_1c 0) rfl rfl rfl rfl (Nat.le_of_ble_eq_true rfl) dX5_read_114 (fun u H locs hw hP hD hS => ?_)
    refine exE hw (fun xa2_139 hw1 => exE hw1 (fun xv2_140 hw2 => exE hw2 (fun xt2_141 hw3 => exE hw3 (fun xz2_142 hw4 => anE hw4 (fun hxa2_143 hw5 => anE hw5 (fun hxz2_144 hw6 => anE hw6 (fun hO2_145 eu_146 => ?_)))))))
    clear hw hw1 hw2 hw3 hw4 hw5 hw6
    refine o_mgE (ws' := [ro_rrri (q 4) 5 (q 2) (q 55) (q 56) xt2_3, ro_ri (q 55) 8 (q 2) 2, ro_rniiinii (q 2) 6 (q 0) xa2_139 xv2_140 0 xt2_141 xz2_142 0 (-1), ro_rn (q 0) 10 (q 20) tl, ra_N (q 20) cI 1600 tb, ro_rrrrii (q 56) 0 (q 57) (q 58) (q 59) (q 60) 0 0, ra_I (q 57) cI 1600 f1]) eu_146 hP hD rfl (fun hP hD => ?_)
    rw [stF_nx] at hO2_145
    have hO_147 := rs_0 (c := nx tb tl (sk tb tl 0)) (f := f1) hO2_145
    refine lv_aload_n hx hb dX5_read_117 rfl (lv_at hl 0 rfl) ?_
    refine sk_get (v := .ref (q 55)) (C := RX5) (T := TX5) (N := 4) hx hb hts inlX5 hown hK hP 0 rfl rfl 1 (Nat.le_of_ble_eq_true rfl) w_1_155 rfl dX5_read_118 ?_
    refine lv_aload_n hx hb dX5_read_121 rfl (lv_at hl 0 rfl) ?_
    refine sk_get (v := .ref (q 56)) (C := RX5) (T := TX5) (N := 4) hx hb hts inlX5 hown hK hP 0 rfl rfl 2 (Nat.le_of_ble_eq_true rfl) w_1_156 rfl dX5_read_122 ?_
    refine sk_VvZ (q0 := 0) (n := 1) (rest := []) (wr := fmR om_7_3f _) ⟨hx, hb, hml, hown, hts⟩ hl.1 (c_esread l D cI cJ cC cZ cS zk zv zf 6 q (q 55) 2 xa2_139 xv2_140 0 xt2_141 xz2_142 0 (-1) tl tb (q 56) (q 57) (q 58) (q 59) (q 60) 0 0 f1 (.ok (nx tb tl (sk tb tl 0), [])) hxa2_143 hxz2_144 htl htb (by omega) (by omega) (by omega) (by omega) hO_147 (lenO_0 (nx tb tl (sk tb tl 0)))) w_5_90 w_3_81 w_3_82 w_1_6 w_3_83 hd_X8_read_1 ⟨⟨(Nat.le_of_ble_eq_true rfl), (Nat.le_of_ble_eq_true rfl)⟩, (Nat.le_of_ble_eq_true rfl), (Nat.le_of_ble_eq_true rfl)⟩ hK hP hD hS hZ hA (fmT om_7_3f 0) (fmF om_7_3f 0) (fm_C1 rfl rfl) (fm_R rfl rfl) (fm_nT om_7_3f 0) (fm_nF om_7_3f 0) (fm_di om_7_3f 0) rfl rfl rfl rfl (Nat.le_of_ble_eq_true rfl) dX5_read_125 (fun u H locs hw hP hD hS => ?_)
    refine exE hw (fun xa2_148 hw1 => exE hw1 (fun xv2_149 hw2 => exE hw2 (fun xt2_150 hw3 => exE hw3 (fun xz2_151 hw4 => exE hw4 (fun xf2_152 hw5 => exE hw5 (fun xp2_153 hw6 => exE hw6 (fun c2_154 hw7 => exE hw7 (fun w2_155 hw8 => exE hw8 (fun g1_156 hw9 => anE hw9 (fun hxa2_157 hw10 => anE hw10 (fun hxz2_158 hw11 => anE hw11 (fun hc2_159 hw12 => anE hw12 (fun hw2_160 hw13 => anE hw13 (fun hO2_161 eu_162 => ?_))))))))))))))
    clear hw hw1 hw2 hw3 hw4 hw5 hw6 hw7 hw8 hw9 hw10 hw11 hw12 hw13
    refine o_mgE (ws' := [ro_rrri (q 4) 5 (q 2) (q 55) (q 56) xt2_3, ro_ri (q 55) 8 (q 2) 2, ro_rniiinii (q 2) 6 (q 0) xa2_148 xv2_149 0 xt2_150 xz2_151 xf2_152 xp2_153, ro_rn (q 0) 10 (q 20) tl, ra_N (q 20) cI 1600 tb, ro_rrrrnn (q 56) 0 (q 57) (q 58) (q 59) (q 60) c2_154 w2_155, ra_I (q 57) cI 1600 g1_156]) eu_162 hP hD rfl (fun hP hD => ?_)
    have hL_163 := lenO_ap (len_sum (tb := tb) (n := tl) (len_part (tb := tb) (n := tl) (kind := 2) 6)) (lenO_0 (nx tb tl (sk tb tl 0)))
    have hO_164 := (hO2_161).1
    rw [q_s (k := 25) htb hO2_7 g_138 (by decide)] at hO_164
    refine lv_goto (tgt := 138) hx hb dX5_read_128 (by decide) ?_
    exact jn_9 xa2_148 xv2_149 xt2_150 xz2_151 xf2_152 xp2_153 c2_154 w2_155 g1_156 (quF tb tl (sk tb tl 0, false)) _ _ _ hO_164 hxa2_157 hxz2_158 hc2_159 hw2_160 rfl hP hD hS (lv_sub hl [0] rfl)
  by_cases g_165 : xt2_3 = 282
  · refine lv_tableIn (off := 81) (tgt := 110) hx hb dX5_read_29 (by rw [g_165]; decide) (by rw [g_165]; decide) (by rw [g_165]; rfl) (by decide) ?_
    refine lv_aload_n hx hb dX5_read_110 rfl (lv_at hl 0 rfl) ?_
    refine sk_get (v := .ref (q 2)) (C := RX5) (T := TX5) (N := 4) hx hb hts inlX5 hown hK hP 0 rfl rfl 0 (Nat.le_of_ble_eq_true rfl) w_1_154 rfl dX5_read_111 ?_
    refine sk_VvZ (q0 := 0) (n := 0) (rest := []) (wr := fmR om_7_1c _) ⟨hx, hb, hml, hown, hts⟩ hl.1 (c_erd_step l D cI cJ cC cZ cS zk zv zf q xa2_1 xv2_2 0 xt2_3 xz2_4 0 (-1) tl tb (bindR (.ok (sk tb tl 0, false)) (beF tb tl)) hxa2_5 hxz2_6 htl htb (rd_st htb hO2_7 ⟨by rw [g_165]; decide, by rw [g_165]; decide⟩)) w_5_69 w_2_226 w_2_227 w_1_4 w_2_228 hd_X6_step_0 ⟨⟨(Nat.le_of_ble_eq_true rfl), (Nat.le_of_ble_eq_true rfl)⟩, (Nat.le_of_ble_eq_true rfl), (Nat.le_of_ble_eq_true rfl)⟩ hK hP hD hS hZ hA (fmT om_7_1c 0) (fmF om_7_1c 0) (fm_C1 rfl rfl) (fm_R rfl rfl) (fm_nT om_7_1c 0) (fm_nF om_7_1c 0) (fm_di om_7_1c 0) rfl rfl rfl rfl (Nat.le_of_ble_eq_true rfl) dX5_read_114 (fun u H locs hw hP hD hS => ?_)
    refine exE hw (fun xa2_166 hw1 => exE hw1 (fun xv2_167 hw2 => exE hw2 (fun xt2_168 hw3 => exE hw3 (fun xz2_169 hw4 => anE hw4 (fun hxa2_170 hw5 => anE hw5 (fun hxz2_171 hw6 => anE hw6 (fun hO2_172 eu_173 => ?_)))))))
    clear hw hw1 hw2 hw3 hw4 hw5 hw6
    refine o_mgE (ws' := [ro_rrri (q 4) 5 (q 2) (q 55) (q 56) xt2_3, ro_ri (q 55) 8 (q 2) 2, ro_rniiinii (q 2) 6 (q 0) xa2_166 xv2_167 0 xt2_168 xz2_169 0 (-1), ro_rn (q 0) 10 (q 20) tl, ra_N (q 20) cI 1600 tb, ro_rrrrii (q 56) 0 (q 57) (q 58) (q 59) (q 60) 0 0, ra_I (q 57) cI 1600 f1]) eu_173 hP hD rfl (fun hP hD => ?_)
    rw [stF_nx] at hO2_172
    have hO_174 := rs_0 (c := nx tb tl (sk tb tl 0)) (f := f1) hO2_172
    refine lv_aload_n hx hb dX5_read_117 rfl (lv_at hl 0 rfl) ?_
    refine sk_get (v := .ref (q 55)) (C := RX5) (T := TX5) (N := 4) hx hb hts inlX5 hown hK hP 0 rfl rfl 1 (Nat.le_of_ble_eq_true rfl) w_1_155 rfl dX5_read_118 ?_
    refine lv_aload_n hx hb dX5_read_121 rfl (lv_at hl 0 rfl) ?_
    refine sk_get (v := .ref (q 56)) (C := RX5) (T := TX5) (N := 4) hx hb hts inlX5 hown hK hP 0 rfl rfl 2 (Nat.le_of_ble_eq_true rfl) w_1_156 rfl dX5_read_122 ?_
    refine sk_VvZ (q0 := 0) (n := 1) (rest := []) (wr := fmR om_7_3f _) ⟨hx, hb, hml, hown, hts⟩ hl.1 (c_esread l D cI cJ cC cZ cS zk zv zf 6 q (q 55) 2 xa2_166 xv2_167 0 xt2_168 xz2_169 0 (-1) tl tb (q 56) (q 57) (q 58) (q 59) (q 60) 0 0 f1 (.ok (nx tb tl (sk tb tl 0), [])) hxa2_170 hxz2_171 htl htb (by omega) (by omega) (by omega) (by omega) hO_174 (lenO_0 (nx tb tl (sk tb tl 0)))) w_5_90 w_3_81 w_3_82 w_1_6 w_3_83 hd_X8_read_1 ⟨⟨(Nat.le_of_ble_eq_true rfl), (Nat.le_of_ble_eq_true rfl)⟩, (Nat.le_of_ble_eq_true rfl), (Nat.le_of_ble_eq_true rfl)⟩ hK hP hD hS hZ hA (fmT om_7_3f 0) (fmF om_7_3f 0) (fm_C1 rfl rfl) (fm_R rfl rfl) (fm_nT om_7_3f 0) (fm_nF om_7_3f 0) (fm_di om_7_3f 0) rfl rfl rfl rfl (Nat.le_of_ble_eq_true rfl) dX5_read_125 (fun u H locs hw hP hD hS => ?_)
    refine exE hw (fun xa2_175 hw1 => exE hw1 (fun xv2_176 hw2 => exE hw2 (fun xt2_177 hw3 => exE hw3 (fun xz2_178 hw4 => exE hw4 (fun xf2_179 hw5 => exE hw5 (fun xp2_180 hw6 => exE hw6 (fun c2_181 hw7 => exE hw7 (fun w2_182 hw8 => exE hw8 (fun g1_183 hw9 => anE hw9 (fun hxa2_184 hw10 => anE hw10 (fun hxz2_185 hw11 => anE hw11 (fun hc2_186 hw12 => anE hw12 (fun hw2_187 hw13 => anE hw13 (fun hO2_188 eu_189 => ?_))))))))))))))
    clear hw hw1 hw2 hw3 hw4 hw5 hw6 hw7 hw8 hw9 hw10 hw11 hw12 hw13
    refine o_mgE (ws' := [ro_rrri (q 4) 5 (q 2) (q 55) (q 56) xt2_3, ro_ri (q 55) 8 (q 2) 2, ro_rniiinii (q 2) 6 (q 0) xa2_175 xv2_176 0 xt2_177 xz2_178 xf2_179 xp2_180, ro_rn (q 0) 10 (q 20) tl, ra_N (q 20) cI 1600 tb, ro_rrrrnn (q 56) 0 (q 57) (q 58) (q 59) (q 60) c2_181 w2_182, ra_I (q 57) cI 1600 g1_183]) eu_189 hP hD rfl (fun hP hD => ?_)
    have hL_190 := lenO_ap (len_sum (tb := tb) (n := tl) (len_part (tb := tb) (n := tl) (kind := 2) 6)) (lenO_0 (nx tb tl (sk tb tl 0)))
    have hO_191 := (hO2_188).1
    rw [q_s (k := 26) htb hO2_7 g_165 (by decide)] at hO_191
    refine lv_goto (tgt := 138) hx hb dX5_read_128 (by decide) ?_
    exact jn_9 xa2_175 xv2_176 xt2_177 xz2_178 xf2_179 xp2_180 c2_181 w2_182 g1_183 (quF tb tl (sk tb tl 0, false)) _ _ _ hO_191 hxa2_184 hxz2_185 hc2_186 hw2_187 rfl hP hD hS (lv_sub hl [0] rfl)
  by_cases g_192 : xt2_3 = 283
  · refine lv_tableIn (off := 81) (tgt := 110) hx hb dX5_read_29 (by rw [g_192]; decide) (by rw [g_192]; decide) (by rw [g_192]; rfl) (by decide) ?_
    refine lv_aload_n hx hb dX5_read_110 rfl (lv_at hl 0 rfl) ?_
    refine sk_get (v := .ref (q 2)) (C := RX5) (T := TX5) (N := 4) hx hb hts inlX5 hown hK hP 0 rfl rfl 0 (Nat.le_of_ble_eq_true rfl) w_1_154 rfl dX5_read_111 ?_
    refine sk_VvZ (q0 := 0) (n := 0) (rest := []) (wr := fmR om_7_1c _) ⟨hx, hb, hml, hown, hts⟩ hl.1 (c_erd_step l D cI cJ cC cZ cS zk zv zf q xa2_1 xv2_2 0 xt2_3 xz2_4 0 (-1) tl tb (bindR (.ok (sk tb tl 0, false)) (beF tb tl)) hxa2_5 hxz2_6 htl htb (rd_st htb hO2_7 ⟨by rw [g_192]; decide, by rw [g_192]; decide⟩)) w_5_69 w_2_226 w_2_227 w_1_4 w_2_228 hd_X6_step_0 ⟨⟨(Nat.le_of_ble_eq_true rfl), (Nat.le_of_ble_eq_true rfl)⟩, (Nat.le_of_ble_eq_true rfl), (Nat.le_of_ble_eq_true rfl)⟩ hK hP hD hS hZ hA (fmT om_7_1c 0) (fmF om_7_1c 0) (fm_C1 rfl rfl) (fm_R rfl rfl) (fm_nT om_7_1c 0) (fm_nF om_7_1c 0) (fm_di om_7_1c 0) rfl rfl rfl rfl (Nat.le_of_ble_eq_true rfl) dX5_read_114 (fun u H locs hw hP hD hS => ?_)
    refine exE hw (fun xa2_193 hw1 => exE hw1 (fun xv2_194 hw2 => exE hw2 (fun xt2_195 hw3 => exE hw3 (fun xz2_196 hw4 => anE hw4 (fun hxa2_197 hw5 => anE hw5 (fun hxz2_198 hw6 => anE hw6 (fun hO2_199 eu_200 => ?_)))))))
    clear hw hw1 hw2 hw3 hw4 hw5 hw6
    refine o_mgE (ws' := [ro_rrri (q 4) 5 (q 2) (q 55) (q 56) xt2_3, ro_ri (q 55) 8 (q 2) 2, ro_rniiinii (q 2) 6 (q 0) xa2_193 xv2_194 0 xt2_195 xz2_196 0 (-1), ro_rn (q 0) 10 (q 20) tl, ra_N (q 20) cI 1600 tb, ro_rrrrii (q 56) 0 (q 57) (q 58) (q 59) (q 60) 0 0, ra_I (q 57) cI 1600 f1]) eu_200 hP hD rfl (fun hP hD => ?_)
    rw [stF_nx] at hO2_199
    have hO_201 := rs_0 (c := nx tb tl (sk tb tl 0)) (f := f1) hO2_199
    refine lv_aload_n hx hb dX5_read_117 rfl (lv_at hl 0 rfl) ?_
    refine sk_get (v := .ref (q 55)) (C := RX5) (T := TX5) (N := 4) hx hb hts inlX5 hown hK hP 0 rfl rfl 1 (Nat.le_of_ble_eq_true rfl) w_1_155 rfl dX5_read_118 ?_
    refine lv_aload_n hx hb dX5_read_121 rfl (lv_at hl 0 rfl) ?_
    refine sk_get (v := .ref (q 56)) (C := RX5) (T := TX5) (N := 4) hx hb hts inlX5 hown hK hP 0 rfl rfl 2 (Nat.le_of_ble_eq_true rfl) w_1_156 rfl dX5_read_122 ?_
    refine sk_VvZ (q0 := 0) (n := 1) (rest := []) (wr := fmR om_7_3f _) ⟨hx, hb, hml, hown, hts⟩ hl.1 (c_esread l D cI cJ cC cZ cS zk zv zf 6 q (q 55) 2 xa2_193 xv2_194 0 xt2_195 xz2_196 0 (-1) tl tb (q 56) (q 57) (q 58) (q 59) (q 60) 0 0 f1 (.ok (nx tb tl (sk tb tl 0), [])) hxa2_197 hxz2_198 htl htb (by omega) (by omega) (by omega) (by omega) hO_201 (lenO_0 (nx tb tl (sk tb tl 0)))) w_5_90 w_3_81 w_3_82 w_1_6 w_3_83 hd_X8_read_1 ⟨⟨(Nat.le_of_ble_eq_true rfl), (Nat.le_of_ble_eq_true rfl)⟩, (Nat.le_of_ble_eq_true rfl), (Nat.le_of_ble_eq_true rfl)⟩ hK hP hD hS hZ hA (fmT om_7_3f 0) (fmF om_7_3f 0) (fm_C1 rfl rfl) (fm_R rfl rfl) (fm_nT om_7_3f 0) (fm_nF om_7_3f 0) (fm_di om_7_3f 0) rfl rfl rfl rfl (Nat.le_of_ble_eq_true rfl) dX5_read_125 (fun u H locs hw hP hD hS => ?_)
    refine exE hw (fun xa2_202 hw1 => exE hw1 (fun xv2_203 hw2 => exE hw2 (fun xt2_204 hw3 => exE hw3 (fun xz2_205 hw4 => exE hw4 (fun xf2_206 hw5 => exE hw5 (fun xp2_207 hw6 => exE hw6 (fun c2_208 hw7 => exE hw7 (fun w2_209 hw8 => exE hw8 (fun g1_210 hw9 => anE hw9 (fun hxa2_211 hw10 => anE hw10 (fun hxz2_212 hw11 => anE hw11 (fun hc2_213 hw12 => anE hw12 (fun hw2_214 hw13 => anE hw13 (fun hO2_215 eu_216 => ?_))))))))))))))
    clear hw hw1 hw2 hw3 hw4 hw5 hw6 hw7 hw8 hw9 hw10 hw11 hw12 hw13
    refine o_mgE (ws' := [ro_rrri (q 4) 5 (q 2) (q 55) (q 56) xt2_3, ro_ri (q 55) 8 (q 2) 2, ro_rniiinii (q 2) 6 (q 0) xa2_202 xv2_203 0 xt2_204 xz2_205 xf2_206 xp2_207, ro_rn (q 0) 10 (q 20) tl, ra_N (q 20) cI 1600 tb, ro_rrrrnn (q 56) 0 (q 57) (q 58) (q 59) (q 60) c2_208 w2_209, ra_I (q 57) cI 1600 g1_210]) eu_216 hP hD rfl (fun hP hD => ?_)
    have hL_217 := lenO_ap (len_sum (tb := tb) (n := tl) (len_part (tb := tb) (n := tl) (kind := 2) 6)) (lenO_0 (nx tb tl (sk tb tl 0)))
    have hO_218 := (hO2_215).1
    rw [q_s (k := 27) htb hO2_7 g_192 (by decide)] at hO_218
    refine lv_goto (tgt := 138) hx hb dX5_read_128 (by decide) ?_
    exact jn_9 xa2_202 xv2_203 xt2_204 xz2_205 xf2_206 xp2_207 c2_208 w2_209 g1_210 (quF tb tl (sk tb tl 0, false)) _ _ _ hO_218 hxa2_211 hxz2_212 hc2_213 hw2_214 rfl hP hD hS (lv_sub hl [0] rfl)
  refine lv_tableOut (tgt := 131) hx hb dX5_read_29 (sk_out2 271 283 (by intro k hk1 hk2; rcases (show k = 271 ∨ k = 272 ∨ k = 273 ∨ k = 274 ∨ k = 275 ∨ k = 276 ∨ k = 277 ∨ k = 278 ∨ k = 279 ∨ k = 280 ∨ k = 281 ∨ k = 282 ∨ k = 283 by omega) with rfl | rfl | rfl | rfl | rfl | rfl | rfl | rfl | rfl | rfl | rfl | rfl | rfl <;> assumption)) (by decide) ?_
  refine lv_aload_n hx hb dX5_read_131 rfl (lv_at hl 0 rfl) ?_
  refine sk_get (v := .ref (q 2)) (C := RX5) (T := TX5) (N := 4) hx hb hts inlX5 hown hK hP 0 rfl rfl 0 (Nat.le_of_ble_eq_true rfl) w_1_154 rfl dX5_read_132 ?_
  refine sk_Vv (q0 := 0) (n := 0) (rest := []) (wr := fmR om_7_10 _) ⟨hx, hb, hml, hown, hts⟩ hl.1 (c_erd_failHere l D cI cJ cC cZ cS q xa2_1 xv2_2 0 xt2_3 xz2_4 0 (-1) tl tb (.ok (sk tb tl 0, false)) hxz2_6 hO2_7) w_5_94 w_3_55 w_3_56 w_1_4 w_3_57 hd_X6_failHere_0 ⟨⟨(Nat.le_of_ble_eq_true rfl), (Nat.le_of_ble_eq_true rfl)⟩, (Nat.le_of_ble_eq_true rfl), (Nat.le_of_ble_eq_true rfl)⟩ hK hP hD hS hA (fmT om_7_10 0) (fmF om_7_10 0) (fm_C1 rfl rfl) (fm_R rfl rfl) (fm_nT om_7_10 0) (fm_nF om_7_10 0) (fm_di om_7_10 0) rfl rfl rfl rfl (Nat.le_of_ble_eq_true rfl) dX5_read_135 (fun u H locs hw hP hD hS => ?_)
  refine exE hw (fun xf2_219 hw1 => exE hw1 (fun xp2_220 hw2 => anE hw2 (fun hO2_221 eu_222 => ?_)))
  clear hw hw1 hw2
  refine o_mgE (ws' := [ro_rrri (q 4) 5 (q 2) (q 55) (q 56) xt2_3, ro_ri (q 55) 8 (q 2) 2, ro_rniiinii (q 2) 6 (q 0) xa2_1 xv2_2 0 (-2) xz2_4 xf2_219 xp2_220, ro_rn (q 0) 10 (q 20) tl, ra_N (q 20) cI 1600 tb, ro_rrrrii (q 56) 0 (q 57) (q 58) (q 59) (q 60) 0 0, ra_I (q 57) cI 1600 f1]) eu_222 hP hD rfl (fun hP hD => ?_)
  have hO_223 := hO2_221
  rw [q_n htb hO2_7 (by assumption) (by assumption) (by assumption) (by assumption) (by assumption) (by assumption)] at hO_223
  exact jn_9 xa2_1 xv2_2 (-2) xz2_4 xf2_219 xp2_220 0 0 f1 (quF tb tl (sk tb tl 0, false)) _ _ _ hO_223 hxa2_5 hxz2_6 (by omega) (by omega) rfl hP hD hS (lv_sub hl [0] rfl)
/-! sums: what steps give on a pile -/
def kcClip (v : Int64) : Int64 := if 1000000 < v then 1000000 else if v < -1000000 then -1000000 else v
def kcFl (a b : Int64) : Int64 := if b = 0 then 0 else if (¬ a - a / b * b = 0) ∧ ¬ (a < 0 ↔ b < 0) then a / b - 1 else a / b
def kcOp (c : Nat) (a b : Int64) : Int64 :=
  if c = 1 then kcClip (a + b) else if c = 2 then kcClip (a - b) else if c = 3 then kcClip (a * b) else if c = 4 then kcFl a b
  else if c = 5 then (if b < a then b else a) else (if a < b then b else a)
def kcSt (nm : Nat → Int64) (c : Nat) (S : List Int64) : Option (List Int64) :=
  if 1000 ≤ c then some (Int64.ofNat (c - 1000) :: S)
  else if 40 ≤ c then some (nm (c - 40) :: S)
  else match S with
    | b :: a :: r => some (kcOp c a b :: r)
    | _ => none
def kcEx (nm : Nat → Int64) (B : Nat) : List Nat → List Int64 → Option (List Int64)
  | [], S => some S
  | c :: k, S => match kcSt nm c S with
    | none => none
    | some T => if T.length ≤ B then kcEx nm B k T else none
theorem kcEx_app (nm : Nat → Int64) (B : Nat) : ∀ (k l : List Nat) (S : List Int64), kcEx nm B (k ++ l) S = (kcEx nm B k S).bind (kcEx nm B l)
  | [], l, S => rfl
  | c :: k, l, S => by
    show (match kcSt nm c S with | none => none | some T => if T.length ≤ B then kcEx nm B (k ++ l) T else none) = (match kcSt nm c S with | none => none | some T => if T.length ≤ B then kcEx nm B k T else none).bind (kcEx nm B l)
    cases kcSt nm c S with
    | none => rfl
    | some T =>
      show (if T.length ≤ B then kcEx nm B (k ++ l) T else none) = (if T.length ≤ B then kcEx nm B k T else none).bind (kcEx nm B l)
      by_cases h : T.length ≤ B
      · rw [if_pos h, if_pos h]; exact kcEx_app nm B k l T
      · rw [if_neg h, if_neg h]; rfl
theorem kcEx_1 {nm : Nat → Int64} {B c : Nat} {k : List Nat} {S T : List Int64} (h : kcSt nm c S = some T) (hB : T.length ≤ B) : kcEx nm B (c :: k) S = kcEx nm B k T := by
  show (match kcSt nm c S with | none => none | some T => if T.length ≤ B then kcEx nm B k T else none) = _
  rw [h]
  show (if T.length ≤ B then kcEx nm B k T else none) = _
  rw [if_pos hB]
/-- one step of a run that ends well -/
theorem kcEx_c {nm : Nat → Int64} {B c : Nat} {k : List Nat} {S R : List Int64} (h : kcEx nm B (c :: k) S = some R) : ∃ T, kcSt nm c S = some T ∧ T.length ≤ B ∧ kcEx nm B k T = some R := by
  have h1 : (match kcSt nm c S with | none => none | some T => if T.length ≤ B then kcEx nm B k T else none) = some R := h
  cases hs : kcSt nm c S with
  | none => rw [hs] at h1; cases h1
  | some T =>
    rw [hs] at h1
    have h2 : (if T.length ≤ B then kcEx nm B k T else none) = some R := h1
    by_cases hB : T.length ≤ B
    · rw [if_pos hB] at h2; exact ⟨T, rfl, hB, h2⟩
    · rw [if_neg hB] at h2; cases h2
theorem kcSt_num {nm : Nat → Int64} {c : Nat} {S : List Int64} (h : 1000 ≤ c) : kcSt nm c S = some (Int64.ofNat (c - 1000) :: S) := by
  unfold kcSt; rw [if_pos h]
theorem kcSt_nm {nm : Nat → Int64} {c : Nat} {S : List Int64} (h : 40 ≤ c) (h2 : c < 1000) : kcSt nm c S = some (nm (c - 40) :: S) := by
  unfold kcSt; rw [if_neg (by omega), if_pos h]
theorem kcSt_op {nm : Nat → Int64} {c : Nat} {a b : Int64} {S : List Int64} (h : c < 40) : kcSt nm c (b :: a :: S) = some (kcOp c a b :: S) := by
  unfold kcSt; rw [if_neg (by omega), if_neg (by omega)]
/-- a sign finds two -/
theorem kcSt_two {nm : Nat → Int64} {c : Nat} {S T : List Int64} (h : c < 40) (hs : kcSt nm c S = some T) : ∃ b a R, S = b :: a :: R ∧ T = kcOp c a b :: R := by
  unfold kcSt at hs
  rw [if_neg (by omega), if_neg (by omega)] at hs
  cases S with
  | nil => have h9 : (none : Option (List Int64)) = some T := hs; cases h9
  | cons b S =>
    cases S with
    | nil => have h9 : (none : Option (List Int64)) = some T := hs; cases h9
    | cons a R => exact ⟨b, a, R, rfl, (Option.some.inj hs).symm⟩
/-- steps that put one value on whatever pile, with m places -/
def kcGd (nm : Nat → Int64) (m : Nat) (k : List Nat) : Prop := ∃ v, ∀ (B : Nat) (S : List Int64), S.length + m ≤ B → kcEx nm B k S = some (v :: S)
theorem kcGd_mono {nm : Nat → Int64} {m m2 : Nat} {k : List Nat} (h : kcGd nm m k) (hm : m ≤ m2) : kcGd nm m2 k := by
  obtain ⟨v, hv⟩ := h
  exact ⟨v, fun B S hB => hv B S (by omega)⟩
theorem kcGd_bin {nm : Nat → Int64} {m m2 o : Nat} {k l : List Nat} (h1 : kcGd nm m k) (h2 : kcGd nm m2 l) (hm : m2 + 1 ≤ m) (ho : o < 40) : kcGd nm m (k ++ l ++ [o]) := by
  obtain ⟨v, hv⟩ := h1
  obtain ⟨u, hu⟩ := h2
  refine ⟨kcOp o v u, fun B S hB => ?_⟩
  rw [kcEx_app, kcEx_app, hv B S hB]
  show (kcEx nm B l (v :: S)).bind (kcEx nm B [o]) = _
  rw [hu B (v :: S) (by rw [List.length_cons]; omega)]
  show kcEx nm B [o] (u :: v :: S) = _
  rw [kcEx_1 (kcSt_op ho) (by rw [List.length_cons]; omega)]
  rfl
theorem kcGd_num {nm : Nat → Int64} {v : Nat} : kcGd nm 1 [1000 + v] := by
  refine ⟨Int64.ofNat v, fun B S hB => ?_⟩
  rw [kcEx_1 (kcSt_num (by omega)) (by rw [List.length_cons]; omega), Nat.add_sub_cancel_left]
  rfl
theorem kcGd_nm {nm : Nat → Int64} {j : Nat} (hj : j < 900) : kcGd nm 1 [40 + j] := by
  refine ⟨nm j, fun B S hB => ?_⟩
  rw [kcEx_1 (kcSt_nm (by omega) (by omega)) (by rw [List.length_cons]; omega), Nat.add_sub_cancel_left]
  rfl
/-- which names stand there -/
def kcN1 (kind c : Nat) : Prop := (1 ≤ c ∧ c ≤ 6) ∨ (1000 ≤ c ∧ c < 11000) ∨ (40 ≤ c ∧ c < 50 ∧ allow kind (c - 40) = true)
def kcNs (kind : Nat) (k : List Nat) : Prop := ∀ c, c ∈ k → kcN1 kind c
theorem kcNs_app {kind : Nat} {k l : List Nat} (h1 : kcNs kind k) (h2 : kcNs kind l) : kcNs kind (k ++ l) := fun c hc => by
  rcases List.mem_append.mp hc with h | h
  · exact h1 c h
  · exact h2 c h
theorem kcNs_1 {kind c : Nat} (h : kcN1 kind c) : kcNs kind [c] := fun x hx => by
  rw [List.mem_singleton.mp hx]; exact h
def kcG (kind m : Nat) (k : List Nat) : Prop := (∀ nm, kcGd nm m k) ∧ kcNs kind k
theorem kcG_mono {kind m m2 : Nat} {k : List Nat} (h : kcG kind m k) (hm : m ≤ m2) : kcG kind m2 k := ⟨fun nm => kcGd_mono (h.1 nm) hm, h.2⟩
theorem kcG_bin {kind m m2 o : Nat} {k l : List Nat} (h1 : kcG kind m k) (h2 : kcG kind m2 l) (hm : m2 + 1 ≤ m) (ho : 1 ≤ o ∧ o ≤ 6) : kcG kind m (k ++ l ++ [o]) :=
  ⟨fun nm => kcGd_bin (h1.1 nm) (h2.1 nm) hm (by omega), kcNs_app (kcNs_app h1.2 h2.2) (kcNs_1 (Or.inl ho))⟩
theorem numP_val {tb : Nat → Nat} {n lo hi : Nat} {c : Cur} {r : Nat × Cur} (h : numP tb n lo hi c = .ok r) : lo ≤ r.1 ∧ r.1 ≤ hi := by
  unfold numP at h
  split at h
  · split at h
    · cases h
    · split at h
      · cases h
      · next hc => cases h; exact ⟨by show lo ≤ vd tb c.1 (ext qD tb n c.1 - c.1); omega, by show vd tb c.1 (ext qD tb n c.1 - c.1) ≤ hi; omega⟩
  · cases h
theorem kc_mul {tb : Nat → Nat} {n kind h : Nat} {P : Cur → Res} (hP : ∀ c r, P c = .ok r → kcG kind h r.2) : ∀ f c k r, mulLp tb n P f c k = .ok r → kcG kind (h + 1) k → kcG kind (h + 1) r.2
  | 0, c, k, r, h, _ => by cases h
  | f + 1, c, k, r, h, hk => by
    rw [mulLp] at h
    split at h
    · obtain ⟨a, h1, h2⟩ := bindR_ok h
      exact kc_mul hP f _ _ _ h2 (kcG_bin hk (hP _ _ h1) (by omega) ⟨by decide, by decide⟩)
    · split at h
      · obtain ⟨a, h1, h2⟩ := bindR_ok h
        exact kc_mul hP f _ _ _ h2 (kcG_bin hk (hP _ _ h1) (by omega) ⟨by decide, by decide⟩)
      · cases h; exact hk
theorem kc_prod {tb : Nat → Nat} {n kind h : Nat} {P : Cur → Res} (hP : ∀ c r, P c = .ok r → kcG kind h r.2) : ∀ c r, prodOf tb n P c = .ok r → kcG kind (h + 1) r.2 := fun c r hr => by
  obtain ⟨a, h1, h2⟩ := bindR_ok (show bindR (P c) (fun r => mulLp tb n P (n + 2) r.1 r.2) = .ok r from hr)
  exact kc_mul hP _ _ _ _ h2 (kcG_mono (hP _ _ h1) (by omega))
theorem kc_add {tb : Nat → Nat} {n kind h : Nat} {P : Cur → Res} (hP : ∀ c r, P c = .ok r → kcG kind h r.2) : ∀ f c k r, addLp tb n P f c k = .ok r → kcG kind (h + 2) k → kcG kind (h + 2) r.2
  | 0, c, k, r, h, _ => by cases h
  | f + 1, c, k, r, h, hk => by
    rw [addLp] at h
    split at h
    · obtain ⟨a, h1, h2⟩ := bindR_ok h
      exact kc_add hP f _ _ _ h2 (kcG_bin hk (kc_prod hP _ _ h1) (by omega) ⟨by decide, by decide⟩)
    · split at h
      · obtain ⟨a, h1, h2⟩ := bindR_ok h
        exact kc_add hP f _ _ _ h2 (kcG_bin hk (kc_prod hP _ _ h1) (by omega) ⟨by decide, by decide⟩)
      · cases h; exact hk
theorem kc_sum {tb : Nat → Nat} {n kind h : Nat} {P : Cur → Res} (hP : ∀ c r, P c = .ok r → kcG kind h r.2) : ∀ c r, sumOf tb n P c = .ok r → kcG kind (h + 2) r.2 := fun c r hr => by
  obtain ⟨a, h1, h2⟩ := bindR_ok (show bindR (prodOf tb n P c) (fun r => addLp tb n P (n + 2) r.1 r.2) = .ok r from hr)
  exact kc_add hP _ _ _ _ h2 (kcG_mono (kc_prod hP _ _ h1) (by omega))
theorem kc_partB {tb : Nat → Nat} {n kind h : Nat} (hk2 : kind < 2) {Q : Option (Cur → Res)} (hQ : ∀ P, Q = some P → ∀ c r, P c = .ok r → kcG kind h r.2) {c : Cur} {r : Cur × List Nat} (hr : partB tb n kind Q c = .ok r) : kcG kind (h + 3) r.2 := by
  unfold partB at hr
  split at hr
  · cases Q with
    | none => cases hr
    | some P =>
      obtain ⟨a, h1, h2⟩ := bindR_ok hr
      obtain ⟨c1, h3, h4⟩ := bindR_ok h2
      cases h4
      exact kcG_mono (kc_sum (hQ P rfl) _ a h1) (by omega)
  · split at hr
    · split at hr
      · cases Q with
        | none => cases hr
        | some P =>
          obtain ⟨a, h1, h2⟩ := bindR_ok hr
          obtain ⟨c2, h3, h4⟩ := bindR_ok h2
          obtain ⟨b, h5, h6⟩ := bindR_ok h4
          obtain ⟨c3, h7, h8⟩ := bindR_ok h6
          cases h8
          refine kcG_bin (kcG_mono (kc_sum (hQ P rfl) _ _ h1) (by omega)) (kc_sum (hQ P rfl) _ _ h5) (by omega) ?_
          split
          · exact ⟨by decide, by decide⟩
          · exact ⟨by decide, by decide⟩
      · cases hr
    · split at hr
      · next hw => exact absurd hw.1 (by omega)
      · cases hx : partIx tb n kind c with
        | some j =>
          rw [hx] at hr
          cases hr
          have hj := (partIx_lt hx).2
          have ha : allow kind j = true := by
            have := List.find?_some hx
            rw [Bool.and_eq_true] at this
            exact this.2
          exact ⟨fun nm => kcGd_mono (kcGd_nm (by omega)) (by omega), kcNs_1 (Or.inr (Or.inr ⟨by omega, by omega, by rw [Nat.add_sub_cancel_left]; exact ha⟩))⟩
        | none =>
          rw [hx] at hr
          obtain ⟨a, h1, h2⟩ := bindR_ok hr
          cases h2
          have hv := numP_val h1
          exact ⟨fun nm => kcGd_mono kcGd_num (by omega), kcNs_1 (Or.inr (Or.inl ⟨by omega, by omega⟩))⟩
theorem kc_part {tb : Nat → Nat} {n kind : Nat} (hk : kind < 2) : ∀ d c r, rdPart tb n kind d c = .ok r → kcG kind (3 * d + 3) r.2
  | 0, c, r, h => kcG_mono (kc_partB (h := 0) hk (Q := none) (fun P hp => by cases hp) h) (by omega)
  | d + 1, c, r, h => kcG_mono (kc_partB (h := 3 * d + 3) hk (Q := some (rdPart tb n kind d)) (fun P hp => by cases hp; exact kc_part hk d) h) (by omega)
theorem kc_sumD {tb : Nat → Nat} {n kind : Nat} (hk : kind < 2) {c : Cur} {r : Cur × List Nat} (h : sumD tb n kind 6 c = .ok r) : kcG kind 23 r.2 := kc_sum (kc_part hk 6) c r h
/-- only the names that stand there count -/
theorem kcEx_cg {nm nm2 : Nat → Int64} {B : Nat} : ∀ (k : List Nat) (S : List Int64), (∀ c, c ∈ k → 40 ≤ c → c < 1000 → nm (c - 40) = nm2 (c - 40)) → kcEx nm B k S = kcEx nm2 B k S
  | [], S, _ => rfl
  | c :: k, S, h => by
    have e : kcSt nm c S = kcSt nm2 c S := by
      unfold kcSt
      by_cases h1 : 1000 ≤ c
      · rw [if_pos h1, if_pos h1]
      · rw [if_neg h1, if_neg h1]
        by_cases h2 : 40 ≤ c
        · rw [if_pos h2, if_pos h2, h c (List.mem_cons_self ..) h2 (by omega)]
        · rw [if_neg h2, if_neg h2]
    show (match kcSt nm c S with | none => none | some T => if T.length ≤ B then kcEx nm B k T else none) = (match kcSt nm2 c S with | none => none | some T => if T.length ≤ B then kcEx nm2 B k T else none)
    rw [e]
    cases kcSt nm2 c S with
    | none => rfl
    | some T =>
      show (if T.length ≤ B then kcEx nm B k T else none) = (if T.length ≤ B then kcEx nm2 B k T else none)
      rw [kcEx_cg k T (fun x hx => h x (List.mem_cons_of_mem c hx))]
/-! the sums of a lock -/
def kcSub (K : List Nat) (p : Nat × Nat) : List Nat := (K.drop p.1).take (p.2 - p.1)
def kcLk (L : LkS) : Prop := ∀ w p, lG L w = some p → p.1 < p.2 ∧ p.2 ≤ (lK L).length ∧ kcG (if w = 1 then 1 else 0) 23 (kcSub (lK L) p)
theorem kcSub_app {K k : List Nat} {p : Nat × Nat} (h : p.1 < p.2) (h2 : p.2 ≤ K.length) : kcSub (K ++ k) p = kcSub K p := by
  unfold kcSub
  rw [List.drop_append_of_le_length (by omega), List.take_append_of_le_length (by rw [List.length_drop]; omega)]
theorem kcSub_new {K k : List Nat} : kcSub (K ++ k) (K.length, K.length + k.length) = k := by
  unfold kcSub
  show ((K ++ k).drop K.length).take (K.length + k.length - K.length) = k
  rw [List.drop_left, Nat.add_sub_cancel_left, List.take_length]
theorem kcLk_stS {L : LkS} {w : Nat} {k : List Nat} (h : kcLk L) (hk : kcG (if w = 1 then 1 else 0) 23 k) (hl : 1 ≤ k.length) : kcLk (stS L w k) := by
  intro v p hp
  have hp2 : updG (lG L) w (some ((lK L).length, (lK L).length + k.length)) v = some p := hp
  unfold updG at hp2
  show p.1 < p.2 ∧ p.2 ≤ (lK L ++ k).length ∧ kcG (if v = 1 then 1 else 0) 23 (kcSub (lK L ++ k) p)
  by_cases e : v = w
  · rw [if_pos e] at hp2
    cases hp2
    refine ⟨by show (lK L).length < (lK L).length + k.length; omega, by rw [List.length_append]; exact Nat.le_refl _, ?_⟩
    rw [kcSub_new, e]; exact hk
  · rw [if_neg e] at hp2
    obtain ⟨h1, h2, h3⟩ := h v p hp2
    exact ⟨h1, by rw [List.length_append]; omega, by rw [kcSub_app h1 h2]; exact h3⟩
theorem kcGd_len {nm : Nat → Int64} {m : Nat} {k : List Nat} (h : kcGd nm m k) : 1 ≤ k.length := by
  obtain ⟨v, hv⟩ := h
  cases k with
  | nil =>
    have h1 := hv m [] (by rw [List.length_nil]; omega)
    have h2 : (some [] : Option (List Int64)) = some [v] := h1
    cases h2
  | cons c k => rw [List.length_cons]; omega
theorem kcLk_sumL {tb : Nat → Nat} {n : Nat} {L : LkS} {w kind : Nat} {c : Cur} {r : LkS × Cur} (hL : kcLk L) (hw : kind = if w = 1 then 1 else 0) (h : sumL tb n L w kind c = .ok r) : kcLk r.1 := by
  unfold sumL at h
  split at h
  · cases h
  · obtain ⟨a, h1, h2⟩ := bindR_ok h
    cases h2
    have hg := kc_sumD (by rw [hw]; split <;> omega) h1
    exact kcLk_stS hL (hw ▸ hg) (kcGd_len (hg.1 (fun _ => 0)))
theorem kcLk_body {tb : Nat → Nat} {n : Nat} {L : LkS} {c : Cur} {r : LkS × Cur} (hL : kcLk L) (h : bodyP tb n L c = .ok r) : kcLk r.1 := by
  unfold bodyP at h
  split at h
  · obtain ⟨x, h1, h2⟩ := bindR_ok h; cases h2; exact hL
  · split at h
    · obtain ⟨x, h1, h2⟩ := bindR_ok h; cases h2; exact hL
    · split at h
      · obtain ⟨x, h1, h2⟩ := bindR_ok h
        have h3 : (if lU L x.1 = true then (.error (2, (nx tb n c.1).1) : LkR) else .ok (stU L x.1, x.2)) = .ok r := h2
        split at h3
        · cases h3
        · cases h3; exact hL
      · split at h
        · exact kcLk_sumL hL rfl h
        · split at h
          · exact kcLk_sumL hL rfl h
          · split at h
            · exact kcLk_sumL hL rfl h
            · split at h
              · obtain ⟨x, h1, h2⟩ := bindR_ok h; cases h2; exact hL
              · cases h
theorem kcLk_stm {tb : Nat → Nat} {n : Nat} {q r : LkS × Cur} (hL : kcLk q.1) (h : stmP tb n q = .ok r) : kcLk r.1 := by
  obtain ⟨x, h1, h2⟩ := bindR_ok (show bindR (bodyP tb n q.1 q.2) (fun r => bindR (signP tb n 59 r.2) (fun c => .ok (r.1, c))) = .ok r from h)
  obtain ⟨y, h3, h4⟩ := bindR_ok h2
  cases h4
  exact kcLk_body (r := x) hL h1
theorem kcLk_stP {tb : Nat → Nat} {n : Nat} : ∀ f q r, stP tb n f q = .ok r → kcLk q.1 → kcLk r.1
  | 0, q, r, h, hL => by
    have h1 : (if n ≤ q.2.1 then (.ok (q.1, 60) : Except Err (LkS × Nat)) else .error (5, q.2.1)) = .ok r := h
    split at h1
    · cases h1; exact hL
    · cases h1
  | f + 1, q, r, h, hL => by
    have h1 : (if n ≤ q.2.1 then (.ok (q.1, 60 - (f + 1)) : Except Err (LkS × Nat)) else bindR (stmP tb n q) (stP tb n f)) = .ok r := h
    split at h1
    · cases h1; exact hL
    · obtain ⟨x, h2, h3⟩ := bindR_ok h1
      exact kcLk_stP f x r h3 (kcLk_stm hL h2)
theorem kcLk_0 (d m : Nat) : kcLk (L0 d m) := fun w p hp => by
  have h : (none : Option (Nat × Nat)) = some p := hp
  cases h
theorem kcLk_open {tb : Nat → Nat} {n : Nat} {c : Cur} {r : LkS × Cur} (h : openP tb n c = .ok r) : kcLk r.1 := by
  unfold openP at h
  obtain ⟨c1, h1, h2⟩ := bindR_ok h
  obtain ⟨d, h3, h4⟩ := bindR_ok h2
  obtain ⟨c2, h5, h6⟩ := bindR_ok h4
  obtain ⟨m, h7, h8⟩ := bindR_ok h6
  obtain ⟨c3, h9, h10⟩ := bindR_ok h8
  cases h10
  exact kcLk_0 _ _
theorem kcLk_lock {tb : Nat → Nat} {n : Nat} {r : LkS × Nat} (h : lockP tb n = .ok r) : kcLk r.1 := by
  obtain ⟨x, h1, h2⟩ := bindR_ok (show bindR (openP tb n (sk tb n 0, false)) (stP tb n 59) = .ok r from h)
  exact kcLk_stP 59 x r h2 (kcLk_open h1)
theorem kcLk_untS {L : LkS} {w : Nat} (h : kcLk L) : kcLk (untS L w) := by
  unfold untS
  split
  · exact h
  · refine kcLk_stS h ?_ (Nat.le_refl 1)
    by_cases e : w = 1
    · rw [if_pos e, if_pos e]
      exact ⟨fun nm => kcGd_mono (kcGd_nm (j := 5) (by omega)) (by omega), kcNs_1 (Or.inr (Or.inr ⟨by decide, by decide, rfl⟩))⟩
    · rw [if_neg e, if_neg e]
      exact ⟨fun nm => kcGd_mono (kcGd_nm (j := 0) (by omega)) (by omega), kcNs_1 (Or.inr (Or.inr ⟨by decide, by decide, rfl⟩))⟩
theorem kcLk_untN {L : LkS} (h : kcLk L) : ∀ i, kcLk (untN L i)
  | 0 => h
  | i + 1 => kcLk_untS (kcLk_untN h i)
theorem kcLk_F {L : LkS} (h : kcLk L) : kcLk (lkF L) := kcLk_untN h 3
/-- the steps of a sum, told or not -/
def kcSeg (L : LkS) (w : Nat) : List Nat := match lG (lkF L) w with
  | none => []
  | some p => kcSub (lK (lkF L)) p
theorem untS_G {L : LkS} {w v : Nat} : lG (untS L w) v = if (lG L w).isSome = true then lG L v else if v = w then some ((lK L).length, (lK L).length + 1) else lG L v := by
  unfold untS
  by_cases h : (lG L w).isSome = true
  · rw [if_pos h, if_pos h]
  · rw [if_neg h, if_neg h]; rfl
theorem untS_keep {L : LkS} {w v : Nat} {p : Nat × Nat} (h : lG L v = some p) : lG (untS L w) v = some p := by
  rw [untS_G]
  by_cases h0 : (lG L w).isSome = true
  · rw [if_pos h0]; exact h
  · rw [if_neg h0]
    by_cases e : v = w
    · subst e; rw [h] at h0; exact absurd rfl h0
    · rw [if_neg e]; exact h
theorem untS_app (L : LkS) (w : Nat) : ∃ k, lK (untS L w) = lK L ++ k := by
  unfold untS
  split
  · exact ⟨[], (List.append_nil _).symm⟩
  · exact ⟨_, rfl⟩
theorem untN_some {L : LkS} : ∀ i v, v < i → ∃ p, lG (untN L i) v = some p
  | 0, v, h => absurd h (Nat.not_lt_zero v)
  | i + 1, v, h => by
    show ∃ p, lG (untS (untN L i) i) v = some p
    by_cases e : v = i
    · subst e
      rw [untS_G]
      cases hv : lG (untN L v) v with
      | some p => exact ⟨p, by rw [if_pos (by rfl)]⟩
      | none => exact ⟨_, by rw [if_neg (by decide), if_pos rfl]⟩
    · obtain ⟨p, hp⟩ := untN_some i v (by omega)
      exact ⟨p, untS_keep hp⟩
theorem kcSeg_G {L : LkS} (h : kcLk L) {w : Nat} (hw : w < 3) : kcG (if w = 1 then 1 else 0) 23 (kcSeg L w) := by
  obtain ⟨p, hp⟩ := untN_some (L := L) 3 w hw
  have h1 := (kcLk_F h w p hp).2.2
  unfold kcSeg
  rw [show lG (lkF L) w = some p from hp]
  exact h1
/-- what a sum gives -/
def kcV (L : LkS) (w : Nat) (nm : Nat → Int64) : Int64 := match kcEx nm 64 (kcSeg L w) [] with
  | some (v :: _) => v
  | _ => 0
theorem kcV_ex {L : LkS} (h : kcLk L) {w : Nat} (hw : w < 3) (nm : Nat → Int64) : kcEx nm 64 (kcSeg L w) [] = some [kcV L w nm] := by
  obtain ⟨v, hv⟩ := (kcSeg_G h hw).1 nm
  have h1 := hv 64 [] (by rw [List.length_nil]; omega)
  have key : ∀ o : Option (List Int64), o = some [v] → (match o with | some (v :: _) => v | _ => (0 : Int64)) = v := by
    intro o ho; subst ho; rfl
  have h2 : kcV L w nm = v := key _ h1
  rw [h2]; exact h1
theorem kcV_cg {L : LkS} (h : kcLk L) {w : Nat} (hw : w < 3) {nm nm2 : Nat → Int64} (e : ∀ j, j < (if w = 1 then 7 else 5) → nm j = nm2 j) : kcV L w nm = kcV L w nm2 := by
  have key : ∀ c, c ∈ kcSeg L w → 40 ≤ c → c < 1000 → nm (c - 40) = nm2 (c - 40) := by
    intro c hc h1 h2
    rcases (kcSeg_G h hw).2 c hc with ⟨q, q2⟩ | ⟨q, q2⟩ | ⟨q, q2, qa⟩
    · exact absurd h1 (by omega)
    · exact absurd h2 (by omega)
    · refine e _ ?_
      unfold allow at qa
      by_cases hw1 : w = 1
      · rw [if_pos hw1, if_neg (by decide), if_pos rfl, decide_eq_true_iff] at qa
        rw [if_pos hw1]; exact qa
      · rw [if_neg hw1, if_pos rfl, decide_eq_true_iff] at qa
        rw [if_neg hw1]; exact qa
  unfold kcV
  rw [kcEx_cg (nm := nm) (nm2 := nm2) (kcSeg L w) [] key]
/-- without week the week does not count -/
theorem kcV_wk {L : LkS} (h : kcLk L) {w : Nat} (hw : w < 3) {nm nm2 : Nat → Int64} (h4 : 44 ∉ lK (lkF L)) (e : ∀ j, j < (if w = 1 then 7 else 5) → ¬ j = 4 → nm j = nm2 j) : kcV L w nm = kcV L w nm2 := by
  have key : ∀ c, c ∈ kcSeg L w → 40 ≤ c → c < 1000 → nm (c - 40) = nm2 (c - 40) := by
    intro c hc h1 h2
    have hne : ¬ c = 44 := fun q => by
      subst q
      obtain ⟨p, hp⟩ := untN_some (L := L) 3 w hw
      unfold kcSeg at hc
      rw [show lG (lkF L) w = some p from hp] at hc
      exact h4 (List.mem_of_mem_drop (List.mem_of_mem_take (show 44 ∈ ((lK (lkF L)).drop p.1).take (p.2 - p.1) from hc)))
    rcases (kcSeg_G h hw).2 c hc with ⟨q, q2⟩ | ⟨q, q2⟩ | ⟨q, q2, qa⟩
    · exact absurd h1 (by omega)
    · exact absurd h2 (by omega)
    · refine e _ ?_ (by omega)
      unfold allow at qa
      by_cases hw1 : w = 1
      · rw [if_pos hw1, if_neg (by decide), if_pos rfl, decide_eq_true_iff] at qa
        rw [if_pos hw1]; exact qa
      · rw [if_neg hw1, if_pos rfl, decide_eq_true_iff] at qa
        rw [if_neg hw1]; exact qa
  unfold kcV
  rw [kcEx_cg (nm := nm) (nm2 := nm2) (kcSeg L w) [] key]
theorem untN_keep {L : LkS} {v : Nat} {p : Nat × Nat} (h : lG L v = some p) : ∀ i, lG (untN L i) v = some p
  | 0 => h
  | i + 1 => untS_keep (untN_keep h i)
theorem untN_app (L : LkS) : ∀ i, ∃ k, lK (untN L i) = lK L ++ k
  | 0 => ⟨[], (List.append_nil _).symm⟩
  | i + 1 => by
    obtain ⟨k, hk⟩ := untN_app L i
    obtain ⟨k2, hk2⟩ := untS_app (untN L i) i
    exact ⟨k ++ k2, by show lK (untS (untN L i) i) = _; rw [hk2, hk, List.append_assoc]⟩
theorem kcSeg_some {L : LkS} (hL : kcLk L) {w : Nat} {p : Nat × Nat} (h : lG L w = some p) : kcSeg L w = kcSub (lK L) p := by
  unfold kcSeg
  rw [show lG (lkF L) w = some p from untN_keep h 3]
  obtain ⟨k, hk⟩ := untN_app L 3
  show kcSub (lK (untN L 3)) p = _
  rw [hk]
  exact kcSub_app (hL w p h).1 (hL w p h).2.1
theorem untN_none {L : LkS} {v : Nat} (h : lG L v = none) : ∀ i, i ≤ v → lG (untN L i) v = none
  | 0, _ => h
  | i + 1, hi => by
    show lG (untS (untN L i) i) v = none
    rw [untS_G]
    by_cases h0 : (lG (untN L i) i).isSome = true
    · rw [if_pos h0]; exact untN_none h i (by omega)
    · rw [if_neg h0, if_neg (show ¬ v = i by omega)]; exact untN_none h i (by omega)
theorem kcSeg_none {L : LkS} {w : Nat} (hw : w < 3) (h : lG L w = none) : kcSeg L w = [if w = 1 then 45 else 40] := by
  have h1 := untN_none h w (Nat.le_refl w)
  have e1 : untN L (w + 1) = stS (untN L w) w [if w = 1 then 45 else 40] := by
    show untS (untN L w) w = _
    unfold untS
    rw [h1, if_neg (by decide)]
  have e2 : lG (untN L (w + 1)) w = some ((lK (untN L w)).length, (lK (untN L w)).length + 1) := by
    rw [e1]
    show updG (lG (untN L w)) w _ w = _
    unfold updG
    rw [if_pos rfl]
    rfl
  have e3 : lK (untN L (w + 1)) = lK (untN L w) ++ [if w = 1 then 45 else 40] := by rw [e1]; rfl
  have key : ∀ j, ∃ k, lG (untN L (w + 1 + j)) w = some ((lK (untN L w)).length, (lK (untN L w)).length + 1) ∧ lK (untN L (w + 1 + j)) = lK (untN L (w + 1)) ++ k := by
    intro j
    induction j with
    | zero => exact ⟨[], e2, (List.append_nil _).symm⟩
    | succ j ih =>
      obtain ⟨k, a, b⟩ := ih
      obtain ⟨k2, hk2⟩ := untS_app (untN L (w + 1 + j)) (w + 1 + j)
      exact ⟨k ++ k2, untS_keep a, by show lK (untS (untN L (w + 1 + j)) (w + 1 + j)) = _; rw [hk2, b, List.append_assoc]⟩
  obtain ⟨k, a, b⟩ := key (2 - w)
  rw [show w + 1 + (2 - w) = 3 by omega] at a b
  unfold kcSeg
  rw [show lG (lkF L) w = _ from a]
  show kcSub (lK (untN L 3)) _ = _
  rw [b, kcSub_app (by show (lK (untN L w)).length < (lK (untN L w)).length + 1; omega) (by rw [e3, List.length_append, List.length_singleton]; exact Nat.le_refl _), e3]
  exact kcSub_new
theorem kcV_none {L : LkS} {w : Nat} (hw : w < 3) (h : lG L w = none) (nm : Nat → Int64) : kcV L w nm = if w = 1 then nm 5 else nm 0 := by
  unfold kcV
  rw [kcSeg_none hw h]
  by_cases e : w = 1
  · rw [if_pos e, if_pos e, kcEx_1 (kcSt_nm (by decide) (by decide)) (Nat.le_of_ble_eq_true rfl)]
    rfl
  · rw [if_neg e, if_neg e, kcEx_1 (kcSt_nm (by decide) (by decide)) (Nat.le_of_ble_eq_true rfl)]
    rfl
/-! weeks: ways through days of ten moods -/
def kcS (f : Nat → Nat) : Nat → Nat
  | 0 => 0
  | n + 1 => kcS f n + f n
theorem kcS_cg {f g : Nat → Nat} : ∀ n, (∀ m, m < n → f m = g m) → kcS f n = kcS g n
  | 0, _ => rfl
  | n + 1, h => by
    show kcS f n + f n = kcS g n + g n
    rw [kcS_cg n (fun m hm => h m (by omega)), h n (by omega)]
theorem kcS_le {f : Nat → Nat} {b : Nat} : ∀ n, (∀ m, m < n → f m ≤ b) → kcS f n ≤ n * b
  | 0, _ => Nat.zero_le _
  | n + 1, h => by
    show kcS f n + f n ≤ (n + 1) * b
    have h1 := kcS_le n (fun m hm => h m (by omega))
    have h2 := h n (by omega)
    rw [Nat.succ_mul]
    omega
theorem kcS_z {f : Nat → Nat} : ∀ n, (∀ m, m < n → f m = 0) → kcS f n = 0
  | 0, _ => rfl
  | n + 1, h => by
    show kcS f n + f n = 0
    rw [kcS_z n (fun m hm => h m (by omega)), h n (by omega)]
theorem kcS_pos {f : Nat → Nat} : ∀ n, kcS f n = 0 → ∀ m, m < n → f m = 0
  | 0, _, m, hm => absurd hm (Nat.not_lt_zero m)
  | n + 1, h, m, hm => by
    have h1 : kcS f n + f n = 0 := h
    by_cases e : m = n
    · subst e; omega
    · exact kcS_pos n (by omega) m (by omega)
theorem kcS_add {f g : Nat → Nat} : ∀ n, kcS (fun m => f m + g m) n = kcS f n + kcS g n
  | 0 => rfl
  | n + 1 => by
    show kcS (fun m => f m + g m) n + (f n + g n) = (kcS f n + f n) + (kcS g n + g n)
    rw [kcS_add n]
    omega
theorem kcS_mul {f : Nat → Nat} {b : Nat} : ∀ n, kcS (fun m => f m * b) n = kcS f n * b
  | 0 => by show 0 = 0 * b; omega
  | n + 1 => by
    show kcS (fun m => f m * b) n + f n * b = (kcS f n + f n) * b
    rw [kcS_mul n, Nat.add_mul]
theorem kcS_mulL {f : Nat → Nat} {b : Nat} (n : Nat) : kcS (fun m => b * f m) n = b * kcS f n := by
  rw [kcS_cg (g := fun m => f m * b) n (fun m _ => Nat.mul_comm _ _), kcS_mul, Nat.mul_comm]
theorem kcS_swap {f : Nat → Nat → Nat} (k : Nat) : ∀ n, kcS (fun m => kcS (fun a => f a m) k) n = kcS (fun a => kcS (fun m => f a m) n) k
  | 0 => (kcS_z (f := fun a => kcS (fun m => f a m) 0) k (fun m _ => rfl)).symm
  | n + 1 => by
    show kcS (fun m => kcS (fun a => f a m) k) n + kcS (fun a => f a n) k = kcS (fun a => kcS (fun m => f a m) n + f a n) k
    rw [kcS_swap k n, kcS_add]
def kcC (E : Nat → Nat → Nat → Bool) : Nat → Nat → Nat → Nat
  | 0, _, _ => 1
  | k + 1, d, a => kcS (fun m => if E d a m = true then kcC E k (d + 1) m else 0) 10
theorem kcC_s (E : Nat → Nat → Nat → Bool) (k d a : Nat) : kcC E (k + 1) d a = kcS (fun m => if E d a m = true then kcC E k (d + 1) m else 0) 10 := rfl
theorem kcC_le (E : Nat → Nat → Nat → Bool) : ∀ k d a, kcC E k d a ≤ 10 ^ k
  | 0, _, _ => Nat.le_refl 1
  | k + 1, d, a => by
    rw [kcC_s, Nat.pow_succ, Nat.mul_comm]
    refine kcS_le 10 (fun m _ => ?_)
    split
    · exact kcC_le E k (d + 1) m
    · exact Nat.zero_le _
theorem kcC_cg {E F : Nat → Nat → Nat → Bool} : ∀ k d a, (∀ e, d ≤ e → e < d + k → ∀ x m, x < 10 → m < 10 → E e x m = F e x m) → a < 10 → kcC E k d a = kcC F k d a
  | 0, _, _, _, _ => rfl
  | k + 1, d, a, h, ha => by
    rw [kcC_s, kcC_s]
    refine kcS_cg 10 (fun m hm => ?_)
    rw [h d (Nat.le_refl d) (by omega) a m ha hm, kcC_cg k (d + 1) m (fun e h1 h2 x y hx hy => h e (by omega) (by omega) x y hx hy) hm]
theorem kc_9 {k : Nat} (h : k ≤ 9) : 10 ^ k ≤ 1000000000 := Nat.pow_le_pow_right (by decide) h
theorem kcC_9 (E : Nat → Nat → Nat → Bool) {k : Nat} (h : k ≤ 9) (d a : Nat) : kcC E k d a ≤ 1000000000 := Nat.le_trans (kcC_le E k d a) (kc_9 h)
/-- from ahead -/
def kcB (E : Nat → Nat → Nat → Bool) (a0 : Nat) : Nat → Nat → Nat
  | 0, m => if E 0 a0 m = true then 1 else 0
  | d + 1, m => kcS (fun a => if E (d + 1) a m = true then kcB E a0 d a else 0) 10
theorem kcB_0 (E : Nat → Nat → Nat → Bool) (a0 m : Nat) : kcB E a0 0 m = if E 0 a0 m = true then 1 else 0 := rfl
theorem kcB_s (E : Nat → Nat → Nat → Bool) (a0 d m : Nat) : kcB E a0 (d + 1) m = kcS (fun a => if E (d + 1) a m = true then kcB E a0 d a else 0) 10 := rfl
theorem kcB_C (E : Nat → Nat → Nat → Bool) (a0 : Nat) : ∀ d k, kcS (fun m => kcB E a0 d m * kcC E k (d + 1) m) 10 = kcC E (k + d + 1) 0 a0
  | 0, k => by
    rw [show k + 0 + 1 = k + 1 by omega, kcC_s]
    refine kcS_cg 10 (fun m _ => ?_)
    rw [kcB_0]
    by_cases h : E 0 a0 m = true
    · rw [if_pos h, if_pos h, Nat.one_mul]
    · rw [if_neg h, if_neg h, Nat.zero_mul]
  | d + 1, k => by
    have ih := kcB_C E a0 d (k + 1)
    rw [show k + (d + 1) + 1 = (k + 1) + d + 1 by omega, ← ih]
    rw [kcS_cg (g := fun m => kcS (fun a => if E (d + 1) a m = true then kcB E a0 d a * kcC E k (d + 1 + 1) m else 0) 10) 10 (fun m _ => ?_)]
    · rw [kcS_swap 10 10]
      refine kcS_cg 10 (fun a _ => ?_)
      rw [kcC_s, ← kcS_mulL]
      refine kcS_cg 10 (fun m _ => ?_)
      by_cases h : E (d + 1) a m = true
      · rw [if_pos h, if_pos h]
      · rw [if_neg h, if_neg h, Nat.mul_zero]
    · show kcB E a0 (d + 1) m * kcC E k (d + 1 + 1) m = _
      rw [kcB_s, ← kcS_mul]
      refine kcS_cg 10 (fun a _ => ?_)
      by_cases h : E (d + 1) a m = true
      · rw [if_pos h, if_pos h]
      · rw [if_neg h, if_neg h, Nat.zero_mul]
theorem kcB_all (E : Nat → Nat → Nat → Bool) (a0 d : Nat) : kcS (kcB E a0 d) 10 = kcC E (d + 1) 0 a0 := by
  have h := kcB_C E a0 d 0
  rw [Nat.zero_add] at h
  rw [← h]
  exact kcS_cg 10 (fun m _ => (Nat.mul_one _).symm)
/-! the week of a number -/
def kcP (w : Nat → Nat) : Nat → Nat → Nat → Nat × Nat
  | 0, m, x => (m, x)
  | f + 1, m, x => if x < w m then (m, x) else kcP w f (m + 1) (x - w m)
theorem kcP_s (w : Nat → Nat) (f m x : Nat) : kcP w (f + 1) m x = if x < w m then (m, x) else kcP w f (m + 1) (x - w m) := rfl
theorem kcP_go {w : Nat → Nat} {m x : Nat} (hm : m < 10) (h : ¬ x < w m) : kcP w (10 - m) m x = kcP w (10 - (m + 1)) (m + 1) (x - w m) := by
  rw [show 10 - m = (10 - (m + 1)) + 1 by omega, kcP_s, if_neg h]
theorem kcP_at {w : Nat → Nat} {m x : Nat} (hm : m < 10) (h : x < w m) : kcP w (10 - m) m x = (m, x) := by
  rw [show 10 - m = (10 - (m + 1)) + 1 by omega, kcP_s, if_pos h]
/-- what is left of a sum from a place on -/
def kcT (w : Nat → Nat) : Nat → Nat → Nat
  | 0, _ => 0
  | f + 1, m => w m + kcT w f (m + 1)
theorem kcT_S (w : Nat → Nat) : ∀ f m, kcS w m + kcT w f m = kcS w (m + f)
  | 0, m => rfl
  | f + 1, m => by
    show kcS w m + (w m + kcT w f (m + 1)) = _
    have h := kcT_S w f (m + 1)
    rw [show m + (f + 1) = m + 1 + f by omega, ← h]
    show kcS w m + (w m + kcT w f (m + 1)) = (kcS w m + w m) + kcT w f (m + 1)
    omega
theorem kcP_in {w : Nat → Nat} : ∀ f m x, x < kcT w f m → (kcP w f m x).1 < m + f ∧ (kcP w f m x).2 < w (kcP w f m x).1
  | 0, m, x, h => absurd h (Nat.not_lt_zero x)
  | f + 1, m, x, h => by
    rw [kcP_s]
    have h1 : x < w m + kcT w f (m + 1) := h
    by_cases c : x < w m
    · rw [if_pos c]; exact ⟨by show m < m + (f + 1); omega, c⟩
    · rw [if_neg c]
      have h2 := kcP_in (w := w) f (m + 1) (x - w m) (by omega)
      exact ⟨by omega, h2.2⟩
theorem kcP_10 {w : Nat → Nat} {x : Nat} (h : x < kcS w 10) : (kcP w 10 0 x).1 < 10 ∧ (kcP w 10 0 x).2 < w (kcP w 10 0 x).1 := by
  have h0 := kcT_S w 10 0
  have h1 : kcS w 0 = 0 := rfl
  have h2 := kcP_in (w := w) 10 0 x (by rw [show 0 + 10 = 10 from rfl] at h0; omega)
  exact ⟨by omega, h2.2⟩
/-- the first with some -/
theorem kcP_zero {w : Nat → Nat} : ∀ f m j, m ≤ j → j < m + f → 0 < w j → (∀ i, m ≤ i → i < j → w i = 0) → kcP w f m 0 = (j, 0)
  | 0, m, j, h1, h2, _, _ => absurd h2 (by omega)
  | f + 1, m, j, h1, h2, h3, h4 => by
    rw [kcP_s]
    by_cases e : j = m
    · subst e; rw [if_pos h3]
    · rw [if_neg (by rw [h4 m (Nat.le_refl m) (by omega)]; omega), Nat.zero_sub]
      exact kcP_zero f (m + 1) j (by omega) (by omega) h3 (fun i hi hj => h4 i (by omega) hj)
def kcW (E : Nat → Nat → Nat → Bool) (n d a m : Nat) : Nat := if E d a m = true then kcC E (n - (d + 1)) (d + 1) m else 0
/-- ahead of a day: the mood, and what is left of the number -/
def kcA (E : Nat → Nat → Nat → Bool) (n a0 x : Nat) : Nat → Nat × Nat
  | 0 => (a0, x)
  | d + 1 => kcP (kcW E n d (kcA E n a0 x d).1) 10 0 (kcA E n a0 x d).2
theorem kcA_s (E : Nat → Nat → Nat → Bool) (n a0 x d : Nat) : kcA E n a0 x (d + 1) = kcP (kcW E n d (kcA E n a0 x d).1) 10 0 (kcA E n a0 x d).2 := rfl
theorem kcW_S {E : Nat → Nat → Nat → Bool} {n d a : Nat} (h : d < n) : kcS (kcW E n d a) 10 = kcC E (n - d) d a := by
  rw [show n - d = (n - (d + 1)) + 1 by omega, kcC_s]
  rfl
theorem kcA_ok {E : Nat → Nat → Nat → Bool} {n a0 x : Nat} (ha : a0 < 10) (h : x < kcC E n 0 a0) : ∀ d, d ≤ n → (kcA E n a0 x d).1 < 10 ∧ (kcA E n a0 x d).2 < kcC E (n - d) d (kcA E n a0 x d).1
  | 0, _ => ⟨ha, h⟩
  | d + 1, hd => by
    obtain ⟨h1, h2⟩ := kcA_ok ha h d (by omega)
    rw [← kcW_S (by omega)] at h2
    obtain ⟨h3, h4⟩ := kcP_10 h2
    rw [kcA_s]
    refine ⟨h3, ?_⟩
    generalize kcP (kcW E n d (kcA E n a0 x d).1) 10 0 (kcA E n a0 x d).2 = q at h3 h4 ⊢
    unfold kcW at h4
    split at h4
    · exact h4
    · exact absurd h4 (Nat.not_lt_zero _)
/-- the mood of a day in the week of a number -/
def kcM (E : Nat → Nat → Nat → Bool) (n a0 x d : Nat) : Nat := (kcA E n a0 x (d + 1)).1
/-! masks of ten bits -/
def kcK (P : Nat → Bool) : Nat → Nat
  | 0 => 0
  | n + 1 => kcK P n + (if P n = true then 2 ^ n else 0)
theorem kcK_lt (P : Nat → Bool) : ∀ n, kcK P n < 2 ^ n
  | 0 => Nat.le_refl 1
  | n + 1 => by
    have h := kcK_lt P n
    show kcK P n + (if P n = true then 2 ^ n else 0) < 2 ^ (n + 1)
    rw [Nat.pow_succ]
    split <;> omega
theorem kcK_s (P : Nat → Bool) (n : Nat) : kcK P (n + 1) = kcK P n + (if P n = true then 2 ^ n else 0) := rfl
theorem kcK_or (P : Nat → Bool) (n : Nat) (h : P n = true) : kcK P n ||| 2 ^ n = kcK P (n + 1) := by
  rw [kcK_s, if_pos h, Nat.or_comm, Nat.add_comm]
  have h1 := Nat.two_pow_add_eq_or_of_lt (kcK_lt P n) 1
  rw [Nat.mul_one] at h1
  exact h1.symm
theorem kcK_no (P : Nat → Bool) (n : Nat) (h : ¬ P n = true) : kcK P (n + 1) = kcK P n := by
  rw [kcK_s, if_neg h, Nat.add_zero]
theorem kcK_bit (P : Nat → Bool) : ∀ n j, (kcK P n).testBit j = (decide (j < n) && P j)
  | 0, j => by
    show Nat.testBit 0 j = _
    rw [Nat.zero_testBit]
    rfl
  | n + 1, j => by
    by_cases h : P n = true
    · rw [← kcK_or P n h, Nat.testBit_or, kcK_bit P n j, Nat.testBit_two_pow]
      by_cases e : n = j
      · subst e
        rw [h]
        simp
      · rw [show decide (n = j) = false from decide_eq_false e, Bool.or_false]
        by_cases l : j < n
        · rw [show decide (j < n) = true from decide_eq_true l, show decide (j < n + 1) = true from decide_eq_true (by omega)]
        · rw [show decide (j < n) = false from decide_eq_false l, show decide (j < n + 1) = false from decide_eq_false (by omega)]
    · rw [kcK_no P n h, kcK_bit P n j]
      by_cases e : j = n
      · subst e
        rw [Bool.not_eq_true] at h
        rw [h, Bool.and_false, Bool.and_false]
      · by_cases l : j < n
        · rw [show decide (j < n) = true from decide_eq_true l, show decide (j < n + 1) = true from decide_eq_true (by omega)]
        · rw [show decide (j < n) = false from decide_eq_false l, show decide (j < n + 1) = false from decide_eq_false (by omega)]
/-! rows: what was put, kept -/
section KxRows
variable {p : Program} {l : Launch} {e : Env} {R : Room} {s : State} {m : MethodId} {args : Array Value} {below : List Frame} {meth : Method} {c : Code} {H : Heap} {locs : List Loc} {cells slots : Nat} {Q : State → Prop}
variable {cc : ByteArray} {pc : Nat} {ls : Array Slot} {rest : List Value} {D : va_G} {tys : List (ClassId × FieldType)} {ws : va_W} {A : Nat → Prop} {H0 : Heap} {a : Nat}
theorem sk_iastE (hexec : p.tables.exec = Jvm.exec) (hb : c.code = cc) (hK : skK D tys s) (hP : va_P D vwCl ws H) (hD : va_D A ws) (hS : va_S A H0 H locs) (q0 t0 : Nat) {cA : ClassId} {n : Nat} {f : Nat → Int32} {ws' : (Nat → Int32) → va_W} (ha : ws[q0]? = some (a, .inl (cA, n, .inl f))) (ht : tys[t0]? = some (cA, .int)) {k : Nat} {x : Int32} (hk : k < n) (hn : n < 2147483648) (hw' : ∀ f', ws.set q0 (a, .inl (cA, n, .inl f')) = ws' f') (hdg : decode cc pc = .ok (.iastore, 1))
    (kk : ∀ (f' : Nat → Int32) (H1 : Heap) (locs1 : List Loc), f' = upd f k x → va_P D vwCl (ws' f') H1 → va_D A (ws' f') → va_S A H0 H1 locs1 → W p l e R s m args below meth c H1 locs1 cells slots Q (F0 m (pc + 1) ls rest)) : W p l e R s m args below meth c H locs cells slots Q (F0 m pc ls (.int x :: .int (nI k) :: .ref a :: rest)) :=
  va_iast hexec hb hK.1 hP hD hS q0 t0 ha ht (vin k n hk hn) hdg (fun H1 locs1 h1 h2 h3 => kk _ H1 locs1 (by rw [nI_clamp (by omega)]) ((hw' _) ▸ h1) ((hw' _) ▸ h2) h3)
theorem sk_lastE (hexec : p.tables.exec = Jvm.exec) (hb : c.code = cc) (hK : skK D tys s) (hP : va_P D vwCl ws H) (hD : va_D A ws) (hS : va_S A H0 H locs) (q0 t0 : Nat) {cA : ClassId} {n : Nat} {f : Nat → Int64} {ws' : (Nat → Int64) → va_W} (ha : ws[q0]? = some (a, .inl (cA, n, .inr (.inl f)))) (ht : tys[t0]? = some (cA, .long)) {k : Nat} {x : Int64} (hk : k < n) (hn : n < 2147483648) (hw' : ∀ f', ws.set q0 (a, .inl (cA, n, .inr (.inl f'))) = ws' f') (hdg : decode cc pc = .ok (.lastore, 1))
    (kk : ∀ (f' : Nat → Int64) (H1 : Heap) (locs1 : List Loc), f' = vp_updL f k x → va_P D vwCl (ws' f') H1 → va_D A (ws' f') → va_S A H0 H1 locs1 → W p l e R s m args below meth c H1 locs1 cells slots Q (F0 m (pc + 1) ls rest)) : W p l e R s m args below meth c H locs cells slots Q (F0 m pc ls (.long x :: .int (nI k) :: .ref a :: rest)) :=
  va_last hexec hb hK.1 hP hD hS q0 t0 ha ht (vin k n hk hn) hdg (fun H1 locs1 h1 h2 h3 => kk _ H1 locs1 (by rw [nI_clamp (by omega)]) ((hw' _) ▸ h1) ((hw' _) ▸ h2) h3)
theorem sk_iastNE (hexec : p.tables.exec = Jvm.exec) (hb : c.code = cc) (hK : skK D tys s) (hP : va_P D vwCl ws H) (hD : va_D A ws) (hS : va_S A H0 H locs) (q0 t0 : Nat) {cA : ClassId} {n B : Nat} {f : Nat → Nat} {ws' : (Nat → Nat) → va_W} (ha : ws[q0]? = some (a, .inl (cA, n, .inl (fun j => nI (f j))))) (ht : tys[t0]? = some (cA, .int)) {k v : Nat} (hk : k < n) (hn : n < 2147483648) (hf : ∀ j, f j ≤ B) (hv : v ≤ B) (hw' : ∀ f', ws.set q0 (a, .inl (cA, n, .inl (fun j => nI (f' j)))) = ws' f') (hdg : decode cc pc = .ok (.iastore, 1))
    (kk : ∀ (f' : Nat → Nat) (H1 : Heap) (locs1 : List Loc), (∀ j, f' j ≤ B) → f' = updN f k v → va_P D vwCl (ws' f') H1 → va_D A (ws' f') → va_S A H0 H1 locs1 → W p l e R s m args below meth c H1 locs1 cells slots Q (F0 m (pc + 1) ls rest)) : W p l e R s m args below meth c H locs cells slots Q (F0 m pc ls (.int (nI v) :: .int (nI k) :: .ref a :: rest)) := by
  refine va_iast hexec hb hK.1 hP hD hS q0 t0 ha ht (vin k n hk hn) hdg (fun H1 locs1 h1 h2 h3 => ?_)
  rw [updN_fun f k v (by omega)] at h1 h2
  exact kk _ H1 locs1 (updN_le hf hv) rfl ((hw' _) ▸ h1) ((hw' _) ▸ h2) h3
end KxRows
theorem npos_le {k : Nat} (h : 1 ≤ k) (hk : k < 2147483648) : ¬ nI k ≤ 0 := fun q => by
  have h1 := (nle k 0 hk (by decide)).mp q
  omega
theorem kx_i2l {k : Nat} (h : k < 2147483648) : Int32.toInt64 (nI k) = Int64.ofNat k := by
  refine Int64.toInt_inj.mp ?_
  rw [Int32.toInt_toInt64, nI_toInt h, Int64.toInt_ofNat_of_lt (by omega)]
/-! bounds, parts, places: as the class does them -/
theorem kclip_a {x : Int64} (h : ¬ lg_cmp x 1000000 ≤ 0) : (1000000 : Int64) = kcClip x := by
  rw [lg_cmp_le] at h
  unfold kcClip
  rw [if_pos (Int64.not_le.mp h)]
theorem kclip_b {x : Int64} (h : lg_cmp x 1000000 ≤ 0) (h2 : ¬ 0 ≤ lg_cmp x (-1000000)) : (-1000000 : Int64) = kcClip x := by
  rw [lg_cmp_le] at h
  rw [lg_cmp_ge] at h2
  unfold kcClip
  rw [if_neg (Int64.not_lt.mpr h), if_pos (Int64.not_le.mp h2)]
theorem kclip_c {x : Int64} (h : lg_cmp x 1000000 ≤ 0) (h2 : 0 ≤ lg_cmp x (-1000000)) : x = kcClip x := by
  rw [lg_cmp_le] at h
  rw [lg_cmp_ge] at h2
  unfold kcClip
  rw [if_neg (Int64.not_lt.mpr h), if_neg (Int64.not_lt.mpr h2)]
theorem kx_xor (x y : Int64) : (0 ≤ lg_cmp (x ^^^ y) 0) ↔ (x < 0 ↔ y < 0) := by
  rw [lg_cmp_ge, Int64.le_iff_toInt_le, Int64.lt_iff_toInt_lt, Int64.lt_iff_toInt_lt]
  show (0 : Int) ≤ (x ^^^ y).toBitVec.toInt ↔ (x.toBitVec.toInt < 0 ↔ y.toBitVec.toInt < 0)
  rw [Int64.toBitVec_xor]
  have a := BitVec.msb_eq_toInt (x := x.toBitVec ^^^ y.toBitVec)
  have b := BitVec.msb_eq_toInt (x := x.toBitVec)
  have d := BitVec.msb_eq_toInt (x := y.toBitVec)
  rw [BitVec.msb_xor, b, d] at a
  by_cases h1 : x.toBitVec.toInt < 0
  · by_cases h2 : y.toBitVec.toInt < 0
    · rw [decide_eq_true h1, decide_eq_true h2] at a
      have h3 := of_decide_eq_false a.symm
      exact ⟨fun _ => ⟨fun _ => h2, fun _ => h1⟩, fun _ => by omega⟩
    · rw [decide_eq_true h1, decide_eq_false h2] at a
      have h3 := of_decide_eq_true a.symm
      exact ⟨fun q => absurd q (by omega), fun q => absurd (q.mp h1) h2⟩
  · by_cases h2 : y.toBitVec.toInt < 0
    · rw [decide_eq_false h1, decide_eq_true h2] at a
      have h3 := of_decide_eq_true a.symm
      exact ⟨fun q => absurd q (by omega), fun q => absurd (q.mpr h2) h1⟩
    · rw [decide_eq_false h1, decide_eq_false h2] at a
      have h3 := of_decide_eq_false a.symm
      exact ⟨fun _ => ⟨fun q => absurd q h1, fun q => absurd q h2⟩, fun _ => by omega⟩
theorem kx_sub0 (x z : Int64) : x - z = 0 ↔ z = x := by
  constructor
  · intro h
    have h1 : x - z + z = 0 + z := by rw [h]
    rw [Int64.sub_add_cancel, Int64.zero_add] at h1
    exact h1.symm
  · intro h
    rw [h, Int64.sub_self]
theorem kfl_0 {x y : Int64} (hy : y = 0) : (0 : Int64) = kcFl x y := by
  unfold kcFl; rw [if_pos hy]
theorem kfl_a {x y : Int64} (hy : ¬ y = 0) (h : ¬ 0 ≤ lg_cmp (x ^^^ y) 0) (h2 : ¬ lg_cmp (x / y * y) x = 0) : x / y - 1 = kcFl x y := by
  unfold kcFl
  rw [if_neg hy, if_pos ⟨fun q => h2 ((lg_cmp_eq _ _).mpr ((kx_sub0 _ _).mp q)), fun q => h ((kx_xor x y).mpr q)⟩]
theorem kfl_b {x y : Int64} (hy : ¬ y = 0) (h : 0 ≤ lg_cmp (x ^^^ y) 0) : x / y = kcFl x y := by
  unfold kcFl
  rw [if_neg hy, if_neg (fun q => q.2 ((kx_xor x y).mp h))]
theorem kfl_c {x y : Int64} (hy : ¬ y = 0) (h2 : lg_cmp (x / y * y) x = 0) : x / y = kcFl x y := by
  unfold kcFl
  rw [if_neg hy, if_neg (fun q => q.1 ((kx_sub0 _ _).mpr ((lg_cmp_eq _ _).mp h2)))]
/-- by ten -/
def kcTen (v : Int64) : Nat := (v.toInt % 10).toNat
theorem kcTen_lt (v : Int64) : kcTen v < 10 := by
  unfold kcTen; omega
theorem kten_a {x v : Int64} (hv : v = x - x / 10 * 10) (h : 0 ≤ lg_cmp (x ^^^ 10) 0) : v.toInt = ((kcTen x : Nat) : Int) := by
  have h1 := (lxor10 x).mp h
  rw [hv, lrem10]
  unfold kcTen
  rw [Int.tmod_eq_emod_of_nonneg h1]
  omega
theorem kten_b {x v : Int64} (hv : v = x - x / 10 * 10) (hn : lg_cmp v 0 = 0) : v.toInt = ((kcTen x : Nat) : Int) := by
  have h1 := (lg_cmp_eq _ _).mp hn
  have h2 : v.toInt = 0 := by rw [h1]; rfl
  have h3 : x.toInt.tmod 10 = 0 := by rw [← lrem10, ← hv]; exact h2
  have h4 := Int.dvd_of_tmod_eq_zero h3
  rw [h2]
  unfold kcTen
  omega
theorem kten_c {x v r : Int64} (hv : v = x - x / 10 * 10) (h : ¬ 0 ≤ lg_cmp (x ^^^ 10) 0) (hn : ¬ lg_cmp v 0 = 0) (hr : r = v + 10) : r.toInt = ((kcTen x : Nat) : Int) := by
  obtain ⟨h1, h2⟩ := fmt10b hv h
  have e10 : (10 : Int64).toInt = 10 := rfl
  have h3 : ¬ v.toInt = 0 := fun q => hn ((lg_cmp_eq _ _).mpr (Int64.toInt_inj.mp q))
  have h4 : v.toInt = x.toInt.tmod 10 := by rw [hv, lrem10]
  have h5 := Int.mul_tdiv_add_tmod x.toInt 10
  rw [hr, Jvm.Kit.i64_add (by rw [e10]; omega) (by rw [e10]; omega), e10]
  unfold kcTen
  omega
theorem kten_i {a : Int64} {k : Nat} (h : a.toInt = (k : Int)) (hk : k < 2147483648) : a.toInt32 = nI k := by
  refine Int32.toInt_inj.mp ?_
  rw [nI_toInt hk, Int64.toInt_toInt32, h]
  rw [Int.bmod_eq_of_le (by omega) (by omega)]
theorem kop_c {c k : Nat} (h : nI (29999 + c) = nI k) (hc : c ≤ 6) (hk : k < 2147483648) : 29999 + c = k := (neq _ _ (by omega) hk).mp h
theorem kop_f {c : Nat} (h1 : 1 ≤ c) (h6 : c ≤ 6) (g0 : ¬ nI (29999 + c) = 30000) (g1 : ¬ nI (29999 + c) = 30001) (g2 : ¬ nI (29999 + c) = 30002) (g3 : ¬ nI (29999 + c) = 30003) (g4 : ¬ nI (29999 + c) = 30004) (g5 : ¬ nI (29999 + c) = 30005) : False := by
  rcases (show c = 1 ∨ c = 2 ∨ c = 3 ∨ c = 4 ∨ c = 5 ∨ c = 6 by omega) with rfl | rfl | rfl | rfl | rfl | rfl
  · exact g0 rfl
  · exact g1 rfl
  · exact g2 rfl
  · exact g3 rfl
  · exact g4 rfl
  · exact g5 rfl
theorem kop_1 {c : Nat} {x y : Int64} (h : nI (29999 + c) = 30000) (hc : c ≤ 6) : kcClip (x + y) = kcOp c x y := by
  have := kop_c (k := 30000) h hc (by decide)
  obtain rfl : c = 1 := by omega
  unfold kcOp
  rw [if_pos rfl]
theorem kop_2 {c : Nat} {x y : Int64} (h : nI (29999 + c) = 30001) (hc : c ≤ 6) : kcClip (x - y) = kcOp c x y := by
  have := kop_c (k := 30001) h hc (by decide)
  obtain rfl : c = 2 := by omega
  unfold kcOp
  rw [if_neg (by decide), if_pos rfl]
theorem kop_3 {c : Nat} {x y : Int64} (h : nI (29999 + c) = 30002) (hc : c ≤ 6) : kcClip (x * y) = kcOp c x y := by
  have := kop_c (k := 30002) h hc (by decide)
  obtain rfl : c = 3 := by omega
  unfold kcOp
  rw [if_neg (by decide), if_neg (by decide), if_pos rfl]
theorem kop_4 {c : Nat} {x y z : Int64} (h : nI (29999 + c) = 30003) (hc : c ≤ 6) (hz : z = kcFl x y) : z = kcOp c x y := by
  have := kop_c (k := 30003) h hc (by decide)
  obtain rfl : c = 4 := by omega
  exact hz
theorem kop_5 {c : Nat} {x y : Int64} (h : nI (29999 + c) = 30004) (hc : c ≤ 6) : (if y < x then y else x) = kcOp c x y := by
  have := kop_c (k := 30004) h hc (by decide)
  obtain rfl : c = 5 := by omega
  rfl
theorem kmax_c (x y : Int64) : (if y < x then x else y) = if x < y then y else x := by
  by_cases h1 : y < x
  · rw [if_pos h1, if_neg (fun q => Int64.lt_irrefl (Int64.lt_trans h1 q))]
  · by_cases h2 : x < y
    · rw [if_neg h1, if_pos h2]
    · rw [if_neg h1, if_neg h2]
      exact Int64.le_antisymm (Int64.not_lt.mp h2) (Int64.not_lt.mp h1)
theorem kop_6 {c : Nat} {x y : Int64} (h : nI (29999 + c) = 30005) (hc : c ≤ 6) : (if y < x then x else y) = kcOp c x y := by
  have := kop_c (k := 30005) h hc (by decide)
  obtain rfl : c = 6 := by omega
  rw [kmax_c]
  rfl
theorem kop_x {c k : Nat} {P : Prop} (h : nI (29999 + c) = nI k) (hc : c ≤ 6) (hk : k < 2147483648) (h2 : 30006 ≤ k) : P := by
  have := kop_c h hc hk
  exact absurd h2 (by omega)
/-! the pile -/
def stkO (f : Nat → Int64) : List Int64 → Prop
  | [] => True
  | v :: S => f S.length = v ∧ stkO f S
theorem stkO_up {f : Nat → Int64} {k : Nat} {x : Int64} : ∀ S : List Int64, S.length ≤ k → stkO f S → stkO (vp_updL f k x) S
  | [], _, _ => True.intro
  | v :: S, hk, h => by
    rw [List.length_cons] at hk
    refine ⟨?_, stkO_up S (by omega) h.2⟩
    unfold vp_updL
    rw [if_neg (by omega)]
    exact h.1
theorem stk_push {f g : Nat → Int64} {S : List Int64} {k : Nat} {x y : Int64} (h : stkO f S) (hk : k = S.length) (hg : g = vp_updL f k x) (hx : x = y) : stkO g (y :: S) := by
  subst hg hx hk
  refine ⟨?_, stkO_up S (Nat.le_refl _) h⟩
  unfold vp_updL
  rw [if_pos rfl]
theorem stk_op {f g : Nat → Int64} {R : List Int64} {k : Nat} {a b x : Int64} (h : stkO f (b :: a :: R)) (hk : k = R.length) (hg : g = vp_updL f k x) : stkO g (x :: R) := stk_push h.2.2 hk hg rfl
theorem stk_b {f : Nat → Int64} {R : List Int64} {a b : Int64} {k : Nat} (h : stkO f (b :: a :: R)) (hk : k = R.length + 1) (h2 : k < 2147483648) : f (nI k).toNatClampNeg = b := by
  rw [nI_clamp h2, hk]; exact h.1
theorem stk_a {f : Nat → Int64} {R : List Int64} {a b : Int64} {k : Nat} (h : stkO f (b :: a :: R)) (hk : k = R.length) (h2 : k < 2147483648) : f (nI k).toNatClampNeg = a := by
  rw [nI_clamp h2, hk]; exact h.2.1
theorem kcSub_c {K : List Nat} {i b : Nat} (h : i < b) (hb : b ≤ K.length) : kcSub K (i, b) = K.getD i 0 :: kcSub K (i + 1, b) := by
  unfold kcSub
  show (K.drop i).take (b - i) = K.getD i 0 :: (K.drop (i + 1)).take (b - (i + 1))
  rw [List.drop_eq_getElem_cons (by omega), show b - i = (b - (i + 1)) + 1 by omega, List.take_succ_cons, List.getD_eq_getElem?_getD, List.getElem?_eq_getElem (show i < K.length by omega)]
  rfl
theorem kcSub_e {K : List Nat} {i b : Nat} (h : b ≤ i) : kcSub K (i, b) = [] := by
  unfold kcSub
  show (K.drop i).take (b - i) = []
  rw [show b - i = 0 by omega, List.take_zero]
/-- which kind of step it is -/
theorem kx_cls {kind c : Nat} (hk : kind < 2) (h : kcN1 kind c) : (1 ≤ c ∧ c ≤ 6 ∧ cm c = nI (29999 + c)) ∨ (1000 ≤ c ∧ c < 11000 ∧ cm c = nI (c - 1000)) ∨ (40 ≤ c ∧ c < 47 ∧ cm c = nI (9960 + c)) := by
  unfold cm
  rcases h with ⟨h1, h2⟩ | ⟨h1, h2⟩ | ⟨h1, h2, h3⟩
  · exact Or.inl ⟨h1, h2, by rw [if_neg (by omega), if_pos (by omega)]⟩
  · exact Or.inr (Or.inl ⟨h1, h2, by rw [if_pos h1]⟩)
  · have h4 : c < 47 := by
      unfold allow at h3
      rcases (show kind = 0 ∨ kind = 1 by omega) with rfl | rfl
      · rw [if_pos rfl, decide_eq_true_iff] at h3; omega
      · rw [if_neg (by decide), if_pos rfl, decide_eq_true_iff] at h3; omega
    exact Or.inr (Or.inr ⟨h1, h4, by rw [if_neg (by omega), if_neg (by omega), if_neg (by omega), if_neg (by omega), if_neg (by omega), if_neg (by omega), if_neg (by omega), if_neg (by omega)]⟩)
theorem kx_neg {k : Nat} (h : k < 10000) : nI k - 10000 < 0 := by
  rw [Int32.lt_iff_toInt_lt]
  have e : (10000 : Int32).toInt = 10000 := rfl
  have e0 : (0 : Int32).toInt = 0 := rfl
  rw [Jvm.Kit.i32_sub (by rw [nI_toInt (by omega), e]; omega) (by rw [nI_toInt (by omega), e]; omega), nI_toInt (by omega), e, e0]
  omega
theorem kx_end {nm : Nat → Int64} {K : List Nat} {i b : Nat} {S : List Int64} {v : Int64} (h : kcEx nm 64 (kcSub K (i, b)) S = some [v]) (hi : b ≤ i) : S = [v] := by
  rw [kcSub_e hi] at h
  exact Option.some.inj (show some S = some [v] from h)
set_option maxHeartbeats 4000000 in
set_option maxRecDepth 100000 in
theorem c_kbounded (l : Launch) (D : va_G) (cI cJ cC cZ cS : ClassId) (x : Int64)  : skM l yX0_bounded cX0_bounded 2 (some .long) 0 0 0 0 D (skT cI cJ cC cZ cS) [.long x] [] (skL D (skT cI cJ cC cZ cS) (fun (r : Int64) (u : va_W) => r = kcClip x ∧ u = [])) := by
  refine skM_of pf_X0_bounded (Nat.le_of_ble_eq_true rfl) ?_
  intro p e s m below meth c A ls E hP hD hl
  refine skE_el E (fun hx hb hr hml hlocks hin hown hts hK hA => ?_)
  have hown : s.vm.findClass RX0 = some m.cls := hown
  have hS : va_S A s.heap s.heap [] := va_S.rf
  have hl : lv_has ls 2 [(0, .long x)] := hl
  refine lv_lload_n hx hb dX0_bounded_0 rfl (lv_at hl 0 rfl) ?_
  refine lv_ldc2 (v := 1000000) hx hb hown (hts _ w_3_231) dX0_bounded_1 ?_
  refine W.lcmp hx hb dX0_bounded_4 ?_
  refine lv_if_le (tgt := 12) hx hb dX0_bounded_5 (by decide) (fun c_1 => ?_) (fun c_1 => ?_)
  · skip
    refine lv_lload_n hx hb dX0_bounded_12 rfl (lv_at hl 0 rfl) ?_
    refine lv_ldc2 (v := (-1000000)) hx hb hown (hts _ w_3_232) dX0_bounded_13 ?_
    refine W.lcmp hx hb dX0_bounded_16 ?_
    refine lv_if_ge (tgt := 26) hx hb dX0_bounded_17 (by decide) (fun c_2 => ?_) (fun c_2 => ?_)
    · skip
      refine lv_lload_n hx hb dX0_bounded_26 rfl (lv_at hl 0 rfl) ?_
      exact sk_lret hx hb hr hlocks hK hP hD hS (⟨kclip_c c_1 c_2, rfl⟩) (Nat.le_of_ble_eq_true rfl) (Nat.le_of_ble_eq_true rfl) dX0_bounded_27
    · skip
      refine lv_ldc2 (v := (-1000000)) hx hb hown (hts _ w_3_232) dX0_bounded_20 ?_
      refine lv_goto (tgt := 27) hx hb dX0_bounded_23 (by decide) ?_
      exact sk_lret hx hb hr hlocks hK hP hD hS (⟨kclip_b c_1 c_2, rfl⟩) (Nat.le_of_ble_eq_true rfl) (Nat.le_of_ble_eq_true rfl) dX0_bounded_27
  · skip
    refine lv_ldc2 (v := 1000000) hx hb hown (hts _ w_3_231) dX0_bounded_8 ?_
    exact sk_lret hx hb hr hlocks hK hP hD hS (⟨kclip_a c_1, rfl⟩) (Nat.le_of_ble_eq_true rfl) (Nat.le_of_ble_eq_true rfl) dX0_bounded_11
set_option maxHeartbeats 4000000 in
set_option maxRecDepth 100000 in
theorem c_kfloorDiv (l : Launch) (D : va_G) (cI cJ cC cZ cS : ClassId) (x : Int64) (y : Int64) (hy : ¬ y = 0) : skM l yJ9_floorDiv_f86c9 cJ9_floorDiv_f86c9 6 (some .long) 0 0 0 0 D (skT cI cJ cC cZ cS) [.long x, .long y] [] (skL D (skT cI cJ cC cZ cS) (fun (r : Int64) (u : va_W) => r = kcFl x y ∧ u = [])) := by
  refine skM_of pf_J9_floorDiv_f86c9 (Nat.le_of_ble_eq_true rfl) ?_
  intro p e s m below meth c A ls E hP hD hl
  refine skE_el E (fun hx hb hr hml hlocks hin hown hts hK hA => ?_)
  have hown : s.vm.findClass RJ9 = some m.cls := hown
  have hS : va_S A s.heap s.heap [] := va_S.rf
  have hl : lv_has ls 6 [(0, .long x), (2, .long y)] := hl
  refine lv_lload_n hx hb dJ9_floorDiv_f86c9_0 rfl (lv_at hl 0 rfl) ?_
  refine lv_lload_n hx hb dJ9_floorDiv_f86c9_1 rfl (lv_at hl 1 rfl) ?_
  refine lv_ldiv hx hb dJ9_floorDiv_f86c9_2 hy ?_
  refine lv_lstore (lv' := [(4, .long (x / y)), (0, .long x), (2, .long y)]) hx hb dJ9_floorDiv_f86c9_3 hl (by decide) rfl (fun ls hl => ?_)
  refine lv_lload_n hx hb dJ9_floorDiv_f86c9_5 rfl (lv_at hl 1 rfl) ?_
  refine lv_lload_n hx hb dJ9_floorDiv_f86c9_6 rfl (lv_at hl 2 rfl) ?_
  refine lv_lxor hx hb dJ9_floorDiv_f86c9_7 ?_
  refine lv_lconst (v := 0) hx hb dJ9_floorDiv_f86c9_8 (by decide) ?_
  refine W.lcmp hx hb dJ9_floorDiv_f86c9_9 ?_
  refine lv_if_ge (tgt := 27) hx hb dJ9_floorDiv_f86c9_10 (by decide) (fun c_1 => ?_) (fun c_1 => ?_)
  · skip
    refine lv_lload hx hb dJ9_floorDiv_f86c9_27 (lv_at hl 0 rfl) ?_
    exact sk_lret hx hb hr hlocks hK hP hD hS (⟨kfl_b hy c_1, rfl⟩) (Nat.le_of_ble_eq_true rfl) (Nat.le_of_ble_eq_true rfl) dJ9_floorDiv_f86c9_29
  · skip
    refine lv_lload hx hb dJ9_floorDiv_f86c9_13 (lv_at hl 0 rfl) ?_
    refine lv_lload_n hx hb dJ9_floorDiv_f86c9_15 rfl (lv_at hl 2 rfl) ?_
    refine lv_lmul hx hb dJ9_floorDiv_f86c9_16 ?_
    refine lv_lload_n hx hb dJ9_floorDiv_f86c9_17 rfl (lv_at hl 1 rfl) ?_
    refine W.lcmp hx hb dJ9_floorDiv_f86c9_18 ?_
    refine lv_if_eq (tgt := 27) hx hb dJ9_floorDiv_f86c9_19 (by decide) (fun c_2 => ?_) (fun c_2 => ?_)
    · skip
      refine lv_lload hx hb dJ9_floorDiv_f86c9_27 (lv_at hl 0 rfl) ?_
      exact sk_lret hx hb hr hlocks hK hP hD hS (⟨kfl_c hy c_2, rfl⟩) (Nat.le_of_ble_eq_true rfl) (Nat.le_of_ble_eq_true rfl) dJ9_floorDiv_f86c9_29
    · skip
      refine lv_lload hx hb dJ9_floorDiv_f86c9_22 (lv_at hl 0 rfl) ?_
      refine lv_lconst (v := 1) hx hb dJ9_floorDiv_f86c9_24 (by decide) ?_
      refine lv_lsub hx hb dJ9_floorDiv_f86c9_25 ?_
      exact sk_lret hx hb hr hlocks hK hP hD hS (⟨kfl_a hy c_1 c_2, rfl⟩) (Nat.le_of_ble_eq_true rfl) (Nat.le_of_ble_eq_true rfl) dJ9_floorDiv_f86c9_26
set_option maxHeartbeats 4000000 in
set_option maxRecDepth 100000 in
theorem c_kfloorModL (l : Launch) (D : va_G) (cI cJ cC cZ cS : ClassId) (x : Int64)  : skM l yJ9_floorMod_f86c9 cJ9_floorMod_f86c9 6 (some .long) 0 0 0 0 D (skT cI cJ cC cZ cS) [.long x, .long 10] [] (skL D (skT cI cJ cC cZ cS) (fun (r : Int64) (u : va_W) => r.toInt = ((kcTen x : Nat) : Int) ∧ u = [])) := by
  refine skM_of pf_J9_floorMod_f86c9 (Nat.le_of_ble_eq_true rfl) ?_
  intro p e s m below meth c A ls E hP hD hl
  refine skE_el E (fun hx hb hr hml hlocks hin hown hts hK hA => ?_)
  have hown : s.vm.findClass RJ9 = some m.cls := hown
  have hS : va_S A s.heap s.heap [] := va_S.rf
  have hl : lv_has ls 6 [(0, .long x), (2, .long 10)] := hl
  refine lv_lload_n hx hb dJ9_floorMod_f86c9_0 rfl (lv_at hl 0 rfl) ?_
  refine lv_lload_n hx hb dJ9_floorMod_f86c9_1 rfl (lv_at hl 1 rfl) ?_
  refine lv_lrem hx hb dJ9_floorMod_f86c9_2 (by decide) ?_
  refine lv_topl (fun v_1 ev_1 => ?_)
  refine lv_lstore (lv' := [(4, .long v_1), (0, .long x), (2, .long 10)]) hx hb dJ9_floorMod_f86c9_3 hl (by decide) rfl (fun ls hl => ?_)
  refine lv_lload_n hx hb dJ9_floorMod_f86c9_5 rfl (lv_at hl 1 rfl) ?_
  refine lv_lload_n hx hb dJ9_floorMod_f86c9_6 rfl (lv_at hl 2 rfl) ?_
  refine lv_lxor hx hb dJ9_floorMod_f86c9_7 ?_
  refine lv_lconst (v := 0) hx hb dJ9_floorMod_f86c9_8 (by decide) ?_
  refine W.lcmp hx hb dJ9_floorMod_f86c9_9 ?_
  refine lv_if_ge (tgt := 25) hx hb dJ9_floorMod_f86c9_10 (by decide) (fun c_2 => ?_) (fun c_2 => ?_)
  · skip
    refine lv_lload hx hb dJ9_floorMod_f86c9_25 (lv_at hl 0 rfl) ?_
    exact sk_lret hx hb hr hlocks hK hP hD hS (⟨kten_a ev_1 c_2, rfl⟩) (Nat.le_of_ble_eq_true rfl) (Nat.le_of_ble_eq_true rfl) dJ9_floorMod_f86c9_27
  · skip
    refine lv_lload hx hb dJ9_floorMod_f86c9_13 (lv_at hl 0 rfl) ?_
    refine lv_lconst (v := 0) hx hb dJ9_floorMod_f86c9_15 (by decide) ?_
    refine W.lcmp hx hb dJ9_floorMod_f86c9_16 ?_
    refine lv_if_eq (tgt := 25) hx hb dJ9_floorMod_f86c9_17 (by decide) (fun c_3 => ?_) (fun c_3 => ?_)
    · skip
      refine lv_lload hx hb dJ9_floorMod_f86c9_25 (lv_at hl 0 rfl) ?_
      exact sk_lret hx hb hr hlocks hK hP hD hS (⟨kten_b ev_1 c_3, rfl⟩) (Nat.le_of_ble_eq_true rfl) (Nat.le_of_ble_eq_true rfl) dJ9_floorMod_f86c9_27
    · skip
      refine lv_lload hx hb dJ9_floorMod_f86c9_20 (lv_at hl 0 rfl) ?_
      refine lv_lload_n hx hb dJ9_floorMod_f86c9_22 rfl (lv_at hl 2 rfl) ?_
      refine lv_ladd hx hb dJ9_floorMod_f86c9_23 ?_
      refine lv_topl (fun v_4 ev_4 => ?_)
      exact sk_lret hx hb hr hlocks hK hP hD hS (⟨kten_c ev_1 c_2 c_3 ev_4, rfl⟩) (Nat.le_of_ble_eq_true rfl) (Nat.le_of_ble_eq_true rfl) dJ9_floorMod_f86c9_24
set_option maxHeartbeats 4000000 in
set_option maxRecDepth 100000 in
theorem c_kfloorMod (l : Launch) (D : va_G) (cI cJ cC cZ cS : ClassId) (x : Int64)  : skM l yJ9_floorMod_1978a cJ9_floorMod_1978a 3 (some .int) 1 25 0 0 D (skT cI cJ cC cZ cS) [.long x, .int 10] [] (skI D (skT cI cJ cC cZ cS) (fun (r : Int32) (u : va_W) => r = nI (kcTen x) ∧ u = [])) := by
  refine skM_of pf_J9_floorMod_1978a (Nat.le_of_ble_eq_true rfl) ?_
  intro p e s m below meth c A ls E hP hD hl
  refine skE_el E (fun hx hb hr hml hlocks hin hown hts hK hA => ?_)
  have hown : s.vm.findClass RJ9 = some m.cls := hown
  have hS : va_S A s.heap s.heap [] := va_S.rf
  have hl : lv_has ls 3 [(0, .long x), (2, .int 10)] := hl
  refine lv_lload_n hx hb dJ9_floorMod_1978a_0 rfl (lv_at hl 0 rfl) ?_
  refine lv_iload_n hx hb dJ9_floorMod_1978a_1 rfl (lv_at hl 1 rfl) ?_
  refine lv_i2l (v := 10) hx hb dJ9_floorMod_1978a_2 (by decide) ?_
  refine sk_Sl (n := 2) (rest := []) (wr := []) ⟨hx, hb, hml, hown, hts⟩ hl.1 (c_kfloorModL l D cI cJ cC cZ cS x) w_4_10 w_4_11 w_1_3 w_4_12 hd_J9_floorMod_f86c9_2 ⟨⟨(Nat.le_of_ble_eq_true rfl), (Nat.le_of_ble_eq_true rfl)⟩, (Nat.le_of_ble_eq_true rfl), (Nat.le_of_ble_eq_true rfl)⟩ hK hP hD hS hA [] [] rfl rfl (by decide +kernel) (by decide +kernel) (by decide +kernel) rfl rfl (Nat.le_of_ble_eq_true rfl) dJ9_floorMod_1978a_3 (fun r_1 u H locs hw hP hD hS => ?_)
  obtain ⟨hr_2, rfl⟩ := hw
  refine o_re (ws' := []) hP hD rfl (fun hP hD => ?_)
  refine lv_l2i hx hb dJ9_floorMod_1978a_6 rfl ?_
  have ht := kcTen_lt x
  refine sk_top (nI (kcTen x)) (kten_i hr_2 (by omega)) ?_
  exact sk_iret hx hb hr rfl hlocks hK hP hD hS (⟨rfl, rfl⟩) (Nat.le_of_ble_eq_true rfl) (Nat.le_of_ble_eq_true rfl) dJ9_floorMod_1978a_7
set_option maxHeartbeats 4000000 in
set_option maxRecDepth 100000 in
theorem c_kofTwo (l : Launch) (D : va_G) (cI cJ cC cZ cS : ClassId) (oc : Nat) (x : Int64) (y : Int64) (hc1 : 1 ≤ oc) (hc6 : oc ≤ 6) : skM l yX0_ofTwo cX0_ofTwo 5 (some .long) 1 25 0 0 D (skT cI cJ cC cZ cS) [.int (nI (29999 + oc)), .long x, .long y] [] (skL D (skT cI cJ cC cZ cS) (fun (r : Int64) (u : va_W) => r = kcOp oc x y ∧ u = [])) := by
  refine skM_of pf_X0_ofTwo (Nat.le_of_ble_eq_true rfl) ?_
  intro p e s m below meth c A ls E hP hD hl
  refine skE_el E (fun hx hb hr hml hlocks hin hown hts hK hA => ?_)
  have hown : s.vm.findClass RX0 = some m.cls := hown
  have hS : va_S A s.heap s.heap [] := va_S.rf
  have hl : lv_has ls 5 [(0, .int (nI (29999 + oc))), (1, .long x), (3, .long y)] := hl
  refine lv_iload_n hx hb dX0_ofTwo_0 rfl (lv_at hl 0 rfl) ?_
  by_cases g_1 : nI (29999 + oc) = 30000
  · refine lv_tableIn (off := 55) (tgt := 56) hx hb dX0_ofTwo_1 (by rw [g_1]; decide) (by rw [g_1]; decide) (by rw [g_1]; rfl) (by decide) ?_
    refine lv_lload_n hx hb dX0_ofTwo_56 rfl (lv_at hl 1 rfl) ?_
    refine lv_lload_n hx hb dX0_ofTwo_57 rfl (lv_at hl 2 rfl) ?_
    refine lv_ladd hx hb dX0_ofTwo_58 ?_
    refine sk_Sl (n := 1) (rest := []) (wr := []) ⟨hx, hb, hml, hown, hts⟩ hl.1 (c_kbounded l D cI cJ cC cZ cS (x + y)) w_3_228 w_3_229 w_1_8 w_3_230 hd_X0_bounded_1 ⟨⟨(Nat.le_of_ble_eq_true rfl), (Nat.le_of_ble_eq_true rfl)⟩, (Nat.le_of_ble_eq_true rfl), (Nat.le_of_ble_eq_true rfl)⟩ hK hP hD hS hA [] [] rfl rfl (by decide +kernel) (by decide +kernel) (by decide +kernel) rfl rfl (Nat.le_of_ble_eq_true rfl) dX0_ofTwo_59 (fun r_2 u H locs hw hP hD hS => ?_)
    obtain ⟨hr_3, rfl⟩ := hw
    refine o_re (ws' := []) hP hD rfl (fun hP hD => ?_)
    subst hr_3
    exact sk_lret hx hb hr hlocks hK hP hD hS (⟨kop_1 g_1 hc6, rfl⟩) (Nat.le_of_ble_eq_true rfl) (Nat.le_of_ble_eq_true rfl) dX0_ofTwo_62
  by_cases g_4 : nI (29999 + oc) = 30001
  · refine lv_tableIn (off := 62) (tgt := 63) hx hb dX0_ofTwo_1 (by rw [g_4]; decide) (by rw [g_4]; decide) (by rw [g_4]; rfl) (by decide) ?_
    refine lv_lload_n hx hb dX0_ofTwo_63 rfl (lv_at hl 1 rfl) ?_
    refine lv_lload_n hx hb dX0_ofTwo_64 rfl (lv_at hl 2 rfl) ?_
    refine lv_lsub hx hb dX0_ofTwo_65 ?_
    refine sk_Sl (n := 1) (rest := []) (wr := []) ⟨hx, hb, hml, hown, hts⟩ hl.1 (c_kbounded l D cI cJ cC cZ cS (x - y)) w_3_228 w_3_229 w_1_8 w_3_230 hd_X0_bounded_1 ⟨⟨(Nat.le_of_ble_eq_true rfl), (Nat.le_of_ble_eq_true rfl)⟩, (Nat.le_of_ble_eq_true rfl), (Nat.le_of_ble_eq_true rfl)⟩ hK hP hD hS hA [] [] rfl rfl (by decide +kernel) (by decide +kernel) (by decide +kernel) rfl rfl (Nat.le_of_ble_eq_true rfl) dX0_ofTwo_66 (fun r_5 u H locs hw hP hD hS => ?_)
    obtain ⟨hr_6, rfl⟩ := hw
    refine o_re (ws' := []) hP hD rfl (fun hP hD => ?_)
    subst hr_6
    exact sk_lret hx hb hr hlocks hK hP hD hS (⟨kop_2 g_4 hc6, rfl⟩) (Nat.le_of_ble_eq_true rfl) (Nat.le_of_ble_eq_true rfl) dX0_ofTwo_69
  by_cases g_7 : nI (29999 + oc) = 30002
  · refine lv_tableIn (off := 69) (tgt := 70) hx hb dX0_ofTwo_1 (by rw [g_7]; decide) (by rw [g_7]; decide) (by rw [g_7]; rfl) (by decide) ?_
    refine lv_lload_n hx hb dX0_ofTwo_70 rfl (lv_at hl 1 rfl) ?_
    refine lv_lload_n hx hb dX0_ofTwo_71 rfl (lv_at hl 2 rfl) ?_
    refine lv_lmul hx hb dX0_ofTwo_72 ?_
    refine sk_Sl (n := 1) (rest := []) (wr := []) ⟨hx, hb, hml, hown, hts⟩ hl.1 (c_kbounded l D cI cJ cC cZ cS (x * y)) w_3_228 w_3_229 w_1_8 w_3_230 hd_X0_bounded_1 ⟨⟨(Nat.le_of_ble_eq_true rfl), (Nat.le_of_ble_eq_true rfl)⟩, (Nat.le_of_ble_eq_true rfl), (Nat.le_of_ble_eq_true rfl)⟩ hK hP hD hS hA [] [] rfl rfl (by decide +kernel) (by decide +kernel) (by decide +kernel) rfl rfl (Nat.le_of_ble_eq_true rfl) dX0_ofTwo_73 (fun r_8 u H locs hw hP hD hS => ?_)
    obtain ⟨hr_9, rfl⟩ := hw
    refine o_re (ws' := []) hP hD rfl (fun hP hD => ?_)
    subst hr_9
    exact sk_lret hx hb hr hlocks hK hP hD hS (⟨kop_3 g_7 hc6, rfl⟩) (Nat.le_of_ble_eq_true rfl) (Nat.le_of_ble_eq_true rfl) dX0_ofTwo_76
  by_cases g_10 : nI (29999 + oc) = 30003
  · refine lv_tableIn (off := 76) (tgt := 77) hx hb dX0_ofTwo_1 (by rw [g_10]; decide) (by rw [g_10]; decide) (by rw [g_10]; rfl) (by decide) ?_
    refine lv_lload_n hx hb dX0_ofTwo_77 rfl (lv_at hl 2 rfl) ?_
    refine lv_lconst (v := 0) hx hb dX0_ofTwo_78 (by decide) ?_
    refine W.lcmp hx hb dX0_ofTwo_79 ?_
    refine lv_if_ne (tgt := 87) hx hb dX0_ofTwo_80 (by decide) (fun c_11 => ?_) (fun c_11 => ?_)
    · skip
      refine lv_lload_n hx hb dX0_ofTwo_87 rfl (lv_at hl 1 rfl) ?_
      refine lv_lload_n hx hb dX0_ofTwo_88 rfl (lv_at hl 2 rfl) ?_
      refine sk_Sl (n := 2) (rest := []) (wr := []) ⟨hx, hb, hml, hown, hts⟩ hl.1 (c_kfloorDiv l D cI cJ cC cZ cS x y (lg_ne0 c_11)) w_3_233 w_3_234 w_1_3 w_3_235 hd_J9_floorDiv_f86c9_2 ⟨⟨(Nat.le_of_ble_eq_true rfl), (Nat.le_of_ble_eq_true rfl)⟩, (Nat.le_of_ble_eq_true rfl), (Nat.le_of_ble_eq_true rfl)⟩ hK hP hD hS hA [] [] rfl rfl (by decide +kernel) (by decide +kernel) (by decide +kernel) rfl rfl (Nat.le_of_ble_eq_true rfl) dX0_ofTwo_89 (fun r_12 u H locs hw hP hD hS => ?_)
      obtain ⟨hr_13, rfl⟩ := hw
      refine o_re (ws' := []) hP hD rfl (fun hP hD => ?_)
      subst hr_13
      exact sk_lret hx hb hr hlocks hK hP hD hS (⟨kop_4 g_10 hc6 rfl, rfl⟩) (Nat.le_of_ble_eq_true rfl) (Nat.le_of_ble_eq_true rfl) dX0_ofTwo_92
    · skip
      refine lv_lconst (v := 0) hx hb dX0_ofTwo_83 (by decide) ?_
      refine lv_goto (tgt := 92) hx hb dX0_ofTwo_84 (by decide) ?_
      exact sk_lret hx hb hr hlocks hK hP hD hS (⟨kop_4 g_10 hc6 (kfl_0 ((lg_cmp_eq _ _).mp c_11)), rfl⟩) (Nat.le_of_ble_eq_true rfl) (Nat.le_of_ble_eq_true rfl) dX0_ofTwo_92
  by_cases g_14 : nI (29999 + oc) = 30004
  · refine lv_tableIn (off := 92) (tgt := 93) hx hb dX0_ofTwo_1 (by rw [g_14]; decide) (by rw [g_14]; decide) (by rw [g_14]; rfl) (by decide) ?_
    refine lv_lload_n hx hb dX0_ofTwo_93 rfl (lv_at hl 1 rfl) ?_
    refine lv_lload_n hx hb dX0_ofTwo_94 rfl (lv_at hl 2 rfl) ?_
    refine va_mmin_long hx hb (by rw [hml]; exact hl.1.symm) hown (hts _ w_3_236) (hts _ w_3_237) (hts _ w_1_3) (hts _ w_3_238) (Nat.le_of_ble_eq_true rfl) (Nat.le_of_ble_eq_true rfl) (Nat.le_of_ble_eq_true rfl) (Nat.le_of_ble_eq_true rfl) dX0_ofTwo_95 ?_
    refine lv_topl (fun v_15 ev_15 => ?_)
    exact sk_lret hx hb hr hlocks hK hP hD hS (⟨ev_15.trans (kop_5 g_14 hc6), rfl⟩) (Nat.le_of_ble_eq_true rfl) (Nat.le_of_ble_eq_true rfl) dX0_ofTwo_98
  by_cases g_16 : nI (29999 + oc) = 30005
  · refine lv_tableIn (off := 98) (tgt := 99) hx hb dX0_ofTwo_1 (by rw [g_16]; decide) (by rw [g_16]; decide) (by rw [g_16]; rfl) (by decide) ?_
    refine lv_lload_n hx hb dX0_ofTwo_99 rfl (lv_at hl 1 rfl) ?_
    refine lv_lload_n hx hb dX0_ofTwo_100 rfl (lv_at hl 2 rfl) ?_
    refine va_mmax_long hx hb (by rw [hml]; exact hl.1.symm) hown (hts _ w_3_239) (hts _ w_4_0) (hts _ w_1_3) (hts _ w_4_1) (Nat.le_of_ble_eq_true rfl) (Nat.le_of_ble_eq_true rfl) (Nat.le_of_ble_eq_true rfl) (Nat.le_of_ble_eq_true rfl) dX0_ofTwo_101 ?_
    refine lv_topl (fun v_17 ev_17 => ?_)
    exact sk_lret hx hb hr hlocks hK hP hD hS (⟨ev_17.trans (kop_6 g_16 hc6), rfl⟩) (Nat.le_of_ble_eq_true rfl) (Nat.le_of_ble_eq_true rfl) dX0_ofTwo_104
  by_cases g_18 : nI (29999 + oc) = 30006
  · refine lv_tableIn (off := 104) (tgt := 105) hx hb dX0_ofTwo_1 (by rw [g_18]; decide) (by rw [g_18]; decide) (by rw [g_18]; rfl) (by decide) ?_
    refine lv_lload_n hx hb dX0_ofTwo_105 rfl (lv_at hl 1 rfl) ?_
    refine lv_lload_n hx hb dX0_ofTwo_106 rfl (lv_at hl 2 rfl) ?_
    refine W.lcmp hx hb dX0_ofTwo_107 ?_
    refine lv_if_ge (tgt := 115) hx hb dX0_ofTwo_108 (by decide) (fun c_19 => ?_) (fun c_19 => ?_)
    · skip
      refine lv_lconst (v := 0) hx hb dX0_ofTwo_115 (by decide) ?_
      exact sk_lret hx hb hr hlocks hK hP hD hS (⟨kop_x (k := 30006) g_18 hc6 (by decide) (by decide), rfl⟩) (Nat.le_of_ble_eq_true rfl) (Nat.le_of_ble_eq_true rfl) dX0_ofTwo_116
    · skip
      refine lv_lconst (v := 1) hx hb dX0_ofTwo_111 (by decide) ?_
      refine lv_goto (tgt := 116) hx hb dX0_ofTwo_112 (by decide) ?_
      exact sk_lret hx hb hr hlocks hK hP hD hS (⟨kop_x (k := 30006) g_18 hc6 (by decide) (by decide), rfl⟩) (Nat.le_of_ble_eq_true rfl) (Nat.le_of_ble_eq_true rfl) dX0_ofTwo_116
  by_cases g_20 : nI (29999 + oc) = 30007
  · refine lv_tableIn (off := 116) (tgt := 117) hx hb dX0_ofTwo_1 (by rw [g_20]; decide) (by rw [g_20]; decide) (by rw [g_20]; rfl) (by decide) ?_
    refine lv_lload_n hx hb dX0_ofTwo_117 rfl (lv_at hl 1 rfl) ?_
    refine lv_lload_n hx hb dX0_ofTwo_118 rfl (lv_at hl 2 rfl) ?_
    refine W.lcmp hx hb dX0_ofTwo_119 ?_
    refine lv_if_le (tgt := 127) hx hb dX0_ofTwo_120 (by decide) (fun c_21 => ?_) (fun c_21 => ?_)
    · skip
      refine lv_lconst (v := 0) hx hb dX0_ofTwo_127 (by decide) ?_
      exact sk_lret hx hb hr hlocks hK hP hD hS (⟨kop_x (k := 30007) g_20 hc6 (by decide) (by decide), rfl⟩) (Nat.le_of_ble_eq_true rfl) (Nat.le_of_ble_eq_true rfl) dX0_ofTwo_128
    · skip
      refine lv_lconst (v := 1) hx hb dX0_ofTwo_123 (by decide) ?_
      refine lv_goto (tgt := 128) hx hb dX0_ofTwo_124 (by decide) ?_
      exact sk_lret hx hb hr hlocks hK hP hD hS (⟨kop_x (k := 30007) g_20 hc6 (by decide) (by decide), rfl⟩) (Nat.le_of_ble_eq_true rfl) (Nat.le_of_ble_eq_true rfl) dX0_ofTwo_128
  by_cases g_22 : nI (29999 + oc) = 30008
  · refine lv_tableIn (off := 128) (tgt := 129) hx hb dX0_ofTwo_1 (by rw [g_22]; decide) (by rw [g_22]; decide) (by rw [g_22]; rfl) (by decide) ?_
    refine lv_lload_n hx hb dX0_ofTwo_129 rfl (lv_at hl 1 rfl) ?_
    refine lv_lload_n hx hb dX0_ofTwo_130 rfl (lv_at hl 2 rfl) ?_
    refine W.lcmp hx hb dX0_ofTwo_131 ?_
    refine lv_if_ne (tgt := 139) hx hb dX0_ofTwo_132 (by decide) (fun c_23 => ?_) (fun c_23 => ?_)
    · skip
      refine lv_lconst (v := 0) hx hb dX0_ofTwo_139 (by decide) ?_
      exact sk_lret hx hb hr hlocks hK hP hD hS (⟨kop_x (k := 30008) g_22 hc6 (by decide) (by decide), rfl⟩) (Nat.le_of_ble_eq_true rfl) (Nat.le_of_ble_eq_true rfl) dX0_ofTwo_140
    · skip
      refine lv_lconst (v := 1) hx hb dX0_ofTwo_135 (by decide) ?_
      refine lv_goto (tgt := 140) hx hb dX0_ofTwo_136 (by decide) ?_
      exact sk_lret hx hb hr hlocks hK hP hD hS (⟨kop_x (k := 30008) g_22 hc6 (by decide) (by decide), rfl⟩) (Nat.le_of_ble_eq_true rfl) (Nat.le_of_ble_eq_true rfl) dX0_ofTwo_140
  by_cases g_24 : nI (29999 + oc) = 30009
  · refine lv_tableIn (off := 140) (tgt := 141) hx hb dX0_ofTwo_1 (by rw [g_24]; decide) (by rw [g_24]; decide) (by rw [g_24]; rfl) (by decide) ?_
    refine lv_lload_n hx hb dX0_ofTwo_141 rfl (lv_at hl 1 rfl) ?_
    refine lv_lconst (v := 0) hx hb dX0_ofTwo_142 (by decide) ?_
    refine W.lcmp hx hb dX0_ofTwo_143 ?_
    refine lv_if_eq (tgt := 157) hx hb dX0_ofTwo_144 (by decide) (fun c_25 => ?_) (fun c_25 => ?_)
    · skip
      refine lv_lconst (v := 0) hx hb dX0_ofTwo_157 (by decide) ?_
      exact sk_lret hx hb hr hlocks hK hP hD hS (⟨kop_x (k := 30009) g_24 hc6 (by decide) (by decide), rfl⟩) (Nat.le_of_ble_eq_true rfl) (Nat.le_of_ble_eq_true rfl) dX0_ofTwo_158
    · skip
      refine lv_lload_n hx hb dX0_ofTwo_147 rfl (lv_at hl 2 rfl) ?_
      refine lv_lconst (v := 0) hx hb dX0_ofTwo_148 (by decide) ?_
      refine W.lcmp hx hb dX0_ofTwo_149 ?_
      refine lv_if_eq (tgt := 157) hx hb dX0_ofTwo_150 (by decide) (fun c_26 => ?_) (fun c_26 => ?_)
      · skip
        refine lv_lconst (v := 0) hx hb dX0_ofTwo_157 (by decide) ?_
        exact sk_lret hx hb hr hlocks hK hP hD hS (⟨kop_x (k := 30009) g_24 hc6 (by decide) (by decide), rfl⟩) (Nat.le_of_ble_eq_true rfl) (Nat.le_of_ble_eq_true rfl) dX0_ofTwo_158
      · skip
        refine lv_lconst (v := 1) hx hb dX0_ofTwo_153 (by decide) ?_
        refine lv_goto (tgt := 158) hx hb dX0_ofTwo_154 (by decide) ?_
        exact sk_lret hx hb hr hlocks hK hP hD hS (⟨kop_x (k := 30009) g_24 hc6 (by decide) (by decide), rfl⟩) (Nat.le_of_ble_eq_true rfl) (Nat.le_of_ble_eq_true rfl) dX0_ofTwo_158
  refine lv_tableOut (tgt := 159) hx hb dX0_ofTwo_1 (sk_out2 30000 30009 (by intro k hk1 hk2; rcases (show k = 30000 ∨ k = 30001 ∨ k = 30002 ∨ k = 30003 ∨ k = 30004 ∨ k = 30005 ∨ k = 30006 ∨ k = 30007 ∨ k = 30008 ∨ k = 30009 by omega) with rfl | rfl | rfl | rfl | rfl | rfl | rfl | rfl | rfl | rfl <;> assumption)) (by decide) ?_
  refine lv_lload_n hx hb dX0_ofTwo_159 rfl (lv_at hl 1 rfl) ?_
  refine lv_lconst (v := 0) hx hb dX0_ofTwo_160 (by decide) ?_
  refine W.lcmp hx hb dX0_ofTwo_161 ?_
  refine lv_if_ne (tgt := 171) hx hb dX0_ofTwo_162 (by decide) (fun c_27 => ?_) (fun c_27 => ?_)
  · skip
    refine lv_lconst (v := 1) hx hb dX0_ofTwo_171 (by decide) ?_
    refine lv_goto (tgt := 176) hx hb dX0_ofTwo_172 (by decide) ?_
    exact sk_lret hx hb hr hlocks hK hP hD hS (⟨(kop_f hc1 hc6 (by assumption) (by assumption) (by assumption) (by assumption) (by assumption) (by assumption)).elim, rfl⟩) (Nat.le_of_ble_eq_true rfl) (Nat.le_of_ble_eq_true rfl) dX0_ofTwo_176
  · skip
    refine lv_lload_n hx hb dX0_ofTwo_165 rfl (lv_at hl 2 rfl) ?_
    refine lv_lconst (v := 0) hx hb dX0_ofTwo_166 (by decide) ?_
    refine W.lcmp hx hb dX0_ofTwo_167 ?_
    refine lv_if_eq (tgt := 175) hx hb dX0_ofTwo_168 (by decide) (fun c_28 => ?_) (fun c_28 => ?_)
    · skip
      refine lv_lconst (v := 0) hx hb dX0_ofTwo_175 (by decide) ?_
      exact sk_lret hx hb hr hlocks hK hP hD hS (⟨(kop_f hc1 hc6 (by assumption) (by assumption) (by assumption) (by assumption) (by assumption) (by assumption)).elim, rfl⟩) (Nat.le_of_ble_eq_true rfl) (Nat.le_of_ble_eq_true rfl) dX0_ofTwo_176
    · skip
      refine lv_lconst (v := 1) hx hb dX0_ofTwo_171 (by decide) ?_
      refine lv_goto (tgt := 176) hx hb dX0_ofTwo_172 (by decide) ?_
      exact sk_lret hx hb hr hlocks hK hP hD hS (⟨(kop_f hc1 hc6 (by assumption) (by assumption) (by assumption) (by assumption) (by assumption) (by assumption)).elim, rfl⟩) (Nat.le_of_ble_eq_true rfl) (Nat.le_of_ble_eq_true rfl) dX0_ofTwo_176
theorem kx_k (k : Nat) : nI (10000 + k) - 10000 = nI k := by
  have h : nI (10000 + k) - nI 10000 = nI (10000 + k - 10000) := nsub (10000 + k) 10000 (by omega)
  rw [Nat.add_sub_cancel_left] at h
  exact h
set_option maxHeartbeats 4000000 in
set_option maxRecDepth 100000 in
theorem c_kCode_name (l : Launch) (D : va_G) (cI cJ cC cZ cS : ClassId) (h0 : Nat) (k1 : Nat) (k2 : Nat) (k3 : Nat) (k4 : Nat) (cl : Nat) (mw : Nat) (f3 : Nat → Int64) (o : Int32) (k : Nat) (x : Int64) (ho : o = nI (10000 + k)) (hk : k < 9) : skM l yX0_name cX0_name 5 none 0 0 0 0 D (skT cI cJ cC cZ cS) [.ref h0, .int o, .long x] [ro_rrrrnn h0 0 k1 k2 k3 k4 cl mw, ra_J k3 cJ 9 f3] (skV D (skT cI cJ cC cZ cS) (fun (u : va_W) => ∃ (g3 : Nat → Int64), g3 = vp_updL f3 k x ∧ u = [ro_rrrrnn h0 0 k1 k2 k3 k4 cl mw, ra_J k3 cJ 9 g3])) := by
  refine skM_of pf_X0_name (Nat.le_of_ble_eq_true rfl) ?_
  intro p e s m below meth c A ls E hP hD hl
  refine skE_el E (fun hx hb hr hml hlocks hin hown hts hK hA => ?_)
  have hown : s.vm.findClass RX0 = some m.cls := hown
  have hS : va_S A s.heap s.heap [] := va_S.rf
  have hl : lv_has ls 5 [(0, .ref h0), (1, .int o), (2, .long x)] := hl
  refine lv_iload_n hx hb dX0_name_0 rfl (lv_at hl 1 rfl) ?_
  refine lv_sipush (v := 10000) hx hb dX0_name_1 (by decide) ?_
  refine lv_isub hx hb dX0_name_4 ?_
  refine sk_top (nI k) (by rw [ho]; exact kx_k k) ?_
  refine lv_istore (lv' := [(4, .int (nI k)), (0, .ref h0), (1, .int o), (2, .long x)]) hx hb dX0_name_5 hl (by decide) rfl (fun ls hl => ?_)
  refine lv_iload hx hb dX0_name_7 (lv_at hl 0 rfl) ?_
  refine lv_if_lt (tgt := 27) hx hb dX0_name_9 (by decide) (fun c => absurd c (nI_pos (by omega))) (fun c_1 => ?_)
  refine lv_iload hx hb dX0_name_12 (lv_at hl 0 rfl) ?_
  refine lv_bipush (v := 9) hx hb dX0_name_14 (by decide) ?_
  refine lv_icmp_ge (tgt := 27) hx hb dX0_name_16 (by decide) (fun c => absurd ((nle 9 k (Nat.le_of_ble_eq_true rfl) (by omega)).mp c) (by omega)) (fun c_2 => ?_)
  refine lv_aload_n hx hb dX0_name_19 rfl (lv_at hl 1 rfl) ?_
  refine sk_get (v := .ref k3) (C := RX0) (T := TX0) (N := 6) hx hb hts inlX0 hown hK hP 0 rfl rfl 2 (Nat.le_of_ble_eq_true rfl) w_1_131 rfl dX0_name_20 ?_
  refine lv_iload hx hb dX0_name_23 (lv_at hl 0 rfl) ?_
  refine lv_lload_n hx hb dX0_name_25 rfl (lv_at hl 3 rfl) ?_
  refine sk_lastE (k := k) (ws' := fun f_3 => [ro_rrrrnn h0 0 k1 k2 k3 k4 cl mw, ra_J k3 cJ 9 f_3]) hx hb hK hP hD hS 1 1 rfl rfl (by omega) (by omega) (fun _ => rfl) dX0_name_26 (fun f_3 H locs ef_4 hP hD hS => ?_)
  exact sk_vret hx hb hr hlocks hK hP hD hS (⟨f_3, ef_4, rfl⟩) (Nat.le_of_ble_eq_true rfl) (Nat.le_of_ble_eq_true rfl) dX0_name_27
theorem kx_max (a : Nat) (h : a < 2147483648) : (if nI a < 0 then 0 else nI a) = nI a := if_neg (nI_pos h)
set_option maxHeartbeats 4000000 in
set_option maxRecDepth 100000 in
theorem c_kCode_run (l : Launch) (D : va_G) (cI cJ cC cZ cS : ClassId) (h0 : Nat) (k1 : Nat) (k2 : Nat) (k3 : Nat) (k4 : Nat) (cl : Nat) (mw : Nat) (f1 : Nat → Int32) (f2 : Nat → Int64) (f3 : Nat → Int64) (f4 : Nat → Int64) (a : Nat) (b : Nat) (K : List Nat) (nm : Nat → Int64) (v : Int64) (kn : Nat) (hcl : cl ≤ 1600) (hmw : mw ≤ 1) (hkl : cl = K.length) (hcd : cdK K cl mw f1) (hab : a ≤ b) (hbk : b ≤ K.length) (hkn : kn < 2) (hns : kcNs kn (kcSub K (a, b))) (hnm : ∀ j, j < 7 → f3 j = nm j) (hex : kcEx nm 64 (kcSub K (a, b)) [] = some [v]) : skM l yX0_run cX0_run 7 (some .long) 2 49 0 0 D (skT cI cJ cC cZ cS) [.ref h0, .int (nI a), .int (nI b)] [ro_rrrrnn h0 0 k1 k2 k3 k4 cl mw, ra_I k1 cI 1600 f1, ra_J k2 cJ 64 f2, ra_J k3 cJ 9 f3, ra_J k4 cJ 10 f4] (skL D (skT cI cJ cC cZ cS) (fun (r : Int64) (u : va_W) => ∃ (g2 : Nat → Int64), r = v ∧ u = [ro_rrrrnn h0 0 k1 k2 k3 k4 cl mw, ra_I k1 cI 1600 f1, ra_J k2 cJ 64 g2, ra_J k3 cJ 9 f3, ra_J k4 cJ 10 f4])) := by
  refine skM_of pf_X0_run (Nat.le_of_ble_eq_true rfl) ?_
  intro p e s m below meth c A ls E hP hD hl
  refine skE_el E (fun hx hb hr hml hlocks hin hown hts hK hA => ?_)
  have hown : s.vm.findClass RX0 = some m.cls := hown
  have hS : va_S A s.heap s.heap [] := va_S.rf
  have hl : lv_has ls 7 [(0, .ref h0), (1, .int (nI a)), (2, .int (nI b))] := hl
  refine lv_iconst (v := 0) hx hb dX0_run_0 ic_0 ?_
  refine lv_istore_n (lv' := [(3, .int 0), (0, .ref h0), (1, .int (nI a)), (2, .int (nI b))]) hx hb dX0_run_1 rfl hl (by decide) rfl (fun ls hl => ?_)
  refine lv_iload_n hx hb dX0_run_2 rfl (lv_at hl 2 rfl) ?_
  refine lv_iconst (v := 0) hx hb dX0_run_3 ic_0 ?_
  refine va_mmax hx hb (by rw [hml]; exact hl.1.symm) hown (hts _ w_3_224) (hts _ w_1_37) (hts _ w_1_3) (hts _ w_1_38) (Nat.le_of_ble_eq_true rfl) (Nat.le_of_ble_eq_true rfl) (Nat.le_of_ble_eq_true rfl) (Nat.le_of_ble_eq_true rfl) dX0_run_4 ?_
  refine sk_top (nI a) (kx_max a (by omega)) ?_
  refine lv_istore (lv' := [(4, .int (nI a)), (3, .int 0), (0, .ref h0), (1, .int (nI a)), (2, .int (nI b))]) hx hb dX0_run_7 hl (by decide) rfl (fun ls hl => ?_)
  have lp_1 : ∀ (n_2 : Nat) (i : Nat) (tp : Nat) (fs : Nat → Int64) (SS : List Int64) (H : Heap) (locs : List Loc) (ls : Array Slot), cl - i < n_2 → (i ≤ 1600) → (a ≤ i) → (i ≤ b) → (tp = SS.length) → (tp ≤ 64) → (stkO fs SS) → (kcNs kn (kcSub K (i, b))) → (kcEx nm 64 (kcSub K (i, b)) SS = some [v]) → va_P D vwCl [ro_rrrrnn h0 0 k1 k2 k3 k4 cl mw, ra_I k1 cI 1600 f1, ra_J k2 cJ 64 fs, ra_J k3 cJ 9 f3, ra_J k4 cJ 10 f4] H → va_D A [ro_rrrrnn h0 0 k1 k2 k3 k4 cl mw, ra_I k1 cI 1600 f1, ra_J k2 cJ 64 fs, ra_J k3 cJ 9 f3, ra_J k4 cJ 10 f4] → va_S A s.heap H locs → lv_has ls 7 [(4, .int (nI i)), (3, .int (nI tp)), (0, .ref h0), (1, .int (nI a)), (2, .int (nI b))] → W p l e { frames := 2, cells := 0, slots := 0, locals := 49 } s m ([.ref h0, .int (nI a), .int (nI b)] : List Value).toArray below meth c H locs 0 0 (MQ below (skL D (skT cI cJ cC cZ cS) (fun (r : Int64) (u : va_W) => ∃ (g2 : Nat → Int64), r = v ∧ u = [ro_rrrrnn h0 0 k1 k2 k3 k4 cl mw, ra_I k1 cI 1600 f1, ra_J k2 cJ 64 g2, ra_J k3 cJ 9 f3, ra_J k4 cJ 10 f4]) A) ([.ref h0, .int (nI a), .int (nI b)] : List Value).toArray s 0 0 A) (F0 m 9 ls []) := by
    intro n_2
    induction n_2 with
    | zero => intro i tp fs SS H locs ls hm; exact absurd hm (Nat.not_lt_zero _)
    | succ n_2 ih_lp_1 =>
      intro i tp fs SS H locs ls hm hi hai hib0 htp htp64 hst hns2 hex2 hP hD hS hl
      refine lv_iload hx hb dX0_run_9 (lv_at hl 0 rfl) ?_
      refine lv_iload_n hx hb dX0_run_11 rfl (lv_at hl 4 rfl) ?_
      refine lv_icmp_ge (tgt := 173) hx hb dX0_run_12 (by decide) (fun c_3 => ?_) (fun c_3 => ?_)
      · have c_3 : b ≤ i := (nle b i (by omega) (by omega)).mp c_3
        obtain rfl := kx_end hex2 (by omega)
        have htp3 : tp = 1 := htp
        refine lv_iload_n hx hb dX0_run_173 rfl (lv_at hl 1 rfl) ?_
        refine lv_if_le (tgt := 186) hx hb dX0_run_174 (by decide) (fun c => absurd c (npos_le (by omega) (by omega))) (fun c_4 => ?_)
        refine lv_aload_n hx hb dX0_run_177 rfl (lv_at hl 2 rfl) ?_
        refine sk_get (v := .ref k2) (C := RX0) (T := TX0) (N := 6) hx hb hts inlX0 hown hK hP 0 rfl rfl 1 (Nat.le_of_ble_eq_true rfl) w_1_130 rfl dX0_run_178 ?_
        refine lv_iconst (v := 0) hx hb dX0_run_181 ic_0 ?_
        refine va_lald hx hb hK.1 hP 2 1 rfl rfl (by unfold vp_in; decide) dX0_run_182 ?_
        refine sk_topl v (hst.1) ?_
        refine lv_goto (tgt := 187) hx hb dX0_run_183 (by decide) ?_
        exact sk_lret hx hb hr hlocks hK hP hD hS (⟨fs, rfl, rfl⟩) (Nat.le_of_ble_eq_true rfl) (Nat.le_of_ble_eq_true rfl) dX0_run_187
      · have c_3 : ¬ (b ≤ i) := fun h => c_3 ((nle b i (by omega) (by omega)).mpr h)
        refine lv_iload hx hb dX0_run_15 (lv_at hl 0 rfl) ?_
        refine lv_aload_n hx hb dX0_run_17 rfl (lv_at hl 2 rfl) ?_
        refine sk_get (v := .int (nI cl)) (C := RX0) (T := TX0) (N := 6) hx hb hts inlX0 hown hK hP 0 rfl rfl 4 (Nat.le_of_ble_eq_true rfl) w_1_133 rfl dX0_run_18 ?_
        refine lv_icmp_ge (tgt := 173) hx hb dX0_run_21 (by decide) (fun c => absurd ((nle cl i (by omega) (by omega)).mp c) (by omega)) (fun c_5 => ?_)
        have hib : i < b := by omega
        have hld : f1 (nI i).toNatClampNeg = cm (K.getD i 0) := by rw [nI_clamp (by omega)]; exact hcd.2.2 i (by omega)
        rw [kcSub_c hib (by omega)] at hex2 hns2
        generalize K.getD i 0 = cq at hex2 hns2 hld
        have hns3 : kcNs kn (kcSub K (i + 1, b)) := fun x hx => hns2 x (List.mem_cons_of_mem _ hx)
        obtain ⟨T, hT1, hT2, hT3⟩ := kcEx_c hex2
        rcases kx_cls hkn (hns2 cq (List.mem_cons_self ..)) with ⟨hc1, hc2, hcm⟩ | ⟨hc1, hc2, hcm⟩ | ⟨hc1, hc2, hcm⟩
        · obtain ⟨b1, a1, R1, rfl, rfl⟩ := kcSt_two (by omega) hT1
          have htp2 : tp = R1.length + 2 := htp
          refine lv_aload_n hx hb dX0_run_24 rfl (lv_at hl 2 rfl) ?_
          refine sk_get (v := .ref k1) (C := RX0) (T := TX0) (N := 6) hx hb hts inlX0 hown hK hP 0 rfl rfl 0 (Nat.le_of_ble_eq_true rfl) w_1_129 rfl dX0_run_25 ?_
          refine lv_iload hx hb dX0_run_28 (lv_at hl 0 rfl) ?_
          refine va_iald hx hb hK.1 hP 1 0 rfl rfl (vin i 1600 (by omega) (Nat.le_of_ble_eq_true rfl)) dX0_run_30 ?_
          refine sk_top (nI (29999 + cq)) (by rw [hld]; exact hcm) ?_
          refine lv_istore (lv' := [(5, .int (nI (29999 + cq))), (4, .int (nI i)), (3, .int (nI tp)), (0, .ref h0), (1, .int (nI a)), (2, .int (nI b))]) hx hb dX0_run_31 hl (by decide) rfl (fun ls hl => ?_)
          refine lv_iload hx hb dX0_run_33 (lv_at hl 0 rfl) ?_
          refine lv_sipush (v := 30000) hx hb dX0_run_35 (by decide) ?_
          refine lv_icmp_lt (tgt := 79) hx hb dX0_run_38 (by decide) (fun c => absurd ((nlt (29999 + cq) 30000 (by omega) (Nat.le_of_ble_eq_true rfl)).mp c) (by omega)) (fun c_6 => ?_)
          refine lv_iload_n hx hb dX0_run_41 rfl (lv_at hl 2 rfl) ?_
          refine lv_iconst (v := 1) hx hb dX0_run_42 ic_1 ?_
          refine lv_icmp_le (tgt := 167) hx hb dX0_run_43 (by decide) (fun c => absurd ((nle tp 1 (by omega) (Nat.le_of_ble_eq_true rfl)).mp c) (by omega)) (fun c_7 => ?_)
          refine lv_iinc (v := nI (tp - 1)) (lv' := [(3, .int (nI (tp - 1))), (5, .int (nI (29999 + cq))), (4, .int (nI i)), (0, .ref h0), (1, .int (nI a)), (2, .int (nI b))]) hx hb dX0_run_46 hl (k := 2) rfl (ndec1 tp (by omega)) (by decide) rfl (fun ls hl => ?_)
          refine lv_aload_n hx hb dX0_run_49 rfl (lv_at hl 3 rfl) ?_
          refine sk_get (v := .ref k2) (C := RX0) (T := TX0) (N := 6) hx hb hts inlX0 hown hK hP 0 rfl rfl 1 (Nat.le_of_ble_eq_true rfl) w_1_130 rfl dX0_run_50 ?_
          refine lv_iload_n hx hb dX0_run_53 rfl (lv_at hl 0 rfl) ?_
          refine lv_iconst (v := 1) hx hb dX0_run_54 ic_1 ?_
          refine lv_isub hx hb dX0_run_55 ?_
          refine sk_top (nI (tp - 1 - 1)) (nsub (tp - 1) 1 (by omega)) ?_
          refine lv_iload hx hb dX0_run_56 (lv_at hl 1 rfl) ?_
          refine lv_aload_n hx hb dX0_run_58 rfl (lv_at hl 3 rfl) ?_
          refine sk_get (v := .ref k2) (C := RX0) (T := TX0) (N := 6) hx hb hts inlX0 hown hK hP 0 rfl rfl 1 (Nat.le_of_ble_eq_true rfl) w_1_130 rfl dX0_run_59 ?_
          refine lv_iload_n hx hb dX0_run_62 rfl (lv_at hl 0 rfl) ?_
          refine lv_iconst (v := 1) hx hb dX0_run_63 ic_1 ?_
          refine lv_isub hx hb dX0_run_64 ?_
          refine sk_top (nI (tp - 1 - 1)) (nsub (tp - 1) 1 (by omega)) ?_
          refine va_lald hx hb hK.1 hP 2 1 rfl rfl (vin (tp - 1 - 1) 64 (by omega) (Nat.le_of_ble_eq_true rfl)) dX0_run_65 ?_
          refine sk_topl a1 (stk_a hst (by omega) (by omega)) ?_
          refine lv_aload_n hx hb dX0_run_66 rfl (lv_at hl 3 rfl) ?_
          refine sk_get (v := .ref k2) (C := RX0) (T := TX0) (N := 6) hx hb hts inlX0 hown hK hP 0 rfl rfl 1 (Nat.le_of_ble_eq_true rfl) w_1_130 rfl dX0_run_67 ?_
          refine lv_iload_n hx hb dX0_run_70 rfl (lv_at hl 0 rfl) ?_
          refine va_lald hx hb hK.1 hP 2 1 rfl rfl (vin (tp - 1) 64 (by omega) (Nat.le_of_ble_eq_true rfl)) dX0_run_71 ?_
          refine sk_topl b1 (stk_b hst (by omega) (by omega)) ?_
          refine sk_Sl (n := 3) (rest := [.int (nI (tp - 1 - 1)), .ref k2]) (wr := [ro_rrrrnn h0 0 k1 k2 k3 k4 cl mw, ra_I k1 cI 1600 f1, ra_J k2 cJ 64 fs, ra_J k3 cJ 9 f3, ra_J k4 cJ 10 f4]) ⟨hx, hb, hml, hown, hts⟩ hl.1 (c_kofTwo l D cI cJ cC cZ cS cq a1 b1 (by omega) (by omega)) w_3_225 w_3_226 w_1_8 w_3_227 hd_X0_ofTwo_3 ⟨⟨(Nat.le_of_ble_eq_true rfl), (Nat.le_of_ble_eq_true rfl)⟩, (Nat.le_of_ble_eq_true rfl), (Nat.le_of_ble_eq_true rfl)⟩ hK hP hD hS hA [] [0, 1, 2, 3, 4] rfl rfl (by decide +kernel) (by decide +kernel) (by decide +kernel) rfl rfl (Nat.le_of_ble_eq_true rfl) dX0_run_72 (fun r_8 u H locs hw hP hD hS => ?_)
          obtain ⟨hr_9, rfl⟩ := hw
          refine o_re (ws' := [ro_rrrrnn h0 0 k1 k2 k3 k4 cl mw, ra_I k1 cI 1600 f1, ra_J k2 cJ 64 fs, ra_J k3 cJ 9 f3, ra_J k4 cJ 10 f4]) hP hD rfl (fun hP hD => ?_)
          subst hr_9
          refine sk_lastE (k := (tp - 1 - 1)) (ws' := fun f_10 => [ro_rrrrnn h0 0 k1 k2 k3 k4 cl mw, ra_I k1 cI 1600 f1, ra_J k2 cJ 64 f_10, ra_J k3 cJ 9 f3, ra_J k4 cJ 10 f4]) hx hb hK hP hD hS 2 1 rfl rfl (by omega) (by omega) (fun _ => rfl) dX0_run_75 (fun f_10 H locs ef_11 hP hD hS => ?_)
          have hs_12 := stk_op hst (by omega) ef_11
          refine lv_goto (tgt := 167) hx hb dX0_run_76 (by decide) ?_
          refine lv_iinc (v := nI (i + 1)) (lv' := [(4, .int (nI (i + 1))), (3, .int (nI (tp - 1))), (5, .int (nI (29999 + cq))), (0, .ref h0), (1, .int (nI a)), (2, .int (nI b))]) hx hb dX0_run_167 hl (k := 2) rfl (ninc i 1 (by decide)) (by decide) rfl (fun ls hl => ?_)
          refine lv_goto (tgt := 9) hx hb dX0_run_170 (by decide) ?_
          exact ih_lp_1 (i + 1) (tp - 1) f_10 (kcOp cq a1 b1 :: R1) _ _ _ (by omega) (by omega) (by omega) (by omega) (show _ = R1.length + 1 by omega) (by omega) hs_12 hns3 hT3 hP hD hS (lv_sub hl [0, 1, 3, 4, 5] rfl)
        · rw [kcSt_num (by omega)] at hT1
          obtain rfl := Option.some.inj hT1
          have htp2 : SS.length + 1 ≤ 64 := hT2
          refine lv_aload_n hx hb dX0_run_24 rfl (lv_at hl 2 rfl) ?_
          refine sk_get (v := .ref k1) (C := RX0) (T := TX0) (N := 6) hx hb hts inlX0 hown hK hP 0 rfl rfl 0 (Nat.le_of_ble_eq_true rfl) w_1_129 rfl dX0_run_25 ?_
          refine lv_iload hx hb dX0_run_28 (lv_at hl 0 rfl) ?_
          refine va_iald hx hb hK.1 hP 1 0 rfl rfl (vin i 1600 (by omega) (Nat.le_of_ble_eq_true rfl)) dX0_run_30 ?_
          refine sk_top (nI (cq - 1000)) (by rw [hld]; exact hcm) ?_
          refine lv_istore (lv' := [(5, .int (nI (cq - 1000))), (4, .int (nI i)), (3, .int (nI tp)), (0, .ref h0), (1, .int (nI a)), (2, .int (nI b))]) hx hb dX0_run_31 hl (by decide) rfl (fun ls hl => ?_)
          refine lv_iload hx hb dX0_run_33 (lv_at hl 0 rfl) ?_
          refine lv_sipush (v := 30000) hx hb dX0_run_35 (by decide) ?_
          refine lv_icmp_lt (tgt := 79) hx hb dX0_run_38 (by decide) (fun c_13 => ?_) (fun c => absurd ((nlt (cq - 1000) 30000 (by omega) (Nat.le_of_ble_eq_true rfl)).mpr (by omega)) c)
          refine lv_iload hx hb dX0_run_79 (lv_at hl 0 rfl) ?_
          refine lv_sipush (v := 20000) hx hb dX0_run_81 (by decide) ?_
          refine lv_icmp_lt (tgt := 116) hx hb dX0_run_84 (by decide) (fun c_14 => ?_) (fun c => absurd ((nlt (cq - 1000) 20000 (by omega) (Nat.le_of_ble_eq_true rfl)).mpr (by omega)) c)
          refine lv_iload_n hx hb dX0_run_116 rfl (lv_at hl 2 rfl) ?_
          refine lv_aload_n hx hb dX0_run_117 rfl (lv_at hl 3 rfl) ?_
          refine sk_get (v := .ref k2) (C := RX0) (T := TX0) (N := 6) hx hb hts inlX0 hown hK hP 0 rfl rfl 1 (Nat.le_of_ble_eq_true rfl) w_1_130 rfl dX0_run_118 ?_
          refine va_alen (v := 64) hx hb hK.1 hP 2 1 rfl rfl rfl dX0_run_121 ?_
          refine lv_icmp_ge (tgt := 167) hx hb dX0_run_122 (by decide) (fun c => absurd ((nle 64 tp (Nat.le_of_ble_eq_true rfl) (by omega)).mp c) (by omega)) (fun c_15 => ?_)
          refine lv_iload hx hb dX0_run_125 (lv_at hl 0 rfl) ?_
          refine lv_sipush (v := 10000) hx hb dX0_run_127 (by decide) ?_
          refine lv_isub hx hb dX0_run_130 ?_
          refine lv_istore (lv' := [(6, .int (nI (cq - 1000) - 10000)), (5, .int (nI (cq - 1000))), (4, .int (nI i)), (3, .int (nI tp)), (0, .ref h0), (1, .int (nI a)), (2, .int (nI b))]) hx hb dX0_run_131 hl (by decide) rfl (fun ls hl => ?_)
          refine lv_aload_n hx hb dX0_run_133 rfl (lv_at hl 4 rfl) ?_
          refine sk_get (v := .ref k2) (C := RX0) (T := TX0) (N := 6) hx hb hts inlX0 hown hK hP 0 rfl rfl 1 (Nat.le_of_ble_eq_true rfl) w_1_130 rfl dX0_run_134 ?_
          refine lv_iload_n hx hb dX0_run_137 rfl (lv_at hl 3 rfl) ?_
          refine lv_iload hx hb dX0_run_138 (lv_at hl 0 rfl) ?_
          refine lv_if_lt (tgt := 160) hx hb dX0_run_140 (by decide) (fun c_16 => ?_) (fun c => absurd (kx_neg (by omega)) c)
          refine lv_iload hx hb dX0_run_160 (lv_at hl 1 rfl) ?_
          refine lv_i2l hx hb dX0_run_162 rfl ?_
          refine sk_lastE (k := tp) (ws' := fun f_17 => [ro_rrrrnn h0 0 k1 k2 k3 k4 cl mw, ra_I k1 cI 1600 f1, ra_J k2 cJ 64 f_17, ra_J k3 cJ 9 f3, ra_J k4 cJ 10 f4]) hx hb hK hP hD hS 2 1 rfl rfl (by omega) (by omega) (fun _ => rfl) dX0_run_163 (fun f_17 H locs ef_18 hP hD hS => ?_)
          have hs_19 := stk_push hst htp ef_18 (kx_i2l (by omega))
          refine lv_iinc (v := nI (tp + 1)) (lv' := [(3, .int (nI (tp + 1))), (6, .int (nI (cq - 1000) - 10000)), (5, .int (nI (cq - 1000))), (4, .int (nI i)), (0, .ref h0), (1, .int (nI a)), (2, .int (nI b))]) hx hb dX0_run_164 hl (k := 3) rfl (ninc tp 1 (by decide)) (by decide) rfl (fun ls hl => ?_)
          refine lv_iinc (v := nI (i + 1)) (lv' := [(4, .int (nI (i + 1))), (3, .int (nI (tp + 1))), (6, .int (nI (cq - 1000) - 10000)), (5, .int (nI (cq - 1000))), (0, .ref h0), (1, .int (nI a)), (2, .int (nI b))]) hx hb dX0_run_167 hl (k := 3) rfl (ninc i 1 (by decide)) (by decide) rfl (fun ls hl => ?_)
          refine lv_goto (tgt := 9) hx hb dX0_run_170 (by decide) ?_
          exact ih_lp_1 (i + 1) (tp + 1) f_17 (Int64.ofNat (cq - 1000) :: SS) _ _ _ (by omega) (by omega) (by omega) (by omega) (show _ = SS.length + 1 by omega) (by omega) hs_19 hns3 hT3 hP hD hS (lv_sub hl [0, 1, 4, 5, 6] rfl)
        · rw [kcSt_nm (by omega) (by omega)] at hT1
          obtain rfl := Option.some.inj hT1
          have htp2 : SS.length + 1 ≤ 64 := hT2
          refine lv_aload_n hx hb dX0_run_24 rfl (lv_at hl 2 rfl) ?_
          refine sk_get (v := .ref k1) (C := RX0) (T := TX0) (N := 6) hx hb hts inlX0 hown hK hP 0 rfl rfl 0 (Nat.le_of_ble_eq_true rfl) w_1_129 rfl dX0_run_25 ?_
          refine lv_iload hx hb dX0_run_28 (lv_at hl 0 rfl) ?_
          refine va_iald hx hb hK.1 hP 1 0 rfl rfl (vin i 1600 (by omega) (Nat.le_of_ble_eq_true rfl)) dX0_run_30 ?_
          refine sk_top (nI (9960 + cq)) (by rw [hld]; exact hcm) ?_
          refine lv_istore (lv' := [(5, .int (nI (9960 + cq))), (4, .int (nI i)), (3, .int (nI tp)), (0, .ref h0), (1, .int (nI a)), (2, .int (nI b))]) hx hb dX0_run_31 hl (by decide) rfl (fun ls hl => ?_)
          refine lv_iload hx hb dX0_run_33 (lv_at hl 0 rfl) ?_
          refine lv_sipush (v := 30000) hx hb dX0_run_35 (by decide) ?_
          refine lv_icmp_lt (tgt := 79) hx hb dX0_run_38 (by decide) (fun c_20 => ?_) (fun c => absurd ((nlt (9960 + cq) 30000 (by omega) (Nat.le_of_ble_eq_true rfl)).mpr (by omega)) c)
          refine lv_iload hx hb dX0_run_79 (lv_at hl 0 rfl) ?_
          refine lv_sipush (v := 20000) hx hb dX0_run_81 (by decide) ?_
          refine lv_icmp_lt (tgt := 116) hx hb dX0_run_84 (by decide) (fun c_21 => ?_) (fun c => absurd ((nlt (9960 + cq) 20000 (by omega) (Nat.le_of_ble_eq_true rfl)).mpr (by omega)) c)
          refine lv_iload_n hx hb dX0_run_116 rfl (lv_at hl 2 rfl) ?_
          refine lv_aload_n hx hb dX0_run_117 rfl (lv_at hl 3 rfl) ?_
          refine sk_get (v := .ref k2) (C := RX0) (T := TX0) (N := 6) hx hb hts inlX0 hown hK hP 0 rfl rfl 1 (Nat.le_of_ble_eq_true rfl) w_1_130 rfl dX0_run_118 ?_
          refine va_alen (v := 64) hx hb hK.1 hP 2 1 rfl rfl rfl dX0_run_121 ?_
          refine lv_icmp_ge (tgt := 167) hx hb dX0_run_122 (by decide) (fun c => absurd ((nle 64 tp (Nat.le_of_ble_eq_true rfl) (by omega)).mp c) (by omega)) (fun c_22 => ?_)
          refine lv_iload hx hb dX0_run_125 (lv_at hl 0 rfl) ?_
          refine lv_sipush (v := 10000) hx hb dX0_run_127 (by decide) ?_
          refine lv_isub hx hb dX0_run_130 ?_
          refine sk_top (nI (9960 + cq - 10000)) (nsub (9960 + cq) 10000 (by omega)) ?_
          refine lv_istore (lv' := [(6, .int (nI (9960 + cq - 10000))), (5, .int (nI (9960 + cq))), (4, .int (nI i)), (3, .int (nI tp)), (0, .ref h0), (1, .int (nI a)), (2, .int (nI b))]) hx hb dX0_run_131 hl (by decide) rfl (fun ls hl => ?_)
          refine lv_aload_n hx hb dX0_run_133 rfl (lv_at hl 4 rfl) ?_
          refine sk_get (v := .ref k2) (C := RX0) (T := TX0) (N := 6) hx hb hts inlX0 hown hK hP 0 rfl rfl 1 (Nat.le_of_ble_eq_true rfl) w_1_130 rfl dX0_run_134 ?_
          refine lv_iload_n hx hb dX0_run_137 rfl (lv_at hl 3 rfl) ?_
          refine lv_iload hx hb dX0_run_138 (lv_at hl 0 rfl) ?_
          refine lv_if_lt (tgt := 160) hx hb dX0_run_140 (by decide) (fun c => absurd c (nI_pos (by omega))) (fun c_23 => ?_)
          refine lv_iload hx hb dX0_run_143 (lv_at hl 0 rfl) ?_
          refine lv_bipush (v := 9) hx hb dX0_run_145 (by decide) ?_
          refine lv_icmp_ge (tgt := 160) hx hb dX0_run_147 (by decide) (fun c => absurd ((nle 9 (9960 + cq - 10000) (Nat.le_of_ble_eq_true rfl) (by omega)).mp c) (by omega)) (fun c_24 => ?_)
          refine lv_aload_n hx hb dX0_run_150 rfl (lv_at hl 4 rfl) ?_
          refine sk_get (v := .ref k3) (C := RX0) (T := TX0) (N := 6) hx hb hts inlX0 hown hK hP 0 rfl rfl 2 (Nat.le_of_ble_eq_true rfl) w_1_131 rfl dX0_run_151 ?_
          refine lv_iload hx hb dX0_run_154 (lv_at hl 0 rfl) ?_
          refine va_lald hx hb hK.1 hP 3 1 rfl rfl (vin (9960 + cq - 10000) 9 (by omega) (Nat.le_of_ble_eq_true rfl)) dX0_run_156 ?_
          refine sk_topl (nm (cq - 40)) (by rw [nI_clamp (by omega), show 9960 + cq - 10000 = cq - 40 by omega]; exact hnm _ (by omega)) ?_
          refine lv_goto (tgt := 163) hx hb dX0_run_157 (by decide) ?_
          refine sk_lastE (k := tp) (ws' := fun f_25 => [ro_rrrrnn h0 0 k1 k2 k3 k4 cl mw, ra_I k1 cI 1600 f1, ra_J k2 cJ 64 f_25, ra_J k3 cJ 9 f3, ra_J k4 cJ 10 f4]) hx hb hK hP hD hS 2 1 rfl rfl (by omega) (by omega) (fun _ => rfl) dX0_run_163 (fun f_25 H locs ef_26 hP hD hS => ?_)
          have hs_27 := stk_push hst htp ef_26 rfl
          refine lv_iinc (v := nI (tp + 1)) (lv' := [(3, .int (nI (tp + 1))), (6, .int (nI (9960 + cq - 10000))), (5, .int (nI (9960 + cq))), (4, .int (nI i)), (0, .ref h0), (1, .int (nI a)), (2, .int (nI b))]) hx hb dX0_run_164 hl (k := 3) rfl (ninc tp 1 (by decide)) (by decide) rfl (fun ls hl => ?_)
          refine lv_iinc (v := nI (i + 1)) (lv' := [(4, .int (nI (i + 1))), (3, .int (nI (tp + 1))), (6, .int (nI (9960 + cq - 10000))), (5, .int (nI (9960 + cq))), (0, .ref h0), (1, .int (nI a)), (2, .int (nI b))]) hx hb dX0_run_167 hl (k := 3) rfl (ninc i 1 (by decide)) (by decide) rfl (fun ls hl => ?_)
          refine lv_goto (tgt := 9) hx hb dX0_run_170 (by decide) ?_
          exact ih_lp_1 (i + 1) (tp + 1) f_25 (nm (cq - 40) :: SS) _ _ _ (by omega) (by omega) (by omega) (by omega) (show _ = SS.length + 1 by omega) (by omega) hs_27 hns3 hT3 hP hD hS (lv_sub hl [0, 1, 4, 5, 6] rfl)
  exact lp_1 (cl - a + 1) a 0 f2 ([]) _ _ _ (Nat.lt_succ_self _) (by omega) (by omega) hab rfl (by omega) True.intro hns hex hP hD hS (lv_sub hl [0, 1, 2, 3, 4] rfl)
