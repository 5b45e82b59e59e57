/-! the class's lock, statement by statement -/
theorem word_tk {tb : Nat → Nat} {n k : Nat} (htb : ∀ j, tb j ≤ 255) (hk : k < 28) : tkF tb n (nI (256 + k)) = wordP tb n (CWs.getD k []) := by
  funext c
  unfold tkF wordP
  by_cases h : isW tb n (CWs.getD k []) c = true
  · rw [if_pos h, if_pos ((tok_W htb hk).mpr h)]
  · rw [if_neg h, if_neg (fun q => h ((tok_W htb hk).mp q))]
theorem tk256 {tb : Nat → Nat} {n : Nat} (htb : ∀ j, tb j ≤ 255) : tkF tb n 256 = wordP tb n (CWs.getD 0 []) := word_tk (k := 0) htb (by decide)
theorem tk257 {tb : Nat → Nat} {n : Nat} (htb : ∀ j, tb j ≤ 255) : tkF tb n 257 = wordP tb n (CWs.getD 1 []) := word_tk (k := 1) htb (by decide)
theorem tk59 {tb : Nat → Nat} {n : Nat} (htb : ∀ j, tb j ≤ 255) : tkF tb n 59 = signP tb n 59 := tkF_sign (b := 59) htb (by decide)
theorem ll_t {tb : Nat → Nat} {n : Nat} {o : LkR} {xa : Nat} {xv xt : Int32} {xz : Nat} {xf xp : Int32} {jd jm : Nat} {ju jr : Int32} {jc jx : Nat} {j1 jf jt jb jw : Nat → Int32} {r : LkS × Cur} (h : llO tb n o xa xv xt xz xf xp jd jm ju jr jc jx j1 jf jt jb jw) (e : o = .ok r) : rdC tb n r.2 xa xv xt xz xf xp := by
  subst e; exact h.1
theorem opn_lc {tb : Nat → Nat} {n : Nat} (htb : ∀ j, tb j ≤ 255) (c : Cur) : lc (openP tb n c) = opnO tb n (.ok c) := by
  unfold lc openP opnO nmF
  rw [tk256 htb, tk257 htb, tk59 htb]
  show bindR (bindR (wordP tb n (CWs.getD 0 []) c) _) _ = bindR (bindR (bindR (bindR (wordP tb n (CWs.getD 0 []) c) _) _) _) _
  cases wordP tb n (CWs.getD 0 []) c with
  | error e => rfl
  | ok c1 =>
    show bindR (bindR (numP tb n 2 9 c1) _) _ = bindR (bindR (bindR (bindR (numP tb n 2 9 c1) _) _) _) _
    cases numP tb n 2 9 c1 with
    | error e => rfl
    | ok d =>
      show bindR (bindR (wordP tb n (CWs.getD 1 []) d.2) _) _ = bindR (bindR (wordP tb n (CWs.getD 1 []) d.2) _) _
      cases wordP tb n (CWs.getD 1 []) d.2 with
      | error e => rfl
      | ok c2 =>
        show bindR (bindR (numP tb n 0 9 c2) _) _ = bindR (bindR (numP tb n 0 9 c2) _) _
        cases numP tb n 0 9 c2 with
        | error e => rfl
        | ok m =>
          show bindR (bindR (signP tb n 59 m.2) _) _ = signP tb n 59 m.2
          cases signP tb n 59 m.2 <;> rfl
theorem ll_open {tb : Nat → Nat} {n : Nat} {c : Cur} {xa : Nat} {xv xt : Int32} {xz : Nat} {xf xp : Int32} {jd jm : Nat} {j1 jf jt jb jw : Nat → Int32} (htb : ∀ j, tb j ≤ 255) (h : rdO tb n (opnO tb n (.ok c)) xa xv xt xz xf xp) (hd : nvO tb n 2 9 (bindR (.ok c) (tkF tb n 256)) jd) (hm : nvO tb n 0 9 (bindR (bindR (bindR (.ok c) (tkF tb n 256)) (nmF tb n 2 9)) (tkF tb n 257)) jm) (hf : allV 0 3 jf) (ht : allV 0 3 jt) (hb : allV 0 9 jb) (hw : allV 0 9 jw) : llO tb n (openP tb n c) xa xv xt xz xf xp jd jm 0 0 0 0 j1 jf jt jb jw := by
  refine ⟨by rw [opn_lc htb]; exact h, fun r hr => ?_⟩
  obtain ⟨c1, h1, h2⟩ := bindR_ok hr
  obtain ⟨d, h3, h4⟩ := bindR_ok h2
  obtain ⟨c2, h5, h6⟩ := bindR_ok h4
  obtain ⟨m, h7, h8⟩ := bindR_ok h6
  obtain ⟨c3, h9, h10⟩ := bindR_ok h8
  cases h10
  have e1 : bindR (.ok c) (tkF tb n 256) = .ok c1 := by show tkF tb n 256 c = _; rw [tk256 htb]; exact h1
  have e2 : nmF tb n 2 9 c1 = .ok d.2 := by unfold nmF; rw [h3]; rfl
  have e3 : tkF tb n 257 d.2 = .ok c2 := by rw [tk257 htb]; exact h5
  refine ⟨hd c1 d e1 h3, hm c2 m (by rw [e1]; show bindR (nmF tb n 2 9 c1) _ = _; rw [e2]; exact e3) h7, hb, hw, muO_0, rfl, ⟨rfl, ⟨fun q => absurd q (by decide), fun q => by cases (show 44 ∈ ([] : List Nat) from q)⟩, fun j hj => absurd hj (Nat.not_lt_zero j)⟩, fun w hw => ⟨hf w hw, ht w hw⟩⟩
theorem muO_eq {mu nu : Nat → Bool} {ju : Int32} (h : muO mu ju) (h2 : muO nu ju) {d : Nat} (hd : d < 9) : mu d = nu d := by
  have a := muO_bit h hd
  have b := muO_bit h2 hd
  rw [a] at b
  cases hm : mu d with
  | true => exact (b.mp hm).symm
  | false =>
    cases hn : nu d with
    | false => rfl
    | true => rw [b.mpr hn] at hm; cases hm
theorem nb_mu {tb : Nat → Nat} {n d : Nat} {mu : Nat → Bool} {o : Except Err Cur} {t : Int32} {xa : Nat} {xv xt : Int32} {xz : Nat} {xf xp : Int32} {ju ju2 jr jr2 : Int32} {jb jb2 jw jw2 : Nat → Int32} (h : nbO tb n d mu o t xa xv xt xz xf xp ju ju2 jr jr2 jb jb2 jw jw2) (hm : muO mu ju) : ∃ nu, muO nu ju2 := by
  rcases h with ⟨-, dv, mv, -, -, -, -, e, -⟩ | ⟨-, dv, mv, -, -, -, -, e, -⟩ | ⟨-, dv, w, -, -, e, -, -, -⟩ | ⟨-, v, -, -, -, -, -, e⟩ | ⟨-, -, -, -, -, -, -, e, -⟩
  · exact ⟨mu, e ▸ hm⟩
  · exact ⟨mu, e ▸ hm⟩
  · exact ⟨_, e⟩
  · exact ⟨mu, e ▸ hm⟩
  · exact ⟨mu, e ▸ hm⟩
def bodyR (tb : Nat → Nat) (n : Nat) (r : LkS × Cur) : LkR := bodyP tb n r.1 r.2
theorem tkW {tb : Nat → Nat} {n k : Nat} {c : Cur} {t : Int32} (htb : ∀ j, tb j ≤ 255) (hk : k < 28) (ht : t = tokOf tb n c) : t = nI (256 + k) ↔ isW tb n (CWs.getD k []) c = true := by
  rw [ht]; exact tok_W htb hk
/-- which statement stands there, by the token -/
theorem body_tok {tb : Nat → Nat} {n : Nat} {L : LkS} {c : Cur} {t : Int32} (htb : ∀ j, tb j ≤ 255) (ht : t = tokOf tb n c) : bodyP tb n L c = (if t = 258 then bindR (amtP tb n (lD L) c) (fun x => .ok (stB L x.1.1 x.1.2, x.2)) else if t = 259 then bindR (amtP tb n (lD L) c) (fun x => .ok (stW L x.1.1 x.1.2, x.2)) else if t = 260 then bindR (numP tb n 0 (lD L - 1) (nx tb n c.1)) (fun x => if lU L x.1 = true then .error (2, (nx tb n c.1).1) else .ok (stU L x.1, x.2)) else if t = 261 then sumL tb n L 0 0 c else if t = 262 then sumL tb n L 1 1 c else if t = 263 then sumL tb n L 2 0 c else if t = 264 then bindR (numP tb n 0 100 (nx tb n c.1)) (fun x => .ok (stN L x.1, x.2)) else .error (1, c.1)) := by
  unfold bodyP
  have e2 : t = 258 ↔ isW tb n (CWs.getD 2 []) c = true := tkW (k := 2) htb (by decide) ht
  have e3 : t = 259 ↔ isW tb n (CWs.getD 3 []) c = true := tkW (k := 3) htb (by decide) ht
  have e4 : t = 260 ↔ isW tb n (CWs.getD 4 []) c = true := tkW (k := 4) htb (by decide) ht
  have e5 : t = 261 ↔ isW tb n (CWs.getD 5 []) c = true := tkW (k := 5) htb (by decide) ht
  have e6 : t = 262 ↔ isW tb n (CWs.getD 6 []) c = true := tkW (k := 6) htb (by decide) ht
  have e7 : t = 263 ↔ isW tb n (CWs.getD 7 []) c = true := tkW (k := 7) htb (by decide) ht
  have e8 : t = 264 ↔ isW tb n (CWs.getD 8 []) c = true := tkW (k := 8) htb (by decide) ht
  simp only [e2, e3, e4, e5, e6, e7, e8]
theorem am_lc {tb : Nat → Nat} {n d : Nat} {c : Cur} : amO tb n d (.ok c) = bindR (amtP tb n d c) (fun x => .ok x.2) := by
  unfold amO amtP nmF
  show bindR (bindR (numP tb n 0 (d - 1) (nx tb n c.1)) _) _ = _
  cases numP tb n 0 (d - 1) (nx tb n c.1) with
  | error e => rfl
  | ok x =>
    show bindR (numP tb n 0 9 x.2) _ = bindR (bindR (numP tb n 0 9 x.2) _) _
    cases numP tb n 0 9 x.2 <;> rfl
theorem am_val {tb : Nat → Nat} {n d dv mv : Nat} {c : Cur} {x : (Nat × Nat) × Cur} (h : amV tb n d (.ok c) dv mv) (hx : amtP tb n d c = .ok x) : dv = x.1.1 ∧ mv = x.1.2 := by
  obtain ⟨y, h1, h2⟩ := bindR_ok hx
  obtain ⟨z, h3, h4⟩ := bindR_ok h2
  cases h4
  refine ⟨h.2.1 _ y rfl h1, h.2.2 y.2 z ?_ h3⟩
  show bindR (numP tb n 0 (d - 1) (nx tb n c.1)) _ = _
  rw [h1]; rfl
theorem row_up {f : Nat → Int32} {b : Nat → Nat} {d v : Nat} (h : ∀ j, j < 9 → f j = nI (b j)) : ∀ j, j < 9 → upd f d (nI v) j = nI (updG b d v j) := by
  intro j hj
  unfold upd updG
  by_cases e : j = d
  · rw [if_pos e, if_pos e]
  · rw [if_neg e, if_neg e]; exact h j hj
theorem mu_cg {mu nu : Nat → Bool} {d : Nat} {ju : Int32} (hd : d < 9) (h : muO (updG mu d true) ju) (e : ∀ j, j < 9 → mu j = nu j) : muO (updG nu d true) ju := by
  obtain ⟨m, hm, e1, hb⟩ := h
  refine ⟨m, hm, e1, fun j hj => ?_⟩
  rw [hb j hj]
  unfold updG
  by_cases q : j = d
  · rw [if_pos q, if_pos q]
  · rw [if_neg q, if_neg q]; exact e j hj
/-- numbers -/
theorem ll_nb {tb : Nat → Nat} {n : Nat} {o : LkR} {mu : Nat → Bool} {xa : Nat} {xv xt : Int32} {xz : Nat} {xf xp : Int32} {ya : Nat} {yv yt : Int32} {yz : Nat} {yf yp : Int32} {jd jm : Nat} {ju jr : Int32} {jc jx : Nat} {j1 jf jt jb jw : Nat → Int32} {ju2 jr2 : Int32} {jb2 jw2 : Nat → Int32} (htb : ∀ j, tb j ≤ 255) (h : llO tb n o xa xv xt xz xf xp jd jm ju jr jc jx j1 jf jt jb jw) (hmu : muO mu ju) (h1 : ¬ xt = 261) (h2 : ¬ xt = 262) (h3 : ¬ xt = 263) (hn : nbO tb n jd mu (lc o) xt ya yv yt yz yf yp ju ju2 jr jr2 jb jb2 jw jw2) : llO tb n (bindR o (bodyR tb n)) ya yv yt yz yf yp jd jm ju2 jr2 jc jx j1 jf jt jb2 jw2 := by
  cases o with
  | error e =>
    refine ⟨?_, fun r hr => by cases hr⟩
    rcases hn with ⟨-, dv, mv, -, q, -⟩ | ⟨-, dv, mv, -, q, -⟩ | ⟨-, dv, w, -, q, -⟩ | ⟨-, v, -, q, -⟩ | ⟨-, -, -, -, q, -⟩ <;> exact q
  | ok r =>
    obtain ⟨L, c⟩ := r
    have ht : xt = tokOf tb n c := (ll_t h rfl).2.2.2.2.1
    obtain ⟨k1, k2, k3, k4, k5, k6, k7, k8⟩ := h.2 _ rfl
    have hb : bindR (.ok (L, c)) (bodyR tb n) = bodyP tb n L c := rfl
    rw [hb, body_tok htb ht]
    have hl : lc (.ok (L, c)) = .ok c := rfl
    rw [hl] at hn
    have k1' : lD L = jd := k1.symm
    rcases hn with ⟨t0, dv, mv, hv, q, e1, e2, e3, e4⟩ | ⟨t0, dv, mv, hv, q, e1, e2, e3, e4⟩ | ⟨t0, dv, w, hv, q, e1, e2, e3, e4⟩ | ⟨t0, v, hv, q, e1, e2, e3, e4⟩ | ⟨t1, t2, t3, t4, q, e1, e2, e3, e4⟩
    · rw [if_pos t0]
      rw [am_lc] at q
      have hv1 : amV tb n (lD L) (.ok c) dv mv := by rw [k1']; exact hv
      refine ⟨?_, fun s hs => ?_⟩
      · rw [k1']
        show rdO tb n (bindR (bindR _ _) _) ya yv yt yz yf yp
        rw [bindR_assoc]; exact q
      · obtain ⟨x, h5, h6⟩ := bindR_ok hs
        cases h6
        have h7 := am_val hv1 h5
        refine ⟨k1, k2, ?_, by rw [e2]; exact k4, by rw [e3]; exact k5, by rw [e4]; exact k6, k7, k8⟩
        rw [e1, h7.1, h7.2]; exact row_up k3
    · rw [if_neg (by rw [t0]; decide), if_pos t0]
      rw [am_lc] at q
      have hv1 : amV tb n (lD L) (.ok c) dv mv := by rw [k1']; exact hv
      refine ⟨?_, fun s hs => ?_⟩
      · rw [k1']
        show rdO tb n (bindR (bindR _ _) _) ya yv yt yz yf yp
        rw [bindR_assoc]; exact q
      · obtain ⟨x, h5, h6⟩ := bindR_ok hs
        cases h6
        have h7 := am_val hv1 h5
        refine ⟨k1, k2, by rw [e2]; exact k3, ?_, by rw [e3]; exact k5, by rw [e4]; exact k6, k7, k8⟩
        rw [e1, h7.1, h7.2]; exact row_up k4
    · rw [if_neg (by rw [t0]; decide), if_neg (by rw [t0]; decide), if_pos t0, k1']
      obtain ⟨v1, v2, v3⟩ := hv
      have v4 := v3 c rfl
      have q' : rdO tb n (bindR (bindR (numP tb n 0 (jd - 1) (nx tb n c.1)) (fun r => .ok r.2)) (muF mu dv w)) ya yv yt yz yf yp := q
      cases hx : numP tb n 0 (jd - 1) (nx tb n c.1) with
      | error e =>
        rw [hx] at q'
        exact ⟨q', fun s hs => by cases hs⟩
      | ok x =>
        rw [hx] at q'
        have v5 := v2 _ x rfl hx
        have v6 : mu dv = lU L dv := muO_eq hmu k5 v1
        have q2 : rdO tb n (muF mu dv w x.2) ya yv yt yz yf yp := q'
        unfold muF at q2
        rw [v6, v5] at q2
        show llO tb n (if lU L x.1 = true then .error (2, (nx tb n c.1).1) else .ok (stU L x.1, x.2)) _ _ _ _ _ _ _ _ _ _ _ _ _ _ _ _ _
        by_cases hu : lU L x.1 = true
        · rw [if_pos hu] at q2 ⊢
          rw [v4] at q2
          exact ⟨q2, fun s hs => by cases hs⟩
        · rw [if_neg hu] at q2 ⊢
          refine ⟨q2, fun s hs => ?_⟩
          cases hs
          refine ⟨k1, k2, by rw [e2]; exact k3, by rw [e3]; exact k4, ?_, by rw [e4]; exact k6, k7, k8⟩
          rw [v5] at e1 v1
          exact mu_cg v1 e1 (fun j hj => muO_eq hmu k5 hj)
    · rw [if_neg (by rw [t0]; decide), if_neg (by rw [t0]; decide), if_neg (by rw [t0]; decide), if_neg h1, if_neg h2, if_neg h3, if_pos t0]
      have q' : rdO tb n (bindR (numP tb n 0 100 (nx tb n c.1)) (fun r => .ok r.2)) ya yv yt yz yf yp := q
      cases hx : numP tb n 0 100 (nx tb n c.1) with
      | error e =>
        rw [hx] at q'
        exact ⟨q', fun s hs => by cases hs⟩
      | ok x =>
        rw [hx] at q'
        refine ⟨q', fun s hs => ?_⟩
        cases hs
        have v5 := hv _ x rfl hx
        exact ⟨k1, k2, by rw [e2]; exact k3, by rw [e3]; exact k4, by rw [e4]; exact k5, by rw [e1, v5]; rfl, k7, k8⟩
    · rw [if_neg t1, if_neg t2, if_neg t3, if_neg h1, if_neg h2, if_neg h3, if_neg t4]
      exact ⟨q, fun s hs => by cases hs⟩
/-- sums -/
def smO (tb : Nat → Nat) (n kn w : Nat) (o : Res) (xa : Nat) (xv xt : Int32) (xz : Nat) (xf xp : Int32) (jc jc2 jx2 : Nat) (j1' jf jf2 jt jt2 : Nat → Int32) : Prop :=
  (jf w < jt w ∧ rsO tb n (bd o (hereF 5)) xa xv xt xz xf xp jc2 jx2 j1' ∧ jf2 = jf ∧ jt2 = jt) ∨ (¬ jf w < jt w ∧ rsO tb n (bindR (bd o (nxF tb n)) (apF (sumOf tb n (rdPart tb n kn 6)))) xa xv xt xz xf xp jc2 jx2 j1' ∧ jf2 = upd jf w (nI jc) ∧ jt2 = upd jt w (nI jc2))
theorem rs_fh {tb : Nat → Nat} {n k : Nat} {o : Res} {xa : Nat} {xv xt : Int32} {xz : Nat} {xf xp : Int32} {ya : Nat} {yv yt : Int32} {yz : Nat} {yf yp : Int32} {cl mw : Nat} {f : Nat → Int32} {c2 w2 : Nat} {g : Nat → Int32} (h : rsO tb n o xa xv xt xz xf xp cl mw f) (h2 : rsO tb n (bd o (fun _ => .error (k, xz))) ya yv yt yz yf yp c2 w2 g) : rsO tb n (bd o (hereF k)) ya yv yt yz yf yp c2 w2 g := by
  have e : bd o (fun _ => .error (k, xz)) = bd o (hereF k) := by
    cases o with
    | error e => rfl
    | ok r =>
      have := (rs_c h rfl).2.2.1
      show bindR (Except.error (k, xz) : Except Err Cur) (fun c => Except.ok (c, r.2)) = bindR (hereF k r.1) (fun c => Except.ok (c, r.2))
      unfold hereF; rw [this]
  rw [← e]; exact h2
theorem lr_rs {tb : Nat → Nat} {n : Nat} {o : LkR} {xa : Nat} {xv xt : Int32} {xz : Nat} {xf xp : Int32} {jd jm : Nat} {ju jr : Int32} {jc jx : Nat} {j1 jf jt jb jw : Nat → Int32} (h : llO tb n o xa xv xt xz xf xp jd jm ju jr jc jx j1 jf jt jb jw) : rsO tb n (lr o) xa xv xt xz xf xp jc jx j1 := by
  refine ⟨?_, fun q hq => ?_⟩
  · have e : rc (lr o) = lc o := by cases o <;> rfl
    rw [e]; exact h.1
  · obtain ⟨r, h1, h2⟩ := bindR_ok hq
    cases h2
    exact (h.2 r h1).2.2.2.2.2.2.1
def len5 (o : LkR) : Prop := ∀ r, o = .ok r → (lK r.1).length + 5 ≤ r.2.1
theorem lr_len {o : LkR} (h : len5 o) : lenO (lr o) := fun q hq => by
  obtain ⟨r, h1, h2⟩ := bindR_ok hq
  cases h2
  have := h r h1
  show (lK r.1).length ≤ r.2.1
  omega
theorem sg_lt {g : Option (Nat × Nat)} {a b : Int32} (h : sgO g a b) : a < b ↔ g.isSome = true := by
  cases g with
  | none =>
    rw [h.1, h.2]
    exact ⟨fun q => absurd q (by decide), fun q => by cases q⟩
  | some p =>
    obtain ⟨h1, h2, h3, h4⟩ := h
    refine ⟨fun _ => rfl, fun _ => ?_⟩
    rw [h1, h2, Int32.lt_iff_toInt_lt, i_nI (by omega), i_nI (by omega)]
    omega
/-- a sum has a step at least -/
theorem mulLp_k {tb : Nat → Nat} {n : Nat} {P : Cur → Res} : ∀ f c k r, mulLp tb n P f c k = .ok r → k.length ≤ r.2.length
  | 0, c, k, r, h => by cases h
  | f + 1, c, k, r, h => by
    rw [mulLp] at h
    split at h
    · obtain ⟨a, h1, h2⟩ := bindR_ok h
      have := mulLp_k f _ _ _ h2
      rw [List.length_append, List.length_append] at this
      omega
    · split at h
      · obtain ⟨a, h1, h2⟩ := bindR_ok h
        have := mulLp_k f _ _ _ h2
        rw [List.length_append, List.length_append] at this
        omega
      · cases h; exact Nat.le_refl _
theorem addLp_k {tb : Nat → Nat} {n : Nat} {P : Cur → Res} : ∀ f c k r, addLp tb n P f c k = .ok r → k.length ≤ r.2.length
  | 0, c, k, r, h => by cases h
  | f + 1, c, k, r, h => by
    rw [addLp] at h
    split at h
    · obtain ⟨a, h1, h2⟩ := bindR_ok h
      have := addLp_k f _ _ _ h2
      rw [List.length_append, List.length_append] at this
      omega
    · split at h
      · obtain ⟨a, h1, h2⟩ := bindR_ok h
        have := addLp_k f _ _ _ h2
        rw [List.length_append, List.length_append] at this
        omega
      · cases h; exact Nat.le_refl _
def oneP (P : Cur → Res) : Prop := ∀ c r, P c = .ok r → 1 ≤ r.2.length
theorem one_sum {tb : Nat → Nat} {n : Nat} {P : Cur → Res} (hP : oneP P) : oneP (sumOf tb n P) := fun c r h => by
  obtain ⟨a, h1, h2⟩ := bindR_ok h
  obtain ⟨b, h3, h4⟩ := bindR_ok h1
  have q1 := hP _ _ h3
  have q2 := mulLp_k _ _ _ _ h4
  have q3 := addLp_k _ _ _ _ h2
  omega
theorem one_partB {tb : Nat → Nat} {n kind : Nat} {Q : Option (Cur → Res)} (hQ : ∀ P, Q = some P → oneP P) : oneP (partB tb n kind Q) := fun c r h => by
  unfold partB at h
  split at h
  · cases Q with
    | none => cases h
    | some P =>
      obtain ⟨a, h1, h2⟩ := bindR_ok h
      obtain ⟨c1, h3, h4⟩ := bindR_ok h2
      cases h4
      exact (one_sum (hQ P rfl) _ _ h1 : 1 ≤ a.2.length)
  · split at h
    · split at h
      · cases Q with
        | none => cases h
        | some P =>
          obtain ⟨a, h1, h2⟩ := bindR_ok h
          obtain ⟨c2, h3, h4⟩ := bindR_ok h2
          obtain ⟨a2, h5, h6⟩ := bindR_ok h4
          obtain ⟨c3, h7, h8⟩ := bindR_ok h6
          cases h8
          show 1 ≤ (a.2 ++ a2.2 ++ [_]).length
          rw [List.length_append, List.length_singleton]; omega
      · cases h
    · split at h
      · cases Q with
        | none => cases h
        | some P =>
          obtain ⟨a, h1, h2⟩ := bindR_ok h
          cases h2
          show 1 ≤ (a.2 ++ [60]).length
          rw [List.length_append, List.length_singleton]; omega
      · cases hk : partIx tb n kind c with
        | some k => rw [hk] at h; cases h; exact Nat.le_refl 1
        | none =>
          rw [hk] at h
          obtain ⟨a, h1, h2⟩ := bindR_ok h
          cases h2
          exact Nat.le_refl 1
theorem one_part {tb : Nat → Nat} {n kind : Nat} : ∀ d, oneP (rdPart tb n kind d)
  | 0 => one_partB (Q := none) (fun P hp => by cases hp)
  | d + 1 => one_partB (Q := some (rdPart tb n kind d)) (fun P hp => by cases hp; exact one_part d)
theorem ll_sum {tb : Nat → Nat} {n kn w : Nat} {o : LkR} {xa : Nat} {xv xt : Int32} {xz : Nat} {xf xp : Int32} {ya : Nat} {yv yt : Int32} {yz : Nat} {yf yp : Int32} {jd jm : Nat} {ju jr : Int32} {jc jx : Nat} {j1 jf jt jb jw : Nat → Int32} {jc2 jx2 : Nat} {j12 jf2 jt2 : Nat → Int32} (htb : ∀ j, tb j ≤ 255) (hn : n ≤ 1600) (h : llO tb n o xa xv xt xz xf xp jd jm ju jr jc jx j1 jf jt jb jw) (hw : w < 3) (hk : (xt = 261 ∧ w = 0 ∧ kn = 0) ∨ (xt = 262 ∧ w = 1 ∧ kn = 1) ∨ (xt = 263 ∧ w = 2 ∧ kn = 0)) (h5 : len5 o) (hs : smO tb n kn w (lr o) ya yv yt yz yf yp jc jc2 jx2 j12 jf jf2 jt jt2) : llO tb n (bindR o (bodyR tb n)) ya yv yt yz yf yp jd jm ju jr jc2 jx2 j12 jf2 jt2 jb jw := by
  cases o with
  | error e =>
    refine ⟨?_, fun r hr => by cases hr⟩
    rcases hs with ⟨-, q, -⟩ | ⟨-, q, -⟩ <;> exact q.1
  | ok r =>
    obtain ⟨L, c⟩ := r
    have ht : xt = tokOf tb n c := (ll_t h rfl).2.2.2.2.1
    obtain ⟨k1, k2, k3, k4, k5, k6, k7, k8⟩ := h.2 _ rfl
    have hb : bindR (.ok (L, c)) (bodyR tb n) = sumL tb n L w kn c := by
      show bodyP tb n L c = _
      rw [body_tok htb ht]
      rcases hk with ⟨t, rfl, rfl⟩ | ⟨t, rfl, rfl⟩ | ⟨t, rfl, rfl⟩
      · rw [if_neg (by rw [t]; decide), if_neg (by rw [t]; decide), if_neg (by rw [t]; decide), if_pos t]
      · rw [if_neg (by rw [t]; decide), if_neg (by rw [t]; decide), if_neg (by rw [t]; decide), if_neg (by rw [t]; decide), if_pos t]
      · rw [if_neg (by rw [t]; decide), if_neg (by rw [t]; decide), if_neg (by rw [t]; decide), if_neg (by rw [t]; decide), if_neg (by rw [t]; decide), if_pos t]
    rw [hb]
    have hlt := sg_lt (k8 w hw)
    have h5' : (lK L).length + 5 ≤ c.1 := h5 _ rfl
    have hcn : c.1 ≤ n := (ll_t h rfl).2.2.2.1
    unfold sumL
    rcases hs with ⟨t, q, e1, e2⟩ | ⟨t, q, e1, e2⟩
    · rw [if_pos (hlt.mp t)]
      exact ⟨q.1, fun s hs => by cases hs⟩
    · rw [if_neg (fun z => t (hlt.mpr z))]
      have q1 : rsO tb n (bindR (sumD tb n kn 6 (nx tb n c.1)) (fun z => .ok (z.1, lK L ++ z.2))) ya yv yt yz yf yp jc2 jx2 j12 := q
      cases hx : sumD tb n kn 6 (nx tb n c.1) with
      | error e =>
        rw [hx] at q1
        exact ⟨q1.1, fun s hs => by cases hs⟩
      | ok x =>
        rw [hx] at q1
        refine ⟨q1.1, fun s hs => ?_⟩
        cases hs
        have q2 := q1.2 _ rfl
        have o1 := one_sum (tb := tb) (n := n) (one_part 6) _ _ hx
        have o2 := len_sum (tb := tb) (n := n) (len_part 6) _ _ hx
        have o3 := (show rdC tb n x.1 ya yv yt yz yf yp from q1.1).2.2.2.1
        have o4 := nx_ge tb n c.1
        refine ⟨k1, k2, k3, k4, k5, k6, q2, fun v hv => ?_⟩
        have hj : jc = (lK L).length := k7.1
        have hj2 : jc2 = (lK L).length + x.2.length := by have := q2.1; rw [List.length_append] at this; exact this
        rw [e1, e2]
        show sgO (updG (lG L) w (some ((lK L).length, (lK L).length + x.2.length)) v) _ _
        unfold updG upd
        by_cases e : v = w
        · rw [if_pos e, if_pos e, if_pos e, hj, hj2]
          exact ⟨rfl, rfl, by show (lK L).length < (lK L).length + x.2.length; omega, by show (lK L).length + x.2.length ≤ 1600; omega⟩
        · rw [if_neg e, if_neg e, if_neg e]; exact k8 v hv
/-- statements go forward, and have no more steps than bytes -/
theorem num_gt {tb : Nat → Nat} {n lo hi : Nat} {c : Cur} {r : Nat × Cur} (h : numP tb n lo hi c = .ok r) : c.1 < r.2.1 := by
  have := numP_ok h
  rw [this.2]; exact nx_gt this.1
theorem body_len {tb : Nat → Nat} {n : Nat} {L : LkS} {c : Cur} {r : LkS × Cur} (h : bodyP tb n L c = .ok r) (h5 : (lK L).length + 5 ≤ c.1) : (lK r.1).length + 5 ≤ r.2.1 := by
  have hx := nx_ge tb n c.1
  have am : ∀ x, amtP tb n (lD L) c = .ok x → c.1 ≤ x.2.1 := fun x hx2 => by
    obtain ⟨y, h1, h2⟩ := bindR_ok hx2
    obtain ⟨z, h3, h4⟩ := bindR_ok h2
    cases h4
    have a := num_gt h1
    have b := num_gt h3
    show c.1 ≤ z.2.1
    omega
  have sm : ∀ w kn, sumL tb n L w kn c = .ok r → (lK r.1).length + 5 ≤ r.2.1 := fun w kn hs => by
    unfold sumL at hs
    split at hs
    · cases hs
    · obtain ⟨y, h1, h2⟩ := bindR_ok hs
      cases h2
      have o2 := len_sum (tb := tb) (n := n) (len_part 6) _ _ h1
      show (lK L ++ y.2).length + 5 ≤ y.1.1
      rw [List.length_append]; omega
  unfold bodyP at h
  split at h
  · obtain ⟨x, h1, h2⟩ := bindR_ok h
    cases h2
    have := am x h1
    show (lK L).length + 5 ≤ x.2.1
    omega
  · split at h
    · obtain ⟨x, h1, h2⟩ := bindR_ok h
      cases h2
      have := am x h1
      show (lK L).length + 5 ≤ x.2.1
      omega
    · split at h
      · obtain ⟨x, h1, h2⟩ := bindR_ok h
        have := num_gt h1
        split at h2
        · cases h2
        · cases h2
          show (lK L).length + 5 ≤ x.2.1
          omega
      · split at h
        · exact sm _ _ h
        · split at h
          · exact sm _ _ h
          · split at h
            · exact sm _ _ h
            · split at h
              · obtain ⟨x, h1, h2⟩ := bindR_ok h
                cases h2
                have := num_gt h1
                show (lK L).length + 5 ≤ x.2.1
                omega
              · cases h
theorem len5_b {tb : Nat → Nat} {n : Nat} {o : LkR} (h : len5 o) : len5 (bindR o (bodyR tb n)) := fun q hq => by
  obtain ⟨r, h1, h2⟩ := bindR_ok hq
  exact body_len h2 (h r h1)
theorem len5_ld {o : LkR} {F : Cur → Except Err Cur} (hF : fwd F) (h : len5 o) : len5 (ld o F) := fun q hq => by
  obtain ⟨r, h3, h4⟩ := bindR_ok hq
  obtain ⟨c, h5, h6⟩ := bindR_ok h4
  cases h6
  have := h r h3
  have b := hF _ _ h5
  show (lK r.1).length + 5 ≤ c.1
  omega
theorem word_gt {tb : Nat → Nat} {n : Nat} {w : List Nat} {c c1 : Cur} (h : wordP tb n w c = .ok c1) : c.1 < c1.1 := by
  unfold wordP at h
  split at h
  · next hw => cases h; exact nx_gt (isW_lt hw)
  · cases h
theorem len5_open {tb : Nat → Nat} {n : Nat} {c : Cur} : len5 (openP tb n c) := fun q hq => by
  obtain ⟨c1, h1, h2⟩ := bindR_ok hq
  obtain ⟨d, h3, h4⟩ := bindR_ok h2
  obtain ⟨c2, h5, h6⟩ := bindR_ok h4
  obtain ⟨m, h7, h8⟩ := bindR_ok h6
  obtain ⟨c3, h9, h10⟩ := bindR_ok h8
  cases h10
  have a1 := word_gt h1
  have a2 := num_gt h3
  have a3 := word_gt h5
  have a4 := num_gt h7
  have a5 := (signP_ok h9).2.2
  show 0 + 5 ≤ c3.1
  omega
/-- the loop over statements -/
theorem lk_s {tb : Nat → Nat} {n y : Nat} {o wo : LkR} {xa : Nat} {xv xt : Int32} {xz : Nat} {xf xp : Int32} {jd jm : Nat} {ju jr : Int32} {jc jx : Nat} {j1 jf jt jb jw : Nat → Int32} (htb : ∀ j, tb j ≤ 255) (h : llO tb n o xa xv xt xz xf xp jd jm ju jr jc jx j1 jf jt jb jw) (ht : ¬ xt = -1) (hy : y < 60) (hw : wo = bindR o (bodyR tb n)) (hr : bindR o (stP tb n (60 - y)) = lockP tb n) : bindR (ld wo (tkF tb n 59)) (stP tb n (60 - (y + 1))) = lockP tb n := by
  rw [← hr, hw, tk59 htb]
  cases o with
  | error e => rfl
  | ok r =>
    have hx : ¬ n ≤ r.2.1 := fun q => ht ((ll_t h rfl).2.2.2.2.1.trans ((tok_E htb).mpr q))
    show _ = stP tb n (60 - y) r
    rw [show 60 - y = (60 - (y + 1)) + 1 by omega, stP, if_neg hx]
    rfl
def fnO (P : Except Err (LkS × Nat)) (xf xp : Int32) (jn jd jm : Nat) (ju jr : Int32) (jc jx : Nat) (j1 jf jt jb jw : Nat → Int32) : Prop := match P with
  | .ok r => xf = 0 ∧ xp = -1 ∧ jn = r.2 ∧ lkC r.1 jd jm ju jr jc jx j1 jf jt jb jw ∧ (lK r.1).length + 5 ≤ 1600
  | .error e => xf = nI e.1 ∧ xp = nI e.2 ∧ 1 ≤ e.1 ∧ e.1 ≤ 5 ∧ e.2 ≤ 1700
theorem fin_er {tb : Nat → Nat} {n y : Nat} {o : LkR} {xa : Nat} {xv xt : Int32} {xz : Nat} {xf xp : Int32} {jd jm : Nat} {ju jr : Int32} {jc jx : Nat} {j1 jf jt jb jw : Nat → Int32} (h : llO tb n o xa xv xt xz xf xp jd jm ju jr jc jx j1 jf jt jb jw) (hf : ¬ xf = 0) (hr : bindR o (stP tb n (60 - y)) = lockP tb n) : fnO (lockP tb n) xf xp y jd jm ju jr jc jx j1 jf jt jb jw := by
  obtain ⟨e, he, hx⟩ := rdO_er h.1 hf
  cases o with
  | ok r => cases he
  | error e2 =>
    cases he
    rw [← hr]
    exact ⟨hx.1, hx.2.1, hx.2.2.1, hx.2.2.2.1, hx.2.2.2.2.1⟩
theorem fin_end {tb : Nat → Nat} {n y : Nat} {o : LkR} {xa : Nat} {xv xt : Int32} {xz : Nat} {xf xp : Int32} {jd jm : Nat} {ju jr : Int32} {jc jx : Nat} {j1 jf jt jb jw : Nat → Int32} (htb : ∀ j, tb j ≤ 255) (hn : n ≤ 1600) (h : llO tb n o xa xv xt xz xf xp jd jm ju jr jc jx j1 jf jt jb jw) (hf : xf = 0) (ht : xt = -1) (hy : y ≤ 60) (h5 : len5 o) (hr : bindR o (stP tb n (60 - y)) = lockP tb n) : fnO (lockP tb n) xf xp y jd jm ju jr jc jx j1 jf jt jb jw := by
  cases o with
  | error e => exact absurd hf (er_ne h.1)
  | ok r =>
    have hc := ll_t h rfl
    have hx : n ≤ r.2.1 := (tok_E htb).mp (hc.2.2.2.2.1.symm.trans ht)
    have e : stP tb n (60 - y) r = .ok (r.1, y) := by
      cases hk : 60 - y with
      | zero => rw [stP, if_pos hx, show y = 60 by omega]
      | succ f => rw [stP, if_pos hx, ← hk, show 60 - (60 - y) = y by omega]
    have hr2 : stP tb n (60 - y) r = lockP tb n := hr
    rw [← hr2, e]
    have := h5 r rfl
    exact ⟨hf, hc.2.1, rfl, h.2 r rfl, by show (lK r.1).length + 5 ≤ 1600; have := hc.2.2.2.1; omega⟩
theorem fin_many {tb : Nat → Nat} {n y : Nat} {o : LkR} {xa : Nat} {xv xt : Int32} {xz : Nat} {xf xp : Int32} {ya : Nat} {yv yt : Int32} {yz : Nat} {yf yp : Int32} {jd jm : Nat} {ju jr : Int32} {jc jx : Nat} {j1 jf jt jb jw : Nat → Int32} (htb : ∀ j, tb j ≤ 255) (h : llO tb n o xa xv xt xz xf xp jd jm ju jr jc jx j1 jf jt jb jw) (hf : xf = 0) (ht : ¬ xt = -1) (hy : 60 ≤ y) (h2 : rdO tb n (bindR (lc o) (fun _ => .error (5, xz))) ya yv yt yz yf yp) (hr : bindR o (stP tb n (60 - y)) = lockP tb n) : fnO (lockP tb n) yf yp y jd jm ju jr jc jx j1 jf jt jb jw := by
  cases o with
  | error e => exact absurd hf (er_ne h.1)
  | ok r =>
    have hc := ll_t h rfl
    have hx : ¬ n ≤ r.2.1 := fun q => ht (hc.2.2.2.2.1.trans ((tok_E htb).mpr q))
    have hr2 : stP tb n (60 - y) r = lockP tb n := hr
    rw [← hr2, show 60 - y = 0 by omega, stP, if_neg hx, ← hc.2.2.1]
    exact ⟨h2.1, h2.2.1, h2.2.2.1, h2.2.2.2.1, h2.2.2.2.2.1⟩
/-! sums that were not told -/
def untS (L : LkS) (w : Nat) : LkS := if (lG L w).isSome = true then L else stS L w [if w = 1 then 45 else 40]
def untN (L : LkS) : Nat → LkS
  | 0 => L
  | i + 1 => untS (untN L i) i
def lkF (L : LkS) : LkS := untN L 3
def unR (P : Except Err (LkS × Nat)) (i : Nat) : Res := bindR P (fun r => .ok ((0, false), lK (untN r.1 i)))
def unO (P : Except Err (LkS × Nat)) (i jd jm : Nat) (ju jr : Int32) (jc jx : Nat) (j1 jf jt jb jw : Nat → Int32) : Prop := ∀ r, P = .ok r → lkC (untN r.1 i) jd jm ju jr jc jx j1 jf jt jb jw ∧ (lK (untN r.1 i)).length + 5 ≤ 1600 + i
theorem un_co {P : Except Err (LkS × Nat)} {i : Nat} {jd jm : Nat} {ju jr : Int32} {jc jx : Nat} {j1 jf jt jb jw : Nat → Int32} (h : unO P i jd jm ju jr jc jx j1 jf jt jb jw) : coO (unR P i) jc jx j1 := fun q hq => by
  obtain ⟨r, h1, h2⟩ := bindR_ok hq
  cases h2
  exact (h r h1).1.2.2.2.2.2.2.1
theorem un_rm {P : Except Err (LkS × Nat)} {i : Nat} {jd jm : Nat} {ju jr : Int32} {jc jx : Nat} {j1 jf jt jb jw : Nat → Int32} (h : unO P i jd jm ju jr jc jx j1 jf jt jb jw) (hi : i < 3) : ∀ q, unR P i = .ok q → q.2.length < 1600 := fun q hq => by
  obtain ⟨r, h1, h2⟩ := bindR_ok hq
  cases h2
  have := (h r h1).2
  show (lK (untN r.1 i)).length < 1600
  omega
theorem un_has {P : Except Err (LkS × Nat)} {i : Nat} {jd jm : Nat} {ju jr : Int32} {jc jx : Nat} {j1 jf jt jb jw : Nat → Int32} (h : unO P i jd jm ju jr jc jx j1 jf jt jb jw) (hi : i < 3) (hs : jf i < jt i) : unO P (i + 1) jd jm ju jr jc jx j1 jf jt jb jw := fun r hr => by
  obtain ⟨h1, h2⟩ := h r hr
  have e : untN r.1 (i + 1) = untN r.1 i := by
    show untS (untN r.1 i) i = _
    unfold untS
    rw [if_pos ((sg_lt (h1.2.2.2.2.2.2.2 i hi)).mp hs)]
  rw [e]; exact ⟨h1, by omega⟩
theorem un_add {P : Except Err (LkS × Nat)} {i : Nat} {jd jm : Nat} {ju jr : Int32} {jc jx : Nat} {j1 jf jt jb jw : Nat → Int32} {jc2 jx2 : Nat} {k1 : Nat → Int32} (h : unO P i jd jm ju jr jc jx j1 jf jt jb jw) (hi : i < 3) (hs : ¬ jf i < jt i) (hc : coO (ad (unR P i) (if i = 1 then 45 else 40)) jc2 jx2 k1) : unO P (i + 1) jd jm ju jr jc2 jx2 k1 (upd jf i (nI jc)) (upd jt i (nI jc2)) jb jw := fun r hr => by
  obtain ⟨h1, h2⟩ := h r hr
  have e : untN r.1 (i + 1) = stS (untN r.1 i) i [if i = 1 then 45 else 40] := by
    show untS (untN r.1 i) i = _
    unfold untS
    rw [if_neg (fun q => hs ((sg_lt (h1.2.2.2.2.2.2.2 i hi)).mpr q))]
  have q := hc ((0, false), lK (untN r.1 i) ++ [if i = 1 then 45 else 40]) (by rw [hr]; rfl)
  rw [e]
  generalize untN r.1 i = L at *
  obtain ⟨k1', k2, k3, k4, k5, k6, k7, k8⟩ := h1
  have hj : jc = (lK L).length := k7.1
  have hj2 : jc2 = (lK L).length + 1 := by have := q.1; rw [List.length_append, List.length_singleton] at this; exact this
  refine ⟨⟨k1', k2, k3, k4, k5, k6, q, fun v hv => ?_⟩, ?_⟩
  · show sgO (updG (lG L) i (some ((lK L).length, (lK L).length + 1)) v) _ _
    unfold updG upd
    by_cases e : v = i
    · rw [if_pos e, if_pos e, if_pos e, hj, hj2]
      exact ⟨rfl, rfl, by show (lK L).length < (lK L).length + 1; omega, by show (lK L).length + 1 ≤ 1600; omega⟩
    · rw [if_neg e, if_neg e, if_neg e]; exact k8 v hv
  · show (lK L ++ [_]).length + 5 ≤ _
    rw [List.length_append, List.length_singleton]; omega
def finO (tb : Nat → Nat) (n : Nat) (xf xp : Int32) (jn jd jm : Nat) (ju jr : Int32) (jc jx : Nat) (j1 jf jt jb jw : Nat → Int32) : Prop := match lockP tb n with
  | .ok r => xf = 0 ∧ xp = -1 ∧ jn = r.2 ∧ lkC (lkF r.1) jd jm ju jr jc jx j1 jf jt jb jw
  | .error e => xf = nI e.1 ∧ xp = nI e.2 ∧ 1 ≤ e.1 ∧ e.1 ≤ 5 ∧ e.2 ≤ 1700
theorem un_0 {P : Except Err (LkS × Nat)} {xf xp : Int32} {jn : Nat} {jd jm : Nat} {ju jr : Int32} {jc jx : Nat} {j1 jf jt jb jw : Nat → Int32} (h : fnO P xf xp jn jd jm ju jr jc jx j1 jf jt jb jw) : unO P 0 jd jm ju jr jc jx j1 jf jt jb jw := fun r hr => by
  subst hr
  exact ⟨h.2.2.2.1, h.2.2.2.2⟩
theorem fin_un {tb : Nat → Nat} {n : Nat} {xf xp : Int32} {jn : Nat} {jd jm : Nat} {ju jr : Int32} {jc jx : Nat} {j1 jf jt jb jw : Nat → Int32} {jc2 jx2 : Nat} {k1 kf kt : Nat → Int32} (h : fnO (lockP tb n) xf xp jn jd jm ju jr jc jx j1 jf jt jb jw) (h2 : unO (lockP tb n) 3 jd jm ju jr jc2 jx2 k1 kf kt jb jw) : finO tb n xf xp jn jd jm ju jr jc2 jx2 k1 kf kt jb jw := by
  unfold finO
  cases hP : lockP tb n with
  | error e => rw [hP] at h; exact h
  | ok r =>
    rw [hP] at h
    exact ⟨h.1, h.2.1, h.2.2.1, (h2 r hP).1⟩
