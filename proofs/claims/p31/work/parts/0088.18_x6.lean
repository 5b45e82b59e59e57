theorem one_part {tb : Nat → Nat} {n kind : Nat} : ∀ d, oneP (rdPart tb n kind d)
  | 0 => one_partB (Q := none) (fun P hp => by cases hp)
  | d + 1 => one_partB (Q := some (rdPart tb n kind d)) (fun P hp => by cases hp; exact one_part d)
theorem ll_sum {tb : Nat → Nat} {n kn w : Nat} {o : LkR} {xa : Nat} {xv xt : Int32} {xz : Nat} {xf xp : Int32} {ya : Nat} {yv yt : Int32} {yz : Nat} {yf yp : Int32} {jd jm : Nat} {ju jr : Int32} {jc jx : Nat} {j1 jf jt jb jw : Nat → Int32} {jc2 jx2 : Nat} {j12 jf2 jt2 : Nat → Int32} (htb : ∀ j, tb j ≤ 255) (hn : n ≤ 1600) (h : llO tb n o xa xv xt xz xf xp jd jm ju jr jc jx j1 jf jt jb jw) (hw : w < 3) (hk : (xt = 261 ∧ w = 0 ∧ kn = 0) ∨ (xt = 262 ∧ w = 1 ∧ kn = 1) ∨ (xt = 263 ∧ w = 2 ∧ kn = 0)) (h5 : len5 o) (hs : smO tb n kn w (lr o) ya yv yt yz yf yp jc jc2 jx2 j12 jf jf2 jt jt2) : llO tb n (bindR o (bodyR tb n)) ya yv yt yz yf yp jd jm ju jr jc2 jx2 j12 jf2 jt2 jb jw := by
  cases o with
  | error e =>
    refine ⟨?_, fun r hr => by cases hr⟩
    rcases hs with ⟨-, q, -⟩ | ⟨-, q, -⟩ <;> exact q.1
  | ok r =>
    obtain ⟨L, c⟩ := r
    have ht : xt = tokOf tb n c := (ll_t h rfl).2.2.2.2.1
    obtain ⟨k1, k2, k3, k4, k5, k6, k7, k8⟩ := h.2 _ rfl
    have hb : bindR (.ok (L, c)) (bodyR tb n) = sumL tb n L w kn c := by
      show bodyP tb n L c = _
      rw [body_tok htb ht]
      rcases hk with ⟨t, rfl, rfl⟩ | ⟨t, rfl, rfl⟩ | ⟨t, rfl, rfl⟩
      · rw [if_neg (by rw [t]; decide), if_neg (by rw [t]; decide), if_neg (by rw [t]; decide), if_pos t]
      · rw [if_neg (by rw [t]; decide), if_neg (by rw [t]; decide), if_neg (by rw [t]; decide), if_neg (by rw [t]; decide), if_pos t]
      · rw [if_neg (by rw [t]; decide), if_neg (by rw [t]; decide), if_neg (by rw [t]; decide), if_neg (by rw [t]; decide), if_neg (by rw [t]; decide), if_pos t]
    rw [hb]
    have hlt := sg_lt (k8 w hw)
    have h5' : (lK L).length + 5 ≤ c.1 := h5 _ rfl
    have hcn : c.1 ≤ n := (ll_t h rfl).2.2.2.1
    unfold sumL
    rcases hs with ⟨t, q, e1, e2⟩ | ⟨t, q, e1, e2⟩
    · rw [if_pos (hlt.mp t)]
      exact ⟨q.1, fun s hs => by cases hs⟩
    · rw [if_neg (fun z => t (hlt.mpr z))]
      have q1 : rsO tb n (bindR (sumD tb n kn 6 (nx tb n c.1)) (fun z => .ok (z.1, lK L ++ z.2))) ya yv yt yz yf yp jc2 jx2 j12 := q
      cases hx : sumD tb n kn 6 (nx tb n c.1) with
      | error e =>
        rw [hx] at q1
        exact ⟨q1.1, fun s hs => by cases hs⟩
      | ok x =>
        rw [hx] at q1
        refine ⟨q1.1, fun s hs => ?_⟩
        cases hs
        have q2 := q1.2 _ rfl
        have o1 := one_sum (tb := tb) (n := n) (one_part 6) _ _ hx
        have o2 := len_sum (tb := tb) (n := n) (len_part 6) _ _ hx
        have o3 := (show rdC tb n x.1 ya yv yt yz yf yp from q1.1).2.2.2.1
        have o4 := nx_ge tb n c.1
        refine ⟨k1, k2, k3, k4, k5, k6, q2, fun v hv => ?_⟩
        have hj : jc = (lK L).length := k7.1
        have hj2 : jc2 = (lK L).length + x.2.length := by have := q2.1; rw [List.length_append] at this; exact this
        rw [e1, e2]
        show sgO (updG (lG L) w (some ((lK L).length, (lK L).length + x.2.length)) v) _ _
        unfold updG upd
        by_cases e : v = w
        · rw [if_pos e, if_pos e, if_pos e, hj, hj2]
          exact ⟨rfl, rfl, by show (lK L).length < (lK L).length + x.2.length; omega, by show (lK L).length + x.2.length ≤ 1600; omega⟩
        · rw [if_neg e, if_neg e, if_neg e]; exact k8 v hv
/-- statements go forward, and have no more steps than bytes -/
theorem num_gt {tb : Nat → Nat} {n lo hi : Nat} {c : Cur} {r : Nat × Cur} (h : numP tb n lo hi c = .ok r) : c.1 < r.2.1 := by
  have := numP_ok h
  rw [this.2]; exact nx_gt this.1
theorem body_len {tb : Nat → Nat} {n : Nat} {L : LkS} {c : Cur} {r : LkS × Cur} (h : bodyP tb n L c = .ok r) (h5 : (lK L).length + 5 ≤ c.1) : (lK r.1).length + 5 ≤ r.2.1 := by
  have hx := nx_ge tb n c.1
  have am : ∀ x, amtP tb n (lD L) c = .ok x → c.1 ≤ x.2.1 := fun x hx2 => by
    obtain ⟨y, h1, h2⟩ := bindR_ok hx2
    obtain ⟨z, h3, h4⟩ := bindR_ok h2
    cases h4
    have a := num_gt h1
    have b := num_gt h3
    show c.1 ≤ z.2.1
    omega
  have sm : ∀ w kn, sumL tb n L w kn c = .ok r → (lK r.1).length + 5 ≤ r.2.1 := fun w kn hs => by
    unfold sumL at hs
    split at hs
    · cases hs
    · obtain ⟨y, h1, h2⟩ := bindR_ok hs
      cases h2
      have o2 := len_sum (tb := tb) (n := n) (len_part 6) _ _ h1
      show (lK L ++ y.2).length + 5 ≤ y.1.1
      rw [List.length_append]; omega
  unfold bodyP at h
  split at h
  · obtain ⟨x, h1, h2⟩ := bindR_ok h
    cases h2
    have := am x h1
    show (lK L).length + 5 ≤ x.2.1
    omega
  · split at h
    · obtain ⟨x, h1, h2⟩ := bindR_ok h
      cases h2
      have := am x h1
      show (lK L).length + 5 ≤ x.2.1
      omega
    · split at h
      · obtain ⟨x, h1, h2⟩ := bindR_ok h
        have := num_gt h1
        split at h2
        · cases h2
        · cases h2
          show (lK L).length + 5 ≤ x.2.1
          omega
      · split at h
        · exact sm _ _ h
        · split at h
          · exact sm _ _ h
          · split at h
            · exact sm _ _ h
            · split at h
              · obtain ⟨x, h1, h2⟩ := bindR_ok h
                cases h2
                have := num_gt h1
                show (lK L).length + 5 ≤ x.2.1
                omega
              · cases h
theorem len5_b {tb : Nat → Nat} {n : Nat} {o : LkR} (h : len5 o) : len5 (bindR o (bodyR tb n)) := fun q hq => by
  obtain ⟨r, h1, h2⟩ := bindR_ok hq
  exact body_len h2 (h r h1)
theorem len5_ld {o : LkR} {F : Cur → Except Err Cur} (hF : fwd F) (h : len5 o) : len5 (ld o F) := fun q hq => by
  obtain ⟨r, h3, h4⟩ := bindR_ok hq
  obtain ⟨c, h5, h6⟩ := bindR_ok h4
  cases h6
  have := h r h3
  have b := hF _ _ h5
  show (lK r.1).length + 5 ≤ c.1
  omega
theorem word_gt {tb : Nat → Nat} {n : Nat} {w : List Nat} {c c1 : Cur} (h : wordP tb n w c = .ok c1) : c.1 < c1.1 := by
  unfold wordP at h
  split at h
  · next hw => cases h; exact nx_gt (isW_lt hw)
  · cases h
theorem len5_open {tb : Nat → Nat} {n : Nat} {c : Cur} : len5 (openP tb n c) := fun q hq => by
  obtain ⟨c1, h1, h2⟩ := bindR_ok hq
  obtain ⟨d, h3, h4⟩ := bindR_ok h2
  obtain ⟨c2, h5, h6⟩ := bindR_ok h4
  obtain ⟨m, h7, h8⟩ := bindR_ok h6
  obtain ⟨c3, h9, h10⟩ := bindR_ok h8
  cases h10
  have a1 := word_gt h1
  have a2 := num_gt h3
  have a3 := word_gt h5
  have a4 := num_gt h7
  have a5 := (signP_ok h9).2.2
  show 0 + 5 ≤ c3.1
  omega
/-- the loop over statements -/
theorem lk_s {tb : Nat → Nat} {n y : Nat} {o wo : LkR} {xa : Nat} {xv xt : Int32} {xz : Nat} {xf xp : Int32} {jd jm : Nat} {ju jr : Int32} {jc jx : Nat} {j1 jf jt jb jw : Nat → Int32} (htb : ∀ j, tb j ≤ 255) (h : llO tb n o xa xv xt xz xf xp jd jm ju jr jc jx j1 jf jt jb jw) (ht : ¬ xt = -1) (hy : y < 60) (hw : wo = bindR o (bodyR tb n)) (hr : bindR o (stP tb n (60 - y)) = lockP tb n) : bindR (ld wo (tkF tb n 59)) (stP tb n (60 - (y + 1))) = lockP tb n := by
  rw [← hr, hw, tk59 htb]
  cases o with
  | error e => rfl
  | ok r =>
    have hx : ¬ n ≤ r.2.1 := fun q => ht ((ll_t h rfl).2.2.2.2.1.trans ((tok_E htb).mpr q))
    show _ = stP tb n (60 - y) r
    rw [show 60 - y = (60 - (y + 1)) + 1 by omega, stP, if_neg hx]
    rfl
def fnO (P : Except Err (LkS × Nat)) (xf xp : Int32) (jn jd jm : Nat) (ju jr : Int32) (jc jx : Nat) (j1 jf jt jb jw : Nat → Int32) : Prop := match P with
  | .ok r => xf = 0 ∧ xp = -1 ∧ jn = r.2 ∧ lkC r.1 jd jm ju jr jc jx j1 jf jt jb jw ∧ (lK r.1).length + 5 ≤ 1600
  | .error e => xf = nI e.1 ∧ xp = nI e.2 ∧ 1 ≤ e.1 ∧ e.1 ≤ 5 ∧ e.2 ≤ 1700
theorem fin_er {tb : Nat → Nat} {n y : Nat} {o : LkR} {xa : Nat} {xv xt : Int32} {xz : Nat} {xf xp : Int32} {jd jm : Nat} {ju jr : Int32} {jc jx : Nat} {j1 jf jt jb jw : Nat → Int32} (h : llO tb n o xa xv xt xz xf xp jd jm ju jr jc jx j1 jf jt jb jw) (hf : ¬ xf = 0) (hr : bindR o (stP tb n (60 - y)) = lockP tb n) : fnO (lockP tb n) xf xp y jd jm ju jr jc jx j1 jf jt jb jw := by
  obtain ⟨e, he, hx⟩ := rdO_er h.1 hf
  cases o with
  | ok r => cases he
  | error e2 =>
    cases he
    rw [← hr]
    exact ⟨hx.1, hx.2.1, hx.2.2.1, hx.2.2.2.1, hx.2.2.2.2.1⟩
theorem fin_end {tb : Nat → Nat} {n y : Nat} {o : LkR} {xa : Nat} {xv xt : Int32} {xz : Nat} {xf xp : Int32} {jd jm : Nat} {ju jr : Int32} {jc jx : Nat} {j1 jf jt jb jw : Nat → Int32} (htb : ∀ j, tb j ≤ 255) (hn : n ≤ 1600) (h : llO tb n o xa xv xt xz xf xp jd jm ju jr jc jx j1 jf jt jb jw) (hf : xf = 0) (ht : xt = -1) (hy : y ≤ 60) (h5 : len5 o) (hr : bindR o (stP tb n (60 - y)) = lockP tb n) : fnO (lockP tb n) xf xp y jd jm ju jr jc jx j1 jf jt jb jw := by
  cases o with
  | error e => exact absurd hf (er_ne h.1)
  | ok r =>
    have hc := ll_t h rfl
    have hx : n ≤ r.2.1 := (tok_E htb).mp (hc.2.2.2.2.1.symm.trans ht)
    have e : stP tb n (60 - y) r = .ok (r.1, y) := by
      cases hk : 60 - y with
      | zero => rw [stP, if_pos hx, show y = 60 by omega]
      | succ f => rw [stP, if_pos hx, ← hk, show 60 - (60 - y) = y by omega]
    have hr2 : stP tb n (60 - y) r = lockP tb n := hr
    rw [← hr2, e]
    have := h5 r rfl
    exact ⟨hf, hc.2.1, rfl, h.2 r rfl, by show (lK r.1).length + 5 ≤ 1600; have := hc.2.2.2.1; omega⟩
theorem fin_many {tb : Nat → Nat} {n y : Nat} {o : LkR} {xa : Nat} {xv xt : Int32} {xz : Nat} {xf xp : Int32} {ya : Nat} {yv yt : Int32} {yz : Nat} {yf yp : Int32} {jd jm : Nat} {ju jr : Int32} {jc jx : Nat} {j1 jf jt jb jw : Nat → Int32} (htb : ∀ j, tb j ≤ 255) (h : llO tb n o xa xv xt xz xf xp jd jm ju jr jc jx j1 jf jt jb jw) (hf : xf = 0) (ht : ¬ xt = -1) (hy : 60 ≤ y) (h2 : rdO tb n (bindR (lc o) (fun _ => .error (5, xz))) ya yv yt yz yf yp) (hr : bindR o (stP tb n (60 - y)) = lockP tb n) : fnO (lockP tb n) yf yp y jd jm ju jr jc jx j1 jf jt jb jw := by
  cases o with
  | error e => exact absurd hf (er_ne h.1)
  | ok r =>
    have hc := ll_t h rfl
    have hx : ¬ n ≤ r.2.1 := fun q => ht (hc.2.2.2.2.1.trans ((tok_E htb).mpr q))
    have hr2 : stP tb n (60 - y) r = lockP tb n := hr
    rw [← hr2, show 60 - y = 0 by omega, stP, if_neg hx, ← hc.2.2.1]
    exact ⟨h2.1, h2.2.1, h2.2.2.1, h2.2.2.2.1, h2.2.2.2.2.1⟩
/-! sums that were not told -/
def untS (L : LkS) (w : Nat) : LkS := if (lG L w).isSome = true then L else stS L w [if w = 1 then 45 else 40]
def untN (L : LkS) : Nat → LkS
  | 0 => L
  | i + 1 => untS (untN L i) i
def lkF (L : LkS) : LkS := untN L 3
def unR (P : Except Err (LkS × Nat)) (i : Nat) : Res := bindR P (fun r => .ok ((0, false), lK (untN r.1 i)))
def unO (P : Except Err (LkS × Nat)) (i jd jm : Nat) (ju jr : Int32) (jc jx : Nat) (j1 jf jt jb jw : Nat → Int32) : Prop := ∀ r, P = .ok r → lkC (untN r.1 i) jd jm ju jr jc jx j1 jf jt jb jw ∧ (lK (untN r.1 i)).length + 5 ≤ 1600 + i
theorem un_co {P : Except Err (LkS × Nat)} {i : Nat} {jd jm : Nat} {ju jr : Int32} {jc jx : Nat} {j1 jf jt jb jw : Nat → Int32} (h : unO P i jd jm ju jr jc jx j1 jf jt jb jw) : coO (unR P i) jc jx j1 := fun q hq => by
  obtain ⟨r, h1, h2⟩ := bindR_ok hq
  cases h2
  exact (h r h1).1.2.2.2.2.2.2.1
theorem un_rm {P : Except Err (LkS × Nat)} {i : Nat} {jd jm : Nat} {ju jr : Int32} {jc jx : Nat} {j1 jf jt jb jw : Nat → Int32} (h : unO P i jd jm ju jr jc jx j1 jf jt jb jw) (hi : i < 3) : ∀ q, unR P i = .ok q → q.2.length < 1600 := fun q hq => by
  obtain ⟨r, h1, h2⟩ := bindR_ok hq
  cases h2
  have := (h r h1).2
  show (lK (untN r.1 i)).length < 1600
  omega
theorem un_has {P : Except Err (LkS × Nat)} {i : Nat} {jd jm : Nat} {ju jr : Int32} {jc jx : Nat} {j1 jf jt jb jw : Nat → Int32} (h : unO P i jd jm ju jr jc jx j1 jf jt jb jw) (hi : i < 3) (hs : jf i < jt i) : unO P (i + 1) jd jm ju jr jc jx j1 jf jt jb jw := fun r hr => by
  obtain ⟨h1, h2⟩ := h r hr
  have e : untN r.1 (i + 1) = untN r.1 i := by
    show untS (untN r.1 i) i = _
    unfold untS
    rw [if_pos ((sg_lt (h1.2.2.2.2.2.2.2 i hi)).mp hs)]
  rw [e]; exact ⟨h1, by omega⟩
theorem un_add {P : Except Err (LkS × Nat)} {i : Nat} {jd jm : Nat} {ju jr : Int32} {jc jx : Nat} {j1 jf jt jb jw : Nat → Int32} {jc2 jx2 : Nat} {k1 : Nat → Int32} (h : unO P i jd jm ju jr jc jx j1 jf jt jb jw) (hi : i < 3) (hs : ¬ jf i < jt i) (hc : coO (ad (unR P i) (if i = 1 then 45 else 40)) jc2 jx2 k1) : unO P (i + 1) jd jm ju jr jc2 jx2 k1 (upd jf i (nI jc)) (upd jt i (nI jc2)) jb jw := fun r hr => by
  obtain ⟨h1, h2⟩ := h r hr
  have e : untN r.1 (i + 1) = stS (untN r.1 i) i [if i = 1 then 45 else 40] := by
    show untS (untN r.1 i) i = _
    unfold untS
    rw [if_neg (fun q => hs ((sg_lt (h1.2.2.2.2.2.2.2 i hi)).mpr q))]
  have q := hc ((0, false), lK (untN r.1 i) ++ [if i = 1 then 45 else 40]) (by rw [hr]; rfl)
  rw [e]
  generalize untN r.1 i = L at *
  obtain ⟨k1', k2, k3, k4, k5, k6, k7, k8⟩ := h1
  have hj : jc = (lK L).length := k7.1
  have hj2 : jc2 = (lK L).length + 1 := by have := q.1; rw [List.length_append, List.length_singleton] at this; exact this
  refine ⟨⟨k1', k2, k3, k4, k5, k6, q, fun v hv => ?_⟩, ?_⟩
  · show sgO (updG (lG L) i (some ((lK L).length, (lK L).length + 1)) v) _ _
    unfold updG upd
    by_cases e : v = i
    · rw [if_pos e, if_pos e, if_pos e, hj, hj2]
      exact ⟨rfl, rfl, by show (lK L).length < (lK L).length + 1; omega, by show (lK L).length + 1 ≤ 1600; omega⟩
    · rw [if_neg e, if_neg e, if_neg e]; exact k8 v hv
  · show (lK L ++ [_]).length + 5 ≤ _
    rw [List.length_append, List.length_singleton]; omega
def finO (tb : Nat → Nat) (n : Nat) (xf xp : Int32) (jn jd jm : Nat) (ju jr : Int32) (jc jx : Nat) (j1 jf jt jb jw : Nat → Int32) : Prop := match lockP tb n with
  | .ok r => xf = 0 ∧ xp = -1 ∧ jn = r.2 ∧ lkC (lkF r.1) jd jm ju jr jc jx j1 jf jt jb jw
  | .error e => xf = nI e.1 ∧ xp = nI e.2 ∧ 1 ≤ e.1 ∧ e.1 ≤ 5 ∧ e.2 ≤ 1700
theorem un_0 {P : Except Err (LkS × Nat)} {xf xp : Int32} {jn : Nat} {jd jm : Nat} {ju jr : Int32} {jc jx : Nat} {j1 jf jt jb jw : Nat → Int32} (h : fnO P xf xp jn jd jm ju jr jc jx j1 jf jt jb jw) : unO P 0 jd jm ju jr jc jx j1 jf jt jb jw := fun r hr => by
  subst hr
  exact ⟨h.2.2.2.1, h.2.2.2.2⟩
theorem fin_un {tb : Nat → Nat} {n : Nat} {xf xp : Int32} {jn : Nat} {jd jm : Nat} {ju jr : Int32} {jc jx : Nat} {j1 jf jt jb jw : Nat → Int32} {jc2 jx2 : Nat} {k1 kf kt : Nat → Int32} (h : fnO (lockP tb n) xf xp jn jd jm ju jr jc jx j1 jf jt jb jw) (h2 : unO (lockP tb n) 3 jd jm ju jr jc2 jx2 k1 kf kt jb jw) : finO tb n xf xp jn jd jm ju jr jc2 jx2 k1 kf kt jb jw := by
  unfold finO
  cases hP : lockP tb n with
  | error e => rw [hP] at h; exact h
  | ok r =>
    rw [hP] at h
    exact ⟨h.1, h.2.1, h.2.2.1, (h2 r hP).1⟩

