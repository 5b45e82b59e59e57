def csO (tb : Nat → Nat) (n kn : Nat) (c0 : Cur) (fr : Nat) (uw : Int32) (cd : Nat) (cs : Nat → Nat) (o2 : Except Err Cur) (cd2 : Nat) (cs2 : Nat → Nat) (x2 y2 : Int32) : Prop := match o2 with
  | .error e => (uw = -1 ∧ sumD tb n kn 6 c0 = .error e) ∨ (¬ uw = -1 ∧ e = (5, fr))
  | .ok c => uw = -1 ∧ ∃ k, sumD tb n kn 6 c0 = .ok (c, k) ∧ cd2 = cd + k.length ∧ (∀ j, j < cd → cs2 j = cs j) ∧ (∀ j, j < k.length → cs2 (cd + j) = k.getD j 0) ∧ x2 = nI cd ∧ y2 = nI cd2
theorem cs_er {tb : Nat → Nat} {n kn : Nat} {c0 : Cur} {fr : Nat} {uw : Int32} {cd : Nat} {cs : Nat → Nat} {o2 : Except Err Cur} {cd2 : Nat} {cs2 : Nat → Nat} {x2 y2 : Int32} {qs : Nat → Nat} {qn : Nat} {qo : Int32} {pa2 : Nat} {pd2 : Int32} {pb2 : Nat} {pp2 : Int32} (hO : moO tb n o2 pa2 pd2 pb2 pp2) (hb : ¬ pb2 = 0) (hu : uw = -1) (h : sE 6 0 (sumD tb n kn 6 c0) o2 qs qn qo) : csO tb n kn c0 fr uw cd cs o2 cd2 cs2 x2 y2 := by
  obtain ⟨e, rfl⟩ := mo_nz hO hb
  exact Or.inl ⟨hu, h⟩
theorem cs_ok {tb : Nat → Nat} {n kn : Nat} {c0 : Cur} {fr : Nat} {uw : Int32} {cd i : Nat} {cs : Nat → Nat} {o2 : Except Err Cur} {cd2 : Nat} {cs2 : Nat → Nat} {qs : Nat → Nat} {qn : Nat} {qo : Int32} {pa2 : Nat} {pd2 : Int32} {pb2 : Nat} {pp2 : Int32} (hO : moO tb n o2 pa2 pd2 pb2 pp2) (hb : pb2 = 0) (hu : uw = -1) (h : sE 6 0 (sumD tb n kn 6 c0) o2 qs qn qo) (hi : i = qn) (hc2 : cd2 = cd + i) (hc : cpy cs qs cd i cs2) : csO tb n kn c0 fr uw cd cs o2 cd2 cs2 (nI cd) (nI cd2) := by
  have h0 := (mo_ok hO hb).1
  subst h0
  obtain ⟨k, h1, h2, -⟩ := h
  have h3 : qn = 0 + k.length := h2.1
  refine ⟨hu, k, h1, by omega, fun j hj => cpy_out hc (by omega), fun j hj => ?_, rfl, rfl⟩
  have h4 := h2.2 j hj
  rw [Nat.zero_add] at h4
  rw [cpy_in hc (by omega), h4]
theorem lm_sc {tb : Nat → Nat} {n kn w : Nat} {L : LkS} {C : Cur} {u v : Int32} {cd : Nat} {cs : Nat → Nat} {o2 : Except Err Cur} {cd2 : Nat} {cs2 : Nat → Nat} {x2 y2 : Int32} (hk : ccO cs 0 cd (lK L)) (hu : ugO (lG L w) u v) (h : csO tb n kn (nx tb n C.1) C.1 u cd cs o2 cd2 cs2 x2 y2) (hc : ∀ c, o2 = .ok c → cd2 ≤ 1600) : lc (sumL tb n L w kn C) = o2 ∧ ∀ r, sumL tb n L w kn C = .ok r → ∃ k, r.1 = stS L w k ∧ ccO cs2 0 cd2 (lK L ++ k) ∧ ugO (some ((lK L).length, (lK L).length + k.length)) x2 y2 := by
  unfold sumL
  by_cases q : (lG L w).isSome = true
  · rw [if_pos q]
    have hn : ¬ u = -1 := fun z => by rw [(ug_no hu).mp z] at q; cases q
    refine ⟨?_, fun r hr => by cases hr⟩
    cases o2 with
    | error e =>
      rcases h with ⟨z, -⟩ | ⟨-, z⟩
      · exact absurd z hn
      · rw [z]; rfl
    | ok c => exact absurd h.1 hn
  · rw [if_neg q]
    have hy : u = -1 := (ug_no hu).mpr (by cases hh : (lG L w).isSome with | false => rfl | true => exact absurd hh q)
    cases o2 with
    | error e =>
      rcases h with ⟨-, z⟩ | ⟨z, -⟩
      · rw [z]; exact ⟨rfl, fun r hr => by cases hr⟩
      · exact absurd hy z
    | ok c =>
      have hb := hc c rfl
      obtain ⟨-, k, h1, h2, h3, h4, h5, h6⟩ := h
      have o1 : 1 ≤ k.length := one_sum (tb := tb) (n := n) (one_part 6) _ _ h1
      have hl : cd = 0 + (lK L).length := hk.1
      rw [h1]
      refine ⟨rfl, fun r hr => ?_⟩
      cases hr
      refine ⟨k, rfl, ⟨by rw [List.length_append]; omega, fun j hj => ?_⟩, ?_⟩
      · rw [List.length_append] at hj
        rw [Nat.zero_add, List.getD_eq_getElem?_getD]
        by_cases e : j < (lK L).length
        · rw [List.getElem?_append_left e, ← List.getD_eq_getElem?_getD, h3 j (by omega)]
          have := hk.2 j e
          rw [Nat.zero_add] at this
          exact this
        · rw [List.getElem?_append_right (by omega), ← List.getD_eq_getElem?_getD]
          have := h4 (j - (lK L).length) (by omega)
          rw [show cd + (j - (lK L).length) = j by omega] at this
          exact this
      · refine ⟨by rw [h5, hl, Nat.zero_add], by rw [h6, h2, hl, Nat.zero_add], ?_, ?_⟩
        · show (lK L).length < (lK L).length + k.length; omega
        · show (lK L).length + k.length ≤ 1600; omega
theorem lm_sum0 {tb : Nat → Nat} {n : Nat} {o : LkR} {pa : Nat} {pd : Int32} {pb : Nat} {pp : Int32} {pa2 : Nat} {pd2 : Int32} {pb2 : Nat} {pp2 : Int32} {l0 l1 : Nat} {rt : Int32} {cd : Nat} {cs : Nat → Nat} {dz : Nat → Int32} {u0 u1 u2 v0 v1 v2 : Int32} {o2 : Except Err Cur} {cd2 : Nat} {cs2 : Nat → Nat} {x2 y2 : Int32} (hL : lmO tb n o pa pd pb pp l0 l1 rt cd cs dz u0 u1 u2 v0 v1 v2) (hb : pb = 0) (hw : isW tb n (CWs.getD 5 []) (cuO tb n pa pd) = true) (hO : moO tb n o2 pa2 pd2 pb2 pp2) (h : csO tb n 0 (nx tb n (sk tb n pa)) (sk tb n pa) u0 cd cs o2 cd2 cs2 x2 y2) (hcd : pb2 = 0 → cd2 ≤ 1600) : lmO tb n (bindR o (bodyR tb n)) pa2 pd2 pb2 pp2 l0 l1 rt cd2 cs2 dz x2 u1 u2 y2 v1 v2 := by
  obtain ⟨L, rfl, hC, -, -⟩ := lm_ok hL hb
  obtain ⟨k1, k2, k3, k4, k5, k6, k7, k8⟩ := hC
  have e : bindR (.ok (L, cuO tb n pa pd)) (bodyR tb n) = sumL tb n L 0 0 (cuO tb n pa pd) := by
    show bodyP tb n L (cuO tb n pa pd) = _
    unfold bodyP
    rw [if_neg (isW_one hw (by decide)), if_neg (isW_one hw (by decide)), if_neg (isW_one hw (by decide)), if_pos hw]
  have s := lm_sc (w := 0) (kn := 0) (C := cuO tb n pa pd) k5 k6 h (fun c hc => by subst hc; exact hcd hO.1)
  rw [e]
  refine ⟨by rw [s.1]; exact hO, fun r hr => ?_⟩
  obtain ⟨k, e1, e2, e3⟩ := s.2 r hr
  rw [e1]
  exact ⟨k1, k2, k3, k4, e2, (by show ugO (updG (lG L) 0 _ 0) _ _; unfold updG; rw [if_pos rfl]; exact e3), k7, k8⟩
theorem lm_sum1 {tb : Nat → Nat} {n : Nat} {o : LkR} {pa : Nat} {pd : Int32} {pb : Nat} {pp : Int32} {pa2 : Nat} {pd2 : Int32} {pb2 : Nat} {pp2 : Int32} {l0 l1 : Nat} {rt : Int32} {cd : Nat} {cs : Nat → Nat} {dz : Nat → Int32} {u0 u1 u2 v0 v1 v2 : Int32} {o2 : Except Err Cur} {cd2 : Nat} {cs2 : Nat → Nat} {x2 y2 : Int32} (hL : lmO tb n o pa pd pb pp l0 l1 rt cd cs dz u0 u1 u2 v0 v1 v2) (hb : pb = 0) (hw : isW tb n (CWs.getD 6 []) (cuO tb n pa pd) = true) (hO : moO tb n o2 pa2 pd2 pb2 pp2) (h : csO tb n 1 (nx tb n (sk tb n pa)) (sk tb n pa) u1 cd cs o2 cd2 cs2 x2 y2) (hcd : pb2 = 0 → cd2 ≤ 1600) : lmO tb n (bindR o (bodyR tb n)) pa2 pd2 pb2 pp2 l0 l1 rt cd2 cs2 dz u0 x2 u2 v0 y2 v2 := by
  obtain ⟨L, rfl, hC, -, -⟩ := lm_ok hL hb
  obtain ⟨k1, k2, k3, k4, k5, k6, k7, k8⟩ := hC
  have e : bindR (.ok (L, cuO tb n pa pd)) (bodyR tb n) = sumL tb n L 1 1 (cuO tb n pa pd) := by
    show bodyP tb n L (cuO tb n pa pd) = _
    unfold bodyP
    rw [if_neg (isW_one hw (by decide)), if_neg (isW_one hw (by decide)), if_neg (isW_one hw (by decide)), if_neg (isW_one hw (by decide)), if_pos hw]
  have s := lm_sc (w := 1) (kn := 1) (C := cuO tb n pa pd) k5 k7 h (fun c hc => by subst hc; exact hcd hO.1)
  rw [e]
  refine ⟨by rw [s.1]; exact hO, fun r hr => ?_⟩
  obtain ⟨k, e1, e2, e3⟩ := s.2 r hr
  rw [e1]
  exact ⟨k1, k2, k3, k4, e2, k6, (by show ugO (updG (lG L) 1 _ 1) _ _; unfold updG; rw [if_pos rfl]; exact e3), k8⟩
theorem lm_sum2 {tb : Nat → Nat} {n : Nat} {o : LkR} {pa : Nat} {pd : Int32} {pb : Nat} {pp : Int32} {pa2 : Nat} {pd2 : Int32} {pb2 : Nat} {pp2 : Int32} {l0 l1 : Nat} {rt : Int32} {cd : Nat} {cs : Nat → Nat} {dz : Nat → Int32} {u0 u1 u2 v0 v1 v2 : Int32} {o2 : Except Err Cur} {cd2 : Nat} {cs2 : Nat → Nat} {x2 y2 : Int32} (hL : lmO tb n o pa pd pb pp l0 l1 rt cd cs dz u0 u1 u2 v0 v1 v2) (hb : pb = 0) (hw : isW tb n (CWs.getD 7 []) (cuO tb n pa pd) = true) (hO : moO tb n o2 pa2 pd2 pb2 pp2) (h : csO tb n 0 (nx tb n (sk tb n pa)) (sk tb n pa) u2 cd cs o2 cd2 cs2 x2 y2) (hcd : pb2 = 0 → cd2 ≤ 1600) : lmO tb n (bindR o (bodyR tb n)) pa2 pd2 pb2 pp2 l0 l1 rt cd2 cs2 dz u0 u1 x2 v0 v1 y2 := by
  obtain ⟨L, rfl, hC, -, -⟩ := lm_ok hL hb
  obtain ⟨k1, k2, k3, k4, k5, k6, k7, k8⟩ := hC
  have e : bindR (.ok (L, cuO tb n pa pd)) (bodyR tb n) = sumL tb n L 2 0 (cuO tb n pa pd) := by
    show bodyP tb n L (cuO tb n pa pd) = _
    unfold bodyP
    rw [if_neg (isW_one hw (by decide)), if_neg (isW_one hw (by decide)), if_neg (isW_one hw (by decide)), if_neg (isW_one hw (by decide)), if_neg (isW_one hw (by decide)), if_pos hw]
  have s := lm_sc (w := 2) (kn := 0) (C := cuO tb n pa pd) k5 k8 h (fun c hc => by subst hc; exact hcd hO.1)
  rw [e]
  refine ⟨by rw [s.1]; exact hO, fun r hr => ?_⟩
  obtain ⟨k, e1, e2, e3⟩ := s.2 r hr
  rw [e1]
  exact ⟨k1, k2, k3, k4, e2, k6, k7, (by show ugO (updG (lG L) 2 _ 2) _ _; unfold updG; rw [if_pos rfl]; exact e3)⟩
theorem lm_open {tb : Nat → Nat} {n : Nat} {c : Cur} {pa : Nat} {pd : Int32} {pb : Nat} {pp : Int32} {l0 l1 : Nat} {cs : Nat → Nat} {dz : Nat → Int32} {v0 v1 v2 : Int32} (h : moO tb n (opnM tb n (.ok c)) pa pd pb pp) (hd : nvO tb n 2 9 (bindR (.ok c) (wordP tb n (CWs.getD 0 []))) l0) (hm : nvO tb n 0 9 (bindR (bindR (bindR (.ok c) (wordP tb n (CWs.getD 0 []))) (nmF tb n 2 9)) (wordP tb n (CWs.getD 1 []))) l1) (hz : allV 0 27 dz) : lmO tb n (openP tb n c) pa pd pb pp l0 l1 0 0 cs dz (-1) (-1) (-1) v0 v1 v2 := by
  refine ⟨by rw [opn_lcM]; exact h, fun r hr => ?_⟩
  obtain ⟨c1, h1, h2⟩ := bindR_ok hr
  obtain ⟨d, h3, h4⟩ := bindR_ok h2
  obtain ⟨c2, h5, h6⟩ := bindR_ok h4
  obtain ⟨m, h7, h8⟩ := bindR_ok h6
  obtain ⟨c3, h9, h10⟩ := bindR_ok h8
  cases h10
  have e2 : nmF tb n 2 9 c1 = .ok d.2 := by unfold nmF; rw [h3]; rfl
  have e3 : bindR (bindR (bindR (.ok c) (wordP tb n (CWs.getD 0 []))) (nmF tb n 2 9)) (wordP tb n (CWs.getD 1 [])) = .ok c2 := by
    show bindR (bindR (wordP tb n (CWs.getD 0 []) c) (nmF tb n 2 9)) (wordP tb n (CWs.getD 1 [])) = _
    rw [h1]
    show bindR (nmF tb n 2 9 c1) _ = _
    rw [e2]
    exact h5
  exact ⟨hd c1 d h1 h3, hm c2 m e3 h7, fun j hj => ⟨hz _ (by omega), hz _ (by omega), (hz _ (by omega)).trans (if_neg (fun z => by cases z)).symm⟩, rfl, cc_0 _ 0, rfl, rfl, rfl⟩
theorem cu_0 {tb : Nat → Nat} {n : Nat} (hn : n ≤ 1600) : cuO tb n 0 (-1) = (sk tb n 0, false) := by
  unfold cuO
  congr 1
  rw [decide_eq_false_iff_not]
  intro q
  have h : sk tb n 0 ≤ n := ext_le (Nat.zero_le n)
  have := i_eq q
  rw [i_m1, i_nI (by omega)] at this
  omega
theorem mo_0 {tb : Nat → Nat} {n : Nat} : moO tb n (.ok (cuO tb n 0 (-1))) 0 (-1) 0 (-1) := ⟨rfl, rfl, Nat.zero_le n, rfl, Or.inl rfl⟩
theorem lm_s {tb : Nat → Nat} {n y : Nat} {o : LkR} {pa : Nat} {pd : Int32} {pb : Nat} {pp : Int32} {l0 l1 : Nat} {rt : Int32} {cd : Nat} {cs : Nat → Nat} {dz : Nat → Int32} {u0 u1 u2 v0 v1 v2 : Int32} (h : lmO tb n o pa pd pb pp l0 l1 rt cd cs dz u0 u1 u2 v0 v1 v2) (hx : ¬ n ≤ sk tb n pa) (hy : y < 60) : bindR (bindR o (stmP tb n)) (stP tb n (60 - (y + 1))) = bindR o (stP tb n (60 - y)) := by
  cases o with
  | error e => rfl
  | ok r =>
    have hc : r.2 = cuO tb n pa pd := (mo_cu (show moO tb n (.ok r.2) pa pd pb pp from h.1) rfl).2
    have hx2 : ¬ n ≤ r.2.1 := by rw [hc]; exact hx
    show _ = stP tb n (60 - y) r
    rw [show 60 - y = (60 - (y + 1)) + 1 by omega, stP, if_neg hx2]
    rfl
theorem lm_60 {tb : Nat → Nat} {n y : Nat} {o : LkR} {pa : Nat} {pd : Int32} {pb : Nat} {pp : Int32} {l0 l1 : Nat} {rt : Int32} {cd : Nat} {cs : Nat → Nat} {dz : Nat → Int32} {u0 u1 u2 v0 v1 v2 : Int32} (h : lmO tb n o pa pd pb pp l0 l1 rt cd cs dz u0 u1 u2 v0 v1 v2) (hb : pb = 0) (hx : ¬ n ≤ sk tb n pa) (hy : y = 60) : bindR (Except.error (5, sk tb n pa) : LkR) (stP tb n (60 - y)) = bindR o (stP tb n (60 - y)) := by
  obtain ⟨L, rfl, -, -, -⟩ := lm_ok h hb
  subst hy
  have hx2 : ¬ n ≤ ((L, cuO tb n pa pd) : LkS × Cur).2.1 := hx
  show Except.error (5, sk tb n pa) = stP tb n 0 (L, cuO tb n pa pd)
  rw [stP, if_neg hx2]
  rfl
def fnM (P : Except Err (LkS × Nat)) (pb : Nat) (pp sn : Int32) (l0 l1 : Nat) (rt : Int32) (cd : Nat) (cs : Nat → Nat) (dz : Nat → Int32) (u0 u1 u2 v0 v1 v2 : Int32) : Prop := match P with
  | .ok r => pb = 0 ∧ pp = -1 ∧ sn = nI r.2 ∧ r.2 ≤ 60 ∧ lmC r.1 l0 l1 rt cd cs dz u0 u1 u2 v0 v1 v2
  | .error e => pb = e.1 ∧ pp = nI e.2 ∧ 1 ≤ e.1 ∧ e.1 ≤ 5
theorem fm_er {tb : Nat → Nat} {n y : Nat} {o : LkR} {pa : Nat} {pd : Int32} {pb : Nat} {pp : Int32} {l0 l1 : Nat} {rt : Int32} {cd : Nat} {cs : Nat → Nat} {dz : Nat → Int32} {u0 u1 u2 v0 v1 v2 : Int32} {sn : Int32} (h : lmO tb n o pa pd pb pp l0 l1 rt cd cs dz u0 u1 u2 v0 v1 v2) (hb : ¬ pb = 0) (hr : bindR o (stP tb n (60 - y)) = lockP tb n) : fnM (lockP tb n) pb pp sn l0 l1 rt cd cs dz u0 u1 u2 v0 v1 v2 := by
  cases o with
  | ok r =>
    have h1 : moO tb n (.ok r.2) pa pd pb pp := h.1
    exact absurd h1.1 hb
  | error e =>
    rw [← hr]
    exact h.1
theorem fm_end {tb : Nat → Nat} {n y : Nat} {o : LkR} {pa : Nat} {pd : Int32} {pb : Nat} {pp : Int32} {l0 l1 : Nat} {rt : Int32} {cd : Nat} {cs : Nat → Nat} {dz : Nat → Int32} {u0 u1 u2 v0 v1 v2 : Int32} {sn : Int32} (h : lmO tb n o pa pd pb pp l0 l1 rt cd cs dz u0 u1 u2 v0 v1 v2) (hb : pb = 0) (hx : n ≤ sk tb n pa) (hy : y ≤ 60) (hs : sn = nI y) (hr : bindR o (stP tb n (60 - y)) = lockP tb n) : fnM (lockP tb n) pb pp sn l0 l1 rt cd cs dz u0 u1 u2 v0 v1 v2 := by
  cases o with
  | error e =>
    have h0 : moO tb n (.error e) pa pd pb pp := h.1
    have h1 : pb = e.1 := h0.1
    have h2 : 1 ≤ e.1 := h0.2.2.1
    omega
  | ok r =>
    have h1 : moO tb n (.ok r.2) pa pd pb pp := h.1
    have hc := (mo_cu h1 rfl).2
    have hx2 : n ≤ r.2.1 := by rw [hc]; exact hx
    have e : stP tb n (60 - y) r = .ok (r.1, y) := by
      cases hk : 60 - y with
      | zero => rw [stP, if_pos hx2, show y = 60 by omega]
      | succ f => rw [stP, if_pos hx2, ← hk, show 60 - (60 - y) = y by omega]
    have hr2 : stP tb n (60 - y) r = lockP tb n := hr
    rw [← hr2, e]
    exact ⟨hb, h1.2.1, hs, hy, h.2 r rfl⟩
theorem lk_fin {tb : Nat → Nat} {r : Int32} {a e : Nat} (htb : ∀ j, tb j ≤ 255) (h : lkOk tb r a e) : r = -1 ↔ e ≤ a := by
  have := htb a
  rcases h with ⟨h1, h2⟩ | ⟨h1, h2, -, -⟩
  · exact ⟨fun _ => by omega, fun _ => h1⟩
  · refine ⟨fun q => ?_, fun q => by omega⟩
    have := i_eq (h2.symm.trans q)
    rw [i_m1, i_nI (by omega)] at this
    omega

