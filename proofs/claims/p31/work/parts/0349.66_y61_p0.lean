def opnM (tb : Nat → Nat) (n : Nat) (o : Except Err Cur) : Except Err Cur := bindR (bindR (bindR (bindR (bindR o (wordP tb n (CWs.getD 0 []))) (nmF tb n 2 9)) (wordP tb n (CWs.getD 1 []))) (nmF tb n 0 9)) (signP tb n 59)
theorem opn_lcM {tb : Nat → Nat} {n : Nat} (c : Cur) : lc (openP tb n c) = opnM tb n (.ok c) := by
  unfold lc openP opnM nmF
  show bindR (bindR (wordP tb n (CWs.getD 0 []) c) _) _ = bindR (bindR (bindR (bindR (wordP tb n (CWs.getD 0 []) c) _) _) _) _
  cases wordP tb n (CWs.getD 0 []) c with
  | error e => rfl
  | ok c1 =>
    show bindR (bindR (numP tb n 2 9 c1) _) _ = bindR (bindR (bindR (bindR (numP tb n 2 9 c1) _) _) _) _
    cases numP tb n 2 9 c1 with
    | error e => rfl
    | ok d =>
      show bindR (bindR (wordP tb n (CWs.getD 1 []) d.2) _) _ = bindR (bindR (wordP tb n (CWs.getD 1 []) d.2) _) _
      cases wordP tb n (CWs.getD 1 []) d.2 with
      | error e => rfl
      | ok c2 =>
        show bindR (bindR (numP tb n 0 9 c2) _) _ = bindR (bindR (numP tb n 0 9 c2) _) _
        cases numP tb n 0 9 c2 with
        | error e => rfl
        | ok m =>
          show bindR (bindR (signP tb n 59 m.2) _) _ = signP tb n 59 m.2
          cases signP tb n 59 m.2 <;> rfl
def dzO (L : LkS) (dz : Nat → Int32) : Prop := ∀ d, d < 9 → dz (3 * d) = nI (lB L d) ∧ dz (3 * d + 1) = nI (lW L d) ∧ dz (3 * d + 2) = (if lU L d = true then 1 else 0)
def ugO (g : Option (Nat × Nat)) (u v : Int32) : Prop := match g with
  | none => u = -1
  | some p => u = nI p.1 ∧ v = nI p.2 ∧ p.1 < p.2 ∧ p.2 ≤ 1600
def lmC (L : LkS) (l0 l1 : Nat) (rt : Int32) (cd : Nat) (cs : Nat → Nat) (dz : Nat → Int32) (u0 u1 u2 v0 v1 v2 : Int32) : Prop := l0 = lD L ∧ l1 = lM L ∧ dzO L dz ∧ rt = nI (lRn L) ∧ ccO cs 0 cd (lK L) ∧ ugO (lG L 0) u0 v0 ∧ ugO (lG L 1) u1 v1 ∧ ugO (lG L 2) u2 v2
def lmO (tb : Nat → Nat) (n : Nat) (o : LkR) (pa : Nat) (pd : Int32) (pb : Nat) (pp : Int32) (l0 l1 : Nat) (rt : Int32) (cd : Nat) (cs : Nat → Nat) (dz : Nat → Int32) (u0 u1 u2 v0 v1 v2 : Int32) : Prop := moO tb n (lc o) pa pd pb pp ∧ ∀ r, o = .ok r → lmC r.1 l0 l1 rt cd cs dz u0 u1 u2 v0 v1 v2
def dayM (tb : Nat → Nat) (n d : Nat) (o : Except Err Cur) : Except Err Cur := bindR (bindR o (nmF tb n 0 (d - 1))) (nmF tb n 0 9)
def dyVm (tb : Nat → Nat) (n d : Nat) (o : Except Err Cur) (dv mv : Nat) : Prop := nvO tb n 0 (d - 1) o dv ∧ nvO tb n 0 9 (bindR o (nmF tb n 0 (d - 1))) mv
def mgF (dz : Nat → Int32) (dv w : Nat) (c : Cur) : Except Err Cur := if dz (3 * dv + 2) = 1 then .error (2, w) else .ok c
def mutM (tb : Nat → Nat) (n d : Nat) (dz : Nat → Int32) (dv w : Nat) (o : Except Err Cur) : Except Err Cur := bindR (bindR o (nmF tb n 0 (d - 1))) (mgF dz dv w)
theorem dz_up {L : LkS} {dz : Nat → Int32} {d v : Nat} (h : dzO L dz) (hd : d < 9) : dzO (stB L d v) (upd dz (3 * d) (nI v)) := by
  intro j hj
  obtain ⟨h1, h2, h3⟩ := h j hj
  show upd dz (3 * d) (nI v) (3 * j) = nI (updG (lB L) d v j) ∧ upd dz (3 * d) (nI v) (3 * j + 1) = nI (lW L j) ∧ upd dz (3 * d) (nI v) (3 * j + 2) = (if lU L j = true then 1 else 0)
  unfold upd updG
  refine ⟨?_, by rw [if_neg (by omega)]; exact h2, by rw [if_neg (by omega)]; exact h3⟩
  by_cases e : j = d
  · rw [if_pos (by omega), if_pos e]
  · rw [if_neg (by omega), if_neg e]; exact h1
theorem dz_uw {L : LkS} {dz : Nat → Int32} {d v : Nat} (h : dzO L dz) (hd : d < 9) : dzO (stW L d v) (upd dz (3 * d + 1) (nI v)) := by
  intro j hj
  obtain ⟨h1, h2, h3⟩ := h j hj
  show upd dz (3 * d + 1) (nI v) (3 * j) = nI (lB L j) ∧ upd dz (3 * d + 1) (nI v) (3 * j + 1) = nI (updG (lW L) d v j) ∧ upd dz (3 * d + 1) (nI v) (3 * j + 2) = (if lU L j = true then 1 else 0)
  unfold upd updG
  refine ⟨by rw [if_neg (by omega)]; exact h1, ?_, by rw [if_neg (by omega)]; exact h3⟩
  by_cases e : j = d
  · rw [if_pos (by omega), if_pos e]
  · rw [if_neg (by omega), if_neg e]; exact h2
theorem dz_uu {L : LkS} {dz : Nat → Int32} {d : Nat} (h : dzO L dz) (hd : d < 9) : dzO (stU L d) (upd dz (3 * d + 2) 1) := by
  intro j hj
  obtain ⟨h1, h2, h3⟩ := h j hj
  show upd dz (3 * d + 2) 1 (3 * j) = nI (lB L j) ∧ upd dz (3 * d + 2) 1 (3 * j + 1) = nI (lW L j) ∧ upd dz (3 * d + 2) 1 (3 * j + 2) = (if updG (lU L) d true j = true then 1 else 0)
  unfold upd updG
  refine ⟨by rw [if_neg (by omega)]; exact h1, by rw [if_neg (by omega)]; exact h2, ?_⟩
  by_cases e : j = d
  · rw [if_pos (by omega), if_pos e, if_pos rfl]
  · rw [if_neg (by omega), if_neg e]; exact h3
theorem dz_mu {L : LkS} {dz : Nat → Int32} {d : Nat} (h : dzO L dz) (hd : d < 9) : dz (3 * d + 2) = 1 ↔ lU L d = true := by
  rw [(h d hd).2.2]
  by_cases q : lU L d = true
  · rw [if_pos q]; exact ⟨fun _ => q, fun _ => rfl⟩
  · rw [if_neg q]; exact ⟨fun z => absurd z (by decide), fun z => absurd z q⟩
theorem ug_no {g : Option (Nat × Nat)} {u v : Int32} (h : ugO g u v) : u = -1 ↔ g.isSome = false := by
  cases g with
  | none => exact ⟨fun _ => rfl, fun _ => h⟩
  | some p =>
    refine ⟨fun q => ?_, fun q => by cases q⟩
    have := i_eq (h.1.symm.trans q)
    have h3 := h.2.2.1
    have h4 := h.2.2.2
    rw [i_nI (by omega), i_m1] at this
    omega
theorem lm_end {tb : Nat → Nat} {n : Nat} {o : LkR} {pa : Nat} {pd : Int32} {pb : Nat} {pp : Int32} {pa2 : Nat} {pd2 : Int32} {pb2 : Nat} {pp2 : Int32} {l0 l1 : Nat} {rt : Int32} {cd : Nat} {cs : Nat → Nat} {dz : Nat → Int32} {u0 u1 u2 v0 v1 v2 : Int32} (h : lmO tb n (bindR o (bodyR tb n)) pa pd pb pp l0 l1 rt cd cs dz u0 u1 u2 v0 v1 v2) (h2 : moO tb n (bindR (lc (bindR o (bodyR tb n))) (signP tb n 59)) pa2 pd2 pb2 pp2) : lmO tb n (bindR o (stmP tb n)) pa2 pd2 pb2 pp2 l0 l1 rt cd cs dz u0 u1 u2 v0 v1 v2 := by
  have e : bindR o (stmP tb n) = ld (bindR o (bodyR tb n)) (signP tb n 59) := by cases o <;> rfl
  rw [e]
  refine ⟨by rw [lc_ld]; exact h2, fun q hq => ?_⟩
  obtain ⟨r, h3, h4⟩ := bindR_ok hq
  obtain ⟨c, h5, h6⟩ := bindR_ok h4
  cases h6
  exact h.2 r h3
theorem lm_ok {tb : Nat → Nat} {n : Nat} {o : LkR} {pa : Nat} {pd : Int32} {pb : Nat} {pp : Int32} {l0 l1 : Nat} {rt : Int32} {cd : Nat} {cs : Nat → Nat} {dz : Nat → Int32} {u0 u1 u2 v0 v1 v2 : Int32} (h : lmO tb n o pa pd pb pp l0 l1 rt cd cs dz u0 u1 u2 v0 v1 v2) (hb : pb = 0) : ∃ L, o = .ok (L, cuO tb n pa pd) ∧ lmC L l0 l1 rt cd cs dz u0 u1 u2 v0 v1 v2 ∧ pp = -1 ∧ pa ≤ n := by
  cases o with
  | error e =>
    have h0 : moO tb n (.error e) pa pd pb pp := h.1
    have h1 : pb = e.1 := h0.1
    have h2 : 1 ≤ e.1 := h0.2.2.1
    omega
  | ok r =>
    obtain ⟨L, c⟩ := r
    have h1 : moO tb n (.ok c) pa pd pb pp := h.1
    have h2 := mo_ok h1 hb
    have h3 : c = cuO tb n pa pd := Except.ok.inj h2.1
    subst h3
    exact ⟨L, rfl, h.2 _ rfl, h2.2.1, h2.2.2.1⟩
theorem lm_look {tb : Nat → Nat} {n : Nat} {o : LkR} {pa : Nat} {pd : Int32} {pb : Nat} {pp : Int32} {l0 l1 : Nat} {rt : Int32} {cd : Nat} {cs : Nat → Nat} {dz : Nat → Int32} {u0 u1 u2 v0 v1 v2 : Int32} (h : lmO tb n o pa pd pb pp l0 l1 rt cd cs dz u0 u1 u2 v0 v1 v2) : lmO tb n o (sk tb n pa) pd pb pp l0 l1 rt cd cs dz u0 u1 u2 v0 v1 v2 := ⟨mo_look h.1, h.2⟩
theorem num_b {tb : Nat → Nat} {n lo hi : Nat} {c : Cur} {r : Nat × Cur} (h : numP tb n lo hi c = .ok r) : lo ≤ r.1 ∧ r.1 ≤ hi := by
  unfold numP at h
  split at h
  · split at h
    · cases h
    · split at h
      · cases h
      · next q =>
        cases h
        exact ⟨Nat.le_of_not_lt (fun z => q (Or.inl z)), Nat.le_of_not_lt (fun z => q (Or.inr z))⟩
  · cases h
theorem amM_lc {tb : Nat → Nat} {n d : Nat} {c : Cur} {g : Nat × Nat → LkS} : lc (bindR (amtP tb n d c) (fun x => .ok (g x.1, x.2))) = dayM tb n d (bindR (.ok c) (nxF tb n)) := by
  unfold lc amtP dayM nmF
  show bindR (bindR (bindR (numP tb n 0 (d - 1) (nx tb n c.1)) _) _) _ = bindR (bindR (numP tb n 0 (d - 1) (nx tb n c.1)) _) _
  cases numP tb n 0 (d - 1) (nx tb n c.1) with
  | error e => rfl
  | ok x =>
    show bindR (bindR (bindR (numP tb n 0 9 x.2) _) _) _ = bindR (numP tb n 0 9 x.2) _
    cases numP tb n 0 9 x.2 <;> rfl
theorem amM_val {tb : Nat → Nat} {n d dv mv : Nat} {c : Cur} {x : (Nat × Nat) × Cur} (h : amtP tb n d c = .ok x) (hv : dyVm tb n d (bindR (.ok c) (nxF tb n)) dv mv) : x.1.1 = dv ∧ x.1.2 = mv ∧ dv ≤ d - 1 := by
  obtain ⟨y, h1, h2⟩ := bindR_ok h
  obtain ⟨z, h3, h4⟩ := bindR_ok h2
  cases h4
  have e1 : dv = y.1 := hv.1 _ y rfl h1
  have e2 : mv = z.1 := hv.2 y.2 z (by show nmF tb n 0 (d - 1) (nx tb n c.1) = _; unfold nmF; rw [h1]; rfl) h3
  have e3 := (num_b h1).2
  exact ⟨e1.symm, e2.symm, by omega⟩
theorem amM_pb {tb : Nat → Nat} {n d : Nat} {c : Cur} {x : (Nat × Nat) × Cur} {pa2 : Nat} {pd2 : Int32} {pb2 : Nat} {pp2 : Int32} (h : amtP tb n d c = .ok x) (hO : moO tb n (dayM tb n d (bindR (.ok c) (nxF tb n))) pa2 pd2 pb2 pp2) : pb2 = 0 := by
  rw [← amM_lc (g := fun _ => L0 0 0), h] at hO
  have h1 : moO tb n (.ok x.2) pa2 pd2 pb2 pp2 := hO
  exact h1.1
theorem lm_am {tb : Nat → Nat} {n d : Nat} {c : Cur} {g : Nat × Nat → LkS} {pa2 : Nat} {pd2 : Int32} {pb2 : Nat} {pp2 : Int32} {l0 l1 : Nat} {rt : Int32} {cd : Nat} {cs : Nat → Nat} {dz : Nat → Int32} {u0 u1 u2 v0 v1 v2 : Int32} (hO : moO tb n (dayM tb n d (bindR (.ok c) (nxF tb n))) pa2 pd2 pb2 pp2) (hC : ∀ x, amtP tb n d c = .ok x → lmC (g x.1) l0 l1 rt cd cs dz u0 u1 u2 v0 v1 v2) : lmO tb n (bindR (amtP tb n d c) (fun x => .ok (g x.1, x.2))) pa2 pd2 pb2 pp2 l0 l1 rt cd cs dz u0 u1 u2 v0 v1 v2 :=
  ⟨by rw [amM_lc]; exact hO, fun r hr => by
    obtain ⟨x, h1, h2⟩ := bindR_ok hr
    cases h2
    exact hC x h1⟩
theorem lm_barge {tb : Nat → Nat} {n : Nat} {o : LkR} {pa : Nat} {pd : Int32} {pb : Nat} {pp : Int32} {pa2 : Nat} {pd2 : Int32} {pb2 : Nat} {pp2 : Int32} {l0 l1 : Nat} {rt : Int32} {cd : Nat} {cs : Nat → Nat} {dz : Nat → Int32} {u0 u1 u2 v0 v1 v2 : Int32} {dz2 : Nat → Int32} {dv mv : Nat} (hL : lmO tb n o pa pd pb pp l0 l1 rt cd cs dz u0 u1 u2 v0 v1 v2) (hb : pb = 0) (hl : l0 ≤ 9) (hl1 : 1 ≤ l0) (hw : isW tb n (CWs.getD 2 []) (cuO tb n pa pd) = true) (hO : moO tb n (dayM tb n l0 (bindR (lc o) (nxF tb n))) pa2 pd2 pb2 pp2) (hv : dyVm tb n l0 (bindR (lc o) (nxF tb n)) dv mv) (hdz : (¬ pb2 = 0 ∧ dz2 = dz) ∨ (pb2 = 0 ∧ dz2 = upd dz (3 * dv + 0) (nI mv))) : lmO tb n (bindR o (bodyR tb n)) pa2 pd2 pb2 pp2 l0 l1 rt cd cs dz2 u0 u1 u2 v0 v1 v2 := by
  obtain ⟨L, rfl, hC, -, -⟩ := lm_ok hL hb
  obtain ⟨k1, k2, k3, k4, k5, k6, k7, k8⟩ := hC
  subst k1
  have e : bindR (.ok (L, cuO tb n pa pd)) (bodyR tb n) = bindR (amtP tb n (lD L) (cuO tb n pa pd)) (fun x => .ok (stB L x.1.1 x.1.2, x.2)) := by
    show bodyP tb n L (cuO tb n pa pd) = _
    unfold bodyP
    rw [if_pos hw]
  rw [e]
  refine lm_am (g := fun x => stB L x.1 x.2) hO (fun x hx => ?_)
  obtain ⟨a1, a2, a3⟩ := amM_val hx hv
  have a4 := amM_pb hx hO
  refine ⟨rfl, k2, ?_, k4, k5, k6, k7, k8⟩
  rw [(hdz.resolve_left (fun z => z.1 a4)).2, a1, a2]
  exact dz_up k3 (by omega)
theorem lm_wet {tb : Nat → Nat} {n : Nat} {o : LkR} {pa : Nat} {pd : Int32} {pb : Nat} {pp : Int32} {pa2 : Nat} {pd2 : Int32} {pb2 : Nat} {pp2 : Int32} {l0 l1 : Nat} {rt : Int32} {cd : Nat} {cs : Nat → Nat} {dz : Nat → Int32} {u0 u1 u2 v0 v1 v2 : Int32} {dz2 : Nat → Int32} {dv mv : Nat} (hL : lmO tb n o pa pd pb pp l0 l1 rt cd cs dz u0 u1 u2 v0 v1 v2) (hb : pb = 0) (hl : l0 ≤ 9) (hl1 : 1 ≤ l0) (hw : isW tb n (CWs.getD 3 []) (cuO tb n pa pd) = true) (hO : moO tb n (dayM tb n l0 (bindR (lc o) (nxF tb n))) pa2 pd2 pb2 pp2) (hv : dyVm tb n l0 (bindR (lc o) (nxF tb n)) dv mv) (hdz : (¬ pb2 = 0 ∧ dz2 = dz) ∨ (pb2 = 0 ∧ dz2 = upd dz (3 * dv + 1) (nI mv))) : lmO tb n (bindR o (bodyR tb n)) pa2 pd2 pb2 pp2 l0 l1 rt cd cs dz2 u0 u1 u2 v0 v1 v2 := by
  obtain ⟨L, rfl, hC, -, -⟩ := lm_ok hL hb
  obtain ⟨k1, k2, k3, k4, k5, k6, k7, k8⟩ := hC
  subst k1
  have e : bindR (.ok (L, cuO tb n pa pd)) (bodyR tb n) = bindR (amtP tb n (lD L) (cuO tb n pa pd)) (fun x => .ok (stW L x.1.1 x.1.2, x.2)) := by
    show bodyP tb n L (cuO tb n pa pd) = _
    unfold bodyP
    rw [if_neg (isW_one hw (by decide)), if_pos hw]
  rw [e]
  refine lm_am (g := fun x => stW L x.1 x.2) hO (fun x hx => ?_)
  obtain ⟨a1, a2, a3⟩ := amM_val hx hv
  have a4 := amM_pb hx hO
  refine ⟨rfl, k2, ?_, k4, k5, k6, k7, k8⟩
  rw [(hdz.resolve_left (fun z => z.1 a4)).2, a1, a2]
  exact dz_uw k3 (by omega)
theorem lm_mute {tb : Nat → Nat} {n : Nat} {o : LkR} {pa : Nat} {pd : Int32} {pb : Nat} {pp : Int32} {pa2 : Nat} {pd2 : Int32} {pb2 : Nat} {pp2 : Int32} {l0 l1 : Nat} {rt : Int32} {cd : Nat} {cs : Nat → Nat} {dz : Nat → Int32} {u0 u1 u2 v0 v1 v2 : Int32} {dz2 : Nat → Int32} {dv w : Nat} (hL : lmO tb n o pa pd pb pp l0 l1 rt cd cs dz u0 u1 u2 v0 v1 v2) (hb : pb = 0) (hl : l0 ≤ 9) (hl1 : 1 ≤ l0) (hw : isW tb n (CWs.getD 4 []) (cuO tb n pa pd) = true) (hO : moO tb n (mutM tb n l0 dz dv w (bindR (lc o) (nxF tb n))) pa2 pd2 pb2 pp2) (hv : nvO tb n 0 (l0 - 1) (bindR (lc o) (nxF tb n)) dv) (hw2 : ∀ c, bindR (lc o) (nxF tb n) = .ok c → w = c.1) (hdz : (¬ pb2 = 0 ∧ dz2 = dz) ∨ (pb2 = 0 ∧ dz2 = upd dz (3 * dv + 2) 1)) : lmO tb n (bindR o (bodyR tb n)) pa2 pd2 pb2 pp2 l0 l1 rt cd cs dz2 u0 u1 u2 v0 v1 v2 := by
  obtain ⟨L, rfl, hC, -, -⟩ := lm_ok hL hb
  obtain ⟨k1, k2, k3, k4, k5, k6, k7, k8⟩ := hC
  subst k1
  have hw3 : w = (nx tb n (cuO tb n pa pd).1).1 := hw2 _ rfl
  have e : bindR (.ok (L, cuO tb n pa pd)) (bodyR tb n) = bindR (numP tb n 0 (lD L - 1) (nx tb n (cuO tb n pa pd).1)) (fun x => if lU L x.1 = true then .error (2, (nx tb n (cuO tb n pa pd).1).1) else .ok (stU L x.1, x.2)) := by
    show bodyP tb n L (cuO tb n pa pd) = _
    unfold bodyP
    rw [if_neg (isW_one hw (by decide)), if_neg (isW_one hw (by decide)), if_pos hw]
  rw [e]
  have e0 : mutM tb n (lD L) dz dv w (bindR (lc (.ok (L, cuO tb n pa pd))) (nxF tb n)) = bindR (bindR (numP tb n 0 (lD L - 1) (nx tb n (cuO tb n pa pd).1)) (fun r => .ok r.2)) (mgF dz dv w) := rfl
  rw [e0] at hO
  have hv2 : ∀ r, numP tb n 0 (lD L - 1) (nx tb n (cuO tb n pa pd).1) = .ok r → dv = r.1 := fun r hr => hv _ r rfl hr
  cases hx : numP tb n 0 (lD L - 1) (nx tb n (cuO tb n pa pd).1) with
  | error er =>
    rw [hx] at hO
    exact ⟨hO, fun r hr => by cases hr⟩
  | ok x =>
    rw [hx] at hO
    have a1 := hv2 x hx
    have a2 := (num_b hx).2
    have a3 := dz_mu k3 (d := dv) (by omega)
    have h1 : moO tb n (mgF dz dv w x.2) pa2 pd2 pb2 pp2 := hO
    show lmO tb n (if lU L x.1 = true then .error (2, (nx tb n (cuO tb n pa pd).1).1) else .ok (stU L x.1, x.2)) pa2 pd2 pb2 pp2 _ _ _ _ _ _ _ _ _ _ _ _
    rw [← a1, ← hw3]
    unfold mgF at h1
    by_cases q : lU L dv = true
    · rw [if_pos q]
      rw [if_pos (a3.mpr q)] at h1
      exact ⟨h1, fun r hr => by cases hr⟩
    · rw [if_neg q]
      rw [if_neg (fun z => q (a3.mp z))] at h1
      have a4 : pb2 = 0 := h1.1
      refine ⟨h1, fun r hr => ?_⟩
      cases hr
      refine ⟨rfl, k2, ?_, k4, k5, k6, k7, k8⟩
      rw [(hdz.resolve_left (fun z => z.1 a4)).2]
      exact dz_uu k3 (by omega)
theorem mg_no {tb : Nat → Nat} {n dv w : Nat} {dz : Nat → Int32} {o : Except Err Cur} {pa : Nat} {pd : Int32} {pb : Nat} {pp : Int32} (h : moO tb n o pa pd pb pp) (hd : ¬ dz (3 * dv + 2) = 1) : moO tb n (bindR o (mgF dz dv w)) pa pd pb pp := by
  cases o with
  | error e => exact h
  | ok c =>
    show moO tb n (mgF dz dv w c) pa pd pb pp
    unfold mgF
    rw [if_neg hd]
    exact h
theorem lm_rain {tb : Nat → Nat} {n : Nat} {o : LkR} {pa : Nat} {pd : Int32} {pb : Nat} {pp : Int32} {pa2 : Nat} {pd2 : Int32} {pb2 : Nat} {pp2 : Int32} {l0 l1 : Nat} {rt : Int32} {cd : Nat} {cs : Nat → Nat} {dz : Nat → Int32} {u0 u1 u2 v0 v1 v2 : Int32} {v : Nat} (hL : lmO tb n o pa pd pb pp l0 l1 rt cd cs dz u0 u1 u2 v0 v1 v2) (hb : pb = 0) (hn : ∀ k, 2 ≤ k → k < 8 → isW tb n (CWs.getD k []) (cuO tb n pa pd) = false) (hO : moO tb n (bindR (bindR (lc o) (wordP tb n (CWs.getD 8 []))) (nmF tb n 0 100)) pa2 pd2 pb2 pp2) (hv : nvO tb n 0 100 (bindR (lc o) (wordP tb n (CWs.getD 8 []))) v) : lmO tb n (bindR o (bodyR tb n)) pa2 pd2 pb2 pp2 l0 l1 (nI v) cd cs dz u0 u1 u2 v0 v1 v2 := by
  obtain ⟨L, rfl, hC, -, -⟩ := lm_ok hL hb
  obtain ⟨k1, k2, k3, k4, k5, k6, k7, k8⟩ := hC
  have hf : ∀ k, 2 ≤ k → k < 8 → ¬ isW tb n (CWs.getD k []) (cuO tb n pa pd) = true := fun k h1 h2 q => by rw [hn k h1 h2] at q; cases q
  have e : bindR (.ok (L, cuO tb n pa pd)) (bodyR tb n) = if isW tb n (CWs.getD 8 []) (cuO tb n pa pd) = true then bindR (numP tb n 0 100 (nx tb n (cuO tb n pa pd).1)) (fun x => .ok (stN L x.1, x.2)) else .error (1, (cuO tb n pa pd).1) := by
    show bodyP tb n L (cuO tb n pa pd) = _
    unfold bodyP
    rw [if_neg (hf 2 (by decide) (by decide)), if_neg (hf 3 (by decide) (by decide)), if_neg (hf 4 (by decide) (by decide)), if_neg (hf 5 (by decide) (by decide)), if_neg (hf 6 (by decide) (by decide)), if_neg (hf 7 (by decide) (by decide))]
  rw [e]
  by_cases q : isW tb n (CWs.getD 8 []) (cuO tb n pa pd) = true
  · rw [if_pos q]
    have e1 : bindR (lc (.ok (L, cuO tb n pa pd))) (wordP tb n (CWs.getD 8 [])) = .ok (nx tb n (cuO tb n pa pd).1) := mo_asks2 q
    rw [e1] at hO hv
    have e2 : lc (bindR (numP tb n 0 100 (nx tb n (cuO tb n pa pd).1)) (fun x => .ok (stN L x.1, x.2))) = bindR (.ok (nx tb n (cuO tb n pa pd).1)) (nmF tb n 0 100) := by
      show bindR (bindR (numP tb n 0 100 (nx tb n (cuO tb n pa pd).1)) _) _ = bindR (numP tb n 0 100 (nx tb n (cuO tb n pa pd).1)) _
      cases numP tb n 0 100 (nx tb n (cuO tb n pa pd).1) <;> rfl
    refine ⟨by rw [e2]; exact hO, fun r hr => ?_⟩
    obtain ⟨x, h1, h2⟩ := bindR_ok hr
    cases h2
    exact ⟨k1, k2, k3, by show nI v = nI x.1; rw [hv _ x rfl h1], k5, k6, k7, k8⟩
  · rw [if_neg q]
    have e1 : bindR (lc (.ok (L, cuO tb n pa pd))) (wordP tb n (CWs.getD 8 [])) = .error (1, (cuO tb n pa pd).1) := by
      show wordP tb n (CWs.getD 8 []) (cuO tb n pa pd) = _
      unfold wordP
      rw [if_neg q]
    rw [e1] at hO
    exact ⟨hO, fun r hr => by cases hr⟩
