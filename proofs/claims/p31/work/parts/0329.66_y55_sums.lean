def yA (tb : Nat → Nat) (n kn d0 m0 b : Nat) (T : Res) (o : Except Err Cur) (qs : Nat → Nat) (qn : Nat) (qt : Nat → Nat) (w : Nat) (qo : Int32) : Prop := match o with
  | .error e => T = .error e
  | .ok c => YY (Xa tb n kn 0) d0 m0 b T c qs qn qt w qo ∧ ¬ topO qt b w = 60
theorem ya_of {tb : Nat → Nat} {n kn : Nat} {o : Except Err Cur} {pa : Nat} {pd : Int32} {pb : Nat} {pp : Int32} {d0 m0 b : Nat} {T : Res} {qs : Nat → Nat} {qn : Nat} {qt : Nat → Nat} {w : Nat} {qo : Int32} (h : moO tb n o pa pd pb pp) (he : ∀ e, o = .error e → T = .error e) (hy : pb = 0 → (YY (Xa tb n kn 0) d0 m0 b T (cuO tb n pa pd) qs qn qt w qo ∧ ¬ topO qt b w = 60)) : yA tb n kn d0 m0 b T o qs qn qt w qo := by
  cases o with
  | error e => exact he e rfl
  | ok c =>
    have hc := mo_cu h rfl
    rw [hc.2]
    exact hy hc.1
def notO (tb : Nat → Nat) (n kn : Nat) (c : Cur) : Prop := ¬ isS tb n 40 c = true ∧ ¬ (isW tb n wMin c = true ∨ isW tb n wMax c = true) ∧ ¬ (kn = 2 ∧ isW tb n wWeeks c = true)
theorem y_num {tb : Nat → Nat} {n kn d0 m0 b nv : Nat} {T : Res} {c : Cur} {qs : Nat → Nat} {qn : Nat} {qt : Nat → Nat} {w : Nat} {qo : Int32} (h : YY (Xp tb n kn) d0 m0 b T c qs qn qt w qo) (hn : notO tb n kn c) (hp : partIx tb n kn c = none) (hv : nvO tb n 0 9999 (.ok c) nv) : yO (Xa tb n kn 0) d0 m0 b T (nmF tb n 0 9999 c) (updN qs qn (1000 + nv)) (qn + 1) qt w qo := by
  have key : ∀ L d k, prt tb n kn L d c k = bindR (numP tb n 0 9999 c) (fun r => aft tb n kn L 0 d r.2 (k ++ [1000 + r.1])) := fun L d k => prt_num hn.1 hn.2.1 hn.2.2 hp
  unfold nmF
  cases hq : numP tb n 0 9999 c with
  | error e =>
    exact y_err h (fun L d k _ => by show prt tb n kn L d c k = _; rw [key, hq]; rfl)
  | ok r =>
    have e := hv c r rfl hq
    subst e
    exact y_name h (fun L d k => by rw [key, hq]; rfl)
theorem y_nameK {tb : Nat → Nat} {n kn d0 m0 b j : Nat} {T : Res} {c : Cur} {qs : Nat → Nat} {qn : Nat} {qt : Nat → Nat} {w : Nat} {qo : Int32} (h : YY (Xp tb n kn) d0 m0 b T c qs qn qt w qo) (hn : notO tb n kn c) (hp : partIx tb n kn c = some j) : YY (Xa tb n kn 0) d0 m0 b T (nx tb n c.1) (updN qs qn (40 + j)) (qn + 1) qt w qo :=
  y_name h (fun L d k => prt_name hn.1 hn.2.1 hn.2.2 hp)

