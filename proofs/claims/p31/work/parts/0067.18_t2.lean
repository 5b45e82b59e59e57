theorem nm_1 {tb : Nat → Nat} {n lo hi : Nat} {o : Except Err Cur} {xa : Nat} {xv xt : Int32} {xz : Nat} {xf xp : Int32} {yv yt : Int32} {ya yz : Nat} {yf yp : Int32} (htb : ∀ j, tb j ≤ 255) (h : rdO tb n o xa xv xt xz xf xp) (e : ¬ xt = -3) (hp : rdO tb n (bindR o (hereF 1)) ya yv yt yz yf yp) : rdO tb n (bindR o (nmF tb n lo hi)) ya yv yt yz yf yp :=
  rd_swap h (fun c hc => by
    unfold nmF numP
    rw [if_neg (fun q => e (hc.2.2.2.2.1.trans ((tok_N htb).mpr q)))]; rfl) hp
theorem nm_2 {tb : Nat → Nat} {n lo hi : Nat} {o : Except Err Cur} {xa : Nat} {xv xt : Int32} {xz : Nat} {xf xp : Int32} {yv yt : Int32} {ya yz : Nat} {yf yp : Int32} (htb : ∀ j, tb j ≤ 255) (h : rdO tb n o xa xv xt xz xf xp) (e : xt = -3) (h4 : 4 < xa - xz) (hp : rdO tb n (bindR o (fun _ => .error (1, xz + 4))) ya yv yt yz yf yp) : rdO tb n (bindR o (nmF tb n lo hi)) ya yv yt yz yf yp :=
  rd_swap h (fun c hc => by
    have hq := (nm_c htb h e).2.2 c hc
    unfold nmF
    rw [nm_in hq, if_pos h4, hq.1]; rfl) hp
theorem nm_3 {tb : Nat → Nat} {n lo hi : Nat} {o : Except Err Cur} {xa : Nat} {xv xt : Int32} {xz : Nat} {xf xp : Int32} {yv yt : Int32} {ya yz : Nat} {yf yp : Int32} (htb : ∀ j, tb j ≤ 255) (h : rdO tb n o xa xv xt xz xf xp) (e : xt = -3) (h4 : ¬ 4 < xa - xz) (hv : numV tb n xz < lo ∨ hi < numV tb n xz) (hp : rdO tb n (bindR o (fun _ => .error (2, xz))) ya yv yt yz yf yp) : rdO tb n (bindR o (nmF tb n lo hi)) ya yv yt yz yf yp :=
  rd_swap h (fun c hc => by
    have hq := (nm_c htb h e).2.2 c hc
    unfold nmF
    rw [numV_in hq.2.1 h4] at hv
    rw [nm_in hq, if_neg h4, hq.1, if_pos hv]; rfl) hp
theorem nm_4 {tb : Nat → Nat} {n lo hi : Nat} {o : Except Err Cur} {xa : Nat} {xv xt : Int32} {xz : Nat} {xf xp : Int32} {yv yt : Int32} {ya yz : Nat} {yf yp : Int32} (htb : ∀ j, tb j ≤ 255) (h : rdO tb n o xa xv xt xz xf xp) (e : xt = -3) (h4 : ¬ 4 < xa - xz) (hv : lo ≤ numV tb n xz ∧ numV tb n xz ≤ hi) (hp : rdO tb n (bindR o (nxF tb n)) ya yv yt yz yf yp) : rdO tb n (bindR o (nmF tb n lo hi)) ya yv yt yz yf yp :=
  rd_swap h (fun c hc => by
    have hq := (nm_c htb h e).2.2 c hc
    unfold nmF
    rw [numV_in hq.2.1 h4] at hv
    rw [nm_in hq, if_neg h4, hq.1, if_neg (by omega)]
    unfold nxF; rw [← hq.1]; rfl) hp
/-- what the number is, where there is one -/
def nvO (tb : Nat → Nat) (n lo hi : Nat) (o : Except Err Cur) (v : Nat) : Prop := ∀ c r, o = .ok c → numP tb n lo hi c = .ok r → v = r.1
theorem nv_no {tb : Nat → Nat} {n lo hi v : Nat} {o : Except Err Cur} {ya : Nat} {yv yt : Int32} {yz : Nat} {yf yp : Int32} (h : rdO tb n (bindR o (nmF tb n lo hi)) ya yv yt yz yf yp) (ht : yf = 0 → False) : nvO tb n lo hi o v := by
  intro c r hc hr
  subst hc
  have e1 : bindR (.ok c) (nmF tb n lo hi) = .ok r.2 := by show nmF tb n lo hi c = _; unfold nmF; rw [hr]; rfl
  rw [e1] at h
  exact absurd h.1 (fun q => ht q)
theorem nv_yes {tb : Nat → Nat} {n lo hi : Nat} {o : Except Err Cur} {xa : Nat} {xv xt : Int32} {xz : Nat} {xf xp : Int32} (htb : ∀ j, tb j ≤ 255) (h : rdO tb n o xa xv xt xz xf xp) (e : xt = -3) (h4 : ¬ 4 < xa - xz) : nvO tb n lo hi o (numV tb n xz) := by
  intro c r hc hr
  subst hc
  have hq := (nm_c htb h e).2.2 c h
  rw [nm_in hq, if_neg h4, hq.1] at hr
  split at hr
  · cases hr
  · cases hr; exact numV_in hq.2.1 h4
theorem er_f {tb : Nat → Nat} {n : Nat} {o : Except Err Cur} {f : Cur → Except Err Cur} {ya : Nat} {yv yt : Int32} {yz : Nat} {yf yp : Int32} (h : rdO tb n (bindR o f) ya yv yt yz yf yp) (hf : ∀ c, ∃ e, f c = .error e) : yf = 0 → False := fun q => by
  cases o with
  | error e => exact er_ne h q
  | ok c =>
    obtain ⟨e, he⟩ := hf c
    have h1 : bindR (.ok c) f = .error e := he
    rw [h1] at h
    exact er_ne h q

