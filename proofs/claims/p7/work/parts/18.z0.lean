/-! a world split by a mask, and put together again: one pass -/
def fmS : List Bool → va_W → va_W
  | true :: m, x :: X => x :: fmS m X
  | false :: m, _ :: X => fmS m X
  | _, _ => []
def fmR : List Bool → va_W → va_W
  | true :: m, _ :: X => fmR m X
  | false :: m, x :: X => x :: fmR m X
  | _, _ => []
def fmT : List Bool → Nat → List Nat
  | [], _ => []
  | true :: m, k => k :: fmT m (k + 1)
  | false :: m, k => fmT m (k + 1)
def fmF : List Bool → Nat → List Nat
  | [], _ => []
  | true :: m, k => fmF m (k + 1)
  | false :: m, k => k :: fmF m (k + 1)
def fmP (p T : List Nat) : List Nat := p.map (fun j => T.getD j 0)
def fmM : List Bool → va_W → va_W → va_W
  | true :: m, y :: ux, r => y :: fmM m ux r
  | false :: m, ux, x :: r => x :: fmM m ux r
  | _, _, _ => []
def fmZ : List Bool → Nat → List Nat → Nat → List Nat
  | true :: m, a, j :: q, n => (n + j) :: fmZ m a q n
  | false :: m, a, q, n => a :: fmZ m (a + 1) q n
  | _, _, _, _ => []
def fmOk : List Bool → Nat → Nat → Bool
  | [], 0, 0 => true
  | true :: m, t + 1, f => fmOk m t f
  | false :: m, t, f + 1 => fmOk m t f
  | _, _, _ => false
theorem fm_sh {X Y : va_W} {x : Nat × va_E} {k : Nat} (hY : ∀ j, j < (x :: X).length → Y[k + j]? = (x :: X)[j]?) : ∀ j, j < X.length → Y[k + 1 + j]? = X[j]? := fun j hj => by
  have h2 := hY (j + 1) (by rw [List.length_cons]; omega)
  rw [show k + 1 + j = k + (j + 1) by omega]
  exact h2
theorem fmT_S : ∀ (m : List Bool) (X Y : va_W) (k : Nat), m.length = X.length → (∀ j, j < X.length → Y[k + j]? = X[j]?) → (fmT m k).map (fun i => Y[i]?) = (fmS m X).map some
  | [], [], Y, k, _, _ => rfl
  | [], _ :: _, Y, k, h, _ => absurd h (by rw [List.length_nil, List.length_cons]; omega)
  | _ :: _, [], Y, k, h, _ => absurd h (by rw [List.length_nil, List.length_cons]; omega)
  | true :: m, x :: X, Y, k, h, hY => by
    have h0 : Y[k]? = some x := hY 0 (by rw [List.length_cons]; omega)
    have h1 := fmT_S m X Y (k + 1) (by rw [List.length_cons, List.length_cons] at h; omega) (fm_sh hY)
    show Y[k]? :: (fmT m (k + 1)).map (fun i => Y[i]?) = some x :: (fmS m X).map some
    rw [h0, h1]
  | false :: m, x :: X, Y, k, h, hY => by
    have h1 := fmT_S m X Y (k + 1) (by rw [List.length_cons, List.length_cons] at h; omega) (fm_sh hY)
    show (fmT m (k + 1)).map (fun i => Y[i]?) = (fmS m X).map some
    exact h1
theorem fmF_R : ∀ (m : List Bool) (X Y : va_W) (k : Nat), m.length = X.length → (∀ j, j < X.length → Y[k + j]? = X[j]?) → (fmF m k).map (fun i => Y[i]?) = (fmR m X).map some
  | [], [], Y, k, _, _ => rfl
  | [], _ :: _, Y, k, h, _ => absurd h (by rw [List.length_nil, List.length_cons]; omega)
  | _ :: _, [], Y, k, h, _ => absurd h (by rw [List.length_nil, List.length_cons]; omega)
  | false :: m, x :: X, Y, k, h, hY => by
    have h0 : Y[k]? = some x := hY 0 (by rw [List.length_cons]; omega)
    have h1 := fmF_R m X Y (k + 1) (by rw [List.length_cons, List.length_cons] at h; omega) (fm_sh hY)
    show Y[k]? :: (fmF m (k + 1)).map (fun i => Y[i]?) = some x :: (fmR m X).map some
    rw [h0, h1]
  | true :: m, x :: X, Y, k, h, hY => by
    have h1 := fmF_R m X Y (k + 1) (by rw [List.length_cons, List.length_cons] at h; omega) (fm_sh hY)
    show (fmF m (k + 1)).map (fun i => Y[i]?) = (fmR m X).map some
    exact h1
theorem fm_R {m : List Bool} {X wr : va_W} (hl : m.length = X.length) (hR : fmR m X = wr) : (fmF m 0).map (fun i => X[i]?) = wr.map some := by
  rw [← hR]
  exact fmF_R m X X 0 hl (fun j _ => by rw [Nat.zero_add])
theorem fm_C {m : List Bool} {X wcx wc : va_W} {p : List Nat} (hl : m.length = X.length) (hS : fmS m X = wcx) (hp : p.map (fun i => wcx[i]?) = wc.map some) : (fmP p (fmT m 0)).map (fun i => X[i]?) = wc.map some := by
  have h1 : (fmT m 0).map (fun i => X[i]?) = wcx.map some := by
    rw [← hS]
    exact fmT_S m X X 0 hl (fun j _ => by rw [Nat.zero_add])
  rw [← hp]
  unfold fmP
  rw [List.map_map]
  apply List.map_congr_left
  intro j hj
  have h2 : wcx[j]? ∈ wc.map some := by rw [← hp]; exact List.mem_map.mpr ⟨j, hj, rfl⟩
  obtain ⟨q, -, hq⟩ := List.mem_map.mp h2
  have h3 : ((fmT m 0).map (fun i => X[i]?))[j]? = some (some q) := by rw [h1, List.getElem?_map, ← hq]; rfl
  rw [List.getElem?_map] at h3
  cases h4 : (fmT m 0)[j]? with
  | none => rw [h4] at h3; cases h3
  | some i =>
    rw [h4] at h3
    have h5 : X[i]? = some q := Option.some.inj h3
    show X[(fmT m 0).getD j 0]? = wcx[j]?
    rw [List.getD_eq_getElem?_getD, h4, ← hq]
    exact h5
theorem fm_out {wr u : va_W} : ∀ (m : List Bool) (a : Nat) (q : List Nat) (ux r : va_W), q.map (fun i => u[i]?) = ux.map some → (∀ j, j < r.length → wr[a + j]? = r[j]?) → fmOk m ux.length r.length = true → (fmZ m a q wr.length).map (fun i => (wr ++ u)[i]?) = (fmM m ux r).map some
  | [], a, q, ux, r, _, _, _ => by
    cases q <;> cases ux <;> cases r <;> rfl
  | true :: m, a, q, [], r, _, _, h => absurd h (by cases r <;> exact Bool.noConfusion)
  | true :: m, a, [], y :: ux, r, hq, _, _ => absurd (congrArg List.length hq) (by simp)
  | true :: m, a, j :: q, y :: ux, r, hq, hr, h => by
    have hq2 : u[j]? :: q.map (fun i => u[i]?) = some y :: ux.map some := hq
    have h1 : u[j]? = some y := (List.cons.inj hq2).1
    have h2 := fm_out m a q ux r (List.cons.inj hq2).2 hr h
    show (wr ++ u)[wr.length + j]? :: (fmZ m a q wr.length).map (fun i => (wr ++ u)[i]?) = some y :: (fmM m ux r).map some
    rw [h2, List.getElem?_append_right (by omega), show wr.length + j - wr.length = j by omega, h1]
  | false :: m, a, q, ux, [], _, _, h => absurd h (by cases ux <;> exact Bool.noConfusion)
  | false :: m, a, q, ux, x :: r, hq, hr, h => by
    have h0 : wr[a]? = some x := hr 0 (by rw [List.length_cons]; omega)
    have hlt : a < wr.length := (List.getElem?_eq_some_iff.mp h0).1
    have h2 := fm_out m (a + 1) q ux r hq (fun j hj => by
      have h3 := hr (j + 1) (by rw [List.length_cons]; omega)
      rw [show a + 1 + j = a + (j + 1) by omega]
      exact h3) (by cases ux <;> exact h)
    have e1 : fmZ (false :: m) a q wr.length = a :: fmZ m (a + 1) q wr.length := by cases q <;> rfl
    have e2 : fmM (false :: m) ux (x :: r) = x :: fmM m ux r := by cases ux <;> rfl
    rw [e1, e2]
    show (wr ++ u)[a]? :: (fmZ m (a + 1) q wr.length).map (fun i => (wr ++ u)[i]?) = some x :: (fmM m ux r).map some
    rw [h2, List.getElem?_append_left hlt, h0]
