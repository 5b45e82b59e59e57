/-! THE CLAIM OUT OF ONE WALK OF THE LAW'S BODY. Your part is whole_start (and what it stands on); all else here is the same for every law, but numbers. -/
def R_law : String := "SameKeeperLaw"
def lw_P (b : Addr) (xs : List Int32) (args : Array Value) (s : State) : Prop := args = #[.ref b] ∧ s.IntsAt b xs ∧ xs.length ≤ 3072 ∧ (Jvm.Cond.and given_1 narrow_1).before args s = true
def lw_Q (_ : Array Value) (s : State) (o : Outcome) (t : State) : Prop := o = .returned (some (.int 1)) ∧ Framed s o t [] 600000 7302250
def lw_Z (below : List Frame) (a : Array Value) (s : State) : State → Prop := fun t => ∃ o, t.status = .running ∧ Ended t below o ∧ lw_Q a s o t
/-- the law's own end, with 1 on the stack, nothing written that was there before, its room as the claim has it -/
theorem lw_ret {p : Program} {l : Launch} {e : Env} {s : State} {m : MethodId} {below : List Frame} {meth : Method} {c : Code} {b : Nat} (hx : p.tables.exec = Jvm.exec) (hb : c.code = code) (hr : meth.sig.returnType = ret) (hlocks : meth.locks = false) {pc : Nat} {H : Heap} {ls : Array Slot} (hdg : decode code pc = .ok (.ireturn, 1)) : W p l e room_1 s m #[Value.ref b] below meth c H [] 600000 7302250 (lw_Z below #[Value.ref b] s) (F0 m pc ls [.int 1]) := by
  intro T hT X
  obtain ⟨fs, hret, hrun, hended, hW, hframe⟩ := X.leave (v := some (.int 1)) (hlocks := hlocks) (fun h => by rw [hr] at h; cases h)
  have hmeth' : T.vm.method? m = some meth := X.method'
  refine ⟨T.setFrames fs, ?_, .returned (some (.int 1)), hrun, hended, rfl, ⟨_, rfl⟩, hW, hframe⟩
  jvm_step X.here [X.here.top, hx, hb, hdg, hmeth', hr, ret, narrow_b1]
  (try refine ⟨rfl, ?_⟩); (try refine ⟨rfl, ?_⟩)
  first | (intro acts; rw [hret _ acts rfl rfl rfl]) | rw [hret _ _ rfl rfl rfl]
  exact Steps.refl _
/-- what holds at the law's entry: the machine, the code, the tables' words (any of lw_tbl by 'hts w (by decide +kernel)'), the script of L ints xs at the cell b, what the Statement gives of the start (any of its parts by flat_of_before) -/
def lw_At (p : Program) (s : State) (m : MethodId) (meth : Method) (c : Code) (b L : Nat) (xs : Nat → Int32) : Prop :=
  p.tables.exec = Jvm.exec ∧ c.code = code ∧ meth.sig.returnType = ret ∧ c.maxLocals = 4 ∧ s.vm.findClass R_law = some m.cls ∧ (∀ w ∈ lw_tbl, w.before #[Value.ref b] s = true) ∧ va_X b L xs s s.heap ∧ b < s.heap.size ∧ meth.locks = false ∧ (Jvm.Cond.and given_1 narrow_1).before #[Value.ref b] s = true
/-! two worlds beside each other -/
def idx (k : Nat) : va_W → List Nat
  | [] => []
  | _ :: w => k :: idx (k + 1) w
theorem idx_map (X : va_W) : ∀ (w : va_W) (k : Nat), (∀ j, j < w.length → X[k + j]? = w[j]?) → (idx k w).map (fun i => X[i]?) = w.map some
  | [], _, _ => rfl
  | e :: w, k, h => by
    have h0 : X[k]? = some e := h 0 (by simp)
    have h1 := idx_map X w (k + 1) (fun j hj => by
      have h2 := h (j + 1) (by simp; omega)
      rw [show k + 1 + j = k + (j + 1) by omega]
      exact h2)
    show X[k]? :: (idx (k + 1) w).map (fun i => X[i]?) = some e :: w.map some
    rw [h0, h1]
theorem idx_mem : ∀ (w : va_W) (k i : Nat), i ∈ idx k w → k ≤ i ∧ i < k + w.length
  | [], _, _, h => by simp [idx] at h
  | e :: w, k, i, h => by
    rcases List.mem_cons.mp (show i ∈ k :: idx (k + 1) w from h) with h | h
    · subst h; simp
    · have h1 := idx_mem w (k + 1) i h
      simp only [List.length_cons]
      omega
theorem idx_nd : ∀ (k : Nat) (w : va_W), va_nd (idx k w) = true
  | _, [] => rfl
  | k, e :: w => by
    show (decide (k ∉ idx (k + 1) w) && va_nd (idx (k + 1) w)) = true
    rw [idx_nd (k + 1) w, Bool.and_true, decide_eq_true_eq]
    intro h
    have := idx_mem w (k + 1) k h
    omega
theorem idx_C (wa wb : va_W) : (idx 0 wa).map (fun i => (wa ++ wb)[i]?) = wa.map some := idx_map _ wa 0 (fun j hj => by rw [Nat.zero_add]; exact List.getElem?_append_left hj)
theorem idx_R (wa wb : va_W) : (idx wa.length wb).map (fun i => (wa ++ wb)[i]?) = wb.map some := idx_map _ wb wa.length (fun j hj => by rw [List.getElem?_append_right (by omega), show wa.length + j - wa.length = j by omega])
theorem idx_dis (wa wb : va_W) : ∀ i ∈ idx wa.length wb, i ∉ idx 0 wa := fun i h1 h2 => by
  have q1 := idx_mem wb _ i h1
  have q2 := idx_mem wa _ i h2
  omega
theorem seed_eq {n r q : Int32} (h1 : (0 ≤ n ∧ r = 1) ∨ (¬ 0 ≤ n ∧ r = 0)) (h2 : (0 ≤ n ∧ q = 1) ∨ (¬ 0 ≤ n ∧ q = 0)) : r = q := by
  rcases h1 with ⟨a, b⟩ | ⟨a, b⟩ <;> rcases h2 with ⟨c, d⟩ | ⟨c, d⟩
  · rw [b, d]
  · exact absurd a c
  · exact absurd c a
  · rw [b, d]
theorem feed_eq {t a b : Nat} {tb ba bb T : Nat → Nat} {r q : Int32} (h1 : (t ≤ 1580 ∧ a = t + 20 ∧ r = nI a ∧ ba = T) ∨ (1580 < t ∧ a = t ∧ r = -1 ∧ ba = tb)) (h2 : (t ≤ 1580 ∧ b = t + 20 ∧ q = nI b ∧ bb = T) ∨ (1580 < t ∧ b = t ∧ q = -1 ∧ bb = tb)) : b = a ∧ bb = ba ∧ r = q := by
  rcases h1 with ⟨a1, a2, a3, a4⟩ | ⟨a1, a2, a3, a4⟩ <;> rcases h2 with ⟨b1, b2, b3, b4⟩ | ⟨b1, b2, b3, b4⟩
  · exact ⟨by omega, by rw [a4, b4], by rw [a3, b3, a2, b2]⟩
  · exact absurd a1 (by omega)
  · exact absurd a1 (by omega)
  · exact ⟨by omega, by rw [a4, b4], by rw [a3, b3]⟩
theorem end_eq {n : Int32} {t a b : Nat} {r q : Int32} (h1 : (n < 0 ∧ a = t ∧ r = 0) ∨ (∃ k : Nat, k < 2147483648 ∧ n = nI k ∧ ((k ≤ t ∧ a = k ∧ r = 1) ∨ (t < k ∧ a = t ∧ r = 0)))) (h2 : (n < 0 ∧ b = t ∧ q = 0) ∨ (∃ k : Nat, k < 2147483648 ∧ n = nI k ∧ ((k ≤ t ∧ b = k ∧ q = 1) ∨ (t < k ∧ b = t ∧ q = 0)))) : b = a ∧ r = q := by
  rcases h1 with ⟨a1, a2, a3⟩ | ⟨k, hk, a1, a2⟩
  · rcases h2 with ⟨b1, b2, b3⟩ | ⟨k, hk, b1, b2⟩
    · exact ⟨by omega, by rw [a3, b3]⟩
    · rw [b1] at a1
      exact absurd a1 (nI_pos (by omega))
  · rcases h2 with ⟨b1, b2, b3⟩ | ⟨k', hk', b1, b2⟩
    · rw [a1] at b1
      exact absurd b1 (nI_pos (by omega))
    · have e : k = k' := (neq k k' hk hk').mp (a1.symm.trans b1)
      subst e
      rcases a2 with ⟨a2, a3, a4⟩ | ⟨a2, a3, a4⟩ <;> rcases b2 with ⟨b2, b3, b4⟩ | ⟨b2, b3, b4⟩
      · exact ⟨by omega, by rw [a4, b4]⟩
      · exact absurd a2 (by omega)
      · exact absurd a2 (by omega)
      · exact ⟨by omega, by rw [a4, b4]⟩
theorem law_le {L i : Nat} {v : Int32} (hL : L ≤ 3072) (hi : i ≤ 3078) (ev : v = nI L - 6) (hc : ¬ v < nI i) : i + 6 ≤ L := by
  have h1 : (nI L - 6).toInt = (L : Int) - 6 := by
    have e6 : (6 : Int32).toInt = 6 := by decide
    rw [Jvm.Kit.i32_sub (by rw [ivn L (by omega), e6]; omega) (by rw [ivn L (by omega), e6]; omega), ivn L (by omega), e6]
  rw [ev, Int32.lt_iff_toInt_lt, h1, ivn i (by omega)] at hc
  omega
/-! the law: one state for both -/
theorem feedK_eq {t a b : Nat} {tb ba bb T : Nat → Nat} {rf ra rb : Nat → Int32} {r q : Int32} (h1 : ((t ≤ 1580 ∧ a = t + 20 ∧ r = nI a ∧ ba = T) ∨ (1580 < t ∧ a = t ∧ r = -1 ∧ ba = tb)) ∧ ((t ≤ 1580 ∧ ra = rf) ∨ (1580 < t ∧ ra = upd rf 0 (rf 0 + 1)))) (h2 : ((t ≤ 1580 ∧ b = t + 20 ∧ q = nI b ∧ bb = T) ∨ (1580 < t ∧ b = t ∧ q = -1 ∧ bb = tb)) ∧ ((t ≤ 1580 ∧ rb = rf) ∨ (1580 < t ∧ rb = upd rf 0 (rf 0 + 1)))) : r = q ∧ a = b ∧ ba = bb ∧ ra = rb := by
  obtain ⟨e1, e2, e3⟩ := feed_eq h1.1 h2.1
  refine ⟨e3, e1.symm, e2.symm, ?_⟩
  rcases h1.2 with ⟨c1, c2⟩ | ⟨c1, c2⟩ <;> rcases h2.2 with ⟨d1, d2⟩ | ⟨d1, d2⟩
  · rw [c2, d2]
  · exact absurd c1 (by omega)
  · exact absurd d1 (by omega)
  · rw [c2, d2]
theorem endK_eq {n : Int32} {t a b : Nat} {rf ra rb : Nat → Int32} {r q : Int32} (h1 : ((n < 0 ∧ a = t ∧ r = 0) ∨ (∃ k : Nat, k < 2147483648 ∧ n = nI k ∧ ((k ≤ t ∧ a = k ∧ r = 1) ∨ (t < k ∧ a = t ∧ r = 0)))) ∧ ((r = 1 ∧ ra = rf) ∨ (r = 0 ∧ ra = upd rf 0 (rf 0 + 1)))) (h2 : ((n < 0 ∧ b = t ∧ q = 0) ∨ (∃ k : Nat, k < 2147483648 ∧ n = nI k ∧ ((k ≤ t ∧ b = k ∧ q = 1) ∨ (t < k ∧ b = t ∧ q = 0)))) ∧ ((q = 1 ∧ rb = rf) ∨ (q = 0 ∧ rb = upd rf 0 (rf 0 + 1)))) : r = q ∧ a = b ∧ ra = rb := by
  obtain ⟨e1, e2⟩ := end_eq h1.1 h2.1
  refine ⟨e2, e1.symm, ?_⟩
  rcases h1.2 with ⟨c1, c2⟩ | ⟨c1, c2⟩ <;> rcases h2.2 with ⟨d1, d2⟩ | ⟨d1, d2⟩
  · rw [c2, d2]
  · exact absurd (c1.symm.trans (e2.trans d1)) (by decide)
  · exact absurd (c1.symm.trans (e2.trans d1)) (by decide)
  · rw [c2, d2]
section KOk
variable {L L2 : LkS} {dy d2 : Nat} {n n2 : KN} {lg lg2 : KLg} {ac ac2 : Nat} {su su2 : Nat → KN} {hn hn2 : Nat} {hR hR2 : Nat → Nat} {sd sd2 : Nat}
theorem kOk_s (h : kOk L dy n lg ac su hn hR sd) (h2 : sOk dy n2 ac2 su2) : kOk L dy n2 lg ac2 su2 hn hR sd := by
  obtain ⟨a1, a2, a3, a4, a5, a6, a7, a8, a9⟩ := h
  exact ⟨a1, a2, a3, a4, h2, a6, a7, a8, a9⟩
theorem kOk_g (h : kOk L dy n lg ac su hn hR sd) (h2 : sOk dy n2 ac2 su2 ∧ lgOk lg2) : kOk L dy n2 lg2 ac2 su2 hn hR sd := by
  obtain ⟨a1, a2, a3, a4, a5, a6, a7, a8, a9⟩ := h
  exact ⟨a1, a2, a3, a4, h2.1, h2.2, a7, a8, a9⟩
theorem kOk_c (h : kOk L dy n lg ac su hn hR sd) (h2 : sOk dy n2 ac2 su2 ∧ lgOk lg2 ∧ sd2 < 2147483648) : kOk L dy n2 lg2 ac2 su2 hn hR sd2 := by
  obtain ⟨a1, a2, a3, a4, a5, a6, a7, a8, a9⟩ := h
  exact ⟨a1, a2, a3, a4, h2.1, h2.2.1, a7, a8, h2.2.2⟩
theorem kOk_h (h : kOk L dy n lg ac su hn hR sd) (h2 : hn2 ≤ 16 ∧ ∀ j, j < hn2 → hR2 j < 10 * dy) : kOk L dy n lg ac su hn2 hR2 sd := by
  obtain ⟨a1, a2, a3, a4, a5, a6, a7, a8, a9⟩ := h
  exact ⟨a1, a2, a3, a4, a5, a6, h2.1, h2.2, a9⟩
theorem kOk_d (h : kOk L dy n lg ac su hn hR sd) (h2 : sd2 < 2147483648) : kOk L dy n lg ac su hn hR sd2 := by
  obtain ⟨a1, a2, a3, a4, a5, a6, a7, a8, a9⟩ := h
  exact ⟨a1, a2, a3, a4, a5, a6, a7, a8, h2⟩
theorem kOk_l {tb : Nat → Nat} {t : Nat} {rf rf2 : Nat → Int32} {r : Int32} (h : kOk L dy n lg ac su hn hR sd) (hl : lockR tb t L dy n ac hn rf r L2 d2 n2 ac2 hn2 rf2) (h6 : (lK L2).length ≤ 1600) : kOk L2 d2 n2 lg ac2 su hn2 hR sd := by
  unfold lockR at hl
  cases hP : lockP tb t with
  | ok x =>
    rw [hP] at hl
    obtain ⟨-, rfl, rfl, rfl, rfl, rfl, -⟩ := hl
    obtain ⟨a1, a2, a3, a4, a5, a6, a7, a8, a9⟩ := h
    have h9 := kl9_lock hP
    exact ⟨kcLk_lock hP, h6, h9.2.1, fun _ => ⟨h9, rfl⟩, sOk_none (nOk_lock h9), a6, Nat.zero_le _, fun j hj => absurd hj (Nat.not_lt_zero j), a9⟩
  | error x =>
    rw [hP] at hl
    obtain ⟨-, rfl, rfl, rfl, rfl, rfl, -⟩ := hl
    exact h
end KOk
theorem kOk_0 : kOk (L0 0 0) 0 ((0, 0, (fun _ => 0), (fun _ => 0), (fun _ => false), 0) : KN) (fun _ => (0, 0, 0)) 0 (fun _ => (0, 0, (fun _ => 0), (fun _ => 0), (fun _ => false), 0)) 0 (fun _ => 0) 1 := by
  refine ⟨fun w p h => ?_, Nat.zero_le _, Nat.zero_le _, fun h => absurd h (by decide), sOk_none ⟨Nat.zero_le _, Nat.zero_le _, fun _ => Nat.zero_le _, fun _ => Nat.zero_le _, fun j h => ?_, Nat.le_refl _⟩, fun k => ⟨Nat.zero_le _, Nat.zero_le _, Nat.zero_le _⟩, Nat.zero_le _, fun j hj => absurd hj (Nat.not_lt_zero j), by decide⟩
  · exact absurd (show (none : Option (Nat × Nat)) = some p from h) (fun q => by cases q)
  · exact Bool.noConfusion (show false = true from h)
def lwE (p : Program) (s : State) (m : MethodId) (meth : Method) (c : Code) (b L : Nat) (xs : Nat → Int32) (zk zv : Nat) (zf : Value) (D : va_G) (tys : List (ClassId × FieldType)) (A : Nat → Prop) : Prop :=
  p.tables.exec = Jvm.exec ∧ c.code = cL_law ∧ meth.sig.returnType = ret ∧ c.maxLocals = 4 ∧ meth.locks = false ∧ s.vm.findClass RL = some m.cls ∧ (∀ w ∈ wsL_law, w.before #[Value.ref b] s = true) ∧ va_X b L xs s s.heap ∧ b < s.heap.size ∧ (∀ q, s.heap.size ≤ q → A q) ∧ ¬ A b ∧ (∀ q, A q → s.heap.size ≤ q) ∧ skK D tys s ∧ skStr zk zv zf A s s.heap ∧ L ≤ 3072
theorem xI_pn {cI cJ cC cZ cS : ClassId} {x0 : Nat} {tl : Nat} {tb : Nat → Nat} {dy : Nat} {L : LkS} {nS : KN} {lg : KLg} {ac : Nat} {su : Nat → KN} {hn : Nat} {hR : Nat → Nat} {sd : Nat} {rf : Nat → Int32} {pn : Nat} {pB : Nat → Nat} {xf : Int32} {xp : Int32} {w : va_W} (h : xI cI cJ cC cZ cS x0 tl tb dy L nS lg ac su hn hR sd rf pn pB xf xp w) : pn ≤ 31 := by
  refine xI_elim h ?_
  intro q nn ni fn fi fl sf sst sba swe sdy swk smo smu ske sfb sfw htl htb hpl hpb hxa hxz hxo hch hwh hjc hjx hcl hmw hsa hgd hgs hdt hmt hkt hrn hfb hfw hU hkk hpu hlq htq hhr hpo hsf hsd hsm hse hxw
  clear h
  subst hxw
  exact hpl
theorem dg_L_law_204_204 : bqL cL_law 204 [(0, [43]), (1, [42]), (2, [29]), (3, [4]), (4, [96]), (5, [46]), (6, [42]), (7, [29]), (8, [5]), (9, [96]), (10, [46]), (11, [42]), (12, [29]), (13, [6]), (14, [96]), (15, [46]), (16, [42]), (17, [29]), (18, [7]), (19, [96]), (20, [46]), (21, [42]), (22, [29]), (23, [8]), (24, [96]), (25, [46]), (26, [182, 0, 13]), (29, [87]), (30, [44]), (31, [42]), (32, [29]), (33, [4]), (34, [96]), (35, [46]), (36, [42]), (37, [29]), (38, [5]), (39, [96]), (40, [46]), (41, [42])] = true := by decide +kernel
theorem dL_law_204 : decode cL_law 204 = .ok (.aload_n 1, 1) := q_aload_n1 (bat_get dg_L_law_204_204 0 rfl rfl)
theorem dL_law_205 : decode cL_law 205 = .ok (.aload_n 0, 1) := q_aload_n0 (bat_get dg_L_law_204_204 1 rfl rfl)
theorem dL_law_206 : decode cL_law 206 = .ok (.iload_n 3, 1) := q_iload_n3 (bat_get dg_L_law_204_204 2 rfl rfl)
theorem dL_law_207 : decode cL_law 207 = .ok (.iconst 1, 1) := q_iconst1 (bat_get dg_L_law_204_204 3 rfl rfl)
theorem dL_law_208 : decode cL_law 208 = .ok (.iadd, 1) := q_iadd (bat_get dg_L_law_204_204 4 rfl rfl)
theorem dL_law_209 : decode cL_law 209 = .ok (.iaload, 1) := q_iaload (bat_get dg_L_law_204_204 5 rfl rfl)
theorem dL_law_210 : decode cL_law 210 = .ok (.aload_n 0, 1) := q_aload_n0 (bat_get dg_L_law_204_204 6 rfl rfl)
theorem dL_law_211 : decode cL_law 211 = .ok (.iload_n 3, 1) := q_iload_n3 (bat_get dg_L_law_204_204 7 rfl rfl)
theorem dL_law_212 : decode cL_law 212 = .ok (.iconst 2, 1) := q_iconst2 (bat_get dg_L_law_204_204 8 rfl rfl)
theorem dL_law_213 : decode cL_law 213 = .ok (.iadd, 1) := q_iadd (bat_get dg_L_law_204_204 9 rfl rfl)
theorem dL_law_214 : decode cL_law 214 = .ok (.iaload, 1) := q_iaload (bat_get dg_L_law_204_204 10 rfl rfl)
theorem dL_law_215 : decode cL_law 215 = .ok (.aload_n 0, 1) := q_aload_n0 (bat_get dg_L_law_204_204 11 rfl rfl)
theorem dL_law_216 : decode cL_law 216 = .ok (.iload_n 3, 1) := q_iload_n3 (bat_get dg_L_law_204_204 12 rfl rfl)
theorem dL_law_217 : decode cL_law 217 = .ok (.iconst 3, 1) := q_iconst3 (bat_get dg_L_law_204_204 13 rfl rfl)
theorem dL_law_218 : decode cL_law 218 = .ok (.iadd, 1) := q_iadd (bat_get dg_L_law_204_204 14 rfl rfl)
theorem dL_law_219 : decode cL_law 219 = .ok (.iaload, 1) := q_iaload (bat_get dg_L_law_204_204 15 rfl rfl)
theorem dL_law_220 : decode cL_law 220 = .ok (.aload_n 0, 1) := q_aload_n0 (bat_get dg_L_law_204_204 16 rfl rfl)
theorem dL_law_221 : decode cL_law 221 = .ok (.iload_n 3, 1) := q_iload_n3 (bat_get dg_L_law_204_204 17 rfl rfl)
theorem dL_law_222 : decode cL_law 222 = .ok (.iconst 4, 1) := q_iconst4 (bat_get dg_L_law_204_204 18 rfl rfl)
theorem dL_law_223 : decode cL_law 223 = .ok (.iadd, 1) := q_iadd (bat_get dg_L_law_204_204 19 rfl rfl)
theorem dL_law_224 : decode cL_law 224 = .ok (.iaload, 1) := q_iaload (bat_get dg_L_law_204_204 20 rfl rfl)
theorem dL_law_225 : decode cL_law 225 = .ok (.aload_n 0, 1) := q_aload_n0 (bat_get dg_L_law_204_204 21 rfl rfl)
theorem dL_law_226 : decode cL_law 226 = .ok (.iload_n 3, 1) := q_iload_n3 (bat_get dg_L_law_204_204 22 rfl rfl)
theorem dL_law_227 : decode cL_law 227 = .ok (.iconst 5, 1) := q_iconst5 (bat_get dg_L_law_204_204 23 rfl rfl)
theorem dL_law_228 : decode cL_law 228 = .ok (.iadd, 1) := q_iadd (bat_get dg_L_law_204_204 24 rfl rfl)
theorem dL_law_229 : decode cL_law 229 = .ok (.iaload, 1) := q_iaload (bat_get dg_L_law_204_204 25 rfl rfl)
theorem dL_law_230 : decode cL_law 230 = .ok (.invokevirtual 13, 3) := q_invokevirtual (bat_get dg_L_law_204_204 26 rfl rfl) rfl
theorem dL_law_233 : decode cL_law 233 = .ok (.pop, 1) := q_pop (bat_get dg_L_law_204_204 27 rfl rfl)
theorem dL_law_234 : decode cL_law 234 = .ok (.aload_n 2, 1) := q_aload_n2 (bat_get dg_L_law_204_204 28 rfl rfl)
theorem dL_law_235 : decode cL_law 235 = .ok (.aload_n 0, 1) := q_aload_n0 (bat_get dg_L_law_204_204 29 rfl rfl)
theorem dL_law_236 : decode cL_law 236 = .ok (.iload_n 3, 1) := q_iload_n3 (bat_get dg_L_law_204_204 30 rfl rfl)
theorem dL_law_237 : decode cL_law 237 = .ok (.iconst 1, 1) := q_iconst1 (bat_get dg_L_law_204_204 31 rfl rfl)
theorem dL_law_238 : decode cL_law 238 = .ok (.iadd, 1) := q_iadd (bat_get dg_L_law_204_204 32 rfl rfl)
theorem dL_law_239 : decode cL_law 239 = .ok (.iaload, 1) := q_iaload (bat_get dg_L_law_204_204 33 rfl rfl)
theorem dL_law_240 : decode cL_law 240 = .ok (.aload_n 0, 1) := q_aload_n0 (bat_get dg_L_law_204_204 34 rfl rfl)
theorem dL_law_241 : decode cL_law 241 = .ok (.iload_n 3, 1) := q_iload_n3 (bat_get dg_L_law_204_204 35 rfl rfl)
theorem dL_law_242 : decode cL_law 242 = .ok (.iconst 2, 1) := q_iconst2 (bat_get dg_L_law_204_204 36 rfl rfl)
theorem dL_law_243 : decode cL_law 243 = .ok (.iadd, 1) := q_iadd (bat_get dg_L_law_204_204 37 rfl rfl)
theorem dL_law_244 : decode cL_law 244 = .ok (.iaload, 1) := q_iaload (bat_get dg_L_law_204_204 38 rfl rfl)
theorem dL_law_245 : decode cL_law 245 = .ok (.aload_n 0, 1) := q_aload_n0 (bat_get dg_L_law_204_204 39 rfl rfl)
theorem dg_L_law_246_246 : bqL cL_law 246 [(0, [29]), (1, [6]), (2, [96]), (3, [46]), (4, [42]), (5, [29]), (6, [7]), (7, [96]), (8, [46]), (9, [42]), (10, [29]), (11, [8]), (12, [96]), (13, [46]), (14, [182, 0, 17]), (17, [87]), (18, [167, 3, 139])] = true := by decide +kernel
theorem dL_law_246 : decode cL_law 246 = .ok (.iload_n 3, 1) := q_iload_n3 (bat_get dg_L_law_246_246 0 rfl rfl)
theorem dL_law_247 : decode cL_law 247 = .ok (.iconst 3, 1) := q_iconst3 (bat_get dg_L_law_246_246 1 rfl rfl)
theorem dL_law_248 : decode cL_law 248 = .ok (.iadd, 1) := q_iadd (bat_get dg_L_law_246_246 2 rfl rfl)
theorem dL_law_249 : decode cL_law 249 = .ok (.iaload, 1) := q_iaload (bat_get dg_L_law_246_246 3 rfl rfl)
theorem dL_law_250 : decode cL_law 250 = .ok (.aload_n 0, 1) := q_aload_n0 (bat_get dg_L_law_246_246 4 rfl rfl)
theorem dL_law_251 : decode cL_law 251 = .ok (.iload_n 3, 1) := q_iload_n3 (bat_get dg_L_law_246_246 5 rfl rfl)
theorem dL_law_252 : decode cL_law 252 = .ok (.iconst 4, 1) := q_iconst4 (bat_get dg_L_law_246_246 6 rfl rfl)
theorem dL_law_253 : decode cL_law 253 = .ok (.iadd, 1) := q_iadd (bat_get dg_L_law_246_246 7 rfl rfl)
theorem dL_law_254 : decode cL_law 254 = .ok (.iaload, 1) := q_iaload (bat_get dg_L_law_246_246 8 rfl rfl)
theorem dL_law_255 : decode cL_law 255 = .ok (.aload_n 0, 1) := q_aload_n0 (bat_get dg_L_law_246_246 9 rfl rfl)
theorem dL_law_256 : decode cL_law 256 = .ok (.iload_n 3, 1) := q_iload_n3 (bat_get dg_L_law_246_246 10 rfl rfl)
theorem dL_law_257 : decode cL_law 257 = .ok (.iconst 5, 1) := q_iconst5 (bat_get dg_L_law_246_246 11 rfl rfl)
theorem dL_law_258 : decode cL_law 258 = .ok (.iadd, 1) := q_iadd (bat_get dg_L_law_246_246 12 rfl rfl)
theorem dL_law_259 : decode cL_law 259 = .ok (.iaload, 1) := q_iaload (bat_get dg_L_law_246_246 13 rfl rfl)
theorem dL_law_260 : decode cL_law 260 = .ok (.invokevirtual 17, 3) := q_invokevirtual (bat_get dg_L_law_246_246 14 rfl rfl) rfl
theorem dL_law_263 : decode cL_law 263 = .ok (.pop, 1) := q_pop (bat_get dg_L_law_246_246 15 rfl rfl)
theorem dL_law_264 : decode cL_law 264 = .ok (.goto 907, 3) := q_goto (bat_get dg_L_law_246_246 16 rfl rfl) rfl
theorem w_2_178 : (Cond.methodLink RL 13 yX11_feed) ∈ wsL_law := sk_mem (ck_2 _ (List.mem_of_getElem? (i := 178) rfl)) rfl
theorem w_2_179 : (Cond.instanceMethod yX11_feed) ∈ wsL_law := sk_mem (ck_2 _ (List.mem_of_getElem? (i := 179) rfl)) rfl
theorem w_2_180 : (Cond.selects RX11 yX11_feed yX11_feed) ∈ wsL_law := sk_mem (ck_2 _ (List.mem_of_getElem? (i := 180) rfl)) rfl
theorem w_6_194 : (Cond.methodLink RL 17 yX12_feed) ∈ wsL_law := sk_mem (ck_6 _ (List.mem_of_getElem? (i := 194) rfl)) rfl
theorem w_6_195 : (Cond.instanceMethod yX12_feed) ∈ wsL_law := sk_mem (ck_6 _ (List.mem_of_getElem? (i := 195) rfl)) rfl
theorem w_6_196 : (Cond.selects RX12 yX12_feed yX12_feed) ∈ wsL_law := sk_mem (ck_6 _ (List.mem_of_getElem? (i := 196) rfl)) rfl
set_option maxHeartbeats 4000000 in
set_option maxRecDepth 100000 in
theorem law_0 (l : Launch) (D : va_G) (cI cJ cC cZ cS : ClassId) (zk zv : Nat) (zf : Value) (x0 mm i : Nat) (tl : Nat) (tb : Nat → Nat) (dy : Nat) (L : LkS) (nS : KN) (lg : KLg) (ac : Nat) (su : Nat → KN) (hn : Nat) (hR : Nat → Nat) (sd : Nat) (rf : Nat → Int32) (pn : Nat) (pB : Nat → Nat) (xf : Int32) (xp : Int32) (xw mw : va_W) {p : Program} {e : Env} {s : State} {m : MethodId} {below : List Frame} {meth : Method} {c : Code} {b Ln : Nat} {xs : Nat → Int32} {A : Nat → Prop} {H : Heap} {locs : List Loc} {ls : Array Slot} (E : lwE p s m meth c b Ln xs zk zv zf D (skT cI cJ cC cZ cS) A) (hi6 : i + 6 ≤ Ln) (hk : kOk L dy nS lg ac su hn hR sd) (hI : xI cI cJ cC cZ cS x0 tl tb dy L nS lg ac su hn hR sd rf pn pB xf xp xw) (hJ : mI cI cJ cC cZ cS mm tl tb dy L nS lg ac su hn hR sd rf pn pB xf xp mw) (hP : va_P D vwCl (xw ++ mw) H) (hD : va_D A (xw ++ mw)) (hS : va_S A s.heap H locs) (hl : lv_has ls 4 [(3, .int (nI i)), (2, .ref mm), (1, .ref x0), (0, .ref b)]) (K : ∀ (tl : Nat) (tb : Nat → Nat) (dy : Nat) (L : LkS) (nS : KN) (lg : KLg) (ac : Nat) (su : Nat → KN) (hn : Nat) (hR : Nat → Nat) (sd : Nat) (rf : Nat → Int32) (pn : Nat) (pB : Nat → Nat) (xf : Int32) (xp : Int32) (xw mw : va_W) (H : Heap) (locs : List Loc) (ls : Array Slot), kOk L dy nS lg ac su hn hR sd → xI cI cJ cC cZ cS x0 tl tb dy L nS lg ac su hn hR sd rf pn pB xf xp xw → mI cI cJ cC cZ cS mm tl tb dy L nS lg ac su hn hR sd rf pn pB xf xp mw → va_P D vwCl (xw ++ mw) H → va_D A (xw ++ mw) → va_S A s.heap H locs → lv_has ls 4 [(3, .int (nI i)), (2, .ref mm), (1, .ref x0), (0, .ref b)] → W p l e room_1 s m #[Value.ref b] below meth c H locs 182 32192 (lw_Z below #[Value.ref b] s) (F0 m 1171 ls [])) : W p l e room_1 s m #[Value.ref b] below meth c H locs 182 32192 (lw_Z below #[Value.ref b] s) (F0 m 204 ls []) := by
  obtain ⟨hx, hb, hr, hml, hlocks, hown, hts, hX, hbl, hA, hbA, hAf, hK, hZ, hL⟩ := id E
  refine lv_aload_n hx hb dL_law_204 rfl (lv_at hl 2 rfl) ?_
  refine lv_aload_n hx hb dL_law_205 rfl (lv_at hl 3 rfl) ?_
  refine lv_iload_n hx hb dL_law_206 rfl (lv_at hl 0 rfl) ?_
  refine lv_iconst (v := 1) hx hb dL_law_207 ic_1 ?_
  refine lv_iadd hx hb dL_law_208 ?_
  refine sk_top (nI (i + 1)) (nI_add i 1) ?_
  refine va_sld hx hb hX hbl hbA hS (vin (i + 1) Ln (by omega) (by omega)) dL_law_209 ?_
  refine lv_aload_n hx hb dL_law_210 rfl (lv_at hl 3 rfl) ?_
  refine lv_iload_n hx hb dL_law_211 rfl (lv_at hl 0 rfl) ?_
  refine lv_iconst (v := 2) hx hb dL_law_212 ic_2 ?_
  refine lv_iadd hx hb dL_law_213 ?_
  refine sk_top (nI (i + 2)) (nI_add i 2) ?_
  refine va_sld hx hb hX hbl hbA hS (vin (i + 2) Ln (by omega) (by omega)) dL_law_214 ?_
  refine lv_aload_n hx hb dL_law_215 rfl (lv_at hl 3 rfl) ?_
  refine lv_iload_n hx hb dL_law_216 rfl (lv_at hl 0 rfl) ?_
  refine lv_iconst (v := 3) hx hb dL_law_217 ic_3 ?_
  refine lv_iadd hx hb dL_law_218 ?_
  refine sk_top (nI (i + 3)) (nI_add i 3) ?_
  refine va_sld hx hb hX hbl hbA hS (vin (i + 3) Ln (by omega) (by omega)) dL_law_219 ?_
  refine lv_aload_n hx hb dL_law_220 rfl (lv_at hl 3 rfl) ?_
  refine lv_iload_n hx hb dL_law_221 rfl (lv_at hl 0 rfl) ?_
  refine lv_iconst (v := 4) hx hb dL_law_222 ic_4 ?_
  refine lv_iadd hx hb dL_law_223 ?_
  refine sk_top (nI (i + 4)) (nI_add i 4) ?_
  refine va_sld hx hb hX hbl hbA hS (vin (i + 4) Ln (by omega) (by omega)) dL_law_224 ?_
  refine lv_aload_n hx hb dL_law_225 rfl (lv_at hl 3 rfl) ?_
  refine lv_iload_n hx hb dL_law_226 rfl (lv_at hl 0 rfl) ?_
  refine lv_iconst (v := 5) hx hb dL_law_227 ic_5 ?_
  refine lv_iadd hx hb dL_law_228 ?_
  refine sk_top (nI (i + 5)) (nI_add i 5) ?_
  refine va_sld hx hb hX hbl hbA hS (vin (i + 5) Ln (by omega) (by omega)) dL_law_229 ?_
  obtain ⟨_, hdx⟩ := xI_head hI
  refine sk_Vi (q0 := 0) (n := 5) (rest := []) (wr := mw) ⟨hx, hb, hml, hown, hts⟩ hl.1 (xc_feed l D cI cJ cC cZ cS x0 tl tb dy L nS lg ac su hn hR sd rf pn pB xf xp xw (xs (nI (i + 1)).toNatClampNeg) (xs (nI (i + 2)).toNatClampNeg) (xs (nI (i + 3)).toNatClampNeg) (xs (nI (i + 4)).toNatClampNeg) (xs (nI (i + 5)).toNatClampNeg) hk hI) w_2_178 w_2_179 w_2_180 w_1_1 w_2_181 (by decide +kernel) ⟨⟨(Nat.le_of_ble_eq_true rfl), (Nat.le_of_ble_eq_true rfl)⟩, (Nat.le_of_ble_eq_true rfl), (Nat.le_of_ble_eq_true rfl)⟩ hK hP hD hS hA (idx 0 xw) (idx xw.length mw) (idx_C xw mw) (idx_R xw mw) (idx_nd 0 xw) (idx_nd _ mw) (idx_dis xw mw) hdx rfl rfl rfl (Nat.le_of_ble_eq_true rfl) dL_law_230 (fun rx ux H locs hw hP hD hS => ?_)
  obtain ⟨tlx, tbx, rfx, hI2, hkx⟩ := hw
  have hP : va_P D vwCl (mw ++ ux) H := hP
  refine lv_pop hx hb dL_law_233 rfl ?_
  refine lv_aload_n hx hb dL_law_234 rfl (lv_at hl 1 rfl) ?_
  refine lv_aload_n hx hb dL_law_235 rfl (lv_at hl 3 rfl) ?_
  refine lv_iload_n hx hb dL_law_236 rfl (lv_at hl 0 rfl) ?_
  refine lv_iconst (v := 1) hx hb dL_law_237 ic_1 ?_
  refine lv_iadd hx hb dL_law_238 ?_
  refine sk_top (nI (i + 1)) (nI_add i 1) ?_
  refine va_sld hx hb hX hbl hbA hS (vin (i + 1) Ln (by omega) (by omega)) dL_law_239 ?_
  refine lv_aload_n hx hb dL_law_240 rfl (lv_at hl 3 rfl) ?_
  refine lv_iload_n hx hb dL_law_241 rfl (lv_at hl 0 rfl) ?_
  refine lv_iconst (v := 2) hx hb dL_law_242 ic_2 ?_
  refine lv_iadd hx hb dL_law_243 ?_
  refine sk_top (nI (i + 2)) (nI_add i 2) ?_
  refine va_sld hx hb hX hbl hbA hS (vin (i + 2) Ln (by omega) (by omega)) dL_law_244 ?_
  refine lv_aload_n hx hb dL_law_245 rfl (lv_at hl 3 rfl) ?_
  refine lv_iload_n hx hb dL_law_246 rfl (lv_at hl 0 rfl) ?_
  refine lv_iconst (v := 3) hx hb dL_law_247 ic_3 ?_
  refine lv_iadd hx hb dL_law_248 ?_
  refine sk_top (nI (i + 3)) (nI_add i 3) ?_
  refine va_sld hx hb hX hbl hbA hS (vin (i + 3) Ln (by omega) (by omega)) dL_law_249 ?_
  refine lv_aload_n hx hb dL_law_250 rfl (lv_at hl 3 rfl) ?_
  refine lv_iload_n hx hb dL_law_251 rfl (lv_at hl 0 rfl) ?_
  refine lv_iconst (v := 4) hx hb dL_law_252 ic_4 ?_
  refine lv_iadd hx hb dL_law_253 ?_
  refine sk_top (nI (i + 4)) (nI_add i 4) ?_
  refine va_sld hx hb hX hbl hbA hS (vin (i + 4) Ln (by omega) (by omega)) dL_law_254 ?_
  refine lv_aload_n hx hb dL_law_255 rfl (lv_at hl 3 rfl) ?_
  refine lv_iload_n hx hb dL_law_256 rfl (lv_at hl 0 rfl) ?_
  refine lv_iconst (v := 5) hx hb dL_law_257 ic_5 ?_
  refine lv_iadd hx hb dL_law_258 ?_
  refine sk_top (nI (i + 5)) (nI_add i 5) ?_
  refine va_sld hx hb hX hbl hbA hS (vin (i + 5) Ln (by omega) (by omega)) dL_law_259 ?_
  obtain ⟨_, hdm⟩ := mI_head hJ
  refine sk_Vi (q0 := 0) (n := 5) (rest := []) (wr := ux) ⟨hx, hb, hml, hown, hts⟩ hl.1 (mc_feed l D cI cJ cC cZ cS mm tl tb dy L nS lg ac su hn hR sd rf pn pB xf xp mw (xs (nI (i + 1)).toNatClampNeg) (xs (nI (i + 2)).toNatClampNeg) (xs (nI (i + 3)).toNatClampNeg) (xs (nI (i + 4)).toNatClampNeg) (xs (nI (i + 5)).toNatClampNeg) hk hJ) w_6_194 w_6_195 w_6_196 w_1_14 w_6_197 (by decide +kernel) ⟨⟨(Nat.le_of_ble_eq_true rfl), (Nat.le_of_ble_eq_true rfl)⟩, (Nat.le_of_ble_eq_true rfl), (Nat.le_of_ble_eq_true rfl)⟩ hK hP hD hS hA (idx 0 mw) (idx mw.length ux) (idx_C mw ux) (idx_R mw ux) (idx_nd 0 mw) (idx_nd _ ux) (idx_dis mw ux) hdm rfl rfl rfl (Nat.le_of_ble_eq_true rfl) dL_law_260 (fun rm um H locs hw hP hD hS => ?_)
  obtain ⟨tlm, tbm, rfm, hJ2, hkm⟩ := hw
  obtain ⟨hre, rfl, rfl, rfl⟩ := feedK_eq hkx hkm
  have hk2 := hk
  refine lv_pop hx hb dL_law_263 rfl ?_
  refine lv_goto (tgt := 1171) hx hb dL_law_264 (by decide) ?_
  exact K _ _ _ _ _ _ _ _ _ _ _ _ _ _ _ _ _ _ _ _ _ hk2 hI2 hJ2 hP hD hS hl
theorem dg_L_law_267_267 : bqL cL_law 267 [(0, [43]), (1, [42]), (2, [29]), (3, [4]), (4, [96]), (5, [46]), (6, [182, 0, 18]), (9, [87]), (10, [44]), (11, [42]), (12, [29]), (13, [4]), (14, [96]), (15, [46]), (16, [182, 0, 22]), (19, [87]), (20, [167, 3, 116])] = true := by decide +kernel
theorem dL_law_267 : decode cL_law 267 = .ok (.aload_n 1, 1) := q_aload_n1 (bat_get dg_L_law_267_267 0 rfl rfl)
theorem dL_law_268 : decode cL_law 268 = .ok (.aload_n 0, 1) := q_aload_n0 (bat_get dg_L_law_267_267 1 rfl rfl)
theorem dL_law_269 : decode cL_law 269 = .ok (.iload_n 3, 1) := q_iload_n3 (bat_get dg_L_law_267_267 2 rfl rfl)
theorem dL_law_270 : decode cL_law 270 = .ok (.iconst 1, 1) := q_iconst1 (bat_get dg_L_law_267_267 3 rfl rfl)
theorem dL_law_271 : decode cL_law 271 = .ok (.iadd, 1) := q_iadd (bat_get dg_L_law_267_267 4 rfl rfl)
theorem dL_law_272 : decode cL_law 272 = .ok (.iaload, 1) := q_iaload (bat_get dg_L_law_267_267 5 rfl rfl)
theorem dL_law_273 : decode cL_law 273 = .ok (.invokevirtual 18, 3) := q_invokevirtual (bat_get dg_L_law_267_267 6 rfl rfl) rfl
theorem dL_law_276 : decode cL_law 276 = .ok (.pop, 1) := q_pop (bat_get dg_L_law_267_267 7 rfl rfl)
theorem dL_law_277 : decode cL_law 277 = .ok (.aload_n 2, 1) := q_aload_n2 (bat_get dg_L_law_267_267 8 rfl rfl)
theorem dL_law_278 : decode cL_law 278 = .ok (.aload_n 0, 1) := q_aload_n0 (bat_get dg_L_law_267_267 9 rfl rfl)
theorem dL_law_279 : decode cL_law 279 = .ok (.iload_n 3, 1) := q_iload_n3 (bat_get dg_L_law_267_267 10 rfl rfl)
theorem dL_law_280 : decode cL_law 280 = .ok (.iconst 1, 1) := q_iconst1 (bat_get dg_L_law_267_267 11 rfl rfl)
theorem dL_law_281 : decode cL_law 281 = .ok (.iadd, 1) := q_iadd (bat_get dg_L_law_267_267 12 rfl rfl)
theorem dL_law_282 : decode cL_law 282 = .ok (.iaload, 1) := q_iaload (bat_get dg_L_law_267_267 13 rfl rfl)
theorem dL_law_283 : decode cL_law 283 = .ok (.invokevirtual 22, 3) := q_invokevirtual (bat_get dg_L_law_267_267 14 rfl rfl) rfl
theorem dL_law_286 : decode cL_law 286 = .ok (.pop, 1) := q_pop (bat_get dg_L_law_267_267 15 rfl rfl)
theorem dL_law_287 : decode cL_law 287 = .ok (.goto 884, 3) := q_goto (bat_get dg_L_law_267_267 16 rfl rfl) rfl
theorem w_2_194 : (Cond.methodLink RL 18 yX11_end) ∈ wsL_law := sk_mem (ck_2 _ (List.mem_of_getElem? (i := 194) rfl)) rfl
theorem w_2_195 : (Cond.instanceMethod yX11_end) ∈ wsL_law := sk_mem (ck_2 _ (List.mem_of_getElem? (i := 195) rfl)) rfl
theorem w_2_196 : (Cond.selects RX11 yX11_end yX11_end) ∈ wsL_law := sk_mem (ck_2 _ (List.mem_of_getElem? (i := 196) rfl)) rfl
theorem w_6_198 : (Cond.methodLink RL 22 yX12_end) ∈ wsL_law := sk_mem (ck_6 _ (List.mem_of_getElem? (i := 198) rfl)) rfl
theorem w_6_199 : (Cond.instanceMethod yX12_end) ∈ wsL_law := sk_mem (ck_6 _ (List.mem_of_getElem? (i := 199) rfl)) rfl
theorem w_6_200 : (Cond.selects RX12 yX12_end yX12_end) ∈ wsL_law := sk_mem (ck_6 _ (List.mem_of_getElem? (i := 200) rfl)) rfl
set_option maxHeartbeats 4000000 in
set_option maxRecDepth 100000 in
theorem law_1 (l : Launch) (D : va_G) (cI cJ cC cZ cS : ClassId) (zk zv : Nat) (zf : Value) (x0 mm i : Nat) (tl : Nat) (tb : Nat → Nat) (dy : Nat) (L : LkS) (nS : KN) (lg : KLg) (ac : Nat) (su : Nat → KN) (hn : Nat) (hR : Nat → Nat) (sd : Nat) (rf : Nat → Int32) (pn : Nat) (pB : Nat → Nat) (xf : Int32) (xp : Int32) (xw mw : va_W) {p : Program} {e : Env} {s : State} {m : MethodId} {below : List Frame} {meth : Method} {c : Code} {b Ln : Nat} {xs : Nat → Int32} {A : Nat → Prop} {H : Heap} {locs : List Loc} {ls : Array Slot} (E : lwE p s m meth c b Ln xs zk zv zf D (skT cI cJ cC cZ cS) A) (hi6 : i + 6 ≤ Ln) (hk : kOk L dy nS lg ac su hn hR sd) (hI : xI cI cJ cC cZ cS x0 tl tb dy L nS lg ac su hn hR sd rf pn pB xf xp xw) (hJ : mI cI cJ cC cZ cS mm tl tb dy L nS lg ac su hn hR sd rf pn pB xf xp mw) (hP : va_P D vwCl (xw ++ mw) H) (hD : va_D A (xw ++ mw)) (hS : va_S A s.heap H locs) (hl : lv_has ls 4 [(3, .int (nI i)), (2, .ref mm), (1, .ref x0), (0, .ref b)]) (K : ∀ (tl : Nat) (tb : Nat → Nat) (dy : Nat) (L : LkS) (nS : KN) (lg : KLg) (ac : Nat) (su : Nat → KN) (hn : Nat) (hR : Nat → Nat) (sd : Nat) (rf : Nat → Int32) (pn : Nat) (pB : Nat → Nat) (xf : Int32) (xp : Int32) (xw mw : va_W) (H : Heap) (locs : List Loc) (ls : Array Slot), kOk L dy nS lg ac su hn hR sd → xI cI cJ cC cZ cS x0 tl tb dy L nS lg ac su hn hR sd rf pn pB xf xp xw → mI cI cJ cC cZ cS mm tl tb dy L nS lg ac su hn hR sd rf pn pB xf xp mw → va_P D vwCl (xw ++ mw) H → va_D A (xw ++ mw) → va_S A s.heap H locs → lv_has ls 4 [(3, .int (nI i)), (2, .ref mm), (1, .ref x0), (0, .ref b)] → W p l e room_1 s m #[Value.ref b] below meth c H locs 182 32192 (lw_Z below #[Value.ref b] s) (F0 m 1171 ls [])) : W p l e room_1 s m #[Value.ref b] below meth c H locs 182 32192 (lw_Z below #[Value.ref b] s) (F0 m 267 ls []) := by
  obtain ⟨hx, hb, hr, hml, hlocks, hown, hts, hX, hbl, hA, hbA, hAf, hK, hZ, hL⟩ := id E
  refine lv_aload_n hx hb dL_law_267 rfl (lv_at hl 2 rfl) ?_
  refine lv_aload_n hx hb dL_law_268 rfl (lv_at hl 3 rfl) ?_
  refine lv_iload_n hx hb dL_law_269 rfl (lv_at hl 0 rfl) ?_
  refine lv_iconst (v := 1) hx hb dL_law_270 ic_1 ?_
  refine lv_iadd hx hb dL_law_271 ?_
  refine sk_top (nI (i + 1)) (nI_add i 1) ?_
  refine va_sld hx hb hX hbl hbA hS (vin (i + 1) Ln (by omega) (by omega)) dL_law_272 ?_
  obtain ⟨_, hdx⟩ := xI_head hI
  refine sk_Vi (q0 := 0) (n := 1) (rest := []) (wr := mw) ⟨hx, hb, hml, hown, hts⟩ hl.1 (xc_end l D cI cJ cC cZ cS x0 tl tb dy L nS lg ac su hn hR sd rf pn pB xf xp xw (xs (nI (i + 1)).toNatClampNeg) hk hI) w_2_194 w_2_195 w_2_196 w_1_1 w_2_197 (by decide +kernel) ⟨⟨(Nat.le_of_ble_eq_true rfl), (Nat.le_of_ble_eq_true rfl)⟩, (Nat.le_of_ble_eq_true rfl), (Nat.le_of_ble_eq_true rfl)⟩ hK hP hD hS hA (idx 0 xw) (idx xw.length mw) (idx_C xw mw) (idx_R xw mw) (idx_nd 0 xw) (idx_nd _ mw) (idx_dis xw mw) hdx rfl rfl rfl (Nat.le_of_ble_eq_true rfl) dL_law_273 (fun rx ux H locs hw hP hD hS => ?_)
  obtain ⟨tlx, rfx, hI2, hkx⟩ := hw
  have hP : va_P D vwCl (mw ++ ux) H := hP
  refine lv_pop hx hb dL_law_276 rfl ?_
  refine lv_aload_n hx hb dL_law_277 rfl (lv_at hl 1 rfl) ?_
  refine lv_aload_n hx hb dL_law_278 rfl (lv_at hl 3 rfl) ?_
  refine lv_iload_n hx hb dL_law_279 rfl (lv_at hl 0 rfl) ?_
  refine lv_iconst (v := 1) hx hb dL_law_280 ic_1 ?_
  refine lv_iadd hx hb dL_law_281 ?_
  refine sk_top (nI (i + 1)) (nI_add i 1) ?_
  refine va_sld hx hb hX hbl hbA hS (vin (i + 1) Ln (by omega) (by omega)) dL_law_282 ?_
  obtain ⟨_, hdm⟩ := mI_head hJ
  refine sk_Vi (q0 := 0) (n := 1) (rest := []) (wr := ux) ⟨hx, hb, hml, hown, hts⟩ hl.1 (mc_end l D cI cJ cC cZ cS mm tl tb dy L nS lg ac su hn hR sd rf pn pB xf xp mw (xs (nI (i + 1)).toNatClampNeg) hk hJ) w_6_198 w_6_199 w_6_200 w_1_14 w_6_201 (by decide +kernel) ⟨⟨(Nat.le_of_ble_eq_true rfl), (Nat.le_of_ble_eq_true rfl)⟩, (Nat.le_of_ble_eq_true rfl), (Nat.le_of_ble_eq_true rfl)⟩ hK hP hD hS hA (idx 0 mw) (idx mw.length ux) (idx_C mw ux) (idx_R mw ux) (idx_nd 0 mw) (idx_nd _ ux) (idx_dis mw ux) hdm rfl rfl rfl (Nat.le_of_ble_eq_true rfl) dL_law_283 (fun rm um H locs hw hP hD hS => ?_)
  obtain ⟨tlm, rfm, hJ2, hkm⟩ := hw
  obtain ⟨hre, rfl, rfl⟩ := endK_eq hkx hkm
  have hk2 := hk
  refine lv_pop hx hb dL_law_286 rfl ?_
  refine lv_goto (tgt := 1171) hx hb dL_law_287 (by decide) ?_
  exact K _ _ _ _ _ _ _ _ _ _ _ _ _ _ _ _ _ _ _ _ _ hk2 hI2 hJ2 hP hD hS hl
theorem dg_L_law_290_290 : bqL cL_law 290 [(0, [43]), (1, [182, 0, 23]), (4, [87]), (5, [44]), (6, [182, 0, 27]), (9, [87]), (10, [167, 3, 103])] = true := by decide +kernel
theorem dL_law_290 : decode cL_law 290 = .ok (.aload_n 1, 1) := q_aload_n1 (bat_get dg_L_law_290_290 0 rfl rfl)
theorem dL_law_291 : decode cL_law 291 = .ok (.invokevirtual 23, 3) := q_invokevirtual (bat_get dg_L_law_290_290 1 rfl rfl) rfl
theorem dL_law_294 : decode cL_law 294 = .ok (.pop, 1) := q_pop (bat_get dg_L_law_290_290 2 rfl rfl)
theorem dL_law_295 : decode cL_law 295 = .ok (.aload_n 2, 1) := q_aload_n2 (bat_get dg_L_law_290_290 3 rfl rfl)
theorem dL_law_296 : decode cL_law 296 = .ok (.invokevirtual 27, 3) := q_invokevirtual (bat_get dg_L_law_290_290 4 rfl rfl) rfl
theorem dL_law_299 : decode cL_law 299 = .ok (.pop, 1) := q_pop (bat_get dg_L_law_290_290 5 rfl rfl)
theorem dL_law_300 : decode cL_law 300 = .ok (.goto 871, 3) := q_goto (bat_get dg_L_law_290_290 6 rfl rfl) rfl
theorem w_2_202 : (Cond.methodLink RL 23 yX11_lock) ∈ wsL_law := sk_mem (ck_2 _ (List.mem_of_getElem? (i := 202) rfl)) rfl
theorem w_2_203 : (Cond.instanceMethod yX11_lock) ∈ wsL_law := sk_mem (ck_2 _ (List.mem_of_getElem? (i := 203) rfl)) rfl
theorem w_2_204 : (Cond.selects RX11 yX11_lock yX11_lock) ∈ wsL_law := sk_mem (ck_2 _ (List.mem_of_getElem? (i := 204) rfl)) rfl
theorem w_6_202 : (Cond.methodLink RL 27 yX12_lock) ∈ wsL_law := sk_mem (ck_6 _ (List.mem_of_getElem? (i := 202) rfl)) rfl
theorem w_6_203 : (Cond.instanceMethod yX12_lock) ∈ wsL_law := sk_mem (ck_6 _ (List.mem_of_getElem? (i := 203) rfl)) rfl
theorem w_6_204 : (Cond.selects RX12 yX12_lock yX12_lock) ∈ wsL_law := sk_mem (ck_6 _ (List.mem_of_getElem? (i := 204) rfl)) rfl
set_option maxHeartbeats 4000000 in
set_option maxRecDepth 100000 in
theorem law_2 (l : Launch) (D : va_G) (cI cJ cC cZ cS : ClassId) (zk zv : Nat) (zf : Value) (x0 mm i : Nat) (tl : Nat) (tb : Nat → Nat) (dy : Nat) (L : LkS) (nS : KN) (lg : KLg) (ac : Nat) (su : Nat → KN) (hn : Nat) (hR : Nat → Nat) (sd : Nat) (rf : Nat → Int32) (pn : Nat) (pB : Nat → Nat) (xf : Int32) (xp : Int32) (xw mw : va_W) {p : Program} {e : Env} {s : State} {m : MethodId} {below : List Frame} {meth : Method} {c : Code} {b Ln : Nat} {xs : Nat → Int32} {A : Nat → Prop} {H : Heap} {locs : List Loc} {ls : Array Slot} (E : lwE p s m meth c b Ln xs zk zv zf D (skT cI cJ cC cZ cS) A) (hi6 : i + 6 ≤ Ln) (hk : kOk L dy nS lg ac su hn hR sd) (hI : xI cI cJ cC cZ cS x0 tl tb dy L nS lg ac su hn hR sd rf pn pB xf xp xw) (hJ : mI cI cJ cC cZ cS mm tl tb dy L nS lg ac su hn hR sd rf pn pB xf xp mw) (hP : va_P D vwCl (xw ++ mw) H) (hD : va_D A (xw ++ mw)) (hS : va_S A s.heap H locs) (hl : lv_has ls 4 [(3, .int (nI i)), (2, .ref mm), (1, .ref x0), (0, .ref b)]) (K : ∀ (tl : Nat) (tb : Nat → Nat) (dy : Nat) (L : LkS) (nS : KN) (lg : KLg) (ac : Nat) (su : Nat → KN) (hn : Nat) (hR : Nat → Nat) (sd : Nat) (rf : Nat → Int32) (pn : Nat) (pB : Nat → Nat) (xf : Int32) (xp : Int32) (xw mw : va_W) (H : Heap) (locs : List Loc) (ls : Array Slot), kOk L dy nS lg ac su hn hR sd → xI cI cJ cC cZ cS x0 tl tb dy L nS lg ac su hn hR sd rf pn pB xf xp xw → mI cI cJ cC cZ cS mm tl tb dy L nS lg ac su hn hR sd rf pn pB xf xp mw → va_P D vwCl (xw ++ mw) H → va_D A (xw ++ mw) → va_S A s.heap H locs → lv_has ls 4 [(3, .int (nI i)), (2, .ref mm), (1, .ref x0), (0, .ref b)] → W p l e room_1 s m #[Value.ref b] below meth c H locs 182 32192 (lw_Z below #[Value.ref b] s) (F0 m 1171 ls [])) : W p l e room_1 s m #[Value.ref b] below meth c H locs 182 32192 (lw_Z below #[Value.ref b] s) (F0 m 290 ls []) := by
  obtain ⟨hx, hb, hr, hml, hlocks, hown, hts, hX, hbl, hA, hbA, hAf, hK, hZ, hL⟩ := id E
  refine lv_aload_n hx hb dL_law_290 rfl (lv_at hl 2 rfl) ?_
  obtain ⟨_, hdx⟩ := xI_head hI
  refine sk_ViZ (q0 := 0) (n := 0) (rest := []) (wr := mw) ⟨hx, hb, hml, hown, hts⟩ hl.1 (xc_lock l D cI cJ cC cZ cS zk zv zf x0 tl tb dy L nS lg ac su hn hR sd rf pn pB xf xp xw hk hI) w_2_202 w_2_203 w_2_204 w_1_1 w_2_205 (by decide +kernel) ⟨⟨(Nat.le_of_ble_eq_true rfl), (Nat.le_of_ble_eq_true rfl)⟩, (Nat.le_of_ble_eq_true rfl), (Nat.le_of_ble_eq_true rfl)⟩ hK hP hD hS hZ hA (idx 0 xw) (idx xw.length mw) (idx_C xw mw) (idx_R xw mw) (idx_nd 0 xw) (idx_nd _ mw) (idx_dis xw mw) hdx rfl rfl rfl (Nat.le_of_ble_eq_true rfl) dL_law_291 (fun rx ux H locs hw hP hD hS => ?_)
  obtain ⟨dyx, Lx, nSx, acx, hnx, rfx, xfx, xpx, hI2, hkx⟩ := hw
  have hP : va_P D vwCl (mw ++ ux) H := hP
  refine lv_pop hx hb dL_law_294 rfl ?_
  refine lv_aload_n hx hb dL_law_295 rfl (lv_at hl 1 rfl) ?_
  obtain ⟨_, hdm⟩ := mI_head hJ
  refine sk_Vi (q0 := 0) (n := 0) (rest := []) (wr := ux) ⟨hx, hb, hml, hown, hts⟩ hl.1 (mc_lock l D cI cJ cC cZ cS mm tl tb dy L nS lg ac su hn hR sd rf pn pB xf xp mw hk hJ) w_6_202 w_6_203 w_6_204 w_1_14 w_6_205 (by decide +kernel) ⟨⟨(Nat.le_of_ble_eq_true rfl), (Nat.le_of_ble_eq_true rfl)⟩, (Nat.le_of_ble_eq_true rfl), (Nat.le_of_ble_eq_true rfl)⟩ hK hP hD hS hA (idx 0 mw) (idx mw.length ux) (idx_C mw ux) (idx_R mw ux) (idx_nd 0 mw) (idx_nd _ ux) (idx_dis mw ux) hdm rfl rfl rfl (Nat.le_of_ble_eq_true rfl) dL_law_296 (fun rm um H locs hw hP hD hS => ?_)
  obtain ⟨dym, Lm, nSm, acm, hnm, rfm, xfm, xpm, hJ2, hkm⟩ := hw
  have hkm2 := hkm.2.2
  obtain ⟨rfl, rfl⟩ := flR_eq hkx.2 hkm.2.1
  obtain ⟨hre, rfl, rfl, rfl, rfl, rfl, rfl⟩ := lockR_eq hkx.1 hkm.1
  have hk2 := kOk_l hk hkx.1 hkm2
  refine lv_pop hx hb dL_law_299 rfl ?_
  refine lv_goto (tgt := 1171) hx hb dL_law_300 (by decide) ?_
  exact K _ _ _ _ _ _ _ _ _ _ _ _ _ _ _ _ _ _ _ _ _ hk2 hI2 hJ2 hP hD hS hl
theorem dg_L_law_303_303 : bqL cL_law 303 [(0, [43]), (1, [42]), (2, [29]), (3, [4]), (4, [96]), (5, [46]), (6, [182, 0, 28]), (9, [87]), (10, [44]), (11, [42]), (12, [29]), (13, [4]), (14, [96]), (15, [46]), (16, [182, 0, 32]), (19, [87]), (20, [167, 3, 80])] = true := by decide +kernel
theorem dL_law_303 : decode cL_law 303 = .ok (.aload_n 1, 1) := q_aload_n1 (bat_get dg_L_law_303_303 0 rfl rfl)
theorem dL_law_304 : decode cL_law 304 = .ok (.aload_n 0, 1) := q_aload_n0 (bat_get dg_L_law_303_303 1 rfl rfl)
theorem dL_law_305 : decode cL_law 305 = .ok (.iload_n 3, 1) := q_iload_n3 (bat_get dg_L_law_303_303 2 rfl rfl)
theorem dL_law_306 : decode cL_law 306 = .ok (.iconst 1, 1) := q_iconst1 (bat_get dg_L_law_303_303 3 rfl rfl)
theorem dL_law_307 : decode cL_law 307 = .ok (.iadd, 1) := q_iadd (bat_get dg_L_law_303_303 4 rfl rfl)
theorem dL_law_308 : decode cL_law 308 = .ok (.iaload, 1) := q_iaload (bat_get dg_L_law_303_303 5 rfl rfl)
theorem dL_law_309 : decode cL_law 309 = .ok (.invokevirtual 28, 3) := q_invokevirtual (bat_get dg_L_law_303_303 6 rfl rfl) rfl
theorem dL_law_312 : decode cL_law 312 = .ok (.pop, 1) := q_pop (bat_get dg_L_law_303_303 7 rfl rfl)
theorem dL_law_313 : decode cL_law 313 = .ok (.aload_n 2, 1) := q_aload_n2 (bat_get dg_L_law_303_303 8 rfl rfl)
theorem dL_law_314 : decode cL_law 314 = .ok (.aload_n 0, 1) := q_aload_n0 (bat_get dg_L_law_303_303 9 rfl rfl)
theorem dL_law_315 : decode cL_law 315 = .ok (.iload_n 3, 1) := q_iload_n3 (bat_get dg_L_law_303_303 10 rfl rfl)
theorem dL_law_316 : decode cL_law 316 = .ok (.iconst 1, 1) := q_iconst1 (bat_get dg_L_law_303_303 11 rfl rfl)
theorem dL_law_317 : decode cL_law 317 = .ok (.iadd, 1) := q_iadd (bat_get dg_L_law_303_303 12 rfl rfl)
theorem dL_law_318 : decode cL_law 318 = .ok (.iaload, 1) := q_iaload (bat_get dg_L_law_303_303 13 rfl rfl)
theorem dL_law_319 : decode cL_law 319 = .ok (.invokevirtual 32, 3) := q_invokevirtual (bat_get dg_L_law_303_303 14 rfl rfl) rfl
theorem dL_law_322 : decode cL_law 322 = .ok (.pop, 1) := q_pop (bat_get dg_L_law_303_303 15 rfl rfl)
theorem dL_law_323 : decode cL_law 323 = .ok (.goto 848, 3) := q_goto (bat_get dg_L_law_303_303 16 rfl rfl) rfl
theorem w_3_165 : (Cond.methodLink RL 28 yX11_fault) ∈ wsL_law := sk_mem (ck_3 _ (List.mem_of_getElem? (i := 165) rfl)) rfl
theorem w_3_166 : (Cond.instanceMethod yX11_fault) ∈ wsL_law := sk_mem (ck_3 _ (List.mem_of_getElem? (i := 166) rfl)) rfl
theorem w_3_167 : (Cond.selects RX11 yX11_fault yX11_fault) ∈ wsL_law := sk_mem (ck_3 _ (List.mem_of_getElem? (i := 167) rfl)) rfl
theorem w_7_90 : (Cond.methodLink RL 32 yX12_fault) ∈ wsL_law := sk_mem (ck_7 _ (List.mem_of_getElem? (i := 90) rfl)) rfl
theorem w_7_91 : (Cond.instanceMethod yX12_fault) ∈ wsL_law := sk_mem (ck_7 _ (List.mem_of_getElem? (i := 91) rfl)) rfl
theorem w_7_92 : (Cond.selects RX12 yX12_fault yX12_fault) ∈ wsL_law := sk_mem (ck_7 _ (List.mem_of_getElem? (i := 92) rfl)) rfl
set_option maxHeartbeats 4000000 in
set_option maxRecDepth 100000 in
theorem law_3 (l : Launch) (D : va_G) (cI cJ cC cZ cS : ClassId) (zk zv : Nat) (zf : Value) (x0 mm i : Nat) (tl : Nat) (tb : Nat → Nat) (dy : Nat) (L : LkS) (nS : KN) (lg : KLg) (ac : Nat) (su : Nat → KN) (hn : Nat) (hR : Nat → Nat) (sd : Nat) (rf : Nat → Int32) (pn : Nat) (pB : Nat → Nat) (xf : Int32) (xp : Int32) (xw mw : va_W) {p : Program} {e : Env} {s : State} {m : MethodId} {below : List Frame} {meth : Method} {c : Code} {b Ln : Nat} {xs : Nat → Int32} {A : Nat → Prop} {H : Heap} {locs : List Loc} {ls : Array Slot} (E : lwE p s m meth c b Ln xs zk zv zf D (skT cI cJ cC cZ cS) A) (hi6 : i + 6 ≤ Ln) (hk : kOk L dy nS lg ac su hn hR sd) (hI : xI cI cJ cC cZ cS x0 tl tb dy L nS lg ac su hn hR sd rf pn pB xf xp xw) (hJ : mI cI cJ cC cZ cS mm tl tb dy L nS lg ac su hn hR sd rf pn pB xf xp mw) (hP : va_P D vwCl (xw ++ mw) H) (hD : va_D A (xw ++ mw)) (hS : va_S A s.heap H locs) (hl : lv_has ls 4 [(3, .int (nI i)), (2, .ref mm), (1, .ref x0), (0, .ref b)]) (K : ∀ (tl : Nat) (tb : Nat → Nat) (dy : Nat) (L : LkS) (nS : KN) (lg : KLg) (ac : Nat) (su : Nat → KN) (hn : Nat) (hR : Nat → Nat) (sd : Nat) (rf : Nat → Int32) (pn : Nat) (pB : Nat → Nat) (xf : Int32) (xp : Int32) (xw mw : va_W) (H : Heap) (locs : List Loc) (ls : Array Slot), kOk L dy nS lg ac su hn hR sd → xI cI cJ cC cZ cS x0 tl tb dy L nS lg ac su hn hR sd rf pn pB xf xp xw → mI cI cJ cC cZ cS mm tl tb dy L nS lg ac su hn hR sd rf pn pB xf xp mw → va_P D vwCl (xw ++ mw) H → va_D A (xw ++ mw) → va_S A s.heap H locs → lv_has ls 4 [(3, .int (nI i)), (2, .ref mm), (1, .ref x0), (0, .ref b)] → W p l e room_1 s m #[Value.ref b] below meth c H locs 182 32192 (lw_Z below #[Value.ref b] s) (F0 m 1171 ls [])) : W p l e room_1 s m #[Value.ref b] below meth c H locs 182 32192 (lw_Z below #[Value.ref b] s) (F0 m 303 ls []) := by
  obtain ⟨hx, hb, hr, hml, hlocks, hown, hts, hX, hbl, hA, hbA, hAf, hK, hZ, hL⟩ := id E
  refine lv_aload_n hx hb dL_law_303 rfl (lv_at hl 2 rfl) ?_
  refine lv_aload_n hx hb dL_law_304 rfl (lv_at hl 3 rfl) ?_
  refine lv_iload_n hx hb dL_law_305 rfl (lv_at hl 0 rfl) ?_
  refine lv_iconst (v := 1) hx hb dL_law_306 ic_1 ?_
  refine lv_iadd hx hb dL_law_307 ?_
  refine sk_top (nI (i + 1)) (nI_add i 1) ?_
  refine va_sld hx hb hX hbl hbA hS (vin (i + 1) Ln (by omega) (by omega)) dL_law_308 ?_
  obtain ⟨_, hdx⟩ := xI_head hI
  refine sk_Vi (q0 := 0) (n := 1) (rest := []) (wr := mw) ⟨hx, hb, hml, hown, hts⟩ hl.1 (xc_fault l D cI cJ cC cZ cS x0 tl tb dy L nS lg ac su hn hR sd rf pn pB xf xp xw (xs (nI (i + 1)).toNatClampNeg) hk hI) w_3_165 w_3_166 w_3_167 w_1_1 w_3_168 (by decide +kernel) ⟨⟨(Nat.le_of_ble_eq_true rfl), (Nat.le_of_ble_eq_true rfl)⟩, (Nat.le_of_ble_eq_true rfl), (Nat.le_of_ble_eq_true rfl)⟩ hK hP hD hS hA (idx 0 xw) (idx xw.length mw) (idx_C xw mw) (idx_R xw mw) (idx_nd 0 xw) (idx_nd _ mw) (idx_dis xw mw) hdx rfl rfl rfl (Nat.le_of_ble_eq_true rfl) dL_law_309 (fun rx ux H locs hw hP hD hS => ?_)
  obtain ⟨hI2, hkx⟩ := hw
  have hP : va_P D vwCl (mw ++ ux) H := hP
  refine lv_pop hx hb dL_law_312 rfl ?_
  refine lv_aload_n hx hb dL_law_313 rfl (lv_at hl 1 rfl) ?_
  refine lv_aload_n hx hb dL_law_314 rfl (lv_at hl 3 rfl) ?_
  refine lv_iload_n hx hb dL_law_315 rfl (lv_at hl 0 rfl) ?_
  refine lv_iconst (v := 1) hx hb dL_law_316 ic_1 ?_
  refine lv_iadd hx hb dL_law_317 ?_
  refine sk_top (nI (i + 1)) (nI_add i 1) ?_
  refine va_sld hx hb hX hbl hbA hS (vin (i + 1) Ln (by omega) (by omega)) dL_law_318 ?_
  obtain ⟨_, hdm⟩ := mI_head hJ
  refine sk_Vi (q0 := 0) (n := 1) (rest := []) (wr := ux) ⟨hx, hb, hml, hown, hts⟩ hl.1 (mc_fault l D cI cJ cC cZ cS mm tl tb dy L nS lg ac su hn hR sd rf pn pB xf xp mw (xs (nI (i + 1)).toNatClampNeg) hk hJ) w_7_90 w_7_91 w_7_92 w_1_14 w_7_93 (by decide +kernel) ⟨⟨(Nat.le_of_ble_eq_true rfl), (Nat.le_of_ble_eq_true rfl)⟩, (Nat.le_of_ble_eq_true rfl), (Nat.le_of_ble_eq_true rfl)⟩ hK hP hD hS hA (idx 0 mw) (idx mw.length ux) (idx_C mw ux) (idx_R mw ux) (idx_nd 0 mw) (idx_nd _ ux) (idx_dis mw ux) hdm rfl rfl rfl (Nat.le_of_ble_eq_true rfl) dL_law_319 (fun rm um H locs hw hP hD hS => ?_)
  obtain ⟨hJ2, hkm⟩ := hw
  have hre := ftO_eq hkx hkm
  have hk2 := hk
  refine lv_pop hx hb dL_law_322 rfl ?_
  refine lv_goto (tgt := 1171) hx hb dL_law_323 (by decide) ?_
  exact K _ _ _ _ _ _ _ _ _ _ _ _ _ _ _ _ _ _ _ _ _ hk2 hI2 hJ2 hP hD hS hl
theorem dg_L_law_326_326 : bqL cL_law 326 [(0, [43]), (1, [42]), (2, [29]), (3, [4]), (4, [96]), (5, [46]), (6, [182, 0, 33]), (9, [87]), (10, [44]), (11, [42]), (12, [29]), (13, [4]), (14, [96]), (15, [46]), (16, [182, 0, 36]), (19, [87]), (20, [167, 3, 57])] = true := by decide +kernel
theorem dL_law_326 : decode cL_law 326 = .ok (.aload_n 1, 1) := q_aload_n1 (bat_get dg_L_law_326_326 0 rfl rfl)
theorem dL_law_327 : decode cL_law 327 = .ok (.aload_n 0, 1) := q_aload_n0 (bat_get dg_L_law_326_326 1 rfl rfl)
theorem dL_law_328 : decode cL_law 328 = .ok (.iload_n 3, 1) := q_iload_n3 (bat_get dg_L_law_326_326 2 rfl rfl)
theorem dL_law_329 : decode cL_law 329 = .ok (.iconst 1, 1) := q_iconst1 (bat_get dg_L_law_326_326 3 rfl rfl)
theorem dL_law_330 : decode cL_law 330 = .ok (.iadd, 1) := q_iadd (bat_get dg_L_law_326_326 4 rfl rfl)
theorem dL_law_331 : decode cL_law 331 = .ok (.iaload, 1) := q_iaload (bat_get dg_L_law_326_326 5 rfl rfl)
theorem dL_law_332 : decode cL_law 332 = .ok (.invokevirtual 33, 3) := q_invokevirtual (bat_get dg_L_law_326_326 6 rfl rfl) rfl
theorem dL_law_335 : decode cL_law 335 = .ok (.pop, 1) := q_pop (bat_get dg_L_law_326_326 7 rfl rfl)
theorem dL_law_336 : decode cL_law 336 = .ok (.aload_n 2, 1) := q_aload_n2 (bat_get dg_L_law_326_326 8 rfl rfl)
theorem dL_law_337 : decode cL_law 337 = .ok (.aload_n 0, 1) := q_aload_n0 (bat_get dg_L_law_326_326 9 rfl rfl)
theorem dL_law_338 : decode cL_law 338 = .ok (.iload_n 3, 1) := q_iload_n3 (bat_get dg_L_law_326_326 10 rfl rfl)
theorem dL_law_339 : decode cL_law 339 = .ok (.iconst 1, 1) := q_iconst1 (bat_get dg_L_law_326_326 11 rfl rfl)
theorem dL_law_340 : decode cL_law 340 = .ok (.iadd, 1) := q_iadd (bat_get dg_L_law_326_326 12 rfl rfl)
theorem dL_law_341 : decode cL_law 341 = .ok (.iaload, 1) := q_iaload (bat_get dg_L_law_326_326 13 rfl rfl)
theorem dL_law_342 : decode cL_law 342 = .ok (.invokevirtual 36, 3) := q_invokevirtual (bat_get dg_L_law_326_326 14 rfl rfl) rfl
theorem dL_law_345 : decode cL_law 345 = .ok (.pop, 1) := q_pop (bat_get dg_L_law_326_326 15 rfl rfl)
theorem dL_law_346 : decode cL_law 346 = .ok (.goto 825, 3) := q_goto (bat_get dg_L_law_326_326 16 rfl rfl) rfl
theorem w_3_169 : (Cond.methodLink RL 33 yX11_has) ∈ wsL_law := sk_mem (ck_3 _ (List.mem_of_getElem? (i := 169) rfl)) rfl
theorem w_3_170 : (Cond.instanceMethod yX11_has) ∈ wsL_law := sk_mem (ck_3 _ (List.mem_of_getElem? (i := 170) rfl)) rfl
theorem w_3_171 : (Cond.selects RX11 yX11_has yX11_has) ∈ wsL_law := sk_mem (ck_3 _ (List.mem_of_getElem? (i := 171) rfl)) rfl
theorem w_7_94 : (Cond.methodLink RL 36 yX12_has) ∈ wsL_law := sk_mem (ck_7 _ (List.mem_of_getElem? (i := 94) rfl)) rfl
theorem w_7_95 : (Cond.instanceMethod yX12_has) ∈ wsL_law := sk_mem (ck_7 _ (List.mem_of_getElem? (i := 95) rfl)) rfl
theorem w_7_96 : (Cond.selects RX12 yX12_has yX12_has) ∈ wsL_law := sk_mem (ck_7 _ (List.mem_of_getElem? (i := 96) rfl)) rfl
set_option maxHeartbeats 4000000 in
set_option maxRecDepth 100000 in
theorem law_4 (l : Launch) (D : va_G) (cI cJ cC cZ cS : ClassId) (zk zv : Nat) (zf : Value) (x0 mm i : Nat) (tl : Nat) (tb : Nat → Nat) (dy : Nat) (L : LkS) (nS : KN) (lg : KLg) (ac : Nat) (su : Nat → KN) (hn : Nat) (hR : Nat → Nat) (sd : Nat) (rf : Nat → Int32) (pn : Nat) (pB : Nat → Nat) (xf : Int32) (xp : Int32) (xw mw : va_W) {p : Program} {e : Env} {s : State} {m : MethodId} {below : List Frame} {meth : Method} {c : Code} {b Ln : Nat} {xs : Nat → Int32} {A : Nat → Prop} {H : Heap} {locs : List Loc} {ls : Array Slot} (E : lwE p s m meth c b Ln xs zk zv zf D (skT cI cJ cC cZ cS) A) (hi6 : i + 6 ≤ Ln) (hk : kOk L dy nS lg ac su hn hR sd) (hI : xI cI cJ cC cZ cS x0 tl tb dy L nS lg ac su hn hR sd rf pn pB xf xp xw) (hJ : mI cI cJ cC cZ cS mm tl tb dy L nS lg ac su hn hR sd rf pn pB xf xp mw) (hP : va_P D vwCl (xw ++ mw) H) (hD : va_D A (xw ++ mw)) (hS : va_S A s.heap H locs) (hl : lv_has ls 4 [(3, .int (nI i)), (2, .ref mm), (1, .ref x0), (0, .ref b)]) (K : ∀ (tl : Nat) (tb : Nat → Nat) (dy : Nat) (L : LkS) (nS : KN) (lg : KLg) (ac : Nat) (su : Nat → KN) (hn : Nat) (hR : Nat → Nat) (sd : Nat) (rf : Nat → Int32) (pn : Nat) (pB : Nat → Nat) (xf : Int32) (xp : Int32) (xw mw : va_W) (H : Heap) (locs : List Loc) (ls : Array Slot), kOk L dy nS lg ac su hn hR sd → xI cI cJ cC cZ cS x0 tl tb dy L nS lg ac su hn hR sd rf pn pB xf xp xw → mI cI cJ cC cZ cS mm tl tb dy L nS lg ac su hn hR sd rf pn pB xf xp mw → va_P D vwCl (xw ++ mw) H → va_D A (xw ++ mw) → va_S A s.heap H locs → lv_has ls 4 [(3, .int (nI i)), (2, .ref mm), (1, .ref x0), (0, .ref b)] → W p l e room_1 s m #[Value.ref b] below meth c H locs 182 32192 (lw_Z below #[Value.ref b] s) (F0 m 1171 ls [])) : W p l e room_1 s m #[Value.ref b] below meth c H locs 182 32192 (lw_Z below #[Value.ref b] s) (F0 m 326 ls []) := by
  obtain ⟨hx, hb, hr, hml, hlocks, hown, hts, hX, hbl, hA, hbA, hAf, hK, hZ, hL⟩ := id E
  refine lv_aload_n hx hb dL_law_326 rfl (lv_at hl 2 rfl) ?_
  refine lv_aload_n hx hb dL_law_327 rfl (lv_at hl 3 rfl) ?_
  refine lv_iload_n hx hb dL_law_328 rfl (lv_at hl 0 rfl) ?_
  refine lv_iconst (v := 1) hx hb dL_law_329 ic_1 ?_
  refine lv_iadd hx hb dL_law_330 ?_
  refine sk_top (nI (i + 1)) (nI_add i 1) ?_
  refine va_sld hx hb hX hbl hbA hS (vin (i + 1) Ln (by omega) (by omega)) dL_law_331 ?_
  obtain ⟨_, hdx⟩ := xI_head hI
  refine sk_Vi (q0 := 0) (n := 1) (rest := []) (wr := mw) ⟨hx, hb, hml, hown, hts⟩ hl.1 (xc_has l D cI cJ cC cZ cS x0 tl tb dy L nS lg ac su hn hR sd rf pn pB xf xp xw (xs (nI (i + 1)).toNatClampNeg) hk hI) w_3_169 w_3_170 w_3_171 w_1_1 w_3_172 (by decide +kernel) ⟨⟨(Nat.le_of_ble_eq_true rfl), (Nat.le_of_ble_eq_true rfl)⟩, (Nat.le_of_ble_eq_true rfl), (Nat.le_of_ble_eq_true rfl)⟩ hK hP hD hS hA (idx 0 xw) (idx xw.length mw) (idx_C xw mw) (idx_R xw mw) (idx_nd 0 xw) (idx_nd _ mw) (idx_dis xw mw) hdx rfl rfl rfl (Nat.le_of_ble_eq_true rfl) dL_law_332 (fun rx ux H locs hw hP hD hS => ?_)
  obtain ⟨hI2, hkx⟩ := hw
  have hP : va_P D vwCl (mw ++ ux) H := hP
  refine lv_pop hx hb dL_law_335 rfl ?_
  refine lv_aload_n hx hb dL_law_336 rfl (lv_at hl 1 rfl) ?_
  refine lv_aload_n hx hb dL_law_337 rfl (lv_at hl 3 rfl) ?_
  refine lv_iload_n hx hb dL_law_338 rfl (lv_at hl 0 rfl) ?_
  refine lv_iconst (v := 1) hx hb dL_law_339 ic_1 ?_
  refine lv_iadd hx hb dL_law_340 ?_
  refine sk_top (nI (i + 1)) (nI_add i 1) ?_
  refine va_sld hx hb hX hbl hbA hS (vin (i + 1) Ln (by omega) (by omega)) dL_law_341 ?_
  obtain ⟨_, hdm⟩ := mI_head hJ
  refine sk_Vi (q0 := 0) (n := 1) (rest := []) (wr := ux) ⟨hx, hb, hml, hown, hts⟩ hl.1 (mc_has l D cI cJ cC cZ cS mm tl tb dy L nS lg ac su hn hR sd rf pn pB xf xp mw (xs (nI (i + 1)).toNatClampNeg) hk hJ) w_7_94 w_7_95 w_7_96 w_1_14 w_7_97 (by decide +kernel) ⟨⟨(Nat.le_of_ble_eq_true rfl), (Nat.le_of_ble_eq_true rfl)⟩, (Nat.le_of_ble_eq_true rfl), (Nat.le_of_ble_eq_true rfl)⟩ hK hP hD hS hA (idx 0 mw) (idx mw.length ux) (idx_C mw ux) (idx_R mw ux) (idx_nd 0 mw) (idx_nd _ ux) (idx_dis mw ux) hdm rfl rfl rfl (Nat.le_of_ble_eq_true rfl) dL_law_342 (fun rm um H locs hw hP hD hS => ?_)
  obtain ⟨hJ2, hkm⟩ := hw
  have hre := hkx.trans hkm.symm
  have hk2 := hk
  refine lv_pop hx hb dL_law_345 rfl ?_
  refine lv_goto (tgt := 1171) hx hb dL_law_346 (by decide) ?_
  exact K _ _ _ _ _ _ _ _ _ _ _ _ _ _ _ _ _ _ _ _ _ hk2 hI2 hJ2 hP hD hS hl
theorem dg_L_law_349_349 : bqL cL_law 349 [(0, [43]), (1, [42]), (2, [29]), (3, [4]), (4, [96]), (5, [46]), (6, [42]), (7, [29]), (8, [5]), (9, [96]), (10, [46]), (11, [182, 0, 37]), (14, [87]), (15, [44]), (16, [42]), (17, [29]), (18, [4]), (19, [96]), (20, [46]), (21, [42]), (22, [29]), (23, [5]), (24, [96]), (25, [46]), (26, [182, 0, 41]), (29, [87]), (30, [167, 3, 24])] = true := by decide +kernel
theorem dL_law_349 : decode cL_law 349 = .ok (.aload_n 1, 1) := q_aload_n1 (bat_get dg_L_law_349_349 0 rfl rfl)
theorem dL_law_350 : decode cL_law 350 = .ok (.aload_n 0, 1) := q_aload_n0 (bat_get dg_L_law_349_349 1 rfl rfl)
theorem dL_law_351 : decode cL_law 351 = .ok (.iload_n 3, 1) := q_iload_n3 (bat_get dg_L_law_349_349 2 rfl rfl)
theorem dL_law_352 : decode cL_law 352 = .ok (.iconst 1, 1) := q_iconst1 (bat_get dg_L_law_349_349 3 rfl rfl)
theorem dL_law_353 : decode cL_law 353 = .ok (.iadd, 1) := q_iadd (bat_get dg_L_law_349_349 4 rfl rfl)
theorem dL_law_354 : decode cL_law 354 = .ok (.iaload, 1) := q_iaload (bat_get dg_L_law_349_349 5 rfl rfl)
theorem dL_law_355 : decode cL_law 355 = .ok (.aload_n 0, 1) := q_aload_n0 (bat_get dg_L_law_349_349 6 rfl rfl)
theorem dL_law_356 : decode cL_law 356 = .ok (.iload_n 3, 1) := q_iload_n3 (bat_get dg_L_law_349_349 7 rfl rfl)
theorem dL_law_357 : decode cL_law 357 = .ok (.iconst 2, 1) := q_iconst2 (bat_get dg_L_law_349_349 8 rfl rfl)
theorem dL_law_358 : decode cL_law 358 = .ok (.iadd, 1) := q_iadd (bat_get dg_L_law_349_349 9 rfl rfl)
theorem dL_law_359 : decode cL_law 359 = .ok (.iaload, 1) := q_iaload (bat_get dg_L_law_349_349 10 rfl rfl)
theorem dL_law_360 : decode cL_law 360 = .ok (.invokevirtual 37, 3) := q_invokevirtual (bat_get dg_L_law_349_349 11 rfl rfl) rfl
theorem dL_law_363 : decode cL_law 363 = .ok (.pop, 1) := q_pop (bat_get dg_L_law_349_349 12 rfl rfl)
theorem dL_law_364 : decode cL_law 364 = .ok (.aload_n 2, 1) := q_aload_n2 (bat_get dg_L_law_349_349 13 rfl rfl)
theorem dL_law_365 : decode cL_law 365 = .ok (.aload_n 0, 1) := q_aload_n0 (bat_get dg_L_law_349_349 14 rfl rfl)
theorem dL_law_366 : decode cL_law 366 = .ok (.iload_n 3, 1) := q_iload_n3 (bat_get dg_L_law_349_349 15 rfl rfl)
theorem dL_law_367 : decode cL_law 367 = .ok (.iconst 1, 1) := q_iconst1 (bat_get dg_L_law_349_349 16 rfl rfl)
theorem dL_law_368 : decode cL_law 368 = .ok (.iadd, 1) := q_iadd (bat_get dg_L_law_349_349 17 rfl rfl)
theorem dL_law_369 : decode cL_law 369 = .ok (.iaload, 1) := q_iaload (bat_get dg_L_law_349_349 18 rfl rfl)
theorem dL_law_370 : decode cL_law 370 = .ok (.aload_n 0, 1) := q_aload_n0 (bat_get dg_L_law_349_349 19 rfl rfl)
theorem dL_law_371 : decode cL_law 371 = .ok (.iload_n 3, 1) := q_iload_n3 (bat_get dg_L_law_349_349 20 rfl rfl)
theorem dL_law_372 : decode cL_law 372 = .ok (.iconst 2, 1) := q_iconst2 (bat_get dg_L_law_349_349 21 rfl rfl)
theorem dL_law_373 : decode cL_law 373 = .ok (.iadd, 1) := q_iadd (bat_get dg_L_law_349_349 22 rfl rfl)
theorem dL_law_374 : decode cL_law 374 = .ok (.iaload, 1) := q_iaload (bat_get dg_L_law_349_349 23 rfl rfl)
theorem dL_law_375 : decode cL_law 375 = .ok (.invokevirtual 41, 3) := q_invokevirtual (bat_get dg_L_law_349_349 24 rfl rfl) rfl
theorem dL_law_378 : decode cL_law 378 = .ok (.pop, 1) := q_pop (bat_get dg_L_law_349_349 25 rfl rfl)
theorem dL_law_379 : decode cL_law 379 = .ok (.goto 792, 3) := q_goto (bat_get dg_L_law_349_349 26 rfl rfl) rfl
theorem w_3_186 : (Cond.methodLink RL 37 yX11_day) ∈ wsL_law := sk_mem (ck_3 _ (List.mem_of_getElem? (i := 186) rfl)) rfl
theorem w_3_187 : (Cond.instanceMethod yX11_day) ∈ wsL_law := sk_mem (ck_3 _ (List.mem_of_getElem? (i := 187) rfl)) rfl
theorem w_3_188 : (Cond.selects RX11 yX11_day yX11_day) ∈ wsL_law := sk_mem (ck_3 _ (List.mem_of_getElem? (i := 188) rfl)) rfl
theorem w_7_113 : (Cond.methodLink RL 41 yX12_day) ∈ wsL_law := sk_mem (ck_7 _ (List.mem_of_getElem? (i := 113) rfl)) rfl
theorem w_7_114 : (Cond.instanceMethod yX12_day) ∈ wsL_law := sk_mem (ck_7 _ (List.mem_of_getElem? (i := 114) rfl)) rfl
theorem w_7_115 : (Cond.selects RX12 yX12_day yX12_day) ∈ wsL_law := sk_mem (ck_7 _ (List.mem_of_getElem? (i := 115) rfl)) rfl
set_option maxHeartbeats 4000000 in
set_option maxRecDepth 100000 in
theorem law_5 (l : Launch) (D : va_G) (cI cJ cC cZ cS : ClassId) (zk zv : Nat) (zf : Value) (x0 mm i : Nat) (tl : Nat) (tb : Nat → Nat) (dy : Nat) (L : LkS) (nS : KN) (lg : KLg) (ac : Nat) (su : Nat → KN) (hn : Nat) (hR : Nat → Nat) (sd : Nat) (rf : Nat → Int32) (pn : Nat) (pB : Nat → Nat) (xf : Int32) (xp : Int32) (xw mw : va_W) {p : Program} {e : Env} {s : State} {m : MethodId} {below : List Frame} {meth : Method} {c : Code} {b Ln : Nat} {xs : Nat → Int32} {A : Nat → Prop} {H : Heap} {locs : List Loc} {ls : Array Slot} (E : lwE p s m meth c b Ln xs zk zv zf D (skT cI cJ cC cZ cS) A) (hi6 : i + 6 ≤ Ln) (hk : kOk L dy nS lg ac su hn hR sd) (hI : xI cI cJ cC cZ cS x0 tl tb dy L nS lg ac su hn hR sd rf pn pB xf xp xw) (hJ : mI cI cJ cC cZ cS mm tl tb dy L nS lg ac su hn hR sd rf pn pB xf xp mw) (hP : va_P D vwCl (xw ++ mw) H) (hD : va_D A (xw ++ mw)) (hS : va_S A s.heap H locs) (hl : lv_has ls 4 [(3, .int (nI i)), (2, .ref mm), (1, .ref x0), (0, .ref b)]) (K : ∀ (tl : Nat) (tb : Nat → Nat) (dy : Nat) (L : LkS) (nS : KN) (lg : KLg) (ac : Nat) (su : Nat → KN) (hn : Nat) (hR : Nat → Nat) (sd : Nat) (rf : Nat → Int32) (pn : Nat) (pB : Nat → Nat) (xf : Int32) (xp : Int32) (xw mw : va_W) (H : Heap) (locs : List Loc) (ls : Array Slot), kOk L dy nS lg ac su hn hR sd → xI cI cJ cC cZ cS x0 tl tb dy L nS lg ac su hn hR sd rf pn pB xf xp xw → mI cI cJ cC cZ cS mm tl tb dy L nS lg ac su hn hR sd rf pn pB xf xp mw → va_P D vwCl (xw ++ mw) H → va_D A (xw ++ mw) → va_S A s.heap H locs → lv_has ls 4 [(3, .int (nI i)), (2, .ref mm), (1, .ref x0), (0, .ref b)] → W p l e room_1 s m #[Value.ref b] below meth c H locs 182 32192 (lw_Z below #[Value.ref b] s) (F0 m 1171 ls [])) : W p l e room_1 s m #[Value.ref b] below meth c H locs 182 32192 (lw_Z below #[Value.ref b] s) (F0 m 349 ls []) := by
  obtain ⟨hx, hb, hr, hml, hlocks, hown, hts, hX, hbl, hA, hbA, hAf, hK, hZ, hL⟩ := id E
  refine lv_aload_n hx hb dL_law_349 rfl (lv_at hl 2 rfl) ?_
  refine lv_aload_n hx hb dL_law_350 rfl (lv_at hl 3 rfl) ?_
  refine lv_iload_n hx hb dL_law_351 rfl (lv_at hl 0 rfl) ?_
  refine lv_iconst (v := 1) hx hb dL_law_352 ic_1 ?_
  refine lv_iadd hx hb dL_law_353 ?_
  refine sk_top (nI (i + 1)) (nI_add i 1) ?_
  refine va_sld hx hb hX hbl hbA hS (vin (i + 1) Ln (by omega) (by omega)) dL_law_354 ?_
  refine lv_aload_n hx hb dL_law_355 rfl (lv_at hl 3 rfl) ?_
  refine lv_iload_n hx hb dL_law_356 rfl (lv_at hl 0 rfl) ?_
  refine lv_iconst (v := 2) hx hb dL_law_357 ic_2 ?_
  refine lv_iadd hx hb dL_law_358 ?_
  refine sk_top (nI (i + 2)) (nI_add i 2) ?_
  refine va_sld hx hb hX hbl hbA hS (vin (i + 2) Ln (by omega) (by omega)) dL_law_359 ?_
  obtain ⟨_, hdx⟩ := xI_head hI
  refine sk_Vi (q0 := 0) (n := 2) (rest := []) (wr := mw) ⟨hx, hb, hml, hown, hts⟩ hl.1 (xc_day l D cI cJ cC cZ cS x0 tl tb dy L nS lg ac su hn hR sd rf pn pB xf xp xw (xs (nI (i + 1)).toNatClampNeg) (xs (nI (i + 2)).toNatClampNeg) hk hI) w_3_186 w_3_187 w_3_188 w_1_1 w_3_189 (by decide +kernel) ⟨⟨(Nat.le_of_ble_eq_true rfl), (Nat.le_of_ble_eq_true rfl)⟩, (Nat.le_of_ble_eq_true rfl), (Nat.le_of_ble_eq_true rfl)⟩ hK hP hD hS hA (idx 0 xw) (idx xw.length mw) (idx_C xw mw) (idx_R xw mw) (idx_nd 0 xw) (idx_nd _ mw) (idx_dis xw mw) hdx rfl rfl rfl (Nat.le_of_ble_eq_true rfl) dL_law_360 (fun rx ux H locs hw hP hD hS => ?_)
  obtain ⟨hI2, hkx⟩ := hw
  have hP : va_P D vwCl (mw ++ ux) H := hP
  refine lv_pop hx hb dL_law_363 rfl ?_
  refine lv_aload_n hx hb dL_law_364 rfl (lv_at hl 1 rfl) ?_
  refine lv_aload_n hx hb dL_law_365 rfl (lv_at hl 3 rfl) ?_
  refine lv_iload_n hx hb dL_law_366 rfl (lv_at hl 0 rfl) ?_
  refine lv_iconst (v := 1) hx hb dL_law_367 ic_1 ?_
  refine lv_iadd hx hb dL_law_368 ?_
  refine sk_top (nI (i + 1)) (nI_add i 1) ?_
  refine va_sld hx hb hX hbl hbA hS (vin (i + 1) Ln (by omega) (by omega)) dL_law_369 ?_
  refine lv_aload_n hx hb dL_law_370 rfl (lv_at hl 3 rfl) ?_
  refine lv_iload_n hx hb dL_law_371 rfl (lv_at hl 0 rfl) ?_
  refine lv_iconst (v := 2) hx hb dL_law_372 ic_2 ?_
  refine lv_iadd hx hb dL_law_373 ?_
  refine sk_top (nI (i + 2)) (nI_add i 2) ?_
  refine va_sld hx hb hX hbl hbA hS (vin (i + 2) Ln (by omega) (by omega)) dL_law_374 ?_
  obtain ⟨_, hdm⟩ := mI_head hJ
  refine sk_Vi (q0 := 0) (n := 2) (rest := []) (wr := ux) ⟨hx, hb, hml, hown, hts⟩ hl.1 (mc_day l D cI cJ cC cZ cS mm tl tb dy L nS lg ac su hn hR sd rf pn pB xf xp mw (xs (nI (i + 1)).toNatClampNeg) (xs (nI (i + 2)).toNatClampNeg) hk hJ) w_7_113 w_7_114 w_7_115 w_1_14 w_7_116 (by decide +kernel) ⟨⟨(Nat.le_of_ble_eq_true rfl), (Nat.le_of_ble_eq_true rfl)⟩, (Nat.le_of_ble_eq_true rfl), (Nat.le_of_ble_eq_true rfl)⟩ hK hP hD hS hA (idx 0 mw) (idx mw.length ux) (idx_C mw ux) (idx_R mw ux) (idx_nd 0 mw) (idx_nd _ ux) (idx_dis mw ux) hdm rfl rfl rfl (Nat.le_of_ble_eq_true rfl) dL_law_375 (fun rm um H locs hw hP hD hS => ?_)
  obtain ⟨hJ2, hkm⟩ := hw
  have hre := dayR_eq hk.2.2.1 hkx hkm
  have hk2 := hk
  refine lv_pop hx hb dL_law_378 rfl ?_
  refine lv_goto (tgt := 1171) hx hb dL_law_379 (by decide) ?_
  exact K _ _ _ _ _ _ _ _ _ _ _ _ _ _ _ _ _ _ _ _ _ hk2 hI2 hJ2 hP hD hS hl
theorem dg_L_law_382_382 : bqL cL_law 382 [(0, [43]), (1, [42]), (2, [29]), (3, [4]), (4, [96]), (5, [46]), (6, [42]), (7, [29]), (8, [5]), (9, [96]), (10, [46]), (11, [182, 0, 42]), (14, [87]), (15, [44]), (16, [42]), (17, [29]), (18, [4]), (19, [96]), (20, [46]), (21, [42]), (22, [29]), (23, [5]), (24, [96]), (25, [46]), (26, [182, 0, 45]), (29, [87]), (30, [167, 2, 247])] = true := by decide +kernel
theorem dL_law_382 : decode cL_law 382 = .ok (.aload_n 1, 1) := q_aload_n1 (bat_get dg_L_law_382_382 0 rfl rfl)
theorem dL_law_383 : decode cL_law 383 = .ok (.aload_n 0, 1) := q_aload_n0 (bat_get dg_L_law_382_382 1 rfl rfl)
theorem dL_law_384 : decode cL_law 384 = .ok (.iload_n 3, 1) := q_iload_n3 (bat_get dg_L_law_382_382 2 rfl rfl)
theorem dL_law_385 : decode cL_law 385 = .ok (.iconst 1, 1) := q_iconst1 (bat_get dg_L_law_382_382 3 rfl rfl)
theorem dL_law_386 : decode cL_law 386 = .ok (.iadd, 1) := q_iadd (bat_get dg_L_law_382_382 4 rfl rfl)
theorem dL_law_387 : decode cL_law 387 = .ok (.iaload, 1) := q_iaload (bat_get dg_L_law_382_382 5 rfl rfl)
theorem dL_law_388 : decode cL_law 388 = .ok (.aload_n 0, 1) := q_aload_n0 (bat_get dg_L_law_382_382 6 rfl rfl)
theorem dL_law_389 : decode cL_law 389 = .ok (.iload_n 3, 1) := q_iload_n3 (bat_get dg_L_law_382_382 7 rfl rfl)
theorem dL_law_390 : decode cL_law 390 = .ok (.iconst 2, 1) := q_iconst2 (bat_get dg_L_law_382_382 8 rfl rfl)
theorem dL_law_391 : decode cL_law 391 = .ok (.iadd, 1) := q_iadd (bat_get dg_L_law_382_382 9 rfl rfl)
theorem dL_law_392 : decode cL_law 392 = .ok (.iaload, 1) := q_iaload (bat_get dg_L_law_382_382 10 rfl rfl)
theorem dL_law_393 : decode cL_law 393 = .ok (.invokevirtual 42, 3) := q_invokevirtual (bat_get dg_L_law_382_382 11 rfl rfl) rfl
theorem dL_law_396 : decode cL_law 396 = .ok (.pop, 1) := q_pop (bat_get dg_L_law_382_382 12 rfl rfl)
theorem dL_law_397 : decode cL_law 397 = .ok (.aload_n 2, 1) := q_aload_n2 (bat_get dg_L_law_382_382 13 rfl rfl)
theorem dL_law_398 : decode cL_law 398 = .ok (.aload_n 0, 1) := q_aload_n0 (bat_get dg_L_law_382_382 14 rfl rfl)
theorem dL_law_399 : decode cL_law 399 = .ok (.iload_n 3, 1) := q_iload_n3 (bat_get dg_L_law_382_382 15 rfl rfl)
theorem dL_law_400 : decode cL_law 400 = .ok (.iconst 1, 1) := q_iconst1 (bat_get dg_L_law_382_382 16 rfl rfl)
theorem dL_law_401 : decode cL_law 401 = .ok (.iadd, 1) := q_iadd (bat_get dg_L_law_382_382 17 rfl rfl)
theorem dL_law_402 : decode cL_law 402 = .ok (.iaload, 1) := q_iaload (bat_get dg_L_law_382_382 18 rfl rfl)
theorem dL_law_403 : decode cL_law 403 = .ok (.aload_n 0, 1) := q_aload_n0 (bat_get dg_L_law_382_382 19 rfl rfl)
theorem dL_law_404 : decode cL_law 404 = .ok (.iload_n 3, 1) := q_iload_n3 (bat_get dg_L_law_382_382 20 rfl rfl)
theorem dL_law_405 : decode cL_law 405 = .ok (.iconst 2, 1) := q_iconst2 (bat_get dg_L_law_382_382 21 rfl rfl)
theorem dL_law_406 : decode cL_law 406 = .ok (.iadd, 1) := q_iadd (bat_get dg_L_law_382_382 22 rfl rfl)
theorem dL_law_407 : decode cL_law 407 = .ok (.iaload, 1) := q_iaload (bat_get dg_L_law_382_382 23 rfl rfl)
theorem dL_law_408 : decode cL_law 408 = .ok (.invokevirtual 45, 3) := q_invokevirtual (bat_get dg_L_law_382_382 24 rfl rfl) rfl
theorem dL_law_411 : decode cL_law 411 = .ok (.pop, 1) := q_pop (bat_get dg_L_law_382_382 25 rfl rfl)
theorem dL_law_412 : decode cL_law 412 = .ok (.goto 759, 3) := q_goto (bat_get dg_L_law_382_382 26 rfl rfl) rfl
theorem w_3_198 : (Cond.methodLink RL 42 yX11_told) ∈ wsL_law := sk_mem (ck_3 _ (List.mem_of_getElem? (i := 198) rfl)) rfl
theorem w_3_199 : (Cond.instanceMethod yX11_told) ∈ wsL_law := sk_mem (ck_3 _ (List.mem_of_getElem? (i := 199) rfl)) rfl
theorem w_3_200 : (Cond.selects RX11 yX11_told yX11_told) ∈ wsL_law := sk_mem (ck_3 _ (List.mem_of_getElem? (i := 200) rfl)) rfl
theorem w_7_122 : (Cond.methodLink RL 45 yX12_told) ∈ wsL_law := sk_mem (ck_7 _ (List.mem_of_getElem? (i := 122) rfl)) rfl
theorem w_7_123 : (Cond.instanceMethod yX12_told) ∈ wsL_law := sk_mem (ck_7 _ (List.mem_of_getElem? (i := 123) rfl)) rfl
theorem w_7_124 : (Cond.selects RX12 yX12_told yX12_told) ∈ wsL_law := sk_mem (ck_7 _ (List.mem_of_getElem? (i := 124) rfl)) rfl
set_option maxHeartbeats 4000000 in
set_option maxRecDepth 100000 in
theorem law_6 (l : Launch) (D : va_G) (cI cJ cC cZ cS : ClassId) (zk zv : Nat) (zf : Value) (x0 mm i : Nat) (tl : Nat) (tb : Nat → Nat) (dy : Nat) (L : LkS) (nS : KN) (lg : KLg) (ac : Nat) (su : Nat → KN) (hn : Nat) (hR : Nat → Nat) (sd : Nat) (rf : Nat → Int32) (pn : Nat) (pB : Nat → Nat) (xf : Int32) (xp : Int32) (xw mw : va_W) {p : Program} {e : Env} {s : State} {m : MethodId} {below : List Frame} {meth : Method} {c : Code} {b Ln : Nat} {xs : Nat → Int32} {A : Nat → Prop} {H : Heap} {locs : List Loc} {ls : Array Slot} (E : lwE p s m meth c b Ln xs zk zv zf D (skT cI cJ cC cZ cS) A) (hi6 : i + 6 ≤ Ln) (hk : kOk L dy nS lg ac su hn hR sd) (hI : xI cI cJ cC cZ cS x0 tl tb dy L nS lg ac su hn hR sd rf pn pB xf xp xw) (hJ : mI cI cJ cC cZ cS mm tl tb dy L nS lg ac su hn hR sd rf pn pB xf xp mw) (hP : va_P D vwCl (xw ++ mw) H) (hD : va_D A (xw ++ mw)) (hS : va_S A s.heap H locs) (hl : lv_has ls 4 [(3, .int (nI i)), (2, .ref mm), (1, .ref x0), (0, .ref b)]) (K : ∀ (tl : Nat) (tb : Nat → Nat) (dy : Nat) (L : LkS) (nS : KN) (lg : KLg) (ac : Nat) (su : Nat → KN) (hn : Nat) (hR : Nat → Nat) (sd : Nat) (rf : Nat → Int32) (pn : Nat) (pB : Nat → Nat) (xf : Int32) (xp : Int32) (xw mw : va_W) (H : Heap) (locs : List Loc) (ls : Array Slot), kOk L dy nS lg ac su hn hR sd → xI cI cJ cC cZ cS x0 tl tb dy L nS lg ac su hn hR sd rf pn pB xf xp xw → mI cI cJ cC cZ cS mm tl tb dy L nS lg ac su hn hR sd rf pn pB xf xp mw → va_P D vwCl (xw ++ mw) H → va_D A (xw ++ mw) → va_S A s.heap H locs → lv_has ls 4 [(3, .int (nI i)), (2, .ref mm), (1, .ref x0), (0, .ref b)] → W p l e room_1 s m #[Value.ref b] below meth c H locs 182 32192 (lw_Z below #[Value.ref b] s) (F0 m 1171 ls [])) : W p l e room_1 s m #[Value.ref b] below meth c H locs 182 32192 (lw_Z below #[Value.ref b] s) (F0 m 382 ls []) := by
  obtain ⟨hx, hb, hr, hml, hlocks, hown, hts, hX, hbl, hA, hbA, hAf, hK, hZ, hL⟩ := id E
  refine lv_aload_n hx hb dL_law_382 rfl (lv_at hl 2 rfl) ?_
  refine lv_aload_n hx hb dL_law_383 rfl (lv_at hl 3 rfl) ?_
  refine lv_iload_n hx hb dL_law_384 rfl (lv_at hl 0 rfl) ?_
  refine lv_iconst (v := 1) hx hb dL_law_385 ic_1 ?_
  refine lv_iadd hx hb dL_law_386 ?_
  refine sk_top (nI (i + 1)) (nI_add i 1) ?_
  refine va_sld hx hb hX hbl hbA hS (vin (i + 1) Ln (by omega) (by omega)) dL_law_387 ?_
  refine lv_aload_n hx hb dL_law_388 rfl (lv_at hl 3 rfl) ?_
  refine lv_iload_n hx hb dL_law_389 rfl (lv_at hl 0 rfl) ?_
  refine lv_iconst (v := 2) hx hb dL_law_390 ic_2 ?_
  refine lv_iadd hx hb dL_law_391 ?_
  refine sk_top (nI (i + 2)) (nI_add i 2) ?_
  refine va_sld hx hb hX hbl hbA hS (vin (i + 2) Ln (by omega) (by omega)) dL_law_392 ?_
  obtain ⟨_, hdx⟩ := xI_head hI
  refine sk_Vi (q0 := 0) (n := 2) (rest := []) (wr := mw) ⟨hx, hb, hml, hown, hts⟩ hl.1 (xc_told l D cI cJ cC cZ cS x0 tl tb dy L nS lg ac su hn hR sd rf pn pB xf xp xw (xs (nI (i + 1)).toNatClampNeg) (xs (nI (i + 2)).toNatClampNeg) hk hI) w_3_198 w_3_199 w_3_200 w_1_1 w_3_201 (by decide +kernel) ⟨⟨(Nat.le_of_ble_eq_true rfl), (Nat.le_of_ble_eq_true rfl)⟩, (Nat.le_of_ble_eq_true rfl), (Nat.le_of_ble_eq_true rfl)⟩ hK hP hD hS hA (idx 0 xw) (idx xw.length mw) (idx_C xw mw) (idx_R xw mw) (idx_nd 0 xw) (idx_nd _ mw) (idx_dis xw mw) hdx rfl rfl rfl (Nat.le_of_ble_eq_true rfl) dL_law_393 (fun rx ux H locs hw hP hD hS => ?_)
  obtain ⟨hI2, hkx⟩ := hw
  have hP : va_P D vwCl (mw ++ ux) H := hP
  refine lv_pop hx hb dL_law_396 rfl ?_
  refine lv_aload_n hx hb dL_law_397 rfl (lv_at hl 1 rfl) ?_
  refine lv_aload_n hx hb dL_law_398 rfl (lv_at hl 3 rfl) ?_
  refine lv_iload_n hx hb dL_law_399 rfl (lv_at hl 0 rfl) ?_
  refine lv_iconst (v := 1) hx hb dL_law_400 ic_1 ?_
  refine lv_iadd hx hb dL_law_401 ?_
  refine sk_top (nI (i + 1)) (nI_add i 1) ?_
  refine va_sld hx hb hX hbl hbA hS (vin (i + 1) Ln (by omega) (by omega)) dL_law_402 ?_
  refine lv_aload_n hx hb dL_law_403 rfl (lv_at hl 3 rfl) ?_
  refine lv_iload_n hx hb dL_law_404 rfl (lv_at hl 0 rfl) ?_
  refine lv_iconst (v := 2) hx hb dL_law_405 ic_2 ?_
  refine lv_iadd hx hb dL_law_406 ?_
  refine sk_top (nI (i + 2)) (nI_add i 2) ?_
  refine va_sld hx hb hX hbl hbA hS (vin (i + 2) Ln (by omega) (by omega)) dL_law_407 ?_
  obtain ⟨_, hdm⟩ := mI_head hJ
  refine sk_Vi (q0 := 0) (n := 2) (rest := []) (wr := ux) ⟨hx, hb, hml, hown, hts⟩ hl.1 (mc_told l D cI cJ cC cZ cS mm tl tb dy L nS lg ac su hn hR sd rf pn pB xf xp mw (xs (nI (i + 1)).toNatClampNeg) (xs (nI (i + 2)).toNatClampNeg) hk hJ) w_7_122 w_7_123 w_7_124 w_1_14 w_7_125 (by decide +kernel) ⟨⟨(Nat.le_of_ble_eq_true rfl), (Nat.le_of_ble_eq_true rfl)⟩, (Nat.le_of_ble_eq_true rfl), (Nat.le_of_ble_eq_true rfl)⟩ hK hP hD hS hA (idx 0 mw) (idx mw.length ux) (idx_C mw ux) (idx_R mw ux) (idx_nd 0 mw) (idx_nd _ ux) (idx_dis mw ux) hdm rfl rfl rfl (Nat.le_of_ble_eq_true rfl) dL_law_408 (fun rm um H locs hw hP hD hS => ?_)
  obtain ⟨hJ2, hkm⟩ := hw
  have hre := toldR_eq hk.2.2.1 hkx hkm
  have hk2 := hk
  refine lv_pop hx hb dL_law_411 rfl ?_
  refine lv_goto (tgt := 1171) hx hb dL_law_412 (by decide) ?_
  exact K _ _ _ _ _ _ _ _ _ _ _ _ _ _ _ _ _ _ _ _ _ hk2 hI2 hJ2 hP hD hS hl
theorem dg_L_law_415_415 : bqL cL_law 415 [(0, [43]), (1, [42]), (2, [29]), (3, [4]), (4, [96]), (5, [46]), (6, [42]), (7, [29]), (8, [5]), (9, [96]), (10, [46]), (11, [42]), (12, [29]), (13, [6]), (14, [96]), (15, [46]), (16, [182, 0, 46]), (19, [87]), (20, [44]), (21, [42]), (22, [29]), (23, [4]), (24, [96]), (25, [46]), (26, [42]), (27, [29]), (28, [5]), (29, [96]), (30, [46]), (31, [42]), (32, [29]), (33, [6]), (34, [96]), (35, [46]), (36, [182, 0, 50]), (39, [87]), (40, [167, 2, 204])] = true := by decide +kernel
theorem dL_law_415 : decode cL_law 415 = .ok (.aload_n 1, 1) := q_aload_n1 (bat_get dg_L_law_415_415 0 rfl rfl)
theorem dL_law_416 : decode cL_law 416 = .ok (.aload_n 0, 1) := q_aload_n0 (bat_get dg_L_law_415_415 1 rfl rfl)
theorem dL_law_417 : decode cL_law 417 = .ok (.iload_n 3, 1) := q_iload_n3 (bat_get dg_L_law_415_415 2 rfl rfl)
theorem dL_law_418 : decode cL_law 418 = .ok (.iconst 1, 1) := q_iconst1 (bat_get dg_L_law_415_415 3 rfl rfl)
theorem dL_law_419 : decode cL_law 419 = .ok (.iadd, 1) := q_iadd (bat_get dg_L_law_415_415 4 rfl rfl)
theorem dL_law_420 : decode cL_law 420 = .ok (.iaload, 1) := q_iaload (bat_get dg_L_law_415_415 5 rfl rfl)
theorem dL_law_421 : decode cL_law 421 = .ok (.aload_n 0, 1) := q_aload_n0 (bat_get dg_L_law_415_415 6 rfl rfl)
theorem dL_law_422 : decode cL_law 422 = .ok (.iload_n 3, 1) := q_iload_n3 (bat_get dg_L_law_415_415 7 rfl rfl)
theorem dL_law_423 : decode cL_law 423 = .ok (.iconst 2, 1) := q_iconst2 (bat_get dg_L_law_415_415 8 rfl rfl)
theorem dL_law_424 : decode cL_law 424 = .ok (.iadd, 1) := q_iadd (bat_get dg_L_law_415_415 9 rfl rfl)
theorem dL_law_425 : decode cL_law 425 = .ok (.iaload, 1) := q_iaload (bat_get dg_L_law_415_415 10 rfl rfl)
theorem dL_law_426 : decode cL_law 426 = .ok (.aload_n 0, 1) := q_aload_n0 (bat_get dg_L_law_415_415 11 rfl rfl)
theorem dL_law_427 : decode cL_law 427 = .ok (.iload_n 3, 1) := q_iload_n3 (bat_get dg_L_law_415_415 12 rfl rfl)
theorem dL_law_428 : decode cL_law 428 = .ok (.iconst 3, 1) := q_iconst3 (bat_get dg_L_law_415_415 13 rfl rfl)
theorem dL_law_429 : decode cL_law 429 = .ok (.iadd, 1) := q_iadd (bat_get dg_L_law_415_415 14 rfl rfl)
theorem dL_law_430 : decode cL_law 430 = .ok (.iaload, 1) := q_iaload (bat_get dg_L_law_415_415 15 rfl rfl)
theorem dL_law_431 : decode cL_law 431 = .ok (.invokevirtual 46, 3) := q_invokevirtual (bat_get dg_L_law_415_415 16 rfl rfl) rfl
theorem dL_law_434 : decode cL_law 434 = .ok (.pop, 1) := q_pop (bat_get dg_L_law_415_415 17 rfl rfl)
theorem dL_law_435 : decode cL_law 435 = .ok (.aload_n 2, 1) := q_aload_n2 (bat_get dg_L_law_415_415 18 rfl rfl)
theorem dL_law_436 : decode cL_law 436 = .ok (.aload_n 0, 1) := q_aload_n0 (bat_get dg_L_law_415_415 19 rfl rfl)
theorem dL_law_437 : decode cL_law 437 = .ok (.iload_n 3, 1) := q_iload_n3 (bat_get dg_L_law_415_415 20 rfl rfl)
theorem dL_law_438 : decode cL_law 438 = .ok (.iconst 1, 1) := q_iconst1 (bat_get dg_L_law_415_415 21 rfl rfl)
theorem dL_law_439 : decode cL_law 439 = .ok (.iadd, 1) := q_iadd (bat_get dg_L_law_415_415 22 rfl rfl)
theorem dL_law_440 : decode cL_law 440 = .ok (.iaload, 1) := q_iaload (bat_get dg_L_law_415_415 23 rfl rfl)
theorem dL_law_441 : decode cL_law 441 = .ok (.aload_n 0, 1) := q_aload_n0 (bat_get dg_L_law_415_415 24 rfl rfl)
theorem dL_law_442 : decode cL_law 442 = .ok (.iload_n 3, 1) := q_iload_n3 (bat_get dg_L_law_415_415 25 rfl rfl)
theorem dL_law_443 : decode cL_law 443 = .ok (.iconst 2, 1) := q_iconst2 (bat_get dg_L_law_415_415 26 rfl rfl)
theorem dL_law_444 : decode cL_law 444 = .ok (.iadd, 1) := q_iadd (bat_get dg_L_law_415_415 27 rfl rfl)
theorem dL_law_445 : decode cL_law 445 = .ok (.iaload, 1) := q_iaload (bat_get dg_L_law_415_415 28 rfl rfl)
theorem dL_law_446 : decode cL_law 446 = .ok (.aload_n 0, 1) := q_aload_n0 (bat_get dg_L_law_415_415 29 rfl rfl)
theorem dL_law_447 : decode cL_law 447 = .ok (.iload_n 3, 1) := q_iload_n3 (bat_get dg_L_law_415_415 30 rfl rfl)
theorem dL_law_448 : decode cL_law 448 = .ok (.iconst 3, 1) := q_iconst3 (bat_get dg_L_law_415_415 31 rfl rfl)
theorem dL_law_449 : decode cL_law 449 = .ok (.iadd, 1) := q_iadd (bat_get dg_L_law_415_415 32 rfl rfl)
theorem dL_law_450 : decode cL_law 450 = .ok (.iaload, 1) := q_iaload (bat_get dg_L_law_415_415 33 rfl rfl)
theorem dL_law_451 : decode cL_law 451 = .ok (.invokevirtual 50, 3) := q_invokevirtual (bat_get dg_L_law_415_415 34 rfl rfl) rfl
theorem dL_law_454 : decode cL_law 454 = .ok (.pop, 1) := q_pop (bat_get dg_L_law_415_415 35 rfl rfl)
theorem dL_law_455 : decode cL_law 455 = .ok (.goto 716, 3) := q_goto (bat_get dg_L_law_415_415 36 rfl rfl) rfl
theorem w_4_21 : (Cond.methodLink RL 46 yX11_does) ∈ wsL_law := sk_mem (ck_4 _ (List.mem_of_getElem? (i := 21) rfl)) rfl
theorem w_4_22 : (Cond.instanceMethod yX11_does) ∈ wsL_law := sk_mem (ck_4 _ (List.mem_of_getElem? (i := 22) rfl)) rfl
theorem w_4_23 : (Cond.selects RX11 yX11_does yX11_does) ∈ wsL_law := sk_mem (ck_4 _ (List.mem_of_getElem? (i := 23) rfl)) rfl
theorem w_7_172 : (Cond.methodLink RL 50 yX12_does) ∈ wsL_law := sk_mem (ck_7 _ (List.mem_of_getElem? (i := 172) rfl)) rfl
theorem w_7_173 : (Cond.instanceMethod yX12_does) ∈ wsL_law := sk_mem (ck_7 _ (List.mem_of_getElem? (i := 173) rfl)) rfl
theorem w_7_174 : (Cond.selects RX12 yX12_does yX12_does) ∈ wsL_law := sk_mem (ck_7 _ (List.mem_of_getElem? (i := 174) rfl)) rfl
set_option maxHeartbeats 4000000 in
set_option maxRecDepth 100000 in
theorem law_7 (l : Launch) (D : va_G) (cI cJ cC cZ cS : ClassId) (zk zv : Nat) (zf : Value) (x0 mm i : Nat) (tl : Nat) (tb : Nat → Nat) (dy : Nat) (L : LkS) (nS : KN) (lg : KLg) (ac : Nat) (su : Nat → KN) (hn : Nat) (hR : Nat → Nat) (sd : Nat) (rf : Nat → Int32) (pn : Nat) (pB : Nat → Nat) (xf : Int32) (xp : Int32) (xw mw : va_W) {p : Program} {e : Env} {s : State} {m : MethodId} {below : List Frame} {meth : Method} {c : Code} {b Ln : Nat} {xs : Nat → Int32} {A : Nat → Prop} {H : Heap} {locs : List Loc} {ls : Array Slot} (E : lwE p s m meth c b Ln xs zk zv zf D (skT cI cJ cC cZ cS) A) (hi6 : i + 6 ≤ Ln) (hk : kOk L dy nS lg ac su hn hR sd) (hI : xI cI cJ cC cZ cS x0 tl tb dy L nS lg ac su hn hR sd rf pn pB xf xp xw) (hJ : mI cI cJ cC cZ cS mm tl tb dy L nS lg ac su hn hR sd rf pn pB xf xp mw) (hP : va_P D vwCl (xw ++ mw) H) (hD : va_D A (xw ++ mw)) (hS : va_S A s.heap H locs) (hl : lv_has ls 4 [(3, .int (nI i)), (2, .ref mm), (1, .ref x0), (0, .ref b)]) (K : ∀ (tl : Nat) (tb : Nat → Nat) (dy : Nat) (L : LkS) (nS : KN) (lg : KLg) (ac : Nat) (su : Nat → KN) (hn : Nat) (hR : Nat → Nat) (sd : Nat) (rf : Nat → Int32) (pn : Nat) (pB : Nat → Nat) (xf : Int32) (xp : Int32) (xw mw : va_W) (H : Heap) (locs : List Loc) (ls : Array Slot), kOk L dy nS lg ac su hn hR sd → xI cI cJ cC cZ cS x0 tl tb dy L nS lg ac su hn hR sd rf pn pB xf xp xw → mI cI cJ cC cZ cS mm tl tb dy L nS lg ac su hn hR sd rf pn pB xf xp mw → va_P D vwCl (xw ++ mw) H → va_D A (xw ++ mw) → va_S A s.heap H locs → lv_has ls 4 [(3, .int (nI i)), (2, .ref mm), (1, .ref x0), (0, .ref b)] → W p l e room_1 s m #[Value.ref b] below meth c H locs 182 32192 (lw_Z below #[Value.ref b] s) (F0 m 1171 ls [])) : W p l e room_1 s m #[Value.ref b] below meth c H locs 182 32192 (lw_Z below #[Value.ref b] s) (F0 m 415 ls []) := by
  obtain ⟨hx, hb, hr, hml, hlocks, hown, hts, hX, hbl, hA, hbA, hAf, hK, hZ, hL⟩ := id E
  refine lv_aload_n hx hb dL_law_415 rfl (lv_at hl 2 rfl) ?_
  refine lv_aload_n hx hb dL_law_416 rfl (lv_at hl 3 rfl) ?_
  refine lv_iload_n hx hb dL_law_417 rfl (lv_at hl 0 rfl) ?_
  refine lv_iconst (v := 1) hx hb dL_law_418 ic_1 ?_
  refine lv_iadd hx hb dL_law_419 ?_
  refine sk_top (nI (i + 1)) (nI_add i 1) ?_
  refine va_sld hx hb hX hbl hbA hS (vin (i + 1) Ln (by omega) (by omega)) dL_law_420 ?_
  refine lv_aload_n hx hb dL_law_421 rfl (lv_at hl 3 rfl) ?_
  refine lv_iload_n hx hb dL_law_422 rfl (lv_at hl 0 rfl) ?_
  refine lv_iconst (v := 2) hx hb dL_law_423 ic_2 ?_
  refine lv_iadd hx hb dL_law_424 ?_
  refine sk_top (nI (i + 2)) (nI_add i 2) ?_
  refine va_sld hx hb hX hbl hbA hS (vin (i + 2) Ln (by omega) (by omega)) dL_law_425 ?_
  refine lv_aload_n hx hb dL_law_426 rfl (lv_at hl 3 rfl) ?_
  refine lv_iload_n hx hb dL_law_427 rfl (lv_at hl 0 rfl) ?_
  refine lv_iconst (v := 3) hx hb dL_law_428 ic_3 ?_
  refine lv_iadd hx hb dL_law_429 ?_
  refine sk_top (nI (i + 3)) (nI_add i 3) ?_
  refine va_sld hx hb hX hbl hbA hS (vin (i + 3) Ln (by omega) (by omega)) dL_law_430 ?_
  obtain ⟨_, hdx⟩ := xI_head hI
  refine sk_Vi (q0 := 0) (n := 3) (rest := []) (wr := mw) ⟨hx, hb, hml, hown, hts⟩ hl.1 (xc_does l D cI cJ cC cZ cS x0 tl tb dy L nS lg ac su hn hR sd rf pn pB xf xp xw (xs (nI (i + 1)).toNatClampNeg) (xs (nI (i + 2)).toNatClampNeg) (xs (nI (i + 3)).toNatClampNeg) hk hI) w_4_21 w_4_22 w_4_23 w_1_1 w_4_24 (by decide +kernel) ⟨⟨(Nat.le_of_ble_eq_true rfl), (Nat.le_of_ble_eq_true rfl)⟩, (Nat.le_of_ble_eq_true rfl), (Nat.le_of_ble_eq_true rfl)⟩ hK hP hD hS hA (idx 0 xw) (idx xw.length mw) (idx_C xw mw) (idx_R xw mw) (idx_nd 0 xw) (idx_nd _ mw) (idx_dis xw mw) hdx rfl rfl rfl (Nat.le_of_ble_eq_true rfl) dL_law_431 (fun rx ux H locs hw hP hD hS => ?_)
  have hI2 := hw
  have hP : va_P D vwCl (mw ++ ux) H := hP
  refine lv_pop hx hb dL_law_434 rfl ?_
  refine lv_aload_n hx hb dL_law_435 rfl (lv_at hl 1 rfl) ?_
  refine lv_aload_n hx hb dL_law_436 rfl (lv_at hl 3 rfl) ?_
  refine lv_iload_n hx hb dL_law_437 rfl (lv_at hl 0 rfl) ?_
  refine lv_iconst (v := 1) hx hb dL_law_438 ic_1 ?_
  refine lv_iadd hx hb dL_law_439 ?_
  refine sk_top (nI (i + 1)) (nI_add i 1) ?_
  refine va_sld hx hb hX hbl hbA hS (vin (i + 1) Ln (by omega) (by omega)) dL_law_440 ?_
  refine lv_aload_n hx hb dL_law_441 rfl (lv_at hl 3 rfl) ?_
  refine lv_iload_n hx hb dL_law_442 rfl (lv_at hl 0 rfl) ?_
  refine lv_iconst (v := 2) hx hb dL_law_443 ic_2 ?_
  refine lv_iadd hx hb dL_law_444 ?_
  refine sk_top (nI (i + 2)) (nI_add i 2) ?_
  refine va_sld hx hb hX hbl hbA hS (vin (i + 2) Ln (by omega) (by omega)) dL_law_445 ?_
  refine lv_aload_n hx hb dL_law_446 rfl (lv_at hl 3 rfl) ?_
  refine lv_iload_n hx hb dL_law_447 rfl (lv_at hl 0 rfl) ?_
  refine lv_iconst (v := 3) hx hb dL_law_448 ic_3 ?_
  refine lv_iadd hx hb dL_law_449 ?_
  refine sk_top (nI (i + 3)) (nI_add i 3) ?_
  refine va_sld hx hb hX hbl hbA hS (vin (i + 3) Ln (by omega) (by omega)) dL_law_450 ?_
  obtain ⟨_, hdm⟩ := mI_head hJ
  refine sk_Vi (q0 := 0) (n := 3) (rest := []) (wr := ux) ⟨hx, hb, hml, hown, hts⟩ hl.1 (mc_does l D cI cJ cC cZ cS mm tl tb dy L nS lg ac su hn hR sd rf pn pB xf xp mw (xs (nI (i + 1)).toNatClampNeg) (xs (nI (i + 2)).toNatClampNeg) (xs (nI (i + 3)).toNatClampNeg) hk hJ) w_7_172 w_7_173 w_7_174 w_1_14 w_7_175 (by decide +kernel) ⟨⟨(Nat.le_of_ble_eq_true rfl), (Nat.le_of_ble_eq_true rfl)⟩, (Nat.le_of_ble_eq_true rfl), (Nat.le_of_ble_eq_true rfl)⟩ hK hP hD hS hA (idx 0 mw) (idx mw.length ux) (idx_C mw ux) (idx_R mw ux) (idx_nd 0 mw) (idx_nd _ ux) (idx_dis mw ux) hdm rfl rfl rfl (Nat.le_of_ble_eq_true rfl) dL_law_451 (fun rm um H locs hw hP hD hS => ?_)
  have hJ2 := hw
  have hk2 := hk
  refine lv_pop hx hb dL_law_454 rfl ?_
  refine lv_goto (tgt := 1171) hx hb dL_law_455 (by decide) ?_
  exact K _ _ _ _ _ _ _ _ _ _ _ _ _ _ _ _ _ _ _ _ _ hk2 hI2 hJ2 hP hD hS hl
theorem dg_L_law_458_458 : bqL cL_law 458 [(0, [43]), (1, [42]), (2, [29]), (3, [4]), (4, [96]), (5, [46]), (6, [42]), (7, [29]), (8, [5]), (9, [96]), (10, [46]), (11, [182, 0, 51]), (14, [88]), (15, [44]), (16, [42]), (17, [29]), (18, [4]), (19, [96]), (20, [46]), (21, [42]), (22, [29]), (23, [5]), (24, [96]), (25, [46]), (26, [182, 0, 55]), (29, [88]), (30, [167, 2, 171])] = true := by decide +kernel
theorem dL_law_458 : decode cL_law 458 = .ok (.aload_n 1, 1) := q_aload_n1 (bat_get dg_L_law_458_458 0 rfl rfl)
theorem dL_law_459 : decode cL_law 459 = .ok (.aload_n 0, 1) := q_aload_n0 (bat_get dg_L_law_458_458 1 rfl rfl)
theorem dL_law_460 : decode cL_law 460 = .ok (.iload_n 3, 1) := q_iload_n3 (bat_get dg_L_law_458_458 2 rfl rfl)
theorem dL_law_461 : decode cL_law 461 = .ok (.iconst 1, 1) := q_iconst1 (bat_get dg_L_law_458_458 3 rfl rfl)
theorem dL_law_462 : decode cL_law 462 = .ok (.iadd, 1) := q_iadd (bat_get dg_L_law_458_458 4 rfl rfl)
theorem dL_law_463 : decode cL_law 463 = .ok (.iaload, 1) := q_iaload (bat_get dg_L_law_458_458 5 rfl rfl)
theorem dL_law_464 : decode cL_law 464 = .ok (.aload_n 0, 1) := q_aload_n0 (bat_get dg_L_law_458_458 6 rfl rfl)
theorem dL_law_465 : decode cL_law 465 = .ok (.iload_n 3, 1) := q_iload_n3 (bat_get dg_L_law_458_458 7 rfl rfl)
theorem dL_law_466 : decode cL_law 466 = .ok (.iconst 2, 1) := q_iconst2 (bat_get dg_L_law_458_458 8 rfl rfl)
theorem dL_law_467 : decode cL_law 467 = .ok (.iadd, 1) := q_iadd (bat_get dg_L_law_458_458 9 rfl rfl)
theorem dL_law_468 : decode cL_law 468 = .ok (.iaload, 1) := q_iaload (bat_get dg_L_law_458_458 10 rfl rfl)
theorem dL_law_469 : decode cL_law 469 = .ok (.invokevirtual 51, 3) := q_invokevirtual (bat_get dg_L_law_458_458 11 rfl rfl) rfl
theorem dL_law_472 : decode cL_law 472 = .ok (.pop2, 1) := q_pop2 (bat_get dg_L_law_458_458 12 rfl rfl)
theorem dL_law_473 : decode cL_law 473 = .ok (.aload_n 2, 1) := q_aload_n2 (bat_get dg_L_law_458_458 13 rfl rfl)
theorem dL_law_474 : decode cL_law 474 = .ok (.aload_n 0, 1) := q_aload_n0 (bat_get dg_L_law_458_458 14 rfl rfl)
theorem dL_law_475 : decode cL_law 475 = .ok (.iload_n 3, 1) := q_iload_n3 (bat_get dg_L_law_458_458 15 rfl rfl)
theorem dL_law_476 : decode cL_law 476 = .ok (.iconst 1, 1) := q_iconst1 (bat_get dg_L_law_458_458 16 rfl rfl)
theorem dL_law_477 : decode cL_law 477 = .ok (.iadd, 1) := q_iadd (bat_get dg_L_law_458_458 17 rfl rfl)
theorem dL_law_478 : decode cL_law 478 = .ok (.iaload, 1) := q_iaload (bat_get dg_L_law_458_458 18 rfl rfl)
theorem dL_law_479 : decode cL_law 479 = .ok (.aload_n 0, 1) := q_aload_n0 (bat_get dg_L_law_458_458 19 rfl rfl)
theorem dL_law_480 : decode cL_law 480 = .ok (.iload_n 3, 1) := q_iload_n3 (bat_get dg_L_law_458_458 20 rfl rfl)
theorem dL_law_481 : decode cL_law 481 = .ok (.iconst 2, 1) := q_iconst2 (bat_get dg_L_law_458_458 21 rfl rfl)
theorem dL_law_482 : decode cL_law 482 = .ok (.iadd, 1) := q_iadd (bat_get dg_L_law_458_458 22 rfl rfl)
theorem dL_law_483 : decode cL_law 483 = .ok (.iaload, 1) := q_iaload (bat_get dg_L_law_458_458 23 rfl rfl)
theorem dL_law_484 : decode cL_law 484 = .ok (.invokevirtual 55, 3) := q_invokevirtual (bat_get dg_L_law_458_458 24 rfl rfl) rfl
theorem dL_law_487 : decode cL_law 487 = .ok (.pop2, 1) := q_pop2 (bat_get dg_L_law_458_458 25 rfl rfl)
theorem dL_law_488 : decode cL_law 488 = .ok (.goto 683, 3) := q_goto (bat_get dg_L_law_458_458 26 rfl rfl) rfl
theorem w_4_25 : (Cond.methodLink RL 51 yX11_kept) ∈ wsL_law := sk_mem (ck_4 _ (List.mem_of_getElem? (i := 25) rfl)) rfl
theorem w_4_26 : (Cond.instanceMethod yX11_kept) ∈ wsL_law := sk_mem (ck_4 _ (List.mem_of_getElem? (i := 26) rfl)) rfl
theorem w_4_27 : (Cond.selects RX11 yX11_kept yX11_kept) ∈ wsL_law := sk_mem (ck_4 _ (List.mem_of_getElem? (i := 27) rfl)) rfl
theorem w_7_180 : (Cond.methodLink RL 55 yX12_kept) ∈ wsL_law := sk_mem (ck_7 _ (List.mem_of_getElem? (i := 180) rfl)) rfl
theorem w_7_181 : (Cond.instanceMethod yX12_kept) ∈ wsL_law := sk_mem (ck_7 _ (List.mem_of_getElem? (i := 181) rfl)) rfl
theorem w_7_182 : (Cond.selects RX12 yX12_kept yX12_kept) ∈ wsL_law := sk_mem (ck_7 _ (List.mem_of_getElem? (i := 182) rfl)) rfl
set_option maxHeartbeats 4000000 in
set_option maxRecDepth 100000 in
theorem law_8 (l : Launch) (D : va_G) (cI cJ cC cZ cS : ClassId) (zk zv : Nat) (zf : Value) (x0 mm i : Nat) (tl : Nat) (tb : Nat → Nat) (dy : Nat) (L : LkS) (nS : KN) (lg : KLg) (ac : Nat) (su : Nat → KN) (hn : Nat) (hR : Nat → Nat) (sd : Nat) (rf : Nat → Int32) (pn : Nat) (pB : Nat → Nat) (xf : Int32) (xp : Int32) (xw mw : va_W) {p : Program} {e : Env} {s : State} {m : MethodId} {below : List Frame} {meth : Method} {c : Code} {b Ln : Nat} {xs : Nat → Int32} {A : Nat → Prop} {H : Heap} {locs : List Loc} {ls : Array Slot} (E : lwE p s m meth c b Ln xs zk zv zf D (skT cI cJ cC cZ cS) A) (hi6 : i + 6 ≤ Ln) (hk : kOk L dy nS lg ac su hn hR sd) (hI : xI cI cJ cC cZ cS x0 tl tb dy L nS lg ac su hn hR sd rf pn pB xf xp xw) (hJ : mI cI cJ cC cZ cS mm tl tb dy L nS lg ac su hn hR sd rf pn pB xf xp mw) (hP : va_P D vwCl (xw ++ mw) H) (hD : va_D A (xw ++ mw)) (hS : va_S A s.heap H locs) (hl : lv_has ls 4 [(3, .int (nI i)), (2, .ref mm), (1, .ref x0), (0, .ref b)]) (K : ∀ (tl : Nat) (tb : Nat → Nat) (dy : Nat) (L : LkS) (nS : KN) (lg : KLg) (ac : Nat) (su : Nat → KN) (hn : Nat) (hR : Nat → Nat) (sd : Nat) (rf : Nat → Int32) (pn : Nat) (pB : Nat → Nat) (xf : Int32) (xp : Int32) (xw mw : va_W) (H : Heap) (locs : List Loc) (ls : Array Slot), kOk L dy nS lg ac su hn hR sd → xI cI cJ cC cZ cS x0 tl tb dy L nS lg ac su hn hR sd rf pn pB xf xp xw → mI cI cJ cC cZ cS mm tl tb dy L nS lg ac su hn hR sd rf pn pB xf xp mw → va_P D vwCl (xw ++ mw) H → va_D A (xw ++ mw) → va_S A s.heap H locs → lv_has ls 4 [(3, .int (nI i)), (2, .ref mm), (1, .ref x0), (0, .ref b)] → W p l e room_1 s m #[Value.ref b] below meth c H locs 182 32192 (lw_Z below #[Value.ref b] s) (F0 m 1171 ls [])) : W p l e room_1 s m #[Value.ref b] below meth c H locs 182 32192 (lw_Z below #[Value.ref b] s) (F0 m 458 ls []) := by
  obtain ⟨hx, hb, hr, hml, hlocks, hown, hts, hX, hbl, hA, hbA, hAf, hK, hZ, hL⟩ := id E
  refine lv_aload_n hx hb dL_law_458 rfl (lv_at hl 2 rfl) ?_
  refine lv_aload_n hx hb dL_law_459 rfl (lv_at hl 3 rfl) ?_
  refine lv_iload_n hx hb dL_law_460 rfl (lv_at hl 0 rfl) ?_
  refine lv_iconst (v := 1) hx hb dL_law_461 ic_1 ?_
  refine lv_iadd hx hb dL_law_462 ?_
  refine sk_top (nI (i + 1)) (nI_add i 1) ?_
  refine va_sld hx hb hX hbl hbA hS (vin (i + 1) Ln (by omega) (by omega)) dL_law_463 ?_
  refine lv_aload_n hx hb dL_law_464 rfl (lv_at hl 3 rfl) ?_
  refine lv_iload_n hx hb dL_law_465 rfl (lv_at hl 0 rfl) ?_
  refine lv_iconst (v := 2) hx hb dL_law_466 ic_2 ?_
  refine lv_iadd hx hb dL_law_467 ?_
  refine sk_top (nI (i + 2)) (nI_add i 2) ?_
  refine va_sld hx hb hX hbl hbA hS (vin (i + 2) Ln (by omega) (by omega)) dL_law_468 ?_
  obtain ⟨_, hdx⟩ := xI_head hI
  refine sk_Vl (q0 := 0) (n := 2) (rest := []) (wr := mw) ⟨hx, hb, hml, hown, hts⟩ hl.1 (xc_kept l D cI cJ cC cZ cS x0 tl tb dy L nS lg ac su hn hR sd rf pn pB xf xp xw (xs (nI (i + 1)).toNatClampNeg) (xs (nI (i + 2)).toNatClampNeg) hk hI) w_4_25 w_4_26 w_4_27 w_1_1 w_4_28 (by decide +kernel) ⟨⟨(Nat.le_of_ble_eq_true rfl), (Nat.le_of_ble_eq_true rfl)⟩, (Nat.le_of_ble_eq_true rfl), (Nat.le_of_ble_eq_true rfl)⟩ hK hP hD hS hA (idx 0 xw) (idx xw.length mw) (idx_C xw mw) (idx_R xw mw) (idx_nd 0 xw) (idx_nd _ mw) (idx_dis xw mw) hdx rfl rfl rfl (Nat.le_of_ble_eq_true rfl) dL_law_469 (fun rx ux H locs hw hP hD hS => ?_)
  obtain ⟨hI2, hkx⟩ := hw
  have hP : va_P D vwCl (mw ++ ux) H := hP
  refine lv_pop2_2 hx hb dL_law_472 rfl ?_
  refine lv_aload_n hx hb dL_law_473 rfl (lv_at hl 1 rfl) ?_
  refine lv_aload_n hx hb dL_law_474 rfl (lv_at hl 3 rfl) ?_
  refine lv_iload_n hx hb dL_law_475 rfl (lv_at hl 0 rfl) ?_
  refine lv_iconst (v := 1) hx hb dL_law_476 ic_1 ?_
  refine lv_iadd hx hb dL_law_477 ?_
  refine sk_top (nI (i + 1)) (nI_add i 1) ?_
  refine va_sld hx hb hX hbl hbA hS (vin (i + 1) Ln (by omega) (by omega)) dL_law_478 ?_
  refine lv_aload_n hx hb dL_law_479 rfl (lv_at hl 3 rfl) ?_
  refine lv_iload_n hx hb dL_law_480 rfl (lv_at hl 0 rfl) ?_
  refine lv_iconst (v := 2) hx hb dL_law_481 ic_2 ?_
  refine lv_iadd hx hb dL_law_482 ?_
  refine sk_top (nI (i + 2)) (nI_add i 2) ?_
  refine va_sld hx hb hX hbl hbA hS (vin (i + 2) Ln (by omega) (by omega)) dL_law_483 ?_
  obtain ⟨_, hdm⟩ := mI_head hJ
  refine sk_Vl (q0 := 0) (n := 2) (rest := []) (wr := ux) ⟨hx, hb, hml, hown, hts⟩ hl.1 (mc_kept l D cI cJ cC cZ cS mm tl tb dy L nS lg ac su hn hR sd rf pn pB xf xp mw (xs (nI (i + 1)).toNatClampNeg) (xs (nI (i + 2)).toNatClampNeg) hk hJ) w_7_180 w_7_181 w_7_182 w_1_14 w_7_183 (by decide +kernel) ⟨⟨(Nat.le_of_ble_eq_true rfl), (Nat.le_of_ble_eq_true rfl)⟩, (Nat.le_of_ble_eq_true rfl), (Nat.le_of_ble_eq_true rfl)⟩ hK hP hD hS hA (idx 0 mw) (idx mw.length ux) (idx_C mw ux) (idx_R mw ux) (idx_nd 0 mw) (idx_nd _ ux) (idx_dis mw ux) hdm rfl rfl rfl (Nat.le_of_ble_eq_true rfl) dL_law_484 (fun rm um H locs hw hP hD hS => ?_)
  obtain ⟨hJ2, hkm⟩ := hw
  have hre := keptR_eq hkx hkm
  have hk2 := hk
  refine lv_pop2_2 hx hb dL_law_487 rfl ?_
  refine lv_goto (tgt := 1171) hx hb dL_law_488 (by decide) ?_
  exact K _ _ _ _ _ _ _ _ _ _ _ _ _ _ _ _ _ _ _ _ _ hk2 hI2 hJ2 hP hD hS hl
theorem dg_L_law_491_491 : bqL cL_law 491 [(0, [43]), (1, [182, 0, 56]), (4, [88]), (5, [44]), (6, [182, 0, 60]), (9, [88]), (10, [167, 2, 158])] = true := by decide +kernel
theorem dL_law_491 : decode cL_law 491 = .ok (.aload_n 1, 1) := q_aload_n1 (bat_get dg_L_law_491_491 0 rfl rfl)
theorem dL_law_492 : decode cL_law 492 = .ok (.invokevirtual 56, 3) := q_invokevirtual (bat_get dg_L_law_491_491 1 rfl rfl) rfl
theorem dL_law_495 : decode cL_law 495 = .ok (.pop2, 1) := q_pop2 (bat_get dg_L_law_491_491 2 rfl rfl)
theorem dL_law_496 : decode cL_law 496 = .ok (.aload_n 2, 1) := q_aload_n2 (bat_get dg_L_law_491_491 3 rfl rfl)
theorem dL_law_497 : decode cL_law 497 = .ok (.invokevirtual 60, 3) := q_invokevirtual (bat_get dg_L_law_491_491 4 rfl rfl) rfl
theorem dL_law_500 : decode cL_law 500 = .ok (.pop2, 1) := q_pop2 (bat_get dg_L_law_491_491 5 rfl rfl)
theorem dL_law_501 : decode cL_law 501 = .ok (.goto 670, 3) := q_goto (bat_get dg_L_law_491_491 6 rfl rfl) rfl
theorem w_4_35 : (Cond.methodLink RL 56 yX11_weeks) ∈ wsL_law := sk_mem (ck_4 _ (List.mem_of_getElem? (i := 35) rfl)) rfl
theorem w_4_36 : (Cond.instanceMethod yX11_weeks) ∈ wsL_law := sk_mem (ck_4 _ (List.mem_of_getElem? (i := 36) rfl)) rfl
theorem w_4_37 : (Cond.selects RX11 yX11_weeks yX11_weeks) ∈ wsL_law := sk_mem (ck_4 _ (List.mem_of_getElem? (i := 37) rfl)) rfl
theorem w_7_185 : (Cond.methodLink RL 60 yX12_weeks) ∈ wsL_law := sk_mem (ck_7 _ (List.mem_of_getElem? (i := 185) rfl)) rfl
theorem w_7_186 : (Cond.instanceMethod yX12_weeks) ∈ wsL_law := sk_mem (ck_7 _ (List.mem_of_getElem? (i := 186) rfl)) rfl
theorem w_7_187 : (Cond.selects RX12 yX12_weeks yX12_weeks) ∈ wsL_law := sk_mem (ck_7 _ (List.mem_of_getElem? (i := 187) rfl)) rfl
set_option maxHeartbeats 4000000 in
set_option maxRecDepth 100000 in
theorem law_9 (l : Launch) (D : va_G) (cI cJ cC cZ cS : ClassId) (zk zv : Nat) (zf : Value) (x0 mm i : Nat) (tl : Nat) (tb : Nat → Nat) (dy : Nat) (L : LkS) (nS : KN) (lg : KLg) (ac : Nat) (su : Nat → KN) (hn : Nat) (hR : Nat → Nat) (sd : Nat) (rf : Nat → Int32) (pn : Nat) (pB : Nat → Nat) (xf : Int32) (xp : Int32) (xw mw : va_W) {p : Program} {e : Env} {s : State} {m : MethodId} {below : List Frame} {meth : Method} {c : Code} {b Ln : Nat} {xs : Nat → Int32} {A : Nat → Prop} {H : Heap} {locs : List Loc} {ls : Array Slot} (E : lwE p s m meth c b Ln xs zk zv zf D (skT cI cJ cC cZ cS) A) (hi6 : i + 6 ≤ Ln) (hk : kOk L dy nS lg ac su hn hR sd) (hI : xI cI cJ cC cZ cS x0 tl tb dy L nS lg ac su hn hR sd rf pn pB xf xp xw) (hJ : mI cI cJ cC cZ cS mm tl tb dy L nS lg ac su hn hR sd rf pn pB xf xp mw) (hP : va_P D vwCl (xw ++ mw) H) (hD : va_D A (xw ++ mw)) (hS : va_S A s.heap H locs) (hl : lv_has ls 4 [(3, .int (nI i)), (2, .ref mm), (1, .ref x0), (0, .ref b)]) (K : ∀ (tl : Nat) (tb : Nat → Nat) (dy : Nat) (L : LkS) (nS : KN) (lg : KLg) (ac : Nat) (su : Nat → KN) (hn : Nat) (hR : Nat → Nat) (sd : Nat) (rf : Nat → Int32) (pn : Nat) (pB : Nat → Nat) (xf : Int32) (xp : Int32) (xw mw : va_W) (H : Heap) (locs : List Loc) (ls : Array Slot), kOk L dy nS lg ac su hn hR sd → xI cI cJ cC cZ cS x0 tl tb dy L nS lg ac su hn hR sd rf pn pB xf xp xw → mI cI cJ cC cZ cS mm tl tb dy L nS lg ac su hn hR sd rf pn pB xf xp mw → va_P D vwCl (xw ++ mw) H → va_D A (xw ++ mw) → va_S A s.heap H locs → lv_has ls 4 [(3, .int (nI i)), (2, .ref mm), (1, .ref x0), (0, .ref b)] → W p l e room_1 s m #[Value.ref b] below meth c H locs 182 32192 (lw_Z below #[Value.ref b] s) (F0 m 1171 ls [])) : W p l e room_1 s m #[Value.ref b] below meth c H locs 182 32192 (lw_Z below #[Value.ref b] s) (F0 m 491 ls []) := by
  obtain ⟨hx, hb, hr, hml, hlocks, hown, hts, hX, hbl, hA, hbA, hAf, hK, hZ, hL⟩ := id E
  refine lv_aload_n hx hb dL_law_491 rfl (lv_at hl 2 rfl) ?_
  obtain ⟨_, hdx⟩ := xI_head hI
  refine sk_Vl (q0 := 0) (n := 0) (rest := []) (wr := mw) ⟨hx, hb, hml, hown, hts⟩ hl.1 (xc_weeks l D cI cJ cC cZ cS x0 tl tb dy L nS lg ac su hn hR sd rf pn pB xf xp xw hk hI) w_4_35 w_4_36 w_4_37 w_1_1 w_4_38 (by decide +kernel) ⟨⟨(Nat.le_of_ble_eq_true rfl), (Nat.le_of_ble_eq_true rfl)⟩, (Nat.le_of_ble_eq_true rfl), (Nat.le_of_ble_eq_true rfl)⟩ hK hP hD hS hA (idx 0 xw) (idx xw.length mw) (idx_C xw mw) (idx_R xw mw) (idx_nd 0 xw) (idx_nd _ mw) (idx_dis xw mw) hdx rfl rfl rfl (Nat.le_of_ble_eq_true rfl) dL_law_492 (fun rx ux H locs hw hP hD hS => ?_)
  obtain ⟨hI2, hkx⟩ := hw
  have hP : va_P D vwCl (mw ++ ux) H := hP
  refine lv_pop2_2 hx hb dL_law_495 rfl ?_
  refine lv_aload_n hx hb dL_law_496 rfl (lv_at hl 1 rfl) ?_
  obtain ⟨_, hdm⟩ := mI_head hJ
  refine sk_Vl (q0 := 0) (n := 0) (rest := []) (wr := ux) ⟨hx, hb, hml, hown, hts⟩ hl.1 (mc_weeks l D cI cJ cC cZ cS mm tl tb dy L nS lg ac su hn hR sd rf pn pB xf xp mw hk hJ) w_7_185 w_7_186 w_7_187 w_1_14 w_7_188 (by decide +kernel) ⟨⟨(Nat.le_of_ble_eq_true rfl), (Nat.le_of_ble_eq_true rfl)⟩, (Nat.le_of_ble_eq_true rfl), (Nat.le_of_ble_eq_true rfl)⟩ hK hP hD hS hA (idx 0 mw) (idx mw.length ux) (idx_C mw ux) (idx_R mw ux) (idx_nd 0 mw) (idx_nd _ ux) (idx_dis mw ux) hdm rfl rfl rfl (Nat.le_of_ble_eq_true rfl) dL_law_497 (fun rm um H locs hw hP hD hS => ?_)
  obtain ⟨hJ2, hkm⟩ := hw
  have hre := weeksR_eq hkx hkm
  have hk2 := hk
  refine lv_pop2_2 hx hb dL_law_500 rfl ?_
  refine lv_goto (tgt := 1171) hx hb dL_law_501 (by decide) ?_
  exact K _ _ _ _ _ _ _ _ _ _ _ _ _ _ _ _ _ _ _ _ _ hk2 hI2 hJ2 hP hD hS hl
theorem dg_L_law_504_504 : bqL cL_law 504 [(0, [43]), (1, [42]), (2, [29]), (3, [4]), (4, [96]), (5, [46]), (6, [42]), (7, [29]), (8, [5]), (9, [96]), (10, [46]), (11, [182, 0, 61]), (14, [87]), (15, [44]), (16, [42]), (17, [29]), (18, [4]), (19, [96]), (20, [46]), (21, [42]), (22, [29]), (23, [5]), (24, [96]), (25, [46]), (26, [182, 0, 64]), (29, [87]), (30, [167, 2, 125])] = true := by decide +kernel
theorem dL_law_504 : decode cL_law 504 = .ok (.aload_n 1, 1) := q_aload_n1 (bat_get dg_L_law_504_504 0 rfl rfl)
theorem dL_law_505 : decode cL_law 505 = .ok (.aload_n 0, 1) := q_aload_n0 (bat_get dg_L_law_504_504 1 rfl rfl)
theorem dL_law_506 : decode cL_law 506 = .ok (.iload_n 3, 1) := q_iload_n3 (bat_get dg_L_law_504_504 2 rfl rfl)
theorem dL_law_507 : decode cL_law 507 = .ok (.iconst 1, 1) := q_iconst1 (bat_get dg_L_law_504_504 3 rfl rfl)
theorem dL_law_508 : decode cL_law 508 = .ok (.iadd, 1) := q_iadd (bat_get dg_L_law_504_504 4 rfl rfl)
theorem dL_law_509 : decode cL_law 509 = .ok (.iaload, 1) := q_iaload (bat_get dg_L_law_504_504 5 rfl rfl)
theorem dL_law_510 : decode cL_law 510 = .ok (.aload_n 0, 1) := q_aload_n0 (bat_get dg_L_law_504_504 6 rfl rfl)
theorem dL_law_511 : decode cL_law 511 = .ok (.iload_n 3, 1) := q_iload_n3 (bat_get dg_L_law_504_504 7 rfl rfl)
theorem dL_law_512 : decode cL_law 512 = .ok (.iconst 2, 1) := q_iconst2 (bat_get dg_L_law_504_504 8 rfl rfl)
theorem dL_law_513 : decode cL_law 513 = .ok (.iadd, 1) := q_iadd (bat_get dg_L_law_504_504 9 rfl rfl)
theorem dL_law_514 : decode cL_law 514 = .ok (.iaload, 1) := q_iaload (bat_get dg_L_law_504_504 10 rfl rfl)
theorem dL_law_515 : decode cL_law 515 = .ok (.invokevirtual 61, 3) := q_invokevirtual (bat_get dg_L_law_504_504 11 rfl rfl) rfl
theorem dL_law_518 : decode cL_law 518 = .ok (.pop, 1) := q_pop (bat_get dg_L_law_504_504 12 rfl rfl)
theorem dL_law_519 : decode cL_law 519 = .ok (.aload_n 2, 1) := q_aload_n2 (bat_get dg_L_law_504_504 13 rfl rfl)
theorem dL_law_520 : decode cL_law 520 = .ok (.aload_n 0, 1) := q_aload_n0 (bat_get dg_L_law_504_504 14 rfl rfl)
theorem dL_law_521 : decode cL_law 521 = .ok (.iload_n 3, 1) := q_iload_n3 (bat_get dg_L_law_504_504 15 rfl rfl)
theorem dL_law_522 : decode cL_law 522 = .ok (.iconst 1, 1) := q_iconst1 (bat_get dg_L_law_504_504 16 rfl rfl)
theorem dL_law_523 : decode cL_law 523 = .ok (.iadd, 1) := q_iadd (bat_get dg_L_law_504_504 17 rfl rfl)
theorem dL_law_524 : decode cL_law 524 = .ok (.iaload, 1) := q_iaload (bat_get dg_L_law_504_504 18 rfl rfl)
theorem dL_law_525 : decode cL_law 525 = .ok (.aload_n 0, 1) := q_aload_n0 (bat_get dg_L_law_504_504 19 rfl rfl)
theorem dL_law_526 : decode cL_law 526 = .ok (.iload_n 3, 1) := q_iload_n3 (bat_get dg_L_law_504_504 20 rfl rfl)
theorem dL_law_527 : decode cL_law 527 = .ok (.iconst 2, 1) := q_iconst2 (bat_get dg_L_law_504_504 21 rfl rfl)
theorem dL_law_528 : decode cL_law 528 = .ok (.iadd, 1) := q_iadd (bat_get dg_L_law_504_504 22 rfl rfl)
theorem dL_law_529 : decode cL_law 529 = .ok (.iaload, 1) := q_iaload (bat_get dg_L_law_504_504 23 rfl rfl)
theorem dL_law_530 : decode cL_law 530 = .ok (.invokevirtual 64, 3) := q_invokevirtual (bat_get dg_L_law_504_504 24 rfl rfl) rfl
theorem dL_law_533 : decode cL_law 533 = .ok (.pop, 1) := q_pop (bat_get dg_L_law_504_504 25 rfl rfl)
theorem dL_law_534 : decode cL_law 534 = .ok (.goto 637, 3) := q_goto (bat_get dg_L_law_504_504 26 rfl rfl) rfl
theorem w_4_65 : (Cond.methodLink RL 61 yX11_mood) ∈ wsL_law := sk_mem (ck_4 _ (List.mem_of_getElem? (i := 65) rfl)) rfl
theorem w_4_66 : (Cond.instanceMethod yX11_mood) ∈ wsL_law := sk_mem (ck_4 _ (List.mem_of_getElem? (i := 66) rfl)) rfl
theorem w_4_67 : (Cond.selects RX11 yX11_mood yX11_mood) ∈ wsL_law := sk_mem (ck_4 _ (List.mem_of_getElem? (i := 67) rfl)) rfl
theorem w_7_213 : (Cond.methodLink RL 64 yX12_mood) ∈ wsL_law := sk_mem (ck_7 _ (List.mem_of_getElem? (i := 213) rfl)) rfl
theorem w_7_214 : (Cond.instanceMethod yX12_mood) ∈ wsL_law := sk_mem (ck_7 _ (List.mem_of_getElem? (i := 214) rfl)) rfl
theorem w_7_215 : (Cond.selects RX12 yX12_mood yX12_mood) ∈ wsL_law := sk_mem (ck_7 _ (List.mem_of_getElem? (i := 215) rfl)) rfl
set_option maxHeartbeats 4000000 in
set_option maxRecDepth 100000 in
theorem law_10 (l : Launch) (D : va_G) (cI cJ cC cZ cS : ClassId) (zk zv : Nat) (zf : Value) (x0 mm i : Nat) (tl : Nat) (tb : Nat → Nat) (dy : Nat) (L : LkS) (nS : KN) (lg : KLg) (ac : Nat) (su : Nat → KN) (hn : Nat) (hR : Nat → Nat) (sd : Nat) (rf : Nat → Int32) (pn : Nat) (pB : Nat → Nat) (xf : Int32) (xp : Int32) (xw mw : va_W) {p : Program} {e : Env} {s : State} {m : MethodId} {below : List Frame} {meth : Method} {c : Code} {b Ln : Nat} {xs : Nat → Int32} {A : Nat → Prop} {H : Heap} {locs : List Loc} {ls : Array Slot} (E : lwE p s m meth c b Ln xs zk zv zf D (skT cI cJ cC cZ cS) A) (hi6 : i + 6 ≤ Ln) (hk : kOk L dy nS lg ac su hn hR sd) (hI : xI cI cJ cC cZ cS x0 tl tb dy L nS lg ac su hn hR sd rf pn pB xf xp xw) (hJ : mI cI cJ cC cZ cS mm tl tb dy L nS lg ac su hn hR sd rf pn pB xf xp mw) (hP : va_P D vwCl (xw ++ mw) H) (hD : va_D A (xw ++ mw)) (hS : va_S A s.heap H locs) (hl : lv_has ls 4 [(3, .int (nI i)), (2, .ref mm), (1, .ref x0), (0, .ref b)]) (K : ∀ (tl : Nat) (tb : Nat → Nat) (dy : Nat) (L : LkS) (nS : KN) (lg : KLg) (ac : Nat) (su : Nat → KN) (hn : Nat) (hR : Nat → Nat) (sd : Nat) (rf : Nat → Int32) (pn : Nat) (pB : Nat → Nat) (xf : Int32) (xp : Int32) (xw mw : va_W) (H : Heap) (locs : List Loc) (ls : Array Slot), kOk L dy nS lg ac su hn hR sd → xI cI cJ cC cZ cS x0 tl tb dy L nS lg ac su hn hR sd rf pn pB xf xp xw → mI cI cJ cC cZ cS mm tl tb dy L nS lg ac su hn hR sd rf pn pB xf xp mw → va_P D vwCl (xw ++ mw) H → va_D A (xw ++ mw) → va_S A s.heap H locs → lv_has ls 4 [(3, .int (nI i)), (2, .ref mm), (1, .ref x0), (0, .ref b)] → W p l e room_1 s m #[Value.ref b] below meth c H locs 182 32192 (lw_Z below #[Value.ref b] s) (F0 m 1171 ls [])) : W p l e room_1 s m #[Value.ref b] below meth c H locs 182 32192 (lw_Z below #[Value.ref b] s) (F0 m 504 ls []) := by
  obtain ⟨hx, hb, hr, hml, hlocks, hown, hts, hX, hbl, hA, hbA, hAf, hK, hZ, hL⟩ := id E
  refine lv_aload_n hx hb dL_law_504 rfl (lv_at hl 2 rfl) ?_
  refine lv_aload_n hx hb dL_law_505 rfl (lv_at hl 3 rfl) ?_
  refine lv_iload_n hx hb dL_law_506 rfl (lv_at hl 0 rfl) ?_
  refine lv_iconst (v := 1) hx hb dL_law_507 ic_1 ?_
  refine lv_iadd hx hb dL_law_508 ?_
  refine sk_top (nI (i + 1)) (nI_add i 1) ?_
  refine va_sld hx hb hX hbl hbA hS (vin (i + 1) Ln (by omega) (by omega)) dL_law_509 ?_
  refine lv_aload_n hx hb dL_law_510 rfl (lv_at hl 3 rfl) ?_
  refine lv_iload_n hx hb dL_law_511 rfl (lv_at hl 0 rfl) ?_
  refine lv_iconst (v := 2) hx hb dL_law_512 ic_2 ?_
  refine lv_iadd hx hb dL_law_513 ?_
  refine sk_top (nI (i + 2)) (nI_add i 2) ?_
  refine va_sld hx hb hX hbl hbA hS (vin (i + 2) Ln (by omega) (by omega)) dL_law_514 ?_
  obtain ⟨_, hdx⟩ := xI_head hI
  refine sk_Vi (q0 := 0) (n := 2) (rest := []) (wr := mw) ⟨hx, hb, hml, hown, hts⟩ hl.1 (xc_mood l D cI cJ cC cZ cS x0 tl tb dy L nS lg ac su hn hR sd rf pn pB xf xp xw (xs (nI (i + 1)).toNatClampNeg) (xs (nI (i + 2)).toNatClampNeg) hk hI) w_4_65 w_4_66 w_4_67 w_1_1 w_4_68 (by decide +kernel) ⟨⟨(Nat.le_of_ble_eq_true rfl), (Nat.le_of_ble_eq_true rfl)⟩, (Nat.le_of_ble_eq_true rfl), (Nat.le_of_ble_eq_true rfl)⟩ hK hP hD hS hA (idx 0 xw) (idx xw.length mw) (idx_C xw mw) (idx_R xw mw) (idx_nd 0 xw) (idx_nd _ mw) (idx_dis xw mw) hdx rfl rfl rfl (Nat.le_of_ble_eq_true rfl) dL_law_515 (fun rx ux H locs hw hP hD hS => ?_)
  obtain ⟨hI2, hkx⟩ := hw
  have hP : va_P D vwCl (mw ++ ux) H := hP
  refine lv_pop hx hb dL_law_518 rfl ?_
  refine lv_aload_n hx hb dL_law_519 rfl (lv_at hl 1 rfl) ?_
  refine lv_aload_n hx hb dL_law_520 rfl (lv_at hl 3 rfl) ?_
  refine lv_iload_n hx hb dL_law_521 rfl (lv_at hl 0 rfl) ?_
  refine lv_iconst (v := 1) hx hb dL_law_522 ic_1 ?_
  refine lv_iadd hx hb dL_law_523 ?_
  refine sk_top (nI (i + 1)) (nI_add i 1) ?_
  refine va_sld hx hb hX hbl hbA hS (vin (i + 1) Ln (by omega) (by omega)) dL_law_524 ?_
  refine lv_aload_n hx hb dL_law_525 rfl (lv_at hl 3 rfl) ?_
  refine lv_iload_n hx hb dL_law_526 rfl (lv_at hl 0 rfl) ?_
  refine lv_iconst (v := 2) hx hb dL_law_527 ic_2 ?_
  refine lv_iadd hx hb dL_law_528 ?_
  refine sk_top (nI (i + 2)) (nI_add i 2) ?_
  refine va_sld hx hb hX hbl hbA hS (vin (i + 2) Ln (by omega) (by omega)) dL_law_529 ?_
  obtain ⟨_, hdm⟩ := mI_head hJ
  refine sk_Vi (q0 := 0) (n := 2) (rest := []) (wr := ux) ⟨hx, hb, hml, hown, hts⟩ hl.1 (mc_mood l D cI cJ cC cZ cS mm tl tb dy L nS lg ac su hn hR sd rf pn pB xf xp mw (xs (nI (i + 1)).toNatClampNeg) (xs (nI (i + 2)).toNatClampNeg) hk hJ) w_7_213 w_7_214 w_7_215 w_1_14 w_7_216 (by decide +kernel) ⟨⟨(Nat.le_of_ble_eq_true rfl), (Nat.le_of_ble_eq_true rfl)⟩, (Nat.le_of_ble_eq_true rfl), (Nat.le_of_ble_eq_true rfl)⟩ hK hP hD hS hA (idx 0 mw) (idx mw.length ux) (idx_C mw ux) (idx_R mw ux) (idx_nd 0 mw) (idx_nd _ ux) (idx_dis mw ux) hdm rfl rfl rfl (Nat.le_of_ble_eq_true rfl) dL_law_530 (fun rm um H locs hw hP hD hS => ?_)
  obtain ⟨hJ2, hkm⟩ := hw
  have hre := moodR_eq hk.2.2.1 hkx hkm
  have hk2 := hk
  refine lv_pop hx hb dL_law_533 rfl ?_
  refine lv_goto (tgt := 1171) hx hb dL_law_534 (by decide) ?_
  exact K _ _ _ _ _ _ _ _ _ _ _ _ _ _ _ _ _ _ _ _ _ hk2 hI2 hJ2 hP hD hS hl
theorem dg_L_law_537_537 : bqL cL_law 537 [(0, [43]), (1, [42]), (2, [29]), (3, [4]), (4, [96]), (5, [46]), (6, [42]), (7, [29]), (8, [5]), (9, [96]), (10, [46]), (11, [182, 0, 65]), (14, [88]), (15, [44]), (16, [42]), (17, [29]), (18, [4]), (19, [96]), (20, [46]), (21, [42]), (22, [29]), (23, [5]), (24, [96]), (25, [46]), (26, [182, 0, 68]), (29, [88]), (30, [167, 2, 92])] = true := by decide +kernel
theorem dL_law_537 : decode cL_law 537 = .ok (.aload_n 1, 1) := q_aload_n1 (bat_get dg_L_law_537_537 0 rfl rfl)
theorem dL_law_538 : decode cL_law 538 = .ok (.aload_n 0, 1) := q_aload_n0 (bat_get dg_L_law_537_537 1 rfl rfl)
theorem dL_law_539 : decode cL_law 539 = .ok (.iload_n 3, 1) := q_iload_n3 (bat_get dg_L_law_537_537 2 rfl rfl)
theorem dL_law_540 : decode cL_law 540 = .ok (.iconst 1, 1) := q_iconst1 (bat_get dg_L_law_537_537 3 rfl rfl)
theorem dL_law_541 : decode cL_law 541 = .ok (.iadd, 1) := q_iadd (bat_get dg_L_law_537_537 4 rfl rfl)
theorem dL_law_542 : decode cL_law 542 = .ok (.iaload, 1) := q_iaload (bat_get dg_L_law_537_537 5 rfl rfl)
theorem dL_law_543 : decode cL_law 543 = .ok (.aload_n 0, 1) := q_aload_n0 (bat_get dg_L_law_537_537 6 rfl rfl)
theorem dL_law_544 : decode cL_law 544 = .ok (.iload_n 3, 1) := q_iload_n3 (bat_get dg_L_law_537_537 7 rfl rfl)
theorem dL_law_545 : decode cL_law 545 = .ok (.iconst 2, 1) := q_iconst2 (bat_get dg_L_law_537_537 8 rfl rfl)
theorem dL_law_546 : decode cL_law 546 = .ok (.iadd, 1) := q_iadd (bat_get dg_L_law_537_537 9 rfl rfl)
theorem dL_law_547 : decode cL_law 547 = .ok (.iaload, 1) := q_iaload (bat_get dg_L_law_537_537 10 rfl rfl)
theorem dL_law_548 : decode cL_law 548 = .ok (.invokevirtual 65, 3) := q_invokevirtual (bat_get dg_L_law_537_537 11 rfl rfl) rfl
theorem dL_law_551 : decode cL_law 551 = .ok (.pop2, 1) := q_pop2 (bat_get dg_L_law_537_537 12 rfl rfl)
theorem dL_law_552 : decode cL_law 552 = .ok (.aload_n 2, 1) := q_aload_n2 (bat_get dg_L_law_537_537 13 rfl rfl)
theorem dL_law_553 : decode cL_law 553 = .ok (.aload_n 0, 1) := q_aload_n0 (bat_get dg_L_law_537_537 14 rfl rfl)
theorem dL_law_554 : decode cL_law 554 = .ok (.iload_n 3, 1) := q_iload_n3 (bat_get dg_L_law_537_537 15 rfl rfl)
theorem dL_law_555 : decode cL_law 555 = .ok (.iconst 1, 1) := q_iconst1 (bat_get dg_L_law_537_537 16 rfl rfl)
theorem dL_law_556 : decode cL_law 556 = .ok (.iadd, 1) := q_iadd (bat_get dg_L_law_537_537 17 rfl rfl)
theorem dL_law_557 : decode cL_law 557 = .ok (.iaload, 1) := q_iaload (bat_get dg_L_law_537_537 18 rfl rfl)
theorem dL_law_558 : decode cL_law 558 = .ok (.aload_n 0, 1) := q_aload_n0 (bat_get dg_L_law_537_537 19 rfl rfl)
theorem dL_law_559 : decode cL_law 559 = .ok (.iload_n 3, 1) := q_iload_n3 (bat_get dg_L_law_537_537 20 rfl rfl)
theorem dL_law_560 : decode cL_law 560 = .ok (.iconst 2, 1) := q_iconst2 (bat_get dg_L_law_537_537 21 rfl rfl)
theorem dL_law_561 : decode cL_law 561 = .ok (.iadd, 1) := q_iadd (bat_get dg_L_law_537_537 22 rfl rfl)
theorem dL_law_562 : decode cL_law 562 = .ok (.iaload, 1) := q_iaload (bat_get dg_L_law_537_537 23 rfl rfl)
theorem dL_law_563 : decode cL_law 563 = .ok (.invokevirtual 68, 3) := q_invokevirtual (bat_get dg_L_law_537_537 24 rfl rfl) rfl
theorem dL_law_566 : decode cL_law 566 = .ok (.pop2, 1) := q_pop2 (bat_get dg_L_law_537_537 25 rfl rfl)
theorem dL_law_567 : decode cL_law 567 = .ok (.goto 604, 3) := q_goto (bat_get dg_L_law_537_537 26 rfl rfl) rfl
theorem w_4_77 : (Cond.methodLink RL 65 yX11_many) ∈ wsL_law := sk_mem (ck_4 _ (List.mem_of_getElem? (i := 77) rfl)) rfl
theorem w_4_78 : (Cond.instanceMethod yX11_many) ∈ wsL_law := sk_mem (ck_4 _ (List.mem_of_getElem? (i := 78) rfl)) rfl
theorem w_4_79 : (Cond.selects RX11 yX11_many yX11_many) ∈ wsL_law := sk_mem (ck_4 _ (List.mem_of_getElem? (i := 79) rfl)) rfl
theorem w_7_221 : (Cond.methodLink RL 68 yX12_many) ∈ wsL_law := sk_mem (ck_7 _ (List.mem_of_getElem? (i := 221) rfl)) rfl
theorem w_7_222 : (Cond.instanceMethod yX12_many) ∈ wsL_law := sk_mem (ck_7 _ (List.mem_of_getElem? (i := 222) rfl)) rfl
theorem w_7_223 : (Cond.selects RX12 yX12_many yX12_many) ∈ wsL_law := sk_mem (ck_7 _ (List.mem_of_getElem? (i := 223) rfl)) rfl
set_option maxHeartbeats 4000000 in
set_option maxRecDepth 100000 in
theorem law_11 (l : Launch) (D : va_G) (cI cJ cC cZ cS : ClassId) (zk zv : Nat) (zf : Value) (x0 mm i : Nat) (tl : Nat) (tb : Nat → Nat) (dy : Nat) (L : LkS) (nS : KN) (lg : KLg) (ac : Nat) (su : Nat → KN) (hn : Nat) (hR : Nat → Nat) (sd : Nat) (rf : Nat → Int32) (pn : Nat) (pB : Nat → Nat) (xf : Int32) (xp : Int32) (xw mw : va_W) {p : Program} {e : Env} {s : State} {m : MethodId} {below : List Frame} {meth : Method} {c : Code} {b Ln : Nat} {xs : Nat → Int32} {A : Nat → Prop} {H : Heap} {locs : List Loc} {ls : Array Slot} (E : lwE p s m meth c b Ln xs zk zv zf D (skT cI cJ cC cZ cS) A) (hi6 : i + 6 ≤ Ln) (hk : kOk L dy nS lg ac su hn hR sd) (hI : xI cI cJ cC cZ cS x0 tl tb dy L nS lg ac su hn hR sd rf pn pB xf xp xw) (hJ : mI cI cJ cC cZ cS mm tl tb dy L nS lg ac su hn hR sd rf pn pB xf xp mw) (hP : va_P D vwCl (xw ++ mw) H) (hD : va_D A (xw ++ mw)) (hS : va_S A s.heap H locs) (hl : lv_has ls 4 [(3, .int (nI i)), (2, .ref mm), (1, .ref x0), (0, .ref b)]) (K : ∀ (tl : Nat) (tb : Nat → Nat) (dy : Nat) (L : LkS) (nS : KN) (lg : KLg) (ac : Nat) (su : Nat → KN) (hn : Nat) (hR : Nat → Nat) (sd : Nat) (rf : Nat → Int32) (pn : Nat) (pB : Nat → Nat) (xf : Int32) (xp : Int32) (xw mw : va_W) (H : Heap) (locs : List Loc) (ls : Array Slot), kOk L dy nS lg ac su hn hR sd → xI cI cJ cC cZ cS x0 tl tb dy L nS lg ac su hn hR sd rf pn pB xf xp xw → mI cI cJ cC cZ cS mm tl tb dy L nS lg ac su hn hR sd rf pn pB xf xp mw → va_P D vwCl (xw ++ mw) H → va_D A (xw ++ mw) → va_S A s.heap H locs → lv_has ls 4 [(3, .int (nI i)), (2, .ref mm), (1, .ref x0), (0, .ref b)] → W p l e room_1 s m #[Value.ref b] below meth c H locs 182 32192 (lw_Z below #[Value.ref b] s) (F0 m 1171 ls [])) : W p l e room_1 s m #[Value.ref b] below meth c H locs 182 32192 (lw_Z below #[Value.ref b] s) (F0 m 537 ls []) := by
  obtain ⟨hx, hb, hr, hml, hlocks, hown, hts, hX, hbl, hA, hbA, hAf, hK, hZ, hL⟩ := id E
  refine lv_aload_n hx hb dL_law_537 rfl (lv_at hl 2 rfl) ?_
  refine lv_aload_n hx hb dL_law_538 rfl (lv_at hl 3 rfl) ?_
  refine lv_iload_n hx hb dL_law_539 rfl (lv_at hl 0 rfl) ?_
  refine lv_iconst (v := 1) hx hb dL_law_540 ic_1 ?_
  refine lv_iadd hx hb dL_law_541 ?_
  refine sk_top (nI (i + 1)) (nI_add i 1) ?_
  refine va_sld hx hb hX hbl hbA hS (vin (i + 1) Ln (by omega) (by omega)) dL_law_542 ?_
  refine lv_aload_n hx hb dL_law_543 rfl (lv_at hl 3 rfl) ?_
  refine lv_iload_n hx hb dL_law_544 rfl (lv_at hl 0 rfl) ?_
  refine lv_iconst (v := 2) hx hb dL_law_545 ic_2 ?_
  refine lv_iadd hx hb dL_law_546 ?_
  refine sk_top (nI (i + 2)) (nI_add i 2) ?_
  refine va_sld hx hb hX hbl hbA hS (vin (i + 2) Ln (by omega) (by omega)) dL_law_547 ?_
  obtain ⟨_, hdx⟩ := xI_head hI
  refine sk_Vl (q0 := 0) (n := 2) (rest := []) (wr := mw) ⟨hx, hb, hml, hown, hts⟩ hl.1 (xc_many l D cI cJ cC cZ cS x0 tl tb dy L nS lg ac su hn hR sd rf pn pB xf xp xw (xs (nI (i + 1)).toNatClampNeg) (xs (nI (i + 2)).toNatClampNeg) hk hI) w_4_77 w_4_78 w_4_79 w_1_1 w_4_80 (by decide +kernel) ⟨⟨(Nat.le_of_ble_eq_true rfl), (Nat.le_of_ble_eq_true rfl)⟩, (Nat.le_of_ble_eq_true rfl), (Nat.le_of_ble_eq_true rfl)⟩ hK hP hD hS hA (idx 0 xw) (idx xw.length mw) (idx_C xw mw) (idx_R xw mw) (idx_nd 0 xw) (idx_nd _ mw) (idx_dis xw mw) hdx rfl rfl rfl (Nat.le_of_ble_eq_true rfl) dL_law_548 (fun rx ux H locs hw hP hD hS => ?_)
  have hI2 := hw
  have hP : va_P D vwCl (mw ++ ux) H := hP
  refine lv_pop2_2 hx hb dL_law_551 rfl ?_
  refine lv_aload_n hx hb dL_law_552 rfl (lv_at hl 1 rfl) ?_
  refine lv_aload_n hx hb dL_law_553 rfl (lv_at hl 3 rfl) ?_
  refine lv_iload_n hx hb dL_law_554 rfl (lv_at hl 0 rfl) ?_
  refine lv_iconst (v := 1) hx hb dL_law_555 ic_1 ?_
  refine lv_iadd hx hb dL_law_556 ?_
  refine sk_top (nI (i + 1)) (nI_add i 1) ?_
  refine va_sld hx hb hX hbl hbA hS (vin (i + 1) Ln (by omega) (by omega)) dL_law_557 ?_
  refine lv_aload_n hx hb dL_law_558 rfl (lv_at hl 3 rfl) ?_
  refine lv_iload_n hx hb dL_law_559 rfl (lv_at hl 0 rfl) ?_
  refine lv_iconst (v := 2) hx hb dL_law_560 ic_2 ?_
  refine lv_iadd hx hb dL_law_561 ?_
  refine sk_top (nI (i + 2)) (nI_add i 2) ?_
  refine va_sld hx hb hX hbl hbA hS (vin (i + 2) Ln (by omega) (by omega)) dL_law_562 ?_
  obtain ⟨_, hdm⟩ := mI_head hJ
  refine sk_Vl (q0 := 0) (n := 2) (rest := []) (wr := ux) ⟨hx, hb, hml, hown, hts⟩ hl.1 (mc_many l D cI cJ cC cZ cS mm tl tb dy L nS lg ac su hn hR sd rf pn pB xf xp mw (xs (nI (i + 1)).toNatClampNeg) (xs (nI (i + 2)).toNatClampNeg) hk hJ) w_7_221 w_7_222 w_7_223 w_1_14 w_7_224 (by decide +kernel) ⟨⟨(Nat.le_of_ble_eq_true rfl), (Nat.le_of_ble_eq_true rfl)⟩, (Nat.le_of_ble_eq_true rfl), (Nat.le_of_ble_eq_true rfl)⟩ hK hP hD hS hA (idx 0 mw) (idx mw.length ux) (idx_C mw ux) (idx_R mw ux) (idx_nd 0 mw) (idx_nd _ ux) (idx_dis mw ux) hdm rfl rfl rfl (Nat.le_of_ble_eq_true rfl) dL_law_563 (fun rm um H locs hw hP hD hS => ?_)
  have hJ2 := hw
  have hk2 := hk
  refine lv_pop2_2 hx hb dL_law_566 rfl ?_
  refine lv_goto (tgt := 1171) hx hb dL_law_567 (by decide) ?_
  exact K _ _ _ _ _ _ _ _ _ _ _ _ _ _ _ _ _ _ _ _ _ hk2 hI2 hJ2 hP hD hS hl
theorem dg_L_law_570_570 : bqL cL_law 570 [(0, [43]), (1, [182, 0, 69]), (4, [87]), (5, [44]), (6, [182, 0, 72]), (9, [87]), (10, [167, 2, 79])] = true := by decide +kernel
theorem dL_law_570 : decode cL_law 570 = .ok (.aload_n 1, 1) := q_aload_n1 (bat_get dg_L_law_570_570 0 rfl rfl)
theorem dL_law_571 : decode cL_law 571 = .ok (.invokevirtual 69, 3) := q_invokevirtual (bat_get dg_L_law_570_570 1 rfl rfl) rfl
theorem dL_law_574 : decode cL_law 574 = .ok (.pop, 1) := q_pop (bat_get dg_L_law_570_570 2 rfl rfl)
theorem dL_law_575 : decode cL_law 575 = .ok (.aload_n 2, 1) := q_aload_n2 (bat_get dg_L_law_570_570 3 rfl rfl)
theorem dL_law_576 : decode cL_law 576 = .ok (.invokevirtual 72, 3) := q_invokevirtual (bat_get dg_L_law_570_570 4 rfl rfl) rfl
theorem dL_law_579 : decode cL_law 579 = .ok (.pop, 1) := q_pop (bat_get dg_L_law_570_570 5 rfl rfl)
theorem dL_law_580 : decode cL_law 580 = .ok (.goto 591, 3) := q_goto (bat_get dg_L_law_570_570 6 rfl rfl) rfl
theorem w_4_92 : (Cond.methodLink RL 69 yX11_hushed) ∈ wsL_law := sk_mem (ck_4 _ (List.mem_of_getElem? (i := 92) rfl)) rfl
theorem w_4_93 : (Cond.instanceMethod yX11_hushed) ∈ wsL_law := sk_mem (ck_4 _ (List.mem_of_getElem? (i := 93) rfl)) rfl
theorem w_4_94 : (Cond.selects RX11 yX11_hushed yX11_hushed) ∈ wsL_law := sk_mem (ck_4 _ (List.mem_of_getElem? (i := 94) rfl)) rfl
theorem w_7_225 : (Cond.methodLink RL 72 yX12_hushed) ∈ wsL_law := sk_mem (ck_7 _ (List.mem_of_getElem? (i := 225) rfl)) rfl
theorem w_7_226 : (Cond.instanceMethod yX12_hushed) ∈ wsL_law := sk_mem (ck_7 _ (List.mem_of_getElem? (i := 226) rfl)) rfl
theorem w_7_227 : (Cond.selects RX12 yX12_hushed yX12_hushed) ∈ wsL_law := sk_mem (ck_7 _ (List.mem_of_getElem? (i := 227) rfl)) rfl
set_option maxHeartbeats 4000000 in
set_option maxRecDepth 100000 in
theorem law_12 (l : Launch) (D : va_G) (cI cJ cC cZ cS : ClassId) (zk zv : Nat) (zf : Value) (x0 mm i : Nat) (tl : Nat) (tb : Nat → Nat) (dy : Nat) (L : LkS) (nS : KN) (lg : KLg) (ac : Nat) (su : Nat → KN) (hn : Nat) (hR : Nat → Nat) (sd : Nat) (rf : Nat → Int32) (pn : Nat) (pB : Nat → Nat) (xf : Int32) (xp : Int32) (xw mw : va_W) {p : Program} {e : Env} {s : State} {m : MethodId} {below : List Frame} {meth : Method} {c : Code} {b Ln : Nat} {xs : Nat → Int32} {A : Nat → Prop} {H : Heap} {locs : List Loc} {ls : Array Slot} (E : lwE p s m meth c b Ln xs zk zv zf D (skT cI cJ cC cZ cS) A) (hi6 : i + 6 ≤ Ln) (hk : kOk L dy nS lg ac su hn hR sd) (hI : xI cI cJ cC cZ cS x0 tl tb dy L nS lg ac su hn hR sd rf pn pB xf xp xw) (hJ : mI cI cJ cC cZ cS mm tl tb dy L nS lg ac su hn hR sd rf pn pB xf xp mw) (hP : va_P D vwCl (xw ++ mw) H) (hD : va_D A (xw ++ mw)) (hS : va_S A s.heap H locs) (hl : lv_has ls 4 [(3, .int (nI i)), (2, .ref mm), (1, .ref x0), (0, .ref b)]) (K : ∀ (tl : Nat) (tb : Nat → Nat) (dy : Nat) (L : LkS) (nS : KN) (lg : KLg) (ac : Nat) (su : Nat → KN) (hn : Nat) (hR : Nat → Nat) (sd : Nat) (rf : Nat → Int32) (pn : Nat) (pB : Nat → Nat) (xf : Int32) (xp : Int32) (xw mw : va_W) (H : Heap) (locs : List Loc) (ls : Array Slot), kOk L dy nS lg ac su hn hR sd → xI cI cJ cC cZ cS x0 tl tb dy L nS lg ac su hn hR sd rf pn pB xf xp xw → mI cI cJ cC cZ cS mm tl tb dy L nS lg ac su hn hR sd rf pn pB xf xp mw → va_P D vwCl (xw ++ mw) H → va_D A (xw ++ mw) → va_S A s.heap H locs → lv_has ls 4 [(3, .int (nI i)), (2, .ref mm), (1, .ref x0), (0, .ref b)] → W p l e room_1 s m #[Value.ref b] below meth c H locs 182 32192 (lw_Z below #[Value.ref b] s) (F0 m 1171 ls [])) : W p l e room_1 s m #[Value.ref b] below meth c H locs 182 32192 (lw_Z below #[Value.ref b] s) (F0 m 570 ls []) := by
  obtain ⟨hx, hb, hr, hml, hlocks, hown, hts, hX, hbl, hA, hbA, hAf, hK, hZ, hL⟩ := id E
  refine lv_aload_n hx hb dL_law_570 rfl (lv_at hl 2 rfl) ?_
  obtain ⟨_, hdx⟩ := xI_head hI
  refine sk_Vi (q0 := 0) (n := 0) (rest := []) (wr := mw) ⟨hx, hb, hml, hown, hts⟩ hl.1 (xc_hushed l D cI cJ cC cZ cS x0 tl tb dy L nS lg ac su hn hR sd rf pn pB xf xp xw hk hI) w_4_92 w_4_93 w_4_94 w_1_1 w_4_95 (by decide +kernel) ⟨⟨(Nat.le_of_ble_eq_true rfl), (Nat.le_of_ble_eq_true rfl)⟩, (Nat.le_of_ble_eq_true rfl), (Nat.le_of_ble_eq_true rfl)⟩ hK hP hD hS hA (idx 0 xw) (idx xw.length mw) (idx_C xw mw) (idx_R xw mw) (idx_nd 0 xw) (idx_nd _ mw) (idx_dis xw mw) hdx rfl rfl rfl (Nat.le_of_ble_eq_true rfl) dL_law_571 (fun rx ux H locs hw hP hD hS => ?_)
  have hI2 := hw
  have hP : va_P D vwCl (mw ++ ux) H := hP
  refine lv_pop hx hb dL_law_574 rfl ?_
  refine lv_aload_n hx hb dL_law_575 rfl (lv_at hl 1 rfl) ?_
  obtain ⟨_, hdm⟩ := mI_head hJ
  refine sk_Vi (q0 := 0) (n := 0) (rest := []) (wr := ux) ⟨hx, hb, hml, hown, hts⟩ hl.1 (mc_hushed l D cI cJ cC cZ cS mm tl tb dy L nS lg ac su hn hR sd rf pn pB xf xp mw hk hJ) w_7_225 w_7_226 w_7_227 w_1_14 w_7_228 (by decide +kernel) ⟨⟨(Nat.le_of_ble_eq_true rfl), (Nat.le_of_ble_eq_true rfl)⟩, (Nat.le_of_ble_eq_true rfl), (Nat.le_of_ble_eq_true rfl)⟩ hK hP hD hS hA (idx 0 mw) (idx mw.length ux) (idx_C mw ux) (idx_R mw ux) (idx_nd 0 mw) (idx_nd _ ux) (idx_dis mw ux) hdm rfl rfl rfl (Nat.le_of_ble_eq_true rfl) dL_law_576 (fun rm um H locs hw hP hD hS => ?_)
  have hJ2 := hw
  have hk2 := hk
  refine lv_pop hx hb dL_law_579 rfl ?_
  refine lv_goto (tgt := 1171) hx hb dL_law_580 (by decide) ?_
  exact K _ _ _ _ _ _ _ _ _ _ _ _ _ _ _ _ _ _ _ _ _ hk2 hI2 hJ2 hP hD hS hl
theorem dg_L_law_583_583 : bqL cL_law 583 [(0, [43]), (1, [42]), (2, [29]), (3, [4]), (4, [96]), (5, [46]), (6, [42]), (7, [29]), (8, [5]), (9, [96]), (10, [46]), (11, [182, 0, 73]), (14, [87]), (15, [44]), (16, [42]), (17, [29]), (18, [4]), (19, [96]), (20, [46]), (21, [42]), (22, [29]), (23, [5]), (24, [96]), (25, [46]), (26, [182, 0, 76]), (29, [87]), (30, [167, 2, 46])] = true := by decide +kernel
theorem dL_law_583 : decode cL_law 583 = .ok (.aload_n 1, 1) := q_aload_n1 (bat_get dg_L_law_583_583 0 rfl rfl)
theorem dL_law_584 : decode cL_law 584 = .ok (.aload_n 0, 1) := q_aload_n0 (bat_get dg_L_law_583_583 1 rfl rfl)
theorem dL_law_585 : decode cL_law 585 = .ok (.iload_n 3, 1) := q_iload_n3 (bat_get dg_L_law_583_583 2 rfl rfl)
theorem dL_law_586 : decode cL_law 586 = .ok (.iconst 1, 1) := q_iconst1 (bat_get dg_L_law_583_583 3 rfl rfl)
theorem dL_law_587 : decode cL_law 587 = .ok (.iadd, 1) := q_iadd (bat_get dg_L_law_583_583 4 rfl rfl)
theorem dL_law_588 : decode cL_law 588 = .ok (.iaload, 1) := q_iaload (bat_get dg_L_law_583_583 5 rfl rfl)
theorem dL_law_589 : decode cL_law 589 = .ok (.aload_n 0, 1) := q_aload_n0 (bat_get dg_L_law_583_583 6 rfl rfl)
theorem dL_law_590 : decode cL_law 590 = .ok (.iload_n 3, 1) := q_iload_n3 (bat_get dg_L_law_583_583 7 rfl rfl)
theorem dL_law_591 : decode cL_law 591 = .ok (.iconst 2, 1) := q_iconst2 (bat_get dg_L_law_583_583 8 rfl rfl)
theorem dL_law_592 : decode cL_law 592 = .ok (.iadd, 1) := q_iadd (bat_get dg_L_law_583_583 9 rfl rfl)
theorem dL_law_593 : decode cL_law 593 = .ok (.iaload, 1) := q_iaload (bat_get dg_L_law_583_583 10 rfl rfl)
theorem dL_law_594 : decode cL_law 594 = .ok (.invokevirtual 73, 3) := q_invokevirtual (bat_get dg_L_law_583_583 11 rfl rfl) rfl
theorem dL_law_597 : decode cL_law 597 = .ok (.pop, 1) := q_pop (bat_get dg_L_law_583_583 12 rfl rfl)
theorem dL_law_598 : decode cL_law 598 = .ok (.aload_n 2, 1) := q_aload_n2 (bat_get dg_L_law_583_583 13 rfl rfl)
theorem dL_law_599 : decode cL_law 599 = .ok (.aload_n 0, 1) := q_aload_n0 (bat_get dg_L_law_583_583 14 rfl rfl)
theorem dL_law_600 : decode cL_law 600 = .ok (.iload_n 3, 1) := q_iload_n3 (bat_get dg_L_law_583_583 15 rfl rfl)
theorem dL_law_601 : decode cL_law 601 = .ok (.iconst 1, 1) := q_iconst1 (bat_get dg_L_law_583_583 16 rfl rfl)
theorem dL_law_602 : decode cL_law 602 = .ok (.iadd, 1) := q_iadd (bat_get dg_L_law_583_583 17 rfl rfl)
theorem dL_law_603 : decode cL_law 603 = .ok (.iaload, 1) := q_iaload (bat_get dg_L_law_583_583 18 rfl rfl)
theorem dL_law_604 : decode cL_law 604 = .ok (.aload_n 0, 1) := q_aload_n0 (bat_get dg_L_law_583_583 19 rfl rfl)
theorem dL_law_605 : decode cL_law 605 = .ok (.iload_n 3, 1) := q_iload_n3 (bat_get dg_L_law_583_583 20 rfl rfl)
theorem dL_law_606 : decode cL_law 606 = .ok (.iconst 2, 1) := q_iconst2 (bat_get dg_L_law_583_583 21 rfl rfl)
theorem dL_law_607 : decode cL_law 607 = .ok (.iadd, 1) := q_iadd (bat_get dg_L_law_583_583 22 rfl rfl)
theorem dL_law_608 : decode cL_law 608 = .ok (.iaload, 1) := q_iaload (bat_get dg_L_law_583_583 23 rfl rfl)
theorem dL_law_609 : decode cL_law 609 = .ok (.invokevirtual 76, 3) := q_invokevirtual (bat_get dg_L_law_583_583 24 rfl rfl) rfl
theorem dL_law_612 : decode cL_law 612 = .ok (.pop, 1) := q_pop (bat_get dg_L_law_583_583 25 rfl rfl)
theorem dL_law_613 : decode cL_law 613 = .ok (.goto 558, 3) := q_goto (bat_get dg_L_law_583_583 26 rfl rfl) rfl
theorem w_4_120 : (Cond.methodLink RL 73 yX11_wished) ∈ wsL_law := sk_mem (ck_4 _ (List.mem_of_getElem? (i := 120) rfl)) rfl
theorem w_4_121 : (Cond.instanceMethod yX11_wished) ∈ wsL_law := sk_mem (ck_4 _ (List.mem_of_getElem? (i := 121) rfl)) rfl
theorem w_4_122 : (Cond.selects RX11 yX11_wished yX11_wished) ∈ wsL_law := sk_mem (ck_4 _ (List.mem_of_getElem? (i := 122) rfl)) rfl
theorem w_7_233 : (Cond.methodLink RL 76 yX12_wished) ∈ wsL_law := sk_mem (ck_7 _ (List.mem_of_getElem? (i := 233) rfl)) rfl
theorem w_7_234 : (Cond.instanceMethod yX12_wished) ∈ wsL_law := sk_mem (ck_7 _ (List.mem_of_getElem? (i := 234) rfl)) rfl
theorem w_7_235 : (Cond.selects RX12 yX12_wished yX12_wished) ∈ wsL_law := sk_mem (ck_7 _ (List.mem_of_getElem? (i := 235) rfl)) rfl
set_option maxHeartbeats 4000000 in
set_option maxRecDepth 100000 in
theorem law_13 (l : Launch) (D : va_G) (cI cJ cC cZ cS : ClassId) (zk zv : Nat) (zf : Value) (x0 mm i : Nat) (tl : Nat) (tb : Nat → Nat) (dy : Nat) (L : LkS) (nS : KN) (lg : KLg) (ac : Nat) (su : Nat → KN) (hn : Nat) (hR : Nat → Nat) (sd : Nat) (rf : Nat → Int32) (pn : Nat) (pB : Nat → Nat) (xf : Int32) (xp : Int32) (xw mw : va_W) {p : Program} {e : Env} {s : State} {m : MethodId} {below : List Frame} {meth : Method} {c : Code} {b Ln : Nat} {xs : Nat → Int32} {A : Nat → Prop} {H : Heap} {locs : List Loc} {ls : Array Slot} (E : lwE p s m meth c b Ln xs zk zv zf D (skT cI cJ cC cZ cS) A) (hi6 : i + 6 ≤ Ln) (hk : kOk L dy nS lg ac su hn hR sd) (hI : xI cI cJ cC cZ cS x0 tl tb dy L nS lg ac su hn hR sd rf pn pB xf xp xw) (hJ : mI cI cJ cC cZ cS mm tl tb dy L nS lg ac su hn hR sd rf pn pB xf xp mw) (hP : va_P D vwCl (xw ++ mw) H) (hD : va_D A (xw ++ mw)) (hS : va_S A s.heap H locs) (hl : lv_has ls 4 [(3, .int (nI i)), (2, .ref mm), (1, .ref x0), (0, .ref b)]) (K : ∀ (tl : Nat) (tb : Nat → Nat) (dy : Nat) (L : LkS) (nS : KN) (lg : KLg) (ac : Nat) (su : Nat → KN) (hn : Nat) (hR : Nat → Nat) (sd : Nat) (rf : Nat → Int32) (pn : Nat) (pB : Nat → Nat) (xf : Int32) (xp : Int32) (xw mw : va_W) (H : Heap) (locs : List Loc) (ls : Array Slot), kOk L dy nS lg ac su hn hR sd → xI cI cJ cC cZ cS x0 tl tb dy L nS lg ac su hn hR sd rf pn pB xf xp xw → mI cI cJ cC cZ cS mm tl tb dy L nS lg ac su hn hR sd rf pn pB xf xp mw → va_P D vwCl (xw ++ mw) H → va_D A (xw ++ mw) → va_S A s.heap H locs → lv_has ls 4 [(3, .int (nI i)), (2, .ref mm), (1, .ref x0), (0, .ref b)] → W p l e room_1 s m #[Value.ref b] below meth c H locs 182 32192 (lw_Z below #[Value.ref b] s) (F0 m 1171 ls [])) : W p l e room_1 s m #[Value.ref b] below meth c H locs 182 32192 (lw_Z below #[Value.ref b] s) (F0 m 583 ls []) := by
  obtain ⟨hx, hb, hr, hml, hlocks, hown, hts, hX, hbl, hA, hbA, hAf, hK, hZ, hL⟩ := id E
  refine lv_aload_n hx hb dL_law_583 rfl (lv_at hl 2 rfl) ?_
  refine lv_aload_n hx hb dL_law_584 rfl (lv_at hl 3 rfl) ?_
  refine lv_iload_n hx hb dL_law_585 rfl (lv_at hl 0 rfl) ?_
  refine lv_iconst (v := 1) hx hb dL_law_586 ic_1 ?_
  refine lv_iadd hx hb dL_law_587 ?_
  refine sk_top (nI (i + 1)) (nI_add i 1) ?_
  refine va_sld hx hb hX hbl hbA hS (vin (i + 1) Ln (by omega) (by omega)) dL_law_588 ?_
  refine lv_aload_n hx hb dL_law_589 rfl (lv_at hl 3 rfl) ?_
  refine lv_iload_n hx hb dL_law_590 rfl (lv_at hl 0 rfl) ?_
  refine lv_iconst (v := 2) hx hb dL_law_591 ic_2 ?_
  refine lv_iadd hx hb dL_law_592 ?_
  refine sk_top (nI (i + 2)) (nI_add i 2) ?_
  refine va_sld hx hb hX hbl hbA hS (vin (i + 2) Ln (by omega) (by omega)) dL_law_593 ?_
  obtain ⟨_, hdx⟩ := xI_head hI
  refine sk_Vi (q0 := 0) (n := 2) (rest := []) (wr := mw) ⟨hx, hb, hml, hown, hts⟩ hl.1 (xc_wished l D cI cJ cC cZ cS x0 tl tb dy L nS lg ac su hn hR sd rf pn pB xf xp xw (xs (nI (i + 1)).toNatClampNeg) (xs (nI (i + 2)).toNatClampNeg) hk hI) w_4_120 w_4_121 w_4_122 w_1_1 w_4_123 (by decide +kernel) ⟨⟨(Nat.le_of_ble_eq_true rfl), (Nat.le_of_ble_eq_true rfl)⟩, (Nat.le_of_ble_eq_true rfl), (Nat.le_of_ble_eq_true rfl)⟩ hK hP hD hS hA (idx 0 xw) (idx xw.length mw) (idx_C xw mw) (idx_R xw mw) (idx_nd 0 xw) (idx_nd _ mw) (idx_dis xw mw) hdx rfl rfl rfl (Nat.le_of_ble_eq_true rfl) dL_law_594 (fun rx ux H locs hw hP hD hS => ?_)
  have hI2 := hw
  have hP : va_P D vwCl (mw ++ ux) H := hP
  refine lv_pop hx hb dL_law_597 rfl ?_
  refine lv_aload_n hx hb dL_law_598 rfl (lv_at hl 1 rfl) ?_
  refine lv_aload_n hx hb dL_law_599 rfl (lv_at hl 3 rfl) ?_
  refine lv_iload_n hx hb dL_law_600 rfl (lv_at hl 0 rfl) ?_
  refine lv_iconst (v := 1) hx hb dL_law_601 ic_1 ?_
  refine lv_iadd hx hb dL_law_602 ?_
  refine sk_top (nI (i + 1)) (nI_add i 1) ?_
  refine va_sld hx hb hX hbl hbA hS (vin (i + 1) Ln (by omega) (by omega)) dL_law_603 ?_
  refine lv_aload_n hx hb dL_law_604 rfl (lv_at hl 3 rfl) ?_
  refine lv_iload_n hx hb dL_law_605 rfl (lv_at hl 0 rfl) ?_
  refine lv_iconst (v := 2) hx hb dL_law_606 ic_2 ?_
  refine lv_iadd hx hb dL_law_607 ?_
  refine sk_top (nI (i + 2)) (nI_add i 2) ?_
  refine va_sld hx hb hX hbl hbA hS (vin (i + 2) Ln (by omega) (by omega)) dL_law_608 ?_
  obtain ⟨_, hdm⟩ := mI_head hJ
  refine sk_Vi (q0 := 0) (n := 2) (rest := []) (wr := ux) ⟨hx, hb, hml, hown, hts⟩ hl.1 (mc_wished l D cI cJ cC cZ cS mm tl tb dy L nS lg ac su hn hR sd rf pn pB xf xp mw (xs (nI (i + 1)).toNatClampNeg) (xs (nI (i + 2)).toNatClampNeg) hk hJ) w_7_233 w_7_234 w_7_235 w_1_14 w_7_236 (by decide +kernel) ⟨⟨(Nat.le_of_ble_eq_true rfl), (Nat.le_of_ble_eq_true rfl)⟩, (Nat.le_of_ble_eq_true rfl), (Nat.le_of_ble_eq_true rfl)⟩ hK hP hD hS hA (idx 0 mw) (idx mw.length ux) (idx_C mw ux) (idx_R mw ux) (idx_nd 0 mw) (idx_nd _ ux) (idx_dis mw ux) hdm rfl rfl rfl (Nat.le_of_ble_eq_true rfl) dL_law_609 (fun rm um H locs hw hP hD hS => ?_)
  have hJ2 := hw
  have hk2 := hk
  refine lv_pop hx hb dL_law_612 rfl ?_
  refine lv_goto (tgt := 1171) hx hb dL_law_613 (by decide) ?_
  exact K _ _ _ _ _ _ _ _ _ _ _ _ _ _ _ _ _ _ _ _ _ hk2 hI2 hJ2 hP hD hS hl
theorem dg_L_law_616_616 : bqL cL_law 616 [(0, [43]), (1, [182, 0, 77]), (4, [87]), (5, [44]), (6, [182, 0, 80]), (9, [87]), (10, [167, 2, 33])] = true := by decide +kernel
theorem dL_law_616 : decode cL_law 616 = .ok (.aload_n 1, 1) := q_aload_n1 (bat_get dg_L_law_616_616 0 rfl rfl)
theorem dL_law_617 : decode cL_law 617 = .ok (.invokevirtual 77, 3) := q_invokevirtual (bat_get dg_L_law_616_616 1 rfl rfl) rfl
theorem dL_law_620 : decode cL_law 620 = .ok (.pop, 1) := q_pop (bat_get dg_L_law_616_616 2 rfl rfl)
theorem dL_law_621 : decode cL_law 621 = .ok (.aload_n 2, 1) := q_aload_n2 (bat_get dg_L_law_616_616 3 rfl rfl)
theorem dL_law_622 : decode cL_law 622 = .ok (.invokevirtual 80, 3) := q_invokevirtual (bat_get dg_L_law_616_616 4 rfl rfl) rfl
theorem dL_law_625 : decode cL_law 625 = .ok (.pop, 1) := q_pop (bat_get dg_L_law_616_616 5 rfl rfl)
theorem dL_law_626 : decode cL_law 626 = .ok (.goto 545, 3) := q_goto (bat_get dg_L_law_616_616 6 rfl rfl) rfl
theorem w_4_124 : (Cond.methodLink RL 77 yX11_lies) ∈ wsL_law := sk_mem (ck_4 _ (List.mem_of_getElem? (i := 124) rfl)) rfl
theorem w_4_125 : (Cond.instanceMethod yX11_lies) ∈ wsL_law := sk_mem (ck_4 _ (List.mem_of_getElem? (i := 125) rfl)) rfl
theorem w_4_126 : (Cond.selects RX11 yX11_lies yX11_lies) ∈ wsL_law := sk_mem (ck_4 _ (List.mem_of_getElem? (i := 126) rfl)) rfl
theorem w_7_237 : (Cond.methodLink RL 80 yX12_lies) ∈ wsL_law := sk_mem (ck_7 _ (List.mem_of_getElem? (i := 237) rfl)) rfl
theorem w_7_238 : (Cond.instanceMethod yX12_lies) ∈ wsL_law := sk_mem (ck_7 _ (List.mem_of_getElem? (i := 238) rfl)) rfl
theorem w_7_239 : (Cond.selects RX12 yX12_lies yX12_lies) ∈ wsL_law := sk_mem (ck_7 _ (List.mem_of_getElem? (i := 239) rfl)) rfl
set_option maxHeartbeats 4000000 in
set_option maxRecDepth 100000 in
theorem law_14 (l : Launch) (D : va_G) (cI cJ cC cZ cS : ClassId) (zk zv : Nat) (zf : Value) (x0 mm i : Nat) (tl : Nat) (tb : Nat → Nat) (dy : Nat) (L : LkS) (nS : KN) (lg : KLg) (ac : Nat) (su : Nat → KN) (hn : Nat) (hR : Nat → Nat) (sd : Nat) (rf : Nat → Int32) (pn : Nat) (pB : Nat → Nat) (xf : Int32) (xp : Int32) (xw mw : va_W) {p : Program} {e : Env} {s : State} {m : MethodId} {below : List Frame} {meth : Method} {c : Code} {b Ln : Nat} {xs : Nat → Int32} {A : Nat → Prop} {H : Heap} {locs : List Loc} {ls : Array Slot} (E : lwE p s m meth c b Ln xs zk zv zf D (skT cI cJ cC cZ cS) A) (hi6 : i + 6 ≤ Ln) (hk : kOk L dy nS lg ac su hn hR sd) (hI : xI cI cJ cC cZ cS x0 tl tb dy L nS lg ac su hn hR sd rf pn pB xf xp xw) (hJ : mI cI cJ cC cZ cS mm tl tb dy L nS lg ac su hn hR sd rf pn pB xf xp mw) (hP : va_P D vwCl (xw ++ mw) H) (hD : va_D A (xw ++ mw)) (hS : va_S A s.heap H locs) (hl : lv_has ls 4 [(3, .int (nI i)), (2, .ref mm), (1, .ref x0), (0, .ref b)]) (K : ∀ (tl : Nat) (tb : Nat → Nat) (dy : Nat) (L : LkS) (nS : KN) (lg : KLg) (ac : Nat) (su : Nat → KN) (hn : Nat) (hR : Nat → Nat) (sd : Nat) (rf : Nat → Int32) (pn : Nat) (pB : Nat → Nat) (xf : Int32) (xp : Int32) (xw mw : va_W) (H : Heap) (locs : List Loc) (ls : Array Slot), kOk L dy nS lg ac su hn hR sd → xI cI cJ cC cZ cS x0 tl tb dy L nS lg ac su hn hR sd rf pn pB xf xp xw → mI cI cJ cC cZ cS mm tl tb dy L nS lg ac su hn hR sd rf pn pB xf xp mw → va_P D vwCl (xw ++ mw) H → va_D A (xw ++ mw) → va_S A s.heap H locs → lv_has ls 4 [(3, .int (nI i)), (2, .ref mm), (1, .ref x0), (0, .ref b)] → W p l e room_1 s m #[Value.ref b] below meth c H locs 182 32192 (lw_Z below #[Value.ref b] s) (F0 m 1171 ls [])) : W p l e room_1 s m #[Value.ref b] below meth c H locs 182 32192 (lw_Z below #[Value.ref b] s) (F0 m 616 ls []) := by
  obtain ⟨hx, hb, hr, hml, hlocks, hown, hts, hX, hbl, hA, hbA, hAf, hK, hZ, hL⟩ := id E
  refine lv_aload_n hx hb dL_law_616 rfl (lv_at hl 2 rfl) ?_
  obtain ⟨_, hdx⟩ := xI_head hI
  refine sk_Vi (q0 := 0) (n := 0) (rest := []) (wr := mw) ⟨hx, hb, hml, hown, hts⟩ hl.1 (xc_lies l D cI cJ cC cZ cS x0 tl tb dy L nS lg ac su hn hR sd rf pn pB xf xp xw hk hI) w_4_124 w_4_125 w_4_126 w_1_1 w_4_127 (by decide +kernel) ⟨⟨(Nat.le_of_ble_eq_true rfl), (Nat.le_of_ble_eq_true rfl)⟩, (Nat.le_of_ble_eq_true rfl), (Nat.le_of_ble_eq_true rfl)⟩ hK hP hD hS hA (idx 0 xw) (idx xw.length mw) (idx_C xw mw) (idx_R xw mw) (idx_nd 0 xw) (idx_nd _ mw) (idx_dis xw mw) hdx rfl rfl rfl (Nat.le_of_ble_eq_true rfl) dL_law_617 (fun rx ux H locs hw hP hD hS => ?_)
  have hI2 := hw
  have hP : va_P D vwCl (mw ++ ux) H := hP
  refine lv_pop hx hb dL_law_620 rfl ?_
  refine lv_aload_n hx hb dL_law_621 rfl (lv_at hl 1 rfl) ?_
  obtain ⟨_, hdm⟩ := mI_head hJ
  refine sk_Vi (q0 := 0) (n := 0) (rest := []) (wr := ux) ⟨hx, hb, hml, hown, hts⟩ hl.1 (mc_lies l D cI cJ cC cZ cS mm tl tb dy L nS lg ac su hn hR sd rf pn pB xf xp mw hk hJ) w_7_237 w_7_238 w_7_239 w_1_14 w_8_0 (by decide +kernel) ⟨⟨(Nat.le_of_ble_eq_true rfl), (Nat.le_of_ble_eq_true rfl)⟩, (Nat.le_of_ble_eq_true rfl), (Nat.le_of_ble_eq_true rfl)⟩ hK hP hD hS hA (idx 0 mw) (idx mw.length ux) (idx_C mw ux) (idx_R mw ux) (idx_nd 0 mw) (idx_nd _ ux) (idx_dis mw ux) hdm rfl rfl rfl (Nat.le_of_ble_eq_true rfl) dL_law_622 (fun rm um H locs hw hP hD hS => ?_)
  have hJ2 := hw
  have hk2 := hk
  refine lv_pop hx hb dL_law_625 rfl ?_
  refine lv_goto (tgt := 1171) hx hb dL_law_626 (by decide) ?_
  exact K _ _ _ _ _ _ _ _ _ _ _ _ _ _ _ _ _ _ _ _ _ hk2 hI2 hJ2 hP hD hS hl
theorem dg_L_law_629_629 : bqL cL_law 629 [(0, [43]), (1, [42]), (2, [29]), (3, [4]), (4, [96]), (5, [46]), (6, [182, 0, 81]), (9, [87]), (10, [44]), (11, [42]), (12, [29]), (13, [4]), (14, [96]), (15, [46]), (16, [182, 0, 84]), (19, [87]), (20, [167, 2, 10])] = true := by decide +kernel
theorem dL_law_629 : decode cL_law 629 = .ok (.aload_n 1, 1) := q_aload_n1 (bat_get dg_L_law_629_629 0 rfl rfl)
theorem dL_law_630 : decode cL_law 630 = .ok (.aload_n 0, 1) := q_aload_n0 (bat_get dg_L_law_629_629 1 rfl rfl)
theorem dL_law_631 : decode cL_law 631 = .ok (.iload_n 3, 1) := q_iload_n3 (bat_get dg_L_law_629_629 2 rfl rfl)
theorem dL_law_632 : decode cL_law 632 = .ok (.iconst 1, 1) := q_iconst1 (bat_get dg_L_law_629_629 3 rfl rfl)
theorem dL_law_633 : decode cL_law 633 = .ok (.iadd, 1) := q_iadd (bat_get dg_L_law_629_629 4 rfl rfl)
theorem dL_law_634 : decode cL_law 634 = .ok (.iaload, 1) := q_iaload (bat_get dg_L_law_629_629 5 rfl rfl)
theorem dL_law_635 : decode cL_law 635 = .ok (.invokevirtual 81, 3) := q_invokevirtual (bat_get dg_L_law_629_629 6 rfl rfl) rfl
theorem dL_law_638 : decode cL_law 638 = .ok (.pop, 1) := q_pop (bat_get dg_L_law_629_629 7 rfl rfl)
theorem dL_law_639 : decode cL_law 639 = .ok (.aload_n 2, 1) := q_aload_n2 (bat_get dg_L_law_629_629 8 rfl rfl)
theorem dL_law_640 : decode cL_law 640 = .ok (.aload_n 0, 1) := q_aload_n0 (bat_get dg_L_law_629_629 9 rfl rfl)
theorem dL_law_641 : decode cL_law 641 = .ok (.iload_n 3, 1) := q_iload_n3 (bat_get dg_L_law_629_629 10 rfl rfl)
theorem dL_law_642 : decode cL_law 642 = .ok (.iconst 1, 1) := q_iconst1 (bat_get dg_L_law_629_629 11 rfl rfl)
theorem dL_law_643 : decode cL_law 643 = .ok (.iadd, 1) := q_iadd (bat_get dg_L_law_629_629 12 rfl rfl)
theorem dL_law_644 : decode cL_law 644 = .ok (.iaload, 1) := q_iaload (bat_get dg_L_law_629_629 13 rfl rfl)
theorem dL_law_645 : decode cL_law 645 = .ok (.invokevirtual 84, 3) := q_invokevirtual (bat_get dg_L_law_629_629 14 rfl rfl) rfl
theorem dL_law_648 : decode cL_law 648 = .ok (.pop, 1) := q_pop (bat_get dg_L_law_629_629 15 rfl rfl)
theorem dL_law_649 : decode cL_law 649 = .ok (.goto 522, 3) := q_goto (bat_get dg_L_law_629_629 16 rfl rfl) rfl
theorem w_4_128 : (Cond.methodLink RL 81 yX11_later) ∈ wsL_law := sk_mem (ck_4 _ (List.mem_of_getElem? (i := 128) rfl)) rfl
theorem w_4_129 : (Cond.instanceMethod yX11_later) ∈ wsL_law := sk_mem (ck_4 _ (List.mem_of_getElem? (i := 129) rfl)) rfl
theorem w_4_130 : (Cond.selects RX11 yX11_later yX11_later) ∈ wsL_law := sk_mem (ck_4 _ (List.mem_of_getElem? (i := 130) rfl)) rfl
theorem w_8_1 : (Cond.methodLink RL 84 yX12_later) ∈ wsL_law := sk_mem (ck_8 _ (List.mem_of_getElem? (i := 1) rfl)) rfl
theorem w_8_2 : (Cond.instanceMethod yX12_later) ∈ wsL_law := sk_mem (ck_8 _ (List.mem_of_getElem? (i := 2) rfl)) rfl
theorem w_8_3 : (Cond.selects RX12 yX12_later yX12_later) ∈ wsL_law := sk_mem (ck_8 _ (List.mem_of_getElem? (i := 3) rfl)) rfl
set_option maxHeartbeats 4000000 in
set_option maxRecDepth 100000 in
theorem law_15 (l : Launch) (D : va_G) (cI cJ cC cZ cS : ClassId) (zk zv : Nat) (zf : Value) (x0 mm i : Nat) (tl : Nat) (tb : Nat → Nat) (dy : Nat) (L : LkS) (nS : KN) (lg : KLg) (ac : Nat) (su : Nat → KN) (hn : Nat) (hR : Nat → Nat) (sd : Nat) (rf : Nat → Int32) (pn : Nat) (pB : Nat → Nat) (xf : Int32) (xp : Int32) (xw mw : va_W) {p : Program} {e : Env} {s : State} {m : MethodId} {below : List Frame} {meth : Method} {c : Code} {b Ln : Nat} {xs : Nat → Int32} {A : Nat → Prop} {H : Heap} {locs : List Loc} {ls : Array Slot} (E : lwE p s m meth c b Ln xs zk zv zf D (skT cI cJ cC cZ cS) A) (hi6 : i + 6 ≤ Ln) (hk : kOk L dy nS lg ac su hn hR sd) (hI : xI cI cJ cC cZ cS x0 tl tb dy L nS lg ac su hn hR sd rf pn pB xf xp xw) (hJ : mI cI cJ cC cZ cS mm tl tb dy L nS lg ac su hn hR sd rf pn pB xf xp mw) (hP : va_P D vwCl (xw ++ mw) H) (hD : va_D A (xw ++ mw)) (hS : va_S A s.heap H locs) (hl : lv_has ls 4 [(3, .int (nI i)), (2, .ref mm), (1, .ref x0), (0, .ref b)]) (K : ∀ (tl : Nat) (tb : Nat → Nat) (dy : Nat) (L : LkS) (nS : KN) (lg : KLg) (ac : Nat) (su : Nat → KN) (hn : Nat) (hR : Nat → Nat) (sd : Nat) (rf : Nat → Int32) (pn : Nat) (pB : Nat → Nat) (xf : Int32) (xp : Int32) (xw mw : va_W) (H : Heap) (locs : List Loc) (ls : Array Slot), kOk L dy nS lg ac su hn hR sd → xI cI cJ cC cZ cS x0 tl tb dy L nS lg ac su hn hR sd rf pn pB xf xp xw → mI cI cJ cC cZ cS mm tl tb dy L nS lg ac su hn hR sd rf pn pB xf xp mw → va_P D vwCl (xw ++ mw) H → va_D A (xw ++ mw) → va_S A s.heap H locs → lv_has ls 4 [(3, .int (nI i)), (2, .ref mm), (1, .ref x0), (0, .ref b)] → W p l e room_1 s m #[Value.ref b] below meth c H locs 182 32192 (lw_Z below #[Value.ref b] s) (F0 m 1171 ls [])) : W p l e room_1 s m #[Value.ref b] below meth c H locs 182 32192 (lw_Z below #[Value.ref b] s) (F0 m 629 ls []) := by
  obtain ⟨hx, hb, hr, hml, hlocks, hown, hts, hX, hbl, hA, hbA, hAf, hK, hZ, hL⟩ := id E
  refine lv_aload_n hx hb dL_law_629 rfl (lv_at hl 2 rfl) ?_
  refine lv_aload_n hx hb dL_law_630 rfl (lv_at hl 3 rfl) ?_
  refine lv_iload_n hx hb dL_law_631 rfl (lv_at hl 0 rfl) ?_
  refine lv_iconst (v := 1) hx hb dL_law_632 ic_1 ?_
  refine lv_iadd hx hb dL_law_633 ?_
  refine sk_top (nI (i + 1)) (nI_add i 1) ?_
  refine va_sld hx hb hX hbl hbA hS (vin (i + 1) Ln (by omega) (by omega)) dL_law_634 ?_
  obtain ⟨_, hdx⟩ := xI_head hI
  refine sk_Vi (q0 := 0) (n := 1) (rest := []) (wr := mw) ⟨hx, hb, hml, hown, hts⟩ hl.1 (xc_later l D cI cJ cC cZ cS x0 tl tb dy L nS lg ac su hn hR sd rf pn pB xf xp xw (xs (nI (i + 1)).toNatClampNeg) hk hI) w_4_128 w_4_129 w_4_130 w_1_1 w_4_131 (by decide +kernel) ⟨⟨(Nat.le_of_ble_eq_true rfl), (Nat.le_of_ble_eq_true rfl)⟩, (Nat.le_of_ble_eq_true rfl), (Nat.le_of_ble_eq_true rfl)⟩ hK hP hD hS hA (idx 0 xw) (idx xw.length mw) (idx_C xw mw) (idx_R xw mw) (idx_nd 0 xw) (idx_nd _ mw) (idx_dis xw mw) hdx rfl rfl rfl (Nat.le_of_ble_eq_true rfl) dL_law_635 (fun rx ux H locs hw hP hD hS => ?_)
  have hI2 := hw
  have hP : va_P D vwCl (mw ++ ux) H := hP
  refine lv_pop hx hb dL_law_638 rfl ?_
  refine lv_aload_n hx hb dL_law_639 rfl (lv_at hl 1 rfl) ?_
  refine lv_aload_n hx hb dL_law_640 rfl (lv_at hl 3 rfl) ?_
  refine lv_iload_n hx hb dL_law_641 rfl (lv_at hl 0 rfl) ?_
  refine lv_iconst (v := 1) hx hb dL_law_642 ic_1 ?_
  refine lv_iadd hx hb dL_law_643 ?_
  refine sk_top (nI (i + 1)) (nI_add i 1) ?_
  refine va_sld hx hb hX hbl hbA hS (vin (i + 1) Ln (by omega) (by omega)) dL_law_644 ?_
  obtain ⟨_, hdm⟩ := mI_head hJ
  refine sk_Vi (q0 := 0) (n := 1) (rest := []) (wr := ux) ⟨hx, hb, hml, hown, hts⟩ hl.1 (mc_later l D cI cJ cC cZ cS mm tl tb dy L nS lg ac su hn hR sd rf pn pB xf xp mw (xs (nI (i + 1)).toNatClampNeg) hk hJ) w_8_1 w_8_2 w_8_3 w_1_14 w_8_4 (by decide +kernel) ⟨⟨(Nat.le_of_ble_eq_true rfl), (Nat.le_of_ble_eq_true rfl)⟩, (Nat.le_of_ble_eq_true rfl), (Nat.le_of_ble_eq_true rfl)⟩ hK hP hD hS hA (idx 0 mw) (idx mw.length ux) (idx_C mw ux) (idx_R mw ux) (idx_nd 0 mw) (idx_nd _ ux) (idx_dis mw ux) hdm rfl rfl rfl (Nat.le_of_ble_eq_true rfl) dL_law_645 (fun rm um H locs hw hP hD hS => ?_)
  have hJ2 := hw
  have hk2 := hk
  refine lv_pop hx hb dL_law_648 rfl ?_
  refine lv_goto (tgt := 1171) hx hb dL_law_649 (by decide) ?_
  exact K _ _ _ _ _ _ _ _ _ _ _ _ _ _ _ _ _ _ _ _ _ hk2 hI2 hJ2 hP hD hS hl
theorem dg_L_law_652_652 : bqL cL_law 652 [(0, [43]), (1, [182, 0, 85]), (4, [87]), (5, [44]), (6, [182, 0, 88]), (9, [87]), (10, [167, 1, 253])] = true := by decide +kernel
theorem dL_law_652 : decode cL_law 652 = .ok (.aload_n 1, 1) := q_aload_n1 (bat_get dg_L_law_652_652 0 rfl rfl)
theorem dL_law_653 : decode cL_law 653 = .ok (.invokevirtual 85, 3) := q_invokevirtual (bat_get dg_L_law_652_652 1 rfl rfl) rfl
theorem dL_law_656 : decode cL_law 656 = .ok (.pop, 1) := q_pop (bat_get dg_L_law_652_652 2 rfl rfl)
theorem dL_law_657 : decode cL_law 657 = .ok (.aload_n 2, 1) := q_aload_n2 (bat_get dg_L_law_652_652 3 rfl rfl)
theorem dL_law_658 : decode cL_law 658 = .ok (.invokevirtual 88, 3) := q_invokevirtual (bat_get dg_L_law_652_652 4 rfl rfl) rfl
theorem dL_law_661 : decode cL_law 661 = .ok (.pop, 1) := q_pop (bat_get dg_L_law_652_652 5 rfl rfl)
theorem dL_law_662 : decode cL_law 662 = .ok (.goto 509, 3) := q_goto (bat_get dg_L_law_652_652 6 rfl rfl) rfl
theorem w_4_140 : (Cond.methodLink RL 85 yX11_ring) ∈ wsL_law := sk_mem (ck_4 _ (List.mem_of_getElem? (i := 140) rfl)) rfl
theorem w_4_141 : (Cond.instanceMethod yX11_ring) ∈ wsL_law := sk_mem (ck_4 _ (List.mem_of_getElem? (i := 141) rfl)) rfl
theorem w_4_142 : (Cond.selects RX11 yX11_ring yX11_ring) ∈ wsL_law := sk_mem (ck_4 _ (List.mem_of_getElem? (i := 142) rfl)) rfl
theorem w_8_29 : (Cond.methodLink RL 88 yX12_ring) ∈ wsL_law := sk_mem (ck_8 _ (List.mem_of_getElem? (i := 29) rfl)) rfl
theorem w_8_30 : (Cond.instanceMethod yX12_ring) ∈ wsL_law := sk_mem (ck_8 _ (List.mem_of_getElem? (i := 30) rfl)) rfl
theorem w_8_31 : (Cond.selects RX12 yX12_ring yX12_ring) ∈ wsL_law := sk_mem (ck_8 _ (List.mem_of_getElem? (i := 31) rfl)) rfl
set_option maxHeartbeats 4000000 in
set_option maxRecDepth 100000 in
theorem law_16 (l : Launch) (D : va_G) (cI cJ cC cZ cS : ClassId) (zk zv : Nat) (zf : Value) (x0 mm i : Nat) (tl : Nat) (tb : Nat → Nat) (dy : Nat) (L : LkS) (nS : KN) (lg : KLg) (ac : Nat) (su : Nat → KN) (hn : Nat) (hR : Nat → Nat) (sd : Nat) (rf : Nat → Int32) (pn : Nat) (pB : Nat → Nat) (xf : Int32) (xp : Int32) (xw mw : va_W) {p : Program} {e : Env} {s : State} {m : MethodId} {below : List Frame} {meth : Method} {c : Code} {b Ln : Nat} {xs : Nat → Int32} {A : Nat → Prop} {H : Heap} {locs : List Loc} {ls : Array Slot} (E : lwE p s m meth c b Ln xs zk zv zf D (skT cI cJ cC cZ cS) A) (hi6 : i + 6 ≤ Ln) (hk : kOk L dy nS lg ac su hn hR sd) (hI : xI cI cJ cC cZ cS x0 tl tb dy L nS lg ac su hn hR sd rf pn pB xf xp xw) (hJ : mI cI cJ cC cZ cS mm tl tb dy L nS lg ac su hn hR sd rf pn pB xf xp mw) (hP : va_P D vwCl (xw ++ mw) H) (hD : va_D A (xw ++ mw)) (hS : va_S A s.heap H locs) (hl : lv_has ls 4 [(3, .int (nI i)), (2, .ref mm), (1, .ref x0), (0, .ref b)]) (K : ∀ (tl : Nat) (tb : Nat → Nat) (dy : Nat) (L : LkS) (nS : KN) (lg : KLg) (ac : Nat) (su : Nat → KN) (hn : Nat) (hR : Nat → Nat) (sd : Nat) (rf : Nat → Int32) (pn : Nat) (pB : Nat → Nat) (xf : Int32) (xp : Int32) (xw mw : va_W) (H : Heap) (locs : List Loc) (ls : Array Slot), kOk L dy nS lg ac su hn hR sd → xI cI cJ cC cZ cS x0 tl tb dy L nS lg ac su hn hR sd rf pn pB xf xp xw → mI cI cJ cC cZ cS mm tl tb dy L nS lg ac su hn hR sd rf pn pB xf xp mw → va_P D vwCl (xw ++ mw) H → va_D A (xw ++ mw) → va_S A s.heap H locs → lv_has ls 4 [(3, .int (nI i)), (2, .ref mm), (1, .ref x0), (0, .ref b)] → W p l e room_1 s m #[Value.ref b] below meth c H locs 182 32192 (lw_Z below #[Value.ref b] s) (F0 m 1171 ls [])) : W p l e room_1 s m #[Value.ref b] below meth c H locs 182 32192 (lw_Z below #[Value.ref b] s) (F0 m 652 ls []) := by
  obtain ⟨hx, hb, hr, hml, hlocks, hown, hts, hX, hbl, hA, hbA, hAf, hK, hZ, hL⟩ := id E
  refine lv_aload_n hx hb dL_law_652 rfl (lv_at hl 2 rfl) ?_
  obtain ⟨_, hdx⟩ := xI_head hI
  refine sk_Vi (q0 := 0) (n := 0) (rest := []) (wr := mw) ⟨hx, hb, hml, hown, hts⟩ hl.1 (xc_ring l D cI cJ cC cZ cS x0 tl tb dy L nS lg ac su hn hR sd rf pn pB xf xp xw hk hI) w_4_140 w_4_141 w_4_142 w_1_1 w_4_143 (by decide +kernel) ⟨⟨(Nat.le_of_ble_eq_true rfl), (Nat.le_of_ble_eq_true rfl)⟩, (Nat.le_of_ble_eq_true rfl), (Nat.le_of_ble_eq_true rfl)⟩ hK hP hD hS hA (idx 0 xw) (idx xw.length mw) (idx_C xw mw) (idx_R xw mw) (idx_nd 0 xw) (idx_nd _ mw) (idx_dis xw mw) hdx rfl rfl rfl (Nat.le_of_ble_eq_true rfl) dL_law_653 (fun rx ux H locs hw hP hD hS => ?_)
  have hI2 := hw
  have hP : va_P D vwCl (mw ++ ux) H := hP
  refine lv_pop hx hb dL_law_656 rfl ?_
  refine lv_aload_n hx hb dL_law_657 rfl (lv_at hl 1 rfl) ?_
  obtain ⟨_, hdm⟩ := mI_head hJ
  refine sk_Vi (q0 := 0) (n := 0) (rest := []) (wr := ux) ⟨hx, hb, hml, hown, hts⟩ hl.1 (mc_ring l D cI cJ cC cZ cS mm tl tb dy L nS lg ac su hn hR sd rf pn pB xf xp mw hk hJ) w_8_29 w_8_30 w_8_31 w_1_14 w_8_32 (by decide +kernel) ⟨⟨(Nat.le_of_ble_eq_true rfl), (Nat.le_of_ble_eq_true rfl)⟩, (Nat.le_of_ble_eq_true rfl), (Nat.le_of_ble_eq_true rfl)⟩ hK hP hD hS hA (idx 0 mw) (idx mw.length ux) (idx_C mw ux) (idx_R mw ux) (idx_nd 0 mw) (idx_nd _ ux) (idx_dis mw ux) hdm rfl rfl rfl (Nat.le_of_ble_eq_true rfl) dL_law_658 (fun rm um H locs hw hP hD hS => ?_)
  have hJ2 := hw
  have hk2 := hk
  refine lv_pop hx hb dL_law_661 rfl ?_
  refine lv_goto (tgt := 1171) hx hb dL_law_662 (by decide) ?_
  exact K _ _ _ _ _ _ _ _ _ _ _ _ _ _ _ _ _ _ _ _ _ hk2 hI2 hJ2 hP hD hS hl
theorem dg_L_law_665_665 : bqL cL_law 665 [(0, [43]), (1, [42]), (2, [29]), (3, [4]), (4, [96]), (5, [46]), (6, [42]), (7, [29]), (8, [5]), (9, [96]), (10, [46]), (11, [182, 0, 89]), (14, [87]), (15, [44]), (16, [42]), (17, [29]), (18, [4]), (19, [96]), (20, [46]), (21, [42]), (22, [29]), (23, [5]), (24, [96]), (25, [46]), (26, [182, 0, 92]), (29, [87]), (30, [167, 1, 220])] = true := by decide +kernel
theorem dL_law_665 : decode cL_law 665 = .ok (.aload_n 1, 1) := q_aload_n1 (bat_get dg_L_law_665_665 0 rfl rfl)
theorem dL_law_666 : decode cL_law 666 = .ok (.aload_n 0, 1) := q_aload_n0 (bat_get dg_L_law_665_665 1 rfl rfl)
theorem dL_law_667 : decode cL_law 667 = .ok (.iload_n 3, 1) := q_iload_n3 (bat_get dg_L_law_665_665 2 rfl rfl)
theorem dL_law_668 : decode cL_law 668 = .ok (.iconst 1, 1) := q_iconst1 (bat_get dg_L_law_665_665 3 rfl rfl)
theorem dL_law_669 : decode cL_law 669 = .ok (.iadd, 1) := q_iadd (bat_get dg_L_law_665_665 4 rfl rfl)
theorem dL_law_670 : decode cL_law 670 = .ok (.iaload, 1) := q_iaload (bat_get dg_L_law_665_665 5 rfl rfl)
theorem dL_law_671 : decode cL_law 671 = .ok (.aload_n 0, 1) := q_aload_n0 (bat_get dg_L_law_665_665 6 rfl rfl)
theorem dL_law_672 : decode cL_law 672 = .ok (.iload_n 3, 1) := q_iload_n3 (bat_get dg_L_law_665_665 7 rfl rfl)
theorem dL_law_673 : decode cL_law 673 = .ok (.iconst 2, 1) := q_iconst2 (bat_get dg_L_law_665_665 8 rfl rfl)
theorem dL_law_674 : decode cL_law 674 = .ok (.iadd, 1) := q_iadd (bat_get dg_L_law_665_665 9 rfl rfl)
theorem dL_law_675 : decode cL_law 675 = .ok (.iaload, 1) := q_iaload (bat_get dg_L_law_665_665 10 rfl rfl)
theorem dL_law_676 : decode cL_law 676 = .ok (.invokevirtual 89, 3) := q_invokevirtual (bat_get dg_L_law_665_665 11 rfl rfl) rfl
theorem dL_law_679 : decode cL_law 679 = .ok (.pop, 1) := q_pop (bat_get dg_L_law_665_665 12 rfl rfl)
theorem dL_law_680 : decode cL_law 680 = .ok (.aload_n 2, 1) := q_aload_n2 (bat_get dg_L_law_665_665 13 rfl rfl)
theorem dL_law_681 : decode cL_law 681 = .ok (.aload_n 0, 1) := q_aload_n0 (bat_get dg_L_law_665_665 14 rfl rfl)
theorem dL_law_682 : decode cL_law 682 = .ok (.iload_n 3, 1) := q_iload_n3 (bat_get dg_L_law_665_665 15 rfl rfl)
theorem dL_law_683 : decode cL_law 683 = .ok (.iconst 1, 1) := q_iconst1 (bat_get dg_L_law_665_665 16 rfl rfl)
theorem dL_law_684 : decode cL_law 684 = .ok (.iadd, 1) := q_iadd (bat_get dg_L_law_665_665 17 rfl rfl)
theorem dL_law_685 : decode cL_law 685 = .ok (.iaload, 1) := q_iaload (bat_get dg_L_law_665_665 18 rfl rfl)
theorem dL_law_686 : decode cL_law 686 = .ok (.aload_n 0, 1) := q_aload_n0 (bat_get dg_L_law_665_665 19 rfl rfl)
theorem dL_law_687 : decode cL_law 687 = .ok (.iload_n 3, 1) := q_iload_n3 (bat_get dg_L_law_665_665 20 rfl rfl)
theorem dL_law_688 : decode cL_law 688 = .ok (.iconst 2, 1) := q_iconst2 (bat_get dg_L_law_665_665 21 rfl rfl)
theorem dL_law_689 : decode cL_law 689 = .ok (.iadd, 1) := q_iadd (bat_get dg_L_law_665_665 22 rfl rfl)
theorem dL_law_690 : decode cL_law 690 = .ok (.iaload, 1) := q_iaload (bat_get dg_L_law_665_665 23 rfl rfl)
theorem dL_law_691 : decode cL_law 691 = .ok (.invokevirtual 92, 3) := q_invokevirtual (bat_get dg_L_law_665_665 24 rfl rfl) rfl
theorem dL_law_694 : decode cL_law 694 = .ok (.pop, 1) := q_pop (bat_get dg_L_law_665_665 25 rfl rfl)
theorem dL_law_695 : decode cL_law 695 = .ok (.goto 476, 3) := q_goto (bat_get dg_L_law_665_665 26 rfl rfl) rfl
theorem w_4_144 : (Cond.methodLink RL 89 yX11_frees) ∈ wsL_law := sk_mem (ck_4 _ (List.mem_of_getElem? (i := 144) rfl)) rfl
theorem w_4_145 : (Cond.instanceMethod yX11_frees) ∈ wsL_law := sk_mem (ck_4 _ (List.mem_of_getElem? (i := 145) rfl)) rfl
theorem w_4_146 : (Cond.selects RX11 yX11_frees yX11_frees) ∈ wsL_law := sk_mem (ck_4 _ (List.mem_of_getElem? (i := 146) rfl)) rfl
theorem w_8_33 : (Cond.methodLink RL 92 yX12_frees) ∈ wsL_law := sk_mem (ck_8 _ (List.mem_of_getElem? (i := 33) rfl)) rfl
theorem w_8_34 : (Cond.instanceMethod yX12_frees) ∈ wsL_law := sk_mem (ck_8 _ (List.mem_of_getElem? (i := 34) rfl)) rfl
theorem w_8_35 : (Cond.selects RX12 yX12_frees yX12_frees) ∈ wsL_law := sk_mem (ck_8 _ (List.mem_of_getElem? (i := 35) rfl)) rfl
set_option maxHeartbeats 4000000 in
set_option maxRecDepth 100000 in
theorem law_17 (l : Launch) (D : va_G) (cI cJ cC cZ cS : ClassId) (zk zv : Nat) (zf : Value) (x0 mm i : Nat) (tl : Nat) (tb : Nat → Nat) (dy : Nat) (L : LkS) (nS : KN) (lg : KLg) (ac : Nat) (su : Nat → KN) (hn : Nat) (hR : Nat → Nat) (sd : Nat) (rf : Nat → Int32) (pn : Nat) (pB : Nat → Nat) (xf : Int32) (xp : Int32) (xw mw : va_W) {p : Program} {e : Env} {s : State} {m : MethodId} {below : List Frame} {meth : Method} {c : Code} {b Ln : Nat} {xs : Nat → Int32} {A : Nat → Prop} {H : Heap} {locs : List Loc} {ls : Array Slot} (E : lwE p s m meth c b Ln xs zk zv zf D (skT cI cJ cC cZ cS) A) (hi6 : i + 6 ≤ Ln) (hk : kOk L dy nS lg ac su hn hR sd) (hI : xI cI cJ cC cZ cS x0 tl tb dy L nS lg ac su hn hR sd rf pn pB xf xp xw) (hJ : mI cI cJ cC cZ cS mm tl tb dy L nS lg ac su hn hR sd rf pn pB xf xp mw) (hP : va_P D vwCl (xw ++ mw) H) (hD : va_D A (xw ++ mw)) (hS : va_S A s.heap H locs) (hl : lv_has ls 4 [(3, .int (nI i)), (2, .ref mm), (1, .ref x0), (0, .ref b)]) (K : ∀ (tl : Nat) (tb : Nat → Nat) (dy : Nat) (L : LkS) (nS : KN) (lg : KLg) (ac : Nat) (su : Nat → KN) (hn : Nat) (hR : Nat → Nat) (sd : Nat) (rf : Nat → Int32) (pn : Nat) (pB : Nat → Nat) (xf : Int32) (xp : Int32) (xw mw : va_W) (H : Heap) (locs : List Loc) (ls : Array Slot), kOk L dy nS lg ac su hn hR sd → xI cI cJ cC cZ cS x0 tl tb dy L nS lg ac su hn hR sd rf pn pB xf xp xw → mI cI cJ cC cZ cS mm tl tb dy L nS lg ac su hn hR sd rf pn pB xf xp mw → va_P D vwCl (xw ++ mw) H → va_D A (xw ++ mw) → va_S A s.heap H locs → lv_has ls 4 [(3, .int (nI i)), (2, .ref mm), (1, .ref x0), (0, .ref b)] → W p l e room_1 s m #[Value.ref b] below meth c H locs 182 32192 (lw_Z below #[Value.ref b] s) (F0 m 1171 ls [])) : W p l e room_1 s m #[Value.ref b] below meth c H locs 182 32192 (lw_Z below #[Value.ref b] s) (F0 m 665 ls []) := by
  obtain ⟨hx, hb, hr, hml, hlocks, hown, hts, hX, hbl, hA, hbA, hAf, hK, hZ, hL⟩ := id E
  refine lv_aload_n hx hb dL_law_665 rfl (lv_at hl 2 rfl) ?_
  refine lv_aload_n hx hb dL_law_666 rfl (lv_at hl 3 rfl) ?_
  refine lv_iload_n hx hb dL_law_667 rfl (lv_at hl 0 rfl) ?_
  refine lv_iconst (v := 1) hx hb dL_law_668 ic_1 ?_
  refine lv_iadd hx hb dL_law_669 ?_
  refine sk_top (nI (i + 1)) (nI_add i 1) ?_
  refine va_sld hx hb hX hbl hbA hS (vin (i + 1) Ln (by omega) (by omega)) dL_law_670 ?_
  refine lv_aload_n hx hb dL_law_671 rfl (lv_at hl 3 rfl) ?_
  refine lv_iload_n hx hb dL_law_672 rfl (lv_at hl 0 rfl) ?_
  refine lv_iconst (v := 2) hx hb dL_law_673 ic_2 ?_
  refine lv_iadd hx hb dL_law_674 ?_
  refine sk_top (nI (i + 2)) (nI_add i 2) ?_
  refine va_sld hx hb hX hbl hbA hS (vin (i + 2) Ln (by omega) (by omega)) dL_law_675 ?_
  obtain ⟨_, hdx⟩ := xI_head hI
  refine sk_Vi (q0 := 0) (n := 2) (rest := []) (wr := mw) ⟨hx, hb, hml, hown, hts⟩ hl.1 (xc_frees l D cI cJ cC cZ cS x0 tl tb dy L nS lg ac su hn hR sd rf pn pB xf xp xw (xs (nI (i + 1)).toNatClampNeg) (xs (nI (i + 2)).toNatClampNeg) hk hI) w_4_144 w_4_145 w_4_146 w_1_1 w_4_147 (by decide +kernel) ⟨⟨(Nat.le_of_ble_eq_true rfl), (Nat.le_of_ble_eq_true rfl)⟩, (Nat.le_of_ble_eq_true rfl), (Nat.le_of_ble_eq_true rfl)⟩ hK hP hD hS hA (idx 0 xw) (idx xw.length mw) (idx_C xw mw) (idx_R xw mw) (idx_nd 0 xw) (idx_nd _ mw) (idx_dis xw mw) hdx rfl rfl rfl (Nat.le_of_ble_eq_true rfl) dL_law_676 (fun rx ux H locs hw hP hD hS => ?_)
  have hI2 := hw
  have hP : va_P D vwCl (mw ++ ux) H := hP
  refine lv_pop hx hb dL_law_679 rfl ?_
  refine lv_aload_n hx hb dL_law_680 rfl (lv_at hl 1 rfl) ?_
  refine lv_aload_n hx hb dL_law_681 rfl (lv_at hl 3 rfl) ?_
  refine lv_iload_n hx hb dL_law_682 rfl (lv_at hl 0 rfl) ?_
  refine lv_iconst (v := 1) hx hb dL_law_683 ic_1 ?_
  refine lv_iadd hx hb dL_law_684 ?_
  refine sk_top (nI (i + 1)) (nI_add i 1) ?_
  refine va_sld hx hb hX hbl hbA hS (vin (i + 1) Ln (by omega) (by omega)) dL_law_685 ?_
  refine lv_aload_n hx hb dL_law_686 rfl (lv_at hl 3 rfl) ?_
  refine lv_iload_n hx hb dL_law_687 rfl (lv_at hl 0 rfl) ?_
  refine lv_iconst (v := 2) hx hb dL_law_688 ic_2 ?_
  refine lv_iadd hx hb dL_law_689 ?_
  refine sk_top (nI (i + 2)) (nI_add i 2) ?_
  refine va_sld hx hb hX hbl hbA hS (vin (i + 2) Ln (by omega) (by omega)) dL_law_690 ?_
  obtain ⟨_, hdm⟩ := mI_head hJ
  refine sk_Vi (q0 := 0) (n := 2) (rest := []) (wr := ux) ⟨hx, hb, hml, hown, hts⟩ hl.1 (mc_frees l D cI cJ cC cZ cS mm tl tb dy L nS lg ac su hn hR sd rf pn pB xf xp mw (xs (nI (i + 1)).toNatClampNeg) (xs (nI (i + 2)).toNatClampNeg) hk hJ) w_8_33 w_8_34 w_8_35 w_1_14 w_8_36 (by decide +kernel) ⟨⟨(Nat.le_of_ble_eq_true rfl), (Nat.le_of_ble_eq_true rfl)⟩, (Nat.le_of_ble_eq_true rfl), (Nat.le_of_ble_eq_true rfl)⟩ hK hP hD hS hA (idx 0 mw) (idx mw.length ux) (idx_C mw ux) (idx_R mw ux) (idx_nd 0 mw) (idx_nd _ ux) (idx_dis mw ux) hdm rfl rfl rfl (Nat.le_of_ble_eq_true rfl) dL_law_691 (fun rm um H locs hw hP hD hS => ?_)
  have hJ2 := hw
  have hk2 := hk
  refine lv_pop hx hb dL_law_694 rfl ?_
  refine lv_goto (tgt := 1171) hx hb dL_law_695 (by decide) ?_
  exact K _ _ _ _ _ _ _ _ _ _ _ _ _ _ _ _ _ _ _ _ _ hk2 hI2 hJ2 hP hD hS hl
theorem dg_L_law_698_698 : bqL cL_law 698 [(0, [43]), (1, [182, 0, 93]), (4, [88]), (5, [44]), (6, [182, 0, 96]), (9, [88]), (10, [167, 1, 207])] = true := by decide +kernel
theorem dL_law_698 : decode cL_law 698 = .ok (.aload_n 1, 1) := q_aload_n1 (bat_get dg_L_law_698_698 0 rfl rfl)
theorem dL_law_699 : decode cL_law 699 = .ok (.invokevirtual 93, 3) := q_invokevirtual (bat_get dg_L_law_698_698 1 rfl rfl) rfl
theorem dL_law_702 : decode cL_law 702 = .ok (.pop2, 1) := q_pop2 (bat_get dg_L_law_698_698 2 rfl rfl)
theorem dL_law_703 : decode cL_law 703 = .ok (.aload_n 2, 1) := q_aload_n2 (bat_get dg_L_law_698_698 3 rfl rfl)
theorem dL_law_704 : decode cL_law 704 = .ok (.invokevirtual 96, 3) := q_invokevirtual (bat_get dg_L_law_698_698 4 rfl rfl) rfl
theorem dL_law_707 : decode cL_law 707 = .ok (.pop2, 1) := q_pop2 (bat_get dg_L_law_698_698 5 rfl rfl)
theorem dL_law_708 : decode cL_law 708 = .ok (.goto 463, 3) := q_goto (bat_get dg_L_law_698_698 6 rfl rfl) rfl
theorem w_4_152 : (Cond.methodLink RL 93 yX11_pay) ∈ wsL_law := sk_mem (ck_4 _ (List.mem_of_getElem? (i := 152) rfl)) rfl
theorem w_4_153 : (Cond.instanceMethod yX11_pay) ∈ wsL_law := sk_mem (ck_4 _ (List.mem_of_getElem? (i := 153) rfl)) rfl
theorem w_4_154 : (Cond.selects RX11 yX11_pay yX11_pay) ∈ wsL_law := sk_mem (ck_4 _ (List.mem_of_getElem? (i := 154) rfl)) rfl
theorem w_8_37 : (Cond.methodLink RL 96 yX12_pay) ∈ wsL_law := sk_mem (ck_8 _ (List.mem_of_getElem? (i := 37) rfl)) rfl
theorem w_8_38 : (Cond.instanceMethod yX12_pay) ∈ wsL_law := sk_mem (ck_8 _ (List.mem_of_getElem? (i := 38) rfl)) rfl
theorem w_8_39 : (Cond.selects RX12 yX12_pay yX12_pay) ∈ wsL_law := sk_mem (ck_8 _ (List.mem_of_getElem? (i := 39) rfl)) rfl
set_option maxHeartbeats 4000000 in
set_option maxRecDepth 100000 in
theorem law_18 (l : Launch) (D : va_G) (cI cJ cC cZ cS : ClassId) (zk zv : Nat) (zf : Value) (x0 mm i : Nat) (tl : Nat) (tb : Nat → Nat) (dy : Nat) (L : LkS) (nS : KN) (lg : KLg) (ac : Nat) (su : Nat → KN) (hn : Nat) (hR : Nat → Nat) (sd : Nat) (rf : Nat → Int32) (pn : Nat) (pB : Nat → Nat) (xf : Int32) (xp : Int32) (xw mw : va_W) {p : Program} {e : Env} {s : State} {m : MethodId} {below : List Frame} {meth : Method} {c : Code} {b Ln : Nat} {xs : Nat → Int32} {A : Nat → Prop} {H : Heap} {locs : List Loc} {ls : Array Slot} (E : lwE p s m meth c b Ln xs zk zv zf D (skT cI cJ cC cZ cS) A) (hi6 : i + 6 ≤ Ln) (hk : kOk L dy nS lg ac su hn hR sd) (hI : xI cI cJ cC cZ cS x0 tl tb dy L nS lg ac su hn hR sd rf pn pB xf xp xw) (hJ : mI cI cJ cC cZ cS mm tl tb dy L nS lg ac su hn hR sd rf pn pB xf xp mw) (hP : va_P D vwCl (xw ++ mw) H) (hD : va_D A (xw ++ mw)) (hS : va_S A s.heap H locs) (hl : lv_has ls 4 [(3, .int (nI i)), (2, .ref mm), (1, .ref x0), (0, .ref b)]) (K : ∀ (tl : Nat) (tb : Nat → Nat) (dy : Nat) (L : LkS) (nS : KN) (lg : KLg) (ac : Nat) (su : Nat → KN) (hn : Nat) (hR : Nat → Nat) (sd : Nat) (rf : Nat → Int32) (pn : Nat) (pB : Nat → Nat) (xf : Int32) (xp : Int32) (xw mw : va_W) (H : Heap) (locs : List Loc) (ls : Array Slot), kOk L dy nS lg ac su hn hR sd → xI cI cJ cC cZ cS x0 tl tb dy L nS lg ac su hn hR sd rf pn pB xf xp xw → mI cI cJ cC cZ cS mm tl tb dy L nS lg ac su hn hR sd rf pn pB xf xp mw → va_P D vwCl (xw ++ mw) H → va_D A (xw ++ mw) → va_S A s.heap H locs → lv_has ls 4 [(3, .int (nI i)), (2, .ref mm), (1, .ref x0), (0, .ref b)] → W p l e room_1 s m #[Value.ref b] below meth c H locs 182 32192 (lw_Z below #[Value.ref b] s) (F0 m 1171 ls [])) : W p l e room_1 s m #[Value.ref b] below meth c H locs 182 32192 (lw_Z below #[Value.ref b] s) (F0 m 698 ls []) := by
  obtain ⟨hx, hb, hr, hml, hlocks, hown, hts, hX, hbl, hA, hbA, hAf, hK, hZ, hL⟩ := id E
  refine lv_aload_n hx hb dL_law_698 rfl (lv_at hl 2 rfl) ?_
  obtain ⟨_, hdx⟩ := xI_head hI
  refine sk_Vl (q0 := 0) (n := 0) (rest := []) (wr := mw) ⟨hx, hb, hml, hown, hts⟩ hl.1 (xc_pay l D cI cJ cC cZ cS x0 tl tb dy L nS lg ac su hn hR sd rf pn pB xf xp xw hk hI) w_4_152 w_4_153 w_4_154 w_1_1 w_4_155 (by decide +kernel) ⟨⟨(Nat.le_of_ble_eq_true rfl), (Nat.le_of_ble_eq_true rfl)⟩, (Nat.le_of_ble_eq_true rfl), (Nat.le_of_ble_eq_true rfl)⟩ hK hP hD hS hA (idx 0 xw) (idx xw.length mw) (idx_C xw mw) (idx_R xw mw) (idx_nd 0 xw) (idx_nd _ mw) (idx_dis xw mw) hdx rfl rfl rfl (Nat.le_of_ble_eq_true rfl) dL_law_699 (fun rx ux H locs hw hP hD hS => ?_)
  have hI2 := hw
  have hP : va_P D vwCl (mw ++ ux) H := hP
  refine lv_pop2_2 hx hb dL_law_702 rfl ?_
  refine lv_aload_n hx hb dL_law_703 rfl (lv_at hl 1 rfl) ?_
  obtain ⟨_, hdm⟩ := mI_head hJ
  refine sk_Vl (q0 := 0) (n := 0) (rest := []) (wr := ux) ⟨hx, hb, hml, hown, hts⟩ hl.1 (mc_pay l D cI cJ cC cZ cS mm tl tb dy L nS lg ac su hn hR sd rf pn pB xf xp mw hk hJ) w_8_37 w_8_38 w_8_39 w_1_14 w_8_40 (by decide +kernel) ⟨⟨(Nat.le_of_ble_eq_true rfl), (Nat.le_of_ble_eq_true rfl)⟩, (Nat.le_of_ble_eq_true rfl), (Nat.le_of_ble_eq_true rfl)⟩ hK hP hD hS hA (idx 0 mw) (idx mw.length ux) (idx_C mw ux) (idx_R mw ux) (idx_nd 0 mw) (idx_nd _ ux) (idx_dis mw ux) hdm rfl rfl rfl (Nat.le_of_ble_eq_true rfl) dL_law_704 (fun rm um H locs hw hP hD hS => ?_)
  have hJ2 := hw
  have hk2 := hk
  refine lv_pop2_2 hx hb dL_law_707 rfl ?_
  refine lv_goto (tgt := 1171) hx hb dL_law_708 (by decide) ?_
  exact K _ _ _ _ _ _ _ _ _ _ _ _ _ _ _ _ _ _ _ _ _ hk2 hI2 hJ2 hP hD hS hl
theorem dg_L_law_711_711 : bqL cL_law 711 [(0, [43]), (1, [42]), (2, [29]), (3, [4]), (4, [96]), (5, [46]), (6, [182, 0, 97]), (9, [87]), (10, [44]), (11, [42]), (12, [29]), (13, [4]), (14, [96]), (15, [46]), (16, [182, 0, 100]), (19, [87]), (20, [167, 1, 184])] = true := by decide +kernel
theorem dL_law_711 : decode cL_law 711 = .ok (.aload_n 1, 1) := q_aload_n1 (bat_get dg_L_law_711_711 0 rfl rfl)
theorem dL_law_712 : decode cL_law 712 = .ok (.aload_n 0, 1) := q_aload_n0 (bat_get dg_L_law_711_711 1 rfl rfl)
theorem dL_law_713 : decode cL_law 713 = .ok (.iload_n 3, 1) := q_iload_n3 (bat_get dg_L_law_711_711 2 rfl rfl)
theorem dL_law_714 : decode cL_law 714 = .ok (.iconst 1, 1) := q_iconst1 (bat_get dg_L_law_711_711 3 rfl rfl)
theorem dL_law_715 : decode cL_law 715 = .ok (.iadd, 1) := q_iadd (bat_get dg_L_law_711_711 4 rfl rfl)
theorem dL_law_716 : decode cL_law 716 = .ok (.iaload, 1) := q_iaload (bat_get dg_L_law_711_711 5 rfl rfl)
theorem dL_law_717 : decode cL_law 717 = .ok (.invokevirtual 97, 3) := q_invokevirtual (bat_get dg_L_law_711_711 6 rfl rfl) rfl
theorem dL_law_720 : decode cL_law 720 = .ok (.pop, 1) := q_pop (bat_get dg_L_law_711_711 7 rfl rfl)
theorem dL_law_721 : decode cL_law 721 = .ok (.aload_n 2, 1) := q_aload_n2 (bat_get dg_L_law_711_711 8 rfl rfl)
theorem dL_law_722 : decode cL_law 722 = .ok (.aload_n 0, 1) := q_aload_n0 (bat_get dg_L_law_711_711 9 rfl rfl)
theorem dL_law_723 : decode cL_law 723 = .ok (.iload_n 3, 1) := q_iload_n3 (bat_get dg_L_law_711_711 10 rfl rfl)
theorem dL_law_724 : decode cL_law 724 = .ok (.iconst 1, 1) := q_iconst1 (bat_get dg_L_law_711_711 11 rfl rfl)
theorem dL_law_725 : decode cL_law 725 = .ok (.iadd, 1) := q_iadd (bat_get dg_L_law_711_711 12 rfl rfl)
theorem dL_law_726 : decode cL_law 726 = .ok (.iaload, 1) := q_iaload (bat_get dg_L_law_711_711 13 rfl rfl)
theorem dL_law_727 : decode cL_law 727 = .ok (.invokevirtual 100, 3) := q_invokevirtual (bat_get dg_L_law_711_711 14 rfl rfl) rfl
theorem dL_law_730 : decode cL_law 730 = .ok (.pop, 1) := q_pop (bat_get dg_L_law_711_711 15 rfl rfl)
theorem dL_law_731 : decode cL_law 731 = .ok (.goto 440, 3) := q_goto (bat_get dg_L_law_711_711 16 rfl rfl) rfl
theorem w_4_166 : (Cond.methodLink RL 97 yX11_paid) ∈ wsL_law := sk_mem (ck_4 _ (List.mem_of_getElem? (i := 166) rfl)) rfl
theorem w_4_167 : (Cond.instanceMethod yX11_paid) ∈ wsL_law := sk_mem (ck_4 _ (List.mem_of_getElem? (i := 167) rfl)) rfl
theorem w_4_168 : (Cond.selects RX11 yX11_paid yX11_paid) ∈ wsL_law := sk_mem (ck_4 _ (List.mem_of_getElem? (i := 168) rfl)) rfl
theorem w_8_53 : (Cond.methodLink RL 100 yX12_paid) ∈ wsL_law := sk_mem (ck_8 _ (List.mem_of_getElem? (i := 53) rfl)) rfl
theorem w_8_54 : (Cond.instanceMethod yX12_paid) ∈ wsL_law := sk_mem (ck_8 _ (List.mem_of_getElem? (i := 54) rfl)) rfl
theorem w_8_55 : (Cond.selects RX12 yX12_paid yX12_paid) ∈ wsL_law := sk_mem (ck_8 _ (List.mem_of_getElem? (i := 55) rfl)) rfl
set_option maxHeartbeats 4000000 in
set_option maxRecDepth 100000 in
theorem law_19 (l : Launch) (D : va_G) (cI cJ cC cZ cS : ClassId) (zk zv : Nat) (zf : Value) (x0 mm i : Nat) (tl : Nat) (tb : Nat → Nat) (dy : Nat) (L : LkS) (nS : KN) (lg : KLg) (ac : Nat) (su : Nat → KN) (hn : Nat) (hR : Nat → Nat) (sd : Nat) (rf : Nat → Int32) (pn : Nat) (pB : Nat → Nat) (xf : Int32) (xp : Int32) (xw mw : va_W) {p : Program} {e : Env} {s : State} {m : MethodId} {below : List Frame} {meth : Method} {c : Code} {b Ln : Nat} {xs : Nat → Int32} {A : Nat → Prop} {H : Heap} {locs : List Loc} {ls : Array Slot} (E : lwE p s m meth c b Ln xs zk zv zf D (skT cI cJ cC cZ cS) A) (hi6 : i + 6 ≤ Ln) (hk : kOk L dy nS lg ac su hn hR sd) (hI : xI cI cJ cC cZ cS x0 tl tb dy L nS lg ac su hn hR sd rf pn pB xf xp xw) (hJ : mI cI cJ cC cZ cS mm tl tb dy L nS lg ac su hn hR sd rf pn pB xf xp mw) (hP : va_P D vwCl (xw ++ mw) H) (hD : va_D A (xw ++ mw)) (hS : va_S A s.heap H locs) (hl : lv_has ls 4 [(3, .int (nI i)), (2, .ref mm), (1, .ref x0), (0, .ref b)]) (K : ∀ (tl : Nat) (tb : Nat → Nat) (dy : Nat) (L : LkS) (nS : KN) (lg : KLg) (ac : Nat) (su : Nat → KN) (hn : Nat) (hR : Nat → Nat) (sd : Nat) (rf : Nat → Int32) (pn : Nat) (pB : Nat → Nat) (xf : Int32) (xp : Int32) (xw mw : va_W) (H : Heap) (locs : List Loc) (ls : Array Slot), kOk L dy nS lg ac su hn hR sd → xI cI cJ cC cZ cS x0 tl tb dy L nS lg ac su hn hR sd rf pn pB xf xp xw → mI cI cJ cC cZ cS mm tl tb dy L nS lg ac su hn hR sd rf pn pB xf xp mw → va_P D vwCl (xw ++ mw) H → va_D A (xw ++ mw) → va_S A s.heap H locs → lv_has ls 4 [(3, .int (nI i)), (2, .ref mm), (1, .ref x0), (0, .ref b)] → W p l e room_1 s m #[Value.ref b] below meth c H locs 182 32192 (lw_Z below #[Value.ref b] s) (F0 m 1171 ls [])) : W p l e room_1 s m #[Value.ref b] below meth c H locs 182 32192 (lw_Z below #[Value.ref b] s) (F0 m 711 ls []) := by
  obtain ⟨hx, hb, hr, hml, hlocks, hown, hts, hX, hbl, hA, hbA, hAf, hK, hZ, hL⟩ := id E
  refine lv_aload_n hx hb dL_law_711 rfl (lv_at hl 2 rfl) ?_
  refine lv_aload_n hx hb dL_law_712 rfl (lv_at hl 3 rfl) ?_
  refine lv_iload_n hx hb dL_law_713 rfl (lv_at hl 0 rfl) ?_
  refine lv_iconst (v := 1) hx hb dL_law_714 ic_1 ?_
  refine lv_iadd hx hb dL_law_715 ?_
  refine sk_top (nI (i + 1)) (nI_add i 1) ?_
  refine va_sld hx hb hX hbl hbA hS (vin (i + 1) Ln (by omega) (by omega)) dL_law_716 ?_
  obtain ⟨_, hdx⟩ := xI_head hI
  refine sk_Vi (q0 := 0) (n := 1) (rest := []) (wr := mw) ⟨hx, hb, hml, hown, hts⟩ hl.1 (xc_paid l D cI cJ cC cZ cS x0 tl tb dy L nS lg ac su hn hR sd rf pn pB xf xp xw (xs (nI (i + 1)).toNatClampNeg) hk hI) w_4_166 w_4_167 w_4_168 w_1_1 w_4_169 (by decide +kernel) ⟨⟨(Nat.le_of_ble_eq_true rfl), (Nat.le_of_ble_eq_true rfl)⟩, (Nat.le_of_ble_eq_true rfl), (Nat.le_of_ble_eq_true rfl)⟩ hK hP hD hS hA (idx 0 xw) (idx xw.length mw) (idx_C xw mw) (idx_R xw mw) (idx_nd 0 xw) (idx_nd _ mw) (idx_dis xw mw) hdx rfl rfl rfl (Nat.le_of_ble_eq_true rfl) dL_law_717 (fun rx ux H locs hw hP hD hS => ?_)
  have hI2 := hw
  have hP : va_P D vwCl (mw ++ ux) H := hP
  refine lv_pop hx hb dL_law_720 rfl ?_
  refine lv_aload_n hx hb dL_law_721 rfl (lv_at hl 1 rfl) ?_
  refine lv_aload_n hx hb dL_law_722 rfl (lv_at hl 3 rfl) ?_
  refine lv_iload_n hx hb dL_law_723 rfl (lv_at hl 0 rfl) ?_
  refine lv_iconst (v := 1) hx hb dL_law_724 ic_1 ?_
  refine lv_iadd hx hb dL_law_725 ?_
  refine sk_top (nI (i + 1)) (nI_add i 1) ?_
  refine va_sld hx hb hX hbl hbA hS (vin (i + 1) Ln (by omega) (by omega)) dL_law_726 ?_
  obtain ⟨_, hdm⟩ := mI_head hJ
  refine sk_Vi (q0 := 0) (n := 1) (rest := []) (wr := ux) ⟨hx, hb, hml, hown, hts⟩ hl.1 (mc_paid l D cI cJ cC cZ cS mm tl tb dy L nS lg ac su hn hR sd rf pn pB xf xp mw (xs (nI (i + 1)).toNatClampNeg) hk hJ) w_8_53 w_8_54 w_8_55 w_1_14 w_8_56 (by decide +kernel) ⟨⟨(Nat.le_of_ble_eq_true rfl), (Nat.le_of_ble_eq_true rfl)⟩, (Nat.le_of_ble_eq_true rfl), (Nat.le_of_ble_eq_true rfl)⟩ hK hP hD hS hA (idx 0 mw) (idx mw.length ux) (idx_C mw ux) (idx_R mw ux) (idx_nd 0 mw) (idx_nd _ ux) (idx_dis mw ux) hdm rfl rfl rfl (Nat.le_of_ble_eq_true rfl) dL_law_727 (fun rm um H locs hw hP hD hS => ?_)
  have hJ2 := hw
  have hk2 := hk
  refine lv_pop hx hb dL_law_730 rfl ?_
  refine lv_goto (tgt := 1171) hx hb dL_law_731 (by decide) ?_
  exact K _ _ _ _ _ _ _ _ _ _ _ _ _ _ _ _ _ _ _ _ _ hk2 hI2 hJ2 hP hD hS hl
theorem dg_L_law_734_734 : bqL cL_law 734 [(0, [43]), (1, [182, 0, 101]), (4, [87]), (5, [44]), (6, [182, 0, 104]), (9, [87]), (10, [167, 1, 171])] = true := by decide +kernel
theorem dL_law_734 : decode cL_law 734 = .ok (.aload_n 1, 1) := q_aload_n1 (bat_get dg_L_law_734_734 0 rfl rfl)
theorem dL_law_735 : decode cL_law 735 = .ok (.invokevirtual 101, 3) := q_invokevirtual (bat_get dg_L_law_734_734 1 rfl rfl) rfl
theorem dL_law_738 : decode cL_law 738 = .ok (.pop, 1) := q_pop (bat_get dg_L_law_734_734 2 rfl rfl)
theorem dL_law_739 : decode cL_law 739 = .ok (.aload_n 2, 1) := q_aload_n2 (bat_get dg_L_law_734_734 3 rfl rfl)
theorem dL_law_740 : decode cL_law 740 = .ok (.invokevirtual 104, 3) := q_invokevirtual (bat_get dg_L_law_734_734 4 rfl rfl) rfl
theorem dL_law_743 : decode cL_law 743 = .ok (.pop, 1) := q_pop (bat_get dg_L_law_734_734 5 rfl rfl)
theorem dL_law_744 : decode cL_law 744 = .ok (.goto 427, 3) := q_goto (bat_get dg_L_law_734_734 6 rfl rfl) rfl
theorem w_4_174 : (Cond.methodLink RL 101 yX11_rest) ∈ wsL_law := sk_mem (ck_4 _ (List.mem_of_getElem? (i := 174) rfl)) rfl
theorem w_4_175 : (Cond.instanceMethod yX11_rest) ∈ wsL_law := sk_mem (ck_4 _ (List.mem_of_getElem? (i := 175) rfl)) rfl
theorem w_4_176 : (Cond.selects RX11 yX11_rest yX11_rest) ∈ wsL_law := sk_mem (ck_4 _ (List.mem_of_getElem? (i := 176) rfl)) rfl
theorem w_8_57 : (Cond.methodLink RL 104 yX12_rest) ∈ wsL_law := sk_mem (ck_8 _ (List.mem_of_getElem? (i := 57) rfl)) rfl
theorem w_8_58 : (Cond.instanceMethod yX12_rest) ∈ wsL_law := sk_mem (ck_8 _ (List.mem_of_getElem? (i := 58) rfl)) rfl
theorem w_8_59 : (Cond.selects RX12 yX12_rest yX12_rest) ∈ wsL_law := sk_mem (ck_8 _ (List.mem_of_getElem? (i := 59) rfl)) rfl
set_option maxHeartbeats 4000000 in
set_option maxRecDepth 100000 in
theorem law_20 (l : Launch) (D : va_G) (cI cJ cC cZ cS : ClassId) (zk zv : Nat) (zf : Value) (x0 mm i : Nat) (tl : Nat) (tb : Nat → Nat) (dy : Nat) (L : LkS) (nS : KN) (lg : KLg) (ac : Nat) (su : Nat → KN) (hn : Nat) (hR : Nat → Nat) (sd : Nat) (rf : Nat → Int32) (pn : Nat) (pB : Nat → Nat) (xf : Int32) (xp : Int32) (xw mw : va_W) {p : Program} {e : Env} {s : State} {m : MethodId} {below : List Frame} {meth : Method} {c : Code} {b Ln : Nat} {xs : Nat → Int32} {A : Nat → Prop} {H : Heap} {locs : List Loc} {ls : Array Slot} (E : lwE p s m meth c b Ln xs zk zv zf D (skT cI cJ cC cZ cS) A) (hi6 : i + 6 ≤ Ln) (hk : kOk L dy nS lg ac su hn hR sd) (hI : xI cI cJ cC cZ cS x0 tl tb dy L nS lg ac su hn hR sd rf pn pB xf xp xw) (hJ : mI cI cJ cC cZ cS mm tl tb dy L nS lg ac su hn hR sd rf pn pB xf xp mw) (hP : va_P D vwCl (xw ++ mw) H) (hD : va_D A (xw ++ mw)) (hS : va_S A s.heap H locs) (hl : lv_has ls 4 [(3, .int (nI i)), (2, .ref mm), (1, .ref x0), (0, .ref b)]) (K : ∀ (tl : Nat) (tb : Nat → Nat) (dy : Nat) (L : LkS) (nS : KN) (lg : KLg) (ac : Nat) (su : Nat → KN) (hn : Nat) (hR : Nat → Nat) (sd : Nat) (rf : Nat → Int32) (pn : Nat) (pB : Nat → Nat) (xf : Int32) (xp : Int32) (xw mw : va_W) (H : Heap) (locs : List Loc) (ls : Array Slot), kOk L dy nS lg ac su hn hR sd → xI cI cJ cC cZ cS x0 tl tb dy L nS lg ac su hn hR sd rf pn pB xf xp xw → mI cI cJ cC cZ cS mm tl tb dy L nS lg ac su hn hR sd rf pn pB xf xp mw → va_P D vwCl (xw ++ mw) H → va_D A (xw ++ mw) → va_S A s.heap H locs → lv_has ls 4 [(3, .int (nI i)), (2, .ref mm), (1, .ref x0), (0, .ref b)] → W p l e room_1 s m #[Value.ref b] below meth c H locs 182 32192 (lw_Z below #[Value.ref b] s) (F0 m 1171 ls [])) : W p l e room_1 s m #[Value.ref b] below meth c H locs 182 32192 (lw_Z below #[Value.ref b] s) (F0 m 734 ls []) := by
  obtain ⟨hx, hb, hr, hml, hlocks, hown, hts, hX, hbl, hA, hbA, hAf, hK, hZ, hL⟩ := id E
  refine lv_aload_n hx hb dL_law_734 rfl (lv_at hl 2 rfl) ?_
  obtain ⟨_, hdx⟩ := xI_head hI
  refine sk_Vi (q0 := 0) (n := 0) (rest := []) (wr := mw) ⟨hx, hb, hml, hown, hts⟩ hl.1 (xc_rest l D cI cJ cC cZ cS x0 tl tb dy L nS lg ac su hn hR sd rf pn pB xf xp xw hk hI) w_4_174 w_4_175 w_4_176 w_1_1 w_4_177 (by decide +kernel) ⟨⟨(Nat.le_of_ble_eq_true rfl), (Nat.le_of_ble_eq_true rfl)⟩, (Nat.le_of_ble_eq_true rfl), (Nat.le_of_ble_eq_true rfl)⟩ hK hP hD hS hA (idx 0 xw) (idx xw.length mw) (idx_C xw mw) (idx_R xw mw) (idx_nd 0 xw) (idx_nd _ mw) (idx_dis xw mw) hdx rfl rfl rfl (Nat.le_of_ble_eq_true rfl) dL_law_735 (fun rx ux H locs hw hP hD hS => ?_)
  have hI2 := hw
  have hP : va_P D vwCl (mw ++ ux) H := hP
  refine lv_pop hx hb dL_law_738 rfl ?_
  refine lv_aload_n hx hb dL_law_739 rfl (lv_at hl 1 rfl) ?_
  obtain ⟨_, hdm⟩ := mI_head hJ
  refine sk_Vi (q0 := 0) (n := 0) (rest := []) (wr := ux) ⟨hx, hb, hml, hown, hts⟩ hl.1 (mc_rest l D cI cJ cC cZ cS mm tl tb dy L nS lg ac su hn hR sd rf pn pB xf xp mw hk hJ) w_8_57 w_8_58 w_8_59 w_1_14 w_8_60 (by decide +kernel) ⟨⟨(Nat.le_of_ble_eq_true rfl), (Nat.le_of_ble_eq_true rfl)⟩, (Nat.le_of_ble_eq_true rfl), (Nat.le_of_ble_eq_true rfl)⟩ hK hP hD hS hA (idx 0 mw) (idx mw.length ux) (idx_C mw ux) (idx_R mw ux) (idx_nd 0 mw) (idx_nd _ ux) (idx_dis mw ux) hdm rfl rfl rfl (Nat.le_of_ble_eq_true rfl) dL_law_740 (fun rm um H locs hw hP hD hS => ?_)
  have hJ2 := hw
  have hk2 := hk
  refine lv_pop hx hb dL_law_743 rfl ?_
  refine lv_goto (tgt := 1171) hx hb dL_law_744 (by decide) ?_
  exact K _ _ _ _ _ _ _ _ _ _ _ _ _ _ _ _ _ _ _ _ _ hk2 hI2 hJ2 hP hD hS hl
theorem dg_L_law_747_747 : bqL cL_law 747 [(0, [43]), (1, [42]), (2, [29]), (3, [4]), (4, [96]), (5, [46]), (6, [42]), (7, [29]), (8, [5]), (9, [96]), (10, [46]), (11, [182, 0, 105]), (14, [87]), (15, [44]), (16, [42]), (17, [29]), (18, [4]), (19, [96]), (20, [46]), (21, [42]), (22, [29]), (23, [5]), (24, [96]), (25, [46]), (26, [182, 0, 108]), (29, [87]), (30, [167, 1, 138])] = true := by decide +kernel
theorem dL_law_747 : decode cL_law 747 = .ok (.aload_n 1, 1) := q_aload_n1 (bat_get dg_L_law_747_747 0 rfl rfl)
theorem dL_law_748 : decode cL_law 748 = .ok (.aload_n 0, 1) := q_aload_n0 (bat_get dg_L_law_747_747 1 rfl rfl)
theorem dL_law_749 : decode cL_law 749 = .ok (.iload_n 3, 1) := q_iload_n3 (bat_get dg_L_law_747_747 2 rfl rfl)
theorem dL_law_750 : decode cL_law 750 = .ok (.iconst 1, 1) := q_iconst1 (bat_get dg_L_law_747_747 3 rfl rfl)
theorem dL_law_751 : decode cL_law 751 = .ok (.iadd, 1) := q_iadd (bat_get dg_L_law_747_747 4 rfl rfl)
theorem dL_law_752 : decode cL_law 752 = .ok (.iaload, 1) := q_iaload (bat_get dg_L_law_747_747 5 rfl rfl)
theorem dL_law_753 : decode cL_law 753 = .ok (.aload_n 0, 1) := q_aload_n0 (bat_get dg_L_law_747_747 6 rfl rfl)
theorem dL_law_754 : decode cL_law 754 = .ok (.iload_n 3, 1) := q_iload_n3 (bat_get dg_L_law_747_747 7 rfl rfl)
theorem dL_law_755 : decode cL_law 755 = .ok (.iconst 2, 1) := q_iconst2 (bat_get dg_L_law_747_747 8 rfl rfl)
theorem dL_law_756 : decode cL_law 756 = .ok (.iadd, 1) := q_iadd (bat_get dg_L_law_747_747 9 rfl rfl)
theorem dL_law_757 : decode cL_law 757 = .ok (.iaload, 1) := q_iaload (bat_get dg_L_law_747_747 10 rfl rfl)
theorem dL_law_758 : decode cL_law 758 = .ok (.invokevirtual 105, 3) := q_invokevirtual (bat_get dg_L_law_747_747 11 rfl rfl) rfl
theorem dL_law_761 : decode cL_law 761 = .ok (.pop, 1) := q_pop (bat_get dg_L_law_747_747 12 rfl rfl)
theorem dL_law_762 : decode cL_law 762 = .ok (.aload_n 2, 1) := q_aload_n2 (bat_get dg_L_law_747_747 13 rfl rfl)
theorem dL_law_763 : decode cL_law 763 = .ok (.aload_n 0, 1) := q_aload_n0 (bat_get dg_L_law_747_747 14 rfl rfl)
theorem dL_law_764 : decode cL_law 764 = .ok (.iload_n 3, 1) := q_iload_n3 (bat_get dg_L_law_747_747 15 rfl rfl)
theorem dL_law_765 : decode cL_law 765 = .ok (.iconst 1, 1) := q_iconst1 (bat_get dg_L_law_747_747 16 rfl rfl)
theorem dL_law_766 : decode cL_law 766 = .ok (.iadd, 1) := q_iadd (bat_get dg_L_law_747_747 17 rfl rfl)
theorem dL_law_767 : decode cL_law 767 = .ok (.iaload, 1) := q_iaload (bat_get dg_L_law_747_747 18 rfl rfl)
theorem dL_law_768 : decode cL_law 768 = .ok (.aload_n 0, 1) := q_aload_n0 (bat_get dg_L_law_747_747 19 rfl rfl)
theorem dL_law_769 : decode cL_law 769 = .ok (.iload_n 3, 1) := q_iload_n3 (bat_get dg_L_law_747_747 20 rfl rfl)
theorem dL_law_770 : decode cL_law 770 = .ok (.iconst 2, 1) := q_iconst2 (bat_get dg_L_law_747_747 21 rfl rfl)
theorem dL_law_771 : decode cL_law 771 = .ok (.iadd, 1) := q_iadd (bat_get dg_L_law_747_747 22 rfl rfl)
theorem dL_law_772 : decode cL_law 772 = .ok (.iaload, 1) := q_iaload (bat_get dg_L_law_747_747 23 rfl rfl)
theorem dL_law_773 : decode cL_law 773 = .ok (.invokevirtual 108, 3) := q_invokevirtual (bat_get dg_L_law_747_747 24 rfl rfl) rfl
theorem dL_law_776 : decode cL_law 776 = .ok (.pop, 1) := q_pop (bat_get dg_L_law_747_747 25 rfl rfl)
theorem dL_law_777 : decode cL_law 777 = .ok (.goto 394, 3) := q_goto (bat_get dg_L_law_747_747 26 rfl rfl) rfl
theorem w_4_178 : (Cond.methodLink RL 105 yX11_unlike) ∈ wsL_law := sk_mem (ck_4 _ (List.mem_of_getElem? (i := 178) rfl)) rfl
theorem w_4_179 : (Cond.instanceMethod yX11_unlike) ∈ wsL_law := sk_mem (ck_4 _ (List.mem_of_getElem? (i := 179) rfl)) rfl
theorem w_4_180 : (Cond.selects RX11 yX11_unlike yX11_unlike) ∈ wsL_law := sk_mem (ck_4 _ (List.mem_of_getElem? (i := 180) rfl)) rfl
theorem w_8_69 : (Cond.methodLink RL 108 yX12_unlike) ∈ wsL_law := sk_mem (ck_8 _ (List.mem_of_getElem? (i := 69) rfl)) rfl
theorem w_8_70 : (Cond.instanceMethod yX12_unlike) ∈ wsL_law := sk_mem (ck_8 _ (List.mem_of_getElem? (i := 70) rfl)) rfl
theorem w_8_71 : (Cond.selects RX12 yX12_unlike yX12_unlike) ∈ wsL_law := sk_mem (ck_8 _ (List.mem_of_getElem? (i := 71) rfl)) rfl
set_option maxHeartbeats 4000000 in
set_option maxRecDepth 100000 in
theorem law_21 (l : Launch) (D : va_G) (cI cJ cC cZ cS : ClassId) (zk zv : Nat) (zf : Value) (x0 mm i : Nat) (tl : Nat) (tb : Nat → Nat) (dy : Nat) (L : LkS) (nS : KN) (lg : KLg) (ac : Nat) (su : Nat → KN) (hn : Nat) (hR : Nat → Nat) (sd : Nat) (rf : Nat → Int32) (pn : Nat) (pB : Nat → Nat) (xf : Int32) (xp : Int32) (xw mw : va_W) {p : Program} {e : Env} {s : State} {m : MethodId} {below : List Frame} {meth : Method} {c : Code} {b Ln : Nat} {xs : Nat → Int32} {A : Nat → Prop} {H : Heap} {locs : List Loc} {ls : Array Slot} (E : lwE p s m meth c b Ln xs zk zv zf D (skT cI cJ cC cZ cS) A) (hi6 : i + 6 ≤ Ln) (hk : kOk L dy nS lg ac su hn hR sd) (hI : xI cI cJ cC cZ cS x0 tl tb dy L nS lg ac su hn hR sd rf pn pB xf xp xw) (hJ : mI cI cJ cC cZ cS mm tl tb dy L nS lg ac su hn hR sd rf pn pB xf xp mw) (hP : va_P D vwCl (xw ++ mw) H) (hD : va_D A (xw ++ mw)) (hS : va_S A s.heap H locs) (hl : lv_has ls 4 [(3, .int (nI i)), (2, .ref mm), (1, .ref x0), (0, .ref b)]) (K : ∀ (tl : Nat) (tb : Nat → Nat) (dy : Nat) (L : LkS) (nS : KN) (lg : KLg) (ac : Nat) (su : Nat → KN) (hn : Nat) (hR : Nat → Nat) (sd : Nat) (rf : Nat → Int32) (pn : Nat) (pB : Nat → Nat) (xf : Int32) (xp : Int32) (xw mw : va_W) (H : Heap) (locs : List Loc) (ls : Array Slot), kOk L dy nS lg ac su hn hR sd → xI cI cJ cC cZ cS x0 tl tb dy L nS lg ac su hn hR sd rf pn pB xf xp xw → mI cI cJ cC cZ cS mm tl tb dy L nS lg ac su hn hR sd rf pn pB xf xp mw → va_P D vwCl (xw ++ mw) H → va_D A (xw ++ mw) → va_S A s.heap H locs → lv_has ls 4 [(3, .int (nI i)), (2, .ref mm), (1, .ref x0), (0, .ref b)] → W p l e room_1 s m #[Value.ref b] below meth c H locs 182 32192 (lw_Z below #[Value.ref b] s) (F0 m 1171 ls [])) : W p l e room_1 s m #[Value.ref b] below meth c H locs 182 32192 (lw_Z below #[Value.ref b] s) (F0 m 747 ls []) := by
  obtain ⟨hx, hb, hr, hml, hlocks, hown, hts, hX, hbl, hA, hbA, hAf, hK, hZ, hL⟩ := id E
  refine lv_aload_n hx hb dL_law_747 rfl (lv_at hl 2 rfl) ?_
  refine lv_aload_n hx hb dL_law_748 rfl (lv_at hl 3 rfl) ?_
  refine lv_iload_n hx hb dL_law_749 rfl (lv_at hl 0 rfl) ?_
  refine lv_iconst (v := 1) hx hb dL_law_750 ic_1 ?_
  refine lv_iadd hx hb dL_law_751 ?_
  refine sk_top (nI (i + 1)) (nI_add i 1) ?_
  refine va_sld hx hb hX hbl hbA hS (vin (i + 1) Ln (by omega) (by omega)) dL_law_752 ?_
  refine lv_aload_n hx hb dL_law_753 rfl (lv_at hl 3 rfl) ?_
  refine lv_iload_n hx hb dL_law_754 rfl (lv_at hl 0 rfl) ?_
  refine lv_iconst (v := 2) hx hb dL_law_755 ic_2 ?_
  refine lv_iadd hx hb dL_law_756 ?_
  refine sk_top (nI (i + 2)) (nI_add i 2) ?_
  refine va_sld hx hb hX hbl hbA hS (vin (i + 2) Ln (by omega) (by omega)) dL_law_757 ?_
  obtain ⟨_, hdx⟩ := xI_head hI
  refine sk_Vi (q0 := 0) (n := 2) (rest := []) (wr := mw) ⟨hx, hb, hml, hown, hts⟩ hl.1 (xc_unlike l D cI cJ cC cZ cS x0 tl tb dy L nS lg ac su hn hR sd rf pn pB xf xp xw (xs (nI (i + 1)).toNatClampNeg) (xs (nI (i + 2)).toNatClampNeg) hk hI) w_4_178 w_4_179 w_4_180 w_1_1 w_4_181 (by decide +kernel) ⟨⟨(Nat.le_of_ble_eq_true rfl), (Nat.le_of_ble_eq_true rfl)⟩, (Nat.le_of_ble_eq_true rfl), (Nat.le_of_ble_eq_true rfl)⟩ hK hP hD hS hA (idx 0 xw) (idx xw.length mw) (idx_C xw mw) (idx_R xw mw) (idx_nd 0 xw) (idx_nd _ mw) (idx_dis xw mw) hdx rfl rfl rfl (Nat.le_of_ble_eq_true rfl) dL_law_758 (fun rx ux H locs hw hP hD hS => ?_)
  have hI2 := hw
  have hP : va_P D vwCl (mw ++ ux) H := hP
  refine lv_pop hx hb dL_law_761 rfl ?_
  refine lv_aload_n hx hb dL_law_762 rfl (lv_at hl 1 rfl) ?_
  refine lv_aload_n hx hb dL_law_763 rfl (lv_at hl 3 rfl) ?_
  refine lv_iload_n hx hb dL_law_764 rfl (lv_at hl 0 rfl) ?_
  refine lv_iconst (v := 1) hx hb dL_law_765 ic_1 ?_
  refine lv_iadd hx hb dL_law_766 ?_
  refine sk_top (nI (i + 1)) (nI_add i 1) ?_
  refine va_sld hx hb hX hbl hbA hS (vin (i + 1) Ln (by omega) (by omega)) dL_law_767 ?_
  refine lv_aload_n hx hb dL_law_768 rfl (lv_at hl 3 rfl) ?_
  refine lv_iload_n hx hb dL_law_769 rfl (lv_at hl 0 rfl) ?_
  refine lv_iconst (v := 2) hx hb dL_law_770 ic_2 ?_
  refine lv_iadd hx hb dL_law_771 ?_
  refine sk_top (nI (i + 2)) (nI_add i 2) ?_
  refine va_sld hx hb hX hbl hbA hS (vin (i + 2) Ln (by omega) (by omega)) dL_law_772 ?_
  obtain ⟨_, hdm⟩ := mI_head hJ
  refine sk_Vi (q0 := 0) (n := 2) (rest := []) (wr := ux) ⟨hx, hb, hml, hown, hts⟩ hl.1 (mc_unlike l D cI cJ cC cZ cS mm tl tb dy L nS lg ac su hn hR sd rf pn pB xf xp mw (xs (nI (i + 1)).toNatClampNeg) (xs (nI (i + 2)).toNatClampNeg) hk hJ) w_8_69 w_8_70 w_8_71 w_1_14 w_8_72 (by decide +kernel) ⟨⟨(Nat.le_of_ble_eq_true rfl), (Nat.le_of_ble_eq_true rfl)⟩, (Nat.le_of_ble_eq_true rfl), (Nat.le_of_ble_eq_true rfl)⟩ hK hP hD hS hA (idx 0 mw) (idx mw.length ux) (idx_C mw ux) (idx_R mw ux) (idx_nd 0 mw) (idx_nd _ ux) (idx_dis mw ux) hdm rfl rfl rfl (Nat.le_of_ble_eq_true rfl) dL_law_773 (fun rm um H locs hw hP hD hS => ?_)
  have hJ2 := hw
  have hk2 := hk
  refine lv_pop hx hb dL_law_776 rfl ?_
  refine lv_goto (tgt := 1171) hx hb dL_law_777 (by decide) ?_
  exact K _ _ _ _ _ _ _ _ _ _ _ _ _ _ _ _ _ _ _ _ _ hk2 hI2 hJ2 hP hD hS hl
theorem dg_L_law_780_780 : bqL cL_law 780 [(0, [43]), (1, [42]), (2, [29]), (3, [4]), (4, [96]), (5, [46]), (6, [42]), (7, [29]), (8, [5]), (9, [96]), (10, [46]), (11, [42]), (12, [29]), (13, [6]), (14, [96]), (15, [46]), (16, [182, 0, 109]), (19, [87]), (20, [44]), (21, [42]), (22, [29]), (23, [4]), (24, [96]), (25, [46]), (26, [42]), (27, [29]), (28, [5]), (29, [96]), (30, [46]), (31, [42]), (32, [29]), (33, [6]), (34, [96]), (35, [46]), (36, [182, 0, 112]), (39, [87]), (40, [167, 1, 95])] = true := by decide +kernel
theorem dL_law_780 : decode cL_law 780 = .ok (.aload_n 1, 1) := q_aload_n1 (bat_get dg_L_law_780_780 0 rfl rfl)
theorem dL_law_781 : decode cL_law 781 = .ok (.aload_n 0, 1) := q_aload_n0 (bat_get dg_L_law_780_780 1 rfl rfl)
theorem dL_law_782 : decode cL_law 782 = .ok (.iload_n 3, 1) := q_iload_n3 (bat_get dg_L_law_780_780 2 rfl rfl)
theorem dL_law_783 : decode cL_law 783 = .ok (.iconst 1, 1) := q_iconst1 (bat_get dg_L_law_780_780 3 rfl rfl)
theorem dL_law_784 : decode cL_law 784 = .ok (.iadd, 1) := q_iadd (bat_get dg_L_law_780_780 4 rfl rfl)
theorem dL_law_785 : decode cL_law 785 = .ok (.iaload, 1) := q_iaload (bat_get dg_L_law_780_780 5 rfl rfl)
theorem dL_law_786 : decode cL_law 786 = .ok (.aload_n 0, 1) := q_aload_n0 (bat_get dg_L_law_780_780 6 rfl rfl)
theorem dL_law_787 : decode cL_law 787 = .ok (.iload_n 3, 1) := q_iload_n3 (bat_get dg_L_law_780_780 7 rfl rfl)
theorem dL_law_788 : decode cL_law 788 = .ok (.iconst 2, 1) := q_iconst2 (bat_get dg_L_law_780_780 8 rfl rfl)
theorem dL_law_789 : decode cL_law 789 = .ok (.iadd, 1) := q_iadd (bat_get dg_L_law_780_780 9 rfl rfl)
theorem dL_law_790 : decode cL_law 790 = .ok (.iaload, 1) := q_iaload (bat_get dg_L_law_780_780 10 rfl rfl)
theorem dL_law_791 : decode cL_law 791 = .ok (.aload_n 0, 1) := q_aload_n0 (bat_get dg_L_law_780_780 11 rfl rfl)
theorem dL_law_792 : decode cL_law 792 = .ok (.iload_n 3, 1) := q_iload_n3 (bat_get dg_L_law_780_780 12 rfl rfl)
theorem dL_law_793 : decode cL_law 793 = .ok (.iconst 3, 1) := q_iconst3 (bat_get dg_L_law_780_780 13 rfl rfl)
theorem dL_law_794 : decode cL_law 794 = .ok (.iadd, 1) := q_iadd (bat_get dg_L_law_780_780 14 rfl rfl)
theorem dL_law_795 : decode cL_law 795 = .ok (.iaload, 1) := q_iaload (bat_get dg_L_law_780_780 15 rfl rfl)
theorem dL_law_796 : decode cL_law 796 = .ok (.invokevirtual 109, 3) := q_invokevirtual (bat_get dg_L_law_780_780 16 rfl rfl) rfl
theorem dL_law_799 : decode cL_law 799 = .ok (.pop, 1) := q_pop (bat_get dg_L_law_780_780 17 rfl rfl)
theorem dL_law_800 : decode cL_law 800 = .ok (.aload_n 2, 1) := q_aload_n2 (bat_get dg_L_law_780_780 18 rfl rfl)
theorem dL_law_801 : decode cL_law 801 = .ok (.aload_n 0, 1) := q_aload_n0 (bat_get dg_L_law_780_780 19 rfl rfl)
theorem dL_law_802 : decode cL_law 802 = .ok (.iload_n 3, 1) := q_iload_n3 (bat_get dg_L_law_780_780 20 rfl rfl)
theorem dL_law_803 : decode cL_law 803 = .ok (.iconst 1, 1) := q_iconst1 (bat_get dg_L_law_780_780 21 rfl rfl)
theorem dL_law_804 : decode cL_law 804 = .ok (.iadd, 1) := q_iadd (bat_get dg_L_law_780_780 22 rfl rfl)
theorem dL_law_805 : decode cL_law 805 = .ok (.iaload, 1) := q_iaload (bat_get dg_L_law_780_780 23 rfl rfl)
theorem dL_law_806 : decode cL_law 806 = .ok (.aload_n 0, 1) := q_aload_n0 (bat_get dg_L_law_780_780 24 rfl rfl)
theorem dL_law_807 : decode cL_law 807 = .ok (.iload_n 3, 1) := q_iload_n3 (bat_get dg_L_law_780_780 25 rfl rfl)
theorem dL_law_808 : decode cL_law 808 = .ok (.iconst 2, 1) := q_iconst2 (bat_get dg_L_law_780_780 26 rfl rfl)
theorem dL_law_809 : decode cL_law 809 = .ok (.iadd, 1) := q_iadd (bat_get dg_L_law_780_780 27 rfl rfl)
theorem dL_law_810 : decode cL_law 810 = .ok (.iaload, 1) := q_iaload (bat_get dg_L_law_780_780 28 rfl rfl)
theorem dL_law_811 : decode cL_law 811 = .ok (.aload_n 0, 1) := q_aload_n0 (bat_get dg_L_law_780_780 29 rfl rfl)
theorem dL_law_812 : decode cL_law 812 = .ok (.iload_n 3, 1) := q_iload_n3 (bat_get dg_L_law_780_780 30 rfl rfl)
theorem dL_law_813 : decode cL_law 813 = .ok (.iconst 3, 1) := q_iconst3 (bat_get dg_L_law_780_780 31 rfl rfl)
theorem dL_law_814 : decode cL_law 814 = .ok (.iadd, 1) := q_iadd (bat_get dg_L_law_780_780 32 rfl rfl)
theorem dL_law_815 : decode cL_law 815 = .ok (.iaload, 1) := q_iaload (bat_get dg_L_law_780_780 33 rfl rfl)
theorem dL_law_816 : decode cL_law 816 = .ok (.invokevirtual 112, 3) := q_invokevirtual (bat_get dg_L_law_780_780 34 rfl rfl) rfl
theorem dL_law_819 : decode cL_law 819 = .ok (.pop, 1) := q_pop (bat_get dg_L_law_780_780 35 rfl rfl)
theorem dL_law_820 : decode cL_law 820 = .ok (.goto 351, 3) := q_goto (bat_get dg_L_law_780_780 36 rfl rfl) rfl
theorem w_4_182 : (Cond.methodLink RL 109 yX11_known) ∈ wsL_law := sk_mem (ck_4 _ (List.mem_of_getElem? (i := 182) rfl)) rfl
theorem w_4_183 : (Cond.instanceMethod yX11_known) ∈ wsL_law := sk_mem (ck_4 _ (List.mem_of_getElem? (i := 183) rfl)) rfl
theorem w_4_184 : (Cond.selects RX11 yX11_known yX11_known) ∈ wsL_law := sk_mem (ck_4 _ (List.mem_of_getElem? (i := 184) rfl)) rfl
theorem w_8_73 : (Cond.methodLink RL 112 yX12_known) ∈ wsL_law := sk_mem (ck_8 _ (List.mem_of_getElem? (i := 73) rfl)) rfl
theorem w_8_74 : (Cond.instanceMethod yX12_known) ∈ wsL_law := sk_mem (ck_8 _ (List.mem_of_getElem? (i := 74) rfl)) rfl
theorem w_8_75 : (Cond.selects RX12 yX12_known yX12_known) ∈ wsL_law := sk_mem (ck_8 _ (List.mem_of_getElem? (i := 75) rfl)) rfl
set_option maxHeartbeats 4000000 in
set_option maxRecDepth 100000 in
theorem law_22 (l : Launch) (D : va_G) (cI cJ cC cZ cS : ClassId) (zk zv : Nat) (zf : Value) (x0 mm i : Nat) (tl : Nat) (tb : Nat → Nat) (dy : Nat) (L : LkS) (nS : KN) (lg : KLg) (ac : Nat) (su : Nat → KN) (hn : Nat) (hR : Nat → Nat) (sd : Nat) (rf : Nat → Int32) (pn : Nat) (pB : Nat → Nat) (xf : Int32) (xp : Int32) (xw mw : va_W) {p : Program} {e : Env} {s : State} {m : MethodId} {below : List Frame} {meth : Method} {c : Code} {b Ln : Nat} {xs : Nat → Int32} {A : Nat → Prop} {H : Heap} {locs : List Loc} {ls : Array Slot} (E : lwE p s m meth c b Ln xs zk zv zf D (skT cI cJ cC cZ cS) A) (hi6 : i + 6 ≤ Ln) (hk : kOk L dy nS lg ac su hn hR sd) (hI : xI cI cJ cC cZ cS x0 tl tb dy L nS lg ac su hn hR sd rf pn pB xf xp xw) (hJ : mI cI cJ cC cZ cS mm tl tb dy L nS lg ac su hn hR sd rf pn pB xf xp mw) (hP : va_P D vwCl (xw ++ mw) H) (hD : va_D A (xw ++ mw)) (hS : va_S A s.heap H locs) (hl : lv_has ls 4 [(3, .int (nI i)), (2, .ref mm), (1, .ref x0), (0, .ref b)]) (K : ∀ (tl : Nat) (tb : Nat → Nat) (dy : Nat) (L : LkS) (nS : KN) (lg : KLg) (ac : Nat) (su : Nat → KN) (hn : Nat) (hR : Nat → Nat) (sd : Nat) (rf : Nat → Int32) (pn : Nat) (pB : Nat → Nat) (xf : Int32) (xp : Int32) (xw mw : va_W) (H : Heap) (locs : List Loc) (ls : Array Slot), kOk L dy nS lg ac su hn hR sd → xI cI cJ cC cZ cS x0 tl tb dy L nS lg ac su hn hR sd rf pn pB xf xp xw → mI cI cJ cC cZ cS mm tl tb dy L nS lg ac su hn hR sd rf pn pB xf xp mw → va_P D vwCl (xw ++ mw) H → va_D A (xw ++ mw) → va_S A s.heap H locs → lv_has ls 4 [(3, .int (nI i)), (2, .ref mm), (1, .ref x0), (0, .ref b)] → W p l e room_1 s m #[Value.ref b] below meth c H locs 182 32192 (lw_Z below #[Value.ref b] s) (F0 m 1171 ls [])) : W p l e room_1 s m #[Value.ref b] below meth c H locs 182 32192 (lw_Z below #[Value.ref b] s) (F0 m 780 ls []) := by
  obtain ⟨hx, hb, hr, hml, hlocks, hown, hts, hX, hbl, hA, hbA, hAf, hK, hZ, hL⟩ := id E
  refine lv_aload_n hx hb dL_law_780 rfl (lv_at hl 2 rfl) ?_
  refine lv_aload_n hx hb dL_law_781 rfl (lv_at hl 3 rfl) ?_
  refine lv_iload_n hx hb dL_law_782 rfl (lv_at hl 0 rfl) ?_
  refine lv_iconst (v := 1) hx hb dL_law_783 ic_1 ?_
  refine lv_iadd hx hb dL_law_784 ?_
  refine sk_top (nI (i + 1)) (nI_add i 1) ?_
  refine va_sld hx hb hX hbl hbA hS (vin (i + 1) Ln (by omega) (by omega)) dL_law_785 ?_
  refine lv_aload_n hx hb dL_law_786 rfl (lv_at hl 3 rfl) ?_
  refine lv_iload_n hx hb dL_law_787 rfl (lv_at hl 0 rfl) ?_
  refine lv_iconst (v := 2) hx hb dL_law_788 ic_2 ?_
  refine lv_iadd hx hb dL_law_789 ?_
  refine sk_top (nI (i + 2)) (nI_add i 2) ?_
  refine va_sld hx hb hX hbl hbA hS (vin (i + 2) Ln (by omega) (by omega)) dL_law_790 ?_
  refine lv_aload_n hx hb dL_law_791 rfl (lv_at hl 3 rfl) ?_
  refine lv_iload_n hx hb dL_law_792 rfl (lv_at hl 0 rfl) ?_
  refine lv_iconst (v := 3) hx hb dL_law_793 ic_3 ?_
  refine lv_iadd hx hb dL_law_794 ?_
  refine sk_top (nI (i + 3)) (nI_add i 3) ?_
  refine va_sld hx hb hX hbl hbA hS (vin (i + 3) Ln (by omega) (by omega)) dL_law_795 ?_
  obtain ⟨_, hdx⟩ := xI_head hI
  refine sk_Vi (q0 := 0) (n := 3) (rest := []) (wr := mw) ⟨hx, hb, hml, hown, hts⟩ hl.1 (xc_known l D cI cJ cC cZ cS x0 tl tb dy L nS lg ac su hn hR sd rf pn pB xf xp xw (xs (nI (i + 1)).toNatClampNeg) (xs (nI (i + 2)).toNatClampNeg) (xs (nI (i + 3)).toNatClampNeg) hk hI) w_4_182 w_4_183 w_4_184 w_1_1 w_4_185 (by decide +kernel) ⟨⟨(Nat.le_of_ble_eq_true rfl), (Nat.le_of_ble_eq_true rfl)⟩, (Nat.le_of_ble_eq_true rfl), (Nat.le_of_ble_eq_true rfl)⟩ hK hP hD hS hA (idx 0 xw) (idx xw.length mw) (idx_C xw mw) (idx_R xw mw) (idx_nd 0 xw) (idx_nd _ mw) (idx_dis xw mw) hdx rfl rfl rfl (Nat.le_of_ble_eq_true rfl) dL_law_796 (fun rx ux H locs hw hP hD hS => ?_)
  have hI2 := hw
  have hP : va_P D vwCl (mw ++ ux) H := hP
  refine lv_pop hx hb dL_law_799 rfl ?_
  refine lv_aload_n hx hb dL_law_800 rfl (lv_at hl 1 rfl) ?_
  refine lv_aload_n hx hb dL_law_801 rfl (lv_at hl 3 rfl) ?_
  refine lv_iload_n hx hb dL_law_802 rfl (lv_at hl 0 rfl) ?_
  refine lv_iconst (v := 1) hx hb dL_law_803 ic_1 ?_
  refine lv_iadd hx hb dL_law_804 ?_
  refine sk_top (nI (i + 1)) (nI_add i 1) ?_
  refine va_sld hx hb hX hbl hbA hS (vin (i + 1) Ln (by omega) (by omega)) dL_law_805 ?_
  refine lv_aload_n hx hb dL_law_806 rfl (lv_at hl 3 rfl) ?_
  refine lv_iload_n hx hb dL_law_807 rfl (lv_at hl 0 rfl) ?_
  refine lv_iconst (v := 2) hx hb dL_law_808 ic_2 ?_
  refine lv_iadd hx hb dL_law_809 ?_
  refine sk_top (nI (i + 2)) (nI_add i 2) ?_
  refine va_sld hx hb hX hbl hbA hS (vin (i + 2) Ln (by omega) (by omega)) dL_law_810 ?_
  refine lv_aload_n hx hb dL_law_811 rfl (lv_at hl 3 rfl) ?_
  refine lv_iload_n hx hb dL_law_812 rfl (lv_at hl 0 rfl) ?_
  refine lv_iconst (v := 3) hx hb dL_law_813 ic_3 ?_
  refine lv_iadd hx hb dL_law_814 ?_
  refine sk_top (nI (i + 3)) (nI_add i 3) ?_
  refine va_sld hx hb hX hbl hbA hS (vin (i + 3) Ln (by omega) (by omega)) dL_law_815 ?_
  obtain ⟨_, hdm⟩ := mI_head hJ
  refine sk_Vi (q0 := 0) (n := 3) (rest := []) (wr := ux) ⟨hx, hb, hml, hown, hts⟩ hl.1 (mc_known l D cI cJ cC cZ cS mm tl tb dy L nS lg ac su hn hR sd rf pn pB xf xp mw (xs (nI (i + 1)).toNatClampNeg) (xs (nI (i + 2)).toNatClampNeg) (xs (nI (i + 3)).toNatClampNeg) hk hJ) w_8_73 w_8_74 w_8_75 w_1_14 w_8_76 (by decide +kernel) ⟨⟨(Nat.le_of_ble_eq_true rfl), (Nat.le_of_ble_eq_true rfl)⟩, (Nat.le_of_ble_eq_true rfl), (Nat.le_of_ble_eq_true rfl)⟩ hK hP hD hS hA (idx 0 mw) (idx mw.length ux) (idx_C mw ux) (idx_R mw ux) (idx_nd 0 mw) (idx_nd _ ux) (idx_dis mw ux) hdm rfl rfl rfl (Nat.le_of_ble_eq_true rfl) dL_law_816 (fun rm um H locs hw hP hD hS => ?_)
  have hJ2 := hw
  have hk2 := hk
  refine lv_pop hx hb dL_law_819 rfl ?_
  refine lv_goto (tgt := 1171) hx hb dL_law_820 (by decide) ?_
  exact K _ _ _ _ _ _ _ _ _ _ _ _ _ _ _ _ _ _ _ _ _ hk2 hI2 hJ2 hP hD hS hl
theorem dg_L_law_823_823 : bqL cL_law 823 [(0, [43]), (1, [42]), (2, [29]), (3, [4]), (4, [96]), (5, [46]), (6, [42]), (7, [29]), (8, [5]), (9, [96]), (10, [46]), (11, [182, 0, 113]), (14, [87]), (15, [44]), (16, [42]), (17, [29]), (18, [4]), (19, [96]), (20, [46]), (21, [42]), (22, [29]), (23, [5]), (24, [96]), (25, [46]), (26, [182, 0, 116]), (29, [87]), (30, [167, 1, 62])] = true := by decide +kernel
theorem dL_law_823 : decode cL_law 823 = .ok (.aload_n 1, 1) := q_aload_n1 (bat_get dg_L_law_823_823 0 rfl rfl)
theorem dL_law_824 : decode cL_law 824 = .ok (.aload_n 0, 1) := q_aload_n0 (bat_get dg_L_law_823_823 1 rfl rfl)
theorem dL_law_825 : decode cL_law 825 = .ok (.iload_n 3, 1) := q_iload_n3 (bat_get dg_L_law_823_823 2 rfl rfl)
theorem dL_law_826 : decode cL_law 826 = .ok (.iconst 1, 1) := q_iconst1 (bat_get dg_L_law_823_823 3 rfl rfl)
theorem dL_law_827 : decode cL_law 827 = .ok (.iadd, 1) := q_iadd (bat_get dg_L_law_823_823 4 rfl rfl)
theorem dL_law_828 : decode cL_law 828 = .ok (.iaload, 1) := q_iaload (bat_get dg_L_law_823_823 5 rfl rfl)
theorem dL_law_829 : decode cL_law 829 = .ok (.aload_n 0, 1) := q_aload_n0 (bat_get dg_L_law_823_823 6 rfl rfl)
theorem dL_law_830 : decode cL_law 830 = .ok (.iload_n 3, 1) := q_iload_n3 (bat_get dg_L_law_823_823 7 rfl rfl)
theorem dL_law_831 : decode cL_law 831 = .ok (.iconst 2, 1) := q_iconst2 (bat_get dg_L_law_823_823 8 rfl rfl)
theorem dL_law_832 : decode cL_law 832 = .ok (.iadd, 1) := q_iadd (bat_get dg_L_law_823_823 9 rfl rfl)
theorem dL_law_833 : decode cL_law 833 = .ok (.iaload, 1) := q_iaload (bat_get dg_L_law_823_823 10 rfl rfl)
theorem dL_law_834 : decode cL_law 834 = .ok (.invokevirtual 113, 3) := q_invokevirtual (bat_get dg_L_law_823_823 11 rfl rfl) rfl
theorem dL_law_837 : decode cL_law 837 = .ok (.pop, 1) := q_pop (bat_get dg_L_law_823_823 12 rfl rfl)
theorem dL_law_838 : decode cL_law 838 = .ok (.aload_n 2, 1) := q_aload_n2 (bat_get dg_L_law_823_823 13 rfl rfl)
theorem dL_law_839 : decode cL_law 839 = .ok (.aload_n 0, 1) := q_aload_n0 (bat_get dg_L_law_823_823 14 rfl rfl)
theorem dL_law_840 : decode cL_law 840 = .ok (.iload_n 3, 1) := q_iload_n3 (bat_get dg_L_law_823_823 15 rfl rfl)
theorem dL_law_841 : decode cL_law 841 = .ok (.iconst 1, 1) := q_iconst1 (bat_get dg_L_law_823_823 16 rfl rfl)
theorem dL_law_842 : decode cL_law 842 = .ok (.iadd, 1) := q_iadd (bat_get dg_L_law_823_823 17 rfl rfl)
theorem dL_law_843 : decode cL_law 843 = .ok (.iaload, 1) := q_iaload (bat_get dg_L_law_823_823 18 rfl rfl)
theorem dL_law_844 : decode cL_law 844 = .ok (.aload_n 0, 1) := q_aload_n0 (bat_get dg_L_law_823_823 19 rfl rfl)
theorem dL_law_845 : decode cL_law 845 = .ok (.iload_n 3, 1) := q_iload_n3 (bat_get dg_L_law_823_823 20 rfl rfl)
theorem dL_law_846 : decode cL_law 846 = .ok (.iconst 2, 1) := q_iconst2 (bat_get dg_L_law_823_823 21 rfl rfl)
theorem dL_law_847 : decode cL_law 847 = .ok (.iadd, 1) := q_iadd (bat_get dg_L_law_823_823 22 rfl rfl)
theorem dL_law_848 : decode cL_law 848 = .ok (.iaload, 1) := q_iaload (bat_get dg_L_law_823_823 23 rfl rfl)
theorem dL_law_849 : decode cL_law 849 = .ok (.invokevirtual 116, 3) := q_invokevirtual (bat_get dg_L_law_823_823 24 rfl rfl) rfl
theorem dL_law_852 : decode cL_law 852 = .ok (.pop, 1) := q_pop (bat_get dg_L_law_823_823 25 rfl rfl)
theorem dL_law_853 : decode cL_law 853 = .ok (.goto 318, 3) := q_goto (bat_get dg_L_law_823_823 26 rfl rfl) rfl
theorem w_4_202 : (Cond.methodLink RL 113 yX11_sure) ∈ wsL_law := sk_mem (ck_4 _ (List.mem_of_getElem? (i := 202) rfl)) rfl
theorem w_4_203 : (Cond.instanceMethod yX11_sure) ∈ wsL_law := sk_mem (ck_4 _ (List.mem_of_getElem? (i := 203) rfl)) rfl
theorem w_4_204 : (Cond.selects RX11 yX11_sure yX11_sure) ∈ wsL_law := sk_mem (ck_4 _ (List.mem_of_getElem? (i := 204) rfl)) rfl
theorem w_8_89 : (Cond.methodLink RL 116 yX12_sure) ∈ wsL_law := sk_mem (ck_8 _ (List.mem_of_getElem? (i := 89) rfl)) rfl
theorem w_8_90 : (Cond.instanceMethod yX12_sure) ∈ wsL_law := sk_mem (ck_8 _ (List.mem_of_getElem? (i := 90) rfl)) rfl
theorem w_8_91 : (Cond.selects RX12 yX12_sure yX12_sure) ∈ wsL_law := sk_mem (ck_8 _ (List.mem_of_getElem? (i := 91) rfl)) rfl
set_option maxHeartbeats 4000000 in
set_option maxRecDepth 100000 in
theorem law_23 (l : Launch) (D : va_G) (cI cJ cC cZ cS : ClassId) (zk zv : Nat) (zf : Value) (x0 mm i : Nat) (tl : Nat) (tb : Nat → Nat) (dy : Nat) (L : LkS) (nS : KN) (lg : KLg) (ac : Nat) (su : Nat → KN) (hn : Nat) (hR : Nat → Nat) (sd : Nat) (rf : Nat → Int32) (pn : Nat) (pB : Nat → Nat) (xf : Int32) (xp : Int32) (xw mw : va_W) {p : Program} {e : Env} {s : State} {m : MethodId} {below : List Frame} {meth : Method} {c : Code} {b Ln : Nat} {xs : Nat → Int32} {A : Nat → Prop} {H : Heap} {locs : List Loc} {ls : Array Slot} (E : lwE p s m meth c b Ln xs zk zv zf D (skT cI cJ cC cZ cS) A) (hi6 : i + 6 ≤ Ln) (hk : kOk L dy nS lg ac su hn hR sd) (hI : xI cI cJ cC cZ cS x0 tl tb dy L nS lg ac su hn hR sd rf pn pB xf xp xw) (hJ : mI cI cJ cC cZ cS mm tl tb dy L nS lg ac su hn hR sd rf pn pB xf xp mw) (hP : va_P D vwCl (xw ++ mw) H) (hD : va_D A (xw ++ mw)) (hS : va_S A s.heap H locs) (hl : lv_has ls 4 [(3, .int (nI i)), (2, .ref mm), (1, .ref x0), (0, .ref b)]) (K : ∀ (tl : Nat) (tb : Nat → Nat) (dy : Nat) (L : LkS) (nS : KN) (lg : KLg) (ac : Nat) (su : Nat → KN) (hn : Nat) (hR : Nat → Nat) (sd : Nat) (rf : Nat → Int32) (pn : Nat) (pB : Nat → Nat) (xf : Int32) (xp : Int32) (xw mw : va_W) (H : Heap) (locs : List Loc) (ls : Array Slot), kOk L dy nS lg ac su hn hR sd → xI cI cJ cC cZ cS x0 tl tb dy L nS lg ac su hn hR sd rf pn pB xf xp xw → mI cI cJ cC cZ cS mm tl tb dy L nS lg ac su hn hR sd rf pn pB xf xp mw → va_P D vwCl (xw ++ mw) H → va_D A (xw ++ mw) → va_S A s.heap H locs → lv_has ls 4 [(3, .int (nI i)), (2, .ref mm), (1, .ref x0), (0, .ref b)] → W p l e room_1 s m #[Value.ref b] below meth c H locs 182 32192 (lw_Z below #[Value.ref b] s) (F0 m 1171 ls [])) : W p l e room_1 s m #[Value.ref b] below meth c H locs 182 32192 (lw_Z below #[Value.ref b] s) (F0 m 823 ls []) := by
  obtain ⟨hx, hb, hr, hml, hlocks, hown, hts, hX, hbl, hA, hbA, hAf, hK, hZ, hL⟩ := id E
  refine lv_aload_n hx hb dL_law_823 rfl (lv_at hl 2 rfl) ?_
  refine lv_aload_n hx hb dL_law_824 rfl (lv_at hl 3 rfl) ?_
  refine lv_iload_n hx hb dL_law_825 rfl (lv_at hl 0 rfl) ?_
  refine lv_iconst (v := 1) hx hb dL_law_826 ic_1 ?_
  refine lv_iadd hx hb dL_law_827 ?_
  refine sk_top (nI (i + 1)) (nI_add i 1) ?_
  refine va_sld hx hb hX hbl hbA hS (vin (i + 1) Ln (by omega) (by omega)) dL_law_828 ?_
  refine lv_aload_n hx hb dL_law_829 rfl (lv_at hl 3 rfl) ?_
  refine lv_iload_n hx hb dL_law_830 rfl (lv_at hl 0 rfl) ?_
  refine lv_iconst (v := 2) hx hb dL_law_831 ic_2 ?_
  refine lv_iadd hx hb dL_law_832 ?_
  refine sk_top (nI (i + 2)) (nI_add i 2) ?_
  refine va_sld hx hb hX hbl hbA hS (vin (i + 2) Ln (by omega) (by omega)) dL_law_833 ?_
  obtain ⟨_, hdx⟩ := xI_head hI
  refine sk_Vi (q0 := 0) (n := 2) (rest := []) (wr := mw) ⟨hx, hb, hml, hown, hts⟩ hl.1 (xc_sure l D cI cJ cC cZ cS x0 tl tb dy L nS lg ac su hn hR sd rf pn pB xf xp xw (xs (nI (i + 1)).toNatClampNeg) (xs (nI (i + 2)).toNatClampNeg) hk hI) w_4_202 w_4_203 w_4_204 w_1_1 w_4_205 (by decide +kernel) ⟨⟨(Nat.le_of_ble_eq_true rfl), (Nat.le_of_ble_eq_true rfl)⟩, (Nat.le_of_ble_eq_true rfl), (Nat.le_of_ble_eq_true rfl)⟩ hK hP hD hS hA (idx 0 xw) (idx xw.length mw) (idx_C xw mw) (idx_R xw mw) (idx_nd 0 xw) (idx_nd _ mw) (idx_dis xw mw) hdx rfl rfl rfl (Nat.le_of_ble_eq_true rfl) dL_law_834 (fun rx ux H locs hw hP hD hS => ?_)
  have hI2 := hw
  have hP : va_P D vwCl (mw ++ ux) H := hP
  refine lv_pop hx hb dL_law_837 rfl ?_
  refine lv_aload_n hx hb dL_law_838 rfl (lv_at hl 1 rfl) ?_
  refine lv_aload_n hx hb dL_law_839 rfl (lv_at hl 3 rfl) ?_
  refine lv_iload_n hx hb dL_law_840 rfl (lv_at hl 0 rfl) ?_
  refine lv_iconst (v := 1) hx hb dL_law_841 ic_1 ?_
  refine lv_iadd hx hb dL_law_842 ?_
  refine sk_top (nI (i + 1)) (nI_add i 1) ?_
  refine va_sld hx hb hX hbl hbA hS (vin (i + 1) Ln (by omega) (by omega)) dL_law_843 ?_
  refine lv_aload_n hx hb dL_law_844 rfl (lv_at hl 3 rfl) ?_
  refine lv_iload_n hx hb dL_law_845 rfl (lv_at hl 0 rfl) ?_
  refine lv_iconst (v := 2) hx hb dL_law_846 ic_2 ?_
  refine lv_iadd hx hb dL_law_847 ?_
  refine sk_top (nI (i + 2)) (nI_add i 2) ?_
  refine va_sld hx hb hX hbl hbA hS (vin (i + 2) Ln (by omega) (by omega)) dL_law_848 ?_
  obtain ⟨_, hdm⟩ := mI_head hJ
  refine sk_Vi (q0 := 0) (n := 2) (rest := []) (wr := ux) ⟨hx, hb, hml, hown, hts⟩ hl.1 (mc_sure l D cI cJ cC cZ cS mm tl tb dy L nS lg ac su hn hR sd rf pn pB xf xp mw (xs (nI (i + 1)).toNatClampNeg) (xs (nI (i + 2)).toNatClampNeg) hk hJ) w_8_89 w_8_90 w_8_91 w_1_14 w_8_92 (by decide +kernel) ⟨⟨(Nat.le_of_ble_eq_true rfl), (Nat.le_of_ble_eq_true rfl)⟩, (Nat.le_of_ble_eq_true rfl), (Nat.le_of_ble_eq_true rfl)⟩ hK hP hD hS hA (idx 0 mw) (idx mw.length ux) (idx_C mw ux) (idx_R mw ux) (idx_nd 0 mw) (idx_nd _ ux) (idx_dis mw ux) hdm rfl rfl rfl (Nat.le_of_ble_eq_true rfl) dL_law_849 (fun rm um H locs hw hP hD hS => ?_)
  have hJ2 := hw
  have hk2 := hk
  refine lv_pop hx hb dL_law_852 rfl ?_
  refine lv_goto (tgt := 1171) hx hb dL_law_853 (by decide) ?_
  exact K _ _ _ _ _ _ _ _ _ _ _ _ _ _ _ _ _ _ _ _ _ hk2 hI2 hJ2 hP hD hS hl
theorem dg_L_law_856_856 : bqL cL_law 856 [(0, [43]), (1, [182, 0, 117]), (4, [87]), (5, [44]), (6, [182, 0, 120]), (9, [87]), (10, [167, 1, 49])] = true := by decide +kernel
theorem dL_law_856 : decode cL_law 856 = .ok (.aload_n 1, 1) := q_aload_n1 (bat_get dg_L_law_856_856 0 rfl rfl)
theorem dL_law_857 : decode cL_law 857 = .ok (.invokevirtual 117, 3) := q_invokevirtual (bat_get dg_L_law_856_856 1 rfl rfl) rfl
theorem dL_law_860 : decode cL_law 860 = .ok (.pop, 1) := q_pop (bat_get dg_L_law_856_856 2 rfl rfl)
theorem dL_law_861 : decode cL_law 861 = .ok (.aload_n 2, 1) := q_aload_n2 (bat_get dg_L_law_856_856 3 rfl rfl)
theorem dL_law_862 : decode cL_law 862 = .ok (.invokevirtual 120, 3) := q_invokevirtual (bat_get dg_L_law_856_856 4 rfl rfl) rfl
theorem dL_law_865 : decode cL_law 865 = .ok (.pop, 1) := q_pop (bat_get dg_L_law_856_856 5 rfl rfl)
theorem dL_law_866 : decode cL_law 866 = .ok (.goto 305, 3) := q_goto (bat_get dg_L_law_856_856 6 rfl rfl) rfl
theorem w_4_206 : (Cond.methodLink RL 117 yX11_hear) ∈ wsL_law := sk_mem (ck_4 _ (List.mem_of_getElem? (i := 206) rfl)) rfl
theorem w_4_207 : (Cond.instanceMethod yX11_hear) ∈ wsL_law := sk_mem (ck_4 _ (List.mem_of_getElem? (i := 207) rfl)) rfl
theorem w_4_208 : (Cond.selects RX11 yX11_hear yX11_hear) ∈ wsL_law := sk_mem (ck_4 _ (List.mem_of_getElem? (i := 208) rfl)) rfl
theorem w_8_93 : (Cond.methodLink RL 120 yX12_hear) ∈ wsL_law := sk_mem (ck_8 _ (List.mem_of_getElem? (i := 93) rfl)) rfl
theorem w_8_94 : (Cond.instanceMethod yX12_hear) ∈ wsL_law := sk_mem (ck_8 _ (List.mem_of_getElem? (i := 94) rfl)) rfl
theorem w_8_95 : (Cond.selects RX12 yX12_hear yX12_hear) ∈ wsL_law := sk_mem (ck_8 _ (List.mem_of_getElem? (i := 95) rfl)) rfl
set_option maxHeartbeats 4000000 in
set_option maxRecDepth 100000 in
theorem law_24 (l : Launch) (D : va_G) (cI cJ cC cZ cS : ClassId) (zk zv : Nat) (zf : Value) (x0 mm i : Nat) (tl : Nat) (tb : Nat → Nat) (dy : Nat) (L : LkS) (nS : KN) (lg : KLg) (ac : Nat) (su : Nat → KN) (hn : Nat) (hR : Nat → Nat) (sd : Nat) (rf : Nat → Int32) (pn : Nat) (pB : Nat → Nat) (xf : Int32) (xp : Int32) (xw mw : va_W) {p : Program} {e : Env} {s : State} {m : MethodId} {below : List Frame} {meth : Method} {c : Code} {b Ln : Nat} {xs : Nat → Int32} {A : Nat → Prop} {H : Heap} {locs : List Loc} {ls : Array Slot} (E : lwE p s m meth c b Ln xs zk zv zf D (skT cI cJ cC cZ cS) A) (hi6 : i + 6 ≤ Ln) (hk : kOk L dy nS lg ac su hn hR sd) (hI : xI cI cJ cC cZ cS x0 tl tb dy L nS lg ac su hn hR sd rf pn pB xf xp xw) (hJ : mI cI cJ cC cZ cS mm tl tb dy L nS lg ac su hn hR sd rf pn pB xf xp mw) (hP : va_P D vwCl (xw ++ mw) H) (hD : va_D A (xw ++ mw)) (hS : va_S A s.heap H locs) (hl : lv_has ls 4 [(3, .int (nI i)), (2, .ref mm), (1, .ref x0), (0, .ref b)]) (K : ∀ (tl : Nat) (tb : Nat → Nat) (dy : Nat) (L : LkS) (nS : KN) (lg : KLg) (ac : Nat) (su : Nat → KN) (hn : Nat) (hR : Nat → Nat) (sd : Nat) (rf : Nat → Int32) (pn : Nat) (pB : Nat → Nat) (xf : Int32) (xp : Int32) (xw mw : va_W) (H : Heap) (locs : List Loc) (ls : Array Slot), kOk L dy nS lg ac su hn hR sd → xI cI cJ cC cZ cS x0 tl tb dy L nS lg ac su hn hR sd rf pn pB xf xp xw → mI cI cJ cC cZ cS mm tl tb dy L nS lg ac su hn hR sd rf pn pB xf xp mw → va_P D vwCl (xw ++ mw) H → va_D A (xw ++ mw) → va_S A s.heap H locs → lv_has ls 4 [(3, .int (nI i)), (2, .ref mm), (1, .ref x0), (0, .ref b)] → W p l e room_1 s m #[Value.ref b] below meth c H locs 182 32192 (lw_Z below #[Value.ref b] s) (F0 m 1171 ls [])) : W p l e room_1 s m #[Value.ref b] below meth c H locs 182 32192 (lw_Z below #[Value.ref b] s) (F0 m 856 ls []) := by
  obtain ⟨hx, hb, hr, hml, hlocks, hown, hts, hX, hbl, hA, hbA, hAf, hK, hZ, hL⟩ := id E
  refine lv_aload_n hx hb dL_law_856 rfl (lv_at hl 2 rfl) ?_
  obtain ⟨_, hdx⟩ := xI_head hI
  refine sk_Vi (q0 := 0) (n := 0) (rest := []) (wr := mw) ⟨hx, hb, hml, hown, hts⟩ hl.1 (xc_hear l D cI cJ cC cZ cS x0 tl tb dy L nS lg ac su hn hR sd rf pn pB xf xp xw hk hI) w_4_206 w_4_207 w_4_208 w_1_1 w_4_209 (by decide +kernel) ⟨⟨(Nat.le_of_ble_eq_true rfl), (Nat.le_of_ble_eq_true rfl)⟩, (Nat.le_of_ble_eq_true rfl), (Nat.le_of_ble_eq_true rfl)⟩ hK hP hD hS hA (idx 0 xw) (idx xw.length mw) (idx_C xw mw) (idx_R xw mw) (idx_nd 0 xw) (idx_nd _ mw) (idx_dis xw mw) hdx rfl rfl rfl (Nat.le_of_ble_eq_true rfl) dL_law_857 (fun rx ux H locs hw hP hD hS => ?_)
  obtain ⟨hnx, hRx, rfx, hI2, hkx⟩ := hw
  have hP : va_P D vwCl (mw ++ ux) H := hP
  refine lv_pop hx hb dL_law_860 rfl ?_
  refine lv_aload_n hx hb dL_law_861 rfl (lv_at hl 1 rfl) ?_
  obtain ⟨_, hdm⟩ := mI_head hJ
  refine sk_Vi (q0 := 0) (n := 0) (rest := []) (wr := ux) ⟨hx, hb, hml, hown, hts⟩ hl.1 (mc_hear l D cI cJ cC cZ cS mm tl tb dy L nS lg ac su hn hR sd rf pn pB xf xp mw hk hJ) w_8_93 w_8_94 w_8_95 w_1_14 w_8_96 (by decide +kernel) ⟨⟨(Nat.le_of_ble_eq_true rfl), (Nat.le_of_ble_eq_true rfl)⟩, (Nat.le_of_ble_eq_true rfl), (Nat.le_of_ble_eq_true rfl)⟩ hK hP hD hS hA (idx 0 mw) (idx mw.length ux) (idx_C mw ux) (idx_R mw ux) (idx_nd 0 mw) (idx_nd _ ux) (idx_dis mw ux) hdm rfl rfl rfl (Nat.le_of_ble_eq_true rfl) dL_law_862 (fun rm um H locs hw hP hD hS => ?_)
  obtain ⟨hnm, hRm, rfm, hJ2, hkm⟩ := hw
  obtain ⟨hre, rfl, rfl, rfl⟩ := hearR_eq hkx hkm
  have hk2 := kOk_h hk (hearR_ok hkx hk.2.2.1 hk.2.2.2.2.2.2.1 hk.2.2.2.2.2.2.2.1)
  refine lv_pop hx hb dL_law_865 rfl ?_
  refine lv_goto (tgt := 1171) hx hb dL_law_866 (by decide) ?_
  exact K _ _ _ _ _ _ _ _ _ _ _ _ _ _ _ _ _ _ _ _ _ hk2 hI2 hJ2 hP hD hS hl
theorem dg_L_law_869_869 : bqL cL_law 869 [(0, [43]), (1, [182, 0, 121]), (4, [88]), (5, [44]), (6, [182, 0, 124]), (9, [88]), (10, [167, 1, 36])] = true := by decide +kernel
theorem dL_law_869 : decode cL_law 869 = .ok (.aload_n 1, 1) := q_aload_n1 (bat_get dg_L_law_869_869 0 rfl rfl)
theorem dL_law_870 : decode cL_law 870 = .ok (.invokevirtual 121, 3) := q_invokevirtual (bat_get dg_L_law_869_869 1 rfl rfl) rfl
theorem dL_law_873 : decode cL_law 873 = .ok (.pop2, 1) := q_pop2 (bat_get dg_L_law_869_869 2 rfl rfl)
theorem dL_law_874 : decode cL_law 874 = .ok (.aload_n 2, 1) := q_aload_n2 (bat_get dg_L_law_869_869 3 rfl rfl)
theorem dL_law_875 : decode cL_law 875 = .ok (.invokevirtual 124, 3) := q_invokevirtual (bat_get dg_L_law_869_869 4 rfl rfl) rfl
theorem dL_law_878 : decode cL_law 878 = .ok (.pop2, 1) := q_pop2 (bat_get dg_L_law_869_869 5 rfl rfl)
theorem dL_law_879 : decode cL_law 879 = .ok (.goto 292, 3) := q_goto (bat_get dg_L_law_869_869 6 rfl rfl) rfl
theorem w_4_218 : (Cond.methodLink RL 121 yX11_heard) ∈ wsL_law := sk_mem (ck_4 _ (List.mem_of_getElem? (i := 218) rfl)) rfl
theorem w_4_219 : (Cond.instanceMethod yX11_heard) ∈ wsL_law := sk_mem (ck_4 _ (List.mem_of_getElem? (i := 219) rfl)) rfl
theorem w_4_220 : (Cond.selects RX11 yX11_heard yX11_heard) ∈ wsL_law := sk_mem (ck_4 _ (List.mem_of_getElem? (i := 220) rfl)) rfl
theorem w_8_101 : (Cond.methodLink RL 124 yX12_heard) ∈ wsL_law := sk_mem (ck_8 _ (List.mem_of_getElem? (i := 101) rfl)) rfl
theorem w_8_102 : (Cond.instanceMethod yX12_heard) ∈ wsL_law := sk_mem (ck_8 _ (List.mem_of_getElem? (i := 102) rfl)) rfl
theorem w_8_103 : (Cond.selects RX12 yX12_heard yX12_heard) ∈ wsL_law := sk_mem (ck_8 _ (List.mem_of_getElem? (i := 103) rfl)) rfl
set_option maxHeartbeats 4000000 in
set_option maxRecDepth 100000 in
theorem law_25 (l : Launch) (D : va_G) (cI cJ cC cZ cS : ClassId) (zk zv : Nat) (zf : Value) (x0 mm i : Nat) (tl : Nat) (tb : Nat → Nat) (dy : Nat) (L : LkS) (nS : KN) (lg : KLg) (ac : Nat) (su : Nat → KN) (hn : Nat) (hR : Nat → Nat) (sd : Nat) (rf : Nat → Int32) (pn : Nat) (pB : Nat → Nat) (xf : Int32) (xp : Int32) (xw mw : va_W) {p : Program} {e : Env} {s : State} {m : MethodId} {below : List Frame} {meth : Method} {c : Code} {b Ln : Nat} {xs : Nat → Int32} {A : Nat → Prop} {H : Heap} {locs : List Loc} {ls : Array Slot} (E : lwE p s m meth c b Ln xs zk zv zf D (skT cI cJ cC cZ cS) A) (hi6 : i + 6 ≤ Ln) (hk : kOk L dy nS lg ac su hn hR sd) (hI : xI cI cJ cC cZ cS x0 tl tb dy L nS lg ac su hn hR sd rf pn pB xf xp xw) (hJ : mI cI cJ cC cZ cS mm tl tb dy L nS lg ac su hn hR sd rf pn pB xf xp mw) (hP : va_P D vwCl (xw ++ mw) H) (hD : va_D A (xw ++ mw)) (hS : va_S A s.heap H locs) (hl : lv_has ls 4 [(3, .int (nI i)), (2, .ref mm), (1, .ref x0), (0, .ref b)]) (K : ∀ (tl : Nat) (tb : Nat → Nat) (dy : Nat) (L : LkS) (nS : KN) (lg : KLg) (ac : Nat) (su : Nat → KN) (hn : Nat) (hR : Nat → Nat) (sd : Nat) (rf : Nat → Int32) (pn : Nat) (pB : Nat → Nat) (xf : Int32) (xp : Int32) (xw mw : va_W) (H : Heap) (locs : List Loc) (ls : Array Slot), kOk L dy nS lg ac su hn hR sd → xI cI cJ cC cZ cS x0 tl tb dy L nS lg ac su hn hR sd rf pn pB xf xp xw → mI cI cJ cC cZ cS mm tl tb dy L nS lg ac su hn hR sd rf pn pB xf xp mw → va_P D vwCl (xw ++ mw) H → va_D A (xw ++ mw) → va_S A s.heap H locs → lv_has ls 4 [(3, .int (nI i)), (2, .ref mm), (1, .ref x0), (0, .ref b)] → W p l e room_1 s m #[Value.ref b] below meth c H locs 182 32192 (lw_Z below #[Value.ref b] s) (F0 m 1171 ls [])) : W p l e room_1 s m #[Value.ref b] below meth c H locs 182 32192 (lw_Z below #[Value.ref b] s) (F0 m 869 ls []) := by
  obtain ⟨hx, hb, hr, hml, hlocks, hown, hts, hX, hbl, hA, hbA, hAf, hK, hZ, hL⟩ := id E
  refine lv_aload_n hx hb dL_law_869 rfl (lv_at hl 2 rfl) ?_
  obtain ⟨_, hdx⟩ := xI_head hI
  refine sk_Vl (q0 := 0) (n := 0) (rest := []) (wr := mw) ⟨hx, hb, hml, hown, hts⟩ hl.1 (xc_heard l D cI cJ cC cZ cS x0 tl tb dy L nS lg ac su hn hR sd rf pn pB xf xp xw hk hI) w_4_218 w_4_219 w_4_220 w_1_1 w_4_221 (by decide +kernel) ⟨⟨(Nat.le_of_ble_eq_true rfl), (Nat.le_of_ble_eq_true rfl)⟩, (Nat.le_of_ble_eq_true rfl), (Nat.le_of_ble_eq_true rfl)⟩ hK hP hD hS hA (idx 0 xw) (idx xw.length mw) (idx_C xw mw) (idx_R xw mw) (idx_nd 0 xw) (idx_nd _ mw) (idx_dis xw mw) hdx rfl rfl rfl (Nat.le_of_ble_eq_true rfl) dL_law_870 (fun rx ux H locs hw hP hD hS => ?_)
  have hI2 := hw
  have hP : va_P D vwCl (mw ++ ux) H := hP
  refine lv_pop2_2 hx hb dL_law_873 rfl ?_
  refine lv_aload_n hx hb dL_law_874 rfl (lv_at hl 1 rfl) ?_
  obtain ⟨_, hdm⟩ := mI_head hJ
  refine sk_Vl (q0 := 0) (n := 0) (rest := []) (wr := ux) ⟨hx, hb, hml, hown, hts⟩ hl.1 (mc_heard l D cI cJ cC cZ cS mm tl tb dy L nS lg ac su hn hR sd rf pn pB xf xp mw hk hJ) w_8_101 w_8_102 w_8_103 w_1_14 w_8_104 (by decide +kernel) ⟨⟨(Nat.le_of_ble_eq_true rfl), (Nat.le_of_ble_eq_true rfl)⟩, (Nat.le_of_ble_eq_true rfl), (Nat.le_of_ble_eq_true rfl)⟩ hK hP hD hS hA (idx 0 mw) (idx mw.length ux) (idx_C mw ux) (idx_R mw ux) (idx_nd 0 mw) (idx_nd _ ux) (idx_dis mw ux) hdm rfl rfl rfl (Nat.le_of_ble_eq_true rfl) dL_law_875 (fun rm um H locs hw hP hD hS => ?_)
  have hJ2 := hw
  have hk2 := hk
  refine lv_pop2_2 hx hb dL_law_878 rfl ?_
  refine lv_goto (tgt := 1171) hx hb dL_law_879 (by decide) ?_
  exact K _ _ _ _ _ _ _ _ _ _ _ _ _ _ _ _ _ _ _ _ _ hk2 hI2 hJ2 hP hD hS hl
theorem dg_L_law_882_882 : bqL cL_law 882 [(0, [43]), (1, [42]), (2, [29]), (3, [4]), (4, [96]), (5, [46]), (6, [182, 0, 125]), (9, [88]), (10, [44]), (11, [42]), (12, [29]), (13, [4]), (14, [96]), (15, [46]), (16, [182, 0, 129]), (19, [88]), (20, [167, 1, 13])] = true := by decide +kernel
theorem dL_law_882 : decode cL_law 882 = .ok (.aload_n 1, 1) := q_aload_n1 (bat_get dg_L_law_882_882 0 rfl rfl)
theorem dL_law_883 : decode cL_law 883 = .ok (.aload_n 0, 1) := q_aload_n0 (bat_get dg_L_law_882_882 1 rfl rfl)
theorem dL_law_884 : decode cL_law 884 = .ok (.iload_n 3, 1) := q_iload_n3 (bat_get dg_L_law_882_882 2 rfl rfl)
theorem dL_law_885 : decode cL_law 885 = .ok (.iconst 1, 1) := q_iconst1 (bat_get dg_L_law_882_882 3 rfl rfl)
theorem dL_law_886 : decode cL_law 886 = .ok (.iadd, 1) := q_iadd (bat_get dg_L_law_882_882 4 rfl rfl)
theorem dL_law_887 : decode cL_law 887 = .ok (.iaload, 1) := q_iaload (bat_get dg_L_law_882_882 5 rfl rfl)
theorem dL_law_888 : decode cL_law 888 = .ok (.invokevirtual 125, 3) := q_invokevirtual (bat_get dg_L_law_882_882 6 rfl rfl) rfl
theorem dL_law_891 : decode cL_law 891 = .ok (.pop2, 1) := q_pop2 (bat_get dg_L_law_882_882 7 rfl rfl)
theorem dL_law_892 : decode cL_law 892 = .ok (.aload_n 2, 1) := q_aload_n2 (bat_get dg_L_law_882_882 8 rfl rfl)
theorem dL_law_893 : decode cL_law 893 = .ok (.aload_n 0, 1) := q_aload_n0 (bat_get dg_L_law_882_882 9 rfl rfl)
theorem dL_law_894 : decode cL_law 894 = .ok (.iload_n 3, 1) := q_iload_n3 (bat_get dg_L_law_882_882 10 rfl rfl)
theorem dL_law_895 : decode cL_law 895 = .ok (.iconst 1, 1) := q_iconst1 (bat_get dg_L_law_882_882 11 rfl rfl)
theorem dL_law_896 : decode cL_law 896 = .ok (.iadd, 1) := q_iadd (bat_get dg_L_law_882_882 12 rfl rfl)
theorem dL_law_897 : decode cL_law 897 = .ok (.iaload, 1) := q_iaload (bat_get dg_L_law_882_882 13 rfl rfl)
theorem dL_law_898 : decode cL_law 898 = .ok (.invokevirtual 129, 3) := q_invokevirtual (bat_get dg_L_law_882_882 14 rfl rfl) rfl
theorem dL_law_901 : decode cL_law 901 = .ok (.pop2, 1) := q_pop2 (bat_get dg_L_law_882_882 15 rfl rfl)
theorem dL_law_902 : decode cL_law 902 = .ok (.goto 269, 3) := q_goto (bat_get dg_L_law_882_882 16 rfl rfl) rfl
theorem w_4_226 : (Cond.methodLink RL 125 yX11_tells) ∈ wsL_law := sk_mem (ck_4 _ (List.mem_of_getElem? (i := 226) rfl)) rfl
theorem w_4_227 : (Cond.instanceMethod yX11_tells) ∈ wsL_law := sk_mem (ck_4 _ (List.mem_of_getElem? (i := 227) rfl)) rfl
theorem w_4_228 : (Cond.selects RX11 yX11_tells yX11_tells) ∈ wsL_law := sk_mem (ck_4 _ (List.mem_of_getElem? (i := 228) rfl)) rfl
theorem w_8_109 : (Cond.methodLink RL 129 yX12_tells) ∈ wsL_law := sk_mem (ck_8 _ (List.mem_of_getElem? (i := 109) rfl)) rfl
theorem w_8_110 : (Cond.instanceMethod yX12_tells) ∈ wsL_law := sk_mem (ck_8 _ (List.mem_of_getElem? (i := 110) rfl)) rfl
theorem w_8_111 : (Cond.selects RX12 yX12_tells yX12_tells) ∈ wsL_law := sk_mem (ck_8 _ (List.mem_of_getElem? (i := 111) rfl)) rfl
set_option maxHeartbeats 4000000 in
set_option maxRecDepth 100000 in
theorem law_26 (l : Launch) (D : va_G) (cI cJ cC cZ cS : ClassId) (zk zv : Nat) (zf : Value) (x0 mm i : Nat) (tl : Nat) (tb : Nat → Nat) (dy : Nat) (L : LkS) (nS : KN) (lg : KLg) (ac : Nat) (su : Nat → KN) (hn : Nat) (hR : Nat → Nat) (sd : Nat) (rf : Nat → Int32) (pn : Nat) (pB : Nat → Nat) (xf : Int32) (xp : Int32) (xw mw : va_W) {p : Program} {e : Env} {s : State} {m : MethodId} {below : List Frame} {meth : Method} {c : Code} {b Ln : Nat} {xs : Nat → Int32} {A : Nat → Prop} {H : Heap} {locs : List Loc} {ls : Array Slot} (E : lwE p s m meth c b Ln xs zk zv zf D (skT cI cJ cC cZ cS) A) (hi6 : i + 6 ≤ Ln) (hk : kOk L dy nS lg ac su hn hR sd) (hI : xI cI cJ cC cZ cS x0 tl tb dy L nS lg ac su hn hR sd rf pn pB xf xp xw) (hJ : mI cI cJ cC cZ cS mm tl tb dy L nS lg ac su hn hR sd rf pn pB xf xp mw) (hP : va_P D vwCl (xw ++ mw) H) (hD : va_D A (xw ++ mw)) (hS : va_S A s.heap H locs) (hl : lv_has ls 4 [(3, .int (nI i)), (2, .ref mm), (1, .ref x0), (0, .ref b)]) (K : ∀ (tl : Nat) (tb : Nat → Nat) (dy : Nat) (L : LkS) (nS : KN) (lg : KLg) (ac : Nat) (su : Nat → KN) (hn : Nat) (hR : Nat → Nat) (sd : Nat) (rf : Nat → Int32) (pn : Nat) (pB : Nat → Nat) (xf : Int32) (xp : Int32) (xw mw : va_W) (H : Heap) (locs : List Loc) (ls : Array Slot), kOk L dy nS lg ac su hn hR sd → xI cI cJ cC cZ cS x0 tl tb dy L nS lg ac su hn hR sd rf pn pB xf xp xw → mI cI cJ cC cZ cS mm tl tb dy L nS lg ac su hn hR sd rf pn pB xf xp mw → va_P D vwCl (xw ++ mw) H → va_D A (xw ++ mw) → va_S A s.heap H locs → lv_has ls 4 [(3, .int (nI i)), (2, .ref mm), (1, .ref x0), (0, .ref b)] → W p l e room_1 s m #[Value.ref b] below meth c H locs 182 32192 (lw_Z below #[Value.ref b] s) (F0 m 1171 ls [])) : W p l e room_1 s m #[Value.ref b] below meth c H locs 182 32192 (lw_Z below #[Value.ref b] s) (F0 m 882 ls []) := by
  obtain ⟨hx, hb, hr, hml, hlocks, hown, hts, hX, hbl, hA, hbA, hAf, hK, hZ, hL⟩ := id E
  refine lv_aload_n hx hb dL_law_882 rfl (lv_at hl 2 rfl) ?_
  refine lv_aload_n hx hb dL_law_883 rfl (lv_at hl 3 rfl) ?_
  refine lv_iload_n hx hb dL_law_884 rfl (lv_at hl 0 rfl) ?_
  refine lv_iconst (v := 1) hx hb dL_law_885 ic_1 ?_
  refine lv_iadd hx hb dL_law_886 ?_
  refine sk_top (nI (i + 1)) (nI_add i 1) ?_
  refine va_sld hx hb hX hbl hbA hS (vin (i + 1) Ln (by omega) (by omega)) dL_law_887 ?_
  obtain ⟨_, hdx⟩ := xI_head hI
  refine sk_Vl (q0 := 0) (n := 1) (rest := []) (wr := mw) ⟨hx, hb, hml, hown, hts⟩ hl.1 (xc_tells l D cI cJ cC cZ cS x0 tl tb dy L nS lg ac su hn hR sd rf pn pB xf xp xw (xs (nI (i + 1)).toNatClampNeg) hk hI) w_4_226 w_4_227 w_4_228 w_1_1 w_4_229 (by decide +kernel) ⟨⟨(Nat.le_of_ble_eq_true rfl), (Nat.le_of_ble_eq_true rfl)⟩, (Nat.le_of_ble_eq_true rfl), (Nat.le_of_ble_eq_true rfl)⟩ hK hP hD hS hA (idx 0 xw) (idx xw.length mw) (idx_C xw mw) (idx_R xw mw) (idx_nd 0 xw) (idx_nd _ mw) (idx_dis xw mw) hdx rfl rfl rfl (Nat.le_of_ble_eq_true rfl) dL_law_888 (fun rx ux H locs hw hP hD hS => ?_)
  have hI2 := hw
  have hP : va_P D vwCl (mw ++ ux) H := hP
  refine lv_pop2_2 hx hb dL_law_891 rfl ?_
  refine lv_aload_n hx hb dL_law_892 rfl (lv_at hl 1 rfl) ?_
  refine lv_aload_n hx hb dL_law_893 rfl (lv_at hl 3 rfl) ?_
  refine lv_iload_n hx hb dL_law_894 rfl (lv_at hl 0 rfl) ?_
  refine lv_iconst (v := 1) hx hb dL_law_895 ic_1 ?_
  refine lv_iadd hx hb dL_law_896 ?_
  refine sk_top (nI (i + 1)) (nI_add i 1) ?_
  refine va_sld hx hb hX hbl hbA hS (vin (i + 1) Ln (by omega) (by omega)) dL_law_897 ?_
  obtain ⟨_, hdm⟩ := mI_head hJ
  refine sk_Vl (q0 := 0) (n := 1) (rest := []) (wr := ux) ⟨hx, hb, hml, hown, hts⟩ hl.1 (mc_tells l D cI cJ cC cZ cS mm tl tb dy L nS lg ac su hn hR sd rf pn pB xf xp mw (xs (nI (i + 1)).toNatClampNeg) hk hJ) w_8_109 w_8_110 w_8_111 w_1_14 w_8_112 (by decide +kernel) ⟨⟨(Nat.le_of_ble_eq_true rfl), (Nat.le_of_ble_eq_true rfl)⟩, (Nat.le_of_ble_eq_true rfl), (Nat.le_of_ble_eq_true rfl)⟩ hK hP hD hS hA (idx 0 mw) (idx mw.length ux) (idx_C mw ux) (idx_R mw ux) (idx_nd 0 mw) (idx_nd _ ux) (idx_dis mw ux) hdm rfl rfl rfl (Nat.le_of_ble_eq_true rfl) dL_law_898 (fun rm um H locs hw hP hD hS => ?_)
  have hJ2 := hw
  have hk2 := hk
  refine lv_pop2_2 hx hb dL_law_901 rfl ?_
  refine lv_goto (tgt := 1171) hx hb dL_law_902 (by decide) ?_
  exact K _ _ _ _ _ _ _ _ _ _ _ _ _ _ _ _ _ _ _ _ _ hk2 hI2 hJ2 hP hD hS hl
theorem dg_L_law_905_905 : bqL cL_law 905 [(0, [43]), (1, [42]), (2, [29]), (3, [4]), (4, [96]), (5, [46]), (6, [42]), (7, [29]), (8, [5]), (9, [96]), (10, [46]), (11, [182, 0, 130]), (14, [87]), (15, [44]), (16, [42]), (17, [29]), (18, [4]), (19, [96]), (20, [46]), (21, [42]), (22, [29]), (23, [5]), (24, [96]), (25, [46]), (26, [182, 0, 133]), (29, [87]), (30, [167, 0, 236])] = true := by decide +kernel
theorem dL_law_905 : decode cL_law 905 = .ok (.aload_n 1, 1) := q_aload_n1 (bat_get dg_L_law_905_905 0 rfl rfl)
theorem dL_law_906 : decode cL_law 906 = .ok (.aload_n 0, 1) := q_aload_n0 (bat_get dg_L_law_905_905 1 rfl rfl)
theorem dL_law_907 : decode cL_law 907 = .ok (.iload_n 3, 1) := q_iload_n3 (bat_get dg_L_law_905_905 2 rfl rfl)
theorem dL_law_908 : decode cL_law 908 = .ok (.iconst 1, 1) := q_iconst1 (bat_get dg_L_law_905_905 3 rfl rfl)
theorem dL_law_909 : decode cL_law 909 = .ok (.iadd, 1) := q_iadd (bat_get dg_L_law_905_905 4 rfl rfl)
theorem dL_law_910 : decode cL_law 910 = .ok (.iaload, 1) := q_iaload (bat_get dg_L_law_905_905 5 rfl rfl)
theorem dL_law_911 : decode cL_law 911 = .ok (.aload_n 0, 1) := q_aload_n0 (bat_get dg_L_law_905_905 6 rfl rfl)
theorem dL_law_912 : decode cL_law 912 = .ok (.iload_n 3, 1) := q_iload_n3 (bat_get dg_L_law_905_905 7 rfl rfl)
theorem dL_law_913 : decode cL_law 913 = .ok (.iconst 2, 1) := q_iconst2 (bat_get dg_L_law_905_905 8 rfl rfl)
theorem dL_law_914 : decode cL_law 914 = .ok (.iadd, 1) := q_iadd (bat_get dg_L_law_905_905 9 rfl rfl)
theorem dL_law_915 : decode cL_law 915 = .ok (.iaload, 1) := q_iaload (bat_get dg_L_law_905_905 10 rfl rfl)
theorem dL_law_916 : decode cL_law 916 = .ok (.invokevirtual 130, 3) := q_invokevirtual (bat_get dg_L_law_905_905 11 rfl rfl) rfl
theorem dL_law_919 : decode cL_law 919 = .ok (.pop, 1) := q_pop (bat_get dg_L_law_905_905 12 rfl rfl)
theorem dL_law_920 : decode cL_law 920 = .ok (.aload_n 2, 1) := q_aload_n2 (bat_get dg_L_law_905_905 13 rfl rfl)
theorem dL_law_921 : decode cL_law 921 = .ok (.aload_n 0, 1) := q_aload_n0 (bat_get dg_L_law_905_905 14 rfl rfl)
theorem dL_law_922 : decode cL_law 922 = .ok (.iload_n 3, 1) := q_iload_n3 (bat_get dg_L_law_905_905 15 rfl rfl)
theorem dL_law_923 : decode cL_law 923 = .ok (.iconst 1, 1) := q_iconst1 (bat_get dg_L_law_905_905 16 rfl rfl)
theorem dL_law_924 : decode cL_law 924 = .ok (.iadd, 1) := q_iadd (bat_get dg_L_law_905_905 17 rfl rfl)
theorem dL_law_925 : decode cL_law 925 = .ok (.iaload, 1) := q_iaload (bat_get dg_L_law_905_905 18 rfl rfl)
theorem dL_law_926 : decode cL_law 926 = .ok (.aload_n 0, 1) := q_aload_n0 (bat_get dg_L_law_905_905 19 rfl rfl)
theorem dL_law_927 : decode cL_law 927 = .ok (.iload_n 3, 1) := q_iload_n3 (bat_get dg_L_law_905_905 20 rfl rfl)
theorem dL_law_928 : decode cL_law 928 = .ok (.iconst 2, 1) := q_iconst2 (bat_get dg_L_law_905_905 21 rfl rfl)
theorem dL_law_929 : decode cL_law 929 = .ok (.iadd, 1) := q_iadd (bat_get dg_L_law_905_905 22 rfl rfl)
theorem dL_law_930 : decode cL_law 930 = .ok (.iaload, 1) := q_iaload (bat_get dg_L_law_905_905 23 rfl rfl)
theorem dL_law_931 : decode cL_law 931 = .ok (.invokevirtual 133, 3) := q_invokevirtual (bat_get dg_L_law_905_905 24 rfl rfl) rfl
theorem dL_law_934 : decode cL_law 934 = .ok (.pop, 1) := q_pop (bat_get dg_L_law_905_905 25 rfl rfl)
theorem dL_law_935 : decode cL_law 935 = .ok (.goto 236, 3) := q_goto (bat_get dg_L_law_905_905 26 rfl rfl) rfl
theorem w_4_235 : (Cond.methodLink RL 130 yX11_same) ∈ wsL_law := sk_mem (ck_4 _ (List.mem_of_getElem? (i := 235) rfl)) rfl
theorem w_4_236 : (Cond.instanceMethod yX11_same) ∈ wsL_law := sk_mem (ck_4 _ (List.mem_of_getElem? (i := 236) rfl)) rfl
theorem w_4_237 : (Cond.selects RX11 yX11_same yX11_same) ∈ wsL_law := sk_mem (ck_4 _ (List.mem_of_getElem? (i := 237) rfl)) rfl
theorem w_8_113 : (Cond.methodLink RL 133 yX12_same) ∈ wsL_law := sk_mem (ck_8 _ (List.mem_of_getElem? (i := 113) rfl)) rfl
theorem w_8_114 : (Cond.instanceMethod yX12_same) ∈ wsL_law := sk_mem (ck_8 _ (List.mem_of_getElem? (i := 114) rfl)) rfl
theorem w_8_115 : (Cond.selects RX12 yX12_same yX12_same) ∈ wsL_law := sk_mem (ck_8 _ (List.mem_of_getElem? (i := 115) rfl)) rfl
set_option maxHeartbeats 4000000 in
set_option maxRecDepth 100000 in
theorem law_27 (l : Launch) (D : va_G) (cI cJ cC cZ cS : ClassId) (zk zv : Nat) (zf : Value) (x0 mm i : Nat) (tl : Nat) (tb : Nat → Nat) (dy : Nat) (L : LkS) (nS : KN) (lg : KLg) (ac : Nat) (su : Nat → KN) (hn : Nat) (hR : Nat → Nat) (sd : Nat) (rf : Nat → Int32) (pn : Nat) (pB : Nat → Nat) (xf : Int32) (xp : Int32) (xw mw : va_W) {p : Program} {e : Env} {s : State} {m : MethodId} {below : List Frame} {meth : Method} {c : Code} {b Ln : Nat} {xs : Nat → Int32} {A : Nat → Prop} {H : Heap} {locs : List Loc} {ls : Array Slot} (E : lwE p s m meth c b Ln xs zk zv zf D (skT cI cJ cC cZ cS) A) (hi6 : i + 6 ≤ Ln) (hk : kOk L dy nS lg ac su hn hR sd) (hI : xI cI cJ cC cZ cS x0 tl tb dy L nS lg ac su hn hR sd rf pn pB xf xp xw) (hJ : mI cI cJ cC cZ cS mm tl tb dy L nS lg ac su hn hR sd rf pn pB xf xp mw) (hP : va_P D vwCl (xw ++ mw) H) (hD : va_D A (xw ++ mw)) (hS : va_S A s.heap H locs) (hl : lv_has ls 4 [(3, .int (nI i)), (2, .ref mm), (1, .ref x0), (0, .ref b)]) (K : ∀ (tl : Nat) (tb : Nat → Nat) (dy : Nat) (L : LkS) (nS : KN) (lg : KLg) (ac : Nat) (su : Nat → KN) (hn : Nat) (hR : Nat → Nat) (sd : Nat) (rf : Nat → Int32) (pn : Nat) (pB : Nat → Nat) (xf : Int32) (xp : Int32) (xw mw : va_W) (H : Heap) (locs : List Loc) (ls : Array Slot), kOk L dy nS lg ac su hn hR sd → xI cI cJ cC cZ cS x0 tl tb dy L nS lg ac su hn hR sd rf pn pB xf xp xw → mI cI cJ cC cZ cS mm tl tb dy L nS lg ac su hn hR sd rf pn pB xf xp mw → va_P D vwCl (xw ++ mw) H → va_D A (xw ++ mw) → va_S A s.heap H locs → lv_has ls 4 [(3, .int (nI i)), (2, .ref mm), (1, .ref x0), (0, .ref b)] → W p l e room_1 s m #[Value.ref b] below meth c H locs 182 32192 (lw_Z below #[Value.ref b] s) (F0 m 1171 ls [])) : W p l e room_1 s m #[Value.ref b] below meth c H locs 182 32192 (lw_Z below #[Value.ref b] s) (F0 m 905 ls []) := by
  obtain ⟨hx, hb, hr, hml, hlocks, hown, hts, hX, hbl, hA, hbA, hAf, hK, hZ, hL⟩ := id E
  refine lv_aload_n hx hb dL_law_905 rfl (lv_at hl 2 rfl) ?_
  refine lv_aload_n hx hb dL_law_906 rfl (lv_at hl 3 rfl) ?_
  refine lv_iload_n hx hb dL_law_907 rfl (lv_at hl 0 rfl) ?_
  refine lv_iconst (v := 1) hx hb dL_law_908 ic_1 ?_
  refine lv_iadd hx hb dL_law_909 ?_
  refine sk_top (nI (i + 1)) (nI_add i 1) ?_
  refine va_sld hx hb hX hbl hbA hS (vin (i + 1) Ln (by omega) (by omega)) dL_law_910 ?_
  refine lv_aload_n hx hb dL_law_911 rfl (lv_at hl 3 rfl) ?_
  refine lv_iload_n hx hb dL_law_912 rfl (lv_at hl 0 rfl) ?_
  refine lv_iconst (v := 2) hx hb dL_law_913 ic_2 ?_
  refine lv_iadd hx hb dL_law_914 ?_
  refine sk_top (nI (i + 2)) (nI_add i 2) ?_
  refine va_sld hx hb hX hbl hbA hS (vin (i + 2) Ln (by omega) (by omega)) dL_law_915 ?_
  obtain ⟨_, hdx⟩ := xI_head hI
  refine sk_Vi (q0 := 0) (n := 2) (rest := []) (wr := mw) ⟨hx, hb, hml, hown, hts⟩ hl.1 (xc_same l D cI cJ cC cZ cS x0 tl tb dy L nS lg ac su hn hR sd rf pn pB xf xp xw (xs (nI (i + 1)).toNatClampNeg) (xs (nI (i + 2)).toNatClampNeg) hk hI) w_4_235 w_4_236 w_4_237 w_1_1 w_4_238 (by decide +kernel) ⟨⟨(Nat.le_of_ble_eq_true rfl), (Nat.le_of_ble_eq_true rfl)⟩, (Nat.le_of_ble_eq_true rfl), (Nat.le_of_ble_eq_true rfl)⟩ hK hP hD hS hA (idx 0 xw) (idx xw.length mw) (idx_C xw mw) (idx_R xw mw) (idx_nd 0 xw) (idx_nd _ mw) (idx_dis xw mw) hdx rfl rfl rfl (Nat.le_of_ble_eq_true rfl) dL_law_916 (fun rx ux H locs hw hP hD hS => ?_)
  obtain ⟨hI2, hkx⟩ := hw
  have hP : va_P D vwCl (mw ++ ux) H := hP
  refine lv_pop hx hb dL_law_919 rfl ?_
  refine lv_aload_n hx hb dL_law_920 rfl (lv_at hl 1 rfl) ?_
  refine lv_aload_n hx hb dL_law_921 rfl (lv_at hl 3 rfl) ?_
  refine lv_iload_n hx hb dL_law_922 rfl (lv_at hl 0 rfl) ?_
  refine lv_iconst (v := 1) hx hb dL_law_923 ic_1 ?_
  refine lv_iadd hx hb dL_law_924 ?_
  refine sk_top (nI (i + 1)) (nI_add i 1) ?_
  refine va_sld hx hb hX hbl hbA hS (vin (i + 1) Ln (by omega) (by omega)) dL_law_925 ?_
  refine lv_aload_n hx hb dL_law_926 rfl (lv_at hl 3 rfl) ?_
  refine lv_iload_n hx hb dL_law_927 rfl (lv_at hl 0 rfl) ?_
  refine lv_iconst (v := 2) hx hb dL_law_928 ic_2 ?_
  refine lv_iadd hx hb dL_law_929 ?_
  refine sk_top (nI (i + 2)) (nI_add i 2) ?_
  refine va_sld hx hb hX hbl hbA hS (vin (i + 2) Ln (by omega) (by omega)) dL_law_930 ?_
  obtain ⟨_, hdm⟩ := mI_head hJ
  refine sk_Vi (q0 := 0) (n := 2) (rest := []) (wr := ux) ⟨hx, hb, hml, hown, hts⟩ hl.1 (mc_same l D cI cJ cC cZ cS mm tl tb dy L nS lg ac su hn hR sd rf pn pB xf xp mw (xs (nI (i + 1)).toNatClampNeg) (xs (nI (i + 2)).toNatClampNeg) hk hJ) w_8_113 w_8_114 w_8_115 w_1_14 w_8_116 (by decide +kernel) ⟨⟨(Nat.le_of_ble_eq_true rfl), (Nat.le_of_ble_eq_true rfl)⟩, (Nat.le_of_ble_eq_true rfl), (Nat.le_of_ble_eq_true rfl)⟩ hK hP hD hS hA (idx 0 mw) (idx mw.length ux) (idx_C mw ux) (idx_R mw ux) (idx_nd 0 mw) (idx_nd _ ux) (idx_dis mw ux) hdm rfl rfl rfl (Nat.le_of_ble_eq_true rfl) dL_law_931 (fun rm um H locs hw hP hD hS => ?_)
  obtain ⟨hJ2, hkm⟩ := hw
  have hre := same_eq hkx hkm
  have hk2 := hk
  refine lv_pop hx hb dL_law_934 rfl ?_
  refine lv_goto (tgt := 1171) hx hb dL_law_935 (by decide) ?_
  exact K _ _ _ _ _ _ _ _ _ _ _ _ _ _ _ _ _ _ _ _ _ hk2 hI2 hJ2 hP hD hS hl
theorem dg_L_law_938_938 : bqL cL_law 938 [(0, [43]), (1, [42]), (2, [29]), (3, [4]), (4, [96]), (5, [46]), (6, [42]), (7, [29]), (8, [5]), (9, [96]), (10, [46]), (11, [42]), (12, [29]), (13, [6]), (14, [96]), (15, [46]), (16, [182, 0, 134]), (19, [87]), (20, [44]), (21, [42]), (22, [29]), (23, [4]), (24, [96]), (25, [46]), (26, [42]), (27, [29]), (28, [5]), (29, [96]), (30, [46]), (31, [42]), (32, [29]), (33, [6]), (34, [96]), (35, [46]), (36, [182, 0, 138]), (39, [87]), (40, [167, 0, 193])] = true := by decide +kernel
theorem dL_law_938 : decode cL_law 938 = .ok (.aload_n 1, 1) := q_aload_n1 (bat_get dg_L_law_938_938 0 rfl rfl)
theorem dL_law_939 : decode cL_law 939 = .ok (.aload_n 0, 1) := q_aload_n0 (bat_get dg_L_law_938_938 1 rfl rfl)
theorem dL_law_940 : decode cL_law 940 = .ok (.iload_n 3, 1) := q_iload_n3 (bat_get dg_L_law_938_938 2 rfl rfl)
theorem dL_law_941 : decode cL_law 941 = .ok (.iconst 1, 1) := q_iconst1 (bat_get dg_L_law_938_938 3 rfl rfl)
theorem dL_law_942 : decode cL_law 942 = .ok (.iadd, 1) := q_iadd (bat_get dg_L_law_938_938 4 rfl rfl)
theorem dL_law_943 : decode cL_law 943 = .ok (.iaload, 1) := q_iaload (bat_get dg_L_law_938_938 5 rfl rfl)
theorem dL_law_944 : decode cL_law 944 = .ok (.aload_n 0, 1) := q_aload_n0 (bat_get dg_L_law_938_938 6 rfl rfl)
theorem dL_law_945 : decode cL_law 945 = .ok (.iload_n 3, 1) := q_iload_n3 (bat_get dg_L_law_938_938 7 rfl rfl)
theorem dL_law_946 : decode cL_law 946 = .ok (.iconst 2, 1) := q_iconst2 (bat_get dg_L_law_938_938 8 rfl rfl)
theorem dL_law_947 : decode cL_law 947 = .ok (.iadd, 1) := q_iadd (bat_get dg_L_law_938_938 9 rfl rfl)
theorem dL_law_948 : decode cL_law 948 = .ok (.iaload, 1) := q_iaload (bat_get dg_L_law_938_938 10 rfl rfl)
theorem dL_law_949 : decode cL_law 949 = .ok (.aload_n 0, 1) := q_aload_n0 (bat_get dg_L_law_938_938 11 rfl rfl)
theorem dL_law_950 : decode cL_law 950 = .ok (.iload_n 3, 1) := q_iload_n3 (bat_get dg_L_law_938_938 12 rfl rfl)
theorem dL_law_951 : decode cL_law 951 = .ok (.iconst 3, 1) := q_iconst3 (bat_get dg_L_law_938_938 13 rfl rfl)
theorem dL_law_952 : decode cL_law 952 = .ok (.iadd, 1) := q_iadd (bat_get dg_L_law_938_938 14 rfl rfl)
theorem dL_law_953 : decode cL_law 953 = .ok (.iaload, 1) := q_iaload (bat_get dg_L_law_938_938 15 rfl rfl)
theorem dL_law_954 : decode cL_law 954 = .ok (.invokevirtual 134, 3) := q_invokevirtual (bat_get dg_L_law_938_938 16 rfl rfl) rfl
theorem dL_law_957 : decode cL_law 957 = .ok (.pop, 1) := q_pop (bat_get dg_L_law_938_938 17 rfl rfl)
theorem dL_law_958 : decode cL_law 958 = .ok (.aload_n 2, 1) := q_aload_n2 (bat_get dg_L_law_938_938 18 rfl rfl)
theorem dL_law_959 : decode cL_law 959 = .ok (.aload_n 0, 1) := q_aload_n0 (bat_get dg_L_law_938_938 19 rfl rfl)
theorem dL_law_960 : decode cL_law 960 = .ok (.iload_n 3, 1) := q_iload_n3 (bat_get dg_L_law_938_938 20 rfl rfl)
theorem dL_law_961 : decode cL_law 961 = .ok (.iconst 1, 1) := q_iconst1 (bat_get dg_L_law_938_938 21 rfl rfl)
theorem dL_law_962 : decode cL_law 962 = .ok (.iadd, 1) := q_iadd (bat_get dg_L_law_938_938 22 rfl rfl)
theorem dL_law_963 : decode cL_law 963 = .ok (.iaload, 1) := q_iaload (bat_get dg_L_law_938_938 23 rfl rfl)
theorem dL_law_964 : decode cL_law 964 = .ok (.aload_n 0, 1) := q_aload_n0 (bat_get dg_L_law_938_938 24 rfl rfl)
theorem dL_law_965 : decode cL_law 965 = .ok (.iload_n 3, 1) := q_iload_n3 (bat_get dg_L_law_938_938 25 rfl rfl)
theorem dL_law_966 : decode cL_law 966 = .ok (.iconst 2, 1) := q_iconst2 (bat_get dg_L_law_938_938 26 rfl rfl)
theorem dL_law_967 : decode cL_law 967 = .ok (.iadd, 1) := q_iadd (bat_get dg_L_law_938_938 27 rfl rfl)
theorem dL_law_968 : decode cL_law 968 = .ok (.iaload, 1) := q_iaload (bat_get dg_L_law_938_938 28 rfl rfl)
theorem dL_law_969 : decode cL_law 969 = .ok (.aload_n 0, 1) := q_aload_n0 (bat_get dg_L_law_938_938 29 rfl rfl)
theorem dL_law_970 : decode cL_law 970 = .ok (.iload_n 3, 1) := q_iload_n3 (bat_get dg_L_law_938_938 30 rfl rfl)
theorem dL_law_971 : decode cL_law 971 = .ok (.iconst 3, 1) := q_iconst3 (bat_get dg_L_law_938_938 31 rfl rfl)
theorem dL_law_972 : decode cL_law 972 = .ok (.iadd, 1) := q_iadd (bat_get dg_L_law_938_938 32 rfl rfl)
theorem dL_law_973 : decode cL_law 973 = .ok (.iaload, 1) := q_iaload (bat_get dg_L_law_938_938 33 rfl rfl)
theorem dL_law_974 : decode cL_law 974 = .ok (.invokevirtual 138, 3) := q_invokevirtual (bat_get dg_L_law_938_938 34 rfl rfl) rfl
theorem dL_law_977 : decode cL_law 977 = .ok (.pop, 1) := q_pop (bat_get dg_L_law_938_938 35 rfl rfl)
theorem dL_law_978 : decode cL_law 978 = .ok (.goto 193, 3) := q_goto (bat_get dg_L_law_938_938 36 rfl rfl) rfl
theorem w_4_239 : (Cond.methodLink RL 134 yX11_set) ∈ wsL_law := sk_mem (ck_4 _ (List.mem_of_getElem? (i := 239) rfl)) rfl
theorem w_5_0 : (Cond.instanceMethod yX11_set) ∈ wsL_law := sk_mem (ck_5 _ (List.mem_of_getElem? (i := 0) rfl)) rfl
theorem w_5_1 : (Cond.selects RX11 yX11_set yX11_set) ∈ wsL_law := sk_mem (ck_5 _ (List.mem_of_getElem? (i := 1) rfl)) rfl
theorem w_8_122 : (Cond.methodLink RL 138 yX12_set) ∈ wsL_law := sk_mem (ck_8 _ (List.mem_of_getElem? (i := 122) rfl)) rfl
theorem w_8_123 : (Cond.instanceMethod yX12_set) ∈ wsL_law := sk_mem (ck_8 _ (List.mem_of_getElem? (i := 123) rfl)) rfl
theorem w_8_124 : (Cond.selects RX12 yX12_set yX12_set) ∈ wsL_law := sk_mem (ck_8 _ (List.mem_of_getElem? (i := 124) rfl)) rfl
set_option maxHeartbeats 4000000 in
set_option maxRecDepth 100000 in
theorem law_28 (l : Launch) (D : va_G) (cI cJ cC cZ cS : ClassId) (zk zv : Nat) (zf : Value) (x0 mm i : Nat) (tl : Nat) (tb : Nat → Nat) (dy : Nat) (L : LkS) (nS : KN) (lg : KLg) (ac : Nat) (su : Nat → KN) (hn : Nat) (hR : Nat → Nat) (sd : Nat) (rf : Nat → Int32) (pn : Nat) (pB : Nat → Nat) (xf : Int32) (xp : Int32) (xw mw : va_W) {p : Program} {e : Env} {s : State} {m : MethodId} {below : List Frame} {meth : Method} {c : Code} {b Ln : Nat} {xs : Nat → Int32} {A : Nat → Prop} {H : Heap} {locs : List Loc} {ls : Array Slot} (E : lwE p s m meth c b Ln xs zk zv zf D (skT cI cJ cC cZ cS) A) (hi6 : i + 6 ≤ Ln) (hk : kOk L dy nS lg ac su hn hR sd) (hI : xI cI cJ cC cZ cS x0 tl tb dy L nS lg ac su hn hR sd rf pn pB xf xp xw) (hJ : mI cI cJ cC cZ cS mm tl tb dy L nS lg ac su hn hR sd rf pn pB xf xp mw) (hP : va_P D vwCl (xw ++ mw) H) (hD : va_D A (xw ++ mw)) (hS : va_S A s.heap H locs) (hl : lv_has ls 4 [(3, .int (nI i)), (2, .ref mm), (1, .ref x0), (0, .ref b)]) (K : ∀ (tl : Nat) (tb : Nat → Nat) (dy : Nat) (L : LkS) (nS : KN) (lg : KLg) (ac : Nat) (su : Nat → KN) (hn : Nat) (hR : Nat → Nat) (sd : Nat) (rf : Nat → Int32) (pn : Nat) (pB : Nat → Nat) (xf : Int32) (xp : Int32) (xw mw : va_W) (H : Heap) (locs : List Loc) (ls : Array Slot), kOk L dy nS lg ac su hn hR sd → xI cI cJ cC cZ cS x0 tl tb dy L nS lg ac su hn hR sd rf pn pB xf xp xw → mI cI cJ cC cZ cS mm tl tb dy L nS lg ac su hn hR sd rf pn pB xf xp mw → va_P D vwCl (xw ++ mw) H → va_D A (xw ++ mw) → va_S A s.heap H locs → lv_has ls 4 [(3, .int (nI i)), (2, .ref mm), (1, .ref x0), (0, .ref b)] → W p l e room_1 s m #[Value.ref b] below meth c H locs 182 32192 (lw_Z below #[Value.ref b] s) (F0 m 1171 ls [])) : W p l e room_1 s m #[Value.ref b] below meth c H locs 182 32192 (lw_Z below #[Value.ref b] s) (F0 m 938 ls []) := by
  obtain ⟨hx, hb, hr, hml, hlocks, hown, hts, hX, hbl, hA, hbA, hAf, hK, hZ, hL⟩ := id E
  refine lv_aload_n hx hb dL_law_938 rfl (lv_at hl 2 rfl) ?_
  refine lv_aload_n hx hb dL_law_939 rfl (lv_at hl 3 rfl) ?_
  refine lv_iload_n hx hb dL_law_940 rfl (lv_at hl 0 rfl) ?_
  refine lv_iconst (v := 1) hx hb dL_law_941 ic_1 ?_
  refine lv_iadd hx hb dL_law_942 ?_
  refine sk_top (nI (i + 1)) (nI_add i 1) ?_
  refine va_sld hx hb hX hbl hbA hS (vin (i + 1) Ln (by omega) (by omega)) dL_law_943 ?_
  refine lv_aload_n hx hb dL_law_944 rfl (lv_at hl 3 rfl) ?_
  refine lv_iload_n hx hb dL_law_945 rfl (lv_at hl 0 rfl) ?_
  refine lv_iconst (v := 2) hx hb dL_law_946 ic_2 ?_
  refine lv_iadd hx hb dL_law_947 ?_
  refine sk_top (nI (i + 2)) (nI_add i 2) ?_
  refine va_sld hx hb hX hbl hbA hS (vin (i + 2) Ln (by omega) (by omega)) dL_law_948 ?_
  refine lv_aload_n hx hb dL_law_949 rfl (lv_at hl 3 rfl) ?_
  refine lv_iload_n hx hb dL_law_950 rfl (lv_at hl 0 rfl) ?_
  refine lv_iconst (v := 3) hx hb dL_law_951 ic_3 ?_
  refine lv_iadd hx hb dL_law_952 ?_
  refine sk_top (nI (i + 3)) (nI_add i 3) ?_
  refine va_sld hx hb hX hbl hbA hS (vin (i + 3) Ln (by omega) (by omega)) dL_law_953 ?_
  obtain ⟨_, hdx⟩ := xI_head hI
  refine sk_Vi (q0 := 0) (n := 3) (rest := []) (wr := mw) ⟨hx, hb, hml, hown, hts⟩ hl.1 (xc_set l D cI cJ cC cZ cS x0 tl tb dy L nS lg ac su hn hR sd rf pn pB xf xp xw (xs (nI (i + 1)).toNatClampNeg) (xs (nI (i + 2)).toNatClampNeg) (xs (nI (i + 3)).toNatClampNeg) hk hI) w_4_239 w_5_0 w_5_1 w_1_1 w_5_2 (by decide +kernel) ⟨⟨(Nat.le_of_ble_eq_true rfl), (Nat.le_of_ble_eq_true rfl)⟩, (Nat.le_of_ble_eq_true rfl), (Nat.le_of_ble_eq_true rfl)⟩ hK hP hD hS hA (idx 0 xw) (idx xw.length mw) (idx_C xw mw) (idx_R xw mw) (idx_nd 0 xw) (idx_nd _ mw) (idx_dis xw mw) hdx rfl rfl rfl (Nat.le_of_ble_eq_true rfl) dL_law_954 (fun rx ux H locs hw hP hD hS => ?_)
  obtain ⟨nSx, acx, sux, rfx, hI2, hkx⟩ := hw
  have hP : va_P D vwCl (mw ++ ux) H := hP
  refine lv_pop hx hb dL_law_957 rfl ?_
  refine lv_aload_n hx hb dL_law_958 rfl (lv_at hl 1 rfl) ?_
  refine lv_aload_n hx hb dL_law_959 rfl (lv_at hl 3 rfl) ?_
  refine lv_iload_n hx hb dL_law_960 rfl (lv_at hl 0 rfl) ?_
  refine lv_iconst (v := 1) hx hb dL_law_961 ic_1 ?_
  refine lv_iadd hx hb dL_law_962 ?_
  refine sk_top (nI (i + 1)) (nI_add i 1) ?_
  refine va_sld hx hb hX hbl hbA hS (vin (i + 1) Ln (by omega) (by omega)) dL_law_963 ?_
  refine lv_aload_n hx hb dL_law_964 rfl (lv_at hl 3 rfl) ?_
  refine lv_iload_n hx hb dL_law_965 rfl (lv_at hl 0 rfl) ?_
  refine lv_iconst (v := 2) hx hb dL_law_966 ic_2 ?_
  refine lv_iadd hx hb dL_law_967 ?_
  refine sk_top (nI (i + 2)) (nI_add i 2) ?_
  refine va_sld hx hb hX hbl hbA hS (vin (i + 2) Ln (by omega) (by omega)) dL_law_968 ?_
  refine lv_aload_n hx hb dL_law_969 rfl (lv_at hl 3 rfl) ?_
  refine lv_iload_n hx hb dL_law_970 rfl (lv_at hl 0 rfl) ?_
  refine lv_iconst (v := 3) hx hb dL_law_971 ic_3 ?_
  refine lv_iadd hx hb dL_law_972 ?_
  refine sk_top (nI (i + 3)) (nI_add i 3) ?_
  refine va_sld hx hb hX hbl hbA hS (vin (i + 3) Ln (by omega) (by omega)) dL_law_973 ?_
  obtain ⟨_, hdm⟩ := mI_head hJ
  refine sk_Vi (q0 := 0) (n := 3) (rest := []) (wr := ux) ⟨hx, hb, hml, hown, hts⟩ hl.1 (mc_set l D cI cJ cC cZ cS mm tl tb dy L nS lg ac su hn hR sd rf pn pB xf xp mw (xs (nI (i + 1)).toNatClampNeg) (xs (nI (i + 2)).toNatClampNeg) (xs (nI (i + 3)).toNatClampNeg) hk hJ) w_8_122 w_8_123 w_8_124 w_1_14 w_8_125 (by decide +kernel) ⟨⟨(Nat.le_of_ble_eq_true rfl), (Nat.le_of_ble_eq_true rfl)⟩, (Nat.le_of_ble_eq_true rfl), (Nat.le_of_ble_eq_true rfl)⟩ hK hP hD hS hA (idx 0 mw) (idx mw.length ux) (idx_C mw ux) (idx_R mw ux) (idx_nd 0 mw) (idx_nd _ ux) (idx_dis mw ux) hdm rfl rfl rfl (Nat.le_of_ble_eq_true rfl) dL_law_974 (fun rm um H locs hw hP hD hS => ?_)
  obtain ⟨nSm, acm, sum, rfm, hJ2, hkm⟩ := hw
  obtain ⟨hre, rfl, rfl, rfl, rfl⟩ := setR_eq hk.2.2.1 hkx hkm
  have hk2 := kOk_s hk (setR_ok hkx hk.2.2.2.2.1).1
  refine lv_pop hx hb dL_law_977 rfl ?_
  refine lv_goto (tgt := 1171) hx hb dL_law_978 (by decide) ?_
  exact K _ _ _ _ _ _ _ _ _ _ _ _ _ _ _ _ _ _ _ _ _ hk2 hI2 hJ2 hP hD hS hl
theorem dg_L_law_981_981 : bqL cL_law 981 [(0, [43]), (1, [42]), (2, [29]), (3, [4]), (4, [96]), (5, [46]), (6, [42]), (7, [29]), (8, [5]), (9, [96]), (10, [46]), (11, [182, 0, 139]), (14, [87]), (15, [44]), (16, [42]), (17, [29]), (18, [4]), (19, [96]), (20, [46]), (21, [42]), (22, [29]), (23, [5]), (24, [96]), (25, [46]), (26, [182, 0, 143]), (29, [87]), (30, [167, 0, 160])] = true := by decide +kernel
theorem dL_law_981 : decode cL_law 981 = .ok (.aload_n 1, 1) := q_aload_n1 (bat_get dg_L_law_981_981 0 rfl rfl)
theorem dL_law_982 : decode cL_law 982 = .ok (.aload_n 0, 1) := q_aload_n0 (bat_get dg_L_law_981_981 1 rfl rfl)
theorem dL_law_983 : decode cL_law 983 = .ok (.iload_n 3, 1) := q_iload_n3 (bat_get dg_L_law_981_981 2 rfl rfl)
theorem dL_law_984 : decode cL_law 984 = .ok (.iconst 1, 1) := q_iconst1 (bat_get dg_L_law_981_981 3 rfl rfl)
theorem dL_law_985 : decode cL_law 985 = .ok (.iadd, 1) := q_iadd (bat_get dg_L_law_981_981 4 rfl rfl)
theorem dL_law_986 : decode cL_law 986 = .ok (.iaload, 1) := q_iaload (bat_get dg_L_law_981_981 5 rfl rfl)
theorem dL_law_987 : decode cL_law 987 = .ok (.aload_n 0, 1) := q_aload_n0 (bat_get dg_L_law_981_981 6 rfl rfl)
theorem dL_law_988 : decode cL_law 988 = .ok (.iload_n 3, 1) := q_iload_n3 (bat_get dg_L_law_981_981 7 rfl rfl)
theorem dL_law_989 : decode cL_law 989 = .ok (.iconst 2, 1) := q_iconst2 (bat_get dg_L_law_981_981 8 rfl rfl)
theorem dL_law_990 : decode cL_law 990 = .ok (.iadd, 1) := q_iadd (bat_get dg_L_law_981_981 9 rfl rfl)
theorem dL_law_991 : decode cL_law 991 = .ok (.iaload, 1) := q_iaload (bat_get dg_L_law_981_981 10 rfl rfl)
theorem dL_law_992 : decode cL_law 992 = .ok (.invokevirtual 139, 3) := q_invokevirtual (bat_get dg_L_law_981_981 11 rfl rfl) rfl
theorem dL_law_995 : decode cL_law 995 = .ok (.pop, 1) := q_pop (bat_get dg_L_law_981_981 12 rfl rfl)
theorem dL_law_996 : decode cL_law 996 = .ok (.aload_n 2, 1) := q_aload_n2 (bat_get dg_L_law_981_981 13 rfl rfl)
theorem dL_law_997 : decode cL_law 997 = .ok (.aload_n 0, 1) := q_aload_n0 (bat_get dg_L_law_981_981 14 rfl rfl)
theorem dL_law_998 : decode cL_law 998 = .ok (.iload_n 3, 1) := q_iload_n3 (bat_get dg_L_law_981_981 15 rfl rfl)
theorem dL_law_999 : decode cL_law 999 = .ok (.iconst 1, 1) := q_iconst1 (bat_get dg_L_law_981_981 16 rfl rfl)
theorem dL_law_1000 : decode cL_law 1000 = .ok (.iadd, 1) := q_iadd (bat_get dg_L_law_981_981 17 rfl rfl)
theorem dL_law_1001 : decode cL_law 1001 = .ok (.iaload, 1) := q_iaload (bat_get dg_L_law_981_981 18 rfl rfl)
theorem dL_law_1002 : decode cL_law 1002 = .ok (.aload_n 0, 1) := q_aload_n0 (bat_get dg_L_law_981_981 19 rfl rfl)
theorem dL_law_1003 : decode cL_law 1003 = .ok (.iload_n 3, 1) := q_iload_n3 (bat_get dg_L_law_981_981 20 rfl rfl)
theorem dL_law_1004 : decode cL_law 1004 = .ok (.iconst 2, 1) := q_iconst2 (bat_get dg_L_law_981_981 21 rfl rfl)
theorem dL_law_1005 : decode cL_law 1005 = .ok (.iadd, 1) := q_iadd (bat_get dg_L_law_981_981 22 rfl rfl)
theorem dL_law_1006 : decode cL_law 1006 = .ok (.iaload, 1) := q_iaload (bat_get dg_L_law_981_981 23 rfl rfl)
theorem dL_law_1007 : decode cL_law 1007 = .ok (.invokevirtual 143, 3) := q_invokevirtual (bat_get dg_L_law_981_981 24 rfl rfl) rfl
theorem dL_law_1010 : decode cL_law 1010 = .ok (.pop, 1) := q_pop (bat_get dg_L_law_981_981 25 rfl rfl)
theorem dL_law_1011 : decode cL_law 1011 = .ok (.goto 160, 3) := q_goto (bat_get dg_L_law_981_981 26 rfl rfl) rfl
theorem w_5_12 : (Cond.methodLink RL 139 yX11_mute) ∈ wsL_law := sk_mem (ck_5 _ (List.mem_of_getElem? (i := 12) rfl)) rfl
theorem w_5_13 : (Cond.instanceMethod yX11_mute) ∈ wsL_law := sk_mem (ck_5 _ (List.mem_of_getElem? (i := 13) rfl)) rfl
theorem w_5_14 : (Cond.selects RX11 yX11_mute yX11_mute) ∈ wsL_law := sk_mem (ck_5 _ (List.mem_of_getElem? (i := 14) rfl)) rfl
theorem w_8_134 : (Cond.methodLink RL 143 yX12_mute) ∈ wsL_law := sk_mem (ck_8 _ (List.mem_of_getElem? (i := 134) rfl)) rfl
theorem w_8_135 : (Cond.instanceMethod yX12_mute) ∈ wsL_law := sk_mem (ck_8 _ (List.mem_of_getElem? (i := 135) rfl)) rfl
theorem w_8_136 : (Cond.selects RX12 yX12_mute yX12_mute) ∈ wsL_law := sk_mem (ck_8 _ (List.mem_of_getElem? (i := 136) rfl)) rfl
set_option maxHeartbeats 4000000 in
set_option maxRecDepth 100000 in
theorem law_29 (l : Launch) (D : va_G) (cI cJ cC cZ cS : ClassId) (zk zv : Nat) (zf : Value) (x0 mm i : Nat) (tl : Nat) (tb : Nat → Nat) (dy : Nat) (L : LkS) (nS : KN) (lg : KLg) (ac : Nat) (su : Nat → KN) (hn : Nat) (hR : Nat → Nat) (sd : Nat) (rf : Nat → Int32) (pn : Nat) (pB : Nat → Nat) (xf : Int32) (xp : Int32) (xw mw : va_W) {p : Program} {e : Env} {s : State} {m : MethodId} {below : List Frame} {meth : Method} {c : Code} {b Ln : Nat} {xs : Nat → Int32} {A : Nat → Prop} {H : Heap} {locs : List Loc} {ls : Array Slot} (E : lwE p s m meth c b Ln xs zk zv zf D (skT cI cJ cC cZ cS) A) (hi6 : i + 6 ≤ Ln) (hk : kOk L dy nS lg ac su hn hR sd) (hI : xI cI cJ cC cZ cS x0 tl tb dy L nS lg ac su hn hR sd rf pn pB xf xp xw) (hJ : mI cI cJ cC cZ cS mm tl tb dy L nS lg ac su hn hR sd rf pn pB xf xp mw) (hP : va_P D vwCl (xw ++ mw) H) (hD : va_D A (xw ++ mw)) (hS : va_S A s.heap H locs) (hl : lv_has ls 4 [(3, .int (nI i)), (2, .ref mm), (1, .ref x0), (0, .ref b)]) (K : ∀ (tl : Nat) (tb : Nat → Nat) (dy : Nat) (L : LkS) (nS : KN) (lg : KLg) (ac : Nat) (su : Nat → KN) (hn : Nat) (hR : Nat → Nat) (sd : Nat) (rf : Nat → Int32) (pn : Nat) (pB : Nat → Nat) (xf : Int32) (xp : Int32) (xw mw : va_W) (H : Heap) (locs : List Loc) (ls : Array Slot), kOk L dy nS lg ac su hn hR sd → xI cI cJ cC cZ cS x0 tl tb dy L nS lg ac su hn hR sd rf pn pB xf xp xw → mI cI cJ cC cZ cS mm tl tb dy L nS lg ac su hn hR sd rf pn pB xf xp mw → va_P D vwCl (xw ++ mw) H → va_D A (xw ++ mw) → va_S A s.heap H locs → lv_has ls 4 [(3, .int (nI i)), (2, .ref mm), (1, .ref x0), (0, .ref b)] → W p l e room_1 s m #[Value.ref b] below meth c H locs 182 32192 (lw_Z below #[Value.ref b] s) (F0 m 1171 ls [])) : W p l e room_1 s m #[Value.ref b] below meth c H locs 182 32192 (lw_Z below #[Value.ref b] s) (F0 m 981 ls []) := by
  obtain ⟨hx, hb, hr, hml, hlocks, hown, hts, hX, hbl, hA, hbA, hAf, hK, hZ, hL⟩ := id E
  refine lv_aload_n hx hb dL_law_981 rfl (lv_at hl 2 rfl) ?_
  refine lv_aload_n hx hb dL_law_982 rfl (lv_at hl 3 rfl) ?_
  refine lv_iload_n hx hb dL_law_983 rfl (lv_at hl 0 rfl) ?_
  refine lv_iconst (v := 1) hx hb dL_law_984 ic_1 ?_
  refine lv_iadd hx hb dL_law_985 ?_
  refine sk_top (nI (i + 1)) (nI_add i 1) ?_
  refine va_sld hx hb hX hbl hbA hS (vin (i + 1) Ln (by omega) (by omega)) dL_law_986 ?_
  refine lv_aload_n hx hb dL_law_987 rfl (lv_at hl 3 rfl) ?_
  refine lv_iload_n hx hb dL_law_988 rfl (lv_at hl 0 rfl) ?_
  refine lv_iconst (v := 2) hx hb dL_law_989 ic_2 ?_
  refine lv_iadd hx hb dL_law_990 ?_
  refine sk_top (nI (i + 2)) (nI_add i 2) ?_
  refine va_sld hx hb hX hbl hbA hS (vin (i + 2) Ln (by omega) (by omega)) dL_law_991 ?_
  obtain ⟨_, hdx⟩ := xI_head hI
  refine sk_Vi (q0 := 0) (n := 2) (rest := []) (wr := mw) ⟨hx, hb, hml, hown, hts⟩ hl.1 (xc_mute l D cI cJ cC cZ cS x0 tl tb dy L nS lg ac su hn hR sd rf pn pB xf xp xw (xs (nI (i + 1)).toNatClampNeg) (xs (nI (i + 2)).toNatClampNeg) hk hI) w_5_12 w_5_13 w_5_14 w_1_1 w_5_15 (by decide +kernel) ⟨⟨(Nat.le_of_ble_eq_true rfl), (Nat.le_of_ble_eq_true rfl)⟩, (Nat.le_of_ble_eq_true rfl), (Nat.le_of_ble_eq_true rfl)⟩ hK hP hD hS hA (idx 0 xw) (idx xw.length mw) (idx_C xw mw) (idx_R xw mw) (idx_nd 0 xw) (idx_nd _ mw) (idx_dis xw mw) hdx rfl rfl rfl (Nat.le_of_ble_eq_true rfl) dL_law_992 (fun rx ux H locs hw hP hD hS => ?_)
  obtain ⟨nSx, acx, sux, rfx, hI2, hkx⟩ := hw
  have hP : va_P D vwCl (mw ++ ux) H := hP
  refine lv_pop hx hb dL_law_995 rfl ?_
  refine lv_aload_n hx hb dL_law_996 rfl (lv_at hl 1 rfl) ?_
  refine lv_aload_n hx hb dL_law_997 rfl (lv_at hl 3 rfl) ?_
  refine lv_iload_n hx hb dL_law_998 rfl (lv_at hl 0 rfl) ?_
  refine lv_iconst (v := 1) hx hb dL_law_999 ic_1 ?_
  refine lv_iadd hx hb dL_law_1000 ?_
  refine sk_top (nI (i + 1)) (nI_add i 1) ?_
  refine va_sld hx hb hX hbl hbA hS (vin (i + 1) Ln (by omega) (by omega)) dL_law_1001 ?_
  refine lv_aload_n hx hb dL_law_1002 rfl (lv_at hl 3 rfl) ?_
  refine lv_iload_n hx hb dL_law_1003 rfl (lv_at hl 0 rfl) ?_
  refine lv_iconst (v := 2) hx hb dL_law_1004 ic_2 ?_
  refine lv_iadd hx hb dL_law_1005 ?_
  refine sk_top (nI (i + 2)) (nI_add i 2) ?_
  refine va_sld hx hb hX hbl hbA hS (vin (i + 2) Ln (by omega) (by omega)) dL_law_1006 ?_
  obtain ⟨_, hdm⟩ := mI_head hJ
  refine sk_Vi (q0 := 0) (n := 2) (rest := []) (wr := ux) ⟨hx, hb, hml, hown, hts⟩ hl.1 (mc_mute l D cI cJ cC cZ cS mm tl tb dy L nS lg ac su hn hR sd rf pn pB xf xp mw (xs (nI (i + 1)).toNatClampNeg) (xs (nI (i + 2)).toNatClampNeg) hk hJ) w_8_134 w_8_135 w_8_136 w_1_14 w_8_137 (by decide +kernel) ⟨⟨(Nat.le_of_ble_eq_true rfl), (Nat.le_of_ble_eq_true rfl)⟩, (Nat.le_of_ble_eq_true rfl), (Nat.le_of_ble_eq_true rfl)⟩ hK hP hD hS hA (idx 0 mw) (idx mw.length ux) (idx_C mw ux) (idx_R mw ux) (idx_nd 0 mw) (idx_nd _ ux) (idx_dis mw ux) hdm rfl rfl rfl (Nat.le_of_ble_eq_true rfl) dL_law_1007 (fun rm um H locs hw hP hD hS => ?_)
  obtain ⟨nSm, acm, sum, rfm, hJ2, hkm⟩ := hw
  obtain ⟨hre, rfl, rfl, rfl, rfl⟩ := muteR_eq hk.2.2.1 hkx hkm
  have hk2 := kOk_s hk (muteR_ok hkx hk.2.2.2.2.1).1
  refine lv_pop hx hb dL_law_1010 rfl ?_
  refine lv_goto (tgt := 1171) hx hb dL_law_1011 (by decide) ?_
  exact K _ _ _ _ _ _ _ _ _ _ _ _ _ _ _ _ _ _ _ _ _ hk2 hI2 hJ2 hP hD hS hl
theorem dg_L_law_1014_1014 : bqL cL_law 1014 [(0, [43]), (1, [182, 0, 144]), (4, [87]), (5, [44]), (6, [182, 0, 147]), (9, [87]), (10, [167, 0, 147])] = true := by decide +kernel
theorem dL_law_1014 : decode cL_law 1014 = .ok (.aload_n 1, 1) := q_aload_n1 (bat_get dg_L_law_1014_1014 0 rfl rfl)
theorem dL_law_1015 : decode cL_law 1015 = .ok (.invokevirtual 144, 3) := q_invokevirtual (bat_get dg_L_law_1014_1014 1 rfl rfl) rfl
theorem dL_law_1018 : decode cL_law 1018 = .ok (.pop, 1) := q_pop (bat_get dg_L_law_1014_1014 2 rfl rfl)
theorem dL_law_1019 : decode cL_law 1019 = .ok (.aload_n 2, 1) := q_aload_n2 (bat_get dg_L_law_1014_1014 3 rfl rfl)
theorem dL_law_1020 : decode cL_law 1020 = .ok (.invokevirtual 147, 3) := q_invokevirtual (bat_get dg_L_law_1014_1014 4 rfl rfl) rfl
theorem dL_law_1023 : decode cL_law 1023 = .ok (.pop, 1) := q_pop (bat_get dg_L_law_1014_1014 5 rfl rfl)
theorem dL_law_1024 : decode cL_law 1024 = .ok (.goto 147, 3) := q_goto (bat_get dg_L_law_1014_1014 6 rfl rfl) rfl
theorem w_5_16 : (Cond.methodLink RL 144 yX11_go) ∈ wsL_law := sk_mem (ck_5 _ (List.mem_of_getElem? (i := 16) rfl)) rfl
theorem w_5_17 : (Cond.instanceMethod yX11_go) ∈ wsL_law := sk_mem (ck_5 _ (List.mem_of_getElem? (i := 17) rfl)) rfl
theorem w_5_18 : (Cond.selects RX11 yX11_go yX11_go) ∈ wsL_law := sk_mem (ck_5 _ (List.mem_of_getElem? (i := 18) rfl)) rfl
theorem w_8_138 : (Cond.methodLink RL 147 yX12_go) ∈ wsL_law := sk_mem (ck_8 _ (List.mem_of_getElem? (i := 138) rfl)) rfl
theorem w_8_139 : (Cond.instanceMethod yX12_go) ∈ wsL_law := sk_mem (ck_8 _ (List.mem_of_getElem? (i := 139) rfl)) rfl
theorem w_8_140 : (Cond.selects RX12 yX12_go yX12_go) ∈ wsL_law := sk_mem (ck_8 _ (List.mem_of_getElem? (i := 140) rfl)) rfl
set_option maxHeartbeats 4000000 in
set_option maxRecDepth 100000 in
theorem law_30 (l : Launch) (D : va_G) (cI cJ cC cZ cS : ClassId) (zk zv : Nat) (zf : Value) (x0 mm i : Nat) (tl : Nat) (tb : Nat → Nat) (dy : Nat) (L : LkS) (nS : KN) (lg : KLg) (ac : Nat) (su : Nat → KN) (hn : Nat) (hR : Nat → Nat) (sd : Nat) (rf : Nat → Int32) (pn : Nat) (pB : Nat → Nat) (xf : Int32) (xp : Int32) (xw mw : va_W) {p : Program} {e : Env} {s : State} {m : MethodId} {below : List Frame} {meth : Method} {c : Code} {b Ln : Nat} {xs : Nat → Int32} {A : Nat → Prop} {H : Heap} {locs : List Loc} {ls : Array Slot} (E : lwE p s m meth c b Ln xs zk zv zf D (skT cI cJ cC cZ cS) A) (hi6 : i + 6 ≤ Ln) (hk : kOk L dy nS lg ac su hn hR sd) (hI : xI cI cJ cC cZ cS x0 tl tb dy L nS lg ac su hn hR sd rf pn pB xf xp xw) (hJ : mI cI cJ cC cZ cS mm tl tb dy L nS lg ac su hn hR sd rf pn pB xf xp mw) (hP : va_P D vwCl (xw ++ mw) H) (hD : va_D A (xw ++ mw)) (hS : va_S A s.heap H locs) (hl : lv_has ls 4 [(3, .int (nI i)), (2, .ref mm), (1, .ref x0), (0, .ref b)]) (K : ∀ (tl : Nat) (tb : Nat → Nat) (dy : Nat) (L : LkS) (nS : KN) (lg : KLg) (ac : Nat) (su : Nat → KN) (hn : Nat) (hR : Nat → Nat) (sd : Nat) (rf : Nat → Int32) (pn : Nat) (pB : Nat → Nat) (xf : Int32) (xp : Int32) (xw mw : va_W) (H : Heap) (locs : List Loc) (ls : Array Slot), kOk L dy nS lg ac su hn hR sd → xI cI cJ cC cZ cS x0 tl tb dy L nS lg ac su hn hR sd rf pn pB xf xp xw → mI cI cJ cC cZ cS mm tl tb dy L nS lg ac su hn hR sd rf pn pB xf xp mw → va_P D vwCl (xw ++ mw) H → va_D A (xw ++ mw) → va_S A s.heap H locs → lv_has ls 4 [(3, .int (nI i)), (2, .ref mm), (1, .ref x0), (0, .ref b)] → W p l e room_1 s m #[Value.ref b] below meth c H locs 182 32192 (lw_Z below #[Value.ref b] s) (F0 m 1171 ls [])) : W p l e room_1 s m #[Value.ref b] below meth c H locs 182 32192 (lw_Z below #[Value.ref b] s) (F0 m 1014 ls []) := by
  obtain ⟨hx, hb, hr, hml, hlocks, hown, hts, hX, hbl, hA, hbA, hAf, hK, hZ, hL⟩ := id E
  refine lv_aload_n hx hb dL_law_1014 rfl (lv_at hl 2 rfl) ?_
  obtain ⟨_, hdx⟩ := xI_head hI
  refine sk_Vi (q0 := 0) (n := 0) (rest := []) (wr := mw) ⟨hx, hb, hml, hown, hts⟩ hl.1 (xc_go l D cI cJ cC cZ cS x0 tl tb dy L nS lg ac su hn hR sd rf pn pB xf xp xw hk hI) w_5_16 w_5_17 w_5_18 w_1_1 w_5_19 (by decide +kernel) ⟨⟨(Nat.le_of_ble_eq_true rfl), (Nat.le_of_ble_eq_true rfl)⟩, (Nat.le_of_ble_eq_true rfl), (Nat.le_of_ble_eq_true rfl)⟩ hK hP hD hS hA (idx 0 xw) (idx xw.length mw) (idx_C xw mw) (idx_R xw mw) (idx_nd 0 xw) (idx_nd _ mw) (idx_dis xw mw) hdx rfl rfl rfl (Nat.le_of_ble_eq_true rfl) dL_law_1015 (fun rx ux H locs hw hP hD hS => ?_)
  obtain ⟨nSx, lgx, acx, sux, rfx, hI2, hkx⟩ := hw
  have hP : va_P D vwCl (mw ++ ux) H := hP
  refine lv_pop hx hb dL_law_1018 rfl ?_
  refine lv_aload_n hx hb dL_law_1019 rfl (lv_at hl 1 rfl) ?_
  obtain ⟨_, hdm⟩ := mI_head hJ
  refine sk_Vi (q0 := 0) (n := 0) (rest := []) (wr := ux) ⟨hx, hb, hml, hown, hts⟩ hl.1 (mc_go l D cI cJ cC cZ cS mm tl tb dy L nS lg ac su hn hR sd rf pn pB xf xp mw hk hJ) w_8_138 w_8_139 w_8_140 w_1_14 w_8_141 (by decide +kernel) ⟨⟨(Nat.le_of_ble_eq_true rfl), (Nat.le_of_ble_eq_true rfl)⟩, (Nat.le_of_ble_eq_true rfl), (Nat.le_of_ble_eq_true rfl)⟩ hK hP hD hS hA (idx 0 mw) (idx mw.length ux) (idx_C mw ux) (idx_R mw ux) (idx_nd 0 mw) (idx_nd _ ux) (idx_dis mw ux) hdm rfl rfl rfl (Nat.le_of_ble_eq_true rfl) dL_law_1020 (fun rm um H locs hw hP hD hS => ?_)
  obtain ⟨nSm, lgm, acm, sum, rfm, hJ2, hkm⟩ := hw
  obtain ⟨rfl, hre, rfl, rfl, rfl, rfl⟩ := goR_eq hkx hkm
  have hk2 := kOk_g hk (goR_ok hkx hk.2.2.1 hk.2.2.2.2.1 hk.2.2.2.2.2.1)
  refine lv_pop hx hb dL_law_1023 rfl ?_
  refine lv_goto (tgt := 1171) hx hb dL_law_1024 (by decide) ?_
  exact K _ _ _ _ _ _ _ _ _ _ _ _ _ _ _ _ _ _ _ _ _ hk2 hI2 hJ2 hP hD hS hl
theorem dg_L_law_1027_1027 : bqL cL_law 1027 [(0, [43]), (1, [42]), (2, [29]), (3, [4]), (4, [96]), (5, [46]), (6, [182, 0, 148]), (9, [87]), (10, [44]), (11, [42]), (12, [29]), (13, [4]), (14, [96]), (15, [46]), (16, [182, 0, 151]), (19, [87]), (20, [167, 0, 124])] = true := by decide +kernel
theorem dL_law_1027 : decode cL_law 1027 = .ok (.aload_n 1, 1) := q_aload_n1 (bat_get dg_L_law_1027_1027 0 rfl rfl)
theorem dL_law_1028 : decode cL_law 1028 = .ok (.aload_n 0, 1) := q_aload_n0 (bat_get dg_L_law_1027_1027 1 rfl rfl)
theorem dL_law_1029 : decode cL_law 1029 = .ok (.iload_n 3, 1) := q_iload_n3 (bat_get dg_L_law_1027_1027 2 rfl rfl)
theorem dL_law_1030 : decode cL_law 1030 = .ok (.iconst 1, 1) := q_iconst1 (bat_get dg_L_law_1027_1027 3 rfl rfl)
theorem dL_law_1031 : decode cL_law 1031 = .ok (.iadd, 1) := q_iadd (bat_get dg_L_law_1027_1027 4 rfl rfl)
theorem dL_law_1032 : decode cL_law 1032 = .ok (.iaload, 1) := q_iaload (bat_get dg_L_law_1027_1027 5 rfl rfl)
theorem dL_law_1033 : decode cL_law 1033 = .ok (.invokevirtual 148, 3) := q_invokevirtual (bat_get dg_L_law_1027_1027 6 rfl rfl) rfl
theorem dL_law_1036 : decode cL_law 1036 = .ok (.pop, 1) := q_pop (bat_get dg_L_law_1027_1027 7 rfl rfl)
theorem dL_law_1037 : decode cL_law 1037 = .ok (.aload_n 2, 1) := q_aload_n2 (bat_get dg_L_law_1027_1027 8 rfl rfl)
theorem dL_law_1038 : decode cL_law 1038 = .ok (.aload_n 0, 1) := q_aload_n0 (bat_get dg_L_law_1027_1027 9 rfl rfl)
theorem dL_law_1039 : decode cL_law 1039 = .ok (.iload_n 3, 1) := q_iload_n3 (bat_get dg_L_law_1027_1027 10 rfl rfl)
theorem dL_law_1040 : decode cL_law 1040 = .ok (.iconst 1, 1) := q_iconst1 (bat_get dg_L_law_1027_1027 11 rfl rfl)
theorem dL_law_1041 : decode cL_law 1041 = .ok (.iadd, 1) := q_iadd (bat_get dg_L_law_1027_1027 12 rfl rfl)
theorem dL_law_1042 : decode cL_law 1042 = .ok (.iaload, 1) := q_iaload (bat_get dg_L_law_1027_1027 13 rfl rfl)
theorem dL_law_1043 : decode cL_law 1043 = .ok (.invokevirtual 151, 3) := q_invokevirtual (bat_get dg_L_law_1027_1027 14 rfl rfl) rfl
theorem dL_law_1046 : decode cL_law 1046 = .ok (.pop, 1) := q_pop (bat_get dg_L_law_1027_1027 15 rfl rfl)
theorem dL_law_1047 : decode cL_law 1047 = .ok (.goto 124, 3) := q_goto (bat_get dg_L_law_1027_1027 16 rfl rfl) rfl
theorem w_5_28 : (Cond.methodLink RL 148 yX11_chance) ∈ wsL_law := sk_mem (ck_5 _ (List.mem_of_getElem? (i := 28) rfl)) rfl
theorem w_5_29 : (Cond.instanceMethod yX11_chance) ∈ wsL_law := sk_mem (ck_5 _ (List.mem_of_getElem? (i := 29) rfl)) rfl
theorem w_5_30 : (Cond.selects RX11 yX11_chance yX11_chance) ∈ wsL_law := sk_mem (ck_5 _ (List.mem_of_getElem? (i := 30) rfl)) rfl
theorem w_8_146 : (Cond.methodLink RL 151 yX12_chance) ∈ wsL_law := sk_mem (ck_8 _ (List.mem_of_getElem? (i := 146) rfl)) rfl
theorem w_8_147 : (Cond.instanceMethod yX12_chance) ∈ wsL_law := sk_mem (ck_8 _ (List.mem_of_getElem? (i := 147) rfl)) rfl
theorem w_8_148 : (Cond.selects RX12 yX12_chance yX12_chance) ∈ wsL_law := sk_mem (ck_8 _ (List.mem_of_getElem? (i := 148) rfl)) rfl
set_option maxHeartbeats 4000000 in
set_option maxRecDepth 100000 in
theorem law_31 (l : Launch) (D : va_G) (cI cJ cC cZ cS : ClassId) (zk zv : Nat) (zf : Value) (x0 mm i : Nat) (tl : Nat) (tb : Nat → Nat) (dy : Nat) (L : LkS) (nS : KN) (lg : KLg) (ac : Nat) (su : Nat → KN) (hn : Nat) (hR : Nat → Nat) (sd : Nat) (rf : Nat → Int32) (pn : Nat) (pB : Nat → Nat) (xf : Int32) (xp : Int32) (xw mw : va_W) {p : Program} {e : Env} {s : State} {m : MethodId} {below : List Frame} {meth : Method} {c : Code} {b Ln : Nat} {xs : Nat → Int32} {A : Nat → Prop} {H : Heap} {locs : List Loc} {ls : Array Slot} (E : lwE p s m meth c b Ln xs zk zv zf D (skT cI cJ cC cZ cS) A) (hi6 : i + 6 ≤ Ln) (hk : kOk L dy nS lg ac su hn hR sd) (hI : xI cI cJ cC cZ cS x0 tl tb dy L nS lg ac su hn hR sd rf pn pB xf xp xw) (hJ : mI cI cJ cC cZ cS mm tl tb dy L nS lg ac su hn hR sd rf pn pB xf xp mw) (hP : va_P D vwCl (xw ++ mw) H) (hD : va_D A (xw ++ mw)) (hS : va_S A s.heap H locs) (hl : lv_has ls 4 [(3, .int (nI i)), (2, .ref mm), (1, .ref x0), (0, .ref b)]) (K : ∀ (tl : Nat) (tb : Nat → Nat) (dy : Nat) (L : LkS) (nS : KN) (lg : KLg) (ac : Nat) (su : Nat → KN) (hn : Nat) (hR : Nat → Nat) (sd : Nat) (rf : Nat → Int32) (pn : Nat) (pB : Nat → Nat) (xf : Int32) (xp : Int32) (xw mw : va_W) (H : Heap) (locs : List Loc) (ls : Array Slot), kOk L dy nS lg ac su hn hR sd → xI cI cJ cC cZ cS x0 tl tb dy L nS lg ac su hn hR sd rf pn pB xf xp xw → mI cI cJ cC cZ cS mm tl tb dy L nS lg ac su hn hR sd rf pn pB xf xp mw → va_P D vwCl (xw ++ mw) H → va_D A (xw ++ mw) → va_S A s.heap H locs → lv_has ls 4 [(3, .int (nI i)), (2, .ref mm), (1, .ref x0), (0, .ref b)] → W p l e room_1 s m #[Value.ref b] below meth c H locs 182 32192 (lw_Z below #[Value.ref b] s) (F0 m 1171 ls [])) : W p l e room_1 s m #[Value.ref b] below meth c H locs 182 32192 (lw_Z below #[Value.ref b] s) (F0 m 1027 ls []) := by
  obtain ⟨hx, hb, hr, hml, hlocks, hown, hts, hX, hbl, hA, hbA, hAf, hK, hZ, hL⟩ := id E
  refine lv_aload_n hx hb dL_law_1027 rfl (lv_at hl 2 rfl) ?_
  refine lv_aload_n hx hb dL_law_1028 rfl (lv_at hl 3 rfl) ?_
  refine lv_iload_n hx hb dL_law_1029 rfl (lv_at hl 0 rfl) ?_
  refine lv_iconst (v := 1) hx hb dL_law_1030 ic_1 ?_
  refine lv_iadd hx hb dL_law_1031 ?_
  refine sk_top (nI (i + 1)) (nI_add i 1) ?_
  refine va_sld hx hb hX hbl hbA hS (vin (i + 1) Ln (by omega) (by omega)) dL_law_1032 ?_
  obtain ⟨_, hdx⟩ := xI_head hI
  refine sk_Vi (q0 := 0) (n := 1) (rest := []) (wr := mw) ⟨hx, hb, hml, hown, hts⟩ hl.1 (xc_chance l D cI cJ cC cZ cS x0 tl tb dy L nS lg ac su hn hR sd rf pn pB xf xp xw (xs (nI (i + 1)).toNatClampNeg) hk hI) w_5_28 w_5_29 w_5_30 w_1_1 w_5_31 (by decide +kernel) ⟨⟨(Nat.le_of_ble_eq_true rfl), (Nat.le_of_ble_eq_true rfl)⟩, (Nat.le_of_ble_eq_true rfl), (Nat.le_of_ble_eq_true rfl)⟩ hK hP hD hS hA (idx 0 xw) (idx xw.length mw) (idx_C xw mw) (idx_R xw mw) (idx_nd 0 xw) (idx_nd _ mw) (idx_dis xw mw) hdx rfl rfl rfl (Nat.le_of_ble_eq_true rfl) dL_law_1033 (fun rx ux H locs hw hP hD hS => ?_)
  obtain ⟨nSx, lgx, acx, sux, sdx, rfx, hI2, hkx⟩ := hw
  have hP : va_P D vwCl (mw ++ ux) H := hP
  refine lv_pop hx hb dL_law_1036 rfl ?_
  refine lv_aload_n hx hb dL_law_1037 rfl (lv_at hl 1 rfl) ?_
  refine lv_aload_n hx hb dL_law_1038 rfl (lv_at hl 3 rfl) ?_
  refine lv_iload_n hx hb dL_law_1039 rfl (lv_at hl 0 rfl) ?_
  refine lv_iconst (v := 1) hx hb dL_law_1040 ic_1 ?_
  refine lv_iadd hx hb dL_law_1041 ?_
  refine sk_top (nI (i + 1)) (nI_add i 1) ?_
  refine va_sld hx hb hX hbl hbA hS (vin (i + 1) Ln (by omega) (by omega)) dL_law_1042 ?_
  obtain ⟨_, hdm⟩ := mI_head hJ
  refine sk_Vi (q0 := 0) (n := 1) (rest := []) (wr := ux) ⟨hx, hb, hml, hown, hts⟩ hl.1 (mc_chance l D cI cJ cC cZ cS mm tl tb dy L nS lg ac su hn hR sd rf pn pB xf xp mw (xs (nI (i + 1)).toNatClampNeg) hk hJ) w_8_146 w_8_147 w_8_148 w_1_14 w_8_149 (by decide +kernel) ⟨⟨(Nat.le_of_ble_eq_true rfl), (Nat.le_of_ble_eq_true rfl)⟩, (Nat.le_of_ble_eq_true rfl), (Nat.le_of_ble_eq_true rfl)⟩ hK hP hD hS hA (idx 0 mw) (idx mw.length ux) (idx_C mw ux) (idx_R mw ux) (idx_nd 0 mw) (idx_nd _ ux) (idx_dis mw ux) hdm rfl rfl rfl (Nat.le_of_ble_eq_true rfl) dL_law_1043 (fun rm um H locs hw hP hD hS => ?_)
  obtain ⟨nSm, lgm, acm, sum, sdm, rfm, hJ2, hkm⟩ := hw
  obtain ⟨⟨rfl, rfl⟩, hre, rfl, rfl, rfl, rfl⟩ := chanceR_eq hkx hkm
  have hk2 := kOk_c hk (chanceR_ok hkx hk.2.2.1 hk.2.2.2.2.1 hk.2.2.2.2.2.1 hk.2.2.2.2.2.2.2.2)
  refine lv_pop hx hb dL_law_1046 rfl ?_
  refine lv_goto (tgt := 1171) hx hb dL_law_1047 (by decide) ?_
  exact K _ _ _ _ _ _ _ _ _ _ _ _ _ _ _ _ _ _ _ _ _ hk2 hI2 hJ2 hP hD hS hl
theorem dg_L_law_1050_1050 : bqL cL_law 1050 [(0, [43]), (1, [182, 0, 152]), (4, [87]), (5, [44]), (6, [182, 0, 156]), (9, [87]), (10, [167, 0, 111])] = true := by decide +kernel
theorem dL_law_1050 : decode cL_law 1050 = .ok (.aload_n 1, 1) := q_aload_n1 (bat_get dg_L_law_1050_1050 0 rfl rfl)
theorem dL_law_1051 : decode cL_law 1051 = .ok (.invokevirtual 152, 3) := q_invokevirtual (bat_get dg_L_law_1050_1050 1 rfl rfl) rfl
theorem dL_law_1054 : decode cL_law 1054 = .ok (.pop, 1) := q_pop (bat_get dg_L_law_1050_1050 2 rfl rfl)
theorem dL_law_1055 : decode cL_law 1055 = .ok (.aload_n 2, 1) := q_aload_n2 (bat_get dg_L_law_1050_1050 3 rfl rfl)
theorem dL_law_1056 : decode cL_law 1056 = .ok (.invokevirtual 156, 3) := q_invokevirtual (bat_get dg_L_law_1050_1050 4 rfl rfl) rfl
theorem dL_law_1059 : decode cL_law 1059 = .ok (.pop, 1) := q_pop (bat_get dg_L_law_1050_1050 5 rfl rfl)
theorem dL_law_1060 : decode cL_law 1060 = .ok (.goto 111, 3) := q_goto (bat_get dg_L_law_1050_1050 6 rfl rfl) rfl
theorem w_5_47 : (Cond.methodLink RL 152 yX11_undo) ∈ wsL_law := sk_mem (ck_5 _ (List.mem_of_getElem? (i := 47) rfl)) rfl
theorem w_5_48 : (Cond.instanceMethod yX11_undo) ∈ wsL_law := sk_mem (ck_5 _ (List.mem_of_getElem? (i := 48) rfl)) rfl
theorem w_5_49 : (Cond.selects RX11 yX11_undo yX11_undo) ∈ wsL_law := sk_mem (ck_5 _ (List.mem_of_getElem? (i := 49) rfl)) rfl
theorem w_8_118 : (Cond.methodLink RL 156 yX12_undo) ∈ wsL_law := sk_mem (ck_8 _ (List.mem_of_getElem? (i := 118) rfl)) rfl
theorem w_8_119 : (Cond.instanceMethod yX12_undo) ∈ wsL_law := sk_mem (ck_8 _ (List.mem_of_getElem? (i := 119) rfl)) rfl
theorem w_8_120 : (Cond.selects RX12 yX12_undo yX12_undo) ∈ wsL_law := sk_mem (ck_8 _ (List.mem_of_getElem? (i := 120) rfl)) rfl
set_option maxHeartbeats 4000000 in
set_option maxRecDepth 100000 in
theorem law_32 (l : Launch) (D : va_G) (cI cJ cC cZ cS : ClassId) (zk zv : Nat) (zf : Value) (x0 mm i : Nat) (tl : Nat) (tb : Nat → Nat) (dy : Nat) (L : LkS) (nS : KN) (lg : KLg) (ac : Nat) (su : Nat → KN) (hn : Nat) (hR : Nat → Nat) (sd : Nat) (rf : Nat → Int32) (pn : Nat) (pB : Nat → Nat) (xf : Int32) (xp : Int32) (xw mw : va_W) {p : Program} {e : Env} {s : State} {m : MethodId} {below : List Frame} {meth : Method} {c : Code} {b Ln : Nat} {xs : Nat → Int32} {A : Nat → Prop} {H : Heap} {locs : List Loc} {ls : Array Slot} (E : lwE p s m meth c b Ln xs zk zv zf D (skT cI cJ cC cZ cS) A) (hi6 : i + 6 ≤ Ln) (hk : kOk L dy nS lg ac su hn hR sd) (hI : xI cI cJ cC cZ cS x0 tl tb dy L nS lg ac su hn hR sd rf pn pB xf xp xw) (hJ : mI cI cJ cC cZ cS mm tl tb dy L nS lg ac su hn hR sd rf pn pB xf xp mw) (hP : va_P D vwCl (xw ++ mw) H) (hD : va_D A (xw ++ mw)) (hS : va_S A s.heap H locs) (hl : lv_has ls 4 [(3, .int (nI i)), (2, .ref mm), (1, .ref x0), (0, .ref b)]) (K : ∀ (tl : Nat) (tb : Nat → Nat) (dy : Nat) (L : LkS) (nS : KN) (lg : KLg) (ac : Nat) (su : Nat → KN) (hn : Nat) (hR : Nat → Nat) (sd : Nat) (rf : Nat → Int32) (pn : Nat) (pB : Nat → Nat) (xf : Int32) (xp : Int32) (xw mw : va_W) (H : Heap) (locs : List Loc) (ls : Array Slot), kOk L dy nS lg ac su hn hR sd → xI cI cJ cC cZ cS x0 tl tb dy L nS lg ac su hn hR sd rf pn pB xf xp xw → mI cI cJ cC cZ cS mm tl tb dy L nS lg ac su hn hR sd rf pn pB xf xp mw → va_P D vwCl (xw ++ mw) H → va_D A (xw ++ mw) → va_S A s.heap H locs → lv_has ls 4 [(3, .int (nI i)), (2, .ref mm), (1, .ref x0), (0, .ref b)] → W p l e room_1 s m #[Value.ref b] below meth c H locs 182 32192 (lw_Z below #[Value.ref b] s) (F0 m 1171 ls [])) : W p l e room_1 s m #[Value.ref b] below meth c H locs 182 32192 (lw_Z below #[Value.ref b] s) (F0 m 1050 ls []) := by
  obtain ⟨hx, hb, hr, hml, hlocks, hown, hts, hX, hbl, hA, hbA, hAf, hK, hZ, hL⟩ := id E
  refine lv_aload_n hx hb dL_law_1050 rfl (lv_at hl 2 rfl) ?_
  obtain ⟨_, hdx⟩ := xI_head hI
  refine sk_Vi (q0 := 0) (n := 0) (rest := []) (wr := mw) ⟨hx, hb, hml, hown, hts⟩ hl.1 (xc_undo l D cI cJ cC cZ cS x0 tl tb dy L nS lg ac su hn hR sd rf pn pB xf xp xw hk hI) w_5_47 w_5_48 w_5_49 w_1_1 w_5_50 (by decide +kernel) ⟨⟨(Nat.le_of_ble_eq_true rfl), (Nat.le_of_ble_eq_true rfl)⟩, (Nat.le_of_ble_eq_true rfl), (Nat.le_of_ble_eq_true rfl)⟩ hK hP hD hS hA (idx 0 xw) (idx xw.length mw) (idx_C xw mw) (idx_R xw mw) (idx_nd 0 xw) (idx_nd _ mw) (idx_dis xw mw) hdx rfl rfl rfl (Nat.le_of_ble_eq_true rfl) dL_law_1051 (fun rx ux H locs hw hP hD hS => ?_)
  obtain ⟨nSx, acx, rfx, hI2, hkx⟩ := hw
  have hP : va_P D vwCl (mw ++ ux) H := hP
  refine lv_pop hx hb dL_law_1054 rfl ?_
  refine lv_aload_n hx hb dL_law_1055 rfl (lv_at hl 1 rfl) ?_
  obtain ⟨_, hdm⟩ := mI_head hJ
  refine sk_Vi (q0 := 0) (n := 0) (rest := []) (wr := ux) ⟨hx, hb, hml, hown, hts⟩ hl.1 (mc_undo l D cI cJ cC cZ cS mm tl tb dy L nS lg ac su hn hR sd rf pn pB xf xp mw hk hJ) w_8_118 w_8_119 w_8_120 w_1_14 w_8_121 (by decide +kernel) ⟨⟨(Nat.le_of_ble_eq_true rfl), (Nat.le_of_ble_eq_true rfl)⟩, (Nat.le_of_ble_eq_true rfl), (Nat.le_of_ble_eq_true rfl)⟩ hK hP hD hS hA (idx 0 mw) (idx mw.length ux) (idx_C mw ux) (idx_R mw ux) (idx_nd 0 mw) (idx_nd _ ux) (idx_dis mw ux) hdm rfl rfl rfl (Nat.le_of_ble_eq_true rfl) dL_law_1056 (fun rm um H locs hw hP hD hS => ?_)
  obtain ⟨nSm, acm, rfm, hJ2, hkm⟩ := hw
  obtain ⟨hre, rfl, rfl, rfl⟩ := undoR_eq hkx hkm
  have hk2 := kOk_s hk (undoR_ok hkx hk.2.2.2.2.1)
  refine lv_pop hx hb dL_law_1059 rfl ?_
  refine lv_goto (tgt := 1171) hx hb dL_law_1060 (by decide) ?_
  exact K _ _ _ _ _ _ _ _ _ _ _ _ _ _ _ _ _ _ _ _ _ hk2 hI2 hJ2 hP hD hS hl
theorem dg_L_law_1063_1063 : bqL cL_law 1063 [(0, [43]), (1, [42]), (2, [29]), (3, [4]), (4, [96]), (5, [46]), (6, [182, 0, 157]), (9, [87]), (10, [44]), (11, [42]), (12, [29]), (13, [4]), (14, [96]), (15, [46]), (16, [182, 0, 160]), (19, [87]), (20, [167, 0, 88])] = true := by decide +kernel
theorem dL_law_1063 : decode cL_law 1063 = .ok (.aload_n 1, 1) := q_aload_n1 (bat_get dg_L_law_1063_1063 0 rfl rfl)
theorem dL_law_1064 : decode cL_law 1064 = .ok (.aload_n 0, 1) := q_aload_n0 (bat_get dg_L_law_1063_1063 1 rfl rfl)
theorem dL_law_1065 : decode cL_law 1065 = .ok (.iload_n 3, 1) := q_iload_n3 (bat_get dg_L_law_1063_1063 2 rfl rfl)
theorem dL_law_1066 : decode cL_law 1066 = .ok (.iconst 1, 1) := q_iconst1 (bat_get dg_L_law_1063_1063 3 rfl rfl)
theorem dL_law_1067 : decode cL_law 1067 = .ok (.iadd, 1) := q_iadd (bat_get dg_L_law_1063_1063 4 rfl rfl)
theorem dL_law_1068 : decode cL_law 1068 = .ok (.iaload, 1) := q_iaload (bat_get dg_L_law_1063_1063 5 rfl rfl)
theorem dL_law_1069 : decode cL_law 1069 = .ok (.invokevirtual 157, 3) := q_invokevirtual (bat_get dg_L_law_1063_1063 6 rfl rfl) rfl
theorem dL_law_1072 : decode cL_law 1072 = .ok (.pop, 1) := q_pop (bat_get dg_L_law_1063_1063 7 rfl rfl)
theorem dL_law_1073 : decode cL_law 1073 = .ok (.aload_n 2, 1) := q_aload_n2 (bat_get dg_L_law_1063_1063 8 rfl rfl)
theorem dL_law_1074 : decode cL_law 1074 = .ok (.aload_n 0, 1) := q_aload_n0 (bat_get dg_L_law_1063_1063 9 rfl rfl)
theorem dL_law_1075 : decode cL_law 1075 = .ok (.iload_n 3, 1) := q_iload_n3 (bat_get dg_L_law_1063_1063 10 rfl rfl)
theorem dL_law_1076 : decode cL_law 1076 = .ok (.iconst 1, 1) := q_iconst1 (bat_get dg_L_law_1063_1063 11 rfl rfl)
theorem dL_law_1077 : decode cL_law 1077 = .ok (.iadd, 1) := q_iadd (bat_get dg_L_law_1063_1063 12 rfl rfl)
theorem dL_law_1078 : decode cL_law 1078 = .ok (.iaload, 1) := q_iaload (bat_get dg_L_law_1063_1063 13 rfl rfl)
theorem dL_law_1079 : decode cL_law 1079 = .ok (.invokevirtual 160, 3) := q_invokevirtual (bat_get dg_L_law_1063_1063 14 rfl rfl) rfl
theorem dL_law_1082 : decode cL_law 1082 = .ok (.pop, 1) := q_pop (bat_get dg_L_law_1063_1063 15 rfl rfl)
theorem dL_law_1083 : decode cL_law 1083 = .ok (.goto 88, 3) := q_goto (bat_get dg_L_law_1063_1063 16 rfl rfl) rfl
theorem w_5_55 : (Cond.methodLink RL 157 yX11_seed) ∈ wsL_law := sk_mem (ck_5 _ (List.mem_of_getElem? (i := 55) rfl)) rfl
theorem w_5_56 : (Cond.instanceMethod yX11_seed) ∈ wsL_law := sk_mem (ck_5 _ (List.mem_of_getElem? (i := 56) rfl)) rfl
theorem w_5_57 : (Cond.selects RX11 yX11_seed yX11_seed) ∈ wsL_law := sk_mem (ck_5 _ (List.mem_of_getElem? (i := 57) rfl)) rfl
theorem w_8_142 : (Cond.methodLink RL 160 yX12_seed) ∈ wsL_law := sk_mem (ck_8 _ (List.mem_of_getElem? (i := 142) rfl)) rfl
theorem w_8_143 : (Cond.instanceMethod yX12_seed) ∈ wsL_law := sk_mem (ck_8 _ (List.mem_of_getElem? (i := 143) rfl)) rfl
theorem w_8_144 : (Cond.selects RX12 yX12_seed yX12_seed) ∈ wsL_law := sk_mem (ck_8 _ (List.mem_of_getElem? (i := 144) rfl)) rfl
set_option maxHeartbeats 4000000 in
set_option maxRecDepth 100000 in
theorem law_33 (l : Launch) (D : va_G) (cI cJ cC cZ cS : ClassId) (zk zv : Nat) (zf : Value) (x0 mm i : Nat) (tl : Nat) (tb : Nat → Nat) (dy : Nat) (L : LkS) (nS : KN) (lg : KLg) (ac : Nat) (su : Nat → KN) (hn : Nat) (hR : Nat → Nat) (sd : Nat) (rf : Nat → Int32) (pn : Nat) (pB : Nat → Nat) (xf : Int32) (xp : Int32) (xw mw : va_W) {p : Program} {e : Env} {s : State} {m : MethodId} {below : List Frame} {meth : Method} {c : Code} {b Ln : Nat} {xs : Nat → Int32} {A : Nat → Prop} {H : Heap} {locs : List Loc} {ls : Array Slot} (E : lwE p s m meth c b Ln xs zk zv zf D (skT cI cJ cC cZ cS) A) (hi6 : i + 6 ≤ Ln) (hk : kOk L dy nS lg ac su hn hR sd) (hI : xI cI cJ cC cZ cS x0 tl tb dy L nS lg ac su hn hR sd rf pn pB xf xp xw) (hJ : mI cI cJ cC cZ cS mm tl tb dy L nS lg ac su hn hR sd rf pn pB xf xp mw) (hP : va_P D vwCl (xw ++ mw) H) (hD : va_D A (xw ++ mw)) (hS : va_S A s.heap H locs) (hl : lv_has ls 4 [(3, .int (nI i)), (2, .ref mm), (1, .ref x0), (0, .ref b)]) (K : ∀ (tl : Nat) (tb : Nat → Nat) (dy : Nat) (L : LkS) (nS : KN) (lg : KLg) (ac : Nat) (su : Nat → KN) (hn : Nat) (hR : Nat → Nat) (sd : Nat) (rf : Nat → Int32) (pn : Nat) (pB : Nat → Nat) (xf : Int32) (xp : Int32) (xw mw : va_W) (H : Heap) (locs : List Loc) (ls : Array Slot), kOk L dy nS lg ac su hn hR sd → xI cI cJ cC cZ cS x0 tl tb dy L nS lg ac su hn hR sd rf pn pB xf xp xw → mI cI cJ cC cZ cS mm tl tb dy L nS lg ac su hn hR sd rf pn pB xf xp mw → va_P D vwCl (xw ++ mw) H → va_D A (xw ++ mw) → va_S A s.heap H locs → lv_has ls 4 [(3, .int (nI i)), (2, .ref mm), (1, .ref x0), (0, .ref b)] → W p l e room_1 s m #[Value.ref b] below meth c H locs 182 32192 (lw_Z below #[Value.ref b] s) (F0 m 1171 ls [])) : W p l e room_1 s m #[Value.ref b] below meth c H locs 182 32192 (lw_Z below #[Value.ref b] s) (F0 m 1063 ls []) := by
  obtain ⟨hx, hb, hr, hml, hlocks, hown, hts, hX, hbl, hA, hbA, hAf, hK, hZ, hL⟩ := id E
  refine lv_aload_n hx hb dL_law_1063 rfl (lv_at hl 2 rfl) ?_
  refine lv_aload_n hx hb dL_law_1064 rfl (lv_at hl 3 rfl) ?_
  refine lv_iload_n hx hb dL_law_1065 rfl (lv_at hl 0 rfl) ?_
  refine lv_iconst (v := 1) hx hb dL_law_1066 ic_1 ?_
  refine lv_iadd hx hb dL_law_1067 ?_
  refine sk_top (nI (i + 1)) (nI_add i 1) ?_
  refine va_sld hx hb hX hbl hbA hS (vin (i + 1) Ln (by omega) (by omega)) dL_law_1068 ?_
  obtain ⟨_, hdx⟩ := xI_head hI
  refine sk_Vi (q0 := 0) (n := 1) (rest := []) (wr := mw) ⟨hx, hb, hml, hown, hts⟩ hl.1 (xc_seed l D cI cJ cC cZ cS x0 tl tb dy L nS lg ac su hn hR sd rf pn pB xf xp xw (xs (nI (i + 1)).toNatClampNeg) hk hI) w_5_55 w_5_56 w_5_57 w_1_1 w_5_58 (by decide +kernel) ⟨⟨(Nat.le_of_ble_eq_true rfl), (Nat.le_of_ble_eq_true rfl)⟩, (Nat.le_of_ble_eq_true rfl), (Nat.le_of_ble_eq_true rfl)⟩ hK hP hD hS hA (idx 0 xw) (idx xw.length mw) (idx_C xw mw) (idx_R xw mw) (idx_nd 0 xw) (idx_nd _ mw) (idx_dis xw mw) hdx rfl rfl rfl (Nat.le_of_ble_eq_true rfl) dL_law_1069 (fun rx ux H locs hw hP hD hS => ?_)
  obtain ⟨sdx, rfx, hI2, hkx⟩ := hw
  have hP : va_P D vwCl (mw ++ ux) H := hP
  refine lv_pop hx hb dL_law_1072 rfl ?_
  refine lv_aload_n hx hb dL_law_1073 rfl (lv_at hl 1 rfl) ?_
  refine lv_aload_n hx hb dL_law_1074 rfl (lv_at hl 3 rfl) ?_
  refine lv_iload_n hx hb dL_law_1075 rfl (lv_at hl 0 rfl) ?_
  refine lv_iconst (v := 1) hx hb dL_law_1076 ic_1 ?_
  refine lv_iadd hx hb dL_law_1077 ?_
  refine sk_top (nI (i + 1)) (nI_add i 1) ?_
  refine va_sld hx hb hX hbl hbA hS (vin (i + 1) Ln (by omega) (by omega)) dL_law_1078 ?_
  obtain ⟨_, hdm⟩ := mI_head hJ
  refine sk_Vi (q0 := 0) (n := 1) (rest := []) (wr := ux) ⟨hx, hb, hml, hown, hts⟩ hl.1 (mc_seed l D cI cJ cC cZ cS mm tl tb dy L nS lg ac su hn hR sd rf pn pB xf xp mw (xs (nI (i + 1)).toNatClampNeg) hk hJ) w_8_142 w_8_143 w_8_144 w_1_14 w_8_145 (by decide +kernel) ⟨⟨(Nat.le_of_ble_eq_true rfl), (Nat.le_of_ble_eq_true rfl)⟩, (Nat.le_of_ble_eq_true rfl), (Nat.le_of_ble_eq_true rfl)⟩ hK hP hD hS hA (idx 0 mw) (idx mw.length ux) (idx_C mw ux) (idx_R mw ux) (idx_nd 0 mw) (idx_nd _ ux) (idx_dis mw ux) hdm rfl rfl rfl (Nat.le_of_ble_eq_true rfl) dL_law_1079 (fun rm um H locs hw hP hD hS => ?_)
  obtain ⟨sdm, rfm, hJ2, hkm⟩ := hw
  obtain ⟨hre, rfl, rfl⟩ := seedR_eq hkx hkm
  have hk2 := kOk_d hk (seedR_ok hkx hk.2.2.2.2.2.2.2.2)
  refine lv_pop hx hb dL_law_1082 rfl ?_
  refine lv_goto (tgt := 1171) hx hb dL_law_1083 (by decide) ?_
  exact K _ _ _ _ _ _ _ _ _ _ _ _ _ _ _ _ _ _ _ _ _ hk2 hI2 hJ2 hP hD hS hl
theorem dg_L_law_1086_1086 : bqL cL_law 1086 [(0, [43]), (1, [182, 0, 161]), (4, [88]), (5, [44]), (6, [182, 0, 164]), (9, [88]), (10, [167, 0, 75])] = true := by decide +kernel
theorem dL_law_1086 : decode cL_law 1086 = .ok (.aload_n 1, 1) := q_aload_n1 (bat_get dg_L_law_1086_1086 0 rfl rfl)
theorem dL_law_1087 : decode cL_law 1087 = .ok (.invokevirtual 161, 3) := q_invokevirtual (bat_get dg_L_law_1086_1086 1 rfl rfl) rfl
theorem dL_law_1090 : decode cL_law 1090 = .ok (.pop2, 1) := q_pop2 (bat_get dg_L_law_1086_1086 2 rfl rfl)
theorem dL_law_1091 : decode cL_law 1091 = .ok (.aload_n 2, 1) := q_aload_n2 (bat_get dg_L_law_1086_1086 3 rfl rfl)
theorem dL_law_1092 : decode cL_law 1092 = .ok (.invokevirtual 164, 3) := q_invokevirtual (bat_get dg_L_law_1086_1086 4 rfl rfl) rfl
theorem dL_law_1095 : decode cL_law 1095 = .ok (.pop2, 1) := q_pop2 (bat_get dg_L_law_1086_1086 5 rfl rfl)
theorem dL_law_1096 : decode cL_law 1096 = .ok (.goto 75, 3) := q_goto (bat_get dg_L_law_1086_1086 6 rfl rfl) rfl
theorem w_5_59 : (Cond.methodLink RL 161 yX11_ask) ∈ wsL_law := sk_mem (ck_5 _ (List.mem_of_getElem? (i := 59) rfl)) rfl
theorem w_5_60 : (Cond.instanceMethod yX11_ask) ∈ wsL_law := sk_mem (ck_5 _ (List.mem_of_getElem? (i := 60) rfl)) rfl
theorem w_5_61 : (Cond.selects RX11 yX11_ask yX11_ask) ∈ wsL_law := sk_mem (ck_5 _ (List.mem_of_getElem? (i := 61) rfl)) rfl
theorem w_8_163 : (Cond.methodLink RL 164 yX12_ask) ∈ wsL_law := sk_mem (ck_8 _ (List.mem_of_getElem? (i := 163) rfl)) rfl
theorem w_8_164 : (Cond.instanceMethod yX12_ask) ∈ wsL_law := sk_mem (ck_8 _ (List.mem_of_getElem? (i := 164) rfl)) rfl
theorem w_8_165 : (Cond.selects RX12 yX12_ask yX12_ask) ∈ wsL_law := sk_mem (ck_8 _ (List.mem_of_getElem? (i := 165) rfl)) rfl
set_option maxHeartbeats 4000000 in
set_option maxRecDepth 100000 in
theorem law_34 (l : Launch) (D : va_G) (cI cJ cC cZ cS : ClassId) (zk zv : Nat) (zf : Value) (x0 mm i : Nat) (tl : Nat) (tb : Nat → Nat) (dy : Nat) (L : LkS) (nS : KN) (lg : KLg) (ac : Nat) (su : Nat → KN) (hn : Nat) (hR : Nat → Nat) (sd : Nat) (rf : Nat → Int32) (pn : Nat) (pB : Nat → Nat) (xf : Int32) (xp : Int32) (xw mw : va_W) {p : Program} {e : Env} {s : State} {m : MethodId} {below : List Frame} {meth : Method} {c : Code} {b Ln : Nat} {xs : Nat → Int32} {A : Nat → Prop} {H : Heap} {locs : List Loc} {ls : Array Slot} (E : lwE p s m meth c b Ln xs zk zv zf D (skT cI cJ cC cZ cS) A) (hi6 : i + 6 ≤ Ln) (hk : kOk L dy nS lg ac su hn hR sd) (hI : xI cI cJ cC cZ cS x0 tl tb dy L nS lg ac su hn hR sd rf pn pB xf xp xw) (hJ : mI cI cJ cC cZ cS mm tl tb dy L nS lg ac su hn hR sd rf pn pB xf xp mw) (hP : va_P D vwCl (xw ++ mw) H) (hD : va_D A (xw ++ mw)) (hS : va_S A s.heap H locs) (hl : lv_has ls 4 [(3, .int (nI i)), (2, .ref mm), (1, .ref x0), (0, .ref b)]) (K : ∀ (tl : Nat) (tb : Nat → Nat) (dy : Nat) (L : LkS) (nS : KN) (lg : KLg) (ac : Nat) (su : Nat → KN) (hn : Nat) (hR : Nat → Nat) (sd : Nat) (rf : Nat → Int32) (pn : Nat) (pB : Nat → Nat) (xf : Int32) (xp : Int32) (xw mw : va_W) (H : Heap) (locs : List Loc) (ls : Array Slot), kOk L dy nS lg ac su hn hR sd → xI cI cJ cC cZ cS x0 tl tb dy L nS lg ac su hn hR sd rf pn pB xf xp xw → mI cI cJ cC cZ cS mm tl tb dy L nS lg ac su hn hR sd rf pn pB xf xp mw → va_P D vwCl (xw ++ mw) H → va_D A (xw ++ mw) → va_S A s.heap H locs → lv_has ls 4 [(3, .int (nI i)), (2, .ref mm), (1, .ref x0), (0, .ref b)] → W p l e room_1 s m #[Value.ref b] below meth c H locs 182 32192 (lw_Z below #[Value.ref b] s) (F0 m 1171 ls [])) : W p l e room_1 s m #[Value.ref b] below meth c H locs 182 32192 (lw_Z below #[Value.ref b] s) (F0 m 1086 ls []) := by
  obtain ⟨hx, hb, hr, hml, hlocks, hown, hts, hX, hbl, hA, hbA, hAf, hK, hZ, hL⟩ := id E
  refine lv_aload_n hx hb dL_law_1086 rfl (lv_at hl 2 rfl) ?_
  obtain ⟨_, hdx⟩ := xI_head hI
  refine sk_VlZ (q0 := 0) (n := 0) (rest := []) (wr := mw) ⟨hx, hb, hml, hown, hts⟩ hl.1 (xc_ask l D cI cJ cC cZ cS zk zv zf x0 tl tb dy L nS lg ac su hn hR sd rf pn pB xf xp xw hk hI) w_5_59 w_5_60 w_5_61 w_1_1 w_5_62 (by decide +kernel) ⟨⟨(Nat.le_of_ble_eq_true rfl), (Nat.le_of_ble_eq_true rfl)⟩, (Nat.le_of_ble_eq_true rfl), (Nat.le_of_ble_eq_true rfl)⟩ hK hP hD hS hZ hA (idx 0 xw) (idx xw.length mw) (idx_C xw mw) (idx_R xw mw) (idx_nd 0 xw) (idx_nd _ mw) (idx_dis xw mw) hdx rfl rfl rfl (Nat.le_of_ble_eq_true rfl) dL_law_1087 (fun rx ux H locs hw hP hD hS => ?_)
  obtain ⟨xfx, xpx, hI2, hkx⟩ := hw
  have hP : va_P D vwCl (mw ++ ux) H := hP
  refine lv_pop2_2 hx hb dL_law_1090 rfl ?_
  refine lv_aload_n hx hb dL_law_1091 rfl (lv_at hl 1 rfl) ?_
  obtain ⟨_, hdm⟩ := mI_head hJ
  refine sk_Vl (q0 := 0) (n := 0) (rest := []) (wr := ux) ⟨hx, hb, hml, hown, hts⟩ hl.1 (mc_ask l D cI cJ cC cZ cS mm tl tb dy L nS lg ac su hn hR sd rf pn pB xf xp mw hk hJ) w_8_163 w_8_164 w_8_165 w_1_14 w_8_166 (by decide +kernel) ⟨⟨(Nat.le_of_ble_eq_true rfl), (Nat.le_of_ble_eq_true rfl)⟩, (Nat.le_of_ble_eq_true rfl), (Nat.le_of_ble_eq_true rfl)⟩ hK hP hD hS hA (idx 0 mw) (idx mw.length ux) (idx_C mw ux) (idx_R mw ux) (idx_nd 0 mw) (idx_nd _ ux) (idx_dis mw ux) hdm rfl rfl rfl (Nat.le_of_ble_eq_true rfl) dL_law_1092 (fun rm um H locs hw hP hD hS => ?_)
  obtain ⟨xfm, xpm, hJ2, hkm⟩ := hw
  obtain ⟨rfl, rfl⟩ := askR_eq hkx hkm
  have hk2 := hk
  refine lv_pop2_2 hx hb dL_law_1095 rfl ?_
  refine lv_goto (tgt := 1171) hx hb dL_law_1096 (by decide) ?_
  exact K _ _ _ _ _ _ _ _ _ _ _ _ _ _ _ _ _ _ _ _ _ hk2 hI2 hJ2 hP hD hS hl
theorem dg_L_law_1099_1099 : bqL cL_law 1099 [(0, [43]), (1, [182, 0, 165]), (4, [87]), (5, [44]), (6, [182, 0, 168]), (9, [87]), (10, [167, 0, 62])] = true := by decide +kernel
theorem dL_law_1099 : decode cL_law 1099 = .ok (.aload_n 1, 1) := q_aload_n1 (bat_get dg_L_law_1099_1099 0 rfl rfl)
theorem dL_law_1100 : decode cL_law 1100 = .ok (.invokevirtual 165, 3) := q_invokevirtual (bat_get dg_L_law_1099_1099 1 rfl rfl) rfl
theorem dL_law_1103 : decode cL_law 1103 = .ok (.pop, 1) := q_pop (bat_get dg_L_law_1099_1099 2 rfl rfl)
theorem dL_law_1104 : decode cL_law 1104 = .ok (.aload_n 2, 1) := q_aload_n2 (bat_get dg_L_law_1099_1099 3 rfl rfl)
theorem dL_law_1105 : decode cL_law 1105 = .ok (.invokevirtual 168, 3) := q_invokevirtual (bat_get dg_L_law_1099_1099 4 rfl rfl) rfl
theorem dL_law_1108 : decode cL_law 1108 = .ok (.pop, 1) := q_pop (bat_get dg_L_law_1099_1099 5 rfl rfl)
theorem dL_law_1109 : decode cL_law 1109 = .ok (.goto 62, 3) := q_goto (bat_get dg_L_law_1099_1099 6 rfl rfl) rfl
theorem w_5_123 : (Cond.methodLink RL 165 yX11_image) ∈ wsL_law := sk_mem (ck_5 _ (List.mem_of_getElem? (i := 123) rfl)) rfl
theorem w_5_124 : (Cond.instanceMethod yX11_image) ∈ wsL_law := sk_mem (ck_5 _ (List.mem_of_getElem? (i := 124) rfl)) rfl
theorem w_5_125 : (Cond.selects RX11 yX11_image yX11_image) ∈ wsL_law := sk_mem (ck_5 _ (List.mem_of_getElem? (i := 125) rfl)) rfl
theorem w_8_203 : (Cond.methodLink RL 168 yX12_image) ∈ wsL_law := sk_mem (ck_8 _ (List.mem_of_getElem? (i := 203) rfl)) rfl
theorem w_8_204 : (Cond.instanceMethod yX12_image) ∈ wsL_law := sk_mem (ck_8 _ (List.mem_of_getElem? (i := 204) rfl)) rfl
theorem w_8_205 : (Cond.selects RX12 yX12_image yX12_image) ∈ wsL_law := sk_mem (ck_8 _ (List.mem_of_getElem? (i := 205) rfl)) rfl
set_option maxHeartbeats 4000000 in
set_option maxRecDepth 100000 in
theorem law_35 (l : Launch) (D : va_G) (cI cJ cC cZ cS : ClassId) (zk zv : Nat) (zf : Value) (x0 mm i : Nat) (tl : Nat) (tb : Nat → Nat) (dy : Nat) (L : LkS) (nS : KN) (lg : KLg) (ac : Nat) (su : Nat → KN) (hn : Nat) (hR : Nat → Nat) (sd : Nat) (rf : Nat → Int32) (pn : Nat) (pB : Nat → Nat) (xf : Int32) (xp : Int32) (xw mw : va_W) {p : Program} {e : Env} {s : State} {m : MethodId} {below : List Frame} {meth : Method} {c : Code} {b Ln : Nat} {xs : Nat → Int32} {A : Nat → Prop} {H : Heap} {locs : List Loc} {ls : Array Slot} (E : lwE p s m meth c b Ln xs zk zv zf D (skT cI cJ cC cZ cS) A) (hi6 : i + 6 ≤ Ln) (hk : kOk L dy nS lg ac su hn hR sd) (hI : xI cI cJ cC cZ cS x0 tl tb dy L nS lg ac su hn hR sd rf pn pB xf xp xw) (hJ : mI cI cJ cC cZ cS mm tl tb dy L nS lg ac su hn hR sd rf pn pB xf xp mw) (hP : va_P D vwCl (xw ++ mw) H) (hD : va_D A (xw ++ mw)) (hS : va_S A s.heap H locs) (hl : lv_has ls 4 [(3, .int (nI i)), (2, .ref mm), (1, .ref x0), (0, .ref b)]) (K : ∀ (tl : Nat) (tb : Nat → Nat) (dy : Nat) (L : LkS) (nS : KN) (lg : KLg) (ac : Nat) (su : Nat → KN) (hn : Nat) (hR : Nat → Nat) (sd : Nat) (rf : Nat → Int32) (pn : Nat) (pB : Nat → Nat) (xf : Int32) (xp : Int32) (xw mw : va_W) (H : Heap) (locs : List Loc) (ls : Array Slot), kOk L dy nS lg ac su hn hR sd → xI cI cJ cC cZ cS x0 tl tb dy L nS lg ac su hn hR sd rf pn pB xf xp xw → mI cI cJ cC cZ cS mm tl tb dy L nS lg ac su hn hR sd rf pn pB xf xp mw → va_P D vwCl (xw ++ mw) H → va_D A (xw ++ mw) → va_S A s.heap H locs → lv_has ls 4 [(3, .int (nI i)), (2, .ref mm), (1, .ref x0), (0, .ref b)] → W p l e room_1 s m #[Value.ref b] below meth c H locs 182 32192 (lw_Z below #[Value.ref b] s) (F0 m 1171 ls [])) : W p l e room_1 s m #[Value.ref b] below meth c H locs 182 32192 (lw_Z below #[Value.ref b] s) (F0 m 1099 ls []) := by
  obtain ⟨hx, hb, hr, hml, hlocks, hown, hts, hX, hbl, hA, hbA, hAf, hK, hZ, hL⟩ := id E
  refine lv_aload_n hx hb dL_law_1099 rfl (lv_at hl 2 rfl) ?_
  obtain ⟨_, hdx⟩ := xI_head hI
  refine sk_Vi (q0 := 0) (n := 0) (rest := []) (wr := mw) ⟨hx, hb, hml, hown, hts⟩ hl.1 (xc_image l D cI cJ cC cZ cS x0 tl tb dy L nS lg ac su hn hR sd rf pn pB xf xp xw hk hI) w_5_123 w_5_124 w_5_125 w_1_1 w_5_126 (by decide +kernel) ⟨⟨(Nat.le_of_ble_eq_true rfl), (Nat.le_of_ble_eq_true rfl)⟩, (Nat.le_of_ble_eq_true rfl), (Nat.le_of_ble_eq_true rfl)⟩ hK hP hD hS hA (idx 0 xw) (idx xw.length mw) (idx_C xw mw) (idx_R xw mw) (idx_nd 0 xw) (idx_nd _ mw) (idx_dis xw mw) hdx rfl rfl rfl (Nat.le_of_ble_eq_true rfl) dL_law_1100 (fun rx ux H locs hw hP hD hS => ?_)
  obtain ⟨hI2, hkx⟩ := hw
  have hP : va_P D vwCl (mw ++ ux) H := hP
  refine lv_pop hx hb dL_law_1103 rfl ?_
  refine lv_aload_n hx hb dL_law_1104 rfl (lv_at hl 1 rfl) ?_
  obtain ⟨_, hdm⟩ := mI_head hJ
  refine sk_Vi (q0 := 0) (n := 0) (rest := []) (wr := ux) ⟨hx, hb, hml, hown, hts⟩ hl.1 (mc_image l D cI cJ cC cZ cS mm tl tb dy L nS lg ac su hn hR sd rf pn pB xf xp mw hk hJ) w_8_203 w_8_204 w_8_205 w_1_14 w_8_206 (by decide +kernel) ⟨⟨(Nat.le_of_ble_eq_true rfl), (Nat.le_of_ble_eq_true rfl)⟩, (Nat.le_of_ble_eq_true rfl), (Nat.le_of_ble_eq_true rfl)⟩ hK hP hD hS hA (idx 0 mw) (idx mw.length ux) (idx_C mw ux) (idx_R mw ux) (idx_nd 0 mw) (idx_nd _ ux) (idx_dis mw ux) hdm rfl rfl rfl (Nat.le_of_ble_eq_true rfl) dL_law_1105 (fun rm um H locs hw hP hD hS => ?_)
  obtain ⟨hJ2, hkm⟩ := hw
  have hre := hkx.trans hkm.symm
  have hk2 := hk
  refine lv_pop hx hb dL_law_1108 rfl ?_
  refine lv_goto (tgt := 1171) hx hb dL_law_1109 (by decide) ?_
  exact K _ _ _ _ _ _ _ _ _ _ _ _ _ _ _ _ _ _ _ _ _ hk2 hI2 hJ2 hP hD hS hl
theorem dg_L_law_1112_1112 : bqL cL_law 1112 [(0, [43]), (1, [42]), (2, [29]), (3, [4]), (4, [96]), (5, [46]), (6, [182, 0, 169]), (9, [44]), (10, [42]), (11, [29]), (12, [4]), (13, [96]), (14, [46]), (15, [182, 0, 172]), (18, [159, 0, 41])] = true := by decide +kernel
theorem dL_law_1112 : decode cL_law 1112 = .ok (.aload_n 1, 1) := q_aload_n1 (bat_get dg_L_law_1112_1112 0 rfl rfl)
theorem dL_law_1113 : decode cL_law 1113 = .ok (.aload_n 0, 1) := q_aload_n0 (bat_get dg_L_law_1112_1112 1 rfl rfl)
theorem dL_law_1114 : decode cL_law 1114 = .ok (.iload_n 3, 1) := q_iload_n3 (bat_get dg_L_law_1112_1112 2 rfl rfl)
theorem dL_law_1115 : decode cL_law 1115 = .ok (.iconst 1, 1) := q_iconst1 (bat_get dg_L_law_1112_1112 3 rfl rfl)
theorem dL_law_1116 : decode cL_law 1116 = .ok (.iadd, 1) := q_iadd (bat_get dg_L_law_1112_1112 4 rfl rfl)
theorem dL_law_1117 : decode cL_law 1117 = .ok (.iaload, 1) := q_iaload (bat_get dg_L_law_1112_1112 5 rfl rfl)
theorem dL_law_1118 : decode cL_law 1118 = .ok (.invokevirtual 169, 3) := q_invokevirtual (bat_get dg_L_law_1112_1112 6 rfl rfl) rfl
theorem dL_law_1121 : decode cL_law 1121 = .ok (.aload_n 2, 1) := q_aload_n2 (bat_get dg_L_law_1112_1112 7 rfl rfl)
theorem dL_law_1122 : decode cL_law 1122 = .ok (.aload_n 0, 1) := q_aload_n0 (bat_get dg_L_law_1112_1112 8 rfl rfl)
theorem dL_law_1123 : decode cL_law 1123 = .ok (.iload_n 3, 1) := q_iload_n3 (bat_get dg_L_law_1112_1112 9 rfl rfl)
theorem dL_law_1124 : decode cL_law 1124 = .ok (.iconst 1, 1) := q_iconst1 (bat_get dg_L_law_1112_1112 10 rfl rfl)
theorem dL_law_1125 : decode cL_law 1125 = .ok (.iadd, 1) := q_iadd (bat_get dg_L_law_1112_1112 11 rfl rfl)
theorem dL_law_1126 : decode cL_law 1126 = .ok (.iaload, 1) := q_iaload (bat_get dg_L_law_1112_1112 12 rfl rfl)
theorem dL_law_1127 : decode cL_law 1127 = .ok (.invokevirtual 172, 3) := q_invokevirtual (bat_get dg_L_law_1112_1112 13 rfl rfl) rfl
theorem dL_law_1130 : decode cL_law 1130 = .ok (.if_icmp .eq 41, 3) := q_if_icmp_eq (bat_get dg_L_law_1112_1112 14 rfl rfl) rfl
theorem w_5_133 : (Cond.methodLink RL 169 yX11_octet) ∈ wsL_law := sk_mem (ck_5 _ (List.mem_of_getElem? (i := 133) rfl)) rfl
theorem w_5_134 : (Cond.instanceMethod yX11_octet) ∈ wsL_law := sk_mem (ck_5 _ (List.mem_of_getElem? (i := 134) rfl)) rfl
theorem w_5_135 : (Cond.selects RX11 yX11_octet yX11_octet) ∈ wsL_law := sk_mem (ck_5 _ (List.mem_of_getElem? (i := 135) rfl)) rfl
theorem w_8_214 : (Cond.methodLink RL 172 yX12_octet) ∈ wsL_law := sk_mem (ck_8 _ (List.mem_of_getElem? (i := 214) rfl)) rfl
theorem w_8_215 : (Cond.instanceMethod yX12_octet) ∈ wsL_law := sk_mem (ck_8 _ (List.mem_of_getElem? (i := 215) rfl)) rfl
theorem w_8_216 : (Cond.selects RX12 yX12_octet yX12_octet) ∈ wsL_law := sk_mem (ck_8 _ (List.mem_of_getElem? (i := 216) rfl)) rfl
set_option maxHeartbeats 4000000 in
set_option maxRecDepth 100000 in
theorem law_36 (l : Launch) (D : va_G) (cI cJ cC cZ cS : ClassId) (zk zv : Nat) (zf : Value) (x0 mm i : Nat) (tl : Nat) (tb : Nat → Nat) (dy : Nat) (L : LkS) (nS : KN) (lg : KLg) (ac : Nat) (su : Nat → KN) (hn : Nat) (hR : Nat → Nat) (sd : Nat) (rf : Nat → Int32) (pn : Nat) (pB : Nat → Nat) (xf : Int32) (xp : Int32) (xw mw : va_W) {p : Program} {e : Env} {s : State} {m : MethodId} {below : List Frame} {meth : Method} {c : Code} {b Ln : Nat} {xs : Nat → Int32} {A : Nat → Prop} {H : Heap} {locs : List Loc} {ls : Array Slot} (E : lwE p s m meth c b Ln xs zk zv zf D (skT cI cJ cC cZ cS) A) (hi6 : i + 6 ≤ Ln) (hk : kOk L dy nS lg ac su hn hR sd) (hI : xI cI cJ cC cZ cS x0 tl tb dy L nS lg ac su hn hR sd rf pn pB xf xp xw) (hJ : mI cI cJ cC cZ cS mm tl tb dy L nS lg ac su hn hR sd rf pn pB xf xp mw) (hP : va_P D vwCl (xw ++ mw) H) (hD : va_D A (xw ++ mw)) (hS : va_S A s.heap H locs) (hl : lv_has ls 4 [(3, .int (nI i)), (2, .ref mm), (1, .ref x0), (0, .ref b)]) (K : ∀ (tl : Nat) (tb : Nat → Nat) (dy : Nat) (L : LkS) (nS : KN) (lg : KLg) (ac : Nat) (su : Nat → KN) (hn : Nat) (hR : Nat → Nat) (sd : Nat) (rf : Nat → Int32) (pn : Nat) (pB : Nat → Nat) (xf : Int32) (xp : Int32) (xw mw : va_W) (H : Heap) (locs : List Loc) (ls : Array Slot), kOk L dy nS lg ac su hn hR sd → xI cI cJ cC cZ cS x0 tl tb dy L nS lg ac su hn hR sd rf pn pB xf xp xw → mI cI cJ cC cZ cS mm tl tb dy L nS lg ac su hn hR sd rf pn pB xf xp mw → va_P D vwCl (xw ++ mw) H → va_D A (xw ++ mw) → va_S A s.heap H locs → lv_has ls 4 [(3, .int (nI i)), (2, .ref mm), (1, .ref x0), (0, .ref b)] → W p l e room_1 s m #[Value.ref b] below meth c H locs 182 32192 (lw_Z below #[Value.ref b] s) (F0 m 1171 ls [])) : W p l e room_1 s m #[Value.ref b] below meth c H locs 182 32192 (lw_Z below #[Value.ref b] s) (F0 m 1112 ls []) := by
  obtain ⟨hx, hb, hr, hml, hlocks, hown, hts, hX, hbl, hA, hbA, hAf, hK, hZ, hL⟩ := id E
  refine lv_aload_n hx hb dL_law_1112 rfl (lv_at hl 2 rfl) ?_
  refine lv_aload_n hx hb dL_law_1113 rfl (lv_at hl 3 rfl) ?_
  refine lv_iload_n hx hb dL_law_1114 rfl (lv_at hl 0 rfl) ?_
  refine lv_iconst (v := 1) hx hb dL_law_1115 ic_1 ?_
  refine lv_iadd hx hb dL_law_1116 ?_
  refine sk_top (nI (i + 1)) (nI_add i 1) ?_
  refine va_sld hx hb hX hbl hbA hS (vin (i + 1) Ln (by omega) (by omega)) dL_law_1117 ?_
  obtain ⟨_, hdx⟩ := xI_head hI
  refine sk_Vi (q0 := 0) (n := 1) (rest := []) (wr := mw) ⟨hx, hb, hml, hown, hts⟩ hl.1 (xc_octet l D cI cJ cC cZ cS x0 tl tb dy L nS lg ac su hn hR sd rf pn pB xf xp xw (xs (nI (i + 1)).toNatClampNeg) hk hI) w_5_133 w_5_134 w_5_135 w_1_1 w_5_136 (by decide +kernel) ⟨⟨(Nat.le_of_ble_eq_true rfl), (Nat.le_of_ble_eq_true rfl)⟩, (Nat.le_of_ble_eq_true rfl), (Nat.le_of_ble_eq_true rfl)⟩ hK hP hD hS hA (idx 0 xw) (idx xw.length mw) (idx_C xw mw) (idx_R xw mw) (idx_nd 0 xw) (idx_nd _ mw) (idx_dis xw mw) hdx rfl rfl rfl (Nat.le_of_ble_eq_true rfl) dL_law_1118 (fun rx ux H locs hw hP hD hS => ?_)
  obtain ⟨hI2, hkx⟩ := hw
  have hP : va_P D vwCl (mw ++ ux) H := hP
  refine lv_aload_n hx hb dL_law_1121 rfl (lv_at hl 1 rfl) ?_
  refine lv_aload_n hx hb dL_law_1122 rfl (lv_at hl 3 rfl) ?_
  refine lv_iload_n hx hb dL_law_1123 rfl (lv_at hl 0 rfl) ?_
  refine lv_iconst (v := 1) hx hb dL_law_1124 ic_1 ?_
  refine lv_iadd hx hb dL_law_1125 ?_
  refine sk_top (nI (i + 1)) (nI_add i 1) ?_
  refine va_sld hx hb hX hbl hbA hS (vin (i + 1) Ln (by omega) (by omega)) dL_law_1126 ?_
  obtain ⟨_, hdm⟩ := mI_head hJ
  refine sk_Vi (q0 := 0) (n := 1) (rest := [.int rx]) (wr := ux) ⟨hx, hb, hml, hown, hts⟩ hl.1 (mc_octet l D cI cJ cC cZ cS mm tl tb dy L nS lg ac su hn hR sd rf pn pB xf xp mw (xs (nI (i + 1)).toNatClampNeg) hk hJ) w_8_214 w_8_215 w_8_216 w_1_14 w_8_217 (by decide +kernel) ⟨⟨(Nat.le_of_ble_eq_true rfl), (Nat.le_of_ble_eq_true rfl)⟩, (Nat.le_of_ble_eq_true rfl), (Nat.le_of_ble_eq_true rfl)⟩ hK hP hD hS hA (idx 0 mw) (idx mw.length ux) (idx_C mw ux) (idx_R mw ux) (idx_nd 0 mw) (idx_nd _ ux) (idx_dis mw ux) hdm rfl rfl rfl (Nat.le_of_ble_eq_true rfl) dL_law_1127 (fun rm um H locs hw hP hD hS => ?_)
  obtain ⟨hJ2, hkm⟩ := hw
  have hre := octR_eq (xI_pn hI) hkx hkm
  have hk2 := hk
  refine lv_icmp_eq (tgt := 1171) hx hb dL_law_1130 (by decide) (fun _ => ?_) (fun c => absurd hre c)
  exact K _ _ _ _ _ _ _ _ _ _ _ _ _ _ _ _ _ _ _ _ _ hk2 hI2 hJ2 hP hD hS hl
theorem dg_L_law_1135_1135 : bqL cL_law 1135 [(0, [43]), (1, [182, 0, 173]), (4, [87]), (5, [44]), (6, [182, 0, 176]), (9, [87]), (10, [167, 0, 26])] = true := by decide +kernel
theorem dL_law_1135 : decode cL_law 1135 = .ok (.aload_n 1, 1) := q_aload_n1 (bat_get dg_L_law_1135_1135 0 rfl rfl)
theorem dL_law_1136 : decode cL_law 1136 = .ok (.invokevirtual 173, 3) := q_invokevirtual (bat_get dg_L_law_1135_1135 1 rfl rfl) rfl
theorem dL_law_1139 : decode cL_law 1139 = .ok (.pop, 1) := q_pop (bat_get dg_L_law_1135_1135 2 rfl rfl)
theorem dL_law_1140 : decode cL_law 1140 = .ok (.aload_n 2, 1) := q_aload_n2 (bat_get dg_L_law_1135_1135 3 rfl rfl)
theorem dL_law_1141 : decode cL_law 1141 = .ok (.invokevirtual 176, 3) := q_invokevirtual (bat_get dg_L_law_1135_1135 4 rfl rfl) rfl
theorem dL_law_1144 : decode cL_law 1144 = .ok (.pop, 1) := q_pop (bat_get dg_L_law_1135_1135 5 rfl rfl)
theorem dL_law_1145 : decode cL_law 1145 = .ok (.goto 26, 3) := q_goto (bat_get dg_L_law_1135_1135 6 rfl rfl) rfl
theorem w_5_137 : (Cond.methodLink RL 173 yX11_on) ∈ wsL_law := sk_mem (ck_5 _ (List.mem_of_getElem? (i := 137) rfl)) rfl
theorem w_5_138 : (Cond.instanceMethod yX11_on) ∈ wsL_law := sk_mem (ck_5 _ (List.mem_of_getElem? (i := 138) rfl)) rfl
theorem w_5_139 : (Cond.selects RX11 yX11_on yX11_on) ∈ wsL_law := sk_mem (ck_5 _ (List.mem_of_getElem? (i := 139) rfl)) rfl
theorem w_8_218 : (Cond.methodLink RL 176 yX12_on) ∈ wsL_law := sk_mem (ck_8 _ (List.mem_of_getElem? (i := 218) rfl)) rfl
theorem w_8_219 : (Cond.instanceMethod yX12_on) ∈ wsL_law := sk_mem (ck_8 _ (List.mem_of_getElem? (i := 219) rfl)) rfl
theorem w_8_220 : (Cond.selects RX12 yX12_on yX12_on) ∈ wsL_law := sk_mem (ck_8 _ (List.mem_of_getElem? (i := 220) rfl)) rfl
set_option maxHeartbeats 4000000 in
set_option maxRecDepth 100000 in
theorem law_37 (l : Launch) (D : va_G) (cI cJ cC cZ cS : ClassId) (zk zv : Nat) (zf : Value) (x0 mm i : Nat) (tl : Nat) (tb : Nat → Nat) (dy : Nat) (L : LkS) (nS : KN) (lg : KLg) (ac : Nat) (su : Nat → KN) (hn : Nat) (hR : Nat → Nat) (sd : Nat) (rf : Nat → Int32) (pn : Nat) (pB : Nat → Nat) (xf : Int32) (xp : Int32) (xw mw : va_W) {p : Program} {e : Env} {s : State} {m : MethodId} {below : List Frame} {meth : Method} {c : Code} {b Ln : Nat} {xs : Nat → Int32} {A : Nat → Prop} {H : Heap} {locs : List Loc} {ls : Array Slot} (E : lwE p s m meth c b Ln xs zk zv zf D (skT cI cJ cC cZ cS) A) (hi6 : i + 6 ≤ Ln) (hk : kOk L dy nS lg ac su hn hR sd) (hI : xI cI cJ cC cZ cS x0 tl tb dy L nS lg ac su hn hR sd rf pn pB xf xp xw) (hJ : mI cI cJ cC cZ cS mm tl tb dy L nS lg ac su hn hR sd rf pn pB xf xp mw) (hP : va_P D vwCl (xw ++ mw) H) (hD : va_D A (xw ++ mw)) (hS : va_S A s.heap H locs) (hl : lv_has ls 4 [(3, .int (nI i)), (2, .ref mm), (1, .ref x0), (0, .ref b)]) (K : ∀ (tl : Nat) (tb : Nat → Nat) (dy : Nat) (L : LkS) (nS : KN) (lg : KLg) (ac : Nat) (su : Nat → KN) (hn : Nat) (hR : Nat → Nat) (sd : Nat) (rf : Nat → Int32) (pn : Nat) (pB : Nat → Nat) (xf : Int32) (xp : Int32) (xw mw : va_W) (H : Heap) (locs : List Loc) (ls : Array Slot), kOk L dy nS lg ac su hn hR sd → xI cI cJ cC cZ cS x0 tl tb dy L nS lg ac su hn hR sd rf pn pB xf xp xw → mI cI cJ cC cZ cS mm tl tb dy L nS lg ac su hn hR sd rf pn pB xf xp mw → va_P D vwCl (xw ++ mw) H → va_D A (xw ++ mw) → va_S A s.heap H locs → lv_has ls 4 [(3, .int (nI i)), (2, .ref mm), (1, .ref x0), (0, .ref b)] → W p l e room_1 s m #[Value.ref b] below meth c H locs 182 32192 (lw_Z below #[Value.ref b] s) (F0 m 1171 ls [])) : W p l e room_1 s m #[Value.ref b] below meth c H locs 182 32192 (lw_Z below #[Value.ref b] s) (F0 m 1135 ls []) := by
  obtain ⟨hx, hb, hr, hml, hlocks, hown, hts, hX, hbl, hA, hbA, hAf, hK, hZ, hL⟩ := id E
  refine lv_aload_n hx hb dL_law_1135 rfl (lv_at hl 2 rfl) ?_
  obtain ⟨_, hdx⟩ := xI_head hI
  refine sk_Vi (q0 := 0) (n := 0) (rest := []) (wr := mw) ⟨hx, hb, hml, hown, hts⟩ hl.1 (xc_on l D cI cJ cC cZ cS x0 tl tb dy L nS lg ac su hn hR sd rf pn pB xf xp xw hk hI) w_5_137 w_5_138 w_5_139 w_1_1 w_5_140 (by decide +kernel) ⟨⟨(Nat.le_of_ble_eq_true rfl), (Nat.le_of_ble_eq_true rfl)⟩, (Nat.le_of_ble_eq_true rfl), (Nat.le_of_ble_eq_true rfl)⟩ hK hP hD hS hA (idx 0 xw) (idx xw.length mw) (idx_C xw mw) (idx_R xw mw) (idx_nd 0 xw) (idx_nd _ mw) (idx_dis xw mw) hdx rfl rfl rfl (Nat.le_of_ble_eq_true rfl) dL_law_1136 (fun rx ux H locs hw hP hD hS => ?_)
  obtain ⟨nSx, acx, rfx, hI2, hkx⟩ := hw
  have hP : va_P D vwCl (mw ++ ux) H := hP
  refine lv_pop hx hb dL_law_1139 rfl ?_
  refine lv_aload_n hx hb dL_law_1140 rfl (lv_at hl 1 rfl) ?_
  obtain ⟨_, hdm⟩ := mI_head hJ
  refine sk_Vi (q0 := 0) (n := 0) (rest := []) (wr := ux) ⟨hx, hb, hml, hown, hts⟩ hl.1 (mc_on l D cI cJ cC cZ cS mm tl tb dy L nS lg ac su hn hR sd rf pn pB xf xp mw hk hJ) w_8_218 w_8_219 w_8_220 w_1_14 w_8_221 (by decide +kernel) ⟨⟨(Nat.le_of_ble_eq_true rfl), (Nat.le_of_ble_eq_true rfl)⟩, (Nat.le_of_ble_eq_true rfl), (Nat.le_of_ble_eq_true rfl)⟩ hK hP hD hS hA (idx 0 mw) (idx mw.length ux) (idx_C mw ux) (idx_R mw ux) (idx_nd 0 mw) (idx_nd _ ux) (idx_dis mw ux) hdm rfl rfl rfl (Nat.le_of_ble_eq_true rfl) dL_law_1141 (fun rm um H locs hw hP hD hS => ?_)
  obtain ⟨nSm, acm, rfm, hJ2, hkm⟩ := hw
  obtain ⟨hre, rfl, rfl, rfl⟩ := onR_eq hkx hkm
  have hk2 := kOk_s hk (onR_ok hkx hk.2.2.2.2.1)
  refine lv_pop hx hb dL_law_1144 rfl ?_
  refine lv_goto (tgt := 1171) hx hb dL_law_1145 (by decide) ?_
  exact K _ _ _ _ _ _ _ _ _ _ _ _ _ _ _ _ _ _ _ _ _ hk2 hI2 hJ2 hP hD hS hl
theorem dg_L_law_1148_1148 : bqL cL_law 1148 [(0, [43]), (1, [42]), (2, [29]), (3, [4]), (4, [96]), (5, [46]), (6, [182, 0, 177]), (9, [87]), (10, [44]), (11, [42]), (12, [29]), (13, [4]), (14, [96]), (15, [46]), (16, [182, 0, 180]), (19, [87]), (20, [167, 0, 3])] = true := by decide +kernel
theorem dL_law_1148 : decode cL_law 1148 = .ok (.aload_n 1, 1) := q_aload_n1 (bat_get dg_L_law_1148_1148 0 rfl rfl)
theorem dL_law_1149 : decode cL_law 1149 = .ok (.aload_n 0, 1) := q_aload_n0 (bat_get dg_L_law_1148_1148 1 rfl rfl)
theorem dL_law_1150 : decode cL_law 1150 = .ok (.iload_n 3, 1) := q_iload_n3 (bat_get dg_L_law_1148_1148 2 rfl rfl)
theorem dL_law_1151 : decode cL_law 1151 = .ok (.iconst 1, 1) := q_iconst1 (bat_get dg_L_law_1148_1148 3 rfl rfl)
theorem dL_law_1152 : decode cL_law 1152 = .ok (.iadd, 1) := q_iadd (bat_get dg_L_law_1148_1148 4 rfl rfl)
theorem dL_law_1153 : decode cL_law 1153 = .ok (.iaload, 1) := q_iaload (bat_get dg_L_law_1148_1148 5 rfl rfl)
theorem dL_law_1154 : decode cL_law 1154 = .ok (.invokevirtual 177, 3) := q_invokevirtual (bat_get dg_L_law_1148_1148 6 rfl rfl) rfl
theorem dL_law_1157 : decode cL_law 1157 = .ok (.pop, 1) := q_pop (bat_get dg_L_law_1148_1148 7 rfl rfl)
theorem dL_law_1158 : decode cL_law 1158 = .ok (.aload_n 2, 1) := q_aload_n2 (bat_get dg_L_law_1148_1148 8 rfl rfl)
theorem dL_law_1159 : decode cL_law 1159 = .ok (.aload_n 0, 1) := q_aload_n0 (bat_get dg_L_law_1148_1148 9 rfl rfl)
theorem dL_law_1160 : decode cL_law 1160 = .ok (.iload_n 3, 1) := q_iload_n3 (bat_get dg_L_law_1148_1148 10 rfl rfl)
theorem dL_law_1161 : decode cL_law 1161 = .ok (.iconst 1, 1) := q_iconst1 (bat_get dg_L_law_1148_1148 11 rfl rfl)
theorem dL_law_1162 : decode cL_law 1162 = .ok (.iadd, 1) := q_iadd (bat_get dg_L_law_1148_1148 12 rfl rfl)
theorem dL_law_1163 : decode cL_law 1163 = .ok (.iaload, 1) := q_iaload (bat_get dg_L_law_1148_1148 13 rfl rfl)
theorem dL_law_1164 : decode cL_law 1164 = .ok (.invokevirtual 180, 3) := q_invokevirtual (bat_get dg_L_law_1148_1148 14 rfl rfl) rfl
theorem dL_law_1167 : decode cL_law 1167 = .ok (.pop, 1) := q_pop (bat_get dg_L_law_1148_1148 15 rfl rfl)
theorem dL_law_1168 : decode cL_law 1168 = .ok (.goto 3, 3) := q_goto (bat_get dg_L_law_1148_1148 16 rfl rfl) rfl
theorem w_5_145 : (Cond.methodLink RL 177 yX11_status) ∈ wsL_law := sk_mem (ck_5 _ (List.mem_of_getElem? (i := 145) rfl)) rfl
theorem w_5_146 : (Cond.instanceMethod yX11_status) ∈ wsL_law := sk_mem (ck_5 _ (List.mem_of_getElem? (i := 146) rfl)) rfl
theorem w_5_147 : (Cond.selects RX11 yX11_status yX11_status) ∈ wsL_law := sk_mem (ck_5 _ (List.mem_of_getElem? (i := 147) rfl)) rfl
theorem w_8_226 : (Cond.methodLink RL 180 yX12_status) ∈ wsL_law := sk_mem (ck_8 _ (List.mem_of_getElem? (i := 226) rfl)) rfl
theorem w_8_227 : (Cond.instanceMethod yX12_status) ∈ wsL_law := sk_mem (ck_8 _ (List.mem_of_getElem? (i := 227) rfl)) rfl
theorem w_8_228 : (Cond.selects RX12 yX12_status yX12_status) ∈ wsL_law := sk_mem (ck_8 _ (List.mem_of_getElem? (i := 228) rfl)) rfl
set_option maxHeartbeats 4000000 in
set_option maxRecDepth 100000 in
theorem law_38 (l : Launch) (D : va_G) (cI cJ cC cZ cS : ClassId) (zk zv : Nat) (zf : Value) (x0 mm i : Nat) (tl : Nat) (tb : Nat → Nat) (dy : Nat) (L : LkS) (nS : KN) (lg : KLg) (ac : Nat) (su : Nat → KN) (hn : Nat) (hR : Nat → Nat) (sd : Nat) (rf : Nat → Int32) (pn : Nat) (pB : Nat → Nat) (xf : Int32) (xp : Int32) (xw mw : va_W) {p : Program} {e : Env} {s : State} {m : MethodId} {below : List Frame} {meth : Method} {c : Code} {b Ln : Nat} {xs : Nat → Int32} {A : Nat → Prop} {H : Heap} {locs : List Loc} {ls : Array Slot} (E : lwE p s m meth c b Ln xs zk zv zf D (skT cI cJ cC cZ cS) A) (hi6 : i + 6 ≤ Ln) (hk : kOk L dy nS lg ac su hn hR sd) (hI : xI cI cJ cC cZ cS x0 tl tb dy L nS lg ac su hn hR sd rf pn pB xf xp xw) (hJ : mI cI cJ cC cZ cS mm tl tb dy L nS lg ac su hn hR sd rf pn pB xf xp mw) (hP : va_P D vwCl (xw ++ mw) H) (hD : va_D A (xw ++ mw)) (hS : va_S A s.heap H locs) (hl : lv_has ls 4 [(3, .int (nI i)), (2, .ref mm), (1, .ref x0), (0, .ref b)]) (K : ∀ (tl : Nat) (tb : Nat → Nat) (dy : Nat) (L : LkS) (nS : KN) (lg : KLg) (ac : Nat) (su : Nat → KN) (hn : Nat) (hR : Nat → Nat) (sd : Nat) (rf : Nat → Int32) (pn : Nat) (pB : Nat → Nat) (xf : Int32) (xp : Int32) (xw mw : va_W) (H : Heap) (locs : List Loc) (ls : Array Slot), kOk L dy nS lg ac su hn hR sd → xI cI cJ cC cZ cS x0 tl tb dy L nS lg ac su hn hR sd rf pn pB xf xp xw → mI cI cJ cC cZ cS mm tl tb dy L nS lg ac su hn hR sd rf pn pB xf xp mw → va_P D vwCl (xw ++ mw) H → va_D A (xw ++ mw) → va_S A s.heap H locs → lv_has ls 4 [(3, .int (nI i)), (2, .ref mm), (1, .ref x0), (0, .ref b)] → W p l e room_1 s m #[Value.ref b] below meth c H locs 182 32192 (lw_Z below #[Value.ref b] s) (F0 m 1171 ls [])) : W p l e room_1 s m #[Value.ref b] below meth c H locs 182 32192 (lw_Z below #[Value.ref b] s) (F0 m 1148 ls []) := by
  obtain ⟨hx, hb, hr, hml, hlocks, hown, hts, hX, hbl, hA, hbA, hAf, hK, hZ, hL⟩ := id E
  refine lv_aload_n hx hb dL_law_1148 rfl (lv_at hl 2 rfl) ?_
  refine lv_aload_n hx hb dL_law_1149 rfl (lv_at hl 3 rfl) ?_
  refine lv_iload_n hx hb dL_law_1150 rfl (lv_at hl 0 rfl) ?_
  refine lv_iconst (v := 1) hx hb dL_law_1151 ic_1 ?_
  refine lv_iadd hx hb dL_law_1152 ?_
  refine sk_top (nI (i + 1)) (nI_add i 1) ?_
  refine va_sld hx hb hX hbl hbA hS (vin (i + 1) Ln (by omega) (by omega)) dL_law_1153 ?_
  obtain ⟨_, hdx⟩ := xI_head hI
  refine sk_Vi (q0 := 0) (n := 1) (rest := []) (wr := mw) ⟨hx, hb, hml, hown, hts⟩ hl.1 (xc_status l D cI cJ cC cZ cS x0 tl tb dy L nS lg ac su hn hR sd rf pn pB xf xp xw (xs (nI (i + 1)).toNatClampNeg) hk hI) w_5_145 w_5_146 w_5_147 w_1_1 w_5_148 (by decide +kernel) ⟨⟨(Nat.le_of_ble_eq_true rfl), (Nat.le_of_ble_eq_true rfl)⟩, (Nat.le_of_ble_eq_true rfl), (Nat.le_of_ble_eq_true rfl)⟩ hK hP hD hS hA (idx 0 xw) (idx xw.length mw) (idx_C xw mw) (idx_R xw mw) (idx_nd 0 xw) (idx_nd _ mw) (idx_dis xw mw) hdx rfl rfl rfl (Nat.le_of_ble_eq_true rfl) dL_law_1154 (fun rx ux H locs hw hP hD hS => ?_)
  obtain ⟨hI2, hkx⟩ := hw
  have hP : va_P D vwCl (mw ++ ux) H := hP
  refine lv_pop hx hb dL_law_1157 rfl ?_
  refine lv_aload_n hx hb dL_law_1158 rfl (lv_at hl 1 rfl) ?_
  refine lv_aload_n hx hb dL_law_1159 rfl (lv_at hl 3 rfl) ?_
  refine lv_iload_n hx hb dL_law_1160 rfl (lv_at hl 0 rfl) ?_
  refine lv_iconst (v := 1) hx hb dL_law_1161 ic_1 ?_
  refine lv_iadd hx hb dL_law_1162 ?_
  refine sk_top (nI (i + 1)) (nI_add i 1) ?_
  refine va_sld hx hb hX hbl hbA hS (vin (i + 1) Ln (by omega) (by omega)) dL_law_1163 ?_
  obtain ⟨_, hdm⟩ := mI_head hJ
  refine sk_Vi (q0 := 0) (n := 1) (rest := []) (wr := ux) ⟨hx, hb, hml, hown, hts⟩ hl.1 (mc_status l D cI cJ cC cZ cS mm tl tb dy L nS lg ac su hn hR sd rf pn pB xf xp mw (xs (nI (i + 1)).toNatClampNeg) hk hJ) w_8_226 w_8_227 w_8_228 w_1_14 w_8_229 (by decide +kernel) ⟨⟨(Nat.le_of_ble_eq_true rfl), (Nat.le_of_ble_eq_true rfl)⟩, (Nat.le_of_ble_eq_true rfl), (Nat.le_of_ble_eq_true rfl)⟩ hK hP hD hS hA (idx 0 mw) (idx mw.length ux) (idx_C mw ux) (idx_R mw ux) (idx_nd 0 mw) (idx_nd _ ux) (idx_dis mw ux) hdm rfl rfl rfl (Nat.le_of_ble_eq_true rfl) dL_law_1164 (fun rm um H locs hw hP hD hS => ?_)
  obtain ⟨hJ2, hkm⟩ := hw
  have hre := statR_eq hkx hkm
  have hk2 := hk
  refine lv_pop hx hb dL_law_1167 rfl ?_
  refine lv_goto (tgt := 1171) hx hb dL_law_1168 (by decide) ?_
  exact K _ _ _ _ _ _ _ _ _ _ _ _ _ _ _ _ _ _ _ _ _ hk2 hI2 hJ2 hP hD hS hl
