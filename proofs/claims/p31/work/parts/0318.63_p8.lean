theorem dk_congr {f g : Nat → Nat} {n : Nat} (h : ∀ j, j < n → f j = g j) : dk f n = dk g n := by
  induction n with
  | zero => rfl
  | succ n ih => rw [dk, dk, ih (fun j hj => h j (by omega)), h n (by omega)]
theorem de_dk {f : Nat → Nat} {n : Nat} (h : nnc f 0 n) : de f n ≤ dk f n := by
  induction n with
  | zero => exact Nat.le_refl _
  | succ n ih =>
    have h1 := ih (fun j q1 q2 => h j q1 (by omega))
    have h2 := h n (by omega) (by omega)
    rw [dk, de]
    split
    · rw [if_neg (by omega)]; omega
    · split
      · rw [if_neg (by omega)]; omega
      · rw [if_pos (by omega)]; omega
def cpy (cs qs : Nat → Nat) (c i : Nat) (zs : Nat → Nat) : Prop := ∀ j, zs j = if c ≤ j ∧ j < c + i then qs (j - c) else cs j
theorem cpy_0 {cs qs : Nat → Nat} {c : Nat} : cpy cs qs c 0 cs := fun j => by rw [if_neg (by omega)]
theorem cpy_s {cs qs zs zs2 : Nat → Nat} {c i k v : Nat} (h : cpy cs qs c i zs) (hk : k = c + i) (e : zs2 = updN zs k v) (hv : v = qs i) : cpy cs qs c (i + 1) zs2 := by
  subst e; subst hk; subst hv
  intro j
  by_cases q : j = c + i
  · subst q; rw [updN_at, if_pos (by omega), show c + i - c = i by omega]
  · rw [updN_ne zs q, h j]
    by_cases q2 : c ≤ j ∧ j < c + i
    · rw [if_pos q2, if_pos (by omega)]
    · rw [if_neg q2, if_neg (by omega)]
theorem cpy_in {cs qs zs : Nat → Nat} {c i j : Nat} (h : cpy cs qs c i zs) (hj : j < i) : zs (c + j) = qs j := by
  rw [h (c + j), if_pos (by omega), show c + j - c = j by omega]
theorem cpy_out {cs qs zs : Nat → Nat} {c i j : Nat} (h : cpy cs qs c i zs) (hj : ¬ (c ≤ j ∧ j < c + i)) : zs j = cs j := by
  rw [h j, if_neg hj]
theorem pv_congr {f g : Nat → Nat} {o o' n : Nat} (h : ∀ j, j < n → f (o + j) = g (o' + j)) (hp : pv f o n) : pv g o' n := by
  intro j hj hc
  rw [← h j hj] at hc
  have h1 := hp j hj hc
  rw [dk_congr (f := fun i => g (o' + i)) (g := fun i => f (o + i)) (fun i hi => (h i (by omega)).symm)]
  exact h1
def lowOk (cs : Nat → Nat) (c : Nat) (x y : Int32) : Prop := x = -1 ∨ ∃ a b : Nat, a ≤ b ∧ b ≤ c ∧ x = nI a ∧ y = nI b ∧ pv cs a (b - a)
theorem low_cpy {cs qs zs : Nat → Nat} {c i k : Nat} {x y : Int32} (h : lowOk cs c x y) (hk : k = c + i) (hc : cpy cs qs c i zs) : lowOk zs k x y := by
  rcases h with h | ⟨a, b, h1, h2, h3, h4, h5⟩
  · exact Or.inl h
  · exact Or.inr ⟨a, b, h1, by omega, h3, h4, pv_congr (fun j hj => (cpy_out hc (by omega)).symm) h5⟩
theorem low_fin {cs qs zs qt : Nat → Nat} {K c i k n b w : Nat} (hk : k = c + i) (hi : i = n) (h : SJ K 0 qs n qt b w) (hc : cpy cs qs c i zs) : lowOk zs k (nI c) (nI k) := by
  subst hk; subst hi
  obtain ⟨-, h2, h3, -⟩ := h
  refine Or.inr ⟨c, c + i, by omega, by omega, rfl, rfl, ?_⟩
  rw [show c + i - c = i by omega]
  intro j hj hcc
  rw [cpy_in hc hj] at hcc
  rw [dk_congr (f := fun i => zs (c + i)) (g := qs) (fun q hq => cpy_in hc (by omega))]
  have h4 := h3 j (by omega) hj
  have h5 := (h2 j hj).2 hcc h4.1 h4.2
  have h6 := de_dk (f := qs) (n := j) (fun q q1 q2 => h3 q q1 (by omega))
  omega
theorem low_prog {cs zs : Nat → Nat} {c i : Nat} {x y : Int32} (h : lowOk cs c x y) (hi : c ≤ i) (hc2 : c ≤ 1600) (hc : cpy cs cs 1600 i zs) : progOk zs x y := by
  rcases h with h | ⟨a, b, h1, h2, h3, h4, h5⟩
  · exact Or.inl h
  · exact Or.inr ⟨a, b, h1, by omega, h3, h4, pv_congr (fun j hj => by rw [show 1600 + a + j = 1600 + (a + j) by omega, cpy_in hc (by omega)]) h5⟩
def upE (cs cs2 : Nat → Nat) : Prop := ∀ j, 1600 ≤ j → cs2 j = cs j
theorem upE_rf {cs : Nat → Nat} : upE cs cs := fun _ _ => rfl
theorem upE_tr {a b c : Nat → Nat} (h1 : upE a b) (h2 : upE b c) : upE a c := fun j h => (h2 j h).trans (h1 j h)
theorem upE_cpy {cs qs zs : Nat → Nat} {c i : Nat} (hc : cpy cs qs c i zs) (h : c + i ≤ 1600) : upE cs zs := fun j hj => cpy_out hc (by omega)
theorem prog_up {cs zs : Nat → Nat} {x y : Int32} (h : progOk cs x y) (hu : upE cs zs) : progOk zs x y := by
  rcases h with h | ⟨a, b, h1, h2, h3, h4, h5⟩
  · exact Or.inl h
  · exact Or.inr ⟨a, b, h1, h2, h3, h4, pv_congr (fun j hj => (hu _ (by omega)).symm) h5⟩
theorem dq {qs : Nat → Nat} {i z z' : Nat} (hz : z = de qs i) (h : ((1000 ≤ qs i ∨ (40 ≤ qs i ∧ qs i < 60) ∨ qs i = 13) ∧ z' = z + 1) ∨ (((60 ≤ qs i ∧ qs i < 1000) ∨ qs i = 12) ∧ z' = z) ∨ (qs i < 40 ∧ ¬ qs i = 12 ∧ ¬ qs i = 13 ∧ z' = z - 1)) : z' = de qs (i + 1) := by
  rcases h with ⟨h1, h2⟩ | ⟨h1, h2⟩ | ⟨h1, h2, h3, h4⟩
  · rw [de_p h1]; omega
  · rw [de_u h1]; omega
  · rw [de_b h1 h2 h3]; omega
theorem qof_k {b : Nat} {x : Int64} (h : b = 0 ∨ (b = 1 ∧ (0 : Int64) ≤ x ∧ x ≤ 9)) (hb : ¬ b = 0) : ∃ k : Nat, k < 10 ∧ x.toInt32 = nI k := by
  obtain ⟨-, h1, h2⟩ := h.resolve_left hb
  have q1 := Int64.le_iff_toInt_le.mp h1
  have q2 := Int64.le_iff_toInt_le.mp h2
  have e0 : (0 : Int64).toInt = 0 := rfl
  have e9 : (9 : Int64).toInt = 9 := rfl
  rw [e0] at q1
  rw [e9] at q2
  exact nl2i (n := 10) q1 (by omega) (by omega)
theorem dg_X12_lockTold_0_0 : bqL cX12_lockTold 0 [(0, [42]), (1, [42]), (2, [180, 0, 20]), (5, [182, 0, 245]), (8, [42]), (9, [180, 0, 48]), (12, [3]), (13, [42]), (14, [5]), (15, [16, 9]), (17, [182, 0, 249]), (20, [79]), (21, [42]), (22, [42]), (23, [180, 0, 24]), (26, [182, 0, 245]), (29, [42]), (30, [180, 0, 48]), (33, [4]), (34, [42]), (35, [3]), (36, [16, 9]), (38, [182, 0, 249]), (41, [79]), (42, [42]), (43, [16, 59]), (45, [182, 0, 253]), (48, [177])] = true := by decide +kernel
theorem dX12_lockTold_0 : decode cX12_lockTold 0 = .ok (.aload_n 0, 1) := q_aload_n0 (bat_get dg_X12_lockTold_0_0 0 rfl rfl)
theorem dX12_lockTold_1 : decode cX12_lockTold 1 = .ok (.aload_n 0, 1) := q_aload_n0 (bat_get dg_X12_lockTold_0_0 1 rfl rfl)
theorem dX12_lockTold_2 : decode cX12_lockTold 2 = .ok (.getfield 20, 3) := q_getfield (bat_get dg_X12_lockTold_0_0 2 rfl rfl) rfl
theorem dX12_lockTold_5 : decode cX12_lockTold 5 = .ok (.invokevirtual 245, 3) := q_invokevirtual (bat_get dg_X12_lockTold_0_0 3 rfl rfl) rfl
theorem dX12_lockTold_8 : decode cX12_lockTold 8 = .ok (.aload_n 0, 1) := q_aload_n0 (bat_get dg_X12_lockTold_0_0 4 rfl rfl)
theorem dX12_lockTold_9 : decode cX12_lockTold 9 = .ok (.getfield 48, 3) := q_getfield (bat_get dg_X12_lockTold_0_0 5 rfl rfl) rfl
theorem dX12_lockTold_12 : decode cX12_lockTold 12 = .ok (.iconst 0, 1) := q_iconst0 (bat_get dg_X12_lockTold_0_0 6 rfl rfl)
theorem dX12_lockTold_13 : decode cX12_lockTold 13 = .ok (.aload_n 0, 1) := q_aload_n0 (bat_get dg_X12_lockTold_0_0 7 rfl rfl)
theorem dX12_lockTold_14 : decode cX12_lockTold 14 = .ok (.iconst 2, 1) := q_iconst2 (bat_get dg_X12_lockTold_0_0 8 rfl rfl)
theorem dX12_lockTold_15 : decode cX12_lockTold 15 = .ok (.bipush 9, 2) := q_bipush (bat_get dg_X12_lockTold_0_0 9 rfl rfl) rfl
theorem dX12_lockTold_17 : decode cX12_lockTold 17 = .ok (.invokevirtual 249, 3) := q_invokevirtual (bat_get dg_X12_lockTold_0_0 10 rfl rfl) rfl
theorem dX12_lockTold_20 : decode cX12_lockTold 20 = .ok (.iastore, 1) := q_iastore (bat_get dg_X12_lockTold_0_0 11 rfl rfl)
theorem dX12_lockTold_21 : decode cX12_lockTold 21 = .ok (.aload_n 0, 1) := q_aload_n0 (bat_get dg_X12_lockTold_0_0 12 rfl rfl)
theorem dX12_lockTold_22 : decode cX12_lockTold 22 = .ok (.aload_n 0, 1) := q_aload_n0 (bat_get dg_X12_lockTold_0_0 13 rfl rfl)
theorem dX12_lockTold_23 : decode cX12_lockTold 23 = .ok (.getfield 24, 3) := q_getfield (bat_get dg_X12_lockTold_0_0 14 rfl rfl) rfl
theorem dX12_lockTold_26 : decode cX12_lockTold 26 = .ok (.invokevirtual 245, 3) := q_invokevirtual (bat_get dg_X12_lockTold_0_0 15 rfl rfl) rfl
theorem dX12_lockTold_29 : decode cX12_lockTold 29 = .ok (.aload_n 0, 1) := q_aload_n0 (bat_get dg_X12_lockTold_0_0 16 rfl rfl)
theorem dX12_lockTold_30 : decode cX12_lockTold 30 = .ok (.getfield 48, 3) := q_getfield (bat_get dg_X12_lockTold_0_0 17 rfl rfl) rfl
theorem dX12_lockTold_33 : decode cX12_lockTold 33 = .ok (.iconst 1, 1) := q_iconst1 (bat_get dg_X12_lockTold_0_0 18 rfl rfl)
theorem dX12_lockTold_34 : decode cX12_lockTold 34 = .ok (.aload_n 0, 1) := q_aload_n0 (bat_get dg_X12_lockTold_0_0 19 rfl rfl)
theorem dX12_lockTold_35 : decode cX12_lockTold 35 = .ok (.iconst 0, 1) := q_iconst0 (bat_get dg_X12_lockTold_0_0 20 rfl rfl)
theorem dX12_lockTold_36 : decode cX12_lockTold 36 = .ok (.bipush 9, 2) := q_bipush (bat_get dg_X12_lockTold_0_0 21 rfl rfl) rfl
theorem dX12_lockTold_38 : decode cX12_lockTold 38 = .ok (.invokevirtual 249, 3) := q_invokevirtual (bat_get dg_X12_lockTold_0_0 22 rfl rfl) rfl
theorem dX12_lockTold_41 : decode cX12_lockTold 41 = .ok (.iastore, 1) := q_iastore (bat_get dg_X12_lockTold_0_0 23 rfl rfl)
theorem dX12_lockTold_42 : decode cX12_lockTold 42 = .ok (.aload_n 0, 1) := q_aload_n0 (bat_get dg_X12_lockTold_0_0 24 rfl rfl)
theorem dX12_lockTold_43 : decode cX12_lockTold 43 = .ok (.bipush 59, 2) := q_bipush (bat_get dg_X12_lockTold_0_0 25 rfl rfl) rfl
theorem dX12_lockTold_45 : decode cX12_lockTold 45 = .ok (.invokevirtual 253, 3) := q_invokevirtual (bat_get dg_X12_lockTold_0_0 26 rfl rfl) rfl
theorem dX12_lockTold_48 : decode cX12_lockTold 48 = .ok (.return_, 1) := q_return_ (bat_get dg_X12_lockTold_0_0 27 rfl rfl)
theorem w_5_166 : (Cond.fieldLink RX12 20 "SameKeeperModel" "lockWord" "[C") ∈ wsL_law := sk_mem (ck_5 _ (List.mem_of_getElem? (i := 166) rfl)) rfl
theorem w_5_167 : (Cond.fieldLink RX12 24 "SameKeeperModel" "fromWord" "[C") ∈ wsL_law := sk_mem (ck_5 _ (List.mem_of_getElem? (i := 167) rfl)) rfl
theorem w_6_209 : (Cond.code yX12_lockTold cX12_lockTold 1 none) ∈ wsL_law := sk_mem (ck_6 _ (List.mem_of_getElem? (i := 209) rfl)) rfl
theorem dg_X12_dayTold_0_0 : bqL cX12_dayTold 0 [(0, [42]), (1, [3]), (2, [42]), (3, [180, 0, 48]), (6, [3]), (7, [46]), (8, [4]), (9, [100]), (10, [182, 0, 249]), (13, [61]), (14, [42]), (15, [3]), (16, [16, 9]), (18, [182, 0, 249]), (21, [62]), (22, [42]), (23, [180, 0, 195]), (26, [154, 0, 14]), (40, [177]), (29, [42]), (30, [180, 0, 51]), (33, [6]), (34, [28]), (35, [104]), (36, [27]), (37, [96]), (38, [29]), (39, [79])] = true := by decide +kernel
theorem dX12_dayTold_0 : decode cX12_dayTold 0 = .ok (.aload_n 0, 1) := q_aload_n0 (bat_get dg_X12_dayTold_0_0 0 rfl rfl)
theorem dX12_dayTold_1 : decode cX12_dayTold 1 = .ok (.iconst 0, 1) := q_iconst0 (bat_get dg_X12_dayTold_0_0 1 rfl rfl)
theorem dX12_dayTold_2 : decode cX12_dayTold 2 = .ok (.aload_n 0, 1) := q_aload_n0 (bat_get dg_X12_dayTold_0_0 2 rfl rfl)
theorem dX12_dayTold_3 : decode cX12_dayTold 3 = .ok (.getfield 48, 3) := q_getfield (bat_get dg_X12_dayTold_0_0 3 rfl rfl) rfl
theorem dX12_dayTold_6 : decode cX12_dayTold 6 = .ok (.iconst 0, 1) := q_iconst0 (bat_get dg_X12_dayTold_0_0 4 rfl rfl)
theorem dX12_dayTold_7 : decode cX12_dayTold 7 = .ok (.iaload, 1) := q_iaload (bat_get dg_X12_dayTold_0_0 5 rfl rfl)
theorem dX12_dayTold_8 : decode cX12_dayTold 8 = .ok (.iconst 1, 1) := q_iconst1 (bat_get dg_X12_dayTold_0_0 6 rfl rfl)
theorem dX12_dayTold_9 : decode cX12_dayTold 9 = .ok (.isub, 1) := q_isub (bat_get dg_X12_dayTold_0_0 7 rfl rfl)
theorem dX12_dayTold_10 : decode cX12_dayTold 10 = .ok (.invokevirtual 249, 3) := q_invokevirtual (bat_get dg_X12_dayTold_0_0 8 rfl rfl) rfl
theorem dX12_dayTold_13 : decode cX12_dayTold 13 = .ok (.istore_n 2, 1) := q_istore_n2 (bat_get dg_X12_dayTold_0_0 9 rfl rfl)
theorem dX12_dayTold_14 : decode cX12_dayTold 14 = .ok (.aload_n 0, 1) := q_aload_n0 (bat_get dg_X12_dayTold_0_0 10 rfl rfl)
theorem dX12_dayTold_15 : decode cX12_dayTold 15 = .ok (.iconst 0, 1) := q_iconst0 (bat_get dg_X12_dayTold_0_0 11 rfl rfl)
theorem dX12_dayTold_16 : decode cX12_dayTold 16 = .ok (.bipush 9, 2) := q_bipush (bat_get dg_X12_dayTold_0_0 12 rfl rfl) rfl
theorem dX12_dayTold_18 : decode cX12_dayTold 18 = .ok (.invokevirtual 249, 3) := q_invokevirtual (bat_get dg_X12_dayTold_0_0 13 rfl rfl) rfl
theorem dX12_dayTold_21 : decode cX12_dayTold 21 = .ok (.istore_n 3, 1) := q_istore_n3 (bat_get dg_X12_dayTold_0_0 14 rfl rfl)
theorem dX12_dayTold_22 : decode cX12_dayTold 22 = .ok (.aload_n 0, 1) := q_aload_n0 (bat_get dg_X12_dayTold_0_0 15 rfl rfl)
theorem dX12_dayTold_23 : decode cX12_dayTold 23 = .ok (.getfield 195, 3) := q_getfield (bat_get dg_X12_dayTold_0_0 16 rfl rfl) rfl
theorem dX12_dayTold_26 : decode cX12_dayTold 26 = .ok (.ifCond .ne 14, 3) := q_ifCond_ne (bat_get dg_X12_dayTold_0_0 17 rfl rfl) rfl
theorem dX12_dayTold_40 : decode cX12_dayTold 40 = .ok (.return_, 1) := q_return_ (bat_get dg_X12_dayTold_0_0 18 rfl rfl)
theorem dX12_dayTold_29 : decode cX12_dayTold 29 = .ok (.aload_n 0, 1) := q_aload_n0 (bat_get dg_X12_dayTold_0_0 19 rfl rfl)
theorem dX12_dayTold_30 : decode cX12_dayTold 30 = .ok (.getfield 51, 3) := q_getfield (bat_get dg_X12_dayTold_0_0 20 rfl rfl) rfl
theorem dX12_dayTold_33 : decode cX12_dayTold 33 = .ok (.iconst 3, 1) := q_iconst3 (bat_get dg_X12_dayTold_0_0 21 rfl rfl)
theorem dX12_dayTold_34 : decode cX12_dayTold 34 = .ok (.iload_n 2, 1) := q_iload_n2 (bat_get dg_X12_dayTold_0_0 22 rfl rfl)
theorem dX12_dayTold_35 : decode cX12_dayTold 35 = .ok (.imul, 1) := q_imul (bat_get dg_X12_dayTold_0_0 23 rfl rfl)
theorem dX12_dayTold_36 : decode cX12_dayTold 36 = .ok (.iload_n 1, 1) := q_iload_n1 (bat_get dg_X12_dayTold_0_0 24 rfl rfl)
theorem dX12_dayTold_37 : decode cX12_dayTold 37 = .ok (.iadd, 1) := q_iadd (bat_get dg_X12_dayTold_0_0 25 rfl rfl)
theorem dX12_dayTold_38 : decode cX12_dayTold 38 = .ok (.iload_n 3, 1) := q_iload_n3 (bat_get dg_X12_dayTold_0_0 26 rfl rfl)
theorem dX12_dayTold_39 : decode cX12_dayTold 39 = .ok (.iastore, 1) := q_iastore (bat_get dg_X12_dayTold_0_0 27 rfl rfl)
theorem w_5_176 : (Cond.fieldLink RX12 51 "SameKeeperModel" "days0" "[I") ∈ wsL_law := sk_mem (ck_5 _ (List.mem_of_getElem? (i := 176) rfl)) rfl
theorem w_7_18 : (Cond.code yX12_dayTold cX12_dayTold 4 none) ∈ wsL_law := sk_mem (ck_7 _ (List.mem_of_getElem? (i := 18) rfl)) rfl
theorem dg_X12_muteTold_0_0 : bqL cX12_muteTold 0 [(0, [42]), (1, [3]), (2, [42]), (3, [180, 0, 48]), (6, [3]), (7, [46]), (8, [4]), (9, [100]), (10, [182, 0, 249]), (13, [60]), (14, [42]), (15, [180, 0, 195]), (18, [154, 0, 26]), (44, [42]), (45, [180, 0, 195]), (48, [154, 0, 14]), (62, [177]), (51, [42]), (52, [180, 0, 51]), (55, [6]), (56, [27]), (57, [104]), (58, [5]), (59, [96]), (60, [4]), (61, [79]), (21, [42]), (22, [180, 0, 51]), (25, [6]), (26, [27]), (27, [104]), (28, [5]), (29, [96]), (30, [46]), (31, [4]), (32, [160, 0, 12]), (35, [42]), (36, [5]), (37, [42]), (38, [180, 0, 235])] = true := by decide +kernel
theorem dX12_muteTold_0 : decode cX12_muteTold 0 = .ok (.aload_n 0, 1) := q_aload_n0 (bat_get dg_X12_muteTold_0_0 0 rfl rfl)
theorem dX12_muteTold_1 : decode cX12_muteTold 1 = .ok (.iconst 0, 1) := q_iconst0 (bat_get dg_X12_muteTold_0_0 1 rfl rfl)
theorem dX12_muteTold_2 : decode cX12_muteTold 2 = .ok (.aload_n 0, 1) := q_aload_n0 (bat_get dg_X12_muteTold_0_0 2 rfl rfl)
theorem dX12_muteTold_3 : decode cX12_muteTold 3 = .ok (.getfield 48, 3) := q_getfield (bat_get dg_X12_muteTold_0_0 3 rfl rfl) rfl
theorem dX12_muteTold_6 : decode cX12_muteTold 6 = .ok (.iconst 0, 1) := q_iconst0 (bat_get dg_X12_muteTold_0_0 4 rfl rfl)
theorem dX12_muteTold_7 : decode cX12_muteTold 7 = .ok (.iaload, 1) := q_iaload (bat_get dg_X12_muteTold_0_0 5 rfl rfl)
theorem dX12_muteTold_8 : decode cX12_muteTold 8 = .ok (.iconst 1, 1) := q_iconst1 (bat_get dg_X12_muteTold_0_0 6 rfl rfl)
theorem dX12_muteTold_9 : decode cX12_muteTold 9 = .ok (.isub, 1) := q_isub (bat_get dg_X12_muteTold_0_0 7 rfl rfl)
theorem dX12_muteTold_10 : decode cX12_muteTold 10 = .ok (.invokevirtual 249, 3) := q_invokevirtual (bat_get dg_X12_muteTold_0_0 8 rfl rfl) rfl
theorem dX12_muteTold_13 : decode cX12_muteTold 13 = .ok (.istore_n 1, 1) := q_istore_n1 (bat_get dg_X12_muteTold_0_0 9 rfl rfl)
theorem dX12_muteTold_14 : decode cX12_muteTold 14 = .ok (.aload_n 0, 1) := q_aload_n0 (bat_get dg_X12_muteTold_0_0 10 rfl rfl)
theorem dX12_muteTold_15 : decode cX12_muteTold 15 = .ok (.getfield 195, 3) := q_getfield (bat_get dg_X12_muteTold_0_0 11 rfl rfl) rfl
theorem dX12_muteTold_18 : decode cX12_muteTold 18 = .ok (.ifCond .ne 26, 3) := q_ifCond_ne (bat_get dg_X12_muteTold_0_0 12 rfl rfl) rfl
theorem dX12_muteTold_44 : decode cX12_muteTold 44 = .ok (.aload_n 0, 1) := q_aload_n0 (bat_get dg_X12_muteTold_0_0 13 rfl rfl)
theorem dX12_muteTold_45 : decode cX12_muteTold 45 = .ok (.getfield 195, 3) := q_getfield (bat_get dg_X12_muteTold_0_0 14 rfl rfl) rfl
