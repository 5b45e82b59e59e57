def dk (f : Nat → Nat) : Nat → Nat
  | 0 => 0
  | n + 1 => if f n < 40 then dk f n - 1 else dk f n + 1
theorem dk_stp {cs : Nat → Nat} {a i z z' : Nat} (ha : a ≤ i) (hz : z = dk (fun j => cs (1600 + a + j)) (i - a)) (h : (cs (1600 + i) < 40 ∧ z' = z - 1) ∨ (40 ≤ cs (1600 + i) ∧ z' = z + 1)) : z' = dk (fun j => cs (1600 + a + j)) (i + 1 - a) := by
  rw [show i + 1 - a = (i - a) + 1 by omega, dk, show 1600 + a + (i - a) = 1600 + i by omega, ← hz]
  split <;> omega
def pv (cs : Nat → Nat) (o n : Nat) : Prop := ∀ j, j < n → cs (o + j) < 40 → 2 ≤ dk (fun i => cs (o + i)) j
theorem pv_at {cs : Nat → Nat} {a b i z : Nat} (h : pv cs (1600 + a) (b - a)) (ha : a ≤ i) (hb : i < b) (hc : cs (1600 + i) < 40) (hz : z = dk (fun j => cs (1600 + a + j)) (i - a)) : 2 ≤ z := by
  rw [hz]
  exact h (i - a) (by omega) (by rw [show 1600 + a + (i - a) = 1600 + i by omega]; exact hc)
def progOk (cs : Nat → Nat) (x y : Int32) : Prop := x = -1 ∨ ∃ a b : Nat, a ≤ b ∧ b ≤ 1600 ∧ x = nI a ∧ y = nI b ∧ pv cs (1600 + a) (b - a)
theorem dg_X12_qPuts_0_0 : bqL cX12_qPuts 0 [(0, [42]), (1, [180, 0, 186]), (4, [42]), (5, [180, 1, 64]), (8, [31]), (9, [80]), (10, [42]), (11, [89]), (12, [180, 1, 64]), (15, [4]), (16, [96]), (17, [181, 1, 64]), (20, [177])] = true := by decide +kernel
theorem dX12_qPuts_0 : decode cX12_qPuts 0 = .ok (.aload_n 0, 1) := q_aload_n0 (bat_get dg_X12_qPuts_0_0 0 rfl rfl)
theorem dX12_qPuts_1 : decode cX12_qPuts 1 = .ok (.getfield 186, 3) := q_getfield (bat_get dg_X12_qPuts_0_0 1 rfl rfl) rfl
theorem dX12_qPuts_4 : decode cX12_qPuts 4 = .ok (.aload_n 0, 1) := q_aload_n0 (bat_get dg_X12_qPuts_0_0 2 rfl rfl)
theorem dX12_qPuts_5 : decode cX12_qPuts 5 = .ok (.getfield 320, 3) := q_getfield (bat_get dg_X12_qPuts_0_0 3 rfl rfl) rfl
theorem dX12_qPuts_8 : decode cX12_qPuts 8 = .ok (.lload_n 1, 1) := q_lload_n1 (bat_get dg_X12_qPuts_0_0 4 rfl rfl)
theorem dX12_qPuts_9 : decode cX12_qPuts 9 = .ok (.lastore, 1) := q_lastore (bat_get dg_X12_qPuts_0_0 5 rfl rfl)
theorem dX12_qPuts_10 : decode cX12_qPuts 10 = .ok (.aload_n 0, 1) := q_aload_n0 (bat_get dg_X12_qPuts_0_0 6 rfl rfl)
theorem dX12_qPuts_11 : decode cX12_qPuts 11 = .ok (.dup, 1) := q_dup (bat_get dg_X12_qPuts_0_0 7 rfl rfl)
theorem dX12_qPuts_12 : decode cX12_qPuts 12 = .ok (.getfield 320, 3) := q_getfield (bat_get dg_X12_qPuts_0_0 8 rfl rfl) rfl
theorem dX12_qPuts_15 : decode cX12_qPuts 15 = .ok (.iconst 1, 1) := q_iconst1 (bat_get dg_X12_qPuts_0_0 9 rfl rfl)
theorem dX12_qPuts_16 : decode cX12_qPuts 16 = .ok (.iadd, 1) := q_iadd (bat_get dg_X12_qPuts_0_0 10 rfl rfl)
theorem dX12_qPuts_17 : decode cX12_qPuts 17 = .ok (.putfield 320, 3) := q_putfield (bat_get dg_X12_qPuts_0_0 11 rfl rfl) rfl
theorem dX12_qPuts_20 : decode cX12_qPuts 20 = .ok (.return_, 1) := q_return_ (bat_get dg_X12_qPuts_0_0 12 rfl rfl)
theorem w_6_1 : (Cond.fieldLink RX12 186 "SameKeeperModel" "qPile" "[J") ∈ wsL_law := sk_mem (ck_6 _ (List.mem_of_getElem? (i := 1) rfl)) rfl
theorem w_6_2 : (Cond.fieldLink RX12 320 "SameKeeperModel" "qPiled" "I") ∈ wsL_law := sk_mem (ck_6 _ (List.mem_of_getElem? (i := 2) rfl)) rfl
theorem w_7_142 : (Cond.code yX12_qPuts cX12_qPuts 3 none) ∈ wsL_law := sk_mem (ck_7 _ (List.mem_of_getElem? (i := 142) rfl)) rfl
set_option maxHeartbeats 4000000 in
set_option maxRecDepth 100000 in
theorem c_m_qPuts (l : Launch) (D : va_G) (cI cJ cC cZ cS : ClassId) (mm : Nat) (g : Nat → Nat) (ta : Nat) (pa : Nat) (pe : Nat) (pd : Int32) (pb : Nat) (pp : Int32) (pf : Int32) (pg : Int32) (pn : Int32) (rt : Int32) (rn : Int32) (cd : Nat) (sn : Int32) (il : Nat) (tk : Int32) (am : Int32) (at_ : Int32) (aa : Int32) (mt_ : Int32) (bh : Nat) (wd : Int32) (wt : Int32) (wy : Int64) (it_ : Nat) (rm : Nat) (ud : Nat) (nu : Nat) (sd : Int64) (qn : Nat) (qw : Nat) (qo : Int32) (qb : Nat) (qp : Nat) (qa : Int64) (qi : Nat) (oc : Nat) (x : Int64) (ql : Nat → Int64) (hqp : qp < 1700) : skM l yX12_qPuts cX12_qPuts 3 none 0 0 0 0 D (skT cI cJ cC cZ cS) [.ref mm, .long x] [(mm, .inr (12, mo g (nI ta) (nI pa) (nI pe) pd (nI pb) pp pf pg pn rt rn (nI cd) sn (nI il) tk am at_ aa mt_ (nI bh) wd wt wy (nI it_) (nI rm) (nI ud) (nI nu) sd (nI qn) (nI qw) qo (nI qb) (nI qp) qa (nI qi) (nI oc))), (g 86, .inl (cJ, 1700, .inr (.inl ql)))] (skV D (skT cI cJ cC cZ cS) (fun (u : va_W) => ∃ (ql2 : Nat → Int64), u = [(mm, .inr (12, mo g (nI ta) (nI pa) (nI pe) pd (nI pb) pp pf pg pn rt rn (nI cd) sn (nI il) tk am at_ aa mt_ (nI bh) wd wt wy (nI it_) (nI rm) (nI ud) (nI nu) sd (nI qn) (nI qw) qo (nI qb) (nI (qp + 1)) qa (nI qi) (nI oc))), (g 86, .inl (cJ, 1700, .inr (.inl ql2)))])) := by
  refine skM_of pf_X12_qPuts (Nat.le_of_ble_eq_true rfl) ?_
  intro p e s m below meth c A ls E hP hD hl
  refine skE_el E (fun hx hb hr hml hlocks hin hown hts hK hA => ?_)
  have hown : s.vm.findClass RX12 = some m.cls := hown
  have hS : va_S A s.heap s.heap [] := va_S.rf
  have hl : lv_has ls 3 [(0, .ref mm), (1, .long x)] := hl
  refine lv_aload_n hx hb dX12_qPuts_0 rfl (lv_at hl 0 rfl) ?_
  refine sk_get (v := .ref (g 86)) (C := RX12) (T := TX12) (N := 92) hx hb hts inlX12 hown hK hP 0 rfl rfl 86 (by decide) w_6_1 rfl dX12_qPuts_1 ?_
  refine lv_aload_n hx hb dX12_qPuts_4 rfl (lv_at hl 0 rfl) ?_
  refine sk_get (v := .int (nI qp)) (C := RX12) (T := TX12) (N := 92) hx hb hts inlX12 hown hK hP 0 rfl rfl 87 (by decide) w_6_2 rfl dX12_qPuts_5 ?_
  refine lv_lload_n hx hb dX12_qPuts_8 rfl (lv_at hl 1 rfl) ?_
  refine sk_lastO (ws' := fun f_1 => [(mm, .inr (12, mo g (nI ta) (nI pa) (nI pe) pd (nI pb) pp pf pg pn rt rn (nI cd) sn (nI il) tk am at_ aa mt_ (nI bh) wd wt wy (nI it_) (nI rm) (nI ud) (nI nu) sd (nI qn) (nI qw) qo (nI qb) (nI qp) qa (nI qi) (nI oc))), (g 86, .inl (cJ, 1700, .inr (.inl f_1)))]) hx hb hK hP hD hS 1 1 rfl rfl (vin qp 1700 (by omega) (by omega)) (fun _ => rfl) dX12_qPuts_9 (fun f_1 H locs hP hD hS => ?_)
  refine lv_aload_n hx hb dX12_qPuts_10 rfl (lv_at hl 0 rfl) ?_
  refine lv_dup hx hb dX12_qPuts_11 rfl ?_
  refine sk_get (v := .int (nI qp)) (C := RX12) (T := TX12) (N := 92) hx hb hts inlX12 hown hK hP 0 rfl rfl 87 (by decide) w_6_2 rfl dX12_qPuts_12 ?_
  refine lv_iconst (v := 1) hx hb dX12_qPuts_15 (by decide) ?_
  refine lv_iadd hx hb dX12_qPuts_16 ?_
  refine sk_top (nI (qp + 1)) (nI_add qp 1) ?_
  refine sk_put (ws' := [(mm, .inr (12, mo g (nI ta) (nI pa) (nI pe) pd (nI pb) pp pf pg pn rt rn (nI cd) sn (nI il) tk am at_ aa mt_ (nI bh) wd wt wy (nI it_) (nI rm) (nI ud) (nI nu) sd (nI qn) (nI qw) qo (nI qb) (nI (qp + 1)) qa (nI qi) (nI oc))), (g 86, .inl (cJ, 1700, .inr (.inl f_1)))]) (C := RX12) (T := TX12) (N := 92) (v := .int (nI (qp + 1))) hx hb hts inlX12 tyX12 tyX12_ok nmX12 hown hK hP hD hS 0 rfl rfl 87 (by decide) w_6_2 rfl rfl rfl (Nat.le_of_ble_eq_true rfl) rfl dX12_qPuts_17 (fun H locs hP hD hS => ?_)
  exact sk_vret hx hb hr hlocks hK hP hD hS (⟨f_1, rfl⟩) (Nat.le_of_ble_eq_true rfl) (Nat.le_of_ble_eq_true rfl) dX12_qPuts_20
theorem dX12_qJoins_36 : decode cX12_qJoins 36 = .ok (.tableswitch 219 1 10 #[56, 70, 84, 98, 111, 131, 151, 170, 189, 208], 56) := by decide +kernel
theorem dg_X12_qJoins_0_0 : bqL cX12_qJoins 0 [(0, [42]), (1, [180, 0, 186]), (4, [42]), (5, [180, 1, 64]), (8, [4]), (9, [100]), (10, [47]), (11, [65]), (12, [42]), (13, [180, 0, 186]), (16, [42]), (17, [180, 1, 64]), (20, [5]), (21, [100]), (22, [47]), (23, [55, 4]), (25, [42]), (26, [89]), (27, [180, 1, 64]), (30, [5]), (31, [100]), (32, [181, 1, 64]), (35, [27]), (92, [42]), (93, [22, 4]), (95, [32]), (96, [97]), (97, [184, 2, 44]), (100, [182, 1, 67]), (103, [167, 0, 170]), (273, [177]), (106, [42]), (107, [22, 4]), (109, [32]), (110, [101]), (111, [184, 2, 44]), (114, [182, 1, 67]), (117, [167, 0, 156]), (120, [42]), (121, [22, 4])] = true := by decide +kernel
theorem dX12_qJoins_0 : decode cX12_qJoins 0 = .ok (.aload_n 0, 1) := q_aload_n0 (bat_get dg_X12_qJoins_0_0 0 rfl rfl)
theorem dX12_qJoins_1 : decode cX12_qJoins 1 = .ok (.getfield 186, 3) := q_getfield (bat_get dg_X12_qJoins_0_0 1 rfl rfl) rfl
theorem dX12_qJoins_4 : decode cX12_qJoins 4 = .ok (.aload_n 0, 1) := q_aload_n0 (bat_get dg_X12_qJoins_0_0 2 rfl rfl)
theorem dX12_qJoins_5 : decode cX12_qJoins 5 = .ok (.getfield 320, 3) := q_getfield (bat_get dg_X12_qJoins_0_0 3 rfl rfl) rfl
theorem dX12_qJoins_8 : decode cX12_qJoins 8 = .ok (.iconst 1, 1) := q_iconst1 (bat_get dg_X12_qJoins_0_0 4 rfl rfl)
theorem dX12_qJoins_9 : decode cX12_qJoins 9 = .ok (.isub, 1) := q_isub (bat_get dg_X12_qJoins_0_0 5 rfl rfl)
theorem dX12_qJoins_10 : decode cX12_qJoins 10 = .ok (.laload, 1) := q_laload (bat_get dg_X12_qJoins_0_0 6 rfl rfl)
theorem dX12_qJoins_11 : decode cX12_qJoins 11 = .ok (.lstore_n 2, 1) := q_lstore_n2 (bat_get dg_X12_qJoins_0_0 7 rfl rfl)
theorem dX12_qJoins_12 : decode cX12_qJoins 12 = .ok (.aload_n 0, 1) := q_aload_n0 (bat_get dg_X12_qJoins_0_0 8 rfl rfl)
theorem dX12_qJoins_13 : decode cX12_qJoins 13 = .ok (.getfield 186, 3) := q_getfield (bat_get dg_X12_qJoins_0_0 9 rfl rfl) rfl
theorem dX12_qJoins_16 : decode cX12_qJoins 16 = .ok (.aload_n 0, 1) := q_aload_n0 (bat_get dg_X12_qJoins_0_0 10 rfl rfl)
theorem dX12_qJoins_17 : decode cX12_qJoins 17 = .ok (.getfield 320, 3) := q_getfield (bat_get dg_X12_qJoins_0_0 11 rfl rfl) rfl
theorem dX12_qJoins_20 : decode cX12_qJoins 20 = .ok (.iconst 2, 1) := q_iconst2 (bat_get dg_X12_qJoins_0_0 12 rfl rfl)
theorem dX12_qJoins_21 : decode cX12_qJoins 21 = .ok (.isub, 1) := q_isub (bat_get dg_X12_qJoins_0_0 13 rfl rfl)
theorem dX12_qJoins_22 : decode cX12_qJoins 22 = .ok (.laload, 1) := q_laload (bat_get dg_X12_qJoins_0_0 14 rfl rfl)
theorem dX12_qJoins_23 : decode cX12_qJoins 23 = .ok (.lstore 4, 2) := q_lstore (bat_get dg_X12_qJoins_0_0 15 rfl rfl)
theorem dX12_qJoins_25 : decode cX12_qJoins 25 = .ok (.aload_n 0, 1) := q_aload_n0 (bat_get dg_X12_qJoins_0_0 16 rfl rfl)
theorem dX12_qJoins_26 : decode cX12_qJoins 26 = .ok (.dup, 1) := q_dup (bat_get dg_X12_qJoins_0_0 17 rfl rfl)
theorem dX12_qJoins_27 : decode cX12_qJoins 27 = .ok (.getfield 320, 3) := q_getfield (bat_get dg_X12_qJoins_0_0 18 rfl rfl) rfl
theorem dX12_qJoins_30 : decode cX12_qJoins 30 = .ok (.iconst 2, 1) := q_iconst2 (bat_get dg_X12_qJoins_0_0 19 rfl rfl)
theorem dX12_qJoins_31 : decode cX12_qJoins 31 = .ok (.isub, 1) := q_isub (bat_get dg_X12_qJoins_0_0 20 rfl rfl)
theorem dX12_qJoins_32 : decode cX12_qJoins 32 = .ok (.putfield 320, 3) := q_putfield (bat_get dg_X12_qJoins_0_0 21 rfl rfl) rfl
theorem dX12_qJoins_35 : decode cX12_qJoins 35 = .ok (.iload_n 1, 1) := q_iload_n1 (bat_get dg_X12_qJoins_0_0 22 rfl rfl)
theorem dX12_qJoins_92 : decode cX12_qJoins 92 = .ok (.aload_n 0, 1) := q_aload_n0 (bat_get dg_X12_qJoins_0_0 23 rfl rfl)
theorem dX12_qJoins_93 : decode cX12_qJoins 93 = .ok (.lload 4, 2) := q_lload (bat_get dg_X12_qJoins_0_0 24 rfl rfl)
theorem dX12_qJoins_95 : decode cX12_qJoins 95 = .ok (.lload_n 2, 1) := q_lload_n2 (bat_get dg_X12_qJoins_0_0 25 rfl rfl)
theorem dX12_qJoins_96 : decode cX12_qJoins 96 = .ok (.ladd, 1) := q_ladd (bat_get dg_X12_qJoins_0_0 26 rfl rfl)
theorem dX12_qJoins_97 : decode cX12_qJoins 97 = .ok (.invokestatic 556, 3) := q_invokestatic (bat_get dg_X12_qJoins_0_0 27 rfl rfl) rfl
theorem dX12_qJoins_100 : decode cX12_qJoins 100 = .ok (.invokevirtual 323, 3) := q_invokevirtual (bat_get dg_X12_qJoins_0_0 28 rfl rfl) rfl
theorem dX12_qJoins_103 : decode cX12_qJoins 103 = .ok (.goto 170, 3) := q_goto (bat_get dg_X12_qJoins_0_0 29 rfl rfl) rfl
theorem dX12_qJoins_273 : decode cX12_qJoins 273 = .ok (.return_, 1) := q_return_ (bat_get dg_X12_qJoins_0_0 30 rfl rfl)
theorem dX12_qJoins_106 : decode cX12_qJoins 106 = .ok (.aload_n 0, 1) := q_aload_n0 (bat_get dg_X12_qJoins_0_0 31 rfl rfl)
theorem dX12_qJoins_107 : decode cX12_qJoins 107 = .ok (.lload 4, 2) := q_lload (bat_get dg_X12_qJoins_0_0 32 rfl rfl)
theorem dX12_qJoins_109 : decode cX12_qJoins 109 = .ok (.lload_n 2, 1) := q_lload_n2 (bat_get dg_X12_qJoins_0_0 33 rfl rfl)
theorem dX12_qJoins_110 : decode cX12_qJoins 110 = .ok (.lsub, 1) := q_lsub (bat_get dg_X12_qJoins_0_0 34 rfl rfl)
theorem dX12_qJoins_111 : decode cX12_qJoins 111 = .ok (.invokestatic 556, 3) := q_invokestatic (bat_get dg_X12_qJoins_0_0 35 rfl rfl) rfl
theorem dX12_qJoins_114 : decode cX12_qJoins 114 = .ok (.invokevirtual 323, 3) := q_invokevirtual (bat_get dg_X12_qJoins_0_0 36 rfl rfl) rfl
theorem dX12_qJoins_117 : decode cX12_qJoins 117 = .ok (.goto 156, 3) := q_goto (bat_get dg_X12_qJoins_0_0 37 rfl rfl) rfl
theorem dX12_qJoins_120 : decode cX12_qJoins 120 = .ok (.aload_n 0, 1) := q_aload_n0 (bat_get dg_X12_qJoins_0_0 38 rfl rfl)
theorem dX12_qJoins_121 : decode cX12_qJoins 121 = .ok (.lload 4, 2) := q_lload (bat_get dg_X12_qJoins_0_0 39 rfl rfl)
theorem dg_X12_qJoins_123_123 : bqL cX12_qJoins 123 [(0, [32]), (1, [105]), (2, [184, 2, 44]), (5, [182, 1, 67]), (8, [167, 0, 142]), (11, [42]), (12, [22, 4]), (14, [32]), (15, [184, 2, 47]), (18, [182, 1, 67]), (21, [167, 0, 129]), (24, [42]), (25, [22, 4]), (27, [32]), (28, [148]), (29, [156, 0, 8]), (37, [32]), (38, [182, 1, 67]), (41, [167, 0, 109]), (32, [22, 4]), (34, [167, 0, 4]), (44, [42]), (45, [22, 4]), (47, [32]), (48, [148]), (49, [158, 0, 8]), (57, [32]), (58, [182, 1, 67]), (61, [167, 0, 89]), (52, [22, 4]), (54, [167, 0, 4]), (64, [42]), (65, [22, 4]), (67, [32]), (68, [148]), (69, [156, 0, 7]), (76, [9]), (77, [182, 1, 67]), (80, [167, 0, 70]), (72, [10])] = true := by decide +kernel
theorem dX12_qJoins_123 : decode cX12_qJoins 123 = .ok (.lload_n 2, 1) := q_lload_n2 (bat_get dg_X12_qJoins_123_123 0 rfl rfl)
theorem dX12_qJoins_124 : decode cX12_qJoins 124 = .ok (.lmul, 1) := q_lmul (bat_get dg_X12_qJoins_123_123 1 rfl rfl)
theorem dX12_qJoins_125 : decode cX12_qJoins 125 = .ok (.invokestatic 556, 3) := q_invokestatic (bat_get dg_X12_qJoins_123_123 2 rfl rfl) rfl
theorem dX12_qJoins_128 : decode cX12_qJoins 128 = .ok (.invokevirtual 323, 3) := q_invokevirtual (bat_get dg_X12_qJoins_123_123 3 rfl rfl) rfl
theorem dX12_qJoins_131 : decode cX12_qJoins 131 = .ok (.goto 142, 3) := q_goto (bat_get dg_X12_qJoins_123_123 4 rfl rfl) rfl
theorem dX12_qJoins_134 : decode cX12_qJoins 134 = .ok (.aload_n 0, 1) := q_aload_n0 (bat_get dg_X12_qJoins_123_123 5 rfl rfl)
theorem dX12_qJoins_135 : decode cX12_qJoins 135 = .ok (.lload 4, 2) := q_lload (bat_get dg_X12_qJoins_123_123 6 rfl rfl)
theorem dX12_qJoins_137 : decode cX12_qJoins 137 = .ok (.lload_n 2, 1) := q_lload_n2 (bat_get dg_X12_qJoins_123_123 7 rfl rfl)
theorem dX12_qJoins_138 : decode cX12_qJoins 138 = .ok (.invokestatic 559, 3) := q_invokestatic (bat_get dg_X12_qJoins_123_123 8 rfl rfl) rfl
theorem dX12_qJoins_141 : decode cX12_qJoins 141 = .ok (.invokevirtual 323, 3) := q_invokevirtual (bat_get dg_X12_qJoins_123_123 9 rfl rfl) rfl
theorem dX12_qJoins_144 : decode cX12_qJoins 144 = .ok (.goto 129, 3) := q_goto (bat_get dg_X12_qJoins_123_123 10 rfl rfl) rfl
theorem dX12_qJoins_147 : decode cX12_qJoins 147 = .ok (.aload_n 0, 1) := q_aload_n0 (bat_get dg_X12_qJoins_123_123 11 rfl rfl)
theorem dX12_qJoins_148 : decode cX12_qJoins 148 = .ok (.lload 4, 2) := q_lload (bat_get dg_X12_qJoins_123_123 12 rfl rfl)
theorem dX12_qJoins_150 : decode cX12_qJoins 150 = .ok (.lload_n 2, 1) := q_lload_n2 (bat_get dg_X12_qJoins_123_123 13 rfl rfl)
theorem dX12_qJoins_151 : decode cX12_qJoins 151 = .ok (.lcmp, 1) := q_lcmp (bat_get dg_X12_qJoins_123_123 14 rfl rfl)
theorem dX12_qJoins_152 : decode cX12_qJoins 152 = .ok (.ifCond .ge 8, 3) := q_ifCond_ge (bat_get dg_X12_qJoins_123_123 15 rfl rfl) rfl
theorem dX12_qJoins_160 : decode cX12_qJoins 160 = .ok (.lload_n 2, 1) := q_lload_n2 (bat_get dg_X12_qJoins_123_123 16 rfl rfl)
theorem dX12_qJoins_161 : decode cX12_qJoins 161 = .ok (.invokevirtual 323, 3) := q_invokevirtual (bat_get dg_X12_qJoins_123_123 17 rfl rfl) rfl
theorem dX12_qJoins_164 : decode cX12_qJoins 164 = .ok (.goto 109, 3) := q_goto (bat_get dg_X12_qJoins_123_123 18 rfl rfl) rfl
theorem dX12_qJoins_155 : decode cX12_qJoins 155 = .ok (.lload 4, 2) := q_lload (bat_get dg_X12_qJoins_123_123 19 rfl rfl)
theorem dX12_qJoins_157 : decode cX12_qJoins 157 = .ok (.goto 4, 3) := q_goto (bat_get dg_X12_qJoins_123_123 20 rfl rfl) rfl
theorem dX12_qJoins_167 : decode cX12_qJoins 167 = .ok (.aload_n 0, 1) := q_aload_n0 (bat_get dg_X12_qJoins_123_123 21 rfl rfl)
