/-! when it is the same -/
def sd (p e n : Nat) : Prop := (p + 1440 * e - e * n) % 1440 = 0
def inR (pp ee : Int32) : Prop := 0 ≤ pp.toInt ∧ pp.toInt ≤ 1439 ∧ 0 ≤ ee.toInt ∧ ee.toInt ≤ 1439
def smR (pp ee r : Int32) : Prop := (∃ p e : Nat, p < 1440 ∧ e < 1440 ∧ pp = nI p ∧ ee = nI e ∧ ((∃ n : Nat, n < 1440 ∧ sd p e n ∧ (∀ j, j < n → ¬ sd p e j) ∧ r = nI n) ∨ ((∀ j, j < 1440 → ¬ sd p e j) ∧ r = -1))) ∨ (¬ inR pp ee ∧ r = -1)
theorem sm_i (k : Nat) (h : k < 2147483648) : (nI k).toInt = (k : Int) := nI_toInt h
theorem out1 {pp ee : Int32} (h : pp < 0) : ¬ inR pp ee := fun q => by
  have h1 := Int32.lt_iff_toInt_lt.mp h
  have e0 : (0 : Int32).toInt = 0 := rfl
  rw [e0] at h1
  have := q.1
  omega
theorem out2 {k : Nat} {ee : Int32} (hk : k < 2147483648) (h : 1439 < k) : ¬ inR (nI k) ee := fun q => by
  have h1 := q.2.1
  rw [sm_i k hk] at h1
  omega
theorem out3 {pp ee : Int32} (h : ee < 0) : ¬ inR pp ee := fun q => by
  have h1 := Int32.lt_iff_toInt_lt.mp h
  have e0 : (0 : Int32).toInt = 0 := rfl
  rw [e0] at h1
  have := q.2.2.1
  omega
theorem out4 {k : Nat} {pp : Int32} (hk : k < 2147483648) (h : 1439 < k) : ¬ inR pp (nI k) := fun q => by
  have h1 := q.2.2.2
  rw [sm_i k hk] at h1
  omega
theorem sm_l (pp : Int32) : ((0 : Int64) ≤ pp.toInt64 ∧ pp.toInt64 ≤ 1439) ↔ (0 ≤ pp.toInt ∧ pp.toInt ≤ 1439) := by
  have e0 : (0 : Int64).toInt = 0 := rfl
  have e1 : (1439 : Int64).toInt = 1439 := rfl
  rw [Int64.le_iff_toInt_le, Int64.le_iff_toInt_le, Int32.toInt_toInt64, e0, e1]
theorem outA {pp ee : Int32} (h : ¬ ((0 : Int64) ≤ pp.toInt64 ∧ pp.toInt64 ≤ 1439)) : ¬ inR pp ee := fun q => h ((sm_l pp).mpr ⟨q.1, q.2.1⟩)
theorem outB {pp ee : Int32} (h : ¬ ((0 : Int64) ≤ ee.toInt64 ∧ ee.toInt64 ≤ 1439)) : ¬ inR pp ee := fun q => h ((sm_l ee).mpr ⟨q.2.2.1, q.2.2.2⟩)
theorem sm_rem {x : Int32} (h1 : -10000000 < x.toInt) (h2 : x.toInt < 10000000) : (x - x / 1440 * 1440).toInt = x.toInt.tmod 1440 := by
  have e : (1440 : Int32).toInt = 1440 := rfl
  have hd : (x / 1440).toInt = x.toInt.tdiv 1440 := by
    rw [Jvm.Kit.i32_div (by rw [e]; omega), e]
  have hr := Int.mul_tdiv_add_tmod x.toInt 1440
  have hb1 : x.toInt.tmod 1440 < 1440 := Int.tmod_lt_of_pos _ (by decide)
  have hb2 : -1440 < x.toInt.tmod 1440 := by
    have h3 := Int.tmod_lt_of_pos (-x.toInt) (by decide : (0 : Int) < 1440)
    rw [Int.neg_tmod] at h3
    omega
  have hm : (x / 1440 * 1440).toInt = x.toInt.tdiv 1440 * 1440 := by
    rw [Jvm.Kit.i32_mul (by rw [hd, e]; omega) (by rw [hd, e]; omega), hd, e]
  rw [Jvm.Kit.i32_sub (by rw [hm]; omega) (by rw [hm]; omega), hm]
  omega
theorem sm_le {e i : Nat} (hi : i ≤ 1440) : e * i ≤ 1440 * e := by
  rw [Nat.mul_comm 1440 e]
  exact Nat.mul_le_mul_left e hi
theorem sm_x {p e i : Nat} {va vb : Int32} (hp : p < 1440) (he : e < 1440) (hi : i ≤ 1440) (ea : va = nI p - nI (e * i)) (eb : vb = va - va / 1440 * 1440) : vb = 0 ↔ sd p e i := by
  have h1 := sm_le (e := e) hi
  have h2 : 1440 * e ≤ 1440 * 1439 := Nat.mul_le_mul_left _ (by omega)
  have hx : va.toInt = (p : Int) - ((e * i : Nat) : Int) := by
    rw [ea, Jvm.Kit.i32_sub (by rw [sm_i p (by omega), sm_i (e * i) (by omega)]; omega) (by rw [sm_i p (by omega), sm_i (e * i) (by omega)]; omega), sm_i p (by omega), sm_i (e * i) (by omega)]
  have hr := sm_rem (x := va) (by rw [hx]; omega) (by rw [hx]; omega)
  rw [← eb] at hr
  have h0 : vb = 0 ↔ vb.toInt = 0 := by
    rw [← Int32.toInt_inj]
    exact Iff.rfl
  rw [h0, hr, ← Int.dvd_iff_tmod_eq_zero, hx]
  unfold sd
  generalize e * i = q at *
  omega
theorem sm_0 {p e : Nat} (hp : p < 1440) : p = (p + 1440 * e - e * 0) % 1440 := by
  rw [Nat.mul_zero]; omega
theorem sm_next {p e i v : Nat} (he : e < 1440) (hi : i + 1 ≤ 1440) (hv : v = (p + 1440 * e - e * i) % 1440) : (v + 1440 - e) % 1440 = (p + 1440 * e - e * (i + 1)) % 1440 := by
  have h1 := sm_le (e := e) hi
  rw [Nat.mul_succ] at h1 ⊢
  generalize e * i = q at *
  omega
theorem sm_found {p e n : Nat} (hp : p < 1440) (he : e < 1440) (hn : n < 1440) (h : sd p e n) (hno : ∀ j, j < n → ¬ sd p e j) : smR (nI p) (nI e) (nI n) := Or.inl ⟨p, e, hp, he, rfl, rfl, Or.inl ⟨n, hn, h, hno, rfl⟩⟩
theorem sm_none {p e n : Nat} (hp : p < 1440) (he : e < 1440) (hn : 1440 ≤ n) (hno : ∀ j, j < n → ¬ sd p e j) : smR (nI p) (nI e) (-1) := Or.inl ⟨p, e, hp, he, rfl, rfl, Or.inr ⟨fun j hj => hno j (by omega), rfl⟩⟩
def sno (p e i : Nat) : Prop := ∀ j, j < i → ¬ sd p e j
theorem sno_0 {p e : Nat} : sno p e 0 := fun j h => absurd h (by omega)
theorem sno_s {p e i : Nat} (h : sno p e i) (h1 : ¬ sd p e i) : sno p e (i + 1) := by
  intro j hj
  by_cases q : j = i
  · subst q; exact h1
  · exact h j (by omega)
theorem same_eq {pp ee r q : Int32} (h1 : smR pp ee r) (h2 : smR pp ee q) : r = q := by
  rcases h1 with ⟨p, e, hp, he, rfl, rfl, h1⟩ | ⟨h1, e1⟩
  · rcases h2 with ⟨p', e', hp', he', ep, ee, h2⟩ | ⟨h2, -⟩
    · have ep := (neq p p' (by omega) (by omega)).mp ep
      have ee := (neq e e' (by omega) (by omega)).mp ee
      subst ep; subst ee
      rcases h1 with ⟨n, hn, a1, a2, a3⟩ | ⟨a1, a2⟩
      · rcases h2 with ⟨m, hm, b1, b2, b3⟩ | ⟨b1, b2⟩
        · rcases Nat.lt_trichotomy n m with t | t | t
          · exact absurd a1 (b2 n t)
          · rw [a3, b3, t]
          · exact absurd b1 (a2 m t)
        · exact absurd a1 (b1 n hn)
      · rcases h2 with ⟨m, hm, b1, b2, b3⟩ | ⟨b1, b2⟩
        · exact absurd b1 (a1 m hm)
        · rw [a2, b2]
    · exact absurd ⟨by rw [sm_i p (by omega)]; omega, by rw [sm_i p (by omega)]; omega, by rw [sm_i e (by omega)]; omega, by rw [sm_i e (by omega)]; omega⟩ h2
  · rcases h2 with ⟨p', e', hp', he', rfl, rfl, h2⟩ | ⟨-, e2⟩
    · exact absurd ⟨by rw [sm_i p' (by omega)]; omega, by rw [sm_i p' (by omega)]; omega, by rw [sm_i e' (by omega)]; omega, by rw [sm_i e' (by omega)]; omega⟩ h1
    · rw [e1, e2]
theorem dg_X11_same_0_0 : bqL cX11_same 0 [(0, [27]), (1, [155, 0, 21]), (22, [2]), (23, [172]), (4, [27]), (5, [17, 5, 159]), (8, [163, 0, 14]), (11, [28]), (12, [155, 0, 10]), (15, [28]), (16, [17, 5, 159]), (19, [164, 0, 5]), (24, [3]), (25, [62]), (26, [29]), (27, [17, 5, 160]), (30, [162, 0, 23]), (53, [2]), (54, [172]), (33, [27]), (34, [28]), (35, [29]), (36, [104]), (37, [100]), (38, [17, 5, 160]), (41, [112]), (42, [154, 0, 5]), (47, [132, 3, 1]), (50, [167, 255, 232]), (45, [29]), (46, [172])] = true := by decide +kernel
theorem dX11_same_0 : decode cX11_same 0 = .ok (.iload_n 1, 1) := q_iload_n1 (bat_get dg_X11_same_0_0 0 rfl rfl)
theorem dX11_same_1 : decode cX11_same 1 = .ok (.ifCond .lt 21, 3) := q_ifCond_lt (bat_get dg_X11_same_0_0 1 rfl rfl) rfl
theorem dX11_same_22 : decode cX11_same 22 = .ok (.iconst (-1), 1) := q_iconstm1 (bat_get dg_X11_same_0_0 2 rfl rfl)
theorem dX11_same_23 : decode cX11_same 23 = .ok (.ireturn, 1) := q_ireturn (bat_get dg_X11_same_0_0 3 rfl rfl)
theorem dX11_same_4 : decode cX11_same 4 = .ok (.iload_n 1, 1) := q_iload_n1 (bat_get dg_X11_same_0_0 4 rfl rfl)
theorem dX11_same_5 : decode cX11_same 5 = .ok (.sipush 1439, 3) := q_sipush (bat_get dg_X11_same_0_0 5 rfl rfl) rfl
theorem dX11_same_8 : decode cX11_same 8 = .ok (.if_icmp .gt 14, 3) := q_if_icmp_gt (bat_get dg_X11_same_0_0 6 rfl rfl) rfl
theorem dX11_same_11 : decode cX11_same 11 = .ok (.iload_n 2, 1) := q_iload_n2 (bat_get dg_X11_same_0_0 7 rfl rfl)
theorem dX11_same_12 : decode cX11_same 12 = .ok (.ifCond .lt 10, 3) := q_ifCond_lt (bat_get dg_X11_same_0_0 8 rfl rfl) rfl
theorem dX11_same_15 : decode cX11_same 15 = .ok (.iload_n 2, 1) := q_iload_n2 (bat_get dg_X11_same_0_0 9 rfl rfl)
theorem dX11_same_16 : decode cX11_same 16 = .ok (.sipush 1439, 3) := q_sipush (bat_get dg_X11_same_0_0 10 rfl rfl) rfl
theorem dX11_same_19 : decode cX11_same 19 = .ok (.if_icmp .le 5, 3) := q_if_icmp_le (bat_get dg_X11_same_0_0 11 rfl rfl) rfl
theorem dX11_same_24 : decode cX11_same 24 = .ok (.iconst 0, 1) := q_iconst0 (bat_get dg_X11_same_0_0 12 rfl rfl)
theorem dX11_same_25 : decode cX11_same 25 = .ok (.istore_n 3, 1) := q_istore_n3 (bat_get dg_X11_same_0_0 13 rfl rfl)
theorem dX11_same_26 : decode cX11_same 26 = .ok (.iload_n 3, 1) := q_iload_n3 (bat_get dg_X11_same_0_0 14 rfl rfl)
theorem dX11_same_27 : decode cX11_same 27 = .ok (.sipush 1440, 3) := q_sipush (bat_get dg_X11_same_0_0 15 rfl rfl) rfl
theorem dX11_same_30 : decode cX11_same 30 = .ok (.if_icmp .ge 23, 3) := q_if_icmp_ge (bat_get dg_X11_same_0_0 16 rfl rfl) rfl
theorem dX11_same_53 : decode cX11_same 53 = .ok (.iconst (-1), 1) := q_iconstm1 (bat_get dg_X11_same_0_0 17 rfl rfl)
theorem dX11_same_54 : decode cX11_same 54 = .ok (.ireturn, 1) := q_ireturn (bat_get dg_X11_same_0_0 18 rfl rfl)
theorem dX11_same_33 : decode cX11_same 33 = .ok (.iload_n 1, 1) := q_iload_n1 (bat_get dg_X11_same_0_0 19 rfl rfl)
theorem dX11_same_34 : decode cX11_same 34 = .ok (.iload_n 2, 1) := q_iload_n2 (bat_get dg_X11_same_0_0 20 rfl rfl)
theorem dX11_same_35 : decode cX11_same 35 = .ok (.iload_n 3, 1) := q_iload_n3 (bat_get dg_X11_same_0_0 21 rfl rfl)
theorem dX11_same_36 : decode cX11_same 36 = .ok (.imul, 1) := q_imul (bat_get dg_X11_same_0_0 22 rfl rfl)
theorem dX11_same_37 : decode cX11_same 37 = .ok (.isub, 1) := q_isub (bat_get dg_X11_same_0_0 23 rfl rfl)
theorem dX11_same_38 : decode cX11_same 38 = .ok (.sipush 1440, 3) := q_sipush (bat_get dg_X11_same_0_0 24 rfl rfl) rfl
theorem dX11_same_41 : decode cX11_same 41 = .ok (.irem, 1) := q_irem (bat_get dg_X11_same_0_0 25 rfl rfl)
theorem dX11_same_42 : decode cX11_same 42 = .ok (.ifCond .ne 5, 3) := q_ifCond_ne (bat_get dg_X11_same_0_0 26 rfl rfl) rfl
theorem dX11_same_47 : decode cX11_same 47 = .ok (.iinc 3 1, 3) := q_iinc (bat_get dg_X11_same_0_0 27 rfl rfl) rfl
theorem dX11_same_50 : decode cX11_same 50 = .ok (.goto (-24), 3) := q_goto (bat_get dg_X11_same_0_0 28 rfl rfl) rfl
theorem dX11_same_45 : decode cX11_same 45 = .ok (.iload_n 3, 1) := q_iload_n3 (bat_get dg_X11_same_0_0 29 rfl rfl)
theorem dX11_same_46 : decode cX11_same 46 = .ok (.ireturn, 1) := q_ireturn (bat_get dg_X11_same_0_0 30 rfl rfl)
theorem w_4_238 : (Cond.code yX11_same cX11_same 4 (some .int)) ∈ wsL_law := sk_mem (ck_4 _ (List.mem_of_getElem? (i := 238) rfl)) rfl
set_option maxHeartbeats 4000000 in
set_option maxRecDepth 100000 in
theorem c_y_same (l : Launch) (D : va_G) (cI cJ cC cZ cS : ClassId) (x0 : Nat) (q : Nat → Nat) (hc : Int32) (dr : Int64) (pp : Int32) (ee : Int32)  : skM l yX11_same cX11_same 4 (some .int) 0 0 0 0 D (skT cI cJ cC cZ cS) [.ref x0, .int pp, .int ee] [ro_rrrrrrrrrrrrrrrirl x0 11 (q 0) (q 1) (q 2) (q 3) (q 4) (q 5) (q 6) (q 7) (q 8) (q 9) (q 10) (q 11) (q 12) (q 13) (q 14) hc (q 16) dr] (skI D (skT cI cJ cC cZ cS) (fun (r : Int32) (u : va_W) => smR pp ee r ∧ u = [ro_rrrrrrrrrrrrrrrirl x0 11 (q 0) (q 1) (q 2) (q 3) (q 4) (q 5) (q 6) (q 7) (q 8) (q 9) (q 10) (q 11) (q 12) (q 13) (q 14) hc (q 16) dr])) := by
  refine skM_of pf_X11_same (Nat.le_of_ble_eq_true rfl) ?_
  intro p e s m below meth c A ls E hP hD hl
  refine skE_el E (fun hx hb hr hml hlocks hin hown hts hK hA => ?_)
  have hown : s.vm.findClass RX11 = some m.cls := hown
  have hS : va_S A s.heap s.heap [] := va_S.rf
  have hl : lv_has ls 4 [(0, .ref x0), (1, .int pp), (2, .int ee)] := hl
  refine lv_iload_n hx hb dX11_same_0 rfl (lv_at hl 1 rfl) ?_
  refine lv_if_lt (tgt := 22) hx hb dX11_same_1 (by decide) (fun c_1 => ?_) (fun c_1 => ?_)
  · skip
    refine lv_iconst (v := (-1)) hx hb dX11_same_22 (by decide) ?_
    exact sk_iret hx hb hr rfl hlocks hK hP hD hS (⟨(Or.inr ⟨out1 c_1, rfl⟩), rfl⟩) (Nat.le_of_ble_eq_true rfl) (Nat.le_of_ble_eq_true rfl) dX11_same_23
  · obtain ⟨k_2, hk_2, rfl⟩ := nof pp c_1
    refine lv_iload_n hx hb dX11_same_4 rfl (lv_at hl 1 rfl) ?_
    refine lv_sipush (v := 1439) hx hb dX11_same_5 (by decide) ?_
    refine lv_icmp_gt (tgt := 22) hx hb dX11_same_8 (by decide) (fun c_3 => ?_) (fun c_3 => ?_)
    · have c_3 : 1439 < k_2 := (nlt 1439 k_2 (Nat.le_of_ble_eq_true rfl) (by omega)).mp c_3
      refine lv_iconst (v := (-1)) hx hb dX11_same_22 (by decide) ?_
      exact sk_iret hx hb hr rfl hlocks hK hP hD hS (⟨(Or.inr ⟨out2 (by omega) (by omega), rfl⟩), rfl⟩) (Nat.le_of_ble_eq_true rfl) (Nat.le_of_ble_eq_true rfl) dX11_same_23
    · have c_3 : ¬ (1439 < k_2) := fun h => c_3 ((nlt 1439 k_2 (Nat.le_of_ble_eq_true rfl) (by omega)).mpr h)
      refine lv_iload_n hx hb dX11_same_11 rfl (lv_at hl 2 rfl) ?_
      refine lv_if_lt (tgt := 22) hx hb dX11_same_12 (by decide) (fun c_4 => ?_) (fun c_4 => ?_)
      · skip
        refine lv_iconst (v := (-1)) hx hb dX11_same_22 (by decide) ?_
        exact sk_iret hx hb hr rfl hlocks hK hP hD hS (⟨(Or.inr ⟨out3 c_4, rfl⟩), rfl⟩) (Nat.le_of_ble_eq_true rfl) (Nat.le_of_ble_eq_true rfl) dX11_same_23
      · obtain ⟨k_5, hk_5, rfl⟩ := nof ee c_4
        refine lv_iload_n hx hb dX11_same_15 rfl (lv_at hl 2 rfl) ?_
        refine lv_sipush (v := 1439) hx hb dX11_same_16 (by decide) ?_
        refine lv_icmp_le (tgt := 24) hx hb dX11_same_19 (by decide) (fun c_6 => ?_) (fun c_6 => ?_)
        · have c_6 : k_5 ≤ 1439 := (nle k_5 1439 (by omega) (Nat.le_of_ble_eq_true rfl)).mp c_6
          refine lv_iconst (v := 0) hx hb dX11_same_24 ic_0 ?_
          refine lv_istore_n (lv' := [(3, .int 0), (0, .ref x0), (1, .int (nI k_2)), (2, .int (nI k_5))]) hx hb dX11_same_25 rfl hl (by decide) rfl (fun ls hl => ?_)
          have lp_7 : ∀ (n_8 : Nat) (i : Nat) (H : Heap) (locs : List Loc) (ls : Array Slot), 1440 - i < n_8 → (i ≤ 1440) → (sno k_2 k_5 i) → va_P D vwCl [ro_rrrrrrrrrrrrrrrirl x0 11 (q 0) (q 1) (q 2) (q 3) (q 4) (q 5) (q 6) (q 7) (q 8) (q 9) (q 10) (q 11) (q 12) (q 13) (q 14) hc (q 16) dr] H → va_D A [ro_rrrrrrrrrrrrrrrirl x0 11 (q 0) (q 1) (q 2) (q 3) (q 4) (q 5) (q 6) (q 7) (q 8) (q 9) (q 10) (q 11) (q 12) (q 13) (q 14) hc (q 16) dr] → va_S A s.heap H locs → lv_has ls 4 [(3, .int (nI i)), (0, .ref x0), (1, .int (nI k_2)), (2, .int (nI k_5))] → W p l e { frames := 0, cells := 0, slots := 0, locals := 0 } s m ([.ref x0, .int (nI k_2), .int (nI k_5)] : List Value).toArray below meth c H locs 0 0 (MQ below (skI D (skT cI cJ cC cZ cS) (fun (r : Int32) (u : va_W) => smR (nI k_2) (nI k_5) r ∧ u = [ro_rrrrrrrrrrrrrrrirl x0 11 (q 0) (q 1) (q 2) (q 3) (q 4) (q 5) (q 6) (q 7) (q 8) (q 9) (q 10) (q 11) (q 12) (q 13) (q 14) hc (q 16) dr]) A) ([.ref x0, .int (nI k_2), .int (nI k_5)] : List Value).toArray s 0 0 A) (F0 m 26 ls []) := by
            intro n_8
            induction n_8 with
            | zero => intro i H locs ls hm; exact absurd hm (Nat.not_lt_zero _)
            | succ n_8 ih_lp_7 =>
              intro i H locs ls hm hi hno hP hD hS hl
              refine lv_iload_n hx hb dX11_same_26 rfl (lv_at hl 0 rfl) ?_
              refine lv_sipush (v := 1440) hx hb dX11_same_27 (by decide) ?_
              refine lv_icmp_ge (tgt := 53) hx hb dX11_same_30 (by decide) (fun c_9 => ?_) (fun c_9 => ?_)
              · have c_9 : 1440 ≤ i := (nle 1440 i (Nat.le_of_ble_eq_true rfl) (by omega)).mp c_9
                refine lv_iconst (v := (-1)) hx hb dX11_same_53 (by decide) ?_
                exact sk_iret hx hb hr rfl hlocks hK hP hD hS (⟨(sm_none (by omega) (by omega) (by omega) hno), rfl⟩) (Nat.le_of_ble_eq_true rfl) (Nat.le_of_ble_eq_true rfl) dX11_same_54
              · have c_9 : ¬ (1440 ≤ i) := fun h => c_9 ((nle 1440 i (Nat.le_of_ble_eq_true rfl) (by omega)).mpr h)
                refine lv_iload_n hx hb dX11_same_33 rfl (lv_at hl 2 rfl) ?_
                refine lv_iload_n hx hb dX11_same_34 rfl (lv_at hl 3 rfl) ?_
                refine lv_iload_n hx hb dX11_same_35 rfl (lv_at hl 0 rfl) ?_
                refine lv_imul hx hb dX11_same_36 ?_
                refine sk_top (nI (k_5 * i)) (nmul k_5 i) ?_
                refine lv_isub hx hb dX11_same_37 ?_
                refine lv_topi (fun v_10 ev_10 => ?_)
                refine lv_sipush (v := 1440) hx hb dX11_same_38 (by decide) ?_
                refine lv_irem hx hb dX11_same_41 (by decide) ?_
                refine lv_topi (fun v_11 ev_11 => ?_)
                refine lv_if_ne (tgt := 47) hx hb dX11_same_42 (by decide) (fun c_12 => ?_) (fun c_12 => ?_)
                · skip
                  refine lv_iinc (v := nI (i + 1)) (lv' := [(3, .int (nI (i + 1))), (0, .ref x0), (1, .int (nI k_2)), (2, .int (nI k_5))]) hx hb dX11_same_47 hl (k := 0) rfl (ninc i 1 (by decide)) (by decide) rfl (fun ls hl => ?_)
                  refine lv_goto (tgt := 26) hx hb dX11_same_50 (by decide) ?_
                  exact ih_lp_7 (i + 1) _ _ _ (by omega) (by omega) (sno_s hno (fun h => c_12 ((sm_x (by omega) (by omega) (by omega) ev_10 ev_11).mpr h))) hP hD hS (lv_sub hl [0, 1, 2, 3] rfl)
                · skip
                  refine lv_iload_n hx hb dX11_same_45 rfl (lv_at hl 0 rfl) ?_
                  exact sk_iret hx hb hr rfl hlocks hK hP hD hS (⟨(sm_found (by omega) (by omega) (by omega) ((sm_x (by omega) (by omega) (by omega) ev_10 ev_11).mp c_12) hno), rfl⟩) (Nat.le_of_ble_eq_true rfl) (Nat.le_of_ble_eq_true rfl) dX11_same_46
          exact lp_7 (1440 - 0 + 1) 0 _ _ _ (Nat.lt_succ_self _) (by omega) sno_0 hP hD hS (lv_sub hl [0, 1, 2, 3] rfl)
        · have c_6 : ¬ (k_5 ≤ 1439) := fun h => c_6 ((nle k_5 1439 (by omega) (Nat.le_of_ble_eq_true rfl)).mpr h)
          refine lv_iconst (v := (-1)) hx hb dX11_same_22 (by decide) ?_
          exact sk_iret hx hb hr rfl hlocks hK hP hD hS (⟨(Or.inr ⟨out4 (by omega) (by omega), rfl⟩), rfl⟩) (Nat.le_of_ble_eq_true rfl) (Nat.le_of_ble_eq_true rfl) dX11_same_23
set_option maxHeartbeats 4000000 in
set_option maxRecDepth 100000 in
theorem c_Tape_leftN (l : Launch) (D : va_G) (cI cJ cC cZ cS : ClassId) (h0 : Nat) (k1 : Nat) (tl : Nat) (tb : Nat → Nat) (k : Nat) (htl : tl ≤ 1600) (htb : ∀ j, tb j ≤ 255) (hk : k < 1600) : skM l yX10_left cX10_left 2 (some .int) 0 0 0 0 D (skT cI cJ cC cZ cS) [.ref h0, .int (nI k)] [ro_rn h0 10 k1 tl, ra_N k1 cI 1600 tb] (skI D (skT cI cJ cC cZ cS) (fun (r : Int32) (u : va_W) => tb k ≤ 255 ∧ r = nI (tb k) ∧ u = [ro_rn h0 10 k1 tl, ra_N k1 cI 1600 tb])) := by
  refine skM_of pf_X10_left (Nat.le_of_ble_eq_true rfl) ?_
  intro p e s m below meth c A ls E hP hD hl
  refine skE_el E (fun hx hb hr hml hlocks hin hown hts hK hA => ?_)
  have hown : s.vm.findClass RX10 = some m.cls := hown
  have hS : va_S A s.heap s.heap [] := va_S.rf
  have hl : lv_has ls 2 [(0, .ref h0), (1, .int (nI k))] := hl
  refine lv_iload_n hx hb dX10_left_0 rfl (lv_at hl 1 rfl) ?_
  refine lv_if_lt (tgt := 22) hx hb dX10_left_1 (by decide) (fun c => absurd c (nI_pos (by omega))) (fun c_1 => ?_)
  refine lv_iload_n hx hb dX10_left_4 rfl (lv_at hl 1 rfl) ?_
  refine lv_aload_n hx hb dX10_left_5 rfl (lv_at hl 0 rfl) ?_
  refine sk_get (v := .ref k1) (C := RX10) (T := TX10) (N := 2) hx hb hts inlX10 hown hK hP 0 rfl rfl 0 (Nat.le_of_ble_eq_true rfl) w_1_39 rfl dX10_left_6 ?_
  refine va_alen (v := 1600) hx hb hK.1 hP 1 0 rfl rfl rfl dX10_left_9 ?_
  refine lv_icmp_ge (tgt := 22) hx hb dX10_left_10 (by decide) (fun c => absurd c (fun h9 => absurd ((nle 1600 k (Nat.le_of_ble_eq_true rfl) (by omega)).mp h9) (by omega))) (fun c_2 => ?_)
  refine lv_aload_n hx hb dX10_left_13 rfl (lv_at hl 0 rfl) ?_
  refine sk_get (v := .ref k1) (C := RX10) (T := TX10) (N := 2) hx hb hts inlX10 hown hK hP 0 rfl rfl 0 (Nat.le_of_ble_eq_true rfl) w_1_39 rfl dX10_left_14 ?_
  refine lv_iload_n hx hb dX10_left_17 rfl (lv_at hl 1 rfl) ?_
  refine va_iald hx hb hK.1 hP 1 0 rfl rfl (vin k 1600 (by omega) (Nat.le_of_ble_eq_true rfl)) dX10_left_18 ?_
  refine sk_top (nI (tb k)) (nrd tb k (by omega)) ?_
  have hb_3 := htb k
  refine lv_goto (tgt := 23) hx hb dX10_left_19 (by decide) ?_
  exact sk_iret hx hb hr rfl hlocks hK hP hD hS (⟨htb k, rfl, rfl⟩) (Nat.le_of_ble_eq_true rfl) (Nat.le_of_ble_eq_true rfl) dX10_left_23
/-! what an image is -/
def imgK (tb : Nat → Nat) (e : Nat) : Prop := ∀ k, 2 ≤ k → k < e → tb k ≤ 9 ∧ (2 < k → k % 3 = 2 → tb k ≤ 1)
def imgO (tb : Nat → Nat) (n dy : Nat) : Prop := n = 3 * dy + 4 ∧ tb (3 * dy + 3) = chkN tb (3 * dy + 3) ∧ tb 0 * 256 + tb 1 ≤ 999 ∧ imgK tb (3 * dy + 3)
theorem imgK_0 {tb : Nat → Nat} (h : tb 2 < 10) : imgK tb 3 := fun k h1 h2 => by
  obtain rfl : k = 2 := by omega
  exact ⟨by omega, fun q => absurd q (by omega)⟩
theorem imgK_s {tb : Nat → Nat} {i : Nat} (h : imgK tb i) (h3 : i % 3 = 0) (h1 : tb i < 10) (h2 : tb (i + 1) < 10) (h4 : tb (i + 2) ≤ 1) : imgK tb (i + 3) := fun k q1 q2 => by
  by_cases e : k < i
  · exact h k q1 e
  · by_cases e0 : k = i
    · subst e0; exact ⟨by omega, fun _ q => absurd q (by omega)⟩
    · by_cases e1 : k = i + 1
      · subst e1; exact ⟨by omega, fun _ q => absurd q (by omega)⟩
      · obtain rfl : k = i + 2 := by omega
        exact ⟨by omega, fun _ _ => h4⟩
theorem dg_X11_tellsImage_0_0 : bqL cX11_tellsImage 0 [(0, [6]), (1, [42]), (2, [180, 0, 59]), (5, [180, 0, 144]), (8, [104]), (9, [6]), (10, [96]), (11, [60]), (12, [42]), (13, [180, 0, 12]), (16, [180, 0, 110]), (19, [27]), (20, [4]), (21, [96]), (22, [160, 0, 22]), (44, [3]), (45, [172]), (25, [42]), (26, [180, 0, 12]), (29, [27]), (30, [182, 1, 12]), (33, [42]), (34, [180, 0, 12]), (37, [27]), (38, [182, 1, 57]), (41, [159, 0, 5]), (46, [42]), (47, [180, 0, 12]), (50, [3]), (51, [182, 1, 12]), (54, [17, 1, 0]), (57, [104]), (58, [42]), (59, [180, 0, 12]), (62, [4]), (63, [182, 1, 12]), (66, [96]), (67, [17, 3, 231]), (70, [163, 0, 16]), (86, [3])] = true := by decide +kernel
theorem dX11_tellsImage_0 : decode cX11_tellsImage 0 = .ok (.iconst 3, 1) := q_iconst3 (bat_get dg_X11_tellsImage_0_0 0 rfl rfl)
theorem dX11_tellsImage_1 : decode cX11_tellsImage 1 = .ok (.aload_n 0, 1) := q_aload_n0 (bat_get dg_X11_tellsImage_0_0 1 rfl rfl)
theorem dX11_tellsImage_2 : decode cX11_tellsImage 2 = .ok (.getfield 59, 3) := q_getfield (bat_get dg_X11_tellsImage_0_0 2 rfl rfl) rfl
theorem dX11_tellsImage_5 : decode cX11_tellsImage 5 = .ok (.getfield 144, 3) := q_getfield (bat_get dg_X11_tellsImage_0_0 3 rfl rfl) rfl
theorem dX11_tellsImage_8 : decode cX11_tellsImage 8 = .ok (.imul, 1) := q_imul (bat_get dg_X11_tellsImage_0_0 4 rfl rfl)
theorem dX11_tellsImage_9 : decode cX11_tellsImage 9 = .ok (.iconst 3, 1) := q_iconst3 (bat_get dg_X11_tellsImage_0_0 5 rfl rfl)
theorem dX11_tellsImage_10 : decode cX11_tellsImage 10 = .ok (.iadd, 1) := q_iadd (bat_get dg_X11_tellsImage_0_0 6 rfl rfl)
theorem dX11_tellsImage_11 : decode cX11_tellsImage 11 = .ok (.istore_n 1, 1) := q_istore_n1 (bat_get dg_X11_tellsImage_0_0 7 rfl rfl)
theorem dX11_tellsImage_12 : decode cX11_tellsImage 12 = .ok (.aload_n 0, 1) := q_aload_n0 (bat_get dg_X11_tellsImage_0_0 8 rfl rfl)
theorem dX11_tellsImage_13 : decode cX11_tellsImage 13 = .ok (.getfield 12, 3) := q_getfield (bat_get dg_X11_tellsImage_0_0 9 rfl rfl) rfl
theorem dX11_tellsImage_16 : decode cX11_tellsImage 16 = .ok (.getfield 110, 3) := q_getfield (bat_get dg_X11_tellsImage_0_0 10 rfl rfl) rfl
theorem dX11_tellsImage_19 : decode cX11_tellsImage 19 = .ok (.iload_n 1, 1) := q_iload_n1 (bat_get dg_X11_tellsImage_0_0 11 rfl rfl)
theorem dX11_tellsImage_20 : decode cX11_tellsImage 20 = .ok (.iconst 1, 1) := q_iconst1 (bat_get dg_X11_tellsImage_0_0 12 rfl rfl)
theorem dX11_tellsImage_21 : decode cX11_tellsImage 21 = .ok (.iadd, 1) := q_iadd (bat_get dg_X11_tellsImage_0_0 13 rfl rfl)
theorem dX11_tellsImage_22 : decode cX11_tellsImage 22 = .ok (.if_icmp .ne 22, 3) := q_if_icmp_ne (bat_get dg_X11_tellsImage_0_0 14 rfl rfl) rfl
theorem dX11_tellsImage_44 : decode cX11_tellsImage 44 = .ok (.iconst 0, 1) := q_iconst0 (bat_get dg_X11_tellsImage_0_0 15 rfl rfl)
theorem dX11_tellsImage_45 : decode cX11_tellsImage 45 = .ok (.ireturn, 1) := q_ireturn (bat_get dg_X11_tellsImage_0_0 16 rfl rfl)
theorem dX11_tellsImage_25 : decode cX11_tellsImage 25 = .ok (.aload_n 0, 1) := q_aload_n0 (bat_get dg_X11_tellsImage_0_0 17 rfl rfl)
theorem dX11_tellsImage_26 : decode cX11_tellsImage 26 = .ok (.getfield 12, 3) := q_getfield (bat_get dg_X11_tellsImage_0_0 18 rfl rfl) rfl
theorem dX11_tellsImage_29 : decode cX11_tellsImage 29 = .ok (.iload_n 1, 1) := q_iload_n1 (bat_get dg_X11_tellsImage_0_0 19 rfl rfl)
theorem dX11_tellsImage_30 : decode cX11_tellsImage 30 = .ok (.invokevirtual 268, 3) := q_invokevirtual (bat_get dg_X11_tellsImage_0_0 20 rfl rfl) rfl
theorem dX11_tellsImage_33 : decode cX11_tellsImage 33 = .ok (.aload_n 0, 1) := q_aload_n0 (bat_get dg_X11_tellsImage_0_0 21 rfl rfl)
theorem dX11_tellsImage_34 : decode cX11_tellsImage 34 = .ok (.getfield 12, 3) := q_getfield (bat_get dg_X11_tellsImage_0_0 22 rfl rfl) rfl
theorem dX11_tellsImage_37 : decode cX11_tellsImage 37 = .ok (.iload_n 1, 1) := q_iload_n1 (bat_get dg_X11_tellsImage_0_0 23 rfl rfl)
theorem dX11_tellsImage_38 : decode cX11_tellsImage 38 = .ok (.invokevirtual 313, 3) := q_invokevirtual (bat_get dg_X11_tellsImage_0_0 24 rfl rfl) rfl
theorem dX11_tellsImage_41 : decode cX11_tellsImage 41 = .ok (.if_icmp .eq 5, 3) := q_if_icmp_eq (bat_get dg_X11_tellsImage_0_0 25 rfl rfl) rfl
theorem dX11_tellsImage_46 : decode cX11_tellsImage 46 = .ok (.aload_n 0, 1) := q_aload_n0 (bat_get dg_X11_tellsImage_0_0 26 rfl rfl)
theorem dX11_tellsImage_47 : decode cX11_tellsImage 47 = .ok (.getfield 12, 3) := q_getfield (bat_get dg_X11_tellsImage_0_0 27 rfl rfl) rfl
theorem dX11_tellsImage_50 : decode cX11_tellsImage 50 = .ok (.iconst 0, 1) := q_iconst0 (bat_get dg_X11_tellsImage_0_0 28 rfl rfl)
theorem dX11_tellsImage_51 : decode cX11_tellsImage 51 = .ok (.invokevirtual 268, 3) := q_invokevirtual (bat_get dg_X11_tellsImage_0_0 29 rfl rfl) rfl
theorem dX11_tellsImage_54 : decode cX11_tellsImage 54 = .ok (.sipush 256, 3) := q_sipush (bat_get dg_X11_tellsImage_0_0 30 rfl rfl) rfl
theorem dX11_tellsImage_57 : decode cX11_tellsImage 57 = .ok (.imul, 1) := q_imul (bat_get dg_X11_tellsImage_0_0 31 rfl rfl)
theorem dX11_tellsImage_58 : decode cX11_tellsImage 58 = .ok (.aload_n 0, 1) := q_aload_n0 (bat_get dg_X11_tellsImage_0_0 32 rfl rfl)
theorem dX11_tellsImage_59 : decode cX11_tellsImage 59 = .ok (.getfield 12, 3) := q_getfield (bat_get dg_X11_tellsImage_0_0 33 rfl rfl) rfl
theorem dX11_tellsImage_62 : decode cX11_tellsImage 62 = .ok (.iconst 1, 1) := q_iconst1 (bat_get dg_X11_tellsImage_0_0 34 rfl rfl)
theorem dX11_tellsImage_63 : decode cX11_tellsImage 63 = .ok (.invokevirtual 268, 3) := q_invokevirtual (bat_get dg_X11_tellsImage_0_0 35 rfl rfl) rfl
theorem dX11_tellsImage_66 : decode cX11_tellsImage 66 = .ok (.iadd, 1) := q_iadd (bat_get dg_X11_tellsImage_0_0 36 rfl rfl)
theorem dX11_tellsImage_67 : decode cX11_tellsImage 67 = .ok (.sipush 999, 3) := q_sipush (bat_get dg_X11_tellsImage_0_0 37 rfl rfl) rfl
theorem dX11_tellsImage_70 : decode cX11_tellsImage 70 = .ok (.if_icmp .gt 16, 3) := q_if_icmp_gt (bat_get dg_X11_tellsImage_0_0 38 rfl rfl) rfl
theorem dX11_tellsImage_86 : decode cX11_tellsImage 86 = .ok (.iconst 0, 1) := q_iconst0 (bat_get dg_X11_tellsImage_0_0 39 rfl rfl)
theorem dg_X11_tellsImage_73_87 : bqL cX11_tellsImage 73 [(14, [172]), (0, [42]), (1, [180, 0, 12]), (4, [5]), (5, [182, 1, 12]), (8, [16, 10]), (10, [161, 0, 5]), (15, [6]), (16, [61]), (17, [28]), (18, [27]), (19, [162, 0, 53]), (72, [4]), (73, [172]), (22, [42]), (23, [180, 0, 12]), (26, [28]), (27, [182, 1, 12]), (30, [16, 10]), (32, [162, 0, 32]), (64, [3]), (65, [172]), (35, [42]), (36, [180, 0, 12]), (39, [28]), (40, [4]), (41, [96]), (42, [182, 1, 12]), (45, [16, 10]), (47, [162, 0, 17]), (50, [42]), (51, [180, 0, 12]), (54, [28]), (55, [5]), (56, [96]), (57, [182, 1, 12]), (60, [4]), (61, [164, 0, 5]), (66, [132, 2, 3]), (69, [167, 255, 204])] = true := by decide +kernel
theorem dX11_tellsImage_87 : decode cX11_tellsImage 87 = .ok (.ireturn, 1) := q_ireturn (bat_get dg_X11_tellsImage_73_87 0 rfl rfl)
theorem dX11_tellsImage_73 : decode cX11_tellsImage 73 = .ok (.aload_n 0, 1) := q_aload_n0 (bat_get dg_X11_tellsImage_73_87 1 rfl rfl)
theorem dX11_tellsImage_74 : decode cX11_tellsImage 74 = .ok (.getfield 12, 3) := q_getfield (bat_get dg_X11_tellsImage_73_87 2 rfl rfl) rfl
theorem dX11_tellsImage_77 : decode cX11_tellsImage 77 = .ok (.iconst 2, 1) := q_iconst2 (bat_get dg_X11_tellsImage_73_87 3 rfl rfl)
theorem dX11_tellsImage_78 : decode cX11_tellsImage 78 = .ok (.invokevirtual 268, 3) := q_invokevirtual (bat_get dg_X11_tellsImage_73_87 4 rfl rfl) rfl
theorem dX11_tellsImage_81 : decode cX11_tellsImage 81 = .ok (.bipush 10, 2) := q_bipush (bat_get dg_X11_tellsImage_73_87 5 rfl rfl) rfl
theorem dX11_tellsImage_83 : decode cX11_tellsImage 83 = .ok (.if_icmp .lt 5, 3) := q_if_icmp_lt (bat_get dg_X11_tellsImage_73_87 6 rfl rfl) rfl
theorem dX11_tellsImage_88 : decode cX11_tellsImage 88 = .ok (.iconst 3, 1) := q_iconst3 (bat_get dg_X11_tellsImage_73_87 7 rfl rfl)
theorem dX11_tellsImage_89 : decode cX11_tellsImage 89 = .ok (.istore_n 2, 1) := q_istore_n2 (bat_get dg_X11_tellsImage_73_87 8 rfl rfl)
theorem dX11_tellsImage_90 : decode cX11_tellsImage 90 = .ok (.iload_n 2, 1) := q_iload_n2 (bat_get dg_X11_tellsImage_73_87 9 rfl rfl)
theorem dX11_tellsImage_91 : decode cX11_tellsImage 91 = .ok (.iload_n 1, 1) := q_iload_n1 (bat_get dg_X11_tellsImage_73_87 10 rfl rfl)
theorem dX11_tellsImage_92 : decode cX11_tellsImage 92 = .ok (.if_icmp .ge 53, 3) := q_if_icmp_ge (bat_get dg_X11_tellsImage_73_87 11 rfl rfl) rfl
theorem dX11_tellsImage_145 : decode cX11_tellsImage 145 = .ok (.iconst 1, 1) := q_iconst1 (bat_get dg_X11_tellsImage_73_87 12 rfl rfl)
theorem dX11_tellsImage_146 : decode cX11_tellsImage 146 = .ok (.ireturn, 1) := q_ireturn (bat_get dg_X11_tellsImage_73_87 13 rfl rfl)
theorem dX11_tellsImage_95 : decode cX11_tellsImage 95 = .ok (.aload_n 0, 1) := q_aload_n0 (bat_get dg_X11_tellsImage_73_87 14 rfl rfl)
theorem dX11_tellsImage_96 : decode cX11_tellsImage 96 = .ok (.getfield 12, 3) := q_getfield (bat_get dg_X11_tellsImage_73_87 15 rfl rfl) rfl
theorem dX11_tellsImage_99 : decode cX11_tellsImage 99 = .ok (.iload_n 2, 1) := q_iload_n2 (bat_get dg_X11_tellsImage_73_87 16 rfl rfl)
theorem dX11_tellsImage_100 : decode cX11_tellsImage 100 = .ok (.invokevirtual 268, 3) := q_invokevirtual (bat_get dg_X11_tellsImage_73_87 17 rfl rfl) rfl
theorem dX11_tellsImage_103 : decode cX11_tellsImage 103 = .ok (.bipush 10, 2) := q_bipush (bat_get dg_X11_tellsImage_73_87 18 rfl rfl) rfl
theorem dX11_tellsImage_105 : decode cX11_tellsImage 105 = .ok (.if_icmp .ge 32, 3) := q_if_icmp_ge (bat_get dg_X11_tellsImage_73_87 19 rfl rfl) rfl
theorem dX11_tellsImage_137 : decode cX11_tellsImage 137 = .ok (.iconst 0, 1) := q_iconst0 (bat_get dg_X11_tellsImage_73_87 20 rfl rfl)
theorem dX11_tellsImage_138 : decode cX11_tellsImage 138 = .ok (.ireturn, 1) := q_ireturn (bat_get dg_X11_tellsImage_73_87 21 rfl rfl)
theorem dX11_tellsImage_108 : decode cX11_tellsImage 108 = .ok (.aload_n 0, 1) := q_aload_n0 (bat_get dg_X11_tellsImage_73_87 22 rfl rfl)
theorem dX11_tellsImage_109 : decode cX11_tellsImage 109 = .ok (.getfield 12, 3) := q_getfield (bat_get dg_X11_tellsImage_73_87 23 rfl rfl) rfl
theorem dX11_tellsImage_112 : decode cX11_tellsImage 112 = .ok (.iload_n 2, 1) := q_iload_n2 (bat_get dg_X11_tellsImage_73_87 24 rfl rfl)
theorem dX11_tellsImage_113 : decode cX11_tellsImage 113 = .ok (.iconst 1, 1) := q_iconst1 (bat_get dg_X11_tellsImage_73_87 25 rfl rfl)
theorem dX11_tellsImage_114 : decode cX11_tellsImage 114 = .ok (.iadd, 1) := q_iadd (bat_get dg_X11_tellsImage_73_87 26 rfl rfl)
theorem dX11_tellsImage_115 : decode cX11_tellsImage 115 = .ok (.invokevirtual 268, 3) := q_invokevirtual (bat_get dg_X11_tellsImage_73_87 27 rfl rfl) rfl
theorem dX11_tellsImage_118 : decode cX11_tellsImage 118 = .ok (.bipush 10, 2) := q_bipush (bat_get dg_X11_tellsImage_73_87 28 rfl rfl) rfl
theorem dX11_tellsImage_120 : decode cX11_tellsImage 120 = .ok (.if_icmp .ge 17, 3) := q_if_icmp_ge (bat_get dg_X11_tellsImage_73_87 29 rfl rfl) rfl
theorem dX11_tellsImage_123 : decode cX11_tellsImage 123 = .ok (.aload_n 0, 1) := q_aload_n0 (bat_get dg_X11_tellsImage_73_87 30 rfl rfl)
theorem dX11_tellsImage_124 : decode cX11_tellsImage 124 = .ok (.getfield 12, 3) := q_getfield (bat_get dg_X11_tellsImage_73_87 31 rfl rfl) rfl
theorem dX11_tellsImage_127 : decode cX11_tellsImage 127 = .ok (.iload_n 2, 1) := q_iload_n2 (bat_get dg_X11_tellsImage_73_87 32 rfl rfl)
theorem dX11_tellsImage_128 : decode cX11_tellsImage 128 = .ok (.iconst 2, 1) := q_iconst2 (bat_get dg_X11_tellsImage_73_87 33 rfl rfl)
theorem dX11_tellsImage_129 : decode cX11_tellsImage 129 = .ok (.iadd, 1) := q_iadd (bat_get dg_X11_tellsImage_73_87 34 rfl rfl)
theorem dX11_tellsImage_130 : decode cX11_tellsImage 130 = .ok (.invokevirtual 268, 3) := q_invokevirtual (bat_get dg_X11_tellsImage_73_87 35 rfl rfl) rfl
theorem dX11_tellsImage_133 : decode cX11_tellsImage 133 = .ok (.iconst 1, 1) := q_iconst1 (bat_get dg_X11_tellsImage_73_87 36 rfl rfl)
theorem dX11_tellsImage_134 : decode cX11_tellsImage 134 = .ok (.if_icmp .le 5, 3) := q_if_icmp_le (bat_get dg_X11_tellsImage_73_87 37 rfl rfl) rfl
theorem dX11_tellsImage_139 : decode cX11_tellsImage 139 = .ok (.iinc 2 3, 3) := q_iinc (bat_get dg_X11_tellsImage_73_87 38 rfl rfl) rfl
theorem dX11_tellsImage_142 : decode cX11_tellsImage 142 = .ok (.goto (-52), 3) := q_goto (bat_get dg_X11_tellsImage_73_87 39 rfl rfl) rfl
theorem w_2_123 : (Cond.fieldLink RX11 12 "SameKeeper" "tape" "LSameKeeper$Tape;") ∈ wsL_law := sk_mem (ck_2 _ (List.mem_of_getElem? (i := 123) rfl)) rfl
theorem w_1_42 : (Cond.fieldLink RX11 110 "SameKeeper$Tape" "length" "I") ∈ wsL_law := sk_mem (ck_1 _ (List.mem_of_getElem? (i := 42) rfl)) rfl
theorem w_4_214 : (Cond.methodLink RX11 268 yX10_left) ∈ wsL_law := sk_mem (ck_4 _ (List.mem_of_getElem? (i := 214) rfl)) rfl
theorem w_5_128 : (Cond.methodLink RX11 313 yX10_checkOf) ∈ wsL_law := sk_mem (ck_5 _ (List.mem_of_getElem? (i := 128) rfl)) rfl
theorem w_5_129 : (Cond.instanceMethod yX10_checkOf) ∈ wsL_law := sk_mem (ck_5 _ (List.mem_of_getElem? (i := 129) rfl)) rfl
theorem w_5_130 : (Cond.selects RX10 yX10_checkOf yX10_checkOf) ∈ wsL_law := sk_mem (ck_5 _ (List.mem_of_getElem? (i := 130) rfl)) rfl
theorem w_5_144 : (Cond.code yX11_tellsImage cX11_tellsImage 3 (some .boolean)) ∈ wsL_law := sk_mem (ck_5 _ (List.mem_of_getElem? (i := 144) rfl)) rfl
def om_4_6 : List Bool := false :: true :: true :: false :: []
theorem hd_X10_checkOf_1 : skD yX10_checkOf 1 := by decide +kernel
set_option maxHeartbeats 4000000 in
set_option maxRecDepth 100000 in
theorem c_x_tellsImage (l : Launch) (D : va_G) (cI cJ cC cZ cS : ClassId) (x0 : Nat) (q : Nat → Nat) (hc : Int32) (dr : Int64) (tl : Nat) (tb : Nat → Nat) (dy : Nat) (mo : Nat) (wk : Int32) (mu : Int32) (ke : Int32) (fb : Nat → Int32) (fw : Nat → Int32) (htl : tl ≤ 1600) (htb : ∀ j, tb j ≤ 255) (hdy : dy ≤ 9) (hmo : mo ≤ 9) : skM l yX11_tellsImage cX11_tellsImage 3 (some .boolean) 2 44 0 0 D (skT cI cJ cC cZ cS) [.ref x0] [ro_rrrrrrrrrrrrrrrirl x0 11 (q 0) (q 1) (q 2) (q 3) (q 4) (q 5) (q 6) (q 7) (q 8) (q 9) (q 10) (q 11) (q 12) (q 13) (q 14) hc (q 16) dr, ro_rn (q 0) 10 (q 20) tl, ra_N (q 20) cI 1600 tb, ro_rrninii (q 7) 7 (q 33) (q 34) dy wk mo mu ke] (skI D (skT cI cJ cC cZ cS) (fun (r : Int32) (u : va_W) => ∃ (b : Nat), b ≤ 1 ∧ (b = 1 → tb 2 ≤ 9) ∧ ((b = 0 ∧ ¬ imgO tb tl dy) ∨ (b = 1 ∧ imgO tb tl dy)) ∧ r = nI b ∧ u = [ro_rrrrrrrrrrrrrrrirl x0 11 (q 0) (q 1) (q 2) (q 3) (q 4) (q 5) (q 6) (q 7) (q 8) (q 9) (q 10) (q 11) (q 12) (q 13) (q 14) hc (q 16) dr, ro_rn (q 0) 10 (q 20) tl, ra_N (q 20) cI 1600 tb, ro_rrninii (q 7) 7 (q 33) (q 34) dy wk mo mu ke])) := by
  refine skM_of pf_X11_tellsImage (Nat.le_of_ble_eq_true rfl) ?_
  intro p e s m below meth c A ls E hP hD hl
  refine skE_el E (fun hx hb hr hml hlocks hin hown hts hK hA => ?_)
  have hown : s.vm.findClass RX11 = some m.cls := hown
  have hS : va_S A s.heap s.heap [] := va_S.rf
  have hl : lv_has ls 3 [(0, .ref x0)] := hl
  refine lv_iconst (v := 3) hx hb dX11_tellsImage_0 ic_3 ?_
  refine lv_aload_n hx hb dX11_tellsImage_1 rfl (lv_at hl 0 rfl) ?_
  refine sk_get (v := .ref (q 7)) (C := RX11) (T := TX11) (N := 18) hx hb hts inlX11 hown hK hP 0 rfl rfl 7 (Nat.le_of_ble_eq_true rfl) w_2_130 rfl dX11_tellsImage_2 ?_
  refine sk_get (v := .int (nI dy)) (C := RX7) (T := TX7) (N := 7) hx hb hts inlX7 hown hK hP 3 rfl rfl 2 (Nat.le_of_ble_eq_true rfl) w_2_1 rfl dX11_tellsImage_5 ?_
  refine lv_imul hx hb dX11_tellsImage_8 ?_
  refine sk_top (nI (3 * dy)) (nmul 3 dy) ?_
  refine lv_iconst (v := 3) hx hb dX11_tellsImage_9 ic_3 ?_
  refine lv_iadd hx hb dX11_tellsImage_10 ?_
  refine sk_top (nI (3 * dy + 3)) (nI_add (3 * dy) 3) ?_
  refine lv_istore_n (lv' := [(1, .int (nI (3 * dy + 3))), (0, .ref x0)]) hx hb dX11_tellsImage_11 rfl hl (by decide) rfl (fun ls hl => ?_)
  refine lv_aload_n hx hb dX11_tellsImage_12 rfl (lv_at hl 1 rfl) ?_
  refine sk_get (v := .ref (q 0)) (C := RX11) (T := TX11) (N := 18) hx hb hts inlX11 hown hK hP 0 rfl rfl 0 (Nat.le_of_ble_eq_true rfl) w_2_123 rfl dX11_tellsImage_13 ?_
  refine sk_get (v := .int (nI tl)) (C := RX10) (T := TX10) (N := 2) hx hb hts inlX10 hown hK hP 1 rfl rfl 1 (Nat.le_of_ble_eq_true rfl) w_1_42 rfl dX11_tellsImage_16 ?_
  refine lv_iload_n hx hb dX11_tellsImage_19 rfl (lv_at hl 0 rfl) ?_
  refine lv_iconst (v := 1) hx hb dX11_tellsImage_20 ic_1 ?_
  refine lv_iadd hx hb dX11_tellsImage_21 ?_
  refine sk_top (nI (3 * dy + 3 + 1)) (nI_add (3 * dy + 3) 1) ?_
  refine lv_icmp_ne (tgt := 44) hx hb dX11_tellsImage_22 (by decide) (fun c_1 => ?_) (fun c_1 => ?_)
  · have c_1 : ¬ (tl = 3 * dy + 3 + 1) := fun h => c_1 ((neq tl (3 * dy + 3 + 1) (by omega) (by omega)).mpr h)
    refine lv_iconst (v := 0) hx hb dX11_tellsImage_44 ic_0 ?_
    exact sk_iret hx hb hr rfl hlocks hK hP hD hS (⟨0, by omega, by omega, (Or.inl ⟨rfl, fun hq => absurd hq.1 (by omega)⟩), rfl, rfl⟩) (Nat.le_of_ble_eq_true rfl) (Nat.le_of_ble_eq_true rfl) dX11_tellsImage_45
  · have c_1 : tl = 3 * dy + 3 + 1 := (neq tl (3 * dy + 3 + 1) (by omega) (by omega)).mp c_1
    refine lv_aload_n hx hb dX11_tellsImage_25 rfl (lv_at hl 1 rfl) ?_
    refine sk_get (v := .ref (q 0)) (C := RX11) (T := TX11) (N := 18) hx hb hts inlX11 hown hK hP 0 rfl rfl 0 (Nat.le_of_ble_eq_true rfl) w_2_123 rfl dX11_tellsImage_26 ?_
    refine lv_iload_n hx hb dX11_tellsImage_29 rfl (lv_at hl 0 rfl) ?_
    refine sk_Vi (q0 := 0) (n := 1) (rest := []) (wr := fmR om_4_6 _) ⟨hx, hb, hml, hown, hts⟩ hl.1 (c_eTape_left_1600 l D cI cJ cC cZ cS (q 0) (q 20) tl tb (3 * dy + 3) htl htb (by omega)) w_4_214 w_4_215 w_4_216 w_1_2 w_4_217 hd_X10_left_1 ⟨⟨(Nat.le_of_ble_eq_true rfl), (Nat.le_of_ble_eq_true rfl)⟩, (Nat.le_of_ble_eq_true rfl), (Nat.le_of_ble_eq_true rfl)⟩ hK hP hD hS hA (fmT om_4_6 0) (fmF om_4_6 0) (fm_C1 rfl rfl) (fm_R rfl rfl) (fm_nT om_4_6 0) (fm_nF om_4_6 0) (fm_di om_4_6 0) rfl rfl rfl rfl (Nat.le_of_ble_eq_true rfl) dX11_tellsImage_30 (fun r_2 u H locs hw hP hD hS => ?_)
    refine anE hw (fun hv_3 hw1 => anE hw1 (fun er_5 eu_4 => ?_))
    clear hw hw1
    subst er_5
    refine o_mgE (ws' := [ro_rrrrrrrrrrrrrrrirl x0 11 (q 0) (q 1) (q 2) (q 3) (q 4) (q 5) (q 6) (q 7) (q 8) (q 9) (q 10) (q 11) (q 12) (q 13) (q 14) hc (q 16) dr, ro_rn (q 0) 10 (q 20) tl, ra_N (q 20) cI 1600 tb, ro_rrninii (q 7) 7 (q 33) (q 34) dy wk mo mu ke]) eu_4 hP hD rfl (fun hP hD => ?_)
    refine lv_aload_n hx hb dX11_tellsImage_33 rfl (lv_at hl 1 rfl) ?_
    refine sk_get (v := .ref (q 0)) (C := RX11) (T := TX11) (N := 18) hx hb hts inlX11 hown hK hP 0 rfl rfl 0 (Nat.le_of_ble_eq_true rfl) w_2_123 rfl dX11_tellsImage_34 ?_
    refine lv_iload_n hx hb dX11_tellsImage_37 rfl (lv_at hl 0 rfl) ?_
    refine sk_Vi (q0 := 0) (n := 1) (rest := [.int (nI (tb (3 * dy + 3)))]) (wr := fmR om_4_6 _) ⟨hx, hb, hml, hown, hts⟩ hl.1 (c_eTape_checkOf_1600 l D cI cJ cC cZ cS (q 0) (q 20) tl tb (3 * dy + 3) htl htb (by omega)) w_5_128 w_5_129 w_5_130 w_1_2 w_5_131 hd_X10_checkOf_1 ⟨⟨(Nat.le_of_ble_eq_true rfl), (Nat.le_of_ble_eq_true rfl)⟩, (Nat.le_of_ble_eq_true rfl), (Nat.le_of_ble_eq_true rfl)⟩ hK hP hD hS hA (fmT om_4_6 0) (fmF om_4_6 0) (fm_C1 rfl rfl) (fm_R rfl rfl) (fm_nT om_4_6 0) (fm_nF om_4_6 0) (fm_di om_4_6 0) rfl rfl rfl rfl (Nat.le_of_ble_eq_true rfl) dX11_tellsImage_38 (fun r_7 u H locs hw hP hD hS => ?_)
    refine exE hw (fun ck2_6 hw1 => anE hw1 (fun hck_8 hw2 => anE hw2 (fun hck9_9 hw3 => anE hw3 (fun er_11 eu_10 => ?_))))
    clear hw hw1 hw2 hw3
    subst er_11
    refine o_mgE (ws' := [ro_rrrrrrrrrrrrrrrirl x0 11 (q 0) (q 1) (q 2) (q 3) (q 4) (q 5) (q 6) (q 7) (q 8) (q 9) (q 10) (q 11) (q 12) (q 13) (q 14) hc (q 16) dr, ro_rn (q 0) 10 (q 20) tl, ra_N (q 20) cI 1600 tb, ro_rrninii (q 7) 7 (q 33) (q 34) dy wk mo mu ke]) eu_10 hP hD rfl (fun hP hD => ?_)
    refine lv_icmp_eq (tgt := 46) hx hb dX11_tellsImage_41 (by decide) (fun c_12 => ?_) (fun c_12 => ?_)
    · have c_12 : tb (3 * dy + 3) = ck2_6 := (neq (tb (3 * dy + 3)) ck2_6 (by omega) (by omega)).mp c_12
      refine lv_aload_n hx hb dX11_tellsImage_46 rfl (lv_at hl 1 rfl) ?_
      refine sk_get (v := .ref (q 0)) (C := RX11) (T := TX11) (N := 18) hx hb hts inlX11 hown hK hP 0 rfl rfl 0 (Nat.le_of_ble_eq_true rfl) w_2_123 rfl dX11_tellsImage_47 ?_
      refine lv_iconst (v := 0) hx hb dX11_tellsImage_50 ic_0 ?_
      refine sk_Vi (q0 := 0) (n := 1) (rest := []) (wr := fmR om_4_6 _) ⟨hx, hb, hml, hown, hts⟩ hl.1 (c_eTape_left_1600 l D cI cJ cC cZ cS (q 0) (q 20) tl tb 0 htl htb (by omega)) w_4_214 w_4_215 w_4_216 w_1_2 w_4_217 hd_X10_left_1 ⟨⟨(Nat.le_of_ble_eq_true rfl), (Nat.le_of_ble_eq_true rfl)⟩, (Nat.le_of_ble_eq_true rfl), (Nat.le_of_ble_eq_true rfl)⟩ hK hP hD hS hA (fmT om_4_6 0) (fmF om_4_6 0) (fm_C1 rfl rfl) (fm_R rfl rfl) (fm_nT om_4_6 0) (fm_nF om_4_6 0) (fm_di om_4_6 0) rfl rfl rfl rfl (Nat.le_of_ble_eq_true rfl) dX11_tellsImage_51 (fun r_13 u H locs hw hP hD hS => ?_)
      refine anE hw (fun hv_14 hw1 => anE hw1 (fun er_16 eu_15 => ?_))
      clear hw hw1
      subst er_16
      refine o_mgE (ws' := [ro_rrrrrrrrrrrrrrrirl x0 11 (q 0) (q 1) (q 2) (q 3) (q 4) (q 5) (q 6) (q 7) (q 8) (q 9) (q 10) (q 11) (q 12) (q 13) (q 14) hc (q 16) dr, ro_rn (q 0) 10 (q 20) tl, ra_N (q 20) cI 1600 tb, ro_rrninii (q 7) 7 (q 33) (q 34) dy wk mo mu ke]) eu_15 hP hD rfl (fun hP hD => ?_)
      refine lv_sipush (v := 256) hx hb dX11_tellsImage_54 (by decide) ?_
      refine lv_imul hx hb dX11_tellsImage_57 ?_
      refine sk_top (nI ((tb 0) * 256)) (nmul (tb 0) 256) ?_
      refine lv_aload_n hx hb dX11_tellsImage_58 rfl (lv_at hl 1 rfl) ?_
      refine sk_get (v := .ref (q 0)) (C := RX11) (T := TX11) (N := 18) hx hb hts inlX11 hown hK hP 0 rfl rfl 0 (Nat.le_of_ble_eq_true rfl) w_2_123 rfl dX11_tellsImage_59 ?_
      refine lv_iconst (v := 1) hx hb dX11_tellsImage_62 ic_1 ?_
      refine sk_Vi (q0 := 0) (n := 1) (rest := [.int (nI ((tb 0) * 256))]) (wr := fmR om_4_6 _) ⟨hx, hb, hml, hown, hts⟩ hl.1 (c_eTape_left_1600 l D cI cJ cC cZ cS (q 0) (q 20) tl tb 1 htl htb (by omega)) w_4_214 w_4_215 w_4_216 w_1_2 w_4_217 hd_X10_left_1 ⟨⟨(Nat.le_of_ble_eq_true rfl), (Nat.le_of_ble_eq_true rfl)⟩, (Nat.le_of_ble_eq_true rfl), (Nat.le_of_ble_eq_true rfl)⟩ hK hP hD hS hA (fmT om_4_6 0) (fmF om_4_6 0) (fm_C1 rfl rfl) (fm_R rfl rfl) (fm_nT om_4_6 0) (fm_nF om_4_6 0) (fm_di om_4_6 0) rfl rfl rfl rfl (Nat.le_of_ble_eq_true rfl) dX11_tellsImage_63 (fun r_17 u H locs hw hP hD hS => ?_)
      refine anE hw (fun hv_18 hw1 => anE hw1 (fun er_20 eu_19 => ?_))
      clear hw hw1
      subst er_20
      refine o_mgE (ws' := [ro_rrrrrrrrrrrrrrrirl x0 11 (q 0) (q 1) (q 2) (q 3) (q 4) (q 5) (q 6) (q 7) (q 8) (q 9) (q 10) (q 11) (q 12) (q 13) (q 14) hc (q 16) dr, ro_rn (q 0) 10 (q 20) tl, ra_N (q 20) cI 1600 tb, ro_rrninii (q 7) 7 (q 33) (q 34) dy wk mo mu ke]) eu_19 hP hD rfl (fun hP hD => ?_)
      refine lv_iadd hx hb dX11_tellsImage_66 ?_
      refine sk_top (nI ((tb 0) * 256 + (tb 1))) (nI_add ((tb 0) * 256) (tb 1)) ?_
      refine lv_sipush (v := 999) hx hb dX11_tellsImage_67 (by decide) ?_
      refine lv_icmp_gt (tgt := 86) hx hb dX11_tellsImage_70 (by decide) (fun c_21 => ?_) (fun c_21 => ?_)
      · have c_21 : 999 < (tb 0) * 256 + (tb 1) := (nlt 999 ((tb 0) * 256 + (tb 1)) (Nat.le_of_ble_eq_true rfl) (by omega)).mp c_21
        refine lv_iconst (v := 0) hx hb dX11_tellsImage_86 ic_0 ?_
        exact sk_iret hx hb hr rfl hlocks hK hP hD hS (⟨0, by omega, by omega, (Or.inl ⟨rfl, fun hq => by have h9 := hq.2.2.1; have h8 := (hq.2.2.2 2 (by omega) (by omega)).1; omega⟩), rfl, rfl⟩) (Nat.le_of_ble_eq_true rfl) (Nat.le_of_ble_eq_true rfl) dX11_tellsImage_87
      · have c_21 : ¬ (999 < (tb 0) * 256 + (tb 1)) := fun h => c_21 ((nlt 999 ((tb 0) * 256 + (tb 1)) (Nat.le_of_ble_eq_true rfl) (by omega)).mpr h)
        refine lv_aload_n hx hb dX11_tellsImage_73 rfl (lv_at hl 1 rfl) ?_
        refine sk_get (v := .ref (q 0)) (C := RX11) (T := TX11) (N := 18) hx hb hts inlX11 hown hK hP 0 rfl rfl 0 (Nat.le_of_ble_eq_true rfl) w_2_123 rfl dX11_tellsImage_74 ?_
        refine lv_iconst (v := 2) hx hb dX11_tellsImage_77 ic_2 ?_
        refine sk_Vi (q0 := 0) (n := 1) (rest := []) (wr := fmR om_4_6 _) ⟨hx, hb, hml, hown, hts⟩ hl.1 (c_eTape_left_1600 l D cI cJ cC cZ cS (q 0) (q 20) tl tb 2 htl htb (by omega)) w_4_214 w_4_215 w_4_216 w_1_2 w_4_217 hd_X10_left_1 ⟨⟨(Nat.le_of_ble_eq_true rfl), (Nat.le_of_ble_eq_true rfl)⟩, (Nat.le_of_ble_eq_true rfl), (Nat.le_of_ble_eq_true rfl)⟩ hK hP hD hS hA (fmT om_4_6 0) (fmF om_4_6 0) (fm_C1 rfl rfl) (fm_R rfl rfl) (fm_nT om_4_6 0) (fm_nF om_4_6 0) (fm_di om_4_6 0) rfl rfl rfl rfl (Nat.le_of_ble_eq_true rfl) dX11_tellsImage_78 (fun r_22 u H locs hw hP hD hS => ?_)
        refine anE hw (fun hv_23 hw1 => anE hw1 (fun er_25 eu_24 => ?_))
        clear hw hw1
        subst er_25
        refine o_mgE (ws' := [ro_rrrrrrrrrrrrrrrirl x0 11 (q 0) (q 1) (q 2) (q 3) (q 4) (q 5) (q 6) (q 7) (q 8) (q 9) (q 10) (q 11) (q 12) (q 13) (q 14) hc (q 16) dr, ro_rn (q 0) 10 (q 20) tl, ra_N (q 20) cI 1600 tb, ro_rrninii (q 7) 7 (q 33) (q 34) dy wk mo mu ke]) eu_24 hP hD rfl (fun hP hD => ?_)
        refine lv_bipush (v := 10) hx hb dX11_tellsImage_81 (by decide) ?_
        refine lv_icmp_lt (tgt := 88) hx hb dX11_tellsImage_83 (by decide) (fun c_26 => ?_) (fun c_26 => ?_)
        · have c_26 : tb 2 < 10 := (nlt (tb 2) 10 (by omega) (Nat.le_of_ble_eq_true rfl)).mp c_26
          refine lv_iconst (v := 3) hx hb dX11_tellsImage_88 ic_3 ?_
          refine lv_istore_n (lv' := [(2, .int 3), (1, .int (nI (3 * dy + 3))), (0, .ref x0)]) hx hb dX11_tellsImage_89 rfl hl (by decide) rfl (fun ls hl => ?_)
          have lp_27 : ∀ (n_28 : Nat) (i : Nat) (H : Heap) (locs : List Loc) (ls : Array Slot), 40 - i < n_28 → (i ≤ 3 * dy + 3) → (i % 3 = 0) → (3 ≤ i) → (imgK tb i) → va_P D vwCl [ro_rrrrrrrrrrrrrrrirl x0 11 (q 0) (q 1) (q 2) (q 3) (q 4) (q 5) (q 6) (q 7) (q 8) (q 9) (q 10) (q 11) (q 12) (q 13) (q 14) hc (q 16) dr, ro_rn (q 0) 10 (q 20) tl, ra_N (q 20) cI 1600 tb, ro_rrninii (q 7) 7 (q 33) (q 34) dy wk mo mu ke] H → va_D A [ro_rrrrrrrrrrrrrrrirl x0 11 (q 0) (q 1) (q 2) (q 3) (q 4) (q 5) (q 6) (q 7) (q 8) (q 9) (q 10) (q 11) (q 12) (q 13) (q 14) hc (q 16) dr, ro_rn (q 0) 10 (q 20) tl, ra_N (q 20) cI 1600 tb, ro_rrninii (q 7) 7 (q 33) (q 34) dy wk mo mu ke] → va_S A s.heap H locs → lv_has ls 3 [(2, .int (nI i)), (1, .int (nI (3 * dy + 3))), (0, .ref x0)] → W p l e { frames := 2, cells := 0, slots := 0, locals := 44 } s m ([.ref x0] : List Value).toArray below meth c H locs 0 0 (MQ below (skI D (skT cI cJ cC cZ cS) (fun (r : Int32) (u : va_W) => ∃ (b : Nat), b ≤ 1 ∧ (b = 1 → tb 2 ≤ 9) ∧ ((b = 0 ∧ ¬ imgO tb tl dy) ∨ (b = 1 ∧ imgO tb tl dy)) ∧ r = nI b ∧ u = [ro_rrrrrrrrrrrrrrrirl x0 11 (q 0) (q 1) (q 2) (q 3) (q 4) (q 5) (q 6) (q 7) (q 8) (q 9) (q 10) (q 11) (q 12) (q 13) (q 14) hc (q 16) dr, ro_rn (q 0) 10 (q 20) tl, ra_N (q 20) cI 1600 tb, ro_rrninii (q 7) 7 (q 33) (q 34) dy wk mo mu ke]) A) ([.ref x0] : List Value).toArray s 0 0 A) (F0 m 90 ls []) := by
            intro n_28
            induction n_28 with
            | zero => intro i H locs ls hm; exact absurd hm (Nat.not_lt_zero _)
            | succ n_28 ih_lp_27 =>
              intro i H locs ls hm hi hi3 hi4 hal hP hD hS hl
              refine lv_iload_n hx hb dX11_tellsImage_90 rfl (lv_at hl 0 rfl) ?_
              refine lv_iload_n hx hb dX11_tellsImage_91 rfl (lv_at hl 1 rfl) ?_
              refine lv_icmp_ge (tgt := 145) hx hb dX11_tellsImage_92 (by decide) (fun c_29 => ?_) (fun c_29 => ?_)
              · have c_29 : 3 * dy + 3 ≤ i := (nle (3 * dy + 3) i (by omega) (by omega)).mp c_29
                refine lv_iconst (v := 1) hx hb dX11_tellsImage_145 ic_1 ?_
                exact sk_iret hx hb hr rfl hlocks hK hP hD hS (⟨1, by omega, by omega, (Or.inr ⟨rfl, by omega, by omega, by omega, fun k h1 h2 => hal k h1 (by omega)⟩), rfl, rfl⟩) (Nat.le_of_ble_eq_true rfl) (Nat.le_of_ble_eq_true rfl) dX11_tellsImage_146
              · have c_29 : ¬ (3 * dy + 3 ≤ i) := fun h => c_29 ((nle (3 * dy + 3) i (by omega) (by omega)).mpr h)
                refine lv_aload_n hx hb dX11_tellsImage_95 rfl (lv_at hl 2 rfl) ?_
                refine sk_get (v := .ref (q 0)) (C := RX11) (T := TX11) (N := 18) hx hb hts inlX11 hown hK hP 0 rfl rfl 0 (Nat.le_of_ble_eq_true rfl) w_2_123 rfl dX11_tellsImage_96 ?_
                refine lv_iload_n hx hb dX11_tellsImage_99 rfl (lv_at hl 0 rfl) ?_
                refine sk_Vi (q0 := 0) (n := 1) (rest := []) (wr := fmR om_4_6 _) ⟨hx, hb, hml, hown, hts⟩ hl.1 (c_eTape_left_1600 l D cI cJ cC cZ cS (q 0) (q 20) tl tb i htl htb (by omega)) w_4_214 w_4_215 w_4_216 w_1_2 w_4_217 hd_X10_left_1 ⟨⟨(Nat.le_of_ble_eq_true rfl), (Nat.le_of_ble_eq_true rfl)⟩, (Nat.le_of_ble_eq_true rfl), (Nat.le_of_ble_eq_true rfl)⟩ hK hP hD hS hA (fmT om_4_6 0) (fmF om_4_6 0) (fm_C1 rfl rfl) (fm_R rfl rfl) (fm_nT om_4_6 0) (fm_nF om_4_6 0) (fm_di om_4_6 0) rfl rfl rfl rfl (Nat.le_of_ble_eq_true rfl) dX11_tellsImage_100 (fun r_30 u H locs hw hP hD hS => ?_)
                refine anE hw (fun hv_31 hw1 => anE hw1 (fun er_33 eu_32 => ?_))
                clear hw hw1
                subst er_33
                refine o_mgE (ws' := [ro_rrrrrrrrrrrrrrrirl x0 11 (q 0) (q 1) (q 2) (q 3) (q 4) (q 5) (q 6) (q 7) (q 8) (q 9) (q 10) (q 11) (q 12) (q 13) (q 14) hc (q 16) dr, ro_rn (q 0) 10 (q 20) tl, ra_N (q 20) cI 1600 tb, ro_rrninii (q 7) 7 (q 33) (q 34) dy wk mo mu ke]) eu_32 hP hD rfl (fun hP hD => ?_)
                refine lv_bipush (v := 10) hx hb dX11_tellsImage_103 (by decide) ?_
                refine lv_icmp_ge (tgt := 137) hx hb dX11_tellsImage_105 (by decide) (fun c_34 => ?_) (fun c_34 => ?_)
                · have c_34 : 10 ≤ tb i := (nle 10 (tb i) (Nat.le_of_ble_eq_true rfl) (by omega)).mp c_34
                  refine lv_iconst (v := 0) hx hb dX11_tellsImage_137 ic_0 ?_
                  exact sk_iret hx hb hr rfl hlocks hK hP hD hS (⟨0, by omega, by omega, (Or.inl ⟨rfl, fun hq => by have h7 := (hq.2.2.2 i (by omega) (by omega)).1; have h8 := (hq.2.2.2 (i + 1) (by omega) (by omega)).1; have h9 := (hq.2.2.2 (i + 2) (by omega) (by omega)).2 (by omega) (by omega); omega⟩), rfl, rfl⟩) (Nat.le_of_ble_eq_true rfl) (Nat.le_of_ble_eq_true rfl) dX11_tellsImage_138
                · have c_34 : ¬ (10 ≤ tb i) := fun h => c_34 ((nle 10 (tb i) (Nat.le_of_ble_eq_true rfl) (by omega)).mpr h)
                  refine lv_aload_n hx hb dX11_tellsImage_108 rfl (lv_at hl 2 rfl) ?_
                  refine sk_get (v := .ref (q 0)) (C := RX11) (T := TX11) (N := 18) hx hb hts inlX11 hown hK hP 0 rfl rfl 0 (Nat.le_of_ble_eq_true rfl) w_2_123 rfl dX11_tellsImage_109 ?_
                  refine lv_iload_n hx hb dX11_tellsImage_112 rfl (lv_at hl 0 rfl) ?_
                  refine lv_iconst (v := 1) hx hb dX11_tellsImage_113 ic_1 ?_
                  refine lv_iadd hx hb dX11_tellsImage_114 ?_
                  refine sk_top (nI (i + 1)) (nI_add i 1) ?_
                  refine sk_Vi (q0 := 0) (n := 1) (rest := []) (wr := fmR om_4_6 _) ⟨hx, hb, hml, hown, hts⟩ hl.1 (c_eTape_left_1600 l D cI cJ cC cZ cS (q 0) (q 20) tl tb (i + 1) htl htb (by omega)) w_4_214 w_4_215 w_4_216 w_1_2 w_4_217 hd_X10_left_1 ⟨⟨(Nat.le_of_ble_eq_true rfl), (Nat.le_of_ble_eq_true rfl)⟩, (Nat.le_of_ble_eq_true rfl), (Nat.le_of_ble_eq_true rfl)⟩ hK hP hD hS hA (fmT om_4_6 0) (fmF om_4_6 0) (fm_C1 rfl rfl) (fm_R rfl rfl) (fm_nT om_4_6 0) (fm_nF om_4_6 0) (fm_di om_4_6 0) rfl rfl rfl rfl (Nat.le_of_ble_eq_true rfl) dX11_tellsImage_115 (fun r_35 u H locs hw hP hD hS => ?_)
                  refine anE hw (fun hv_36 hw1 => anE hw1 (fun er_38 eu_37 => ?_))
                  clear hw hw1
                  subst er_38
                  refine o_mgE (ws' := [ro_rrrrrrrrrrrrrrrirl x0 11 (q 0) (q 1) (q 2) (q 3) (q 4) (q 5) (q 6) (q 7) (q 8) (q 9) (q 10) (q 11) (q 12) (q 13) (q 14) hc (q 16) dr, ro_rn (q 0) 10 (q 20) tl, ra_N (q 20) cI 1600 tb, ro_rrninii (q 7) 7 (q 33) (q 34) dy wk mo mu ke]) eu_37 hP hD rfl (fun hP hD => ?_)
                  refine lv_bipush (v := 10) hx hb dX11_tellsImage_118 (by decide) ?_
                  refine lv_icmp_ge (tgt := 137) hx hb dX11_tellsImage_120 (by decide) (fun c_39 => ?_) (fun c_39 => ?_)
                  · have c_39 : 10 ≤ tb (i + 1) := (nle 10 (tb (i + 1)) (Nat.le_of_ble_eq_true rfl) (by omega)).mp c_39
                    refine lv_iconst (v := 0) hx hb dX11_tellsImage_137 ic_0 ?_
                    exact sk_iret hx hb hr rfl hlocks hK hP hD hS (⟨0, by omega, by omega, (Or.inl ⟨rfl, fun hq => by have h7 := (hq.2.2.2 i (by omega) (by omega)).1; have h8 := (hq.2.2.2 (i + 1) (by omega) (by omega)).1; have h9 := (hq.2.2.2 (i + 2) (by omega) (by omega)).2 (by omega) (by omega); omega⟩), rfl, rfl⟩) (Nat.le_of_ble_eq_true rfl) (Nat.le_of_ble_eq_true rfl) dX11_tellsImage_138
                  · have c_39 : ¬ (10 ≤ tb (i + 1)) := fun h => c_39 ((nle 10 (tb (i + 1)) (Nat.le_of_ble_eq_true rfl) (by omega)).mpr h)
                    refine lv_aload_n hx hb dX11_tellsImage_123 rfl (lv_at hl 2 rfl) ?_
                    refine sk_get (v := .ref (q 0)) (C := RX11) (T := TX11) (N := 18) hx hb hts inlX11 hown hK hP 0 rfl rfl 0 (Nat.le_of_ble_eq_true rfl) w_2_123 rfl dX11_tellsImage_124 ?_
                    refine lv_iload_n hx hb dX11_tellsImage_127 rfl (lv_at hl 0 rfl) ?_
                    refine lv_iconst (v := 2) hx hb dX11_tellsImage_128 ic_2 ?_
                    refine lv_iadd hx hb dX11_tellsImage_129 ?_
                    refine sk_top (nI (i + 2)) (nI_add i 2) ?_
                    refine sk_Vi (q0 := 0) (n := 1) (rest := []) (wr := fmR om_4_6 _) ⟨hx, hb, hml, hown, hts⟩ hl.1 (c_eTape_left_1600 l D cI cJ cC cZ cS (q 0) (q 20) tl tb (i + 2) htl htb (by omega)) w_4_214 w_4_215 w_4_216 w_1_2 w_4_217 hd_X10_left_1 ⟨⟨(Nat.le_of_ble_eq_true rfl), (Nat.le_of_ble_eq_true rfl)⟩, (Nat.le_of_ble_eq_true rfl), (Nat.le_of_ble_eq_true rfl)⟩ hK hP hD hS hA (fmT om_4_6 0) (fmF om_4_6 0) (fm_C1 rfl rfl) (fm_R rfl rfl) (fm_nT om_4_6 0) (fm_nF om_4_6 0) (fm_di om_4_6 0) rfl rfl rfl rfl (Nat.le_of_ble_eq_true rfl) dX11_tellsImage_130 (fun r_40 u H locs hw hP hD hS => ?_)
                    refine anE hw (fun hv_41 hw1 => anE hw1 (fun er_43 eu_42 => ?_))
                    clear hw hw1
                    subst er_43
                    refine o_mgE (ws' := [ro_rrrrrrrrrrrrrrrirl x0 11 (q 0) (q 1) (q 2) (q 3) (q 4) (q 5) (q 6) (q 7) (q 8) (q 9) (q 10) (q 11) (q 12) (q 13) (q 14) hc (q 16) dr, ro_rn (q 0) 10 (q 20) tl, ra_N (q 20) cI 1600 tb, ro_rrninii (q 7) 7 (q 33) (q 34) dy wk mo mu ke]) eu_42 hP hD rfl (fun hP hD => ?_)
                    refine lv_iconst (v := 1) hx hb dX11_tellsImage_133 ic_1 ?_
                    refine lv_icmp_le (tgt := 139) hx hb dX11_tellsImage_134 (by decide) (fun c_44 => ?_) (fun c_44 => ?_)
                    · have c_44 : tb (i + 2) ≤ 1 := (nle (tb (i + 2)) 1 (by omega) (Nat.le_of_ble_eq_true rfl)).mp c_44
                      refine lv_iinc (v := nI (i + 3)) (lv' := [(2, .int (nI (i + 3))), (1, .int (nI (3 * dy + 3))), (0, .ref x0)]) hx hb dX11_tellsImage_139 hl (k := 0) rfl (ninc i 3 (by decide)) (by decide) rfl (fun ls hl => ?_)
                      refine lv_goto (tgt := 90) hx hb dX11_tellsImage_142 (by decide) ?_
                      exact ih_lp_27 (i + 3) _ _ _ (by omega) (by omega) (by omega) (by omega) (imgK_s hal hi3 (by omega) (by omega) (by omega)) hP hD hS (lv_sub hl [0, 1, 2] rfl)
                    · have c_44 : ¬ (tb (i + 2) ≤ 1) := fun h => c_44 ((nle (tb (i + 2)) 1 (by omega) (Nat.le_of_ble_eq_true rfl)).mpr h)
                      refine lv_iconst (v := 0) hx hb dX11_tellsImage_137 ic_0 ?_
                      exact sk_iret hx hb hr rfl hlocks hK hP hD hS (⟨0, by omega, by omega, (Or.inl ⟨rfl, fun hq => by have h7 := (hq.2.2.2 i (by omega) (by omega)).1; have h8 := (hq.2.2.2 (i + 1) (by omega) (by omega)).1; have h9 := (hq.2.2.2 (i + 2) (by omega) (by omega)).2 (by omega) (by omega); omega⟩), rfl, rfl⟩) (Nat.le_of_ble_eq_true rfl) (Nat.le_of_ble_eq_true rfl) dX11_tellsImage_138
          exact lp_27 (40 - 3 + 1) 3 _ _ _ (Nat.lt_succ_self _) (by omega) (by omega) (by omega) (imgK_0 (by omega)) hP hD hS (lv_sub hl [0, 1, 2] rfl)
        · have c_26 : ¬ (tb 2 < 10) := fun h => c_26 ((nlt (tb 2) 10 (by omega) (Nat.le_of_ble_eq_true rfl)).mpr h)
          refine lv_iconst (v := 0) hx hb dX11_tellsImage_86 ic_0 ?_
          exact sk_iret hx hb hr rfl hlocks hK hP hD hS (⟨0, by omega, by omega, (Or.inl ⟨rfl, fun hq => by have h9 := hq.2.2.1; have h8 := (hq.2.2.2 2 (by omega) (by omega)).1; omega⟩), rfl, rfl⟩) (Nat.le_of_ble_eq_true rfl) (Nat.le_of_ble_eq_true rfl) dX11_tellsImage_87
    · have c_12 : ¬ (tb (3 * dy + 3) = ck2_6) := fun h => c_12 ((neq (tb (3 * dy + 3)) ck2_6 (by omega) (by omega)).mpr h)
      refine lv_iconst (v := 0) hx hb dX11_tellsImage_44 ic_0 ?_
      exact sk_iret hx hb hr rfl hlocks hK hP hD hS (⟨0, by omega, by omega, (Or.inl ⟨rfl, fun hq => by have h9 := hq.2.1; omega⟩), rfl, rfl⟩) (Nat.le_of_ble_eq_true rfl) (Nat.le_of_ble_eq_true rfl) dX11_tellsImage_45
def lkRs (P : Except Err (LkS × Nat)) (r : Int32) (dy dy2 : Nat) (xf xp : Int32) : Prop := match P with
  | .ok x => r = nI x.2 ∧ dy2 = lD x.1 ∧ xf = 0 ∧ xp = -1
  | .error e => r = -1 ∧ dy2 = dy ∧ xf = nI e.1 ∧ xp = nI e.2
theorem lD_un (L : LkS) (w : Nat) : lD (untS L w) = lD L := by
  unfold untS
  split <;> rfl
theorem lD_F (L : LkS) : lD (lkF L) = lD L := by
  show lD (untS (untS (untS L 0) 1) 2) = _
  rw [lD_un, lD_un, lD_un]
theorem lrs_ok {tb : Nat → Nat} {n : Nat} {xf xp : Int32} {jn jd jm : Nat} {ju jr : Int32} {jc jx : Nat} {j1 jf jt jb jw : Nat → Int32} {dy : Nat} (h : finO tb n xf xp jn jd jm ju jr jc jx j1 jf jt jb jw) (hf : xf = 0) : lkRs (lockP tb n) (nI jn) dy jd xf xp := by
  unfold finO at h
  unfold lkRs
  cases hP : lockP tb n with
  | error e =>
    rw [hP] at h
    have h0 : xf = nI e.1 ∧ xp = nI e.2 ∧ 1 ≤ e.1 ∧ e.1 ≤ 5 ∧ e.2 ≤ 1700 := h
    have h1 := (neq e.1 0 (by omega) (Nat.le_of_ble_eq_true rfl)).mp (h0.1.symm.trans hf)
    omega
  | ok r =>
    rw [hP] at h
    have h0 : xf = 0 ∧ xp = -1 ∧ jn = r.2 ∧ lkC (lkF r.1) jd jm ju jr jc jx j1 jf jt jb jw := h
    exact ⟨by rw [h0.2.2.1], h0.2.2.2.1.trans (lD_F r.1), h0.1, h0.2.1⟩
theorem lrs_er {tb : Nat → Nat} {n : Nat} {xf xp : Int32} {jn jd jm : Nat} {ju jr : Int32} {jc jx : Nat} {j1 jf jt jb jw : Nat → Int32} {dy : Nat} (h : finO tb n xf xp jn jd jm ju jr jc jx j1 jf jt jb jw) (hf : ¬ xf = 0) : lkRs (lockP tb n) (-1) dy dy xf xp := by
  unfold finO at h
  unfold lkRs
  cases hP : lockP tb n with
  | error e =>
    rw [hP] at h
    have h0 : xf = nI e.1 ∧ xp = nI e.2 ∧ 1 ≤ e.1 ∧ e.1 ≤ 5 ∧ e.2 ≤ 1700 := h
    exact ⟨rfl, rfl, h0.1, h0.2.1⟩
  | ok r =>
    rw [hP] at h
    have h0 : xf = 0 ∧ xp = -1 ∧ jn = r.2 ∧ lkC (lkF r.1) jd jm ju jr jc jx j1 jf jt jb jw := h
    exact absurd h0.1 hf
theorem updG_al {f : Nat → Nat} {k v : Nat} (h : ∀ j, j < k → f j = v) : ∀ j, j < k + 1 → updG f k v j = v := fun j hj => by
  unfold updG
  by_cases e : j = k
  · rw [if_pos e]
  · rw [if_neg e]; exact h j (by omega)
theorem rotG_al {f : Nat → Nat} {v : Nat} (h : ∀ j, j < 20 → f j = v) : ∀ j, j < 20 → updG (rotG f) 19 v j = v := fun j hj => by
  unfold updG rotG
  by_cases e : j = 19
  · rw [if_pos e]
  · rw [if_neg e, if_pos (by omega)]; exact h (j + 1) (by omega)
theorem dg_X11_lookAt_0_0 : bqL cX11_lookAt 0 [(0, [42]), (1, [180, 0, 76]), (4, [42]), (5, [180, 0, 49]), (8, [43]), (9, [182, 0, 185]), (12, [42]), (13, [180, 0, 85]), (16, [43]), (17, [43]), (18, [180, 0, 153]), (21, [3]), (22, [182, 0, 230]), (25, [42]), (26, [180, 0, 85]), (29, [182, 0, 234]), (32, [172])] = true := by decide +kernel
theorem dX11_lookAt_0 : decode cX11_lookAt 0 = .ok (.aload_n 0, 1) := q_aload_n0 (bat_get dg_X11_lookAt_0_0 0 rfl rfl)
theorem dX11_lookAt_1 : decode cX11_lookAt 1 = .ok (.getfield 76, 3) := q_getfield (bat_get dg_X11_lookAt_0_0 1 rfl rfl) rfl
theorem dX11_lookAt_4 : decode cX11_lookAt 4 = .ok (.aload_n 0, 1) := q_aload_n0 (bat_get dg_X11_lookAt_0_0 2 rfl rfl)
theorem dX11_lookAt_5 : decode cX11_lookAt 5 = .ok (.getfield 49, 3) := q_getfield (bat_get dg_X11_lookAt_0_0 3 rfl rfl) rfl
theorem dX11_lookAt_8 : decode cX11_lookAt 8 = .ok (.aload_n 1, 1) := q_aload_n1 (bat_get dg_X11_lookAt_0_0 4 rfl rfl)
theorem dX11_lookAt_9 : decode cX11_lookAt 9 = .ok (.invokevirtual 185, 3) := q_invokevirtual (bat_get dg_X11_lookAt_0_0 5 rfl rfl) rfl
theorem dX11_lookAt_12 : decode cX11_lookAt 12 = .ok (.aload_n 0, 1) := q_aload_n0 (bat_get dg_X11_lookAt_0_0 6 rfl rfl)
theorem dX11_lookAt_13 : decode cX11_lookAt 13 = .ok (.getfield 85, 3) := q_getfield (bat_get dg_X11_lookAt_0_0 7 rfl rfl) rfl
theorem dX11_lookAt_16 : decode cX11_lookAt 16 = .ok (.aload_n 1, 1) := q_aload_n1 (bat_get dg_X11_lookAt_0_0 8 rfl rfl)
theorem dX11_lookAt_17 : decode cX11_lookAt 17 = .ok (.aload_n 1, 1) := q_aload_n1 (bat_get dg_X11_lookAt_0_0 9 rfl rfl)
theorem dX11_lookAt_18 : decode cX11_lookAt 18 = .ok (.getfield 153, 3) := q_getfield (bat_get dg_X11_lookAt_0_0 10 rfl rfl) rfl
theorem dX11_lookAt_21 : decode cX11_lookAt 21 = .ok (.iconst 0, 1) := q_iconst0 (bat_get dg_X11_lookAt_0_0 11 rfl rfl)
theorem dX11_lookAt_22 : decode cX11_lookAt 22 = .ok (.invokevirtual 230, 3) := q_invokevirtual (bat_get dg_X11_lookAt_0_0 12 rfl rfl) rfl
theorem dX11_lookAt_25 : decode cX11_lookAt 25 = .ok (.aload_n 0, 1) := q_aload_n0 (bat_get dg_X11_lookAt_0_0 13 rfl rfl)
theorem dX11_lookAt_26 : decode cX11_lookAt 26 = .ok (.getfield 85, 3) := q_getfield (bat_get dg_X11_lookAt_0_0 14 rfl rfl) rfl
theorem dX11_lookAt_29 : decode cX11_lookAt 29 = .ok (.invokevirtual 234, 3) := q_invokevirtual (bat_get dg_X11_lookAt_0_0 15 rfl rfl) rfl
theorem dX11_lookAt_32 : decode cX11_lookAt 32 = .ok (.ireturn, 1) := q_ireturn (bat_get dg_X11_lookAt_0_0 16 rfl rfl)
theorem w_2_128 : (Cond.fieldLink RX11 49 "SameKeeper" "held" "LSameKeeper$Lock;") ∈ wsL_law := sk_mem (ck_2 _ (List.mem_of_getElem? (i := 128) rfl)) rfl
theorem w_3_205 : (Cond.methodLink RX11 185 yX9_fit) ∈ wsL_law := sk_mem (ck_3 _ (List.mem_of_getElem? (i := 205) rfl)) rfl
theorem w_3_206 : (Cond.instanceMethod yX9_fit) ∈ wsL_law := sk_mem (ck_3 _ (List.mem_of_getElem? (i := 206) rfl)) rfl
theorem w_3_207 : (Cond.selects RX9 yX9_fit yX9_fit) ∈ wsL_law := sk_mem (ck_3 _ (List.mem_of_getElem? (i := 207) rfl)) rfl
theorem w_2_12 : (Cond.fieldLink RX11 153 "SameKeeper$State" "mute" "I") ∈ wsL_law := sk_mem (ck_2 _ (List.mem_of_getElem? (i := 12) rfl)) rfl
theorem w_4_46 : (Cond.code yX11_lookAt cX11_lookAt 2 (some .boolean)) ∈ wsL_law := sk_mem (ck_4 _ (List.mem_of_getElem? (i := 46) rfl)) rfl
def om_23_3fff87 : List Bool := false :: true :: true :: true :: true :: true :: true :: true :: true :: true :: true :: true :: true :: true :: true :: true :: false :: false :: false :: false :: true :: true :: true :: []
def om_23_3e0074 : List Bool := false :: true :: true :: true :: true :: true :: false :: false :: false :: false :: false :: false :: false :: false :: false :: false :: true :: true :: true :: false :: true :: false :: false :: []
def om_23_78 : List Bool := false :: false :: false :: false :: false :: false :: false :: false :: false :: false :: false :: false :: false :: false :: false :: false :: true :: true :: true :: true :: false :: false :: false :: []
theorem hd_X9_fit_2 : skD yX9_fit 2 := by decide +kernel
set_option maxHeartbeats 4000000 in
set_option maxRecDepth 100000 in
theorem c_kx_lookAt (l : Launch) (D : va_G) (cI cJ cC cZ cS : ClassId) (x0 : Nat) (q : Nat → Nat) (hc : Int32) (dr : Int64) (sa : Nat → Nat) (ft : Nat → Int32) (fa : Nat → Int32) (fo : Nat → Int32) (fg : Nat → Int64) (fk : Nat → Int32) (dh : Nat) (mh : Nat) (uh : Int32) (rh : Int32) (nh : Nat) (ch : Nat) (wh : Nat) (y1 : Nat → Int32) (y2 : Nat → Int64) (y3 : Nat → Int64) (y4 : Nat → Int64) (yf : Nat → Int32) (yt : Nat → Int32) (gd : Nat) (gs : Nat) (e1 : Nat → Int32) (e2 : Nat → Int32) (e3 : Nat → Int32) (o0 : Nat) (o1 : Nat) (o2 : Nat) (dy : Nat) (wn : Nat) (mo : Nat) (ke : Nat) (mu : Int32) (fb : Nat → Int32) (fw : Nat → Int32) (Ba : Nat → Nat) (We : Nat → Nat) (L : LkS) (U : Nat → Bool) (hsa : ∀ j, sa j ≤ 9) (hch : ch ≤ 1600) (hwh : wh ≤ 1) (hdy : dy ≤ 9) (hmo : mo ≤ 9) (hLk : kcLk L) (hcd : cdK (lK (lkF L)) ch wh y1) (hsg : ∀ v, v < 3 → sgO (lG (lkF L) v) (yf v) (yt v)) (hfb : ∀ j, j < 9 → fb j = nI (Ba j)) (hfw : ∀ j, j < 9 → fw j = nI (We j)) (hB9 : ∀ j, Ba j ≤ 9) (hW9 : ∀ j, We j ≤ 9) (hwn : wn ≤ 999) (hU : muO U mu) (hti : kcTI L sa ft fa fo fg fk) : skM l yX11_lookAt cX11_lookAt 2 (some .boolean) 5 128 0 0 D (skT cI cJ cC cZ cS) [.ref x0, .ref o0] [ro_rrrrrrrrrrrrrrrirl x0 11 (q 0) (q 1) (q 2) (q 3) (q 4) (q 5) (q 6) (q 7) (q 8) (q 9) (q 10) (q 11) (q 12) (q 13) (q 14) hc (q 16) dr, ro_rrrrrr (q 10) 9 (q 61) (q 62) (q 63) (q 64) (q 65) (q 66), ra_N (q 61) cI 90 sa, ra_I (q 62) cI 900 ft, ra_I (q 63) cI 90 fa, ra_I (q 64) cI 90 fo, ra_J (q 65) cJ 90 fg, ra_I (q 66) cI 9 fk, ro_rrrrrnniin (q 5) 2 (q 44) (q 45) (q 46) (q 47) (q 48) dh mh uh rh nh, ro_rrrrnn (q 44) 0 (q 49) (q 50) (q 51) (q 52) ch wh, ra_I (q 49) cI 1600 y1, ra_J (q 50) cJ 64 y2, ra_J (q 51) cJ 9 y3, ra_J (q 52) cJ 10 y4, ra_I (q 47) cI 3 yf, ra_I (q 48) cI 3 yt, ro_rrrrrrrnn (q 11) 1 (q 10) (q 67) (q 68) (q 69) (q 70) (q 71) (q 72) gd gs, ra_I (q 67) cI 90 e1, ra_I (q 68) cI 9 e2, ra_I (q 69) cI 10 e3, ro_rrnnnin o0 7 o1 o2 dy wn mo mu ke, ra_I o1 cI 9 fb, ra_I o2 cI 9 fw] (skI D (skT cI cJ cC cZ cS) (fun (r : Int32) (u : va_W) => ∃ (sa2 : Nat → Nat), ∃ (ft2 : Nat → Int32), ∃ (fa2 : Nat → Int32), ∃ (fo2 : Nat → Int32), ∃ (fg2 : Nat → Int64), ∃ (fk2 : Nat → Int32), ∃ (z2 : Nat → Int64), ∃ (z3 : Nat → Int64), ∃ (g1 : Nat → Int32), ∃ (g2 : Nat → Int32), ∃ (g3 : Nat → Int32), ∃ (b : Nat), (∀ j, sa2 j ≤ 9) ∧ kcTI L sa2 ft2 fa2 fo2 fg2 fk2 ∧ kcLd (kcFo L wn Ba We U 0) dy g1 g2 ∧ kcLv (kcFo L wn Ba We U 0) dy 0 g3 ∧ ((b = 0 ∧ kcC (kcFo L wn Ba We U 0) dy 0 mo = 0) ∨ (b = 1 ∧ 0 < kcC (kcFo L wn Ba We U 0) dy 0 mo)) ∧ r = nI b ∧ u = [ro_rrrrrrrrrrrrrrrirl x0 11 (q 0) (q 1) (q 2) (q 3) (q 4) (q 5) (q 6) (q 7) (q 8) (q 9) (q 10) (q 11) (q 12) (q 13) (q 14) hc (q 16) dr, ro_rrrrrr (q 10) 9 (q 61) (q 62) (q 63) (q 64) (q 65) (q 66), ra_N (q 61) cI 90 sa2, ra_I (q 62) cI 900 ft2, ra_I (q 63) cI 90 fa2, ra_I (q 64) cI 90 fo2, ra_J (q 65) cJ 90 fg2, ra_I (q 66) cI 9 fk2, ro_rrrrrnniin (q 5) 2 (q 44) (q 45) (q 46) (q 47) (q 48) dh mh uh rh nh, ro_rrrrnn (q 44) 0 (q 49) (q 50) (q 51) (q 52) ch wh, ra_I (q 49) cI 1600 y1, ra_J (q 50) cJ 64 z2, ra_J (q 51) cJ 9 z3, ra_J (q 52) cJ 10 y4, ra_I (q 47) cI 3 yf, ra_I (q 48) cI 3 yt, ro_rrrrrrrnn (q 11) 1 (q 10) (q 67) (q 68) (q 69) (q 70) (q 71) (q 72) dy mo, ra_I (q 67) cI 90 g1, ra_I (q 68) cI 9 g2, ra_I (q 69) cI 10 g3, ro_rrnnnin o0 7 o1 o2 dy wn mo mu ke, ra_I o1 cI 9 fb, ra_I o2 cI 9 fw])) := by
  refine skM_of pf_X11_lookAt (Nat.le_of_ble_eq_true rfl) ?_
  intro p e s m below meth c A ls E hP hD hl
  refine skE_el E (fun hx hb hr hml hlocks hin hown hts hK hA => ?_)
  have hown : s.vm.findClass RX11 = some m.cls := hown
  have hS : va_S A s.heap s.heap [] := va_S.rf
  have hl : lv_has ls 2 [(0, .ref x0), (1, .ref o0)] := hl
  refine lv_aload_n hx hb dX11_lookAt_0 rfl (lv_at hl 0 rfl) ?_
  refine sk_get (v := .ref (q 10)) (C := RX11) (T := TX11) (N := 18) hx hb hts inlX11 hown hK hP 0 rfl rfl 10 (Nat.le_of_ble_eq_true rfl) w_2_133 rfl dX11_lookAt_1 ?_
  refine lv_aload_n hx hb dX11_lookAt_4 rfl (lv_at hl 0 rfl) ?_
  refine sk_get (v := .ref (q 5)) (C := RX11) (T := TX11) (N := 18) hx hb hts inlX11 hown hK hP 0 rfl rfl 5 (Nat.le_of_ble_eq_true rfl) w_2_128 rfl dX11_lookAt_5 ?_
  refine lv_aload_n hx hb dX11_lookAt_8 rfl (lv_at hl 1 rfl) ?_
  refine sk_Vv (q0 := 0) (n := 2) (rest := []) (wr := fmR om_23_3fff87 _) ⟨hx, hb, hml, hown, hts⟩ hl.1 (c_kfit l D cI cJ cC cZ cS q dh mh uh rh nh ch wh y1 y2 y3 y4 yf yt sa ft fa fo fg fk o0 o1 o2 dy wn mo ke mu fb fw Ba We L hsa hch hwh hdy hmo hLk hcd hsg hfb hfw hB9 hW9 hwn hti) w_3_205 w_3_206 w_3_207 w_1_12 w_3_208 hd_X9_fit_2 ⟨⟨(Nat.le_of_ble_eq_true rfl), (Nat.le_of_ble_eq_true rfl)⟩, (Nat.le_of_ble_eq_true rfl), (Nat.le_of_ble_eq_true rfl)⟩ hK hP hD hS hA (fmT om_23_3fff87 0) (fmF om_23_3fff87 0) (fm_C1 rfl rfl) (fm_R rfl rfl) (fm_nT om_23_3fff87 0) (fm_nF om_23_3fff87 0) (fm_di om_23_3fff87 0) rfl rfl rfl rfl (Nat.le_of_ble_eq_true rfl) dX11_lookAt_9 (fun u H locs hw hP hD hS => ?_)
  refine exE hw (fun sa2_1 hw1 => exE hw1 (fun ft2_2 hw2 => exE hw2 (fun fa2_3 hw3 => exE hw3 (fun fo2_4 hw4 => exE hw4 (fun fg2_5 hw5 => exE hw5 (fun fk2_6 hw6 => exE hw6 (fun z2_7 hw7 => exE hw7 (fun z3_8 hw8 => anE hw8 (fun hsa2_9 hw9 => anE hw9 (fun hti2_10 hw10 => anE hw10 (fun hrows_11 eu_12 => ?_)))))))))))
  clear hw hw1 hw2 hw3 hw4 hw5 hw6 hw7 hw8 hw9 hw10
  refine o_mgE (ws' := [ro_rrrrrrrrrrrrrrrirl x0 11 (q 0) (q 1) (q 2) (q 3) (q 4) (q 5) (q 6) (q 7) (q 8) (q 9) (q 10) (q 11) (q 12) (q 13) (q 14) hc (q 16) dr, ro_rrrrrr (q 10) 9 (q 61) (q 62) (q 63) (q 64) (q 65) (q 66), ra_N (q 61) cI 90 sa2_1, ra_I (q 62) cI 900 ft2_2, ra_I (q 63) cI 90 fa2_3, ra_I (q 64) cI 90 fo2_4, ra_J (q 65) cJ 90 fg2_5, ra_I (q 66) cI 9 fk2_6, ro_rrrrrnniin (q 5) 2 (q 44) (q 45) (q 46) (q 47) (q 48) dh mh uh rh nh, ro_rrrrnn (q 44) 0 (q 49) (q 50) (q 51) (q 52) ch wh, ra_I (q 49) cI 1600 y1, ra_J (q 50) cJ 64 z2_7, ra_J (q 51) cJ 9 z3_8, ra_J (q 52) cJ 10 y4, ra_I (q 47) cI 3 yf, ra_I (q 48) cI 3 yt, ro_rrrrrrrnn (q 11) 1 (q 10) (q 67) (q 68) (q 69) (q 70) (q 71) (q 72) gd gs, ra_I (q 67) cI 90 e1, ra_I (q 68) cI 9 e2, ra_I (q 69) cI 10 e3, ro_rrnnnin o0 7 o1 o2 dy wn mo mu ke, ra_I o1 cI 9 fb, ra_I o2 cI 9 fw]) eu_12 hP hD rfl (fun hP hD => ?_)
  refine lv_aload_n hx hb dX11_lookAt_12 rfl (lv_at hl 0 rfl) ?_
  refine sk_get (v := .ref (q 11)) (C := RX11) (T := TX11) (N := 18) hx hb hts inlX11 hown hK hP 0 rfl rfl 11 (Nat.le_of_ble_eq_true rfl) w_2_134 rfl dX11_lookAt_13 ?_
  refine lv_aload_n hx hb dX11_lookAt_16 rfl (lv_at hl 1 rfl) ?_
  refine lv_aload_n hx hb dX11_lookAt_17 rfl (lv_at hl 1 rfl) ?_
  refine sk_get (v := .int mu) (C := RX7) (T := TX7) (N := 7) hx hb hts inlX7 hown hK hP 20 rfl rfl 5 (Nat.le_of_ble_eq_true rfl) w_2_12 rfl dX11_lookAt_18 ?_
  refine lv_iconst (v := 0) hx hb dX11_lookAt_21 ic_0 ?_
  refine sk_Vv (q0 := 0) (n := 3) (rest := []) (wr := fmR om_23_3e0074 _) ⟨hx, hb, hml, hown, hts⟩ hl.1 (c_klay l D cI cJ cC cZ cS q gd gs e1 e2 sa2_1 ft2_2 fa2_3 fo2_4 o0 o1 o2 dy wn mo ke mu fb fw Ba We L 0 U mu fg2_5 hsa2_9 hdy hmo (by decide) hU hrows_11) w_4_47 w_4_48 w_4_49 w_1_13 w_4_50 hd_X1_lay_3 ⟨⟨(Nat.le_of_ble_eq_true rfl), (Nat.le_of_ble_eq_true rfl)⟩, (Nat.le_of_ble_eq_true rfl), (Nat.le_of_ble_eq_true rfl)⟩ hK hP hD hS hA [16, 17, 18, 1, 2, 3, 4, 5, 20] (fmF om_23_3e0074 0) rfl (fm_R rfl rfl) (by decide +kernel) (fm_nF om_23_3e0074 0) (by decide +kernel) rfl rfl rfl rfl (Nat.le_of_ble_eq_true rfl) dX11_lookAt_22 (fun u H locs hw hP hD hS => ?_)
  refine exE hw (fun g1_13 hw1 => exE hw1 (fun g2_14 hw2 => anE hw2 (fun hld2_15 eu_16 => ?_)))
  clear hw hw1 hw2
  refine o_mgqE (ux := [ro_rrrrrr (q 10) 9 (q 61) (q 62) (q 63) (q 64) (q 65) (q 66), ra_N (q 61) cI 90 sa2_1, ra_I (q 62) cI 900 ft2_2, ra_I (q 63) cI 90 fa2_3, ra_I (q 64) cI 90 fo2_4, ro_rrrrrrrnn (q 11) 1 (q 10) (q 67) (q 68) (q 69) (q 70) (q 71) (q 72) dy mo, ra_I (q 67) cI 90 g1_13, ra_I (q 68) cI 9 g2_14, ro_rrnnnin o0 7 o1 o2 dy wn mo mu ke]) (ws' := [ro_rrrrrrrrrrrrrrrirl x0 11 (q 0) (q 1) (q 2) (q 3) (q 4) (q 5) (q 6) (q 7) (q 8) (q 9) (q 10) (q 11) (q 12) (q 13) (q 14) hc (q 16) dr, ro_rrrrrr (q 10) 9 (q 61) (q 62) (q 63) (q 64) (q 65) (q 66), ra_N (q 61) cI 90 sa2_1, ra_I (q 62) cI 900 ft2_2, ra_I (q 63) cI 90 fa2_3, ra_I (q 64) cI 90 fo2_4, ra_J (q 65) cJ 90 fg2_5, ra_I (q 66) cI 9 fk2_6, ro_rrrrrnniin (q 5) 2 (q 44) (q 45) (q 46) (q 47) (q 48) dh mh uh rh nh, ro_rrrrnn (q 44) 0 (q 49) (q 50) (q 51) (q 52) ch wh, ra_I (q 49) cI 1600 y1, ra_J (q 50) cJ 64 z2_7, ra_J (q 51) cJ 9 z3_8, ra_J (q 52) cJ 10 y4, ra_I (q 47) cI 3 yf, ra_I (q 48) cI 3 yt, ro_rrrrrrrnn (q 11) 1 (q 10) (q 67) (q 68) (q 69) (q 70) (q 71) (q 72) dy mo, ra_I (q 67) cI 90 g1_13, ra_I (q 68) cI 9 g2_14, ra_I (q 69) cI 10 e3, ro_rrnnnin o0 7 o1 o2 dy wn mo mu ke, ra_I o1 cI 9 fb, ra_I o2 cI 9 fw]) eu_16 [3, 4, 5, 6, 7, 0, 1, 2, 8] (by decide +kernel) rfl hP hD rfl (fun hP hD => ?_)
  refine lv_aload_n hx hb dX11_lookAt_25 rfl (lv_at hl 0 rfl) ?_
  refine sk_get (v := .ref (q 11)) (C := RX11) (T := TX11) (N := 18) hx hb hts inlX11 hown hK hP 0 rfl rfl 11 (Nat.le_of_ble_eq_true rfl) w_2_134 rfl dX11_lookAt_26 ?_
  refine sk_Vi (q0 := 0) (n := 0) (rest := []) (wr := fmR om_23_78 _) ⟨hx, hb, hml, hown, hts⟩ hl.1 (c_ksettle l D cI cJ cC cZ cS q dy mo g1_13 g2_14 e3 (kcFo L wn Ba We U 0) hdy hmo hld2_15) w_4_53 w_4_54 w_4_55 w_1_13 w_4_56 hd_X1_settle_0 ⟨⟨(Nat.le_of_ble_eq_true rfl), (Nat.le_of_ble_eq_true rfl)⟩, (Nat.le_of_ble_eq_true rfl), (Nat.le_of_ble_eq_true rfl)⟩ hK hP hD hS hA (fmT om_23_78 0) (fmF om_23_78 0) (fm_C1 rfl rfl) (fm_R rfl rfl) (fm_nT om_23_78 0) (fm_nF om_23_78 0) (fm_di om_23_78 0) rfl rfl rfl rfl (Nat.le_of_ble_eq_true rfl) dX11_lookAt_29 (fun r_19 u H locs hw hP hD hS => ?_)
  refine exE hw (fun b_17 hw1 => exE hw1 (fun g3_18 hw2 => anE hw2 (fun hb1_20 hw3 => anE hw3 (fun hlv2_21 hw4 => anE hw4 (fun er_23 eu_22 => ?_)))))
  clear hw hw1 hw2 hw3 hw4
  subst er_23
  refine o_mgE (ws' := [ro_rrrrrrrrrrrrrrrirl x0 11 (q 0) (q 1) (q 2) (q 3) (q 4) (q 5) (q 6) (q 7) (q 8) (q 9) (q 10) (q 11) (q 12) (q 13) (q 14) hc (q 16) dr, ro_rrrrrr (q 10) 9 (q 61) (q 62) (q 63) (q 64) (q 65) (q 66), ra_N (q 61) cI 90 sa2_1, ra_I (q 62) cI 900 ft2_2, ra_I (q 63) cI 90 fa2_3, ra_I (q 64) cI 90 fo2_4, ra_J (q 65) cJ 90 fg2_5, ra_I (q 66) cI 9 fk2_6, ro_rrrrrnniin (q 5) 2 (q 44) (q 45) (q 46) (q 47) (q 48) dh mh uh rh nh, ro_rrrrnn (q 44) 0 (q 49) (q 50) (q 51) (q 52) ch wh, ra_I (q 49) cI 1600 y1, ra_J (q 50) cJ 64 z2_7, ra_J (q 51) cJ 9 z3_8, ra_J (q 52) cJ 10 y4, ra_I (q 47) cI 3 yf, ra_I (q 48) cI 3 yt, ro_rrrrrrrnn (q 11) 1 (q 10) (q 67) (q 68) (q 69) (q 70) (q 71) (q 72) dy mo, ra_I (q 67) cI 90 g1_13, ra_I (q 68) cI 9 g2_14, ra_I (q 69) cI 10 g3_18, ro_rrnnnin o0 7 o1 o2 dy wn mo mu ke, ra_I o1 cI 9 fb, ra_I o2 cI 9 fw]) eu_22 hP hD rfl (fun hP hD => ?_)
  exact sk_iret hx hb hr (nbool b_17 (by omega)) hlocks hK hP hD hS (⟨sa2_1, ft2_2, fa2_3, fo2_4, fg2_5, fk2_6, z2_7, z3_8, g1_13, g2_14, g3_18, b_17, hsa2_9, hti2_10, hld2_15, hlv2_21, hb1_20, rfl, rfl⟩) (Nat.le_of_ble_eq_true rfl) (Nat.le_of_ble_eq_true rfl) dX11_lookAt_32
theorem dg_X11_draw_0_0 : bqL cX11_draw 0 [(0, [42]), (1, [20, 1, 105]), (4, [42]), (5, [180, 0, 106]), (8, [105]), (9, [20, 1, 107]), (12, [97]), (13, [20, 1, 109]), (16, [127]), (17, [181, 0, 106]), (20, [31]), (21, [9]), (22, [148]), (23, [158, 0, 16]), (26, [42]), (27, [180, 0, 106]), (30, [20, 1, 111]), (33, [109]), (34, [31]), (35, [113]), (36, [167, 0, 4]), (40, [173])] = true := by decide +kernel
theorem dX11_draw_0 : decode cX11_draw 0 = .ok (.aload_n 0, 1) := q_aload_n0 (bat_get dg_X11_draw_0_0 0 rfl rfl)
theorem dX11_draw_1 : decode cX11_draw 1 = .ok (.ldc2_w 361, 3) := q_ldc2_w (bat_get dg_X11_draw_0_0 1 rfl rfl) rfl
theorem dX11_draw_4 : decode cX11_draw 4 = .ok (.aload_n 0, 1) := q_aload_n0 (bat_get dg_X11_draw_0_0 2 rfl rfl)
theorem dX11_draw_5 : decode cX11_draw 5 = .ok (.getfield 106, 3) := q_getfield (bat_get dg_X11_draw_0_0 3 rfl rfl) rfl
theorem dX11_draw_8 : decode cX11_draw 8 = .ok (.lmul, 1) := q_lmul (bat_get dg_X11_draw_0_0 4 rfl rfl)
theorem dX11_draw_9 : decode cX11_draw 9 = .ok (.ldc2_w 363, 3) := q_ldc2_w (bat_get dg_X11_draw_0_0 5 rfl rfl) rfl
theorem dX11_draw_12 : decode cX11_draw 12 = .ok (.ladd, 1) := q_ladd (bat_get dg_X11_draw_0_0 6 rfl rfl)
theorem dX11_draw_13 : decode cX11_draw 13 = .ok (.ldc2_w 365, 3) := q_ldc2_w (bat_get dg_X11_draw_0_0 7 rfl rfl) rfl
theorem dX11_draw_16 : decode cX11_draw 16 = .ok (.land, 1) := q_land (bat_get dg_X11_draw_0_0 8 rfl rfl)
theorem dX11_draw_17 : decode cX11_draw 17 = .ok (.putfield 106, 3) := q_putfield (bat_get dg_X11_draw_0_0 9 rfl rfl) rfl
theorem dX11_draw_20 : decode cX11_draw 20 = .ok (.lload_n 1, 1) := q_lload_n1 (bat_get dg_X11_draw_0_0 10 rfl rfl)
theorem dX11_draw_21 : decode cX11_draw 21 = .ok (.lconst 0, 1) := q_lconst0 (bat_get dg_X11_draw_0_0 11 rfl rfl)
theorem dX11_draw_22 : decode cX11_draw 22 = .ok (.lcmp, 1) := q_lcmp (bat_get dg_X11_draw_0_0 12 rfl rfl)
theorem dX11_draw_23 : decode cX11_draw 23 = .ok (.ifCond .le 16, 3) := q_ifCond_le (bat_get dg_X11_draw_0_0 13 rfl rfl) rfl
theorem dX11_draw_26 : decode cX11_draw 26 = .ok (.aload_n 0, 1) := q_aload_n0 (bat_get dg_X11_draw_0_0 14 rfl rfl)
theorem dX11_draw_27 : decode cX11_draw 27 = .ok (.getfield 106, 3) := q_getfield (bat_get dg_X11_draw_0_0 15 rfl rfl) rfl
theorem dX11_draw_30 : decode cX11_draw 30 = .ok (.ldc2_w 367, 3) := q_ldc2_w (bat_get dg_X11_draw_0_0 16 rfl rfl) rfl
theorem dX11_draw_33 : decode cX11_draw 33 = .ok (.ldiv, 1) := q_ldiv (bat_get dg_X11_draw_0_0 17 rfl rfl)
theorem dX11_draw_34 : decode cX11_draw 34 = .ok (.lload_n 1, 1) := q_lload_n1 (bat_get dg_X11_draw_0_0 18 rfl rfl)
theorem dX11_draw_35 : decode cX11_draw 35 = .ok (.lrem, 1) := q_lrem (bat_get dg_X11_draw_0_0 19 rfl rfl)
theorem dX11_draw_36 : decode cX11_draw 36 = .ok (.goto 4, 3) := q_goto (bat_get dg_X11_draw_0_0 20 rfl rfl) rfl
theorem dX11_draw_40 : decode cX11_draw 40 = .ok (.lreturn, 1) := q_lreturn (bat_get dg_X11_draw_0_0 21 rfl rfl)
theorem w_5_41 : (Cond.constantLong RX11 361 (1103515245)) ∈ wsL_law := sk_mem (ck_5 _ (List.mem_of_getElem? (i := 41) rfl)) rfl
theorem w_2_140 : (Cond.fieldLink RX11 106 "SameKeeper" "drawn" "J") ∈ wsL_law := sk_mem (ck_2 _ (List.mem_of_getElem? (i := 140) rfl)) rfl
theorem w_5_42 : (Cond.constantLong RX11 363 (12345)) ∈ wsL_law := sk_mem (ck_5 _ (List.mem_of_getElem? (i := 42) rfl)) rfl
theorem w_5_43 : (Cond.constantLong RX11 365 (2147483647)) ∈ wsL_law := sk_mem (ck_5 _ (List.mem_of_getElem? (i := 43) rfl)) rfl
theorem w_5_44 : (Cond.constantLong RX11 367 (64)) ∈ wsL_law := sk_mem (ck_5 _ (List.mem_of_getElem? (i := 44) rfl)) rfl
theorem w_5_40 : (Cond.code yX11_draw cX11_draw 3 (some .long)) ∈ wsL_law := sk_mem (ck_5 _ (List.mem_of_getElem? (i := 40) rfl)) rfl
set_option maxHeartbeats 4000000 in
set_option maxRecDepth 100000 in
theorem c_kx_draw (l : Launch) (D : va_G) (cI cJ cC cZ cS : ClassId) (x0 : Nat) (q : Nat → Nat) (hc : Int32) (sd : Nat) (mq : Nat) (hm1 : 1 ≤ mq) (hm2 : mq ≤ 1000000000) : skM l yX11_draw cX11_draw 3 (some .long) 0 0 0 0 D (skT cI cJ cC cZ cS) [.ref x0, .long (Int64.ofNat mq)] [ro_rrrrrrrrrrrrrrrirl x0 11 (q 0) (q 1) (q 2) (q 3) (q 4) (q 5) (q 6) (q 7) (q 8) (q 9) (q 10) (q 11) (q 12) (q 13) (q 14) hc (q 16) (Int64.ofNat sd)] (skL D (skT cI cJ cC cZ cS) (fun (r : Int64) (u : va_W) => r = Int64.ofNat (kdv sd mq) ∧ u = [ro_rrrrrrrrrrrrrrrirl x0 11 (q 0) (q 1) (q 2) (q 3) (q 4) (q 5) (q 6) (q 7) (q 8) (q 9) (q 10) (q 11) (q 12) (q 13) (q 14) hc (q 16) (Int64.ofNat (kdr sd))])) := by
  refine skM_of pf_X11_draw (Nat.le_of_ble_eq_true rfl) ?_
  intro p e s m below meth c A ls E hP hD hl
  refine skE_el E (fun hx hb hr hml hlocks hin hown hts hK hA => ?_)
  have hown : s.vm.findClass RX11 = some m.cls := hown
  have hS : va_S A s.heap s.heap [] := va_S.rf
  have hl : lv_has ls 3 [(0, .ref x0), (1, .long (Int64.ofNat mq))] := hl
  refine lv_aload_n hx hb dX11_draw_0 rfl (lv_at hl 0 rfl) ?_
  refine lv_ldc2 (v := 1103515245) hx hb hown (hts _ w_5_41) dX11_draw_1 ?_
  refine lv_aload_n hx hb dX11_draw_4 rfl (lv_at hl 0 rfl) ?_
  refine sk_get (v := .long (Int64.ofNat sd)) (C := RX11) (T := TX11) (N := 18) hx hb hts inlX11 hown hK hP 0 rfl rfl 17 (Nat.le_of_ble_eq_true rfl) w_2_140 rfl dX11_draw_5 ?_
  refine lv_lmul hx hb dX11_draw_8 ?_
  refine lv_ldc2 (v := 12345) hx hb hown (hts _ w_5_42) dX11_draw_9 ?_
  refine lv_ladd hx hb dX11_draw_12 ?_
  refine lv_ldc2 (v := 2147483647) hx hb hown (hts _ w_5_43) dX11_draw_13 ?_
  refine lv_land hx hb dX11_draw_16 ?_
  refine sk_topl (Int64.ofNat (kdr sd)) (kdr_and sd) ?_
  have hkd := kdr_lt sd
  refine sk_put (ws' := [ro_rrrrrrrrrrrrrrrirl x0 11 (q 0) (q 1) (q 2) (q 3) (q 4) (q 5) (q 6) (q 7) (q 8) (q 9) (q 10) (q 11) (q 12) (q 13) (q 14) hc (q 16) (Int64.ofNat (kdr sd))]) (C := RX11) (T := TX11) (N := 18) (v := .long (Int64.ofNat (kdr sd))) hx hb hts inlX11 tyX11 tyX11_ok nmX11 hown hK hP hD hS 0 rfl rfl 17 (Nat.le_of_ble_eq_true rfl) w_2_140 rfl rfl rfl (Nat.le_of_ble_eq_true rfl) rfl dX11_draw_17 (fun H locs hP hD hS => ?_)
  refine lv_lload_n hx hb dX11_draw_20 rfl (lv_at hl 1 rfl) ?_
  refine lv_lconst (v := 0) hx hb dX11_draw_21 (by decide) ?_
  refine W.lcmp hx hb dX11_draw_22 ?_
  refine lv_if_le (tgt := 39) hx hb dX11_draw_23 (by decide) (fun c => absurd c (kofn_pos hm1 (by omega))) (fun c_1 => ?_)
  refine lv_aload_n hx hb dX11_draw_26 rfl (lv_at hl 0 rfl) ?_
  refine sk_get (v := .long (Int64.ofNat (kdr sd))) (C := RX11) (T := TX11) (N := 18) hx hb hts inlX11 hown hK hP 0 rfl rfl 17 (Nat.le_of_ble_eq_true rfl) w_2_140 rfl dX11_draw_27 ?_
  refine lv_ldc2 (v := 64) hx hb hown (hts _ w_5_44) dX11_draw_30 ?_
  refine lv_ldiv hx hb dX11_draw_33 (by decide) ?_
  refine sk_topl (Int64.ofNat (kdr sd / 64)) (kofn_div (b := 64) (by omega) (by decide) (by decide)) ?_
  refine lv_lload_n hx hb dX11_draw_34 rfl (lv_at hl 1 rfl) ?_
  refine lv_lrem hx hb dX11_draw_35 (kofn_ne hm1 (by omega)) ?_
  refine sk_topl (Int64.ofNat (kdv sd mq)) (kofn_rem (by omega) (by omega) (by omega)) ?_
  refine lv_goto (tgt := 40) hx hb dX11_draw_36 (by decide) ?_
  exact sk_lret hx hb hr hlocks hK hP hD hS (⟨rfl, rfl⟩) (Nat.le_of_ble_eq_true rfl) (Nat.le_of_ble_eq_true rfl) dX11_draw_40
theorem dg_X4_keep_0_0 : bqL cX4_keep 0 [(0, [43]), (1, [180, 0, 37]), (4, [54, 5]), (6, [21, 5]), (8, [155, 0, 51]), (11, [21, 5]), (13, [42]), (14, [180, 0, 21]), (17, [190]), (18, [162, 0, 41]), (21, [42]), (22, [180, 0, 21]), (25, [21, 5]), (27, [43]), (28, [180, 0, 40]), (31, [79]), (32, [42]), (33, [180, 0, 25]), (36, [21, 5]), (38, [32]), (39, [80]), (40, [42]), (41, [180, 0, 29]), (44, [21, 5]), (46, [21, 4]), (48, [79]), (49, [43]), (50, [89]), (51, [180, 0, 37]), (54, [4]), (55, [96]), (56, [181, 0, 37]), (59, [177])] = true := by decide +kernel
theorem dX4_keep_0 : decode cX4_keep 0 = .ok (.aload_n 1, 1) := q_aload_n1 (bat_get dg_X4_keep_0_0 0 rfl rfl)
theorem dX4_keep_1 : decode cX4_keep 1 = .ok (.getfield 37, 3) := q_getfield (bat_get dg_X4_keep_0_0 1 rfl rfl) rfl
theorem dX4_keep_4 : decode cX4_keep 4 = .ok (.istore 5, 2) := q_istore (bat_get dg_X4_keep_0_0 2 rfl rfl)
theorem dX4_keep_6 : decode cX4_keep 6 = .ok (.iload 5, 2) := q_iload (bat_get dg_X4_keep_0_0 3 rfl rfl)
theorem dX4_keep_8 : decode cX4_keep 8 = .ok (.ifCond .lt 51, 3) := q_ifCond_lt (bat_get dg_X4_keep_0_0 4 rfl rfl) rfl
theorem dX4_keep_11 : decode cX4_keep 11 = .ok (.iload 5, 2) := q_iload (bat_get dg_X4_keep_0_0 5 rfl rfl)
theorem dX4_keep_13 : decode cX4_keep 13 = .ok (.aload_n 0, 1) := q_aload_n0 (bat_get dg_X4_keep_0_0 6 rfl rfl)
theorem dX4_keep_14 : decode cX4_keep 14 = .ok (.getfield 21, 3) := q_getfield (bat_get dg_X4_keep_0_0 7 rfl rfl) rfl
theorem dX4_keep_17 : decode cX4_keep 17 = .ok (.arraylength, 1) := q_arraylength (bat_get dg_X4_keep_0_0 8 rfl rfl)
theorem dX4_keep_18 : decode cX4_keep 18 = .ok (.if_icmp .ge 41, 3) := q_if_icmp_ge (bat_get dg_X4_keep_0_0 9 rfl rfl) rfl
theorem dX4_keep_21 : decode cX4_keep 21 = .ok (.aload_n 0, 1) := q_aload_n0 (bat_get dg_X4_keep_0_0 10 rfl rfl)
theorem dX4_keep_22 : decode cX4_keep 22 = .ok (.getfield 21, 3) := q_getfield (bat_get dg_X4_keep_0_0 11 rfl rfl) rfl
theorem dX4_keep_25 : decode cX4_keep 25 = .ok (.iload 5, 2) := q_iload (bat_get dg_X4_keep_0_0 12 rfl rfl)
theorem dX4_keep_27 : decode cX4_keep 27 = .ok (.aload_n 1, 1) := q_aload_n1 (bat_get dg_X4_keep_0_0 13 rfl rfl)
theorem dX4_keep_28 : decode cX4_keep 28 = .ok (.getfield 40, 3) := q_getfield (bat_get dg_X4_keep_0_0 14 rfl rfl) rfl
theorem dX4_keep_31 : decode cX4_keep 31 = .ok (.iastore, 1) := q_iastore (bat_get dg_X4_keep_0_0 15 rfl rfl)
theorem dX4_keep_32 : decode cX4_keep 32 = .ok (.aload_n 0, 1) := q_aload_n0 (bat_get dg_X4_keep_0_0 16 rfl rfl)
theorem dX4_keep_33 : decode cX4_keep 33 = .ok (.getfield 25, 3) := q_getfield (bat_get dg_X4_keep_0_0 17 rfl rfl) rfl
theorem dX4_keep_36 : decode cX4_keep 36 = .ok (.iload 5, 2) := q_iload (bat_get dg_X4_keep_0_0 18 rfl rfl)
theorem dX4_keep_38 : decode cX4_keep 38 = .ok (.lload_n 2, 1) := q_lload_n2 (bat_get dg_X4_keep_0_0 19 rfl rfl)
theorem dX4_keep_39 : decode cX4_keep 39 = .ok (.lastore, 1) := q_lastore (bat_get dg_X4_keep_0_0 20 rfl rfl)
theorem dX4_keep_40 : decode cX4_keep 40 = .ok (.aload_n 0, 1) := q_aload_n0 (bat_get dg_X4_keep_0_0 21 rfl rfl)
theorem dX4_keep_41 : decode cX4_keep 41 = .ok (.getfield 29, 3) := q_getfield (bat_get dg_X4_keep_0_0 22 rfl rfl) rfl
theorem dX4_keep_44 : decode cX4_keep 44 = .ok (.iload 5, 2) := q_iload (bat_get dg_X4_keep_0_0 23 rfl rfl)
theorem dX4_keep_46 : decode cX4_keep 46 = .ok (.iload 4, 2) := q_iload (bat_get dg_X4_keep_0_0 24 rfl rfl)
theorem dX4_keep_48 : decode cX4_keep 48 = .ok (.iastore, 1) := q_iastore (bat_get dg_X4_keep_0_0 25 rfl rfl)
theorem dX4_keep_49 : decode cX4_keep 49 = .ok (.aload_n 1, 1) := q_aload_n1 (bat_get dg_X4_keep_0_0 26 rfl rfl)
theorem dX4_keep_50 : decode cX4_keep 50 = .ok (.dup, 1) := q_dup (bat_get dg_X4_keep_0_0 27 rfl rfl)
theorem dX4_keep_51 : decode cX4_keep 51 = .ok (.getfield 37, 3) := q_getfield (bat_get dg_X4_keep_0_0 28 rfl rfl) rfl
theorem dX4_keep_54 : decode cX4_keep 54 = .ok (.iconst 1, 1) := q_iconst1 (bat_get dg_X4_keep_0_0 29 rfl rfl)
theorem dX4_keep_55 : decode cX4_keep 55 = .ok (.iadd, 1) := q_iadd (bat_get dg_X4_keep_0_0 30 rfl rfl)
theorem dX4_keep_56 : decode cX4_keep 56 = .ok (.putfield 37, 3) := q_putfield (bat_get dg_X4_keep_0_0 31 rfl rfl) rfl
theorem dX4_keep_59 : decode cX4_keep 59 = .ok (.return_, 1) := q_return_ (bat_get dg_X4_keep_0_0 32 rfl rfl)
theorem w_2_14 : (Cond.fieldLink RX4 37 "SameKeeper$State" "kept" "I") ∈ wsL_law := sk_mem (ck_2 _ (List.mem_of_getElem? (i := 14) rfl)) rfl
theorem w_2_43 : (Cond.fieldLink RX4 21 "SameKeeper$Past" "weekOf" "[I") ∈ wsL_law := sk_mem (ck_2 _ (List.mem_of_getElem? (i := 43) rfl)) rfl
theorem w_2_5 : (Cond.fieldLink RX4 40 "SameKeeper$State" "week" "I") ∈ wsL_law := sk_mem (ck_2 _ (List.mem_of_getElem? (i := 5) rfl)) rfl
theorem w_2_44 : (Cond.fieldLink RX4 25 "SameKeeper$Past" "agreedOf" "[J") ∈ wsL_law := sk_mem (ck_2 _ (List.mem_of_getElem? (i := 44) rfl)) rfl
theorem w_2_45 : (Cond.fieldLink RX4 29 "SameKeeper$Past" "moodOf" "[I") ∈ wsL_law := sk_mem (ck_2 _ (List.mem_of_getElem? (i := 45) rfl)) rfl
theorem w_5_27 : (Cond.code yX4_keep cX4_keep 6 none) ∈ wsL_law := sk_mem (ck_5 _ (List.mem_of_getElem? (i := 27) rfl)) rfl
set_option maxHeartbeats 4000000 in
set_option maxRecDepth 100000 in
theorem c_kpast_keep (l : Launch) (D : va_G) (cI cJ cC cZ cS : ClassId) (q : Nat → Nat) (ac : Nat) (p1 : Nat → Int32) (p2 : Nat → Int64) (p3 : Nat → Int32) (dy : Nat) (wn : Nat) (mo : Nat) (ke : Nat) (mu : Int32) (fb : Nat → Int32) (fw : Nat → Int32) (x : Int64) (o : Int32) (hke : ke < 1000) : skM l yX4_keep cX4_keep 6 none 0 0 0 0 D (skT cI cJ cC cZ cS) [.ref (q 9), .ref (q 7), .long x, .int o] [ro_rnrrr (q 9) 4 (q 35) ac (q 36) (q 37) (q 38), ra_I (q 36) cI 1000 p1, ra_J (q 37) cJ 1000 p2, ra_I (q 38) cI 1000 p3, ro_rrnnnin (q 7) 7 (q 33) (q 34) dy wn mo mu ke] (skV D (skT cI cJ cC cZ cS) (fun (u : va_W) => ∃ (p1_ : Nat → Int32), ∃ (p2_ : Nat → Int64), ∃ (p3_ : Nat → Int32), p1_ = upd p1 ke (nI wn) ∧ p2_ = vp_updL p2 ke x ∧ p3_ = upd p3 ke o ∧ u = [ro_rnrrr (q 9) 4 (q 35) ac (q 36) (q 37) (q 38), ra_I (q 36) cI 1000 p1_, ra_J (q 37) cJ 1000 p2_, ra_I (q 38) cI 1000 p3_, ro_rrnnnin (q 7) 7 (q 33) (q 34) dy wn mo mu (ke + 1)])) := by
  refine skM_of pf_X4_keep (Nat.le_of_ble_eq_true rfl) ?_
  intro p e s m below meth c A ls E hP hD hl
  refine skE_el E (fun hx hb hr hml hlocks hin hown hts hK hA => ?_)
  have hown : s.vm.findClass RX4 = some m.cls := hown
  have hS : va_S A s.heap s.heap [] := va_S.rf
  have hl : lv_has ls 6 [(0, .ref (q 9)), (1, .ref (q 7)), (2, .long x), (4, .int o)] := hl
  refine lv_aload_n hx hb dX4_keep_0 rfl (lv_at hl 1 rfl) ?_
  refine sk_get (v := .int (nI ke)) (C := RX7) (T := TX7) (N := 7) hx hb hts inlX7 hown hK hP 4 rfl rfl 6 (Nat.le_of_ble_eq_true rfl) w_2_14 rfl dX4_keep_1 ?_
  refine lv_istore (lv' := [(5, .int (nI ke)), (0, .ref (q 9)), (1, .ref (q 7)), (2, .long x), (4, .int o)]) hx hb dX4_keep_4 hl (by decide) rfl (fun ls hl => ?_)
  refine lv_iload hx hb dX4_keep_6 (lv_at hl 0 rfl) ?_
  refine lv_if_lt (tgt := 59) hx hb dX4_keep_8 (by decide) (fun c => absurd c (nI_pos (by omega))) (fun c_1 => ?_)
  refine lv_iload hx hb dX4_keep_11 (lv_at hl 0 rfl) ?_
  refine lv_aload_n hx hb dX4_keep_13 rfl (lv_at hl 1 rfl) ?_
  refine sk_get (v := .ref (q 36)) (C := RX4) (T := TX4) (N := 5) hx hb hts inlX4 hown hK hP 0 rfl rfl 2 (Nat.le_of_ble_eq_true rfl) w_2_43 rfl dX4_keep_14 ?_
  refine va_alen (v := 1000) hx hb hK.1 hP 1 0 rfl rfl rfl dX4_keep_17 ?_
  refine lv_icmp_ge (tgt := 59) hx hb dX4_keep_18 (by decide) (fun c => absurd ((nle 1000 ke (Nat.le_of_ble_eq_true rfl) (by omega)).mp c) (by omega)) (fun c_2 => ?_)
  refine lv_aload_n hx hb dX4_keep_21 rfl (lv_at hl 1 rfl) ?_
  refine sk_get (v := .ref (q 36)) (C := RX4) (T := TX4) (N := 5) hx hb hts inlX4 hown hK hP 0 rfl rfl 2 (Nat.le_of_ble_eq_true rfl) w_2_43 rfl dX4_keep_22 ?_
  refine lv_iload hx hb dX4_keep_25 (lv_at hl 0 rfl) ?_
  refine lv_aload_n hx hb dX4_keep_27 rfl (lv_at hl 2 rfl) ?_
  refine sk_get (v := .int (nI wn)) (C := RX7) (T := TX7) (N := 7) hx hb hts inlX7 hown hK hP 4 rfl rfl 3 (Nat.le_of_ble_eq_true rfl) w_2_5 rfl dX4_keep_28 ?_
  refine sk_iastE (k := ke) (ws' := fun f_3 => [ro_rnrrr (q 9) 4 (q 35) ac (q 36) (q 37) (q 38), ra_I (q 36) cI 1000 f_3, ra_J (q 37) cJ 1000 p2, ra_I (q 38) cI 1000 p3, ro_rrnnnin (q 7) 7 (q 33) (q 34) dy wn mo mu ke]) hx hb hK hP hD hS 1 0 rfl rfl (by omega) (by omega) (fun _ => rfl) dX4_keep_31 (fun f_3 H locs ef_4 hP hD hS => ?_)
  refine lv_aload_n hx hb dX4_keep_32 rfl (lv_at hl 1 rfl) ?_
  refine sk_get (v := .ref (q 37)) (C := RX4) (T := TX4) (N := 5) hx hb hts inlX4 hown hK hP 0 rfl rfl 3 (Nat.le_of_ble_eq_true rfl) w_2_44 rfl dX4_keep_33 ?_
  refine lv_iload hx hb dX4_keep_36 (lv_at hl 0 rfl) ?_
  refine lv_lload_n hx hb dX4_keep_38 rfl (lv_at hl 3 rfl) ?_
  refine sk_lastE (k := ke) (ws' := fun f_5 => [ro_rnrrr (q 9) 4 (q 35) ac (q 36) (q 37) (q 38), ra_I (q 36) cI 1000 f_3, ra_J (q 37) cJ 1000 f_5, ra_I (q 38) cI 1000 p3, ro_rrnnnin (q 7) 7 (q 33) (q 34) dy wn mo mu ke]) hx hb hK hP hD hS 2 1 rfl rfl (by omega) (by omega) (fun _ => rfl) dX4_keep_39 (fun f_5 H locs ef_6 hP hD hS => ?_)
  refine lv_aload_n hx hb dX4_keep_40 rfl (lv_at hl 1 rfl) ?_
  refine sk_get (v := .ref (q 38)) (C := RX4) (T := TX4) (N := 5) hx hb hts inlX4 hown hK hP 0 rfl rfl 4 (Nat.le_of_ble_eq_true rfl) w_2_45 rfl dX4_keep_41 ?_
  refine lv_iload hx hb dX4_keep_44 (lv_at hl 0 rfl) ?_
  refine lv_iload hx hb dX4_keep_46 (lv_at hl 4 rfl) ?_
  refine sk_iastE (k := ke) (ws' := fun f_7 => [ro_rnrrr (q 9) 4 (q 35) ac (q 36) (q 37) (q 38), ra_I (q 36) cI 1000 f_3, ra_J (q 37) cJ 1000 f_5, ra_I (q 38) cI 1000 f_7, ro_rrnnnin (q 7) 7 (q 33) (q 34) dy wn mo mu ke]) hx hb hK hP hD hS 3 0 rfl rfl (by omega) (by omega) (fun _ => rfl) dX4_keep_48 (fun f_7 H locs ef_8 hP hD hS => ?_)
  refine lv_aload_n hx hb dX4_keep_49 rfl (lv_at hl 2 rfl) ?_
  refine lv_dup hx hb dX4_keep_50 rfl ?_
  refine sk_get (v := .int (nI ke)) (C := RX7) (T := TX7) (N := 7) hx hb hts inlX7 hown hK hP 4 rfl rfl 6 (Nat.le_of_ble_eq_true rfl) w_2_14 rfl dX4_keep_51 ?_
  refine lv_iconst (v := 1) hx hb dX4_keep_54 ic_1 ?_
  refine lv_iadd hx hb dX4_keep_55 ?_
  refine sk_top (nI (ke + 1)) (nI_add ke 1) ?_
  refine sk_put (ws' := [ro_rnrrr (q 9) 4 (q 35) ac (q 36) (q 37) (q 38), ra_I (q 36) cI 1000 f_3, ra_J (q 37) cJ 1000 f_5, ra_I (q 38) cI 1000 f_7, ro_rrnnnin (q 7) 7 (q 33) (q 34) dy wn mo mu (ke + 1)]) (C := RX7) (T := TX7) (N := 7) (v := .int (nI (ke + 1))) hx hb hts inlX7 tyX7 tyX7_ok nmX7 hown hK hP hD hS 4 rfl rfl 6 (Nat.le_of_ble_eq_true rfl) w_2_14 rfl rfl rfl (Nat.le_of_ble_eq_true rfl) rfl dX4_keep_56 (fun H locs hP hD hS => ?_)
  exact sk_vret hx hb hr hlocks hK hP hD hS (⟨f_3, f_5, f_7, ef_4, ef_6, ef_8, rfl⟩) (Nat.le_of_ble_eq_true rfl) (Nat.le_of_ble_eq_true rfl) dX4_keep_59
theorem dg_X11_pass_0_0 : bqL cX11_pass 0 [(0, [42]), (1, [180, 0, 89]), (4, [42]), (5, [180, 0, 59]), (8, [180, 0, 144]), (11, [4]), (12, [100]), (13, [46]), (14, [62]), (15, [42]), (16, [180, 0, 69]), (19, [42]), (20, [180, 0, 59]), (23, [31]), (24, [29]), (25, [182, 1, 85]), (28, [42]), (29, [180, 0, 59]), (32, [29]), (33, [181, 0, 150]), (36, [42]), (37, [180, 0, 59]), (40, [89]), (41, [180, 0, 147]), (44, [4]), (45, [96]), (46, [181, 0, 147]), (49, [177])] = true := by decide +kernel
theorem dX11_pass_0 : decode cX11_pass 0 = .ok (.aload_n 0, 1) := q_aload_n0 (bat_get dg_X11_pass_0_0 0 rfl rfl)
theorem dX11_pass_1 : decode cX11_pass 1 = .ok (.getfield 89, 3) := q_getfield (bat_get dg_X11_pass_0_0 1 rfl rfl) rfl
theorem dX11_pass_4 : decode cX11_pass 4 = .ok (.aload_n 0, 1) := q_aload_n0 (bat_get dg_X11_pass_0_0 2 rfl rfl)
theorem dX11_pass_5 : decode cX11_pass 5 = .ok (.getfield 59, 3) := q_getfield (bat_get dg_X11_pass_0_0 3 rfl rfl) rfl
theorem dX11_pass_8 : decode cX11_pass 8 = .ok (.getfield 144, 3) := q_getfield (bat_get dg_X11_pass_0_0 4 rfl rfl) rfl
theorem dX11_pass_11 : decode cX11_pass 11 = .ok (.iconst 1, 1) := q_iconst1 (bat_get dg_X11_pass_0_0 5 rfl rfl)
theorem dX11_pass_12 : decode cX11_pass 12 = .ok (.isub, 1) := q_isub (bat_get dg_X11_pass_0_0 6 rfl rfl)
theorem dX11_pass_13 : decode cX11_pass 13 = .ok (.iaload, 1) := q_iaload (bat_get dg_X11_pass_0_0 7 rfl rfl)
theorem dX11_pass_14 : decode cX11_pass 14 = .ok (.istore_n 3, 1) := q_istore_n3 (bat_get dg_X11_pass_0_0 8 rfl rfl)
theorem dX11_pass_15 : decode cX11_pass 15 = .ok (.aload_n 0, 1) := q_aload_n0 (bat_get dg_X11_pass_0_0 9 rfl rfl)
theorem dX11_pass_16 : decode cX11_pass 16 = .ok (.getfield 69, 3) := q_getfield (bat_get dg_X11_pass_0_0 10 rfl rfl) rfl
theorem dX11_pass_19 : decode cX11_pass 19 = .ok (.aload_n 0, 1) := q_aload_n0 (bat_get dg_X11_pass_0_0 11 rfl rfl)
theorem dX11_pass_20 : decode cX11_pass 20 = .ok (.getfield 59, 3) := q_getfield (bat_get dg_X11_pass_0_0 12 rfl rfl) rfl
theorem dX11_pass_23 : decode cX11_pass 23 = .ok (.lload_n 1, 1) := q_lload_n1 (bat_get dg_X11_pass_0_0 13 rfl rfl)
theorem dX11_pass_24 : decode cX11_pass 24 = .ok (.iload_n 3, 1) := q_iload_n3 (bat_get dg_X11_pass_0_0 14 rfl rfl)
theorem dX11_pass_25 : decode cX11_pass 25 = .ok (.invokevirtual 341, 3) := q_invokevirtual (bat_get dg_X11_pass_0_0 15 rfl rfl) rfl
theorem dX11_pass_28 : decode cX11_pass 28 = .ok (.aload_n 0, 1) := q_aload_n0 (bat_get dg_X11_pass_0_0 16 rfl rfl)
theorem dX11_pass_29 : decode cX11_pass 29 = .ok (.getfield 59, 3) := q_getfield (bat_get dg_X11_pass_0_0 17 rfl rfl) rfl
theorem dX11_pass_32 : decode cX11_pass 32 = .ok (.iload_n 3, 1) := q_iload_n3 (bat_get dg_X11_pass_0_0 18 rfl rfl)
theorem dX11_pass_33 : decode cX11_pass 33 = .ok (.putfield 150, 3) := q_putfield (bat_get dg_X11_pass_0_0 19 rfl rfl) rfl
theorem dX11_pass_36 : decode cX11_pass 36 = .ok (.aload_n 0, 1) := q_aload_n0 (bat_get dg_X11_pass_0_0 20 rfl rfl)
theorem dX11_pass_37 : decode cX11_pass 37 = .ok (.getfield 59, 3) := q_getfield (bat_get dg_X11_pass_0_0 21 rfl rfl) rfl
theorem dX11_pass_40 : decode cX11_pass 40 = .ok (.dup, 1) := q_dup (bat_get dg_X11_pass_0_0 22 rfl rfl)
theorem dX11_pass_41 : decode cX11_pass 41 = .ok (.getfield 147, 3) := q_getfield (bat_get dg_X11_pass_0_0 23 rfl rfl) rfl
theorem dX11_pass_44 : decode cX11_pass 44 = .ok (.iconst 1, 1) := q_iconst1 (bat_get dg_X11_pass_0_0 24 rfl rfl)
theorem dX11_pass_45 : decode cX11_pass 45 = .ok (.iadd, 1) := q_iadd (bat_get dg_X11_pass_0_0 25 rfl rfl)
theorem dX11_pass_46 : decode cX11_pass 46 = .ok (.putfield 147, 3) := q_putfield (bat_get dg_X11_pass_0_0 26 rfl rfl) rfl
theorem dX11_pass_49 : decode cX11_pass 49 = .ok (.return_, 1) := q_return_ (bat_get dg_X11_pass_0_0 27 rfl rfl)
theorem w_2_132 : (Cond.fieldLink RX11 69 "SameKeeper" "past" "LSameKeeper$Past;") ∈ wsL_law := sk_mem (ck_2 _ (List.mem_of_getElem? (i := 132) rfl)) rfl
theorem w_5_24 : (Cond.methodLink RX11 341 yX4_keep) ∈ wsL_law := sk_mem (ck_5 _ (List.mem_of_getElem? (i := 24) rfl)) rfl
theorem w_5_25 : (Cond.instanceMethod yX4_keep) ∈ wsL_law := sk_mem (ck_5 _ (List.mem_of_getElem? (i := 25) rfl)) rfl
theorem w_5_26 : (Cond.selects RX4 yX4_keep yX4_keep) ∈ wsL_law := sk_mem (ck_5 _ (List.mem_of_getElem? (i := 26) rfl)) rfl
theorem w_1_11 : (Cond.initialized RX4) ∈ wsL_law := sk_mem (ck_1 _ (List.mem_of_getElem? (i := 11) rfl)) rfl
theorem w_2_10 : (Cond.fieldLink RX11 150 "SameKeeper$State" "mood" "I") ∈ wsL_law := sk_mem (ck_2 _ (List.mem_of_getElem? (i := 10) rfl)) rfl
theorem w_2_6 : (Cond.fieldLink RX11 147 "SameKeeper$State" "week" "I") ∈ wsL_law := sk_mem (ck_2 _ (List.mem_of_getElem? (i := 6) rfl)) rfl
theorem w_5_23 : (Cond.code yX11_pass cX11_pass 4 none) ∈ wsL_law := sk_mem (ck_5 _ (List.mem_of_getElem? (i := 23) rfl)) rfl
def om_7_3e : List Bool := false :: true :: true :: true :: true :: true :: false :: []
theorem hd_X4_keep_3 : skD yX4_keep 3 := by decide +kernel
set_option maxHeartbeats 4000000 in
set_option maxRecDepth 100000 in
theorem c_kx_pass (l : Launch) (D : va_G) (cI cJ cC cZ cS : ClassId) (x0 : Nat) (q : Nat → Nat) (hc : Int32) (dr : Int64) (dy : Nat) (wn : Nat) (mo : Nat) (ke : Nat) (mu : Int32) (fb : Nat → Int32) (fw : Nat → Int32) (ac : Nat) (lst : Nat) (p1 : Nat → Int32) (p2 : Nat → Int64) (p3 : Nat → Int32) (ra : Nat → Int32) (x : Int64) (hdy : dy ≤ 9) (hdy1 : 1 ≤ dy) (hls : ra (dy - 1) = nI lst) (hls9 : lst ≤ 9) (hke : ke < 1000) (hwn : wn ≤ 999) : skM l yX11_pass cX11_pass 4 none 1 25 0 0 D (skT cI cJ cC cZ cS) [.ref x0, .long x] [ro_rrrrrrrrrrrrrrrirl x0 11 (q 0) (q 1) (q 2) (q 3) (q 4) (q 5) (q 6) (q 7) (q 8) (q 9) (q 10) (q 11) (q 12) (q 13) (q 14) hc (q 16) dr, ro_rrnnnin (q 7) 7 (q 33) (q 34) dy wn mo mu ke, ro_rnrrr (q 9) 4 (q 35) ac (q 36) (q 37) (q 38), ra_I (q 36) cI 1000 p1, ra_J (q 37) cJ 1000 p2, ra_I (q 38) cI 1000 p3, ra_I (q 12) cI 9 ra] (skV D (skT cI cJ cC cZ cS) (fun (u : va_W) => ∃ (p1_ : Nat → Int32), ∃ (p2_ : Nat → Int64), ∃ (p3_ : Nat → Int32), p1_ = upd p1 ke (nI wn) ∧ p2_ = vp_updL p2 ke x ∧ p3_ = upd p3 ke (nI lst) ∧ u = [ro_rrrrrrrrrrrrrrrirl x0 11 (q 0) (q 1) (q 2) (q 3) (q 4) (q 5) (q 6) (q 7) (q 8) (q 9) (q 10) (q 11) (q 12) (q 13) (q 14) hc (q 16) dr, ro_rrnnnin (q 7) 7 (q 33) (q 34) dy (wn + 1) lst mu (ke + 1), ro_rnrrr (q 9) 4 (q 35) ac (q 36) (q 37) (q 38), ra_I (q 36) cI 1000 p1_, ra_J (q 37) cJ 1000 p2_, ra_I (q 38) cI 1000 p3_, ra_I (q 12) cI 9 ra])) := by
  refine skM_of pf_X11_pass (Nat.le_of_ble_eq_true rfl) ?_
  intro p e s m below meth c A ls E hP hD hl
  refine skE_el E (fun hx hb hr hml hlocks hin hown hts hK hA => ?_)
  have hown : s.vm.findClass RX11 = some m.cls := hown
  have hS : va_S A s.heap s.heap [] := va_S.rf
  have hl : lv_has ls 4 [(0, .ref x0), (1, .long x)] := hl
  refine lv_aload_n hx hb dX11_pass_0 rfl (lv_at hl 0 rfl) ?_
  refine sk_get (v := .ref (q 12)) (C := RX11) (T := TX11) (N := 18) hx hb hts inlX11 hown hK hP 0 rfl rfl 12 (Nat.le_of_ble_eq_true rfl) w_2_135 rfl dX11_pass_1 ?_
  refine lv_aload_n hx hb dX11_pass_4 rfl (lv_at hl 0 rfl) ?_
  refine sk_get (v := .ref (q 7)) (C := RX11) (T := TX11) (N := 18) hx hb hts inlX11 hown hK hP 0 rfl rfl 7 (Nat.le_of_ble_eq_true rfl) w_2_130 rfl dX11_pass_5 ?_
  refine sk_get (v := .int (nI dy)) (C := RX7) (T := TX7) (N := 7) hx hb hts inlX7 hown hK hP 1 rfl rfl 2 (Nat.le_of_ble_eq_true rfl) w_2_1 rfl dX11_pass_8 ?_
  refine lv_iconst (v := 1) hx hb dX11_pass_11 ic_1 ?_
  refine lv_isub hx hb dX11_pass_12 ?_
  refine sk_top (nI (dy - 1)) (nsub dy 1 (by omega)) ?_
  refine va_iald hx hb hK.1 hP 6 0 rfl rfl (vin (dy - 1) 9 (by omega) (Nat.le_of_ble_eq_true rfl)) dX11_pass_13 ?_
  refine sk_top (nI lst) (by rw [nI_clamp (by omega)]; exact hls) ?_
  refine lv_istore_n (lv' := [(3, .int (nI lst)), (0, .ref x0), (1, .long x)]) hx hb dX11_pass_14 rfl hl (by decide) rfl (fun ls hl => ?_)
  refine lv_aload_n hx hb dX11_pass_15 rfl (lv_at hl 1 rfl) ?_
  refine sk_get (v := .ref (q 9)) (C := RX11) (T := TX11) (N := 18) hx hb hts inlX11 hown hK hP 0 rfl rfl 9 (Nat.le_of_ble_eq_true rfl) w_2_132 rfl dX11_pass_16 ?_
  refine lv_aload_n hx hb dX11_pass_19 rfl (lv_at hl 1 rfl) ?_
  refine sk_get (v := .ref (q 7)) (C := RX11) (T := TX11) (N := 18) hx hb hts inlX11 hown hK hP 0 rfl rfl 7 (Nat.le_of_ble_eq_true rfl) w_2_130 rfl dX11_pass_20 ?_
  refine lv_lload_n hx hb dX11_pass_23 rfl (lv_at hl 2 rfl) ?_
  refine lv_iload_n hx hb dX11_pass_24 rfl (lv_at hl 0 rfl) ?_
  refine sk_Vv (q0 := 0) (n := 3) (rest := []) (wr := fmR om_7_3e _) ⟨hx, hb, hml, hown, hts⟩ hl.1 (c_kpast_keep l D cI cJ cC cZ cS q ac p1 p2 p3 dy wn mo ke mu fb fw x (nI lst) hke) w_5_24 w_5_25 w_5_26 w_1_11 w_5_27 hd_X4_keep_3 ⟨⟨(Nat.le_of_ble_eq_true rfl), (Nat.le_of_ble_eq_true rfl)⟩, (Nat.le_of_ble_eq_true rfl), (Nat.le_of_ble_eq_true rfl)⟩ hK hP hD hS hA [2, 3, 4, 5, 1] (fmF om_7_3e 0) rfl (fm_R rfl rfl) (by decide +kernel) (fm_nF om_7_3e 0) (by decide +kernel) rfl rfl rfl rfl (Nat.le_of_ble_eq_true rfl) dX11_pass_25 (fun u H locs hw hP hD hS => ?_)
  refine exE hw (fun p1__1 hw1 => exE hw1 (fun p2__2 hw2 => exE hw2 (fun p3__3 hw3 => anE hw3 (fun hp1_4 hw4 => anE hw4 (fun hp2_5 hw5 => anE hw5 (fun hp3_6 eu_7 => ?_))))))
  clear hw hw1 hw2 hw3 hw4 hw5
  refine o_mgqE (ux := [ro_rrnnnin (q 7) 7 (q 33) (q 34) dy wn mo mu (ke + 1), ro_rnrrr (q 9) 4 (q 35) ac (q 36) (q 37) (q 38), ra_I (q 36) cI 1000 p1__1, ra_J (q 37) cJ 1000 p2__2, ra_I (q 38) cI 1000 p3__3]) (ws' := [ro_rrrrrrrrrrrrrrrirl x0 11 (q 0) (q 1) (q 2) (q 3) (q 4) (q 5) (q 6) (q 7) (q 8) (q 9) (q 10) (q 11) (q 12) (q 13) (q 14) hc (q 16) dr, ro_rrnnnin (q 7) 7 (q 33) (q 34) dy wn mo mu (ke + 1), ro_rnrrr (q 9) 4 (q 35) ac (q 36) (q 37) (q 38), ra_I (q 36) cI 1000 p1__1, ra_J (q 37) cJ 1000 p2__2, ra_I (q 38) cI 1000 p3__3, ra_I (q 12) cI 9 ra]) eu_7 [4, 0, 1, 2, 3] (by decide +kernel) rfl hP hD rfl (fun hP hD => ?_)
  refine lv_aload_n hx hb dX11_pass_28 rfl (lv_at hl 1 rfl) ?_
  refine sk_get (v := .ref (q 7)) (C := RX11) (T := TX11) (N := 18) hx hb hts inlX11 hown hK hP 0 rfl rfl 7 (Nat.le_of_ble_eq_true rfl) w_2_130 rfl dX11_pass_29 ?_
  refine lv_iload_n hx hb dX11_pass_32 rfl (lv_at hl 0 rfl) ?_
  refine sk_put (ws' := [ro_rrrrrrrrrrrrrrrirl x0 11 (q 0) (q 1) (q 2) (q 3) (q 4) (q 5) (q 6) (q 7) (q 8) (q 9) (q 10) (q 11) (q 12) (q 13) (q 14) hc (q 16) dr, ro_rrnnnin (q 7) 7 (q 33) (q 34) dy wn lst mu (ke + 1), ro_rnrrr (q 9) 4 (q 35) ac (q 36) (q 37) (q 38), ra_I (q 36) cI 1000 p1__1, ra_J (q 37) cJ 1000 p2__2, ra_I (q 38) cI 1000 p3__3, ra_I (q 12) cI 9 ra]) (C := RX7) (T := TX7) (N := 7) (v := .int (nI lst)) hx hb hts inlX7 tyX7 tyX7_ok nmX7 hown hK hP hD hS 1 rfl rfl 4 (Nat.le_of_ble_eq_true rfl) w_2_10 rfl rfl rfl (Nat.le_of_ble_eq_true rfl) rfl dX11_pass_33 (fun H locs hP hD hS => ?_)
  refine lv_aload_n hx hb dX11_pass_36 rfl (lv_at hl 1 rfl) ?_
  refine sk_get (v := .ref (q 7)) (C := RX11) (T := TX11) (N := 18) hx hb hts inlX11 hown hK hP 0 rfl rfl 7 (Nat.le_of_ble_eq_true rfl) w_2_130 rfl dX11_pass_37 ?_
  refine lv_dup hx hb dX11_pass_40 rfl ?_
  refine sk_get (v := .int (nI wn)) (C := RX7) (T := TX7) (N := 7) hx hb hts inlX7 hown hK hP 1 rfl rfl 3 (Nat.le_of_ble_eq_true rfl) w_2_6 rfl dX11_pass_41 ?_
  refine lv_iconst (v := 1) hx hb dX11_pass_44 ic_1 ?_
  refine lv_iadd hx hb dX11_pass_45 ?_
  refine sk_top (nI (wn + 1)) (nI_add wn 1) ?_
  refine sk_put (ws' := [ro_rrrrrrrrrrrrrrrirl x0 11 (q 0) (q 1) (q 2) (q 3) (q 4) (q 5) (q 6) (q 7) (q 8) (q 9) (q 10) (q 11) (q 12) (q 13) (q 14) hc (q 16) dr, ro_rrnnnin (q 7) 7 (q 33) (q 34) dy (wn + 1) lst mu (ke + 1), ro_rnrrr (q 9) 4 (q 35) ac (q 36) (q 37) (q 38), ra_I (q 36) cI 1000 p1__1, ra_J (q 37) cJ 1000 p2__2, ra_I (q 38) cI 1000 p3__3, ra_I (q 12) cI 9 ra]) (C := RX7) (T := TX7) (N := 7) (v := .int (nI (wn + 1))) hx hb hts inlX7 tyX7 tyX7_ok nmX7 hown hK hP hD hS 1 rfl rfl 3 (Nat.le_of_ble_eq_true rfl) w_2_6 rfl rfl rfl (Nat.le_of_ble_eq_true rfl) rfl dX11_pass_46 (fun H locs hP hD hS => ?_)
  exact sk_vret hx hb hr hlocks hK hP hD hS (⟨p1__1, p2__2, p3__3, hp1_4, hp2_5, hp3_6, rfl⟩) (Nat.le_of_ble_eq_true rfl) (Nat.le_of_ble_eq_true rfl) dX11_pass_49
