/-! when it is the same -/
def sd (p e n : Nat) : Prop := (p + 1440 * e - e * n) % 1440 = 0
def inR (pp ee : Int32) : Prop := 0 ≤ pp.toInt ∧ pp.toInt ≤ 1439 ∧ 0 ≤ ee.toInt ∧ ee.toInt ≤ 1439
def smR (pp ee r : Int32) : Prop := (∃ p e : Nat, p < 1440 ∧ e < 1440 ∧ pp = nI p ∧ ee = nI e ∧ ((∃ n : Nat, n < 1440 ∧ sd p e n ∧ (∀ j, j < n → ¬ sd p e j) ∧ r = nI n) ∨ ((∀ j, j < 1440 → ¬ sd p e j) ∧ r = -1))) ∨ (¬ inR pp ee ∧ r = -1)
theorem sm_i (k : Nat) (h : k < 2147483648) : (nI k).toInt = (k : Int) := nI_toInt h
theorem out1 {pp ee : Int32} (h : pp < 0) : ¬ inR pp ee := fun q => by
  have h1 := Int32.lt_iff_toInt_lt.mp h
  have e0 : (0 : Int32).toInt = 0 := rfl
  rw [e0] at h1
  have := q.1
  omega
theorem out2 {k : Nat} {ee : Int32} (hk : k < 2147483648) (h : 1439 < k) : ¬ inR (nI k) ee := fun q => by
  have h1 := q.2.1
  rw [sm_i k hk] at h1
  omega
theorem out3 {pp ee : Int32} (h : ee < 0) : ¬ inR pp ee := fun q => by
  have h1 := Int32.lt_iff_toInt_lt.mp h
  have e0 : (0 : Int32).toInt = 0 := rfl
  rw [e0] at h1
  have := q.2.2.1
  omega
theorem out4 {k : Nat} {pp : Int32} (hk : k < 2147483648) (h : 1439 < k) : ¬ inR pp (nI k) := fun q => by
  have h1 := q.2.2.2
  rw [sm_i k hk] at h1
  omega
theorem sm_l (pp : Int32) : ((0 : Int64) ≤ pp.toInt64 ∧ pp.toInt64 ≤ 1439) ↔ (0 ≤ pp.toInt ∧ pp.toInt ≤ 1439) := by
  have e0 : (0 : Int64).toInt = 0 := rfl
  have e1 : (1439 : Int64).toInt = 1439 := rfl
  rw [Int64.le_iff_toInt_le, Int64.le_iff_toInt_le, Int32.toInt_toInt64, e0, e1]
theorem outA {pp ee : Int32} (h : ¬ ((0 : Int64) ≤ pp.toInt64 ∧ pp.toInt64 ≤ 1439)) : ¬ inR pp ee := fun q => h ((sm_l pp).mpr ⟨q.1, q.2.1⟩)
theorem outB {pp ee : Int32} (h : ¬ ((0 : Int64) ≤ ee.toInt64 ∧ ee.toInt64 ≤ 1439)) : ¬ inR pp ee := fun q => h ((sm_l ee).mpr ⟨q.2.2.1, q.2.2.2⟩)
theorem sm_rem {x : Int32} (h1 : -10000000 < x.toInt) (h2 : x.toInt < 10000000) : (x - x / 1440 * 1440).toInt = x.toInt.tmod 1440 := by
  have e : (1440 : Int32).toInt = 1440 := rfl
  have hd : (x / 1440).toInt = x.toInt.tdiv 1440 := by
    rw [Jvm.Kit.i32_div (by rw [e]; omega), e]
  have hr := Int.mul_tdiv_add_tmod x.toInt 1440
  have hb1 : x.toInt.tmod 1440 < 1440 := Int.tmod_lt_of_pos _ (by decide)
  have hb2 : -1440 < x.toInt.tmod 1440 := by
    have h3 := Int.tmod_lt_of_pos (-x.toInt) (by decide : (0 : Int) < 1440)
    rw [Int.neg_tmod] at h3
    omega
  have hm : (x / 1440 * 1440).toInt = x.toInt.tdiv 1440 * 1440 := by
    rw [Jvm.Kit.i32_mul (by rw [hd, e]; omega) (by rw [hd, e]; omega), hd, e]
  rw [Jvm.Kit.i32_sub (by rw [hm]; omega) (by rw [hm]; omega), hm]
  omega
theorem sm_le {e i : Nat} (hi : i ≤ 1440) : e * i ≤ 1440 * e := by
  rw [Nat.mul_comm 1440 e]
  exact Nat.mul_le_mul_left e hi
theorem sm_x {p e i : Nat} {va vb : Int32} (hp : p < 1440) (he : e < 1440) (hi : i ≤ 1440) (ea : va = nI p - nI (e * i)) (eb : vb = va - va / 1440 * 1440) : vb = 0 ↔ sd p e i := by
  have h1 := sm_le (e := e) hi
  have h2 : 1440 * e ≤ 1440 * 1439 := Nat.mul_le_mul_left _ (by omega)
  have hx : va.toInt = (p : Int) - ((e * i : Nat) : Int) := by
    rw [ea, Jvm.Kit.i32_sub (by rw [sm_i p (by omega), sm_i (e * i) (by omega)]; omega) (by rw [sm_i p (by omega), sm_i (e * i) (by omega)]; omega), sm_i p (by omega), sm_i (e * i) (by omega)]
  have hr := sm_rem (x := va) (by rw [hx]; omega) (by rw [hx]; omega)
  rw [← eb] at hr
  have h0 : vb = 0 ↔ vb.toInt = 0 := by
    rw [← Int32.toInt_inj]
    exact Iff.rfl
  rw [h0, hr, ← Int.dvd_iff_tmod_eq_zero, hx]
  unfold sd
  generalize e * i = q at *
  omega
theorem sm_0 {p e : Nat} (hp : p < 1440) : p = (p + 1440 * e - e * 0) % 1440 := by
  rw [Nat.mul_zero]; omega
theorem sm_next {p e i v : Nat} (he : e < 1440) (hi : i + 1 ≤ 1440) (hv : v = (p + 1440 * e - e * i) % 1440) : (v + 1440 - e) % 1440 = (p + 1440 * e - e * (i + 1)) % 1440 := by
  have h1 := sm_le (e := e) hi
  rw [Nat.mul_succ] at h1 ⊢
  generalize e * i = q at *
  omega
theorem sm_found {p e n : Nat} (hp : p < 1440) (he : e < 1440) (hn : n < 1440) (h : sd p e n) (hno : ∀ j, j < n → ¬ sd p e j) : smR (nI p) (nI e) (nI n) := Or.inl ⟨p, e, hp, he, rfl, rfl, Or.inl ⟨n, hn, h, hno, rfl⟩⟩
theorem sm_none {p e n : Nat} (hp : p < 1440) (he : e < 1440) (hn : 1440 ≤ n) (hno : ∀ j, j < n → ¬ sd p e j) : smR (nI p) (nI e) (-1) := Or.inl ⟨p, e, hp, he, rfl, rfl, Or.inr ⟨fun j hj => hno j (by omega), rfl⟩⟩
def sno (p e i : Nat) : Prop := ∀ j, j < i → ¬ sd p e j
theorem sno_0 {p e : Nat} : sno p e 0 := fun j h => absurd h (by omega)
theorem sno_s {p e i : Nat} (h : sno p e i) (h1 : ¬ sd p e i) : sno p e (i + 1) := by
  intro j hj
  by_cases q : j = i
  · subst q; exact h1
  · exact h j (by omega)
theorem same_eq {pp ee r q : Int32} (h1 : smR pp ee r) (h2 : smR pp ee q) : r = q := by
  rcases h1 with ⟨p, e, hp, he, rfl, rfl, h1⟩ | ⟨h1, e1⟩
  · rcases h2 with ⟨p', e', hp', he', ep, ee, h2⟩ | ⟨h2, -⟩
    · have ep := (neq p p' (by omega) (by omega)).mp ep
      have ee := (neq e e' (by omega) (by omega)).mp ee
      subst ep; subst ee
      rcases h1 with ⟨n, hn, a1, a2, a3⟩ | ⟨a1, a2⟩
      · rcases h2 with ⟨m, hm, b1, b2, b3⟩ | ⟨b1, b2⟩
        · rcases Nat.lt_trichotomy n m with t | t | t
          · exact absurd a1 (b2 n t)
          · rw [a3, b3, t]
          · exact absurd b1 (a2 m t)
        · exact absurd a1 (b1 n hn)
      · rcases h2 with ⟨m, hm, b1, b2, b3⟩ | ⟨b1, b2⟩
        · exact absurd b1 (a1 m hm)
        · rw [a2, b2]
    · exact absurd ⟨by rw [sm_i p (by omega)]; omega, by rw [sm_i p (by omega)]; omega, by rw [sm_i e (by omega)]; omega, by rw [sm_i e (by omega)]; omega⟩ h2
  · rcases h2 with ⟨p', e', hp', he', rfl, rfl, h2⟩ | ⟨-, e2⟩
    · exact absurd ⟨by rw [sm_i p' (by omega)]; omega, by rw [sm_i p' (by omega)]; omega, by rw [sm_i e' (by omega)]; omega, by rw [sm_i e' (by omega)]; omega⟩ h1
    · rw [e1, e2]
theorem dg_X11_same_0_0 : bqL cX11_same 0 [(0, [27]), (1, [155, 0, 21]), (22, [2]), (23, [172]), (4, [27]), (5, [17, 5, 159]), (8, [163, 0, 14]), (11, [28]), (12, [155, 0, 10]), (15, [28]), (16, [17, 5, 159]), (19, [164, 0, 5]), (24, [3]), (25, [62]), (26, [29]), (27, [17, 5, 160]), (30, [162, 0, 23]), (53, [2]), (54, [172]), (33, [27]), (34, [28]), (35, [29]), (36, [104]), (37, [100]), (38, [17, 5, 160]), (41, [112]), (42, [154, 0, 5]), (47, [132, 3, 1]), (50, [167, 255, 232]), (45, [29]), (46, [172])] = true := by decide +kernel
theorem dX11_same_0 : decode cX11_same 0 = .ok (.iload_n 1, 1) := q_iload_n1 (bat_get dg_X11_same_0_0 0 rfl rfl)
theorem dX11_same_1 : decode cX11_same 1 = .ok (.ifCond .lt 21, 3) := q_ifCond_lt (bat_get dg_X11_same_0_0 1 rfl rfl) rfl
theorem dX11_same_22 : decode cX11_same 22 = .ok (.iconst (-1), 1) := q_iconstm1 (bat_get dg_X11_same_0_0 2 rfl rfl)
theorem dX11_same_23 : decode cX11_same 23 = .ok (.ireturn, 1) := q_ireturn (bat_get dg_X11_same_0_0 3 rfl rfl)
theorem dX11_same_4 : decode cX11_same 4 = .ok (.iload_n 1, 1) := q_iload_n1 (bat_get dg_X11_same_0_0 4 rfl rfl)
theorem dX11_same_5 : decode cX11_same 5 = .ok (.sipush 1439, 3) := q_sipush (bat_get dg_X11_same_0_0 5 rfl rfl) rfl
theorem dX11_same_8 : decode cX11_same 8 = .ok (.if_icmp .gt 14, 3) := q_if_icmp_gt (bat_get dg_X11_same_0_0 6 rfl rfl) rfl
theorem dX11_same_11 : decode cX11_same 11 = .ok (.iload_n 2, 1) := q_iload_n2 (bat_get dg_X11_same_0_0 7 rfl rfl)
theorem dX11_same_12 : decode cX11_same 12 = .ok (.ifCond .lt 10, 3) := q_ifCond_lt (bat_get dg_X11_same_0_0 8 rfl rfl) rfl
theorem dX11_same_15 : decode cX11_same 15 = .ok (.iload_n 2, 1) := q_iload_n2 (bat_get dg_X11_same_0_0 9 rfl rfl)
theorem dX11_same_16 : decode cX11_same 16 = .ok (.sipush 1439, 3) := q_sipush (bat_get dg_X11_same_0_0 10 rfl rfl) rfl
theorem dX11_same_19 : decode cX11_same 19 = .ok (.if_icmp .le 5, 3) := q_if_icmp_le (bat_get dg_X11_same_0_0 11 rfl rfl) rfl
theorem dX11_same_24 : decode cX11_same 24 = .ok (.iconst 0, 1) := q_iconst0 (bat_get dg_X11_same_0_0 12 rfl rfl)
theorem dX11_same_25 : decode cX11_same 25 = .ok (.istore_n 3, 1) := q_istore_n3 (bat_get dg_X11_same_0_0 13 rfl rfl)
theorem dX11_same_26 : decode cX11_same 26 = .ok (.iload_n 3, 1) := q_iload_n3 (bat_get dg_X11_same_0_0 14 rfl rfl)
theorem dX11_same_27 : decode cX11_same 27 = .ok (.sipush 1440, 3) := q_sipush (bat_get dg_X11_same_0_0 15 rfl rfl) rfl
theorem dX11_same_30 : decode cX11_same 30 = .ok (.if_icmp .ge 23, 3) := q_if_icmp_ge (bat_get dg_X11_same_0_0 16 rfl rfl) rfl
theorem dX11_same_53 : decode cX11_same 53 = .ok (.iconst (-1), 1) := q_iconstm1 (bat_get dg_X11_same_0_0 17 rfl rfl)
theorem dX11_same_54 : decode cX11_same 54 = .ok (.ireturn, 1) := q_ireturn (bat_get dg_X11_same_0_0 18 rfl rfl)
theorem dX11_same_33 : decode cX11_same 33 = .ok (.iload_n 1, 1) := q_iload_n1 (bat_get dg_X11_same_0_0 19 rfl rfl)
theorem dX11_same_34 : decode cX11_same 34 = .ok (.iload_n 2, 1) := q_iload_n2 (bat_get dg_X11_same_0_0 20 rfl rfl)
theorem dX11_same_35 : decode cX11_same 35 = .ok (.iload_n 3, 1) := q_iload_n3 (bat_get dg_X11_same_0_0 21 rfl rfl)
theorem dX11_same_36 : decode cX11_same 36 = .ok (.imul, 1) := q_imul (bat_get dg_X11_same_0_0 22 rfl rfl)
theorem dX11_same_37 : decode cX11_same 37 = .ok (.isub, 1) := q_isub (bat_get dg_X11_same_0_0 23 rfl rfl)
theorem dX11_same_38 : decode cX11_same 38 = .ok (.sipush 1440, 3) := q_sipush (bat_get dg_X11_same_0_0 24 rfl rfl) rfl
theorem dX11_same_41 : decode cX11_same 41 = .ok (.irem, 1) := q_irem (bat_get dg_X11_same_0_0 25 rfl rfl)
theorem dX11_same_42 : decode cX11_same 42 = .ok (.ifCond .ne 5, 3) := q_ifCond_ne (bat_get dg_X11_same_0_0 26 rfl rfl) rfl
theorem dX11_same_47 : decode cX11_same 47 = .ok (.iinc 3 1, 3) := q_iinc (bat_get dg_X11_same_0_0 27 rfl rfl) rfl
theorem dX11_same_50 : decode cX11_same 50 = .ok (.goto (-24), 3) := q_goto (bat_get dg_X11_same_0_0 28 rfl rfl) rfl
theorem dX11_same_45 : decode cX11_same 45 = .ok (.iload_n 3, 1) := q_iload_n3 (bat_get dg_X11_same_0_0 29 rfl rfl)
theorem dX11_same_46 : decode cX11_same 46 = .ok (.ireturn, 1) := q_ireturn (bat_get dg_X11_same_0_0 30 rfl rfl)
theorem w_4_238 : (Cond.code yX11_same cX11_same 4 (some .int)) ∈ wsL_law := sk_mem (ck_4 _ (List.mem_of_getElem? (i := 238) rfl)) rfl
set_option maxHeartbeats 4000000 in
set_option maxRecDepth 100000 in
theorem c_y_same (l : Launch) (D : va_G) (cI cJ cC cZ cS : ClassId) (x0 : Nat) (q : Nat → Nat) (hc : Int32) (dr : Int64) (pp : Int32) (ee : Int32)  : skM l yX11_same cX11_same 4 (some .int) 0 0 0 0 D (skT cI cJ cC cZ cS) [.ref x0, .int pp, .int ee] [(x0, .inr (11, [.ref (q 0), .ref (q 1), .ref (q 2), .ref (q 3), .ref (q 4), .ref (q 5), .ref (q 6), .ref (q 7), .ref (q 8), .ref (q 9), .ref (q 10), .ref (q 11), .ref (q 12), .ref (q 13), .ref (q 14), .int hc, .ref (q 16), .long dr]))] (skI D (skT cI cJ cC cZ cS) (fun (r : Int32) (u : va_W) => smR pp ee r ∧ u = [(x0, .inr (11, [.ref (q 0), .ref (q 1), .ref (q 2), .ref (q 3), .ref (q 4), .ref (q 5), .ref (q 6), .ref (q 7), .ref (q 8), .ref (q 9), .ref (q 10), .ref (q 11), .ref (q 12), .ref (q 13), .ref (q 14), .int hc, .ref (q 16), .long dr]))])) := by
  refine skM_of pf_X11_same (Nat.le_of_ble_eq_true rfl) ?_
  intro p e s m below meth c A ls E hP hD hl
  refine skE_el E (fun hx hb hr hml hlocks hin hown hts hK hA => ?_)
  have hown : s.vm.findClass RX11 = some m.cls := hown
  have hS : va_S A s.heap s.heap [] := va_S.rf
  have hl : lv_has ls 4 [(0, .ref x0), (1, .int pp), (2, .int ee)] := hl
  refine lv_iload_n hx hb dX11_same_0 rfl (lv_at hl 1 rfl) ?_
  refine lv_if_lt (tgt := 22) hx hb dX11_same_1 (by decide) (fun c_1 => ?_) (fun c_1 => ?_)
  · skip
    refine lv_iconst (v := (-1)) hx hb dX11_same_22 (by decide) ?_
    exact sk_iret hx hb hr rfl hlocks hK hP hD hS (⟨(Or.inr ⟨out1 c_1, rfl⟩), rfl⟩) (Nat.le_of_ble_eq_true rfl) (Nat.le_of_ble_eq_true rfl) dX11_same_23
  · obtain ⟨k_2, hk_2, rfl⟩ := nof pp c_1
    refine lv_iload_n hx hb dX11_same_4 rfl (lv_at hl 1 rfl) ?_
    refine lv_sipush (v := 1439) hx hb dX11_same_5 (by decide) ?_
    refine lv_icmp_gt (tgt := 22) hx hb dX11_same_8 (by decide) (fun c_3 => ?_) (fun c_3 => ?_)
    · have c_3 : 1439 < k_2 := (nlt 1439 k_2 (by omega) (by omega)).mp c_3
      refine lv_iconst (v := (-1)) hx hb dX11_same_22 (by decide) ?_
      exact sk_iret hx hb hr rfl hlocks hK hP hD hS (⟨(Or.inr ⟨out2 (by omega) (by omega), rfl⟩), rfl⟩) (Nat.le_of_ble_eq_true rfl) (Nat.le_of_ble_eq_true rfl) dX11_same_23
    · have c_3 : ¬ (1439 < k_2) := fun h => c_3 ((nlt 1439 k_2 (by omega) (by omega)).mpr h)
      refine lv_iload_n hx hb dX11_same_11 rfl (lv_at hl 2 rfl) ?_
      refine lv_if_lt (tgt := 22) hx hb dX11_same_12 (by decide) (fun c_4 => ?_) (fun c_4 => ?_)
      · skip
        refine lv_iconst (v := (-1)) hx hb dX11_same_22 (by decide) ?_
        exact sk_iret hx hb hr rfl hlocks hK hP hD hS (⟨(Or.inr ⟨out3 c_4, rfl⟩), rfl⟩) (Nat.le_of_ble_eq_true rfl) (Nat.le_of_ble_eq_true rfl) dX11_same_23
      · obtain ⟨k_5, hk_5, rfl⟩ := nof ee c_4
        refine lv_iload_n hx hb dX11_same_15 rfl (lv_at hl 2 rfl) ?_
        refine lv_sipush (v := 1439) hx hb dX11_same_16 (by decide) ?_
        refine lv_icmp_le (tgt := 24) hx hb dX11_same_19 (by decide) (fun c_6 => ?_) (fun c_6 => ?_)
        · have c_6 : k_5 ≤ 1439 := (nle k_5 1439 (by omega) (by omega)).mp c_6
          refine lv_iconst (v := 0) hx hb dX11_same_24 (by decide) ?_
          refine lv_istore_n (lv' := [(3, .int 0), (0, .ref x0), (1, .int (nI k_2)), (2, .int (nI k_5))]) hx hb dX11_same_25 rfl hl (by decide) rfl (fun ls hl => ?_)
          have lp_7 : ∀ (n_8 : Nat) (i : Nat) (H : Heap) (locs : List Loc) (ls : Array Slot), 1440 - i < n_8 → (i ≤ 1440) → (sno k_2 k_5 i) → va_P D vwCl [(x0, .inr (11, [.ref (q 0), .ref (q 1), .ref (q 2), .ref (q 3), .ref (q 4), .ref (q 5), .ref (q 6), .ref (q 7), .ref (q 8), .ref (q 9), .ref (q 10), .ref (q 11), .ref (q 12), .ref (q 13), .ref (q 14), .int hc, .ref (q 16), .long dr]))] H → va_D A [(x0, .inr (11, [.ref (q 0), .ref (q 1), .ref (q 2), .ref (q 3), .ref (q 4), .ref (q 5), .ref (q 6), .ref (q 7), .ref (q 8), .ref (q 9), .ref (q 10), .ref (q 11), .ref (q 12), .ref (q 13), .ref (q 14), .int hc, .ref (q 16), .long dr]))] → va_S A s.heap H locs → lv_has ls 4 [(3, .int (nI i)), (0, .ref x0), (1, .int (nI k_2)), (2, .int (nI k_5))] → W p l e { frames := 0, cells := 0, slots := 0, locals := 0 } s m ([.ref x0, .int (nI k_2), .int (nI k_5)] : List Value).toArray below meth c H locs 0 0 (MQ below (skI D (skT cI cJ cC cZ cS) (fun (r : Int32) (u : va_W) => smR (nI k_2) (nI k_5) r ∧ u = [(x0, .inr (11, [.ref (q 0), .ref (q 1), .ref (q 2), .ref (q 3), .ref (q 4), .ref (q 5), .ref (q 6), .ref (q 7), .ref (q 8), .ref (q 9), .ref (q 10), .ref (q 11), .ref (q 12), .ref (q 13), .ref (q 14), .int hc, .ref (q 16), .long dr]))]) A) ([.ref x0, .int (nI k_2), .int (nI k_5)] : List Value).toArray s 0 0 A) (F0 m 26 ls []) := by
            intro n_8
            induction n_8 with
            | zero => intro i H locs ls hm; exact absurd hm (Nat.not_lt_zero _)
            | succ n_8 ih_lp_7 =>
              intro i H locs ls hm hi hno hP hD hS hl
              refine lv_iload_n hx hb dX11_same_26 rfl (lv_at hl 0 rfl) ?_
              refine lv_sipush (v := 1440) hx hb dX11_same_27 (by decide) ?_
              refine lv_icmp_ge (tgt := 53) hx hb dX11_same_30 (by decide) (fun c_9 => ?_) (fun c_9 => ?_)
              · have c_9 : 1440 ≤ i := (nle 1440 i (by omega) (by omega)).mp c_9
                refine lv_iconst (v := (-1)) hx hb dX11_same_53 (by decide) ?_
                exact sk_iret hx hb hr rfl hlocks hK hP hD hS (⟨(sm_none (by omega) (by omega) (by omega) hno), rfl⟩) (Nat.le_of_ble_eq_true rfl) (Nat.le_of_ble_eq_true rfl) dX11_same_54
              · have c_9 : ¬ (1440 ≤ i) := fun h => c_9 ((nle 1440 i (by omega) (by omega)).mpr h)
                refine lv_iload_n hx hb dX11_same_33 rfl (lv_at hl 2 rfl) ?_
                refine lv_iload_n hx hb dX11_same_34 rfl (lv_at hl 3 rfl) ?_
                refine lv_iload_n hx hb dX11_same_35 rfl (lv_at hl 0 rfl) ?_
                refine lv_imul hx hb dX11_same_36 ?_
                refine sk_top (nI (k_5 * i)) (nmul k_5 i) ?_
                refine lv_isub hx hb dX11_same_37 ?_
                refine lv_topi (fun v_10 ev_10 => ?_)
                refine lv_sipush (v := 1440) hx hb dX11_same_38 (by decide) ?_
                refine lv_irem hx hb dX11_same_41 (by decide) ?_
                refine lv_topi (fun v_11 ev_11 => ?_)
                refine lv_if_ne (tgt := 47) hx hb dX11_same_42 (by decide) (fun c_12 => ?_) (fun c_12 => ?_)
                · skip
                  refine lv_iinc (v := nI (i + 1)) (lv' := [(3, .int (nI (i + 1))), (0, .ref x0), (1, .int (nI k_2)), (2, .int (nI k_5))]) hx hb dX11_same_47 hl (k := 0) rfl (ninc i 1 (by decide)) (by decide) rfl (fun ls hl => ?_)
                  refine lv_goto (tgt := 26) hx hb dX11_same_50 (by decide) ?_
                  exact ih_lp_7 (i + 1) _ _ _ (by omega) (by omega) (sno_s hno (fun h => c_12 ((sm_x (by omega) (by omega) (by omega) ev_10 ev_11).mpr h))) hP hD hS (lv_sub hl [0, 1, 2, 3] rfl)
                · skip
                  refine lv_iload_n hx hb dX11_same_45 rfl (lv_at hl 0 rfl) ?_
                  exact sk_iret hx hb hr rfl hlocks hK hP hD hS (⟨(sm_found (by omega) (by omega) (by omega) ((sm_x (by omega) (by omega) (by omega) ev_10 ev_11).mp c_12) hno), rfl⟩) (Nat.le_of_ble_eq_true rfl) (Nat.le_of_ble_eq_true rfl) dX11_same_46
          exact lp_7 (1440 - 0 + 1) 0 _ _ _ (Nat.lt_succ_self _) (by omega) sno_0 hP hD hS (lv_sub hl [0, 1, 2, 3] rfl)
        · have c_6 : ¬ (k_5 ≤ 1439) := fun h => c_6 ((nle k_5 1439 (by omega) (by omega)).mpr h)
          refine lv_iconst (v := (-1)) hx hb dX11_same_22 (by decide) ?_
          exact sk_iret hx hb hr rfl hlocks hK hP hD hS (⟨(Or.inr ⟨out4 (by omega) (by omega), rfl⟩), rfl⟩) (Nat.le_of_ble_eq_true rfl) (Nat.le_of_ble_eq_true rfl) dX11_same_23
