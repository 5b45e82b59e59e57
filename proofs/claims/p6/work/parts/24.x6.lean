/-! when it is the same -/
def sd (p e n : Nat) : Prop := (p + 1440 * e - e * n) % 1440 = 0
def inR (pp ee : Int32) : Prop := 0 ≤ pp.toInt ∧ pp.toInt ≤ 1439 ∧ 0 ≤ ee.toInt ∧ ee.toInt ≤ 1439
def smR (pp ee r : Int32) : Prop := (∃ p e : Nat, p < 1440 ∧ e < 1440 ∧ pp = nI p ∧ ee = nI e ∧ ((∃ n : Nat, n < 1440 ∧ sd p e n ∧ (∀ j, j < n → ¬ sd p e j) ∧ r = nI n) ∨ ((∀ j, j < 1440 → ¬ sd p e j) ∧ r = -1))) ∨ (¬ inR pp ee ∧ r = -1)
theorem sm_i (k : Nat) (h : k < 2147483648) : (nI k).toInt = (k : Int) := nI_toInt h
theorem out1 {pp ee : Int32} (h : pp < 0) : ¬ inR pp ee := fun q => by
  have h1 := Int32.lt_iff_toInt_lt.mp h
  have e0 : (0 : Int32).toInt = 0 := rfl
  rw [e0] at h1
  have := q.1
  omega
theorem out2 {k : Nat} {ee : Int32} (hk : k < 2147483648) (h : 1439 < k) : ¬ inR (nI k) ee := fun q => by
  have h1 := q.2.1
  rw [sm_i k hk] at h1
  omega
theorem out3 {pp ee : Int32} (h : ee < 0) : ¬ inR pp ee := fun q => by
  have h1 := Int32.lt_iff_toInt_lt.mp h
  have e0 : (0 : Int32).toInt = 0 := rfl
  rw [e0] at h1
  have := q.2.2.1
  omega
theorem out4 {k : Nat} {pp : Int32} (hk : k < 2147483648) (h : 1439 < k) : ¬ inR pp (nI k) := fun q => by
  have h1 := q.2.2.2
  rw [sm_i k hk] at h1
  omega
theorem sm_l (pp : Int32) : ((0 : Int64) ≤ pp.toInt64 ∧ pp.toInt64 ≤ 1439) ↔ (0 ≤ pp.toInt ∧ pp.toInt ≤ 1439) := by
  have e0 : (0 : Int64).toInt = 0 := rfl
  have e1 : (1439 : Int64).toInt = 1439 := rfl
  rw [Int64.le_iff_toInt_le, Int64.le_iff_toInt_le, Int32.toInt_toInt64, e0, e1]
theorem outA {pp ee : Int32} (h : ¬ ((0 : Int64) ≤ pp.toInt64 ∧ pp.toInt64 ≤ 1439)) : ¬ inR pp ee := fun q => h ((sm_l pp).mpr ⟨q.1, q.2.1⟩)
theorem outB {pp ee : Int32} (h : ¬ ((0 : Int64) ≤ ee.toInt64 ∧ ee.toInt64 ≤ 1439)) : ¬ inR pp ee := fun q => h ((sm_l ee).mpr ⟨q.2.2.1, q.2.2.2⟩)
theorem sm_rem {x : Int32} (h1 : -10000000 < x.toInt) (h2 : x.toInt < 10000000) : (x - x / 1440 * 1440).toInt = x.toInt.tmod 1440 := by
  have e : (1440 : Int32).toInt = 1440 := rfl
  have hd : (x / 1440).toInt = x.toInt.tdiv 1440 := by
    rw [Jvm.Kit.i32_div (by rw [e]; omega), e]
  have hr := Int.mul_tdiv_add_tmod x.toInt 1440
  have hb1 : x.toInt.tmod 1440 < 1440 := Int.tmod_lt_of_pos _ (by decide)
  have hb2 : -1440 < x.toInt.tmod 1440 := by
    have h3 := Int.tmod_lt_of_pos (-x.toInt) (by decide : (0 : Int) < 1440)
    rw [Int.neg_tmod] at h3
    omega
  have hm : (x / 1440 * 1440).toInt = x.toInt.tdiv 1440 * 1440 := by
    rw [Jvm.Kit.i32_mul (by rw [hd, e]; omega) (by rw [hd, e]; omega), hd, e]
  rw [Jvm.Kit.i32_sub (by rw [hm]; omega) (by rw [hm]; omega), hm]
  omega
theorem sm_le {e i : Nat} (hi : i ≤ 1440) : e * i ≤ 1440 * e := by
  rw [Nat.mul_comm 1440 e]
  exact Nat.mul_le_mul_left e hi
theorem sm_x {p e i : Nat} {va vb : Int32} (hp : p < 1440) (he : e < 1440) (hi : i ≤ 1440) (ea : va = nI p - nI (e * i)) (eb : vb = va - va / 1440 * 1440) : vb = 0 ↔ sd p e i := by
  have h1 := sm_le (e := e) hi
  have h2 : 1440 * e ≤ 1440 * 1439 := Nat.mul_le_mul_left _ (by omega)
  have hx : va.toInt = (p : Int) - ((e * i : Nat) : Int) := by
    rw [ea, Jvm.Kit.i32_sub (by rw [sm_i p (by omega), sm_i (e * i) (by omega)]; omega) (by rw [sm_i p (by omega), sm_i (e * i) (by omega)]; omega), sm_i p (by omega), sm_i (e * i) (by omega)]
  have hr := sm_rem (x := va) (by rw [hx]; omega) (by rw [hx]; omega)
  rw [← eb] at hr
  have h0 : vb = 0 ↔ vb.toInt = 0 := by
    rw [← Int32.toInt_inj]
    exact Iff.rfl
  rw [h0, hr, ← Int.dvd_iff_tmod_eq_zero, hx]
  unfold sd
  generalize e * i = q at *
  omega
theorem sm_0 {p e : Nat} (hp : p < 1440) : p = (p + 1440 * e - e * 0) % 1440 := by
  rw [Nat.mul_zero]; omega
theorem sm_next {p e i v : Nat} (he : e < 1440) (hi : i + 1 ≤ 1440) (hv : v = (p + 1440 * e - e * i) % 1440) : (v + 1440 - e) % 1440 = (p + 1440 * e - e * (i + 1)) % 1440 := by
  have h1 := sm_le (e := e) hi
  rw [Nat.mul_succ] at h1 ⊢
  generalize e * i = q at *
  omega
theorem sm_found {p e n : Nat} (hp : p < 1440) (he : e < 1440) (hn : n < 1440) (h : sd p e n) (hno : ∀ j, j < n → ¬ sd p e j) : smR (nI p) (nI e) (nI n) := Or.inl ⟨p, e, hp, he, rfl, rfl, Or.inl ⟨n, hn, h, hno, rfl⟩⟩
theorem sm_none {p e n : Nat} (hp : p < 1440) (he : e < 1440) (hn : 1440 ≤ n) (hno : ∀ j, j < n → ¬ sd p e j) : smR (nI p) (nI e) (-1) := Or.inl ⟨p, e, hp, he, rfl, rfl, Or.inr ⟨fun j hj => hno j (by omega), rfl⟩⟩
def sno (p e i : Nat) : Prop := ∀ j, j < i → ¬ sd p e j
theorem sno_0 {p e : Nat} : sno p e 0 := fun j h => absurd h (by omega)
theorem sno_s {p e i : Nat} (h : sno p e i) (h1 : ¬ sd p e i) : sno p e (i + 1) := by
  intro j hj
  by_cases q : j = i
  · subst q; exact h1
  · exact h j (by omega)
theorem same_eq {pp ee r q : Int32} (h1 : smR pp ee r) (h2 : smR pp ee q) : r = q := by
  rcases h1 with ⟨p, e, hp, he, rfl, rfl, h1⟩ | ⟨h1, e1⟩
  · rcases h2 with ⟨p', e', hp', he', ep, ee, h2⟩ | ⟨h2, -⟩
    · have ep := (neq p p' (by omega) (by omega)).mp ep
      have ee := (neq e e' (by omega) (by omega)).mp ee
      subst ep; subst ee
      rcases h1 with ⟨n, hn, a1, a2, a3⟩ | ⟨a1, a2⟩
      · rcases h2 with ⟨m, hm, b1, b2, b3⟩ | ⟨b1, b2⟩
        · rcases Nat.lt_trichotomy n m with t | t | t
          · exact absurd a1 (b2 n t)
          · rw [a3, b3, t]
          · exact absurd b1 (a2 m t)
        · exact absurd a1 (b1 n hn)
      · rcases h2 with ⟨m, hm, b1, b2, b3⟩ | ⟨b1, b2⟩
        · exact absurd b1 (a1 m hm)
        · rw [a2, b2]
    · exact absurd ⟨by rw [sm_i p (by omega)]; omega, by rw [sm_i p (by omega)]; omega, by rw [sm_i e (by omega)]; omega, by rw [sm_i e (by omega)]; omega⟩ h2
  · rcases h2 with ⟨p', e', hp', he', rfl, rfl, h2⟩ | ⟨-, e2⟩
    · exact absurd ⟨by rw [sm_i p' (by omega)]; omega, by rw [sm_i p' (by omega)]; omega, by rw [sm_i e' (by omega)]; omega, by rw [sm_i e' (by omega)]; omega⟩ h1
    · rw [e1, e2]
theorem dX11_same_0 : decode cX11_same 0 = .ok (.iload_n 1, 1) := by decide +kernel
theorem dX11_same_1 : decode cX11_same 1 = .ok (.ifCond .lt 21, 3) := by decide +kernel
theorem dX11_same_22 : decode cX11_same 22 = .ok (.iconst (-1), 1) := by decide +kernel
theorem dX11_same_23 : decode cX11_same 23 = .ok (.ireturn, 1) := by decide +kernel
theorem dX11_same_4 : decode cX11_same 4 = .ok (.iload_n 1, 1) := by decide +kernel
theorem dX11_same_5 : decode cX11_same 5 = .ok (.sipush 1439, 3) := by decide +kernel
theorem dX11_same_8 : decode cX11_same 8 = .ok (.if_icmp .gt 14, 3) := by decide +kernel
theorem dX11_same_11 : decode cX11_same 11 = .ok (.iload_n 2, 1) := by decide +kernel
theorem dX11_same_12 : decode cX11_same 12 = .ok (.ifCond .lt 10, 3) := by decide +kernel
theorem dX11_same_15 : decode cX11_same 15 = .ok (.iload_n 2, 1) := by decide +kernel
theorem dX11_same_16 : decode cX11_same 16 = .ok (.sipush 1439, 3) := by decide +kernel
theorem dX11_same_19 : decode cX11_same 19 = .ok (.if_icmp .le 5, 3) := by decide +kernel
theorem dX11_same_24 : decode cX11_same 24 = .ok (.iconst 0, 1) := by decide +kernel
theorem dX11_same_25 : decode cX11_same 25 = .ok (.istore_n 3, 1) := by decide +kernel
theorem dX11_same_26 : decode cX11_same 26 = .ok (.iload_n 3, 1) := by decide +kernel
theorem dX11_same_27 : decode cX11_same 27 = .ok (.sipush 1440, 3) := by decide +kernel
theorem dX11_same_30 : decode cX11_same 30 = .ok (.if_icmp .ge 23, 3) := by decide +kernel
theorem dX11_same_53 : decode cX11_same 53 = .ok (.iconst (-1), 1) := by decide +kernel
theorem dX11_same_54 : decode cX11_same 54 = .ok (.ireturn, 1) := by decide +kernel
theorem dX11_same_33 : decode cX11_same 33 = .ok (.iload_n 1, 1) := by decide +kernel
theorem dX11_same_34 : decode cX11_same 34 = .ok (.iload_n 2, 1) := by decide +kernel
theorem dX11_same_35 : decode cX11_same 35 = .ok (.iload_n 3, 1) := by decide +kernel
theorem dX11_same_36 : decode cX11_same 36 = .ok (.imul, 1) := by decide +kernel
theorem dX11_same_37 : decode cX11_same 37 = .ok (.isub, 1) := by decide +kernel
theorem dX11_same_38 : decode cX11_same 38 = .ok (.sipush 1440, 3) := by decide +kernel
theorem dX11_same_41 : decode cX11_same 41 = .ok (.irem, 1) := by decide +kernel
theorem dX11_same_42 : decode cX11_same 42 = .ok (.ifCond .ne 5, 3) := by decide +kernel
theorem dX11_same_47 : decode cX11_same 47 = .ok (.iinc 3 1, 3) := by decide +kernel
theorem dX11_same_50 : decode cX11_same 50 = .ok (.goto (-24), 3) := by decide +kernel
theorem dX11_same_45 : decode cX11_same 45 = .ok (.iload_n 3, 1) := by decide +kernel
theorem dX11_same_46 : decode cX11_same 46 = .ok (.ireturn, 1) := by decide +kernel
theorem w_4_238 : (Cond.code yX11_same cX11_same 4 (some .int)) ∈ wsL_law := sk_mem (ck_4 _ (List.mem_of_getElem? (i := 238) rfl)) rfl
set_option maxHeartbeats 4000000 in
set_option maxRecDepth 100000 in
theorem c_y_same (l : Launch) (D : va_G) (cI cJ cC cZ cS : ClassId) (x0 : Nat) (q : Nat → Nat) (hc : Int32) (dr : Int64) (pp : Int32) (ee : Int32)  : skM l yX11_same cX11_same 4 (some .int) 0 0 0 0 D (skT cI cJ cC cZ cS) [.ref x0, .int pp, .int ee] [(x0, .inr (11, [.ref (q 0), .ref (q 1), .ref (q 2), .ref (q 3), .ref (q 4), .ref (q 5), .ref (q 6), .ref (q 7), .ref (q 8), .ref (q 9), .ref (q 10), .ref (q 11), .ref (q 12), .ref (q 13), .ref (q 14), .int hc, .ref (q 16), .long dr]))] (skI D (skT cI cJ cC cZ cS) (fun (r : Int32) (u : va_W) => smR pp ee r ∧ u = [(x0, .inr (11, [.ref (q 0), .ref (q 1), .ref (q 2), .ref (q 3), .ref (q 4), .ref (q 5), .ref (q 6), .ref (q 7), .ref (q 8), .ref (q 9), .ref (q 10), .ref (q 11), .ref (q 12), .ref (q 13), .ref (q 14), .int hc, .ref (q 16), .long dr]))])) := by
  refine skM_of (by decide +kernel) (Nat.le_of_ble_eq_true rfl) ?_
  intro p e s m below meth c A ls E hP hD hl
  obtain ⟨hx, hb, hr, hml, hlocks, hin, hown, hts, hK, hA⟩ := E
  have hown : s.vm.findClass RX11 = some m.cls := hown
  have hS : va_S A s.heap s.heap [] := va_S.rf
  have hl : lv_has ls 4 [(0, .ref x0), (1, .int pp), (2, .int ee)] := hl
  refine lv_iload_n hx hb dX11_same_0 rfl (lv_at hl 1 rfl) ?_
  refine lv_if_lt (tgt := 22) hx hb dX11_same_1 (by decide) (fun c_1 => ?_) (fun c_1 => ?_)
  · skip
    refine lv_iconst (v := (-1)) hx hb dX11_same_22 (by decide) ?_
    exact sk_iret hx hb hr rfl hlocks hK hP hD hS (⟨(Or.inr ⟨out1 c_1, rfl⟩), rfl⟩) (Nat.le_of_ble_eq_true rfl) (Nat.le_of_ble_eq_true rfl) dX11_same_23
  · obtain ⟨k_2, hk_2, rfl⟩ := nof pp c_1
    refine lv_iload_n hx hb dX11_same_4 rfl (lv_at hl 1 rfl) ?_
    refine lv_sipush (v := 1439) hx hb dX11_same_5 (by decide) ?_
    refine lv_icmp_gt (tgt := 22) hx hb dX11_same_8 (by decide) (fun c_3 => ?_) (fun c_3 => ?_)
    · have c_3 : 1439 < k_2 := (nlt 1439 k_2 (by omega) (by omega)).mp c_3
      refine lv_iconst (v := (-1)) hx hb dX11_same_22 (by decide) ?_
      exact sk_iret hx hb hr rfl hlocks hK hP hD hS (⟨(Or.inr ⟨out2 (by omega) (by omega), rfl⟩), rfl⟩) (Nat.le_of_ble_eq_true rfl) (Nat.le_of_ble_eq_true rfl) dX11_same_23
    · have c_3 : ¬ (1439 < k_2) := fun h => c_3 ((nlt 1439 k_2 (by omega) (by omega)).mpr h)
      refine lv_iload_n hx hb dX11_same_11 rfl (lv_at hl 2 rfl) ?_
      refine lv_if_lt (tgt := 22) hx hb dX11_same_12 (by decide) (fun c_4 => ?_) (fun c_4 => ?_)
      · skip
        refine lv_iconst (v := (-1)) hx hb dX11_same_22 (by decide) ?_
        exact sk_iret hx hb hr rfl hlocks hK hP hD hS (⟨(Or.inr ⟨out3 c_4, rfl⟩), rfl⟩) (Nat.le_of_ble_eq_true rfl) (Nat.le_of_ble_eq_true rfl) dX11_same_23
      · obtain ⟨k_5, hk_5, rfl⟩ := nof ee c_4
        refine lv_iload_n hx hb dX11_same_15 rfl (lv_at hl 2 rfl) ?_
        refine lv_sipush (v := 1439) hx hb dX11_same_16 (by decide) ?_
        refine lv_icmp_le (tgt := 24) hx hb dX11_same_19 (by decide) (fun c_6 => ?_) (fun c_6 => ?_)
        · have c_6 : k_5 ≤ 1439 := (nle k_5 1439 (by omega) (by omega)).mp c_6
          refine lv_iconst (v := 0) hx hb dX11_same_24 (by decide) ?_
          refine lv_istore_n (lv' := [(3, .int 0), (0, .ref x0), (1, .int (nI k_2)), (2, .int (nI k_5))]) hx hb dX11_same_25 rfl hl (by decide) rfl (fun ls hl => ?_)
          have lp_7 : ∀ (n_8 : Nat) (i : Nat) (H : Heap) (locs : List Loc) (ls : Array Slot), 1440 - i < n_8 → (i ≤ 1440) → (sno k_2 k_5 i) → va_P D vwCl [(x0, .inr (11, [.ref (q 0), .ref (q 1), .ref (q 2), .ref (q 3), .ref (q 4), .ref (q 5), .ref (q 6), .ref (q 7), .ref (q 8), .ref (q 9), .ref (q 10), .ref (q 11), .ref (q 12), .ref (q 13), .ref (q 14), .int hc, .ref (q 16), .long dr]))] H → va_D A [(x0, .inr (11, [.ref (q 0), .ref (q 1), .ref (q 2), .ref (q 3), .ref (q 4), .ref (q 5), .ref (q 6), .ref (q 7), .ref (q 8), .ref (q 9), .ref (q 10), .ref (q 11), .ref (q 12), .ref (q 13), .ref (q 14), .int hc, .ref (q 16), .long dr]))] → va_S A s.heap H locs → lv_has ls 4 [(3, .int (nI i)), (0, .ref x0), (1, .int (nI k_2)), (2, .int (nI k_5))] → W p l e { frames := 0, cells := 0, slots := 0, locals := 0 } s m ([.ref x0, .int (nI k_2), .int (nI k_5)] : List Value).toArray below meth c H locs 0 0 (MQ below (skI D (skT cI cJ cC cZ cS) (fun (r : Int32) (u : va_W) => smR (nI k_2) (nI k_5) r ∧ u = [(x0, .inr (11, [.ref (q 0), .ref (q 1), .ref (q 2), .ref (q 3), .ref (q 4), .ref (q 5), .ref (q 6), .ref (q 7), .ref (q 8), .ref (q 9), .ref (q 10), .ref (q 11), .ref (q 12), .ref (q 13), .ref (q 14), .int hc, .ref (q 16), .long dr]))]) A) ([.ref x0, .int (nI k_2), .int (nI k_5)] : List Value).toArray s 0 0 A) (F0 m 26 ls []) := by
            intro n_8
            induction n_8 with
            | zero => intro i H locs ls hm; exact absurd hm (Nat.not_lt_zero _)
            | succ n_8 ih_lp_7 =>
              intro i H locs ls hm hi hno hP hD hS hl
              refine lv_iload_n hx hb dX11_same_26 rfl (lv_at hl 0 rfl) ?_
              refine lv_sipush (v := 1440) hx hb dX11_same_27 (by decide) ?_
              refine lv_icmp_ge (tgt := 53) hx hb dX11_same_30 (by decide) (fun c_9 => ?_) (fun c_9 => ?_)
              · have c_9 : 1440 ≤ i := (nle 1440 i (by omega) (by omega)).mp c_9
                refine lv_iconst (v := (-1)) hx hb dX11_same_53 (by decide) ?_
                exact sk_iret hx hb hr rfl hlocks hK hP hD hS (⟨(sm_none (by omega) (by omega) (by omega) hno), rfl⟩) (Nat.le_of_ble_eq_true rfl) (Nat.le_of_ble_eq_true rfl) dX11_same_54
              · have c_9 : ¬ (1440 ≤ i) := fun h => c_9 ((nle 1440 i (by omega) (by omega)).mpr h)
                refine lv_iload_n hx hb dX11_same_33 rfl (lv_at hl 2 rfl) ?_
                refine lv_iload_n hx hb dX11_same_34 rfl (lv_at hl 3 rfl) ?_
                refine lv_iload_n hx hb dX11_same_35 rfl (lv_at hl 0 rfl) ?_
                refine lv_imul hx hb dX11_same_36 ?_
                refine sk_top (nI (k_5 * i)) (nmul k_5 i) ?_
                refine lv_isub hx hb dX11_same_37 ?_
                refine lv_topi (fun v_10 ev_10 => ?_)
                refine lv_sipush (v := 1440) hx hb dX11_same_38 (by decide) ?_
                refine lv_irem hx hb dX11_same_41 (by decide) ?_
                refine lv_topi (fun v_11 ev_11 => ?_)
                refine lv_if_ne (tgt := 47) hx hb dX11_same_42 (by decide) (fun c_12 => ?_) (fun c_12 => ?_)
                · skip
                  refine lv_iinc (v := nI (i + 1)) (lv' := [(3, .int (nI (i + 1))), (0, .ref x0), (1, .int (nI k_2)), (2, .int (nI k_5))]) hx hb dX11_same_47 hl (k := 0) rfl (ninc i 1 (by decide)) (by decide) rfl (fun ls hl => ?_)
                  refine lv_goto (tgt := 26) hx hb dX11_same_50 (by decide) ?_
                  exact ih_lp_7 (i + 1) _ _ _ (by omega) (by omega) (sno_s hno (fun h => c_12 ((sm_x (by omega) (by omega) (by omega) ev_10 ev_11).mpr h))) hP hD hS (lv_sub hl [0, 1, 2, 3] rfl)
                · skip
                  refine lv_iload_n hx hb dX11_same_45 rfl (lv_at hl 0 rfl) ?_
                  exact sk_iret hx hb hr rfl hlocks hK hP hD hS (⟨(sm_found (by omega) (by omega) (by omega) ((sm_x (by omega) (by omega) (by omega) ev_10 ev_11).mp c_12) hno), rfl⟩) (Nat.le_of_ble_eq_true rfl) (Nat.le_of_ble_eq_true rfl) dX11_same_46
          exact lp_7 (1440 - 0 + 1) 0 _ _ _ (Nat.lt_succ_self _) (by omega) sno_0 hP hD hS (lv_sub hl [0, 1, 2, 3] rfl)
        · have c_6 : ¬ (k_5 ≤ 1439) := fun h => c_6 ((nle k_5 1439 (by omega) (by omega)).mpr h)
          refine lv_iconst (v := (-1)) hx hb dX11_same_22 (by decide) ?_
          exact sk_iret hx hb hr rfl hlocks hK hP hD hS (⟨(Or.inr ⟨out4 (by omega) (by omega), rfl⟩), rfl⟩) (Nat.le_of_ble_eq_true rfl) (Nat.le_of_ble_eq_true rfl) dX11_same_23
set_option maxHeartbeats 4000000 in
set_option maxRecDepth 100000 in
theorem c_Tape_leftN (l : Launch) (D : va_G) (cI cJ cC cZ cS : ClassId) (h0 : Nat) (k1 : Nat) (tl : Nat) (tb : Nat → Nat) (k : Nat) (htl : tl ≤ 1600) (htb : ∀ j, tb j ≤ 255) (hk : k < 1600) : skM l yX10_left cX10_left 2 (some .int) 0 0 0 0 D (skT cI cJ cC cZ cS) [.ref h0, .int (nI k)] [(h0, .inr (10, [.ref k1, .int (nI tl)])), (k1, .inl (cI, 1600, .inl (fun j => nI (tb j))))] (skI D (skT cI cJ cC cZ cS) (fun (r : Int32) (u : va_W) => tb k ≤ 255 ∧ r = nI (tb k) ∧ u = [(h0, .inr (10, [.ref k1, .int (nI tl)])), (k1, .inl (cI, 1600, .inl (fun j => nI (tb j))))])) := by
  refine skM_of (by decide +kernel) (Nat.le_of_ble_eq_true rfl) ?_
  intro p e s m below meth c A ls E hP hD hl
  obtain ⟨hx, hb, hr, hml, hlocks, hin, hown, hts, hK, hA⟩ := E
  have hown : s.vm.findClass RX10 = some m.cls := hown
  have hS : va_S A s.heap s.heap [] := va_S.rf
  have hl : lv_has ls 2 [(0, .ref h0), (1, .int (nI k))] := hl
  refine lv_iload_n hx hb dX10_left_0 rfl (lv_at hl 1 rfl) ?_
  refine lv_if_lt (tgt := 22) hx hb dX10_left_1 (by decide) (fun c => absurd c (nI_pos (by omega))) (fun c_1 => ?_)
  refine lv_iload_n hx hb dX10_left_4 rfl (lv_at hl 1 rfl) ?_
  refine lv_aload_n hx hb dX10_left_5 rfl (lv_at hl 0 rfl) ?_
  refine sk_get (v := .ref k1) (C := RX10) (T := TX10) (N := 2) hx hb hts inlX10 hown hK hP 0 rfl rfl 0 (by decide) w_1_39 rfl dX10_left_6 ?_
  refine va_alen (v := 1600) hx hb hK.1 hP 1 0 rfl rfl rfl dX10_left_9 ?_
  refine lv_icmp_ge (tgt := 22) hx hb dX10_left_10 (by decide) (fun c => absurd c (fun h9 => absurd ((nle 1600 k (by omega) (by omega)).mp h9) (by omega))) (fun c_2 => ?_)
  refine lv_aload_n hx hb dX10_left_13 rfl (lv_at hl 0 rfl) ?_
  refine sk_get (v := .ref k1) (C := RX10) (T := TX10) (N := 2) hx hb hts inlX10 hown hK hP 0 rfl rfl 0 (by decide) w_1_39 rfl dX10_left_14 ?_
  refine lv_iload_n hx hb dX10_left_17 rfl (lv_at hl 1 rfl) ?_
  refine va_iald hx hb hK.1 hP 1 0 rfl rfl (vin k 1600 (by omega) (by omega)) dX10_left_18 ?_
  refine sk_top (nI (tb k)) (nrd tb k (by omega)) ?_
  have hb_3 := htb k
  refine lv_goto (tgt := 23) hx hb dX10_left_19 (by decide) ?_
  exact sk_iret hx hb hr rfl hlocks hK hP hD hS (⟨htb k, rfl, rfl⟩) (Nat.le_of_ble_eq_true rfl) (Nat.le_of_ble_eq_true rfl) dX10_left_23
/-! what an image is -/
def imgK (tb : Nat → Nat) (e : Nat) : Prop := ∀ k, 2 ≤ k → k < e → tb k ≤ 9 ∧ (2 < k → k % 3 = 2 → tb k ≤ 1)
def imgO (tb : Nat → Nat) (n dy : Nat) : Prop := n = 3 * dy + 4 ∧ tb (3 * dy + 3) = chkN tb (3 * dy + 3) ∧ tb 0 * 256 + tb 1 ≤ 999 ∧ imgK tb (3 * dy + 3)
theorem imgK_0 {tb : Nat → Nat} (h : tb 2 < 10) : imgK tb 3 := fun k h1 h2 => by
  obtain rfl : k = 2 := by omega
  exact ⟨by omega, fun q => absurd q (by omega)⟩
theorem imgK_s {tb : Nat → Nat} {i : Nat} (h : imgK tb i) (h3 : i % 3 = 0) (h1 : tb i < 10) (h2 : tb (i + 1) < 10) (h4 : tb (i + 2) ≤ 1) : imgK tb (i + 3) := fun k q1 q2 => by
  by_cases e : k < i
  · exact h k q1 e
  · by_cases e0 : k = i
    · subst e0; exact ⟨by omega, fun _ q => absurd q (by omega)⟩
    · by_cases e1 : k = i + 1
      · subst e1; exact ⟨by omega, fun _ q => absurd q (by omega)⟩
      · obtain rfl : k = i + 2 := by omega
        exact ⟨by omega, fun _ _ => h4⟩
theorem dX11_tellsImage_0 : decode cX11_tellsImage 0 = .ok (.iconst 3, 1) := by decide +kernel
theorem dX11_tellsImage_1 : decode cX11_tellsImage 1 = .ok (.aload_n 0, 1) := by decide +kernel
theorem dX11_tellsImage_2 : decode cX11_tellsImage 2 = .ok (.getfield 59, 3) := by decide +kernel
theorem dX11_tellsImage_5 : decode cX11_tellsImage 5 = .ok (.getfield 144, 3) := by decide +kernel
theorem dX11_tellsImage_8 : decode cX11_tellsImage 8 = .ok (.imul, 1) := by decide +kernel
theorem dX11_tellsImage_9 : decode cX11_tellsImage 9 = .ok (.iconst 3, 1) := by decide +kernel
theorem dX11_tellsImage_10 : decode cX11_tellsImage 10 = .ok (.iadd, 1) := by decide +kernel
theorem dX11_tellsImage_11 : decode cX11_tellsImage 11 = .ok (.istore_n 1, 1) := by decide +kernel
theorem dX11_tellsImage_12 : decode cX11_tellsImage 12 = .ok (.aload_n 0, 1) := by decide +kernel
theorem dX11_tellsImage_13 : decode cX11_tellsImage 13 = .ok (.getfield 12, 3) := by decide +kernel
theorem dX11_tellsImage_16 : decode cX11_tellsImage 16 = .ok (.getfield 110, 3) := by decide +kernel
theorem dX11_tellsImage_19 : decode cX11_tellsImage 19 = .ok (.iload_n 1, 1) := by decide +kernel
theorem dX11_tellsImage_20 : decode cX11_tellsImage 20 = .ok (.iconst 1, 1) := by decide +kernel
theorem dX11_tellsImage_21 : decode cX11_tellsImage 21 = .ok (.iadd, 1) := by decide +kernel
theorem dX11_tellsImage_22 : decode cX11_tellsImage 22 = .ok (.if_icmp .ne 22, 3) := by decide +kernel
theorem dX11_tellsImage_44 : decode cX11_tellsImage 44 = .ok (.iconst 0, 1) := by decide +kernel
theorem dX11_tellsImage_45 : decode cX11_tellsImage 45 = .ok (.ireturn, 1) := by decide +kernel
theorem dX11_tellsImage_25 : decode cX11_tellsImage 25 = .ok (.aload_n 0, 1) := by decide +kernel
theorem dX11_tellsImage_26 : decode cX11_tellsImage 26 = .ok (.getfield 12, 3) := by decide +kernel
theorem dX11_tellsImage_29 : decode cX11_tellsImage 29 = .ok (.iload_n 1, 1) := by decide +kernel
theorem dX11_tellsImage_30 : decode cX11_tellsImage 30 = .ok (.invokevirtual 268, 3) := by decide +kernel
theorem dX11_tellsImage_33 : decode cX11_tellsImage 33 = .ok (.aload_n 0, 1) := by decide +kernel
theorem dX11_tellsImage_34 : decode cX11_tellsImage 34 = .ok (.getfield 12, 3) := by decide +kernel
theorem dX11_tellsImage_37 : decode cX11_tellsImage 37 = .ok (.iload_n 1, 1) := by decide +kernel
theorem dX11_tellsImage_38 : decode cX11_tellsImage 38 = .ok (.invokevirtual 313, 3) := by decide +kernel
theorem dX11_tellsImage_41 : decode cX11_tellsImage 41 = .ok (.if_icmp .eq 5, 3) := by decide +kernel
theorem dX11_tellsImage_46 : decode cX11_tellsImage 46 = .ok (.aload_n 0, 1) := by decide +kernel
theorem dX11_tellsImage_47 : decode cX11_tellsImage 47 = .ok (.getfield 12, 3) := by decide +kernel
theorem dX11_tellsImage_50 : decode cX11_tellsImage 50 = .ok (.iconst 0, 1) := by decide +kernel
theorem dX11_tellsImage_51 : decode cX11_tellsImage 51 = .ok (.invokevirtual 268, 3) := by decide +kernel
theorem dX11_tellsImage_54 : decode cX11_tellsImage 54 = .ok (.sipush 256, 3) := by decide +kernel
theorem dX11_tellsImage_57 : decode cX11_tellsImage 57 = .ok (.imul, 1) := by decide +kernel
theorem dX11_tellsImage_58 : decode cX11_tellsImage 58 = .ok (.aload_n 0, 1) := by decide +kernel
theorem dX11_tellsImage_59 : decode cX11_tellsImage 59 = .ok (.getfield 12, 3) := by decide +kernel
theorem dX11_tellsImage_62 : decode cX11_tellsImage 62 = .ok (.iconst 1, 1) := by decide +kernel
theorem dX11_tellsImage_63 : decode cX11_tellsImage 63 = .ok (.invokevirtual 268, 3) := by decide +kernel
theorem dX11_tellsImage_66 : decode cX11_tellsImage 66 = .ok (.iadd, 1) := by decide +kernel
theorem dX11_tellsImage_67 : decode cX11_tellsImage 67 = .ok (.sipush 999, 3) := by decide +kernel
theorem dX11_tellsImage_70 : decode cX11_tellsImage 70 = .ok (.if_icmp .gt 16, 3) := by decide +kernel
theorem dX11_tellsImage_86 : decode cX11_tellsImage 86 = .ok (.iconst 0, 1) := by decide +kernel
theorem dX11_tellsImage_87 : decode cX11_tellsImage 87 = .ok (.ireturn, 1) := by decide +kernel
theorem dX11_tellsImage_73 : decode cX11_tellsImage 73 = .ok (.aload_n 0, 1) := by decide +kernel
theorem dX11_tellsImage_74 : decode cX11_tellsImage 74 = .ok (.getfield 12, 3) := by decide +kernel
theorem dX11_tellsImage_77 : decode cX11_tellsImage 77 = .ok (.iconst 2, 1) := by decide +kernel
theorem dX11_tellsImage_78 : decode cX11_tellsImage 78 = .ok (.invokevirtual 268, 3) := by decide +kernel
theorem dX11_tellsImage_81 : decode cX11_tellsImage 81 = .ok (.bipush 10, 2) := by decide +kernel
theorem dX11_tellsImage_83 : decode cX11_tellsImage 83 = .ok (.if_icmp .lt 5, 3) := by decide +kernel
theorem dX11_tellsImage_88 : decode cX11_tellsImage 88 = .ok (.iconst 3, 1) := by decide +kernel
theorem dX11_tellsImage_89 : decode cX11_tellsImage 89 = .ok (.istore_n 2, 1) := by decide +kernel
theorem dX11_tellsImage_90 : decode cX11_tellsImage 90 = .ok (.iload_n 2, 1) := by decide +kernel
theorem dX11_tellsImage_91 : decode cX11_tellsImage 91 = .ok (.iload_n 1, 1) := by decide +kernel
theorem dX11_tellsImage_92 : decode cX11_tellsImage 92 = .ok (.if_icmp .ge 53, 3) := by decide +kernel
theorem dX11_tellsImage_145 : decode cX11_tellsImage 145 = .ok (.iconst 1, 1) := by decide +kernel
theorem dX11_tellsImage_146 : decode cX11_tellsImage 146 = .ok (.ireturn, 1) := by decide +kernel
theorem dX11_tellsImage_95 : decode cX11_tellsImage 95 = .ok (.aload_n 0, 1) := by decide +kernel
theorem dX11_tellsImage_96 : decode cX11_tellsImage 96 = .ok (.getfield 12, 3) := by decide +kernel
theorem dX11_tellsImage_99 : decode cX11_tellsImage 99 = .ok (.iload_n 2, 1) := by decide +kernel
theorem dX11_tellsImage_100 : decode cX11_tellsImage 100 = .ok (.invokevirtual 268, 3) := by decide +kernel
theorem dX11_tellsImage_103 : decode cX11_tellsImage 103 = .ok (.bipush 10, 2) := by decide +kernel
theorem dX11_tellsImage_105 : decode cX11_tellsImage 105 = .ok (.if_icmp .ge 32, 3) := by decide +kernel
theorem dX11_tellsImage_137 : decode cX11_tellsImage 137 = .ok (.iconst 0, 1) := by decide +kernel
theorem dX11_tellsImage_138 : decode cX11_tellsImage 138 = .ok (.ireturn, 1) := by decide +kernel
theorem dX11_tellsImage_108 : decode cX11_tellsImage 108 = .ok (.aload_n 0, 1) := by decide +kernel
theorem dX11_tellsImage_109 : decode cX11_tellsImage 109 = .ok (.getfield 12, 3) := by decide +kernel
theorem dX11_tellsImage_112 : decode cX11_tellsImage 112 = .ok (.iload_n 2, 1) := by decide +kernel
theorem dX11_tellsImage_113 : decode cX11_tellsImage 113 = .ok (.iconst 1, 1) := by decide +kernel
theorem dX11_tellsImage_114 : decode cX11_tellsImage 114 = .ok (.iadd, 1) := by decide +kernel
theorem dX11_tellsImage_115 : decode cX11_tellsImage 115 = .ok (.invokevirtual 268, 3) := by decide +kernel
theorem dX11_tellsImage_118 : decode cX11_tellsImage 118 = .ok (.bipush 10, 2) := by decide +kernel
theorem dX11_tellsImage_120 : decode cX11_tellsImage 120 = .ok (.if_icmp .ge 17, 3) := by decide +kernel
theorem dX11_tellsImage_123 : decode cX11_tellsImage 123 = .ok (.aload_n 0, 1) := by decide +kernel
theorem dX11_tellsImage_124 : decode cX11_tellsImage 124 = .ok (.getfield 12, 3) := by decide +kernel
theorem dX11_tellsImage_127 : decode cX11_tellsImage 127 = .ok (.iload_n 2, 1) := by decide +kernel
theorem dX11_tellsImage_128 : decode cX11_tellsImage 128 = .ok (.iconst 2, 1) := by decide +kernel
theorem dX11_tellsImage_129 : decode cX11_tellsImage 129 = .ok (.iadd, 1) := by decide +kernel
theorem dX11_tellsImage_130 : decode cX11_tellsImage 130 = .ok (.invokevirtual 268, 3) := by decide +kernel
theorem dX11_tellsImage_133 : decode cX11_tellsImage 133 = .ok (.iconst 1, 1) := by decide +kernel
theorem dX11_tellsImage_134 : decode cX11_tellsImage 134 = .ok (.if_icmp .le 5, 3) := by decide +kernel
theorem dX11_tellsImage_139 : decode cX11_tellsImage 139 = .ok (.iinc 2 3, 3) := by decide +kernel
theorem dX11_tellsImage_142 : decode cX11_tellsImage 142 = .ok (.goto (-52), 3) := by decide +kernel
theorem w_2_123 : (Cond.fieldLink RX11 12 "SameKeeper" "tape" "LSameKeeper$Tape;") ∈ wsL_law := sk_mem (ck_2 _ (List.mem_of_getElem? (i := 123) rfl)) rfl
theorem w_1_42 : (Cond.fieldLink RX11 110 "SameKeeper$Tape" "length" "I") ∈ wsL_law := sk_mem (ck_1 _ (List.mem_of_getElem? (i := 42) rfl)) rfl
theorem w_4_214 : (Cond.methodLink RX11 268 yX10_left) ∈ wsL_law := sk_mem (ck_4 _ (List.mem_of_getElem? (i := 214) rfl)) rfl
theorem w_5_128 : (Cond.methodLink RX11 313 yX10_checkOf) ∈ wsL_law := sk_mem (ck_5 _ (List.mem_of_getElem? (i := 128) rfl)) rfl
theorem w_5_129 : (Cond.instanceMethod yX10_checkOf) ∈ wsL_law := sk_mem (ck_5 _ (List.mem_of_getElem? (i := 129) rfl)) rfl
theorem w_5_130 : (Cond.selects RX10 yX10_checkOf yX10_checkOf) ∈ wsL_law := sk_mem (ck_5 _ (List.mem_of_getElem? (i := 130) rfl)) rfl
theorem w_5_144 : (Cond.code yX11_tellsImage cX11_tellsImage 3 (some .boolean)) ∈ wsL_law := sk_mem (ck_5 _ (List.mem_of_getElem? (i := 144) rfl)) rfl
set_option maxHeartbeats 4000000 in
set_option maxRecDepth 100000 in
theorem c_x_tellsImage (l : Launch) (D : va_G) (cI cJ cC cZ cS : ClassId) (x0 : Nat) (q : Nat → Nat) (hc : Int32) (dr : Int64) (tl : Nat) (tb : Nat → Nat) (dy : Nat) (mo : Nat) (wk : Int32) (mu : Int32) (ke : Int32) (fb : Nat → Int32) (fw : Nat → Int32) (htl : tl ≤ 1600) (htb : ∀ j, tb j ≤ 255) (hdy : dy ≤ 9) (hmo : mo ≤ 9) : skM l yX11_tellsImage cX11_tellsImage 3 (some .boolean) 2 44 0 0 D (skT cI cJ cC cZ cS) [.ref x0] [(x0, .inr (11, [.ref (q 0), .ref (q 1), .ref (q 2), .ref (q 3), .ref (q 4), .ref (q 5), .ref (q 6), .ref (q 7), .ref (q 8), .ref (q 9), .ref (q 10), .ref (q 11), .ref (q 12), .ref (q 13), .ref (q 14), .int hc, .ref (q 16), .long dr])), (q 0, .inr (10, [.ref (q 20), .int (nI tl)])), (q 20, .inl (cI, 1600, .inl (fun j => nI (tb j)))), (q 7, .inr (7, [.ref (q 33), .ref (q 34), .int (nI dy), .int wk, .int (nI mo), .int mu, .int ke]))] (skI D (skT cI cJ cC cZ cS) (fun (r : Int32) (u : va_W) => ∃ (b : Nat), b ≤ 1 ∧ (b = 1 → tb 2 ≤ 9) ∧ ((b = 0 ∧ ¬ imgO tb tl dy) ∨ (b = 1 ∧ imgO tb tl dy)) ∧ r = nI b ∧ u = [(x0, .inr (11, [.ref (q 0), .ref (q 1), .ref (q 2), .ref (q 3), .ref (q 4), .ref (q 5), .ref (q 6), .ref (q 7), .ref (q 8), .ref (q 9), .ref (q 10), .ref (q 11), .ref (q 12), .ref (q 13), .ref (q 14), .int hc, .ref (q 16), .long dr])), (q 0, .inr (10, [.ref (q 20), .int (nI tl)])), (q 20, .inl (cI, 1600, .inl (fun j => nI (tb j)))), (q 7, .inr (7, [.ref (q 33), .ref (q 34), .int (nI dy), .int wk, .int (nI mo), .int mu, .int ke]))])) := by
  refine skM_of (by decide +kernel) (Nat.le_of_ble_eq_true rfl) ?_
  intro p e s m below meth c A ls E hP hD hl
  obtain ⟨hx, hb, hr, hml, hlocks, hin, hown, hts, hK, hA⟩ := E
  have hown : s.vm.findClass RX11 = some m.cls := hown
  have hS : va_S A s.heap s.heap [] := va_S.rf
  have hl : lv_has ls 3 [(0, .ref x0)] := hl
  refine lv_iconst (v := 3) hx hb dX11_tellsImage_0 (by decide) ?_
  refine lv_aload_n hx hb dX11_tellsImage_1 rfl (lv_at hl 0 rfl) ?_
  refine sk_get (v := .ref (q 7)) (C := RX11) (T := TX11) (N := 18) hx hb hts inlX11 hown hK hP 0 rfl rfl 7 (by decide) w_2_130 rfl dX11_tellsImage_2 ?_
  refine sk_get (v := .int (nI dy)) (C := RX7) (T := TX7) (N := 7) hx hb hts inlX7 hown hK hP 3 rfl rfl 2 (by decide) w_2_1 rfl dX11_tellsImage_5 ?_
  refine lv_imul hx hb dX11_tellsImage_8 ?_
  refine sk_top (nI (3 * dy)) (nmul 3 dy) ?_
  refine lv_iconst (v := 3) hx hb dX11_tellsImage_9 (by decide) ?_
  refine lv_iadd hx hb dX11_tellsImage_10 ?_
  refine sk_top (nI (3 * dy + 3)) (nI_add (3 * dy) 3) ?_
  refine lv_istore_n (lv' := [(1, .int (nI (3 * dy + 3))), (0, .ref x0)]) hx hb dX11_tellsImage_11 rfl hl (by decide) rfl (fun ls hl => ?_)
  refine lv_aload_n hx hb dX11_tellsImage_12 rfl (lv_at hl 1 rfl) ?_
  refine sk_get (v := .ref (q 0)) (C := RX11) (T := TX11) (N := 18) hx hb hts inlX11 hown hK hP 0 rfl rfl 0 (by decide) w_2_123 rfl dX11_tellsImage_13 ?_
  refine sk_get (v := .int (nI tl)) (C := RX10) (T := TX10) (N := 2) hx hb hts inlX10 hown hK hP 1 rfl rfl 1 (by decide) w_1_42 rfl dX11_tellsImage_16 ?_
  refine lv_iload_n hx hb dX11_tellsImage_19 rfl (lv_at hl 0 rfl) ?_
  refine lv_iconst (v := 1) hx hb dX11_tellsImage_20 (by decide) ?_
  refine lv_iadd hx hb dX11_tellsImage_21 ?_
  refine sk_top (nI (3 * dy + 3 + 1)) (nI_add (3 * dy + 3) 1) ?_
  refine lv_icmp_ne (tgt := 44) hx hb dX11_tellsImage_22 (by decide) (fun c_1 => ?_) (fun c_1 => ?_)
  · have c_1 : ¬ (tl = 3 * dy + 3 + 1) := fun h => c_1 ((neq tl (3 * dy + 3 + 1) (by omega) (by omega)).mpr h)
    refine lv_iconst (v := 0) hx hb dX11_tellsImage_44 (by decide) ?_
    exact sk_iret hx hb hr rfl hlocks hK hP hD hS (⟨0, by omega, by omega, (Or.inl ⟨rfl, fun hq => absurd hq.1 (by omega)⟩), rfl, rfl⟩) (Nat.le_of_ble_eq_true rfl) (Nat.le_of_ble_eq_true rfl) dX11_tellsImage_45
  · have c_1 : tl = 3 * dy + 3 + 1 := (neq tl (3 * dy + 3 + 1) (by omega) (by omega)).mp c_1
    refine lv_aload_n hx hb dX11_tellsImage_25 rfl (lv_at hl 1 rfl) ?_
    refine sk_get (v := .ref (q 0)) (C := RX11) (T := TX11) (N := 18) hx hb hts inlX11 hown hK hP 0 rfl rfl 0 (by decide) w_2_123 rfl dX11_tellsImage_26 ?_
    refine lv_iload_n hx hb dX11_tellsImage_29 rfl (lv_at hl 0 rfl) ?_
    refine sk_Vi (q0 := 0) (n := 1) (rest := []) (wr := [(x0, .inr (11, [.ref (q 0), .ref (q 1), .ref (q 2), .ref (q 3), .ref (q 4), .ref (q 5), .ref (q 6), .ref (q 7), .ref (q 8), .ref (q 9), .ref (q 10), .ref (q 11), .ref (q 12), .ref (q 13), .ref (q 14), .int hc, .ref (q 16), .long dr])), (q 7, .inr (7, [.ref (q 33), .ref (q 34), .int (nI dy), .int wk, .int (nI mo), .int mu, .int ke]))]) ⟨hx, hb, hml, hown, hts⟩ hl.1 (c_eTape_left_1600 l D cI cJ cC cZ cS (q 0) (q 20) tl tb (3 * dy + 3) (by omega) htb (by omega)) w_4_214 w_4_215 w_4_216 w_1_2 w_4_217 (by decide +kernel) ⟨⟨(Nat.le_of_ble_eq_true rfl), (Nat.le_of_ble_eq_true rfl)⟩, (Nat.le_of_ble_eq_true rfl), (Nat.le_of_ble_eq_true rfl)⟩ hK hP hD hS hA [1, 2] [0, 3] rfl rfl (by decide +kernel) (by decide +kernel) (by decide +kernel) rfl rfl rfl rfl (Nat.le_of_ble_eq_true rfl) dX11_tellsImage_30 (fun r_2 u H locs hw hP hD hS => ?_)
    obtain ⟨hv_3, rfl, rfl⟩ := hw
    have hP : va_P D vwCl [(x0, .inr (11, [.ref (q 0), .ref (q 1), .ref (q 2), .ref (q 3), .ref (q 4), .ref (q 5), .ref (q 6), .ref (q 7), .ref (q 8), .ref (q 9), .ref (q 10), .ref (q 11), .ref (q 12), .ref (q 13), .ref (q 14), .int hc, .ref (q 16), .long dr])), (q 7, .inr (7, [.ref (q 33), .ref (q 34), .int (nI dy), .int wk, .int (nI mo), .int mu, .int ke])), (q 0, .inr (10, [.ref (q 20), .int (nI tl)])), (q 20, .inl (cI, 1600, .inl (fun j => nI (tb j))))] H := hP
    have hD : va_D A [(x0, .inr (11, [.ref (q 0), .ref (q 1), .ref (q 2), .ref (q 3), .ref (q 4), .ref (q 5), .ref (q 6), .ref (q 7), .ref (q 8), .ref (q 9), .ref (q 10), .ref (q 11), .ref (q 12), .ref (q 13), .ref (q 14), .int hc, .ref (q 16), .long dr])), (q 7, .inr (7, [.ref (q 33), .ref (q 34), .int (nI dy), .int wk, .int (nI mo), .int mu, .int ke])), (q 0, .inr (10, [.ref (q 20), .int (nI tl)])), (q 20, .inl (cI, 1600, .inl (fun j => nI (tb j))))] := hD
    refine lv_aload_n hx hb dX11_tellsImage_33 rfl (lv_at hl 1 rfl) ?_
    refine sk_get (v := .ref (q 0)) (C := RX11) (T := TX11) (N := 18) hx hb hts inlX11 hown hK hP 0 rfl rfl 0 (by decide) w_2_123 rfl dX11_tellsImage_34 ?_
    refine lv_iload_n hx hb dX11_tellsImage_37 rfl (lv_at hl 0 rfl) ?_
    refine sk_Vi (q0 := 0) (n := 1) (rest := [.int (nI (tb (3 * dy + 3)))]) (wr := [(x0, .inr (11, [.ref (q 0), .ref (q 1), .ref (q 2), .ref (q 3), .ref (q 4), .ref (q 5), .ref (q 6), .ref (q 7), .ref (q 8), .ref (q 9), .ref (q 10), .ref (q 11), .ref (q 12), .ref (q 13), .ref (q 14), .int hc, .ref (q 16), .long dr])), (q 7, .inr (7, [.ref (q 33), .ref (q 34), .int (nI dy), .int wk, .int (nI mo), .int mu, .int ke]))]) ⟨hx, hb, hml, hown, hts⟩ hl.1 (c_eTape_checkOf_1600 l D cI cJ cC cZ cS (q 0) (q 20) tl tb (3 * dy + 3) (by omega) htb (by omega)) w_5_128 w_5_129 w_5_130 w_1_2 w_5_131 (by decide +kernel) ⟨⟨(Nat.le_of_ble_eq_true rfl), (Nat.le_of_ble_eq_true rfl)⟩, (Nat.le_of_ble_eq_true rfl), (Nat.le_of_ble_eq_true rfl)⟩ hK hP hD hS hA [2, 3] [0, 1] rfl rfl (by decide +kernel) (by decide +kernel) (by decide +kernel) rfl rfl rfl rfl (Nat.le_of_ble_eq_true rfl) dX11_tellsImage_38 (fun r_5 u H locs hw hP hD hS => ?_)
    obtain ⟨ck2_4, hck_6, hck9_7, rfl, rfl⟩ := hw
    have hP : va_P D vwCl [(x0, .inr (11, [.ref (q 0), .ref (q 1), .ref (q 2), .ref (q 3), .ref (q 4), .ref (q 5), .ref (q 6), .ref (q 7), .ref (q 8), .ref (q 9), .ref (q 10), .ref (q 11), .ref (q 12), .ref (q 13), .ref (q 14), .int hc, .ref (q 16), .long dr])), (q 7, .inr (7, [.ref (q 33), .ref (q 34), .int (nI dy), .int wk, .int (nI mo), .int mu, .int ke])), (q 0, .inr (10, [.ref (q 20), .int (nI tl)])), (q 20, .inl (cI, 1600, .inl (fun j => nI (tb j))))] H := hP
    have hD : va_D A [(x0, .inr (11, [.ref (q 0), .ref (q 1), .ref (q 2), .ref (q 3), .ref (q 4), .ref (q 5), .ref (q 6), .ref (q 7), .ref (q 8), .ref (q 9), .ref (q 10), .ref (q 11), .ref (q 12), .ref (q 13), .ref (q 14), .int hc, .ref (q 16), .long dr])), (q 7, .inr (7, [.ref (q 33), .ref (q 34), .int (nI dy), .int wk, .int (nI mo), .int mu, .int ke])), (q 0, .inr (10, [.ref (q 20), .int (nI tl)])), (q 20, .inl (cI, 1600, .inl (fun j => nI (tb j))))] := hD
    refine lv_icmp_eq (tgt := 46) hx hb dX11_tellsImage_41 (by decide) (fun c_8 => ?_) (fun c_8 => ?_)
    · have c_8 : tb (3 * dy + 3) = ck2_4 := (neq (tb (3 * dy + 3)) ck2_4 (by omega) (by omega)).mp c_8
      refine lv_aload_n hx hb dX11_tellsImage_46 rfl (lv_at hl 1 rfl) ?_
      refine sk_get (v := .ref (q 0)) (C := RX11) (T := TX11) (N := 18) hx hb hts inlX11 hown hK hP 0 rfl rfl 0 (by decide) w_2_123 rfl dX11_tellsImage_47 ?_
      refine lv_iconst (v := 0) hx hb dX11_tellsImage_50 (by decide) ?_
      refine sk_Vi (q0 := 0) (n := 1) (rest := []) (wr := [(x0, .inr (11, [.ref (q 0), .ref (q 1), .ref (q 2), .ref (q 3), .ref (q 4), .ref (q 5), .ref (q 6), .ref (q 7), .ref (q 8), .ref (q 9), .ref (q 10), .ref (q 11), .ref (q 12), .ref (q 13), .ref (q 14), .int hc, .ref (q 16), .long dr])), (q 7, .inr (7, [.ref (q 33), .ref (q 34), .int (nI dy), .int wk, .int (nI mo), .int mu, .int ke]))]) ⟨hx, hb, hml, hown, hts⟩ hl.1 (c_eTape_left_1600 l D cI cJ cC cZ cS (q 0) (q 20) tl tb 0 (by omega) htb (by omega)) w_4_214 w_4_215 w_4_216 w_1_2 w_4_217 (by decide +kernel) ⟨⟨(Nat.le_of_ble_eq_true rfl), (Nat.le_of_ble_eq_true rfl)⟩, (Nat.le_of_ble_eq_true rfl), (Nat.le_of_ble_eq_true rfl)⟩ hK hP hD hS hA [2, 3] [0, 1] rfl rfl (by decide +kernel) (by decide +kernel) (by decide +kernel) rfl rfl rfl rfl (Nat.le_of_ble_eq_true rfl) dX11_tellsImage_51 (fun r_9 u H locs hw hP hD hS => ?_)
      obtain ⟨hv_10, rfl, rfl⟩ := hw
      have hP : va_P D vwCl [(x0, .inr (11, [.ref (q 0), .ref (q 1), .ref (q 2), .ref (q 3), .ref (q 4), .ref (q 5), .ref (q 6), .ref (q 7), .ref (q 8), .ref (q 9), .ref (q 10), .ref (q 11), .ref (q 12), .ref (q 13), .ref (q 14), .int hc, .ref (q 16), .long dr])), (q 7, .inr (7, [.ref (q 33), .ref (q 34), .int (nI dy), .int wk, .int (nI mo), .int mu, .int ke])), (q 0, .inr (10, [.ref (q 20), .int (nI tl)])), (q 20, .inl (cI, 1600, .inl (fun j => nI (tb j))))] H := hP
      have hD : va_D A [(x0, .inr (11, [.ref (q 0), .ref (q 1), .ref (q 2), .ref (q 3), .ref (q 4), .ref (q 5), .ref (q 6), .ref (q 7), .ref (q 8), .ref (q 9), .ref (q 10), .ref (q 11), .ref (q 12), .ref (q 13), .ref (q 14), .int hc, .ref (q 16), .long dr])), (q 7, .inr (7, [.ref (q 33), .ref (q 34), .int (nI dy), .int wk, .int (nI mo), .int mu, .int ke])), (q 0, .inr (10, [.ref (q 20), .int (nI tl)])), (q 20, .inl (cI, 1600, .inl (fun j => nI (tb j))))] := hD
      refine lv_sipush (v := 256) hx hb dX11_tellsImage_54 (by decide) ?_
      refine lv_imul hx hb dX11_tellsImage_57 ?_
      refine sk_top (nI ((tb 0) * 256)) (nmul (tb 0) 256) ?_
      refine lv_aload_n hx hb dX11_tellsImage_58 rfl (lv_at hl 1 rfl) ?_
      refine sk_get (v := .ref (q 0)) (C := RX11) (T := TX11) (N := 18) hx hb hts inlX11 hown hK hP 0 rfl rfl 0 (by decide) w_2_123 rfl dX11_tellsImage_59 ?_
      refine lv_iconst (v := 1) hx hb dX11_tellsImage_62 (by decide) ?_
      refine sk_Vi (q0 := 0) (n := 1) (rest := [.int (nI ((tb 0) * 256))]) (wr := [(x0, .inr (11, [.ref (q 0), .ref (q 1), .ref (q 2), .ref (q 3), .ref (q 4), .ref (q 5), .ref (q 6), .ref (q 7), .ref (q 8), .ref (q 9), .ref (q 10), .ref (q 11), .ref (q 12), .ref (q 13), .ref (q 14), .int hc, .ref (q 16), .long dr])), (q 7, .inr (7, [.ref (q 33), .ref (q 34), .int (nI dy), .int wk, .int (nI mo), .int mu, .int ke]))]) ⟨hx, hb, hml, hown, hts⟩ hl.1 (c_eTape_left_1600 l D cI cJ cC cZ cS (q 0) (q 20) tl tb 1 (by omega) htb (by omega)) w_4_214 w_4_215 w_4_216 w_1_2 w_4_217 (by decide +kernel) ⟨⟨(Nat.le_of_ble_eq_true rfl), (Nat.le_of_ble_eq_true rfl)⟩, (Nat.le_of_ble_eq_true rfl), (Nat.le_of_ble_eq_true rfl)⟩ hK hP hD hS hA [2, 3] [0, 1] rfl rfl (by decide +kernel) (by decide +kernel) (by decide +kernel) rfl rfl rfl rfl (Nat.le_of_ble_eq_true rfl) dX11_tellsImage_63 (fun r_11 u H locs hw hP hD hS => ?_)
      obtain ⟨hv_12, rfl, rfl⟩ := hw
      have hP : va_P D vwCl [(x0, .inr (11, [.ref (q 0), .ref (q 1), .ref (q 2), .ref (q 3), .ref (q 4), .ref (q 5), .ref (q 6), .ref (q 7), .ref (q 8), .ref (q 9), .ref (q 10), .ref (q 11), .ref (q 12), .ref (q 13), .ref (q 14), .int hc, .ref (q 16), .long dr])), (q 7, .inr (7, [.ref (q 33), .ref (q 34), .int (nI dy), .int wk, .int (nI mo), .int mu, .int ke])), (q 0, .inr (10, [.ref (q 20), .int (nI tl)])), (q 20, .inl (cI, 1600, .inl (fun j => nI (tb j))))] H := hP
      have hD : va_D A [(x0, .inr (11, [.ref (q 0), .ref (q 1), .ref (q 2), .ref (q 3), .ref (q 4), .ref (q 5), .ref (q 6), .ref (q 7), .ref (q 8), .ref (q 9), .ref (q 10), .ref (q 11), .ref (q 12), .ref (q 13), .ref (q 14), .int hc, .ref (q 16), .long dr])), (q 7, .inr (7, [.ref (q 33), .ref (q 34), .int (nI dy), .int wk, .int (nI mo), .int mu, .int ke])), (q 0, .inr (10, [.ref (q 20), .int (nI tl)])), (q 20, .inl (cI, 1600, .inl (fun j => nI (tb j))))] := hD
      refine lv_iadd hx hb dX11_tellsImage_66 ?_
      refine sk_top (nI ((tb 0) * 256 + (tb 1))) (nI_add ((tb 0) * 256) (tb 1)) ?_
      refine lv_sipush (v := 999) hx hb dX11_tellsImage_67 (by decide) ?_
      refine lv_icmp_gt (tgt := 86) hx hb dX11_tellsImage_70 (by decide) (fun c_13 => ?_) (fun c_13 => ?_)
      · have c_13 : 999 < (tb 0) * 256 + (tb 1) := (nlt 999 ((tb 0) * 256 + (tb 1)) (by omega) (by omega)).mp c_13
        refine lv_iconst (v := 0) hx hb dX11_tellsImage_86 (by decide) ?_
        have hP := hP.sub (ws' := [(x0, .inr (11, [.ref (q 0), .ref (q 1), .ref (q 2), .ref (q 3), .ref (q 4), .ref (q 5), .ref (q 6), .ref (q 7), .ref (q 8), .ref (q 9), .ref (q 10), .ref (q 11), .ref (q 12), .ref (q 13), .ref (q 14), .int hc, .ref (q 16), .long dr])), (q 0, .inr (10, [.ref (q 20), .int (nI tl)])), (q 20, .inl (cI, 1600, .inl (fun j => nI (tb j)))), (q 7, .inr (7, [.ref (q 33), .ref (q 34), .int (nI dy), .int wk, .int (nI mo), .int mu, .int ke]))]) [0, 2, 3, 1] rfl
        have hD := hD.sub (ws' := [(x0, .inr (11, [.ref (q 0), .ref (q 1), .ref (q 2), .ref (q 3), .ref (q 4), .ref (q 5), .ref (q 6), .ref (q 7), .ref (q 8), .ref (q 9), .ref (q 10), .ref (q 11), .ref (q 12), .ref (q 13), .ref (q 14), .int hc, .ref (q 16), .long dr])), (q 0, .inr (10, [.ref (q 20), .int (nI tl)])), (q 20, .inl (cI, 1600, .inl (fun j => nI (tb j)))), (q 7, .inr (7, [.ref (q 33), .ref (q 34), .int (nI dy), .int wk, .int (nI mo), .int mu, .int ke]))]) [0, 2, 3, 1] (by decide +kernel) rfl
        exact sk_iret hx hb hr rfl hlocks hK hP hD hS (⟨0, by omega, by omega, (Or.inl ⟨rfl, fun hq => by have h9 := hq.2.2.1; have h8 := (hq.2.2.2 2 (by omega) (by omega)).1; omega⟩), rfl, rfl⟩) (Nat.le_of_ble_eq_true rfl) (Nat.le_of_ble_eq_true rfl) dX11_tellsImage_87
      · have c_13 : ¬ (999 < (tb 0) * 256 + (tb 1)) := fun h => c_13 ((nlt 999 ((tb 0) * 256 + (tb 1)) (by omega) (by omega)).mpr h)
        refine lv_aload_n hx hb dX11_tellsImage_73 rfl (lv_at hl 1 rfl) ?_
        refine sk_get (v := .ref (q 0)) (C := RX11) (T := TX11) (N := 18) hx hb hts inlX11 hown hK hP 0 rfl rfl 0 (by decide) w_2_123 rfl dX11_tellsImage_74 ?_
        refine lv_iconst (v := 2) hx hb dX11_tellsImage_77 (by decide) ?_
        refine sk_Vi (q0 := 0) (n := 1) (rest := []) (wr := [(x0, .inr (11, [.ref (q 0), .ref (q 1), .ref (q 2), .ref (q 3), .ref (q 4), .ref (q 5), .ref (q 6), .ref (q 7), .ref (q 8), .ref (q 9), .ref (q 10), .ref (q 11), .ref (q 12), .ref (q 13), .ref (q 14), .int hc, .ref (q 16), .long dr])), (q 7, .inr (7, [.ref (q 33), .ref (q 34), .int (nI dy), .int wk, .int (nI mo), .int mu, .int ke]))]) ⟨hx, hb, hml, hown, hts⟩ hl.1 (c_eTape_left_1600 l D cI cJ cC cZ cS (q 0) (q 20) tl tb 2 (by omega) htb (by omega)) w_4_214 w_4_215 w_4_216 w_1_2 w_4_217 (by decide +kernel) ⟨⟨(Nat.le_of_ble_eq_true rfl), (Nat.le_of_ble_eq_true rfl)⟩, (Nat.le_of_ble_eq_true rfl), (Nat.le_of_ble_eq_true rfl)⟩ hK hP hD hS hA [2, 3] [0, 1] rfl rfl (by decide +kernel) (by decide +kernel) (by decide +kernel) rfl rfl rfl rfl (Nat.le_of_ble_eq_true rfl) dX11_tellsImage_78 (fun r_14 u H locs hw hP hD hS => ?_)
        obtain ⟨hv_15, rfl, rfl⟩ := hw
        have hP : va_P D vwCl [(x0, .inr (11, [.ref (q 0), .ref (q 1), .ref (q 2), .ref (q 3), .ref (q 4), .ref (q 5), .ref (q 6), .ref (q 7), .ref (q 8), .ref (q 9), .ref (q 10), .ref (q 11), .ref (q 12), .ref (q 13), .ref (q 14), .int hc, .ref (q 16), .long dr])), (q 7, .inr (7, [.ref (q 33), .ref (q 34), .int (nI dy), .int wk, .int (nI mo), .int mu, .int ke])), (q 0, .inr (10, [.ref (q 20), .int (nI tl)])), (q 20, .inl (cI, 1600, .inl (fun j => nI (tb j))))] H := hP
        have hD : va_D A [(x0, .inr (11, [.ref (q 0), .ref (q 1), .ref (q 2), .ref (q 3), .ref (q 4), .ref (q 5), .ref (q 6), .ref (q 7), .ref (q 8), .ref (q 9), .ref (q 10), .ref (q 11), .ref (q 12), .ref (q 13), .ref (q 14), .int hc, .ref (q 16), .long dr])), (q 7, .inr (7, [.ref (q 33), .ref (q 34), .int (nI dy), .int wk, .int (nI mo), .int mu, .int ke])), (q 0, .inr (10, [.ref (q 20), .int (nI tl)])), (q 20, .inl (cI, 1600, .inl (fun j => nI (tb j))))] := hD
        refine lv_bipush (v := 10) hx hb dX11_tellsImage_81 (by decide) ?_
        refine lv_icmp_lt (tgt := 88) hx hb dX11_tellsImage_83 (by decide) (fun c_16 => ?_) (fun c_16 => ?_)
        · have c_16 : tb 2 < 10 := (nlt (tb 2) 10 (by omega) (by omega)).mp c_16
          refine lv_iconst (v := 3) hx hb dX11_tellsImage_88 (by decide) ?_
          refine lv_istore_n (lv' := [(2, .int 3), (1, .int (nI (3 * dy + 3))), (0, .ref x0)]) hx hb dX11_tellsImage_89 rfl hl (by decide) rfl (fun ls hl => ?_)
          have lp_17 : ∀ (n_18 : Nat) (i : Nat) (H : Heap) (locs : List Loc) (ls : Array Slot), 40 - i < n_18 → (i ≤ 3 * dy + 3) → (i % 3 = 0) → (3 ≤ i) → (imgK tb i) → va_P D vwCl [(x0, .inr (11, [.ref (q 0), .ref (q 1), .ref (q 2), .ref (q 3), .ref (q 4), .ref (q 5), .ref (q 6), .ref (q 7), .ref (q 8), .ref (q 9), .ref (q 10), .ref (q 11), .ref (q 12), .ref (q 13), .ref (q 14), .int hc, .ref (q 16), .long dr])), (q 7, .inr (7, [.ref (q 33), .ref (q 34), .int (nI dy), .int wk, .int (nI mo), .int mu, .int ke])), (q 0, .inr (10, [.ref (q 20), .int (nI tl)])), (q 20, .inl (cI, 1600, .inl (fun j => nI (tb j))))] H → va_D A [(x0, .inr (11, [.ref (q 0), .ref (q 1), .ref (q 2), .ref (q 3), .ref (q 4), .ref (q 5), .ref (q 6), .ref (q 7), .ref (q 8), .ref (q 9), .ref (q 10), .ref (q 11), .ref (q 12), .ref (q 13), .ref (q 14), .int hc, .ref (q 16), .long dr])), (q 7, .inr (7, [.ref (q 33), .ref (q 34), .int (nI dy), .int wk, .int (nI mo), .int mu, .int ke])), (q 0, .inr (10, [.ref (q 20), .int (nI tl)])), (q 20, .inl (cI, 1600, .inl (fun j => nI (tb j))))] → va_S A s.heap H locs → lv_has ls 3 [(2, .int (nI i)), (1, .int (nI (3 * dy + 3))), (0, .ref x0)] → W p l e { frames := 2, cells := 0, slots := 0, locals := 44 } s m ([.ref x0] : List Value).toArray below meth c H locs 0 0 (MQ below (skI D (skT cI cJ cC cZ cS) (fun (r : Int32) (u : va_W) => ∃ (b : Nat), b ≤ 1 ∧ (b = 1 → tb 2 ≤ 9) ∧ ((b = 0 ∧ ¬ imgO tb tl dy) ∨ (b = 1 ∧ imgO tb tl dy)) ∧ r = nI b ∧ u = [(x0, .inr (11, [.ref (q 0), .ref (q 1), .ref (q 2), .ref (q 3), .ref (q 4), .ref (q 5), .ref (q 6), .ref (q 7), .ref (q 8), .ref (q 9), .ref (q 10), .ref (q 11), .ref (q 12), .ref (q 13), .ref (q 14), .int hc, .ref (q 16), .long dr])), (q 0, .inr (10, [.ref (q 20), .int (nI tl)])), (q 20, .inl (cI, 1600, .inl (fun j => nI (tb j)))), (q 7, .inr (7, [.ref (q 33), .ref (q 34), .int (nI dy), .int wk, .int (nI mo), .int mu, .int ke]))]) A) ([.ref x0] : List Value).toArray s 0 0 A) (F0 m 90 ls []) := by
            intro n_18
            induction n_18 with
            | zero => intro i H locs ls hm; exact absurd hm (Nat.not_lt_zero _)
            | succ n_18 ih_lp_17 =>
              intro i H locs ls hm hi hi3 hi4 hal hP hD hS hl
              refine lv_iload_n hx hb dX11_tellsImage_90 rfl (lv_at hl 0 rfl) ?_
              refine lv_iload_n hx hb dX11_tellsImage_91 rfl (lv_at hl 1 rfl) ?_
              refine lv_icmp_ge (tgt := 145) hx hb dX11_tellsImage_92 (by decide) (fun c_19 => ?_) (fun c_19 => ?_)
              · have c_19 : 3 * dy + 3 ≤ i := (nle (3 * dy + 3) i (by omega) (by omega)).mp c_19
                refine lv_iconst (v := 1) hx hb dX11_tellsImage_145 (by decide) ?_
                have hP := hP.sub (ws' := [(x0, .inr (11, [.ref (q 0), .ref (q 1), .ref (q 2), .ref (q 3), .ref (q 4), .ref (q 5), .ref (q 6), .ref (q 7), .ref (q 8), .ref (q 9), .ref (q 10), .ref (q 11), .ref (q 12), .ref (q 13), .ref (q 14), .int hc, .ref (q 16), .long dr])), (q 0, .inr (10, [.ref (q 20), .int (nI tl)])), (q 20, .inl (cI, 1600, .inl (fun j => nI (tb j)))), (q 7, .inr (7, [.ref (q 33), .ref (q 34), .int (nI dy), .int wk, .int (nI mo), .int mu, .int ke]))]) [0, 2, 3, 1] rfl
                have hD := hD.sub (ws' := [(x0, .inr (11, [.ref (q 0), .ref (q 1), .ref (q 2), .ref (q 3), .ref (q 4), .ref (q 5), .ref (q 6), .ref (q 7), .ref (q 8), .ref (q 9), .ref (q 10), .ref (q 11), .ref (q 12), .ref (q 13), .ref (q 14), .int hc, .ref (q 16), .long dr])), (q 0, .inr (10, [.ref (q 20), .int (nI tl)])), (q 20, .inl (cI, 1600, .inl (fun j => nI (tb j)))), (q 7, .inr (7, [.ref (q 33), .ref (q 34), .int (nI dy), .int wk, .int (nI mo), .int mu, .int ke]))]) [0, 2, 3, 1] (by decide +kernel) rfl
                exact sk_iret hx hb hr rfl hlocks hK hP hD hS (⟨1, by omega, by omega, (Or.inr ⟨rfl, by omega, by omega, by omega, fun k h1 h2 => hal k h1 (by omega)⟩), rfl, rfl⟩) (Nat.le_of_ble_eq_true rfl) (Nat.le_of_ble_eq_true rfl) dX11_tellsImage_146
              · have c_19 : ¬ (3 * dy + 3 ≤ i) := fun h => c_19 ((nle (3 * dy + 3) i (by omega) (by omega)).mpr h)
                refine lv_aload_n hx hb dX11_tellsImage_95 rfl (lv_at hl 2 rfl) ?_
                refine sk_get (v := .ref (q 0)) (C := RX11) (T := TX11) (N := 18) hx hb hts inlX11 hown hK hP 0 rfl rfl 0 (by decide) w_2_123 rfl dX11_tellsImage_96 ?_
                refine lv_iload_n hx hb dX11_tellsImage_99 rfl (lv_at hl 0 rfl) ?_
                refine sk_Vi (q0 := 0) (n := 1) (rest := []) (wr := [(x0, .inr (11, [.ref (q 0), .ref (q 1), .ref (q 2), .ref (q 3), .ref (q 4), .ref (q 5), .ref (q 6), .ref (q 7), .ref (q 8), .ref (q 9), .ref (q 10), .ref (q 11), .ref (q 12), .ref (q 13), .ref (q 14), .int hc, .ref (q 16), .long dr])), (q 7, .inr (7, [.ref (q 33), .ref (q 34), .int (nI dy), .int wk, .int (nI mo), .int mu, .int ke]))]) ⟨hx, hb, hml, hown, hts⟩ hl.1 (c_eTape_left_1600 l D cI cJ cC cZ cS (q 0) (q 20) tl tb i (by omega) htb (by omega)) w_4_214 w_4_215 w_4_216 w_1_2 w_4_217 (by decide +kernel) ⟨⟨(Nat.le_of_ble_eq_true rfl), (Nat.le_of_ble_eq_true rfl)⟩, (Nat.le_of_ble_eq_true rfl), (Nat.le_of_ble_eq_true rfl)⟩ hK hP hD hS hA [2, 3] [0, 1] rfl rfl (by decide +kernel) (by decide +kernel) (by decide +kernel) rfl rfl rfl rfl (Nat.le_of_ble_eq_true rfl) dX11_tellsImage_100 (fun r_20 u H locs hw hP hD hS => ?_)
                obtain ⟨hv_21, rfl, rfl⟩ := hw
                have hP : va_P D vwCl [(x0, .inr (11, [.ref (q 0), .ref (q 1), .ref (q 2), .ref (q 3), .ref (q 4), .ref (q 5), .ref (q 6), .ref (q 7), .ref (q 8), .ref (q 9), .ref (q 10), .ref (q 11), .ref (q 12), .ref (q 13), .ref (q 14), .int hc, .ref (q 16), .long dr])), (q 7, .inr (7, [.ref (q 33), .ref (q 34), .int (nI dy), .int wk, .int (nI mo), .int mu, .int ke])), (q 0, .inr (10, [.ref (q 20), .int (nI tl)])), (q 20, .inl (cI, 1600, .inl (fun j => nI (tb j))))] H := hP
                have hD : va_D A [(x0, .inr (11, [.ref (q 0), .ref (q 1), .ref (q 2), .ref (q 3), .ref (q 4), .ref (q 5), .ref (q 6), .ref (q 7), .ref (q 8), .ref (q 9), .ref (q 10), .ref (q 11), .ref (q 12), .ref (q 13), .ref (q 14), .int hc, .ref (q 16), .long dr])), (q 7, .inr (7, [.ref (q 33), .ref (q 34), .int (nI dy), .int wk, .int (nI mo), .int mu, .int ke])), (q 0, .inr (10, [.ref (q 20), .int (nI tl)])), (q 20, .inl (cI, 1600, .inl (fun j => nI (tb j))))] := hD
                refine lv_bipush (v := 10) hx hb dX11_tellsImage_103 (by decide) ?_
                refine lv_icmp_ge (tgt := 137) hx hb dX11_tellsImage_105 (by decide) (fun c_22 => ?_) (fun c_22 => ?_)
                · have c_22 : 10 ≤ tb i := (nle 10 (tb i) (by omega) (by omega)).mp c_22
                  refine lv_iconst (v := 0) hx hb dX11_tellsImage_137 (by decide) ?_
                  have hP := hP.sub (ws' := [(x0, .inr (11, [.ref (q 0), .ref (q 1), .ref (q 2), .ref (q 3), .ref (q 4), .ref (q 5), .ref (q 6), .ref (q 7), .ref (q 8), .ref (q 9), .ref (q 10), .ref (q 11), .ref (q 12), .ref (q 13), .ref (q 14), .int hc, .ref (q 16), .long dr])), (q 0, .inr (10, [.ref (q 20), .int (nI tl)])), (q 20, .inl (cI, 1600, .inl (fun j => nI (tb j)))), (q 7, .inr (7, [.ref (q 33), .ref (q 34), .int (nI dy), .int wk, .int (nI mo), .int mu, .int ke]))]) [0, 2, 3, 1] rfl
                  have hD := hD.sub (ws' := [(x0, .inr (11, [.ref (q 0), .ref (q 1), .ref (q 2), .ref (q 3), .ref (q 4), .ref (q 5), .ref (q 6), .ref (q 7), .ref (q 8), .ref (q 9), .ref (q 10), .ref (q 11), .ref (q 12), .ref (q 13), .ref (q 14), .int hc, .ref (q 16), .long dr])), (q 0, .inr (10, [.ref (q 20), .int (nI tl)])), (q 20, .inl (cI, 1600, .inl (fun j => nI (tb j)))), (q 7, .inr (7, [.ref (q 33), .ref (q 34), .int (nI dy), .int wk, .int (nI mo), .int mu, .int ke]))]) [0, 2, 3, 1] (by decide +kernel) rfl
                  exact sk_iret hx hb hr rfl hlocks hK hP hD hS (⟨0, by omega, by omega, (Or.inl ⟨rfl, fun hq => by have h7 := (hq.2.2.2 i (by omega) (by omega)).1; have h8 := (hq.2.2.2 (i + 1) (by omega) (by omega)).1; have h9 := (hq.2.2.2 (i + 2) (by omega) (by omega)).2 (by omega) (by omega); omega⟩), rfl, rfl⟩) (Nat.le_of_ble_eq_true rfl) (Nat.le_of_ble_eq_true rfl) dX11_tellsImage_138
                · have c_22 : ¬ (10 ≤ tb i) := fun h => c_22 ((nle 10 (tb i) (by omega) (by omega)).mpr h)
                  refine lv_aload_n hx hb dX11_tellsImage_108 rfl (lv_at hl 2 rfl) ?_
                  refine sk_get (v := .ref (q 0)) (C := RX11) (T := TX11) (N := 18) hx hb hts inlX11 hown hK hP 0 rfl rfl 0 (by decide) w_2_123 rfl dX11_tellsImage_109 ?_
                  refine lv_iload_n hx hb dX11_tellsImage_112 rfl (lv_at hl 0 rfl) ?_
                  refine lv_iconst (v := 1) hx hb dX11_tellsImage_113 (by decide) ?_
                  refine lv_iadd hx hb dX11_tellsImage_114 ?_
                  refine sk_top (nI (i + 1)) (nI_add i 1) ?_
                  refine sk_Vi (q0 := 0) (n := 1) (rest := []) (wr := [(x0, .inr (11, [.ref (q 0), .ref (q 1), .ref (q 2), .ref (q 3), .ref (q 4), .ref (q 5), .ref (q 6), .ref (q 7), .ref (q 8), .ref (q 9), .ref (q 10), .ref (q 11), .ref (q 12), .ref (q 13), .ref (q 14), .int hc, .ref (q 16), .long dr])), (q 7, .inr (7, [.ref (q 33), .ref (q 34), .int (nI dy), .int wk, .int (nI mo), .int mu, .int ke]))]) ⟨hx, hb, hml, hown, hts⟩ hl.1 (c_eTape_left_1600 l D cI cJ cC cZ cS (q 0) (q 20) tl tb (i + 1) (by omega) htb (by omega)) w_4_214 w_4_215 w_4_216 w_1_2 w_4_217 (by decide +kernel) ⟨⟨(Nat.le_of_ble_eq_true rfl), (Nat.le_of_ble_eq_true rfl)⟩, (Nat.le_of_ble_eq_true rfl), (Nat.le_of_ble_eq_true rfl)⟩ hK hP hD hS hA [2, 3] [0, 1] rfl rfl (by decide +kernel) (by decide +kernel) (by decide +kernel) rfl rfl rfl rfl (Nat.le_of_ble_eq_true rfl) dX11_tellsImage_115 (fun r_23 u H locs hw hP hD hS => ?_)
                  obtain ⟨hv_24, rfl, rfl⟩ := hw
                  have hP : va_P D vwCl [(x0, .inr (11, [.ref (q 0), .ref (q 1), .ref (q 2), .ref (q 3), .ref (q 4), .ref (q 5), .ref (q 6), .ref (q 7), .ref (q 8), .ref (q 9), .ref (q 10), .ref (q 11), .ref (q 12), .ref (q 13), .ref (q 14), .int hc, .ref (q 16), .long dr])), (q 7, .inr (7, [.ref (q 33), .ref (q 34), .int (nI dy), .int wk, .int (nI mo), .int mu, .int ke])), (q 0, .inr (10, [.ref (q 20), .int (nI tl)])), (q 20, .inl (cI, 1600, .inl (fun j => nI (tb j))))] H := hP
                  have hD : va_D A [(x0, .inr (11, [.ref (q 0), .ref (q 1), .ref (q 2), .ref (q 3), .ref (q 4), .ref (q 5), .ref (q 6), .ref (q 7), .ref (q 8), .ref (q 9), .ref (q 10), .ref (q 11), .ref (q 12), .ref (q 13), .ref (q 14), .int hc, .ref (q 16), .long dr])), (q 7, .inr (7, [.ref (q 33), .ref (q 34), .int (nI dy), .int wk, .int (nI mo), .int mu, .int ke])), (q 0, .inr (10, [.ref (q 20), .int (nI tl)])), (q 20, .inl (cI, 1600, .inl (fun j => nI (tb j))))] := hD
                  refine lv_bipush (v := 10) hx hb dX11_tellsImage_118 (by decide) ?_
                  refine lv_icmp_ge (tgt := 137) hx hb dX11_tellsImage_120 (by decide) (fun c_25 => ?_) (fun c_25 => ?_)
                  · have c_25 : 10 ≤ tb (i + 1) := (nle 10 (tb (i + 1)) (by omega) (by omega)).mp c_25
                    refine lv_iconst (v := 0) hx hb dX11_tellsImage_137 (by decide) ?_
                    have hP := hP.sub (ws' := [(x0, .inr (11, [.ref (q 0), .ref (q 1), .ref (q 2), .ref (q 3), .ref (q 4), .ref (q 5), .ref (q 6), .ref (q 7), .ref (q 8), .ref (q 9), .ref (q 10), .ref (q 11), .ref (q 12), .ref (q 13), .ref (q 14), .int hc, .ref (q 16), .long dr])), (q 0, .inr (10, [.ref (q 20), .int (nI tl)])), (q 20, .inl (cI, 1600, .inl (fun j => nI (tb j)))), (q 7, .inr (7, [.ref (q 33), .ref (q 34), .int (nI dy), .int wk, .int (nI mo), .int mu, .int ke]))]) [0, 2, 3, 1] rfl
                    have hD := hD.sub (ws' := [(x0, .inr (11, [.ref (q 0), .ref (q 1), .ref (q 2), .ref (q 3), .ref (q 4), .ref (q 5), .ref (q 6), .ref (q 7), .ref (q 8), .ref (q 9), .ref (q 10), .ref (q 11), .ref (q 12), .ref (q 13), .ref (q 14), .int hc, .ref (q 16), .long dr])), (q 0, .inr (10, [.ref (q 20), .int (nI tl)])), (q 20, .inl (cI, 1600, .inl (fun j => nI (tb j)))), (q 7, .inr (7, [.ref (q 33), .ref (q 34), .int (nI dy), .int wk, .int (nI mo), .int mu, .int ke]))]) [0, 2, 3, 1] (by decide +kernel) rfl
                    exact sk_iret hx hb hr rfl hlocks hK hP hD hS (⟨0, by omega, by omega, (Or.inl ⟨rfl, fun hq => by have h7 := (hq.2.2.2 i (by omega) (by omega)).1; have h8 := (hq.2.2.2 (i + 1) (by omega) (by omega)).1; have h9 := (hq.2.2.2 (i + 2) (by omega) (by omega)).2 (by omega) (by omega); omega⟩), rfl, rfl⟩) (Nat.le_of_ble_eq_true rfl) (Nat.le_of_ble_eq_true rfl) dX11_tellsImage_138
                  · have c_25 : ¬ (10 ≤ tb (i + 1)) := fun h => c_25 ((nle 10 (tb (i + 1)) (by omega) (by omega)).mpr h)
                    refine lv_aload_n hx hb dX11_tellsImage_123 rfl (lv_at hl 2 rfl) ?_
                    refine sk_get (v := .ref (q 0)) (C := RX11) (T := TX11) (N := 18) hx hb hts inlX11 hown hK hP 0 rfl rfl 0 (by decide) w_2_123 rfl dX11_tellsImage_124 ?_
                    refine lv_iload_n hx hb dX11_tellsImage_127 rfl (lv_at hl 0 rfl) ?_
                    refine lv_iconst (v := 2) hx hb dX11_tellsImage_128 (by decide) ?_
                    refine lv_iadd hx hb dX11_tellsImage_129 ?_
                    refine sk_top (nI (i + 2)) (nI_add i 2) ?_
                    refine sk_Vi (q0 := 0) (n := 1) (rest := []) (wr := [(x0, .inr (11, [.ref (q 0), .ref (q 1), .ref (q 2), .ref (q 3), .ref (q 4), .ref (q 5), .ref (q 6), .ref (q 7), .ref (q 8), .ref (q 9), .ref (q 10), .ref (q 11), .ref (q 12), .ref (q 13), .ref (q 14), .int hc, .ref (q 16), .long dr])), (q 7, .inr (7, [.ref (q 33), .ref (q 34), .int (nI dy), .int wk, .int (nI mo), .int mu, .int ke]))]) ⟨hx, hb, hml, hown, hts⟩ hl.1 (c_eTape_left_1600 l D cI cJ cC cZ cS (q 0) (q 20) tl tb (i + 2) (by omega) htb (by omega)) w_4_214 w_4_215 w_4_216 w_1_2 w_4_217 (by decide +kernel) ⟨⟨(Nat.le_of_ble_eq_true rfl), (Nat.le_of_ble_eq_true rfl)⟩, (Nat.le_of_ble_eq_true rfl), (Nat.le_of_ble_eq_true rfl)⟩ hK hP hD hS hA [2, 3] [0, 1] rfl rfl (by decide +kernel) (by decide +kernel) (by decide +kernel) rfl rfl rfl rfl (Nat.le_of_ble_eq_true rfl) dX11_tellsImage_130 (fun r_26 u H locs hw hP hD hS => ?_)
                    obtain ⟨hv_27, rfl, rfl⟩ := hw
                    have hP : va_P D vwCl [(x0, .inr (11, [.ref (q 0), .ref (q 1), .ref (q 2), .ref (q 3), .ref (q 4), .ref (q 5), .ref (q 6), .ref (q 7), .ref (q 8), .ref (q 9), .ref (q 10), .ref (q 11), .ref (q 12), .ref (q 13), .ref (q 14), .int hc, .ref (q 16), .long dr])), (q 7, .inr (7, [.ref (q 33), .ref (q 34), .int (nI dy), .int wk, .int (nI mo), .int mu, .int ke])), (q 0, .inr (10, [.ref (q 20), .int (nI tl)])), (q 20, .inl (cI, 1600, .inl (fun j => nI (tb j))))] H := hP
                    have hD : va_D A [(x0, .inr (11, [.ref (q 0), .ref (q 1), .ref (q 2), .ref (q 3), .ref (q 4), .ref (q 5), .ref (q 6), .ref (q 7), .ref (q 8), .ref (q 9), .ref (q 10), .ref (q 11), .ref (q 12), .ref (q 13), .ref (q 14), .int hc, .ref (q 16), .long dr])), (q 7, .inr (7, [.ref (q 33), .ref (q 34), .int (nI dy), .int wk, .int (nI mo), .int mu, .int ke])), (q 0, .inr (10, [.ref (q 20), .int (nI tl)])), (q 20, .inl (cI, 1600, .inl (fun j => nI (tb j))))] := hD
                    refine lv_iconst (v := 1) hx hb dX11_tellsImage_133 (by decide) ?_
                    refine lv_icmp_le (tgt := 139) hx hb dX11_tellsImage_134 (by decide) (fun c_28 => ?_) (fun c_28 => ?_)
                    · have c_28 : tb (i + 2) ≤ 1 := (nle (tb (i + 2)) 1 (by omega) (by omega)).mp c_28
                      refine lv_iinc (v := nI (i + 3)) (lv' := [(2, .int (nI (i + 3))), (1, .int (nI (3 * dy + 3))), (0, .ref x0)]) hx hb dX11_tellsImage_139 hl (k := 0) rfl (ninc i 3 (by decide)) (by decide) rfl (fun ls hl => ?_)
                      refine lv_goto (tgt := 90) hx hb dX11_tellsImage_142 (by decide) ?_
                      exact ih_lp_17 (i + 3) _ _ _ (by omega) (by omega) (by omega) (by omega) (imgK_s hal hi3 (by omega) (by omega) (by omega)) hP hD hS (lv_sub hl [0, 1, 2] rfl)
                    · have c_28 : ¬ (tb (i + 2) ≤ 1) := fun h => c_28 ((nle (tb (i + 2)) 1 (by omega) (by omega)).mpr h)
                      refine lv_iconst (v := 0) hx hb dX11_tellsImage_137 (by decide) ?_
                      have hP := hP.sub (ws' := [(x0, .inr (11, [.ref (q 0), .ref (q 1), .ref (q 2), .ref (q 3), .ref (q 4), .ref (q 5), .ref (q 6), .ref (q 7), .ref (q 8), .ref (q 9), .ref (q 10), .ref (q 11), .ref (q 12), .ref (q 13), .ref (q 14), .int hc, .ref (q 16), .long dr])), (q 0, .inr (10, [.ref (q 20), .int (nI tl)])), (q 20, .inl (cI, 1600, .inl (fun j => nI (tb j)))), (q 7, .inr (7, [.ref (q 33), .ref (q 34), .int (nI dy), .int wk, .int (nI mo), .int mu, .int ke]))]) [0, 2, 3, 1] rfl
                      have hD := hD.sub (ws' := [(x0, .inr (11, [.ref (q 0), .ref (q 1), .ref (q 2), .ref (q 3), .ref (q 4), .ref (q 5), .ref (q 6), .ref (q 7), .ref (q 8), .ref (q 9), .ref (q 10), .ref (q 11), .ref (q 12), .ref (q 13), .ref (q 14), .int hc, .ref (q 16), .long dr])), (q 0, .inr (10, [.ref (q 20), .int (nI tl)])), (q 20, .inl (cI, 1600, .inl (fun j => nI (tb j)))), (q 7, .inr (7, [.ref (q 33), .ref (q 34), .int (nI dy), .int wk, .int (nI mo), .int mu, .int ke]))]) [0, 2, 3, 1] (by decide +kernel) rfl
                      exact sk_iret hx hb hr rfl hlocks hK hP hD hS (⟨0, by omega, by omega, (Or.inl ⟨rfl, fun hq => by have h7 := (hq.2.2.2 i (by omega) (by omega)).1; have h8 := (hq.2.2.2 (i + 1) (by omega) (by omega)).1; have h9 := (hq.2.2.2 (i + 2) (by omega) (by omega)).2 (by omega) (by omega); omega⟩), rfl, rfl⟩) (Nat.le_of_ble_eq_true rfl) (Nat.le_of_ble_eq_true rfl) dX11_tellsImage_138
          exact lp_17 (40 - 3 + 1) 3 _ _ _ (Nat.lt_succ_self _) (by omega) (by omega) (by omega) (imgK_0 (by omega)) hP hD hS (lv_sub hl [0, 1, 2] rfl)
        · have c_16 : ¬ (tb 2 < 10) := fun h => c_16 ((nlt (tb 2) 10 (by omega) (by omega)).mpr h)
          refine lv_iconst (v := 0) hx hb dX11_tellsImage_86 (by decide) ?_
          have hP := hP.sub (ws' := [(x0, .inr (11, [.ref (q 0), .ref (q 1), .ref (q 2), .ref (q 3), .ref (q 4), .ref (q 5), .ref (q 6), .ref (q 7), .ref (q 8), .ref (q 9), .ref (q 10), .ref (q 11), .ref (q 12), .ref (q 13), .ref (q 14), .int hc, .ref (q 16), .long dr])), (q 0, .inr (10, [.ref (q 20), .int (nI tl)])), (q 20, .inl (cI, 1600, .inl (fun j => nI (tb j)))), (q 7, .inr (7, [.ref (q 33), .ref (q 34), .int (nI dy), .int wk, .int (nI mo), .int mu, .int ke]))]) [0, 2, 3, 1] rfl
          have hD := hD.sub (ws' := [(x0, .inr (11, [.ref (q 0), .ref (q 1), .ref (q 2), .ref (q 3), .ref (q 4), .ref (q 5), .ref (q 6), .ref (q 7), .ref (q 8), .ref (q 9), .ref (q 10), .ref (q 11), .ref (q 12), .ref (q 13), .ref (q 14), .int hc, .ref (q 16), .long dr])), (q 0, .inr (10, [.ref (q 20), .int (nI tl)])), (q 20, .inl (cI, 1600, .inl (fun j => nI (tb j)))), (q 7, .inr (7, [.ref (q 33), .ref (q 34), .int (nI dy), .int wk, .int (nI mo), .int mu, .int ke]))]) [0, 2, 3, 1] (by decide +kernel) rfl
          exact sk_iret hx hb hr rfl hlocks hK hP hD hS (⟨0, by omega, by omega, (Or.inl ⟨rfl, fun hq => by have h9 := hq.2.2.1; have h8 := (hq.2.2.2 2 (by omega) (by omega)).1; omega⟩), rfl, rfl⟩) (Nat.le_of_ble_eq_true rfl) (Nat.le_of_ble_eq_true rfl) dX11_tellsImage_87
    · have c_8 : ¬ (tb (3 * dy + 3) = ck2_4) := fun h => c_8 ((neq (tb (3 * dy + 3)) ck2_4 (by omega) (by omega)).mpr h)
      refine lv_iconst (v := 0) hx hb dX11_tellsImage_44 (by decide) ?_
      have hP := hP.sub (ws' := [(x0, .inr (11, [.ref (q 0), .ref (q 1), .ref (q 2), .ref (q 3), .ref (q 4), .ref (q 5), .ref (q 6), .ref (q 7), .ref (q 8), .ref (q 9), .ref (q 10), .ref (q 11), .ref (q 12), .ref (q 13), .ref (q 14), .int hc, .ref (q 16), .long dr])), (q 0, .inr (10, [.ref (q 20), .int (nI tl)])), (q 20, .inl (cI, 1600, .inl (fun j => nI (tb j)))), (q 7, .inr (7, [.ref (q 33), .ref (q 34), .int (nI dy), .int wk, .int (nI mo), .int mu, .int ke]))]) [0, 2, 3, 1] rfl
      have hD := hD.sub (ws' := [(x0, .inr (11, [.ref (q 0), .ref (q 1), .ref (q 2), .ref (q 3), .ref (q 4), .ref (q 5), .ref (q 6), .ref (q 7), .ref (q 8), .ref (q 9), .ref (q 10), .ref (q 11), .ref (q 12), .ref (q 13), .ref (q 14), .int hc, .ref (q 16), .long dr])), (q 0, .inr (10, [.ref (q 20), .int (nI tl)])), (q 20, .inl (cI, 1600, .inl (fun j => nI (tb j)))), (q 7, .inr (7, [.ref (q 33), .ref (q 34), .int (nI dy), .int wk, .int (nI mo), .int mu, .int ke]))]) [0, 2, 3, 1] (by decide +kernel) rfl
      exact sk_iret hx hb hr rfl hlocks hK hP hD hS (⟨0, by omega, by omega, (Or.inl ⟨rfl, fun hq => by have h9 := hq.2.1; omega⟩), rfl, rfl⟩) (Nat.le_of_ble_eq_true rfl) (Nat.le_of_ble_eq_true rfl) dX11_tellsImage_45
