def sp_sameGo (pp ee : Int32) : Nat → Nat → Int32
  | 0, _ => -1
  | n + 1, k => if (pp - ee * Int32.ofNat k) - (pp - ee * Int32.ofNat k) / 1440 * 1440 = 0 then Int32.ofNat k else sp_sameGo pp ee n (k + 1)
def sp_same (pp ee : Int32) : Int32 := if pp < 0 then -1 else if 1439 < pp then -1 else if ee < 0 then -1 else if ee ≤ 1439 then sp_sameGo pp ee 1440 0 else -1
theorem z_s (k : Nat) : Int32.ofNat k + 1 = Int32.ofNat (k + 1) := (nI_succ k).symm
theorem z_T {k : Nat} (h : k < 2 ^ 31) : (Int32.ofNat k).toInt = (k : Int) := nI_toInt h
theorem z_lt {i : Int32} {k M : Nat} (hi : i = Int32.ofNat k) (hk : k < M) (hM : M < 2 ^ 31) : ¬ Int32.ofNat M ≤ i := by
  rw [hi, Int32.le_iff_toInt_le, z_T hM, z_T (by omega)]
  omega
theorem z_ge {i : Int32} {k M : Nat} (hi : i = Int32.ofNat k) (hk : M ≤ k) (hM : k < 2 ^ 31) : Int32.ofNat M ≤ i := by
  rw [hi, Int32.le_iff_toInt_le, z_T (by omega), z_T hM]
  omega
theorem z_in {i : Int32} {k M : Nat} (hi : i = Int32.ofNat k) (hk : k < M) (hM : M < 2 ^ 31) : vp_in i M := by
  rw [vp_in_iff, hi, z_T (by omega)]
  omega
theorem z_rem {x : Int32} (h1 : -10000000 < x.toInt) (h2 : x.toInt < 10000000) : (x - x / 1440 * 1440).toInt = x.toInt.tmod 1440 := by
  have e : (1440 : Int32).toInt = 1440 := rfl
  have hd : (x / 1440).toInt = x.toInt.tdiv 1440 := by
    rw [Jvm.Kit.i32_div (by rw [e]; omega), e]
  have hr := Int.mul_tdiv_add_tmod x.toInt 1440
  have hb1 : x.toInt.tmod 1440 < 1440 := Int.tmod_lt_of_pos _ (by decide)
  have hb2 : -1440 < x.toInt.tmod 1440 := by
    have h3 := Int.tmod_lt_of_pos (-x.toInt) (by decide : (0 : Int) < 1440)
    rw [Int.neg_tmod] at h3
    omega
  have hm : (x / 1440 * 1440).toInt = x.toInt.tdiv 1440 * 1440 := by
    rw [Jvm.Kit.i32_mul (by rw [hd, e]; omega) (by rw [hd, e]; omega), hd, e]
  rw [Jvm.Kit.i32_sub (by rw [hm]; omega) (by rw [hm]; omega), hm]
  omega
theorem z_x {pp ee : Int32} {k : Nat} (hp : 0 ≤ pp.toInt ∧ pp.toInt ≤ 1439) (he : 0 ≤ ee.toInt ∧ ee.toInt ≤ 1439) (hk : k ≤ 1440) : (pp - ee * Int32.ofNat k).toInt = pp.toInt - ee.toInt * k ∧ 0 ≤ ee.toInt * k ∧ ee.toInt * k ≤ 2072160 := by
  have hb0 : 0 ≤ ee.toInt * (k : Int) := Int.mul_nonneg he.1 (by omega)
  have hb1 : ee.toInt * (k : Int) ≤ 1439 * 1440 := Int.mul_le_mul he.2 (by omega) (by omega) (by omega)
  have hm : (ee * Int32.ofNat k).toInt = ee.toInt * k := by
    rw [Jvm.Kit.i32_mul (by rw [z_T (by omega)]; omega) (by rw [z_T (by omega)]; omega), z_T (by omega)]
  refine ⟨?_, hb0, by omega⟩
  rw [Jvm.Kit.i32_sub (by rw [hm]; omega) (by rw [hm]; omega), hm]
theorem z_zero {x : Int32} : x = 0 ↔ x.toInt = 0 := by
  rw [← Int32.toInt_inj]
  exact Iff.rfl
theorem z_eq {pp ee v : Int32} {k : Nat} (hp : 0 ≤ pp.toInt ∧ pp.toInt ≤ 1439) (he : 0 ≤ ee.toInt ∧ ee.toInt ≤ 1439) (hk : k ≤ 1440) (hv : v.toInt = (pp.toInt - ee.toInt * k) % 1440) : v = 0 ↔ (pp - ee * Int32.ofNat k) - (pp - ee * Int32.ofNat k) / 1440 * 1440 = 0 := by
  obtain ⟨h1, h2, h3⟩ := z_x hp he hk
  rw [z_zero, z_zero, z_rem (by rw [h1]; omega) (by rw [h1]; omega), h1, hv, ← Int.dvd_iff_emod_eq_zero, ← Int.dvd_iff_tmod_eq_zero]
theorem z_next {pp ee v : Int32} {k : Nat} (he : 0 ≤ ee.toInt ∧ ee.toInt ≤ 1439) (hv : v.toInt = (pp.toInt - ee.toInt * k) % 1440) : ((v + 1440 - ee) - (v + 1440 - ee) / 1440 * 1440).toInt = (pp.toInt - ee.toInt * ((k + 1 : Nat) : Int)) % 1440 := by
  have e : (1440 : Int32).toInt = 1440 := rfl
  have ha : (v + 1440).toInt = v.toInt + 1440 := by rw [Jvm.Kit.i32_add (by rw [e]; omega) (by rw [e]; omega), e]
  have hs : (v + 1440 - ee).toInt = v.toInt + 1440 - ee.toInt := by rw [Jvm.Kit.i32_sub (by rw [ha]; omega) (by rw [ha]; omega), ha]
  rw [z_rem (by rw [hs]; omega) (by rw [hs]; omega), hs, Int.tmod_eq_emod_of_nonneg (by omega)]
  have h4 : ee.toInt * ((k + 1 : Nat) : Int) = ee.toInt * k + ee.toInt := by rw [Int.natCast_add, Int.mul_add]; omega
  rw [h4]
  omega
theorem dX11_same_26 : decode cX11_same 26 = .ok (.iload_n 3, 1) := by decide +kernel
theorem dX11_same_27 : decode cX11_same 27 = .ok (.sipush 1440, 3) := by decide +kernel
theorem dX11_same_30 : decode cX11_same 30 = .ok (.if_icmp .ge 23, 3) := by decide +kernel
theorem dX11_same_53 : decode cX11_same 53 = .ok (.iconst (-1), 1) := by decide +kernel
theorem dX11_same_54 : decode cX11_same 54 = .ok (.ireturn, 1) := by decide +kernel
theorem dX11_same_33 : decode cX11_same 33 = .ok (.iload_n 1, 1) := by decide +kernel
theorem dX11_same_34 : decode cX11_same 34 = .ok (.iload_n 2, 1) := by decide +kernel
theorem dX11_same_35 : decode cX11_same 35 = .ok (.iload_n 3, 1) := by decide +kernel
theorem dX11_same_36 : decode cX11_same 36 = .ok (.imul, 1) := by decide +kernel
theorem dX11_same_37 : decode cX11_same 37 = .ok (.isub, 1) := by decide +kernel
theorem dX11_same_38 : decode cX11_same 38 = .ok (.sipush 1440, 3) := by decide +kernel
theorem dX11_same_41 : decode cX11_same 41 = .ok (.irem, 1) := by decide +kernel
theorem dX11_same_42 : decode cX11_same 42 = .ok (.ifCond .ne 5, 3) := by decide +kernel
theorem dX11_same_47 : decode cX11_same 47 = .ok (.iinc 3 1, 3) := by decide +kernel
theorem dX11_same_50 : decode cX11_same 50 = .ok (.goto (-24), 3) := by decide +kernel
theorem dX11_same_45 : decode cX11_same 45 = .ok (.iload_n 3, 1) := by decide +kernel
theorem dX11_same_46 : decode cX11_same 46 = .ok (.ireturn, 1) := by decide +kernel
theorem w_4_238 : (Cond.code yX11_same cX11_same 4 (some .int)) ∈ wsL_law := sk_mem (ck_4 _ (List.mem_of_getElem? (i := 238) rfl)) rfl
set_option maxHeartbeats 4000000 in
set_option maxRecDepth 100000 in
theorem c_x_same_loop (l : Launch) (D : va_G) (cI cJ cC cZ cS : ClassId) (x0 : Nat) (q : Nat → Nat) (pp : Int32) (ee : Int32) {R : Room} {p : Program} {e : Env} {s : State} {m : MethodId} {below : List Frame} {meth : Method} {c : Code} {A : Nat → Prop} (E : skEnv p s m meth c cX11_same (some .int) 4 yX11_same [.ref x0, .int pp, .int ee] D (skT cI cJ cC cZ cS) A) (n : Nat) : ∀ (k : Nat) (i : Int32) {H : Heap} {locs : List Loc} {ls : Array Slot}, k + n = 1440 → i = Int32.ofNat k → sp_same pp ee = sp_sameGo pp ee n k → va_P D vwCl [(x0, .inr (11, [.ref (q 0), .ref (q 1), .ref (q 2), .ref (q 3), .ref (q 4), .ref (q 5), .ref (q 6), .ref (q 7), .ref (q 8), .ref (q 9), .ref (q 10), .ref (q 11), .ref (q 12), .ref (q 13), .ref (q 14), .int 0, .ref (q 16), .long 1]))] H → va_D A [(x0, .inr (11, [.ref (q 0), .ref (q 1), .ref (q 2), .ref (q 3), .ref (q 4), .ref (q 5), .ref (q 6), .ref (q 7), .ref (q 8), .ref (q 9), .ref (q 10), .ref (q 11), .ref (q 12), .ref (q 13), .ref (q 14), .int 0, .ref (q 16), .long 1]))] → va_S A s.heap H locs → lv_has ls 4 [(3, .int i), (0, .ref x0), (1, .int pp), (2, .int ee)] → W p l e R s m ([.ref x0, .int pp, .int ee] : List Value).toArray below meth c H locs 0 0 (MQ below (skI D (skT cI cJ cC cZ cS) (fun (r : Int32) (u : va_W) => r = sp_same pp ee ∧ u = []) A) ([.ref x0, .int pp, .int ee] : List Value).toArray s 0 0 A) (F0 m 26 ls []) := by
  obtain ⟨hx, hb, hr, hml, hlocks, hin, hown, hts, hK, hA⟩ := id E
  have hown : s.vm.findClass RX11 = some m.cls := hown
  induction n with
  | zero =>
    intro k i H locs ls hk hi hsp hP hD hS hl
    refine lv_iload_n hx hb dX11_same_26 rfl (lv_at hl 0 rfl) ?_
    refine lv_sipush (v := 1440) hx hb dX11_same_27 (by decide) ?_
    refine lv_icmp_ge (tgt := 53) hx hb dX11_same_30 (by decide) (fun c_101 => ?_) (fun c => absurd (z_ge (M := 1440) hi (by omega) (by omega)) c)
    refine lv_iconst (v := (-1)) hx hb dX11_same_53 (by decide) ?_
    have hP := hP.sub (ws' := []) [] rfl
    have hD := hD.sub (ws' := []) [] (by decide) rfl
    exact sk_iret hx hb hr rfl hlocks hK hP hD hS (⟨by rw [hsp]; rfl, rfl⟩) (Nat.le_of_ble_eq_true rfl) (Nat.le_of_ble_eq_true rfl) dX11_same_54
  | succ n ih =>
    intro k i H locs ls hk hi hsp hP hD hS hl
    refine lv_iload_n hx hb dX11_same_26 rfl (lv_at hl 0 rfl) ?_
    refine lv_sipush (v := 1440) hx hb dX11_same_27 (by decide) ?_
    refine lv_icmp_ge (tgt := 53) hx hb dX11_same_30 (by decide) (fun c => absurd c (z_lt (M := 1440) hi (by omega) (by decide))) (fun c_101 => ?_)
    refine lv_iload_n hx hb dX11_same_33 rfl (lv_at hl 2 rfl) ?_
    refine lv_iload_n hx hb dX11_same_34 rfl (lv_at hl 3 rfl) ?_
    refine lv_iload_n hx hb dX11_same_35 rfl (lv_at hl 0 rfl) ?_
    refine lv_imul hx hb dX11_same_36 ?_
    refine lv_topi (fun v_102 ev_102 => ?_)
    refine lv_isub hx hb dX11_same_37 ?_
    refine lv_topi (fun v_103 ev_103 => ?_)
    refine lv_sipush (v := 1440) hx hb dX11_same_38 (by decide) ?_
    refine lv_irem hx hb dX11_same_41 (by decide) ?_
    refine lv_topi (fun v_104 ev_104 => ?_)
    refine lv_if_ne (tgt := 47) hx hb dX11_same_42 (by decide) (fun c_105 => ?_) (fun c_105 => ?_)
    · refine lv_iinc (v := i + 1) (lv' := [(3, .int (i + 1)), (0, .ref x0), (1, .int pp), (2, .int ee)]) hx hb dX11_same_47 hl (k := 0) rfl rfl (by decide) rfl (fun ls hl => ?_)
      refine lv_goto (tgt := 26) hx hb dX11_same_50 (by decide) ?_
      exact ih (k + 1) (i + 1) (by omega) (by rw [hi]; exact z_s k) (by rw [hsp, sp_sameGo, if_neg (by rw [ev_104, ev_103, ev_102, hi] at c_105; exact c_105)]) hP hD hS (lv_sub hl [0, 1, 2, 3] rfl)
    · refine lv_iload_n hx hb dX11_same_45 rfl (lv_at hl 0 rfl) ?_
      have hP := hP.sub (ws' := []) [] rfl
      have hD := hD.sub (ws' := []) [] (by decide) rfl
      exact sk_iret hx hb hr rfl hlocks hK hP hD hS (⟨by rw [hsp, sp_sameGo, if_pos (by rw [ev_104, ev_103, ev_102, hi] at c_105; exact c_105)]; exact hi, rfl⟩) (Nat.le_of_ble_eq_true rfl) (Nat.le_of_ble_eq_true rfl) dX11_same_46
theorem dX11_same_0 : decode cX11_same 0 = .ok (.iload_n 1, 1) := by decide +kernel
theorem dX11_same_1 : decode cX11_same 1 = .ok (.ifCond .lt 21, 3) := by decide +kernel
theorem dX11_same_22 : decode cX11_same 22 = .ok (.iconst (-1), 1) := by decide +kernel
theorem dX11_same_23 : decode cX11_same 23 = .ok (.ireturn, 1) := by decide +kernel
theorem dX11_same_4 : decode cX11_same 4 = .ok (.iload_n 1, 1) := by decide +kernel
theorem dX11_same_5 : decode cX11_same 5 = .ok (.sipush 1439, 3) := by decide +kernel
theorem dX11_same_8 : decode cX11_same 8 = .ok (.if_icmp .gt 14, 3) := by decide +kernel
theorem dX11_same_11 : decode cX11_same 11 = .ok (.iload_n 2, 1) := by decide +kernel
theorem dX11_same_12 : decode cX11_same 12 = .ok (.ifCond .lt 10, 3) := by decide +kernel
theorem dX11_same_15 : decode cX11_same 15 = .ok (.iload_n 2, 1) := by decide +kernel
theorem dX11_same_16 : decode cX11_same 16 = .ok (.sipush 1439, 3) := by decide +kernel
theorem dX11_same_19 : decode cX11_same 19 = .ok (.if_icmp .le 5, 3) := by decide +kernel
theorem dX11_same_24 : decode cX11_same 24 = .ok (.iconst 0, 1) := by decide +kernel
theorem dX11_same_25 : decode cX11_same 25 = .ok (.istore_n 3, 1) := by decide +kernel
set_option maxHeartbeats 4000000 in
set_option maxRecDepth 100000 in
theorem c_x_same (l : Launch) (D : va_G) (cI cJ cC cZ cS : ClassId) (x0 : Nat) (q : Nat → Nat) (pp : Int32) (ee : Int32)  : skM l yX11_same cX11_same 4 (some .int) 0 0 0 0 D (skT cI cJ cC cZ cS) [.ref x0, .int pp, .int ee] [(x0, .inr (11, [.ref (q 0), .ref (q 1), .ref (q 2), .ref (q 3), .ref (q 4), .ref (q 5), .ref (q 6), .ref (q 7), .ref (q 8), .ref (q 9), .ref (q 10), .ref (q 11), .ref (q 12), .ref (q 13), .ref (q 14), .int 0, .ref (q 16), .long 1]))] (skI D (skT cI cJ cC cZ cS) (fun (r : Int32) (u : va_W) => r = sp_same pp ee ∧ u = [])) := by
  refine skM_of (by decide) (Nat.le_of_ble_eq_true rfl) ?_
  intro p e s m below meth c A ls E hP hD hl
  obtain ⟨hx, hb, hr, hml, hlocks, hin, hown, hts, hK, hA⟩ := id E
  have hown : s.vm.findClass RX11 = some m.cls := hown
  have hS : va_S A s.heap s.heap [] := va_S.rf
  have hl : lv_has ls 4 [(0, .ref x0), (1, .int pp), (2, .int ee)] := hl
  refine lv_iload_n hx hb dX11_same_0 rfl (lv_at hl 1 rfl) ?_
  refine lv_if_lt (tgt := 22) hx hb dX11_same_1 (by decide) (fun c_1 => ?_) (fun c_1 => ?_)
  · refine lv_iconst (v := (-1)) hx hb dX11_same_22 (by decide) ?_
    have hP := hP.sub (ws' := []) [] rfl
    have hD := hD.sub (ws' := []) [] (by decide) rfl
    exact sk_iret hx hb hr rfl hlocks hK hP hD hS (⟨by simp only [sp_same, if_pos c_1], rfl⟩) (Nat.le_of_ble_eq_true rfl) (Nat.le_of_ble_eq_true rfl) dX11_same_23
  · refine lv_iload_n hx hb dX11_same_4 rfl (lv_at hl 1 rfl) ?_
    refine lv_sipush (v := 1439) hx hb dX11_same_5 (by decide) ?_
    refine lv_icmp_gt (tgt := 22) hx hb dX11_same_8 (by decide) (fun c_2 => ?_) (fun c_2 => ?_)
    · refine lv_iconst (v := (-1)) hx hb dX11_same_22 (by decide) ?_
      have hP := hP.sub (ws' := []) [] rfl
      have hD := hD.sub (ws' := []) [] (by decide) rfl
      exact sk_iret hx hb hr rfl hlocks hK hP hD hS (⟨by simp only [sp_same, if_neg c_1, if_pos c_2], rfl⟩) (Nat.le_of_ble_eq_true rfl) (Nat.le_of_ble_eq_true rfl) dX11_same_23
    · refine lv_iload_n hx hb dX11_same_11 rfl (lv_at hl 2 rfl) ?_
      refine lv_if_lt (tgt := 22) hx hb dX11_same_12 (by decide) (fun c_3 => ?_) (fun c_3 => ?_)
      · refine lv_iconst (v := (-1)) hx hb dX11_same_22 (by decide) ?_
        have hP := hP.sub (ws' := []) [] rfl
        have hD := hD.sub (ws' := []) [] (by decide) rfl
        exact sk_iret hx hb hr rfl hlocks hK hP hD hS (⟨by simp only [sp_same, if_neg c_1, if_neg c_2, if_pos c_3], rfl⟩) (Nat.le_of_ble_eq_true rfl) (Nat.le_of_ble_eq_true rfl) dX11_same_23
      · refine lv_iload_n hx hb dX11_same_15 rfl (lv_at hl 2 rfl) ?_
        refine lv_sipush (v := 1439) hx hb dX11_same_16 (by decide) ?_
        refine lv_icmp_le (tgt := 24) hx hb dX11_same_19 (by decide) (fun c_4 => ?_) (fun c_4 => ?_)
        · refine lv_iconst (v := 0) hx hb dX11_same_24 (by decide) ?_
          refine lv_istore_n (lv' := [(3, .int 0), (0, .ref x0), (1, .int pp), (2, .int ee)]) hx hb dX11_same_25 rfl hl (by decide) rfl (fun ls hl => ?_)
          exact c_x_same_loop l D cI cJ cC cZ cS x0 q pp ee E 1440 0 0 rfl rfl (by simp only [sp_same, if_neg c_1, if_neg c_2, if_neg c_3, if_pos c_4]) hP hD hS (lv_sub hl [0, 1, 2, 3] rfl)
        · refine lv_iconst (v := (-1)) hx hb dX11_same_22 (by decide) ?_
          have hP := hP.sub (ws' := []) [] rfl
          have hD := hD.sub (ws' := []) [] (by decide) rfl
          exact sk_iret hx hb hr rfl hlocks hK hP hD hS (⟨by simp only [sp_same, if_neg c_1, if_neg c_2, if_neg c_3, if_neg c_4], rfl⟩) (Nat.le_of_ble_eq_true rfl) (Nat.le_of_ble_eq_true rfl) dX11_same_23
