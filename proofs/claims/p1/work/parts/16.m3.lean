theorem z_b {v : Int32} (h : ¬ sp_isIn v.toInt64 0 1439 = 0) : 0 ≤ v.toInt ∧ v.toInt ≤ 1439 := sk_isIn_one h
theorem z_same1 {pp ee : Int32} (h : sp_isIn pp.toInt64 0 1439 = 0) : sp_same pp ee = -1 := by
  have e0 : (0 : Int32).toInt = 0 := rfl
  have e1 : (1439 : Int32).toInt = 1439 := rfl
  have e2 : (1439 : Int64).toInt = 1439 := rfl
  rcases sk_isIn_zero h with h1 | h1
  · have a1 : pp < 0 := by rw [Int32.lt_iff_toInt_lt, e0]; exact h1
    simp only [sp_same, if_pos a1]
  · rw [e2] at h1
    have a1 : ¬ pp < 0 := by rw [Int32.lt_iff_toInt_lt, e0]; omega
    have a2 : 1439 < pp := by rw [Int32.lt_iff_toInt_lt, e1]; exact h1
    simp only [sp_same, if_neg a1, if_pos a2]
theorem z_same2 {pp ee : Int32} (h : sp_isIn ee.toInt64 0 1439 = 0) : sp_same pp ee = -1 := by
  have e0 : (0 : Int32).toInt = 0 := rfl
  have e1 : (1439 : Int32).toInt = 1439 := rfl
  have e2 : (1439 : Int64).toInt = 1439 := rfl
  unfold sp_same
  by_cases a1 : pp < 0
  · rw [if_pos a1]
  · rw [if_neg a1]
    by_cases a2 : 1439 < pp
    · rw [if_pos a2]
    · rw [if_neg a2]
      rcases sk_isIn_zero h with h1 | h1
      · have a3 : ee < 0 := by rw [Int32.lt_iff_toInt_lt, e0]; exact h1
        rw [if_pos a3]
      · rw [e2] at h1
        have a3 : ¬ ee < 0 := by rw [Int32.lt_iff_toInt_lt, e0]; omega
        have a4 : ¬ ee ≤ 1439 := by rw [Int32.le_iff_toInt_le, e1]; omega
        rw [if_neg a3, if_neg a4]
theorem z_same3 {pp ee : Int32} (hp : 0 ≤ pp.toInt ∧ pp.toInt ≤ 1439) (he : 0 ≤ ee.toInt ∧ ee.toInt ≤ 1439) : sp_same pp ee = sp_sameGo pp ee 1440 0 := by
  have e0 : (0 : Int32).toInt = 0 := rfl
  have e1 : (1439 : Int32).toInt = 1439 := rfl
  have a1 : ¬ pp < 0 := by rw [Int32.lt_iff_toInt_lt, e0]; omega
  have a2 : ¬ 1439 < pp := by rw [Int32.lt_iff_toInt_lt, e1]; omega
  have a3 : ¬ ee < 0 := by rw [Int32.lt_iff_toInt_lt, e0]; omega
  have a4 : ee ≤ 1439 := by rw [Int32.le_iff_toInt_le, e1]; omega
  simp only [sp_same, if_neg a1, if_neg a2, if_neg a3, if_pos a4]
theorem dX12_same_31 : decode cX12_same 31 = .ok (.iload 4, 2) := by decide +kernel
theorem dX12_same_33 : decode cX12_same 33 = .ok (.sipush 1440, 3) := by decide +kernel
theorem dX12_same_36 : decode cX12_same 36 = .ok (.if_icmp .ge 28, 3) := by decide +kernel
theorem dX12_same_64 : decode cX12_same 64 = .ok (.iconst (-1), 1) := by decide +kernel
theorem dX12_same_65 : decode cX12_same 65 = .ok (.ireturn, 1) := by decide +kernel
theorem dX12_same_39 : decode cX12_same 39 = .ok (.iload_n 3, 1) := by decide +kernel
theorem dX12_same_40 : decode cX12_same 40 = .ok (.ifCond .ne 6, 3) := by decide +kernel
theorem dX12_same_46 : decode cX12_same 46 = .ok (.iload_n 3, 1) := by decide +kernel
theorem dX12_same_47 : decode cX12_same 47 = .ok (.sipush 1440, 3) := by decide +kernel
theorem dX12_same_50 : decode cX12_same 50 = .ok (.iadd, 1) := by decide +kernel
theorem dX12_same_51 : decode cX12_same 51 = .ok (.iload_n 2, 1) := by decide +kernel
theorem dX12_same_52 : decode cX12_same 52 = .ok (.isub, 1) := by decide +kernel
theorem dX12_same_53 : decode cX12_same 53 = .ok (.sipush 1440, 3) := by decide +kernel
theorem dX12_same_56 : decode cX12_same 56 = .ok (.irem, 1) := by decide +kernel
theorem dX12_same_57 : decode cX12_same 57 = .ok (.istore_n 3, 1) := by decide +kernel
theorem dX12_same_58 : decode cX12_same 58 = .ok (.iinc 4 1, 3) := by decide +kernel
theorem dX12_same_61 : decode cX12_same 61 = .ok (.goto (-30), 3) := by decide +kernel
theorem dX12_same_43 : decode cX12_same 43 = .ok (.iload 4, 2) := by decide +kernel
theorem dX12_same_45 : decode cX12_same 45 = .ok (.ireturn, 1) := by decide +kernel
theorem w_8_116 : (Cond.code yX12_same cX12_same 5 (some .int)) ∈ wsL_law := sk_mem (ck_8 _ (List.mem_of_getElem? (i := 116) rfl)) rfl
set_option maxHeartbeats 4000000 in
set_option maxRecDepth 100000 in
theorem c_m_same_loop (l : Launch) (D : va_G) (cI cJ cC cZ cS : ClassId) (m0 : Nat) (g : Nat → Nat) (pp : Int32) (ee : Int32) {R : Room} {p : Program} {e : Env} {s : State} {m : MethodId} {below : List Frame} {meth : Method} {c : Code} {A : Nat → Prop} (E : skEnv p s m meth c cX12_same (some .int) 5 yX12_same [.ref m0, .int pp, .int ee] D (skT cI cJ cC cZ cS) A) (n : Nat) : ∀ (k : Nat) (i : Int32) (v : Int32) {H : Heap} {locs : List Loc} {ls : Array Slot}, (0 ≤ pp.toInt ∧ pp.toInt ≤ 1439) → (0 ≤ ee.toInt ∧ ee.toInt ≤ 1439) → k + n = 1440 → i = Int32.ofNat k → v.toInt = (pp.toInt - ee.toInt * (k : Int)) % 1440 → sp_same pp ee = sp_sameGo pp ee n k → va_P D vwCl [(m0, .inr (12, mF (mV g)))] H → va_D A [(m0, .inr (12, mF (mV g)))] → va_S A s.heap H locs → lv_has ls 5 [(4, .int i), (3, .int v), (0, .ref m0), (1, .int pp), (2, .int ee)] → W p l e R s m ([.ref m0, .int pp, .int ee] : List Value).toArray below meth c H locs 0 0 (MQ below (skI D (skT cI cJ cC cZ cS) (fun (r : Int32) (u : va_W) => r = sp_same pp ee ∧ u = []) A) ([.ref m0, .int pp, .int ee] : List Value).toArray s 0 0 A) (F0 m 31 ls []) := by
  obtain ⟨hx, hb, hr, hml, hlocks, hin, hown, hts, hK, hA⟩ := id E
  have hown : s.vm.findClass RX12 = some m.cls := hown
  induction n with
  | zero =>
    intro k i v H locs ls hp he hk hi hv hsp hP hD hS hl
    refine lv_iload hx hb dX12_same_31 (lv_at hl 0 rfl) ?_
    refine lv_sipush (v := 1440) hx hb dX12_same_33 (by decide) ?_
    refine lv_icmp_ge (tgt := 64) hx hb dX12_same_36 (by decide) (fun c_101 => ?_) (fun c => absurd (z_ge (M := 1440) hi (by omega) (by omega)) c)
    refine lv_iconst (v := (-1)) hx hb dX12_same_64 (by decide) ?_
    have hP := hP.sub (ws' := []) [] rfl
    have hD := hD.sub (ws' := []) [] (by decide) rfl
    exact sk_iret hx hb hr rfl hlocks hK hP hD hS (⟨by rw [hsp]; rfl, rfl⟩) (Nat.le_of_ble_eq_true rfl) (Nat.le_of_ble_eq_true rfl) dX12_same_65
  | succ n ih =>
    intro k i v H locs ls hp he hk hi hv hsp hP hD hS hl
    refine lv_iload hx hb dX12_same_31 (lv_at hl 0 rfl) ?_
    refine lv_sipush (v := 1440) hx hb dX12_same_33 (by decide) ?_
    refine lv_icmp_ge (tgt := 64) hx hb dX12_same_36 (by decide) (fun c => absurd c (z_lt (M := 1440) hi (by omega) (by decide))) (fun c_101 => ?_)
    refine lv_iload_n hx hb dX12_same_39 rfl (lv_at hl 1 rfl) ?_
    refine lv_if_ne (tgt := 46) hx hb dX12_same_40 (by decide) (fun c_102 => ?_) (fun c_102 => ?_)
    · refine lv_iload_n hx hb dX12_same_46 rfl (lv_at hl 1 rfl) ?_
      refine lv_sipush (v := 1440) hx hb dX12_same_47 (by decide) ?_
      refine lv_iadd hx hb dX12_same_50 ?_
      refine lv_topi (fun v_103 ev_103 => ?_)
      refine lv_iload_n hx hb dX12_same_51 rfl (lv_at hl 4 rfl) ?_
      refine lv_isub hx hb dX12_same_52 ?_
      refine lv_topi (fun v_104 ev_104 => ?_)
      refine lv_sipush (v := 1440) hx hb dX12_same_53 (by decide) ?_
      refine lv_irem hx hb dX12_same_56 (by decide) ?_
      refine lv_topi (fun v_105 ev_105 => ?_)
      refine lv_istore_n (lv' := [(3, .int v_105), (4, .int i), (0, .ref m0), (1, .int pp), (2, .int ee)]) hx hb dX12_same_57 rfl hl (by decide) rfl (fun ls hl => ?_)
      refine lv_iinc (v := i + 1) (lv' := [(4, .int (i + 1)), (3, .int v_105), (0, .ref m0), (1, .int pp), (2, .int ee)]) hx hb dX12_same_58 hl (k := 1) rfl rfl (by decide) rfl (fun ls hl => ?_)
      refine lv_goto (tgt := 31) hx hb dX12_same_61 (by decide) ?_
      exact ih (k + 1) (i + 1) v_105 hp he (by omega) (by rw [hi]; exact z_s k) (by rw [ev_105, ev_104, ev_103]; exact z_next he hv) (by rw [hsp, sp_sameGo, if_neg (fun h => c_102 ((z_eq hp he (by omega) hv).mpr h))]) hP hD hS (lv_sub hl [0, 1, 2, 3, 4] rfl)
    · refine lv_iload hx hb dX12_same_43 (lv_at hl 0 rfl) ?_
      have hP := hP.sub (ws' := []) [] rfl
      have hD := hD.sub (ws' := []) [] (by decide) rfl
      exact sk_iret hx hb hr rfl hlocks hK hP hD hS (⟨by rw [hsp, sp_sameGo, if_pos ((z_eq hp he (by omega) hv).mp c_102)]; exact hi, rfl⟩) (Nat.le_of_ble_eq_true rfl) (Nat.le_of_ble_eq_true rfl) dX12_same_45
theorem dX12_same_0 : decode cX12_same 0 = .ok (.iload_n 1, 1) := by decide +kernel
theorem dX12_same_1 : decode cX12_same 1 = .ok (.i2l, 1) := by decide +kernel
theorem dX12_same_2 : decode cX12_same 2 = .ok (.lconst 0, 1) := by decide +kernel
theorem dX12_same_3 : decode cX12_same 3 = .ok (.ldc2_w 469, 3) := by decide +kernel
theorem dX12_same_6 : decode cX12_same 6 = .ok (.invokestatic 238, 3) := by decide +kernel
theorem dX12_same_9 : decode cX12_same 9 = .ok (.ifCond .eq 15, 3) := by decide +kernel
theorem dX12_same_24 : decode cX12_same 24 = .ok (.iconst (-1), 1) := by decide +kernel
theorem dX12_same_25 : decode cX12_same 25 = .ok (.ireturn, 1) := by decide +kernel
theorem dX12_same_12 : decode cX12_same 12 = .ok (.iload_n 2, 1) := by decide +kernel
theorem dX12_same_13 : decode cX12_same 13 = .ok (.i2l, 1) := by decide +kernel
theorem dX12_same_14 : decode cX12_same 14 = .ok (.lconst 0, 1) := by decide +kernel
theorem dX12_same_15 : decode cX12_same 15 = .ok (.ldc2_w 469, 3) := by decide +kernel
theorem dX12_same_18 : decode cX12_same 18 = .ok (.invokestatic 238, 3) := by decide +kernel
theorem dX12_same_21 : decode cX12_same 21 = .ok (.ifCond .ne 5, 3) := by decide +kernel
theorem dX12_same_26 : decode cX12_same 26 = .ok (.iload_n 1, 1) := by decide +kernel
theorem dX12_same_27 : decode cX12_same 27 = .ok (.istore_n 3, 1) := by decide +kernel
theorem dX12_same_28 : decode cX12_same 28 = .ok (.iconst 0, 1) := by decide +kernel
theorem dX12_same_29 : decode cX12_same 29 = .ok (.istore 4, 2) := by decide +kernel
theorem w_8_117 : (Cond.constantLong RX12 469 (1439)) ∈ wsL_law := sk_mem (ck_8 _ (List.mem_of_getElem? (i := 117) rfl)) rfl
set_option maxHeartbeats 4000000 in
set_option maxRecDepth 100000 in
theorem c_m_same (l : Launch) (D : va_G) (cI cJ cC cZ cS : ClassId) (m0 : Nat) (g : Nat → Nat) (pp : Int32) (ee : Int32)  : skM l yX12_same cX12_same 5 (some .int) 1 25 0 0 D (skT cI cJ cC cZ cS) [.ref m0, .int pp, .int ee] [(m0, .inr (12, mF (mV g)))] (skI D (skT cI cJ cC cZ cS) (fun (r : Int32) (u : va_W) => r = sp_same pp ee ∧ u = [])) := by
  refine skM_of (by decide) (Nat.le_of_ble_eq_true rfl) ?_
  intro p e s m below meth c A ls E hP hD hl
  obtain ⟨hx, hb, hr, hml, hlocks, hin, hown, hts, hK, hA⟩ := id E
  have hown : s.vm.findClass RX12 = some m.cls := hown
  have hS : va_S A s.heap s.heap [] := va_S.rf
  have hl : lv_has ls 5 [(0, .ref m0), (1, .int pp), (2, .int ee)] := hl
  refine lv_iload_n hx hb dX12_same_0 rfl (lv_at hl 1 rfl) ?_
  refine lv_i2l hx hb dX12_same_1 rfl ?_
  refine lv_lconst (v := 0) hx hb dX12_same_2 (by decide) ?_
  refine lv_ldc2 (v := 1439) hx hb hown (hts _ w_8_117) dX12_same_3 ?_
  refine sk_Si (n := 3) (rest := []) (wr := [(m0, .inr (12, mF (mV g)))]) ⟨hx, hb, hml, hown, hts⟩ hl.1 (c_m_isIn l D cI cJ cC cZ cS (Int32.toInt64 pp) 0 1439) w_7_0 w_7_1 w_1_14 w_7_2 (by decide +kernel) ⟨⟨(Nat.le_of_ble_eq_true rfl), (Nat.le_of_ble_eq_true rfl)⟩, (Nat.le_of_ble_eq_true rfl), (Nat.le_of_ble_eq_true rfl)⟩ hK hP hD hS hA [] [0] rfl rfl (by decide) (by decide) (by decide) rfl rfl (Nat.le_of_ble_eq_true rfl) dX12_same_6 (fun r_1 u H locs hw hP hD hS => ?_)
  obtain ⟨hf_2, rfl⟩ := hw
  have hP : va_P D vwCl [(m0, .inr (12, mF (mV g)))] H := hP
  have hD : va_D A [(m0, .inr (12, mF (mV g)))] := hD
  refine W.widen (k := 0) (n := 0) (Nat.le_of_ble_eq_true rfl) (Nat.le_of_ble_eq_true rfl) ?_
  refine lv_if_eq (tgt := 24) hx hb dX12_same_9 (by decide) (fun c_3 => ?_) (fun c_3 => ?_)
  · refine lv_iconst (v := (-1)) hx hb dX12_same_24 (by decide) ?_
    have hP := hP.sub (ws' := []) [] rfl
    have hD := hD.sub (ws' := []) [] (by decide) rfl
    exact sk_iret hx hb hr rfl hlocks hK hP hD hS (⟨(z_same1 (hf_2.symm.trans c_3)).symm, rfl⟩) (Nat.le_of_ble_eq_true rfl) (Nat.le_of_ble_eq_true rfl) dX12_same_25
  · refine lv_iload_n hx hb dX12_same_12 rfl (lv_at hl 2 rfl) ?_
    refine lv_i2l hx hb dX12_same_13 rfl ?_
    refine lv_lconst (v := 0) hx hb dX12_same_14 (by decide) ?_
    refine lv_ldc2 (v := 1439) hx hb hown (hts _ w_8_117) dX12_same_15 ?_
    refine sk_Si (n := 3) (rest := []) (wr := [(m0, .inr (12, mF (mV g)))]) ⟨hx, hb, hml, hown, hts⟩ hl.1 (c_m_isIn l D cI cJ cC cZ cS (Int32.toInt64 ee) 0 1439) w_7_0 w_7_1 w_1_14 w_7_2 (by decide +kernel) ⟨⟨(Nat.le_of_ble_eq_true rfl), (Nat.le_of_ble_eq_true rfl)⟩, (Nat.le_of_ble_eq_true rfl), (Nat.le_of_ble_eq_true rfl)⟩ hK hP hD hS hA [] [0] rfl rfl (by decide) (by decide) (by decide) rfl rfl (Nat.le_of_ble_eq_true rfl) dX12_same_18 (fun r_4 u H locs hw hP hD hS => ?_)
    obtain ⟨hf_5, rfl⟩ := hw
    have hP : va_P D vwCl [(m0, .inr (12, mF (mV g)))] H := hP
    have hD : va_D A [(m0, .inr (12, mF (mV g)))] := hD
    refine W.widen (k := 0) (n := 0) (Nat.le_of_ble_eq_true rfl) (Nat.le_of_ble_eq_true rfl) ?_
    refine lv_if_ne (tgt := 26) hx hb dX12_same_21 (by decide) (fun c_6 => ?_) (fun c_6 => ?_)
    · refine lv_iload_n hx hb dX12_same_26 rfl (lv_at hl 1 rfl) ?_
      refine lv_istore_n (lv' := [(3, .int pp), (0, .ref m0), (1, .int pp), (2, .int ee)]) hx hb dX12_same_27 rfl hl (by decide) rfl (fun ls hl => ?_)
      refine lv_iconst (v := 0) hx hb dX12_same_28 (by decide) ?_
      refine lv_istore (lv' := [(4, .int 0), (3, .int pp), (0, .ref m0), (1, .int pp), (2, .int ee)]) hx hb dX12_same_29 hl (by decide) rfl (fun ls hl => ?_)
      have hp := z_b (fun h => c_3 (hf_2.trans h))
      have he := z_b (fun h => c_6 (hf_5.trans h))
      exact c_m_same_loop l D cI cJ cC cZ cS m0 g pp ee E 1440 0 0 pp hp he rfl rfl (by omega) (z_same3 hp he) hP hD hS (lv_sub hl [0, 1, 2, 3, 4] rfl)
    · refine lv_iconst (v := (-1)) hx hb dX12_same_24 (by decide) ?_
      have hP := hP.sub (ws' := []) [] rfl
      have hD := hD.sub (ws' := []) [] (by decide) rfl
      exact sk_iret hx hb hr rfl hlocks hK hP hD hS (⟨(z_same2 (hf_5.symm.trans c_6)).symm, rfl⟩) (Nat.le_of_ble_eq_true rfl) (Nat.le_of_ble_eq_true rfl) dX12_same_25
theorem dX12_feed_28 : decode cX12_feed 28 = .ok (.iload 6, 2) := by decide +kernel
theorem dX12_feed_30 : decode cX12_feed 30 = .ok (.bipush 20, 2) := by decide +kernel
theorem dX12_feed_32 : decode cX12_feed 32 = .ok (.if_icmp .ge 92, 3) := by decide +kernel
theorem dX12_feed_124 : decode cX12_feed 124 = .ok (.aload_n 0, 1) := by decide +kernel
theorem dX12_feed_125 : decode cX12_feed 125 = .ok (.getfield 192, 3) := by decide +kernel
theorem dX12_feed_128 : decode cX12_feed 128 = .ok (.ireturn, 1) := by decide +kernel
theorem dX12_feed_35 : decode cX12_feed 35 = .ok (.iload 6, 2) := by decide +kernel
theorem dX12_feed_37 : decode cX12_feed 37 = .ok (.iconst 4, 1) := by decide +kernel
theorem dX12_feed_38 : decode cX12_feed 38 = .ok (.if_icmp .ge 7, 3) := by decide +kernel
theorem dX12_feed_45 : decode cX12_feed 45 = .ok (.iload 6, 2) := by decide +kernel
theorem dX12_feed_47 : decode cX12_feed 47 = .ok (.bipush 8, 2) := by decide +kernel
theorem dX12_feed_49 : decode cX12_feed 49 = .ok (.if_icmp .ge 7, 3) := by decide +kernel
theorem dX12_feed_56 : decode cX12_feed 56 = .ok (.iload 6, 2) := by decide +kernel
theorem dX12_feed_58 : decode cX12_feed 58 = .ok (.bipush 12, 2) := by decide +kernel
theorem dX12_feed_60 : decode cX12_feed 60 = .ok (.if_icmp .ge 7, 3) := by decide +kernel
theorem dX12_feed_67 : decode cX12_feed 67 = .ok (.iload 6, 2) := by decide +kernel
theorem dX12_feed_69 : decode cX12_feed 69 = .ok (.bipush 16, 2) := by decide +kernel
theorem dX12_feed_71 : decode cX12_feed 71 = .ok (.if_icmp .ge 8, 3) := by decide +kernel
theorem dX12_feed_79 : decode cX12_feed 79 = .ok (.iload 5, 2) := by decide +kernel
theorem dX12_feed_81 : decode cX12_feed 81 = .ok (.istore 7, 2) := by decide +kernel
theorem dX12_feed_83 : decode cX12_feed 83 = .ok (.aload_n 0, 1) := by decide +kernel
theorem dX12_feed_84 : decode cX12_feed 84 = .ok (.getfield 7, 3) := by decide +kernel
theorem dX12_feed_87 : decode cX12_feed 87 = .ok (.aload_n 0, 1) := by decide +kernel
theorem dX12_feed_88 : decode cX12_feed 88 = .ok (.getfield 192, 3) := by decide +kernel
theorem dX12_feed_91 : decode cX12_feed 91 = .ok (.iload 7, 2) := by decide +kernel
theorem dX12_feed_93 : decode cX12_feed 93 = .ok (.bipush 8, 2) := by decide +kernel
theorem dX12_feed_95 : decode cX12_feed 95 = .ok (.iconst 3, 1) := by decide +kernel
theorem dX12_feed_96 : decode cX12_feed 96 = .ok (.iload 6, 2) := by decide +kernel
theorem dX12_feed_98 : decode cX12_feed 98 = .ok (.iconst 4, 1) := by decide +kernel
theorem dX12_feed_99 : decode cX12_feed 99 = .ok (.irem, 1) := by decide +kernel
theorem dX12_feed_100 : decode cX12_feed 100 = .ok (.isub, 1) := by decide +kernel
theorem dX12_feed_101 : decode cX12_feed 101 = .ok (.imul, 1) := by decide +kernel
theorem dX12_feed_102 : decode cX12_feed 102 = .ok (.ishr, 1) := by decide +kernel
theorem dX12_feed_103 : decode cX12_feed 103 = .ok (.sipush 255, 3) := by decide +kernel
theorem dX12_feed_106 : decode cX12_feed 106 = .ok (.iand, 1) := by decide +kernel
theorem dX12_feed_107 : decode cX12_feed 107 = .ok (.iastore, 1) := by decide +kernel
theorem dX12_feed_108 : decode cX12_feed 108 = .ok (.aload_n 0, 1) := by decide +kernel
theorem dX12_feed_109 : decode cX12_feed 109 = .ok (.dup, 1) := by decide +kernel
theorem dX12_feed_110 : decode cX12_feed 110 = .ok (.getfield 192, 3) := by decide +kernel
theorem dX12_feed_113 : decode cX12_feed 113 = .ok (.iconst 1, 1) := by decide +kernel
theorem dX12_feed_114 : decode cX12_feed 114 = .ok (.iadd, 1) := by decide +kernel
theorem dX12_feed_115 : decode cX12_feed 115 = .ok (.putfield 192, 3) := by decide +kernel
theorem dX12_feed_118 : decode cX12_feed 118 = .ok (.iinc 6 1, 3) := by decide +kernel
theorem dX12_feed_121 : decode cX12_feed 121 = .ok (.goto (-93), 3) := by decide +kernel
theorem dX12_feed_74 : decode cX12_feed 74 = .ok (.iload 4, 2) := by decide +kernel
theorem dX12_feed_76 : decode cX12_feed 76 = .ok (.goto 5, 3) := by decide +kernel
theorem dX12_feed_63 : decode cX12_feed 63 = .ok (.iload_n 3, 1) := by decide +kernel
theorem dX12_feed_64 : decode cX12_feed 64 = .ok (.goto 17, 3) := by decide +kernel
theorem dX12_feed_52 : decode cX12_feed 52 = .ok (.iload_n 2, 1) := by decide +kernel
theorem dX12_feed_53 : decode cX12_feed 53 = .ok (.goto 28, 3) := by decide +kernel
theorem dX12_feed_41 : decode cX12_feed 41 = .ok (.iload_n 1, 1) := by decide +kernel
theorem dX12_feed_42 : decode cX12_feed 42 = .ok (.goto 39, 3) := by decide +kernel
theorem w_6_197 : (Cond.code yX12_feed cX12_feed 8 (some .int)) ∈ wsL_law := sk_mem (ck_6 _ (List.mem_of_getElem? (i := 197) rfl)) rfl
set_option maxHeartbeats 4000000 in
set_option maxRecDepth 100000 in
theorem c_m_feed_loop (l : Launch) (D : va_G) (cI cJ cC cZ cS : ClassId) (m0 : Nat) (g : Nat → Nat) (a1 : Int32) (a2 : Int32) (a3 : Int32) (a4 : Int32) (a5 : Int32) {R : Room} {p : Program} {e : Env} {s : State} {m : MethodId} {below : List Frame} {meth : Method} {c : Code} {A : Nat → Prop} (E : skEnv p s m meth c cX12_feed (some .int) 8 yX12_feed [.ref m0, .int a1, .int a2, .int a3, .int a4, .int a5] D (skT cI cJ cC cZ cS) A) (n : Nat) : ∀ (k : Nat) (i : Int32) (F : Nat → Value) (f : Nat → Int32) {H : Heap} {locs : List Loc} {ls : Array Slot}, k + n = 20 → i = Int32.ofNat k → F 0 = .ref (g 0) → F 1 = .int i → va_P D vwCl [(m0, .inr (12, mF F)), (g 0, .inl (cI, 1600, .inl f))] H → va_D A [(m0, .inr (12, mF F)), (g 0, .inl (cI, 1600, .inl f))] → va_S A s.heap H locs → lv_has ls 8 [(6, .int i), (0, .ref m0), (1, .int a1), (2, .int a2), (3, .int a3), (4, .int a4), (5, .int a5)] → W p l e R s m ([.ref m0, .int a1, .int a2, .int a3, .int a4, .int a5] : List Value).toArray below meth c H locs 0 0 (MQ below (skI D (skT cI cJ cC cZ cS) (fun (r : Int32) (u : va_W) => r = 20 ∧ u = []) A) ([.ref m0, .int a1, .int a2, .int a3, .int a4, .int a5] : List Value).toArray s 0 0 A) (F0 m 28 ls []) := by
  obtain ⟨hx, hb, hr, hml, hlocks, hin, hown, hts, hK, hA⟩ := id E
  have hown : s.vm.findClass RX12 = some m.cls := hown
  induction n with
  | zero =>
    intro k i F f H locs ls hk hi h0 h1 hP hD hS hl
    refine lv_iload hx hb dX12_feed_28 (lv_at hl 0 rfl) ?_
    refine lv_bipush (v := 20) hx hb dX12_feed_30 (by decide) ?_
    refine lv_icmp_ge (tgt := 124) hx hb dX12_feed_32 (by decide) (fun c_101 => ?_) (fun c => absurd (z_ge (M := 20) hi (by omega) (by omega)) c)
    refine lv_aload_n hx hb dX12_feed_124 rfl (lv_at hl 1 rfl) ?_
    refine sk_get (v := .int i) (C := RX12) (T := TX12) (N := 92) hx hb hts inlX12 hown hK hP 0 rfl rfl 1 (by decide) w_5_156 (mF_get (k := 1) (by decide) h1) dX12_feed_125 ?_
    have hP := hP.sub (ws' := []) [] rfl
    have hD := hD.sub (ws' := []) [] (by decide) rfl
    exact sk_iret hx hb hr rfl hlocks hK hP hD hS (⟨by rw [hi, show k = 20 by omega]; rfl, rfl⟩) (Nat.le_of_ble_eq_true rfl) (Nat.le_of_ble_eq_true rfl) dX12_feed_128
  | succ n ih =>
    intro k i F f H locs ls hk hi h0 h1 hP hD hS hl
    refine lv_iload hx hb dX12_feed_28 (lv_at hl 0 rfl) ?_
    refine lv_bipush (v := 20) hx hb dX12_feed_30 (by decide) ?_
    refine lv_icmp_ge (tgt := 124) hx hb dX12_feed_32 (by decide) (fun c => absurd c (z_lt (M := 20) hi (by omega) (by decide))) (fun c_101 => ?_)
    refine lv_iload hx hb dX12_feed_35 (lv_at hl 0 rfl) ?_
    refine lv_iconst (v := 4) hx hb dX12_feed_37 (by decide) ?_
    refine lv_icmp_ge (tgt := 45) hx hb dX12_feed_38 (by decide) (fun c_102 => ?_) (fun c_102 => ?_)
    · refine lv_iload hx hb dX12_feed_45 (lv_at hl 0 rfl) ?_
      refine lv_bipush (v := 8) hx hb dX12_feed_47 (by decide) ?_
      refine lv_icmp_ge (tgt := 56) hx hb dX12_feed_49 (by decide) (fun c_103 => ?_) (fun c_103 => ?_)
      · refine lv_iload hx hb dX12_feed_56 (lv_at hl 0 rfl) ?_
        refine lv_bipush (v := 12) hx hb dX12_feed_58 (by decide) ?_
        refine lv_icmp_ge (tgt := 67) hx hb dX12_feed_60 (by decide) (fun c_104 => ?_) (fun c_104 => ?_)
        · refine lv_iload hx hb dX12_feed_67 (lv_at hl 0 rfl) ?_
          refine lv_bipush (v := 16) hx hb dX12_feed_69 (by decide) ?_
          refine lv_icmp_ge (tgt := 79) hx hb dX12_feed_71 (by decide) (fun c_105 => ?_) (fun c_105 => ?_)
          · refine lv_iload hx hb dX12_feed_79 (lv_at hl 6 rfl) ?_
            refine lv_istore (lv' := [(7, .int a5), (6, .int i), (0, .ref m0), (1, .int a1), (2, .int a2), (3, .int a3), (4, .int a4), (5, .int a5)]) hx hb dX12_feed_81 hl (by decide) rfl (fun ls hl => ?_)
            refine lv_aload_n hx hb dX12_feed_83 rfl (lv_at hl 2 rfl) ?_
            refine sk_get (v := .ref (g 0)) (C := RX12) (T := TX12) (N := 92) hx hb hts inlX12 hown hK hP 0 rfl rfl 0 (by decide) w_5_155 (mF_get (k := 0) (by decide) h0) dX12_feed_84 ?_
            refine lv_aload_n hx hb dX12_feed_87 rfl (lv_at hl 2 rfl) ?_
            refine sk_get (v := .int i) (C := RX12) (T := TX12) (N := 92) hx hb hts inlX12 hown hK hP 0 rfl rfl 1 (by decide) w_5_156 (mF_get (k := 1) (by decide) h1) dX12_feed_88 ?_
            refine lv_iload hx hb dX12_feed_91 (lv_at hl 0 rfl) ?_
            refine lv_bipush (v := 8) hx hb dX12_feed_93 (by decide) ?_
            refine lv_iconst (v := 3) hx hb dX12_feed_95 (by decide) ?_
            refine lv_iload hx hb dX12_feed_96 (lv_at hl 1 rfl) ?_
            refine lv_iconst (v := 4) hx hb dX12_feed_98 (by decide) ?_
            refine lv_irem hx hb dX12_feed_99 (by decide) ?_
            refine lv_topi (fun v_106 ev_106 => ?_)
            refine lv_isub hx hb dX12_feed_100 ?_
            refine lv_topi (fun v_107 ev_107 => ?_)
            refine lv_imul hx hb dX12_feed_101 ?_
            refine lv_topi (fun v_108 ev_108 => ?_)
            refine lv_ishr hx hb dX12_feed_102 ?_
            refine lv_topi (fun v_109 ev_109 => ?_)
            refine lv_sipush (v := 255) hx hb dX12_feed_103 (by decide) ?_
            refine lv_iand hx hb dX12_feed_106 ?_
            refine lv_topi (fun v_110 ev_110 => ?_)
            refine sk_iastO (ws' := fun f_111 => [(m0, .inr (12, mF F)), (g 0, .inl (cI, 1600, .inl f_111))]) hx hb hK hP hD hS 1 0 rfl rfl (z_in (M := 1600) hi (by omega) (by decide)) (fun _ => rfl) dX12_feed_107 (fun f_111 H locs hP hD hS => ?_)
            refine lv_aload_n hx hb dX12_feed_108 rfl (lv_at hl 2 rfl) ?_
            refine lv_dup hx hb dX12_feed_109 rfl ?_
            refine sk_get (v := .int i) (C := RX12) (T := TX12) (N := 92) hx hb hts inlX12 hown hK hP 0 rfl rfl 1 (by decide) w_5_156 (mF_get (k := 1) (by decide) h1) dX12_feed_110 ?_
            refine lv_iconst (v := 1) hx hb dX12_feed_113 (by decide) ?_
            refine lv_iadd hx hb dX12_feed_114 ?_
            refine lv_topi (fun v_112 ev_112 => ?_)
            refine sk_put (ws' := [(m0, .inr (12, mF (updV F 1 (.int v_112)))), (g 0, .inl (cI, 1600, .inl f_111))]) (C := RX12) (T := TX12) (N := 92) (v := .int v_112) hx hb hts inlX12 tyX12 tyX12_ok nmX12 hown hK hP hD hS 0 rfl rfl 1 (by decide) w_5_156 rfl rfl rfl (mF_len (by decide)) (mF_w (by decide) rfl) dX12_feed_115 (fun H locs hP hD hS => ?_)
            refine lv_iinc (v := i + 1) (lv' := [(6, .int (i + 1)), (7, .int a5), (0, .ref m0), (1, .int a1), (2, .int a2), (3, .int a3), (4, .int a4), (5, .int a5)]) hx hb dX12_feed_118 hl (k := 1) rfl rfl (by decide) rfl (fun ls hl => ?_)
            refine lv_goto (tgt := 28) hx hb dX12_feed_121 (by decide) ?_
            subst ev_112
            exact ih (k + 1) (i + 1) (updV F 1 (.int (i + 1))) f_111 (by omega) (by rw [hi]; exact z_s k) h0 rfl hP hD hS (lv_sub hl [0, 2, 3, 4, 5, 6, 7] rfl)
          · refine lv_iload hx hb dX12_feed_74 (lv_at hl 5 rfl) ?_
            refine lv_goto (tgt := 81) hx hb dX12_feed_76 (by decide) ?_
            refine lv_istore (lv' := [(7, .int a4), (6, .int i), (0, .ref m0), (1, .int a1), (2, .int a2), (3, .int a3), (4, .int a4), (5, .int a5)]) hx hb dX12_feed_81 hl (by decide) rfl (fun ls hl => ?_)
            refine lv_aload_n hx hb dX12_feed_83 rfl (lv_at hl 2 rfl) ?_
            refine sk_get (v := .ref (g 0)) (C := RX12) (T := TX12) (N := 92) hx hb hts inlX12 hown hK hP 0 rfl rfl 0 (by decide) w_5_155 (mF_get (k := 0) (by decide) h0) dX12_feed_84 ?_
            refine lv_aload_n hx hb dX12_feed_87 rfl (lv_at hl 2 rfl) ?_
            refine sk_get (v := .int i) (C := RX12) (T := TX12) (N := 92) hx hb hts inlX12 hown hK hP 0 rfl rfl 1 (by decide) w_5_156 (mF_get (k := 1) (by decide) h1) dX12_feed_88 ?_
            refine lv_iload hx hb dX12_feed_91 (lv_at hl 0 rfl) ?_
            refine lv_bipush (v := 8) hx hb dX12_feed_93 (by decide) ?_
            refine lv_iconst (v := 3) hx hb dX12_feed_95 (by decide) ?_
            refine lv_iload hx hb dX12_feed_96 (lv_at hl 1 rfl) ?_
            refine lv_iconst (v := 4) hx hb dX12_feed_98 (by decide) ?_
            refine lv_irem hx hb dX12_feed_99 (by decide) ?_
            refine lv_topi (fun v_113 ev_113 => ?_)
            refine lv_isub hx hb dX12_feed_100 ?_
            refine lv_topi (fun v_114 ev_114 => ?_)
            refine lv_imul hx hb dX12_feed_101 ?_
            refine lv_topi (fun v_115 ev_115 => ?_)
            refine lv_ishr hx hb dX12_feed_102 ?_
            refine lv_topi (fun v_116 ev_116 => ?_)
            refine lv_sipush (v := 255) hx hb dX12_feed_103 (by decide) ?_
            refine lv_iand hx hb dX12_feed_106 ?_
            refine lv_topi (fun v_117 ev_117 => ?_)
            refine sk_iastO (ws' := fun f_118 => [(m0, .inr (12, mF F)), (g 0, .inl (cI, 1600, .inl f_118))]) hx hb hK hP hD hS 1 0 rfl rfl (z_in (M := 1600) hi (by omega) (by decide)) (fun _ => rfl) dX12_feed_107 (fun f_118 H locs hP hD hS => ?_)
            refine lv_aload_n hx hb dX12_feed_108 rfl (lv_at hl 2 rfl) ?_
            refine lv_dup hx hb dX12_feed_109 rfl ?_
            refine sk_get (v := .int i) (C := RX12) (T := TX12) (N := 92) hx hb hts inlX12 hown hK hP 0 rfl rfl 1 (by decide) w_5_156 (mF_get (k := 1) (by decide) h1) dX12_feed_110 ?_
            refine lv_iconst (v := 1) hx hb dX12_feed_113 (by decide) ?_
            refine lv_iadd hx hb dX12_feed_114 ?_
            refine lv_topi (fun v_119 ev_119 => ?_)
            refine sk_put (ws' := [(m0, .inr (12, mF (updV F 1 (.int v_119)))), (g 0, .inl (cI, 1600, .inl f_118))]) (C := RX12) (T := TX12) (N := 92) (v := .int v_119) hx hb hts inlX12 tyX12 tyX12_ok nmX12 hown hK hP hD hS 0 rfl rfl 1 (by decide) w_5_156 rfl rfl rfl (mF_len (by decide)) (mF_w (by decide) rfl) dX12_feed_115 (fun H locs hP hD hS => ?_)
            refine lv_iinc (v := i + 1) (lv' := [(6, .int (i + 1)), (7, .int a4), (0, .ref m0), (1, .int a1), (2, .int a2), (3, .int a3), (4, .int a4), (5, .int a5)]) hx hb dX12_feed_118 hl (k := 1) rfl rfl (by decide) rfl (fun ls hl => ?_)
            refine lv_goto (tgt := 28) hx hb dX12_feed_121 (by decide) ?_
            subst ev_119
            exact ih (k + 1) (i + 1) (updV F 1 (.int (i + 1))) f_118 (by omega) (by rw [hi]; exact z_s k) h0 rfl hP hD hS (lv_sub hl [0, 2, 3, 4, 5, 6, 7] rfl)
        · refine lv_iload_n hx hb dX12_feed_63 rfl (lv_at hl 4 rfl) ?_
          refine lv_goto (tgt := 81) hx hb dX12_feed_64 (by decide) ?_
          refine lv_istore (lv' := [(7, .int a3), (6, .int i), (0, .ref m0), (1, .int a1), (2, .int a2), (3, .int a3), (4, .int a4), (5, .int a5)]) hx hb dX12_feed_81 hl (by decide) rfl (fun ls hl => ?_)
          refine lv_aload_n hx hb dX12_feed_83 rfl (lv_at hl 2 rfl) ?_
          refine sk_get (v := .ref (g 0)) (C := RX12) (T := TX12) (N := 92) hx hb hts inlX12 hown hK hP 0 rfl rfl 0 (by decide) w_5_155 (mF_get (k := 0) (by decide) h0) dX12_feed_84 ?_
          refine lv_aload_n hx hb dX12_feed_87 rfl (lv_at hl 2 rfl) ?_
          refine sk_get (v := .int i) (C := RX12) (T := TX12) (N := 92) hx hb hts inlX12 hown hK hP 0 rfl rfl 1 (by decide) w_5_156 (mF_get (k := 1) (by decide) h1) dX12_feed_88 ?_
          refine lv_iload hx hb dX12_feed_91 (lv_at hl 0 rfl) ?_
          refine lv_bipush (v := 8) hx hb dX12_feed_93 (by decide) ?_
          refine lv_iconst (v := 3) hx hb dX12_feed_95 (by decide) ?_
          refine lv_iload hx hb dX12_feed_96 (lv_at hl 1 rfl) ?_
          refine lv_iconst (v := 4) hx hb dX12_feed_98 (by decide) ?_
          refine lv_irem hx hb dX12_feed_99 (by decide) ?_
          refine lv_topi (fun v_120 ev_120 => ?_)
          refine lv_isub hx hb dX12_feed_100 ?_
          refine lv_topi (fun v_121 ev_121 => ?_)
          refine lv_imul hx hb dX12_feed_101 ?_
          refine lv_topi (fun v_122 ev_122 => ?_)
          refine lv_ishr hx hb dX12_feed_102 ?_
          refine lv_topi (fun v_123 ev_123 => ?_)
          refine lv_sipush (v := 255) hx hb dX12_feed_103 (by decide) ?_
          refine lv_iand hx hb dX12_feed_106 ?_
          refine lv_topi (fun v_124 ev_124 => ?_)
          refine sk_iastO (ws' := fun f_125 => [(m0, .inr (12, mF F)), (g 0, .inl (cI, 1600, .inl f_125))]) hx hb hK hP hD hS 1 0 rfl rfl (z_in (M := 1600) hi (by omega) (by decide)) (fun _ => rfl) dX12_feed_107 (fun f_125 H locs hP hD hS => ?_)
          refine lv_aload_n hx hb dX12_feed_108 rfl (lv_at hl 2 rfl) ?_
          refine lv_dup hx hb dX12_feed_109 rfl ?_
          refine sk_get (v := .int i) (C := RX12) (T := TX12) (N := 92) hx hb hts inlX12 hown hK hP 0 rfl rfl 1 (by decide) w_5_156 (mF_get (k := 1) (by decide) h1) dX12_feed_110 ?_
          refine lv_iconst (v := 1) hx hb dX12_feed_113 (by decide) ?_
          refine lv_iadd hx hb dX12_feed_114 ?_
          refine lv_topi (fun v_126 ev_126 => ?_)
          refine sk_put (ws' := [(m0, .inr (12, mF (updV F 1 (.int v_126)))), (g 0, .inl (cI, 1600, .inl f_125))]) (C := RX12) (T := TX12) (N := 92) (v := .int v_126) hx hb hts inlX12 tyX12 tyX12_ok nmX12 hown hK hP hD hS 0 rfl rfl 1 (by decide) w_5_156 rfl rfl rfl (mF_len (by decide)) (mF_w (by decide) rfl) dX12_feed_115 (fun H locs hP hD hS => ?_)
          refine lv_iinc (v := i + 1) (lv' := [(6, .int (i + 1)), (7, .int a3), (0, .ref m0), (1, .int a1), (2, .int a2), (3, .int a3), (4, .int a4), (5, .int a5)]) hx hb dX12_feed_118 hl (k := 1) rfl rfl (by decide) rfl (fun ls hl => ?_)
          refine lv_goto (tgt := 28) hx hb dX12_feed_121 (by decide) ?_
          subst ev_126
          exact ih (k + 1) (i + 1) (updV F 1 (.int (i + 1))) f_125 (by omega) (by rw [hi]; exact z_s k) h0 rfl hP hD hS (lv_sub hl [0, 2, 3, 4, 5, 6, 7] rfl)
      · refine lv_iload_n hx hb dX12_feed_52 rfl (lv_at hl 3 rfl) ?_
        refine lv_goto (tgt := 81) hx hb dX12_feed_53 (by decide) ?_
        refine lv_istore (lv' := [(7, .int a2), (6, .int i), (0, .ref m0), (1, .int a1), (2, .int a2), (3, .int a3), (4, .int a4), (5, .int a5)]) hx hb dX12_feed_81 hl (by decide) rfl (fun ls hl => ?_)
        refine lv_aload_n hx hb dX12_feed_83 rfl (lv_at hl 2 rfl) ?_
        refine sk_get (v := .ref (g 0)) (C := RX12) (T := TX12) (N := 92) hx hb hts inlX12 hown hK hP 0 rfl rfl 0 (by decide) w_5_155 (mF_get (k := 0) (by decide) h0) dX12_feed_84 ?_
        refine lv_aload_n hx hb dX12_feed_87 rfl (lv_at hl 2 rfl) ?_
        refine sk_get (v := .int i) (C := RX12) (T := TX12) (N := 92) hx hb hts inlX12 hown hK hP 0 rfl rfl 1 (by decide) w_5_156 (mF_get (k := 1) (by decide) h1) dX12_feed_88 ?_
        refine lv_iload hx hb dX12_feed_91 (lv_at hl 0 rfl) ?_
        refine lv_bipush (v := 8) hx hb dX12_feed_93 (by decide) ?_
        refine lv_iconst (v := 3) hx hb dX12_feed_95 (by decide) ?_
        refine lv_iload hx hb dX12_feed_96 (lv_at hl 1 rfl) ?_
        refine lv_iconst (v := 4) hx hb dX12_feed_98 (by decide) ?_
        refine lv_irem hx hb dX12_feed_99 (by decide) ?_
        refine lv_topi (fun v_127 ev_127 => ?_)
        refine lv_isub hx hb dX12_feed_100 ?_
        refine lv_topi (fun v_128 ev_128 => ?_)
        refine lv_imul hx hb dX12_feed_101 ?_
        refine lv_topi (fun v_129 ev_129 => ?_)
        refine lv_ishr hx hb dX12_feed_102 ?_
        refine lv_topi (fun v_130 ev_130 => ?_)
        refine lv_sipush (v := 255) hx hb dX12_feed_103 (by decide) ?_
        refine lv_iand hx hb dX12_feed_106 ?_
        refine lv_topi (fun v_131 ev_131 => ?_)
        refine sk_iastO (ws' := fun f_132 => [(m0, .inr (12, mF F)), (g 0, .inl (cI, 1600, .inl f_132))]) hx hb hK hP hD hS 1 0 rfl rfl (z_in (M := 1600) hi (by omega) (by decide)) (fun _ => rfl) dX12_feed_107 (fun f_132 H locs hP hD hS => ?_)
        refine lv_aload_n hx hb dX12_feed_108 rfl (lv_at hl 2 rfl) ?_
        refine lv_dup hx hb dX12_feed_109 rfl ?_
        refine sk_get (v := .int i) (C := RX12) (T := TX12) (N := 92) hx hb hts inlX12 hown hK hP 0 rfl rfl 1 (by decide) w_5_156 (mF_get (k := 1) (by decide) h1) dX12_feed_110 ?_
        refine lv_iconst (v := 1) hx hb dX12_feed_113 (by decide) ?_
        refine lv_iadd hx hb dX12_feed_114 ?_
        refine lv_topi (fun v_133 ev_133 => ?_)
        refine sk_put (ws' := [(m0, .inr (12, mF (updV F 1 (.int v_133)))), (g 0, .inl (cI, 1600, .inl f_132))]) (C := RX12) (T := TX12) (N := 92) (v := .int v_133) hx hb hts inlX12 tyX12 tyX12_ok nmX12 hown hK hP hD hS 0 rfl rfl 1 (by decide) w_5_156 rfl rfl rfl (mF_len (by decide)) (mF_w (by decide) rfl) dX12_feed_115 (fun H locs hP hD hS => ?_)
        refine lv_iinc (v := i + 1) (lv' := [(6, .int (i + 1)), (7, .int a2), (0, .ref m0), (1, .int a1), (2, .int a2), (3, .int a3), (4, .int a4), (5, .int a5)]) hx hb dX12_feed_118 hl (k := 1) rfl rfl (by decide) rfl (fun ls hl => ?_)
        refine lv_goto (tgt := 28) hx hb dX12_feed_121 (by decide) ?_
        subst ev_133
        exact ih (k + 1) (i + 1) (updV F 1 (.int (i + 1))) f_132 (by omega) (by rw [hi]; exact z_s k) h0 rfl hP hD hS (lv_sub hl [0, 2, 3, 4, 5, 6, 7] rfl)
    · refine lv_iload_n hx hb dX12_feed_41 rfl (lv_at hl 2 rfl) ?_
      refine lv_goto (tgt := 81) hx hb dX12_feed_42 (by decide) ?_
      refine lv_istore (lv' := [(7, .int a1), (6, .int i), (0, .ref m0), (1, .int a1), (2, .int a2), (3, .int a3), (4, .int a4), (5, .int a5)]) hx hb dX12_feed_81 hl (by decide) rfl (fun ls hl => ?_)
      refine lv_aload_n hx hb dX12_feed_83 rfl (lv_at hl 2 rfl) ?_
      refine sk_get (v := .ref (g 0)) (C := RX12) (T := TX12) (N := 92) hx hb hts inlX12 hown hK hP 0 rfl rfl 0 (by decide) w_5_155 (mF_get (k := 0) (by decide) h0) dX12_feed_84 ?_
      refine lv_aload_n hx hb dX12_feed_87 rfl (lv_at hl 2 rfl) ?_
      refine sk_get (v := .int i) (C := RX12) (T := TX12) (N := 92) hx hb hts inlX12 hown hK hP 0 rfl rfl 1 (by decide) w_5_156 (mF_get (k := 1) (by decide) h1) dX12_feed_88 ?_
      refine lv_iload hx hb dX12_feed_91 (lv_at hl 0 rfl) ?_
      refine lv_bipush (v := 8) hx hb dX12_feed_93 (by decide) ?_
      refine lv_iconst (v := 3) hx hb dX12_feed_95 (by decide) ?_
      refine lv_iload hx hb dX12_feed_96 (lv_at hl 1 rfl) ?_
      refine lv_iconst (v := 4) hx hb dX12_feed_98 (by decide) ?_
      refine lv_irem hx hb dX12_feed_99 (by decide) ?_
      refine lv_topi (fun v_134 ev_134 => ?_)
      refine lv_isub hx hb dX12_feed_100 ?_
      refine lv_topi (fun v_135 ev_135 => ?_)
      refine lv_imul hx hb dX12_feed_101 ?_
      refine lv_topi (fun v_136 ev_136 => ?_)
      refine lv_ishr hx hb dX12_feed_102 ?_
      refine lv_topi (fun v_137 ev_137 => ?_)
      refine lv_sipush (v := 255) hx hb dX12_feed_103 (by decide) ?_
      refine lv_iand hx hb dX12_feed_106 ?_
      refine lv_topi (fun v_138 ev_138 => ?_)
      refine sk_iastO (ws' := fun f_139 => [(m0, .inr (12, mF F)), (g 0, .inl (cI, 1600, .inl f_139))]) hx hb hK hP hD hS 1 0 rfl rfl (z_in (M := 1600) hi (by omega) (by decide)) (fun _ => rfl) dX12_feed_107 (fun f_139 H locs hP hD hS => ?_)
      refine lv_aload_n hx hb dX12_feed_108 rfl (lv_at hl 2 rfl) ?_
      refine lv_dup hx hb dX12_feed_109 rfl ?_
      refine sk_get (v := .int i) (C := RX12) (T := TX12) (N := 92) hx hb hts inlX12 hown hK hP 0 rfl rfl 1 (by decide) w_5_156 (mF_get (k := 1) (by decide) h1) dX12_feed_110 ?_
      refine lv_iconst (v := 1) hx hb dX12_feed_113 (by decide) ?_
      refine lv_iadd hx hb dX12_feed_114 ?_
      refine lv_topi (fun v_140 ev_140 => ?_)
      refine sk_put (ws' := [(m0, .inr (12, mF (updV F 1 (.int v_140)))), (g 0, .inl (cI, 1600, .inl f_139))]) (C := RX12) (T := TX12) (N := 92) (v := .int v_140) hx hb hts inlX12 tyX12 tyX12_ok nmX12 hown hK hP hD hS 0 rfl rfl 1 (by decide) w_5_156 rfl rfl rfl (mF_len (by decide)) (mF_w (by decide) rfl) dX12_feed_115 (fun H locs hP hD hS => ?_)
      refine lv_iinc (v := i + 1) (lv' := [(6, .int (i + 1)), (7, .int a1), (0, .ref m0), (1, .int a1), (2, .int a2), (3, .int a3), (4, .int a4), (5, .int a5)]) hx hb dX12_feed_118 hl (k := 1) rfl rfl (by decide) rfl (fun ls hl => ?_)
      refine lv_goto (tgt := 28) hx hb dX12_feed_121 (by decide) ?_
      subst ev_140
      exact ih (k + 1) (i + 1) (updV F 1 (.int (i + 1))) f_139 (by omega) (by rw [hi]; exact z_s k) h0 rfl hP hD hS (lv_sub hl [0, 2, 3, 4, 5, 6, 7] rfl)
theorem dX12_feed_0 : decode cX12_feed 0 = .ok (.aload_n 0, 1) := by decide +kernel
theorem dX12_feed_1 : decode cX12_feed 1 = .ok (.getfield 192, 3) := by decide +kernel
theorem dX12_feed_4 : decode cX12_feed 4 = .ok (.bipush 20, 2) := by decide +kernel
theorem dX12_feed_6 : decode cX12_feed 6 = .ok (.iadd, 1) := by decide +kernel
theorem dX12_feed_7 : decode cX12_feed 7 = .ok (.sipush 1600, 3) := by decide +kernel
theorem dX12_feed_10 : decode cX12_feed 10 = .ok (.if_icmp .le 15, 3) := by decide +kernel
theorem dX12_feed_25 : decode cX12_feed 25 = .ok (.iconst 0, 1) := by decide +kernel
theorem dX12_feed_26 : decode cX12_feed 26 = .ok (.istore 6, 2) := by decide +kernel
set_option maxHeartbeats 4000000 in
set_option maxRecDepth 100000 in
theorem c_m_feed (l : Launch) (D : va_G) (cI cJ cC cZ cS : ClassId) (m0 : Nat) (g : Nat → Nat) (a1 : Int32) (a2 : Int32) (a3 : Int32) (a4 : Int32) (a5 : Int32)  : skM l yX12_feed cX12_feed 8 (some .int) 0 0 0 0 D (skT cI cJ cC cZ cS) [.ref m0, .int a1, .int a2, .int a3, .int a4, .int a5] [(m0, .inr (12, mF (mV g))), (g 0, .inl (cI, 1600, .inl (fun _ => 0)))] (skI D (skT cI cJ cC cZ cS) (fun (r : Int32) (u : va_W) => r = 20 ∧ u = [])) := by
  refine skM_of (by decide) (Nat.le_of_ble_eq_true rfl) ?_
  intro p e s m below meth c A ls E hP hD hl
  obtain ⟨hx, hb, hr, hml, hlocks, hin, hown, hts, hK, hA⟩ := id E
  have hown : s.vm.findClass RX12 = some m.cls := hown
  have hS : va_S A s.heap s.heap [] := va_S.rf
  have hl : lv_has ls 8 [(0, .ref m0), (1, .int a1), (2, .int a2), (3, .int a3), (4, .int a4), (5, .int a5)] := hl
  refine lv_aload_n hx hb dX12_feed_0 rfl (lv_at hl 0 rfl) ?_
  refine sk_get (v := .int 0) (C := RX12) (T := TX12) (N := 92) hx hb hts inlX12 hown hK hP 0 rfl rfl 1 (by decide) w_5_156 (mF_get (k := 1) (by decide) rfl) dX12_feed_1 ?_
  refine lv_bipush (v := 20) hx hb dX12_feed_4 (by decide) ?_
  refine lv_iadd hx hb dX12_feed_6 ?_
  refine sk_top 20 (by decide) ?_
  refine lv_sipush (v := 1600) hx hb dX12_feed_7 (by decide) ?_
  refine lv_icmp_le (tgt := 25) hx hb dX12_feed_10 (by decide) (fun c_1 => ?_) (fun c => absurd c (by decide))
  refine lv_iconst (v := 0) hx hb dX12_feed_25 (by decide) ?_
  refine lv_istore (lv' := [(6, .int 0), (0, .ref m0), (1, .int a1), (2, .int a2), (3, .int a3), (4, .int a4), (5, .int a5)]) hx hb dX12_feed_26 hl (by decide) rfl (fun ls hl => ?_)
  exact c_m_feed_loop l D cI cJ cC cZ cS m0 g a1 a2 a3 a4 a5 E 20 0 0 _ _ rfl rfl rfl rfl hP hD hS (lv_sub hl [0, 1, 2, 3, 4, 5, 6] rfl)
