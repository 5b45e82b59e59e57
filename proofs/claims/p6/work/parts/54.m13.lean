theorem dX12_checked_0 : decode cX12_checked 0 = .ok (.sipush 139, 3) := by decide +kernel
theorem dX12_checked_3 : decode cX12_checked 3 = .ok (.istore_n 2, 1) := by decide +kernel
theorem dX12_checked_4 : decode cX12_checked 4 = .ok (.iconst 0, 1) := by decide +kernel
theorem dX12_checked_5 : decode cX12_checked 5 = .ok (.istore_n 3, 1) := by decide +kernel
theorem dX12_checked_6 : decode cX12_checked 6 = .ok (.iload_n 3, 1) := by decide +kernel
theorem dX12_checked_7 : decode cX12_checked 7 = .ok (.iload_n 1, 1) := by decide +kernel
theorem dX12_checked_8 : decode cX12_checked 8 = .ok (.if_icmp .ge 21, 3) := by decide +kernel
theorem dX12_checked_29 : decode cX12_checked 29 = .ok (.iload_n 2, 1) := by decide +kernel
theorem dX12_checked_30 : decode cX12_checked 30 = .ok (.ireturn, 1) := by decide +kernel
theorem dX12_checked_11 : decode cX12_checked 11 = .ok (.iconst 3, 1) := by decide +kernel
theorem dX12_checked_12 : decode cX12_checked 12 = .ok (.iload_n 2, 1) := by decide +kernel
theorem dX12_checked_13 : decode cX12_checked 13 = .ok (.imul, 1) := by decide +kernel
theorem dX12_checked_14 : decode cX12_checked 14 = .ok (.aload_n 0, 1) := by decide +kernel
theorem dX12_checked_15 : decode cX12_checked 15 = .ok (.iload_n 3, 1) := by decide +kernel
theorem dX12_checked_16 : decode cX12_checked 16 = .ok (.iaload, 1) := by decide +kernel
theorem dX12_checked_17 : decode cX12_checked 17 = .ok (.iadd, 1) := by decide +kernel
theorem dX12_checked_18 : decode cX12_checked 18 = .ok (.sipush 251, 3) := by decide +kernel
theorem dX12_checked_21 : decode cX12_checked 21 = .ok (.irem, 1) := by decide +kernel
theorem dX12_checked_22 : decode cX12_checked 22 = .ok (.istore_n 2, 1) := by decide +kernel
theorem dX12_checked_23 : decode cX12_checked 23 = .ok (.iinc 3 1, 3) := by decide +kernel
theorem dX12_checked_26 : decode cX12_checked 26 = .ok (.goto (-20), 3) := by decide +kernel
theorem w_8_213 : (Cond.code yX12_checked cX12_checked 4 (some .int)) ∈ wsL_law := sk_mem (ck_8 _ (List.mem_of_getElem? (i := 213) rfl)) rfl
set_option maxHeartbeats 4000000 in
set_option maxRecDepth 100000 in
theorem c_m_checked1600 (l : Launch) (D : va_G) (cI cJ cC cZ cS : ClassId) (h0 : Nat) (ff : Nat → Int32) (n : Nat) (hn : n ≤ 1600) : skM l yX12_checked cX12_checked 4 (some .int) 0 0 0 0 D (skT cI cJ cC cZ cS) [.ref h0, .int (nI n)] [(h0, .inl (cI, 1600, .inl ff))] (skI D (skT cI cJ cC cZ cS) (fun (r : Int32) (u : va_W) => u = [(h0, .inl (cI, 1600, .inl ff))])) := by
  refine skM_of (by decide +kernel) (Nat.le_of_ble_eq_true rfl) ?_
  intro p e s m below meth c A ls E hP hD hl
  obtain ⟨hx, hb, hr, hml, hlocks, hin, hown, hts, hK, hA⟩ := E
  have hown : s.vm.findClass RX12 = some m.cls := hown
  have hS : va_S A s.heap s.heap [] := va_S.rf
  have hl : lv_has ls 4 [(0, .ref h0), (1, .int (nI n))] := hl
  refine lv_sipush (v := 139) hx hb dX12_checked_0 (by decide) ?_
  refine lv_istore_n (lv' := [(2, .int 139), (0, .ref h0), (1, .int (nI n))]) hx hb dX12_checked_3 rfl hl (by decide) rfl (fun ls hl => ?_)
  refine lv_iconst (v := 0) hx hb dX12_checked_4 (by decide) ?_
  refine lv_istore_n (lv' := [(3, .int 0), (2, .int 139), (0, .ref h0), (1, .int (nI n))]) hx hb dX12_checked_5 rfl hl (by decide) rfl (fun ls hl => ?_)
  have lp_1 : ∀ (n_2 : Nat) (i : Nat) (ck : Int32) (H : Heap) (locs : List Loc) (ls : Array Slot), n - i < n_2 → (i ≤ n) → va_P D vwCl [(h0, .inl (cI, 1600, .inl ff))] H → va_D A [(h0, .inl (cI, 1600, .inl ff))] → va_S A s.heap H locs → lv_has ls 4 [(3, .int (nI i)), (2, .int ck), (0, .ref h0), (1, .int (nI n))] → W p l e { frames := 0, cells := 0, slots := 0, locals := 0 } s m ([.ref h0, .int (nI n)] : List Value).toArray below meth c H locs 0 0 (MQ below (skI D (skT cI cJ cC cZ cS) (fun (r : Int32) (u : va_W) => u = [(h0, .inl (cI, 1600, .inl ff))]) A) ([.ref h0, .int (nI n)] : List Value).toArray s 0 0 A) (F0 m 6 ls []) := by
    intro n_2
    induction n_2 with
    | zero => intro i ck H locs ls hm; exact absurd hm (Nat.not_lt_zero _)
    | succ n_2 ih_lp_1 =>
      intro i ck H locs ls hm hi hP hD hS hl
      refine lv_iload_n hx hb dX12_checked_6 rfl (lv_at hl 0 rfl) ?_
      refine lv_iload_n hx hb dX12_checked_7 rfl (lv_at hl 3 rfl) ?_
      refine lv_icmp_ge (tgt := 29) hx hb dX12_checked_8 (by decide) (fun c_3 => ?_) (fun c_3 => ?_)
      · have c_3 : n ≤ i := (nle n i (by omega) (by omega)).mp c_3
        refine lv_iload_n hx hb dX12_checked_29 rfl (lv_at hl 1 rfl) ?_
        exact sk_iret hx hb hr rfl hlocks hK hP hD hS rfl (Nat.le_of_ble_eq_true rfl) (Nat.le_of_ble_eq_true rfl) dX12_checked_30
      · have c_3 : ¬ (n ≤ i) := fun h => c_3 ((nle n i (by omega) (by omega)).mpr h)
        refine lv_iconst (v := 3) hx hb dX12_checked_11 (by decide) ?_
        refine lv_iload_n hx hb dX12_checked_12 rfl (lv_at hl 1 rfl) ?_
        refine lv_imul hx hb dX12_checked_13 ?_
        refine lv_topi (fun v_4 ev_4 => ?_)
        refine lv_aload_n hx hb dX12_checked_14 rfl (lv_at hl 2 rfl) ?_
        refine lv_iload_n hx hb dX12_checked_15 rfl (lv_at hl 0 rfl) ?_
        refine va_iald hx hb hK.1 hP 0 0 rfl rfl (vin i 1600 (by omega) (by omega)) dX12_checked_16 ?_
        refine lv_topi (fun v_5 ev_5 => ?_)
        refine lv_iadd hx hb dX12_checked_17 ?_
        refine lv_topi (fun v_6 ev_6 => ?_)
        refine lv_sipush (v := 251) hx hb dX12_checked_18 (by decide) ?_
        refine lv_irem hx hb dX12_checked_21 (by decide) ?_
        refine lv_topi (fun v_7 ev_7 => ?_)
        refine lv_istore_n (lv' := [(2, .int v_7), (3, .int (nI i)), (0, .ref h0), (1, .int (nI n))]) hx hb dX12_checked_22 rfl hl (by decide) rfl (fun ls hl => ?_)
        refine lv_iinc (v := nI (i + 1)) (lv' := [(3, .int (nI (i + 1))), (2, .int v_7), (0, .ref h0), (1, .int (nI n))]) hx hb dX12_checked_23 hl (k := 1) rfl (ninc i 1 (by decide)) (by decide) rfl (fun ls hl => ?_)
        refine lv_goto (tgt := 6) hx hb dX12_checked_26 (by decide) ?_
        exact ih_lp_1 (i + 1) v_7 _ _ _ (by omega) (by omega) hP hD hS (lv_sub hl [0, 1, 2, 3] rfl)
  exact lp_1 (n - 0 + 1) 0 139 _ _ _ (Nat.lt_succ_self _) (by omega) hP hD hS (lv_sub hl [0, 1, 2, 3] rfl)
set_option maxHeartbeats 4000000 in
set_option maxRecDepth 100000 in
theorem c_m_checkedX (l : Launch) (D : va_G) (cI cJ cC cZ cS : ClassId) (h0 : Nat) (tb : Nat → Nat) (n : Nat) (hn : n ≤ 1600) (htb : ∀ j, tb j ≤ 255) : skM l yX12_checked cX12_checked 4 (some .int) 0 0 0 0 D (skT cI cJ cC cZ cS) [.ref h0, .int (nI n)] [(h0, .inl (cI, 1600, .inl (fun j => nI (tb j))))] (skI D (skT cI cJ cC cZ cS) (fun (r : Int32) (u : va_W) => ∃ (ck2 : Nat), ck2 = chkN tb n ∧ ck2 < 251 ∧ r = nI ck2 ∧ u = [(h0, .inl (cI, 1600, .inl (fun j => nI (tb j))))])) := by
  refine skM_of (by decide +kernel) (Nat.le_of_ble_eq_true rfl) ?_
  intro p e s m below meth c A ls E hP hD hl
  obtain ⟨hx, hb, hr, hml, hlocks, hin, hown, hts, hK, hA⟩ := E
  have hown : s.vm.findClass RX12 = some m.cls := hown
  have hS : va_S A s.heap s.heap [] := va_S.rf
  have hl : lv_has ls 4 [(0, .ref h0), (1, .int (nI n))] := hl
  refine lv_sipush (v := 139) hx hb dX12_checked_0 (by decide) ?_
  refine lv_istore_n (lv' := [(2, .int 139), (0, .ref h0), (1, .int (nI n))]) hx hb dX12_checked_3 rfl hl (by decide) rfl (fun ls hl => ?_)
  refine lv_iconst (v := 0) hx hb dX12_checked_4 (by decide) ?_
  refine lv_istore_n (lv' := [(3, .int 0), (2, .int 139), (0, .ref h0), (1, .int (nI n))]) hx hb dX12_checked_5 rfl hl (by decide) rfl (fun ls hl => ?_)
  have lp_1 : ∀ (n_2 : Nat) (i : Nat) (ck : Nat) (H : Heap) (locs : List Loc) (ls : Array Slot), n - i < n_2 → (i ≤ n) → (ck < 251) → (ck = chkN tb i) → va_P D vwCl [(h0, .inl (cI, 1600, .inl (fun j => nI (tb j))))] H → va_D A [(h0, .inl (cI, 1600, .inl (fun j => nI (tb j))))] → va_S A s.heap H locs → lv_has ls 4 [(3, .int (nI i)), (2, .int (nI ck)), (0, .ref h0), (1, .int (nI n))] → W p l e { frames := 0, cells := 0, slots := 0, locals := 0 } s m ([.ref h0, .int (nI n)] : List Value).toArray below meth c H locs 0 0 (MQ below (skI D (skT cI cJ cC cZ cS) (fun (r : Int32) (u : va_W) => ∃ (ck2 : Nat), ck2 = chkN tb n ∧ ck2 < 251 ∧ r = nI ck2 ∧ u = [(h0, .inl (cI, 1600, .inl (fun j => nI (tb j))))]) A) ([.ref h0, .int (nI n)] : List Value).toArray s 0 0 A) (F0 m 6 ls []) := by
    intro n_2
    induction n_2 with
    | zero => intro i ck H locs ls hm; exact absurd hm (Nat.not_lt_zero _)
    | succ n_2 ih_lp_1 =>
      intro i ck H locs ls hm hi hc9 hci hP hD hS hl
      refine lv_iload_n hx hb dX12_checked_6 rfl (lv_at hl 0 rfl) ?_
      refine lv_iload_n hx hb dX12_checked_7 rfl (lv_at hl 3 rfl) ?_
      refine lv_icmp_ge (tgt := 29) hx hb dX12_checked_8 (by decide) (fun c_3 => ?_) (fun c_3 => ?_)
      · have c_3 : n ≤ i := (nle n i (by omega) (by omega)).mp c_3
        refine lv_iload_n hx hb dX12_checked_29 rfl (lv_at hl 1 rfl) ?_
        exact sk_iret hx hb hr rfl hlocks hK hP hD hS (⟨ck, (by rw [show n = i by omega]; exact hci), by omega, rfl, rfl⟩) (Nat.le_of_ble_eq_true rfl) (Nat.le_of_ble_eq_true rfl) dX12_checked_30
      · have c_3 : ¬ (n ≤ i) := fun h => c_3 ((nle n i (by omega) (by omega)).mpr h)
        refine lv_iconst (v := 3) hx hb dX12_checked_11 (by decide) ?_
        refine lv_iload_n hx hb dX12_checked_12 rfl (lv_at hl 1 rfl) ?_
        refine lv_imul hx hb dX12_checked_13 ?_
        refine sk_top (nI (3 * ck)) (nmul 3 ck) ?_
        refine lv_aload_n hx hb dX12_checked_14 rfl (lv_at hl 2 rfl) ?_
        refine lv_iload_n hx hb dX12_checked_15 rfl (lv_at hl 0 rfl) ?_
        refine va_iald hx hb hK.1 hP 0 0 rfl rfl (vin i 1600 (by omega) (by omega)) dX12_checked_16 ?_
        refine sk_top (nI (tb i)) (nrd tb i (by omega)) ?_
        have hb_4 := htb i
        refine lv_iadd hx hb dX12_checked_17 ?_
        refine sk_top (nI (3 * ck + (tb i))) (nI_add (3 * ck) (tb i)) ?_
        refine lv_sipush (v := 251) hx hb dX12_checked_18 (by decide) ?_
        refine lv_irem hx hb dX12_checked_21 (by decide) ?_
        refine sk_top (nI ((3 * ck + (tb i)) % 251)) (nrem (3 * ck + (tb i)) 251 (by omega) (by omega) (by omega)) ?_
        refine lv_istore_n (lv' := [(2, .int (nI ((3 * ck + (tb i)) % 251))), (3, .int (nI i)), (0, .ref h0), (1, .int (nI n))]) hx hb dX12_checked_22 rfl hl (by decide) rfl (fun ls hl => ?_)
        refine lv_iinc (v := nI (i + 1)) (lv' := [(3, .int (nI (i + 1))), (2, .int (nI ((3 * ck + (tb i)) % 251))), (0, .ref h0), (1, .int (nI n))]) hx hb dX12_checked_23 hl (k := 1) rfl (ninc i 1 (by decide)) (by decide) rfl (fun ls hl => ?_)
        refine lv_goto (tgt := 6) hx hb dX12_checked_26 (by decide) ?_
        exact ih_lp_1 (i + 1) ((3 * ck + (tb i)) % 251) _ _ _ (by omega) (by omega) (by omega) (by rw [chkN, ← hci]) hP hD hS (lv_sub hl [0, 1, 2, 3] rfl)
  exact lp_1 (n - 0 + 1) 0 139 _ _ _ (Nat.lt_succ_self _) (by omega) (by omega) rfl hP hD hS (lv_sub hl [0, 1, 2, 3] rfl)
theorem imgK_1 {tb : Nat → Nat} {i : Nat} (h : imgK tb i) (h1 : tb i ≤ 9) (h2 : 2 < i → i % 3 = 2 → tb i ≤ 1) : imgK tb (i + 1) := fun k q1 q2 => by
  by_cases e : k < i
  · exact h k q1 e
  · obtain rfl : k = i := by omega
    exact ⟨h1, h2⟩
theorem img_at {tb : Nat → Nat} {n d c : Nat} (hn : n - 1 = 3 * d + 3) (hc : c = chkN tb (n - 1)) : tb (n - 1) = c ↔ tb (3 * d + 3) = chkN tb (3 * d + 3) := by
  rw [hc, hn]
theorem on_il {r : Int32} {il dm : Nat} {P : Prop} (h : (r = 0 ∧ ¬ (1 ≤ il ∧ P)) ∨ (r = 1 ∧ 1 ≤ il ∧ P)) (h0 : il ≤ 1) (h1 : il = 1 → 1 ≤ dm) (h2 : 1 ≤ dm → il = 1) : (r = 0 ∧ ¬ (1 ≤ dm ∧ P)) ∨ (r = 1 ∧ 1 ≤ dm ∧ P) := by
  rcases h with ⟨a, b⟩ | ⟨a, b, c⟩
  · exact Or.inl ⟨a, fun q => b ⟨by have := h2 q.1; omega, q.2⟩⟩
  · exact Or.inr ⟨a, h1 (by omega), c⟩
theorem on_eq {r q : Int32} {P : Prop} (h1 : (r = 0 ∧ ¬ P) ∨ (r = 1 ∧ P)) (h2 : (q = 0 ∧ ¬ P) ∨ (q = 1 ∧ P)) : r = q := by
  rcases h1 with ⟨a, b⟩ | ⟨a, b⟩ <;> rcases h2 with ⟨c, d⟩ | ⟨c, d⟩
  · rw [a, c]
  · exact absurd d b
  · exact absurd b d
  · rw [a, c]
theorem fd_s {tb zb f1 : Nat → Nat} {t zt i : Nat} {a b c d e v w : Int32} (h : zb = feedN tb t (wByte a b c d e) i) (ht : zt = t + i) (hu : f1 = updN zb zt (lo8 v)) (hv : v = w >>> (nI (8 * (3 - i % 4)) &&& 31)) (hw : (if i < 4 then a else if i < 8 then b else if i < 12 then c else if i < 16 then d else e) = w) : f1 = feedN tb t (wByte a b c d e) (i + 1) := by
  rw [hu, h, ht]
  show updN _ _ _ = updN _ _ (wByte a b c d e i)
  unfold wByte
  rw [hw, hv]
theorem fd_20 {tb zb : Nat → Nat} {t i : Nat} {a b c d e : Int32} (h : zb = feedN tb t (wByte a b c d e) i) (hi : i = 20) : zb = feedT tb t a b c d e := by
  subst hi
  exact h
theorem dX12_isImage_0 : decode cX12_isImage 0 = .ok (.aload_n 0, 1) := by decide +kernel
theorem dX12_isImage_1 : decode cX12_isImage 1 = .ok (.getfield 302, 3) := by decide +kernel
theorem dX12_isImage_4 : decode cX12_isImage 4 = .ok (.ifCond .eq 59, 3) := by decide +kernel
theorem dX12_isImage_63 : decode cX12_isImage 63 = .ok (.iconst 0, 1) := by decide +kernel
theorem dX12_isImage_64 : decode cX12_isImage 64 = .ok (.ireturn, 1) := by decide +kernel
theorem dX12_isImage_7 : decode cX12_isImage 7 = .ok (.iload_n 1, 1) := by decide +kernel
theorem dX12_isImage_8 : decode cX12_isImage 8 = .ok (.iconst 4, 1) := by decide +kernel
theorem dX12_isImage_9 : decode cX12_isImage 9 = .ok (.iconst 3, 1) := by decide +kernel
theorem dX12_isImage_10 : decode cX12_isImage 10 = .ok (.aload_n 0, 1) := by decide +kernel
theorem dX12_isImage_11 : decode cX12_isImage 11 = .ok (.invokevirtual 315, 3) := by decide +kernel
theorem dX12_isImage_14 : decode cX12_isImage 14 = .ok (.imul, 1) := by decide +kernel
theorem dX12_isImage_15 : decode cX12_isImage 15 = .ok (.iadd, 1) := by decide +kernel
theorem dX12_isImage_16 : decode cX12_isImage 16 = .ok (.if_icmp .ne 47, 3) := by decide +kernel
theorem dX12_isImage_19 : decode cX12_isImage 19 = .ok (.aload_n 0, 1) := by decide +kernel
theorem dX12_isImage_20 : decode cX12_isImage 20 = .ok (.getfield 7, 3) := by decide +kernel
theorem dX12_isImage_23 : decode cX12_isImage 23 = .ok (.iload_n 1, 1) := by decide +kernel
theorem dX12_isImage_24 : decode cX12_isImage 24 = .ok (.iconst 1, 1) := by decide +kernel
theorem dX12_isImage_25 : decode cX12_isImage 25 = .ok (.isub, 1) := by decide +kernel
theorem dX12_isImage_26 : decode cX12_isImage 26 = .ok (.iaload, 1) := by decide +kernel
theorem dX12_isImage_27 : decode cX12_isImage 27 = .ok (.aload_n 0, 1) := by decide +kernel
theorem dX12_isImage_28 : decode cX12_isImage 28 = .ok (.getfield 7, 3) := by decide +kernel
theorem dX12_isImage_31 : decode cX12_isImage 31 = .ok (.iload_n 1, 1) := by decide +kernel
theorem dX12_isImage_32 : decode cX12_isImage 32 = .ok (.iconst 1, 1) := by decide +kernel
theorem dX12_isImage_33 : decode cX12_isImage 33 = .ok (.isub, 1) := by decide +kernel
theorem dX12_isImage_34 : decode cX12_isImage 34 = .ok (.invokestatic 601, 3) := by decide +kernel
theorem dX12_isImage_37 : decode cX12_isImage 37 = .ok (.if_icmp .ne 26, 3) := by decide +kernel
theorem dX12_isImage_40 : decode cX12_isImage 40 = .ok (.sipush 256, 3) := by decide +kernel
theorem dX12_isImage_43 : decode cX12_isImage 43 = .ok (.aload_n 0, 1) := by decide +kernel
theorem dX12_isImage_44 : decode cX12_isImage 44 = .ok (.getfield 7, 3) := by decide +kernel
theorem dX12_isImage_47 : decode cX12_isImage 47 = .ok (.iconst 0, 1) := by decide +kernel
theorem dX12_isImage_48 : decode cX12_isImage 48 = .ok (.iaload, 1) := by decide +kernel
theorem dX12_isImage_49 : decode cX12_isImage 49 = .ok (.imul, 1) := by decide +kernel
theorem dX12_isImage_50 : decode cX12_isImage 50 = .ok (.aload_n 0, 1) := by decide +kernel
theorem dX12_isImage_51 : decode cX12_isImage 51 = .ok (.getfield 7, 3) := by decide +kernel
theorem dX12_isImage_54 : decode cX12_isImage 54 = .ok (.iconst 1, 1) := by decide +kernel
theorem dX12_isImage_55 : decode cX12_isImage 55 = .ok (.iaload, 1) := by decide +kernel
theorem dX12_isImage_56 : decode cX12_isImage 56 = .ok (.iadd, 1) := by decide +kernel
theorem dX12_isImage_57 : decode cX12_isImage 57 = .ok (.sipush 999, 3) := by decide +kernel
theorem dX12_isImage_60 : decode cX12_isImage 60 = .ok (.if_icmp .le 5, 3) := by decide +kernel
theorem dX12_isImage_65 : decode cX12_isImage 65 = .ok (.iconst 2, 1) := by decide +kernel
theorem dX12_isImage_66 : decode cX12_isImage 66 = .ok (.istore_n 2, 1) := by decide +kernel
theorem dX12_isImage_67 : decode cX12_isImage 67 = .ok (.iload_n 2, 1) := by decide +kernel
theorem dX12_isImage_68 : decode cX12_isImage 68 = .ok (.iload_n 1, 1) := by decide +kernel
theorem dX12_isImage_69 : decode cX12_isImage 69 = .ok (.iconst 1, 1) := by decide +kernel
theorem dX12_isImage_70 : decode cX12_isImage 70 = .ok (.isub, 1) := by decide +kernel
theorem dX12_isImage_71 : decode cX12_isImage 71 = .ok (.if_icmp .ge 38, 3) := by decide +kernel
theorem dX12_isImage_109 : decode cX12_isImage 109 = .ok (.iconst 1, 1) := by decide +kernel
theorem dX12_isImage_110 : decode cX12_isImage 110 = .ok (.ireturn, 1) := by decide +kernel
theorem dX12_isImage_74 : decode cX12_isImage 74 = .ok (.aload_n 0, 1) := by decide +kernel
theorem dX12_isImage_75 : decode cX12_isImage 75 = .ok (.getfield 7, 3) := by decide +kernel
theorem dX12_isImage_78 : decode cX12_isImage 78 = .ok (.iload_n 2, 1) := by decide +kernel
theorem dX12_isImage_79 : decode cX12_isImage 79 = .ok (.iaload, 1) := by decide +kernel
theorem dX12_isImage_80 : decode cX12_isImage 80 = .ok (.iload_n 2, 1) := by decide +kernel
theorem dX12_isImage_81 : decode cX12_isImage 81 = .ok (.iconst 2, 1) := by decide +kernel
theorem dX12_isImage_82 : decode cX12_isImage 82 = .ok (.if_icmp .le 14, 3) := by decide +kernel
theorem dX12_isImage_96 : decode cX12_isImage 96 = .ok (.bipush 9, 2) := by decide +kernel
theorem dX12_isImage_98 : decode cX12_isImage 98 = .ok (.if_icmp .le 5, 3) := by decide +kernel
theorem dX12_isImage_103 : decode cX12_isImage 103 = .ok (.iinc 2 1, 3) := by decide +kernel
theorem dX12_isImage_106 : decode cX12_isImage 106 = .ok (.goto (-39), 3) := by decide +kernel
theorem dX12_isImage_101 : decode cX12_isImage 101 = .ok (.iconst 0, 1) := by decide +kernel
theorem dX12_isImage_102 : decode cX12_isImage 102 = .ok (.ireturn, 1) := by decide +kernel
theorem dX12_isImage_85 : decode cX12_isImage 85 = .ok (.iload_n 2, 1) := by decide +kernel
theorem dX12_isImage_86 : decode cX12_isImage 86 = .ok (.iconst 3, 1) := by decide +kernel
theorem dX12_isImage_87 : decode cX12_isImage 87 = .ok (.irem, 1) := by decide +kernel
theorem dX12_isImage_88 : decode cX12_isImage 88 = .ok (.iconst 2, 1) := by decide +kernel
theorem dX12_isImage_89 : decode cX12_isImage 89 = .ok (.if_icmp .ne 7, 3) := by decide +kernel
theorem dX12_isImage_92 : decode cX12_isImage 92 = .ok (.iconst 1, 1) := by decide +kernel
theorem dX12_isImage_93 : decode cX12_isImage 93 = .ok (.goto 5, 3) := by decide +kernel
theorem w_5_155 : (Cond.fieldLink RX12 7 "SameKeeperModel" "tape" "[I") ∈ wsL_law := sk_mem (ck_5 _ (List.mem_of_getElem? (i := 155) rfl)) rfl
theorem w_8_211 : (Cond.methodLink RX12 601 yX12_checked) ∈ wsL_law := sk_mem (ck_8 _ (List.mem_of_getElem? (i := 211) rfl)) rfl
theorem w_8_212 : (Cond.static yX12_checked) ∈ wsL_law := sk_mem (ck_8 _ (List.mem_of_getElem? (i := 212) rfl)) rfl
theorem w_8_225 : (Cond.code yX12_isImage cX12_isImage 3 (some .boolean)) ∈ wsL_law := sk_mem (ck_8 _ (List.mem_of_getElem? (i := 225) rfl)) rfl
set_option maxHeartbeats 4000000 in
set_option maxRecDepth 100000 in
theorem c_m_isImage (l : Launch) (D : va_G) (cI cJ cC cZ cS : ClassId) (mm : Nat) (g : Nat → Nat) (ta : Nat) (pa : Nat) (pe : Nat) (pd : Int32) (pb : Nat) (pp : Int32) (pf : Int32) (pg : Int32) (pn : Int32) (rt : Int32) (rn : Int32) (cd : Nat) (sn : Int32) (il : Nat) (tk : Int32) (am : Int32) (at_ : Int32) (aa : Int32) (wt : Int32) (wy : Int64) (rm : Nat) (ud : Nat) (nu : Nat) (sd : Int64) (qn : Nat) (qw : Nat) (qo : Int32) (qb : Nat) (qp : Nat) (qa : Int64) (qi : Nat) (oc : Nat) (n : Nat) (l0 : Nat) (l1 : Nat) (dm : Nat) (l3 : Nat) (tb : Nat → Nat) (hil : il ≤ 1) (hild : il = 1 → 1 ≤ dm) (hdm : dm ≤ 9) (hn : n ≤ 1600) (htb : ∀ j, tb j ≤ 255) : skM l yX12_isImage cX12_isImage 3 (some .boolean) 1 23 0 0 D (skT cI cJ cC cZ cS) [.ref mm, .int (nI n)] [(mm, .inr (12, mo g (nI ta) (nI pa) (nI pe) pd (nI pb) pp pf pg pn rt rn (nI cd) sn (nI il) tk am at_ aa 0 0 (-1) wt wy 0 (nI rm) (nI ud) (nI nu) sd (nI qn) (nI qw) qo (nI qb) (nI qp) qa (nI qi) (nI oc))), (g 20, .inl (cI, 4, .inl (l4 (nI l0) (nI l1) (nI dm) (nI l3)))), (g 0, .inl (cI, 1600, .inl (fun j => nI (tb j))))] (skI D (skT cI cJ cC cZ cS) (fun (r : Int32) (u : va_W) => ∃ (b : Nat), (b = 0 ∨ (b = 1 ∧ tb 2 ≤ 9)) ∧ ((b = 0 ∧ ¬ (1 ≤ il ∧ imgO tb n dm)) ∨ (b = 1 ∧ 1 ≤ il ∧ imgO tb n dm)) ∧ r = nI b ∧ u = [(mm, .inr (12, mo g (nI ta) (nI pa) (nI pe) pd (nI pb) pp pf pg pn rt rn (nI cd) sn (nI il) tk am at_ aa 0 0 (-1) wt wy 0 (nI rm) (nI ud) (nI nu) sd (nI qn) (nI qw) qo (nI qb) (nI qp) qa (nI qi) (nI oc))), (g 20, .inl (cI, 4, .inl (l4 (nI l0) (nI l1) (nI dm) (nI l3)))), (g 0, .inl (cI, 1600, .inl (fun j => nI (tb j))))])) := by
  refine skM_of (by decide +kernel) (Nat.le_of_ble_eq_true rfl) ?_
  intro p e s m below meth c A ls E hP hD hl
  obtain ⟨hx, hb, hr, hml, hlocks, hin, hown, hts, hK, hA⟩ := E
  have hown : s.vm.findClass RX12 = some m.cls := hown
  have hS : va_S A s.heap s.heap [] := va_S.rf
  have hl : lv_has ls 3 [(0, .ref mm), (1, .int (nI n))] := hl
  refine lv_aload_n hx hb dX12_isImage_0 rfl (lv_at hl 0 rfl) ?_
  refine sk_get (v := .int (nI il)) (C := RX12) (T := TX12) (N := 92) hx hb hts inlX12 hown hK hP 0 rfl rfl 29 (by decide) w_5_184 rfl dX12_isImage_1 ?_
  refine lv_if_eq (tgt := 63) hx hb dX12_isImage_4 (by decide) (fun c_1 => ?_) (fun c_1 => ?_)
  · have c_1 : il = 0 := (neq il 0 (by omega) (by omega)).mp c_1
    refine lv_iconst (v := 0) hx hb dX12_isImage_63 (by decide) ?_
    exact sk_iret hx hb hr rfl hlocks hK hP hD hS (⟨0, (Or.inl rfl), (Or.inl ⟨rfl, fun hq => absurd hq.1 (by omega)⟩), rfl, rfl⟩) (Nat.le_of_ble_eq_true rfl) (Nat.le_of_ble_eq_true rfl) dX12_isImage_64
  · have c_1 : ¬ (il = 0) := fun h => c_1 ((neq il 0 (by omega) (by omega)).mpr h)
    refine lv_iload_n hx hb dX12_isImage_7 rfl (lv_at hl 1 rfl) ?_
    refine lv_iconst (v := 4) hx hb dX12_isImage_8 (by decide) ?_
    refine lv_iconst (v := 3) hx hb dX12_isImage_9 (by decide) ?_
    refine lv_aload_n hx hb dX12_isImage_10 rfl (lv_at hl 0 rfl) ?_
    refine sk_Vi (q0 := 0) (n := 0) (rest := [.int 3, .int 4, .int (nI n)]) (wr := [(g 0, .inl (cI, 1600, .inl (fun j => nI (tb j))))]) ⟨hx, hb, hml, hown, hts⟩ hl.1 (c_m_dayMany l D cI cJ cC cZ cS mm g ta pa pe pd pb pp pf pg pn rt rn cd sn il tk am at_ aa 0 0 (-1) wt wy 0 rm ud nu sd qn qw qo qb qp qa qi oc l0 l1 dm l3) w_7_98 w_7_100 w_0_69 w_1_14 w_7_101 (by decide +kernel) ⟨⟨(Nat.le_of_ble_eq_true rfl), (Nat.le_of_ble_eq_true rfl)⟩, (Nat.le_of_ble_eq_true rfl), (Nat.le_of_ble_eq_true rfl)⟩ hK hP hD hS hA [0, 1] [2] rfl rfl (by decide +kernel) (by decide +kernel) (by decide +kernel) rfl rfl rfl rfl (Nat.le_of_ble_eq_true rfl) dX12_isImage_11 (fun r_2 u H locs hw hP hD hS => ?_)
    obtain ⟨rfl, rfl⟩ := hw
    have hP : va_P D vwCl [(g 0, .inl (cI, 1600, .inl (fun j => nI (tb j)))), (mm, .inr (12, mo g (nI ta) (nI pa) (nI pe) pd (nI pb) pp pf pg pn rt rn (nI cd) sn (nI il) tk am at_ aa 0 0 (-1) wt wy 0 (nI rm) (nI ud) (nI nu) sd (nI qn) (nI qw) qo (nI qb) (nI qp) qa (nI qi) (nI oc))), (g 20, .inl (cI, 4, .inl (l4 (nI l0) (nI l1) (nI dm) (nI l3))))] H := hP
    have hD : va_D A [(g 0, .inl (cI, 1600, .inl (fun j => nI (tb j)))), (mm, .inr (12, mo g (nI ta) (nI pa) (nI pe) pd (nI pb) pp pf pg pn rt rn (nI cd) sn (nI il) tk am at_ aa 0 0 (-1) wt wy 0 (nI rm) (nI ud) (nI nu) sd (nI qn) (nI qw) qo (nI qb) (nI qp) qa (nI qi) (nI oc))), (g 20, .inl (cI, 4, .inl (l4 (nI l0) (nI l1) (nI dm) (nI l3))))] := hD
    refine lv_imul hx hb dX12_isImage_14 ?_
    refine sk_top (nI (3 * dm)) (nmul 3 dm) ?_
    refine lv_iadd hx hb dX12_isImage_15 ?_
    refine sk_top (nI (4 + (3 * dm))) (nI_add 4 (3 * dm)) ?_
    refine lv_icmp_ne (tgt := 63) hx hb dX12_isImage_16 (by decide) (fun c_3 => ?_) (fun c_3 => ?_)
    · have c_3 : ¬ (n = 4 + (3 * dm)) := fun h => c_3 ((neq n (4 + (3 * dm)) (by omega) (by omega)).mpr h)
      refine lv_iconst (v := 0) hx hb dX12_isImage_63 (by decide) ?_
      have hP := hP.sub (ws' := [(mm, .inr (12, mo g (nI ta) (nI pa) (nI pe) pd (nI pb) pp pf pg pn rt rn (nI cd) sn (nI il) tk am at_ aa 0 0 (-1) wt wy 0 (nI rm) (nI ud) (nI nu) sd (nI qn) (nI qw) qo (nI qb) (nI qp) qa (nI qi) (nI oc))), (g 20, .inl (cI, 4, .inl (l4 (nI l0) (nI l1) (nI dm) (nI l3)))), (g 0, .inl (cI, 1600, .inl (fun j => nI (tb j))))]) [1, 2, 0] rfl
      have hD := hD.sub (ws' := [(mm, .inr (12, mo g (nI ta) (nI pa) (nI pe) pd (nI pb) pp pf pg pn rt rn (nI cd) sn (nI il) tk am at_ aa 0 0 (-1) wt wy 0 (nI rm) (nI ud) (nI nu) sd (nI qn) (nI qw) qo (nI qb) (nI qp) qa (nI qi) (nI oc))), (g 20, .inl (cI, 4, .inl (l4 (nI l0) (nI l1) (nI dm) (nI l3)))), (g 0, .inl (cI, 1600, .inl (fun j => nI (tb j))))]) [1, 2, 0] (by decide +kernel) rfl
      exact sk_iret hx hb hr rfl hlocks hK hP hD hS (⟨0, (Or.inl rfl), (Or.inl ⟨rfl, fun hq => absurd hq.2.1 (by omega)⟩), rfl, rfl⟩) (Nat.le_of_ble_eq_true rfl) (Nat.le_of_ble_eq_true rfl) dX12_isImage_64
    · have c_3 : n = 4 + (3 * dm) := (neq n (4 + (3 * dm)) (by omega) (by omega)).mp c_3
      refine lv_aload_n hx hb dX12_isImage_19 rfl (lv_at hl 0 rfl) ?_
      refine sk_get (v := .ref (g 0)) (C := RX12) (T := TX12) (N := 92) hx hb hts inlX12 hown hK hP 1 rfl rfl 0 (by decide) w_5_155 rfl dX12_isImage_20 ?_
      refine lv_iload_n hx hb dX12_isImage_23 rfl (lv_at hl 1 rfl) ?_
      refine lv_iconst (v := 1) hx hb dX12_isImage_24 (by decide) ?_
      refine lv_isub hx hb dX12_isImage_25 ?_
      refine sk_top (nI (n - 1)) (nsub n 1 (by omega)) ?_
      refine va_iald hx hb hK.1 hP 0 0 rfl rfl (vin (n - 1) 1600 (by omega) (by omega)) dX12_isImage_26 ?_
      refine sk_top (nI (tb (n - 1))) (nrd tb (n - 1) (by omega)) ?_
      have hb_4 := htb (n - 1)
      refine lv_aload_n hx hb dX12_isImage_27 rfl (lv_at hl 0 rfl) ?_
      refine sk_get (v := .ref (g 0)) (C := RX12) (T := TX12) (N := 92) hx hb hts inlX12 hown hK hP 1 rfl rfl 0 (by decide) w_5_155 rfl dX12_isImage_28 ?_
      refine lv_iload_n hx hb dX12_isImage_31 rfl (lv_at hl 1 rfl) ?_
      refine lv_iconst (v := 1) hx hb dX12_isImage_32 (by decide) ?_
      refine lv_isub hx hb dX12_isImage_33 ?_
      refine sk_top (nI (n - 1)) (nsub n 1 (by omega)) ?_
      refine sk_Si (n := 2) (rest := [.int (nI (tb (n - 1)))]) (wr := [(mm, .inr (12, mo g (nI ta) (nI pa) (nI pe) pd (nI pb) pp pf pg pn rt rn (nI cd) sn (nI il) tk am at_ aa 0 0 (-1) wt wy 0 (nI rm) (nI ud) (nI nu) sd (nI qn) (nI qw) qo (nI qb) (nI qp) qa (nI qi) (nI oc))), (g 20, .inl (cI, 4, .inl (l4 (nI l0) (nI l1) (nI dm) (nI l3))))]) ⟨hx, hb, hml, hown, hts⟩ hl.1 (c_m_checkedX l D cI cJ cC cZ cS (g 0) tb (n - 1) (by omega) htb) w_8_211 w_8_212 w_1_14 w_8_213 (by decide +kernel) ⟨⟨(Nat.le_of_ble_eq_true rfl), (Nat.le_of_ble_eq_true rfl)⟩, (Nat.le_of_ble_eq_true rfl), (Nat.le_of_ble_eq_true rfl)⟩ hK hP hD hS hA [0] [1, 2] rfl rfl (by decide +kernel) (by decide +kernel) (by decide +kernel) rfl rfl (Nat.le_of_ble_eq_true rfl) dX12_isImage_34 (fun r_6 u H locs hw hP hD hS => ?_)
      obtain ⟨ck2_5, hck_7, hck9_8, rfl, rfl⟩ := hw
      have hP : va_P D vwCl [(mm, .inr (12, mo g (nI ta) (nI pa) (nI pe) pd (nI pb) pp pf pg pn rt rn (nI cd) sn (nI il) tk am at_ aa 0 0 (-1) wt wy 0 (nI rm) (nI ud) (nI nu) sd (nI qn) (nI qw) qo (nI qb) (nI qp) qa (nI qi) (nI oc))), (g 20, .inl (cI, 4, .inl (l4 (nI l0) (nI l1) (nI dm) (nI l3)))), (g 0, .inl (cI, 1600, .inl (fun j => nI (tb j))))] H := hP
      have hD : va_D A [(mm, .inr (12, mo g (nI ta) (nI pa) (nI pe) pd (nI pb) pp pf pg pn rt rn (nI cd) sn (nI il) tk am at_ aa 0 0 (-1) wt wy 0 (nI rm) (nI ud) (nI nu) sd (nI qn) (nI qw) qo (nI qb) (nI qp) qa (nI qi) (nI oc))), (g 20, .inl (cI, 4, .inl (l4 (nI l0) (nI l1) (nI dm) (nI l3)))), (g 0, .inl (cI, 1600, .inl (fun j => nI (tb j))))] := hD
      have hn1 : n - 1 = 3 * dm + 3 := by omega
      refine lv_icmp_ne (tgt := 63) hx hb dX12_isImage_37 (by decide) (fun c_9 => ?_) (fun c_9 => ?_)
      · have c_9 : ¬ (tb (n - 1) = ck2_5) := fun h => c_9 ((neq (tb (n - 1)) ck2_5 (by omega) (by omega)).mpr h)
        refine lv_iconst (v := 0) hx hb dX12_isImage_63 (by decide) ?_
        exact sk_iret hx hb hr rfl hlocks hK hP hD hS (⟨0, (Or.inl rfl), (Or.inl ⟨rfl, fun hq => c_9 ((img_at hn1 hck_7).mpr hq.2.2.1)⟩), rfl, rfl⟩) (Nat.le_of_ble_eq_true rfl) (Nat.le_of_ble_eq_true rfl) dX12_isImage_64
      · have c_9 : tb (n - 1) = ck2_5 := (neq (tb (n - 1)) ck2_5 (by omega) (by omega)).mp c_9
        refine lv_sipush (v := 256) hx hb dX12_isImage_40 (by decide) ?_
        refine lv_aload_n hx hb dX12_isImage_43 rfl (lv_at hl 0 rfl) ?_
        refine sk_get (v := .ref (g 0)) (C := RX12) (T := TX12) (N := 92) hx hb hts inlX12 hown hK hP 0 rfl rfl 0 (by decide) w_5_155 rfl dX12_isImage_44 ?_
        refine lv_iconst (v := 0) hx hb dX12_isImage_47 (by decide) ?_
        refine va_iald hx hb hK.1 hP 2 0 rfl rfl (by unfold vp_in; decide) dX12_isImage_48 ?_
        refine sk_top (nI (tb 0)) (nrd tb 0 (by omega)) ?_
        have hb_10 := htb 0
        refine lv_imul hx hb dX12_isImage_49 ?_
        refine sk_top (nI (256 * (tb 0))) (nmul 256 (tb 0)) ?_
        refine lv_aload_n hx hb dX12_isImage_50 rfl (lv_at hl 0 rfl) ?_
        refine sk_get (v := .ref (g 0)) (C := RX12) (T := TX12) (N := 92) hx hb hts inlX12 hown hK hP 0 rfl rfl 0 (by decide) w_5_155 rfl dX12_isImage_51 ?_
        refine lv_iconst (v := 1) hx hb dX12_isImage_54 (by decide) ?_
        refine va_iald hx hb hK.1 hP 2 0 rfl rfl (by unfold vp_in; decide) dX12_isImage_55 ?_
        refine sk_top (nI (tb 1)) (nrd tb 1 (by omega)) ?_
        have hb_11 := htb 1
        refine lv_iadd hx hb dX12_isImage_56 ?_
        refine sk_top (nI (256 * (tb 0) + (tb 1))) (nI_add (256 * (tb 0)) (tb 1)) ?_
        refine lv_sipush (v := 999) hx hb dX12_isImage_57 (by decide) ?_
        refine lv_icmp_le (tgt := 65) hx hb dX12_isImage_60 (by decide) (fun c_12 => ?_) (fun c_12 => ?_)
        · have c_12 : 256 * (tb 0) + (tb 1) ≤ 999 := (nle (256 * (tb 0) + (tb 1)) 999 (by omega) (by omega)).mp c_12
          refine lv_iconst (v := 2) hx hb dX12_isImage_65 (by decide) ?_
          refine lv_istore_n (lv' := [(2, .int 2), (0, .ref mm), (1, .int (nI n))]) hx hb dX12_isImage_66 rfl hl (by decide) rfl (fun ls hl => ?_)
          have lp_13 : ∀ (n_14 : Nat) (i : Nat) (H : Heap) (locs : List Loc) (ls : Array Slot), n - i < n_14 → (i ≤ n) → (2 ≤ i) → (imgK tb i) → va_P D vwCl [(mm, .inr (12, mo g (nI ta) (nI pa) (nI pe) pd (nI pb) pp pf pg pn rt rn (nI cd) sn (nI il) tk am at_ aa 0 0 (-1) wt wy 0 (nI rm) (nI ud) (nI nu) sd (nI qn) (nI qw) qo (nI qb) (nI qp) qa (nI qi) (nI oc))), (g 20, .inl (cI, 4, .inl (l4 (nI l0) (nI l1) (nI dm) (nI l3)))), (g 0, .inl (cI, 1600, .inl (fun j => nI (tb j))))] H → va_D A [(mm, .inr (12, mo g (nI ta) (nI pa) (nI pe) pd (nI pb) pp pf pg pn rt rn (nI cd) sn (nI il) tk am at_ aa 0 0 (-1) wt wy 0 (nI rm) (nI ud) (nI nu) sd (nI qn) (nI qw) qo (nI qb) (nI qp) qa (nI qi) (nI oc))), (g 20, .inl (cI, 4, .inl (l4 (nI l0) (nI l1) (nI dm) (nI l3)))), (g 0, .inl (cI, 1600, .inl (fun j => nI (tb j))))] → va_S A s.heap H locs → lv_has ls 3 [(2, .int (nI i)), (0, .ref mm), (1, .int (nI n))] → W p l e { frames := 1, cells := 0, slots := 0, locals := 23 } s m ([.ref mm, .int (nI n)] : List Value).toArray below meth c H locs 0 0 (MQ below (skI D (skT cI cJ cC cZ cS) (fun (r : Int32) (u : va_W) => ∃ (b : Nat), (b = 0 ∨ (b = 1 ∧ tb 2 ≤ 9)) ∧ ((b = 0 ∧ ¬ (1 ≤ il ∧ imgO tb n dm)) ∨ (b = 1 ∧ 1 ≤ il ∧ imgO tb n dm)) ∧ r = nI b ∧ u = [(mm, .inr (12, mo g (nI ta) (nI pa) (nI pe) pd (nI pb) pp pf pg pn rt rn (nI cd) sn (nI il) tk am at_ aa 0 0 (-1) wt wy 0 (nI rm) (nI ud) (nI nu) sd (nI qn) (nI qw) qo (nI qb) (nI qp) qa (nI qi) (nI oc))), (g 20, .inl (cI, 4, .inl (l4 (nI l0) (nI l1) (nI dm) (nI l3)))), (g 0, .inl (cI, 1600, .inl (fun j => nI (tb j))))]) A) ([.ref mm, .int (nI n)] : List Value).toArray s 0 0 A) (F0 m 67 ls []) := by
            intro n_14
            induction n_14 with
            | zero => intro i H locs ls hm; exact absurd hm (Nat.not_lt_zero _)
            | succ n_14 ih_lp_13 =>
              intro i H locs ls hm hi hi2 hal hP hD hS hl
              refine lv_iload_n hx hb dX12_isImage_67 rfl (lv_at hl 0 rfl) ?_
              refine lv_iload_n hx hb dX12_isImage_68 rfl (lv_at hl 2 rfl) ?_
              refine lv_iconst (v := 1) hx hb dX12_isImage_69 (by decide) ?_
              refine lv_isub hx hb dX12_isImage_70 ?_
              refine sk_top (nI (n - 1)) (nsub n 1 (by omega)) ?_
              refine lv_icmp_ge (tgt := 109) hx hb dX12_isImage_71 (by decide) (fun c_15 => ?_) (fun c_15 => ?_)
              · have c_15 : n - 1 ≤ i := (nle (n - 1) i (by omega) (by omega)).mp c_15
                refine lv_iconst (v := 1) hx hb dX12_isImage_109 (by decide) ?_
                exact sk_iret hx hb hr rfl hlocks hK hP hD hS (⟨1, (Or.inr ⟨rfl, (hal 2 (by omega) (by omega)).1⟩), (Or.inr ⟨rfl, by omega, by omega, (img_at hn1 hck_7).mp c_9, by omega, fun k h1 h2 => hal k h1 (by omega)⟩), rfl, rfl⟩) (Nat.le_of_ble_eq_true rfl) (Nat.le_of_ble_eq_true rfl) dX12_isImage_110
              · have c_15 : ¬ (n - 1 ≤ i) := fun h => c_15 ((nle (n - 1) i (by omega) (by omega)).mpr h)
                refine lv_aload_n hx hb dX12_isImage_74 rfl (lv_at hl 1 rfl) ?_
                refine sk_get (v := .ref (g 0)) (C := RX12) (T := TX12) (N := 92) hx hb hts inlX12 hown hK hP 0 rfl rfl 0 (by decide) w_5_155 rfl dX12_isImage_75 ?_
                refine lv_iload_n hx hb dX12_isImage_78 rfl (lv_at hl 0 rfl) ?_
                refine va_iald hx hb hK.1 hP 2 0 rfl rfl (vin i 1600 (by omega) (by omega)) dX12_isImage_79 ?_
                refine sk_top (nI (tb i)) (nrd tb i (by omega)) ?_
                have hb_16 := htb i
                refine lv_iload_n hx hb dX12_isImage_80 rfl (lv_at hl 0 rfl) ?_
                refine lv_iconst (v := 2) hx hb dX12_isImage_81 (by decide) ?_
                refine lv_icmp_le (tgt := 96) hx hb dX12_isImage_82 (by decide) (fun c_17 => ?_) (fun c_17 => ?_)
                · have c_17 : i ≤ 2 := (nle i 2 (by omega) (by omega)).mp c_17
                  refine lv_bipush (v := 9) hx hb dX12_isImage_96 (by decide) ?_
                  refine lv_icmp_le (tgt := 103) hx hb dX12_isImage_98 (by decide) (fun c_18 => ?_) (fun c_18 => ?_)
                  · have c_18 : tb i ≤ 9 := (nle (tb i) 9 (by omega) (by omega)).mp c_18
                    refine lv_iinc (v := nI (i + 1)) (lv' := [(2, .int (nI (i + 1))), (0, .ref mm), (1, .int (nI n))]) hx hb dX12_isImage_103 hl (k := 0) rfl (ninc i 1 (by decide)) (by decide) rfl (fun ls hl => ?_)
                    refine lv_goto (tgt := 67) hx hb dX12_isImage_106 (by decide) ?_
                    exact ih_lp_13 (i + 1) _ _ _ (by omega) (by omega) (by omega) (imgK_1 hal (by omega) (fun _ _ => by omega)) hP hD hS (lv_sub hl [0, 1, 2] rfl)
                  · have c_18 : ¬ (tb i ≤ 9) := fun h => c_18 ((nle (tb i) 9 (by omega) (by omega)).mpr h)
                    refine lv_iconst (v := 0) hx hb dX12_isImage_101 (by decide) ?_
                    exact sk_iret hx hb hr rfl hlocks hK hP hD hS (⟨0, (Or.inl rfl), (Or.inl ⟨rfl, fun hq => by have h9 := hq.2.2.2.2 i (by omega) (by omega); first | (have h8 := h9.1; omega) | (have h8 := h9.2 (by omega) (by omega); omega)⟩), rfl, rfl⟩) (Nat.le_of_ble_eq_true rfl) (Nat.le_of_ble_eq_true rfl) dX12_isImage_102
                · have c_17 : ¬ (i ≤ 2) := fun h => c_17 ((nle i 2 (by omega) (by omega)).mpr h)
                  refine lv_iload_n hx hb dX12_isImage_85 rfl (lv_at hl 0 rfl) ?_
                  refine lv_iconst (v := 3) hx hb dX12_isImage_86 (by decide) ?_
                  refine lv_irem hx hb dX12_isImage_87 (by decide) ?_
                  refine sk_top (nI (i % 3)) (nrem i 3 (by omega) (by omega) (by omega)) ?_
                  refine lv_iconst (v := 2) hx hb dX12_isImage_88 (by decide) ?_
                  refine lv_icmp_ne (tgt := 96) hx hb dX12_isImage_89 (by decide) (fun c_19 => ?_) (fun c_19 => ?_)
                  · have c_19 : ¬ (i % 3 = 2) := fun h => c_19 ((neq (i % 3) 2 (by omega) (by omega)).mpr h)
                    refine lv_bipush (v := 9) hx hb dX12_isImage_96 (by decide) ?_
                    refine lv_icmp_le (tgt := 103) hx hb dX12_isImage_98 (by decide) (fun c_20 => ?_) (fun c_20 => ?_)
                    · have c_20 : tb i ≤ 9 := (nle (tb i) 9 (by omega) (by omega)).mp c_20
                      refine lv_iinc (v := nI (i + 1)) (lv' := [(2, .int (nI (i + 1))), (0, .ref mm), (1, .int (nI n))]) hx hb dX12_isImage_103 hl (k := 0) rfl (ninc i 1 (by decide)) (by decide) rfl (fun ls hl => ?_)
                      refine lv_goto (tgt := 67) hx hb dX12_isImage_106 (by decide) ?_
                      exact ih_lp_13 (i + 1) _ _ _ (by omega) (by omega) (by omega) (imgK_1 hal (by omega) (fun _ _ => by omega)) hP hD hS (lv_sub hl [0, 1, 2] rfl)
                    · have c_20 : ¬ (tb i ≤ 9) := fun h => c_20 ((nle (tb i) 9 (by omega) (by omega)).mpr h)
                      refine lv_iconst (v := 0) hx hb dX12_isImage_101 (by decide) ?_
                      exact sk_iret hx hb hr rfl hlocks hK hP hD hS (⟨0, (Or.inl rfl), (Or.inl ⟨rfl, fun hq => by have h9 := hq.2.2.2.2 i (by omega) (by omega); first | (have h8 := h9.1; omega) | (have h8 := h9.2 (by omega) (by omega); omega)⟩), rfl, rfl⟩) (Nat.le_of_ble_eq_true rfl) (Nat.le_of_ble_eq_true rfl) dX12_isImage_102
                  · have c_19 : i % 3 = 2 := (neq (i % 3) 2 (by omega) (by omega)).mp c_19
                    refine lv_iconst (v := 1) hx hb dX12_isImage_92 (by decide) ?_
                    refine lv_goto (tgt := 98) hx hb dX12_isImage_93 (by decide) ?_
                    refine lv_icmp_le (tgt := 103) hx hb dX12_isImage_98 (by decide) (fun c_21 => ?_) (fun c_21 => ?_)
                    · have c_21 : tb i ≤ 1 := (nle (tb i) 1 (by omega) (by omega)).mp c_21
                      refine lv_iinc (v := nI (i + 1)) (lv' := [(2, .int (nI (i + 1))), (0, .ref mm), (1, .int (nI n))]) hx hb dX12_isImage_103 hl (k := 0) rfl (ninc i 1 (by decide)) (by decide) rfl (fun ls hl => ?_)
                      refine lv_goto (tgt := 67) hx hb dX12_isImage_106 (by decide) ?_
                      exact ih_lp_13 (i + 1) _ _ _ (by omega) (by omega) (by omega) (imgK_1 hal (by omega) (fun _ _ => by omega)) hP hD hS (lv_sub hl [0, 1, 2] rfl)
                    · have c_21 : ¬ (tb i ≤ 1) := fun h => c_21 ((nle (tb i) 1 (by omega) (by omega)).mpr h)
                      refine lv_iconst (v := 0) hx hb dX12_isImage_101 (by decide) ?_
                      exact sk_iret hx hb hr rfl hlocks hK hP hD hS (⟨0, (Or.inl rfl), (Or.inl ⟨rfl, fun hq => by have h9 := hq.2.2.2.2 i (by omega) (by omega); first | (have h8 := h9.1; omega) | (have h8 := h9.2 (by omega) (by omega); omega)⟩), rfl, rfl⟩) (Nat.le_of_ble_eq_true rfl) (Nat.le_of_ble_eq_true rfl) dX12_isImage_102
          exact lp_13 (n - 2 + 1) 2 _ _ _ (Nat.lt_succ_self _) (by omega) (by omega) (fun k h1 h2 => absurd h1 (by omega)) hP hD hS (lv_sub hl [0, 1, 2] rfl)
        · have c_12 : ¬ (256 * (tb 0) + (tb 1) ≤ 999) := fun h => c_12 ((nle (256 * (tb 0) + (tb 1)) 999 (by omega) (by omega)).mpr h)
          refine lv_iconst (v := 0) hx hb dX12_isImage_63 (by decide) ?_
          exact sk_iret hx hb hr rfl hlocks hK hP hD hS (⟨0, (Or.inl rfl), (Or.inl ⟨rfl, fun hq => absurd hq.2.2.2.1 (by omega)⟩), rfl, rfl⟩) (Nat.le_of_ble_eq_true rfl) (Nat.le_of_ble_eq_true rfl) dX12_isImage_64
theorem dX12_fault_0 : decode cX12_fault 0 = .ok (.iload_n 1, 1) := by decide +kernel
theorem dX12_fault_1 : decode cX12_fault 1 = .ok (.ifCond .ne 10, 3) := by decide +kernel
theorem dX12_fault_11 : decode cX12_fault 11 = .ok (.iload_n 1, 1) := by decide +kernel
theorem dX12_fault_12 : decode cX12_fault 12 = .ok (.iconst 1, 1) := by decide +kernel
theorem dX12_fault_13 : decode cX12_fault 13 = .ok (.if_icmp .ne 10, 3) := by decide +kernel
theorem dX12_fault_23 : decode cX12_fault 23 = .ok (.iconst (-1), 1) := by decide +kernel
theorem dX12_fault_24 : decode cX12_fault 24 = .ok (.ireturn, 1) := by decide +kernel
theorem dX12_fault_16 : decode cX12_fault 16 = .ok (.aload_n 0, 1) := by decide +kernel
theorem dX12_fault_17 : decode cX12_fault 17 = .ok (.getfield 13, 3) := by decide +kernel
theorem dX12_fault_20 : decode cX12_fault 20 = .ok (.goto 4, 3) := by decide +kernel
theorem dX12_fault_4 : decode cX12_fault 4 = .ok (.aload_n 0, 1) := by decide +kernel
theorem dX12_fault_5 : decode cX12_fault 5 = .ok (.getfield 296, 3) := by decide +kernel
theorem dX12_fault_8 : decode cX12_fault 8 = .ok (.goto 16, 3) := by decide +kernel
theorem w_5_163 : (Cond.fieldLink RX12 13 "SameKeeperModel" "faultPlace" "I") ∈ wsL_law := sk_mem (ck_5 _ (List.mem_of_getElem? (i := 163) rfl)) rfl
theorem w_5_162 : (Cond.fieldLink RX12 296 "SameKeeperModel" "fault" "I") ∈ wsL_law := sk_mem (ck_5 _ (List.mem_of_getElem? (i := 162) rfl)) rfl
theorem w_7_93 : (Cond.code yX12_fault cX12_fault 2 (some .int)) ∈ wsL_law := sk_mem (ck_7 _ (List.mem_of_getElem? (i := 93) rfl)) rfl
set_option maxHeartbeats 4000000 in
set_option maxRecDepth 100000 in
theorem c_m_fault (l : Launch) (D : va_G) (cI cJ cC cZ cS : ClassId) (mm : Nat) (g : Nat → Nat) (ta : Nat) (pa : Nat) (pe : Nat) (pd : Int32) (pb : Nat) (pp : Int32) (pf : Int32) (pg : Int32) (pn : Int32) (rt : Int32) (rn : Int32) (cd : Nat) (sn : Int32) (il : Nat) (tk : Int32) (am : Int32) (at_ : Int32) (aa : Int32) (wt : Int32) (wy : Int64) (rm : Nat) (ud : Nat) (nu : Nat) (sd : Int64) (qn : Nat) (qw : Nat) (qo : Int32) (qb : Nat) (qp : Nat) (qa : Int64) (qi : Nat) (oc : Nat) (w : Int32)  : skM l yX12_fault cX12_fault 2 (some .int) 0 0 0 0 D (skT cI cJ cC cZ cS) [.ref mm, .int w] [(mm, .inr (12, mo g (nI ta) (nI pa) (nI pe) pd (nI pb) pp pf pg pn rt rn (nI cd) sn (nI il) tk am at_ aa 0 0 (-1) wt wy 0 (nI rm) (nI ud) (nI nu) sd (nI qn) (nI qw) qo (nI qb) (nI qp) qa (nI qi) (nI oc)))] (skI D (skT cI cJ cC cZ cS) (fun (r : Int32) (u : va_W) => u = [(mm, .inr (12, mo g (nI ta) (nI pa) (nI pe) pd (nI pb) pp pf pg pn rt rn (nI cd) sn (nI il) tk am at_ aa 0 0 (-1) wt wy 0 (nI rm) (nI ud) (nI nu) sd (nI qn) (nI qw) qo (nI qb) (nI qp) qa (nI qi) (nI oc)))])) := by
  refine skM_of (by decide +kernel) (Nat.le_of_ble_eq_true rfl) ?_
  intro p e s m below meth c A ls E hP hD hl
  obtain ⟨hx, hb, hr, hml, hlocks, hin, hown, hts, hK, hA⟩ := E
  have hown : s.vm.findClass RX12 = some m.cls := hown
  have hS : va_S A s.heap s.heap [] := va_S.rf
  have hl : lv_has ls 2 [(0, .ref mm), (1, .int w)] := hl
  refine lv_iload_n hx hb dX12_fault_0 rfl (lv_at hl 1 rfl) ?_
  refine lv_if_ne (tgt := 11) hx hb dX12_fault_1 (by decide) (fun c_1 => ?_) (fun c_1 => ?_)
  · skip
    refine lv_iload_n hx hb dX12_fault_11 rfl (lv_at hl 1 rfl) ?_
    refine lv_iconst (v := 1) hx hb dX12_fault_12 (by decide) ?_
    refine lv_icmp_ne (tgt := 23) hx hb dX12_fault_13 (by decide) (fun c_2 => ?_) (fun c_2 => ?_)
    · skip
      refine lv_iconst (v := (-1)) hx hb dX12_fault_23 (by decide) ?_
      exact sk_iret hx hb hr rfl hlocks hK hP hD hS rfl (Nat.le_of_ble_eq_true rfl) (Nat.le_of_ble_eq_true rfl) dX12_fault_24
    · skip
      refine lv_aload_n hx hb dX12_fault_16 rfl (lv_at hl 0 rfl) ?_
      refine sk_get (v := .int pg) (C := RX12) (T := TX12) (N := 92) hx hb hts inlX12 hown hK hP 0 rfl rfl 8 (by decide) w_5_163 rfl dX12_fault_17 ?_
      refine lv_goto (tgt := 24) hx hb dX12_fault_20 (by decide) ?_
      exact sk_iret hx hb hr rfl hlocks hK hP hD hS rfl (Nat.le_of_ble_eq_true rfl) (Nat.le_of_ble_eq_true rfl) dX12_fault_24
  · skip
    refine lv_aload_n hx hb dX12_fault_4 rfl (lv_at hl 0 rfl) ?_
    refine sk_get (v := .int pf) (C := RX12) (T := TX12) (N := 92) hx hb hts inlX12 hown hK hP 0 rfl rfl 7 (by decide) w_5_162 rfl dX12_fault_5 ?_
    refine lv_goto (tgt := 24) hx hb dX12_fault_8 (by decide) ?_
    exact sk_iret hx hb hr rfl hlocks hK hP hD hS rfl (Nat.le_of_ble_eq_true rfl) (Nat.le_of_ble_eq_true rfl) dX12_fault_24
