theorem dX9_moodsBehind_0 : decode cX9_moodsBehind 0 = .ok (.iconst 0, 1) := by decide +kernel
theorem dX9_moodsBehind_1 : decode cX9_moodsBehind 1 = .ok (.istore 4, 2) := by decide +kernel
theorem dX9_moodsBehind_3 : decode cX9_moodsBehind 3 = .ok (.iconst 0, 1) := by decide +kernel
theorem dX9_moodsBehind_4 : decode cX9_moodsBehind 4 = .ok (.istore 5, 2) := by decide +kernel
theorem dX9_moodsBehind_6 : decode cX9_moodsBehind 6 = .ok (.iload 5, 2) := by decide +kernel
theorem dX9_moodsBehind_8 : decode cX9_moodsBehind 8 = .ok (.bipush 10, 2) := by decide +kernel
theorem dX9_moodsBehind_10 : decode cX9_moodsBehind 10 = .ok (.if_icmp .ge 59, 3) := by decide +kernel
theorem dX9_moodsBehind_69 : decode cX9_moodsBehind 69 = .ok (.iload 4, 2) := by decide +kernel
theorem dX9_moodsBehind_71 : decode cX9_moodsBehind 71 = .ok (.ireturn, 1) := by decide +kernel
theorem dX9_moodsBehind_13 : decode cX9_moodsBehind 13 = .ok (.aload_n 0, 1) := by decide +kernel
theorem dX9_moodsBehind_14 : decode cX9_moodsBehind 14 = .ok (.getfield 9, 3) := by decide +kernel
theorem dX9_moodsBehind_17 : decode cX9_moodsBehind 17 = .ok (.iload_n 1, 1) := by decide +kernel
theorem dX9_moodsBehind_18 : decode cX9_moodsBehind 18 = .ok (.bipush 10, 2) := by decide +kernel
theorem dX9_moodsBehind_20 : decode cX9_moodsBehind 20 = .ok (.imul, 1) := by decide +kernel
theorem dX9_moodsBehind_21 : decode cX9_moodsBehind 21 = .ok (.iload 5, 2) := by decide +kernel
theorem dX9_moodsBehind_23 : decode cX9_moodsBehind 23 = .ok (.iadd, 1) := by decide +kernel
theorem dX9_moodsBehind_24 : decode cX9_moodsBehind 24 = .ok (.iaload, 1) := by decide +kernel
theorem dX9_moodsBehind_25 : decode cX9_moodsBehind 25 = .ok (.iload_n 3, 1) := by decide +kernel
theorem dX9_moodsBehind_26 : decode cX9_moodsBehind 26 = .ok (.iadd, 1) := by decide +kernel
theorem dX9_moodsBehind_27 : decode cX9_moodsBehind 27 = .ok (.bipush 10, 2) := by decide +kernel
theorem dX9_moodsBehind_29 : decode cX9_moodsBehind 29 = .ok (.irem, 1) := by decide +kernel
theorem dX9_moodsBehind_30 : decode cX9_moodsBehind 30 = .ok (.istore 6, 2) := by decide +kernel
theorem dX9_moodsBehind_32 : decode cX9_moodsBehind 32 = .ok (.aload_n 0, 1) := by decide +kernel
theorem dX9_moodsBehind_33 : decode cX9_moodsBehind 33 = .ok (.getfield 15, 3) := by decide +kernel
theorem dX9_moodsBehind_36 : decode cX9_moodsBehind 36 = .ok (.iload_n 1, 1) := by decide +kernel
theorem dX9_moodsBehind_37 : decode cX9_moodsBehind 37 = .ok (.bipush 10, 2) := by decide +kernel
theorem dX9_moodsBehind_39 : decode cX9_moodsBehind 39 = .ok (.imul, 1) := by decide +kernel
theorem dX9_moodsBehind_40 : decode cX9_moodsBehind 40 = .ok (.iload_n 2, 1) := by decide +kernel
theorem dX9_moodsBehind_41 : decode cX9_moodsBehind 41 = .ok (.iadd, 1) := by decide +kernel
theorem dX9_moodsBehind_42 : decode cX9_moodsBehind 42 = .ok (.bipush 10, 2) := by decide +kernel
theorem dX9_moodsBehind_44 : decode cX9_moodsBehind 44 = .ok (.imul, 1) := by decide +kernel
theorem dX9_moodsBehind_45 : decode cX9_moodsBehind 45 = .ok (.iload 6, 2) := by decide +kernel
theorem dX9_moodsBehind_47 : decode cX9_moodsBehind 47 = .ok (.iadd, 1) := by decide +kernel
theorem dX9_moodsBehind_48 : decode cX9_moodsBehind 48 = .ok (.iaload, 1) := by decide +kernel
theorem dX9_moodsBehind_49 : decode cX9_moodsBehind 49 = .ok (.iload 5, 2) := by decide +kernel
theorem dX9_moodsBehind_51 : decode cX9_moodsBehind 51 = .ok (.if_icmp .ne 12, 3) := by decide +kernel
theorem dX9_moodsBehind_63 : decode cX9_moodsBehind 63 = .ok (.iinc 5 1, 3) := by decide +kernel
theorem dX9_moodsBehind_66 : decode cX9_moodsBehind 66 = .ok (.goto (-60), 3) := by decide +kernel
theorem dX9_moodsBehind_54 : decode cX9_moodsBehind 54 = .ok (.iload 4, 2) := by decide +kernel
theorem dX9_moodsBehind_56 : decode cX9_moodsBehind 56 = .ok (.iconst 1, 1) := by decide +kernel
theorem dX9_moodsBehind_57 : decode cX9_moodsBehind 57 = .ok (.iload 5, 2) := by decide +kernel
theorem dX9_moodsBehind_59 : decode cX9_moodsBehind 59 = .ok (.ishl, 1) := by decide +kernel
theorem dX9_moodsBehind_60 : decode cX9_moodsBehind 60 = .ok (.ior, 1) := by decide +kernel
theorem dX9_moodsBehind_61 : decode cX9_moodsBehind 61 = .ok (.istore 4, 2) := by decide +kernel
theorem w_2_63 : (Cond.fieldLink RX9 9 "SameKeeper$Table" "said" "[I") ∈ wsL_law := sk_mem (ck_2 _ (List.mem_of_getElem? (i := 63) rfl)) rfl
theorem w_2_65 : (Cond.fieldLink RX9 15 "SameKeeper$Table" "turned" "[I") ∈ wsL_law := sk_mem (ck_2 _ (List.mem_of_getElem? (i := 65) rfl)) rfl
theorem w_4_20 : (Cond.code yX9_moodsBehind cX9_moodsBehind 7 (some .int)) ∈ wsL_law := sk_mem (ck_4 _ (List.mem_of_getElem? (i := 20) rfl)) rfl
set_option maxHeartbeats 4000000 in
set_option maxRecDepth 100000 in
theorem c_moodsBehind (l : Launch) (D : va_G) (cI cJ cC cZ cS : ClassId) (q : Nat → Nat) (sa : Nat → Nat) (ft : Nat → Int32) (d : Nat) (ah : Nat) (li : Nat) (hsa : ∀ j, sa j ≤ 9) (hd : d < 9) (hah : ah < 10) (hli : li < 10) : skM l yX9_moodsBehind cX9_moodsBehind 7 (some .int) 0 0 0 0 D (skT cI cJ cC cZ cS) [.ref (q 10), .int (nI d), .int (nI ah), .int (nI li)] [(q 10, .inr (9, [.ref (q 61), .ref (q 62), .ref (q 63), .ref (q 64), .ref (q 65), .ref (q 66)])), (q 61, .inl (cI, 90, .inl (fun j => nI (sa j)))), (q 62, .inl (cI, 900, .inl ft))] (skI D (skT cI cJ cC cZ cS) (fun (r : Int32) (u : va_W) => u = [(q 10, .inr (9, [.ref (q 61), .ref (q 62), .ref (q 63), .ref (q 64), .ref (q 65), .ref (q 66)])), (q 61, .inl (cI, 90, .inl (fun j => nI (sa j)))), (q 62, .inl (cI, 900, .inl ft))])) := by
  refine skM_of (by decide +kernel) (Nat.le_of_ble_eq_true rfl) ?_
  intro p e s m below meth c A ls E hP hD hl
  obtain ⟨hx, hb, hr, hml, hlocks, hin, hown, hts, hK, hA⟩ := E
  have hown : s.vm.findClass RX9 = some m.cls := hown
  have hS : va_S A s.heap s.heap [] := va_S.rf
  have hl : lv_has ls 7 [(0, .ref (q 10)), (1, .int (nI d)), (2, .int (nI ah)), (3, .int (nI li))] := hl
  refine lv_iconst (v := 0) hx hb dX9_moodsBehind_0 (by decide) ?_
  refine lv_istore (lv' := [(4, .int 0), (0, .ref (q 10)), (1, .int (nI d)), (2, .int (nI ah)), (3, .int (nI li))]) hx hb dX9_moodsBehind_1 hl (by decide) rfl (fun ls hl => ?_)
  refine lv_iconst (v := 0) hx hb dX9_moodsBehind_3 (by decide) ?_
  refine lv_istore (lv' := [(5, .int 0), (4, .int 0), (0, .ref (q 10)), (1, .int (nI d)), (2, .int (nI ah)), (3, .int (nI li))]) hx hb dX9_moodsBehind_4 hl (by decide) rfl (fun ls hl => ?_)
  have lp_1 : ∀ (n_2 : Nat) (i : Nat) (mo : Int32) (H : Heap) (locs : List Loc) (ls : Array Slot), 10 - i < n_2 → (i ≤ 10) → va_P D vwCl [(q 10, .inr (9, [.ref (q 61), .ref (q 62), .ref (q 63), .ref (q 64), .ref (q 65), .ref (q 66)])), (q 61, .inl (cI, 90, .inl (fun j => nI (sa j)))), (q 62, .inl (cI, 900, .inl ft))] H → va_D A [(q 10, .inr (9, [.ref (q 61), .ref (q 62), .ref (q 63), .ref (q 64), .ref (q 65), .ref (q 66)])), (q 61, .inl (cI, 90, .inl (fun j => nI (sa j)))), (q 62, .inl (cI, 900, .inl ft))] → va_S A s.heap H locs → lv_has ls 7 [(5, .int (nI i)), (4, .int mo), (0, .ref (q 10)), (1, .int (nI d)), (2, .int (nI ah)), (3, .int (nI li))] → W p l e { frames := 0, cells := 0, slots := 0, locals := 0 } s m ([.ref (q 10), .int (nI d), .int (nI ah), .int (nI li)] : List Value).toArray below meth c H locs 0 0 (MQ below (skI D (skT cI cJ cC cZ cS) (fun (r : Int32) (u : va_W) => u = [(q 10, .inr (9, [.ref (q 61), .ref (q 62), .ref (q 63), .ref (q 64), .ref (q 65), .ref (q 66)])), (q 61, .inl (cI, 90, .inl (fun j => nI (sa j)))), (q 62, .inl (cI, 900, .inl ft))]) A) ([.ref (q 10), .int (nI d), .int (nI ah), .int (nI li)] : List Value).toArray s 0 0 A) (F0 m 6 ls []) := by
    intro n_2
    induction n_2 with
    | zero => intro i mo H locs ls hm; exact absurd hm (Nat.not_lt_zero _)
    | succ n_2 ih_lp_1 =>
      intro i mo H locs ls hm hi hP hD hS hl
      refine lv_iload hx hb dX9_moodsBehind_6 (lv_at hl 0 rfl) ?_
      refine lv_bipush (v := 10) hx hb dX9_moodsBehind_8 (by decide) ?_
      refine lv_icmp_ge (tgt := 69) hx hb dX9_moodsBehind_10 (by decide) (fun c_3 => ?_) (fun c_3 => ?_)
      · have c_3 : 10 ≤ i := (nle 10 i (by omega) (by omega)).mp c_3
        refine lv_iload hx hb dX9_moodsBehind_69 (lv_at hl 1 rfl) ?_
        exact sk_iret hx hb hr rfl hlocks hK hP hD hS rfl (Nat.le_of_ble_eq_true rfl) (Nat.le_of_ble_eq_true rfl) dX9_moodsBehind_71
      · have c_3 : ¬ (10 ≤ i) := fun h => c_3 ((nle 10 i (by omega) (by omega)).mpr h)
        refine lv_aload_n hx hb dX9_moodsBehind_13 rfl (lv_at hl 2 rfl) ?_
        refine sk_get (v := .ref (q 61)) (C := RX9) (T := TX9) (N := 6) hx hb hts inlX9 hown hK hP 0 rfl rfl 0 (by decide) w_2_63 rfl dX9_moodsBehind_14 ?_
        refine lv_iload_n hx hb dX9_moodsBehind_17 rfl (lv_at hl 3 rfl) ?_
        refine lv_bipush (v := 10) hx hb dX9_moodsBehind_18 (by decide) ?_
        refine lv_imul hx hb dX9_moodsBehind_20 ?_
        refine sk_top (nI (d * 10)) (nmul d 10) ?_
        refine lv_iload hx hb dX9_moodsBehind_21 (lv_at hl 0 rfl) ?_
        refine lv_iadd hx hb dX9_moodsBehind_23 ?_
        refine sk_top (nI (d * 10 + i)) (nI_add (d * 10) i) ?_
        refine va_iald hx hb hK.1 hP 1 0 rfl rfl (vin (d * 10 + i) 90 (by omega) (by omega)) dX9_moodsBehind_24 ?_
        refine sk_top (nI (sa (d * 10 + i))) (nrd sa (d * 10 + i) (by omega)) ?_
        have hb_4 := hsa (d * 10 + i)
        refine lv_iload_n hx hb dX9_moodsBehind_25 rfl (lv_at hl 5 rfl) ?_
        refine lv_iadd hx hb dX9_moodsBehind_26 ?_
        refine sk_top (nI (sa (d * 10 + i) + li)) (nI_add (sa (d * 10 + i)) li) ?_
        refine lv_bipush (v := 10) hx hb dX9_moodsBehind_27 (by decide) ?_
        refine lv_irem hx hb dX9_moodsBehind_29 (by decide) ?_
        refine sk_top (nI ((sa (d * 10 + i) + li) % 10)) (nrem (sa (d * 10 + i) + li) 10 (by omega) (by omega) (by omega)) ?_
        refine lv_istore (lv' := [(6, .int (nI ((sa (d * 10 + i) + li) % 10))), (5, .int (nI i)), (4, .int mo), (0, .ref (q 10)), (1, .int (nI d)), (2, .int (nI ah)), (3, .int (nI li))]) hx hb dX9_moodsBehind_30 hl (by decide) rfl (fun ls hl => ?_)
        refine lv_aload_n hx hb dX9_moodsBehind_32 rfl (lv_at hl 3 rfl) ?_
        refine sk_get (v := .ref (q 62)) (C := RX9) (T := TX9) (N := 6) hx hb hts inlX9 hown hK hP 0 rfl rfl 1 (by decide) w_2_65 rfl dX9_moodsBehind_33 ?_
        refine lv_iload_n hx hb dX9_moodsBehind_36 rfl (lv_at hl 4 rfl) ?_
        refine lv_bipush (v := 10) hx hb dX9_moodsBehind_37 (by decide) ?_
        refine lv_imul hx hb dX9_moodsBehind_39 ?_
        refine sk_top (nI (d * 10)) (nmul d 10) ?_
        refine lv_iload_n hx hb dX9_moodsBehind_40 rfl (lv_at hl 5 rfl) ?_
        refine lv_iadd hx hb dX9_moodsBehind_41 ?_
        refine sk_top (nI (d * 10 + ah)) (nI_add (d * 10) ah) ?_
        refine lv_bipush (v := 10) hx hb dX9_moodsBehind_42 (by decide) ?_
        refine lv_imul hx hb dX9_moodsBehind_44 ?_
        refine sk_top (nI ((d * 10 + ah) * 10)) (nmul (d * 10 + ah) 10) ?_
        refine lv_iload hx hb dX9_moodsBehind_45 (lv_at hl 0 rfl) ?_
        refine lv_iadd hx hb dX9_moodsBehind_47 ?_
        refine sk_top (nI ((d * 10 + ah) * 10 + ((sa (d * 10 + i) + li) % 10))) (nI_add ((d * 10 + ah) * 10) ((sa (d * 10 + i) + li) % 10)) ?_
        refine va_iald hx hb hK.1 hP 2 0 rfl rfl (vin ((d * 10 + ah) * 10 + ((sa (d * 10 + i) + li) % 10)) 900 (by omega) (by omega)) dX9_moodsBehind_48 ?_
        refine lv_topi (fun v_5 ev_5 => ?_)
        refine lv_iload hx hb dX9_moodsBehind_49 (lv_at hl 1 rfl) ?_
        refine lv_icmp_ne (tgt := 63) hx hb dX9_moodsBehind_51 (by decide) (fun c_6 => ?_) (fun c_6 => ?_)
        · skip
          refine lv_iinc (v := nI (i + 1)) (lv' := [(5, .int (nI (i + 1))), (6, .int (nI ((sa (d * 10 + i) + li) % 10))), (4, .int mo), (0, .ref (q 10)), (1, .int (nI d)), (2, .int (nI ah)), (3, .int (nI li))]) hx hb dX9_moodsBehind_63 hl (k := 1) rfl (ninc i 1 (by decide)) (by decide) rfl (fun ls hl => ?_)
          refine lv_goto (tgt := 6) hx hb dX9_moodsBehind_66 (by decide) ?_
          exact ih_lp_1 (i + 1) mo _ _ _ (by omega) (by omega) hP hD hS (lv_sub hl [0, 2, 3, 4, 5, 6] rfl)
        · skip
          refine lv_iload hx hb dX9_moodsBehind_54 (lv_at hl 2 rfl) ?_
          refine lv_iconst (v := 1) hx hb dX9_moodsBehind_56 (by decide) ?_
          refine lv_iload hx hb dX9_moodsBehind_57 (lv_at hl 1 rfl) ?_
          refine lv_ishl hx hb dX9_moodsBehind_59 ?_
          refine lv_topi (fun v_7 ev_7 => ?_)
          refine lv_ior hx hb dX9_moodsBehind_60 ?_
          refine lv_topi (fun v_8 ev_8 => ?_)
          refine lv_istore (lv' := [(4, .int v_8), (6, .int (nI ((sa (d * 10 + i) + li) % 10))), (5, .int (nI i)), (0, .ref (q 10)), (1, .int (nI d)), (2, .int (nI ah)), (3, .int (nI li))]) hx hb dX9_moodsBehind_61 hl (by decide) rfl (fun ls hl => ?_)
          refine lv_iinc (v := nI (i + 1)) (lv' := [(5, .int (nI (i + 1))), (4, .int v_8), (6, .int (nI ((sa (d * 10 + i) + li) % 10))), (0, .ref (q 10)), (1, .int (nI d)), (2, .int (nI ah)), (3, .int (nI li))]) hx hb dX9_moodsBehind_63 hl (k := 2) rfl (ninc i 1 (by decide)) (by decide) rfl (fun ls hl => ?_)
          refine lv_goto (tgt := 6) hx hb dX9_moodsBehind_66 (by decide) ?_
          exact ih_lp_1 (i + 1) v_8 _ _ _ (by omega) (by omega) hP hD hS (lv_sub hl [0, 1, 3, 4, 5, 6] rfl)
  exact lp_1 (10 - 0 + 1) 0 0 _ _ _ (Nat.lt_succ_self _) (by omega) hP hD hS (lv_sub hl [0, 1, 2, 3, 4, 5] rfl)
theorem dX9_moodsThatSay_0 : decode cX9_moodsThatSay 0 = .ok (.iconst 0, 1) := by decide +kernel
theorem dX9_moodsThatSay_1 : decode cX9_moodsThatSay 1 = .ok (.istore_n 3, 1) := by decide +kernel
theorem dX9_moodsThatSay_2 : decode cX9_moodsThatSay 2 = .ok (.iconst 0, 1) := by decide +kernel
theorem dX9_moodsThatSay_3 : decode cX9_moodsThatSay 3 = .ok (.istore 4, 2) := by decide +kernel
theorem dX9_moodsThatSay_5 : decode cX9_moodsThatSay 5 = .ok (.iload 4, 2) := by decide +kernel
theorem dX9_moodsThatSay_7 : decode cX9_moodsThatSay 7 = .ok (.bipush 10, 2) := by decide +kernel
theorem dX9_moodsThatSay_9 : decode cX9_moodsThatSay 9 = .ok (.if_icmp .ge 32, 3) := by decide +kernel
theorem dX9_moodsThatSay_41 : decode cX9_moodsThatSay 41 = .ok (.iload_n 3, 1) := by decide +kernel
theorem dX9_moodsThatSay_42 : decode cX9_moodsThatSay 42 = .ok (.ireturn, 1) := by decide +kernel
theorem dX9_moodsThatSay_12 : decode cX9_moodsThatSay 12 = .ok (.aload_n 0, 1) := by decide +kernel
theorem dX9_moodsThatSay_13 : decode cX9_moodsThatSay 13 = .ok (.getfield 9, 3) := by decide +kernel
theorem dX9_moodsThatSay_16 : decode cX9_moodsThatSay 16 = .ok (.iload_n 1, 1) := by decide +kernel
theorem dX9_moodsThatSay_17 : decode cX9_moodsThatSay 17 = .ok (.bipush 10, 2) := by decide +kernel
theorem dX9_moodsThatSay_19 : decode cX9_moodsThatSay 19 = .ok (.imul, 1) := by decide +kernel
theorem dX9_moodsThatSay_20 : decode cX9_moodsThatSay 20 = .ok (.iload 4, 2) := by decide +kernel
theorem dX9_moodsThatSay_22 : decode cX9_moodsThatSay 22 = .ok (.iadd, 1) := by decide +kernel
theorem dX9_moodsThatSay_23 : decode cX9_moodsThatSay 23 = .ok (.iaload, 1) := by decide +kernel
theorem dX9_moodsThatSay_24 : decode cX9_moodsThatSay 24 = .ok (.iload_n 2, 1) := by decide +kernel
theorem dX9_moodsThatSay_25 : decode cX9_moodsThatSay 25 = .ok (.if_icmp .ne 10, 3) := by decide +kernel
theorem dX9_moodsThatSay_35 : decode cX9_moodsThatSay 35 = .ok (.iinc 4 1, 3) := by decide +kernel
theorem dX9_moodsThatSay_38 : decode cX9_moodsThatSay 38 = .ok (.goto (-33), 3) := by decide +kernel
theorem dX9_moodsThatSay_28 : decode cX9_moodsThatSay 28 = .ok (.iload_n 3, 1) := by decide +kernel
theorem dX9_moodsThatSay_29 : decode cX9_moodsThatSay 29 = .ok (.iconst 1, 1) := by decide +kernel
theorem dX9_moodsThatSay_30 : decode cX9_moodsThatSay 30 = .ok (.iload 4, 2) := by decide +kernel
theorem dX9_moodsThatSay_32 : decode cX9_moodsThatSay 32 = .ok (.ishl, 1) := by decide +kernel
theorem dX9_moodsThatSay_33 : decode cX9_moodsThatSay 33 = .ok (.ior, 1) := by decide +kernel
theorem dX9_moodsThatSay_34 : decode cX9_moodsThatSay 34 = .ok (.istore_n 3, 1) := by decide +kernel
theorem w_4_197 : (Cond.code yX9_moodsThatSay cX9_moodsThatSay 5 (some .int)) ∈ wsL_law := sk_mem (ck_4 _ (List.mem_of_getElem? (i := 197) rfl)) rfl
set_option maxHeartbeats 4000000 in
set_option maxRecDepth 100000 in
theorem c_moodsThatSay (l : Launch) (D : va_G) (cI cJ cC cZ cS : ClassId) (q : Nat → Nat) (sa : Nat → Nat) (d : Nat) (o : Int32) (hsa : ∀ j, sa j ≤ 9) (hd : d < 9) : skM l yX9_moodsThatSay cX9_moodsThatSay 5 (some .int) 0 0 0 0 D (skT cI cJ cC cZ cS) [.ref (q 10), .int (nI d), .int o] [(q 10, .inr (9, [.ref (q 61), .ref (q 62), .ref (q 63), .ref (q 64), .ref (q 65), .ref (q 66)])), (q 61, .inl (cI, 90, .inl (fun j => nI (sa j))))] (skI D (skT cI cJ cC cZ cS) (fun (r : Int32) (u : va_W) => u = [(q 10, .inr (9, [.ref (q 61), .ref (q 62), .ref (q 63), .ref (q 64), .ref (q 65), .ref (q 66)])), (q 61, .inl (cI, 90, .inl (fun j => nI (sa j))))])) := by
  refine skM_of (by decide +kernel) (Nat.le_of_ble_eq_true rfl) ?_
  intro p e s m below meth c A ls E hP hD hl
  obtain ⟨hx, hb, hr, hml, hlocks, hin, hown, hts, hK, hA⟩ := E
  have hown : s.vm.findClass RX9 = some m.cls := hown
  have hS : va_S A s.heap s.heap [] := va_S.rf
  have hl : lv_has ls 5 [(0, .ref (q 10)), (1, .int (nI d)), (2, .int o)] := hl
  refine lv_iconst (v := 0) hx hb dX9_moodsThatSay_0 (by decide) ?_
  refine lv_istore_n (lv' := [(3, .int 0), (0, .ref (q 10)), (1, .int (nI d)), (2, .int o)]) hx hb dX9_moodsThatSay_1 rfl hl (by decide) rfl (fun ls hl => ?_)
  refine lv_iconst (v := 0) hx hb dX9_moodsThatSay_2 (by decide) ?_
  refine lv_istore (lv' := [(4, .int 0), (3, .int 0), (0, .ref (q 10)), (1, .int (nI d)), (2, .int o)]) hx hb dX9_moodsThatSay_3 hl (by decide) rfl (fun ls hl => ?_)
  have lp_1 : ∀ (n_2 : Nat) (i : Nat) (mo : Int32) (H : Heap) (locs : List Loc) (ls : Array Slot), 10 - i < n_2 → (i ≤ 10) → va_P D vwCl [(q 10, .inr (9, [.ref (q 61), .ref (q 62), .ref (q 63), .ref (q 64), .ref (q 65), .ref (q 66)])), (q 61, .inl (cI, 90, .inl (fun j => nI (sa j))))] H → va_D A [(q 10, .inr (9, [.ref (q 61), .ref (q 62), .ref (q 63), .ref (q 64), .ref (q 65), .ref (q 66)])), (q 61, .inl (cI, 90, .inl (fun j => nI (sa j))))] → va_S A s.heap H locs → lv_has ls 5 [(4, .int (nI i)), (3, .int mo), (0, .ref (q 10)), (1, .int (nI d)), (2, .int o)] → W p l e { frames := 0, cells := 0, slots := 0, locals := 0 } s m ([.ref (q 10), .int (nI d), .int o] : List Value).toArray below meth c H locs 0 0 (MQ below (skI D (skT cI cJ cC cZ cS) (fun (r : Int32) (u : va_W) => u = [(q 10, .inr (9, [.ref (q 61), .ref (q 62), .ref (q 63), .ref (q 64), .ref (q 65), .ref (q 66)])), (q 61, .inl (cI, 90, .inl (fun j => nI (sa j))))]) A) ([.ref (q 10), .int (nI d), .int o] : List Value).toArray s 0 0 A) (F0 m 5 ls []) := by
    intro n_2
    induction n_2 with
    | zero => intro i mo H locs ls hm; exact absurd hm (Nat.not_lt_zero _)
    | succ n_2 ih_lp_1 =>
      intro i mo H locs ls hm hi hP hD hS hl
      refine lv_iload hx hb dX9_moodsThatSay_5 (lv_at hl 0 rfl) ?_
      refine lv_bipush (v := 10) hx hb dX9_moodsThatSay_7 (by decide) ?_
      refine lv_icmp_ge (tgt := 41) hx hb dX9_moodsThatSay_9 (by decide) (fun c_3 => ?_) (fun c_3 => ?_)
      · have c_3 : 10 ≤ i := (nle 10 i (by omega) (by omega)).mp c_3
        refine lv_iload_n hx hb dX9_moodsThatSay_41 rfl (lv_at hl 1 rfl) ?_
        exact sk_iret hx hb hr rfl hlocks hK hP hD hS rfl (Nat.le_of_ble_eq_true rfl) (Nat.le_of_ble_eq_true rfl) dX9_moodsThatSay_42
      · have c_3 : ¬ (10 ≤ i) := fun h => c_3 ((nle 10 i (by omega) (by omega)).mpr h)
        refine lv_aload_n hx hb dX9_moodsThatSay_12 rfl (lv_at hl 2 rfl) ?_
        refine sk_get (v := .ref (q 61)) (C := RX9) (T := TX9) (N := 6) hx hb hts inlX9 hown hK hP 0 rfl rfl 0 (by decide) w_2_63 rfl dX9_moodsThatSay_13 ?_
        refine lv_iload_n hx hb dX9_moodsThatSay_16 rfl (lv_at hl 3 rfl) ?_
        refine lv_bipush (v := 10) hx hb dX9_moodsThatSay_17 (by decide) ?_
        refine lv_imul hx hb dX9_moodsThatSay_19 ?_
        refine sk_top (nI (d * 10)) (nmul d 10) ?_
        refine lv_iload hx hb dX9_moodsThatSay_20 (lv_at hl 0 rfl) ?_
        refine lv_iadd hx hb dX9_moodsThatSay_22 ?_
        refine sk_top (nI (d * 10 + i)) (nI_add (d * 10) i) ?_
        refine va_iald hx hb hK.1 hP 1 0 rfl rfl (vin (d * 10 + i) 90 (by omega) (by omega)) dX9_moodsThatSay_23 ?_
        refine sk_top (nI (sa (d * 10 + i))) (nrd sa (d * 10 + i) (by omega)) ?_
        have hb_4 := hsa (d * 10 + i)
        refine lv_iload_n hx hb dX9_moodsThatSay_24 rfl (lv_at hl 4 rfl) ?_
        refine lv_icmp_ne (tgt := 35) hx hb dX9_moodsThatSay_25 (by decide) (fun c_5 => ?_) (fun c_5 => ?_)
        · skip
          refine lv_iinc (v := nI (i + 1)) (lv' := [(4, .int (nI (i + 1))), (3, .int mo), (0, .ref (q 10)), (1, .int (nI d)), (2, .int o)]) hx hb dX9_moodsThatSay_35 hl (k := 0) rfl (ninc i 1 (by decide)) (by decide) rfl (fun ls hl => ?_)
          refine lv_goto (tgt := 5) hx hb dX9_moodsThatSay_38 (by decide) ?_
          exact ih_lp_1 (i + 1) mo _ _ _ (by omega) (by omega) hP hD hS (lv_sub hl [0, 1, 2, 3, 4] rfl)
        · skip
          refine lv_iload_n hx hb dX9_moodsThatSay_28 rfl (lv_at hl 1 rfl) ?_
          refine lv_iconst (v := 1) hx hb dX9_moodsThatSay_29 (by decide) ?_
          refine lv_iload hx hb dX9_moodsThatSay_30 (lv_at hl 0 rfl) ?_
          refine lv_ishl hx hb dX9_moodsThatSay_32 ?_
          refine lv_topi (fun v_6 ev_6 => ?_)
          refine lv_ior hx hb dX9_moodsThatSay_33 ?_
          refine lv_topi (fun v_7 ev_7 => ?_)
          refine lv_istore_n (lv' := [(3, .int v_7), (4, .int (nI i)), (0, .ref (q 10)), (1, .int (nI d)), (2, .int o)]) hx hb dX9_moodsThatSay_34 rfl hl (by decide) rfl (fun ls hl => ?_)
          refine lv_iinc (v := nI (i + 1)) (lv' := [(4, .int (nI (i + 1))), (3, .int v_7), (0, .ref (q 10)), (1, .int (nI d)), (2, .int o)]) hx hb dX9_moodsThatSay_35 hl (k := 1) rfl (ninc i 1 (by decide)) (by decide) rfl (fun ls hl => ?_)
          refine lv_goto (tgt := 5) hx hb dX9_moodsThatSay_38 (by decide) ?_
          exact ih_lp_1 (i + 1) v_7 _ _ _ (by omega) (by omega) hP hD hS (lv_sub hl [0, 1, 2, 3, 4] rfl)
  exact lp_1 (10 - 0 + 1) 0 0 _ _ _ (Nat.lt_succ_self _) (by omega) hP hD hS (lv_sub hl [0, 1, 2, 3, 4] rfl)
theorem dX9_forget_0 : decode cX9_forget 0 = .ok (.aload_n 0, 1) := by decide +kernel
theorem dX9_forget_1 : decode cX9_forget 1 = .ok (.getfield 28, 3) := by decide +kernel
theorem dX9_forget_4 : decode cX9_forget 4 = .ok (.iconst (-1), 1) := by decide +kernel
theorem dX9_forget_5 : decode cX9_forget 5 = .ok (.invokestatic 31, 3) := by decide +kernel
theorem dX9_forget_8 : decode cX9_forget 8 = .ok (.return_, 1) := by decide +kernel
theorem w_2_75 : (Cond.fieldLink RX9 28 "SameKeeper$Table" "keys" "[I") ∈ wsL_law := sk_mem (ck_2 _ (List.mem_of_getElem? (i := 75) rfl)) rfl
theorem w_3_163 : (Cond.methodLink RX9 31 yJ7_fill_53178) ∈ wsL_law := sk_mem (ck_3 _ (List.mem_of_getElem? (i := 163) rfl)) rfl
theorem w_2_219 : (Cond.static yJ7_fill_53178) ∈ wsL_law := sk_mem (ck_2 _ (List.mem_of_getElem? (i := 219) rfl)) rfl
theorem w_1_15 : (Cond.initialized RJ7) ∈ wsL_law := sk_mem (ck_1 _ (List.mem_of_getElem? (i := 15) rfl)) rfl
theorem w_3_162 : (Cond.code yX9_forget cX9_forget 1 none) ∈ wsL_law := sk_mem (ck_3 _ (List.mem_of_getElem? (i := 162) rfl)) rfl
set_option maxHeartbeats 4000000 in
set_option maxRecDepth 100000 in
theorem c_tab_forget (l : Launch) (D : va_G) (cI cJ cC cZ cS : ClassId) (q : Nat → Nat) (fk : Nat → Int32)  : skM l yX9_forget cX9_forget 1 none 1 23 0 0 D (skT cI cJ cC cZ cS) [.ref (q 10)] [(q 10, .inr (9, [.ref (q 61), .ref (q 62), .ref (q 63), .ref (q 64), .ref (q 65), .ref (q 66)])), (q 66, .inl (cI, 9, .inl fk))] (skV D (skT cI cJ cC cZ cS) (fun (u : va_W) => ∃ (gk : Nat → Int32), u = [(q 10, .inr (9, [.ref (q 61), .ref (q 62), .ref (q 63), .ref (q 64), .ref (q 65), .ref (q 66)])), (q 66, .inl (cI, 9, .inl gk))])) := by
  refine skM_of (by decide +kernel) (Nat.le_of_ble_eq_true rfl) ?_
  intro p e s m below meth c A ls E hP hD hl
  obtain ⟨hx, hb, hr, hml, hlocks, hin, hown, hts, hK, hA⟩ := E
  have hown : s.vm.findClass RX9 = some m.cls := hown
  have hS : va_S A s.heap s.heap [] := va_S.rf
  have hl : lv_has ls 1 [(0, .ref (q 10))] := hl
  refine lv_aload_n hx hb dX9_forget_0 rfl (lv_at hl 0 rfl) ?_
  refine sk_get (v := .ref (q 66)) (C := RX9) (T := TX9) (N := 6) hx hb hts inlX9 hown hK hP 0 rfl rfl 5 (by decide) w_2_75 rfl dX9_forget_1 ?_
  refine lv_iconst (v := (-1)) hx hb dX9_forget_4 (by decide) ?_
  refine sk_Sv (n := 2) (rest := []) (wr := [(q 10, .inr (9, [.ref (q 61), .ref (q 62), .ref (q 63), .ref (q 64), .ref (q 65), .ref (q 66)]))]) ⟨hx, hb, hml, hown, hts⟩ hl.1 (c_fill l D cI cJ cC cZ cS (q 66) 9 fk (-1) (by omega)) w_3_163 w_2_219 w_1_15 w_2_220 (by decide +kernel) ⟨⟨(Nat.le_of_ble_eq_true rfl), (Nat.le_of_ble_eq_true rfl)⟩, (Nat.le_of_ble_eq_true rfl), (Nat.le_of_ble_eq_true rfl)⟩ hK hP hD hS hA [1] [0] rfl rfl (by decide +kernel) (by decide +kernel) (by decide +kernel) rfl rfl (Nat.le_of_ble_eq_true rfl) dX9_forget_5 (fun u H locs hw hP hD hS => ?_)
  obtain ⟨g_1, rfl⟩ := hw
  have hP : va_P D vwCl [(q 10, .inr (9, [.ref (q 61), .ref (q 62), .ref (q 63), .ref (q 64), .ref (q 65), .ref (q 66)])), (q 66, .inl (cI, 9, .inl g_1))] H := hP
  have hD : va_D A [(q 10, .inr (9, [.ref (q 61), .ref (q 62), .ref (q 63), .ref (q 64), .ref (q 65), .ref (q 66)])), (q 66, .inl (cI, 9, .inl g_1))] := hD
  exact sk_vret hx hb hr hlocks hK hP hD hS (⟨g_1, rfl⟩) (Nat.le_of_ble_eq_true rfl) (Nat.le_of_ble_eq_true rfl) dX9_forget_8
theorem dX9_nameDay_0 : decode cX9_nameDay 0 = .ok (.aload_n 0, 1) := by decide +kernel
theorem dX9_nameDay_1 : decode cX9_nameDay 1 = .ok (.sipush 10003, 3) := by decide +kernel
theorem dX9_nameDay_4 : decode cX9_nameDay 4 = .ok (.iload_n 2, 1) := by decide +kernel
theorem dX9_nameDay_5 : decode cX9_nameDay 5 = .ok (.i2l, 1) := by decide +kernel
theorem dX9_nameDay_6 : decode cX9_nameDay 6 = .ok (.invokevirtual 75, 3) := by decide +kernel
theorem dX9_nameDay_9 : decode cX9_nameDay 9 = .ok (.aload_n 0, 1) := by decide +kernel
theorem dX9_nameDay_10 : decode cX9_nameDay 10 = .ok (.sipush 10001, 3) := by decide +kernel
theorem dX9_nameDay_13 : decode cX9_nameDay 13 = .ok (.aload_n 1, 1) := by decide +kernel
theorem dX9_nameDay_14 : decode cX9_nameDay 14 = .ok (.getfield 58, 3) := by decide +kernel
theorem dX9_nameDay_17 : decode cX9_nameDay 17 = .ok (.iload_n 2, 1) := by decide +kernel
theorem dX9_nameDay_18 : decode cX9_nameDay 18 = .ok (.iaload, 1) := by decide +kernel
theorem dX9_nameDay_19 : decode cX9_nameDay 19 = .ok (.i2l, 1) := by decide +kernel
theorem dX9_nameDay_20 : decode cX9_nameDay 20 = .ok (.invokevirtual 75, 3) := by decide +kernel
theorem dX9_nameDay_23 : decode cX9_nameDay 23 = .ok (.aload_n 0, 1) := by decide +kernel
theorem dX9_nameDay_24 : decode cX9_nameDay 24 = .ok (.sipush 10002, 3) := by decide +kernel
theorem dX9_nameDay_27 : decode cX9_nameDay 27 = .ok (.aload_n 1, 1) := by decide +kernel
theorem dX9_nameDay_28 : decode cX9_nameDay 28 = .ok (.getfield 61, 3) := by decide +kernel
theorem dX9_nameDay_31 : decode cX9_nameDay 31 = .ok (.iload_n 2, 1) := by decide +kernel
theorem dX9_nameDay_32 : decode cX9_nameDay 32 = .ok (.iaload, 1) := by decide +kernel
theorem dX9_nameDay_33 : decode cX9_nameDay 33 = .ok (.i2l, 1) := by decide +kernel
theorem dX9_nameDay_34 : decode cX9_nameDay 34 = .ok (.invokevirtual 75, 3) := by decide +kernel
theorem dX9_nameDay_37 : decode cX9_nameDay 37 = .ok (.aload_n 0, 1) := by decide +kernel
theorem dX9_nameDay_38 : decode cX9_nameDay 38 = .ok (.sipush 10004, 3) := by decide +kernel
theorem dX9_nameDay_41 : decode cX9_nameDay 41 = .ok (.aload_n 1, 1) := by decide +kernel
theorem dX9_nameDay_42 : decode cX9_nameDay 42 = .ok (.getfield 49, 3) := by decide +kernel
theorem dX9_nameDay_45 : decode cX9_nameDay 45 = .ok (.i2l, 1) := by decide +kernel
theorem dX9_nameDay_46 : decode cX9_nameDay 46 = .ok (.invokevirtual 75, 3) := by decide +kernel
theorem dX9_nameDay_49 : decode cX9_nameDay 49 = .ok (.return_, 1) := by decide +kernel
theorem w_3_212 : (Cond.methodLink RX9 75 yX0_name) ∈ wsL_law := sk_mem (ck_3 _ (List.mem_of_getElem? (i := 212) rfl)) rfl
theorem w_3_213 : (Cond.instanceMethod yX0_name) ∈ wsL_law := sk_mem (ck_3 _ (List.mem_of_getElem? (i := 213) rfl)) rfl
theorem w_3_214 : (Cond.selects RX0 yX0_name yX0_name) ∈ wsL_law := sk_mem (ck_3 _ (List.mem_of_getElem? (i := 214) rfl)) rfl
theorem w_1_231 : (Cond.fieldLink RX9 58 "SameKeeper$State" "barge" "[I") ∈ wsL_law := sk_mem (ck_1 _ (List.mem_of_getElem? (i := 231) rfl)) rfl
theorem w_1_235 : (Cond.fieldLink RX9 61 "SameKeeper$State" "wet" "[I") ∈ wsL_law := sk_mem (ck_1 _ (List.mem_of_getElem? (i := 235) rfl)) rfl
theorem w_2_4 : (Cond.fieldLink RX9 49 "SameKeeper$State" "week" "I") ∈ wsL_law := sk_mem (ck_2 _ (List.mem_of_getElem? (i := 4) rfl)) rfl
theorem w_3_211 : (Cond.code yX9_nameDay cX9_nameDay 3 none) ∈ wsL_law := sk_mem (ck_3 _ (List.mem_of_getElem? (i := 211) rfl)) rfl
set_option maxHeartbeats 4000000 in
set_option maxRecDepth 100000 in
theorem c_nameDay (l : Launch) (D : va_G) (cI cJ cC cZ cS : ClassId) (q : Nat → Nat) (ch : Nat) (wh : Nat) (y3 : Nat → Int64) (o0 : Nat) (o1 : Nat) (o2 : Nat) (dy : Nat) (mo : Nat) (wk : Int32) (mu : Int32) (ke : Int32) (fb : Nat → Int32) (fw : Nat → Int32) (d : Nat) (hd : d < 9) : skM l yX9_nameDay cX9_nameDay 3 none 1 24 0 0 D (skT cI cJ cC cZ cS) [.ref (q 44), .ref o0, .int (nI d)] [(q 44, .inr (0, [.ref (q 49), .ref (q 50), .ref (q 51), .ref (q 52), .int (nI ch), .int (nI wh)])), (q 51, .inl (cJ, 9, .inr (.inl y3))), (o0, .inr (7, [.ref o1, .ref o2, .int (nI dy), .int wk, .int (nI mo), .int mu, .int ke])), (o1, .inl (cI, 9, .inl fb)), (o2, .inl (cI, 9, .inl fw))] (skV D (skT cI cJ cC cZ cS) (fun (u : va_W) => ∃ (z3 : Nat → Int64), u = [(q 44, .inr (0, [.ref (q 49), .ref (q 50), .ref (q 51), .ref (q 52), .int (nI ch), .int (nI wh)])), (q 51, .inl (cJ, 9, .inr (.inl z3))), (o0, .inr (7, [.ref o1, .ref o2, .int (nI dy), .int wk, .int (nI mo), .int mu, .int ke])), (o1, .inl (cI, 9, .inl fb)), (o2, .inl (cI, 9, .inl fw))])) := by
  refine skM_of (by decide +kernel) (Nat.le_of_ble_eq_true rfl) ?_
  intro p e s m below meth c A ls E hP hD hl
  obtain ⟨hx, hb, hr, hml, hlocks, hin, hown, hts, hK, hA⟩ := E
  have hown : s.vm.findClass RX9 = some m.cls := hown
  have hS : va_S A s.heap s.heap [] := va_S.rf
  have hl : lv_has ls 3 [(0, .ref (q 44)), (1, .ref o0), (2, .int (nI d))] := hl
  refine lv_aload_n hx hb dX9_nameDay_0 rfl (lv_at hl 0 rfl) ?_
  refine lv_sipush (v := 10003) hx hb dX9_nameDay_1 (by decide) ?_
  refine lv_iload_n hx hb dX9_nameDay_4 rfl (lv_at hl 2 rfl) ?_
  refine lv_i2l hx hb dX9_nameDay_5 rfl ?_
  refine sk_Vv (q0 := 0) (n := 2) (rest := []) (wr := [(o0, .inr (7, [.ref o1, .ref o2, .int (nI dy), .int wk, .int (nI mo), .int mu, .int ke])), (o1, .inl (cI, 9, .inl fb)), (o2, .inl (cI, 9, .inl fw))]) ⟨hx, hb, hml, hown, hts⟩ hl.1 (c_Code_name l D cI cJ cC cZ cS (q 44) (q 49) (q 50) (q 51) (q 52) ch wh y3 10003 (Int32.toInt64 (nI d))) w_3_212 w_3_213 w_3_214 w_1_8 w_3_215 (by decide +kernel) ⟨⟨(Nat.le_of_ble_eq_true rfl), (Nat.le_of_ble_eq_true rfl)⟩, (Nat.le_of_ble_eq_true rfl), (Nat.le_of_ble_eq_true rfl)⟩ hK hP hD hS hA [0, 1] [2, 3, 4] rfl rfl (by decide +kernel) (by decide +kernel) (by decide +kernel) rfl rfl rfl rfl (Nat.le_of_ble_eq_true rfl) dX9_nameDay_6 (fun u H locs hw hP hD hS => ?_)
  obtain ⟨g3_1, rfl⟩ := hw
  have hP : va_P D vwCl [(o0, .inr (7, [.ref o1, .ref o2, .int (nI dy), .int wk, .int (nI mo), .int mu, .int ke])), (o1, .inl (cI, 9, .inl fb)), (o2, .inl (cI, 9, .inl fw)), (q 44, .inr (0, [.ref (q 49), .ref (q 50), .ref (q 51), .ref (q 52), .int (nI ch), .int (nI wh)])), (q 51, .inl (cJ, 9, .inr (.inl g3_1)))] H := hP
  have hD : va_D A [(o0, .inr (7, [.ref o1, .ref o2, .int (nI dy), .int wk, .int (nI mo), .int mu, .int ke])), (o1, .inl (cI, 9, .inl fb)), (o2, .inl (cI, 9, .inl fw)), (q 44, .inr (0, [.ref (q 49), .ref (q 50), .ref (q 51), .ref (q 52), .int (nI ch), .int (nI wh)])), (q 51, .inl (cJ, 9, .inr (.inl g3_1)))] := hD
  refine lv_aload_n hx hb dX9_nameDay_9 rfl (lv_at hl 0 rfl) ?_
  refine lv_sipush (v := 10001) hx hb dX9_nameDay_10 (by decide) ?_
  refine lv_aload_n hx hb dX9_nameDay_13 rfl (lv_at hl 1 rfl) ?_
  refine sk_get (v := .ref o1) (C := RX7) (T := TX7) (N := 7) hx hb hts inlX7 hown hK hP 0 rfl rfl 0 (by decide) w_1_231 rfl dX9_nameDay_14 ?_
  refine lv_iload_n hx hb dX9_nameDay_17 rfl (lv_at hl 2 rfl) ?_
  refine va_iald hx hb hK.1 hP 1 0 rfl rfl (vin d 9 (by omega) (by omega)) dX9_nameDay_18 ?_
  refine lv_topi (fun v_2 ev_2 => ?_)
  refine lv_i2l hx hb dX9_nameDay_19 rfl ?_
  refine sk_Vv (q0 := 0) (n := 2) (rest := []) (wr := [(o0, .inr (7, [.ref o1, .ref o2, .int (nI dy), .int wk, .int (nI mo), .int mu, .int ke])), (o1, .inl (cI, 9, .inl fb)), (o2, .inl (cI, 9, .inl fw))]) ⟨hx, hb, hml, hown, hts⟩ hl.1 (c_Code_name l D cI cJ cC cZ cS (q 44) (q 49) (q 50) (q 51) (q 52) ch wh g3_1 10001 (Int32.toInt64 v_2)) w_3_212 w_3_213 w_3_214 w_1_8 w_3_215 (by decide +kernel) ⟨⟨(Nat.le_of_ble_eq_true rfl), (Nat.le_of_ble_eq_true rfl)⟩, (Nat.le_of_ble_eq_true rfl), (Nat.le_of_ble_eq_true rfl)⟩ hK hP hD hS hA [3, 4] [0, 1, 2] rfl rfl (by decide +kernel) (by decide +kernel) (by decide +kernel) rfl rfl rfl rfl (Nat.le_of_ble_eq_true rfl) dX9_nameDay_20 (fun u H locs hw hP hD hS => ?_)
  obtain ⟨g3_3, rfl⟩ := hw
  have hP : va_P D vwCl [(o0, .inr (7, [.ref o1, .ref o2, .int (nI dy), .int wk, .int (nI mo), .int mu, .int ke])), (o1, .inl (cI, 9, .inl fb)), (o2, .inl (cI, 9, .inl fw)), (q 44, .inr (0, [.ref (q 49), .ref (q 50), .ref (q 51), .ref (q 52), .int (nI ch), .int (nI wh)])), (q 51, .inl (cJ, 9, .inr (.inl g3_3)))] H := hP
  have hD : va_D A [(o0, .inr (7, [.ref o1, .ref o2, .int (nI dy), .int wk, .int (nI mo), .int mu, .int ke])), (o1, .inl (cI, 9, .inl fb)), (o2, .inl (cI, 9, .inl fw)), (q 44, .inr (0, [.ref (q 49), .ref (q 50), .ref (q 51), .ref (q 52), .int (nI ch), .int (nI wh)])), (q 51, .inl (cJ, 9, .inr (.inl g3_3)))] := hD
  refine lv_aload_n hx hb dX9_nameDay_23 rfl (lv_at hl 0 rfl) ?_
  refine lv_sipush (v := 10002) hx hb dX9_nameDay_24 (by decide) ?_
  refine lv_aload_n hx hb dX9_nameDay_27 rfl (lv_at hl 1 rfl) ?_
  refine sk_get (v := .ref o2) (C := RX7) (T := TX7) (N := 7) hx hb hts inlX7 hown hK hP 0 rfl rfl 1 (by decide) w_1_235 rfl dX9_nameDay_28 ?_
  refine lv_iload_n hx hb dX9_nameDay_31 rfl (lv_at hl 2 rfl) ?_
  refine va_iald hx hb hK.1 hP 2 0 rfl rfl (vin d 9 (by omega) (by omega)) dX9_nameDay_32 ?_
  refine lv_topi (fun v_4 ev_4 => ?_)
  refine lv_i2l hx hb dX9_nameDay_33 rfl ?_
  refine sk_Vv (q0 := 0) (n := 2) (rest := []) (wr := [(o0, .inr (7, [.ref o1, .ref o2, .int (nI dy), .int wk, .int (nI mo), .int mu, .int ke])), (o1, .inl (cI, 9, .inl fb)), (o2, .inl (cI, 9, .inl fw))]) ⟨hx, hb, hml, hown, hts⟩ hl.1 (c_Code_name l D cI cJ cC cZ cS (q 44) (q 49) (q 50) (q 51) (q 52) ch wh g3_3 10002 (Int32.toInt64 v_4)) w_3_212 w_3_213 w_3_214 w_1_8 w_3_215 (by decide +kernel) ⟨⟨(Nat.le_of_ble_eq_true rfl), (Nat.le_of_ble_eq_true rfl)⟩, (Nat.le_of_ble_eq_true rfl), (Nat.le_of_ble_eq_true rfl)⟩ hK hP hD hS hA [3, 4] [0, 1, 2] rfl rfl (by decide +kernel) (by decide +kernel) (by decide +kernel) rfl rfl rfl rfl (Nat.le_of_ble_eq_true rfl) dX9_nameDay_34 (fun u H locs hw hP hD hS => ?_)
  obtain ⟨g3_5, rfl⟩ := hw
  have hP : va_P D vwCl [(o0, .inr (7, [.ref o1, .ref o2, .int (nI dy), .int wk, .int (nI mo), .int mu, .int ke])), (o1, .inl (cI, 9, .inl fb)), (o2, .inl (cI, 9, .inl fw)), (q 44, .inr (0, [.ref (q 49), .ref (q 50), .ref (q 51), .ref (q 52), .int (nI ch), .int (nI wh)])), (q 51, .inl (cJ, 9, .inr (.inl g3_5)))] H := hP
  have hD : va_D A [(o0, .inr (7, [.ref o1, .ref o2, .int (nI dy), .int wk, .int (nI mo), .int mu, .int ke])), (o1, .inl (cI, 9, .inl fb)), (o2, .inl (cI, 9, .inl fw)), (q 44, .inr (0, [.ref (q 49), .ref (q 50), .ref (q 51), .ref (q 52), .int (nI ch), .int (nI wh)])), (q 51, .inl (cJ, 9, .inr (.inl g3_5)))] := hD
  refine lv_aload_n hx hb dX9_nameDay_37 rfl (lv_at hl 0 rfl) ?_
  refine lv_sipush (v := 10004) hx hb dX9_nameDay_38 (by decide) ?_
  refine lv_aload_n hx hb dX9_nameDay_41 rfl (lv_at hl 1 rfl) ?_
  refine sk_get (v := .int wk) (C := RX7) (T := TX7) (N := 7) hx hb hts inlX7 hown hK hP 0 rfl rfl 3 (by decide) w_2_4 rfl dX9_nameDay_42 ?_
  refine lv_i2l hx hb dX9_nameDay_45 rfl ?_
  refine sk_Vv (q0 := 0) (n := 2) (rest := []) (wr := [(o0, .inr (7, [.ref o1, .ref o2, .int (nI dy), .int wk, .int (nI mo), .int mu, .int ke])), (o1, .inl (cI, 9, .inl fb)), (o2, .inl (cI, 9, .inl fw))]) ⟨hx, hb, hml, hown, hts⟩ hl.1 (c_Code_name l D cI cJ cC cZ cS (q 44) (q 49) (q 50) (q 51) (q 52) ch wh g3_5 10004 (Int32.toInt64 wk)) w_3_212 w_3_213 w_3_214 w_1_8 w_3_215 (by decide +kernel) ⟨⟨(Nat.le_of_ble_eq_true rfl), (Nat.le_of_ble_eq_true rfl)⟩, (Nat.le_of_ble_eq_true rfl), (Nat.le_of_ble_eq_true rfl)⟩ hK hP hD hS hA [3, 4] [0, 1, 2] rfl rfl (by decide +kernel) (by decide +kernel) (by decide +kernel) rfl rfl rfl rfl (Nat.le_of_ble_eq_true rfl) dX9_nameDay_46 (fun u H locs hw hP hD hS => ?_)
  obtain ⟨g3_6, rfl⟩ := hw
  have hP : va_P D vwCl [(o0, .inr (7, [.ref o1, .ref o2, .int (nI dy), .int wk, .int (nI mo), .int mu, .int ke])), (o1, .inl (cI, 9, .inl fb)), (o2, .inl (cI, 9, .inl fw)), (q 44, .inr (0, [.ref (q 49), .ref (q 50), .ref (q 51), .ref (q 52), .int (nI ch), .int (nI wh)])), (q 51, .inl (cJ, 9, .inr (.inl g3_6)))] H := hP
  have hD : va_D A [(o0, .inr (7, [.ref o1, .ref o2, .int (nI dy), .int wk, .int (nI mo), .int mu, .int ke])), (o1, .inl (cI, 9, .inl fb)), (o2, .inl (cI, 9, .inl fw)), (q 44, .inr (0, [.ref (q 49), .ref (q 50), .ref (q 51), .ref (q 52), .int (nI ch), .int (nI wh)])), (q 51, .inl (cJ, 9, .inr (.inl g3_6)))] := hD
  have hP := hP.sub (ws' := [(q 44, .inr (0, [.ref (q 49), .ref (q 50), .ref (q 51), .ref (q 52), .int (nI ch), .int (nI wh)])), (q 51, .inl (cJ, 9, .inr (.inl g3_6))), (o0, .inr (7, [.ref o1, .ref o2, .int (nI dy), .int wk, .int (nI mo), .int mu, .int ke])), (o1, .inl (cI, 9, .inl fb)), (o2, .inl (cI, 9, .inl fw))]) [3, 4, 0, 1, 2] rfl
  have hD := hD.sub (ws' := [(q 44, .inr (0, [.ref (q 49), .ref (q 50), .ref (q 51), .ref (q 52), .int (nI ch), .int (nI wh)])), (q 51, .inl (cJ, 9, .inr (.inl g3_6))), (o0, .inr (7, [.ref o1, .ref o2, .int (nI dy), .int wk, .int (nI mo), .int mu, .int ke])), (o1, .inl (cI, 9, .inl fb)), (o2, .inl (cI, 9, .inl fw))]) [3, 4, 0, 1, 2] (by decide +kernel) rfl
  exact sk_vret hx hb hr hlocks hK hP hD hS (⟨g3_6, rfl⟩) (Nat.le_of_ble_eq_true rfl) (Nat.le_of_ble_eq_true rfl) dX9_nameDay_49
theorem dX9_fillWords_0 : decode cX9_fillWords 0 = .ok (.aload_n 1, 1) := by decide +kernel
theorem dX9_fillWords_1 : decode cX9_fillWords 1 = .ok (.getfield 37, 3) := by decide +kernel
theorem dX9_fillWords_4 : decode cX9_fillWords 4 = .ok (.astore_n 3, 1) := by decide +kernel
theorem dX9_fillWords_5 : decode cX9_fillWords 5 = .ok (.iconst 0, 1) := by decide +kernel
theorem dX9_fillWords_6 : decode cX9_fillWords 6 = .ok (.istore 4, 2) := by decide +kernel
theorem dX9_fillWords_8 : decode cX9_fillWords 8 = .ok (.iload 4, 2) := by decide +kernel
theorem dX9_fillWords_10 : decode cX9_fillWords 10 = .ok (.bipush 10, 2) := by decide +kernel
theorem dX9_fillWords_12 : decode cX9_fillWords 12 = .ok (.if_icmp .ge 79, 3) := by decide +kernel
theorem dX9_fillWords_91 : decode cX9_fillWords 91 = .ok (.return_, 1) := by decide +kernel
theorem dX9_fillWords_15 : decode cX9_fillWords 15 = .ok (.iload_n 2, 1) := by decide +kernel
theorem dX9_fillWords_16 : decode cX9_fillWords 16 = .ok (.bipush 10, 2) := by decide +kernel
theorem dX9_fillWords_18 : decode cX9_fillWords 18 = .ok (.imul, 1) := by decide +kernel
theorem dX9_fillWords_19 : decode cX9_fillWords 19 = .ok (.iload 4, 2) := by decide +kernel
theorem dX9_fillWords_21 : decode cX9_fillWords 21 = .ok (.iadd, 1) := by decide +kernel
theorem dX9_fillWords_22 : decode cX9_fillWords 22 = .ok (.istore 5, 2) := by decide +kernel
theorem dX9_fillWords_24 : decode cX9_fillWords 24 = .ok (.aload_n 3, 1) := by decide +kernel
theorem dX9_fillWords_25 : decode cX9_fillWords 25 = .ok (.sipush 10000, 3) := by decide +kernel
theorem dX9_fillWords_28 : decode cX9_fillWords 28 = .ok (.iload 4, 2) := by decide +kernel
theorem dX9_fillWords_30 : decode cX9_fillWords 30 = .ok (.i2l, 1) := by decide +kernel
theorem dX9_fillWords_31 : decode cX9_fillWords 31 = .ok (.invokevirtual 75, 3) := by decide +kernel
theorem dX9_fillWords_34 : decode cX9_fillWords 34 = .ok (.aload_n 0, 1) := by decide +kernel
theorem dX9_fillWords_35 : decode cX9_fillWords 35 = .ok (.getfield 9, 3) := by decide +kernel
theorem dX9_fillWords_38 : decode cX9_fillWords 38 = .ok (.iload 5, 2) := by decide +kernel
theorem dX9_fillWords_40 : decode cX9_fillWords 40 = .ok (.aload_n 3, 1) := by decide +kernel
theorem dX9_fillWords_41 : decode cX9_fillWords 41 = .ok (.aload_n 1, 1) := by decide +kernel
theorem dX9_fillWords_42 : decode cX9_fillWords 42 = .ok (.getfield 79, 3) := by decide +kernel
theorem dX9_fillWords_45 : decode cX9_fillWords 45 = .ok (.iconst 0, 1) := by decide +kernel
theorem dX9_fillWords_46 : decode cX9_fillWords 46 = .ok (.iaload, 1) := by decide +kernel
theorem dX9_fillWords_47 : decode cX9_fillWords 47 = .ok (.aload_n 1, 1) := by decide +kernel
theorem dX9_fillWords_48 : decode cX9_fillWords 48 = .ok (.getfield 82, 3) := by decide +kernel
theorem dX9_fillWords_51 : decode cX9_fillWords 51 = .ok (.iconst 0, 1) := by decide +kernel
theorem dX9_fillWords_52 : decode cX9_fillWords 52 = .ok (.iaload, 1) := by decide +kernel
theorem dX9_fillWords_53 : decode cX9_fillWords 53 = .ok (.invokevirtual 85, 3) := by decide +kernel
theorem dX9_fillWords_56 : decode cX9_fillWords 56 = .ok (.bipush 10, 2) := by decide +kernel
theorem dX9_fillWords_58 : decode cX9_fillWords 58 = .ok (.invokestatic 89, 3) := by decide +kernel
theorem dX9_fillWords_61 : decode cX9_fillWords 61 = .ok (.iastore, 1) := by decide +kernel
theorem dX9_fillWords_62 : decode cX9_fillWords 62 = .ok (.aload_n 0, 1) := by decide +kernel
theorem dX9_fillWords_63 : decode cX9_fillWords 63 = .ok (.getfield 24, 3) := by decide +kernel
theorem dX9_fillWords_66 : decode cX9_fillWords 66 = .ok (.iload 5, 2) := by decide +kernel
theorem dX9_fillWords_68 : decode cX9_fillWords 68 = .ok (.aload_n 3, 1) := by decide +kernel
theorem dX9_fillWords_69 : decode cX9_fillWords 69 = .ok (.aload_n 1, 1) := by decide +kernel
theorem dX9_fillWords_70 : decode cX9_fillWords 70 = .ok (.getfield 79, 3) := by decide +kernel
theorem dX9_fillWords_73 : decode cX9_fillWords 73 = .ok (.iconst 2, 1) := by decide +kernel
theorem dX9_fillWords_74 : decode cX9_fillWords 74 = .ok (.iaload, 1) := by decide +kernel
theorem dX9_fillWords_75 : decode cX9_fillWords 75 = .ok (.aload_n 1, 1) := by decide +kernel
theorem dX9_fillWords_76 : decode cX9_fillWords 76 = .ok (.getfield 82, 3) := by decide +kernel
theorem dX9_fillWords_79 : decode cX9_fillWords 79 = .ok (.iconst 2, 1) := by decide +kernel
theorem dX9_fillWords_80 : decode cX9_fillWords 80 = .ok (.iaload, 1) := by decide +kernel
theorem dX9_fillWords_81 : decode cX9_fillWords 81 = .ok (.invokevirtual 85, 3) := by decide +kernel
theorem dX9_fillWords_84 : decode cX9_fillWords 84 = .ok (.lastore, 1) := by decide +kernel
theorem dX9_fillWords_85 : decode cX9_fillWords 85 = .ok (.iinc 4 1, 3) := by decide +kernel
theorem dX9_fillWords_88 : decode cX9_fillWords 88 = .ok (.goto (-80), 3) := by decide +kernel
theorem w_1_176 : (Cond.fieldLink RX9 37 "SameKeeper$Lock" "code" "LSameKeeper$Code;") ∈ wsL_law := sk_mem (ck_1 _ (List.mem_of_getElem? (i := 176) rfl)) rfl
theorem w_1_185 : (Cond.fieldLink RX9 79 "SameKeeper$Lock" "from" "[I") ∈ wsL_law := sk_mem (ck_1 _ (List.mem_of_getElem? (i := 185) rfl)) rfl
theorem w_1_187 : (Cond.fieldLink RX9 82 "SameKeeper$Lock" "to" "[I") ∈ wsL_law := sk_mem (ck_1 _ (List.mem_of_getElem? (i := 187) rfl)) rfl
theorem w_3_220 : (Cond.methodLink RX9 85 yX0_run) ∈ wsL_law := sk_mem (ck_3 _ (List.mem_of_getElem? (i := 220) rfl)) rfl
theorem w_3_221 : (Cond.instanceMethod yX0_run) ∈ wsL_law := sk_mem (ck_3 _ (List.mem_of_getElem? (i := 221) rfl)) rfl
theorem w_3_222 : (Cond.selects RX0 yX0_run yX0_run) ∈ wsL_law := sk_mem (ck_3 _ (List.mem_of_getElem? (i := 222) rfl)) rfl
theorem w_4_7 : (Cond.methodLink RX9 89 yJ9_floorMod_1978a) ∈ wsL_law := sk_mem (ck_4 _ (List.mem_of_getElem? (i := 7) rfl)) rfl
theorem w_4_8 : (Cond.static yJ9_floorMod_1978a) ∈ wsL_law := sk_mem (ck_4 _ (List.mem_of_getElem? (i := 8) rfl)) rfl
theorem w_2_72 : (Cond.fieldLink RX9 24 "SameKeeper$Table" "wages" "[J") ∈ wsL_law := sk_mem (ck_2 _ (List.mem_of_getElem? (i := 72) rfl)) rfl
theorem w_3_219 : (Cond.code yX9_fillWords cX9_fillWords 6 none) ∈ wsL_law := sk_mem (ck_3 _ (List.mem_of_getElem? (i := 219) rfl)) rfl
set_option maxHeartbeats 4000000 in
set_option maxRecDepth 100000 in
theorem c_fillWords (l : Launch) (D : va_G) (cI cJ cC cZ cS : ClassId) (q : Nat → Nat) (dh : Nat) (mh : Nat) (uh : Int32) (rh : Int32) (nh : Nat) (ch : Nat) (wh : Nat) (y1 : Nat → Int32) (y2 : Nat → Int64) (y3 : Nat → Int64) (y4 : Nat → Int64) (yf : Nat → Int32) (yt : Nat → Int32) (sa : Nat → Nat) (fg : Nat → Int64) (d : Nat) (hsa : ∀ j, sa j ≤ 9) (hch : ch ≤ 1600) (hwh : wh ≤ 1) (hd : d < 9) : skM l yX9_fillWords cX9_fillWords 6 none 3 75 0 0 D (skT cI cJ cC cZ cS) [.ref (q 10), .ref (q 5), .int (nI d)] [(q 10, .inr (9, [.ref (q 61), .ref (q 62), .ref (q 63), .ref (q 64), .ref (q 65), .ref (q 66)])), (q 61, .inl (cI, 90, .inl (fun j => nI (sa j)))), (q 65, .inl (cJ, 90, .inr (.inl fg))), (q 5, .inr (2, [.ref (q 44), .ref (q 45), .ref (q 46), .ref (q 47), .ref (q 48), .int (nI dh), .int (nI mh), .int uh, .int rh, .int (nI nh)])), (q 44, .inr (0, [.ref (q 49), .ref (q 50), .ref (q 51), .ref (q 52), .int (nI ch), .int (nI wh)])), (q 49, .inl (cI, 1600, .inl y1)), (q 50, .inl (cJ, 64, .inr (.inl y2))), (q 51, .inl (cJ, 9, .inr (.inl y3))), (q 52, .inl (cJ, 10, .inr (.inl y4))), (q 47, .inl (cI, 3, .inl yf)), (q 48, .inl (cI, 3, .inl yt))] (skV D (skT cI cJ cC cZ cS) (fun (u : va_W) => ∃ (sa2 : Nat → Nat), ∃ (fg2 : Nat → Int64), ∃ (z2 : Nat → Int64), ∃ (z3 : Nat → Int64), (∀ j, sa2 j ≤ 9) ∧ u = [(q 10, .inr (9, [.ref (q 61), .ref (q 62), .ref (q 63), .ref (q 64), .ref (q 65), .ref (q 66)])), (q 61, .inl (cI, 90, .inl (fun j => nI (sa2 j)))), (q 65, .inl (cJ, 90, .inr (.inl fg2))), (q 5, .inr (2, [.ref (q 44), .ref (q 45), .ref (q 46), .ref (q 47), .ref (q 48), .int (nI dh), .int (nI mh), .int uh, .int rh, .int (nI nh)])), (q 44, .inr (0, [.ref (q 49), .ref (q 50), .ref (q 51), .ref (q 52), .int (nI ch), .int (nI wh)])), (q 49, .inl (cI, 1600, .inl y1)), (q 50, .inl (cJ, 64, .inr (.inl z2))), (q 51, .inl (cJ, 9, .inr (.inl z3))), (q 52, .inl (cJ, 10, .inr (.inl y4))), (q 47, .inl (cI, 3, .inl yf)), (q 48, .inl (cI, 3, .inl yt))])) := by
  refine skM_of (by decide +kernel) (Nat.le_of_ble_eq_true rfl) ?_
  intro p e s m below meth c A ls E hP hD hl
  obtain ⟨hx, hb, hr, hml, hlocks, hin, hown, hts, hK, hA⟩ := E
  have hown : s.vm.findClass RX9 = some m.cls := hown
  have hS : va_S A s.heap s.heap [] := va_S.rf
  have hl : lv_has ls 6 [(0, .ref (q 10)), (1, .ref (q 5)), (2, .int (nI d))] := hl
  refine lv_aload_n hx hb dX9_fillWords_0 rfl (lv_at hl 1 rfl) ?_
  refine sk_get (v := .ref (q 44)) (C := RX2) (T := TX2) (N := 10) hx hb hts inlX2 hown hK hP 3 rfl rfl 0 (by decide) w_1_176 rfl dX9_fillWords_1 ?_
  refine lv_astore_n (lv' := [(3, .ref (q 44)), (0, .ref (q 10)), (1, .ref (q 5)), (2, .int (nI d))]) hx hb dX9_fillWords_4 rfl hl (by decide) rfl (fun ls hl => ?_)
  refine lv_iconst (v := 0) hx hb dX9_fillWords_5 (by decide) ?_
  refine lv_istore (lv' := [(4, .int 0), (3, .ref (q 44)), (0, .ref (q 10)), (1, .ref (q 5)), (2, .int (nI d))]) hx hb dX9_fillWords_6 hl (by decide) rfl (fun ls hl => ?_)
  have lp_1 : ∀ (n_2 : Nat) (i : Nat) (sb : Nat → Nat) (gb : Nat → Int64) (u2 : Nat → Int64) (u3 : Nat → Int64) (H : Heap) (locs : List Loc) (ls : Array Slot), 10 - i < n_2 → (∀ j, sb j ≤ 9) → (i ≤ 10) → va_P D vwCl [(q 10, .inr (9, [.ref (q 61), .ref (q 62), .ref (q 63), .ref (q 64), .ref (q 65), .ref (q 66)])), (q 61, .inl (cI, 90, .inl (fun j => nI (sb j)))), (q 65, .inl (cJ, 90, .inr (.inl gb))), (q 5, .inr (2, [.ref (q 44), .ref (q 45), .ref (q 46), .ref (q 47), .ref (q 48), .int (nI dh), .int (nI mh), .int uh, .int rh, .int (nI nh)])), (q 44, .inr (0, [.ref (q 49), .ref (q 50), .ref (q 51), .ref (q 52), .int (nI ch), .int (nI wh)])), (q 49, .inl (cI, 1600, .inl y1)), (q 50, .inl (cJ, 64, .inr (.inl u2))), (q 51, .inl (cJ, 9, .inr (.inl u3))), (q 52, .inl (cJ, 10, .inr (.inl y4))), (q 47, .inl (cI, 3, .inl yf)), (q 48, .inl (cI, 3, .inl yt))] H → va_D A [(q 10, .inr (9, [.ref (q 61), .ref (q 62), .ref (q 63), .ref (q 64), .ref (q 65), .ref (q 66)])), (q 61, .inl (cI, 90, .inl (fun j => nI (sb j)))), (q 65, .inl (cJ, 90, .inr (.inl gb))), (q 5, .inr (2, [.ref (q 44), .ref (q 45), .ref (q 46), .ref (q 47), .ref (q 48), .int (nI dh), .int (nI mh), .int uh, .int rh, .int (nI nh)])), (q 44, .inr (0, [.ref (q 49), .ref (q 50), .ref (q 51), .ref (q 52), .int (nI ch), .int (nI wh)])), (q 49, .inl (cI, 1600, .inl y1)), (q 50, .inl (cJ, 64, .inr (.inl u2))), (q 51, .inl (cJ, 9, .inr (.inl u3))), (q 52, .inl (cJ, 10, .inr (.inl y4))), (q 47, .inl (cI, 3, .inl yf)), (q 48, .inl (cI, 3, .inl yt))] → va_S A s.heap H locs → lv_has ls 6 [(4, .int (nI i)), (3, .ref (q 44)), (0, .ref (q 10)), (1, .ref (q 5)), (2, .int (nI d))] → W p l e { frames := 3, cells := 0, slots := 0, locals := 75 } s m ([.ref (q 10), .ref (q 5), .int (nI d)] : List Value).toArray below meth c H locs 0 0 (MQ below (skV D (skT cI cJ cC cZ cS) (fun (u : va_W) => ∃ (sa2 : Nat → Nat), ∃ (fg2 : Nat → Int64), ∃ (z2 : Nat → Int64), ∃ (z3 : Nat → Int64), (∀ j, sa2 j ≤ 9) ∧ u = [(q 10, .inr (9, [.ref (q 61), .ref (q 62), .ref (q 63), .ref (q 64), .ref (q 65), .ref (q 66)])), (q 61, .inl (cI, 90, .inl (fun j => nI (sa2 j)))), (q 65, .inl (cJ, 90, .inr (.inl fg2))), (q 5, .inr (2, [.ref (q 44), .ref (q 45), .ref (q 46), .ref (q 47), .ref (q 48), .int (nI dh), .int (nI mh), .int uh, .int rh, .int (nI nh)])), (q 44, .inr (0, [.ref (q 49), .ref (q 50), .ref (q 51), .ref (q 52), .int (nI ch), .int (nI wh)])), (q 49, .inl (cI, 1600, .inl y1)), (q 50, .inl (cJ, 64, .inr (.inl z2))), (q 51, .inl (cJ, 9, .inr (.inl z3))), (q 52, .inl (cJ, 10, .inr (.inl y4))), (q 47, .inl (cI, 3, .inl yf)), (q 48, .inl (cI, 3, .inl yt))]) A) ([.ref (q 10), .ref (q 5), .int (nI d)] : List Value).toArray s 0 0 A) (F0 m 8 ls []) := by
    intro n_2
    induction n_2 with
    | zero => intro i sb gb u2 u3 H locs ls hm; exact absurd hm (Nat.not_lt_zero _)
    | succ n_2 ih_lp_1 =>
      intro i sb gb u2 u3 H locs ls hm hsb hi hP hD hS hl
      refine lv_iload hx hb dX9_fillWords_8 (lv_at hl 0 rfl) ?_
      refine lv_bipush (v := 10) hx hb dX9_fillWords_10 (by decide) ?_
      refine lv_icmp_ge (tgt := 91) hx hb dX9_fillWords_12 (by decide) (fun c_3 => ?_) (fun c_3 => ?_)
      · have c_3 : 10 ≤ i := (nle 10 i (by omega) (by omega)).mp c_3
        exact sk_vret hx hb hr hlocks hK hP hD hS (⟨sb, gb, u2, u3, hsb, rfl⟩) (Nat.le_of_ble_eq_true rfl) (Nat.le_of_ble_eq_true rfl) dX9_fillWords_91
      · have c_3 : ¬ (10 ≤ i) := fun h => c_3 ((nle 10 i (by omega) (by omega)).mpr h)
        refine lv_iload_n hx hb dX9_fillWords_15 rfl (lv_at hl 4 rfl) ?_
        refine lv_bipush (v := 10) hx hb dX9_fillWords_16 (by decide) ?_
        refine lv_imul hx hb dX9_fillWords_18 ?_
        refine sk_top (nI (d * 10)) (nmul d 10) ?_
        refine lv_iload hx hb dX9_fillWords_19 (lv_at hl 0 rfl) ?_
        refine lv_iadd hx hb dX9_fillWords_21 ?_
        refine sk_top (nI (d * 10 + i)) (nI_add (d * 10) i) ?_
        refine lv_istore (lv' := [(5, .int (nI (d * 10 + i))), (4, .int (nI i)), (3, .ref (q 44)), (0, .ref (q 10)), (1, .ref (q 5)), (2, .int (nI d))]) hx hb dX9_fillWords_22 hl (by decide) rfl (fun ls hl => ?_)
        refine lv_aload_n hx hb dX9_fillWords_24 rfl (lv_at hl 2 rfl) ?_
        refine lv_sipush (v := 10000) hx hb dX9_fillWords_25 (by decide) ?_
        refine lv_iload hx hb dX9_fillWords_28 (lv_at hl 1 rfl) ?_
        refine lv_i2l hx hb dX9_fillWords_30 rfl ?_
        refine sk_Vv (q0 := 0) (n := 2) (rest := []) (wr := [(q 10, .inr (9, [.ref (q 61), .ref (q 62), .ref (q 63), .ref (q 64), .ref (q 65), .ref (q 66)])), (q 61, .inl (cI, 90, .inl (fun j => nI (sb j)))), (q 65, .inl (cJ, 90, .inr (.inl gb))), (q 5, .inr (2, [.ref (q 44), .ref (q 45), .ref (q 46), .ref (q 47), .ref (q 48), .int (nI dh), .int (nI mh), .int uh, .int rh, .int (nI nh)])), (q 49, .inl (cI, 1600, .inl y1)), (q 50, .inl (cJ, 64, .inr (.inl u2))), (q 52, .inl (cJ, 10, .inr (.inl y4))), (q 47, .inl (cI, 3, .inl yf)), (q 48, .inl (cI, 3, .inl yt))]) ⟨hx, hb, hml, hown, hts⟩ hl.1 (c_Code_name l D cI cJ cC cZ cS (q 44) (q 49) (q 50) (q 51) (q 52) ch wh u3 10000 (Int32.toInt64 (nI i))) w_3_212 w_3_213 w_3_214 w_1_8 w_3_215 (by decide +kernel) ⟨⟨(Nat.le_of_ble_eq_true rfl), (Nat.le_of_ble_eq_true rfl)⟩, (Nat.le_of_ble_eq_true rfl), (Nat.le_of_ble_eq_true rfl)⟩ hK hP hD hS hA [4, 7] [0, 1, 2, 3, 5, 6, 8, 9, 10] rfl rfl (by decide +kernel) (by decide +kernel) (by decide +kernel) rfl rfl rfl rfl (Nat.le_of_ble_eq_true rfl) dX9_fillWords_31 (fun u H locs hw hP hD hS => ?_)
        obtain ⟨g3_4, rfl⟩ := hw
        have hP : va_P D vwCl [(q 10, .inr (9, [.ref (q 61), .ref (q 62), .ref (q 63), .ref (q 64), .ref (q 65), .ref (q 66)])), (q 61, .inl (cI, 90, .inl (fun j => nI (sb j)))), (q 65, .inl (cJ, 90, .inr (.inl gb))), (q 5, .inr (2, [.ref (q 44), .ref (q 45), .ref (q 46), .ref (q 47), .ref (q 48), .int (nI dh), .int (nI mh), .int uh, .int rh, .int (nI nh)])), (q 49, .inl (cI, 1600, .inl y1)), (q 50, .inl (cJ, 64, .inr (.inl u2))), (q 52, .inl (cJ, 10, .inr (.inl y4))), (q 47, .inl (cI, 3, .inl yf)), (q 48, .inl (cI, 3, .inl yt)), (q 44, .inr (0, [.ref (q 49), .ref (q 50), .ref (q 51), .ref (q 52), .int (nI ch), .int (nI wh)])), (q 51, .inl (cJ, 9, .inr (.inl g3_4)))] H := hP
        have hD : va_D A [(q 10, .inr (9, [.ref (q 61), .ref (q 62), .ref (q 63), .ref (q 64), .ref (q 65), .ref (q 66)])), (q 61, .inl (cI, 90, .inl (fun j => nI (sb j)))), (q 65, .inl (cJ, 90, .inr (.inl gb))), (q 5, .inr (2, [.ref (q 44), .ref (q 45), .ref (q 46), .ref (q 47), .ref (q 48), .int (nI dh), .int (nI mh), .int uh, .int rh, .int (nI nh)])), (q 49, .inl (cI, 1600, .inl y1)), (q 50, .inl (cJ, 64, .inr (.inl u2))), (q 52, .inl (cJ, 10, .inr (.inl y4))), (q 47, .inl (cI, 3, .inl yf)), (q 48, .inl (cI, 3, .inl yt)), (q 44, .inr (0, [.ref (q 49), .ref (q 50), .ref (q 51), .ref (q 52), .int (nI ch), .int (nI wh)])), (q 51, .inl (cJ, 9, .inr (.inl g3_4)))] := hD
        refine lv_aload_n hx hb dX9_fillWords_34 rfl (lv_at hl 3 rfl) ?_
        refine sk_get (v := .ref (q 61)) (C := RX9) (T := TX9) (N := 6) hx hb hts inlX9 hown hK hP 0 rfl rfl 0 (by decide) w_2_63 rfl dX9_fillWords_35 ?_
        refine lv_iload hx hb dX9_fillWords_38 (lv_at hl 0 rfl) ?_
        refine lv_aload_n hx hb dX9_fillWords_40 rfl (lv_at hl 2 rfl) ?_
        refine lv_aload_n hx hb dX9_fillWords_41 rfl (lv_at hl 4 rfl) ?_
        refine sk_get (v := .ref (q 47)) (C := RX2) (T := TX2) (N := 10) hx hb hts inlX2 hown hK hP 3 rfl rfl 3 (by decide) w_1_185 rfl dX9_fillWords_42 ?_
        refine lv_iconst (v := 0) hx hb dX9_fillWords_45 (by decide) ?_
        refine va_iald hx hb hK.1 hP 7 0 rfl rfl (by unfold vp_in; decide) dX9_fillWords_46 ?_
        refine lv_topi (fun v_5 ev_5 => ?_)
        refine lv_aload_n hx hb dX9_fillWords_47 rfl (lv_at hl 4 rfl) ?_
        refine sk_get (v := .ref (q 48)) (C := RX2) (T := TX2) (N := 10) hx hb hts inlX2 hown hK hP 3 rfl rfl 4 (by decide) w_1_187 rfl dX9_fillWords_48 ?_
        refine lv_iconst (v := 0) hx hb dX9_fillWords_51 (by decide) ?_
        refine va_iald hx hb hK.1 hP 8 0 rfl rfl (by unfold vp_in; decide) dX9_fillWords_52 ?_
        refine lv_topi (fun v_6 ev_6 => ?_)
        refine sk_Vl (q0 := 0) (n := 2) (rest := [.int (nI (d * 10 + i)), .ref (q 61)]) (wr := [(q 10, .inr (9, [.ref (q 61), .ref (q 62), .ref (q 63), .ref (q 64), .ref (q 65), .ref (q 66)])), (q 61, .inl (cI, 90, .inl (fun j => nI (sb j)))), (q 65, .inl (cJ, 90, .inr (.inl gb))), (q 5, .inr (2, [.ref (q 44), .ref (q 45), .ref (q 46), .ref (q 47), .ref (q 48), .int (nI dh), .int (nI mh), .int uh, .int rh, .int (nI nh)])), (q 47, .inl (cI, 3, .inl yf)), (q 48, .inl (cI, 3, .inl yt))]) ⟨hx, hb, hml, hown, hts⟩ hl.1 (c_Code_run l D cI cJ cC cZ cS (q 44) (q 49) (q 50) (q 51) (q 52) ch wh y1 u2 g3_4 y4 v_5 v_6 (by omega) (by omega)) w_3_220 w_3_221 w_3_222 w_1_8 w_3_223 (by decide +kernel) ⟨⟨(Nat.le_of_ble_eq_true rfl), (Nat.le_of_ble_eq_true rfl)⟩, (Nat.le_of_ble_eq_true rfl), (Nat.le_of_ble_eq_true rfl)⟩ hK hP hD hS hA [9, 4, 5, 10, 6] [0, 1, 2, 3, 7, 8] rfl rfl (by decide +kernel) (by decide +kernel) (by decide +kernel) rfl rfl rfl rfl (Nat.le_of_ble_eq_true rfl) dX9_fillWords_53 (fun r_8 u H locs hw hP hD hS => ?_)
        obtain ⟨g2_7, rfl⟩ := hw
        have hP : va_P D vwCl [(q 10, .inr (9, [.ref (q 61), .ref (q 62), .ref (q 63), .ref (q 64), .ref (q 65), .ref (q 66)])), (q 61, .inl (cI, 90, .inl (fun j => nI (sb j)))), (q 65, .inl (cJ, 90, .inr (.inl gb))), (q 5, .inr (2, [.ref (q 44), .ref (q 45), .ref (q 46), .ref (q 47), .ref (q 48), .int (nI dh), .int (nI mh), .int uh, .int rh, .int (nI nh)])), (q 47, .inl (cI, 3, .inl yf)), (q 48, .inl (cI, 3, .inl yt)), (q 44, .inr (0, [.ref (q 49), .ref (q 50), .ref (q 51), .ref (q 52), .int (nI ch), .int (nI wh)])), (q 49, .inl (cI, 1600, .inl y1)), (q 50, .inl (cJ, 64, .inr (.inl g2_7))), (q 51, .inl (cJ, 9, .inr (.inl g3_4))), (q 52, .inl (cJ, 10, .inr (.inl y4)))] H := hP
        have hD : va_D A [(q 10, .inr (9, [.ref (q 61), .ref (q 62), .ref (q 63), .ref (q 64), .ref (q 65), .ref (q 66)])), (q 61, .inl (cI, 90, .inl (fun j => nI (sb j)))), (q 65, .inl (cJ, 90, .inr (.inl gb))), (q 5, .inr (2, [.ref (q 44), .ref (q 45), .ref (q 46), .ref (q 47), .ref (q 48), .int (nI dh), .int (nI mh), .int uh, .int rh, .int (nI nh)])), (q 47, .inl (cI, 3, .inl yf)), (q 48, .inl (cI, 3, .inl yt)), (q 44, .inr (0, [.ref (q 49), .ref (q 50), .ref (q 51), .ref (q 52), .int (nI ch), .int (nI wh)])), (q 49, .inl (cI, 1600, .inl y1)), (q 50, .inl (cJ, 64, .inr (.inl g2_7))), (q 51, .inl (cJ, 9, .inr (.inl g3_4))), (q 52, .inl (cJ, 10, .inr (.inl y4)))] := hD
        refine lv_bipush (v := 10) hx hb dX9_fillWords_56 (by decide) ?_
        refine sk_Si (n := 2) (rest := [.int (nI (d * 10 + i)), .ref (q 61)]) (wr := [(q 10, .inr (9, [.ref (q 61), .ref (q 62), .ref (q 63), .ref (q 64), .ref (q 65), .ref (q 66)])), (q 61, .inl (cI, 90, .inl (fun j => nI (sb j)))), (q 65, .inl (cJ, 90, .inr (.inl gb))), (q 5, .inr (2, [.ref (q 44), .ref (q 45), .ref (q 46), .ref (q 47), .ref (q 48), .int (nI dh), .int (nI mh), .int uh, .int rh, .int (nI nh)])), (q 47, .inl (cI, 3, .inl yf)), (q 48, .inl (cI, 3, .inl yt)), (q 44, .inr (0, [.ref (q 49), .ref (q 50), .ref (q 51), .ref (q 52), .int (nI ch), .int (nI wh)])), (q 49, .inl (cI, 1600, .inl y1)), (q 50, .inl (cJ, 64, .inr (.inl g2_7))), (q 51, .inl (cJ, 9, .inr (.inl g3_4))), (q 52, .inl (cJ, 10, .inr (.inl y4)))]) ⟨hx, hb, hml, hown, hts⟩ hl.1 (c_floorMod l D cI cJ cC cZ cS r_8) w_4_7 w_4_8 w_1_3 w_4_9 (by decide +kernel) ⟨⟨(Nat.le_of_ble_eq_true rfl), (Nat.le_of_ble_eq_true rfl)⟩, (Nat.le_of_ble_eq_true rfl), (Nat.le_of_ble_eq_true rfl)⟩ hK hP hD hS hA [] [0, 1, 2, 3, 4, 5, 6, 7, 8, 9, 10] rfl rfl (by decide +kernel) (by decide +kernel) (by decide +kernel) rfl rfl (Nat.le_of_ble_eq_true rfl) dX9_fillWords_58 (fun r_10 u H locs hw hP hD hS => ?_)
        obtain ⟨v_9, hv_11, rfl, rfl⟩ := hw
        have hP : va_P D vwCl [(q 10, .inr (9, [.ref (q 61), .ref (q 62), .ref (q 63), .ref (q 64), .ref (q 65), .ref (q 66)])), (q 61, .inl (cI, 90, .inl (fun j => nI (sb j)))), (q 65, .inl (cJ, 90, .inr (.inl gb))), (q 5, .inr (2, [.ref (q 44), .ref (q 45), .ref (q 46), .ref (q 47), .ref (q 48), .int (nI dh), .int (nI mh), .int uh, .int rh, .int (nI nh)])), (q 47, .inl (cI, 3, .inl yf)), (q 48, .inl (cI, 3, .inl yt)), (q 44, .inr (0, [.ref (q 49), .ref (q 50), .ref (q 51), .ref (q 52), .int (nI ch), .int (nI wh)])), (q 49, .inl (cI, 1600, .inl y1)), (q 50, .inl (cJ, 64, .inr (.inl g2_7))), (q 51, .inl (cJ, 9, .inr (.inl g3_4))), (q 52, .inl (cJ, 10, .inr (.inl y4)))] H := hP
        have hD : va_D A [(q 10, .inr (9, [.ref (q 61), .ref (q 62), .ref (q 63), .ref (q 64), .ref (q 65), .ref (q 66)])), (q 61, .inl (cI, 90, .inl (fun j => nI (sb j)))), (q 65, .inl (cJ, 90, .inr (.inl gb))), (q 5, .inr (2, [.ref (q 44), .ref (q 45), .ref (q 46), .ref (q 47), .ref (q 48), .int (nI dh), .int (nI mh), .int uh, .int rh, .int (nI nh)])), (q 47, .inl (cI, 3, .inl yf)), (q 48, .inl (cI, 3, .inl yt)), (q 44, .inr (0, [.ref (q 49), .ref (q 50), .ref (q 51), .ref (q 52), .int (nI ch), .int (nI wh)])), (q 49, .inl (cI, 1600, .inl y1)), (q 50, .inl (cJ, 64, .inr (.inl g2_7))), (q 51, .inl (cJ, 9, .inr (.inl g3_4))), (q 52, .inl (cJ, 10, .inr (.inl y4)))] := hD
        refine sk_iastN (k := (d * 10 + i)) (v := v_9) (B := 9) (ws' := fun f_12 => [(q 10, .inr (9, [.ref (q 61), .ref (q 62), .ref (q 63), .ref (q 64), .ref (q 65), .ref (q 66)])), (q 61, .inl (cI, 90, .inl (fun j => nI (f_12 j)))), (q 65, .inl (cJ, 90, .inr (.inl gb))), (q 5, .inr (2, [.ref (q 44), .ref (q 45), .ref (q 46), .ref (q 47), .ref (q 48), .int (nI dh), .int (nI mh), .int uh, .int rh, .int (nI nh)])), (q 47, .inl (cI, 3, .inl yf)), (q 48, .inl (cI, 3, .inl yt)), (q 44, .inr (0, [.ref (q 49), .ref (q 50), .ref (q 51), .ref (q 52), .int (nI ch), .int (nI wh)])), (q 49, .inl (cI, 1600, .inl y1)), (q 50, .inl (cJ, 64, .inr (.inl g2_7))), (q 51, .inl (cJ, 9, .inr (.inl g3_4))), (q 52, .inl (cJ, 10, .inr (.inl y4)))]) hx hb hK hP hD hS 1 0 rfl rfl (by omega) (by omega) hsb (by omega) (fun _ => rfl) dX9_fillWords_61 (fun f_12 H locs hf_13 hP hD hS => ?_)
        refine lv_aload_n hx hb dX9_fillWords_62 rfl (lv_at hl 3 rfl) ?_
        refine sk_get (v := .ref (q 65)) (C := RX9) (T := TX9) (N := 6) hx hb hts inlX9 hown hK hP 0 rfl rfl 4 (by decide) w_2_72 rfl dX9_fillWords_63 ?_
        refine lv_iload hx hb dX9_fillWords_66 (lv_at hl 0 rfl) ?_
        refine lv_aload_n hx hb dX9_fillWords_68 rfl (lv_at hl 2 rfl) ?_
        refine lv_aload_n hx hb dX9_fillWords_69 rfl (lv_at hl 4 rfl) ?_
        refine sk_get (v := .ref (q 47)) (C := RX2) (T := TX2) (N := 10) hx hb hts inlX2 hown hK hP 3 rfl rfl 3 (by decide) w_1_185 rfl dX9_fillWords_70 ?_
        refine lv_iconst (v := 2) hx hb dX9_fillWords_73 (by decide) ?_
        refine va_iald hx hb hK.1 hP 4 0 rfl rfl (by unfold vp_in; decide) dX9_fillWords_74 ?_
        refine lv_topi (fun v_14 ev_14 => ?_)
        refine lv_aload_n hx hb dX9_fillWords_75 rfl (lv_at hl 4 rfl) ?_
        refine sk_get (v := .ref (q 48)) (C := RX2) (T := TX2) (N := 10) hx hb hts inlX2 hown hK hP 3 rfl rfl 4 (by decide) w_1_187 rfl dX9_fillWords_76 ?_
        refine lv_iconst (v := 2) hx hb dX9_fillWords_79 (by decide) ?_
        refine va_iald hx hb hK.1 hP 5 0 rfl rfl (by unfold vp_in; decide) dX9_fillWords_80 ?_
        refine lv_topi (fun v_15 ev_15 => ?_)
        refine sk_Vl (q0 := 0) (n := 2) (rest := [.int (nI (d * 10 + i)), .ref (q 65)]) (wr := [(q 10, .inr (9, [.ref (q 61), .ref (q 62), .ref (q 63), .ref (q 64), .ref (q 65), .ref (q 66)])), (q 61, .inl (cI, 90, .inl (fun j => nI (f_12 j)))), (q 65, .inl (cJ, 90, .inr (.inl gb))), (q 5, .inr (2, [.ref (q 44), .ref (q 45), .ref (q 46), .ref (q 47), .ref (q 48), .int (nI dh), .int (nI mh), .int uh, .int rh, .int (nI nh)])), (q 47, .inl (cI, 3, .inl yf)), (q 48, .inl (cI, 3, .inl yt))]) ⟨hx, hb, hml, hown, hts⟩ hl.1 (c_Code_run l D cI cJ cC cZ cS (q 44) (q 49) (q 50) (q 51) (q 52) ch wh y1 g2_7 g3_4 y4 v_14 v_15 (by omega) (by omega)) w_3_220 w_3_221 w_3_222 w_1_8 w_3_223 (by decide +kernel) ⟨⟨(Nat.le_of_ble_eq_true rfl), (Nat.le_of_ble_eq_true rfl)⟩, (Nat.le_of_ble_eq_true rfl), (Nat.le_of_ble_eq_true rfl)⟩ hK hP hD hS hA [6, 7, 8, 9, 10] [0, 1, 2, 3, 4, 5] rfl rfl (by decide +kernel) (by decide +kernel) (by decide +kernel) rfl rfl rfl rfl (Nat.le_of_ble_eq_true rfl) dX9_fillWords_81 (fun r_17 u H locs hw hP hD hS => ?_)
        obtain ⟨g2_16, rfl⟩ := hw
        have hP : va_P D vwCl [(q 10, .inr (9, [.ref (q 61), .ref (q 62), .ref (q 63), .ref (q 64), .ref (q 65), .ref (q 66)])), (q 61, .inl (cI, 90, .inl (fun j => nI (f_12 j)))), (q 65, .inl (cJ, 90, .inr (.inl gb))), (q 5, .inr (2, [.ref (q 44), .ref (q 45), .ref (q 46), .ref (q 47), .ref (q 48), .int (nI dh), .int (nI mh), .int uh, .int rh, .int (nI nh)])), (q 47, .inl (cI, 3, .inl yf)), (q 48, .inl (cI, 3, .inl yt)), (q 44, .inr (0, [.ref (q 49), .ref (q 50), .ref (q 51), .ref (q 52), .int (nI ch), .int (nI wh)])), (q 49, .inl (cI, 1600, .inl y1)), (q 50, .inl (cJ, 64, .inr (.inl g2_16))), (q 51, .inl (cJ, 9, .inr (.inl g3_4))), (q 52, .inl (cJ, 10, .inr (.inl y4)))] H := hP
        have hD : va_D A [(q 10, .inr (9, [.ref (q 61), .ref (q 62), .ref (q 63), .ref (q 64), .ref (q 65), .ref (q 66)])), (q 61, .inl (cI, 90, .inl (fun j => nI (f_12 j)))), (q 65, .inl (cJ, 90, .inr (.inl gb))), (q 5, .inr (2, [.ref (q 44), .ref (q 45), .ref (q 46), .ref (q 47), .ref (q 48), .int (nI dh), .int (nI mh), .int uh, .int rh, .int (nI nh)])), (q 47, .inl (cI, 3, .inl yf)), (q 48, .inl (cI, 3, .inl yt)), (q 44, .inr (0, [.ref (q 49), .ref (q 50), .ref (q 51), .ref (q 52), .int (nI ch), .int (nI wh)])), (q 49, .inl (cI, 1600, .inl y1)), (q 50, .inl (cJ, 64, .inr (.inl g2_16))), (q 51, .inl (cJ, 9, .inr (.inl g3_4))), (q 52, .inl (cJ, 10, .inr (.inl y4)))] := hD
        refine sk_lastO (ws' := fun f_18 => [(q 10, .inr (9, [.ref (q 61), .ref (q 62), .ref (q 63), .ref (q 64), .ref (q 65), .ref (q 66)])), (q 61, .inl (cI, 90, .inl (fun j => nI (f_12 j)))), (q 65, .inl (cJ, 90, .inr (.inl f_18))), (q 5, .inr (2, [.ref (q 44), .ref (q 45), .ref (q 46), .ref (q 47), .ref (q 48), .int (nI dh), .int (nI mh), .int uh, .int rh, .int (nI nh)])), (q 47, .inl (cI, 3, .inl yf)), (q 48, .inl (cI, 3, .inl yt)), (q 44, .inr (0, [.ref (q 49), .ref (q 50), .ref (q 51), .ref (q 52), .int (nI ch), .int (nI wh)])), (q 49, .inl (cI, 1600, .inl y1)), (q 50, .inl (cJ, 64, .inr (.inl g2_16))), (q 51, .inl (cJ, 9, .inr (.inl g3_4))), (q 52, .inl (cJ, 10, .inr (.inl y4)))]) hx hb hK hP hD hS 2 1 rfl rfl (vin (d * 10 + i) 90 (by omega) (by omega)) (fun _ => rfl) dX9_fillWords_84 (fun f_18 H locs hP hD hS => ?_)
        refine lv_iinc (v := nI (i + 1)) (lv' := [(4, .int (nI (i + 1))), (5, .int (nI (d * 10 + i))), (3, .ref (q 44)), (0, .ref (q 10)), (1, .ref (q 5)), (2, .int (nI d))]) hx hb dX9_fillWords_85 hl (k := 1) rfl (ninc i 1 (by decide)) (by decide) rfl (fun ls hl => ?_)
        refine lv_goto (tgt := 8) hx hb dX9_fillWords_88 (by decide) ?_
        have hP := hP.sub (ws' := [(q 10, .inr (9, [.ref (q 61), .ref (q 62), .ref (q 63), .ref (q 64), .ref (q 65), .ref (q 66)])), (q 61, .inl (cI, 90, .inl (fun j => nI (f_12 j)))), (q 65, .inl (cJ, 90, .inr (.inl f_18))), (q 5, .inr (2, [.ref (q 44), .ref (q 45), .ref (q 46), .ref (q 47), .ref (q 48), .int (nI dh), .int (nI mh), .int uh, .int rh, .int (nI nh)])), (q 44, .inr (0, [.ref (q 49), .ref (q 50), .ref (q 51), .ref (q 52), .int (nI ch), .int (nI wh)])), (q 49, .inl (cI, 1600, .inl y1)), (q 50, .inl (cJ, 64, .inr (.inl g2_16))), (q 51, .inl (cJ, 9, .inr (.inl g3_4))), (q 52, .inl (cJ, 10, .inr (.inl y4))), (q 47, .inl (cI, 3, .inl yf)), (q 48, .inl (cI, 3, .inl yt))]) [0, 1, 2, 3, 6, 7, 8, 9, 10, 4, 5] rfl
        have hD := hD.sub (ws' := [(q 10, .inr (9, [.ref (q 61), .ref (q 62), .ref (q 63), .ref (q 64), .ref (q 65), .ref (q 66)])), (q 61, .inl (cI, 90, .inl (fun j => nI (f_12 j)))), (q 65, .inl (cJ, 90, .inr (.inl f_18))), (q 5, .inr (2, [.ref (q 44), .ref (q 45), .ref (q 46), .ref (q 47), .ref (q 48), .int (nI dh), .int (nI mh), .int uh, .int rh, .int (nI nh)])), (q 44, .inr (0, [.ref (q 49), .ref (q 50), .ref (q 51), .ref (q 52), .int (nI ch), .int (nI wh)])), (q 49, .inl (cI, 1600, .inl y1)), (q 50, .inl (cJ, 64, .inr (.inl g2_16))), (q 51, .inl (cJ, 9, .inr (.inl g3_4))), (q 52, .inl (cJ, 10, .inr (.inl y4))), (q 47, .inl (cI, 3, .inl yf)), (q 48, .inl (cI, 3, .inl yt))]) [0, 1, 2, 3, 6, 7, 8, 9, 10, 4, 5] (by decide +kernel) rfl
        exact ih_lp_1 (i + 1) f_12 f_18 g2_16 g3_4 _ _ _ (by omega) hf_13 (by omega) hP hD hS (lv_sub hl [0, 2, 3, 4, 5] rfl)
  exact lp_1 (10 - 0 + 1) 0 sa fg y2 y3 _ _ _ (Nat.lt_succ_self _) hsa (by omega) hP hD hS (lv_sub hl [0, 1, 2, 3, 4] rfl)
theorem dX9_fillDeeds_0 : decode cX9_fillDeeds 0 = .ok (.aload_n 1, 1) := by decide +kernel
theorem dX9_fillDeeds_1 : decode cX9_fillDeeds 1 = .ok (.getfield 37, 3) := by decide +kernel
theorem dX9_fillDeeds_4 : decode cX9_fillDeeds 4 = .ok (.astore_n 3, 1) := by decide +kernel
theorem dX9_fillDeeds_5 : decode cX9_fillDeeds 5 = .ok (.aload_n 1, 1) := by decide +kernel
theorem dX9_fillDeeds_6 : decode cX9_fillDeeds 6 = .ok (.getfield 79, 3) := by decide +kernel
theorem dX9_fillDeeds_9 : decode cX9_fillDeeds 9 = .ok (.iconst 1, 1) := by decide +kernel
theorem dX9_fillDeeds_10 : decode cX9_fillDeeds 10 = .ok (.iaload, 1) := by decide +kernel
theorem dX9_fillDeeds_11 : decode cX9_fillDeeds 11 = .ok (.istore 4, 2) := by decide +kernel
theorem dX9_fillDeeds_13 : decode cX9_fillDeeds 13 = .ok (.aload_n 1, 1) := by decide +kernel
theorem dX9_fillDeeds_14 : decode cX9_fillDeeds 14 = .ok (.getfield 82, 3) := by decide +kernel
theorem dX9_fillDeeds_17 : decode cX9_fillDeeds 17 = .ok (.iconst 1, 1) := by decide +kernel
theorem dX9_fillDeeds_18 : decode cX9_fillDeeds 18 = .ok (.iaload, 1) := by decide +kernel
theorem dX9_fillDeeds_19 : decode cX9_fillDeeds 19 = .ok (.istore 5, 2) := by decide +kernel
theorem dX9_fillDeeds_21 : decode cX9_fillDeeds 21 = .ok (.iconst 0, 1) := by decide +kernel
theorem dX9_fillDeeds_22 : decode cX9_fillDeeds 22 = .ok (.istore 6, 2) := by decide +kernel
theorem dX9_fillDeeds_24 : decode cX9_fillDeeds 24 = .ok (.iload 6, 2) := by decide +kernel
theorem dX9_fillDeeds_26 : decode cX9_fillDeeds 26 = .ok (.bipush 10, 2) := by decide +kernel
theorem dX9_fillDeeds_28 : decode cX9_fillDeeds 28 = .ok (.if_icmp .ge 139, 3) := by decide +kernel
theorem dX9_fillDeeds_167 : decode cX9_fillDeeds 167 = .ok (.return_, 1) := by decide +kernel
theorem dX9_fillDeeds_31 : decode cX9_fillDeeds 31 = .ok (.iload_n 2, 1) := by decide +kernel
theorem dX9_fillDeeds_32 : decode cX9_fillDeeds 32 = .ok (.bipush 10, 2) := by decide +kernel
theorem dX9_fillDeeds_34 : decode cX9_fillDeeds 34 = .ok (.imul, 1) := by decide +kernel
theorem dX9_fillDeeds_35 : decode cX9_fillDeeds 35 = .ok (.iload 6, 2) := by decide +kernel
theorem dX9_fillDeeds_37 : decode cX9_fillDeeds 37 = .ok (.iadd, 1) := by decide +kernel
theorem dX9_fillDeeds_38 : decode cX9_fillDeeds 38 = .ok (.istore 7, 2) := by decide +kernel
theorem dX9_fillDeeds_40 : decode cX9_fillDeeds 40 = .ok (.aload_n 3, 1) := by decide +kernel
theorem dX9_fillDeeds_41 : decode cX9_fillDeeds 41 = .ok (.sipush 10000, 3) := by decide +kernel
theorem dX9_fillDeeds_44 : decode cX9_fillDeeds 44 = .ok (.iload 6, 2) := by decide +kernel
theorem dX9_fillDeeds_46 : decode cX9_fillDeeds 46 = .ok (.i2l, 1) := by decide +kernel
theorem dX9_fillDeeds_47 : decode cX9_fillDeeds 47 = .ok (.invokevirtual 75, 3) := by decide +kernel
theorem dX9_fillDeeds_50 : decode cX9_fillDeeds 50 = .ok (.aload_n 3, 1) := by decide +kernel
theorem dX9_fillDeeds_51 : decode cX9_fillDeeds 51 = .ok (.sipush 10006, 3) := by decide +kernel
theorem dX9_fillDeeds_54 : decode cX9_fillDeeds 54 = .ok (.lconst 1, 1) := by decide +kernel
theorem dX9_fillDeeds_55 : decode cX9_fillDeeds 55 = .ok (.invokevirtual 75, 3) := by decide +kernel
theorem dX9_fillDeeds_58 : decode cX9_fillDeeds 58 = .ok (.aload_n 3, 1) := by decide +kernel
theorem dX9_fillDeeds_59 : decode cX9_fillDeeds 59 = .ok (.sipush 10005, 3) := by decide +kernel
theorem dX9_fillDeeds_62 : decode cX9_fillDeeds 62 = .ok (.lconst 0, 1) := by decide +kernel
theorem dX9_fillDeeds_63 : decode cX9_fillDeeds 63 = .ok (.invokevirtual 75, 3) := by decide +kernel
theorem dX9_fillDeeds_66 : decode cX9_fillDeeds 66 = .ok (.aload_n 0, 1) := by decide +kernel
theorem dX9_fillDeeds_67 : decode cX9_fillDeeds 67 = .ok (.getfield 18, 3) := by decide +kernel
theorem dX9_fillDeeds_70 : decode cX9_fillDeeds 70 = .ok (.iload 7, 2) := by decide +kernel
theorem dX9_fillDeeds_72 : decode cX9_fillDeeds 72 = .ok (.aload_n 3, 1) := by decide +kernel
theorem dX9_fillDeeds_73 : decode cX9_fillDeeds 73 = .ok (.iload 4, 2) := by decide +kernel
theorem dX9_fillDeeds_75 : decode cX9_fillDeeds 75 = .ok (.iload 5, 2) := by decide +kernel
theorem dX9_fillDeeds_77 : decode cX9_fillDeeds 77 = .ok (.invokevirtual 85, 3) := by decide +kernel
theorem dX9_fillDeeds_80 : decode cX9_fillDeeds 80 = .ok (.bipush 10, 2) := by decide +kernel
theorem dX9_fillDeeds_82 : decode cX9_fillDeeds 82 = .ok (.invokestatic 89, 3) := by decide +kernel
theorem dX9_fillDeeds_85 : decode cX9_fillDeeds 85 = .ok (.iastore, 1) := by decide +kernel
theorem dX9_fillDeeds_86 : decode cX9_fillDeeds 86 = .ok (.aload_n 3, 1) := by decide +kernel
theorem dX9_fillDeeds_87 : decode cX9_fillDeeds 87 = .ok (.sipush 10006, 3) := by decide +kernel
theorem dX9_fillDeeds_90 : decode cX9_fillDeeds 90 = .ok (.lconst 0, 1) := by decide +kernel
theorem dX9_fillDeeds_91 : decode cX9_fillDeeds 91 = .ok (.invokevirtual 75, 3) := by decide +kernel
theorem dX9_fillDeeds_94 : decode cX9_fillDeeds 94 = .ok (.iconst 0, 1) := by decide +kernel
theorem dX9_fillDeeds_95 : decode cX9_fillDeeds 95 = .ok (.istore 8, 2) := by decide +kernel
theorem dX9_fillDeeds_97 : decode cX9_fillDeeds 97 = .ok (.iload 8, 2) := by decide +kernel
theorem dX9_fillDeeds_99 : decode cX9_fillDeeds 99 = .ok (.bipush 10, 2) := by decide +kernel
theorem dX9_fillDeeds_101 : decode cX9_fillDeeds 101 = .ok (.if_icmp .ge 45, 3) := by decide +kernel
theorem dX9_fillDeeds_146 : decode cX9_fillDeeds 146 = .ok (.aload_n 0, 1) := by decide +kernel
theorem dX9_fillDeeds_147 : decode cX9_fillDeeds 147 = .ok (.getfield 21, 3) := by decide +kernel
theorem dX9_fillDeeds_150 : decode cX9_fillDeeds 150 = .ok (.iload 7, 2) := by decide +kernel
theorem dX9_fillDeeds_152 : decode cX9_fillDeeds 152 = .ok (.aload_n 0, 1) := by decide +kernel
theorem dX9_fillDeeds_153 : decode cX9_fillDeeds 153 = .ok (.iload_n 2, 1) := by decide +kernel
theorem dX9_fillDeeds_154 : decode cX9_fillDeeds 154 = .ok (.iload 6, 2) := by decide +kernel
theorem dX9_fillDeeds_156 : decode cX9_fillDeeds 156 = .ok (.iconst 0, 1) := by decide +kernel
theorem dX9_fillDeeds_157 : decode cX9_fillDeeds 157 = .ok (.invokevirtual 95, 3) := by decide +kernel
theorem dX9_fillDeeds_160 : decode cX9_fillDeeds 160 = .ok (.iastore, 1) := by decide +kernel
theorem dX9_fillDeeds_161 : decode cX9_fillDeeds 161 = .ok (.iinc 6 1, 3) := by decide +kernel
theorem dX9_fillDeeds_164 : decode cX9_fillDeeds 164 = .ok (.goto (-140), 3) := by decide +kernel
theorem dX9_fillDeeds_104 : decode cX9_fillDeeds 104 = .ok (.aload_n 3, 1) := by decide +kernel
theorem dX9_fillDeeds_105 : decode cX9_fillDeeds 105 = .ok (.sipush 10005, 3) := by decide +kernel
theorem dX9_fillDeeds_108 : decode cX9_fillDeeds 108 = .ok (.iload 8, 2) := by decide +kernel
theorem dX9_fillDeeds_110 : decode cX9_fillDeeds 110 = .ok (.i2l, 1) := by decide +kernel
theorem dX9_fillDeeds_111 : decode cX9_fillDeeds 111 = .ok (.invokevirtual 75, 3) := by decide +kernel
theorem dX9_fillDeeds_114 : decode cX9_fillDeeds 114 = .ok (.aload_n 0, 1) := by decide +kernel
theorem dX9_fillDeeds_115 : decode cX9_fillDeeds 115 = .ok (.getfield 15, 3) := by decide +kernel
theorem dX9_fillDeeds_118 : decode cX9_fillDeeds 118 = .ok (.iload 7, 2) := by decide +kernel
theorem dX9_fillDeeds_120 : decode cX9_fillDeeds 120 = .ok (.bipush 10, 2) := by decide +kernel
theorem dX9_fillDeeds_122 : decode cX9_fillDeeds 122 = .ok (.imul, 1) := by decide +kernel
theorem dX9_fillDeeds_123 : decode cX9_fillDeeds 123 = .ok (.iload 8, 2) := by decide +kernel
theorem dX9_fillDeeds_125 : decode cX9_fillDeeds 125 = .ok (.iadd, 1) := by decide +kernel
theorem dX9_fillDeeds_126 : decode cX9_fillDeeds 126 = .ok (.aload_n 3, 1) := by decide +kernel
theorem dX9_fillDeeds_127 : decode cX9_fillDeeds 127 = .ok (.iload 4, 2) := by decide +kernel
theorem dX9_fillDeeds_129 : decode cX9_fillDeeds 129 = .ok (.iload 5, 2) := by decide +kernel
theorem dX9_fillDeeds_131 : decode cX9_fillDeeds 131 = .ok (.invokevirtual 85, 3) := by decide +kernel
theorem dX9_fillDeeds_134 : decode cX9_fillDeeds 134 = .ok (.bipush 10, 2) := by decide +kernel
theorem dX9_fillDeeds_136 : decode cX9_fillDeeds 136 = .ok (.invokestatic 89, 3) := by decide +kernel
theorem dX9_fillDeeds_139 : decode cX9_fillDeeds 139 = .ok (.iastore, 1) := by decide +kernel
theorem dX9_fillDeeds_140 : decode cX9_fillDeeds 140 = .ok (.iinc 8 1, 3) := by decide +kernel
theorem dX9_fillDeeds_143 : decode cX9_fillDeeds 143 = .ok (.goto (-46), 3) := by decide +kernel
theorem w_2_67 : (Cond.fieldLink RX9 18 "SameKeeper$Table" "alone" "[I") ∈ wsL_law := sk_mem (ck_2 _ (List.mem_of_getElem? (i := 67) rfl)) rfl
theorem w_2_70 : (Cond.fieldLink RX9 21 "SameKeeper$Table" "open" "[I") ∈ wsL_law := sk_mem (ck_2 _ (List.mem_of_getElem? (i := 70) rfl)) rfl
theorem w_4_17 : (Cond.methodLink RX9 95 yX9_moodsBehind) ∈ wsL_law := sk_mem (ck_4 _ (List.mem_of_getElem? (i := 17) rfl)) rfl
theorem w_4_18 : (Cond.instanceMethod yX9_moodsBehind) ∈ wsL_law := sk_mem (ck_4 _ (List.mem_of_getElem? (i := 18) rfl)) rfl
theorem w_4_19 : (Cond.selects RX9 yX9_moodsBehind yX9_moodsBehind) ∈ wsL_law := sk_mem (ck_4 _ (List.mem_of_getElem? (i := 19) rfl)) rfl
theorem w_1_12 : (Cond.initialized RX9) ∈ wsL_law := sk_mem (ck_1 _ (List.mem_of_getElem? (i := 12) rfl)) rfl
theorem w_4_16 : (Cond.code yX9_fillDeeds cX9_fillDeeds 9 none) ∈ wsL_law := sk_mem (ck_4 _ (List.mem_of_getElem? (i := 16) rfl)) rfl
set_option maxHeartbeats 4000000 in
set_option maxRecDepth 100000 in
theorem c_fillDeeds (l : Launch) (D : va_G) (cI cJ cC cZ cS : ClassId) (q : Nat → Nat) (dh : Nat) (mh : Nat) (uh : Int32) (rh : Int32) (nh : Nat) (ch : Nat) (wh : Nat) (y1 : Nat → Int32) (y2 : Nat → Int64) (y3 : Nat → Int64) (y4 : Nat → Int64) (yf : Nat → Int32) (yt : Nat → Int32) (sa : Nat → Nat) (ft : Nat → Int32) (fa : Nat → Int32) (fo : Nat → Int32) (d : Nat) (hsa : ∀ j, sa j ≤ 9) (hch : ch ≤ 1600) (hwh : wh ≤ 1) (hd : d < 9) : skM l yX9_fillDeeds cX9_fillDeeds 9 none 3 75 0 0 D (skT cI cJ cC cZ cS) [.ref (q 10), .ref (q 5), .int (nI d)] [(q 10, .inr (9, [.ref (q 61), .ref (q 62), .ref (q 63), .ref (q 64), .ref (q 65), .ref (q 66)])), (q 61, .inl (cI, 90, .inl (fun j => nI (sa j)))), (q 62, .inl (cI, 900, .inl ft)), (q 63, .inl (cI, 90, .inl fa)), (q 64, .inl (cI, 90, .inl fo)), (q 5, .inr (2, [.ref (q 44), .ref (q 45), .ref (q 46), .ref (q 47), .ref (q 48), .int (nI dh), .int (nI mh), .int uh, .int rh, .int (nI nh)])), (q 44, .inr (0, [.ref (q 49), .ref (q 50), .ref (q 51), .ref (q 52), .int (nI ch), .int (nI wh)])), (q 49, .inl (cI, 1600, .inl y1)), (q 50, .inl (cJ, 64, .inr (.inl y2))), (q 51, .inl (cJ, 9, .inr (.inl y3))), (q 52, .inl (cJ, 10, .inr (.inl y4))), (q 47, .inl (cI, 3, .inl yf)), (q 48, .inl (cI, 3, .inl yt))] (skV D (skT cI cJ cC cZ cS) (fun (u : va_W) => ∃ (ft2 : Nat → Int32), ∃ (fa2 : Nat → Int32), ∃ (fo2 : Nat → Int32), ∃ (z2 : Nat → Int64), ∃ (z3 : Nat → Int64), u = [(q 10, .inr (9, [.ref (q 61), .ref (q 62), .ref (q 63), .ref (q 64), .ref (q 65), .ref (q 66)])), (q 61, .inl (cI, 90, .inl (fun j => nI (sa j)))), (q 62, .inl (cI, 900, .inl ft2)), (q 63, .inl (cI, 90, .inl fa2)), (q 64, .inl (cI, 90, .inl fo2)), (q 5, .inr (2, [.ref (q 44), .ref (q 45), .ref (q 46), .ref (q 47), .ref (q 48), .int (nI dh), .int (nI mh), .int uh, .int rh, .int (nI nh)])), (q 44, .inr (0, [.ref (q 49), .ref (q 50), .ref (q 51), .ref (q 52), .int (nI ch), .int (nI wh)])), (q 49, .inl (cI, 1600, .inl y1)), (q 50, .inl (cJ, 64, .inr (.inl z2))), (q 51, .inl (cJ, 9, .inr (.inl z3))), (q 52, .inl (cJ, 10, .inr (.inl y4))), (q 47, .inl (cI, 3, .inl yf)), (q 48, .inl (cI, 3, .inl yt))])) := by
  refine skM_of (by decide +kernel) (Nat.le_of_ble_eq_true rfl) ?_
  intro p e s m below meth c A ls E hP hD hl
  obtain ⟨hx, hb, hr, hml, hlocks, hin, hown, hts, hK, hA⟩ := E
  have hown : s.vm.findClass RX9 = some m.cls := hown
  have hS : va_S A s.heap s.heap [] := va_S.rf
  have hl : lv_has ls 9 [(0, .ref (q 10)), (1, .ref (q 5)), (2, .int (nI d))] := hl
  refine lv_aload_n hx hb dX9_fillDeeds_0 rfl (lv_at hl 1 rfl) ?_
  refine sk_get (v := .ref (q 44)) (C := RX2) (T := TX2) (N := 10) hx hb hts inlX2 hown hK hP 5 rfl rfl 0 (by decide) w_1_176 rfl dX9_fillDeeds_1 ?_
  refine lv_astore_n (lv' := [(3, .ref (q 44)), (0, .ref (q 10)), (1, .ref (q 5)), (2, .int (nI d))]) hx hb dX9_fillDeeds_4 rfl hl (by decide) rfl (fun ls hl => ?_)
  refine lv_aload_n hx hb dX9_fillDeeds_5 rfl (lv_at hl 2 rfl) ?_
  refine sk_get (v := .ref (q 47)) (C := RX2) (T := TX2) (N := 10) hx hb hts inlX2 hown hK hP 5 rfl rfl 3 (by decide) w_1_185 rfl dX9_fillDeeds_6 ?_
  refine lv_iconst (v := 1) hx hb dX9_fillDeeds_9 (by decide) ?_
  refine va_iald hx hb hK.1 hP 11 0 rfl rfl (by unfold vp_in; decide) dX9_fillDeeds_10 ?_
  refine lv_topi (fun v_1 ev_1 => ?_)
  refine lv_istore (lv' := [(4, .int v_1), (3, .ref (q 44)), (0, .ref (q 10)), (1, .ref (q 5)), (2, .int (nI d))]) hx hb dX9_fillDeeds_11 hl (by decide) rfl (fun ls hl => ?_)
  refine lv_aload_n hx hb dX9_fillDeeds_13 rfl (lv_at hl 3 rfl) ?_
  refine sk_get (v := .ref (q 48)) (C := RX2) (T := TX2) (N := 10) hx hb hts inlX2 hown hK hP 5 rfl rfl 4 (by decide) w_1_187 rfl dX9_fillDeeds_14 ?_
  refine lv_iconst (v := 1) hx hb dX9_fillDeeds_17 (by decide) ?_
  refine va_iald hx hb hK.1 hP 12 0 rfl rfl (by unfold vp_in; decide) dX9_fillDeeds_18 ?_
  refine lv_topi (fun v_2 ev_2 => ?_)
  refine lv_istore (lv' := [(5, .int v_2), (4, .int v_1), (3, .ref (q 44)), (0, .ref (q 10)), (1, .ref (q 5)), (2, .int (nI d))]) hx hb dX9_fillDeeds_19 hl (by decide) rfl (fun ls hl => ?_)
  refine lv_iconst (v := 0) hx hb dX9_fillDeeds_21 (by decide) ?_
  refine lv_istore (lv' := [(6, .int 0), (5, .int v_2), (4, .int v_1), (3, .ref (q 44)), (0, .ref (q 10)), (1, .ref (q 5)), (2, .int (nI d))]) hx hb dX9_fillDeeds_22 hl (by decide) rfl (fun ls hl => ?_)
  have lp_3 : ∀ (n_4 : Nat) (i : Nat) (gt : Nat → Int32) (ga : Nat → Int32) (go : Nat → Int32) (u2 : Nat → Int64) (u3 : Nat → Int64) (H : Heap) (locs : List Loc) (ls : Array Slot), 10 - i < n_4 → (i ≤ 10) → va_P D vwCl [(q 10, .inr (9, [.ref (q 61), .ref (q 62), .ref (q 63), .ref (q 64), .ref (q 65), .ref (q 66)])), (q 61, .inl (cI, 90, .inl (fun j => nI (sa j)))), (q 62, .inl (cI, 900, .inl gt)), (q 63, .inl (cI, 90, .inl ga)), (q 64, .inl (cI, 90, .inl go)), (q 5, .inr (2, [.ref (q 44), .ref (q 45), .ref (q 46), .ref (q 47), .ref (q 48), .int (nI dh), .int (nI mh), .int uh, .int rh, .int (nI nh)])), (q 44, .inr (0, [.ref (q 49), .ref (q 50), .ref (q 51), .ref (q 52), .int (nI ch), .int (nI wh)])), (q 49, .inl (cI, 1600, .inl y1)), (q 50, .inl (cJ, 64, .inr (.inl u2))), (q 51, .inl (cJ, 9, .inr (.inl u3))), (q 52, .inl (cJ, 10, .inr (.inl y4))), (q 47, .inl (cI, 3, .inl yf)), (q 48, .inl (cI, 3, .inl yt))] H → va_D A [(q 10, .inr (9, [.ref (q 61), .ref (q 62), .ref (q 63), .ref (q 64), .ref (q 65), .ref (q 66)])), (q 61, .inl (cI, 90, .inl (fun j => nI (sa j)))), (q 62, .inl (cI, 900, .inl gt)), (q 63, .inl (cI, 90, .inl ga)), (q 64, .inl (cI, 90, .inl go)), (q 5, .inr (2, [.ref (q 44), .ref (q 45), .ref (q 46), .ref (q 47), .ref (q 48), .int (nI dh), .int (nI mh), .int uh, .int rh, .int (nI nh)])), (q 44, .inr (0, [.ref (q 49), .ref (q 50), .ref (q 51), .ref (q 52), .int (nI ch), .int (nI wh)])), (q 49, .inl (cI, 1600, .inl y1)), (q 50, .inl (cJ, 64, .inr (.inl u2))), (q 51, .inl (cJ, 9, .inr (.inl u3))), (q 52, .inl (cJ, 10, .inr (.inl y4))), (q 47, .inl (cI, 3, .inl yf)), (q 48, .inl (cI, 3, .inl yt))] → va_S A s.heap H locs → lv_has ls 9 [(6, .int (nI i)), (5, .int v_2), (4, .int v_1), (3, .ref (q 44)), (0, .ref (q 10)), (1, .ref (q 5)), (2, .int (nI d))] → W p l e { frames := 3, cells := 0, slots := 0, locals := 75 } s m ([.ref (q 10), .ref (q 5), .int (nI d)] : List Value).toArray below meth c H locs 0 0 (MQ below (skV D (skT cI cJ cC cZ cS) (fun (u : va_W) => ∃ (ft2 : Nat → Int32), ∃ (fa2 : Nat → Int32), ∃ (fo2 : Nat → Int32), ∃ (z2 : Nat → Int64), ∃ (z3 : Nat → Int64), u = [(q 10, .inr (9, [.ref (q 61), .ref (q 62), .ref (q 63), .ref (q 64), .ref (q 65), .ref (q 66)])), (q 61, .inl (cI, 90, .inl (fun j => nI (sa j)))), (q 62, .inl (cI, 900, .inl ft2)), (q 63, .inl (cI, 90, .inl fa2)), (q 64, .inl (cI, 90, .inl fo2)), (q 5, .inr (2, [.ref (q 44), .ref (q 45), .ref (q 46), .ref (q 47), .ref (q 48), .int (nI dh), .int (nI mh), .int uh, .int rh, .int (nI nh)])), (q 44, .inr (0, [.ref (q 49), .ref (q 50), .ref (q 51), .ref (q 52), .int (nI ch), .int (nI wh)])), (q 49, .inl (cI, 1600, .inl y1)), (q 50, .inl (cJ, 64, .inr (.inl z2))), (q 51, .inl (cJ, 9, .inr (.inl z3))), (q 52, .inl (cJ, 10, .inr (.inl y4))), (q 47, .inl (cI, 3, .inl yf)), (q 48, .inl (cI, 3, .inl yt))]) A) ([.ref (q 10), .ref (q 5), .int (nI d)] : List Value).toArray s 0 0 A) (F0 m 24 ls []) := by
    intro n_4
    induction n_4 with
    | zero => intro i gt ga go u2 u3 H locs ls hm; exact absurd hm (Nat.not_lt_zero _)
    | succ n_4 ih_lp_3 =>
      intro i gt ga go u2 u3 H locs ls hm hi hP hD hS hl
      refine lv_iload hx hb dX9_fillDeeds_24 (lv_at hl 0 rfl) ?_
      refine lv_bipush (v := 10) hx hb dX9_fillDeeds_26 (by decide) ?_
      refine lv_icmp_ge (tgt := 167) hx hb dX9_fillDeeds_28 (by decide) (fun c_5 => ?_) (fun c_5 => ?_)
      · have c_5 : 10 ≤ i := (nle 10 i (by omega) (by omega)).mp c_5
        exact sk_vret hx hb hr hlocks hK hP hD hS (⟨gt, ga, go, u2, u3, rfl⟩) (Nat.le_of_ble_eq_true rfl) (Nat.le_of_ble_eq_true rfl) dX9_fillDeeds_167
      · have c_5 : ¬ (10 ≤ i) := fun h => c_5 ((nle 10 i (by omega) (by omega)).mpr h)
        refine lv_iload_n hx hb dX9_fillDeeds_31 rfl (lv_at hl 6 rfl) ?_
        refine lv_bipush (v := 10) hx hb dX9_fillDeeds_32 (by decide) ?_
        refine lv_imul hx hb dX9_fillDeeds_34 ?_
        refine sk_top (nI (d * 10)) (nmul d 10) ?_
        refine lv_iload hx hb dX9_fillDeeds_35 (lv_at hl 0 rfl) ?_
        refine lv_iadd hx hb dX9_fillDeeds_37 ?_
        refine sk_top (nI (d * 10 + i)) (nI_add (d * 10) i) ?_
        refine lv_istore (lv' := [(7, .int (nI (d * 10 + i))), (6, .int (nI i)), (5, .int v_2), (4, .int v_1), (3, .ref (q 44)), (0, .ref (q 10)), (1, .ref (q 5)), (2, .int (nI d))]) hx hb dX9_fillDeeds_38 hl (by decide) rfl (fun ls hl => ?_)
        refine lv_aload_n hx hb dX9_fillDeeds_40 rfl (lv_at hl 4 rfl) ?_
        refine lv_sipush (v := 10000) hx hb dX9_fillDeeds_41 (by decide) ?_
        refine lv_iload hx hb dX9_fillDeeds_44 (lv_at hl 1 rfl) ?_
        refine lv_i2l hx hb dX9_fillDeeds_46 rfl ?_
        refine sk_Vv (q0 := 0) (n := 2) (rest := []) (wr := [(q 10, .inr (9, [.ref (q 61), .ref (q 62), .ref (q 63), .ref (q 64), .ref (q 65), .ref (q 66)])), (q 61, .inl (cI, 90, .inl (fun j => nI (sa j)))), (q 62, .inl (cI, 900, .inl gt)), (q 63, .inl (cI, 90, .inl ga)), (q 64, .inl (cI, 90, .inl go)), (q 5, .inr (2, [.ref (q 44), .ref (q 45), .ref (q 46), .ref (q 47), .ref (q 48), .int (nI dh), .int (nI mh), .int uh, .int rh, .int (nI nh)])), (q 49, .inl (cI, 1600, .inl y1)), (q 50, .inl (cJ, 64, .inr (.inl u2))), (q 52, .inl (cJ, 10, .inr (.inl y4))), (q 47, .inl (cI, 3, .inl yf)), (q 48, .inl (cI, 3, .inl yt))]) ⟨hx, hb, hml, hown, hts⟩ hl.1 (c_Code_name l D cI cJ cC cZ cS (q 44) (q 49) (q 50) (q 51) (q 52) ch wh u3 10000 (Int32.toInt64 (nI i))) w_3_212 w_3_213 w_3_214 w_1_8 w_3_215 (by decide +kernel) ⟨⟨(Nat.le_of_ble_eq_true rfl), (Nat.le_of_ble_eq_true rfl)⟩, (Nat.le_of_ble_eq_true rfl), (Nat.le_of_ble_eq_true rfl)⟩ hK hP hD hS hA [6, 9] [0, 1, 2, 3, 4, 5, 7, 8, 10, 11, 12] rfl rfl (by decide +kernel) (by decide +kernel) (by decide +kernel) rfl rfl rfl rfl (Nat.le_of_ble_eq_true rfl) dX9_fillDeeds_47 (fun u H locs hw hP hD hS => ?_)
        obtain ⟨g3_6, rfl⟩ := hw
        have hP : va_P D vwCl [(q 10, .inr (9, [.ref (q 61), .ref (q 62), .ref (q 63), .ref (q 64), .ref (q 65), .ref (q 66)])), (q 61, .inl (cI, 90, .inl (fun j => nI (sa j)))), (q 62, .inl (cI, 900, .inl gt)), (q 63, .inl (cI, 90, .inl ga)), (q 64, .inl (cI, 90, .inl go)), (q 5, .inr (2, [.ref (q 44), .ref (q 45), .ref (q 46), .ref (q 47), .ref (q 48), .int (nI dh), .int (nI mh), .int uh, .int rh, .int (nI nh)])), (q 49, .inl (cI, 1600, .inl y1)), (q 50, .inl (cJ, 64, .inr (.inl u2))), (q 52, .inl (cJ, 10, .inr (.inl y4))), (q 47, .inl (cI, 3, .inl yf)), (q 48, .inl (cI, 3, .inl yt)), (q 44, .inr (0, [.ref (q 49), .ref (q 50), .ref (q 51), .ref (q 52), .int (nI ch), .int (nI wh)])), (q 51, .inl (cJ, 9, .inr (.inl g3_6)))] H := hP
        have hD : va_D A [(q 10, .inr (9, [.ref (q 61), .ref (q 62), .ref (q 63), .ref (q 64), .ref (q 65), .ref (q 66)])), (q 61, .inl (cI, 90, .inl (fun j => nI (sa j)))), (q 62, .inl (cI, 900, .inl gt)), (q 63, .inl (cI, 90, .inl ga)), (q 64, .inl (cI, 90, .inl go)), (q 5, .inr (2, [.ref (q 44), .ref (q 45), .ref (q 46), .ref (q 47), .ref (q 48), .int (nI dh), .int (nI mh), .int uh, .int rh, .int (nI nh)])), (q 49, .inl (cI, 1600, .inl y1)), (q 50, .inl (cJ, 64, .inr (.inl u2))), (q 52, .inl (cJ, 10, .inr (.inl y4))), (q 47, .inl (cI, 3, .inl yf)), (q 48, .inl (cI, 3, .inl yt)), (q 44, .inr (0, [.ref (q 49), .ref (q 50), .ref (q 51), .ref (q 52), .int (nI ch), .int (nI wh)])), (q 51, .inl (cJ, 9, .inr (.inl g3_6)))] := hD
        refine lv_aload_n hx hb dX9_fillDeeds_50 rfl (lv_at hl 4 rfl) ?_
        refine lv_sipush (v := 10006) hx hb dX9_fillDeeds_51 (by decide) ?_
        refine lv_lconst (v := 1) hx hb dX9_fillDeeds_54 (by decide) ?_
        refine sk_Vv (q0 := 0) (n := 2) (rest := []) (wr := [(q 10, .inr (9, [.ref (q 61), .ref (q 62), .ref (q 63), .ref (q 64), .ref (q 65), .ref (q 66)])), (q 61, .inl (cI, 90, .inl (fun j => nI (sa j)))), (q 62, .inl (cI, 900, .inl gt)), (q 63, .inl (cI, 90, .inl ga)), (q 64, .inl (cI, 90, .inl go)), (q 5, .inr (2, [.ref (q 44), .ref (q 45), .ref (q 46), .ref (q 47), .ref (q 48), .int (nI dh), .int (nI mh), .int uh, .int rh, .int (nI nh)])), (q 49, .inl (cI, 1600, .inl y1)), (q 50, .inl (cJ, 64, .inr (.inl u2))), (q 52, .inl (cJ, 10, .inr (.inl y4))), (q 47, .inl (cI, 3, .inl yf)), (q 48, .inl (cI, 3, .inl yt))]) ⟨hx, hb, hml, hown, hts⟩ hl.1 (c_Code_name l D cI cJ cC cZ cS (q 44) (q 49) (q 50) (q 51) (q 52) ch wh g3_6 10006 1) w_3_212 w_3_213 w_3_214 w_1_8 w_3_215 (by decide +kernel) ⟨⟨(Nat.le_of_ble_eq_true rfl), (Nat.le_of_ble_eq_true rfl)⟩, (Nat.le_of_ble_eq_true rfl), (Nat.le_of_ble_eq_true rfl)⟩ hK hP hD hS hA [11, 12] [0, 1, 2, 3, 4, 5, 6, 7, 8, 9, 10] rfl rfl (by decide +kernel) (by decide +kernel) (by decide +kernel) rfl rfl rfl rfl (Nat.le_of_ble_eq_true rfl) dX9_fillDeeds_55 (fun u H locs hw hP hD hS => ?_)
        obtain ⟨g3_7, rfl⟩ := hw
        have hP : va_P D vwCl [(q 10, .inr (9, [.ref (q 61), .ref (q 62), .ref (q 63), .ref (q 64), .ref (q 65), .ref (q 66)])), (q 61, .inl (cI, 90, .inl (fun j => nI (sa j)))), (q 62, .inl (cI, 900, .inl gt)), (q 63, .inl (cI, 90, .inl ga)), (q 64, .inl (cI, 90, .inl go)), (q 5, .inr (2, [.ref (q 44), .ref (q 45), .ref (q 46), .ref (q 47), .ref (q 48), .int (nI dh), .int (nI mh), .int uh, .int rh, .int (nI nh)])), (q 49, .inl (cI, 1600, .inl y1)), (q 50, .inl (cJ, 64, .inr (.inl u2))), (q 52, .inl (cJ, 10, .inr (.inl y4))), (q 47, .inl (cI, 3, .inl yf)), (q 48, .inl (cI, 3, .inl yt)), (q 44, .inr (0, [.ref (q 49), .ref (q 50), .ref (q 51), .ref (q 52), .int (nI ch), .int (nI wh)])), (q 51, .inl (cJ, 9, .inr (.inl g3_7)))] H := hP
        have hD : va_D A [(q 10, .inr (9, [.ref (q 61), .ref (q 62), .ref (q 63), .ref (q 64), .ref (q 65), .ref (q 66)])), (q 61, .inl (cI, 90, .inl (fun j => nI (sa j)))), (q 62, .inl (cI, 900, .inl gt)), (q 63, .inl (cI, 90, .inl ga)), (q 64, .inl (cI, 90, .inl go)), (q 5, .inr (2, [.ref (q 44), .ref (q 45), .ref (q 46), .ref (q 47), .ref (q 48), .int (nI dh), .int (nI mh), .int uh, .int rh, .int (nI nh)])), (q 49, .inl (cI, 1600, .inl y1)), (q 50, .inl (cJ, 64, .inr (.inl u2))), (q 52, .inl (cJ, 10, .inr (.inl y4))), (q 47, .inl (cI, 3, .inl yf)), (q 48, .inl (cI, 3, .inl yt)), (q 44, .inr (0, [.ref (q 49), .ref (q 50), .ref (q 51), .ref (q 52), .int (nI ch), .int (nI wh)])), (q 51, .inl (cJ, 9, .inr (.inl g3_7)))] := hD
        refine lv_aload_n hx hb dX9_fillDeeds_58 rfl (lv_at hl 4 rfl) ?_
        refine lv_sipush (v := 10005) hx hb dX9_fillDeeds_59 (by decide) ?_
        refine lv_lconst (v := 0) hx hb dX9_fillDeeds_62 (by decide) ?_
        refine sk_Vv (q0 := 0) (n := 2) (rest := []) (wr := [(q 10, .inr (9, [.ref (q 61), .ref (q 62), .ref (q 63), .ref (q 64), .ref (q 65), .ref (q 66)])), (q 61, .inl (cI, 90, .inl (fun j => nI (sa j)))), (q 62, .inl (cI, 900, .inl gt)), (q 63, .inl (cI, 90, .inl ga)), (q 64, .inl (cI, 90, .inl go)), (q 5, .inr (2, [.ref (q 44), .ref (q 45), .ref (q 46), .ref (q 47), .ref (q 48), .int (nI dh), .int (nI mh), .int uh, .int rh, .int (nI nh)])), (q 49, .inl (cI, 1600, .inl y1)), (q 50, .inl (cJ, 64, .inr (.inl u2))), (q 52, .inl (cJ, 10, .inr (.inl y4))), (q 47, .inl (cI, 3, .inl yf)), (q 48, .inl (cI, 3, .inl yt))]) ⟨hx, hb, hml, hown, hts⟩ hl.1 (c_Code_name l D cI cJ cC cZ cS (q 44) (q 49) (q 50) (q 51) (q 52) ch wh g3_7 10005 0) w_3_212 w_3_213 w_3_214 w_1_8 w_3_215 (by decide +kernel) ⟨⟨(Nat.le_of_ble_eq_true rfl), (Nat.le_of_ble_eq_true rfl)⟩, (Nat.le_of_ble_eq_true rfl), (Nat.le_of_ble_eq_true rfl)⟩ hK hP hD hS hA [11, 12] [0, 1, 2, 3, 4, 5, 6, 7, 8, 9, 10] rfl rfl (by decide +kernel) (by decide +kernel) (by decide +kernel) rfl rfl rfl rfl (Nat.le_of_ble_eq_true rfl) dX9_fillDeeds_63 (fun u H locs hw hP hD hS => ?_)
        obtain ⟨g3_8, rfl⟩ := hw
        have hP : va_P D vwCl [(q 10, .inr (9, [.ref (q 61), .ref (q 62), .ref (q 63), .ref (q 64), .ref (q 65), .ref (q 66)])), (q 61, .inl (cI, 90, .inl (fun j => nI (sa j)))), (q 62, .inl (cI, 900, .inl gt)), (q 63, .inl (cI, 90, .inl ga)), (q 64, .inl (cI, 90, .inl go)), (q 5, .inr (2, [.ref (q 44), .ref (q 45), .ref (q 46), .ref (q 47), .ref (q 48), .int (nI dh), .int (nI mh), .int uh, .int rh, .int (nI nh)])), (q 49, .inl (cI, 1600, .inl y1)), (q 50, .inl (cJ, 64, .inr (.inl u2))), (q 52, .inl (cJ, 10, .inr (.inl y4))), (q 47, .inl (cI, 3, .inl yf)), (q 48, .inl (cI, 3, .inl yt)), (q 44, .inr (0, [.ref (q 49), .ref (q 50), .ref (q 51), .ref (q 52), .int (nI ch), .int (nI wh)])), (q 51, .inl (cJ, 9, .inr (.inl g3_8)))] H := hP
        have hD : va_D A [(q 10, .inr (9, [.ref (q 61), .ref (q 62), .ref (q 63), .ref (q 64), .ref (q 65), .ref (q 66)])), (q 61, .inl (cI, 90, .inl (fun j => nI (sa j)))), (q 62, .inl (cI, 900, .inl gt)), (q 63, .inl (cI, 90, .inl ga)), (q 64, .inl (cI, 90, .inl go)), (q 5, .inr (2, [.ref (q 44), .ref (q 45), .ref (q 46), .ref (q 47), .ref (q 48), .int (nI dh), .int (nI mh), .int uh, .int rh, .int (nI nh)])), (q 49, .inl (cI, 1600, .inl y1)), (q 50, .inl (cJ, 64, .inr (.inl u2))), (q 52, .inl (cJ, 10, .inr (.inl y4))), (q 47, .inl (cI, 3, .inl yf)), (q 48, .inl (cI, 3, .inl yt)), (q 44, .inr (0, [.ref (q 49), .ref (q 50), .ref (q 51), .ref (q 52), .int (nI ch), .int (nI wh)])), (q 51, .inl (cJ, 9, .inr (.inl g3_8)))] := hD
        refine lv_aload_n hx hb dX9_fillDeeds_66 rfl (lv_at hl 5 rfl) ?_
        refine sk_get (v := .ref (q 63)) (C := RX9) (T := TX9) (N := 6) hx hb hts inlX9 hown hK hP 0 rfl rfl 2 (by decide) w_2_67 rfl dX9_fillDeeds_67 ?_
        refine lv_iload hx hb dX9_fillDeeds_70 (lv_at hl 0 rfl) ?_
        refine lv_aload_n hx hb dX9_fillDeeds_72 rfl (lv_at hl 4 rfl) ?_
        refine lv_iload hx hb dX9_fillDeeds_73 (lv_at hl 3 rfl) ?_
        refine lv_iload hx hb dX9_fillDeeds_75 (lv_at hl 2 rfl) ?_
        refine sk_Vl (q0 := 0) (n := 2) (rest := [.int (nI (d * 10 + i)), .ref (q 63)]) (wr := [(q 10, .inr (9, [.ref (q 61), .ref (q 62), .ref (q 63), .ref (q 64), .ref (q 65), .ref (q 66)])), (q 61, .inl (cI, 90, .inl (fun j => nI (sa j)))), (q 62, .inl (cI, 900, .inl gt)), (q 63, .inl (cI, 90, .inl ga)), (q 64, .inl (cI, 90, .inl go)), (q 5, .inr (2, [.ref (q 44), .ref (q 45), .ref (q 46), .ref (q 47), .ref (q 48), .int (nI dh), .int (nI mh), .int uh, .int rh, .int (nI nh)])), (q 47, .inl (cI, 3, .inl yf)), (q 48, .inl (cI, 3, .inl yt))]) ⟨hx, hb, hml, hown, hts⟩ hl.1 (c_Code_run l D cI cJ cC cZ cS (q 44) (q 49) (q 50) (q 51) (q 52) ch wh y1 u2 g3_8 y4 v_1 v_2 (by omega) (by omega)) w_3_220 w_3_221 w_3_222 w_1_8 w_3_223 (by decide +kernel) ⟨⟨(Nat.le_of_ble_eq_true rfl), (Nat.le_of_ble_eq_true rfl)⟩, (Nat.le_of_ble_eq_true rfl), (Nat.le_of_ble_eq_true rfl)⟩ hK hP hD hS hA [11, 6, 7, 12, 8] [0, 1, 2, 3, 4, 5, 9, 10] rfl rfl (by decide +kernel) (by decide +kernel) (by decide +kernel) rfl rfl rfl rfl (Nat.le_of_ble_eq_true rfl) dX9_fillDeeds_77 (fun r_10 u H locs hw hP hD hS => ?_)
        obtain ⟨g2_9, rfl⟩ := hw
        have hP : va_P D vwCl [(q 10, .inr (9, [.ref (q 61), .ref (q 62), .ref (q 63), .ref (q 64), .ref (q 65), .ref (q 66)])), (q 61, .inl (cI, 90, .inl (fun j => nI (sa j)))), (q 62, .inl (cI, 900, .inl gt)), (q 63, .inl (cI, 90, .inl ga)), (q 64, .inl (cI, 90, .inl go)), (q 5, .inr (2, [.ref (q 44), .ref (q 45), .ref (q 46), .ref (q 47), .ref (q 48), .int (nI dh), .int (nI mh), .int uh, .int rh, .int (nI nh)])), (q 47, .inl (cI, 3, .inl yf)), (q 48, .inl (cI, 3, .inl yt)), (q 44, .inr (0, [.ref (q 49), .ref (q 50), .ref (q 51), .ref (q 52), .int (nI ch), .int (nI wh)])), (q 49, .inl (cI, 1600, .inl y1)), (q 50, .inl (cJ, 64, .inr (.inl g2_9))), (q 51, .inl (cJ, 9, .inr (.inl g3_8))), (q 52, .inl (cJ, 10, .inr (.inl y4)))] H := hP
        have hD : va_D A [(q 10, .inr (9, [.ref (q 61), .ref (q 62), .ref (q 63), .ref (q 64), .ref (q 65), .ref (q 66)])), (q 61, .inl (cI, 90, .inl (fun j => nI (sa j)))), (q 62, .inl (cI, 900, .inl gt)), (q 63, .inl (cI, 90, .inl ga)), (q 64, .inl (cI, 90, .inl go)), (q 5, .inr (2, [.ref (q 44), .ref (q 45), .ref (q 46), .ref (q 47), .ref (q 48), .int (nI dh), .int (nI mh), .int uh, .int rh, .int (nI nh)])), (q 47, .inl (cI, 3, .inl yf)), (q 48, .inl (cI, 3, .inl yt)), (q 44, .inr (0, [.ref (q 49), .ref (q 50), .ref (q 51), .ref (q 52), .int (nI ch), .int (nI wh)])), (q 49, .inl (cI, 1600, .inl y1)), (q 50, .inl (cJ, 64, .inr (.inl g2_9))), (q 51, .inl (cJ, 9, .inr (.inl g3_8))), (q 52, .inl (cJ, 10, .inr (.inl y4)))] := hD
        refine lv_bipush (v := 10) hx hb dX9_fillDeeds_80 (by decide) ?_
        refine sk_Si (n := 2) (rest := [.int (nI (d * 10 + i)), .ref (q 63)]) (wr := [(q 10, .inr (9, [.ref (q 61), .ref (q 62), .ref (q 63), .ref (q 64), .ref (q 65), .ref (q 66)])), (q 61, .inl (cI, 90, .inl (fun j => nI (sa j)))), (q 62, .inl (cI, 900, .inl gt)), (q 63, .inl (cI, 90, .inl ga)), (q 64, .inl (cI, 90, .inl go)), (q 5, .inr (2, [.ref (q 44), .ref (q 45), .ref (q 46), .ref (q 47), .ref (q 48), .int (nI dh), .int (nI mh), .int uh, .int rh, .int (nI nh)])), (q 47, .inl (cI, 3, .inl yf)), (q 48, .inl (cI, 3, .inl yt)), (q 44, .inr (0, [.ref (q 49), .ref (q 50), .ref (q 51), .ref (q 52), .int (nI ch), .int (nI wh)])), (q 49, .inl (cI, 1600, .inl y1)), (q 50, .inl (cJ, 64, .inr (.inl g2_9))), (q 51, .inl (cJ, 9, .inr (.inl g3_8))), (q 52, .inl (cJ, 10, .inr (.inl y4)))]) ⟨hx, hb, hml, hown, hts⟩ hl.1 (c_floorMod l D cI cJ cC cZ cS r_10) w_4_7 w_4_8 w_1_3 w_4_9 (by decide +kernel) ⟨⟨(Nat.le_of_ble_eq_true rfl), (Nat.le_of_ble_eq_true rfl)⟩, (Nat.le_of_ble_eq_true rfl), (Nat.le_of_ble_eq_true rfl)⟩ hK hP hD hS hA [] [0, 1, 2, 3, 4, 5, 6, 7, 8, 9, 10, 11, 12] rfl rfl (by decide +kernel) (by decide +kernel) (by decide +kernel) rfl rfl (Nat.le_of_ble_eq_true rfl) dX9_fillDeeds_82 (fun r_12 u H locs hw hP hD hS => ?_)
        obtain ⟨v_11, hv_13, rfl, rfl⟩ := hw
        have hP : va_P D vwCl [(q 10, .inr (9, [.ref (q 61), .ref (q 62), .ref (q 63), .ref (q 64), .ref (q 65), .ref (q 66)])), (q 61, .inl (cI, 90, .inl (fun j => nI (sa j)))), (q 62, .inl (cI, 900, .inl gt)), (q 63, .inl (cI, 90, .inl ga)), (q 64, .inl (cI, 90, .inl go)), (q 5, .inr (2, [.ref (q 44), .ref (q 45), .ref (q 46), .ref (q 47), .ref (q 48), .int (nI dh), .int (nI mh), .int uh, .int rh, .int (nI nh)])), (q 47, .inl (cI, 3, .inl yf)), (q 48, .inl (cI, 3, .inl yt)), (q 44, .inr (0, [.ref (q 49), .ref (q 50), .ref (q 51), .ref (q 52), .int (nI ch), .int (nI wh)])), (q 49, .inl (cI, 1600, .inl y1)), (q 50, .inl (cJ, 64, .inr (.inl g2_9))), (q 51, .inl (cJ, 9, .inr (.inl g3_8))), (q 52, .inl (cJ, 10, .inr (.inl y4)))] H := hP
        have hD : va_D A [(q 10, .inr (9, [.ref (q 61), .ref (q 62), .ref (q 63), .ref (q 64), .ref (q 65), .ref (q 66)])), (q 61, .inl (cI, 90, .inl (fun j => nI (sa j)))), (q 62, .inl (cI, 900, .inl gt)), (q 63, .inl (cI, 90, .inl ga)), (q 64, .inl (cI, 90, .inl go)), (q 5, .inr (2, [.ref (q 44), .ref (q 45), .ref (q 46), .ref (q 47), .ref (q 48), .int (nI dh), .int (nI mh), .int uh, .int rh, .int (nI nh)])), (q 47, .inl (cI, 3, .inl yf)), (q 48, .inl (cI, 3, .inl yt)), (q 44, .inr (0, [.ref (q 49), .ref (q 50), .ref (q 51), .ref (q 52), .int (nI ch), .int (nI wh)])), (q 49, .inl (cI, 1600, .inl y1)), (q 50, .inl (cJ, 64, .inr (.inl g2_9))), (q 51, .inl (cJ, 9, .inr (.inl g3_8))), (q 52, .inl (cJ, 10, .inr (.inl y4)))] := hD
        refine sk_iastO (ws' := fun f_14 => [(q 10, .inr (9, [.ref (q 61), .ref (q 62), .ref (q 63), .ref (q 64), .ref (q 65), .ref (q 66)])), (q 61, .inl (cI, 90, .inl (fun j => nI (sa j)))), (q 62, .inl (cI, 900, .inl gt)), (q 63, .inl (cI, 90, .inl f_14)), (q 64, .inl (cI, 90, .inl go)), (q 5, .inr (2, [.ref (q 44), .ref (q 45), .ref (q 46), .ref (q 47), .ref (q 48), .int (nI dh), .int (nI mh), .int uh, .int rh, .int (nI nh)])), (q 47, .inl (cI, 3, .inl yf)), (q 48, .inl (cI, 3, .inl yt)), (q 44, .inr (0, [.ref (q 49), .ref (q 50), .ref (q 51), .ref (q 52), .int (nI ch), .int (nI wh)])), (q 49, .inl (cI, 1600, .inl y1)), (q 50, .inl (cJ, 64, .inr (.inl g2_9))), (q 51, .inl (cJ, 9, .inr (.inl g3_8))), (q 52, .inl (cJ, 10, .inr (.inl y4)))]) hx hb hK hP hD hS 3 0 rfl rfl (vin (d * 10 + i) 90 (by omega) (by omega)) (fun _ => rfl) dX9_fillDeeds_85 (fun f_14 H locs hP hD hS => ?_)
        refine lv_aload_n hx hb dX9_fillDeeds_86 rfl (lv_at hl 4 rfl) ?_
        refine lv_sipush (v := 10006) hx hb dX9_fillDeeds_87 (by decide) ?_
        refine lv_lconst (v := 0) hx hb dX9_fillDeeds_90 (by decide) ?_
        refine sk_Vv (q0 := 0) (n := 2) (rest := []) (wr := [(q 10, .inr (9, [.ref (q 61), .ref (q 62), .ref (q 63), .ref (q 64), .ref (q 65), .ref (q 66)])), (q 61, .inl (cI, 90, .inl (fun j => nI (sa j)))), (q 62, .inl (cI, 900, .inl gt)), (q 63, .inl (cI, 90, .inl f_14)), (q 64, .inl (cI, 90, .inl go)), (q 5, .inr (2, [.ref (q 44), .ref (q 45), .ref (q 46), .ref (q 47), .ref (q 48), .int (nI dh), .int (nI mh), .int uh, .int rh, .int (nI nh)])), (q 47, .inl (cI, 3, .inl yf)), (q 48, .inl (cI, 3, .inl yt)), (q 49, .inl (cI, 1600, .inl y1)), (q 50, .inl (cJ, 64, .inr (.inl g2_9))), (q 52, .inl (cJ, 10, .inr (.inl y4)))]) ⟨hx, hb, hml, hown, hts⟩ hl.1 (c_Code_name l D cI cJ cC cZ cS (q 44) (q 49) (q 50) (q 51) (q 52) ch wh g3_8 10006 0) w_3_212 w_3_213 w_3_214 w_1_8 w_3_215 (by decide +kernel) ⟨⟨(Nat.le_of_ble_eq_true rfl), (Nat.le_of_ble_eq_true rfl)⟩, (Nat.le_of_ble_eq_true rfl), (Nat.le_of_ble_eq_true rfl)⟩ hK hP hD hS hA [8, 11] [0, 1, 2, 3, 4, 5, 6, 7, 9, 10, 12] rfl rfl (by decide +kernel) (by decide +kernel) (by decide +kernel) rfl rfl rfl rfl (Nat.le_of_ble_eq_true rfl) dX9_fillDeeds_91 (fun u H locs hw hP hD hS => ?_)
        obtain ⟨g3_15, rfl⟩ := hw
        have hP : va_P D vwCl [(q 10, .inr (9, [.ref (q 61), .ref (q 62), .ref (q 63), .ref (q 64), .ref (q 65), .ref (q 66)])), (q 61, .inl (cI, 90, .inl (fun j => nI (sa j)))), (q 62, .inl (cI, 900, .inl gt)), (q 63, .inl (cI, 90, .inl f_14)), (q 64, .inl (cI, 90, .inl go)), (q 5, .inr (2, [.ref (q 44), .ref (q 45), .ref (q 46), .ref (q 47), .ref (q 48), .int (nI dh), .int (nI mh), .int uh, .int rh, .int (nI nh)])), (q 47, .inl (cI, 3, .inl yf)), (q 48, .inl (cI, 3, .inl yt)), (q 49, .inl (cI, 1600, .inl y1)), (q 50, .inl (cJ, 64, .inr (.inl g2_9))), (q 52, .inl (cJ, 10, .inr (.inl y4))), (q 44, .inr (0, [.ref (q 49), .ref (q 50), .ref (q 51), .ref (q 52), .int (nI ch), .int (nI wh)])), (q 51, .inl (cJ, 9, .inr (.inl g3_15)))] H := hP
        have hD : va_D A [(q 10, .inr (9, [.ref (q 61), .ref (q 62), .ref (q 63), .ref (q 64), .ref (q 65), .ref (q 66)])), (q 61, .inl (cI, 90, .inl (fun j => nI (sa j)))), (q 62, .inl (cI, 900, .inl gt)), (q 63, .inl (cI, 90, .inl f_14)), (q 64, .inl (cI, 90, .inl go)), (q 5, .inr (2, [.ref (q 44), .ref (q 45), .ref (q 46), .ref (q 47), .ref (q 48), .int (nI dh), .int (nI mh), .int uh, .int rh, .int (nI nh)])), (q 47, .inl (cI, 3, .inl yf)), (q 48, .inl (cI, 3, .inl yt)), (q 49, .inl (cI, 1600, .inl y1)), (q 50, .inl (cJ, 64, .inr (.inl g2_9))), (q 52, .inl (cJ, 10, .inr (.inl y4))), (q 44, .inr (0, [.ref (q 49), .ref (q 50), .ref (q 51), .ref (q 52), .int (nI ch), .int (nI wh)])), (q 51, .inl (cJ, 9, .inr (.inl g3_15)))] := hD
        refine lv_iconst (v := 0) hx hb dX9_fillDeeds_94 (by decide) ?_
        refine lv_istore (lv' := [(8, .int 0), (7, .int (nI (d * 10 + i))), (6, .int (nI i)), (5, .int v_2), (4, .int v_1), (3, .ref (q 44)), (0, .ref (q 10)), (1, .ref (q 5)), (2, .int (nI d))]) hx hb dX9_fillDeeds_95 hl (by decide) rfl (fun ls hl => ?_)
        have lp_16 : ∀ (n_17 : Nat) (jj : Nat) (gt2 : Nat → Int32) (v2 : Nat → Int64) (v3 : Nat → Int64) (H : Heap) (locs : List Loc) (ls : Array Slot), 10 - jj < n_17 → (jj ≤ 10) → va_P D vwCl [(q 10, .inr (9, [.ref (q 61), .ref (q 62), .ref (q 63), .ref (q 64), .ref (q 65), .ref (q 66)])), (q 61, .inl (cI, 90, .inl (fun j => nI (sa j)))), (q 62, .inl (cI, 900, .inl gt2)), (q 63, .inl (cI, 90, .inl f_14)), (q 64, .inl (cI, 90, .inl go)), (q 5, .inr (2, [.ref (q 44), .ref (q 45), .ref (q 46), .ref (q 47), .ref (q 48), .int (nI dh), .int (nI mh), .int uh, .int rh, .int (nI nh)])), (q 47, .inl (cI, 3, .inl yf)), (q 48, .inl (cI, 3, .inl yt)), (q 49, .inl (cI, 1600, .inl y1)), (q 50, .inl (cJ, 64, .inr (.inl v2))), (q 52, .inl (cJ, 10, .inr (.inl y4))), (q 44, .inr (0, [.ref (q 49), .ref (q 50), .ref (q 51), .ref (q 52), .int (nI ch), .int (nI wh)])), (q 51, .inl (cJ, 9, .inr (.inl v3)))] H → va_D A [(q 10, .inr (9, [.ref (q 61), .ref (q 62), .ref (q 63), .ref (q 64), .ref (q 65), .ref (q 66)])), (q 61, .inl (cI, 90, .inl (fun j => nI (sa j)))), (q 62, .inl (cI, 900, .inl gt2)), (q 63, .inl (cI, 90, .inl f_14)), (q 64, .inl (cI, 90, .inl go)), (q 5, .inr (2, [.ref (q 44), .ref (q 45), .ref (q 46), .ref (q 47), .ref (q 48), .int (nI dh), .int (nI mh), .int uh, .int rh, .int (nI nh)])), (q 47, .inl (cI, 3, .inl yf)), (q 48, .inl (cI, 3, .inl yt)), (q 49, .inl (cI, 1600, .inl y1)), (q 50, .inl (cJ, 64, .inr (.inl v2))), (q 52, .inl (cJ, 10, .inr (.inl y4))), (q 44, .inr (0, [.ref (q 49), .ref (q 50), .ref (q 51), .ref (q 52), .int (nI ch), .int (nI wh)])), (q 51, .inl (cJ, 9, .inr (.inl v3)))] → va_S A s.heap H locs → lv_has ls 9 [(8, .int (nI jj)), (7, .int (nI (d * 10 + i))), (6, .int (nI i)), (5, .int v_2), (4, .int v_1), (3, .ref (q 44)), (0, .ref (q 10)), (1, .ref (q 5)), (2, .int (nI d))] → W p l e { frames := 3, cells := 0, slots := 0, locals := 75 } s m ([.ref (q 10), .ref (q 5), .int (nI d)] : List Value).toArray below meth c H locs 0 0 (MQ below (skV D (skT cI cJ cC cZ cS) (fun (u : va_W) => ∃ (ft2 : Nat → Int32), ∃ (fa2 : Nat → Int32), ∃ (fo2 : Nat → Int32), ∃ (z2 : Nat → Int64), ∃ (z3 : Nat → Int64), u = [(q 10, .inr (9, [.ref (q 61), .ref (q 62), .ref (q 63), .ref (q 64), .ref (q 65), .ref (q 66)])), (q 61, .inl (cI, 90, .inl (fun j => nI (sa j)))), (q 62, .inl (cI, 900, .inl ft2)), (q 63, .inl (cI, 90, .inl fa2)), (q 64, .inl (cI, 90, .inl fo2)), (q 5, .inr (2, [.ref (q 44), .ref (q 45), .ref (q 46), .ref (q 47), .ref (q 48), .int (nI dh), .int (nI mh), .int uh, .int rh, .int (nI nh)])), (q 44, .inr (0, [.ref (q 49), .ref (q 50), .ref (q 51), .ref (q 52), .int (nI ch), .int (nI wh)])), (q 49, .inl (cI, 1600, .inl y1)), (q 50, .inl (cJ, 64, .inr (.inl z2))), (q 51, .inl (cJ, 9, .inr (.inl z3))), (q 52, .inl (cJ, 10, .inr (.inl y4))), (q 47, .inl (cI, 3, .inl yf)), (q 48, .inl (cI, 3, .inl yt))]) A) ([.ref (q 10), .ref (q 5), .int (nI d)] : List Value).toArray s 0 0 A) (F0 m 97 ls []) := by
          intro n_17
          induction n_17 with
          | zero => intro jj gt2 v2 v3 H locs ls hm; exact absurd hm (Nat.not_lt_zero _)
          | succ n_17 ih_lp_16 =>
            intro jj gt2 v2 v3 H locs ls hm hjj hP hD hS hl
            refine lv_iload hx hb dX9_fillDeeds_97 (lv_at hl 0 rfl) ?_
            refine lv_bipush (v := 10) hx hb dX9_fillDeeds_99 (by decide) ?_
            refine lv_icmp_ge (tgt := 146) hx hb dX9_fillDeeds_101 (by decide) (fun c_18 => ?_) (fun c_18 => ?_)
            · have c_18 : 10 ≤ jj := (nle 10 jj (by omega) (by omega)).mp c_18
              refine lv_aload_n hx hb dX9_fillDeeds_146 rfl (lv_at hl 6 rfl) ?_
              refine sk_get (v := .ref (q 64)) (C := RX9) (T := TX9) (N := 6) hx hb hts inlX9 hown hK hP 0 rfl rfl 3 (by decide) w_2_70 rfl dX9_fillDeeds_147 ?_
              refine lv_iload hx hb dX9_fillDeeds_150 (lv_at hl 1 rfl) ?_
              refine lv_aload_n hx hb dX9_fillDeeds_152 rfl (lv_at hl 6 rfl) ?_
              refine lv_iload_n hx hb dX9_fillDeeds_153 rfl (lv_at hl 8 rfl) ?_
              refine lv_iload hx hb dX9_fillDeeds_154 (lv_at hl 2 rfl) ?_
              refine lv_iconst (v := 0) hx hb dX9_fillDeeds_156 (by decide) ?_
              refine sk_Vi (q0 := 0) (n := 3) (rest := [.int (nI (d * 10 + i)), .ref (q 64)]) (wr := [(q 63, .inl (cI, 90, .inl f_14)), (q 64, .inl (cI, 90, .inl go)), (q 5, .inr (2, [.ref (q 44), .ref (q 45), .ref (q 46), .ref (q 47), .ref (q 48), .int (nI dh), .int (nI mh), .int uh, .int rh, .int (nI nh)])), (q 47, .inl (cI, 3, .inl yf)), (q 48, .inl (cI, 3, .inl yt)), (q 49, .inl (cI, 1600, .inl y1)), (q 50, .inl (cJ, 64, .inr (.inl v2))), (q 52, .inl (cJ, 10, .inr (.inl y4))), (q 44, .inr (0, [.ref (q 49), .ref (q 50), .ref (q 51), .ref (q 52), .int (nI ch), .int (nI wh)])), (q 51, .inl (cJ, 9, .inr (.inl v3)))]) ⟨hx, hb, hml, hown, hts⟩ hl.1 (c_moodsBehind l D cI cJ cC cZ cS q sa gt2 d i 0 hsa (by omega) (by omega) (by omega)) w_4_17 w_4_18 w_4_19 w_1_12 w_4_20 (by decide +kernel) ⟨⟨(Nat.le_of_ble_eq_true rfl), (Nat.le_of_ble_eq_true rfl)⟩, (Nat.le_of_ble_eq_true rfl), (Nat.le_of_ble_eq_true rfl)⟩ hK hP hD hS hA [0, 1, 2] [3, 4, 5, 6, 7, 8, 9, 10, 11, 12] rfl rfl (by decide +kernel) (by decide +kernel) (by decide +kernel) rfl rfl rfl rfl (Nat.le_of_ble_eq_true rfl) dX9_fillDeeds_157 (fun r_19 u H locs hw hP hD hS => ?_)
              obtain rfl := hw
              have hP : va_P D vwCl [(q 63, .inl (cI, 90, .inl f_14)), (q 64, .inl (cI, 90, .inl go)), (q 5, .inr (2, [.ref (q 44), .ref (q 45), .ref (q 46), .ref (q 47), .ref (q 48), .int (nI dh), .int (nI mh), .int uh, .int rh, .int (nI nh)])), (q 47, .inl (cI, 3, .inl yf)), (q 48, .inl (cI, 3, .inl yt)), (q 49, .inl (cI, 1600, .inl y1)), (q 50, .inl (cJ, 64, .inr (.inl v2))), (q 52, .inl (cJ, 10, .inr (.inl y4))), (q 44, .inr (0, [.ref (q 49), .ref (q 50), .ref (q 51), .ref (q 52), .int (nI ch), .int (nI wh)])), (q 51, .inl (cJ, 9, .inr (.inl v3))), (q 10, .inr (9, [.ref (q 61), .ref (q 62), .ref (q 63), .ref (q 64), .ref (q 65), .ref (q 66)])), (q 61, .inl (cI, 90, .inl (fun j => nI (sa j)))), (q 62, .inl (cI, 900, .inl gt2))] H := hP
              have hD : va_D A [(q 63, .inl (cI, 90, .inl f_14)), (q 64, .inl (cI, 90, .inl go)), (q 5, .inr (2, [.ref (q 44), .ref (q 45), .ref (q 46), .ref (q 47), .ref (q 48), .int (nI dh), .int (nI mh), .int uh, .int rh, .int (nI nh)])), (q 47, .inl (cI, 3, .inl yf)), (q 48, .inl (cI, 3, .inl yt)), (q 49, .inl (cI, 1600, .inl y1)), (q 50, .inl (cJ, 64, .inr (.inl v2))), (q 52, .inl (cJ, 10, .inr (.inl y4))), (q 44, .inr (0, [.ref (q 49), .ref (q 50), .ref (q 51), .ref (q 52), .int (nI ch), .int (nI wh)])), (q 51, .inl (cJ, 9, .inr (.inl v3))), (q 10, .inr (9, [.ref (q 61), .ref (q 62), .ref (q 63), .ref (q 64), .ref (q 65), .ref (q 66)])), (q 61, .inl (cI, 90, .inl (fun j => nI (sa j)))), (q 62, .inl (cI, 900, .inl gt2))] := hD
              refine sk_iastO (ws' := fun f_20 => [(q 63, .inl (cI, 90, .inl f_14)), (q 64, .inl (cI, 90, .inl f_20)), (q 5, .inr (2, [.ref (q 44), .ref (q 45), .ref (q 46), .ref (q 47), .ref (q 48), .int (nI dh), .int (nI mh), .int uh, .int rh, .int (nI nh)])), (q 47, .inl (cI, 3, .inl yf)), (q 48, .inl (cI, 3, .inl yt)), (q 49, .inl (cI, 1600, .inl y1)), (q 50, .inl (cJ, 64, .inr (.inl v2))), (q 52, .inl (cJ, 10, .inr (.inl y4))), (q 44, .inr (0, [.ref (q 49), .ref (q 50), .ref (q 51), .ref (q 52), .int (nI ch), .int (nI wh)])), (q 51, .inl (cJ, 9, .inr (.inl v3))), (q 10, .inr (9, [.ref (q 61), .ref (q 62), .ref (q 63), .ref (q 64), .ref (q 65), .ref (q 66)])), (q 61, .inl (cI, 90, .inl (fun j => nI (sa j)))), (q 62, .inl (cI, 900, .inl gt2))]) hx hb hK hP hD hS 1 0 rfl rfl (vin (d * 10 + i) 90 (by omega) (by omega)) (fun _ => rfl) dX9_fillDeeds_160 (fun f_20 H locs hP hD hS => ?_)
              refine lv_iinc (v := nI (i + 1)) (lv' := [(6, .int (nI (i + 1))), (8, .int (nI jj)), (7, .int (nI (d * 10 + i))), (5, .int v_2), (4, .int v_1), (3, .ref (q 44)), (0, .ref (q 10)), (1, .ref (q 5)), (2, .int (nI d))]) hx hb dX9_fillDeeds_161 hl (k := 2) rfl (ninc i 1 (by decide)) (by decide) rfl (fun ls hl => ?_)
              refine lv_goto (tgt := 24) hx hb dX9_fillDeeds_164 (by decide) ?_
              have hP := hP.sub (ws' := [(q 10, .inr (9, [.ref (q 61), .ref (q 62), .ref (q 63), .ref (q 64), .ref (q 65), .ref (q 66)])), (q 61, .inl (cI, 90, .inl (fun j => nI (sa j)))), (q 62, .inl (cI, 900, .inl gt2)), (q 63, .inl (cI, 90, .inl f_14)), (q 64, .inl (cI, 90, .inl f_20)), (q 5, .inr (2, [.ref (q 44), .ref (q 45), .ref (q 46), .ref (q 47), .ref (q 48), .int (nI dh), .int (nI mh), .int uh, .int rh, .int (nI nh)])), (q 44, .inr (0, [.ref (q 49), .ref (q 50), .ref (q 51), .ref (q 52), .int (nI ch), .int (nI wh)])), (q 49, .inl (cI, 1600, .inl y1)), (q 50, .inl (cJ, 64, .inr (.inl v2))), (q 51, .inl (cJ, 9, .inr (.inl v3))), (q 52, .inl (cJ, 10, .inr (.inl y4))), (q 47, .inl (cI, 3, .inl yf)), (q 48, .inl (cI, 3, .inl yt))]) [10, 11, 12, 0, 1, 2, 8, 5, 6, 9, 7, 3, 4] rfl
              have hD := hD.sub (ws' := [(q 10, .inr (9, [.ref (q 61), .ref (q 62), .ref (q 63), .ref (q 64), .ref (q 65), .ref (q 66)])), (q 61, .inl (cI, 90, .inl (fun j => nI (sa j)))), (q 62, .inl (cI, 900, .inl gt2)), (q 63, .inl (cI, 90, .inl f_14)), (q 64, .inl (cI, 90, .inl f_20)), (q 5, .inr (2, [.ref (q 44), .ref (q 45), .ref (q 46), .ref (q 47), .ref (q 48), .int (nI dh), .int (nI mh), .int uh, .int rh, .int (nI nh)])), (q 44, .inr (0, [.ref (q 49), .ref (q 50), .ref (q 51), .ref (q 52), .int (nI ch), .int (nI wh)])), (q 49, .inl (cI, 1600, .inl y1)), (q 50, .inl (cJ, 64, .inr (.inl v2))), (q 51, .inl (cJ, 9, .inr (.inl v3))), (q 52, .inl (cJ, 10, .inr (.inl y4))), (q 47, .inl (cI, 3, .inl yf)), (q 48, .inl (cI, 3, .inl yt))]) [10, 11, 12, 0, 1, 2, 8, 5, 6, 9, 7, 3, 4] (by decide +kernel) rfl
              exact ih_lp_3 (i + 1) gt2 f_14 f_20 v2 v3 _ _ _ (by omega) (by omega) hP hD hS (lv_sub hl [0, 3, 4, 5, 6, 7, 8] rfl)
            · have c_18 : ¬ (10 ≤ jj) := fun h => c_18 ((nle 10 jj (by omega) (by omega)).mpr h)
              refine lv_aload_n hx hb dX9_fillDeeds_104 rfl (lv_at hl 5 rfl) ?_
              refine lv_sipush (v := 10005) hx hb dX9_fillDeeds_105 (by decide) ?_
              refine lv_iload hx hb dX9_fillDeeds_108 (lv_at hl 0 rfl) ?_
              refine lv_i2l hx hb dX9_fillDeeds_110 rfl ?_
              refine sk_Vv (q0 := 0) (n := 2) (rest := []) (wr := [(q 10, .inr (9, [.ref (q 61), .ref (q 62), .ref (q 63), .ref (q 64), .ref (q 65), .ref (q 66)])), (q 61, .inl (cI, 90, .inl (fun j => nI (sa j)))), (q 62, .inl (cI, 900, .inl gt2)), (q 63, .inl (cI, 90, .inl f_14)), (q 64, .inl (cI, 90, .inl go)), (q 5, .inr (2, [.ref (q 44), .ref (q 45), .ref (q 46), .ref (q 47), .ref (q 48), .int (nI dh), .int (nI mh), .int uh, .int rh, .int (nI nh)])), (q 47, .inl (cI, 3, .inl yf)), (q 48, .inl (cI, 3, .inl yt)), (q 49, .inl (cI, 1600, .inl y1)), (q 50, .inl (cJ, 64, .inr (.inl v2))), (q 52, .inl (cJ, 10, .inr (.inl y4)))]) ⟨hx, hb, hml, hown, hts⟩ hl.1 (c_Code_name l D cI cJ cC cZ cS (q 44) (q 49) (q 50) (q 51) (q 52) ch wh v3 10005 (Int32.toInt64 (nI jj))) w_3_212 w_3_213 w_3_214 w_1_8 w_3_215 (by decide +kernel) ⟨⟨(Nat.le_of_ble_eq_true rfl), (Nat.le_of_ble_eq_true rfl)⟩, (Nat.le_of_ble_eq_true rfl), (Nat.le_of_ble_eq_true rfl)⟩ hK hP hD hS hA [11, 12] [0, 1, 2, 3, 4, 5, 6, 7, 8, 9, 10] rfl rfl (by decide +kernel) (by decide +kernel) (by decide +kernel) rfl rfl rfl rfl (Nat.le_of_ble_eq_true rfl) dX9_fillDeeds_111 (fun u H locs hw hP hD hS => ?_)
              obtain ⟨g3_21, rfl⟩ := hw
              have hP : va_P D vwCl [(q 10, .inr (9, [.ref (q 61), .ref (q 62), .ref (q 63), .ref (q 64), .ref (q 65), .ref (q 66)])), (q 61, .inl (cI, 90, .inl (fun j => nI (sa j)))), (q 62, .inl (cI, 900, .inl gt2)), (q 63, .inl (cI, 90, .inl f_14)), (q 64, .inl (cI, 90, .inl go)), (q 5, .inr (2, [.ref (q 44), .ref (q 45), .ref (q 46), .ref (q 47), .ref (q 48), .int (nI dh), .int (nI mh), .int uh, .int rh, .int (nI nh)])), (q 47, .inl (cI, 3, .inl yf)), (q 48, .inl (cI, 3, .inl yt)), (q 49, .inl (cI, 1600, .inl y1)), (q 50, .inl (cJ, 64, .inr (.inl v2))), (q 52, .inl (cJ, 10, .inr (.inl y4))), (q 44, .inr (0, [.ref (q 49), .ref (q 50), .ref (q 51), .ref (q 52), .int (nI ch), .int (nI wh)])), (q 51, .inl (cJ, 9, .inr (.inl g3_21)))] H := hP
              have hD : va_D A [(q 10, .inr (9, [.ref (q 61), .ref (q 62), .ref (q 63), .ref (q 64), .ref (q 65), .ref (q 66)])), (q 61, .inl (cI, 90, .inl (fun j => nI (sa j)))), (q 62, .inl (cI, 900, .inl gt2)), (q 63, .inl (cI, 90, .inl f_14)), (q 64, .inl (cI, 90, .inl go)), (q 5, .inr (2, [.ref (q 44), .ref (q 45), .ref (q 46), .ref (q 47), .ref (q 48), .int (nI dh), .int (nI mh), .int uh, .int rh, .int (nI nh)])), (q 47, .inl (cI, 3, .inl yf)), (q 48, .inl (cI, 3, .inl yt)), (q 49, .inl (cI, 1600, .inl y1)), (q 50, .inl (cJ, 64, .inr (.inl v2))), (q 52, .inl (cJ, 10, .inr (.inl y4))), (q 44, .inr (0, [.ref (q 49), .ref (q 50), .ref (q 51), .ref (q 52), .int (nI ch), .int (nI wh)])), (q 51, .inl (cJ, 9, .inr (.inl g3_21)))] := hD
              refine lv_aload_n hx hb dX9_fillDeeds_114 rfl (lv_at hl 6 rfl) ?_
              refine sk_get (v := .ref (q 62)) (C := RX9) (T := TX9) (N := 6) hx hb hts inlX9 hown hK hP 0 rfl rfl 1 (by decide) w_2_65 rfl dX9_fillDeeds_115 ?_
              refine lv_iload hx hb dX9_fillDeeds_118 (lv_at hl 1 rfl) ?_
              refine lv_bipush (v := 10) hx hb dX9_fillDeeds_120 (by decide) ?_
              refine lv_imul hx hb dX9_fillDeeds_122 ?_
              refine sk_top (nI ((d * 10 + i) * 10)) (nmul (d * 10 + i) 10) ?_
              refine lv_iload hx hb dX9_fillDeeds_123 (lv_at hl 0 rfl) ?_
              refine lv_iadd hx hb dX9_fillDeeds_125 ?_
              refine sk_top (nI ((d * 10 + i) * 10 + jj)) (nI_add ((d * 10 + i) * 10) jj) ?_
              refine lv_aload_n hx hb dX9_fillDeeds_126 rfl (lv_at hl 5 rfl) ?_
              refine lv_iload hx hb dX9_fillDeeds_127 (lv_at hl 4 rfl) ?_
              refine lv_iload hx hb dX9_fillDeeds_129 (lv_at hl 3 rfl) ?_
              refine sk_Vl (q0 := 0) (n := 2) (rest := [.int (nI ((d * 10 + i) * 10 + jj)), .ref (q 62)]) (wr := [(q 10, .inr (9, [.ref (q 61), .ref (q 62), .ref (q 63), .ref (q 64), .ref (q 65), .ref (q 66)])), (q 61, .inl (cI, 90, .inl (fun j => nI (sa j)))), (q 62, .inl (cI, 900, .inl gt2)), (q 63, .inl (cI, 90, .inl f_14)), (q 64, .inl (cI, 90, .inl go)), (q 5, .inr (2, [.ref (q 44), .ref (q 45), .ref (q 46), .ref (q 47), .ref (q 48), .int (nI dh), .int (nI mh), .int uh, .int rh, .int (nI nh)])), (q 47, .inl (cI, 3, .inl yf)), (q 48, .inl (cI, 3, .inl yt))]) ⟨hx, hb, hml, hown, hts⟩ hl.1 (c_Code_run l D cI cJ cC cZ cS (q 44) (q 49) (q 50) (q 51) (q 52) ch wh y1 v2 g3_21 y4 v_1 v_2 (by omega) (by omega)) w_3_220 w_3_221 w_3_222 w_1_8 w_3_223 (by decide +kernel) ⟨⟨(Nat.le_of_ble_eq_true rfl), (Nat.le_of_ble_eq_true rfl)⟩, (Nat.le_of_ble_eq_true rfl), (Nat.le_of_ble_eq_true rfl)⟩ hK hP hD hS hA [11, 8, 9, 12, 10] [0, 1, 2, 3, 4, 5, 6, 7] rfl rfl (by decide +kernel) (by decide +kernel) (by decide +kernel) rfl rfl rfl rfl (Nat.le_of_ble_eq_true rfl) dX9_fillDeeds_131 (fun r_23 u H locs hw hP hD hS => ?_)
              obtain ⟨g2_22, rfl⟩ := hw
              have hP : va_P D vwCl [(q 10, .inr (9, [.ref (q 61), .ref (q 62), .ref (q 63), .ref (q 64), .ref (q 65), .ref (q 66)])), (q 61, .inl (cI, 90, .inl (fun j => nI (sa j)))), (q 62, .inl (cI, 900, .inl gt2)), (q 63, .inl (cI, 90, .inl f_14)), (q 64, .inl (cI, 90, .inl go)), (q 5, .inr (2, [.ref (q 44), .ref (q 45), .ref (q 46), .ref (q 47), .ref (q 48), .int (nI dh), .int (nI mh), .int uh, .int rh, .int (nI nh)])), (q 47, .inl (cI, 3, .inl yf)), (q 48, .inl (cI, 3, .inl yt)), (q 44, .inr (0, [.ref (q 49), .ref (q 50), .ref (q 51), .ref (q 52), .int (nI ch), .int (nI wh)])), (q 49, .inl (cI, 1600, .inl y1)), (q 50, .inl (cJ, 64, .inr (.inl g2_22))), (q 51, .inl (cJ, 9, .inr (.inl g3_21))), (q 52, .inl (cJ, 10, .inr (.inl y4)))] H := hP
              have hD : va_D A [(q 10, .inr (9, [.ref (q 61), .ref (q 62), .ref (q 63), .ref (q 64), .ref (q 65), .ref (q 66)])), (q 61, .inl (cI, 90, .inl (fun j => nI (sa j)))), (q 62, .inl (cI, 900, .inl gt2)), (q 63, .inl (cI, 90, .inl f_14)), (q 64, .inl (cI, 90, .inl go)), (q 5, .inr (2, [.ref (q 44), .ref (q 45), .ref (q 46), .ref (q 47), .ref (q 48), .int (nI dh), .int (nI mh), .int uh, .int rh, .int (nI nh)])), (q 47, .inl (cI, 3, .inl yf)), (q 48, .inl (cI, 3, .inl yt)), (q 44, .inr (0, [.ref (q 49), .ref (q 50), .ref (q 51), .ref (q 52), .int (nI ch), .int (nI wh)])), (q 49, .inl (cI, 1600, .inl y1)), (q 50, .inl (cJ, 64, .inr (.inl g2_22))), (q 51, .inl (cJ, 9, .inr (.inl g3_21))), (q 52, .inl (cJ, 10, .inr (.inl y4)))] := hD
              refine lv_bipush (v := 10) hx hb dX9_fillDeeds_134 (by decide) ?_
              refine sk_Si (n := 2) (rest := [.int (nI ((d * 10 + i) * 10 + jj)), .ref (q 62)]) (wr := [(q 10, .inr (9, [.ref (q 61), .ref (q 62), .ref (q 63), .ref (q 64), .ref (q 65), .ref (q 66)])), (q 61, .inl (cI, 90, .inl (fun j => nI (sa j)))), (q 62, .inl (cI, 900, .inl gt2)), (q 63, .inl (cI, 90, .inl f_14)), (q 64, .inl (cI, 90, .inl go)), (q 5, .inr (2, [.ref (q 44), .ref (q 45), .ref (q 46), .ref (q 47), .ref (q 48), .int (nI dh), .int (nI mh), .int uh, .int rh, .int (nI nh)])), (q 47, .inl (cI, 3, .inl yf)), (q 48, .inl (cI, 3, .inl yt)), (q 44, .inr (0, [.ref (q 49), .ref (q 50), .ref (q 51), .ref (q 52), .int (nI ch), .int (nI wh)])), (q 49, .inl (cI, 1600, .inl y1)), (q 50, .inl (cJ, 64, .inr (.inl g2_22))), (q 51, .inl (cJ, 9, .inr (.inl g3_21))), (q 52, .inl (cJ, 10, .inr (.inl y4)))]) ⟨hx, hb, hml, hown, hts⟩ hl.1 (c_floorMod l D cI cJ cC cZ cS r_23) w_4_7 w_4_8 w_1_3 w_4_9 (by decide +kernel) ⟨⟨(Nat.le_of_ble_eq_true rfl), (Nat.le_of_ble_eq_true rfl)⟩, (Nat.le_of_ble_eq_true rfl), (Nat.le_of_ble_eq_true rfl)⟩ hK hP hD hS hA [] [0, 1, 2, 3, 4, 5, 6, 7, 8, 9, 10, 11, 12] rfl rfl (by decide +kernel) (by decide +kernel) (by decide +kernel) rfl rfl (Nat.le_of_ble_eq_true rfl) dX9_fillDeeds_136 (fun r_25 u H locs hw hP hD hS => ?_)
              obtain ⟨v_24, hv_26, rfl, rfl⟩ := hw
              have hP : va_P D vwCl [(q 10, .inr (9, [.ref (q 61), .ref (q 62), .ref (q 63), .ref (q 64), .ref (q 65), .ref (q 66)])), (q 61, .inl (cI, 90, .inl (fun j => nI (sa j)))), (q 62, .inl (cI, 900, .inl gt2)), (q 63, .inl (cI, 90, .inl f_14)), (q 64, .inl (cI, 90, .inl go)), (q 5, .inr (2, [.ref (q 44), .ref (q 45), .ref (q 46), .ref (q 47), .ref (q 48), .int (nI dh), .int (nI mh), .int uh, .int rh, .int (nI nh)])), (q 47, .inl (cI, 3, .inl yf)), (q 48, .inl (cI, 3, .inl yt)), (q 44, .inr (0, [.ref (q 49), .ref (q 50), .ref (q 51), .ref (q 52), .int (nI ch), .int (nI wh)])), (q 49, .inl (cI, 1600, .inl y1)), (q 50, .inl (cJ, 64, .inr (.inl g2_22))), (q 51, .inl (cJ, 9, .inr (.inl g3_21))), (q 52, .inl (cJ, 10, .inr (.inl y4)))] H := hP
              have hD : va_D A [(q 10, .inr (9, [.ref (q 61), .ref (q 62), .ref (q 63), .ref (q 64), .ref (q 65), .ref (q 66)])), (q 61, .inl (cI, 90, .inl (fun j => nI (sa j)))), (q 62, .inl (cI, 900, .inl gt2)), (q 63, .inl (cI, 90, .inl f_14)), (q 64, .inl (cI, 90, .inl go)), (q 5, .inr (2, [.ref (q 44), .ref (q 45), .ref (q 46), .ref (q 47), .ref (q 48), .int (nI dh), .int (nI mh), .int uh, .int rh, .int (nI nh)])), (q 47, .inl (cI, 3, .inl yf)), (q 48, .inl (cI, 3, .inl yt)), (q 44, .inr (0, [.ref (q 49), .ref (q 50), .ref (q 51), .ref (q 52), .int (nI ch), .int (nI wh)])), (q 49, .inl (cI, 1600, .inl y1)), (q 50, .inl (cJ, 64, .inr (.inl g2_22))), (q 51, .inl (cJ, 9, .inr (.inl g3_21))), (q 52, .inl (cJ, 10, .inr (.inl y4)))] := hD
              refine sk_iastO (ws' := fun f_27 => [(q 10, .inr (9, [.ref (q 61), .ref (q 62), .ref (q 63), .ref (q 64), .ref (q 65), .ref (q 66)])), (q 61, .inl (cI, 90, .inl (fun j => nI (sa j)))), (q 62, .inl (cI, 900, .inl f_27)), (q 63, .inl (cI, 90, .inl f_14)), (q 64, .inl (cI, 90, .inl go)), (q 5, .inr (2, [.ref (q 44), .ref (q 45), .ref (q 46), .ref (q 47), .ref (q 48), .int (nI dh), .int (nI mh), .int uh, .int rh, .int (nI nh)])), (q 47, .inl (cI, 3, .inl yf)), (q 48, .inl (cI, 3, .inl yt)), (q 44, .inr (0, [.ref (q 49), .ref (q 50), .ref (q 51), .ref (q 52), .int (nI ch), .int (nI wh)])), (q 49, .inl (cI, 1600, .inl y1)), (q 50, .inl (cJ, 64, .inr (.inl g2_22))), (q 51, .inl (cJ, 9, .inr (.inl g3_21))), (q 52, .inl (cJ, 10, .inr (.inl y4)))]) hx hb hK hP hD hS 2 0 rfl rfl (vin ((d * 10 + i) * 10 + jj) 900 (by omega) (by omega)) (fun _ => rfl) dX9_fillDeeds_139 (fun f_27 H locs hP hD hS => ?_)
              refine lv_iinc (v := nI (jj + 1)) (lv' := [(8, .int (nI (jj + 1))), (7, .int (nI (d * 10 + i))), (6, .int (nI i)), (5, .int v_2), (4, .int v_1), (3, .ref (q 44)), (0, .ref (q 10)), (1, .ref (q 5)), (2, .int (nI d))]) hx hb dX9_fillDeeds_140 hl (k := 0) rfl (ninc jj 1 (by decide)) (by decide) rfl (fun ls hl => ?_)
              refine lv_goto (tgt := 97) hx hb dX9_fillDeeds_143 (by decide) ?_
              have hP := hP.sub (ws' := [(q 10, .inr (9, [.ref (q 61), .ref (q 62), .ref (q 63), .ref (q 64), .ref (q 65), .ref (q 66)])), (q 61, .inl (cI, 90, .inl (fun j => nI (sa j)))), (q 62, .inl (cI, 900, .inl f_27)), (q 63, .inl (cI, 90, .inl f_14)), (q 64, .inl (cI, 90, .inl go)), (q 5, .inr (2, [.ref (q 44), .ref (q 45), .ref (q 46), .ref (q 47), .ref (q 48), .int (nI dh), .int (nI mh), .int uh, .int rh, .int (nI nh)])), (q 47, .inl (cI, 3, .inl yf)), (q 48, .inl (cI, 3, .inl yt)), (q 49, .inl (cI, 1600, .inl y1)), (q 50, .inl (cJ, 64, .inr (.inl g2_22))), (q 52, .inl (cJ, 10, .inr (.inl y4))), (q 44, .inr (0, [.ref (q 49), .ref (q 50), .ref (q 51), .ref (q 52), .int (nI ch), .int (nI wh)])), (q 51, .inl (cJ, 9, .inr (.inl g3_21)))]) [0, 1, 2, 3, 4, 5, 6, 7, 9, 10, 12, 8, 11] rfl
              have hD := hD.sub (ws' := [(q 10, .inr (9, [.ref (q 61), .ref (q 62), .ref (q 63), .ref (q 64), .ref (q 65), .ref (q 66)])), (q 61, .inl (cI, 90, .inl (fun j => nI (sa j)))), (q 62, .inl (cI, 900, .inl f_27)), (q 63, .inl (cI, 90, .inl f_14)), (q 64, .inl (cI, 90, .inl go)), (q 5, .inr (2, [.ref (q 44), .ref (q 45), .ref (q 46), .ref (q 47), .ref (q 48), .int (nI dh), .int (nI mh), .int uh, .int rh, .int (nI nh)])), (q 47, .inl (cI, 3, .inl yf)), (q 48, .inl (cI, 3, .inl yt)), (q 49, .inl (cI, 1600, .inl y1)), (q 50, .inl (cJ, 64, .inr (.inl g2_22))), (q 52, .inl (cJ, 10, .inr (.inl y4))), (q 44, .inr (0, [.ref (q 49), .ref (q 50), .ref (q 51), .ref (q 52), .int (nI ch), .int (nI wh)])), (q 51, .inl (cJ, 9, .inr (.inl g3_21)))]) [0, 1, 2, 3, 4, 5, 6, 7, 9, 10, 12, 8, 11] (by decide +kernel) rfl
              exact ih_lp_16 (jj + 1) f_27 g2_22 g3_21 _ _ _ (by omega) (by omega) hP hD hS (lv_sub hl [0, 1, 2, 3, 4, 5, 6, 7, 8] rfl)
        exact lp_16 (10 - 0 + 1) 0 gt g2_9 g3_15 _ _ _ (Nat.lt_succ_self _) (by omega) hP hD hS (lv_sub hl [0, 1, 2, 3, 4, 5, 6, 7, 8] rfl)
  exact lp_3 (10 - 0 + 1) 0 ft fa fo y2 y3 _ _ _ (Nat.lt_succ_self _) (by omega) hP hD hS (lv_sub hl [0, 1, 2, 3, 4, 5, 6] rfl)
theorem dX9_fit_18 : decode cX9_fit 18 = .ok (.istore_n 3, 1) := by decide +kernel
theorem dX9_fit_19 : decode cX9_fit 19 = .ok (.iconst 0, 1) := by decide +kernel
theorem dX9_fit_20 : decode cX9_fit 20 = .ok (.istore 4, 2) := by decide +kernel
theorem dX9_fit_22 : decode cX9_fit 22 = .ok (.iload 4, 2) := by decide +kernel
theorem dX9_fit_24 : decode cX9_fit 24 = .ok (.aload_n 2, 1) := by decide +kernel
theorem dX9_fit_25 : decode cX9_fit 25 = .ok (.getfield 55, 3) := by decide +kernel
theorem dX9_fit_28 : decode cX9_fit 28 = .ok (.if_icmp .ge 86, 3) := by decide +kernel
theorem dX9_fit_114 : decode cX9_fit 114 = .ok (.return_, 1) := by decide +kernel
theorem dX9_fit_31 : decode cX9_fit 31 = .ok (.iload 4, 2) := by decide +kernel
theorem dX9_fit_33 : decode cX9_fit 33 = .ok (.bipush 9, 2) := by decide +kernel
theorem dX9_fit_35 : decode cX9_fit 35 = .ok (.if_icmp .ge 79, 3) := by decide +kernel
theorem dX9_fit_38 : decode cX9_fit 38 = .ok (.iload_n 3, 1) := by decide +kernel
theorem dX9_fit_39 : decode cX9_fit 39 = .ok (.bipush 10, 2) := by decide +kernel
theorem dX9_fit_41 : decode cX9_fit 41 = .ok (.imul, 1) := by decide +kernel
theorem dX9_fit_42 : decode cX9_fit 42 = .ok (.aload_n 2, 1) := by decide +kernel
theorem dX9_fit_43 : decode cX9_fit 43 = .ok (.getfield 58, 3) := by decide +kernel
theorem dX9_fit_46 : decode cX9_fit 46 = .ok (.iload 4, 2) := by decide +kernel
theorem dX9_fit_48 : decode cX9_fit 48 = .ok (.iaload, 1) := by decide +kernel
theorem dX9_fit_49 : decode cX9_fit 49 = .ok (.iadd, 1) := by decide +kernel
theorem dX9_fit_50 : decode cX9_fit 50 = .ok (.bipush 10, 2) := by decide +kernel
theorem dX9_fit_52 : decode cX9_fit 52 = .ok (.imul, 1) := by decide +kernel
theorem dX9_fit_53 : decode cX9_fit 53 = .ok (.aload_n 2, 1) := by decide +kernel
theorem dX9_fit_54 : decode cX9_fit 54 = .ok (.getfield 61, 3) := by decide +kernel
theorem dX9_fit_57 : decode cX9_fit 57 = .ok (.iload 4, 2) := by decide +kernel
theorem dX9_fit_59 : decode cX9_fit 59 = .ok (.iaload, 1) := by decide +kernel
theorem dX9_fit_60 : decode cX9_fit 60 = .ok (.iadd, 1) := by decide +kernel
theorem dX9_fit_61 : decode cX9_fit 61 = .ok (.istore 5, 2) := by decide +kernel
theorem dX9_fit_63 : decode cX9_fit 63 = .ok (.aload_n 0, 1) := by decide +kernel
theorem dX9_fit_64 : decode cX9_fit 64 = .ok (.getfield 28, 3) := by decide +kernel
theorem dX9_fit_67 : decode cX9_fit 67 = .ok (.iload 4, 2) := by decide +kernel
theorem dX9_fit_69 : decode cX9_fit 69 = .ok (.iaload, 1) := by decide +kernel
theorem dX9_fit_70 : decode cX9_fit 70 = .ok (.iload 5, 2) := by decide +kernel
theorem dX9_fit_72 : decode cX9_fit 72 = .ok (.if_icmp .eq 36, 3) := by decide +kernel
theorem dX9_fit_108 : decode cX9_fit 108 = .ok (.iinc 4 1, 3) := by decide +kernel
theorem dX9_fit_111 : decode cX9_fit 111 = .ok (.goto (-89), 3) := by decide +kernel
theorem dX9_fit_75 : decode cX9_fit 75 = .ok (.aload_n 0, 1) := by decide +kernel
theorem dX9_fit_76 : decode cX9_fit 76 = .ok (.getfield 28, 3) := by decide +kernel
theorem dX9_fit_79 : decode cX9_fit 79 = .ok (.iload 4, 2) := by decide +kernel
theorem dX9_fit_81 : decode cX9_fit 81 = .ok (.iload 5, 2) := by decide +kernel
theorem dX9_fit_83 : decode cX9_fit 83 = .ok (.iastore, 1) := by decide +kernel
theorem dX9_fit_84 : decode cX9_fit 84 = .ok (.aload_n 1, 1) := by decide +kernel
theorem dX9_fit_85 : decode cX9_fit 85 = .ok (.getfield 37, 3) := by decide +kernel
theorem dX9_fit_88 : decode cX9_fit 88 = .ok (.aload_n 2, 1) := by decide +kernel
theorem dX9_fit_89 : decode cX9_fit 89 = .ok (.iload 4, 2) := by decide +kernel
theorem dX9_fit_91 : decode cX9_fit 91 = .ok (.invokestatic 64, 3) := by decide +kernel
theorem dX9_fit_94 : decode cX9_fit 94 = .ok (.aload_n 0, 1) := by decide +kernel
theorem dX9_fit_95 : decode cX9_fit 95 = .ok (.aload_n 1, 1) := by decide +kernel
theorem dX9_fit_96 : decode cX9_fit 96 = .ok (.iload 4, 2) := by decide +kernel
theorem dX9_fit_98 : decode cX9_fit 98 = .ok (.invokevirtual 68, 3) := by decide +kernel
theorem dX9_fit_101 : decode cX9_fit 101 = .ok (.aload_n 0, 1) := by decide +kernel
theorem dX9_fit_102 : decode cX9_fit 102 = .ok (.aload_n 1, 1) := by decide +kernel
theorem dX9_fit_103 : decode cX9_fit 103 = .ok (.iload 4, 2) := by decide +kernel
theorem dX9_fit_105 : decode cX9_fit 105 = .ok (.invokevirtual 72, 3) := by decide +kernel
theorem dX9_fit_0 : decode cX9_fit 0 = .ok (.aload_n 1, 1) := by decide +kernel
theorem dX9_fit_1 : decode cX9_fit 1 = .ok (.getfield 37, 3) := by decide +kernel
theorem dX9_fit_4 : decode cX9_fit 4 = .ok (.getfield 43, 3) := by decide +kernel
theorem dX9_fit_7 : decode cX9_fit 7 = .ok (.ifCond .eq 10, 3) := by decide +kernel
theorem dX9_fit_17 : decode cX9_fit 17 = .ok (.iconst 0, 1) := by decide +kernel
theorem dX9_fit_10 : decode cX9_fit 10 = .ok (.aload_n 2, 1) := by decide +kernel
theorem dX9_fit_11 : decode cX9_fit 11 = .ok (.getfield 49, 3) := by decide +kernel
theorem dX9_fit_14 : decode cX9_fit 14 = .ok (.goto 4, 3) := by decide +kernel
theorem w_2_0 : (Cond.fieldLink RX9 55 "SameKeeper$State" "days" "I") ∈ wsL_law := sk_mem (ck_2 _ (List.mem_of_getElem? (i := 0) rfl)) rfl
theorem w_3_209 : (Cond.methodLink RX9 64 yX9_nameDay) ∈ wsL_law := sk_mem (ck_3 _ (List.mem_of_getElem? (i := 209) rfl)) rfl
theorem w_3_210 : (Cond.static yX9_nameDay) ∈ wsL_law := sk_mem (ck_3 _ (List.mem_of_getElem? (i := 210) rfl)) rfl
theorem w_3_216 : (Cond.methodLink RX9 68 yX9_fillWords) ∈ wsL_law := sk_mem (ck_3 _ (List.mem_of_getElem? (i := 216) rfl)) rfl
theorem w_3_218 : (Cond.instanceMethod yX9_fillWords) ∈ wsL_law := sk_mem (ck_3 _ (List.mem_of_getElem? (i := 218) rfl)) rfl
theorem w_0_15 : (Cond.selects RX9 yX9_fillWords yX9_fillWords) ∈ wsL_law := sk_mem (ck_0 _ (List.mem_of_getElem? (i := 15) rfl)) rfl
theorem w_4_13 : (Cond.methodLink RX9 72 yX9_fillDeeds) ∈ wsL_law := sk_mem (ck_4 _ (List.mem_of_getElem? (i := 13) rfl)) rfl
theorem w_4_15 : (Cond.instanceMethod yX9_fillDeeds) ∈ wsL_law := sk_mem (ck_4 _ (List.mem_of_getElem? (i := 15) rfl)) rfl
theorem w_0_17 : (Cond.selects RX9 yX9_fillDeeds yX9_fillDeeds) ∈ wsL_law := sk_mem (ck_0 _ (List.mem_of_getElem? (i := 17) rfl)) rfl
theorem w_1_137 : (Cond.fieldLink RX9 43 "SameKeeper$Code" "mindsWeek" "Z") ∈ wsL_law := sk_mem (ck_1 _ (List.mem_of_getElem? (i := 137) rfl)) rfl
theorem w_3_208 : (Cond.code yX9_fit cX9_fit 6 none) ∈ wsL_law := sk_mem (ck_3 _ (List.mem_of_getElem? (i := 208) rfl)) rfl
set_option maxHeartbeats 4000000 in
set_option maxRecDepth 100000 in
theorem c_fit (l : Launch) (D : va_G) (cI cJ cC cZ cS : ClassId) (q : Nat → Nat) (dh : Nat) (mh : Nat) (uh : Int32) (rh : Int32) (nh : Nat) (ch : Nat) (wh : Nat) (y1 : Nat → Int32) (y2 : Nat → Int64) (y3 : Nat → Int64) (y4 : Nat → Int64) (yf : Nat → Int32) (yt : Nat → Int32) (sa : Nat → Nat) (ft : Nat → Int32) (fa : Nat → Int32) (fo : Nat → Int32) (fg : Nat → Int64) (fk : Nat → Int32) (o0 : Nat) (o1 : Nat) (o2 : Nat) (dy : Nat) (mo : Nat) (wk : Int32) (mu : Int32) (ke : Int32) (fb : Nat → Int32) (fw : Nat → Int32) (hsa : ∀ j, sa j ≤ 9) (hch : ch ≤ 1600) (hwh : wh ≤ 1) (hdy : dy ≤ 9) (hmo : mo ≤ 9) : skM l yX9_fit cX9_fit 6 none 4 103 0 0 D (skT cI cJ cC cZ cS) [.ref (q 10), .ref (q 5), .ref o0] [(q 10, .inr (9, [.ref (q 61), .ref (q 62), .ref (q 63), .ref (q 64), .ref (q 65), .ref (q 66)])), (q 61, .inl (cI, 90, .inl (fun j => nI (sa j)))), (q 62, .inl (cI, 900, .inl ft)), (q 63, .inl (cI, 90, .inl fa)), (q 64, .inl (cI, 90, .inl fo)), (q 65, .inl (cJ, 90, .inr (.inl fg))), (q 66, .inl (cI, 9, .inl fk)), (q 5, .inr (2, [.ref (q 44), .ref (q 45), .ref (q 46), .ref (q 47), .ref (q 48), .int (nI dh), .int (nI mh), .int uh, .int rh, .int (nI nh)])), (q 44, .inr (0, [.ref (q 49), .ref (q 50), .ref (q 51), .ref (q 52), .int (nI ch), .int (nI wh)])), (q 49, .inl (cI, 1600, .inl y1)), (q 50, .inl (cJ, 64, .inr (.inl y2))), (q 51, .inl (cJ, 9, .inr (.inl y3))), (q 52, .inl (cJ, 10, .inr (.inl y4))), (q 47, .inl (cI, 3, .inl yf)), (q 48, .inl (cI, 3, .inl yt)), (o0, .inr (7, [.ref o1, .ref o2, .int (nI dy), .int wk, .int (nI mo), .int mu, .int ke])), (o1, .inl (cI, 9, .inl fb)), (o2, .inl (cI, 9, .inl fw))] (skV D (skT cI cJ cC cZ cS) (fun (u : va_W) => ∃ (sa2 : Nat → Nat), ∃ (ft2 : Nat → Int32), ∃ (fa2 : Nat → Int32), ∃ (fo2 : Nat → Int32), ∃ (fg2 : Nat → Int64), ∃ (fk2 : Nat → Int32), ∃ (z2 : Nat → Int64), ∃ (z3 : Nat → Int64), (∀ j, sa2 j ≤ 9) ∧ u = [(q 10, .inr (9, [.ref (q 61), .ref (q 62), .ref (q 63), .ref (q 64), .ref (q 65), .ref (q 66)])), (q 61, .inl (cI, 90, .inl (fun j => nI (sa2 j)))), (q 62, .inl (cI, 900, .inl ft2)), (q 63, .inl (cI, 90, .inl fa2)), (q 64, .inl (cI, 90, .inl fo2)), (q 65, .inl (cJ, 90, .inr (.inl fg2))), (q 66, .inl (cI, 9, .inl fk2)), (q 5, .inr (2, [.ref (q 44), .ref (q 45), .ref (q 46), .ref (q 47), .ref (q 48), .int (nI dh), .int (nI mh), .int uh, .int rh, .int (nI nh)])), (q 44, .inr (0, [.ref (q 49), .ref (q 50), .ref (q 51), .ref (q 52), .int (nI ch), .int (nI wh)])), (q 49, .inl (cI, 1600, .inl y1)), (q 50, .inl (cJ, 64, .inr (.inl z2))), (q 51, .inl (cJ, 9, .inr (.inl z3))), (q 52, .inl (cJ, 10, .inr (.inl y4))), (q 47, .inl (cI, 3, .inl yf)), (q 48, .inl (cI, 3, .inl yt)), (o0, .inr (7, [.ref o1, .ref o2, .int (nI dy), .int wk, .int (nI mo), .int mu, .int ke])), (o1, .inl (cI, 9, .inl fb)), (o2, .inl (cI, 9, .inl fw))])) := by
  refine skM_of (by decide +kernel) (Nat.le_of_ble_eq_true rfl) ?_
  intro p e s m below meth c A ls E hP hD hl
  obtain ⟨hx, hb, hr, hml, hlocks, hin, hown, hts, hK, hA⟩ := E
  have hown : s.vm.findClass RX9 = some m.cls := hown
  have hS : va_S A s.heap s.heap [] := va_S.rf
  have hl : lv_has ls 6 [(0, .ref (q 10)), (1, .ref (q 5)), (2, .ref o0)] := hl
  have jn_1 : ∀ (wq : Int32) (H : Heap) (locs : List Loc) (ls : Array Slot), va_P D vwCl [(q 10, .inr (9, [.ref (q 61), .ref (q 62), .ref (q 63), .ref (q 64), .ref (q 65), .ref (q 66)])), (q 61, .inl (cI, 90, .inl (fun j => nI (sa j)))), (q 62, .inl (cI, 900, .inl ft)), (q 63, .inl (cI, 90, .inl fa)), (q 64, .inl (cI, 90, .inl fo)), (q 65, .inl (cJ, 90, .inr (.inl fg))), (q 66, .inl (cI, 9, .inl fk)), (q 5, .inr (2, [.ref (q 44), .ref (q 45), .ref (q 46), .ref (q 47), .ref (q 48), .int (nI dh), .int (nI mh), .int uh, .int rh, .int (nI nh)])), (q 44, .inr (0, [.ref (q 49), .ref (q 50), .ref (q 51), .ref (q 52), .int (nI ch), .int (nI wh)])), (q 49, .inl (cI, 1600, .inl y1)), (q 50, .inl (cJ, 64, .inr (.inl y2))), (q 51, .inl (cJ, 9, .inr (.inl y3))), (q 52, .inl (cJ, 10, .inr (.inl y4))), (q 47, .inl (cI, 3, .inl yf)), (q 48, .inl (cI, 3, .inl yt)), (o0, .inr (7, [.ref o1, .ref o2, .int (nI dy), .int wk, .int (nI mo), .int mu, .int ke])), (o1, .inl (cI, 9, .inl fb)), (o2, .inl (cI, 9, .inl fw))] H → va_D A [(q 10, .inr (9, [.ref (q 61), .ref (q 62), .ref (q 63), .ref (q 64), .ref (q 65), .ref (q 66)])), (q 61, .inl (cI, 90, .inl (fun j => nI (sa j)))), (q 62, .inl (cI, 900, .inl ft)), (q 63, .inl (cI, 90, .inl fa)), (q 64, .inl (cI, 90, .inl fo)), (q 65, .inl (cJ, 90, .inr (.inl fg))), (q 66, .inl (cI, 9, .inl fk)), (q 5, .inr (2, [.ref (q 44), .ref (q 45), .ref (q 46), .ref (q 47), .ref (q 48), .int (nI dh), .int (nI mh), .int uh, .int rh, .int (nI nh)])), (q 44, .inr (0, [.ref (q 49), .ref (q 50), .ref (q 51), .ref (q 52), .int (nI ch), .int (nI wh)])), (q 49, .inl (cI, 1600, .inl y1)), (q 50, .inl (cJ, 64, .inr (.inl y2))), (q 51, .inl (cJ, 9, .inr (.inl y3))), (q 52, .inl (cJ, 10, .inr (.inl y4))), (q 47, .inl (cI, 3, .inl yf)), (q 48, .inl (cI, 3, .inl yt)), (o0, .inr (7, [.ref o1, .ref o2, .int (nI dy), .int wk, .int (nI mo), .int mu, .int ke])), (o1, .inl (cI, 9, .inl fb)), (o2, .inl (cI, 9, .inl fw))] → va_S A s.heap H locs → lv_has ls 6 [(0, .ref (q 10)), (1, .ref (q 5)), (2, .ref o0)] → W p l e { frames := 4, cells := 0, slots := 0, locals := 103 } s m ([.ref (q 10), .ref (q 5), .ref o0] : List Value).toArray below meth c H locs 0 0 (MQ below (skV D (skT cI cJ cC cZ cS) (fun (u : va_W) => ∃ (sa2 : Nat → Nat), ∃ (ft2 : Nat → Int32), ∃ (fa2 : Nat → Int32), ∃ (fo2 : Nat → Int32), ∃ (fg2 : Nat → Int64), ∃ (fk2 : Nat → Int32), ∃ (z2 : Nat → Int64), ∃ (z3 : Nat → Int64), (∀ j, sa2 j ≤ 9) ∧ u = [(q 10, .inr (9, [.ref (q 61), .ref (q 62), .ref (q 63), .ref (q 64), .ref (q 65), .ref (q 66)])), (q 61, .inl (cI, 90, .inl (fun j => nI (sa2 j)))), (q 62, .inl (cI, 900, .inl ft2)), (q 63, .inl (cI, 90, .inl fa2)), (q 64, .inl (cI, 90, .inl fo2)), (q 65, .inl (cJ, 90, .inr (.inl fg2))), (q 66, .inl (cI, 9, .inl fk2)), (q 5, .inr (2, [.ref (q 44), .ref (q 45), .ref (q 46), .ref (q 47), .ref (q 48), .int (nI dh), .int (nI mh), .int uh, .int rh, .int (nI nh)])), (q 44, .inr (0, [.ref (q 49), .ref (q 50), .ref (q 51), .ref (q 52), .int (nI ch), .int (nI wh)])), (q 49, .inl (cI, 1600, .inl y1)), (q 50, .inl (cJ, 64, .inr (.inl z2))), (q 51, .inl (cJ, 9, .inr (.inl z3))), (q 52, .inl (cJ, 10, .inr (.inl y4))), (q 47, .inl (cI, 3, .inl yf)), (q 48, .inl (cI, 3, .inl yt)), (o0, .inr (7, [.ref o1, .ref o2, .int (nI dy), .int wk, .int (nI mo), .int mu, .int ke])), (o1, .inl (cI, 9, .inl fb)), (o2, .inl (cI, 9, .inl fw))]) A) ([.ref (q 10), .ref (q 5), .ref o0] : List Value).toArray s 0 0 A) (F0 m 18 ls [.int wq]) := by
    intro wq H locs ls  hP hD hS hl
    refine lv_istore_n (lv' := [(3, .int wq), (0, .ref (q 10)), (1, .ref (q 5)), (2, .ref o0)]) hx hb dX9_fit_18 rfl hl (by decide) rfl (fun ls hl => ?_)
    refine lv_iconst (v := 0) hx hb dX9_fit_19 (by decide) ?_
    refine lv_istore (lv' := [(4, .int 0), (3, .int wq), (0, .ref (q 10)), (1, .ref (q 5)), (2, .ref o0)]) hx hb dX9_fit_20 hl (by decide) rfl (fun ls hl => ?_)
    have lp_2 : ∀ (n_3 : Nat) (i : Nat) (sb : Nat → Nat) (gt : Nat → Int32) (ga : Nat → Int32) (go : Nat → Int32) (gg : Nat → Int64) (gk : Nat → Int32) (u2 : Nat → Int64) (u3 : Nat → Int64) (H : Heap) (locs : List Loc) (ls : Array Slot), 9 - i < n_3 → (∀ j, sb j ≤ 9) → (i ≤ 9) → va_P D vwCl [(q 10, .inr (9, [.ref (q 61), .ref (q 62), .ref (q 63), .ref (q 64), .ref (q 65), .ref (q 66)])), (q 61, .inl (cI, 90, .inl (fun j => nI (sb j)))), (q 62, .inl (cI, 900, .inl gt)), (q 63, .inl (cI, 90, .inl ga)), (q 64, .inl (cI, 90, .inl go)), (q 65, .inl (cJ, 90, .inr (.inl gg))), (q 66, .inl (cI, 9, .inl gk)), (q 5, .inr (2, [.ref (q 44), .ref (q 45), .ref (q 46), .ref (q 47), .ref (q 48), .int (nI dh), .int (nI mh), .int uh, .int rh, .int (nI nh)])), (q 44, .inr (0, [.ref (q 49), .ref (q 50), .ref (q 51), .ref (q 52), .int (nI ch), .int (nI wh)])), (q 49, .inl (cI, 1600, .inl y1)), (q 50, .inl (cJ, 64, .inr (.inl u2))), (q 51, .inl (cJ, 9, .inr (.inl u3))), (q 52, .inl (cJ, 10, .inr (.inl y4))), (q 47, .inl (cI, 3, .inl yf)), (q 48, .inl (cI, 3, .inl yt)), (o0, .inr (7, [.ref o1, .ref o2, .int (nI dy), .int wk, .int (nI mo), .int mu, .int ke])), (o1, .inl (cI, 9, .inl fb)), (o2, .inl (cI, 9, .inl fw))] H → va_D A [(q 10, .inr (9, [.ref (q 61), .ref (q 62), .ref (q 63), .ref (q 64), .ref (q 65), .ref (q 66)])), (q 61, .inl (cI, 90, .inl (fun j => nI (sb j)))), (q 62, .inl (cI, 900, .inl gt)), (q 63, .inl (cI, 90, .inl ga)), (q 64, .inl (cI, 90, .inl go)), (q 65, .inl (cJ, 90, .inr (.inl gg))), (q 66, .inl (cI, 9, .inl gk)), (q 5, .inr (2, [.ref (q 44), .ref (q 45), .ref (q 46), .ref (q 47), .ref (q 48), .int (nI dh), .int (nI mh), .int uh, .int rh, .int (nI nh)])), (q 44, .inr (0, [.ref (q 49), .ref (q 50), .ref (q 51), .ref (q 52), .int (nI ch), .int (nI wh)])), (q 49, .inl (cI, 1600, .inl y1)), (q 50, .inl (cJ, 64, .inr (.inl u2))), (q 51, .inl (cJ, 9, .inr (.inl u3))), (q 52, .inl (cJ, 10, .inr (.inl y4))), (q 47, .inl (cI, 3, .inl yf)), (q 48, .inl (cI, 3, .inl yt)), (o0, .inr (7, [.ref o1, .ref o2, .int (nI dy), .int wk, .int (nI mo), .int mu, .int ke])), (o1, .inl (cI, 9, .inl fb)), (o2, .inl (cI, 9, .inl fw))] → va_S A s.heap H locs → lv_has ls 6 [(4, .int (nI i)), (3, .int wq), (0, .ref (q 10)), (1, .ref (q 5)), (2, .ref o0)] → W p l e { frames := 4, cells := 0, slots := 0, locals := 103 } s m ([.ref (q 10), .ref (q 5), .ref o0] : List Value).toArray below meth c H locs 0 0 (MQ below (skV D (skT cI cJ cC cZ cS) (fun (u : va_W) => ∃ (sa2 : Nat → Nat), ∃ (ft2 : Nat → Int32), ∃ (fa2 : Nat → Int32), ∃ (fo2 : Nat → Int32), ∃ (fg2 : Nat → Int64), ∃ (fk2 : Nat → Int32), ∃ (z2 : Nat → Int64), ∃ (z3 : Nat → Int64), (∀ j, sa2 j ≤ 9) ∧ u = [(q 10, .inr (9, [.ref (q 61), .ref (q 62), .ref (q 63), .ref (q 64), .ref (q 65), .ref (q 66)])), (q 61, .inl (cI, 90, .inl (fun j => nI (sa2 j)))), (q 62, .inl (cI, 900, .inl ft2)), (q 63, .inl (cI, 90, .inl fa2)), (q 64, .inl (cI, 90, .inl fo2)), (q 65, .inl (cJ, 90, .inr (.inl fg2))), (q 66, .inl (cI, 9, .inl fk2)), (q 5, .inr (2, [.ref (q 44), .ref (q 45), .ref (q 46), .ref (q 47), .ref (q 48), .int (nI dh), .int (nI mh), .int uh, .int rh, .int (nI nh)])), (q 44, .inr (0, [.ref (q 49), .ref (q 50), .ref (q 51), .ref (q 52), .int (nI ch), .int (nI wh)])), (q 49, .inl (cI, 1600, .inl y1)), (q 50, .inl (cJ, 64, .inr (.inl z2))), (q 51, .inl (cJ, 9, .inr (.inl z3))), (q 52, .inl (cJ, 10, .inr (.inl y4))), (q 47, .inl (cI, 3, .inl yf)), (q 48, .inl (cI, 3, .inl yt)), (o0, .inr (7, [.ref o1, .ref o2, .int (nI dy), .int wk, .int (nI mo), .int mu, .int ke])), (o1, .inl (cI, 9, .inl fb)), (o2, .inl (cI, 9, .inl fw))]) A) ([.ref (q 10), .ref (q 5), .ref o0] : List Value).toArray s 0 0 A) (F0 m 22 ls []) := by
      intro n_3
      induction n_3 with
      | zero => intro i sb gt ga go gg gk u2 u3 H locs ls hm; exact absurd hm (Nat.not_lt_zero _)
      | succ n_3 ih_lp_2 =>
        intro i sb gt ga go gg gk u2 u3 H locs ls hm hsb hi hP hD hS hl
        refine lv_iload hx hb dX9_fit_22 (lv_at hl 0 rfl) ?_
        refine lv_aload_n hx hb dX9_fit_24 rfl (lv_at hl 4 rfl) ?_
        refine sk_get (v := .int (nI dy)) (C := RX7) (T := TX7) (N := 7) hx hb hts inlX7 hown hK hP 15 rfl rfl 2 (by decide) w_2_0 rfl dX9_fit_25 ?_
        refine lv_icmp_ge (tgt := 114) hx hb dX9_fit_28 (by decide) (fun c_4 => ?_) (fun c_4 => ?_)
        · have c_4 : dy ≤ i := (nle dy i (by omega) (by omega)).mp c_4
          exact sk_vret hx hb hr hlocks hK hP hD hS (⟨sb, gt, ga, go, gg, gk, u2, u3, hsb, rfl⟩) (Nat.le_of_ble_eq_true rfl) (Nat.le_of_ble_eq_true rfl) dX9_fit_114
        · have c_4 : ¬ (dy ≤ i) := fun h => c_4 ((nle dy i (by omega) (by omega)).mpr h)
          refine lv_iload hx hb dX9_fit_31 (lv_at hl 0 rfl) ?_
          refine lv_bipush (v := 9) hx hb dX9_fit_33 (by decide) ?_
          refine lv_icmp_ge (tgt := 114) hx hb dX9_fit_35 (by decide) (fun c_5 => ?_) (fun c_5 => ?_)
          · have c_5 : 9 ≤ i := (nle 9 i (by omega) (by omega)).mp c_5
            exact sk_vret hx hb hr hlocks hK hP hD hS (⟨sb, gt, ga, go, gg, gk, u2, u3, hsb, rfl⟩) (Nat.le_of_ble_eq_true rfl) (Nat.le_of_ble_eq_true rfl) dX9_fit_114
          · have c_5 : ¬ (9 ≤ i) := fun h => c_5 ((nle 9 i (by omega) (by omega)).mpr h)
            refine lv_iload_n hx hb dX9_fit_38 rfl (lv_at hl 1 rfl) ?_
            refine lv_bipush (v := 10) hx hb dX9_fit_39 (by decide) ?_
            refine lv_imul hx hb dX9_fit_41 ?_
            refine lv_topi (fun v_6 ev_6 => ?_)
            refine lv_aload_n hx hb dX9_fit_42 rfl (lv_at hl 4 rfl) ?_
            refine sk_get (v := .ref o1) (C := RX7) (T := TX7) (N := 7) hx hb hts inlX7 hown hK hP 15 rfl rfl 0 (by decide) w_1_231 rfl dX9_fit_43 ?_
            refine lv_iload hx hb dX9_fit_46 (lv_at hl 0 rfl) ?_
            refine va_iald hx hb hK.1 hP 16 0 rfl rfl (vin i 9 (by omega) (by omega)) dX9_fit_48 ?_
            refine lv_topi (fun v_7 ev_7 => ?_)
            refine lv_iadd hx hb dX9_fit_49 ?_
            refine lv_topi (fun v_8 ev_8 => ?_)
            refine lv_bipush (v := 10) hx hb dX9_fit_50 (by decide) ?_
            refine lv_imul hx hb dX9_fit_52 ?_
            refine lv_topi (fun v_9 ev_9 => ?_)
            refine lv_aload_n hx hb dX9_fit_53 rfl (lv_at hl 4 rfl) ?_
            refine sk_get (v := .ref o2) (C := RX7) (T := TX7) (N := 7) hx hb hts inlX7 hown hK hP 15 rfl rfl 1 (by decide) w_1_235 rfl dX9_fit_54 ?_
            refine lv_iload hx hb dX9_fit_57 (lv_at hl 0 rfl) ?_
            refine va_iald hx hb hK.1 hP 17 0 rfl rfl (vin i 9 (by omega) (by omega)) dX9_fit_59 ?_
            refine lv_topi (fun v_10 ev_10 => ?_)
            refine lv_iadd hx hb dX9_fit_60 ?_
            refine lv_topi (fun v_11 ev_11 => ?_)
            refine lv_istore (lv' := [(5, .int v_11), (4, .int (nI i)), (3, .int wq), (0, .ref (q 10)), (1, .ref (q 5)), (2, .ref o0)]) hx hb dX9_fit_61 hl (by decide) rfl (fun ls hl => ?_)
            refine lv_aload_n hx hb dX9_fit_63 rfl (lv_at hl 3 rfl) ?_
            refine sk_get (v := .ref (q 66)) (C := RX9) (T := TX9) (N := 6) hx hb hts inlX9 hown hK hP 0 rfl rfl 5 (by decide) w_2_75 rfl dX9_fit_64 ?_
            refine lv_iload hx hb dX9_fit_67 (lv_at hl 1 rfl) ?_
            refine va_iald hx hb hK.1 hP 6 0 rfl rfl (vin i 9 (by omega) (by omega)) dX9_fit_69 ?_
            refine lv_topi (fun v_12 ev_12 => ?_)
            refine lv_iload hx hb dX9_fit_70 (lv_at hl 0 rfl) ?_
            refine lv_icmp_eq (tgt := 108) hx hb dX9_fit_72 (by decide) (fun c_13 => ?_) (fun c_13 => ?_)
            · skip
              refine lv_iinc (v := nI (i + 1)) (lv' := [(4, .int (nI (i + 1))), (5, .int v_11), (3, .int wq), (0, .ref (q 10)), (1, .ref (q 5)), (2, .ref o0)]) hx hb dX9_fit_108 hl (k := 1) rfl (ninc i 1 (by decide)) (by decide) rfl (fun ls hl => ?_)
              refine lv_goto (tgt := 22) hx hb dX9_fit_111 (by decide) ?_
              exact ih_lp_2 (i + 1) sb gt ga go gg gk u2 u3 _ _ _ (by omega) hsb (by omega) hP hD hS (lv_sub hl [0, 2, 3, 4, 5] rfl)
            · skip
              refine lv_aload_n hx hb dX9_fit_75 rfl (lv_at hl 3 rfl) ?_
              refine sk_get (v := .ref (q 66)) (C := RX9) (T := TX9) (N := 6) hx hb hts inlX9 hown hK hP 0 rfl rfl 5 (by decide) w_2_75 rfl dX9_fit_76 ?_
              refine lv_iload hx hb dX9_fit_79 (lv_at hl 1 rfl) ?_
              refine lv_iload hx hb dX9_fit_81 (lv_at hl 0 rfl) ?_
              refine sk_iastO (ws' := fun f_14 => [(q 10, .inr (9, [.ref (q 61), .ref (q 62), .ref (q 63), .ref (q 64), .ref (q 65), .ref (q 66)])), (q 61, .inl (cI, 90, .inl (fun j => nI (sb j)))), (q 62, .inl (cI, 900, .inl gt)), (q 63, .inl (cI, 90, .inl ga)), (q 64, .inl (cI, 90, .inl go)), (q 65, .inl (cJ, 90, .inr (.inl gg))), (q 66, .inl (cI, 9, .inl f_14)), (q 5, .inr (2, [.ref (q 44), .ref (q 45), .ref (q 46), .ref (q 47), .ref (q 48), .int (nI dh), .int (nI mh), .int uh, .int rh, .int (nI nh)])), (q 44, .inr (0, [.ref (q 49), .ref (q 50), .ref (q 51), .ref (q 52), .int (nI ch), .int (nI wh)])), (q 49, .inl (cI, 1600, .inl y1)), (q 50, .inl (cJ, 64, .inr (.inl u2))), (q 51, .inl (cJ, 9, .inr (.inl u3))), (q 52, .inl (cJ, 10, .inr (.inl y4))), (q 47, .inl (cI, 3, .inl yf)), (q 48, .inl (cI, 3, .inl yt)), (o0, .inr (7, [.ref o1, .ref o2, .int (nI dy), .int wk, .int (nI mo), .int mu, .int ke])), (o1, .inl (cI, 9, .inl fb)), (o2, .inl (cI, 9, .inl fw))]) hx hb hK hP hD hS 6 0 rfl rfl (vin i 9 (by omega) (by omega)) (fun _ => rfl) dX9_fit_83 (fun f_14 H locs hP hD hS => ?_)
              refine lv_aload_n hx hb dX9_fit_84 rfl (lv_at hl 4 rfl) ?_
              refine sk_get (v := .ref (q 44)) (C := RX2) (T := TX2) (N := 10) hx hb hts inlX2 hown hK hP 7 rfl rfl 0 (by decide) w_1_176 rfl dX9_fit_85 ?_
              refine lv_aload_n hx hb dX9_fit_88 rfl (lv_at hl 5 rfl) ?_
              refine lv_iload hx hb dX9_fit_89 (lv_at hl 1 rfl) ?_
              refine sk_Sv (n := 3) (rest := []) (wr := [(q 10, .inr (9, [.ref (q 61), .ref (q 62), .ref (q 63), .ref (q 64), .ref (q 65), .ref (q 66)])), (q 61, .inl (cI, 90, .inl (fun j => nI (sb j)))), (q 62, .inl (cI, 900, .inl gt)), (q 63, .inl (cI, 90, .inl ga)), (q 64, .inl (cI, 90, .inl go)), (q 65, .inl (cJ, 90, .inr (.inl gg))), (q 66, .inl (cI, 9, .inl f_14)), (q 5, .inr (2, [.ref (q 44), .ref (q 45), .ref (q 46), .ref (q 47), .ref (q 48), .int (nI dh), .int (nI mh), .int uh, .int rh, .int (nI nh)])), (q 49, .inl (cI, 1600, .inl y1)), (q 50, .inl (cJ, 64, .inr (.inl u2))), (q 52, .inl (cJ, 10, .inr (.inl y4))), (q 47, .inl (cI, 3, .inl yf)), (q 48, .inl (cI, 3, .inl yt))]) ⟨hx, hb, hml, hown, hts⟩ hl.1 (c_nameDay l D cI cJ cC cZ cS q ch wh u3 o0 o1 o2 dy mo wk mu ke fb fw i (by omega)) w_3_209 w_3_210 w_1_12 w_3_211 (by decide +kernel) ⟨⟨(Nat.le_of_ble_eq_true rfl), (Nat.le_of_ble_eq_true rfl)⟩, (Nat.le_of_ble_eq_true rfl), (Nat.le_of_ble_eq_true rfl)⟩ hK hP hD hS hA [8, 11, 15, 16, 17] [0, 1, 2, 3, 4, 5, 6, 7, 9, 10, 12, 13, 14] rfl rfl (by decide +kernel) (by decide +kernel) (by decide +kernel) rfl rfl (Nat.le_of_ble_eq_true rfl) dX9_fit_91 (fun u H locs hw hP hD hS => ?_)
              obtain ⟨z3_15, rfl⟩ := hw
              have hP : va_P D vwCl [(q 10, .inr (9, [.ref (q 61), .ref (q 62), .ref (q 63), .ref (q 64), .ref (q 65), .ref (q 66)])), (q 61, .inl (cI, 90, .inl (fun j => nI (sb j)))), (q 62, .inl (cI, 900, .inl gt)), (q 63, .inl (cI, 90, .inl ga)), (q 64, .inl (cI, 90, .inl go)), (q 65, .inl (cJ, 90, .inr (.inl gg))), (q 66, .inl (cI, 9, .inl f_14)), (q 5, .inr (2, [.ref (q 44), .ref (q 45), .ref (q 46), .ref (q 47), .ref (q 48), .int (nI dh), .int (nI mh), .int uh, .int rh, .int (nI nh)])), (q 49, .inl (cI, 1600, .inl y1)), (q 50, .inl (cJ, 64, .inr (.inl u2))), (q 52, .inl (cJ, 10, .inr (.inl y4))), (q 47, .inl (cI, 3, .inl yf)), (q 48, .inl (cI, 3, .inl yt)), (q 44, .inr (0, [.ref (q 49), .ref (q 50), .ref (q 51), .ref (q 52), .int (nI ch), .int (nI wh)])), (q 51, .inl (cJ, 9, .inr (.inl z3_15))), (o0, .inr (7, [.ref o1, .ref o2, .int (nI dy), .int wk, .int (nI mo), .int mu, .int ke])), (o1, .inl (cI, 9, .inl fb)), (o2, .inl (cI, 9, .inl fw))] H := hP
              have hD : va_D A [(q 10, .inr (9, [.ref (q 61), .ref (q 62), .ref (q 63), .ref (q 64), .ref (q 65), .ref (q 66)])), (q 61, .inl (cI, 90, .inl (fun j => nI (sb j)))), (q 62, .inl (cI, 900, .inl gt)), (q 63, .inl (cI, 90, .inl ga)), (q 64, .inl (cI, 90, .inl go)), (q 65, .inl (cJ, 90, .inr (.inl gg))), (q 66, .inl (cI, 9, .inl f_14)), (q 5, .inr (2, [.ref (q 44), .ref (q 45), .ref (q 46), .ref (q 47), .ref (q 48), .int (nI dh), .int (nI mh), .int uh, .int rh, .int (nI nh)])), (q 49, .inl (cI, 1600, .inl y1)), (q 50, .inl (cJ, 64, .inr (.inl u2))), (q 52, .inl (cJ, 10, .inr (.inl y4))), (q 47, .inl (cI, 3, .inl yf)), (q 48, .inl (cI, 3, .inl yt)), (q 44, .inr (0, [.ref (q 49), .ref (q 50), .ref (q 51), .ref (q 52), .int (nI ch), .int (nI wh)])), (q 51, .inl (cJ, 9, .inr (.inl z3_15))), (o0, .inr (7, [.ref o1, .ref o2, .int (nI dy), .int wk, .int (nI mo), .int mu, .int ke])), (o1, .inl (cI, 9, .inl fb)), (o2, .inl (cI, 9, .inl fw))] := hD
              refine lv_aload_n hx hb dX9_fit_94 rfl (lv_at hl 3 rfl) ?_
              refine lv_aload_n hx hb dX9_fit_95 rfl (lv_at hl 4 rfl) ?_
              refine lv_iload hx hb dX9_fit_96 (lv_at hl 1 rfl) ?_
              refine sk_Vv (q0 := 0) (n := 2) (rest := []) (wr := [(q 62, .inl (cI, 900, .inl gt)), (q 63, .inl (cI, 90, .inl ga)), (q 64, .inl (cI, 90, .inl go)), (q 66, .inl (cI, 9, .inl f_14)), (o0, .inr (7, [.ref o1, .ref o2, .int (nI dy), .int wk, .int (nI mo), .int mu, .int ke])), (o1, .inl (cI, 9, .inl fb)), (o2, .inl (cI, 9, .inl fw))]) ⟨hx, hb, hml, hown, hts⟩ hl.1 (c_fillWords l D cI cJ cC cZ cS q dh mh uh rh nh ch wh y1 u2 z3_15 y4 yf yt sb gg i hsb (by omega) (by omega) (by omega)) w_3_216 w_3_218 w_0_15 w_1_12 w_3_219 (by decide +kernel) ⟨⟨(Nat.le_of_ble_eq_true rfl), (Nat.le_of_ble_eq_true rfl)⟩, (Nat.le_of_ble_eq_true rfl), (Nat.le_of_ble_eq_true rfl)⟩ hK hP hD hS hA [0, 1, 5, 7, 13, 8, 9, 14, 10, 11, 12] [2, 3, 4, 6, 15, 16, 17] rfl rfl (by decide +kernel) (by decide +kernel) (by decide +kernel) rfl rfl rfl rfl (Nat.le_of_ble_eq_true rfl) dX9_fit_98 (fun u H locs hw hP hD hS => ?_)
              obtain ⟨sa2_16, fg2_17, z2_18, z3_19, hsa2_20, rfl⟩ := hw
              have hP : va_P D vwCl [(q 62, .inl (cI, 900, .inl gt)), (q 63, .inl (cI, 90, .inl ga)), (q 64, .inl (cI, 90, .inl go)), (q 66, .inl (cI, 9, .inl f_14)), (o0, .inr (7, [.ref o1, .ref o2, .int (nI dy), .int wk, .int (nI mo), .int mu, .int ke])), (o1, .inl (cI, 9, .inl fb)), (o2, .inl (cI, 9, .inl fw)), (q 10, .inr (9, [.ref (q 61), .ref (q 62), .ref (q 63), .ref (q 64), .ref (q 65), .ref (q 66)])), (q 61, .inl (cI, 90, .inl (fun j => nI (sa2_16 j)))), (q 65, .inl (cJ, 90, .inr (.inl fg2_17))), (q 5, .inr (2, [.ref (q 44), .ref (q 45), .ref (q 46), .ref (q 47), .ref (q 48), .int (nI dh), .int (nI mh), .int uh, .int rh, .int (nI nh)])), (q 44, .inr (0, [.ref (q 49), .ref (q 50), .ref (q 51), .ref (q 52), .int (nI ch), .int (nI wh)])), (q 49, .inl (cI, 1600, .inl y1)), (q 50, .inl (cJ, 64, .inr (.inl z2_18))), (q 51, .inl (cJ, 9, .inr (.inl z3_19))), (q 52, .inl (cJ, 10, .inr (.inl y4))), (q 47, .inl (cI, 3, .inl yf)), (q 48, .inl (cI, 3, .inl yt))] H := hP
              have hD : va_D A [(q 62, .inl (cI, 900, .inl gt)), (q 63, .inl (cI, 90, .inl ga)), (q 64, .inl (cI, 90, .inl go)), (q 66, .inl (cI, 9, .inl f_14)), (o0, .inr (7, [.ref o1, .ref o2, .int (nI dy), .int wk, .int (nI mo), .int mu, .int ke])), (o1, .inl (cI, 9, .inl fb)), (o2, .inl (cI, 9, .inl fw)), (q 10, .inr (9, [.ref (q 61), .ref (q 62), .ref (q 63), .ref (q 64), .ref (q 65), .ref (q 66)])), (q 61, .inl (cI, 90, .inl (fun j => nI (sa2_16 j)))), (q 65, .inl (cJ, 90, .inr (.inl fg2_17))), (q 5, .inr (2, [.ref (q 44), .ref (q 45), .ref (q 46), .ref (q 47), .ref (q 48), .int (nI dh), .int (nI mh), .int uh, .int rh, .int (nI nh)])), (q 44, .inr (0, [.ref (q 49), .ref (q 50), .ref (q 51), .ref (q 52), .int (nI ch), .int (nI wh)])), (q 49, .inl (cI, 1600, .inl y1)), (q 50, .inl (cJ, 64, .inr (.inl z2_18))), (q 51, .inl (cJ, 9, .inr (.inl z3_19))), (q 52, .inl (cJ, 10, .inr (.inl y4))), (q 47, .inl (cI, 3, .inl yf)), (q 48, .inl (cI, 3, .inl yt))] := hD
              refine lv_aload_n hx hb dX9_fit_101 rfl (lv_at hl 3 rfl) ?_
              refine lv_aload_n hx hb dX9_fit_102 rfl (lv_at hl 4 rfl) ?_
              refine lv_iload hx hb dX9_fit_103 (lv_at hl 1 rfl) ?_
              refine sk_Vv (q0 := 0) (n := 2) (rest := []) (wr := [(q 66, .inl (cI, 9, .inl f_14)), (o0, .inr (7, [.ref o1, .ref o2, .int (nI dy), .int wk, .int (nI mo), .int mu, .int ke])), (o1, .inl (cI, 9, .inl fb)), (o2, .inl (cI, 9, .inl fw)), (q 65, .inl (cJ, 90, .inr (.inl fg2_17)))]) ⟨hx, hb, hml, hown, hts⟩ hl.1 (c_fillDeeds l D cI cJ cC cZ cS q dh mh uh rh nh ch wh y1 z2_18 z3_19 y4 yf yt sa2_16 gt ga go i hsa2_20 (by omega) (by omega) (by omega)) w_4_13 w_4_15 w_0_17 w_1_12 w_4_16 (by decide +kernel) ⟨⟨(Nat.le_of_ble_eq_true rfl), (Nat.le_of_ble_eq_true rfl)⟩, (Nat.le_of_ble_eq_true rfl), (Nat.le_of_ble_eq_true rfl)⟩ hK hP hD hS hA [7, 8, 0, 1, 2, 10, 11, 12, 13, 14, 15, 16, 17] [3, 4, 5, 6, 9] rfl rfl (by decide +kernel) (by decide +kernel) (by decide +kernel) rfl rfl rfl rfl (Nat.le_of_ble_eq_true rfl) dX9_fit_105 (fun u H locs hw hP hD hS => ?_)
              obtain ⟨ft2_21, fa2_22, fo2_23, z2_24, z3_25, rfl⟩ := hw
              have hP : va_P D vwCl [(q 66, .inl (cI, 9, .inl f_14)), (o0, .inr (7, [.ref o1, .ref o2, .int (nI dy), .int wk, .int (nI mo), .int mu, .int ke])), (o1, .inl (cI, 9, .inl fb)), (o2, .inl (cI, 9, .inl fw)), (q 65, .inl (cJ, 90, .inr (.inl fg2_17))), (q 10, .inr (9, [.ref (q 61), .ref (q 62), .ref (q 63), .ref (q 64), .ref (q 65), .ref (q 66)])), (q 61, .inl (cI, 90, .inl (fun j => nI (sa2_16 j)))), (q 62, .inl (cI, 900, .inl ft2_21)), (q 63, .inl (cI, 90, .inl fa2_22)), (q 64, .inl (cI, 90, .inl fo2_23)), (q 5, .inr (2, [.ref (q 44), .ref (q 45), .ref (q 46), .ref (q 47), .ref (q 48), .int (nI dh), .int (nI mh), .int uh, .int rh, .int (nI nh)])), (q 44, .inr (0, [.ref (q 49), .ref (q 50), .ref (q 51), .ref (q 52), .int (nI ch), .int (nI wh)])), (q 49, .inl (cI, 1600, .inl y1)), (q 50, .inl (cJ, 64, .inr (.inl z2_24))), (q 51, .inl (cJ, 9, .inr (.inl z3_25))), (q 52, .inl (cJ, 10, .inr (.inl y4))), (q 47, .inl (cI, 3, .inl yf)), (q 48, .inl (cI, 3, .inl yt))] H := hP
              have hD : va_D A [(q 66, .inl (cI, 9, .inl f_14)), (o0, .inr (7, [.ref o1, .ref o2, .int (nI dy), .int wk, .int (nI mo), .int mu, .int ke])), (o1, .inl (cI, 9, .inl fb)), (o2, .inl (cI, 9, .inl fw)), (q 65, .inl (cJ, 90, .inr (.inl fg2_17))), (q 10, .inr (9, [.ref (q 61), .ref (q 62), .ref (q 63), .ref (q 64), .ref (q 65), .ref (q 66)])), (q 61, .inl (cI, 90, .inl (fun j => nI (sa2_16 j)))), (q 62, .inl (cI, 900, .inl ft2_21)), (q 63, .inl (cI, 90, .inl fa2_22)), (q 64, .inl (cI, 90, .inl fo2_23)), (q 5, .inr (2, [.ref (q 44), .ref (q 45), .ref (q 46), .ref (q 47), .ref (q 48), .int (nI dh), .int (nI mh), .int uh, .int rh, .int (nI nh)])), (q 44, .inr (0, [.ref (q 49), .ref (q 50), .ref (q 51), .ref (q 52), .int (nI ch), .int (nI wh)])), (q 49, .inl (cI, 1600, .inl y1)), (q 50, .inl (cJ, 64, .inr (.inl z2_24))), (q 51, .inl (cJ, 9, .inr (.inl z3_25))), (q 52, .inl (cJ, 10, .inr (.inl y4))), (q 47, .inl (cI, 3, .inl yf)), (q 48, .inl (cI, 3, .inl yt))] := hD
              refine lv_iinc (v := nI (i + 1)) (lv' := [(4, .int (nI (i + 1))), (5, .int v_11), (3, .int wq), (0, .ref (q 10)), (1, .ref (q 5)), (2, .ref o0)]) hx hb dX9_fit_108 hl (k := 1) rfl (ninc i 1 (by decide)) (by decide) rfl (fun ls hl => ?_)
              refine lv_goto (tgt := 22) hx hb dX9_fit_111 (by decide) ?_
              have hP := hP.sub (ws' := [(q 10, .inr (9, [.ref (q 61), .ref (q 62), .ref (q 63), .ref (q 64), .ref (q 65), .ref (q 66)])), (q 61, .inl (cI, 90, .inl (fun j => nI (sa2_16 j)))), (q 62, .inl (cI, 900, .inl ft2_21)), (q 63, .inl (cI, 90, .inl fa2_22)), (q 64, .inl (cI, 90, .inl fo2_23)), (q 65, .inl (cJ, 90, .inr (.inl fg2_17))), (q 66, .inl (cI, 9, .inl f_14)), (q 5, .inr (2, [.ref (q 44), .ref (q 45), .ref (q 46), .ref (q 47), .ref (q 48), .int (nI dh), .int (nI mh), .int uh, .int rh, .int (nI nh)])), (q 44, .inr (0, [.ref (q 49), .ref (q 50), .ref (q 51), .ref (q 52), .int (nI ch), .int (nI wh)])), (q 49, .inl (cI, 1600, .inl y1)), (q 50, .inl (cJ, 64, .inr (.inl z2_24))), (q 51, .inl (cJ, 9, .inr (.inl z3_25))), (q 52, .inl (cJ, 10, .inr (.inl y4))), (q 47, .inl (cI, 3, .inl yf)), (q 48, .inl (cI, 3, .inl yt)), (o0, .inr (7, [.ref o1, .ref o2, .int (nI dy), .int wk, .int (nI mo), .int mu, .int ke])), (o1, .inl (cI, 9, .inl fb)), (o2, .inl (cI, 9, .inl fw))]) [5, 6, 7, 8, 9, 4, 0, 10, 11, 12, 13, 14, 15, 16, 17, 1, 2, 3] rfl
              have hD := hD.sub (ws' := [(q 10, .inr (9, [.ref (q 61), .ref (q 62), .ref (q 63), .ref (q 64), .ref (q 65), .ref (q 66)])), (q 61, .inl (cI, 90, .inl (fun j => nI (sa2_16 j)))), (q 62, .inl (cI, 900, .inl ft2_21)), (q 63, .inl (cI, 90, .inl fa2_22)), (q 64, .inl (cI, 90, .inl fo2_23)), (q 65, .inl (cJ, 90, .inr (.inl fg2_17))), (q 66, .inl (cI, 9, .inl f_14)), (q 5, .inr (2, [.ref (q 44), .ref (q 45), .ref (q 46), .ref (q 47), .ref (q 48), .int (nI dh), .int (nI mh), .int uh, .int rh, .int (nI nh)])), (q 44, .inr (0, [.ref (q 49), .ref (q 50), .ref (q 51), .ref (q 52), .int (nI ch), .int (nI wh)])), (q 49, .inl (cI, 1600, .inl y1)), (q 50, .inl (cJ, 64, .inr (.inl z2_24))), (q 51, .inl (cJ, 9, .inr (.inl z3_25))), (q 52, .inl (cJ, 10, .inr (.inl y4))), (q 47, .inl (cI, 3, .inl yf)), (q 48, .inl (cI, 3, .inl yt)), (o0, .inr (7, [.ref o1, .ref o2, .int (nI dy), .int wk, .int (nI mo), .int mu, .int ke])), (o1, .inl (cI, 9, .inl fb)), (o2, .inl (cI, 9, .inl fw))]) [5, 6, 7, 8, 9, 4, 0, 10, 11, 12, 13, 14, 15, 16, 17, 1, 2, 3] (by decide +kernel) rfl
              exact ih_lp_2 (i + 1) sa2_16 ft2_21 fa2_22 fo2_23 fg2_17 f_14 z2_24 z3_25 _ _ _ (by omega) hsa2_20 (by omega) hP hD hS (lv_sub hl [0, 2, 3, 4, 5] rfl)
    exact lp_2 (9 - 0 + 1) 0 sa ft fa fo fg fk y2 y3 _ _ _ (Nat.lt_succ_self _) hsa (by omega) hP hD hS (lv_sub hl [0, 1, 2, 3, 4] rfl)
  refine lv_aload_n hx hb dX9_fit_0 rfl (lv_at hl 1 rfl) ?_
  refine sk_get (v := .ref (q 44)) (C := RX2) (T := TX2) (N := 10) hx hb hts inlX2 hown hK hP 7 rfl rfl 0 (by decide) w_1_176 rfl dX9_fit_1 ?_
  refine sk_get (v := .int (nI wh)) (C := RX0) (T := TX0) (N := 6) hx hb hts inlX0 hown hK hP 8 rfl rfl 5 (by decide) w_1_137 rfl dX9_fit_4 ?_
  refine lv_if_eq (tgt := 17) hx hb dX9_fit_7 (by decide) (fun c_26 => ?_) (fun c_26 => ?_)
  · have c_26 : wh = 0 := (neq wh 0 (by omega) (by omega)).mp c_26
    refine lv_iconst (v := 0) hx hb dX9_fit_17 (by decide) ?_
    exact jn_1 0 _ _ _  hP hD hS (lv_sub hl [0, 1, 2] rfl)
  · have c_26 : ¬ (wh = 0) := fun h => c_26 ((neq wh 0 (by omega) (by omega)).mpr h)
    refine lv_aload_n hx hb dX9_fit_10 rfl (lv_at hl 2 rfl) ?_
    refine sk_get (v := .int wk) (C := RX7) (T := TX7) (N := 7) hx hb hts inlX7 hown hK hP 15 rfl rfl 3 (by decide) w_2_4 rfl dX9_fit_11 ?_
    refine lv_goto (tgt := 18) hx hb dX9_fit_14 (by decide) ?_
    exact jn_1 wk _ _ _  hP hD hS (lv_sub hl [0, 1, 2] rfl)
