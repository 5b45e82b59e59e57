theorem dX8_nameInLock_0 : decode cX8_nameInLock 0 = .ok (.iload_n 1, 1) := by decide +kernel
theorem dX8_nameInLock_1 : decode cX8_nameInLock 1 = .ok (.tableswitch 115 258 269 #[67, 71, 115, 115, 115, 115, 115, 63, 75, 79, 83, 99], 63) := by decide +kernel
theorem dX8_nameInLock_68 : decode cX8_nameInLock 68 = .ok (.sipush 10001, 3) := by decide +kernel
theorem dX8_nameInLock_71 : decode cX8_nameInLock 71 = .ok (.ireturn, 1) := by decide +kernel
theorem dX8_nameInLock_72 : decode cX8_nameInLock 72 = .ok (.sipush 10002, 3) := by decide +kernel
theorem dX8_nameInLock_75 : decode cX8_nameInLock 75 = .ok (.ireturn, 1) := by decide +kernel
theorem dX8_nameInLock_116 : decode cX8_nameInLock 116 = .ok (.iconst (-1), 1) := by decide +kernel
theorem dX8_nameInLock_117 : decode cX8_nameInLock 117 = .ok (.ireturn, 1) := by decide +kernel
theorem dX8_nameInLock_64 : decode cX8_nameInLock 64 = .ok (.sipush 10000, 3) := by decide +kernel
theorem dX8_nameInLock_67 : decode cX8_nameInLock 67 = .ok (.ireturn, 1) := by decide +kernel
theorem dX8_nameInLock_76 : decode cX8_nameInLock 76 = .ok (.sipush 10003, 3) := by decide +kernel
theorem dX8_nameInLock_79 : decode cX8_nameInLock 79 = .ok (.ireturn, 1) := by decide +kernel
theorem dX8_nameInLock_80 : decode cX8_nameInLock 80 = .ok (.sipush 10004, 3) := by decide +kernel
theorem dX8_nameInLock_83 : decode cX8_nameInLock 83 = .ok (.ireturn, 1) := by decide +kernel
theorem dX8_nameInLock_84 : decode cX8_nameInLock 84 = .ok (.aload_n 0, 1) := by decide +kernel
theorem dX8_nameInLock_85 : decode cX8_nameInLock 85 = .ok (.getfield 15, 3) := by decide +kernel
theorem dX8_nameInLock_88 : decode cX8_nameInLock 88 = .ok (.iconst 1, 1) := by decide +kernel
theorem dX8_nameInLock_89 : decode cX8_nameInLock 89 = .ok (.if_icmp .ne 9, 3) := by decide +kernel
theorem dX8_nameInLock_98 : decode cX8_nameInLock 98 = .ok (.iconst (-1), 1) := by decide +kernel
theorem dX8_nameInLock_99 : decode cX8_nameInLock 99 = .ok (.ireturn, 1) := by decide +kernel
theorem dX8_nameInLock_92 : decode cX8_nameInLock 92 = .ok (.sipush 10005, 3) := by decide +kernel
theorem dX8_nameInLock_95 : decode cX8_nameInLock 95 = .ok (.goto 4, 3) := by decide +kernel
theorem dX8_nameInLock_100 : decode cX8_nameInLock 100 = .ok (.aload_n 0, 1) := by decide +kernel
theorem dX8_nameInLock_101 : decode cX8_nameInLock 101 = .ok (.getfield 15, 3) := by decide +kernel
theorem dX8_nameInLock_104 : decode cX8_nameInLock 104 = .ok (.iconst 1, 1) := by decide +kernel
theorem dX8_nameInLock_105 : decode cX8_nameInLock 105 = .ok (.if_icmp .ne 9, 3) := by decide +kernel
theorem dX8_nameInLock_114 : decode cX8_nameInLock 114 = .ok (.iconst (-1), 1) := by decide +kernel
theorem dX8_nameInLock_115 : decode cX8_nameInLock 115 = .ok (.ireturn, 1) := by decide +kernel
theorem dX8_nameInLock_108 : decode cX8_nameInLock 108 = .ok (.sipush 10006, 3) := by decide +kernel
theorem dX8_nameInLock_111 : decode cX8_nameInLock 111 = .ok (.goto 4, 3) := by decide +kernel
theorem w_1_101 : (Cond.fieldLink RX8 15 "SameKeeper$Sums" "kind" "I") ∈ wsL_law := sk_mem (ck_1 _ (List.mem_of_getElem? (i := 101) rfl)) rfl
theorem w_3_121 : (Cond.code yX8_nameInLock cX8_nameInLock 2 (some .int)) ∈ wsL_law := sk_mem (ck_3 _ (List.mem_of_getElem? (i := 121) rfl)) rfl
set_option maxHeartbeats 4000000 in
set_option maxRecDepth 100000 in
theorem c_nameInLock (l : Launch) (D : va_G) (cI cJ cC cZ cS : ClassId) (u0 : Nat) (kd : Int32) (q : Nat → Nat) (o : Int32)  : skM l yX8_nameInLock cX8_nameInLock 2 (some .int) 0 0 0 0 D (skT cI cJ cC cZ cS) [.ref u0, .int o] [(u0, .inr (8, [.ref (q 2), .int kd]))] (skI D (skT cI cJ cC cZ cS) (fun (r : Int32) (u : va_W) => u = [(u0, .inr (8, [.ref (q 2), .int kd]))])) := by
  refine skM_of (by decide +kernel) (Nat.le_of_ble_eq_true rfl) ?_
  intro p e s m below meth c A ls E hP hD hl
  obtain ⟨hx, hb, hr, hml, hlocks, hin, hown, hts, hK, hA⟩ := E
  have hown : s.vm.findClass RX8 = some m.cls := hown
  have hS : va_S A s.heap s.heap [] := va_S.rf
  have hl : lv_has ls 2 [(0, .ref u0), (1, .int o)] := hl
  refine lv_iload_n hx hb dX8_nameInLock_0 rfl (lv_at hl 1 rfl) ?_
  by_cases g_1 : o = 258
  · refine lv_tableIn (off := 67) (tgt := 68) hx hb dX8_nameInLock_1 (by rw [g_1]; decide) (by rw [g_1]; decide) (by rw [g_1]; rfl) (by decide) ?_
    refine lv_sipush (v := 10001) hx hb dX8_nameInLock_68 (by decide) ?_
    exact sk_iret hx hb hr rfl hlocks hK hP hD hS rfl (Nat.le_of_ble_eq_true rfl) (Nat.le_of_ble_eq_true rfl) dX8_nameInLock_71
  by_cases g_2 : o = 259
  · refine lv_tableIn (off := 71) (tgt := 72) hx hb dX8_nameInLock_1 (by rw [g_2]; decide) (by rw [g_2]; decide) (by rw [g_2]; rfl) (by decide) ?_
    refine lv_sipush (v := 10002) hx hb dX8_nameInLock_72 (by decide) ?_
    exact sk_iret hx hb hr rfl hlocks hK hP hD hS rfl (Nat.le_of_ble_eq_true rfl) (Nat.le_of_ble_eq_true rfl) dX8_nameInLock_75
  by_cases g_3 : o = 260
  · refine lv_tableIn (off := 115) (tgt := 116) hx hb dX8_nameInLock_1 (by rw [g_3]; decide) (by rw [g_3]; decide) (by rw [g_3]; rfl) (by decide) ?_
    refine lv_iconst (v := (-1)) hx hb dX8_nameInLock_116 (by decide) ?_
    exact sk_iret hx hb hr rfl hlocks hK hP hD hS rfl (Nat.le_of_ble_eq_true rfl) (Nat.le_of_ble_eq_true rfl) dX8_nameInLock_117
  by_cases g_4 : o = 261
  · refine lv_tableIn (off := 115) (tgt := 116) hx hb dX8_nameInLock_1 (by rw [g_4]; decide) (by rw [g_4]; decide) (by rw [g_4]; rfl) (by decide) ?_
    refine lv_iconst (v := (-1)) hx hb dX8_nameInLock_116 (by decide) ?_
    exact sk_iret hx hb hr rfl hlocks hK hP hD hS rfl (Nat.le_of_ble_eq_true rfl) (Nat.le_of_ble_eq_true rfl) dX8_nameInLock_117
  by_cases g_5 : o = 262
  · refine lv_tableIn (off := 115) (tgt := 116) hx hb dX8_nameInLock_1 (by rw [g_5]; decide) (by rw [g_5]; decide) (by rw [g_5]; rfl) (by decide) ?_
    refine lv_iconst (v := (-1)) hx hb dX8_nameInLock_116 (by decide) ?_
    exact sk_iret hx hb hr rfl hlocks hK hP hD hS rfl (Nat.le_of_ble_eq_true rfl) (Nat.le_of_ble_eq_true rfl) dX8_nameInLock_117
  by_cases g_6 : o = 263
  · refine lv_tableIn (off := 115) (tgt := 116) hx hb dX8_nameInLock_1 (by rw [g_6]; decide) (by rw [g_6]; decide) (by rw [g_6]; rfl) (by decide) ?_
    refine lv_iconst (v := (-1)) hx hb dX8_nameInLock_116 (by decide) ?_
    exact sk_iret hx hb hr rfl hlocks hK hP hD hS rfl (Nat.le_of_ble_eq_true rfl) (Nat.le_of_ble_eq_true rfl) dX8_nameInLock_117
  by_cases g_7 : o = 264
  · refine lv_tableIn (off := 115) (tgt := 116) hx hb dX8_nameInLock_1 (by rw [g_7]; decide) (by rw [g_7]; decide) (by rw [g_7]; rfl) (by decide) ?_
    refine lv_iconst (v := (-1)) hx hb dX8_nameInLock_116 (by decide) ?_
    exact sk_iret hx hb hr rfl hlocks hK hP hD hS rfl (Nat.le_of_ble_eq_true rfl) (Nat.le_of_ble_eq_true rfl) dX8_nameInLock_117
  by_cases g_8 : o = 265
  · refine lv_tableIn (off := 63) (tgt := 64) hx hb dX8_nameInLock_1 (by rw [g_8]; decide) (by rw [g_8]; decide) (by rw [g_8]; rfl) (by decide) ?_
    refine lv_sipush (v := 10000) hx hb dX8_nameInLock_64 (by decide) ?_
    exact sk_iret hx hb hr rfl hlocks hK hP hD hS rfl (Nat.le_of_ble_eq_true rfl) (Nat.le_of_ble_eq_true rfl) dX8_nameInLock_67
  by_cases g_9 : o = 266
  · refine lv_tableIn (off := 75) (tgt := 76) hx hb dX8_nameInLock_1 (by rw [g_9]; decide) (by rw [g_9]; decide) (by rw [g_9]; rfl) (by decide) ?_
    refine lv_sipush (v := 10003) hx hb dX8_nameInLock_76 (by decide) ?_
    exact sk_iret hx hb hr rfl hlocks hK hP hD hS rfl (Nat.le_of_ble_eq_true rfl) (Nat.le_of_ble_eq_true rfl) dX8_nameInLock_79
  by_cases g_10 : o = 267
  · refine lv_tableIn (off := 79) (tgt := 80) hx hb dX8_nameInLock_1 (by rw [g_10]; decide) (by rw [g_10]; decide) (by rw [g_10]; rfl) (by decide) ?_
    refine lv_sipush (v := 10004) hx hb dX8_nameInLock_80 (by decide) ?_
    exact sk_iret hx hb hr rfl hlocks hK hP hD hS rfl (Nat.le_of_ble_eq_true rfl) (Nat.le_of_ble_eq_true rfl) dX8_nameInLock_83
  by_cases g_11 : o = 268
  · refine lv_tableIn (off := 83) (tgt := 84) hx hb dX8_nameInLock_1 (by rw [g_11]; decide) (by rw [g_11]; decide) (by rw [g_11]; rfl) (by decide) ?_
    refine lv_aload_n hx hb dX8_nameInLock_84 rfl (lv_at hl 0 rfl) ?_
    refine sk_get (v := .int kd) (C := RX8) (T := TX8) (N := 2) hx hb hts inlX8 hown hK hP 0 rfl rfl 1 (by decide) w_1_101 rfl dX8_nameInLock_85 ?_
    refine lv_iconst (v := 1) hx hb dX8_nameInLock_88 (by decide) ?_
    refine lv_icmp_ne (tgt := 98) hx hb dX8_nameInLock_89 (by decide) (fun c_12 => ?_) (fun c_12 => ?_)
    · skip
      refine lv_iconst (v := (-1)) hx hb dX8_nameInLock_98 (by decide) ?_
      exact sk_iret hx hb hr rfl hlocks hK hP hD hS rfl (Nat.le_of_ble_eq_true rfl) (Nat.le_of_ble_eq_true rfl) dX8_nameInLock_99
    · skip
      refine lv_sipush (v := 10005) hx hb dX8_nameInLock_92 (by decide) ?_
      refine lv_goto (tgt := 99) hx hb dX8_nameInLock_95 (by decide) ?_
      exact sk_iret hx hb hr rfl hlocks hK hP hD hS rfl (Nat.le_of_ble_eq_true rfl) (Nat.le_of_ble_eq_true rfl) dX8_nameInLock_99
  by_cases g_13 : o = 269
  · refine lv_tableIn (off := 99) (tgt := 100) hx hb dX8_nameInLock_1 (by rw [g_13]; decide) (by rw [g_13]; decide) (by rw [g_13]; rfl) (by decide) ?_
    refine lv_aload_n hx hb dX8_nameInLock_100 rfl (lv_at hl 0 rfl) ?_
    refine sk_get (v := .int kd) (C := RX8) (T := TX8) (N := 2) hx hb hts inlX8 hown hK hP 0 rfl rfl 1 (by decide) w_1_101 rfl dX8_nameInLock_101 ?_
    refine lv_iconst (v := 1) hx hb dX8_nameInLock_104 (by decide) ?_
    refine lv_icmp_ne (tgt := 114) hx hb dX8_nameInLock_105 (by decide) (fun c_14 => ?_) (fun c_14 => ?_)
    · skip
      refine lv_iconst (v := (-1)) hx hb dX8_nameInLock_114 (by decide) ?_
      exact sk_iret hx hb hr rfl hlocks hK hP hD hS rfl (Nat.le_of_ble_eq_true rfl) (Nat.le_of_ble_eq_true rfl) dX8_nameInLock_115
    · skip
      refine lv_sipush (v := 10006) hx hb dX8_nameInLock_108 (by decide) ?_
      refine lv_goto (tgt := 115) hx hb dX8_nameInLock_111 (by decide) ?_
      exact sk_iret hx hb hr rfl hlocks hK hP hD hS rfl (Nat.le_of_ble_eq_true rfl) (Nat.le_of_ble_eq_true rfl) dX8_nameInLock_115
  refine lv_tableOut (tgt := 116) hx hb dX8_nameInLock_1 (sk_out2 258 269 (by intro k hk1 hk2; rcases (show k = 258 ∨ k = 259 ∨ k = 260 ∨ k = 261 ∨ k = 262 ∨ k = 263 ∨ k = 264 ∨ k = 265 ∨ k = 266 ∨ k = 267 ∨ k = 268 ∨ k = 269 by omega) with rfl | rfl | rfl | rfl | rfl | rfl | rfl | rfl | rfl | rfl | rfl | rfl <;> assumption)) (by decide) ?_
  refine lv_iconst (v := (-1)) hx hb dX8_nameInLock_116 (by decide) ?_
  exact sk_iret hx hb hr rfl hlocks hK hP hD hS rfl (Nat.le_of_ble_eq_true rfl) (Nat.le_of_ble_eq_true rfl) dX8_nameInLock_117
theorem dX8_nameInQuestion_0 : decode cX8_nameInQuestion 0 = .ok (.iload_n 0, 1) := by decide +kernel
theorem dX8_nameInQuestion_1 : decode cX8_nameInQuestion 1 = .ok (.tableswitch 95 258 271 #[75, 79, 83, 95, 95, 95, 95, 95, 95, 91, 95, 95, 71, 87], 71) := by decide +kernel
theorem dX8_nameInQuestion_76 : decode cX8_nameInQuestion 76 = .ok (.sipush 10001, 3) := by decide +kernel
theorem dX8_nameInQuestion_79 : decode cX8_nameInQuestion 79 = .ok (.ireturn, 1) := by decide +kernel
theorem dX8_nameInQuestion_80 : decode cX8_nameInQuestion 80 = .ok (.sipush 10002, 3) := by decide +kernel
theorem dX8_nameInQuestion_83 : decode cX8_nameInQuestion 83 = .ok (.ireturn, 1) := by decide +kernel
theorem dX8_nameInQuestion_84 : decode cX8_nameInQuestion 84 = .ok (.sipush 10007, 3) := by decide +kernel
theorem dX8_nameInQuestion_87 : decode cX8_nameInQuestion 87 = .ok (.ireturn, 1) := by decide +kernel
theorem dX8_nameInQuestion_96 : decode cX8_nameInQuestion 96 = .ok (.iconst (-1), 1) := by decide +kernel
theorem dX8_nameInQuestion_97 : decode cX8_nameInQuestion 97 = .ok (.ireturn, 1) := by decide +kernel
theorem dX8_nameInQuestion_92 : decode cX8_nameInQuestion 92 = .ok (.sipush 10004, 3) := by decide +kernel
theorem dX8_nameInQuestion_95 : decode cX8_nameInQuestion 95 = .ok (.ireturn, 1) := by decide +kernel
theorem dX8_nameInQuestion_72 : decode cX8_nameInQuestion 72 = .ok (.sipush 10003, 3) := by decide +kernel
theorem dX8_nameInQuestion_75 : decode cX8_nameInQuestion 75 = .ok (.ireturn, 1) := by decide +kernel
theorem dX8_nameInQuestion_88 : decode cX8_nameInQuestion 88 = .ok (.sipush 10008, 3) := by decide +kernel
theorem dX8_nameInQuestion_91 : decode cX8_nameInQuestion 91 = .ok (.ireturn, 1) := by decide +kernel
theorem w_3_117 : (Cond.code yX8_nameInQuestion cX8_nameInQuestion 1 (some .int)) ∈ wsL_law := sk_mem (ck_3 _ (List.mem_of_getElem? (i := 117) rfl)) rfl
set_option maxHeartbeats 4000000 in
set_option maxRecDepth 100000 in
theorem c_nameInQuestion (l : Launch) (D : va_G) (cI cJ cC cZ cS : ClassId) (o : Int32)  : skM l yX8_nameInQuestion cX8_nameInQuestion 1 (some .int) 0 0 0 0 D (skT cI cJ cC cZ cS) [.int o] [] (skI D (skT cI cJ cC cZ cS) (fun (r : Int32) (u : va_W) => u = [])) := by
  refine skM_of (by decide +kernel) (Nat.le_of_ble_eq_true rfl) ?_
  intro p e s m below meth c A ls E hP hD hl
  obtain ⟨hx, hb, hr, hml, hlocks, hin, hown, hts, hK, hA⟩ := E
  have hown : s.vm.findClass RX8 = some m.cls := hown
  have hS : va_S A s.heap s.heap [] := va_S.rf
  have hl : lv_has ls 1 [(0, .int o)] := hl
  refine lv_iload_n hx hb dX8_nameInQuestion_0 rfl (lv_at hl 0 rfl) ?_
  by_cases g_1 : o = 258
  · refine lv_tableIn (off := 75) (tgt := 76) hx hb dX8_nameInQuestion_1 (by rw [g_1]; decide) (by rw [g_1]; decide) (by rw [g_1]; rfl) (by decide) ?_
    refine lv_sipush (v := 10001) hx hb dX8_nameInQuestion_76 (by decide) ?_
    exact sk_iret hx hb hr rfl hlocks hK hP hD hS rfl (Nat.le_of_ble_eq_true rfl) (Nat.le_of_ble_eq_true rfl) dX8_nameInQuestion_79
  by_cases g_2 : o = 259
  · refine lv_tableIn (off := 79) (tgt := 80) hx hb dX8_nameInQuestion_1 (by rw [g_2]; decide) (by rw [g_2]; decide) (by rw [g_2]; rfl) (by decide) ?_
    refine lv_sipush (v := 10002) hx hb dX8_nameInQuestion_80 (by decide) ?_
    exact sk_iret hx hb hr rfl hlocks hK hP hD hS rfl (Nat.le_of_ble_eq_true rfl) (Nat.le_of_ble_eq_true rfl) dX8_nameInQuestion_83
  by_cases g_3 : o = 260
  · refine lv_tableIn (off := 83) (tgt := 84) hx hb dX8_nameInQuestion_1 (by rw [g_3]; decide) (by rw [g_3]; decide) (by rw [g_3]; rfl) (by decide) ?_
    refine lv_sipush (v := 10007) hx hb dX8_nameInQuestion_84 (by decide) ?_
    exact sk_iret hx hb hr rfl hlocks hK hP hD hS rfl (Nat.le_of_ble_eq_true rfl) (Nat.le_of_ble_eq_true rfl) dX8_nameInQuestion_87
  by_cases g_4 : o = 261
  · refine lv_tableIn (off := 95) (tgt := 96) hx hb dX8_nameInQuestion_1 (by rw [g_4]; decide) (by rw [g_4]; decide) (by rw [g_4]; rfl) (by decide) ?_
    refine lv_iconst (v := (-1)) hx hb dX8_nameInQuestion_96 (by decide) ?_
    exact sk_iret hx hb hr rfl hlocks hK hP hD hS rfl (Nat.le_of_ble_eq_true rfl) (Nat.le_of_ble_eq_true rfl) dX8_nameInQuestion_97
  by_cases g_5 : o = 262
  · refine lv_tableIn (off := 95) (tgt := 96) hx hb dX8_nameInQuestion_1 (by rw [g_5]; decide) (by rw [g_5]; decide) (by rw [g_5]; rfl) (by decide) ?_
    refine lv_iconst (v := (-1)) hx hb dX8_nameInQuestion_96 (by decide) ?_
    exact sk_iret hx hb hr rfl hlocks hK hP hD hS rfl (Nat.le_of_ble_eq_true rfl) (Nat.le_of_ble_eq_true rfl) dX8_nameInQuestion_97
  by_cases g_6 : o = 263
  · refine lv_tableIn (off := 95) (tgt := 96) hx hb dX8_nameInQuestion_1 (by rw [g_6]; decide) (by rw [g_6]; decide) (by rw [g_6]; rfl) (by decide) ?_
    refine lv_iconst (v := (-1)) hx hb dX8_nameInQuestion_96 (by decide) ?_
    exact sk_iret hx hb hr rfl hlocks hK hP hD hS rfl (Nat.le_of_ble_eq_true rfl) (Nat.le_of_ble_eq_true rfl) dX8_nameInQuestion_97
  by_cases g_7 : o = 264
  · refine lv_tableIn (off := 95) (tgt := 96) hx hb dX8_nameInQuestion_1 (by rw [g_7]; decide) (by rw [g_7]; decide) (by rw [g_7]; rfl) (by decide) ?_
    refine lv_iconst (v := (-1)) hx hb dX8_nameInQuestion_96 (by decide) ?_
    exact sk_iret hx hb hr rfl hlocks hK hP hD hS rfl (Nat.le_of_ble_eq_true rfl) (Nat.le_of_ble_eq_true rfl) dX8_nameInQuestion_97
  by_cases g_8 : o = 265
  · refine lv_tableIn (off := 95) (tgt := 96) hx hb dX8_nameInQuestion_1 (by rw [g_8]; decide) (by rw [g_8]; decide) (by rw [g_8]; rfl) (by decide) ?_
    refine lv_iconst (v := (-1)) hx hb dX8_nameInQuestion_96 (by decide) ?_
    exact sk_iret hx hb hr rfl hlocks hK hP hD hS rfl (Nat.le_of_ble_eq_true rfl) (Nat.le_of_ble_eq_true rfl) dX8_nameInQuestion_97
  by_cases g_9 : o = 266
  · refine lv_tableIn (off := 95) (tgt := 96) hx hb dX8_nameInQuestion_1 (by rw [g_9]; decide) (by rw [g_9]; decide) (by rw [g_9]; rfl) (by decide) ?_
    refine lv_iconst (v := (-1)) hx hb dX8_nameInQuestion_96 (by decide) ?_
    exact sk_iret hx hb hr rfl hlocks hK hP hD hS rfl (Nat.le_of_ble_eq_true rfl) (Nat.le_of_ble_eq_true rfl) dX8_nameInQuestion_97
  by_cases g_10 : o = 267
  · refine lv_tableIn (off := 91) (tgt := 92) hx hb dX8_nameInQuestion_1 (by rw [g_10]; decide) (by rw [g_10]; decide) (by rw [g_10]; rfl) (by decide) ?_
    refine lv_sipush (v := 10004) hx hb dX8_nameInQuestion_92 (by decide) ?_
    exact sk_iret hx hb hr rfl hlocks hK hP hD hS rfl (Nat.le_of_ble_eq_true rfl) (Nat.le_of_ble_eq_true rfl) dX8_nameInQuestion_95
  by_cases g_11 : o = 268
  · refine lv_tableIn (off := 95) (tgt := 96) hx hb dX8_nameInQuestion_1 (by rw [g_11]; decide) (by rw [g_11]; decide) (by rw [g_11]; rfl) (by decide) ?_
    refine lv_iconst (v := (-1)) hx hb dX8_nameInQuestion_96 (by decide) ?_
    exact sk_iret hx hb hr rfl hlocks hK hP hD hS rfl (Nat.le_of_ble_eq_true rfl) (Nat.le_of_ble_eq_true rfl) dX8_nameInQuestion_97
  by_cases g_12 : o = 269
  · refine lv_tableIn (off := 95) (tgt := 96) hx hb dX8_nameInQuestion_1 (by rw [g_12]; decide) (by rw [g_12]; decide) (by rw [g_12]; rfl) (by decide) ?_
    refine lv_iconst (v := (-1)) hx hb dX8_nameInQuestion_96 (by decide) ?_
    exact sk_iret hx hb hr rfl hlocks hK hP hD hS rfl (Nat.le_of_ble_eq_true rfl) (Nat.le_of_ble_eq_true rfl) dX8_nameInQuestion_97
  by_cases g_13 : o = 270
  · refine lv_tableIn (off := 71) (tgt := 72) hx hb dX8_nameInQuestion_1 (by rw [g_13]; decide) (by rw [g_13]; decide) (by rw [g_13]; rfl) (by decide) ?_
    refine lv_sipush (v := 10003) hx hb dX8_nameInQuestion_72 (by decide) ?_
    exact sk_iret hx hb hr rfl hlocks hK hP hD hS rfl (Nat.le_of_ble_eq_true rfl) (Nat.le_of_ble_eq_true rfl) dX8_nameInQuestion_75
  by_cases g_14 : o = 271
  · refine lv_tableIn (off := 87) (tgt := 88) hx hb dX8_nameInQuestion_1 (by rw [g_14]; decide) (by rw [g_14]; decide) (by rw [g_14]; rfl) (by decide) ?_
    refine lv_sipush (v := 10008) hx hb dX8_nameInQuestion_88 (by decide) ?_
    exact sk_iret hx hb hr rfl hlocks hK hP hD hS rfl (Nat.le_of_ble_eq_true rfl) (Nat.le_of_ble_eq_true rfl) dX8_nameInQuestion_91
  refine lv_tableOut (tgt := 96) hx hb dX8_nameInQuestion_1 (sk_out2 258 271 (by intro k hk1 hk2; rcases (show k = 258 ∨ k = 259 ∨ k = 260 ∨ k = 261 ∨ k = 262 ∨ k = 263 ∨ k = 264 ∨ k = 265 ∨ k = 266 ∨ k = 267 ∨ k = 268 ∨ k = 269 ∨ k = 270 ∨ k = 271 by omega) with rfl | rfl | rfl | rfl | rfl | rfl | rfl | rfl | rfl | rfl | rfl | rfl | rfl | rfl <;> assumption)) (by decide) ?_
  refine lv_iconst (v := (-1)) hx hb dX8_nameInQuestion_96 (by decide) ?_
  exact sk_iret hx hb hr rfl hlocks hK hP hD hS rfl (Nat.le_of_ble_eq_true rfl) (Nat.le_of_ble_eq_true rfl) dX8_nameInQuestion_97
def CT_readSum (l : Launch) (D : va_G) (cI cJ cC cZ cS : ClassId) (zk zv : Nat) (zf : Value) (dd : Nat) : Prop := ∀ (q : Nat → Nat) (u0 : Nat) (kd : Int32) (xa : Nat) (xv : Int32) (xo : Nat) (xt : Int32) (xz : Nat) (xf : Int32) (xp : Int32) (tl : Nat) (tb : Nat → Nat) (h0 : Nat) (k1 : Nat) (k2 : Nat) (k3 : Nat) (k4 : Nat) (cl : Nat) (mw : Nat) (f1 : Nat → Int32) (hxa : xa ≤ 1600) (hxz : xz ≤ 1600) (htl : tl ≤ 1600) (htb : ∀ j, tb j ≤ 255) (hcl : cl ≤ 1600) (hmw : mw ≤ 1) (hdd : xo + dd = 6), skMZ zk zv zf l yX8_readSum cX8_readSum 4 none (23 + 5 * dd) (675 + 100 * dd) 0 0 D (skT cI cJ cC cZ cS) [.ref u0, .ref h0] [(u0, .inr (8, [.ref (q 2), .int kd])), (q 2, .inr (6, [.ref (q 0), .int (nI xa), .int xv, .int (nI xo), .int xt, .int (nI xz), .int xf, .int xp])), (q 0, .inr (10, [.ref (q 20), .int (nI tl)])), (q 20, .inl (cI, 1600, .inl (fun j => nI (tb j)))), (h0, .inr (0, [.ref k1, .ref k2, .ref k3, .ref k4, .int (nI cl), .int (nI mw)])), (k1, .inl (cI, 1600, .inl f1))] (skV D (skT cI cJ cC cZ cS) (fun (u : va_W) => ∃ (xa2 : Nat), ∃ (xv2 : Int32), ∃ (xt2 : Int32), ∃ (xz2 : Nat), ∃ (xf2 : Int32), ∃ (xp2 : Int32), ∃ (c2 : Nat), ∃ (w2 : Nat), ∃ (g1 : Nat → Int32), xa2 ≤ 1600 ∧ xz2 ≤ 1600 ∧ c2 ≤ 1600 ∧ w2 ≤ 1 ∧ u = [(u0, .inr (8, [.ref (q 2), .int kd])), (q 2, .inr (6, [.ref (q 0), .int (nI xa2), .int xv2, .int (nI xo), .int xt2, .int (nI xz2), .int xf2, .int xp2])), (q 0, .inr (10, [.ref (q 20), .int (nI tl)])), (q 20, .inl (cI, 1600, .inl (fun j => nI (tb j)))), (h0, .inr (0, [.ref k1, .ref k2, .ref k3, .ref k4, .int (nI c2), .int (nI w2)])), (k1, .inl (cI, 1600, .inl g1))]))
def CT_readPart (l : Launch) (D : va_G) (cI cJ cC cZ cS : ClassId) (zk zv : Nat) (zf : Value) (dd : Nat) : Prop := ∀ (q : Nat → Nat) (u0 : Nat) (kd : Int32) (xa : Nat) (xv : Int32) (xo : Nat) (xt : Int32) (xz : Nat) (xf : Int32) (xp : Int32) (tl : Nat) (tb : Nat → Nat) (h0 : Nat) (k1 : Nat) (k2 : Nat) (k3 : Nat) (k4 : Nat) (cl : Nat) (mw : Nat) (f1 : Nat → Int32) (hxa : xa ≤ 1600) (hxz : xz ≤ 1600) (htl : tl ≤ 1600) (htb : ∀ j, tb j ≤ 255) (hcl : cl ≤ 1600) (hmw : mw ≤ 1) (hdd : xo + dd = 6), skMZ zk zv zf l yX8_readPart cX8_readPart 4 none (21 + 5 * dd) (625 + 100 * dd) 0 0 D (skT cI cJ cC cZ cS) [.ref u0, .ref h0] [(u0, .inr (8, [.ref (q 2), .int kd])), (q 2, .inr (6, [.ref (q 0), .int (nI xa), .int xv, .int (nI xo), .int xt, .int (nI xz), .int xf, .int xp])), (q 0, .inr (10, [.ref (q 20), .int (nI tl)])), (q 20, .inl (cI, 1600, .inl (fun j => nI (tb j)))), (h0, .inr (0, [.ref k1, .ref k2, .ref k3, .ref k4, .int (nI cl), .int (nI mw)])), (k1, .inl (cI, 1600, .inl f1))] (skV D (skT cI cJ cC cZ cS) (fun (u : va_W) => ∃ (xa2 : Nat), ∃ (xv2 : Int32), ∃ (xt2 : Int32), ∃ (xz2 : Nat), ∃ (xf2 : Int32), ∃ (xp2 : Int32), ∃ (c2 : Nat), ∃ (w2 : Nat), ∃ (g1 : Nat → Int32), xa2 ≤ 1600 ∧ xz2 ≤ 1600 ∧ c2 ≤ 1600 ∧ w2 ≤ 1 ∧ u = [(u0, .inr (8, [.ref (q 2), .int kd])), (q 2, .inr (6, [.ref (q 0), .int (nI xa2), .int xv2, .int (nI xo), .int xt2, .int (nI xz2), .int xf2, .int xp2])), (q 0, .inr (10, [.ref (q 20), .int (nI tl)])), (q 20, .inl (cI, 1600, .inl (fun j => nI (tb j)))), (h0, .inr (0, [.ref k1, .ref k2, .ref k3, .ref k4, .int (nI c2), .int (nI w2)])), (k1, .inl (cI, 1600, .inl g1))]))
def CT_readPair (l : Launch) (D : va_G) (cI cJ cC cZ cS : ClassId) (zk zv : Nat) (zf : Value) (dd : Nat) : Prop := ∀ (q : Nat → Nat) (u0 : Nat) (kd : Int32) (xa : Nat) (xv : Int32) (xo : Nat) (xt : Int32) (xz : Nat) (xf : Int32) (xp : Int32) (tl : Nat) (tb : Nat → Nat) (h0 : Nat) (k1 : Nat) (k2 : Nat) (k3 : Nat) (k4 : Nat) (cl : Nat) (mw : Nat) (f1 : Nat → Int32) (o : Int32) (hxa : xa ≤ 1600) (hxz : xz ≤ 1600) (htl : tl ≤ 1600) (htb : ∀ j, tb j ≤ 255) (hcl : cl ≤ 1600) (hmw : mw ≤ 1) (hdd : xo + dd = 6), skMZ zk zv zf l yX8_readPair cX8_readPair 3 none (20 + 5 * dd) (600 + 100 * dd) 0 0 D (skT cI cJ cC cZ cS) [.ref u0, .ref h0, .int o] [(u0, .inr (8, [.ref (q 2), .int kd])), (q 2, .inr (6, [.ref (q 0), .int (nI xa), .int xv, .int (nI xo), .int xt, .int (nI xz), .int xf, .int xp])), (q 0, .inr (10, [.ref (q 20), .int (nI tl)])), (q 20, .inl (cI, 1600, .inl (fun j => nI (tb j)))), (h0, .inr (0, [.ref k1, .ref k2, .ref k3, .ref k4, .int (nI cl), .int (nI mw)])), (k1, .inl (cI, 1600, .inl f1))] (skV D (skT cI cJ cC cZ cS) (fun (u : va_W) => ∃ (xa2 : Nat), ∃ (xv2 : Int32), ∃ (xt2 : Int32), ∃ (xz2 : Nat), ∃ (xf2 : Int32), ∃ (xp2 : Int32), ∃ (c2 : Nat), ∃ (w2 : Nat), ∃ (g1 : Nat → Int32), xa2 ≤ 1600 ∧ xz2 ≤ 1600 ∧ c2 ≤ 1600 ∧ w2 ≤ 1 ∧ u = [(u0, .inr (8, [.ref (q 2), .int kd])), (q 2, .inr (6, [.ref (q 0), .int (nI xa2), .int xv2, .int (nI xo), .int xt2, .int (nI xz2), .int xf2, .int xp2])), (q 0, .inr (10, [.ref (q 20), .int (nI tl)])), (q 20, .inl (cI, 1600, .inl (fun j => nI (tb j)))), (h0, .inr (0, [.ref k1, .ref k2, .ref k3, .ref k4, .int (nI c2), .int (nI w2)])), (k1, .inl (cI, 1600, .inl g1))]))
def CT_readProduct (l : Launch) (D : va_G) (cI cJ cC cZ cS : ClassId) (zk zv : Nat) (zf : Value) (dd : Nat) : Prop := ∀ (q : Nat → Nat) (u0 : Nat) (kd : Int32) (xa : Nat) (xv : Int32) (xo : Nat) (xt : Int32) (xz : Nat) (xf : Int32) (xp : Int32) (tl : Nat) (tb : Nat → Nat) (h0 : Nat) (k1 : Nat) (k2 : Nat) (k3 : Nat) (k4 : Nat) (cl : Nat) (mw : Nat) (f1 : Nat → Int32) (hxa : xa ≤ 1600) (hxz : xz ≤ 1600) (htl : tl ≤ 1600) (htb : ∀ j, tb j ≤ 255) (hcl : cl ≤ 1600) (hmw : mw ≤ 1) (hdd : xo + dd = 6), skMZ zk zv zf l yX8_readProduct cX8_readProduct 4 none (22 + 5 * dd) (650 + 100 * dd) 0 0 D (skT cI cJ cC cZ cS) [.ref u0, .ref h0] [(u0, .inr (8, [.ref (q 2), .int kd])), (q 2, .inr (6, [.ref (q 0), .int (nI xa), .int xv, .int (nI xo), .int xt, .int (nI xz), .int xf, .int xp])), (q 0, .inr (10, [.ref (q 20), .int (nI tl)])), (q 20, .inl (cI, 1600, .inl (fun j => nI (tb j)))), (h0, .inr (0, [.ref k1, .ref k2, .ref k3, .ref k4, .int (nI cl), .int (nI mw)])), (k1, .inl (cI, 1600, .inl f1))] (skV D (skT cI cJ cC cZ cS) (fun (u : va_W) => ∃ (xa2 : Nat), ∃ (xv2 : Int32), ∃ (xt2 : Int32), ∃ (xz2 : Nat), ∃ (xf2 : Int32), ∃ (xp2 : Int32), ∃ (c2 : Nat), ∃ (w2 : Nat), ∃ (g1 : Nat → Int32), xa2 ≤ 1600 ∧ xz2 ≤ 1600 ∧ c2 ≤ 1600 ∧ w2 ≤ 1 ∧ u = [(u0, .inr (8, [.ref (q 2), .int kd])), (q 2, .inr (6, [.ref (q 0), .int (nI xa2), .int xv2, .int (nI xo), .int xt2, .int (nI xz2), .int xf2, .int xp2])), (q 0, .inr (10, [.ref (q 20), .int (nI tl)])), (q 20, .inl (cI, 1600, .inl (fun j => nI (tb j)))), (h0, .inr (0, [.ref k1, .ref k2, .ref k3, .ref k4, .int (nI c2), .int (nI w2)])), (k1, .inl (cI, 1600, .inl g1))]))
theorem dX8_readPair_0 : decode cX8_readPair 0 = .ok (.aload_n 0, 1) := by decide +kernel
theorem dX8_readPair_1 : decode cX8_readPair 1 = .ok (.getfield 9, 3) := by decide +kernel
theorem dX8_readPair_4 : decode cX8_readPair 4 = .ok (.bipush 40, 2) := by decide +kernel
theorem dX8_readPair_6 : decode cX8_readPair 6 = .ok (.invokevirtual 49, 3) := by decide +kernel
theorem dX8_readPair_9 : decode cX8_readPair 9 = .ok (.ifCond .eq 43, 3) := by decide +kernel
theorem dX8_readPair_52 : decode cX8_readPair 52 = .ok (.return_, 1) := by decide +kernel
theorem dX8_readPair_12 : decode cX8_readPair 12 = .ok (.aload_n 0, 1) := by decide +kernel
theorem dX8_readPair_13 : decode cX8_readPair 13 = .ok (.aload_n 1, 1) := by decide +kernel
theorem dX8_readPair_14 : decode cX8_readPair 14 = .ok (.invokevirtual 19, 3) := by decide +kernel
theorem dX8_readPair_17 : decode cX8_readPair 17 = .ok (.aload_n 0, 1) := by decide +kernel
theorem dX8_readPair_18 : decode cX8_readPair 18 = .ok (.getfield 9, 3) := by decide +kernel
theorem dX8_readPair_21 : decode cX8_readPair 21 = .ok (.bipush 44, 2) := by decide +kernel
theorem dX8_readPair_23 : decode cX8_readPair 23 = .ok (.invokevirtual 56, 3) := by decide +kernel
theorem dX8_readPair_26 : decode cX8_readPair 26 = .ok (.aload_n 0, 1) := by decide +kernel
theorem dX8_readPair_27 : decode cX8_readPair 27 = .ok (.aload_n 1, 1) := by decide +kernel
theorem dX8_readPair_28 : decode cX8_readPair 28 = .ok (.invokevirtual 19, 3) := by decide +kernel
theorem dX8_readPair_31 : decode cX8_readPair 31 = .ok (.aload_n 0, 1) := by decide +kernel
theorem dX8_readPair_32 : decode cX8_readPair 32 = .ok (.getfield 9, 3) := by decide +kernel
theorem dX8_readPair_35 : decode cX8_readPair 35 = .ok (.invokevirtual 53, 3) := by decide +kernel
theorem dX8_readPair_38 : decode cX8_readPair 38 = .ok (.aload_n 0, 1) := by decide +kernel
theorem dX8_readPair_39 : decode cX8_readPair 39 = .ok (.getfield 9, 3) := by decide +kernel
theorem dX8_readPair_42 : decode cX8_readPair 42 = .ok (.bipush 41, 2) := by decide +kernel
theorem dX8_readPair_44 : decode cX8_readPair 44 = .ok (.invokevirtual 56, 3) := by decide +kernel
theorem dX8_readPair_47 : decode cX8_readPair 47 = .ok (.aload_n 1, 1) := by decide +kernel
theorem dX8_readPair_48 : decode cX8_readPair 48 = .ok (.iload_n 2, 1) := by decide +kernel
theorem dX8_readPair_49 : decode cX8_readPair 49 = .ok (.invokevirtual 38, 3) := by decide +kernel
theorem w_1_100 : (Cond.fieldLink RX8 9 "SameKeeper$Sums" "reader" "LSameKeeper$Reader;") ∈ wsL_law := sk_mem (ck_1 _ (List.mem_of_getElem? (i := 100) rfl)) rfl
theorem w_3_101 : (Cond.methodLink RX8 49 yX6_opens) ∈ wsL_law := sk_mem (ck_3 _ (List.mem_of_getElem? (i := 101) rfl)) rfl
theorem w_3_102 : (Cond.instanceMethod yX6_opens) ∈ wsL_law := sk_mem (ck_3 _ (List.mem_of_getElem? (i := 102) rfl)) rfl
theorem w_3_103 : (Cond.selects RX6 yX6_opens yX6_opens) ∈ wsL_law := sk_mem (ck_3 _ (List.mem_of_getElem? (i := 103) rfl)) rfl
theorem w_3_84 : (Cond.methodLink RX8 19 yX8_readSum) ∈ wsL_law := sk_mem (ck_3 _ (List.mem_of_getElem? (i := 84) rfl)) rfl
theorem w_3_86 : (Cond.instanceMethod yX8_readSum) ∈ wsL_law := sk_mem (ck_3 _ (List.mem_of_getElem? (i := 86) rfl)) rfl
theorem w_0_6 : (Cond.selects RX8 yX8_readSum yX8_readSum) ∈ wsL_law := sk_mem (ck_0 _ (List.mem_of_getElem? (i := 6) rfl)) rfl
theorem w_1_6 : (Cond.initialized RX8) ∈ wsL_law := sk_mem (ck_1 _ (List.mem_of_getElem? (i := 6) rfl)) rfl
theorem w_3_87 : (Cond.code yX8_readSum cX8_readSum 4 none) ∈ wsL_law := sk_mem (ck_3 _ (List.mem_of_getElem? (i := 87) rfl)) rfl
theorem w_3_109 : (Cond.methodLink RX8 56 yX6_needs) ∈ wsL_law := sk_mem (ck_3 _ (List.mem_of_getElem? (i := 109) rfl)) rfl
theorem w_3_51 : (Cond.instanceMethod yX6_needs) ∈ wsL_law := sk_mem (ck_3 _ (List.mem_of_getElem? (i := 51) rfl)) rfl
theorem w_3_52 : (Cond.selects RX6 yX6_needs yX6_needs) ∈ wsL_law := sk_mem (ck_3 _ (List.mem_of_getElem? (i := 52) rfl)) rfl
theorem w_3_105 : (Cond.methodLink RX8 53 yX6_shuts) ∈ wsL_law := sk_mem (ck_3 _ (List.mem_of_getElem? (i := 105) rfl)) rfl
theorem w_3_106 : (Cond.instanceMethod yX6_shuts) ∈ wsL_law := sk_mem (ck_3 _ (List.mem_of_getElem? (i := 106) rfl)) rfl
theorem w_3_107 : (Cond.selects RX6 yX6_shuts yX6_shuts) ∈ wsL_law := sk_mem (ck_3 _ (List.mem_of_getElem? (i := 107) rfl)) rfl
theorem w_3_97 : (Cond.methodLink RX8 38 yX0_add) ∈ wsL_law := sk_mem (ck_3 _ (List.mem_of_getElem? (i := 97) rfl)) rfl
theorem w_3_98 : (Cond.instanceMethod yX0_add) ∈ wsL_law := sk_mem (ck_3 _ (List.mem_of_getElem? (i := 98) rfl)) rfl
theorem w_3_99 : (Cond.selects RX0 yX0_add yX0_add) ∈ wsL_law := sk_mem (ck_3 _ (List.mem_of_getElem? (i := 99) rfl)) rfl
theorem w_3_114 : (Cond.code yX8_readPair cX8_readPair 3 none) ∈ wsL_law := sk_mem (ck_3 _ (List.mem_of_getElem? (i := 114) rfl)) rfl
set_option maxHeartbeats 4000000 in
set_option maxRecDepth 100000 in
theorem c_readPair (l : Launch) (D : va_G) (cI cJ cC cZ cS : ClassId) (zk zv : Nat) (zf : Value) (dd : Nat) (hs : ∀ d, d + 1 = dd → CT_readSum l D cI cJ cC cZ cS zk zv zf d) : CT_readPair l D cI cJ cC cZ cS zk zv zf dd := by
  intro q u0 kd xa xv xo xt xz xf xp tl tb h0 k1 k2 k3 k4 cl mw f1 o hxa hxz htl htb hcl hmw hdd
  refine skMZ_of (by decide +kernel) (Nat.le_of_ble_eq_true rfl) ?_
  intro p e s m below meth c A ls E hP hD hZ hl
  obtain ⟨hx, hb, hr, hml, hlocks, hin, hown, hts, hK, hA⟩ := E
  have hown : s.vm.findClass RX8 = some m.cls := hown
  have hS : va_S A s.heap s.heap [] := va_S.rf
  have hl : lv_has ls 3 [(0, .ref u0), (1, .ref h0), (2, .int o)] := hl
  refine lv_aload_n hx hb dX8_readPair_0 rfl (lv_at hl 0 rfl) ?_
  refine sk_get (v := .ref (q 2)) (C := RX8) (T := TX8) (N := 2) hx hb hts inlX8 hown hK hP 0 rfl rfl 0 (by decide) w_1_100 rfl dX8_readPair_1 ?_
  refine lv_bipush (v := 40) hx hb dX8_readPair_4 (by decide) ?_
  refine sk_ViZ (q0 := 0) (n := 1) (rest := []) (wr := [(u0, .inr (8, [.ref (q 2), .int kd])), (h0, .inr (0, [.ref k1, .ref k2, .ref k3, .ref k4, .int (nI cl), .int (nI mw)])), (k1, .inl (cI, 1600, .inl f1))]) ⟨hx, hb, hml, hown, hts⟩ hl.1 (c_rd_opens l D cI cJ cC cZ cS zk zv zf q xa xv xo xt xz xf xp tl tb 40 (by omega) (by omega) (by omega) htb (by omega)) w_3_101 w_3_102 w_3_103 w_1_4 w_3_104 (by decide +kernel) ⟨⟨(by dsimp only; omega), (by dsimp only; omega)⟩, (by dsimp only; omega), (by dsimp only; omega)⟩ hK hP hD hS hZ hA [1, 2, 3] [0, 4, 5] rfl rfl (by decide +kernel) (by decide +kernel) (by decide +kernel) rfl rfl rfl rfl (Nat.le_of_ble_eq_true rfl) dX8_readPair_6 (fun r_8 u H locs hw hP hD hS => ?_)
  obtain ⟨xa2_1, xv2_2, xt2_3, xz2_4, xf2_5, xp2_6, b_7, hxa2_9, hxz2_10, hb1_11, rfl, rfl⟩ := hw
  have hP : va_P D vwCl [(u0, .inr (8, [.ref (q 2), .int kd])), (h0, .inr (0, [.ref k1, .ref k2, .ref k3, .ref k4, .int (nI cl), .int (nI mw)])), (k1, .inl (cI, 1600, .inl f1)), (q 2, .inr (6, [.ref (q 0), .int (nI xa2_1), .int xv2_2, .int (nI (xo + b_7)), .int xt2_3, .int (nI xz2_4), .int xf2_5, .int xp2_6])), (q 0, .inr (10, [.ref (q 20), .int (nI tl)])), (q 20, .inl (cI, 1600, .inl (fun j => nI (tb j))))] H := hP
  have hD : va_D A [(u0, .inr (8, [.ref (q 2), .int kd])), (h0, .inr (0, [.ref k1, .ref k2, .ref k3, .ref k4, .int (nI cl), .int (nI mw)])), (k1, .inl (cI, 1600, .inl f1)), (q 2, .inr (6, [.ref (q 0), .int (nI xa2_1), .int xv2_2, .int (nI (xo + b_7)), .int xt2_3, .int (nI xz2_4), .int xf2_5, .int xp2_6])), (q 0, .inr (10, [.ref (q 20), .int (nI tl)])), (q 20, .inl (cI, 1600, .inl (fun j => nI (tb j))))] := hD
  refine lv_if_eq (tgt := 52) hx hb dX8_readPair_9 (by decide) (fun c_12 => ?_) (fun c_12 => ?_)
  · have c_12 : b_7 = 0 := (neq b_7 0 (by omega) (by omega)).mp c_12
    obtain rfl : b_7 = 0 := by omega
    have hP := hP.sub (ws' := [(u0, .inr (8, [.ref (q 2), .int kd])), (q 2, .inr (6, [.ref (q 0), .int (nI xa2_1), .int xv2_2, .int (nI (xo + 0)), .int xt2_3, .int (nI xz2_4), .int xf2_5, .int xp2_6])), (q 0, .inr (10, [.ref (q 20), .int (nI tl)])), (q 20, .inl (cI, 1600, .inl (fun j => nI (tb j)))), (h0, .inr (0, [.ref k1, .ref k2, .ref k3, .ref k4, .int (nI cl), .int (nI mw)])), (k1, .inl (cI, 1600, .inl f1))]) [0, 3, 4, 5, 1, 2] rfl
    have hD := hD.sub (ws' := [(u0, .inr (8, [.ref (q 2), .int kd])), (q 2, .inr (6, [.ref (q 0), .int (nI xa2_1), .int xv2_2, .int (nI (xo + 0)), .int xt2_3, .int (nI xz2_4), .int xf2_5, .int xp2_6])), (q 0, .inr (10, [.ref (q 20), .int (nI tl)])), (q 20, .inl (cI, 1600, .inl (fun j => nI (tb j)))), (h0, .inr (0, [.ref k1, .ref k2, .ref k3, .ref k4, .int (nI cl), .int (nI mw)])), (k1, .inl (cI, 1600, .inl f1))]) [0, 3, 4, 5, 1, 2] (by decide +kernel) rfl
    exact sk_vret hx hb hr hlocks hK hP hD hS (⟨xa2_1, xv2_2, xt2_3, xz2_4, xf2_5, xp2_6, cl, mw, f1, by omega, by omega, by omega, by omega, rfl⟩) (Nat.le_of_ble_eq_true rfl) (Nat.le_of_ble_eq_true rfl) dX8_readPair_52
  · have c_12 : ¬ (b_7 = 0) := fun h => c_12 ((neq b_7 0 (by omega) (by omega)).mpr h)
    obtain rfl : b_7 = 1 := by omega
    refine lv_aload_n hx hb dX8_readPair_12 rfl (lv_at hl 0 rfl) ?_
    refine lv_aload_n hx hb dX8_readPair_13 rfl (lv_at hl 1 rfl) ?_
    refine sk_VvZ (q0 := 0) (n := 1) (rest := []) (wr := []) ⟨hx, hb, hml, hown, hts⟩ hl.1 (hs (dd - 1) (by omega) q u0 kd xa2_1 xv2_2 (xo + 1) xt2_3 xz2_4 xf2_5 xp2_6 tl tb h0 k1 k2 k3 k4 cl mw f1 (by omega) (by omega) (by omega) htb (by omega) (by omega) (by omega)) w_3_84 w_3_86 w_0_6 w_1_6 w_3_87 (by decide +kernel) ⟨⟨(by dsimp only; omega), (by dsimp only; omega)⟩, (by dsimp only; omega), (by dsimp only; omega)⟩ hK hP hD hS hZ hA [0, 3, 4, 5, 1, 2] [] rfl rfl (by decide +kernel) (by decide +kernel) (by decide +kernel) rfl rfl rfl rfl (Nat.le_of_ble_eq_true rfl) dX8_readPair_14 (fun u H locs hw hP hD hS => ?_)
    obtain ⟨xa2_13, xv2_14, xt2_15, xz2_16, xf2_17, xp2_18, c2_19, w2_20, g1_21, hxa2_22, hxz2_23, hc2_24, hw2_25, rfl⟩ := hw
    have hP : va_P D vwCl [(u0, .inr (8, [.ref (q 2), .int kd])), (q 2, .inr (6, [.ref (q 0), .int (nI xa2_13), .int xv2_14, .int (nI (xo + 1)), .int xt2_15, .int (nI xz2_16), .int xf2_17, .int xp2_18])), (q 0, .inr (10, [.ref (q 20), .int (nI tl)])), (q 20, .inl (cI, 1600, .inl (fun j => nI (tb j)))), (h0, .inr (0, [.ref k1, .ref k2, .ref k3, .ref k4, .int (nI c2_19), .int (nI w2_20)])), (k1, .inl (cI, 1600, .inl g1_21))] H := hP
    have hD : va_D A [(u0, .inr (8, [.ref (q 2), .int kd])), (q 2, .inr (6, [.ref (q 0), .int (nI xa2_13), .int xv2_14, .int (nI (xo + 1)), .int xt2_15, .int (nI xz2_16), .int xf2_17, .int xp2_18])), (q 0, .inr (10, [.ref (q 20), .int (nI tl)])), (q 20, .inl (cI, 1600, .inl (fun j => nI (tb j)))), (h0, .inr (0, [.ref k1, .ref k2, .ref k3, .ref k4, .int (nI c2_19), .int (nI w2_20)])), (k1, .inl (cI, 1600, .inl g1_21))] := hD
    refine lv_aload_n hx hb dX8_readPair_17 rfl (lv_at hl 0 rfl) ?_
    refine sk_get (v := .ref (q 2)) (C := RX8) (T := TX8) (N := 2) hx hb hts inlX8 hown hK hP 0 rfl rfl 0 (by decide) w_1_100 rfl dX8_readPair_18 ?_
    refine lv_bipush (v := 44) hx hb dX8_readPair_21 (by decide) ?_
    refine sk_VvZ (q0 := 0) (n := 1) (rest := []) (wr := [(u0, .inr (8, [.ref (q 2), .int kd])), (h0, .inr (0, [.ref k1, .ref k2, .ref k3, .ref k4, .int (nI c2_19), .int (nI w2_20)])), (k1, .inl (cI, 1600, .inl g1_21))]) ⟨hx, hb, hml, hown, hts⟩ hl.1 (c_rd_needs l D cI cJ cC cZ cS zk zv zf q xa2_13 xv2_14 (xo + 1) xt2_15 xz2_16 xf2_17 xp2_18 tl tb 44 (by omega) (by omega) (by omega) htb) w_3_109 w_3_51 w_3_52 w_1_4 w_3_53 (by decide +kernel) ⟨⟨(by dsimp only; omega), (by dsimp only; omega)⟩, (by dsimp only; omega), (by dsimp only; omega)⟩ hK hP hD hS hZ hA [1, 2, 3] [0, 4, 5] rfl rfl (by decide +kernel) (by decide +kernel) (by decide +kernel) rfl rfl rfl rfl (Nat.le_of_ble_eq_true rfl) dX8_readPair_23 (fun u H locs hw hP hD hS => ?_)
    obtain ⟨xa2_26, xv2_27, xt2_28, xz2_29, xf2_30, xp2_31, hxa2_32, hxz2_33, rfl⟩ := hw
    have hP : va_P D vwCl [(u0, .inr (8, [.ref (q 2), .int kd])), (h0, .inr (0, [.ref k1, .ref k2, .ref k3, .ref k4, .int (nI c2_19), .int (nI w2_20)])), (k1, .inl (cI, 1600, .inl g1_21)), (q 2, .inr (6, [.ref (q 0), .int (nI xa2_26), .int xv2_27, .int (nI (xo + 1)), .int xt2_28, .int (nI xz2_29), .int xf2_30, .int xp2_31])), (q 0, .inr (10, [.ref (q 20), .int (nI tl)])), (q 20, .inl (cI, 1600, .inl (fun j => nI (tb j))))] H := hP
    have hD : va_D A [(u0, .inr (8, [.ref (q 2), .int kd])), (h0, .inr (0, [.ref k1, .ref k2, .ref k3, .ref k4, .int (nI c2_19), .int (nI w2_20)])), (k1, .inl (cI, 1600, .inl g1_21)), (q 2, .inr (6, [.ref (q 0), .int (nI xa2_26), .int xv2_27, .int (nI (xo + 1)), .int xt2_28, .int (nI xz2_29), .int xf2_30, .int xp2_31])), (q 0, .inr (10, [.ref (q 20), .int (nI tl)])), (q 20, .inl (cI, 1600, .inl (fun j => nI (tb j))))] := hD
    refine lv_aload_n hx hb dX8_readPair_26 rfl (lv_at hl 0 rfl) ?_
    refine lv_aload_n hx hb dX8_readPair_27 rfl (lv_at hl 1 rfl) ?_
    refine sk_VvZ (q0 := 0) (n := 1) (rest := []) (wr := []) ⟨hx, hb, hml, hown, hts⟩ hl.1 (hs (dd - 1) (by omega) q u0 kd xa2_26 xv2_27 (xo + 1) xt2_28 xz2_29 xf2_30 xp2_31 tl tb h0 k1 k2 k3 k4 c2_19 w2_20 g1_21 (by omega) (by omega) (by omega) htb (by omega) (by omega) (by omega)) w_3_84 w_3_86 w_0_6 w_1_6 w_3_87 (by decide +kernel) ⟨⟨(by dsimp only; omega), (by dsimp only; omega)⟩, (by dsimp only; omega), (by dsimp only; omega)⟩ hK hP hD hS hZ hA [0, 3, 4, 5, 1, 2] [] rfl rfl (by decide +kernel) (by decide +kernel) (by decide +kernel) rfl rfl rfl rfl (Nat.le_of_ble_eq_true rfl) dX8_readPair_28 (fun u H locs hw hP hD hS => ?_)
    obtain ⟨xa2_34, xv2_35, xt2_36, xz2_37, xf2_38, xp2_39, c2_40, w2_41, g1_42, hxa2_43, hxz2_44, hc2_45, hw2_46, rfl⟩ := hw
    have hP : va_P D vwCl [(u0, .inr (8, [.ref (q 2), .int kd])), (q 2, .inr (6, [.ref (q 0), .int (nI xa2_34), .int xv2_35, .int (nI (xo + 1)), .int xt2_36, .int (nI xz2_37), .int xf2_38, .int xp2_39])), (q 0, .inr (10, [.ref (q 20), .int (nI tl)])), (q 20, .inl (cI, 1600, .inl (fun j => nI (tb j)))), (h0, .inr (0, [.ref k1, .ref k2, .ref k3, .ref k4, .int (nI c2_40), .int (nI w2_41)])), (k1, .inl (cI, 1600, .inl g1_42))] H := hP
    have hD : va_D A [(u0, .inr (8, [.ref (q 2), .int kd])), (q 2, .inr (6, [.ref (q 0), .int (nI xa2_34), .int xv2_35, .int (nI (xo + 1)), .int xt2_36, .int (nI xz2_37), .int xf2_38, .int xp2_39])), (q 0, .inr (10, [.ref (q 20), .int (nI tl)])), (q 20, .inl (cI, 1600, .inl (fun j => nI (tb j)))), (h0, .inr (0, [.ref k1, .ref k2, .ref k3, .ref k4, .int (nI c2_40), .int (nI w2_41)])), (k1, .inl (cI, 1600, .inl g1_42))] := hD
    refine lv_aload_n hx hb dX8_readPair_31 rfl (lv_at hl 0 rfl) ?_
    refine sk_get (v := .ref (q 2)) (C := RX8) (T := TX8) (N := 2) hx hb hts inlX8 hown hK hP 0 rfl rfl 0 (by decide) w_1_100 rfl dX8_readPair_32 ?_
    refine sk_Vv (q0 := 0) (n := 0) (rest := []) (wr := [(u0, .inr (8, [.ref (q 2), .int kd])), (q 0, .inr (10, [.ref (q 20), .int (nI tl)])), (q 20, .inl (cI, 1600, .inl (fun j => nI (tb j)))), (h0, .inr (0, [.ref k1, .ref k2, .ref k3, .ref k4, .int (nI c2_40), .int (nI w2_41)])), (k1, .inl (cI, 1600, .inl g1_42))]) ⟨hx, hb, hml, hown, hts⟩ hl.1 (c_rd_shuts l D cI cJ cC cZ cS q xa2_34 xv2_35 (xo + 1) xt2_36 xz2_37 xf2_38 xp2_39 (by omega) (by omega)) w_3_105 w_3_106 w_3_107 w_1_4 w_3_108 (by decide +kernel) ⟨⟨(by dsimp only; omega), (by dsimp only; omega)⟩, (by dsimp only; omega), (by dsimp only; omega)⟩ hK hP hD hS hA [1] [0, 2, 3, 4, 5] rfl rfl (by decide +kernel) (by decide +kernel) (by decide +kernel) rfl rfl rfl rfl (Nat.le_of_ble_eq_true rfl) dX8_readPair_35 (fun u H locs hw hP hD hS => ?_)
    obtain rfl := hw
    have hP : va_P D vwCl [(u0, .inr (8, [.ref (q 2), .int kd])), (q 0, .inr (10, [.ref (q 20), .int (nI tl)])), (q 20, .inl (cI, 1600, .inl (fun j => nI (tb j)))), (h0, .inr (0, [.ref k1, .ref k2, .ref k3, .ref k4, .int (nI c2_40), .int (nI w2_41)])), (k1, .inl (cI, 1600, .inl g1_42)), (q 2, .inr (6, [.ref (q 0), .int (nI xa2_34), .int xv2_35, .int (nI ((xo + 1) - 1)), .int xt2_36, .int (nI xz2_37), .int xf2_38, .int xp2_39]))] H := hP
    have hD : va_D A [(u0, .inr (8, [.ref (q 2), .int kd])), (q 0, .inr (10, [.ref (q 20), .int (nI tl)])), (q 20, .inl (cI, 1600, .inl (fun j => nI (tb j)))), (h0, .inr (0, [.ref k1, .ref k2, .ref k3, .ref k4, .int (nI c2_40), .int (nI w2_41)])), (k1, .inl (cI, 1600, .inl g1_42)), (q 2, .inr (6, [.ref (q 0), .int (nI xa2_34), .int xv2_35, .int (nI ((xo + 1) - 1)), .int xt2_36, .int (nI xz2_37), .int xf2_38, .int xp2_39]))] := hD
    refine lv_aload_n hx hb dX8_readPair_38 rfl (lv_at hl 0 rfl) ?_
    refine sk_get (v := .ref (q 2)) (C := RX8) (T := TX8) (N := 2) hx hb hts inlX8 hown hK hP 0 rfl rfl 0 (by decide) w_1_100 rfl dX8_readPair_39 ?_
    refine lv_bipush (v := 41) hx hb dX8_readPair_42 (by decide) ?_
    refine sk_VvZ (q0 := 0) (n := 1) (rest := []) (wr := [(u0, .inr (8, [.ref (q 2), .int kd])), (h0, .inr (0, [.ref k1, .ref k2, .ref k3, .ref k4, .int (nI c2_40), .int (nI w2_41)])), (k1, .inl (cI, 1600, .inl g1_42))]) ⟨hx, hb, hml, hown, hts⟩ hl.1 (c_rd_needs l D cI cJ cC cZ cS zk zv zf q xa2_34 xv2_35 ((xo + 1) - 1) xt2_36 xz2_37 xf2_38 xp2_39 tl tb 41 (by omega) (by omega) (by omega) htb) w_3_109 w_3_51 w_3_52 w_1_4 w_3_53 (by decide +kernel) ⟨⟨(by dsimp only; omega), (by dsimp only; omega)⟩, (by dsimp only; omega), (by dsimp only; omega)⟩ hK hP hD hS hZ hA [5, 1, 2] [0, 3, 4] rfl rfl (by decide +kernel) (by decide +kernel) (by decide +kernel) rfl rfl rfl rfl (Nat.le_of_ble_eq_true rfl) dX8_readPair_44 (fun u H locs hw hP hD hS => ?_)
    obtain ⟨xa2_47, xv2_48, xt2_49, xz2_50, xf2_51, xp2_52, hxa2_53, hxz2_54, rfl⟩ := hw
    have hP : va_P D vwCl [(u0, .inr (8, [.ref (q 2), .int kd])), (h0, .inr (0, [.ref k1, .ref k2, .ref k3, .ref k4, .int (nI c2_40), .int (nI w2_41)])), (k1, .inl (cI, 1600, .inl g1_42)), (q 2, .inr (6, [.ref (q 0), .int (nI xa2_47), .int xv2_48, .int (nI ((xo + 1) - 1)), .int xt2_49, .int (nI xz2_50), .int xf2_51, .int xp2_52])), (q 0, .inr (10, [.ref (q 20), .int (nI tl)])), (q 20, .inl (cI, 1600, .inl (fun j => nI (tb j))))] H := hP
    have hD : va_D A [(u0, .inr (8, [.ref (q 2), .int kd])), (h0, .inr (0, [.ref k1, .ref k2, .ref k3, .ref k4, .int (nI c2_40), .int (nI w2_41)])), (k1, .inl (cI, 1600, .inl g1_42)), (q 2, .inr (6, [.ref (q 0), .int (nI xa2_47), .int xv2_48, .int (nI ((xo + 1) - 1)), .int xt2_49, .int (nI xz2_50), .int xf2_51, .int xp2_52])), (q 0, .inr (10, [.ref (q 20), .int (nI tl)])), (q 20, .inl (cI, 1600, .inl (fun j => nI (tb j))))] := hD
    refine lv_aload_n hx hb dX8_readPair_47 rfl (lv_at hl 1 rfl) ?_
    refine lv_iload_n hx hb dX8_readPair_48 rfl (lv_at hl 2 rfl) ?_
    refine sk_Vv (q0 := 0) (n := 1) (rest := []) (wr := [(u0, .inr (8, [.ref (q 2), .int kd])), (q 2, .inr (6, [.ref (q 0), .int (nI xa2_47), .int xv2_48, .int (nI ((xo + 1) - 1)), .int xt2_49, .int (nI xz2_50), .int xf2_51, .int xp2_52])), (q 0, .inr (10, [.ref (q 20), .int (nI tl)])), (q 20, .inl (cI, 1600, .inl (fun j => nI (tb j))))]) ⟨hx, hb, hml, hown, hts⟩ hl.1 (c_Code_add l D cI cJ cC cZ cS h0 k1 k2 k3 k4 c2_40 w2_41 g1_42 o (by omega) (by omega)) w_3_97 w_3_98 w_3_99 w_1_8 w_3_100 (by decide +kernel) ⟨⟨(by dsimp only; omega), (by dsimp only; omega)⟩, (by dsimp only; omega), (by dsimp only; omega)⟩ hK hP hD hS hA [1, 2] [0, 3, 4, 5] rfl rfl (by decide +kernel) (by decide +kernel) (by decide +kernel) rfl rfl rfl rfl (Nat.le_of_ble_eq_true rfl) dX8_readPair_49 (fun u H locs hw hP hD hS => ?_)
    obtain ⟨c2_55, w2_56, g1_57, hc2_58, hw2_59, rfl⟩ := hw
    have hP : va_P D vwCl [(u0, .inr (8, [.ref (q 2), .int kd])), (q 2, .inr (6, [.ref (q 0), .int (nI xa2_47), .int xv2_48, .int (nI ((xo + 1) - 1)), .int xt2_49, .int (nI xz2_50), .int xf2_51, .int xp2_52])), (q 0, .inr (10, [.ref (q 20), .int (nI tl)])), (q 20, .inl (cI, 1600, .inl (fun j => nI (tb j)))), (h0, .inr (0, [.ref k1, .ref k2, .ref k3, .ref k4, .int (nI c2_55), .int (nI w2_56)])), (k1, .inl (cI, 1600, .inl g1_57))] H := hP
    have hD : va_D A [(u0, .inr (8, [.ref (q 2), .int kd])), (q 2, .inr (6, [.ref (q 0), .int (nI xa2_47), .int xv2_48, .int (nI ((xo + 1) - 1)), .int xt2_49, .int (nI xz2_50), .int xf2_51, .int xp2_52])), (q 0, .inr (10, [.ref (q 20), .int (nI tl)])), (q 20, .inl (cI, 1600, .inl (fun j => nI (tb j)))), (h0, .inr (0, [.ref k1, .ref k2, .ref k3, .ref k4, .int (nI c2_55), .int (nI w2_56)])), (k1, .inl (cI, 1600, .inl g1_57))] := hD
    exact sk_vret hx hb hr hlocks hK hP hD hS (⟨xa2_47, xv2_48, xt2_49, xz2_50, xf2_51, xp2_52, c2_55, w2_56, g1_57, by omega, by omega, by omega, by omega, rfl⟩) (Nat.le_of_ble_eq_true rfl) (Nat.le_of_ble_eq_true rfl) dX8_readPair_52
theorem dX8_readPart_0 : decode cX8_readPart 0 = .ok (.aload_n 0, 1) := by decide +kernel
theorem dX8_readPart_1 : decode cX8_readPart 1 = .ok (.getfield 9, 3) := by decide +kernel
theorem dX8_readPart_4 : decode cX8_readPart 4 = .ok (.getfield 28, 3) := by decide +kernel
theorem dX8_readPart_7 : decode cX8_readPart 7 = .ok (.istore_n 2, 1) := by decide +kernel
theorem dX8_readPart_8 : decode cX8_readPart 8 = .ok (.iload_n 2, 1) := by decide +kernel
theorem dX8_readPart_9 : decode cX8_readPart 9 = .ok (.bipush (-3), 2) := by decide +kernel
theorem dX8_readPart_11 : decode cX8_readPart 11 = .ok (.if_icmp .ne 21, 3) := by decide +kernel
theorem dX8_readPart_32 : decode cX8_readPart 32 = .ok (.iload_n 2, 1) := by decide +kernel
theorem dX8_readPart_33 : decode cX8_readPart 33 = .ok (.bipush 40, 2) := by decide +kernel
theorem dX8_readPart_35 : decode cX8_readPart 35 = .ok (.if_icmp .ne 39, 3) := by decide +kernel
theorem dX8_readPart_74 : decode cX8_readPart 74 = .ok (.iload_n 2, 1) := by decide +kernel
theorem dX8_readPart_75 : decode cX8_readPart 75 = .ok (.sipush 277, 3) := by decide +kernel
theorem dX8_readPart_78 : decode cX8_readPart 78 = .ok (.if_icmp .eq 10, 3) := by decide +kernel
theorem dX8_readPart_88 : decode cX8_readPart 88 = .ok (.aload_n 0, 1) := by decide +kernel
theorem dX8_readPart_89 : decode cX8_readPart 89 = .ok (.getfield 9, 3) := by decide +kernel
theorem dX8_readPart_92 : decode cX8_readPart 92 = .ok (.invokevirtual 35, 3) := by decide +kernel
theorem dX8_readPart_95 : decode cX8_readPart 95 = .ok (.aload_n 0, 1) := by decide +kernel
theorem dX8_readPart_96 : decode cX8_readPart 96 = .ok (.aload_n 1, 1) := by decide +kernel
theorem dX8_readPart_97 : decode cX8_readPart 97 = .ok (.iload_n 2, 1) := by decide +kernel
theorem dX8_readPart_98 : decode cX8_readPart 98 = .ok (.sipush 277, 3) := by decide +kernel
theorem dX8_readPart_101 : decode cX8_readPart 101 = .ok (.if_icmp .ne 9, 3) := by decide +kernel
theorem dX8_readPart_110 : decode cX8_readPart 110 = .ok (.sipush 30005, 3) := by decide +kernel
theorem dX8_readPart_113 : decode cX8_readPart 113 = .ok (.invokevirtual 59, 3) := by decide +kernel
theorem dX8_readPart_116 : decode cX8_readPart 116 = .ok (.goto 101, 3) := by decide +kernel
theorem dX8_readPart_217 : decode cX8_readPart 217 = .ok (.return_, 1) := by decide +kernel
theorem dX8_readPart_104 : decode cX8_readPart 104 = .ok (.sipush 30004, 3) := by decide +kernel
theorem dX8_readPart_107 : decode cX8_readPart 107 = .ok (.goto 6, 3) := by decide +kernel
theorem dX8_readPart_81 : decode cX8_readPart 81 = .ok (.iload_n 2, 1) := by decide +kernel
theorem dX8_readPart_82 : decode cX8_readPart 82 = .ok (.sipush 278, 3) := by decide +kernel
theorem dX8_readPart_85 : decode cX8_readPart 85 = .ok (.if_icmp .ne 34, 3) := by decide +kernel
theorem dX8_readPart_119 : decode cX8_readPart 119 = .ok (.iload_n 2, 1) := by decide +kernel
theorem dX8_readPart_120 : decode cX8_readPart 120 = .ok (.sipush 272, 3) := by decide +kernel
theorem dX8_readPart_123 : decode cX8_readPart 123 = .ok (.if_icmp .ne 46, 3) := by decide +kernel
theorem dX8_readPart_169 : decode cX8_readPart 169 = .ok (.aload_n 0, 1) := by decide +kernel
theorem dX8_readPart_170 : decode cX8_readPart 170 = .ok (.getfield 15, 3) := by decide +kernel
theorem dX8_readPart_173 : decode cX8_readPart 173 = .ok (.iconst 2, 1) := by decide +kernel
theorem dX8_readPart_174 : decode cX8_readPart 174 = .ok (.if_icmp .ne 10, 3) := by decide +kernel
theorem dX8_readPart_184 : decode cX8_readPart 184 = .ok (.aload_n 0, 1) := by decide +kernel
theorem dX8_readPart_185 : decode cX8_readPart 185 = .ok (.iload_n 2, 1) := by decide +kernel
theorem dX8_readPart_186 : decode cX8_readPart 186 = .ok (.invokevirtual 67, 3) := by decide +kernel
theorem dX8_readPart_189 : decode cX8_readPart 189 = .ok (.istore_n 3, 1) := by decide +kernel
theorem dX8_readPart_190 : decode cX8_readPart 190 = .ok (.iload_n 3, 1) := by decide +kernel
theorem dX8_readPart_191 : decode cX8_readPart 191 = .ok (.iconst (-1), 1) := by decide +kernel
theorem dX8_readPart_192 : decode cX8_readPart 192 = .ok (.if_icmp .ne 13, 3) := by decide +kernel
theorem dX8_readPart_205 : decode cX8_readPart 205 = .ok (.aload_n 1, 1) := by decide +kernel
theorem dX8_readPart_206 : decode cX8_readPart 206 = .ok (.iload_n 3, 1) := by decide +kernel
theorem dX8_readPart_207 : decode cX8_readPart 207 = .ok (.invokevirtual 38, 3) := by decide +kernel
theorem dX8_readPart_210 : decode cX8_readPart 210 = .ok (.aload_n 0, 1) := by decide +kernel
theorem dX8_readPart_211 : decode cX8_readPart 211 = .ok (.getfield 9, 3) := by decide +kernel
theorem dX8_readPart_214 : decode cX8_readPart 214 = .ok (.invokevirtual 35, 3) := by decide +kernel
theorem dX8_readPart_195 : decode cX8_readPart 195 = .ok (.aload_n 0, 1) := by decide +kernel
theorem dX8_readPart_196 : decode cX8_readPart 196 = .ok (.getfield 9, 3) := by decide +kernel
theorem dX8_readPart_199 : decode cX8_readPart 199 = .ok (.invokevirtual 70, 3) := by decide +kernel
theorem dX8_readPart_202 : decode cX8_readPart 202 = .ok (.goto 15, 3) := by decide +kernel
theorem dX8_readPart_177 : decode cX8_readPart 177 = .ok (.iload_n 2, 1) := by decide +kernel
theorem dX8_readPart_178 : decode cX8_readPart 178 = .ok (.invokestatic 63, 3) := by decide +kernel
theorem dX8_readPart_181 : decode cX8_readPart 181 = .ok (.goto 8, 3) := by decide +kernel
theorem dX8_readPart_126 : decode cX8_readPart 126 = .ok (.aload_n 0, 1) := by decide +kernel
theorem dX8_readPart_127 : decode cX8_readPart 127 = .ok (.getfield 15, 3) := by decide +kernel
theorem dX8_readPart_130 : decode cX8_readPart 130 = .ok (.iconst 2, 1) := by decide +kernel
theorem dX8_readPart_131 : decode cX8_readPart 131 = .ok (.if_icmp .ne 38, 3) := by decide +kernel
theorem dX8_readPart_134 : decode cX8_readPart 134 = .ok (.aload_n 0, 1) := by decide +kernel
theorem dX8_readPart_135 : decode cX8_readPart 135 = .ok (.getfield 9, 3) := by decide +kernel
theorem dX8_readPart_138 : decode cX8_readPart 138 = .ok (.sipush 272, 3) := by decide +kernel
theorem dX8_readPart_141 : decode cX8_readPart 141 = .ok (.invokevirtual 49, 3) := by decide +kernel
theorem dX8_readPart_144 : decode cX8_readPart 144 = .ok (.ifCond .eq 73, 3) := by decide +kernel
theorem dX8_readPart_147 : decode cX8_readPart 147 = .ok (.aload_n 0, 1) := by decide +kernel
theorem dX8_readPart_148 : decode cX8_readPart 148 = .ok (.aload_n 1, 1) := by decide +kernel
theorem dX8_readPart_149 : decode cX8_readPart 149 = .ok (.invokevirtual 42, 3) := by decide +kernel
theorem dX8_readPart_152 : decode cX8_readPart 152 = .ok (.aload_n 1, 1) := by decide +kernel
theorem dX8_readPart_153 : decode cX8_readPart 153 = .ok (.sipush 20000, 3) := by decide +kernel
theorem dX8_readPart_156 : decode cX8_readPart 156 = .ok (.invokevirtual 38, 3) := by decide +kernel
theorem dX8_readPart_159 : decode cX8_readPart 159 = .ok (.aload_n 0, 1) := by decide +kernel
theorem dX8_readPart_160 : decode cX8_readPart 160 = .ok (.getfield 9, 3) := by decide +kernel
theorem dX8_readPart_163 : decode cX8_readPart 163 = .ok (.invokevirtual 53, 3) := by decide +kernel
theorem dX8_readPart_166 : decode cX8_readPart 166 = .ok (.goto 51, 3) := by decide +kernel
theorem dX8_readPart_38 : decode cX8_readPart 38 = .ok (.aload_n 0, 1) := by decide +kernel
theorem dX8_readPart_39 : decode cX8_readPart 39 = .ok (.getfield 9, 3) := by decide +kernel
theorem dX8_readPart_42 : decode cX8_readPart 42 = .ok (.bipush 40, 2) := by decide +kernel
theorem dX8_readPart_44 : decode cX8_readPart 44 = .ok (.invokevirtual 49, 3) := by decide +kernel
theorem dX8_readPart_47 : decode cX8_readPart 47 = .ok (.ifCond .eq 170, 3) := by decide +kernel
theorem dX8_readPart_50 : decode cX8_readPart 50 = .ok (.aload_n 0, 1) := by decide +kernel
theorem dX8_readPart_51 : decode cX8_readPart 51 = .ok (.aload_n 1, 1) := by decide +kernel
theorem dX8_readPart_52 : decode cX8_readPart 52 = .ok (.invokevirtual 19, 3) := by decide +kernel
theorem dX8_readPart_55 : decode cX8_readPart 55 = .ok (.aload_n 0, 1) := by decide +kernel
theorem dX8_readPart_56 : decode cX8_readPart 56 = .ok (.getfield 9, 3) := by decide +kernel
theorem dX8_readPart_59 : decode cX8_readPart 59 = .ok (.invokevirtual 53, 3) := by decide +kernel
theorem dX8_readPart_62 : decode cX8_readPart 62 = .ok (.aload_n 0, 1) := by decide +kernel
theorem dX8_readPart_63 : decode cX8_readPart 63 = .ok (.getfield 9, 3) := by decide +kernel
theorem dX8_readPart_66 : decode cX8_readPart 66 = .ok (.bipush 41, 2) := by decide +kernel
theorem dX8_readPart_68 : decode cX8_readPart 68 = .ok (.invokevirtual 56, 3) := by decide +kernel
theorem dX8_readPart_71 : decode cX8_readPart 71 = .ok (.goto 146, 3) := by decide +kernel
theorem dX8_readPart_14 : decode cX8_readPart 14 = .ok (.aload_n 1, 1) := by decide +kernel
theorem dX8_readPart_15 : decode cX8_readPart 15 = .ok (.aload_n 0, 1) := by decide +kernel
theorem dX8_readPart_16 : decode cX8_readPart 16 = .ok (.getfield 9, 3) := by decide +kernel
theorem dX8_readPart_19 : decode cX8_readPart 19 = .ok (.iconst 0, 1) := by decide +kernel
theorem dX8_readPart_20 : decode cX8_readPart 20 = .ok (.sipush 9999, 3) := by decide +kernel
theorem dX8_readPart_23 : decode cX8_readPart 23 = .ok (.invokevirtual 45, 3) := by decide +kernel
theorem dX8_readPart_26 : decode cX8_readPart 26 = .ok (.invokevirtual 38, 3) := by decide +kernel
theorem dX8_readPart_29 : decode cX8_readPart 29 = .ok (.goto 188, 3) := by decide +kernel
theorem w_1_63 : (Cond.fieldLink RX8 28 "SameKeeper$Reader" "token" "I") ∈ wsL_law := sk_mem (ck_1 _ (List.mem_of_getElem? (i := 63) rfl)) rfl
theorem w_3_110 : (Cond.methodLink RX8 35 yX6_step) ∈ wsL_law := sk_mem (ck_3 _ (List.mem_of_getElem? (i := 110) rfl)) rfl
theorem w_3_111 : (Cond.methodLink RX8 59 yX8_readPair) ∈ wsL_law := sk_mem (ck_3 _ (List.mem_of_getElem? (i := 111) rfl)) rfl
theorem w_3_113 : (Cond.instanceMethod yX8_readPair) ∈ wsL_law := sk_mem (ck_3 _ (List.mem_of_getElem? (i := 113) rfl)) rfl
theorem w_0_9 : (Cond.selects RX8 yX8_readPair yX8_readPair) ∈ wsL_law := sk_mem (ck_0 _ (List.mem_of_getElem? (i := 9) rfl)) rfl
theorem w_3_118 : (Cond.methodLink RX8 67 yX8_nameInLock) ∈ wsL_law := sk_mem (ck_3 _ (List.mem_of_getElem? (i := 118) rfl)) rfl
theorem w_3_120 : (Cond.instanceMethod yX8_nameInLock) ∈ wsL_law := sk_mem (ck_3 _ (List.mem_of_getElem? (i := 120) rfl)) rfl
theorem w_0_10 : (Cond.selects RX8 yX8_nameInLock yX8_nameInLock) ∈ wsL_law := sk_mem (ck_0 _ (List.mem_of_getElem? (i := 10) rfl)) rfl
theorem w_3_122 : (Cond.methodLink RX8 70 yX6_failHere) ∈ wsL_law := sk_mem (ck_3 _ (List.mem_of_getElem? (i := 122) rfl)) rfl
theorem w_3_115 : (Cond.methodLink RX8 63 yX8_nameInQuestion) ∈ wsL_law := sk_mem (ck_3 _ (List.mem_of_getElem? (i := 115) rfl)) rfl
theorem w_3_116 : (Cond.static yX8_nameInQuestion) ∈ wsL_law := sk_mem (ck_3 _ (List.mem_of_getElem? (i := 116) rfl)) rfl
theorem w_3_92 : (Cond.methodLink RX8 42 yX8_readPart) ∈ wsL_law := sk_mem (ck_3 _ (List.mem_of_getElem? (i := 92) rfl)) rfl
theorem w_3_94 : (Cond.instanceMethod yX8_readPart) ∈ wsL_law := sk_mem (ck_3 _ (List.mem_of_getElem? (i := 94) rfl)) rfl
theorem w_0_8 : (Cond.selects RX8 yX8_readPart yX8_readPart) ∈ wsL_law := sk_mem (ck_0 _ (List.mem_of_getElem? (i := 8) rfl)) rfl
theorem w_3_95 : (Cond.code yX8_readPart cX8_readPart 4 none) ∈ wsL_law := sk_mem (ck_3 _ (List.mem_of_getElem? (i := 95) rfl)) rfl
theorem w_3_96 : (Cond.methodLink RX8 45 yX6_takeNumber) ∈ wsL_law := sk_mem (ck_3 _ (List.mem_of_getElem? (i := 96) rfl)) rfl
theorem w_3_63 : (Cond.instanceMethod yX6_takeNumber) ∈ wsL_law := sk_mem (ck_3 _ (List.mem_of_getElem? (i := 63) rfl)) rfl
theorem w_3_64 : (Cond.selects RX6 yX6_takeNumber yX6_takeNumber) ∈ wsL_law := sk_mem (ck_3 _ (List.mem_of_getElem? (i := 64) rfl)) rfl
set_option maxHeartbeats 4000000 in
set_option maxRecDepth 100000 in
theorem c_readPart (l : Launch) (D : va_G) (cI cJ cC cZ cS : ClassId) (zk zv : Nat) (zf : Value) (dd : Nat) (hs : ∀ d, d + 1 = dd → CT_readSum l D cI cJ cC cZ cS zk zv zf d) (hp : ∀ d, d + 1 = dd → CT_readPart l D cI cJ cC cZ cS zk zv zf d) (hq : CT_readPair l D cI cJ cC cZ cS zk zv zf dd) : CT_readPart l D cI cJ cC cZ cS zk zv zf dd := by
  intro q u0 kd xa xv xo xt xz xf xp tl tb h0 k1 k2 k3 k4 cl mw f1 hxa hxz htl htb hcl hmw hdd
  refine skMZ_of (by decide +kernel) (Nat.le_of_ble_eq_true rfl) ?_
  intro p e s m below meth c A ls E hP hD hZ hl
  obtain ⟨hx, hb, hr, hml, hlocks, hin, hown, hts, hK, hA⟩ := E
  have hown : s.vm.findClass RX8 = some m.cls := hown
  have hS : va_S A s.heap s.heap [] := va_S.rf
  have hl : lv_has ls 4 [(0, .ref u0), (1, .ref h0)] := hl
  refine lv_aload_n hx hb dX8_readPart_0 rfl (lv_at hl 0 rfl) ?_
  refine sk_get (v := .ref (q 2)) (C := RX8) (T := TX8) (N := 2) hx hb hts inlX8 hown hK hP 0 rfl rfl 0 (by decide) w_1_100 rfl dX8_readPart_1 ?_
  refine sk_get (v := .int xt) (C := RX6) (T := TX6) (N := 8) hx hb hts inlX6 hown hK hP 1 rfl rfl 4 (by decide) w_1_63 rfl dX8_readPart_4 ?_
  refine lv_istore_n (lv' := [(2, .int xt), (0, .ref u0), (1, .ref h0)]) hx hb dX8_readPart_7 rfl hl (by decide) rfl (fun ls hl => ?_)
  refine lv_iload_n hx hb dX8_readPart_8 rfl (lv_at hl 0 rfl) ?_
  refine lv_bipush (v := (-3)) hx hb dX8_readPart_9 (by decide) ?_
  refine lv_icmp_ne (tgt := 32) hx hb dX8_readPart_11 (by decide) (fun c_1 => ?_) (fun c_1 => ?_)
  · skip
    refine lv_iload_n hx hb dX8_readPart_32 rfl (lv_at hl 0 rfl) ?_
    refine lv_bipush (v := 40) hx hb dX8_readPart_33 (by decide) ?_
    refine lv_icmp_ne (tgt := 74) hx hb dX8_readPart_35 (by decide) (fun c_2 => ?_) (fun c_2 => ?_)
    · skip
      refine lv_iload_n hx hb dX8_readPart_74 rfl (lv_at hl 0 rfl) ?_
      refine lv_sipush (v := 277) hx hb dX8_readPart_75 (by decide) ?_
      refine lv_icmp_eq (tgt := 88) hx hb dX8_readPart_78 (by decide) (fun c_3 => ?_) (fun c_3 => ?_)
      · skip
        refine lv_aload_n hx hb dX8_readPart_88 rfl (lv_at hl 1 rfl) ?_
        refine sk_get (v := .ref (q 2)) (C := RX8) (T := TX8) (N := 2) hx hb hts inlX8 hown hK hP 0 rfl rfl 0 (by decide) w_1_100 rfl dX8_readPart_89 ?_
        refine sk_VvZ (q0 := 0) (n := 0) (rest := []) (wr := [(u0, .inr (8, [.ref (q 2), .int kd])), (h0, .inr (0, [.ref k1, .ref k2, .ref k3, .ref k4, .int (nI cl), .int (nI mw)])), (k1, .inl (cI, 1600, .inl f1))]) ⟨hx, hb, hml, hown, hts⟩ hl.1 (c_rd_step l D cI cJ cC cZ cS zk zv zf q xa xv xo xt xz xf xp tl tb (by omega) (by omega) (by omega) htb) w_3_110 w_2_226 w_2_227 w_1_4 w_2_228 (by decide +kernel) ⟨⟨(by dsimp only; omega), (by dsimp only; omega)⟩, (by dsimp only; omega), (by dsimp only; omega)⟩ hK hP hD hS hZ hA [1, 2, 3] [0, 4, 5] rfl rfl (by decide +kernel) (by decide +kernel) (by decide +kernel) rfl rfl rfl rfl (Nat.le_of_ble_eq_true rfl) dX8_readPart_92 (fun u H locs hw hP hD hS => ?_)
        obtain ⟨xa2_4, xv2_5, xt2_6, xz2_7, hxa2_8, hxz2_9, rfl⟩ := hw
        have hP : va_P D vwCl [(u0, .inr (8, [.ref (q 2), .int kd])), (h0, .inr (0, [.ref k1, .ref k2, .ref k3, .ref k4, .int (nI cl), .int (nI mw)])), (k1, .inl (cI, 1600, .inl f1)), (q 2, .inr (6, [.ref (q 0), .int (nI xa2_4), .int xv2_5, .int (nI xo), .int xt2_6, .int (nI xz2_7), .int xf, .int xp])), (q 0, .inr (10, [.ref (q 20), .int (nI tl)])), (q 20, .inl (cI, 1600, .inl (fun j => nI (tb j))))] H := hP
        have hD : va_D A [(u0, .inr (8, [.ref (q 2), .int kd])), (h0, .inr (0, [.ref k1, .ref k2, .ref k3, .ref k4, .int (nI cl), .int (nI mw)])), (k1, .inl (cI, 1600, .inl f1)), (q 2, .inr (6, [.ref (q 0), .int (nI xa2_4), .int xv2_5, .int (nI xo), .int xt2_6, .int (nI xz2_7), .int xf, .int xp])), (q 0, .inr (10, [.ref (q 20), .int (nI tl)])), (q 20, .inl (cI, 1600, .inl (fun j => nI (tb j))))] := hD
        refine lv_aload_n hx hb dX8_readPart_95 rfl (lv_at hl 1 rfl) ?_
        refine lv_aload_n hx hb dX8_readPart_96 rfl (lv_at hl 2 rfl) ?_
        refine lv_iload_n hx hb dX8_readPart_97 rfl (lv_at hl 0 rfl) ?_
        refine lv_sipush (v := 277) hx hb dX8_readPart_98 (by decide) ?_
        refine lv_icmp_ne (tgt := 110) hx hb dX8_readPart_101 (by decide) (fun c_10 => ?_) (fun c_10 => ?_)
        · skip
          refine lv_sipush (v := 30005) hx hb dX8_readPart_110 (by decide) ?_
          refine sk_VvZ (q0 := 0) (n := 2) (rest := []) (wr := []) ⟨hx, hb, hml, hown, hts⟩ hl.1 (hq q u0 kd xa2_4 xv2_5 xo xt2_6 xz2_7 xf xp tl tb h0 k1 k2 k3 k4 cl mw f1 30005 (by omega) (by omega) (by omega) htb (by omega) (by omega) (by omega)) w_3_111 w_3_113 w_0_9 w_1_6 w_3_114 (by decide +kernel) ⟨⟨(by dsimp only; omega), (by dsimp only; omega)⟩, (by dsimp only; omega), (by dsimp only; omega)⟩ hK hP hD hS hZ hA [0, 3, 4, 5, 1, 2] [] rfl rfl (by decide +kernel) (by decide +kernel) (by decide +kernel) rfl rfl rfl rfl (Nat.le_of_ble_eq_true rfl) dX8_readPart_113 (fun u H locs hw hP hD hS => ?_)
          obtain ⟨xa2_11, xv2_12, xt2_13, xz2_14, xf2_15, xp2_16, c2_17, w2_18, g1_19, hxa2_20, hxz2_21, hc2_22, hw2_23, rfl⟩ := hw
          have hP : va_P D vwCl [(u0, .inr (8, [.ref (q 2), .int kd])), (q 2, .inr (6, [.ref (q 0), .int (nI xa2_11), .int xv2_12, .int (nI xo), .int xt2_13, .int (nI xz2_14), .int xf2_15, .int xp2_16])), (q 0, .inr (10, [.ref (q 20), .int (nI tl)])), (q 20, .inl (cI, 1600, .inl (fun j => nI (tb j)))), (h0, .inr (0, [.ref k1, .ref k2, .ref k3, .ref k4, .int (nI c2_17), .int (nI w2_18)])), (k1, .inl (cI, 1600, .inl g1_19))] H := hP
          have hD : va_D A [(u0, .inr (8, [.ref (q 2), .int kd])), (q 2, .inr (6, [.ref (q 0), .int (nI xa2_11), .int xv2_12, .int (nI xo), .int xt2_13, .int (nI xz2_14), .int xf2_15, .int xp2_16])), (q 0, .inr (10, [.ref (q 20), .int (nI tl)])), (q 20, .inl (cI, 1600, .inl (fun j => nI (tb j)))), (h0, .inr (0, [.ref k1, .ref k2, .ref k3, .ref k4, .int (nI c2_17), .int (nI w2_18)])), (k1, .inl (cI, 1600, .inl g1_19))] := hD
          refine lv_goto (tgt := 217) hx hb dX8_readPart_116 (by decide) ?_
          exact sk_vret hx hb hr hlocks hK hP hD hS (⟨xa2_11, xv2_12, xt2_13, xz2_14, xf2_15, xp2_16, c2_17, w2_18, g1_19, by omega, by omega, by omega, by omega, rfl⟩) (Nat.le_of_ble_eq_true rfl) (Nat.le_of_ble_eq_true rfl) dX8_readPart_217
        · skip
          refine lv_sipush (v := 30004) hx hb dX8_readPart_104 (by decide) ?_
          refine lv_goto (tgt := 113) hx hb dX8_readPart_107 (by decide) ?_
          refine sk_VvZ (q0 := 0) (n := 2) (rest := []) (wr := []) ⟨hx, hb, hml, hown, hts⟩ hl.1 (hq q u0 kd xa2_4 xv2_5 xo xt2_6 xz2_7 xf xp tl tb h0 k1 k2 k3 k4 cl mw f1 30004 (by omega) (by omega) (by omega) htb (by omega) (by omega) (by omega)) w_3_111 w_3_113 w_0_9 w_1_6 w_3_114 (by decide +kernel) ⟨⟨(by dsimp only; omega), (by dsimp only; omega)⟩, (by dsimp only; omega), (by dsimp only; omega)⟩ hK hP hD hS hZ hA [0, 3, 4, 5, 1, 2] [] rfl rfl (by decide +kernel) (by decide +kernel) (by decide +kernel) rfl rfl rfl rfl (Nat.le_of_ble_eq_true rfl) dX8_readPart_113 (fun u H locs hw hP hD hS => ?_)
          obtain ⟨xa2_24, xv2_25, xt2_26, xz2_27, xf2_28, xp2_29, c2_30, w2_31, g1_32, hxa2_33, hxz2_34, hc2_35, hw2_36, rfl⟩ := hw
          have hP : va_P D vwCl [(u0, .inr (8, [.ref (q 2), .int kd])), (q 2, .inr (6, [.ref (q 0), .int (nI xa2_24), .int xv2_25, .int (nI xo), .int xt2_26, .int (nI xz2_27), .int xf2_28, .int xp2_29])), (q 0, .inr (10, [.ref (q 20), .int (nI tl)])), (q 20, .inl (cI, 1600, .inl (fun j => nI (tb j)))), (h0, .inr (0, [.ref k1, .ref k2, .ref k3, .ref k4, .int (nI c2_30), .int (nI w2_31)])), (k1, .inl (cI, 1600, .inl g1_32))] H := hP
          have hD : va_D A [(u0, .inr (8, [.ref (q 2), .int kd])), (q 2, .inr (6, [.ref (q 0), .int (nI xa2_24), .int xv2_25, .int (nI xo), .int xt2_26, .int (nI xz2_27), .int xf2_28, .int xp2_29])), (q 0, .inr (10, [.ref (q 20), .int (nI tl)])), (q 20, .inl (cI, 1600, .inl (fun j => nI (tb j)))), (h0, .inr (0, [.ref k1, .ref k2, .ref k3, .ref k4, .int (nI c2_30), .int (nI w2_31)])), (k1, .inl (cI, 1600, .inl g1_32))] := hD
          refine lv_goto (tgt := 217) hx hb dX8_readPart_116 (by decide) ?_
          exact sk_vret hx hb hr hlocks hK hP hD hS (⟨xa2_24, xv2_25, xt2_26, xz2_27, xf2_28, xp2_29, c2_30, w2_31, g1_32, by omega, by omega, by omega, by omega, rfl⟩) (Nat.le_of_ble_eq_true rfl) (Nat.le_of_ble_eq_true rfl) dX8_readPart_217
      · skip
        refine lv_iload_n hx hb dX8_readPart_81 rfl (lv_at hl 0 rfl) ?_
        refine lv_sipush (v := 278) hx hb dX8_readPart_82 (by decide) ?_
        refine lv_icmp_ne (tgt := 119) hx hb dX8_readPart_85 (by decide) (fun c_37 => ?_) (fun c_37 => ?_)
        · skip
          refine lv_iload_n hx hb dX8_readPart_119 rfl (lv_at hl 0 rfl) ?_
          refine lv_sipush (v := 272) hx hb dX8_readPart_120 (by decide) ?_
          refine lv_icmp_ne (tgt := 169) hx hb dX8_readPart_123 (by decide) (fun c_38 => ?_) (fun c_38 => ?_)
          · skip
            refine lv_aload_n hx hb dX8_readPart_169 rfl (lv_at hl 1 rfl) ?_
            refine sk_get (v := .int kd) (C := RX8) (T := TX8) (N := 2) hx hb hts inlX8 hown hK hP 0 rfl rfl 1 (by decide) w_1_101 rfl dX8_readPart_170 ?_
            refine lv_iconst (v := 2) hx hb dX8_readPart_173 (by decide) ?_
            refine lv_icmp_ne (tgt := 184) hx hb dX8_readPart_174 (by decide) (fun c_39 => ?_) (fun c_39 => ?_)
            · skip
              refine lv_aload_n hx hb dX8_readPart_184 rfl (lv_at hl 1 rfl) ?_
              refine lv_iload_n hx hb dX8_readPart_185 rfl (lv_at hl 0 rfl) ?_
              refine sk_Vi (q0 := 0) (n := 1) (rest := []) (wr := [(q 2, .inr (6, [.ref (q 0), .int (nI xa), .int xv, .int (nI xo), .int xt, .int (nI xz), .int xf, .int xp])), (q 0, .inr (10, [.ref (q 20), .int (nI tl)])), (q 20, .inl (cI, 1600, .inl (fun j => nI (tb j)))), (h0, .inr (0, [.ref k1, .ref k2, .ref k3, .ref k4, .int (nI cl), .int (nI mw)])), (k1, .inl (cI, 1600, .inl f1))]) ⟨hx, hb, hml, hown, hts⟩ hl.1 (c_nameInLock l D cI cJ cC cZ cS u0 kd q xt) w_3_118 w_3_120 w_0_10 w_1_6 w_3_121 (by decide +kernel) ⟨⟨(by dsimp only; omega), (by dsimp only; omega)⟩, (by dsimp only; omega), (by dsimp only; omega)⟩ hK hP hD hS hA [0] [1, 2, 3, 4, 5] rfl rfl (by decide +kernel) (by decide +kernel) (by decide +kernel) rfl rfl rfl rfl (Nat.le_of_ble_eq_true rfl) dX8_readPart_186 (fun r_40 u H locs hw hP hD hS => ?_)
              obtain rfl := hw
              have hP : va_P D vwCl [(q 2, .inr (6, [.ref (q 0), .int (nI xa), .int xv, .int (nI xo), .int xt, .int (nI xz), .int xf, .int xp])), (q 0, .inr (10, [.ref (q 20), .int (nI tl)])), (q 20, .inl (cI, 1600, .inl (fun j => nI (tb j)))), (h0, .inr (0, [.ref k1, .ref k2, .ref k3, .ref k4, .int (nI cl), .int (nI mw)])), (k1, .inl (cI, 1600, .inl f1)), (u0, .inr (8, [.ref (q 2), .int kd]))] H := hP
              have hD : va_D A [(q 2, .inr (6, [.ref (q 0), .int (nI xa), .int xv, .int (nI xo), .int xt, .int (nI xz), .int xf, .int xp])), (q 0, .inr (10, [.ref (q 20), .int (nI tl)])), (q 20, .inl (cI, 1600, .inl (fun j => nI (tb j)))), (h0, .inr (0, [.ref k1, .ref k2, .ref k3, .ref k4, .int (nI cl), .int (nI mw)])), (k1, .inl (cI, 1600, .inl f1)), (u0, .inr (8, [.ref (q 2), .int kd]))] := hD
              refine lv_istore_n (lv' := [(3, .int r_40), (2, .int xt), (0, .ref u0), (1, .ref h0)]) hx hb dX8_readPart_189 rfl hl (by decide) rfl (fun ls hl => ?_)
              refine lv_iload_n hx hb dX8_readPart_190 rfl (lv_at hl 0 rfl) ?_
              refine lv_iconst (v := (-1)) hx hb dX8_readPart_191 (by decide) ?_
              refine lv_icmp_ne (tgt := 205) hx hb dX8_readPart_192 (by decide) (fun c_41 => ?_) (fun c_41 => ?_)
              · skip
                refine lv_aload_n hx hb dX8_readPart_205 rfl (lv_at hl 3 rfl) ?_
                refine lv_iload_n hx hb dX8_readPart_206 rfl (lv_at hl 0 rfl) ?_
                refine sk_Vv (q0 := 0) (n := 1) (rest := []) (wr := [(q 2, .inr (6, [.ref (q 0), .int (nI xa), .int xv, .int (nI xo), .int xt, .int (nI xz), .int xf, .int xp])), (q 0, .inr (10, [.ref (q 20), .int (nI tl)])), (q 20, .inl (cI, 1600, .inl (fun j => nI (tb j)))), (u0, .inr (8, [.ref (q 2), .int kd]))]) ⟨hx, hb, hml, hown, hts⟩ hl.1 (c_Code_add l D cI cJ cC cZ cS h0 k1 k2 k3 k4 cl mw f1 r_40 (by omega) (by omega)) w_3_97 w_3_98 w_3_99 w_1_8 w_3_100 (by decide +kernel) ⟨⟨(by dsimp only; omega), (by dsimp only; omega)⟩, (by dsimp only; omega), (by dsimp only; omega)⟩ hK hP hD hS hA [3, 4] [0, 1, 2, 5] rfl rfl (by decide +kernel) (by decide +kernel) (by decide +kernel) rfl rfl rfl rfl (Nat.le_of_ble_eq_true rfl) dX8_readPart_207 (fun u H locs hw hP hD hS => ?_)
                obtain ⟨c2_42, w2_43, g1_44, hc2_45, hw2_46, rfl⟩ := hw
                have hP : va_P D vwCl [(q 2, .inr (6, [.ref (q 0), .int (nI xa), .int xv, .int (nI xo), .int xt, .int (nI xz), .int xf, .int xp])), (q 0, .inr (10, [.ref (q 20), .int (nI tl)])), (q 20, .inl (cI, 1600, .inl (fun j => nI (tb j)))), (u0, .inr (8, [.ref (q 2), .int kd])), (h0, .inr (0, [.ref k1, .ref k2, .ref k3, .ref k4, .int (nI c2_42), .int (nI w2_43)])), (k1, .inl (cI, 1600, .inl g1_44))] H := hP
                have hD : va_D A [(q 2, .inr (6, [.ref (q 0), .int (nI xa), .int xv, .int (nI xo), .int xt, .int (nI xz), .int xf, .int xp])), (q 0, .inr (10, [.ref (q 20), .int (nI tl)])), (q 20, .inl (cI, 1600, .inl (fun j => nI (tb j)))), (u0, .inr (8, [.ref (q 2), .int kd])), (h0, .inr (0, [.ref k1, .ref k2, .ref k3, .ref k4, .int (nI c2_42), .int (nI w2_43)])), (k1, .inl (cI, 1600, .inl g1_44))] := hD
                refine lv_aload_n hx hb dX8_readPart_210 rfl (lv_at hl 2 rfl) ?_
                refine sk_get (v := .ref (q 2)) (C := RX8) (T := TX8) (N := 2) hx hb hts inlX8 hown hK hP 3 rfl rfl 0 (by decide) w_1_100 rfl dX8_readPart_211 ?_
                refine sk_VvZ (q0 := 0) (n := 0) (rest := []) (wr := [(u0, .inr (8, [.ref (q 2), .int kd])), (h0, .inr (0, [.ref k1, .ref k2, .ref k3, .ref k4, .int (nI c2_42), .int (nI w2_43)])), (k1, .inl (cI, 1600, .inl g1_44))]) ⟨hx, hb, hml, hown, hts⟩ hl.1 (c_rd_step l D cI cJ cC cZ cS zk zv zf q xa xv xo xt xz xf xp tl tb (by omega) (by omega) (by omega) htb) w_3_110 w_2_226 w_2_227 w_1_4 w_2_228 (by decide +kernel) ⟨⟨(by dsimp only; omega), (by dsimp only; omega)⟩, (by dsimp only; omega), (by dsimp only; omega)⟩ hK hP hD hS hZ hA [0, 1, 2] [3, 4, 5] rfl rfl (by decide +kernel) (by decide +kernel) (by decide +kernel) rfl rfl rfl rfl (Nat.le_of_ble_eq_true rfl) dX8_readPart_214 (fun u H locs hw hP hD hS => ?_)
                obtain ⟨xa2_47, xv2_48, xt2_49, xz2_50, hxa2_51, hxz2_52, rfl⟩ := hw
                have hP : va_P D vwCl [(u0, .inr (8, [.ref (q 2), .int kd])), (h0, .inr (0, [.ref k1, .ref k2, .ref k3, .ref k4, .int (nI c2_42), .int (nI w2_43)])), (k1, .inl (cI, 1600, .inl g1_44)), (q 2, .inr (6, [.ref (q 0), .int (nI xa2_47), .int xv2_48, .int (nI xo), .int xt2_49, .int (nI xz2_50), .int xf, .int xp])), (q 0, .inr (10, [.ref (q 20), .int (nI tl)])), (q 20, .inl (cI, 1600, .inl (fun j => nI (tb j))))] H := hP
                have hD : va_D A [(u0, .inr (8, [.ref (q 2), .int kd])), (h0, .inr (0, [.ref k1, .ref k2, .ref k3, .ref k4, .int (nI c2_42), .int (nI w2_43)])), (k1, .inl (cI, 1600, .inl g1_44)), (q 2, .inr (6, [.ref (q 0), .int (nI xa2_47), .int xv2_48, .int (nI xo), .int xt2_49, .int (nI xz2_50), .int xf, .int xp])), (q 0, .inr (10, [.ref (q 20), .int (nI tl)])), (q 20, .inl (cI, 1600, .inl (fun j => nI (tb j))))] := hD
                have hP := hP.sub (ws' := [(u0, .inr (8, [.ref (q 2), .int kd])), (q 2, .inr (6, [.ref (q 0), .int (nI xa2_47), .int xv2_48, .int (nI xo), .int xt2_49, .int (nI xz2_50), .int xf, .int xp])), (q 0, .inr (10, [.ref (q 20), .int (nI tl)])), (q 20, .inl (cI, 1600, .inl (fun j => nI (tb j)))), (h0, .inr (0, [.ref k1, .ref k2, .ref k3, .ref k4, .int (nI c2_42), .int (nI w2_43)])), (k1, .inl (cI, 1600, .inl g1_44))]) [0, 3, 4, 5, 1, 2] rfl
                have hD := hD.sub (ws' := [(u0, .inr (8, [.ref (q 2), .int kd])), (q 2, .inr (6, [.ref (q 0), .int (nI xa2_47), .int xv2_48, .int (nI xo), .int xt2_49, .int (nI xz2_50), .int xf, .int xp])), (q 0, .inr (10, [.ref (q 20), .int (nI tl)])), (q 20, .inl (cI, 1600, .inl (fun j => nI (tb j)))), (h0, .inr (0, [.ref k1, .ref k2, .ref k3, .ref k4, .int (nI c2_42), .int (nI w2_43)])), (k1, .inl (cI, 1600, .inl g1_44))]) [0, 3, 4, 5, 1, 2] (by decide +kernel) rfl
                exact sk_vret hx hb hr hlocks hK hP hD hS (⟨xa2_47, xv2_48, xt2_49, xz2_50, xf, xp, c2_42, w2_43, g1_44, by omega, by omega, by omega, by omega, rfl⟩) (Nat.le_of_ble_eq_true rfl) (Nat.le_of_ble_eq_true rfl) dX8_readPart_217
              · skip
                refine lv_aload_n hx hb dX8_readPart_195 rfl (lv_at hl 2 rfl) ?_
                refine sk_get (v := .ref (q 2)) (C := RX8) (T := TX8) (N := 2) hx hb hts inlX8 hown hK hP 5 rfl rfl 0 (by decide) w_1_100 rfl dX8_readPart_196 ?_
                refine sk_Vv (q0 := 0) (n := 0) (rest := []) (wr := [(q 0, .inr (10, [.ref (q 20), .int (nI tl)])), (q 20, .inl (cI, 1600, .inl (fun j => nI (tb j)))), (h0, .inr (0, [.ref k1, .ref k2, .ref k3, .ref k4, .int (nI cl), .int (nI mw)])), (k1, .inl (cI, 1600, .inl f1)), (u0, .inr (8, [.ref (q 2), .int kd]))]) ⟨hx, hb, hml, hown, hts⟩ hl.1 (c_rd_failHere l D cI cJ cC cZ cS q xa xv xo xt xz xf xp) w_3_122 w_3_55 w_3_56 w_1_4 w_3_57 (by decide +kernel) ⟨⟨(by dsimp only; omega), (by dsimp only; omega)⟩, (by dsimp only; omega), (by dsimp only; omega)⟩ hK hP hD hS hA [0] [1, 2, 3, 4, 5] rfl rfl (by decide +kernel) (by decide +kernel) (by decide +kernel) rfl rfl rfl rfl (Nat.le_of_ble_eq_true rfl) dX8_readPart_199 (fun u H locs hw hP hD hS => ?_)
                obtain ⟨xf2_53, xp2_54, rfl⟩ := hw
                have hP : va_P D vwCl [(q 0, .inr (10, [.ref (q 20), .int (nI tl)])), (q 20, .inl (cI, 1600, .inl (fun j => nI (tb j)))), (h0, .inr (0, [.ref k1, .ref k2, .ref k3, .ref k4, .int (nI cl), .int (nI mw)])), (k1, .inl (cI, 1600, .inl f1)), (u0, .inr (8, [.ref (q 2), .int kd])), (q 2, .inr (6, [.ref (q 0), .int (nI xa), .int xv, .int (nI xo), .int (-2), .int (nI xz), .int xf2_53, .int xp2_54]))] H := hP
                have hD : va_D A [(q 0, .inr (10, [.ref (q 20), .int (nI tl)])), (q 20, .inl (cI, 1600, .inl (fun j => nI (tb j)))), (h0, .inr (0, [.ref k1, .ref k2, .ref k3, .ref k4, .int (nI cl), .int (nI mw)])), (k1, .inl (cI, 1600, .inl f1)), (u0, .inr (8, [.ref (q 2), .int kd])), (q 2, .inr (6, [.ref (q 0), .int (nI xa), .int xv, .int (nI xo), .int (-2), .int (nI xz), .int xf2_53, .int xp2_54]))] := hD
                refine lv_goto (tgt := 217) hx hb dX8_readPart_202 (by decide) ?_
                have hP := hP.sub (ws' := [(u0, .inr (8, [.ref (q 2), .int kd])), (q 2, .inr (6, [.ref (q 0), .int (nI xa), .int xv, .int (nI xo), .int (-2), .int (nI xz), .int xf2_53, .int xp2_54])), (q 0, .inr (10, [.ref (q 20), .int (nI tl)])), (q 20, .inl (cI, 1600, .inl (fun j => nI (tb j)))), (h0, .inr (0, [.ref k1, .ref k2, .ref k3, .ref k4, .int (nI cl), .int (nI mw)])), (k1, .inl (cI, 1600, .inl f1))]) [4, 5, 0, 1, 2, 3] rfl
                have hD := hD.sub (ws' := [(u0, .inr (8, [.ref (q 2), .int kd])), (q 2, .inr (6, [.ref (q 0), .int (nI xa), .int xv, .int (nI xo), .int (-2), .int (nI xz), .int xf2_53, .int xp2_54])), (q 0, .inr (10, [.ref (q 20), .int (nI tl)])), (q 20, .inl (cI, 1600, .inl (fun j => nI (tb j)))), (h0, .inr (0, [.ref k1, .ref k2, .ref k3, .ref k4, .int (nI cl), .int (nI mw)])), (k1, .inl (cI, 1600, .inl f1))]) [4, 5, 0, 1, 2, 3] (by decide +kernel) rfl
                exact sk_vret hx hb hr hlocks hK hP hD hS (⟨xa, xv, (-2), xz, xf2_53, xp2_54, cl, mw, f1, by omega, by omega, by omega, by omega, rfl⟩) (Nat.le_of_ble_eq_true rfl) (Nat.le_of_ble_eq_true rfl) dX8_readPart_217
            · skip
              refine lv_iload_n hx hb dX8_readPart_177 rfl (lv_at hl 0 rfl) ?_
              refine sk_Si (n := 1) (rest := []) (wr := [(u0, .inr (8, [.ref (q 2), .int kd])), (q 2, .inr (6, [.ref (q 0), .int (nI xa), .int xv, .int (nI xo), .int xt, .int (nI xz), .int xf, .int xp])), (q 0, .inr (10, [.ref (q 20), .int (nI tl)])), (q 20, .inl (cI, 1600, .inl (fun j => nI (tb j)))), (h0, .inr (0, [.ref k1, .ref k2, .ref k3, .ref k4, .int (nI cl), .int (nI mw)])), (k1, .inl (cI, 1600, .inl f1))]) ⟨hx, hb, hml, hown, hts⟩ hl.1 (c_nameInQuestion l D cI cJ cC cZ cS xt) w_3_115 w_3_116 w_1_6 w_3_117 (by decide +kernel) ⟨⟨(by dsimp only; omega), (by dsimp only; omega)⟩, (by dsimp only; omega), (by dsimp only; omega)⟩ hK hP hD hS hA [] [0, 1, 2, 3, 4, 5] rfl rfl (by decide +kernel) (by decide +kernel) (by decide +kernel) rfl rfl (Nat.le_of_ble_eq_true rfl) dX8_readPart_178 (fun r_55 u H locs hw hP hD hS => ?_)
              obtain rfl := hw
              have hP : va_P D vwCl [(u0, .inr (8, [.ref (q 2), .int kd])), (q 2, .inr (6, [.ref (q 0), .int (nI xa), .int xv, .int (nI xo), .int xt, .int (nI xz), .int xf, .int xp])), (q 0, .inr (10, [.ref (q 20), .int (nI tl)])), (q 20, .inl (cI, 1600, .inl (fun j => nI (tb j)))), (h0, .inr (0, [.ref k1, .ref k2, .ref k3, .ref k4, .int (nI cl), .int (nI mw)])), (k1, .inl (cI, 1600, .inl f1))] H := hP
              have hD : va_D A [(u0, .inr (8, [.ref (q 2), .int kd])), (q 2, .inr (6, [.ref (q 0), .int (nI xa), .int xv, .int (nI xo), .int xt, .int (nI xz), .int xf, .int xp])), (q 0, .inr (10, [.ref (q 20), .int (nI tl)])), (q 20, .inl (cI, 1600, .inl (fun j => nI (tb j)))), (h0, .inr (0, [.ref k1, .ref k2, .ref k3, .ref k4, .int (nI cl), .int (nI mw)])), (k1, .inl (cI, 1600, .inl f1))] := hD
              refine lv_goto (tgt := 189) hx hb dX8_readPart_181 (by decide) ?_
              refine lv_istore_n (lv' := [(3, .int r_55), (2, .int xt), (0, .ref u0), (1, .ref h0)]) hx hb dX8_readPart_189 rfl hl (by decide) rfl (fun ls hl => ?_)
              refine lv_iload_n hx hb dX8_readPart_190 rfl (lv_at hl 0 rfl) ?_
              refine lv_iconst (v := (-1)) hx hb dX8_readPart_191 (by decide) ?_
              refine lv_icmp_ne (tgt := 205) hx hb dX8_readPart_192 (by decide) (fun c_56 => ?_) (fun c_56 => ?_)
              · skip
                refine lv_aload_n hx hb dX8_readPart_205 rfl (lv_at hl 3 rfl) ?_
                refine lv_iload_n hx hb dX8_readPart_206 rfl (lv_at hl 0 rfl) ?_
                refine sk_Vv (q0 := 0) (n := 1) (rest := []) (wr := [(u0, .inr (8, [.ref (q 2), .int kd])), (q 2, .inr (6, [.ref (q 0), .int (nI xa), .int xv, .int (nI xo), .int xt, .int (nI xz), .int xf, .int xp])), (q 0, .inr (10, [.ref (q 20), .int (nI tl)])), (q 20, .inl (cI, 1600, .inl (fun j => nI (tb j))))]) ⟨hx, hb, hml, hown, hts⟩ hl.1 (c_Code_add l D cI cJ cC cZ cS h0 k1 k2 k3 k4 cl mw f1 r_55 (by omega) (by omega)) w_3_97 w_3_98 w_3_99 w_1_8 w_3_100 (by decide +kernel) ⟨⟨(by dsimp only; omega), (by dsimp only; omega)⟩, (by dsimp only; omega), (by dsimp only; omega)⟩ hK hP hD hS hA [4, 5] [0, 1, 2, 3] rfl rfl (by decide +kernel) (by decide +kernel) (by decide +kernel) rfl rfl rfl rfl (Nat.le_of_ble_eq_true rfl) dX8_readPart_207 (fun u H locs hw hP hD hS => ?_)
                obtain ⟨c2_57, w2_58, g1_59, hc2_60, hw2_61, rfl⟩ := hw
                have hP : va_P D vwCl [(u0, .inr (8, [.ref (q 2), .int kd])), (q 2, .inr (6, [.ref (q 0), .int (nI xa), .int xv, .int (nI xo), .int xt, .int (nI xz), .int xf, .int xp])), (q 0, .inr (10, [.ref (q 20), .int (nI tl)])), (q 20, .inl (cI, 1600, .inl (fun j => nI (tb j)))), (h0, .inr (0, [.ref k1, .ref k2, .ref k3, .ref k4, .int (nI c2_57), .int (nI w2_58)])), (k1, .inl (cI, 1600, .inl g1_59))] H := hP
                have hD : va_D A [(u0, .inr (8, [.ref (q 2), .int kd])), (q 2, .inr (6, [.ref (q 0), .int (nI xa), .int xv, .int (nI xo), .int xt, .int (nI xz), .int xf, .int xp])), (q 0, .inr (10, [.ref (q 20), .int (nI tl)])), (q 20, .inl (cI, 1600, .inl (fun j => nI (tb j)))), (h0, .inr (0, [.ref k1, .ref k2, .ref k3, .ref k4, .int (nI c2_57), .int (nI w2_58)])), (k1, .inl (cI, 1600, .inl g1_59))] := hD
                refine lv_aload_n hx hb dX8_readPart_210 rfl (lv_at hl 2 rfl) ?_
                refine sk_get (v := .ref (q 2)) (C := RX8) (T := TX8) (N := 2) hx hb hts inlX8 hown hK hP 0 rfl rfl 0 (by decide) w_1_100 rfl dX8_readPart_211 ?_
                refine sk_VvZ (q0 := 0) (n := 0) (rest := []) (wr := [(u0, .inr (8, [.ref (q 2), .int kd])), (h0, .inr (0, [.ref k1, .ref k2, .ref k3, .ref k4, .int (nI c2_57), .int (nI w2_58)])), (k1, .inl (cI, 1600, .inl g1_59))]) ⟨hx, hb, hml, hown, hts⟩ hl.1 (c_rd_step l D cI cJ cC cZ cS zk zv zf q xa xv xo xt xz xf xp tl tb (by omega) (by omega) (by omega) htb) w_3_110 w_2_226 w_2_227 w_1_4 w_2_228 (by decide +kernel) ⟨⟨(by dsimp only; omega), (by dsimp only; omega)⟩, (by dsimp only; omega), (by dsimp only; omega)⟩ hK hP hD hS hZ hA [1, 2, 3] [0, 4, 5] rfl rfl (by decide +kernel) (by decide +kernel) (by decide +kernel) rfl rfl rfl rfl (Nat.le_of_ble_eq_true rfl) dX8_readPart_214 (fun u H locs hw hP hD hS => ?_)
                obtain ⟨xa2_62, xv2_63, xt2_64, xz2_65, hxa2_66, hxz2_67, rfl⟩ := hw
                have hP : va_P D vwCl [(u0, .inr (8, [.ref (q 2), .int kd])), (h0, .inr (0, [.ref k1, .ref k2, .ref k3, .ref k4, .int (nI c2_57), .int (nI w2_58)])), (k1, .inl (cI, 1600, .inl g1_59)), (q 2, .inr (6, [.ref (q 0), .int (nI xa2_62), .int xv2_63, .int (nI xo), .int xt2_64, .int (nI xz2_65), .int xf, .int xp])), (q 0, .inr (10, [.ref (q 20), .int (nI tl)])), (q 20, .inl (cI, 1600, .inl (fun j => nI (tb j))))] H := hP
                have hD : va_D A [(u0, .inr (8, [.ref (q 2), .int kd])), (h0, .inr (0, [.ref k1, .ref k2, .ref k3, .ref k4, .int (nI c2_57), .int (nI w2_58)])), (k1, .inl (cI, 1600, .inl g1_59)), (q 2, .inr (6, [.ref (q 0), .int (nI xa2_62), .int xv2_63, .int (nI xo), .int xt2_64, .int (nI xz2_65), .int xf, .int xp])), (q 0, .inr (10, [.ref (q 20), .int (nI tl)])), (q 20, .inl (cI, 1600, .inl (fun j => nI (tb j))))] := hD
                have hP := hP.sub (ws' := [(u0, .inr (8, [.ref (q 2), .int kd])), (q 2, .inr (6, [.ref (q 0), .int (nI xa2_62), .int xv2_63, .int (nI xo), .int xt2_64, .int (nI xz2_65), .int xf, .int xp])), (q 0, .inr (10, [.ref (q 20), .int (nI tl)])), (q 20, .inl (cI, 1600, .inl (fun j => nI (tb j)))), (h0, .inr (0, [.ref k1, .ref k2, .ref k3, .ref k4, .int (nI c2_57), .int (nI w2_58)])), (k1, .inl (cI, 1600, .inl g1_59))]) [0, 3, 4, 5, 1, 2] rfl
                have hD := hD.sub (ws' := [(u0, .inr (8, [.ref (q 2), .int kd])), (q 2, .inr (6, [.ref (q 0), .int (nI xa2_62), .int xv2_63, .int (nI xo), .int xt2_64, .int (nI xz2_65), .int xf, .int xp])), (q 0, .inr (10, [.ref (q 20), .int (nI tl)])), (q 20, .inl (cI, 1600, .inl (fun j => nI (tb j)))), (h0, .inr (0, [.ref k1, .ref k2, .ref k3, .ref k4, .int (nI c2_57), .int (nI w2_58)])), (k1, .inl (cI, 1600, .inl g1_59))]) [0, 3, 4, 5, 1, 2] (by decide +kernel) rfl
                exact sk_vret hx hb hr hlocks hK hP hD hS (⟨xa2_62, xv2_63, xt2_64, xz2_65, xf, xp, c2_57, w2_58, g1_59, by omega, by omega, by omega, by omega, rfl⟩) (Nat.le_of_ble_eq_true rfl) (Nat.le_of_ble_eq_true rfl) dX8_readPart_217
              · skip
                refine lv_aload_n hx hb dX8_readPart_195 rfl (lv_at hl 2 rfl) ?_
                refine sk_get (v := .ref (q 2)) (C := RX8) (T := TX8) (N := 2) hx hb hts inlX8 hown hK hP 0 rfl rfl 0 (by decide) w_1_100 rfl dX8_readPart_196 ?_
                refine sk_Vv (q0 := 0) (n := 0) (rest := []) (wr := [(u0, .inr (8, [.ref (q 2), .int kd])), (q 0, .inr (10, [.ref (q 20), .int (nI tl)])), (q 20, .inl (cI, 1600, .inl (fun j => nI (tb j)))), (h0, .inr (0, [.ref k1, .ref k2, .ref k3, .ref k4, .int (nI cl), .int (nI mw)])), (k1, .inl (cI, 1600, .inl f1))]) ⟨hx, hb, hml, hown, hts⟩ hl.1 (c_rd_failHere l D cI cJ cC cZ cS q xa xv xo xt xz xf xp) w_3_122 w_3_55 w_3_56 w_1_4 w_3_57 (by decide +kernel) ⟨⟨(by dsimp only; omega), (by dsimp only; omega)⟩, (by dsimp only; omega), (by dsimp only; omega)⟩ hK hP hD hS hA [1] [0, 2, 3, 4, 5] rfl rfl (by decide +kernel) (by decide +kernel) (by decide +kernel) rfl rfl rfl rfl (Nat.le_of_ble_eq_true rfl) dX8_readPart_199 (fun u H locs hw hP hD hS => ?_)
                obtain ⟨xf2_68, xp2_69, rfl⟩ := hw
                have hP : va_P D vwCl [(u0, .inr (8, [.ref (q 2), .int kd])), (q 0, .inr (10, [.ref (q 20), .int (nI tl)])), (q 20, .inl (cI, 1600, .inl (fun j => nI (tb j)))), (h0, .inr (0, [.ref k1, .ref k2, .ref k3, .ref k4, .int (nI cl), .int (nI mw)])), (k1, .inl (cI, 1600, .inl f1)), (q 2, .inr (6, [.ref (q 0), .int (nI xa), .int xv, .int (nI xo), .int (-2), .int (nI xz), .int xf2_68, .int xp2_69]))] H := hP
                have hD : va_D A [(u0, .inr (8, [.ref (q 2), .int kd])), (q 0, .inr (10, [.ref (q 20), .int (nI tl)])), (q 20, .inl (cI, 1600, .inl (fun j => nI (tb j)))), (h0, .inr (0, [.ref k1, .ref k2, .ref k3, .ref k4, .int (nI cl), .int (nI mw)])), (k1, .inl (cI, 1600, .inl f1)), (q 2, .inr (6, [.ref (q 0), .int (nI xa), .int xv, .int (nI xo), .int (-2), .int (nI xz), .int xf2_68, .int xp2_69]))] := hD
                refine lv_goto (tgt := 217) hx hb dX8_readPart_202 (by decide) ?_
                have hP := hP.sub (ws' := [(u0, .inr (8, [.ref (q 2), .int kd])), (q 2, .inr (6, [.ref (q 0), .int (nI xa), .int xv, .int (nI xo), .int (-2), .int (nI xz), .int xf2_68, .int xp2_69])), (q 0, .inr (10, [.ref (q 20), .int (nI tl)])), (q 20, .inl (cI, 1600, .inl (fun j => nI (tb j)))), (h0, .inr (0, [.ref k1, .ref k2, .ref k3, .ref k4, .int (nI cl), .int (nI mw)])), (k1, .inl (cI, 1600, .inl f1))]) [0, 5, 1, 2, 3, 4] rfl
                have hD := hD.sub (ws' := [(u0, .inr (8, [.ref (q 2), .int kd])), (q 2, .inr (6, [.ref (q 0), .int (nI xa), .int xv, .int (nI xo), .int (-2), .int (nI xz), .int xf2_68, .int xp2_69])), (q 0, .inr (10, [.ref (q 20), .int (nI tl)])), (q 20, .inl (cI, 1600, .inl (fun j => nI (tb j)))), (h0, .inr (0, [.ref k1, .ref k2, .ref k3, .ref k4, .int (nI cl), .int (nI mw)])), (k1, .inl (cI, 1600, .inl f1))]) [0, 5, 1, 2, 3, 4] (by decide +kernel) rfl
                exact sk_vret hx hb hr hlocks hK hP hD hS (⟨xa, xv, (-2), xz, xf2_68, xp2_69, cl, mw, f1, by omega, by omega, by omega, by omega, rfl⟩) (Nat.le_of_ble_eq_true rfl) (Nat.le_of_ble_eq_true rfl) dX8_readPart_217
          · skip
            refine lv_aload_n hx hb dX8_readPart_126 rfl (lv_at hl 1 rfl) ?_
            refine sk_get (v := .int kd) (C := RX8) (T := TX8) (N := 2) hx hb hts inlX8 hown hK hP 0 rfl rfl 1 (by decide) w_1_101 rfl dX8_readPart_127 ?_
            refine lv_iconst (v := 2) hx hb dX8_readPart_130 (by decide) ?_
            refine lv_icmp_ne (tgt := 169) hx hb dX8_readPart_131 (by decide) (fun c_70 => ?_) (fun c_70 => ?_)
            · skip
              refine lv_aload_n hx hb dX8_readPart_169 rfl (lv_at hl 1 rfl) ?_
              refine sk_get (v := .int kd) (C := RX8) (T := TX8) (N := 2) hx hb hts inlX8 hown hK hP 0 rfl rfl 1 (by decide) w_1_101 rfl dX8_readPart_170 ?_
              refine lv_iconst (v := 2) hx hb dX8_readPart_173 (by decide) ?_
              refine lv_icmp_ne (tgt := 184) hx hb dX8_readPart_174 (by decide) (fun c_71 => ?_) (fun c_71 => ?_)
              · skip
                refine lv_aload_n hx hb dX8_readPart_184 rfl (lv_at hl 1 rfl) ?_
                refine lv_iload_n hx hb dX8_readPart_185 rfl (lv_at hl 0 rfl) ?_
                refine sk_Vi (q0 := 0) (n := 1) (rest := []) (wr := [(q 2, .inr (6, [.ref (q 0), .int (nI xa), .int xv, .int (nI xo), .int xt, .int (nI xz), .int xf, .int xp])), (q 0, .inr (10, [.ref (q 20), .int (nI tl)])), (q 20, .inl (cI, 1600, .inl (fun j => nI (tb j)))), (h0, .inr (0, [.ref k1, .ref k2, .ref k3, .ref k4, .int (nI cl), .int (nI mw)])), (k1, .inl (cI, 1600, .inl f1))]) ⟨hx, hb, hml, hown, hts⟩ hl.1 (c_nameInLock l D cI cJ cC cZ cS u0 kd q xt) w_3_118 w_3_120 w_0_10 w_1_6 w_3_121 (by decide +kernel) ⟨⟨(by dsimp only; omega), (by dsimp only; omega)⟩, (by dsimp only; omega), (by dsimp only; omega)⟩ hK hP hD hS hA [0] [1, 2, 3, 4, 5] rfl rfl (by decide +kernel) (by decide +kernel) (by decide +kernel) rfl rfl rfl rfl (Nat.le_of_ble_eq_true rfl) dX8_readPart_186 (fun r_72 u H locs hw hP hD hS => ?_)
                obtain rfl := hw
                have hP : va_P D vwCl [(q 2, .inr (6, [.ref (q 0), .int (nI xa), .int xv, .int (nI xo), .int xt, .int (nI xz), .int xf, .int xp])), (q 0, .inr (10, [.ref (q 20), .int (nI tl)])), (q 20, .inl (cI, 1600, .inl (fun j => nI (tb j)))), (h0, .inr (0, [.ref k1, .ref k2, .ref k3, .ref k4, .int (nI cl), .int (nI mw)])), (k1, .inl (cI, 1600, .inl f1)), (u0, .inr (8, [.ref (q 2), .int kd]))] H := hP
                have hD : va_D A [(q 2, .inr (6, [.ref (q 0), .int (nI xa), .int xv, .int (nI xo), .int xt, .int (nI xz), .int xf, .int xp])), (q 0, .inr (10, [.ref (q 20), .int (nI tl)])), (q 20, .inl (cI, 1600, .inl (fun j => nI (tb j)))), (h0, .inr (0, [.ref k1, .ref k2, .ref k3, .ref k4, .int (nI cl), .int (nI mw)])), (k1, .inl (cI, 1600, .inl f1)), (u0, .inr (8, [.ref (q 2), .int kd]))] := hD
                refine lv_istore_n (lv' := [(3, .int r_72), (2, .int xt), (0, .ref u0), (1, .ref h0)]) hx hb dX8_readPart_189 rfl hl (by decide) rfl (fun ls hl => ?_)
                refine lv_iload_n hx hb dX8_readPart_190 rfl (lv_at hl 0 rfl) ?_
                refine lv_iconst (v := (-1)) hx hb dX8_readPart_191 (by decide) ?_
                refine lv_icmp_ne (tgt := 205) hx hb dX8_readPart_192 (by decide) (fun c_73 => ?_) (fun c_73 => ?_)
                · skip
                  refine lv_aload_n hx hb dX8_readPart_205 rfl (lv_at hl 3 rfl) ?_
                  refine lv_iload_n hx hb dX8_readPart_206 rfl (lv_at hl 0 rfl) ?_
                  refine sk_Vv (q0 := 0) (n := 1) (rest := []) (wr := [(q 2, .inr (6, [.ref (q 0), .int (nI xa), .int xv, .int (nI xo), .int xt, .int (nI xz), .int xf, .int xp])), (q 0, .inr (10, [.ref (q 20), .int (nI tl)])), (q 20, .inl (cI, 1600, .inl (fun j => nI (tb j)))), (u0, .inr (8, [.ref (q 2), .int kd]))]) ⟨hx, hb, hml, hown, hts⟩ hl.1 (c_Code_add l D cI cJ cC cZ cS h0 k1 k2 k3 k4 cl mw f1 r_72 (by omega) (by omega)) w_3_97 w_3_98 w_3_99 w_1_8 w_3_100 (by decide +kernel) ⟨⟨(by dsimp only; omega), (by dsimp only; omega)⟩, (by dsimp only; omega), (by dsimp only; omega)⟩ hK hP hD hS hA [3, 4] [0, 1, 2, 5] rfl rfl (by decide +kernel) (by decide +kernel) (by decide +kernel) rfl rfl rfl rfl (Nat.le_of_ble_eq_true rfl) dX8_readPart_207 (fun u H locs hw hP hD hS => ?_)
                  obtain ⟨c2_74, w2_75, g1_76, hc2_77, hw2_78, rfl⟩ := hw
                  have hP : va_P D vwCl [(q 2, .inr (6, [.ref (q 0), .int (nI xa), .int xv, .int (nI xo), .int xt, .int (nI xz), .int xf, .int xp])), (q 0, .inr (10, [.ref (q 20), .int (nI tl)])), (q 20, .inl (cI, 1600, .inl (fun j => nI (tb j)))), (u0, .inr (8, [.ref (q 2), .int kd])), (h0, .inr (0, [.ref k1, .ref k2, .ref k3, .ref k4, .int (nI c2_74), .int (nI w2_75)])), (k1, .inl (cI, 1600, .inl g1_76))] H := hP
                  have hD : va_D A [(q 2, .inr (6, [.ref (q 0), .int (nI xa), .int xv, .int (nI xo), .int xt, .int (nI xz), .int xf, .int xp])), (q 0, .inr (10, [.ref (q 20), .int (nI tl)])), (q 20, .inl (cI, 1600, .inl (fun j => nI (tb j)))), (u0, .inr (8, [.ref (q 2), .int kd])), (h0, .inr (0, [.ref k1, .ref k2, .ref k3, .ref k4, .int (nI c2_74), .int (nI w2_75)])), (k1, .inl (cI, 1600, .inl g1_76))] := hD
                  refine lv_aload_n hx hb dX8_readPart_210 rfl (lv_at hl 2 rfl) ?_
                  refine sk_get (v := .ref (q 2)) (C := RX8) (T := TX8) (N := 2) hx hb hts inlX8 hown hK hP 3 rfl rfl 0 (by decide) w_1_100 rfl dX8_readPart_211 ?_
                  refine sk_VvZ (q0 := 0) (n := 0) (rest := []) (wr := [(u0, .inr (8, [.ref (q 2), .int kd])), (h0, .inr (0, [.ref k1, .ref k2, .ref k3, .ref k4, .int (nI c2_74), .int (nI w2_75)])), (k1, .inl (cI, 1600, .inl g1_76))]) ⟨hx, hb, hml, hown, hts⟩ hl.1 (c_rd_step l D cI cJ cC cZ cS zk zv zf q xa xv xo xt xz xf xp tl tb (by omega) (by omega) (by omega) htb) w_3_110 w_2_226 w_2_227 w_1_4 w_2_228 (by decide +kernel) ⟨⟨(by dsimp only; omega), (by dsimp only; omega)⟩, (by dsimp only; omega), (by dsimp only; omega)⟩ hK hP hD hS hZ hA [0, 1, 2] [3, 4, 5] rfl rfl (by decide +kernel) (by decide +kernel) (by decide +kernel) rfl rfl rfl rfl (Nat.le_of_ble_eq_true rfl) dX8_readPart_214 (fun u H locs hw hP hD hS => ?_)
                  obtain ⟨xa2_79, xv2_80, xt2_81, xz2_82, hxa2_83, hxz2_84, rfl⟩ := hw
                  have hP : va_P D vwCl [(u0, .inr (8, [.ref (q 2), .int kd])), (h0, .inr (0, [.ref k1, .ref k2, .ref k3, .ref k4, .int (nI c2_74), .int (nI w2_75)])), (k1, .inl (cI, 1600, .inl g1_76)), (q 2, .inr (6, [.ref (q 0), .int (nI xa2_79), .int xv2_80, .int (nI xo), .int xt2_81, .int (nI xz2_82), .int xf, .int xp])), (q 0, .inr (10, [.ref (q 20), .int (nI tl)])), (q 20, .inl (cI, 1600, .inl (fun j => nI (tb j))))] H := hP
                  have hD : va_D A [(u0, .inr (8, [.ref (q 2), .int kd])), (h0, .inr (0, [.ref k1, .ref k2, .ref k3, .ref k4, .int (nI c2_74), .int (nI w2_75)])), (k1, .inl (cI, 1600, .inl g1_76)), (q 2, .inr (6, [.ref (q 0), .int (nI xa2_79), .int xv2_80, .int (nI xo), .int xt2_81, .int (nI xz2_82), .int xf, .int xp])), (q 0, .inr (10, [.ref (q 20), .int (nI tl)])), (q 20, .inl (cI, 1600, .inl (fun j => nI (tb j))))] := hD
                  have hP := hP.sub (ws' := [(u0, .inr (8, [.ref (q 2), .int kd])), (q 2, .inr (6, [.ref (q 0), .int (nI xa2_79), .int xv2_80, .int (nI xo), .int xt2_81, .int (nI xz2_82), .int xf, .int xp])), (q 0, .inr (10, [.ref (q 20), .int (nI tl)])), (q 20, .inl (cI, 1600, .inl (fun j => nI (tb j)))), (h0, .inr (0, [.ref k1, .ref k2, .ref k3, .ref k4, .int (nI c2_74), .int (nI w2_75)])), (k1, .inl (cI, 1600, .inl g1_76))]) [0, 3, 4, 5, 1, 2] rfl
                  have hD := hD.sub (ws' := [(u0, .inr (8, [.ref (q 2), .int kd])), (q 2, .inr (6, [.ref (q 0), .int (nI xa2_79), .int xv2_80, .int (nI xo), .int xt2_81, .int (nI xz2_82), .int xf, .int xp])), (q 0, .inr (10, [.ref (q 20), .int (nI tl)])), (q 20, .inl (cI, 1600, .inl (fun j => nI (tb j)))), (h0, .inr (0, [.ref k1, .ref k2, .ref k3, .ref k4, .int (nI c2_74), .int (nI w2_75)])), (k1, .inl (cI, 1600, .inl g1_76))]) [0, 3, 4, 5, 1, 2] (by decide +kernel) rfl
                  exact sk_vret hx hb hr hlocks hK hP hD hS (⟨xa2_79, xv2_80, xt2_81, xz2_82, xf, xp, c2_74, w2_75, g1_76, by omega, by omega, by omega, by omega, rfl⟩) (Nat.le_of_ble_eq_true rfl) (Nat.le_of_ble_eq_true rfl) dX8_readPart_217
                · skip
                  refine lv_aload_n hx hb dX8_readPart_195 rfl (lv_at hl 2 rfl) ?_
                  refine sk_get (v := .ref (q 2)) (C := RX8) (T := TX8) (N := 2) hx hb hts inlX8 hown hK hP 5 rfl rfl 0 (by decide) w_1_100 rfl dX8_readPart_196 ?_
                  refine sk_Vv (q0 := 0) (n := 0) (rest := []) (wr := [(q 0, .inr (10, [.ref (q 20), .int (nI tl)])), (q 20, .inl (cI, 1600, .inl (fun j => nI (tb j)))), (h0, .inr (0, [.ref k1, .ref k2, .ref k3, .ref k4, .int (nI cl), .int (nI mw)])), (k1, .inl (cI, 1600, .inl f1)), (u0, .inr (8, [.ref (q 2), .int kd]))]) ⟨hx, hb, hml, hown, hts⟩ hl.1 (c_rd_failHere l D cI cJ cC cZ cS q xa xv xo xt xz xf xp) w_3_122 w_3_55 w_3_56 w_1_4 w_3_57 (by decide +kernel) ⟨⟨(by dsimp only; omega), (by dsimp only; omega)⟩, (by dsimp only; omega), (by dsimp only; omega)⟩ hK hP hD hS hA [0] [1, 2, 3, 4, 5] rfl rfl (by decide +kernel) (by decide +kernel) (by decide +kernel) rfl rfl rfl rfl (Nat.le_of_ble_eq_true rfl) dX8_readPart_199 (fun u H locs hw hP hD hS => ?_)
                  obtain ⟨xf2_85, xp2_86, rfl⟩ := hw
                  have hP : va_P D vwCl [(q 0, .inr (10, [.ref (q 20), .int (nI tl)])), (q 20, .inl (cI, 1600, .inl (fun j => nI (tb j)))), (h0, .inr (0, [.ref k1, .ref k2, .ref k3, .ref k4, .int (nI cl), .int (nI mw)])), (k1, .inl (cI, 1600, .inl f1)), (u0, .inr (8, [.ref (q 2), .int kd])), (q 2, .inr (6, [.ref (q 0), .int (nI xa), .int xv, .int (nI xo), .int (-2), .int (nI xz), .int xf2_85, .int xp2_86]))] H := hP
                  have hD : va_D A [(q 0, .inr (10, [.ref (q 20), .int (nI tl)])), (q 20, .inl (cI, 1600, .inl (fun j => nI (tb j)))), (h0, .inr (0, [.ref k1, .ref k2, .ref k3, .ref k4, .int (nI cl), .int (nI mw)])), (k1, .inl (cI, 1600, .inl f1)), (u0, .inr (8, [.ref (q 2), .int kd])), (q 2, .inr (6, [.ref (q 0), .int (nI xa), .int xv, .int (nI xo), .int (-2), .int (nI xz), .int xf2_85, .int xp2_86]))] := hD
                  refine lv_goto (tgt := 217) hx hb dX8_readPart_202 (by decide) ?_
                  have hP := hP.sub (ws' := [(u0, .inr (8, [.ref (q 2), .int kd])), (q 2, .inr (6, [.ref (q 0), .int (nI xa), .int xv, .int (nI xo), .int (-2), .int (nI xz), .int xf2_85, .int xp2_86])), (q 0, .inr (10, [.ref (q 20), .int (nI tl)])), (q 20, .inl (cI, 1600, .inl (fun j => nI (tb j)))), (h0, .inr (0, [.ref k1, .ref k2, .ref k3, .ref k4, .int (nI cl), .int (nI mw)])), (k1, .inl (cI, 1600, .inl f1))]) [4, 5, 0, 1, 2, 3] rfl
                  have hD := hD.sub (ws' := [(u0, .inr (8, [.ref (q 2), .int kd])), (q 2, .inr (6, [.ref (q 0), .int (nI xa), .int xv, .int (nI xo), .int (-2), .int (nI xz), .int xf2_85, .int xp2_86])), (q 0, .inr (10, [.ref (q 20), .int (nI tl)])), (q 20, .inl (cI, 1600, .inl (fun j => nI (tb j)))), (h0, .inr (0, [.ref k1, .ref k2, .ref k3, .ref k4, .int (nI cl), .int (nI mw)])), (k1, .inl (cI, 1600, .inl f1))]) [4, 5, 0, 1, 2, 3] (by decide +kernel) rfl
                  exact sk_vret hx hb hr hlocks hK hP hD hS (⟨xa, xv, (-2), xz, xf2_85, xp2_86, cl, mw, f1, by omega, by omega, by omega, by omega, rfl⟩) (Nat.le_of_ble_eq_true rfl) (Nat.le_of_ble_eq_true rfl) dX8_readPart_217
              · skip
                refine lv_iload_n hx hb dX8_readPart_177 rfl (lv_at hl 0 rfl) ?_
                refine sk_Si (n := 1) (rest := []) (wr := [(u0, .inr (8, [.ref (q 2), .int kd])), (q 2, .inr (6, [.ref (q 0), .int (nI xa), .int xv, .int (nI xo), .int xt, .int (nI xz), .int xf, .int xp])), (q 0, .inr (10, [.ref (q 20), .int (nI tl)])), (q 20, .inl (cI, 1600, .inl (fun j => nI (tb j)))), (h0, .inr (0, [.ref k1, .ref k2, .ref k3, .ref k4, .int (nI cl), .int (nI mw)])), (k1, .inl (cI, 1600, .inl f1))]) ⟨hx, hb, hml, hown, hts⟩ hl.1 (c_nameInQuestion l D cI cJ cC cZ cS xt) w_3_115 w_3_116 w_1_6 w_3_117 (by decide +kernel) ⟨⟨(by dsimp only; omega), (by dsimp only; omega)⟩, (by dsimp only; omega), (by dsimp only; omega)⟩ hK hP hD hS hA [] [0, 1, 2, 3, 4, 5] rfl rfl (by decide +kernel) (by decide +kernel) (by decide +kernel) rfl rfl (Nat.le_of_ble_eq_true rfl) dX8_readPart_178 (fun r_87 u H locs hw hP hD hS => ?_)
                obtain rfl := hw
                have hP : va_P D vwCl [(u0, .inr (8, [.ref (q 2), .int kd])), (q 2, .inr (6, [.ref (q 0), .int (nI xa), .int xv, .int (nI xo), .int xt, .int (nI xz), .int xf, .int xp])), (q 0, .inr (10, [.ref (q 20), .int (nI tl)])), (q 20, .inl (cI, 1600, .inl (fun j => nI (tb j)))), (h0, .inr (0, [.ref k1, .ref k2, .ref k3, .ref k4, .int (nI cl), .int (nI mw)])), (k1, .inl (cI, 1600, .inl f1))] H := hP
                have hD : va_D A [(u0, .inr (8, [.ref (q 2), .int kd])), (q 2, .inr (6, [.ref (q 0), .int (nI xa), .int xv, .int (nI xo), .int xt, .int (nI xz), .int xf, .int xp])), (q 0, .inr (10, [.ref (q 20), .int (nI tl)])), (q 20, .inl (cI, 1600, .inl (fun j => nI (tb j)))), (h0, .inr (0, [.ref k1, .ref k2, .ref k3, .ref k4, .int (nI cl), .int (nI mw)])), (k1, .inl (cI, 1600, .inl f1))] := hD
                refine lv_goto (tgt := 189) hx hb dX8_readPart_181 (by decide) ?_
                refine lv_istore_n (lv' := [(3, .int r_87), (2, .int xt), (0, .ref u0), (1, .ref h0)]) hx hb dX8_readPart_189 rfl hl (by decide) rfl (fun ls hl => ?_)
                refine lv_iload_n hx hb dX8_readPart_190 rfl (lv_at hl 0 rfl) ?_
                refine lv_iconst (v := (-1)) hx hb dX8_readPart_191 (by decide) ?_
                refine lv_icmp_ne (tgt := 205) hx hb dX8_readPart_192 (by decide) (fun c_88 => ?_) (fun c_88 => ?_)
                · skip
                  refine lv_aload_n hx hb dX8_readPart_205 rfl (lv_at hl 3 rfl) ?_
                  refine lv_iload_n hx hb dX8_readPart_206 rfl (lv_at hl 0 rfl) ?_
                  refine sk_Vv (q0 := 0) (n := 1) (rest := []) (wr := [(u0, .inr (8, [.ref (q 2), .int kd])), (q 2, .inr (6, [.ref (q 0), .int (nI xa), .int xv, .int (nI xo), .int xt, .int (nI xz), .int xf, .int xp])), (q 0, .inr (10, [.ref (q 20), .int (nI tl)])), (q 20, .inl (cI, 1600, .inl (fun j => nI (tb j))))]) ⟨hx, hb, hml, hown, hts⟩ hl.1 (c_Code_add l D cI cJ cC cZ cS h0 k1 k2 k3 k4 cl mw f1 r_87 (by omega) (by omega)) w_3_97 w_3_98 w_3_99 w_1_8 w_3_100 (by decide +kernel) ⟨⟨(by dsimp only; omega), (by dsimp only; omega)⟩, (by dsimp only; omega), (by dsimp only; omega)⟩ hK hP hD hS hA [4, 5] [0, 1, 2, 3] rfl rfl (by decide +kernel) (by decide +kernel) (by decide +kernel) rfl rfl rfl rfl (Nat.le_of_ble_eq_true rfl) dX8_readPart_207 (fun u H locs hw hP hD hS => ?_)
                  obtain ⟨c2_89, w2_90, g1_91, hc2_92, hw2_93, rfl⟩ := hw
                  have hP : va_P D vwCl [(u0, .inr (8, [.ref (q 2), .int kd])), (q 2, .inr (6, [.ref (q 0), .int (nI xa), .int xv, .int (nI xo), .int xt, .int (nI xz), .int xf, .int xp])), (q 0, .inr (10, [.ref (q 20), .int (nI tl)])), (q 20, .inl (cI, 1600, .inl (fun j => nI (tb j)))), (h0, .inr (0, [.ref k1, .ref k2, .ref k3, .ref k4, .int (nI c2_89), .int (nI w2_90)])), (k1, .inl (cI, 1600, .inl g1_91))] H := hP
                  have hD : va_D A [(u0, .inr (8, [.ref (q 2), .int kd])), (q 2, .inr (6, [.ref (q 0), .int (nI xa), .int xv, .int (nI xo), .int xt, .int (nI xz), .int xf, .int xp])), (q 0, .inr (10, [.ref (q 20), .int (nI tl)])), (q 20, .inl (cI, 1600, .inl (fun j => nI (tb j)))), (h0, .inr (0, [.ref k1, .ref k2, .ref k3, .ref k4, .int (nI c2_89), .int (nI w2_90)])), (k1, .inl (cI, 1600, .inl g1_91))] := hD
                  refine lv_aload_n hx hb dX8_readPart_210 rfl (lv_at hl 2 rfl) ?_
                  refine sk_get (v := .ref (q 2)) (C := RX8) (T := TX8) (N := 2) hx hb hts inlX8 hown hK hP 0 rfl rfl 0 (by decide) w_1_100 rfl dX8_readPart_211 ?_
                  refine sk_VvZ (q0 := 0) (n := 0) (rest := []) (wr := [(u0, .inr (8, [.ref (q 2), .int kd])), (h0, .inr (0, [.ref k1, .ref k2, .ref k3, .ref k4, .int (nI c2_89), .int (nI w2_90)])), (k1, .inl (cI, 1600, .inl g1_91))]) ⟨hx, hb, hml, hown, hts⟩ hl.1 (c_rd_step l D cI cJ cC cZ cS zk zv zf q xa xv xo xt xz xf xp tl tb (by omega) (by omega) (by omega) htb) w_3_110 w_2_226 w_2_227 w_1_4 w_2_228 (by decide +kernel) ⟨⟨(by dsimp only; omega), (by dsimp only; omega)⟩, (by dsimp only; omega), (by dsimp only; omega)⟩ hK hP hD hS hZ hA [1, 2, 3] [0, 4, 5] rfl rfl (by decide +kernel) (by decide +kernel) (by decide +kernel) rfl rfl rfl rfl (Nat.le_of_ble_eq_true rfl) dX8_readPart_214 (fun u H locs hw hP hD hS => ?_)
                  obtain ⟨xa2_94, xv2_95, xt2_96, xz2_97, hxa2_98, hxz2_99, rfl⟩ := hw
                  have hP : va_P D vwCl [(u0, .inr (8, [.ref (q 2), .int kd])), (h0, .inr (0, [.ref k1, .ref k2, .ref k3, .ref k4, .int (nI c2_89), .int (nI w2_90)])), (k1, .inl (cI, 1600, .inl g1_91)), (q 2, .inr (6, [.ref (q 0), .int (nI xa2_94), .int xv2_95, .int (nI xo), .int xt2_96, .int (nI xz2_97), .int xf, .int xp])), (q 0, .inr (10, [.ref (q 20), .int (nI tl)])), (q 20, .inl (cI, 1600, .inl (fun j => nI (tb j))))] H := hP
                  have hD : va_D A [(u0, .inr (8, [.ref (q 2), .int kd])), (h0, .inr (0, [.ref k1, .ref k2, .ref k3, .ref k4, .int (nI c2_89), .int (nI w2_90)])), (k1, .inl (cI, 1600, .inl g1_91)), (q 2, .inr (6, [.ref (q 0), .int (nI xa2_94), .int xv2_95, .int (nI xo), .int xt2_96, .int (nI xz2_97), .int xf, .int xp])), (q 0, .inr (10, [.ref (q 20), .int (nI tl)])), (q 20, .inl (cI, 1600, .inl (fun j => nI (tb j))))] := hD
                  have hP := hP.sub (ws' := [(u0, .inr (8, [.ref (q 2), .int kd])), (q 2, .inr (6, [.ref (q 0), .int (nI xa2_94), .int xv2_95, .int (nI xo), .int xt2_96, .int (nI xz2_97), .int xf, .int xp])), (q 0, .inr (10, [.ref (q 20), .int (nI tl)])), (q 20, .inl (cI, 1600, .inl (fun j => nI (tb j)))), (h0, .inr (0, [.ref k1, .ref k2, .ref k3, .ref k4, .int (nI c2_89), .int (nI w2_90)])), (k1, .inl (cI, 1600, .inl g1_91))]) [0, 3, 4, 5, 1, 2] rfl
                  have hD := hD.sub (ws' := [(u0, .inr (8, [.ref (q 2), .int kd])), (q 2, .inr (6, [.ref (q 0), .int (nI xa2_94), .int xv2_95, .int (nI xo), .int xt2_96, .int (nI xz2_97), .int xf, .int xp])), (q 0, .inr (10, [.ref (q 20), .int (nI tl)])), (q 20, .inl (cI, 1600, .inl (fun j => nI (tb j)))), (h0, .inr (0, [.ref k1, .ref k2, .ref k3, .ref k4, .int (nI c2_89), .int (nI w2_90)])), (k1, .inl (cI, 1600, .inl g1_91))]) [0, 3, 4, 5, 1, 2] (by decide +kernel) rfl
                  exact sk_vret hx hb hr hlocks hK hP hD hS (⟨xa2_94, xv2_95, xt2_96, xz2_97, xf, xp, c2_89, w2_90, g1_91, by omega, by omega, by omega, by omega, rfl⟩) (Nat.le_of_ble_eq_true rfl) (Nat.le_of_ble_eq_true rfl) dX8_readPart_217
                · skip
                  refine lv_aload_n hx hb dX8_readPart_195 rfl (lv_at hl 2 rfl) ?_
                  refine sk_get (v := .ref (q 2)) (C := RX8) (T := TX8) (N := 2) hx hb hts inlX8 hown hK hP 0 rfl rfl 0 (by decide) w_1_100 rfl dX8_readPart_196 ?_
                  refine sk_Vv (q0 := 0) (n := 0) (rest := []) (wr := [(u0, .inr (8, [.ref (q 2), .int kd])), (q 0, .inr (10, [.ref (q 20), .int (nI tl)])), (q 20, .inl (cI, 1600, .inl (fun j => nI (tb j)))), (h0, .inr (0, [.ref k1, .ref k2, .ref k3, .ref k4, .int (nI cl), .int (nI mw)])), (k1, .inl (cI, 1600, .inl f1))]) ⟨hx, hb, hml, hown, hts⟩ hl.1 (c_rd_failHere l D cI cJ cC cZ cS q xa xv xo xt xz xf xp) w_3_122 w_3_55 w_3_56 w_1_4 w_3_57 (by decide +kernel) ⟨⟨(by dsimp only; omega), (by dsimp only; omega)⟩, (by dsimp only; omega), (by dsimp only; omega)⟩ hK hP hD hS hA [1] [0, 2, 3, 4, 5] rfl rfl (by decide +kernel) (by decide +kernel) (by decide +kernel) rfl rfl rfl rfl (Nat.le_of_ble_eq_true rfl) dX8_readPart_199 (fun u H locs hw hP hD hS => ?_)
                  obtain ⟨xf2_100, xp2_101, rfl⟩ := hw
                  have hP : va_P D vwCl [(u0, .inr (8, [.ref (q 2), .int kd])), (q 0, .inr (10, [.ref (q 20), .int (nI tl)])), (q 20, .inl (cI, 1600, .inl (fun j => nI (tb j)))), (h0, .inr (0, [.ref k1, .ref k2, .ref k3, .ref k4, .int (nI cl), .int (nI mw)])), (k1, .inl (cI, 1600, .inl f1)), (q 2, .inr (6, [.ref (q 0), .int (nI xa), .int xv, .int (nI xo), .int (-2), .int (nI xz), .int xf2_100, .int xp2_101]))] H := hP
                  have hD : va_D A [(u0, .inr (8, [.ref (q 2), .int kd])), (q 0, .inr (10, [.ref (q 20), .int (nI tl)])), (q 20, .inl (cI, 1600, .inl (fun j => nI (tb j)))), (h0, .inr (0, [.ref k1, .ref k2, .ref k3, .ref k4, .int (nI cl), .int (nI mw)])), (k1, .inl (cI, 1600, .inl f1)), (q 2, .inr (6, [.ref (q 0), .int (nI xa), .int xv, .int (nI xo), .int (-2), .int (nI xz), .int xf2_100, .int xp2_101]))] := hD
                  refine lv_goto (tgt := 217) hx hb dX8_readPart_202 (by decide) ?_
                  have hP := hP.sub (ws' := [(u0, .inr (8, [.ref (q 2), .int kd])), (q 2, .inr (6, [.ref (q 0), .int (nI xa), .int xv, .int (nI xo), .int (-2), .int (nI xz), .int xf2_100, .int xp2_101])), (q 0, .inr (10, [.ref (q 20), .int (nI tl)])), (q 20, .inl (cI, 1600, .inl (fun j => nI (tb j)))), (h0, .inr (0, [.ref k1, .ref k2, .ref k3, .ref k4, .int (nI cl), .int (nI mw)])), (k1, .inl (cI, 1600, .inl f1))]) [0, 5, 1, 2, 3, 4] rfl
                  have hD := hD.sub (ws' := [(u0, .inr (8, [.ref (q 2), .int kd])), (q 2, .inr (6, [.ref (q 0), .int (nI xa), .int xv, .int (nI xo), .int (-2), .int (nI xz), .int xf2_100, .int xp2_101])), (q 0, .inr (10, [.ref (q 20), .int (nI tl)])), (q 20, .inl (cI, 1600, .inl (fun j => nI (tb j)))), (h0, .inr (0, [.ref k1, .ref k2, .ref k3, .ref k4, .int (nI cl), .int (nI mw)])), (k1, .inl (cI, 1600, .inl f1))]) [0, 5, 1, 2, 3, 4] (by decide +kernel) rfl
                  exact sk_vret hx hb hr hlocks hK hP hD hS (⟨xa, xv, (-2), xz, xf2_100, xp2_101, cl, mw, f1, by omega, by omega, by omega, by omega, rfl⟩) (Nat.le_of_ble_eq_true rfl) (Nat.le_of_ble_eq_true rfl) dX8_readPart_217
            · skip
              refine lv_aload_n hx hb dX8_readPart_134 rfl (lv_at hl 1 rfl) ?_
              refine sk_get (v := .ref (q 2)) (C := RX8) (T := TX8) (N := 2) hx hb hts inlX8 hown hK hP 0 rfl rfl 0 (by decide) w_1_100 rfl dX8_readPart_135 ?_
              refine lv_sipush (v := 272) hx hb dX8_readPart_138 (by decide) ?_
              refine sk_ViZ (q0 := 0) (n := 1) (rest := []) (wr := [(u0, .inr (8, [.ref (q 2), .int kd])), (h0, .inr (0, [.ref k1, .ref k2, .ref k3, .ref k4, .int (nI cl), .int (nI mw)])), (k1, .inl (cI, 1600, .inl f1))]) ⟨hx, hb, hml, hown, hts⟩ hl.1 (c_rd_opens l D cI cJ cC cZ cS zk zv zf q xa xv xo xt xz xf xp tl tb 272 (by omega) (by omega) (by omega) htb (by omega)) w_3_101 w_3_102 w_3_103 w_1_4 w_3_104 (by decide +kernel) ⟨⟨(by dsimp only; omega), (by dsimp only; omega)⟩, (by dsimp only; omega), (by dsimp only; omega)⟩ hK hP hD hS hZ hA [1, 2, 3] [0, 4, 5] rfl rfl (by decide +kernel) (by decide +kernel) (by decide +kernel) rfl rfl rfl rfl (Nat.le_of_ble_eq_true rfl) dX8_readPart_141 (fun r_109 u H locs hw hP hD hS => ?_)
              obtain ⟨xa2_102, xv2_103, xt2_104, xz2_105, xf2_106, xp2_107, b_108, hxa2_110, hxz2_111, hb1_112, rfl, rfl⟩ := hw
              have hP : va_P D vwCl [(u0, .inr (8, [.ref (q 2), .int kd])), (h0, .inr (0, [.ref k1, .ref k2, .ref k3, .ref k4, .int (nI cl), .int (nI mw)])), (k1, .inl (cI, 1600, .inl f1)), (q 2, .inr (6, [.ref (q 0), .int (nI xa2_102), .int xv2_103, .int (nI (xo + b_108)), .int xt2_104, .int (nI xz2_105), .int xf2_106, .int xp2_107])), (q 0, .inr (10, [.ref (q 20), .int (nI tl)])), (q 20, .inl (cI, 1600, .inl (fun j => nI (tb j))))] H := hP
              have hD : va_D A [(u0, .inr (8, [.ref (q 2), .int kd])), (h0, .inr (0, [.ref k1, .ref k2, .ref k3, .ref k4, .int (nI cl), .int (nI mw)])), (k1, .inl (cI, 1600, .inl f1)), (q 2, .inr (6, [.ref (q 0), .int (nI xa2_102), .int xv2_103, .int (nI (xo + b_108)), .int xt2_104, .int (nI xz2_105), .int xf2_106, .int xp2_107])), (q 0, .inr (10, [.ref (q 20), .int (nI tl)])), (q 20, .inl (cI, 1600, .inl (fun j => nI (tb j))))] := hD
              refine lv_if_eq (tgt := 217) hx hb dX8_readPart_144 (by decide) (fun c_113 => ?_) (fun c_113 => ?_)
              · have c_113 : b_108 = 0 := (neq b_108 0 (by omega) (by omega)).mp c_113
                obtain rfl : b_108 = 0 := by omega
                have hP := hP.sub (ws' := [(u0, .inr (8, [.ref (q 2), .int kd])), (q 2, .inr (6, [.ref (q 0), .int (nI xa2_102), .int xv2_103, .int (nI (xo + 0)), .int xt2_104, .int (nI xz2_105), .int xf2_106, .int xp2_107])), (q 0, .inr (10, [.ref (q 20), .int (nI tl)])), (q 20, .inl (cI, 1600, .inl (fun j => nI (tb j)))), (h0, .inr (0, [.ref k1, .ref k2, .ref k3, .ref k4, .int (nI cl), .int (nI mw)])), (k1, .inl (cI, 1600, .inl f1))]) [0, 3, 4, 5, 1, 2] rfl
                have hD := hD.sub (ws' := [(u0, .inr (8, [.ref (q 2), .int kd])), (q 2, .inr (6, [.ref (q 0), .int (nI xa2_102), .int xv2_103, .int (nI (xo + 0)), .int xt2_104, .int (nI xz2_105), .int xf2_106, .int xp2_107])), (q 0, .inr (10, [.ref (q 20), .int (nI tl)])), (q 20, .inl (cI, 1600, .inl (fun j => nI (tb j)))), (h0, .inr (0, [.ref k1, .ref k2, .ref k3, .ref k4, .int (nI cl), .int (nI mw)])), (k1, .inl (cI, 1600, .inl f1))]) [0, 3, 4, 5, 1, 2] (by decide +kernel) rfl
                exact sk_vret hx hb hr hlocks hK hP hD hS (⟨xa2_102, xv2_103, xt2_104, xz2_105, xf2_106, xp2_107, cl, mw, f1, by omega, by omega, by omega, by omega, rfl⟩) (Nat.le_of_ble_eq_true rfl) (Nat.le_of_ble_eq_true rfl) dX8_readPart_217
              · have c_113 : ¬ (b_108 = 0) := fun h => c_113 ((neq b_108 0 (by omega) (by omega)).mpr h)
                obtain rfl : b_108 = 1 := by omega
                refine lv_aload_n hx hb dX8_readPart_147 rfl (lv_at hl 1 rfl) ?_
                refine lv_aload_n hx hb dX8_readPart_148 rfl (lv_at hl 2 rfl) ?_
                refine sk_VvZ (q0 := 0) (n := 1) (rest := []) (wr := []) ⟨hx, hb, hml, hown, hts⟩ hl.1 (hp (dd - 1) (by omega) q u0 kd xa2_102 xv2_103 (xo + 1) xt2_104 xz2_105 xf2_106 xp2_107 tl tb h0 k1 k2 k3 k4 cl mw f1 (by omega) (by omega) (by omega) htb (by omega) (by omega) (by omega)) w_3_92 w_3_94 w_0_8 w_1_6 w_3_95 (by decide +kernel) ⟨⟨(by dsimp only; omega), (by dsimp only; omega)⟩, (by dsimp only; omega), (by dsimp only; omega)⟩ hK hP hD hS hZ hA [0, 3, 4, 5, 1, 2] [] rfl rfl (by decide +kernel) (by decide +kernel) (by decide +kernel) rfl rfl rfl rfl (Nat.le_of_ble_eq_true rfl) dX8_readPart_149 (fun u H locs hw hP hD hS => ?_)
                obtain ⟨xa2_114, xv2_115, xt2_116, xz2_117, xf2_118, xp2_119, c2_120, w2_121, g1_122, hxa2_123, hxz2_124, hc2_125, hw2_126, rfl⟩ := hw
                have hP : va_P D vwCl [(u0, .inr (8, [.ref (q 2), .int kd])), (q 2, .inr (6, [.ref (q 0), .int (nI xa2_114), .int xv2_115, .int (nI (xo + 1)), .int xt2_116, .int (nI xz2_117), .int xf2_118, .int xp2_119])), (q 0, .inr (10, [.ref (q 20), .int (nI tl)])), (q 20, .inl (cI, 1600, .inl (fun j => nI (tb j)))), (h0, .inr (0, [.ref k1, .ref k2, .ref k3, .ref k4, .int (nI c2_120), .int (nI w2_121)])), (k1, .inl (cI, 1600, .inl g1_122))] H := hP
                have hD : va_D A [(u0, .inr (8, [.ref (q 2), .int kd])), (q 2, .inr (6, [.ref (q 0), .int (nI xa2_114), .int xv2_115, .int (nI (xo + 1)), .int xt2_116, .int (nI xz2_117), .int xf2_118, .int xp2_119])), (q 0, .inr (10, [.ref (q 20), .int (nI tl)])), (q 20, .inl (cI, 1600, .inl (fun j => nI (tb j)))), (h0, .inr (0, [.ref k1, .ref k2, .ref k3, .ref k4, .int (nI c2_120), .int (nI w2_121)])), (k1, .inl (cI, 1600, .inl g1_122))] := hD
                refine lv_aload_n hx hb dX8_readPart_152 rfl (lv_at hl 2 rfl) ?_
                refine lv_sipush (v := 20000) hx hb dX8_readPart_153 (by decide) ?_
                refine sk_Vv (q0 := 0) (n := 1) (rest := []) (wr := [(u0, .inr (8, [.ref (q 2), .int kd])), (q 2, .inr (6, [.ref (q 0), .int (nI xa2_114), .int xv2_115, .int (nI (xo + 1)), .int xt2_116, .int (nI xz2_117), .int xf2_118, .int xp2_119])), (q 0, .inr (10, [.ref (q 20), .int (nI tl)])), (q 20, .inl (cI, 1600, .inl (fun j => nI (tb j))))]) ⟨hx, hb, hml, hown, hts⟩ hl.1 (c_Code_add l D cI cJ cC cZ cS h0 k1 k2 k3 k4 c2_120 w2_121 g1_122 20000 (by omega) (by omega)) w_3_97 w_3_98 w_3_99 w_1_8 w_3_100 (by decide +kernel) ⟨⟨(by dsimp only; omega), (by dsimp only; omega)⟩, (by dsimp only; omega), (by dsimp only; omega)⟩ hK hP hD hS hA [4, 5] [0, 1, 2, 3] rfl rfl (by decide +kernel) (by decide +kernel) (by decide +kernel) rfl rfl rfl rfl (Nat.le_of_ble_eq_true rfl) dX8_readPart_156 (fun u H locs hw hP hD hS => ?_)
                obtain ⟨c2_127, w2_128, g1_129, hc2_130, hw2_131, rfl⟩ := hw
                have hP : va_P D vwCl [(u0, .inr (8, [.ref (q 2), .int kd])), (q 2, .inr (6, [.ref (q 0), .int (nI xa2_114), .int xv2_115, .int (nI (xo + 1)), .int xt2_116, .int (nI xz2_117), .int xf2_118, .int xp2_119])), (q 0, .inr (10, [.ref (q 20), .int (nI tl)])), (q 20, .inl (cI, 1600, .inl (fun j => nI (tb j)))), (h0, .inr (0, [.ref k1, .ref k2, .ref k3, .ref k4, .int (nI c2_127), .int (nI w2_128)])), (k1, .inl (cI, 1600, .inl g1_129))] H := hP
                have hD : va_D A [(u0, .inr (8, [.ref (q 2), .int kd])), (q 2, .inr (6, [.ref (q 0), .int (nI xa2_114), .int xv2_115, .int (nI (xo + 1)), .int xt2_116, .int (nI xz2_117), .int xf2_118, .int xp2_119])), (q 0, .inr (10, [.ref (q 20), .int (nI tl)])), (q 20, .inl (cI, 1600, .inl (fun j => nI (tb j)))), (h0, .inr (0, [.ref k1, .ref k2, .ref k3, .ref k4, .int (nI c2_127), .int (nI w2_128)])), (k1, .inl (cI, 1600, .inl g1_129))] := hD
                refine lv_aload_n hx hb dX8_readPart_159 rfl (lv_at hl 1 rfl) ?_
                refine sk_get (v := .ref (q 2)) (C := RX8) (T := TX8) (N := 2) hx hb hts inlX8 hown hK hP 0 rfl rfl 0 (by decide) w_1_100 rfl dX8_readPart_160 ?_
                refine sk_Vv (q0 := 0) (n := 0) (rest := []) (wr := [(u0, .inr (8, [.ref (q 2), .int kd])), (q 0, .inr (10, [.ref (q 20), .int (nI tl)])), (q 20, .inl (cI, 1600, .inl (fun j => nI (tb j)))), (h0, .inr (0, [.ref k1, .ref k2, .ref k3, .ref k4, .int (nI c2_127), .int (nI w2_128)])), (k1, .inl (cI, 1600, .inl g1_129))]) ⟨hx, hb, hml, hown, hts⟩ hl.1 (c_rd_shuts l D cI cJ cC cZ cS q xa2_114 xv2_115 (xo + 1) xt2_116 xz2_117 xf2_118 xp2_119 (by omega) (by omega)) w_3_105 w_3_106 w_3_107 w_1_4 w_3_108 (by decide +kernel) ⟨⟨(by dsimp only; omega), (by dsimp only; omega)⟩, (by dsimp only; omega), (by dsimp only; omega)⟩ hK hP hD hS hA [1] [0, 2, 3, 4, 5] rfl rfl (by decide +kernel) (by decide +kernel) (by decide +kernel) rfl rfl rfl rfl (Nat.le_of_ble_eq_true rfl) dX8_readPart_163 (fun u H locs hw hP hD hS => ?_)
                obtain rfl := hw
                have hP : va_P D vwCl [(u0, .inr (8, [.ref (q 2), .int kd])), (q 0, .inr (10, [.ref (q 20), .int (nI tl)])), (q 20, .inl (cI, 1600, .inl (fun j => nI (tb j)))), (h0, .inr (0, [.ref k1, .ref k2, .ref k3, .ref k4, .int (nI c2_127), .int (nI w2_128)])), (k1, .inl (cI, 1600, .inl g1_129)), (q 2, .inr (6, [.ref (q 0), .int (nI xa2_114), .int xv2_115, .int (nI ((xo + 1) - 1)), .int xt2_116, .int (nI xz2_117), .int xf2_118, .int xp2_119]))] H := hP
                have hD : va_D A [(u0, .inr (8, [.ref (q 2), .int kd])), (q 0, .inr (10, [.ref (q 20), .int (nI tl)])), (q 20, .inl (cI, 1600, .inl (fun j => nI (tb j)))), (h0, .inr (0, [.ref k1, .ref k2, .ref k3, .ref k4, .int (nI c2_127), .int (nI w2_128)])), (k1, .inl (cI, 1600, .inl g1_129)), (q 2, .inr (6, [.ref (q 0), .int (nI xa2_114), .int xv2_115, .int (nI ((xo + 1) - 1)), .int xt2_116, .int (nI xz2_117), .int xf2_118, .int xp2_119]))] := hD
                refine lv_goto (tgt := 217) hx hb dX8_readPart_166 (by decide) ?_
                have hP := hP.sub (ws' := [(u0, .inr (8, [.ref (q 2), .int kd])), (q 2, .inr (6, [.ref (q 0), .int (nI xa2_114), .int xv2_115, .int (nI ((xo + 1) - 1)), .int xt2_116, .int (nI xz2_117), .int xf2_118, .int xp2_119])), (q 0, .inr (10, [.ref (q 20), .int (nI tl)])), (q 20, .inl (cI, 1600, .inl (fun j => nI (tb j)))), (h0, .inr (0, [.ref k1, .ref k2, .ref k3, .ref k4, .int (nI c2_127), .int (nI w2_128)])), (k1, .inl (cI, 1600, .inl g1_129))]) [0, 5, 1, 2, 3, 4] rfl
                have hD := hD.sub (ws' := [(u0, .inr (8, [.ref (q 2), .int kd])), (q 2, .inr (6, [.ref (q 0), .int (nI xa2_114), .int xv2_115, .int (nI ((xo + 1) - 1)), .int xt2_116, .int (nI xz2_117), .int xf2_118, .int xp2_119])), (q 0, .inr (10, [.ref (q 20), .int (nI tl)])), (q 20, .inl (cI, 1600, .inl (fun j => nI (tb j)))), (h0, .inr (0, [.ref k1, .ref k2, .ref k3, .ref k4, .int (nI c2_127), .int (nI w2_128)])), (k1, .inl (cI, 1600, .inl g1_129))]) [0, 5, 1, 2, 3, 4] (by decide +kernel) rfl
                exact sk_vret hx hb hr hlocks hK hP hD hS (⟨xa2_114, xv2_115, xt2_116, xz2_117, xf2_118, xp2_119, c2_127, w2_128, g1_129, by omega, by omega, by omega, by omega, rfl⟩) (Nat.le_of_ble_eq_true rfl) (Nat.le_of_ble_eq_true rfl) dX8_readPart_217
        · skip
          refine lv_aload_n hx hb dX8_readPart_88 rfl (lv_at hl 1 rfl) ?_
          refine sk_get (v := .ref (q 2)) (C := RX8) (T := TX8) (N := 2) hx hb hts inlX8 hown hK hP 0 rfl rfl 0 (by decide) w_1_100 rfl dX8_readPart_89 ?_
          refine sk_VvZ (q0 := 0) (n := 0) (rest := []) (wr := [(u0, .inr (8, [.ref (q 2), .int kd])), (h0, .inr (0, [.ref k1, .ref k2, .ref k3, .ref k4, .int (nI cl), .int (nI mw)])), (k1, .inl (cI, 1600, .inl f1))]) ⟨hx, hb, hml, hown, hts⟩ hl.1 (c_rd_step l D cI cJ cC cZ cS zk zv zf q xa xv xo xt xz xf xp tl tb (by omega) (by omega) (by omega) htb) w_3_110 w_2_226 w_2_227 w_1_4 w_2_228 (by decide +kernel) ⟨⟨(by dsimp only; omega), (by dsimp only; omega)⟩, (by dsimp only; omega), (by dsimp only; omega)⟩ hK hP hD hS hZ hA [1, 2, 3] [0, 4, 5] rfl rfl (by decide +kernel) (by decide +kernel) (by decide +kernel) rfl rfl rfl rfl (Nat.le_of_ble_eq_true rfl) dX8_readPart_92 (fun u H locs hw hP hD hS => ?_)
          obtain ⟨xa2_132, xv2_133, xt2_134, xz2_135, hxa2_136, hxz2_137, rfl⟩ := hw
          have hP : va_P D vwCl [(u0, .inr (8, [.ref (q 2), .int kd])), (h0, .inr (0, [.ref k1, .ref k2, .ref k3, .ref k4, .int (nI cl), .int (nI mw)])), (k1, .inl (cI, 1600, .inl f1)), (q 2, .inr (6, [.ref (q 0), .int (nI xa2_132), .int xv2_133, .int (nI xo), .int xt2_134, .int (nI xz2_135), .int xf, .int xp])), (q 0, .inr (10, [.ref (q 20), .int (nI tl)])), (q 20, .inl (cI, 1600, .inl (fun j => nI (tb j))))] H := hP
          have hD : va_D A [(u0, .inr (8, [.ref (q 2), .int kd])), (h0, .inr (0, [.ref k1, .ref k2, .ref k3, .ref k4, .int (nI cl), .int (nI mw)])), (k1, .inl (cI, 1600, .inl f1)), (q 2, .inr (6, [.ref (q 0), .int (nI xa2_132), .int xv2_133, .int (nI xo), .int xt2_134, .int (nI xz2_135), .int xf, .int xp])), (q 0, .inr (10, [.ref (q 20), .int (nI tl)])), (q 20, .inl (cI, 1600, .inl (fun j => nI (tb j))))] := hD
          refine lv_aload_n hx hb dX8_readPart_95 rfl (lv_at hl 1 rfl) ?_
          refine lv_aload_n hx hb dX8_readPart_96 rfl (lv_at hl 2 rfl) ?_
          refine lv_iload_n hx hb dX8_readPart_97 rfl (lv_at hl 0 rfl) ?_
          refine lv_sipush (v := 277) hx hb dX8_readPart_98 (by decide) ?_
          refine lv_icmp_ne (tgt := 110) hx hb dX8_readPart_101 (by decide) (fun c_138 => ?_) (fun c_138 => ?_)
          · skip
            refine lv_sipush (v := 30005) hx hb dX8_readPart_110 (by decide) ?_
            refine sk_VvZ (q0 := 0) (n := 2) (rest := []) (wr := []) ⟨hx, hb, hml, hown, hts⟩ hl.1 (hq q u0 kd xa2_132 xv2_133 xo xt2_134 xz2_135 xf xp tl tb h0 k1 k2 k3 k4 cl mw f1 30005 (by omega) (by omega) (by omega) htb (by omega) (by omega) (by omega)) w_3_111 w_3_113 w_0_9 w_1_6 w_3_114 (by decide +kernel) ⟨⟨(by dsimp only; omega), (by dsimp only; omega)⟩, (by dsimp only; omega), (by dsimp only; omega)⟩ hK hP hD hS hZ hA [0, 3, 4, 5, 1, 2] [] rfl rfl (by decide +kernel) (by decide +kernel) (by decide +kernel) rfl rfl rfl rfl (Nat.le_of_ble_eq_true rfl) dX8_readPart_113 (fun u H locs hw hP hD hS => ?_)
            obtain ⟨xa2_139, xv2_140, xt2_141, xz2_142, xf2_143, xp2_144, c2_145, w2_146, g1_147, hxa2_148, hxz2_149, hc2_150, hw2_151, rfl⟩ := hw
            have hP : va_P D vwCl [(u0, .inr (8, [.ref (q 2), .int kd])), (q 2, .inr (6, [.ref (q 0), .int (nI xa2_139), .int xv2_140, .int (nI xo), .int xt2_141, .int (nI xz2_142), .int xf2_143, .int xp2_144])), (q 0, .inr (10, [.ref (q 20), .int (nI tl)])), (q 20, .inl (cI, 1600, .inl (fun j => nI (tb j)))), (h0, .inr (0, [.ref k1, .ref k2, .ref k3, .ref k4, .int (nI c2_145), .int (nI w2_146)])), (k1, .inl (cI, 1600, .inl g1_147))] H := hP
            have hD : va_D A [(u0, .inr (8, [.ref (q 2), .int kd])), (q 2, .inr (6, [.ref (q 0), .int (nI xa2_139), .int xv2_140, .int (nI xo), .int xt2_141, .int (nI xz2_142), .int xf2_143, .int xp2_144])), (q 0, .inr (10, [.ref (q 20), .int (nI tl)])), (q 20, .inl (cI, 1600, .inl (fun j => nI (tb j)))), (h0, .inr (0, [.ref k1, .ref k2, .ref k3, .ref k4, .int (nI c2_145), .int (nI w2_146)])), (k1, .inl (cI, 1600, .inl g1_147))] := hD
            refine lv_goto (tgt := 217) hx hb dX8_readPart_116 (by decide) ?_
            exact sk_vret hx hb hr hlocks hK hP hD hS (⟨xa2_139, xv2_140, xt2_141, xz2_142, xf2_143, xp2_144, c2_145, w2_146, g1_147, by omega, by omega, by omega, by omega, rfl⟩) (Nat.le_of_ble_eq_true rfl) (Nat.le_of_ble_eq_true rfl) dX8_readPart_217
          · skip
            refine lv_sipush (v := 30004) hx hb dX8_readPart_104 (by decide) ?_
            refine lv_goto (tgt := 113) hx hb dX8_readPart_107 (by decide) ?_
            refine sk_VvZ (q0 := 0) (n := 2) (rest := []) (wr := []) ⟨hx, hb, hml, hown, hts⟩ hl.1 (hq q u0 kd xa2_132 xv2_133 xo xt2_134 xz2_135 xf xp tl tb h0 k1 k2 k3 k4 cl mw f1 30004 (by omega) (by omega) (by omega) htb (by omega) (by omega) (by omega)) w_3_111 w_3_113 w_0_9 w_1_6 w_3_114 (by decide +kernel) ⟨⟨(by dsimp only; omega), (by dsimp only; omega)⟩, (by dsimp only; omega), (by dsimp only; omega)⟩ hK hP hD hS hZ hA [0, 3, 4, 5, 1, 2] [] rfl rfl (by decide +kernel) (by decide +kernel) (by decide +kernel) rfl rfl rfl rfl (Nat.le_of_ble_eq_true rfl) dX8_readPart_113 (fun u H locs hw hP hD hS => ?_)
            obtain ⟨xa2_152, xv2_153, xt2_154, xz2_155, xf2_156, xp2_157, c2_158, w2_159, g1_160, hxa2_161, hxz2_162, hc2_163, hw2_164, rfl⟩ := hw
            have hP : va_P D vwCl [(u0, .inr (8, [.ref (q 2), .int kd])), (q 2, .inr (6, [.ref (q 0), .int (nI xa2_152), .int xv2_153, .int (nI xo), .int xt2_154, .int (nI xz2_155), .int xf2_156, .int xp2_157])), (q 0, .inr (10, [.ref (q 20), .int (nI tl)])), (q 20, .inl (cI, 1600, .inl (fun j => nI (tb j)))), (h0, .inr (0, [.ref k1, .ref k2, .ref k3, .ref k4, .int (nI c2_158), .int (nI w2_159)])), (k1, .inl (cI, 1600, .inl g1_160))] H := hP
            have hD : va_D A [(u0, .inr (8, [.ref (q 2), .int kd])), (q 2, .inr (6, [.ref (q 0), .int (nI xa2_152), .int xv2_153, .int (nI xo), .int xt2_154, .int (nI xz2_155), .int xf2_156, .int xp2_157])), (q 0, .inr (10, [.ref (q 20), .int (nI tl)])), (q 20, .inl (cI, 1600, .inl (fun j => nI (tb j)))), (h0, .inr (0, [.ref k1, .ref k2, .ref k3, .ref k4, .int (nI c2_158), .int (nI w2_159)])), (k1, .inl (cI, 1600, .inl g1_160))] := hD
            refine lv_goto (tgt := 217) hx hb dX8_readPart_116 (by decide) ?_
            exact sk_vret hx hb hr hlocks hK hP hD hS (⟨xa2_152, xv2_153, xt2_154, xz2_155, xf2_156, xp2_157, c2_158, w2_159, g1_160, by omega, by omega, by omega, by omega, rfl⟩) (Nat.le_of_ble_eq_true rfl) (Nat.le_of_ble_eq_true rfl) dX8_readPart_217
    · skip
      refine lv_aload_n hx hb dX8_readPart_38 rfl (lv_at hl 1 rfl) ?_
      refine sk_get (v := .ref (q 2)) (C := RX8) (T := TX8) (N := 2) hx hb hts inlX8 hown hK hP 0 rfl rfl 0 (by decide) w_1_100 rfl dX8_readPart_39 ?_
      refine lv_bipush (v := 40) hx hb dX8_readPart_42 (by decide) ?_
      refine sk_ViZ (q0 := 0) (n := 1) (rest := []) (wr := [(u0, .inr (8, [.ref (q 2), .int kd])), (h0, .inr (0, [.ref k1, .ref k2, .ref k3, .ref k4, .int (nI cl), .int (nI mw)])), (k1, .inl (cI, 1600, .inl f1))]) ⟨hx, hb, hml, hown, hts⟩ hl.1 (c_rd_opens l D cI cJ cC cZ cS zk zv zf q xa xv xo xt xz xf xp tl tb 40 (by omega) (by omega) (by omega) htb (by omega)) w_3_101 w_3_102 w_3_103 w_1_4 w_3_104 (by decide +kernel) ⟨⟨(by dsimp only; omega), (by dsimp only; omega)⟩, (by dsimp only; omega), (by dsimp only; omega)⟩ hK hP hD hS hZ hA [1, 2, 3] [0, 4, 5] rfl rfl (by decide +kernel) (by decide +kernel) (by decide +kernel) rfl rfl rfl rfl (Nat.le_of_ble_eq_true rfl) dX8_readPart_44 (fun r_172 u H locs hw hP hD hS => ?_)
      obtain ⟨xa2_165, xv2_166, xt2_167, xz2_168, xf2_169, xp2_170, b_171, hxa2_173, hxz2_174, hb1_175, rfl, rfl⟩ := hw
      have hP : va_P D vwCl [(u0, .inr (8, [.ref (q 2), .int kd])), (h0, .inr (0, [.ref k1, .ref k2, .ref k3, .ref k4, .int (nI cl), .int (nI mw)])), (k1, .inl (cI, 1600, .inl f1)), (q 2, .inr (6, [.ref (q 0), .int (nI xa2_165), .int xv2_166, .int (nI (xo + b_171)), .int xt2_167, .int (nI xz2_168), .int xf2_169, .int xp2_170])), (q 0, .inr (10, [.ref (q 20), .int (nI tl)])), (q 20, .inl (cI, 1600, .inl (fun j => nI (tb j))))] H := hP
      have hD : va_D A [(u0, .inr (8, [.ref (q 2), .int kd])), (h0, .inr (0, [.ref k1, .ref k2, .ref k3, .ref k4, .int (nI cl), .int (nI mw)])), (k1, .inl (cI, 1600, .inl f1)), (q 2, .inr (6, [.ref (q 0), .int (nI xa2_165), .int xv2_166, .int (nI (xo + b_171)), .int xt2_167, .int (nI xz2_168), .int xf2_169, .int xp2_170])), (q 0, .inr (10, [.ref (q 20), .int (nI tl)])), (q 20, .inl (cI, 1600, .inl (fun j => nI (tb j))))] := hD
      refine lv_if_eq (tgt := 217) hx hb dX8_readPart_47 (by decide) (fun c_176 => ?_) (fun c_176 => ?_)
      · have c_176 : b_171 = 0 := (neq b_171 0 (by omega) (by omega)).mp c_176
        obtain rfl : b_171 = 0 := by omega
        have hP := hP.sub (ws' := [(u0, .inr (8, [.ref (q 2), .int kd])), (q 2, .inr (6, [.ref (q 0), .int (nI xa2_165), .int xv2_166, .int (nI (xo + 0)), .int xt2_167, .int (nI xz2_168), .int xf2_169, .int xp2_170])), (q 0, .inr (10, [.ref (q 20), .int (nI tl)])), (q 20, .inl (cI, 1600, .inl (fun j => nI (tb j)))), (h0, .inr (0, [.ref k1, .ref k2, .ref k3, .ref k4, .int (nI cl), .int (nI mw)])), (k1, .inl (cI, 1600, .inl f1))]) [0, 3, 4, 5, 1, 2] rfl
        have hD := hD.sub (ws' := [(u0, .inr (8, [.ref (q 2), .int kd])), (q 2, .inr (6, [.ref (q 0), .int (nI xa2_165), .int xv2_166, .int (nI (xo + 0)), .int xt2_167, .int (nI xz2_168), .int xf2_169, .int xp2_170])), (q 0, .inr (10, [.ref (q 20), .int (nI tl)])), (q 20, .inl (cI, 1600, .inl (fun j => nI (tb j)))), (h0, .inr (0, [.ref k1, .ref k2, .ref k3, .ref k4, .int (nI cl), .int (nI mw)])), (k1, .inl (cI, 1600, .inl f1))]) [0, 3, 4, 5, 1, 2] (by decide +kernel) rfl
        exact sk_vret hx hb hr hlocks hK hP hD hS (⟨xa2_165, xv2_166, xt2_167, xz2_168, xf2_169, xp2_170, cl, mw, f1, by omega, by omega, by omega, by omega, rfl⟩) (Nat.le_of_ble_eq_true rfl) (Nat.le_of_ble_eq_true rfl) dX8_readPart_217
      · have c_176 : ¬ (b_171 = 0) := fun h => c_176 ((neq b_171 0 (by omega) (by omega)).mpr h)
        obtain rfl : b_171 = 1 := by omega
        refine lv_aload_n hx hb dX8_readPart_50 rfl (lv_at hl 1 rfl) ?_
        refine lv_aload_n hx hb dX8_readPart_51 rfl (lv_at hl 2 rfl) ?_
        refine sk_VvZ (q0 := 0) (n := 1) (rest := []) (wr := []) ⟨hx, hb, hml, hown, hts⟩ hl.1 (hs (dd - 1) (by omega) q u0 kd xa2_165 xv2_166 (xo + 1) xt2_167 xz2_168 xf2_169 xp2_170 tl tb h0 k1 k2 k3 k4 cl mw f1 (by omega) (by omega) (by omega) htb (by omega) (by omega) (by omega)) w_3_84 w_3_86 w_0_6 w_1_6 w_3_87 (by decide +kernel) ⟨⟨(by dsimp only; omega), (by dsimp only; omega)⟩, (by dsimp only; omega), (by dsimp only; omega)⟩ hK hP hD hS hZ hA [0, 3, 4, 5, 1, 2] [] rfl rfl (by decide +kernel) (by decide +kernel) (by decide +kernel) rfl rfl rfl rfl (Nat.le_of_ble_eq_true rfl) dX8_readPart_52 (fun u H locs hw hP hD hS => ?_)
        obtain ⟨xa2_177, xv2_178, xt2_179, xz2_180, xf2_181, xp2_182, c2_183, w2_184, g1_185, hxa2_186, hxz2_187, hc2_188, hw2_189, rfl⟩ := hw
        have hP : va_P D vwCl [(u0, .inr (8, [.ref (q 2), .int kd])), (q 2, .inr (6, [.ref (q 0), .int (nI xa2_177), .int xv2_178, .int (nI (xo + 1)), .int xt2_179, .int (nI xz2_180), .int xf2_181, .int xp2_182])), (q 0, .inr (10, [.ref (q 20), .int (nI tl)])), (q 20, .inl (cI, 1600, .inl (fun j => nI (tb j)))), (h0, .inr (0, [.ref k1, .ref k2, .ref k3, .ref k4, .int (nI c2_183), .int (nI w2_184)])), (k1, .inl (cI, 1600, .inl g1_185))] H := hP
        have hD : va_D A [(u0, .inr (8, [.ref (q 2), .int kd])), (q 2, .inr (6, [.ref (q 0), .int (nI xa2_177), .int xv2_178, .int (nI (xo + 1)), .int xt2_179, .int (nI xz2_180), .int xf2_181, .int xp2_182])), (q 0, .inr (10, [.ref (q 20), .int (nI tl)])), (q 20, .inl (cI, 1600, .inl (fun j => nI (tb j)))), (h0, .inr (0, [.ref k1, .ref k2, .ref k3, .ref k4, .int (nI c2_183), .int (nI w2_184)])), (k1, .inl (cI, 1600, .inl g1_185))] := hD
        refine lv_aload_n hx hb dX8_readPart_55 rfl (lv_at hl 1 rfl) ?_
        refine sk_get (v := .ref (q 2)) (C := RX8) (T := TX8) (N := 2) hx hb hts inlX8 hown hK hP 0 rfl rfl 0 (by decide) w_1_100 rfl dX8_readPart_56 ?_
        refine sk_Vv (q0 := 0) (n := 0) (rest := []) (wr := [(u0, .inr (8, [.ref (q 2), .int kd])), (q 0, .inr (10, [.ref (q 20), .int (nI tl)])), (q 20, .inl (cI, 1600, .inl (fun j => nI (tb j)))), (h0, .inr (0, [.ref k1, .ref k2, .ref k3, .ref k4, .int (nI c2_183), .int (nI w2_184)])), (k1, .inl (cI, 1600, .inl g1_185))]) ⟨hx, hb, hml, hown, hts⟩ hl.1 (c_rd_shuts l D cI cJ cC cZ cS q xa2_177 xv2_178 (xo + 1) xt2_179 xz2_180 xf2_181 xp2_182 (by omega) (by omega)) w_3_105 w_3_106 w_3_107 w_1_4 w_3_108 (by decide +kernel) ⟨⟨(by dsimp only; omega), (by dsimp only; omega)⟩, (by dsimp only; omega), (by dsimp only; omega)⟩ hK hP hD hS hA [1] [0, 2, 3, 4, 5] rfl rfl (by decide +kernel) (by decide +kernel) (by decide +kernel) rfl rfl rfl rfl (Nat.le_of_ble_eq_true rfl) dX8_readPart_59 (fun u H locs hw hP hD hS => ?_)
        obtain rfl := hw
        have hP : va_P D vwCl [(u0, .inr (8, [.ref (q 2), .int kd])), (q 0, .inr (10, [.ref (q 20), .int (nI tl)])), (q 20, .inl (cI, 1600, .inl (fun j => nI (tb j)))), (h0, .inr (0, [.ref k1, .ref k2, .ref k3, .ref k4, .int (nI c2_183), .int (nI w2_184)])), (k1, .inl (cI, 1600, .inl g1_185)), (q 2, .inr (6, [.ref (q 0), .int (nI xa2_177), .int xv2_178, .int (nI ((xo + 1) - 1)), .int xt2_179, .int (nI xz2_180), .int xf2_181, .int xp2_182]))] H := hP
        have hD : va_D A [(u0, .inr (8, [.ref (q 2), .int kd])), (q 0, .inr (10, [.ref (q 20), .int (nI tl)])), (q 20, .inl (cI, 1600, .inl (fun j => nI (tb j)))), (h0, .inr (0, [.ref k1, .ref k2, .ref k3, .ref k4, .int (nI c2_183), .int (nI w2_184)])), (k1, .inl (cI, 1600, .inl g1_185)), (q 2, .inr (6, [.ref (q 0), .int (nI xa2_177), .int xv2_178, .int (nI ((xo + 1) - 1)), .int xt2_179, .int (nI xz2_180), .int xf2_181, .int xp2_182]))] := hD
        refine lv_aload_n hx hb dX8_readPart_62 rfl (lv_at hl 1 rfl) ?_
        refine sk_get (v := .ref (q 2)) (C := RX8) (T := TX8) (N := 2) hx hb hts inlX8 hown hK hP 0 rfl rfl 0 (by decide) w_1_100 rfl dX8_readPart_63 ?_
        refine lv_bipush (v := 41) hx hb dX8_readPart_66 (by decide) ?_
        refine sk_VvZ (q0 := 0) (n := 1) (rest := []) (wr := [(u0, .inr (8, [.ref (q 2), .int kd])), (h0, .inr (0, [.ref k1, .ref k2, .ref k3, .ref k4, .int (nI c2_183), .int (nI w2_184)])), (k1, .inl (cI, 1600, .inl g1_185))]) ⟨hx, hb, hml, hown, hts⟩ hl.1 (c_rd_needs l D cI cJ cC cZ cS zk zv zf q xa2_177 xv2_178 ((xo + 1) - 1) xt2_179 xz2_180 xf2_181 xp2_182 tl tb 41 (by omega) (by omega) (by omega) htb) w_3_109 w_3_51 w_3_52 w_1_4 w_3_53 (by decide +kernel) ⟨⟨(by dsimp only; omega), (by dsimp only; omega)⟩, (by dsimp only; omega), (by dsimp only; omega)⟩ hK hP hD hS hZ hA [5, 1, 2] [0, 3, 4] rfl rfl (by decide +kernel) (by decide +kernel) (by decide +kernel) rfl rfl rfl rfl (Nat.le_of_ble_eq_true rfl) dX8_readPart_68 (fun u H locs hw hP hD hS => ?_)
        obtain ⟨xa2_190, xv2_191, xt2_192, xz2_193, xf2_194, xp2_195, hxa2_196, hxz2_197, rfl⟩ := hw
        have hP : va_P D vwCl [(u0, .inr (8, [.ref (q 2), .int kd])), (h0, .inr (0, [.ref k1, .ref k2, .ref k3, .ref k4, .int (nI c2_183), .int (nI w2_184)])), (k1, .inl (cI, 1600, .inl g1_185)), (q 2, .inr (6, [.ref (q 0), .int (nI xa2_190), .int xv2_191, .int (nI ((xo + 1) - 1)), .int xt2_192, .int (nI xz2_193), .int xf2_194, .int xp2_195])), (q 0, .inr (10, [.ref (q 20), .int (nI tl)])), (q 20, .inl (cI, 1600, .inl (fun j => nI (tb j))))] H := hP
        have hD : va_D A [(u0, .inr (8, [.ref (q 2), .int kd])), (h0, .inr (0, [.ref k1, .ref k2, .ref k3, .ref k4, .int (nI c2_183), .int (nI w2_184)])), (k1, .inl (cI, 1600, .inl g1_185)), (q 2, .inr (6, [.ref (q 0), .int (nI xa2_190), .int xv2_191, .int (nI ((xo + 1) - 1)), .int xt2_192, .int (nI xz2_193), .int xf2_194, .int xp2_195])), (q 0, .inr (10, [.ref (q 20), .int (nI tl)])), (q 20, .inl (cI, 1600, .inl (fun j => nI (tb j))))] := hD
        refine lv_goto (tgt := 217) hx hb dX8_readPart_71 (by decide) ?_
        have hP := hP.sub (ws' := [(u0, .inr (8, [.ref (q 2), .int kd])), (q 2, .inr (6, [.ref (q 0), .int (nI xa2_190), .int xv2_191, .int (nI ((xo + 1) - 1)), .int xt2_192, .int (nI xz2_193), .int xf2_194, .int xp2_195])), (q 0, .inr (10, [.ref (q 20), .int (nI tl)])), (q 20, .inl (cI, 1600, .inl (fun j => nI (tb j)))), (h0, .inr (0, [.ref k1, .ref k2, .ref k3, .ref k4, .int (nI c2_183), .int (nI w2_184)])), (k1, .inl (cI, 1600, .inl g1_185))]) [0, 3, 4, 5, 1, 2] rfl
        have hD := hD.sub (ws' := [(u0, .inr (8, [.ref (q 2), .int kd])), (q 2, .inr (6, [.ref (q 0), .int (nI xa2_190), .int xv2_191, .int (nI ((xo + 1) - 1)), .int xt2_192, .int (nI xz2_193), .int xf2_194, .int xp2_195])), (q 0, .inr (10, [.ref (q 20), .int (nI tl)])), (q 20, .inl (cI, 1600, .inl (fun j => nI (tb j)))), (h0, .inr (0, [.ref k1, .ref k2, .ref k3, .ref k4, .int (nI c2_183), .int (nI w2_184)])), (k1, .inl (cI, 1600, .inl g1_185))]) [0, 3, 4, 5, 1, 2] (by decide +kernel) rfl
        exact sk_vret hx hb hr hlocks hK hP hD hS (⟨xa2_190, xv2_191, xt2_192, xz2_193, xf2_194, xp2_195, c2_183, w2_184, g1_185, by omega, by omega, by omega, by omega, rfl⟩) (Nat.le_of_ble_eq_true rfl) (Nat.le_of_ble_eq_true rfl) dX8_readPart_217
  · skip
    refine lv_aload_n hx hb dX8_readPart_14 rfl (lv_at hl 2 rfl) ?_
    refine lv_aload_n hx hb dX8_readPart_15 rfl (lv_at hl 1 rfl) ?_
    refine sk_get (v := .ref (q 2)) (C := RX8) (T := TX8) (N := 2) hx hb hts inlX8 hown hK hP 0 rfl rfl 0 (by decide) w_1_100 rfl dX8_readPart_16 ?_
    refine lv_iconst (v := 0) hx hb dX8_readPart_19 (by decide) ?_
    refine lv_sipush (v := 9999) hx hb dX8_readPart_20 (by decide) ?_
    refine sk_ViZ (q0 := 0) (n := 2) (rest := [.ref h0]) (wr := [(u0, .inr (8, [.ref (q 2), .int kd])), (h0, .inr (0, [.ref k1, .ref k2, .ref k3, .ref k4, .int (nI cl), .int (nI mw)])), (k1, .inl (cI, 1600, .inl f1))]) ⟨hx, hb, hml, hown, hts⟩ hl.1 (c_rd_takeNumber l D cI cJ cC cZ cS zk zv zf q xa xv xo xt xz xf xp tl tb 0 9999 (by omega) (by omega) (by omega) htb (by omega) (by omega)) w_3_96 w_3_63 w_3_64 w_1_4 w_3_65 (by decide +kernel) ⟨⟨(by dsimp only; omega), (by dsimp only; omega)⟩, (by dsimp only; omega), (by dsimp only; omega)⟩ hK hP hD hS hZ hA [1, 2, 3] [0, 4, 5] rfl rfl (by decide +kernel) (by decide +kernel) (by decide +kernel) rfl rfl rfl rfl (Nat.le_of_ble_eq_true rfl) dX8_readPart_23 (fun r_205 u H locs hw hP hD hS => ?_)
    obtain ⟨xa2_198, xv2_199, xt2_200, xz2_201, xf2_202, xp2_203, v_204, hxa2_206, hxz2_207, hv1_208, hv2_209, rfl, rfl⟩ := hw
    have hP : va_P D vwCl [(u0, .inr (8, [.ref (q 2), .int kd])), (h0, .inr (0, [.ref k1, .ref k2, .ref k3, .ref k4, .int (nI cl), .int (nI mw)])), (k1, .inl (cI, 1600, .inl f1)), (q 2, .inr (6, [.ref (q 0), .int (nI xa2_198), .int xv2_199, .int (nI xo), .int xt2_200, .int (nI xz2_201), .int xf2_202, .int xp2_203])), (q 0, .inr (10, [.ref (q 20), .int (nI tl)])), (q 20, .inl (cI, 1600, .inl (fun j => nI (tb j))))] H := hP
    have hD : va_D A [(u0, .inr (8, [.ref (q 2), .int kd])), (h0, .inr (0, [.ref k1, .ref k2, .ref k3, .ref k4, .int (nI cl), .int (nI mw)])), (k1, .inl (cI, 1600, .inl f1)), (q 2, .inr (6, [.ref (q 0), .int (nI xa2_198), .int xv2_199, .int (nI xo), .int xt2_200, .int (nI xz2_201), .int xf2_202, .int xp2_203])), (q 0, .inr (10, [.ref (q 20), .int (nI tl)])), (q 20, .inl (cI, 1600, .inl (fun j => nI (tb j))))] := hD
    refine sk_Vv (q0 := 0) (n := 1) (rest := []) (wr := [(u0, .inr (8, [.ref (q 2), .int kd])), (q 2, .inr (6, [.ref (q 0), .int (nI xa2_198), .int xv2_199, .int (nI xo), .int xt2_200, .int (nI xz2_201), .int xf2_202, .int xp2_203])), (q 0, .inr (10, [.ref (q 20), .int (nI tl)])), (q 20, .inl (cI, 1600, .inl (fun j => nI (tb j))))]) ⟨hx, hb, hml, hown, hts⟩ hl.1 (c_Code_add l D cI cJ cC cZ cS h0 k1 k2 k3 k4 cl mw f1 (nI v_204) (by omega) (by omega)) w_3_97 w_3_98 w_3_99 w_1_8 w_3_100 (by decide +kernel) ⟨⟨(by dsimp only; omega), (by dsimp only; omega)⟩, (by dsimp only; omega), (by dsimp only; omega)⟩ hK hP hD hS hA [1, 2] [0, 3, 4, 5] rfl rfl (by decide +kernel) (by decide +kernel) (by decide +kernel) rfl rfl rfl rfl (Nat.le_of_ble_eq_true rfl) dX8_readPart_26 (fun u H locs hw hP hD hS => ?_)
    obtain ⟨c2_210, w2_211, g1_212, hc2_213, hw2_214, rfl⟩ := hw
    have hP : va_P D vwCl [(u0, .inr (8, [.ref (q 2), .int kd])), (q 2, .inr (6, [.ref (q 0), .int (nI xa2_198), .int xv2_199, .int (nI xo), .int xt2_200, .int (nI xz2_201), .int xf2_202, .int xp2_203])), (q 0, .inr (10, [.ref (q 20), .int (nI tl)])), (q 20, .inl (cI, 1600, .inl (fun j => nI (tb j)))), (h0, .inr (0, [.ref k1, .ref k2, .ref k3, .ref k4, .int (nI c2_210), .int (nI w2_211)])), (k1, .inl (cI, 1600, .inl g1_212))] H := hP
    have hD : va_D A [(u0, .inr (8, [.ref (q 2), .int kd])), (q 2, .inr (6, [.ref (q 0), .int (nI xa2_198), .int xv2_199, .int (nI xo), .int xt2_200, .int (nI xz2_201), .int xf2_202, .int xp2_203])), (q 0, .inr (10, [.ref (q 20), .int (nI tl)])), (q 20, .inl (cI, 1600, .inl (fun j => nI (tb j)))), (h0, .inr (0, [.ref k1, .ref k2, .ref k3, .ref k4, .int (nI c2_210), .int (nI w2_211)])), (k1, .inl (cI, 1600, .inl g1_212))] := hD
    refine lv_goto (tgt := 217) hx hb dX8_readPart_29 (by decide) ?_
    exact sk_vret hx hb hr hlocks hK hP hD hS (⟨xa2_198, xv2_199, xt2_200, xz2_201, xf2_202, xp2_203, c2_210, w2_211, g1_212, by omega, by omega, by omega, by omega, rfl⟩) (Nat.le_of_ble_eq_true rfl) (Nat.le_of_ble_eq_true rfl) dX8_readPart_217
theorem dX8_readProduct_0 : decode cX8_readProduct 0 = .ok (.aload_n 0, 1) := by decide +kernel
theorem dX8_readProduct_1 : decode cX8_readProduct 1 = .ok (.aload_n 1, 1) := by decide +kernel
theorem dX8_readProduct_2 : decode cX8_readProduct 2 = .ok (.invokevirtual 42, 3) := by decide +kernel
theorem dX8_readProduct_5 : decode cX8_readProduct 5 = .ok (.iconst 0, 1) := by decide +kernel
theorem dX8_readProduct_6 : decode cX8_readProduct 6 = .ok (.istore_n 2, 1) := by decide +kernel
theorem dX8_readProduct_7 : decode cX8_readProduct 7 = .ok (.iload_n 2, 1) := by decide +kernel
theorem dX8_readProduct_8 : decode cX8_readProduct 8 = .ok (.sipush 1600, 3) := by decide +kernel
theorem dX8_readProduct_11 : decode cX8_readProduct 11 = .ok (.if_icmp .ge 72, 3) := by decide +kernel
theorem dX8_readProduct_83 : decode cX8_readProduct 83 = .ok (.return_, 1) := by decide +kernel
theorem dX8_readProduct_14 : decode cX8_readProduct 14 = .ok (.aload_n 0, 1) := by decide +kernel
theorem dX8_readProduct_15 : decode cX8_readProduct 15 = .ok (.getfield 9, 3) := by decide +kernel
theorem dX8_readProduct_18 : decode cX8_readProduct 18 = .ok (.getfield 28, 3) := by decide +kernel
theorem dX8_readProduct_21 : decode cX8_readProduct 21 = .ok (.bipush 42, 2) := by decide +kernel
theorem dX8_readProduct_23 : decode cX8_readProduct 23 = .ok (.if_icmp .eq 15, 3) := by decide +kernel
theorem dX8_readProduct_59 : decode cX8_readProduct 59 = .ok (.istore_n 3, 1) := by decide +kernel
theorem dX8_readProduct_60 : decode cX8_readProduct 60 = .ok (.aload_n 0, 1) := by decide +kernel
theorem dX8_readProduct_61 : decode cX8_readProduct 61 = .ok (.getfield 9, 3) := by decide +kernel
theorem dX8_readProduct_64 : decode cX8_readProduct 64 = .ok (.invokevirtual 35, 3) := by decide +kernel
theorem dX8_readProduct_67 : decode cX8_readProduct 67 = .ok (.aload_n 0, 1) := by decide +kernel
theorem dX8_readProduct_68 : decode cX8_readProduct 68 = .ok (.aload_n 1, 1) := by decide +kernel
theorem dX8_readProduct_69 : decode cX8_readProduct 69 = .ok (.invokevirtual 42, 3) := by decide +kernel
theorem dX8_readProduct_72 : decode cX8_readProduct 72 = .ok (.aload_n 1, 1) := by decide +kernel
theorem dX8_readProduct_73 : decode cX8_readProduct 73 = .ok (.iload_n 3, 1) := by decide +kernel
theorem dX8_readProduct_74 : decode cX8_readProduct 74 = .ok (.invokevirtual 38, 3) := by decide +kernel
theorem dX8_readProduct_77 : decode cX8_readProduct 77 = .ok (.iinc 2 1, 3) := by decide +kernel
theorem dX8_readProduct_80 : decode cX8_readProduct 80 = .ok (.goto (-73), 3) := by decide +kernel
theorem dX8_readProduct_38 : decode cX8_readProduct 38 = .ok (.aload_n 0, 1) := by decide +kernel
theorem dX8_readProduct_39 : decode cX8_readProduct 39 = .ok (.getfield 9, 3) := by decide +kernel
theorem dX8_readProduct_42 : decode cX8_readProduct 42 = .ok (.getfield 28, 3) := by decide +kernel
theorem dX8_readProduct_45 : decode cX8_readProduct 45 = .ok (.bipush 42, 2) := by decide +kernel
theorem dX8_readProduct_47 : decode cX8_readProduct 47 = .ok (.if_icmp .ne 9, 3) := by decide +kernel
theorem dX8_readProduct_56 : decode cX8_readProduct 56 = .ok (.sipush 30003, 3) := by decide +kernel
theorem dX8_readProduct_50 : decode cX8_readProduct 50 = .ok (.sipush 30002, 3) := by decide +kernel
theorem dX8_readProduct_53 : decode cX8_readProduct 53 = .ok (.goto 6, 3) := by decide +kernel
theorem dX8_readProduct_26 : decode cX8_readProduct 26 = .ok (.aload_n 0, 1) := by decide +kernel
theorem dX8_readProduct_27 : decode cX8_readProduct 27 = .ok (.getfield 9, 3) := by decide +kernel
theorem dX8_readProduct_30 : decode cX8_readProduct 30 = .ok (.getfield 28, 3) := by decide +kernel
theorem dX8_readProduct_33 : decode cX8_readProduct 33 = .ok (.bipush 47, 2) := by decide +kernel
theorem dX8_readProduct_35 : decode cX8_readProduct 35 = .ok (.if_icmp .ne 48, 3) := by decide +kernel
theorem w_3_91 : (Cond.code yX8_readProduct cX8_readProduct 4 none) ∈ wsL_law := sk_mem (ck_3 _ (List.mem_of_getElem? (i := 91) rfl)) rfl
set_option maxHeartbeats 4000000 in
set_option maxRecDepth 100000 in
theorem c_readProduct (l : Launch) (D : va_G) (cI cJ cC cZ cS : ClassId) (zk zv : Nat) (zf : Value) (dd : Nat) (hq : CT_readPart l D cI cJ cC cZ cS zk zv zf dd) : CT_readProduct l D cI cJ cC cZ cS zk zv zf dd := by
  intro q u0 kd xa xv xo xt xz xf xp tl tb h0 k1 k2 k3 k4 cl mw f1 hxa hxz htl htb hcl hmw hdd
  refine skMZ_of (by decide +kernel) (Nat.le_of_ble_eq_true rfl) ?_
  intro p e s m below meth c A ls E hP hD hZ hl
  obtain ⟨hx, hb, hr, hml, hlocks, hin, hown, hts, hK, hA⟩ := E
  have hown : s.vm.findClass RX8 = some m.cls := hown
  have hS : va_S A s.heap s.heap [] := va_S.rf
  have hl : lv_has ls 4 [(0, .ref u0), (1, .ref h0)] := hl
  refine lv_aload_n hx hb dX8_readProduct_0 rfl (lv_at hl 0 rfl) ?_
  refine lv_aload_n hx hb dX8_readProduct_1 rfl (lv_at hl 1 rfl) ?_
  refine sk_VvZ (q0 := 0) (n := 1) (rest := []) (wr := []) ⟨hx, hb, hml, hown, hts⟩ hl.1 (hq q u0 kd xa xv xo xt xz xf xp tl tb h0 k1 k2 k3 k4 cl mw f1 (by omega) (by omega) (by omega) htb (by omega) (by omega) (by omega)) w_3_92 w_3_94 w_0_8 w_1_6 w_3_95 (by decide +kernel) ⟨⟨(by dsimp only; omega), (by dsimp only; omega)⟩, (by dsimp only; omega), (by dsimp only; omega)⟩ hK hP hD hS hZ hA [0, 1, 2, 3, 4, 5] [] rfl rfl (by decide +kernel) (by decide +kernel) (by decide +kernel) rfl rfl rfl rfl (Nat.le_of_ble_eq_true rfl) dX8_readProduct_2 (fun u H locs hw hP hD hS => ?_)
  obtain ⟨xa2_1, xv2_2, xt2_3, xz2_4, xf2_5, xp2_6, c2_7, w2_8, g1_9, hxa2_10, hxz2_11, hc2_12, hw2_13, rfl⟩ := hw
  have hP : va_P D vwCl [(u0, .inr (8, [.ref (q 2), .int kd])), (q 2, .inr (6, [.ref (q 0), .int (nI xa2_1), .int xv2_2, .int (nI xo), .int xt2_3, .int (nI xz2_4), .int xf2_5, .int xp2_6])), (q 0, .inr (10, [.ref (q 20), .int (nI tl)])), (q 20, .inl (cI, 1600, .inl (fun j => nI (tb j)))), (h0, .inr (0, [.ref k1, .ref k2, .ref k3, .ref k4, .int (nI c2_7), .int (nI w2_8)])), (k1, .inl (cI, 1600, .inl g1_9))] H := hP
  have hD : va_D A [(u0, .inr (8, [.ref (q 2), .int kd])), (q 2, .inr (6, [.ref (q 0), .int (nI xa2_1), .int xv2_2, .int (nI xo), .int xt2_3, .int (nI xz2_4), .int xf2_5, .int xp2_6])), (q 0, .inr (10, [.ref (q 20), .int (nI tl)])), (q 20, .inl (cI, 1600, .inl (fun j => nI (tb j)))), (h0, .inr (0, [.ref k1, .ref k2, .ref k3, .ref k4, .int (nI c2_7), .int (nI w2_8)])), (k1, .inl (cI, 1600, .inl g1_9))] := hD
  refine lv_iconst (v := 0) hx hb dX8_readProduct_5 (by decide) ?_
  refine lv_istore_n (lv' := [(2, .int 0), (0, .ref u0), (1, .ref h0)]) hx hb dX8_readProduct_6 rfl hl (by decide) rfl (fun ls hl => ?_)
  have lp_14 : ∀ (n_15 : Nat) (i : Nat) (za : Nat) (zw : Int32) (zt : Int32) (zz : Nat) (zg : Int32) (zp : Int32) (yc : Nat) (yw : Nat) (yf : Nat → Int32) (H : Heap) (locs : List Loc) (ls : Array Slot), 1600 - i < n_15 → (i ≤ 1600) → (za ≤ 1600) → (zz ≤ 1600) → (yc ≤ 1600) → (yw ≤ 1) → va_P D vwCl [(u0, .inr (8, [.ref (q 2), .int kd])), (q 2, .inr (6, [.ref (q 0), .int (nI za), .int zw, .int (nI xo), .int zt, .int (nI zz), .int zg, .int zp])), (q 0, .inr (10, [.ref (q 20), .int (nI tl)])), (q 20, .inl (cI, 1600, .inl (fun j => nI (tb j)))), (h0, .inr (0, [.ref k1, .ref k2, .ref k3, .ref k4, .int (nI yc), .int (nI yw)])), (k1, .inl (cI, 1600, .inl yf))] H → va_D A [(u0, .inr (8, [.ref (q 2), .int kd])), (q 2, .inr (6, [.ref (q 0), .int (nI za), .int zw, .int (nI xo), .int zt, .int (nI zz), .int zg, .int zp])), (q 0, .inr (10, [.ref (q 20), .int (nI tl)])), (q 20, .inl (cI, 1600, .inl (fun j => nI (tb j)))), (h0, .inr (0, [.ref k1, .ref k2, .ref k3, .ref k4, .int (nI yc), .int (nI yw)])), (k1, .inl (cI, 1600, .inl yf))] → va_S A s.heap H locs → lv_has ls 4 [(2, .int (nI i)), (0, .ref u0), (1, .ref h0)] → W p l e { frames := 22 + 5 * dd, cells := 0, slots := 0, locals := 650 + 100 * dd } s m ([.ref u0, .ref h0] : List Value).toArray below meth c H locs 0 0 (MQ below (skV D (skT cI cJ cC cZ cS) (fun (u : va_W) => ∃ (xa2 : Nat), ∃ (xv2 : Int32), ∃ (xt2 : Int32), ∃ (xz2 : Nat), ∃ (xf2 : Int32), ∃ (xp2 : Int32), ∃ (c2 : Nat), ∃ (w2 : Nat), ∃ (g1 : Nat → Int32), xa2 ≤ 1600 ∧ xz2 ≤ 1600 ∧ c2 ≤ 1600 ∧ w2 ≤ 1 ∧ u = [(u0, .inr (8, [.ref (q 2), .int kd])), (q 2, .inr (6, [.ref (q 0), .int (nI xa2), .int xv2, .int (nI xo), .int xt2, .int (nI xz2), .int xf2, .int xp2])), (q 0, .inr (10, [.ref (q 20), .int (nI tl)])), (q 20, .inl (cI, 1600, .inl (fun j => nI (tb j)))), (h0, .inr (0, [.ref k1, .ref k2, .ref k3, .ref k4, .int (nI c2), .int (nI w2)])), (k1, .inl (cI, 1600, .inl g1))]) A) ([.ref u0, .ref h0] : List Value).toArray s 0 0 A) (F0 m 7 ls []) := by
    intro n_15
    induction n_15 with
    | zero => intro i za zw zt zz zg zp yc yw yf H locs ls hm; exact absurd hm (Nat.not_lt_zero _)
    | succ n_15 ih_lp_14 =>
      intro i za zw zt zz zg zp yc yw yf H locs ls hm hi hza hzz hyc hyw hP hD hS hl
      refine lv_iload_n hx hb dX8_readProduct_7 rfl (lv_at hl 0 rfl) ?_
      refine lv_sipush (v := 1600) hx hb dX8_readProduct_8 (by decide) ?_
      refine lv_icmp_ge (tgt := 83) hx hb dX8_readProduct_11 (by decide) (fun c_16 => ?_) (fun c_16 => ?_)
      · have c_16 : 1600 ≤ i := (nle 1600 i (by omega) (by omega)).mp c_16
        exact sk_vret hx hb hr hlocks hK hP hD hS (⟨za, zw, zt, zz, zg, zp, yc, yw, yf, by omega, by omega, by omega, by omega, rfl⟩) (Nat.le_of_ble_eq_true rfl) (Nat.le_of_ble_eq_true rfl) dX8_readProduct_83
      · have c_16 : ¬ (1600 ≤ i) := fun h => c_16 ((nle 1600 i (by omega) (by omega)).mpr h)
        refine lv_aload_n hx hb dX8_readProduct_14 rfl (lv_at hl 1 rfl) ?_
        refine sk_get (v := .ref (q 2)) (C := RX8) (T := TX8) (N := 2) hx hb hts inlX8 hown hK hP 0 rfl rfl 0 (by decide) w_1_100 rfl dX8_readProduct_15 ?_
        refine sk_get (v := .int zt) (C := RX6) (T := TX6) (N := 8) hx hb hts inlX6 hown hK hP 1 rfl rfl 4 (by decide) w_1_63 rfl dX8_readProduct_18 ?_
        refine lv_bipush (v := 42) hx hb dX8_readProduct_21 (by decide) ?_
        refine lv_icmp_eq (tgt := 38) hx hb dX8_readProduct_23 (by decide) (fun c_17 => ?_) (fun c_17 => ?_)
        · skip
          have jn_18 : ∀ (sq : Int32) (H : Heap) (locs : List Loc) (ls : Array Slot), va_P D vwCl [(u0, .inr (8, [.ref (q 2), .int kd])), (q 2, .inr (6, [.ref (q 0), .int (nI za), .int zw, .int (nI xo), .int zt, .int (nI zz), .int zg, .int zp])), (q 0, .inr (10, [.ref (q 20), .int (nI tl)])), (q 20, .inl (cI, 1600, .inl (fun j => nI (tb j)))), (h0, .inr (0, [.ref k1, .ref k2, .ref k3, .ref k4, .int (nI yc), .int (nI yw)])), (k1, .inl (cI, 1600, .inl yf))] H → va_D A [(u0, .inr (8, [.ref (q 2), .int kd])), (q 2, .inr (6, [.ref (q 0), .int (nI za), .int zw, .int (nI xo), .int zt, .int (nI zz), .int zg, .int zp])), (q 0, .inr (10, [.ref (q 20), .int (nI tl)])), (q 20, .inl (cI, 1600, .inl (fun j => nI (tb j)))), (h0, .inr (0, [.ref k1, .ref k2, .ref k3, .ref k4, .int (nI yc), .int (nI yw)])), (k1, .inl (cI, 1600, .inl yf))] → va_S A s.heap H locs → lv_has ls 4 [(2, .int (nI i)), (0, .ref u0), (1, .ref h0)] → W p l e { frames := 22 + 5 * dd, cells := 0, slots := 0, locals := 650 + 100 * dd } s m ([.ref u0, .ref h0] : List Value).toArray below meth c H locs 0 0 (MQ below (skV D (skT cI cJ cC cZ cS) (fun (u : va_W) => ∃ (xa2 : Nat), ∃ (xv2 : Int32), ∃ (xt2 : Int32), ∃ (xz2 : Nat), ∃ (xf2 : Int32), ∃ (xp2 : Int32), ∃ (c2 : Nat), ∃ (w2 : Nat), ∃ (g1 : Nat → Int32), xa2 ≤ 1600 ∧ xz2 ≤ 1600 ∧ c2 ≤ 1600 ∧ w2 ≤ 1 ∧ u = [(u0, .inr (8, [.ref (q 2), .int kd])), (q 2, .inr (6, [.ref (q 0), .int (nI xa2), .int xv2, .int (nI xo), .int xt2, .int (nI xz2), .int xf2, .int xp2])), (q 0, .inr (10, [.ref (q 20), .int (nI tl)])), (q 20, .inl (cI, 1600, .inl (fun j => nI (tb j)))), (h0, .inr (0, [.ref k1, .ref k2, .ref k3, .ref k4, .int (nI c2), .int (nI w2)])), (k1, .inl (cI, 1600, .inl g1))]) A) ([.ref u0, .ref h0] : List Value).toArray s 0 0 A) (F0 m 59 ls [.int sq]) := by
            intro sq H locs ls  hP hD hS hl
            refine lv_istore_n (lv' := [(3, .int sq), (2, .int (nI i)), (0, .ref u0), (1, .ref h0)]) hx hb dX8_readProduct_59 rfl hl (by decide) rfl (fun ls hl => ?_)
            refine lv_aload_n hx hb dX8_readProduct_60 rfl (lv_at hl 2 rfl) ?_
            refine sk_get (v := .ref (q 2)) (C := RX8) (T := TX8) (N := 2) hx hb hts inlX8 hown hK hP 0 rfl rfl 0 (by decide) w_1_100 rfl dX8_readProduct_61 ?_
            refine sk_VvZ (q0 := 0) (n := 0) (rest := []) (wr := [(u0, .inr (8, [.ref (q 2), .int kd])), (h0, .inr (0, [.ref k1, .ref k2, .ref k3, .ref k4, .int (nI yc), .int (nI yw)])), (k1, .inl (cI, 1600, .inl yf))]) ⟨hx, hb, hml, hown, hts⟩ hl.1 (c_rd_step l D cI cJ cC cZ cS zk zv zf q za zw xo zt zz zg zp tl tb (by omega) (by omega) (by omega) htb) w_3_110 w_2_226 w_2_227 w_1_4 w_2_228 (by decide +kernel) ⟨⟨(by dsimp only; omega), (by dsimp only; omega)⟩, (by dsimp only; omega), (by dsimp only; omega)⟩ hK hP hD hS hZ hA [1, 2, 3] [0, 4, 5] rfl rfl (by decide +kernel) (by decide +kernel) (by decide +kernel) rfl rfl rfl rfl (Nat.le_of_ble_eq_true rfl) dX8_readProduct_64 (fun u H locs hw hP hD hS => ?_)
            obtain ⟨xa2_19, xv2_20, xt2_21, xz2_22, hxa2_23, hxz2_24, rfl⟩ := hw
            have hP : va_P D vwCl [(u0, .inr (8, [.ref (q 2), .int kd])), (h0, .inr (0, [.ref k1, .ref k2, .ref k3, .ref k4, .int (nI yc), .int (nI yw)])), (k1, .inl (cI, 1600, .inl yf)), (q 2, .inr (6, [.ref (q 0), .int (nI xa2_19), .int xv2_20, .int (nI xo), .int xt2_21, .int (nI xz2_22), .int zg, .int zp])), (q 0, .inr (10, [.ref (q 20), .int (nI tl)])), (q 20, .inl (cI, 1600, .inl (fun j => nI (tb j))))] H := hP
            have hD : va_D A [(u0, .inr (8, [.ref (q 2), .int kd])), (h0, .inr (0, [.ref k1, .ref k2, .ref k3, .ref k4, .int (nI yc), .int (nI yw)])), (k1, .inl (cI, 1600, .inl yf)), (q 2, .inr (6, [.ref (q 0), .int (nI xa2_19), .int xv2_20, .int (nI xo), .int xt2_21, .int (nI xz2_22), .int zg, .int zp])), (q 0, .inr (10, [.ref (q 20), .int (nI tl)])), (q 20, .inl (cI, 1600, .inl (fun j => nI (tb j))))] := hD
            refine lv_aload_n hx hb dX8_readProduct_67 rfl (lv_at hl 2 rfl) ?_
            refine lv_aload_n hx hb dX8_readProduct_68 rfl (lv_at hl 3 rfl) ?_
            refine sk_VvZ (q0 := 0) (n := 1) (rest := []) (wr := []) ⟨hx, hb, hml, hown, hts⟩ hl.1 (hq q u0 kd xa2_19 xv2_20 xo xt2_21 xz2_22 zg zp tl tb h0 k1 k2 k3 k4 yc yw yf (by omega) (by omega) (by omega) htb (by omega) (by omega) (by omega)) w_3_92 w_3_94 w_0_8 w_1_6 w_3_95 (by decide +kernel) ⟨⟨(by dsimp only; omega), (by dsimp only; omega)⟩, (by dsimp only; omega), (by dsimp only; omega)⟩ hK hP hD hS hZ hA [0, 3, 4, 5, 1, 2] [] rfl rfl (by decide +kernel) (by decide +kernel) (by decide +kernel) rfl rfl rfl rfl (Nat.le_of_ble_eq_true rfl) dX8_readProduct_69 (fun u H locs hw hP hD hS => ?_)
            obtain ⟨xa2_25, xv2_26, xt2_27, xz2_28, xf2_29, xp2_30, c2_31, w2_32, g1_33, hxa2_34, hxz2_35, hc2_36, hw2_37, rfl⟩ := hw
            have hP : va_P D vwCl [(u0, .inr (8, [.ref (q 2), .int kd])), (q 2, .inr (6, [.ref (q 0), .int (nI xa2_25), .int xv2_26, .int (nI xo), .int xt2_27, .int (nI xz2_28), .int xf2_29, .int xp2_30])), (q 0, .inr (10, [.ref (q 20), .int (nI tl)])), (q 20, .inl (cI, 1600, .inl (fun j => nI (tb j)))), (h0, .inr (0, [.ref k1, .ref k2, .ref k3, .ref k4, .int (nI c2_31), .int (nI w2_32)])), (k1, .inl (cI, 1600, .inl g1_33))] H := hP
            have hD : va_D A [(u0, .inr (8, [.ref (q 2), .int kd])), (q 2, .inr (6, [.ref (q 0), .int (nI xa2_25), .int xv2_26, .int (nI xo), .int xt2_27, .int (nI xz2_28), .int xf2_29, .int xp2_30])), (q 0, .inr (10, [.ref (q 20), .int (nI tl)])), (q 20, .inl (cI, 1600, .inl (fun j => nI (tb j)))), (h0, .inr (0, [.ref k1, .ref k2, .ref k3, .ref k4, .int (nI c2_31), .int (nI w2_32)])), (k1, .inl (cI, 1600, .inl g1_33))] := hD
            refine lv_aload_n hx hb dX8_readProduct_72 rfl (lv_at hl 3 rfl) ?_
            refine lv_iload_n hx hb dX8_readProduct_73 rfl (lv_at hl 0 rfl) ?_
            refine sk_Vv (q0 := 0) (n := 1) (rest := []) (wr := [(u0, .inr (8, [.ref (q 2), .int kd])), (q 2, .inr (6, [.ref (q 0), .int (nI xa2_25), .int xv2_26, .int (nI xo), .int xt2_27, .int (nI xz2_28), .int xf2_29, .int xp2_30])), (q 0, .inr (10, [.ref (q 20), .int (nI tl)])), (q 20, .inl (cI, 1600, .inl (fun j => nI (tb j))))]) ⟨hx, hb, hml, hown, hts⟩ hl.1 (c_Code_add l D cI cJ cC cZ cS h0 k1 k2 k3 k4 c2_31 w2_32 g1_33 sq (by omega) (by omega)) w_3_97 w_3_98 w_3_99 w_1_8 w_3_100 (by decide +kernel) ⟨⟨(by dsimp only; omega), (by dsimp only; omega)⟩, (by dsimp only; omega), (by dsimp only; omega)⟩ hK hP hD hS hA [4, 5] [0, 1, 2, 3] rfl rfl (by decide +kernel) (by decide +kernel) (by decide +kernel) rfl rfl rfl rfl (Nat.le_of_ble_eq_true rfl) dX8_readProduct_74 (fun u H locs hw hP hD hS => ?_)
            obtain ⟨c2_38, w2_39, g1_40, hc2_41, hw2_42, rfl⟩ := hw
            have hP : va_P D vwCl [(u0, .inr (8, [.ref (q 2), .int kd])), (q 2, .inr (6, [.ref (q 0), .int (nI xa2_25), .int xv2_26, .int (nI xo), .int xt2_27, .int (nI xz2_28), .int xf2_29, .int xp2_30])), (q 0, .inr (10, [.ref (q 20), .int (nI tl)])), (q 20, .inl (cI, 1600, .inl (fun j => nI (tb j)))), (h0, .inr (0, [.ref k1, .ref k2, .ref k3, .ref k4, .int (nI c2_38), .int (nI w2_39)])), (k1, .inl (cI, 1600, .inl g1_40))] H := hP
            have hD : va_D A [(u0, .inr (8, [.ref (q 2), .int kd])), (q 2, .inr (6, [.ref (q 0), .int (nI xa2_25), .int xv2_26, .int (nI xo), .int xt2_27, .int (nI xz2_28), .int xf2_29, .int xp2_30])), (q 0, .inr (10, [.ref (q 20), .int (nI tl)])), (q 20, .inl (cI, 1600, .inl (fun j => nI (tb j)))), (h0, .inr (0, [.ref k1, .ref k2, .ref k3, .ref k4, .int (nI c2_38), .int (nI w2_39)])), (k1, .inl (cI, 1600, .inl g1_40))] := hD
            refine lv_iinc (v := nI (i + 1)) (lv' := [(2, .int (nI (i + 1))), (3, .int sq), (0, .ref u0), (1, .ref h0)]) hx hb dX8_readProduct_77 hl (k := 1) rfl (ninc i 1 (by decide)) (by decide) rfl (fun ls hl => ?_)
            refine lv_goto (tgt := 7) hx hb dX8_readProduct_80 (by decide) ?_
            exact ih_lp_14 (i + 1) xa2_25 xv2_26 xt2_27 xz2_28 xf2_29 xp2_30 c2_38 w2_39 g1_40 _ _ _ (by omega) (by omega) (by omega) (by omega) (by omega) (by omega) hP hD hS (lv_sub hl [0, 2, 3] rfl)
          refine lv_aload_n hx hb dX8_readProduct_38 rfl (lv_at hl 1 rfl) ?_
          refine sk_get (v := .ref (q 2)) (C := RX8) (T := TX8) (N := 2) hx hb hts inlX8 hown hK hP 0 rfl rfl 0 (by decide) w_1_100 rfl dX8_readProduct_39 ?_
          refine sk_get (v := .int zt) (C := RX6) (T := TX6) (N := 8) hx hb hts inlX6 hown hK hP 1 rfl rfl 4 (by decide) w_1_63 rfl dX8_readProduct_42 ?_
          refine lv_bipush (v := 42) hx hb dX8_readProduct_45 (by decide) ?_
          refine lv_icmp_ne (tgt := 56) hx hb dX8_readProduct_47 (by decide) (fun c_43 => ?_) (fun c_43 => ?_)
          · skip
            refine lv_sipush (v := 30003) hx hb dX8_readProduct_56 (by decide) ?_
            exact jn_18 30003 _ _ _  hP hD hS (lv_sub hl [0, 1, 2] rfl)
          · skip
            refine lv_sipush (v := 30002) hx hb dX8_readProduct_50 (by decide) ?_
            refine lv_goto (tgt := 59) hx hb dX8_readProduct_53 (by decide) ?_
            exact jn_18 30002 _ _ _  hP hD hS (lv_sub hl [0, 1, 2] rfl)
        · skip
          refine lv_aload_n hx hb dX8_readProduct_26 rfl (lv_at hl 1 rfl) ?_
          refine sk_get (v := .ref (q 2)) (C := RX8) (T := TX8) (N := 2) hx hb hts inlX8 hown hK hP 0 rfl rfl 0 (by decide) w_1_100 rfl dX8_readProduct_27 ?_
          refine sk_get (v := .int zt) (C := RX6) (T := TX6) (N := 8) hx hb hts inlX6 hown hK hP 1 rfl rfl 4 (by decide) w_1_63 rfl dX8_readProduct_30 ?_
          refine lv_bipush (v := 47) hx hb dX8_readProduct_33 (by decide) ?_
          refine lv_icmp_ne (tgt := 83) hx hb dX8_readProduct_35 (by decide) (fun c_44 => ?_) (fun c_44 => ?_)
          · skip
            exact sk_vret hx hb hr hlocks hK hP hD hS (⟨za, zw, zt, zz, zg, zp, yc, yw, yf, by omega, by omega, by omega, by omega, rfl⟩) (Nat.le_of_ble_eq_true rfl) (Nat.le_of_ble_eq_true rfl) dX8_readProduct_83
          · skip
            have jn_45 : ∀ (sq : Int32) (H : Heap) (locs : List Loc) (ls : Array Slot), va_P D vwCl [(u0, .inr (8, [.ref (q 2), .int kd])), (q 2, .inr (6, [.ref (q 0), .int (nI za), .int zw, .int (nI xo), .int zt, .int (nI zz), .int zg, .int zp])), (q 0, .inr (10, [.ref (q 20), .int (nI tl)])), (q 20, .inl (cI, 1600, .inl (fun j => nI (tb j)))), (h0, .inr (0, [.ref k1, .ref k2, .ref k3, .ref k4, .int (nI yc), .int (nI yw)])), (k1, .inl (cI, 1600, .inl yf))] H → va_D A [(u0, .inr (8, [.ref (q 2), .int kd])), (q 2, .inr (6, [.ref (q 0), .int (nI za), .int zw, .int (nI xo), .int zt, .int (nI zz), .int zg, .int zp])), (q 0, .inr (10, [.ref (q 20), .int (nI tl)])), (q 20, .inl (cI, 1600, .inl (fun j => nI (tb j)))), (h0, .inr (0, [.ref k1, .ref k2, .ref k3, .ref k4, .int (nI yc), .int (nI yw)])), (k1, .inl (cI, 1600, .inl yf))] → va_S A s.heap H locs → lv_has ls 4 [(2, .int (nI i)), (0, .ref u0), (1, .ref h0)] → W p l e { frames := 22 + 5 * dd, cells := 0, slots := 0, locals := 650 + 100 * dd } s m ([.ref u0, .ref h0] : List Value).toArray below meth c H locs 0 0 (MQ below (skV D (skT cI cJ cC cZ cS) (fun (u : va_W) => ∃ (xa2 : Nat), ∃ (xv2 : Int32), ∃ (xt2 : Int32), ∃ (xz2 : Nat), ∃ (xf2 : Int32), ∃ (xp2 : Int32), ∃ (c2 : Nat), ∃ (w2 : Nat), ∃ (g1 : Nat → Int32), xa2 ≤ 1600 ∧ xz2 ≤ 1600 ∧ c2 ≤ 1600 ∧ w2 ≤ 1 ∧ u = [(u0, .inr (8, [.ref (q 2), .int kd])), (q 2, .inr (6, [.ref (q 0), .int (nI xa2), .int xv2, .int (nI xo), .int xt2, .int (nI xz2), .int xf2, .int xp2])), (q 0, .inr (10, [.ref (q 20), .int (nI tl)])), (q 20, .inl (cI, 1600, .inl (fun j => nI (tb j)))), (h0, .inr (0, [.ref k1, .ref k2, .ref k3, .ref k4, .int (nI c2), .int (nI w2)])), (k1, .inl (cI, 1600, .inl g1))]) A) ([.ref u0, .ref h0] : List Value).toArray s 0 0 A) (F0 m 59 ls [.int sq]) := by
              intro sq H locs ls  hP hD hS hl
              refine lv_istore_n (lv' := [(3, .int sq), (2, .int (nI i)), (0, .ref u0), (1, .ref h0)]) hx hb dX8_readProduct_59 rfl hl (by decide) rfl (fun ls hl => ?_)
              refine lv_aload_n hx hb dX8_readProduct_60 rfl (lv_at hl 2 rfl) ?_
              refine sk_get (v := .ref (q 2)) (C := RX8) (T := TX8) (N := 2) hx hb hts inlX8 hown hK hP 0 rfl rfl 0 (by decide) w_1_100 rfl dX8_readProduct_61 ?_
              refine sk_VvZ (q0 := 0) (n := 0) (rest := []) (wr := [(u0, .inr (8, [.ref (q 2), .int kd])), (h0, .inr (0, [.ref k1, .ref k2, .ref k3, .ref k4, .int (nI yc), .int (nI yw)])), (k1, .inl (cI, 1600, .inl yf))]) ⟨hx, hb, hml, hown, hts⟩ hl.1 (c_rd_step l D cI cJ cC cZ cS zk zv zf q za zw xo zt zz zg zp tl tb (by omega) (by omega) (by omega) htb) w_3_110 w_2_226 w_2_227 w_1_4 w_2_228 (by decide +kernel) ⟨⟨(by dsimp only; omega), (by dsimp only; omega)⟩, (by dsimp only; omega), (by dsimp only; omega)⟩ hK hP hD hS hZ hA [1, 2, 3] [0, 4, 5] rfl rfl (by decide +kernel) (by decide +kernel) (by decide +kernel) rfl rfl rfl rfl (Nat.le_of_ble_eq_true rfl) dX8_readProduct_64 (fun u H locs hw hP hD hS => ?_)
              obtain ⟨xa2_46, xv2_47, xt2_48, xz2_49, hxa2_50, hxz2_51, rfl⟩ := hw
              have hP : va_P D vwCl [(u0, .inr (8, [.ref (q 2), .int kd])), (h0, .inr (0, [.ref k1, .ref k2, .ref k3, .ref k4, .int (nI yc), .int (nI yw)])), (k1, .inl (cI, 1600, .inl yf)), (q 2, .inr (6, [.ref (q 0), .int (nI xa2_46), .int xv2_47, .int (nI xo), .int xt2_48, .int (nI xz2_49), .int zg, .int zp])), (q 0, .inr (10, [.ref (q 20), .int (nI tl)])), (q 20, .inl (cI, 1600, .inl (fun j => nI (tb j))))] H := hP
              have hD : va_D A [(u0, .inr (8, [.ref (q 2), .int kd])), (h0, .inr (0, [.ref k1, .ref k2, .ref k3, .ref k4, .int (nI yc), .int (nI yw)])), (k1, .inl (cI, 1600, .inl yf)), (q 2, .inr (6, [.ref (q 0), .int (nI xa2_46), .int xv2_47, .int (nI xo), .int xt2_48, .int (nI xz2_49), .int zg, .int zp])), (q 0, .inr (10, [.ref (q 20), .int (nI tl)])), (q 20, .inl (cI, 1600, .inl (fun j => nI (tb j))))] := hD
              refine lv_aload_n hx hb dX8_readProduct_67 rfl (lv_at hl 2 rfl) ?_
              refine lv_aload_n hx hb dX8_readProduct_68 rfl (lv_at hl 3 rfl) ?_
              refine sk_VvZ (q0 := 0) (n := 1) (rest := []) (wr := []) ⟨hx, hb, hml, hown, hts⟩ hl.1 (hq q u0 kd xa2_46 xv2_47 xo xt2_48 xz2_49 zg zp tl tb h0 k1 k2 k3 k4 yc yw yf (by omega) (by omega) (by omega) htb (by omega) (by omega) (by omega)) w_3_92 w_3_94 w_0_8 w_1_6 w_3_95 (by decide +kernel) ⟨⟨(by dsimp only; omega), (by dsimp only; omega)⟩, (by dsimp only; omega), (by dsimp only; omega)⟩ hK hP hD hS hZ hA [0, 3, 4, 5, 1, 2] [] rfl rfl (by decide +kernel) (by decide +kernel) (by decide +kernel) rfl rfl rfl rfl (Nat.le_of_ble_eq_true rfl) dX8_readProduct_69 (fun u H locs hw hP hD hS => ?_)
              obtain ⟨xa2_52, xv2_53, xt2_54, xz2_55, xf2_56, xp2_57, c2_58, w2_59, g1_60, hxa2_61, hxz2_62, hc2_63, hw2_64, rfl⟩ := hw
              have hP : va_P D vwCl [(u0, .inr (8, [.ref (q 2), .int kd])), (q 2, .inr (6, [.ref (q 0), .int (nI xa2_52), .int xv2_53, .int (nI xo), .int xt2_54, .int (nI xz2_55), .int xf2_56, .int xp2_57])), (q 0, .inr (10, [.ref (q 20), .int (nI tl)])), (q 20, .inl (cI, 1600, .inl (fun j => nI (tb j)))), (h0, .inr (0, [.ref k1, .ref k2, .ref k3, .ref k4, .int (nI c2_58), .int (nI w2_59)])), (k1, .inl (cI, 1600, .inl g1_60))] H := hP
              have hD : va_D A [(u0, .inr (8, [.ref (q 2), .int kd])), (q 2, .inr (6, [.ref (q 0), .int (nI xa2_52), .int xv2_53, .int (nI xo), .int xt2_54, .int (nI xz2_55), .int xf2_56, .int xp2_57])), (q 0, .inr (10, [.ref (q 20), .int (nI tl)])), (q 20, .inl (cI, 1600, .inl (fun j => nI (tb j)))), (h0, .inr (0, [.ref k1, .ref k2, .ref k3, .ref k4, .int (nI c2_58), .int (nI w2_59)])), (k1, .inl (cI, 1600, .inl g1_60))] := hD
              refine lv_aload_n hx hb dX8_readProduct_72 rfl (lv_at hl 3 rfl) ?_
              refine lv_iload_n hx hb dX8_readProduct_73 rfl (lv_at hl 0 rfl) ?_
              refine sk_Vv (q0 := 0) (n := 1) (rest := []) (wr := [(u0, .inr (8, [.ref (q 2), .int kd])), (q 2, .inr (6, [.ref (q 0), .int (nI xa2_52), .int xv2_53, .int (nI xo), .int xt2_54, .int (nI xz2_55), .int xf2_56, .int xp2_57])), (q 0, .inr (10, [.ref (q 20), .int (nI tl)])), (q 20, .inl (cI, 1600, .inl (fun j => nI (tb j))))]) ⟨hx, hb, hml, hown, hts⟩ hl.1 (c_Code_add l D cI cJ cC cZ cS h0 k1 k2 k3 k4 c2_58 w2_59 g1_60 sq (by omega) (by omega)) w_3_97 w_3_98 w_3_99 w_1_8 w_3_100 (by decide +kernel) ⟨⟨(by dsimp only; omega), (by dsimp only; omega)⟩, (by dsimp only; omega), (by dsimp only; omega)⟩ hK hP hD hS hA [4, 5] [0, 1, 2, 3] rfl rfl (by decide +kernel) (by decide +kernel) (by decide +kernel) rfl rfl rfl rfl (Nat.le_of_ble_eq_true rfl) dX8_readProduct_74 (fun u H locs hw hP hD hS => ?_)
              obtain ⟨c2_65, w2_66, g1_67, hc2_68, hw2_69, rfl⟩ := hw
              have hP : va_P D vwCl [(u0, .inr (8, [.ref (q 2), .int kd])), (q 2, .inr (6, [.ref (q 0), .int (nI xa2_52), .int xv2_53, .int (nI xo), .int xt2_54, .int (nI xz2_55), .int xf2_56, .int xp2_57])), (q 0, .inr (10, [.ref (q 20), .int (nI tl)])), (q 20, .inl (cI, 1600, .inl (fun j => nI (tb j)))), (h0, .inr (0, [.ref k1, .ref k2, .ref k3, .ref k4, .int (nI c2_65), .int (nI w2_66)])), (k1, .inl (cI, 1600, .inl g1_67))] H := hP
              have hD : va_D A [(u0, .inr (8, [.ref (q 2), .int kd])), (q 2, .inr (6, [.ref (q 0), .int (nI xa2_52), .int xv2_53, .int (nI xo), .int xt2_54, .int (nI xz2_55), .int xf2_56, .int xp2_57])), (q 0, .inr (10, [.ref (q 20), .int (nI tl)])), (q 20, .inl (cI, 1600, .inl (fun j => nI (tb j)))), (h0, .inr (0, [.ref k1, .ref k2, .ref k3, .ref k4, .int (nI c2_65), .int (nI w2_66)])), (k1, .inl (cI, 1600, .inl g1_67))] := hD
              refine lv_iinc (v := nI (i + 1)) (lv' := [(2, .int (nI (i + 1))), (3, .int sq), (0, .ref u0), (1, .ref h0)]) hx hb dX8_readProduct_77 hl (k := 1) rfl (ninc i 1 (by decide)) (by decide) rfl (fun ls hl => ?_)
              refine lv_goto (tgt := 7) hx hb dX8_readProduct_80 (by decide) ?_
              exact ih_lp_14 (i + 1) xa2_52 xv2_53 xt2_54 xz2_55 xf2_56 xp2_57 c2_65 w2_66 g1_67 _ _ _ (by omega) (by omega) (by omega) (by omega) (by omega) (by omega) hP hD hS (lv_sub hl [0, 2, 3] rfl)
            refine lv_aload_n hx hb dX8_readProduct_38 rfl (lv_at hl 1 rfl) ?_
            refine sk_get (v := .ref (q 2)) (C := RX8) (T := TX8) (N := 2) hx hb hts inlX8 hown hK hP 0 rfl rfl 0 (by decide) w_1_100 rfl dX8_readProduct_39 ?_
            refine sk_get (v := .int zt) (C := RX6) (T := TX6) (N := 8) hx hb hts inlX6 hown hK hP 1 rfl rfl 4 (by decide) w_1_63 rfl dX8_readProduct_42 ?_
            refine lv_bipush (v := 42) hx hb dX8_readProduct_45 (by decide) ?_
            refine lv_icmp_ne (tgt := 56) hx hb dX8_readProduct_47 (by decide) (fun c_70 => ?_) (fun c_70 => ?_)
            · skip
              refine lv_sipush (v := 30003) hx hb dX8_readProduct_56 (by decide) ?_
              exact jn_45 30003 _ _ _  hP hD hS (lv_sub hl [0, 1, 2] rfl)
            · skip
              refine lv_sipush (v := 30002) hx hb dX8_readProduct_50 (by decide) ?_
              refine lv_goto (tgt := 59) hx hb dX8_readProduct_53 (by decide) ?_
              exact jn_45 30002 _ _ _  hP hD hS (lv_sub hl [0, 1, 2] rfl)
  exact lp_14 (1600 - 0 + 1) 0 xa2_1 xv2_2 xt2_3 xz2_4 xf2_5 xp2_6 c2_7 w2_8 g1_9 _ _ _ (Nat.lt_succ_self _) (by omega) (by omega) (by omega) (by omega) (by omega) hP hD hS (lv_sub hl [0, 1, 2] rfl)
theorem dX8_readSum_0 : decode cX8_readSum 0 = .ok (.aload_n 0, 1) := by decide +kernel
theorem dX8_readSum_1 : decode cX8_readSum 1 = .ok (.aload_n 1, 1) := by decide +kernel
theorem dX8_readSum_2 : decode cX8_readSum 2 = .ok (.invokevirtual 23, 3) := by decide +kernel
theorem dX8_readSum_5 : decode cX8_readSum 5 = .ok (.iconst 0, 1) := by decide +kernel
theorem dX8_readSum_6 : decode cX8_readSum 6 = .ok (.istore_n 2, 1) := by decide +kernel
theorem dX8_readSum_7 : decode cX8_readSum 7 = .ok (.iload_n 2, 1) := by decide +kernel
theorem dX8_readSum_8 : decode cX8_readSum 8 = .ok (.sipush 1600, 3) := by decide +kernel
theorem dX8_readSum_11 : decode cX8_readSum 11 = .ok (.if_icmp .ge 72, 3) := by decide +kernel
theorem dX8_readSum_83 : decode cX8_readSum 83 = .ok (.return_, 1) := by decide +kernel
theorem dX8_readSum_14 : decode cX8_readSum 14 = .ok (.aload_n 0, 1) := by decide +kernel
theorem dX8_readSum_15 : decode cX8_readSum 15 = .ok (.getfield 9, 3) := by decide +kernel
theorem dX8_readSum_18 : decode cX8_readSum 18 = .ok (.getfield 28, 3) := by decide +kernel
theorem dX8_readSum_21 : decode cX8_readSum 21 = .ok (.bipush 43, 2) := by decide +kernel
theorem dX8_readSum_23 : decode cX8_readSum 23 = .ok (.if_icmp .eq 15, 3) := by decide +kernel
theorem dX8_readSum_59 : decode cX8_readSum 59 = .ok (.istore_n 3, 1) := by decide +kernel
theorem dX8_readSum_60 : decode cX8_readSum 60 = .ok (.aload_n 0, 1) := by decide +kernel
theorem dX8_readSum_61 : decode cX8_readSum 61 = .ok (.getfield 9, 3) := by decide +kernel
theorem dX8_readSum_64 : decode cX8_readSum 64 = .ok (.invokevirtual 35, 3) := by decide +kernel
theorem dX8_readSum_67 : decode cX8_readSum 67 = .ok (.aload_n 0, 1) := by decide +kernel
theorem dX8_readSum_68 : decode cX8_readSum 68 = .ok (.aload_n 1, 1) := by decide +kernel
theorem dX8_readSum_69 : decode cX8_readSum 69 = .ok (.invokevirtual 23, 3) := by decide +kernel
theorem dX8_readSum_72 : decode cX8_readSum 72 = .ok (.aload_n 1, 1) := by decide +kernel
theorem dX8_readSum_73 : decode cX8_readSum 73 = .ok (.iload_n 3, 1) := by decide +kernel
theorem dX8_readSum_74 : decode cX8_readSum 74 = .ok (.invokevirtual 38, 3) := by decide +kernel
theorem dX8_readSum_77 : decode cX8_readSum 77 = .ok (.iinc 2 1, 3) := by decide +kernel
theorem dX8_readSum_80 : decode cX8_readSum 80 = .ok (.goto (-73), 3) := by decide +kernel
theorem dX8_readSum_38 : decode cX8_readSum 38 = .ok (.aload_n 0, 1) := by decide +kernel
theorem dX8_readSum_39 : decode cX8_readSum 39 = .ok (.getfield 9, 3) := by decide +kernel
theorem dX8_readSum_42 : decode cX8_readSum 42 = .ok (.getfield 28, 3) := by decide +kernel
theorem dX8_readSum_45 : decode cX8_readSum 45 = .ok (.bipush 43, 2) := by decide +kernel
theorem dX8_readSum_47 : decode cX8_readSum 47 = .ok (.if_icmp .ne 9, 3) := by decide +kernel
theorem dX8_readSum_56 : decode cX8_readSum 56 = .ok (.sipush 30001, 3) := by decide +kernel
theorem dX8_readSum_50 : decode cX8_readSum 50 = .ok (.sipush 30000, 3) := by decide +kernel
theorem dX8_readSum_53 : decode cX8_readSum 53 = .ok (.goto 6, 3) := by decide +kernel
theorem dX8_readSum_26 : decode cX8_readSum 26 = .ok (.aload_n 0, 1) := by decide +kernel
theorem dX8_readSum_27 : decode cX8_readSum 27 = .ok (.getfield 9, 3) := by decide +kernel
theorem dX8_readSum_30 : decode cX8_readSum 30 = .ok (.getfield 28, 3) := by decide +kernel
theorem dX8_readSum_33 : decode cX8_readSum 33 = .ok (.bipush 45, 2) := by decide +kernel
theorem dX8_readSum_35 : decode cX8_readSum 35 = .ok (.if_icmp .ne 48, 3) := by decide +kernel
theorem w_3_88 : (Cond.methodLink RX8 23 yX8_readProduct) ∈ wsL_law := sk_mem (ck_3 _ (List.mem_of_getElem? (i := 88) rfl)) rfl
theorem w_3_90 : (Cond.instanceMethod yX8_readProduct) ∈ wsL_law := sk_mem (ck_3 _ (List.mem_of_getElem? (i := 90) rfl)) rfl
theorem w_0_7 : (Cond.selects RX8 yX8_readProduct yX8_readProduct) ∈ wsL_law := sk_mem (ck_0 _ (List.mem_of_getElem? (i := 7) rfl)) rfl
set_option maxHeartbeats 4000000 in
set_option maxRecDepth 100000 in
theorem c_readSum (l : Launch) (D : va_G) (cI cJ cC cZ cS : ClassId) (zk zv : Nat) (zf : Value) (dd : Nat) (hq : CT_readProduct l D cI cJ cC cZ cS zk zv zf dd) : CT_readSum l D cI cJ cC cZ cS zk zv zf dd := by
  intro q u0 kd xa xv xo xt xz xf xp tl tb h0 k1 k2 k3 k4 cl mw f1 hxa hxz htl htb hcl hmw hdd
  refine skMZ_of (by decide +kernel) (Nat.le_of_ble_eq_true rfl) ?_
  intro p e s m below meth c A ls E hP hD hZ hl
  obtain ⟨hx, hb, hr, hml, hlocks, hin, hown, hts, hK, hA⟩ := E
  have hown : s.vm.findClass RX8 = some m.cls := hown
  have hS : va_S A s.heap s.heap [] := va_S.rf
  have hl : lv_has ls 4 [(0, .ref u0), (1, .ref h0)] := hl
  refine lv_aload_n hx hb dX8_readSum_0 rfl (lv_at hl 0 rfl) ?_
  refine lv_aload_n hx hb dX8_readSum_1 rfl (lv_at hl 1 rfl) ?_
  refine sk_VvZ (q0 := 0) (n := 1) (rest := []) (wr := []) ⟨hx, hb, hml, hown, hts⟩ hl.1 (hq q u0 kd xa xv xo xt xz xf xp tl tb h0 k1 k2 k3 k4 cl mw f1 (by omega) (by omega) (by omega) htb (by omega) (by omega) (by omega)) w_3_88 w_3_90 w_0_7 w_1_6 w_3_91 (by decide +kernel) ⟨⟨(by dsimp only; omega), (by dsimp only; omega)⟩, (by dsimp only; omega), (by dsimp only; omega)⟩ hK hP hD hS hZ hA [0, 1, 2, 3, 4, 5] [] rfl rfl (by decide +kernel) (by decide +kernel) (by decide +kernel) rfl rfl rfl rfl (Nat.le_of_ble_eq_true rfl) dX8_readSum_2 (fun u H locs hw hP hD hS => ?_)
  obtain ⟨xa2_1, xv2_2, xt2_3, xz2_4, xf2_5, xp2_6, c2_7, w2_8, g1_9, hxa2_10, hxz2_11, hc2_12, hw2_13, rfl⟩ := hw
  have hP : va_P D vwCl [(u0, .inr (8, [.ref (q 2), .int kd])), (q 2, .inr (6, [.ref (q 0), .int (nI xa2_1), .int xv2_2, .int (nI xo), .int xt2_3, .int (nI xz2_4), .int xf2_5, .int xp2_6])), (q 0, .inr (10, [.ref (q 20), .int (nI tl)])), (q 20, .inl (cI, 1600, .inl (fun j => nI (tb j)))), (h0, .inr (0, [.ref k1, .ref k2, .ref k3, .ref k4, .int (nI c2_7), .int (nI w2_8)])), (k1, .inl (cI, 1600, .inl g1_9))] H := hP
  have hD : va_D A [(u0, .inr (8, [.ref (q 2), .int kd])), (q 2, .inr (6, [.ref (q 0), .int (nI xa2_1), .int xv2_2, .int (nI xo), .int xt2_3, .int (nI xz2_4), .int xf2_5, .int xp2_6])), (q 0, .inr (10, [.ref (q 20), .int (nI tl)])), (q 20, .inl (cI, 1600, .inl (fun j => nI (tb j)))), (h0, .inr (0, [.ref k1, .ref k2, .ref k3, .ref k4, .int (nI c2_7), .int (nI w2_8)])), (k1, .inl (cI, 1600, .inl g1_9))] := hD
  refine lv_iconst (v := 0) hx hb dX8_readSum_5 (by decide) ?_
  refine lv_istore_n (lv' := [(2, .int 0), (0, .ref u0), (1, .ref h0)]) hx hb dX8_readSum_6 rfl hl (by decide) rfl (fun ls hl => ?_)
  have lp_14 : ∀ (n_15 : Nat) (i : Nat) (za : Nat) (zw : Int32) (zt : Int32) (zz : Nat) (zg : Int32) (zp : Int32) (yc : Nat) (yw : Nat) (yf : Nat → Int32) (H : Heap) (locs : List Loc) (ls : Array Slot), 1600 - i < n_15 → (i ≤ 1600) → (za ≤ 1600) → (zz ≤ 1600) → (yc ≤ 1600) → (yw ≤ 1) → va_P D vwCl [(u0, .inr (8, [.ref (q 2), .int kd])), (q 2, .inr (6, [.ref (q 0), .int (nI za), .int zw, .int (nI xo), .int zt, .int (nI zz), .int zg, .int zp])), (q 0, .inr (10, [.ref (q 20), .int (nI tl)])), (q 20, .inl (cI, 1600, .inl (fun j => nI (tb j)))), (h0, .inr (0, [.ref k1, .ref k2, .ref k3, .ref k4, .int (nI yc), .int (nI yw)])), (k1, .inl (cI, 1600, .inl yf))] H → va_D A [(u0, .inr (8, [.ref (q 2), .int kd])), (q 2, .inr (6, [.ref (q 0), .int (nI za), .int zw, .int (nI xo), .int zt, .int (nI zz), .int zg, .int zp])), (q 0, .inr (10, [.ref (q 20), .int (nI tl)])), (q 20, .inl (cI, 1600, .inl (fun j => nI (tb j)))), (h0, .inr (0, [.ref k1, .ref k2, .ref k3, .ref k4, .int (nI yc), .int (nI yw)])), (k1, .inl (cI, 1600, .inl yf))] → va_S A s.heap H locs → lv_has ls 4 [(2, .int (nI i)), (0, .ref u0), (1, .ref h0)] → W p l e { frames := 23 + 5 * dd, cells := 0, slots := 0, locals := 675 + 100 * dd } s m ([.ref u0, .ref h0] : List Value).toArray below meth c H locs 0 0 (MQ below (skV D (skT cI cJ cC cZ cS) (fun (u : va_W) => ∃ (xa2 : Nat), ∃ (xv2 : Int32), ∃ (xt2 : Int32), ∃ (xz2 : Nat), ∃ (xf2 : Int32), ∃ (xp2 : Int32), ∃ (c2 : Nat), ∃ (w2 : Nat), ∃ (g1 : Nat → Int32), xa2 ≤ 1600 ∧ xz2 ≤ 1600 ∧ c2 ≤ 1600 ∧ w2 ≤ 1 ∧ u = [(u0, .inr (8, [.ref (q 2), .int kd])), (q 2, .inr (6, [.ref (q 0), .int (nI xa2), .int xv2, .int (nI xo), .int xt2, .int (nI xz2), .int xf2, .int xp2])), (q 0, .inr (10, [.ref (q 20), .int (nI tl)])), (q 20, .inl (cI, 1600, .inl (fun j => nI (tb j)))), (h0, .inr (0, [.ref k1, .ref k2, .ref k3, .ref k4, .int (nI c2), .int (nI w2)])), (k1, .inl (cI, 1600, .inl g1))]) A) ([.ref u0, .ref h0] : List Value).toArray s 0 0 A) (F0 m 7 ls []) := by
    intro n_15
    induction n_15 with
    | zero => intro i za zw zt zz zg zp yc yw yf H locs ls hm; exact absurd hm (Nat.not_lt_zero _)
    | succ n_15 ih_lp_14 =>
      intro i za zw zt zz zg zp yc yw yf H locs ls hm hi hza hzz hyc hyw hP hD hS hl
      refine lv_iload_n hx hb dX8_readSum_7 rfl (lv_at hl 0 rfl) ?_
      refine lv_sipush (v := 1600) hx hb dX8_readSum_8 (by decide) ?_
      refine lv_icmp_ge (tgt := 83) hx hb dX8_readSum_11 (by decide) (fun c_16 => ?_) (fun c_16 => ?_)
      · have c_16 : 1600 ≤ i := (nle 1600 i (by omega) (by omega)).mp c_16
        exact sk_vret hx hb hr hlocks hK hP hD hS (⟨za, zw, zt, zz, zg, zp, yc, yw, yf, by omega, by omega, by omega, by omega, rfl⟩) (Nat.le_of_ble_eq_true rfl) (Nat.le_of_ble_eq_true rfl) dX8_readSum_83
      · have c_16 : ¬ (1600 ≤ i) := fun h => c_16 ((nle 1600 i (by omega) (by omega)).mpr h)
        refine lv_aload_n hx hb dX8_readSum_14 rfl (lv_at hl 1 rfl) ?_
        refine sk_get (v := .ref (q 2)) (C := RX8) (T := TX8) (N := 2) hx hb hts inlX8 hown hK hP 0 rfl rfl 0 (by decide) w_1_100 rfl dX8_readSum_15 ?_
        refine sk_get (v := .int zt) (C := RX6) (T := TX6) (N := 8) hx hb hts inlX6 hown hK hP 1 rfl rfl 4 (by decide) w_1_63 rfl dX8_readSum_18 ?_
        refine lv_bipush (v := 43) hx hb dX8_readSum_21 (by decide) ?_
        refine lv_icmp_eq (tgt := 38) hx hb dX8_readSum_23 (by decide) (fun c_17 => ?_) (fun c_17 => ?_)
        · skip
          have jn_18 : ∀ (sq : Int32) (H : Heap) (locs : List Loc) (ls : Array Slot), va_P D vwCl [(u0, .inr (8, [.ref (q 2), .int kd])), (q 2, .inr (6, [.ref (q 0), .int (nI za), .int zw, .int (nI xo), .int zt, .int (nI zz), .int zg, .int zp])), (q 0, .inr (10, [.ref (q 20), .int (nI tl)])), (q 20, .inl (cI, 1600, .inl (fun j => nI (tb j)))), (h0, .inr (0, [.ref k1, .ref k2, .ref k3, .ref k4, .int (nI yc), .int (nI yw)])), (k1, .inl (cI, 1600, .inl yf))] H → va_D A [(u0, .inr (8, [.ref (q 2), .int kd])), (q 2, .inr (6, [.ref (q 0), .int (nI za), .int zw, .int (nI xo), .int zt, .int (nI zz), .int zg, .int zp])), (q 0, .inr (10, [.ref (q 20), .int (nI tl)])), (q 20, .inl (cI, 1600, .inl (fun j => nI (tb j)))), (h0, .inr (0, [.ref k1, .ref k2, .ref k3, .ref k4, .int (nI yc), .int (nI yw)])), (k1, .inl (cI, 1600, .inl yf))] → va_S A s.heap H locs → lv_has ls 4 [(2, .int (nI i)), (0, .ref u0), (1, .ref h0)] → W p l e { frames := 23 + 5 * dd, cells := 0, slots := 0, locals := 675 + 100 * dd } s m ([.ref u0, .ref h0] : List Value).toArray below meth c H locs 0 0 (MQ below (skV D (skT cI cJ cC cZ cS) (fun (u : va_W) => ∃ (xa2 : Nat), ∃ (xv2 : Int32), ∃ (xt2 : Int32), ∃ (xz2 : Nat), ∃ (xf2 : Int32), ∃ (xp2 : Int32), ∃ (c2 : Nat), ∃ (w2 : Nat), ∃ (g1 : Nat → Int32), xa2 ≤ 1600 ∧ xz2 ≤ 1600 ∧ c2 ≤ 1600 ∧ w2 ≤ 1 ∧ u = [(u0, .inr (8, [.ref (q 2), .int kd])), (q 2, .inr (6, [.ref (q 0), .int (nI xa2), .int xv2, .int (nI xo), .int xt2, .int (nI xz2), .int xf2, .int xp2])), (q 0, .inr (10, [.ref (q 20), .int (nI tl)])), (q 20, .inl (cI, 1600, .inl (fun j => nI (tb j)))), (h0, .inr (0, [.ref k1, .ref k2, .ref k3, .ref k4, .int (nI c2), .int (nI w2)])), (k1, .inl (cI, 1600, .inl g1))]) A) ([.ref u0, .ref h0] : List Value).toArray s 0 0 A) (F0 m 59 ls [.int sq]) := by
            intro sq H locs ls  hP hD hS hl
            refine lv_istore_n (lv' := [(3, .int sq), (2, .int (nI i)), (0, .ref u0), (1, .ref h0)]) hx hb dX8_readSum_59 rfl hl (by decide) rfl (fun ls hl => ?_)
            refine lv_aload_n hx hb dX8_readSum_60 rfl (lv_at hl 2 rfl) ?_
            refine sk_get (v := .ref (q 2)) (C := RX8) (T := TX8) (N := 2) hx hb hts inlX8 hown hK hP 0 rfl rfl 0 (by decide) w_1_100 rfl dX8_readSum_61 ?_
            refine sk_VvZ (q0 := 0) (n := 0) (rest := []) (wr := [(u0, .inr (8, [.ref (q 2), .int kd])), (h0, .inr (0, [.ref k1, .ref k2, .ref k3, .ref k4, .int (nI yc), .int (nI yw)])), (k1, .inl (cI, 1600, .inl yf))]) ⟨hx, hb, hml, hown, hts⟩ hl.1 (c_rd_step l D cI cJ cC cZ cS zk zv zf q za zw xo zt zz zg zp tl tb (by omega) (by omega) (by omega) htb) w_3_110 w_2_226 w_2_227 w_1_4 w_2_228 (by decide +kernel) ⟨⟨(by dsimp only; omega), (by dsimp only; omega)⟩, (by dsimp only; omega), (by dsimp only; omega)⟩ hK hP hD hS hZ hA [1, 2, 3] [0, 4, 5] rfl rfl (by decide +kernel) (by decide +kernel) (by decide +kernel) rfl rfl rfl rfl (Nat.le_of_ble_eq_true rfl) dX8_readSum_64 (fun u H locs hw hP hD hS => ?_)
            obtain ⟨xa2_19, xv2_20, xt2_21, xz2_22, hxa2_23, hxz2_24, rfl⟩ := hw
            have hP : va_P D vwCl [(u0, .inr (8, [.ref (q 2), .int kd])), (h0, .inr (0, [.ref k1, .ref k2, .ref k3, .ref k4, .int (nI yc), .int (nI yw)])), (k1, .inl (cI, 1600, .inl yf)), (q 2, .inr (6, [.ref (q 0), .int (nI xa2_19), .int xv2_20, .int (nI xo), .int xt2_21, .int (nI xz2_22), .int zg, .int zp])), (q 0, .inr (10, [.ref (q 20), .int (nI tl)])), (q 20, .inl (cI, 1600, .inl (fun j => nI (tb j))))] H := hP
            have hD : va_D A [(u0, .inr (8, [.ref (q 2), .int kd])), (h0, .inr (0, [.ref k1, .ref k2, .ref k3, .ref k4, .int (nI yc), .int (nI yw)])), (k1, .inl (cI, 1600, .inl yf)), (q 2, .inr (6, [.ref (q 0), .int (nI xa2_19), .int xv2_20, .int (nI xo), .int xt2_21, .int (nI xz2_22), .int zg, .int zp])), (q 0, .inr (10, [.ref (q 20), .int (nI tl)])), (q 20, .inl (cI, 1600, .inl (fun j => nI (tb j))))] := hD
            refine lv_aload_n hx hb dX8_readSum_67 rfl (lv_at hl 2 rfl) ?_
            refine lv_aload_n hx hb dX8_readSum_68 rfl (lv_at hl 3 rfl) ?_
            refine sk_VvZ (q0 := 0) (n := 1) (rest := []) (wr := []) ⟨hx, hb, hml, hown, hts⟩ hl.1 (hq q u0 kd xa2_19 xv2_20 xo xt2_21 xz2_22 zg zp tl tb h0 k1 k2 k3 k4 yc yw yf (by omega) (by omega) (by omega) htb (by omega) (by omega) (by omega)) w_3_88 w_3_90 w_0_7 w_1_6 w_3_91 (by decide +kernel) ⟨⟨(by dsimp only; omega), (by dsimp only; omega)⟩, (by dsimp only; omega), (by dsimp only; omega)⟩ hK hP hD hS hZ hA [0, 3, 4, 5, 1, 2] [] rfl rfl (by decide +kernel) (by decide +kernel) (by decide +kernel) rfl rfl rfl rfl (Nat.le_of_ble_eq_true rfl) dX8_readSum_69 (fun u H locs hw hP hD hS => ?_)
            obtain ⟨xa2_25, xv2_26, xt2_27, xz2_28, xf2_29, xp2_30, c2_31, w2_32, g1_33, hxa2_34, hxz2_35, hc2_36, hw2_37, rfl⟩ := hw
            have hP : va_P D vwCl [(u0, .inr (8, [.ref (q 2), .int kd])), (q 2, .inr (6, [.ref (q 0), .int (nI xa2_25), .int xv2_26, .int (nI xo), .int xt2_27, .int (nI xz2_28), .int xf2_29, .int xp2_30])), (q 0, .inr (10, [.ref (q 20), .int (nI tl)])), (q 20, .inl (cI, 1600, .inl (fun j => nI (tb j)))), (h0, .inr (0, [.ref k1, .ref k2, .ref k3, .ref k4, .int (nI c2_31), .int (nI w2_32)])), (k1, .inl (cI, 1600, .inl g1_33))] H := hP
            have hD : va_D A [(u0, .inr (8, [.ref (q 2), .int kd])), (q 2, .inr (6, [.ref (q 0), .int (nI xa2_25), .int xv2_26, .int (nI xo), .int xt2_27, .int (nI xz2_28), .int xf2_29, .int xp2_30])), (q 0, .inr (10, [.ref (q 20), .int (nI tl)])), (q 20, .inl (cI, 1600, .inl (fun j => nI (tb j)))), (h0, .inr (0, [.ref k1, .ref k2, .ref k3, .ref k4, .int (nI c2_31), .int (nI w2_32)])), (k1, .inl (cI, 1600, .inl g1_33))] := hD
            refine lv_aload_n hx hb dX8_readSum_72 rfl (lv_at hl 3 rfl) ?_
            refine lv_iload_n hx hb dX8_readSum_73 rfl (lv_at hl 0 rfl) ?_
            refine sk_Vv (q0 := 0) (n := 1) (rest := []) (wr := [(u0, .inr (8, [.ref (q 2), .int kd])), (q 2, .inr (6, [.ref (q 0), .int (nI xa2_25), .int xv2_26, .int (nI xo), .int xt2_27, .int (nI xz2_28), .int xf2_29, .int xp2_30])), (q 0, .inr (10, [.ref (q 20), .int (nI tl)])), (q 20, .inl (cI, 1600, .inl (fun j => nI (tb j))))]) ⟨hx, hb, hml, hown, hts⟩ hl.1 (c_Code_add l D cI cJ cC cZ cS h0 k1 k2 k3 k4 c2_31 w2_32 g1_33 sq (by omega) (by omega)) w_3_97 w_3_98 w_3_99 w_1_8 w_3_100 (by decide +kernel) ⟨⟨(by dsimp only; omega), (by dsimp only; omega)⟩, (by dsimp only; omega), (by dsimp only; omega)⟩ hK hP hD hS hA [4, 5] [0, 1, 2, 3] rfl rfl (by decide +kernel) (by decide +kernel) (by decide +kernel) rfl rfl rfl rfl (Nat.le_of_ble_eq_true rfl) dX8_readSum_74 (fun u H locs hw hP hD hS => ?_)
            obtain ⟨c2_38, w2_39, g1_40, hc2_41, hw2_42, rfl⟩ := hw
            have hP : va_P D vwCl [(u0, .inr (8, [.ref (q 2), .int kd])), (q 2, .inr (6, [.ref (q 0), .int (nI xa2_25), .int xv2_26, .int (nI xo), .int xt2_27, .int (nI xz2_28), .int xf2_29, .int xp2_30])), (q 0, .inr (10, [.ref (q 20), .int (nI tl)])), (q 20, .inl (cI, 1600, .inl (fun j => nI (tb j)))), (h0, .inr (0, [.ref k1, .ref k2, .ref k3, .ref k4, .int (nI c2_38), .int (nI w2_39)])), (k1, .inl (cI, 1600, .inl g1_40))] H := hP
            have hD : va_D A [(u0, .inr (8, [.ref (q 2), .int kd])), (q 2, .inr (6, [.ref (q 0), .int (nI xa2_25), .int xv2_26, .int (nI xo), .int xt2_27, .int (nI xz2_28), .int xf2_29, .int xp2_30])), (q 0, .inr (10, [.ref (q 20), .int (nI tl)])), (q 20, .inl (cI, 1600, .inl (fun j => nI (tb j)))), (h0, .inr (0, [.ref k1, .ref k2, .ref k3, .ref k4, .int (nI c2_38), .int (nI w2_39)])), (k1, .inl (cI, 1600, .inl g1_40))] := hD
            refine lv_iinc (v := nI (i + 1)) (lv' := [(2, .int (nI (i + 1))), (3, .int sq), (0, .ref u0), (1, .ref h0)]) hx hb dX8_readSum_77 hl (k := 1) rfl (ninc i 1 (by decide)) (by decide) rfl (fun ls hl => ?_)
            refine lv_goto (tgt := 7) hx hb dX8_readSum_80 (by decide) ?_
            exact ih_lp_14 (i + 1) xa2_25 xv2_26 xt2_27 xz2_28 xf2_29 xp2_30 c2_38 w2_39 g1_40 _ _ _ (by omega) (by omega) (by omega) (by omega) (by omega) (by omega) hP hD hS (lv_sub hl [0, 2, 3] rfl)
          refine lv_aload_n hx hb dX8_readSum_38 rfl (lv_at hl 1 rfl) ?_
          refine sk_get (v := .ref (q 2)) (C := RX8) (T := TX8) (N := 2) hx hb hts inlX8 hown hK hP 0 rfl rfl 0 (by decide) w_1_100 rfl dX8_readSum_39 ?_
          refine sk_get (v := .int zt) (C := RX6) (T := TX6) (N := 8) hx hb hts inlX6 hown hK hP 1 rfl rfl 4 (by decide) w_1_63 rfl dX8_readSum_42 ?_
          refine lv_bipush (v := 43) hx hb dX8_readSum_45 (by decide) ?_
          refine lv_icmp_ne (tgt := 56) hx hb dX8_readSum_47 (by decide) (fun c_43 => ?_) (fun c_43 => ?_)
          · skip
            refine lv_sipush (v := 30001) hx hb dX8_readSum_56 (by decide) ?_
            exact jn_18 30001 _ _ _  hP hD hS (lv_sub hl [0, 1, 2] rfl)
          · skip
            refine lv_sipush (v := 30000) hx hb dX8_readSum_50 (by decide) ?_
            refine lv_goto (tgt := 59) hx hb dX8_readSum_53 (by decide) ?_
            exact jn_18 30000 _ _ _  hP hD hS (lv_sub hl [0, 1, 2] rfl)
        · skip
          refine lv_aload_n hx hb dX8_readSum_26 rfl (lv_at hl 1 rfl) ?_
          refine sk_get (v := .ref (q 2)) (C := RX8) (T := TX8) (N := 2) hx hb hts inlX8 hown hK hP 0 rfl rfl 0 (by decide) w_1_100 rfl dX8_readSum_27 ?_
          refine sk_get (v := .int zt) (C := RX6) (T := TX6) (N := 8) hx hb hts inlX6 hown hK hP 1 rfl rfl 4 (by decide) w_1_63 rfl dX8_readSum_30 ?_
          refine lv_bipush (v := 45) hx hb dX8_readSum_33 (by decide) ?_
          refine lv_icmp_ne (tgt := 83) hx hb dX8_readSum_35 (by decide) (fun c_44 => ?_) (fun c_44 => ?_)
          · skip
            exact sk_vret hx hb hr hlocks hK hP hD hS (⟨za, zw, zt, zz, zg, zp, yc, yw, yf, by omega, by omega, by omega, by omega, rfl⟩) (Nat.le_of_ble_eq_true rfl) (Nat.le_of_ble_eq_true rfl) dX8_readSum_83
          · skip
            have jn_45 : ∀ (sq : Int32) (H : Heap) (locs : List Loc) (ls : Array Slot), va_P D vwCl [(u0, .inr (8, [.ref (q 2), .int kd])), (q 2, .inr (6, [.ref (q 0), .int (nI za), .int zw, .int (nI xo), .int zt, .int (nI zz), .int zg, .int zp])), (q 0, .inr (10, [.ref (q 20), .int (nI tl)])), (q 20, .inl (cI, 1600, .inl (fun j => nI (tb j)))), (h0, .inr (0, [.ref k1, .ref k2, .ref k3, .ref k4, .int (nI yc), .int (nI yw)])), (k1, .inl (cI, 1600, .inl yf))] H → va_D A [(u0, .inr (8, [.ref (q 2), .int kd])), (q 2, .inr (6, [.ref (q 0), .int (nI za), .int zw, .int (nI xo), .int zt, .int (nI zz), .int zg, .int zp])), (q 0, .inr (10, [.ref (q 20), .int (nI tl)])), (q 20, .inl (cI, 1600, .inl (fun j => nI (tb j)))), (h0, .inr (0, [.ref k1, .ref k2, .ref k3, .ref k4, .int (nI yc), .int (nI yw)])), (k1, .inl (cI, 1600, .inl yf))] → va_S A s.heap H locs → lv_has ls 4 [(2, .int (nI i)), (0, .ref u0), (1, .ref h0)] → W p l e { frames := 23 + 5 * dd, cells := 0, slots := 0, locals := 675 + 100 * dd } s m ([.ref u0, .ref h0] : List Value).toArray below meth c H locs 0 0 (MQ below (skV D (skT cI cJ cC cZ cS) (fun (u : va_W) => ∃ (xa2 : Nat), ∃ (xv2 : Int32), ∃ (xt2 : Int32), ∃ (xz2 : Nat), ∃ (xf2 : Int32), ∃ (xp2 : Int32), ∃ (c2 : Nat), ∃ (w2 : Nat), ∃ (g1 : Nat → Int32), xa2 ≤ 1600 ∧ xz2 ≤ 1600 ∧ c2 ≤ 1600 ∧ w2 ≤ 1 ∧ u = [(u0, .inr (8, [.ref (q 2), .int kd])), (q 2, .inr (6, [.ref (q 0), .int (nI xa2), .int xv2, .int (nI xo), .int xt2, .int (nI xz2), .int xf2, .int xp2])), (q 0, .inr (10, [.ref (q 20), .int (nI tl)])), (q 20, .inl (cI, 1600, .inl (fun j => nI (tb j)))), (h0, .inr (0, [.ref k1, .ref k2, .ref k3, .ref k4, .int (nI c2), .int (nI w2)])), (k1, .inl (cI, 1600, .inl g1))]) A) ([.ref u0, .ref h0] : List Value).toArray s 0 0 A) (F0 m 59 ls [.int sq]) := by
              intro sq H locs ls  hP hD hS hl
              refine lv_istore_n (lv' := [(3, .int sq), (2, .int (nI i)), (0, .ref u0), (1, .ref h0)]) hx hb dX8_readSum_59 rfl hl (by decide) rfl (fun ls hl => ?_)
              refine lv_aload_n hx hb dX8_readSum_60 rfl (lv_at hl 2 rfl) ?_
              refine sk_get (v := .ref (q 2)) (C := RX8) (T := TX8) (N := 2) hx hb hts inlX8 hown hK hP 0 rfl rfl 0 (by decide) w_1_100 rfl dX8_readSum_61 ?_
              refine sk_VvZ (q0 := 0) (n := 0) (rest := []) (wr := [(u0, .inr (8, [.ref (q 2), .int kd])), (h0, .inr (0, [.ref k1, .ref k2, .ref k3, .ref k4, .int (nI yc), .int (nI yw)])), (k1, .inl (cI, 1600, .inl yf))]) ⟨hx, hb, hml, hown, hts⟩ hl.1 (c_rd_step l D cI cJ cC cZ cS zk zv zf q za zw xo zt zz zg zp tl tb (by omega) (by omega) (by omega) htb) w_3_110 w_2_226 w_2_227 w_1_4 w_2_228 (by decide +kernel) ⟨⟨(by dsimp only; omega), (by dsimp only; omega)⟩, (by dsimp only; omega), (by dsimp only; omega)⟩ hK hP hD hS hZ hA [1, 2, 3] [0, 4, 5] rfl rfl (by decide +kernel) (by decide +kernel) (by decide +kernel) rfl rfl rfl rfl (Nat.le_of_ble_eq_true rfl) dX8_readSum_64 (fun u H locs hw hP hD hS => ?_)
              obtain ⟨xa2_46, xv2_47, xt2_48, xz2_49, hxa2_50, hxz2_51, rfl⟩ := hw
              have hP : va_P D vwCl [(u0, .inr (8, [.ref (q 2), .int kd])), (h0, .inr (0, [.ref k1, .ref k2, .ref k3, .ref k4, .int (nI yc), .int (nI yw)])), (k1, .inl (cI, 1600, .inl yf)), (q 2, .inr (6, [.ref (q 0), .int (nI xa2_46), .int xv2_47, .int (nI xo), .int xt2_48, .int (nI xz2_49), .int zg, .int zp])), (q 0, .inr (10, [.ref (q 20), .int (nI tl)])), (q 20, .inl (cI, 1600, .inl (fun j => nI (tb j))))] H := hP
              have hD : va_D A [(u0, .inr (8, [.ref (q 2), .int kd])), (h0, .inr (0, [.ref k1, .ref k2, .ref k3, .ref k4, .int (nI yc), .int (nI yw)])), (k1, .inl (cI, 1600, .inl yf)), (q 2, .inr (6, [.ref (q 0), .int (nI xa2_46), .int xv2_47, .int (nI xo), .int xt2_48, .int (nI xz2_49), .int zg, .int zp])), (q 0, .inr (10, [.ref (q 20), .int (nI tl)])), (q 20, .inl (cI, 1600, .inl (fun j => nI (tb j))))] := hD
              refine lv_aload_n hx hb dX8_readSum_67 rfl (lv_at hl 2 rfl) ?_
              refine lv_aload_n hx hb dX8_readSum_68 rfl (lv_at hl 3 rfl) ?_
              refine sk_VvZ (q0 := 0) (n := 1) (rest := []) (wr := []) ⟨hx, hb, hml, hown, hts⟩ hl.1 (hq q u0 kd xa2_46 xv2_47 xo xt2_48 xz2_49 zg zp tl tb h0 k1 k2 k3 k4 yc yw yf (by omega) (by omega) (by omega) htb (by omega) (by omega) (by omega)) w_3_88 w_3_90 w_0_7 w_1_6 w_3_91 (by decide +kernel) ⟨⟨(by dsimp only; omega), (by dsimp only; omega)⟩, (by dsimp only; omega), (by dsimp only; omega)⟩ hK hP hD hS hZ hA [0, 3, 4, 5, 1, 2] [] rfl rfl (by decide +kernel) (by decide +kernel) (by decide +kernel) rfl rfl rfl rfl (Nat.le_of_ble_eq_true rfl) dX8_readSum_69 (fun u H locs hw hP hD hS => ?_)
              obtain ⟨xa2_52, xv2_53, xt2_54, xz2_55, xf2_56, xp2_57, c2_58, w2_59, g1_60, hxa2_61, hxz2_62, hc2_63, hw2_64, rfl⟩ := hw
              have hP : va_P D vwCl [(u0, .inr (8, [.ref (q 2), .int kd])), (q 2, .inr (6, [.ref (q 0), .int (nI xa2_52), .int xv2_53, .int (nI xo), .int xt2_54, .int (nI xz2_55), .int xf2_56, .int xp2_57])), (q 0, .inr (10, [.ref (q 20), .int (nI tl)])), (q 20, .inl (cI, 1600, .inl (fun j => nI (tb j)))), (h0, .inr (0, [.ref k1, .ref k2, .ref k3, .ref k4, .int (nI c2_58), .int (nI w2_59)])), (k1, .inl (cI, 1600, .inl g1_60))] H := hP
              have hD : va_D A [(u0, .inr (8, [.ref (q 2), .int kd])), (q 2, .inr (6, [.ref (q 0), .int (nI xa2_52), .int xv2_53, .int (nI xo), .int xt2_54, .int (nI xz2_55), .int xf2_56, .int xp2_57])), (q 0, .inr (10, [.ref (q 20), .int (nI tl)])), (q 20, .inl (cI, 1600, .inl (fun j => nI (tb j)))), (h0, .inr (0, [.ref k1, .ref k2, .ref k3, .ref k4, .int (nI c2_58), .int (nI w2_59)])), (k1, .inl (cI, 1600, .inl g1_60))] := hD
              refine lv_aload_n hx hb dX8_readSum_72 rfl (lv_at hl 3 rfl) ?_
              refine lv_iload_n hx hb dX8_readSum_73 rfl (lv_at hl 0 rfl) ?_
              refine sk_Vv (q0 := 0) (n := 1) (rest := []) (wr := [(u0, .inr (8, [.ref (q 2), .int kd])), (q 2, .inr (6, [.ref (q 0), .int (nI xa2_52), .int xv2_53, .int (nI xo), .int xt2_54, .int (nI xz2_55), .int xf2_56, .int xp2_57])), (q 0, .inr (10, [.ref (q 20), .int (nI tl)])), (q 20, .inl (cI, 1600, .inl (fun j => nI (tb j))))]) ⟨hx, hb, hml, hown, hts⟩ hl.1 (c_Code_add l D cI cJ cC cZ cS h0 k1 k2 k3 k4 c2_58 w2_59 g1_60 sq (by omega) (by omega)) w_3_97 w_3_98 w_3_99 w_1_8 w_3_100 (by decide +kernel) ⟨⟨(by dsimp only; omega), (by dsimp only; omega)⟩, (by dsimp only; omega), (by dsimp only; omega)⟩ hK hP hD hS hA [4, 5] [0, 1, 2, 3] rfl rfl (by decide +kernel) (by decide +kernel) (by decide +kernel) rfl rfl rfl rfl (Nat.le_of_ble_eq_true rfl) dX8_readSum_74 (fun u H locs hw hP hD hS => ?_)
              obtain ⟨c2_65, w2_66, g1_67, hc2_68, hw2_69, rfl⟩ := hw
              have hP : va_P D vwCl [(u0, .inr (8, [.ref (q 2), .int kd])), (q 2, .inr (6, [.ref (q 0), .int (nI xa2_52), .int xv2_53, .int (nI xo), .int xt2_54, .int (nI xz2_55), .int xf2_56, .int xp2_57])), (q 0, .inr (10, [.ref (q 20), .int (nI tl)])), (q 20, .inl (cI, 1600, .inl (fun j => nI (tb j)))), (h0, .inr (0, [.ref k1, .ref k2, .ref k3, .ref k4, .int (nI c2_65), .int (nI w2_66)])), (k1, .inl (cI, 1600, .inl g1_67))] H := hP
              have hD : va_D A [(u0, .inr (8, [.ref (q 2), .int kd])), (q 2, .inr (6, [.ref (q 0), .int (nI xa2_52), .int xv2_53, .int (nI xo), .int xt2_54, .int (nI xz2_55), .int xf2_56, .int xp2_57])), (q 0, .inr (10, [.ref (q 20), .int (nI tl)])), (q 20, .inl (cI, 1600, .inl (fun j => nI (tb j)))), (h0, .inr (0, [.ref k1, .ref k2, .ref k3, .ref k4, .int (nI c2_65), .int (nI w2_66)])), (k1, .inl (cI, 1600, .inl g1_67))] := hD
              refine lv_iinc (v := nI (i + 1)) (lv' := [(2, .int (nI (i + 1))), (3, .int sq), (0, .ref u0), (1, .ref h0)]) hx hb dX8_readSum_77 hl (k := 1) rfl (ninc i 1 (by decide)) (by decide) rfl (fun ls hl => ?_)
              refine lv_goto (tgt := 7) hx hb dX8_readSum_80 (by decide) ?_
              exact ih_lp_14 (i + 1) xa2_52 xv2_53 xt2_54 xz2_55 xf2_56 xp2_57 c2_65 w2_66 g1_67 _ _ _ (by omega) (by omega) (by omega) (by omega) (by omega) (by omega) hP hD hS (lv_sub hl [0, 2, 3] rfl)
            refine lv_aload_n hx hb dX8_readSum_38 rfl (lv_at hl 1 rfl) ?_
            refine sk_get (v := .ref (q 2)) (C := RX8) (T := TX8) (N := 2) hx hb hts inlX8 hown hK hP 0 rfl rfl 0 (by decide) w_1_100 rfl dX8_readSum_39 ?_
            refine sk_get (v := .int zt) (C := RX6) (T := TX6) (N := 8) hx hb hts inlX6 hown hK hP 1 rfl rfl 4 (by decide) w_1_63 rfl dX8_readSum_42 ?_
            refine lv_bipush (v := 43) hx hb dX8_readSum_45 (by decide) ?_
            refine lv_icmp_ne (tgt := 56) hx hb dX8_readSum_47 (by decide) (fun c_70 => ?_) (fun c_70 => ?_)
            · skip
              refine lv_sipush (v := 30001) hx hb dX8_readSum_56 (by decide) ?_
              exact jn_45 30001 _ _ _  hP hD hS (lv_sub hl [0, 1, 2] rfl)
            · skip
              refine lv_sipush (v := 30000) hx hb dX8_readSum_50 (by decide) ?_
              refine lv_goto (tgt := 59) hx hb dX8_readSum_53 (by decide) ?_
              exact jn_45 30000 _ _ _  hP hD hS (lv_sub hl [0, 1, 2] rfl)
  exact lp_14 (1600 - 0 + 1) 0 xa2_1 xv2_2 xt2_3 xz2_4 xf2_5 xp2_6 c2_7 w2_8 g1_9 _ _ _ (Nat.lt_succ_self _) (by omega) (by omega) (by omega) (by omega) (by omega) hP hD hS (lv_sub hl [0, 1, 2] rfl)
theorem c_sums (l : Launch) (D : va_G) (cI cJ cC cZ cS : ClassId) (zk zv : Nat) (zf : Value) (dd : Nat) : CT_readSum l D cI cJ cC cZ cS zk zv zf dd ∧ CT_readPart l D cI cJ cC cZ cS zk zv zf dd := by
  induction dd with
  | zero =>
    have h1 := c_readPair l D cI cJ cC cZ cS zk zv zf 0 (fun d h => absurd h (by omega))
    have h2 := c_readPart l D cI cJ cC cZ cS zk zv zf 0 (fun d h => absurd h (by omega)) (fun d h => absurd h (by omega)) h1
    exact ⟨c_readSum l D cI cJ cC cZ cS zk zv zf 0 (c_readProduct l D cI cJ cC cZ cS zk zv zf 0 h2), h2⟩
  | succ n ih =>
    have hs : ∀ d, d + 1 = n + 1 → CT_readSum l D cI cJ cC cZ cS zk zv zf d := fun d h => by rw [show d = n by omega]; exact ih.1
    have hp : ∀ d, d + 1 = n + 1 → CT_readPart l D cI cJ cC cZ cS zk zv zf d := fun d h => by rw [show d = n by omega]; exact ih.2
    have h1 := c_readPair l D cI cJ cC cZ cS zk zv zf (n + 1) hs
    have h2 := c_readPart l D cI cJ cC cZ cS zk zv zf (n + 1) hs hp h1
    exact ⟨c_readSum l D cI cJ cC cZ cS zk zv zf (n + 1) (c_readProduct l D cI cJ cC cZ cS zk zv zf (n + 1) h2), h2⟩
