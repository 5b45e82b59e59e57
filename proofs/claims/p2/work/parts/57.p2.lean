theorem dX12_isAllowed_0 : decode cX12_isAllowed 0 = .ok (.aload_n 0, 1) := by decide +kernel
theorem dX12_isAllowed_1 : decode cX12_isAllowed 1 = .ok (.getfield 242, 3) := by decide +kernel
theorem dX12_isAllowed_4 : decode cX12_isAllowed 4 = .ok (.ifCond .ne 16, 3) := by decide +kernel
theorem dX12_isAllowed_20 : decode cX12_isAllowed 20 = .ok (.aload_n 0, 1) := by decide +kernel
theorem dX12_isAllowed_21 : decode cX12_isAllowed 21 = .ok (.getfield 242, 3) := by decide +kernel
theorem dX12_isAllowed_24 : decode cX12_isAllowed 24 = .ok (.iconst 1, 1) := by decide +kernel
theorem dX12_isAllowed_25 : decode cX12_isAllowed 25 = .ok (.if_icmp .ne 17, 3) := by decide +kernel
theorem dX12_isAllowed_42 : decode cX12_isAllowed 42 = .ok (.iload_n 1, 1) := by decide +kernel
theorem dX12_isAllowed_43 : decode cX12_isAllowed 43 = .ok (.iconst 1, 1) := by decide +kernel
theorem dX12_isAllowed_44 : decode cX12_isAllowed 44 = .ok (.if_icmp .eq 19, 3) := by decide +kernel
theorem dX12_isAllowed_63 : decode cX12_isAllowed 63 = .ok (.iconst 1, 1) := by decide +kernel
theorem dX12_isAllowed_64 : decode cX12_isAllowed 64 = .ok (.goto 4, 3) := by decide +kernel
theorem dX12_isAllowed_68 : decode cX12_isAllowed 68 = .ok (.ireturn, 1) := by decide +kernel
theorem dX12_isAllowed_47 : decode cX12_isAllowed 47 = .ok (.iload_n 1, 1) := by decide +kernel
theorem dX12_isAllowed_48 : decode cX12_isAllowed 48 = .ok (.iconst 2, 1) := by decide +kernel
theorem dX12_isAllowed_49 : decode cX12_isAllowed 49 = .ok (.if_icmp .eq 14, 3) := by decide +kernel
theorem dX12_isAllowed_52 : decode cX12_isAllowed 52 = .ok (.iload_n 1, 1) := by decide +kernel
theorem dX12_isAllowed_53 : decode cX12_isAllowed 53 = .ok (.iconst 4, 1) := by decide +kernel
theorem dX12_isAllowed_54 : decode cX12_isAllowed 54 = .ok (.if_icmp .eq 9, 3) := by decide +kernel
theorem dX12_isAllowed_57 : decode cX12_isAllowed 57 = .ok (.iload_n 1, 1) := by decide +kernel
theorem dX12_isAllowed_58 : decode cX12_isAllowed 58 = .ok (.bipush 6, 2) := by decide +kernel
theorem dX12_isAllowed_60 : decode cX12_isAllowed 60 = .ok (.if_icmp .le 7, 3) := by decide +kernel
theorem dX12_isAllowed_67 : decode cX12_isAllowed 67 = .ok (.iconst 0, 1) := by decide +kernel
theorem dX12_isAllowed_28 : decode cX12_isAllowed 28 = .ok (.iload_n 1, 1) := by decide +kernel
theorem dX12_isAllowed_29 : decode cX12_isAllowed 29 = .ok (.bipush 7, 2) := by decide +kernel
theorem dX12_isAllowed_31 : decode cX12_isAllowed 31 = .ok (.if_icmp .ge 7, 3) := by decide +kernel
theorem dX12_isAllowed_38 : decode cX12_isAllowed 38 = .ok (.iconst 0, 1) := by decide +kernel
theorem dX12_isAllowed_39 : decode cX12_isAllowed 39 = .ok (.goto 29, 3) := by decide +kernel
theorem dX12_isAllowed_34 : decode cX12_isAllowed 34 = .ok (.iconst 1, 1) := by decide +kernel
theorem dX12_isAllowed_35 : decode cX12_isAllowed 35 = .ok (.goto 33, 3) := by decide +kernel
theorem dX12_isAllowed_7 : decode cX12_isAllowed 7 = .ok (.iload_n 1, 1) := by decide +kernel
theorem dX12_isAllowed_8 : decode cX12_isAllowed 8 = .ok (.iconst 5, 1) := by decide +kernel
theorem dX12_isAllowed_9 : decode cX12_isAllowed 9 = .ok (.if_icmp .ge 7, 3) := by decide +kernel
theorem dX12_isAllowed_16 : decode cX12_isAllowed 16 = .ok (.iconst 0, 1) := by decide +kernel
theorem dX12_isAllowed_17 : decode cX12_isAllowed 17 = .ok (.goto 51, 3) := by decide +kernel
theorem dX12_isAllowed_12 : decode cX12_isAllowed 12 = .ok (.iconst 1, 1) := by decide +kernel
theorem dX12_isAllowed_13 : decode cX12_isAllowed 13 = .ok (.goto 55, 3) := by decide +kernel
theorem w_7_46 : (Cond.code yX12_isAllowed cX12_isAllowed 2 (some .boolean)) ∈ wsL_law := sk_mem (ck_7 _ (List.mem_of_getElem? (i := 46) rfl)) rfl
set_option maxHeartbeats 4000000 in
set_option maxRecDepth 100000 in
theorem c_m_isAllowed (l : Launch) (D : va_G) (cI cJ cC cZ cS : ClassId) (mm : Nat) (g : Nat → Nat) (ta : Nat) (pa : Nat) (pe : Nat) (pd : Int32) (pb : Nat) (pp : Int32) (pf : Int32) (pg : Int32) (pn : Int32) (rt : Int32) (rn : Int32) (cd : Nat) (sn : Int32) (il : Nat) (tk : Int32) (am : Int32) (at_ : Int32) (aa : Int32) (wt : Int32) (wy : Int64) (rm : Nat) (ud : Nat) (nu : Nat) (sd : Int64) (qn : Nat) (qw : Nat) (qo : Int32) (qb : Nat) (qp : Nat) (qa : Int64) (qi : Nat) (oc : Nat) (o : Int32)  : skM l yX12_isAllowed cX12_isAllowed 2 (some .boolean) 0 0 0 0 D (skT cI cJ cC cZ cS) [.ref mm, .int o] [(mm, .inr (12, mo g (nI ta) (nI pa) (nI pe) pd (nI pb) pp pf pg pn rt rn (nI cd) sn (nI il) tk am at_ aa 0 0 (-1) wt wy 0 (nI rm) (nI ud) (nI nu) sd (nI qn) (nI qw) qo (nI qb) (nI qp) qa (nI qi) (nI oc)))] (skI D (skT cI cJ cC cZ cS) (fun (r : Int32) (u : va_W) => ∃ (b : Nat), b ≤ 1 ∧ r = nI b ∧ u = [(mm, .inr (12, mo g (nI ta) (nI pa) (nI pe) pd (nI pb) pp pf pg pn rt rn (nI cd) sn (nI il) tk am at_ aa 0 0 (-1) wt wy 0 (nI rm) (nI ud) (nI nu) sd (nI qn) (nI qw) qo (nI qb) (nI qp) qa (nI qi) (nI oc)))])) := by
  refine skM_of (by decide +kernel) (Nat.le_of_ble_eq_true rfl) ?_
  intro p e s m below meth c A ls E hP hD hl
  obtain ⟨hx, hb, hr, hml, hlocks, hin, hown, hts, hK, hA⟩ := E
  have hown : s.vm.findClass RX12 = some m.cls := hown
  have hS : va_S A s.heap s.heap [] := va_S.rf
  have hl : lv_has ls 2 [(0, .ref mm), (1, .int o)] := hl
  refine lv_aload_n hx hb dX12_isAllowed_0 rfl (lv_at hl 0 rfl) ?_
  refine sk_get (v := .int tk) (C := RX12) (T := TX12) (N := 92) hx hb hts inlX12 hown hK hP 0 rfl rfl 30 (by decide) w_5_185 rfl dX12_isAllowed_1 ?_
  refine lv_if_ne (tgt := 20) hx hb dX12_isAllowed_4 (by decide) (fun c_1 => ?_) (fun c_1 => ?_)
  · skip
    refine lv_aload_n hx hb dX12_isAllowed_20 rfl (lv_at hl 0 rfl) ?_
    refine sk_get (v := .int tk) (C := RX12) (T := TX12) (N := 92) hx hb hts inlX12 hown hK hP 0 rfl rfl 30 (by decide) w_5_185 rfl dX12_isAllowed_21 ?_
    refine lv_iconst (v := 1) hx hb dX12_isAllowed_24 (by decide) ?_
    refine lv_icmp_ne (tgt := 42) hx hb dX12_isAllowed_25 (by decide) (fun c_2 => ?_) (fun c_2 => ?_)
    · skip
      refine lv_iload_n hx hb dX12_isAllowed_42 rfl (lv_at hl 1 rfl) ?_
      refine lv_iconst (v := 1) hx hb dX12_isAllowed_43 (by decide) ?_
      refine lv_icmp_eq (tgt := 63) hx hb dX12_isAllowed_44 (by decide) (fun c_3 => ?_) (fun c_3 => ?_)
      · skip
        refine lv_iconst (v := 1) hx hb dX12_isAllowed_63 (by decide) ?_
        refine lv_goto (tgt := 68) hx hb dX12_isAllowed_64 (by decide) ?_
        exact sk_iret hx hb hr rfl hlocks hK hP hD hS (⟨1, by omega, rfl, rfl⟩) (Nat.le_of_ble_eq_true rfl) (Nat.le_of_ble_eq_true rfl) dX12_isAllowed_68
      · skip
        refine lv_iload_n hx hb dX12_isAllowed_47 rfl (lv_at hl 1 rfl) ?_
        refine lv_iconst (v := 2) hx hb dX12_isAllowed_48 (by decide) ?_
        refine lv_icmp_eq (tgt := 63) hx hb dX12_isAllowed_49 (by decide) (fun c_4 => ?_) (fun c_4 => ?_)
        · skip
          refine lv_iconst (v := 1) hx hb dX12_isAllowed_63 (by decide) ?_
          refine lv_goto (tgt := 68) hx hb dX12_isAllowed_64 (by decide) ?_
          exact sk_iret hx hb hr rfl hlocks hK hP hD hS (⟨1, by omega, rfl, rfl⟩) (Nat.le_of_ble_eq_true rfl) (Nat.le_of_ble_eq_true rfl) dX12_isAllowed_68
        · skip
          refine lv_iload_n hx hb dX12_isAllowed_52 rfl (lv_at hl 1 rfl) ?_
          refine lv_iconst (v := 4) hx hb dX12_isAllowed_53 (by decide) ?_
          refine lv_icmp_eq (tgt := 63) hx hb dX12_isAllowed_54 (by decide) (fun c_5 => ?_) (fun c_5 => ?_)
          · skip
            refine lv_iconst (v := 1) hx hb dX12_isAllowed_63 (by decide) ?_
            refine lv_goto (tgt := 68) hx hb dX12_isAllowed_64 (by decide) ?_
            exact sk_iret hx hb hr rfl hlocks hK hP hD hS (⟨1, by omega, rfl, rfl⟩) (Nat.le_of_ble_eq_true rfl) (Nat.le_of_ble_eq_true rfl) dX12_isAllowed_68
          · skip
            refine lv_iload_n hx hb dX12_isAllowed_57 rfl (lv_at hl 1 rfl) ?_
            refine lv_bipush (v := 6) hx hb dX12_isAllowed_58 (by decide) ?_
            refine lv_icmp_le (tgt := 67) hx hb dX12_isAllowed_60 (by decide) (fun c_6 => ?_) (fun c_6 => ?_)
            · skip
              refine lv_iconst (v := 0) hx hb dX12_isAllowed_67 (by decide) ?_
              exact sk_iret hx hb hr rfl hlocks hK hP hD hS (⟨0, by omega, rfl, rfl⟩) (Nat.le_of_ble_eq_true rfl) (Nat.le_of_ble_eq_true rfl) dX12_isAllowed_68
            · skip
              refine lv_iconst (v := 1) hx hb dX12_isAllowed_63 (by decide) ?_
              refine lv_goto (tgt := 68) hx hb dX12_isAllowed_64 (by decide) ?_
              exact sk_iret hx hb hr rfl hlocks hK hP hD hS (⟨1, by omega, rfl, rfl⟩) (Nat.le_of_ble_eq_true rfl) (Nat.le_of_ble_eq_true rfl) dX12_isAllowed_68
    · skip
      refine lv_iload_n hx hb dX12_isAllowed_28 rfl (lv_at hl 1 rfl) ?_
      refine lv_bipush (v := 7) hx hb dX12_isAllowed_29 (by decide) ?_
      refine lv_icmp_ge (tgt := 38) hx hb dX12_isAllowed_31 (by decide) (fun c_7 => ?_) (fun c_7 => ?_)
      · obtain ⟨k_8, hk_8, h1k_8, rfl⟩ := nofge' o 7 (by omega) c_7
        refine lv_iconst (v := 0) hx hb dX12_isAllowed_38 (by decide) ?_
        refine lv_goto (tgt := 68) hx hb dX12_isAllowed_39 (by decide) ?_
        exact sk_iret hx hb hr rfl hlocks hK hP hD hS (⟨0, by omega, rfl, rfl⟩) (Nat.le_of_ble_eq_true rfl) (Nat.le_of_ble_eq_true rfl) dX12_isAllowed_68
      · skip
        refine lv_iconst (v := 1) hx hb dX12_isAllowed_34 (by decide) ?_
        refine lv_goto (tgt := 68) hx hb dX12_isAllowed_35 (by decide) ?_
        exact sk_iret hx hb hr rfl hlocks hK hP hD hS (⟨1, by omega, rfl, rfl⟩) (Nat.le_of_ble_eq_true rfl) (Nat.le_of_ble_eq_true rfl) dX12_isAllowed_68
  · skip
    refine lv_iload_n hx hb dX12_isAllowed_7 rfl (lv_at hl 1 rfl) ?_
    refine lv_iconst (v := 5) hx hb dX12_isAllowed_8 (by decide) ?_
    refine lv_icmp_ge (tgt := 16) hx hb dX12_isAllowed_9 (by decide) (fun c_9 => ?_) (fun c_9 => ?_)
    · obtain ⟨k_10, hk_10, h1k_10, rfl⟩ := nofge' o 5 (by omega) c_9
      refine lv_iconst (v := 0) hx hb dX12_isAllowed_16 (by decide) ?_
      refine lv_goto (tgt := 68) hx hb dX12_isAllowed_17 (by decide) ?_
      exact sk_iret hx hb hr rfl hlocks hK hP hD hS (⟨0, by omega, rfl, rfl⟩) (Nat.le_of_ble_eq_true rfl) (Nat.le_of_ble_eq_true rfl) dX12_isAllowed_68
    · skip
      refine lv_iconst (v := 1) hx hb dX12_isAllowed_12 (by decide) ?_
      refine lv_goto (tgt := 68) hx hb dX12_isAllowed_13 (by decide) ?_
      exact sk_iret hx hb hr rfl hlocks hK hP hD hS (⟨1, by omega, rfl, rfl⟩) (Nat.le_of_ble_eq_true rfl) (Nat.le_of_ble_eq_true rfl) dX12_isAllowed_68
theorem dX12_qWordHere_0 : decode cX12_qWordHere 0 = .ok (.aload_n 0, 1) := by decide +kernel
theorem dX12_qWordHere_1 : decode cX12_qWordHere 1 = .ok (.aload_n 0, 1) := by decide +kernel
theorem dX12_qWordHere_2 : decode cX12_qWordHere 2 = .ok (.getfield 150, 3) := by decide +kernel
theorem dX12_qWordHere_5 : decode cX12_qWordHere 5 = .ok (.invokevirtual 218, 3) := by decide +kernel
theorem dX12_qWordHere_8 : decode cX12_qWordHere 8 = .ok (.ifCond .eq 5, 3) := by decide +kernel
theorem dX12_qWordHere_13 : decode cX12_qWordHere 13 = .ok (.aload_n 0, 1) := by decide +kernel
theorem dX12_qWordHere_14 : decode cX12_qWordHere 14 = .ok (.aload_n 0, 1) := by decide +kernel
theorem dX12_qWordHere_15 : decode cX12_qWordHere 15 = .ok (.getfield 153, 3) := by decide +kernel
theorem dX12_qWordHere_18 : decode cX12_qWordHere 18 = .ok (.invokevirtual 218, 3) := by decide +kernel
theorem dX12_qWordHere_21 : decode cX12_qWordHere 21 = .ok (.ifCond .eq 5, 3) := by decide +kernel
theorem dX12_qWordHere_26 : decode cX12_qWordHere 26 = .ok (.aload_n 0, 1) := by decide +kernel
theorem dX12_qWordHere_27 : decode cX12_qWordHere 27 = .ok (.aload_n 0, 1) := by decide +kernel
theorem dX12_qWordHere_28 : decode cX12_qWordHere 28 = .ok (.getfield 156, 3) := by decide +kernel
theorem dX12_qWordHere_31 : decode cX12_qWordHere 31 = .ok (.invokevirtual 218, 3) := by decide +kernel
theorem dX12_qWordHere_34 : decode cX12_qWordHere 34 = .ok (.ifCond .eq 5, 3) := by decide +kernel
theorem dX12_qWordHere_39 : decode cX12_qWordHere 39 = .ok (.aload_n 0, 1) := by decide +kernel
theorem dX12_qWordHere_40 : decode cX12_qWordHere 40 = .ok (.aload_n 0, 1) := by decide +kernel
theorem dX12_qWordHere_41 : decode cX12_qWordHere 41 = .ok (.getfield 159, 3) := by decide +kernel
theorem dX12_qWordHere_44 : decode cX12_qWordHere 44 = .ok (.invokevirtual 218, 3) := by decide +kernel
theorem dX12_qWordHere_47 : decode cX12_qWordHere 47 = .ok (.ifCond .eq 5, 3) := by decide +kernel
theorem dX12_qWordHere_52 : decode cX12_qWordHere 52 = .ok (.aload_n 0, 1) := by decide +kernel
theorem dX12_qWordHere_53 : decode cX12_qWordHere 53 = .ok (.aload_n 0, 1) := by decide +kernel
theorem dX12_qWordHere_54 : decode cX12_qWordHere 54 = .ok (.getfield 162, 3) := by decide +kernel
theorem dX12_qWordHere_57 : decode cX12_qWordHere 57 = .ok (.invokevirtual 218, 3) := by decide +kernel
theorem dX12_qWordHere_60 : decode cX12_qWordHere 60 = .ok (.ifCond .eq 5, 3) := by decide +kernel
theorem dX12_qWordHere_65 : decode cX12_qWordHere 65 = .ok (.aload_n 0, 1) := by decide +kernel
theorem dX12_qWordHere_66 : decode cX12_qWordHere 66 = .ok (.aload_n 0, 1) := by decide +kernel
theorem dX12_qWordHere_67 : decode cX12_qWordHere 67 = .ok (.getfield 165, 3) := by decide +kernel
theorem dX12_qWordHere_70 : decode cX12_qWordHere 70 = .ok (.invokevirtual 218, 3) := by decide +kernel
theorem dX12_qWordHere_73 : decode cX12_qWordHere 73 = .ok (.ifCond .eq 5, 3) := by decide +kernel
theorem dX12_qWordHere_78 : decode cX12_qWordHere 78 = .ok (.aload_n 0, 1) := by decide +kernel
theorem dX12_qWordHere_79 : decode cX12_qWordHere 79 = .ok (.aload_n 0, 1) := by decide +kernel
theorem dX12_qWordHere_80 : decode cX12_qWordHere 80 = .ok (.getfield 168, 3) := by decide +kernel
theorem dX12_qWordHere_83 : decode cX12_qWordHere 83 = .ok (.invokevirtual 218, 3) := by decide +kernel
theorem dX12_qWordHere_86 : decode cX12_qWordHere 86 = .ok (.ifCond .eq 6, 3) := by decide +kernel
theorem dX12_qWordHere_92 : decode cX12_qWordHere 92 = .ok (.aload_n 0, 1) := by decide +kernel
theorem dX12_qWordHere_93 : decode cX12_qWordHere 93 = .ok (.aload_n 0, 1) := by decide +kernel
theorem dX12_qWordHere_94 : decode cX12_qWordHere 94 = .ok (.getfield 171, 3) := by decide +kernel
theorem dX12_qWordHere_97 : decode cX12_qWordHere 97 = .ok (.invokevirtual 218, 3) := by decide +kernel
theorem dX12_qWordHere_100 : decode cX12_qWordHere 100 = .ok (.ifCond .eq 6, 3) := by decide +kernel
theorem dX12_qWordHere_106 : decode cX12_qWordHere 106 = .ok (.aload_n 0, 1) := by decide +kernel
theorem dX12_qWordHere_107 : decode cX12_qWordHere 107 = .ok (.aload_n 0, 1) := by decide +kernel
theorem dX12_qWordHere_108 : decode cX12_qWordHere 108 = .ok (.getfield 174, 3) := by decide +kernel
theorem dX12_qWordHere_111 : decode cX12_qWordHere 111 = .ok (.invokevirtual 218, 3) := by decide +kernel
theorem dX12_qWordHere_114 : decode cX12_qWordHere 114 = .ok (.ifCond .eq 6, 3) := by decide +kernel
theorem dX12_qWordHere_120 : decode cX12_qWordHere 120 = .ok (.aload_n 0, 1) := by decide +kernel
theorem dX12_qWordHere_121 : decode cX12_qWordHere 121 = .ok (.aload_n 0, 1) := by decide +kernel
theorem dX12_qWordHere_122 : decode cX12_qWordHere 122 = .ok (.getfield 114, 3) := by decide +kernel
theorem dX12_qWordHere_125 : decode cX12_qWordHere 125 = .ok (.invokevirtual 218, 3) := by decide +kernel
theorem dX12_qWordHere_128 : decode cX12_qWordHere 128 = .ok (.ifCond .eq 6, 3) := by decide +kernel
theorem dX12_qWordHere_134 : decode cX12_qWordHere 134 = .ok (.aload_n 0, 1) := by decide +kernel
theorem dX12_qWordHere_135 : decode cX12_qWordHere 135 = .ok (.aload_n 0, 1) := by decide +kernel
theorem dX12_qWordHere_136 : decode cX12_qWordHere 136 = .ok (.getfield 177, 3) := by decide +kernel
theorem dX12_qWordHere_139 : decode cX12_qWordHere 139 = .ok (.invokevirtual 218, 3) := by decide +kernel
theorem dX12_qWordHere_142 : decode cX12_qWordHere 142 = .ok (.ifCond .eq 6, 3) := by decide +kernel
theorem dX12_qWordHere_148 : decode cX12_qWordHere 148 = .ok (.iconst (-1), 1) := by decide +kernel
theorem dX12_qWordHere_149 : decode cX12_qWordHere 149 = .ok (.ireturn, 1) := by decide +kernel
theorem dX12_qWordHere_145 : decode cX12_qWordHere 145 = .ok (.bipush 10, 2) := by decide +kernel
theorem dX12_qWordHere_147 : decode cX12_qWordHere 147 = .ok (.ireturn, 1) := by decide +kernel
theorem dX12_qWordHere_131 : decode cX12_qWordHere 131 = .ok (.bipush 9, 2) := by decide +kernel
theorem dX12_qWordHere_133 : decode cX12_qWordHere 133 = .ok (.ireturn, 1) := by decide +kernel
theorem dX12_qWordHere_117 : decode cX12_qWordHere 117 = .ok (.bipush 8, 2) := by decide +kernel
theorem dX12_qWordHere_119 : decode cX12_qWordHere 119 = .ok (.ireturn, 1) := by decide +kernel
theorem dX12_qWordHere_103 : decode cX12_qWordHere 103 = .ok (.bipush 7, 2) := by decide +kernel
theorem dX12_qWordHere_105 : decode cX12_qWordHere 105 = .ok (.ireturn, 1) := by decide +kernel
theorem dX12_qWordHere_89 : decode cX12_qWordHere 89 = .ok (.bipush 6, 2) := by decide +kernel
theorem dX12_qWordHere_91 : decode cX12_qWordHere 91 = .ok (.ireturn, 1) := by decide +kernel
theorem dX12_qWordHere_76 : decode cX12_qWordHere 76 = .ok (.iconst 5, 1) := by decide +kernel
theorem dX12_qWordHere_77 : decode cX12_qWordHere 77 = .ok (.ireturn, 1) := by decide +kernel
theorem dX12_qWordHere_63 : decode cX12_qWordHere 63 = .ok (.iconst 4, 1) := by decide +kernel
theorem dX12_qWordHere_64 : decode cX12_qWordHere 64 = .ok (.ireturn, 1) := by decide +kernel
theorem dX12_qWordHere_50 : decode cX12_qWordHere 50 = .ok (.iconst 3, 1) := by decide +kernel
theorem dX12_qWordHere_51 : decode cX12_qWordHere 51 = .ok (.ireturn, 1) := by decide +kernel
theorem dX12_qWordHere_37 : decode cX12_qWordHere 37 = .ok (.iconst 2, 1) := by decide +kernel
theorem dX12_qWordHere_38 : decode cX12_qWordHere 38 = .ok (.ireturn, 1) := by decide +kernel
theorem dX12_qWordHere_24 : decode cX12_qWordHere 24 = .ok (.iconst 1, 1) := by decide +kernel
theorem dX12_qWordHere_25 : decode cX12_qWordHere 25 = .ok (.ireturn, 1) := by decide +kernel
theorem dX12_qWordHere_11 : decode cX12_qWordHere 11 = .ok (.iconst 0, 1) := by decide +kernel
theorem dX12_qWordHere_12 : decode cX12_qWordHere 12 = .ok (.ireturn, 1) := by decide +kernel
theorem w_5_225 : (Cond.fieldLink RX12 150 "SameKeeperModel" "moodAsked" "[C") ∈ wsL_law := sk_mem (ck_5 _ (List.mem_of_getElem? (i := 225) rfl)) rfl
theorem w_5_226 : (Cond.fieldLink RX12 153 "SameKeeperModel" "bargeAsked" "[C") ∈ wsL_law := sk_mem (ck_5 _ (List.mem_of_getElem? (i := 226) rfl)) rfl
theorem w_5_227 : (Cond.fieldLink RX12 156 "SameKeeperModel" "wetAsked" "[C") ∈ wsL_law := sk_mem (ck_5 _ (List.mem_of_getElem? (i := 227) rfl)) rfl
theorem w_5_228 : (Cond.fieldLink RX12 159 "SameKeeperModel" "dayAsked" "[C") ∈ wsL_law := sk_mem (ck_5 _ (List.mem_of_getElem? (i := 228) rfl)) rfl
theorem w_5_229 : (Cond.fieldLink RX12 162 "SameKeeperModel" "weekAsked" "[C") ∈ wsL_law := sk_mem (ck_5 _ (List.mem_of_getElem? (i := 229) rfl)) rfl
theorem w_5_230 : (Cond.fieldLink RX12 165 "SameKeeperModel" "toldAsked" "[C") ∈ wsL_law := sk_mem (ck_5 _ (List.mem_of_getElem? (i := 230) rfl)) rfl
theorem w_5_231 : (Cond.fieldLink RX12 168 "SameKeeperModel" "aloneAsked" "[C") ∈ wsL_law := sk_mem (ck_5 _ (List.mem_of_getElem? (i := 231) rfl)) rfl
theorem w_5_232 : (Cond.fieldLink RX12 171 "SameKeeperModel" "numberAsked" "[C") ∈ wsL_law := sk_mem (ck_5 _ (List.mem_of_getElem? (i := 232) rfl)) rfl
theorem w_5_233 : (Cond.fieldLink RX12 174 "SameKeeperModel" "muteAsked" "[C") ∈ wsL_law := sk_mem (ck_5 _ (List.mem_of_getElem? (i := 233) rfl)) rfl
theorem w_5_213 : (Cond.fieldLink RX12 114 "SameKeeperModel" "firstAsked" "[C") ∈ wsL_law := sk_mem (ck_5 _ (List.mem_of_getElem? (i := 213) rfl)) rfl
theorem w_5_234 : (Cond.fieldLink RX12 177 "SameKeeperModel" "weeksAsked" "[C") ∈ wsL_law := sk_mem (ck_5 _ (List.mem_of_getElem? (i := 234) rfl)) rfl
theorem w_7_42 : (Cond.code yX12_qWordHere cX12_qWordHere 1 (some .int)) ∈ wsL_law := sk_mem (ck_7 _ (List.mem_of_getElem? (i := 42) rfl)) rfl
set_option maxHeartbeats 4000000 in
set_option maxRecDepth 100000 in
theorem c_m_qWordHere (l : Launch) (D : va_G) (cI cJ cC cZ cS : ClassId) (mm : Nat) (g : Nat → Nat) (ta : Nat) (pa : Nat) (pe : Nat) (pd : Int32) (pb : Nat) (pp : Int32) (pf : Int32) (pg : Int32) (pn : Int32) (rt : Int32) (rn : Int32) (cd : Nat) (sn : Int32) (il : Nat) (tk : Int32) (am : Int32) (at_ : Int32) (aa : Int32) (wt : Int32) (wy : Int64) (rm : Nat) (ud : Nat) (nu : Nat) (sd : Int64) (qn : Nat) (qw : Nat) (qo : Int32) (qb : Nat) (qp : Nat) (qa : Int64) (qi : Nat) (oc : Nat) (tb : Nat → Nat) (ch70 : Nat → Int32) (ch71 : Nat → Int32) (ch72 : Nat → Int32) (ch73 : Nat → Int32) (ch74 : Nat → Int32) (ch75 : Nat → Int32) (ch76 : Nat → Int32) (ch77 : Nat → Int32) (ch78 : Nat → Int32) (ch58 : Nat → Int32) (ch79 : Nat → Int32) (hpa : pa ≤ pe) (hpe : pe ≤ 1600) (hpb : pb ≤ 5) (htb : ∀ j, tb j ≤ 255) : skM l yX12_qWordHere cX12_qWordHere 1 (some .int) 2 43 0 0 D (skT cI cJ cC cZ cS) [.ref mm] [(mm, .inr (12, mo g (nI ta) (nI pa) (nI pe) pd (nI pb) pp pf pg pn rt rn (nI cd) sn (nI il) tk am at_ aa 0 0 (-1) wt wy 0 (nI rm) (nI ud) (nI nu) sd (nI qn) (nI qw) qo (nI qb) (nI qp) qa (nI qi) (nI oc))), (g 0, .inl (cI, 1600, .inl (fun j => nI (tb j)))), (g 70, .inl (cC, 4, .inl ch70)), (g 71, .inl (cC, 5, .inl ch71)), (g 72, .inl (cC, 3, .inl ch72)), (g 73, .inl (cC, 3, .inl ch73)), (g 74, .inl (cC, 4, .inl ch74)), (g 75, .inl (cC, 4, .inl ch75)), (g 76, .inl (cC, 5, .inl ch76)), (g 77, .inl (cC, 6, .inl ch77)), (g 78, .inl (cC, 4, .inl ch78)), (g 58, .inl (cC, 5, .inl ch58)), (g 79, .inl (cC, 5, .inl ch79))] (skI D (skT cI cJ cC cZ cS) (fun (r : Int32) (u : va_W) => ∃ (pa2 : Nat), pa ≤ pa2 ∧ pa2 ≤ pe ∧ stay tb pe pa pa2 ∧ (r = -1 ∨ ∃ kq : Nat, kq ≤ 10 ∧ r = nI kq) ∧ u = [(mm, .inr (12, mo g (nI ta) (nI pa2) (nI pe) pd (nI pb) pp pf pg pn rt rn (nI cd) sn (nI il) tk am at_ aa 0 0 (-1) wt wy 0 (nI rm) (nI ud) (nI nu) sd (nI qn) (nI qw) qo (nI qb) (nI qp) qa (nI qi) (nI oc))), (g 0, .inl (cI, 1600, .inl (fun j => nI (tb j)))), (g 70, .inl (cC, 4, .inl ch70)), (g 71, .inl (cC, 5, .inl ch71)), (g 72, .inl (cC, 3, .inl ch72)), (g 73, .inl (cC, 3, .inl ch73)), (g 74, .inl (cC, 4, .inl ch74)), (g 75, .inl (cC, 4, .inl ch75)), (g 76, .inl (cC, 5, .inl ch76)), (g 77, .inl (cC, 6, .inl ch77)), (g 78, .inl (cC, 4, .inl ch78)), (g 58, .inl (cC, 5, .inl ch58)), (g 79, .inl (cC, 5, .inl ch79))])) := by
  refine skM_of (by decide +kernel) (Nat.le_of_ble_eq_true rfl) ?_
  intro p e s m below meth c A ls E hP hD hl
  obtain ⟨hx, hb, hr, hml, hlocks, hin, hown, hts, hK, hA⟩ := E
  have hown : s.vm.findClass RX12 = some m.cls := hown
  have hS : va_S A s.heap s.heap [] := va_S.rf
  have hl : lv_has ls 1 [(0, .ref mm)] := hl
  refine lv_aload_n hx hb dX12_qWordHere_0 rfl (lv_at hl 0 rfl) ?_
  refine lv_aload_n hx hb dX12_qWordHere_1 rfl (lv_at hl 0 rfl) ?_
  refine sk_get (v := .ref (g 70)) (C := RX12) (T := TX12) (N := 92) hx hb hts inlX12 hown hK hP 0 rfl rfl 70 (by decide) w_5_225 rfl dX12_qWordHere_2 ?_
  refine sk_Vi (q0 := 0) (n := 1) (rest := []) (wr := [(g 71, .inl (cC, 5, .inl ch71)), (g 72, .inl (cC, 3, .inl ch72)), (g 73, .inl (cC, 3, .inl ch73)), (g 74, .inl (cC, 4, .inl ch74)), (g 75, .inl (cC, 4, .inl ch75)), (g 76, .inl (cC, 5, .inl ch76)), (g 77, .inl (cC, 6, .inl ch77)), (g 78, .inl (cC, 4, .inl ch78)), (g 58, .inl (cC, 5, .inl ch58)), (g 79, .inl (cC, 5, .inl ch79))]) ⟨hx, hb, hml, hown, hts⟩ hl.1 (c_m_isHere l D cI cJ cC cZ cS mm g ta pa pe pd pb pp pf pg pn rt rn cd sn il tk am at_ aa wt wy rm ud nu sd qn qw qo qb qp qa qi oc tb (g 70) 4 ch70 (by omega) (by omega) (by omega) (by omega) (by omega) htb) w_6_218 w_6_220 w_0_44 w_1_14 w_6_221 (by decide +kernel) ⟨⟨(Nat.le_of_ble_eq_true rfl), (Nat.le_of_ble_eq_true rfl)⟩, (Nat.le_of_ble_eq_true rfl), (Nat.le_of_ble_eq_true rfl)⟩ hK hP hD hS hA [0, 1, 2] [3, 4, 5, 6, 7, 8, 9, 10, 11, 12] rfl rfl (by decide) (by decide) (by decide) rfl rfl rfl rfl (Nat.le_of_ble_eq_true rfl) dX12_qWordHere_5 (fun r_3 u H locs hw hP hD hS => ?_)
  obtain ⟨b_1, pa2_2, hpa2_4, hpa3_5, hst_6, hb1_7, rfl, rfl⟩ := hw
  have hP : va_P D vwCl [(g 71, .inl (cC, 5, .inl ch71)), (g 72, .inl (cC, 3, .inl ch72)), (g 73, .inl (cC, 3, .inl ch73)), (g 74, .inl (cC, 4, .inl ch74)), (g 75, .inl (cC, 4, .inl ch75)), (g 76, .inl (cC, 5, .inl ch76)), (g 77, .inl (cC, 6, .inl ch77)), (g 78, .inl (cC, 4, .inl ch78)), (g 58, .inl (cC, 5, .inl ch58)), (g 79, .inl (cC, 5, .inl ch79)), (mm, .inr (12, mo g (nI ta) (nI pa2_2) (nI pe) pd (nI pb) pp pf pg pn rt rn (nI cd) sn (nI il) tk am at_ aa 0 0 (-1) wt wy 0 (nI rm) (nI ud) (nI nu) sd (nI qn) (nI qw) qo (nI qb) (nI qp) qa (nI qi) (nI oc))), (g 0, .inl (cI, 1600, .inl (fun j => nI (tb j)))), (g 70, .inl (cC, 4, .inl ch70))] H := hP
  have hD : va_D A [(g 71, .inl (cC, 5, .inl ch71)), (g 72, .inl (cC, 3, .inl ch72)), (g 73, .inl (cC, 3, .inl ch73)), (g 74, .inl (cC, 4, .inl ch74)), (g 75, .inl (cC, 4, .inl ch75)), (g 76, .inl (cC, 5, .inl ch76)), (g 77, .inl (cC, 6, .inl ch77)), (g 78, .inl (cC, 4, .inl ch78)), (g 58, .inl (cC, 5, .inl ch58)), (g 79, .inl (cC, 5, .inl ch79)), (mm, .inr (12, mo g (nI ta) (nI pa2_2) (nI pe) pd (nI pb) pp pf pg pn rt rn (nI cd) sn (nI il) tk am at_ aa 0 0 (-1) wt wy 0 (nI rm) (nI ud) (nI nu) sd (nI qn) (nI qw) qo (nI qb) (nI qp) qa (nI qi) (nI oc))), (g 0, .inl (cI, 1600, .inl (fun j => nI (tb j)))), (g 70, .inl (cC, 4, .inl ch70))] := hD
  refine lv_if_eq (tgt := 13) hx hb dX12_qWordHere_8 (by decide) (fun c_8 => ?_) (fun c_8 => ?_)
  · have c_8 : b_1 = 0 := (neq b_1 0 (by omega) (by omega)).mp c_8
    refine lv_aload_n hx hb dX12_qWordHere_13 rfl (lv_at hl 0 rfl) ?_
    refine lv_aload_n hx hb dX12_qWordHere_14 rfl (lv_at hl 0 rfl) ?_
    refine sk_get (v := .ref (g 71)) (C := RX12) (T := TX12) (N := 92) hx hb hts inlX12 hown hK hP 10 rfl rfl 71 (by decide) w_5_226 rfl dX12_qWordHere_15 ?_
    refine sk_Vi (q0 := 0) (n := 1) (rest := []) (wr := [(g 72, .inl (cC, 3, .inl ch72)), (g 73, .inl (cC, 3, .inl ch73)), (g 74, .inl (cC, 4, .inl ch74)), (g 75, .inl (cC, 4, .inl ch75)), (g 76, .inl (cC, 5, .inl ch76)), (g 77, .inl (cC, 6, .inl ch77)), (g 78, .inl (cC, 4, .inl ch78)), (g 58, .inl (cC, 5, .inl ch58)), (g 79, .inl (cC, 5, .inl ch79)), (g 70, .inl (cC, 4, .inl ch70))]) ⟨hx, hb, hml, hown, hts⟩ hl.1 (c_m_isHere l D cI cJ cC cZ cS mm g ta pa2_2 pe pd pb pp pf pg pn rt rn cd sn il tk am at_ aa wt wy rm ud nu sd qn qw qo qb qp qa qi oc tb (g 71) 5 ch71 (by omega) (by omega) (by omega) (by omega) (by omega) htb) w_6_218 w_6_220 w_0_44 w_1_14 w_6_221 (by decide +kernel) ⟨⟨(Nat.le_of_ble_eq_true rfl), (Nat.le_of_ble_eq_true rfl)⟩, (Nat.le_of_ble_eq_true rfl), (Nat.le_of_ble_eq_true rfl)⟩ hK hP hD hS hA [10, 11, 0] [1, 2, 3, 4, 5, 6, 7, 8, 9, 12] rfl rfl (by decide) (by decide) (by decide) rfl rfl rfl rfl (Nat.le_of_ble_eq_true rfl) dX12_qWordHere_18 (fun r_11 u H locs hw hP hD hS => ?_)
    obtain ⟨b_9, pa2_10, hpa2_12, hpa3_13, hst_14, hb1_15, rfl, rfl⟩ := hw
    have hP : va_P D vwCl [(g 72, .inl (cC, 3, .inl ch72)), (g 73, .inl (cC, 3, .inl ch73)), (g 74, .inl (cC, 4, .inl ch74)), (g 75, .inl (cC, 4, .inl ch75)), (g 76, .inl (cC, 5, .inl ch76)), (g 77, .inl (cC, 6, .inl ch77)), (g 78, .inl (cC, 4, .inl ch78)), (g 58, .inl (cC, 5, .inl ch58)), (g 79, .inl (cC, 5, .inl ch79)), (g 70, .inl (cC, 4, .inl ch70)), (mm, .inr (12, mo g (nI ta) (nI pa2_10) (nI pe) pd (nI pb) pp pf pg pn rt rn (nI cd) sn (nI il) tk am at_ aa 0 0 (-1) wt wy 0 (nI rm) (nI ud) (nI nu) sd (nI qn) (nI qw) qo (nI qb) (nI qp) qa (nI qi) (nI oc))), (g 0, .inl (cI, 1600, .inl (fun j => nI (tb j)))), (g 71, .inl (cC, 5, .inl ch71))] H := hP
    have hD : va_D A [(g 72, .inl (cC, 3, .inl ch72)), (g 73, .inl (cC, 3, .inl ch73)), (g 74, .inl (cC, 4, .inl ch74)), (g 75, .inl (cC, 4, .inl ch75)), (g 76, .inl (cC, 5, .inl ch76)), (g 77, .inl (cC, 6, .inl ch77)), (g 78, .inl (cC, 4, .inl ch78)), (g 58, .inl (cC, 5, .inl ch58)), (g 79, .inl (cC, 5, .inl ch79)), (g 70, .inl (cC, 4, .inl ch70)), (mm, .inr (12, mo g (nI ta) (nI pa2_10) (nI pe) pd (nI pb) pp pf pg pn rt rn (nI cd) sn (nI il) tk am at_ aa 0 0 (-1) wt wy 0 (nI rm) (nI ud) (nI nu) sd (nI qn) (nI qw) qo (nI qb) (nI qp) qa (nI qi) (nI oc))), (g 0, .inl (cI, 1600, .inl (fun j => nI (tb j)))), (g 71, .inl (cC, 5, .inl ch71))] := hD
    refine lv_if_eq (tgt := 26) hx hb dX12_qWordHere_21 (by decide) (fun c_16 => ?_) (fun c_16 => ?_)
    · have c_16 : b_9 = 0 := (neq b_9 0 (by omega) (by omega)).mp c_16
      refine lv_aload_n hx hb dX12_qWordHere_26 rfl (lv_at hl 0 rfl) ?_
      refine lv_aload_n hx hb dX12_qWordHere_27 rfl (lv_at hl 0 rfl) ?_
      refine sk_get (v := .ref (g 72)) (C := RX12) (T := TX12) (N := 92) hx hb hts inlX12 hown hK hP 10 rfl rfl 72 (by decide) w_5_227 rfl dX12_qWordHere_28 ?_
      refine sk_Vi (q0 := 0) (n := 1) (rest := []) (wr := [(g 73, .inl (cC, 3, .inl ch73)), (g 74, .inl (cC, 4, .inl ch74)), (g 75, .inl (cC, 4, .inl ch75)), (g 76, .inl (cC, 5, .inl ch76)), (g 77, .inl (cC, 6, .inl ch77)), (g 78, .inl (cC, 4, .inl ch78)), (g 58, .inl (cC, 5, .inl ch58)), (g 79, .inl (cC, 5, .inl ch79)), (g 70, .inl (cC, 4, .inl ch70)), (g 71, .inl (cC, 5, .inl ch71))]) ⟨hx, hb, hml, hown, hts⟩ hl.1 (c_m_isHere l D cI cJ cC cZ cS mm g ta pa2_10 pe pd pb pp pf pg pn rt rn cd sn il tk am at_ aa wt wy rm ud nu sd qn qw qo qb qp qa qi oc tb (g 72) 3 ch72 (by omega) (by omega) (by omega) (by omega) (by omega) htb) w_6_218 w_6_220 w_0_44 w_1_14 w_6_221 (by decide +kernel) ⟨⟨(Nat.le_of_ble_eq_true rfl), (Nat.le_of_ble_eq_true rfl)⟩, (Nat.le_of_ble_eq_true rfl), (Nat.le_of_ble_eq_true rfl)⟩ hK hP hD hS hA [10, 11, 0] [1, 2, 3, 4, 5, 6, 7, 8, 9, 12] rfl rfl (by decide) (by decide) (by decide) rfl rfl rfl rfl (Nat.le_of_ble_eq_true rfl) dX12_qWordHere_31 (fun r_19 u H locs hw hP hD hS => ?_)
      obtain ⟨b_17, pa2_18, hpa2_20, hpa3_21, hst_22, hb1_23, rfl, rfl⟩ := hw
      have hP : va_P D vwCl [(g 73, .inl (cC, 3, .inl ch73)), (g 74, .inl (cC, 4, .inl ch74)), (g 75, .inl (cC, 4, .inl ch75)), (g 76, .inl (cC, 5, .inl ch76)), (g 77, .inl (cC, 6, .inl ch77)), (g 78, .inl (cC, 4, .inl ch78)), (g 58, .inl (cC, 5, .inl ch58)), (g 79, .inl (cC, 5, .inl ch79)), (g 70, .inl (cC, 4, .inl ch70)), (g 71, .inl (cC, 5, .inl ch71)), (mm, .inr (12, mo g (nI ta) (nI pa2_18) (nI pe) pd (nI pb) pp pf pg pn rt rn (nI cd) sn (nI il) tk am at_ aa 0 0 (-1) wt wy 0 (nI rm) (nI ud) (nI nu) sd (nI qn) (nI qw) qo (nI qb) (nI qp) qa (nI qi) (nI oc))), (g 0, .inl (cI, 1600, .inl (fun j => nI (tb j)))), (g 72, .inl (cC, 3, .inl ch72))] H := hP
      have hD : va_D A [(g 73, .inl (cC, 3, .inl ch73)), (g 74, .inl (cC, 4, .inl ch74)), (g 75, .inl (cC, 4, .inl ch75)), (g 76, .inl (cC, 5, .inl ch76)), (g 77, .inl (cC, 6, .inl ch77)), (g 78, .inl (cC, 4, .inl ch78)), (g 58, .inl (cC, 5, .inl ch58)), (g 79, .inl (cC, 5, .inl ch79)), (g 70, .inl (cC, 4, .inl ch70)), (g 71, .inl (cC, 5, .inl ch71)), (mm, .inr (12, mo g (nI ta) (nI pa2_18) (nI pe) pd (nI pb) pp pf pg pn rt rn (nI cd) sn (nI il) tk am at_ aa 0 0 (-1) wt wy 0 (nI rm) (nI ud) (nI nu) sd (nI qn) (nI qw) qo (nI qb) (nI qp) qa (nI qi) (nI oc))), (g 0, .inl (cI, 1600, .inl (fun j => nI (tb j)))), (g 72, .inl (cC, 3, .inl ch72))] := hD
      refine lv_if_eq (tgt := 39) hx hb dX12_qWordHere_34 (by decide) (fun c_24 => ?_) (fun c_24 => ?_)
      · have c_24 : b_17 = 0 := (neq b_17 0 (by omega) (by omega)).mp c_24
        refine lv_aload_n hx hb dX12_qWordHere_39 rfl (lv_at hl 0 rfl) ?_
        refine lv_aload_n hx hb dX12_qWordHere_40 rfl (lv_at hl 0 rfl) ?_
        refine sk_get (v := .ref (g 73)) (C := RX12) (T := TX12) (N := 92) hx hb hts inlX12 hown hK hP 10 rfl rfl 73 (by decide) w_5_228 rfl dX12_qWordHere_41 ?_
        refine sk_Vi (q0 := 0) (n := 1) (rest := []) (wr := [(g 74, .inl (cC, 4, .inl ch74)), (g 75, .inl (cC, 4, .inl ch75)), (g 76, .inl (cC, 5, .inl ch76)), (g 77, .inl (cC, 6, .inl ch77)), (g 78, .inl (cC, 4, .inl ch78)), (g 58, .inl (cC, 5, .inl ch58)), (g 79, .inl (cC, 5, .inl ch79)), (g 70, .inl (cC, 4, .inl ch70)), (g 71, .inl (cC, 5, .inl ch71)), (g 72, .inl (cC, 3, .inl ch72))]) ⟨hx, hb, hml, hown, hts⟩ hl.1 (c_m_isHere l D cI cJ cC cZ cS mm g ta pa2_18 pe pd pb pp pf pg pn rt rn cd sn il tk am at_ aa wt wy rm ud nu sd qn qw qo qb qp qa qi oc tb (g 73) 3 ch73 (by omega) (by omega) (by omega) (by omega) (by omega) htb) w_6_218 w_6_220 w_0_44 w_1_14 w_6_221 (by decide +kernel) ⟨⟨(Nat.le_of_ble_eq_true rfl), (Nat.le_of_ble_eq_true rfl)⟩, (Nat.le_of_ble_eq_true rfl), (Nat.le_of_ble_eq_true rfl)⟩ hK hP hD hS hA [10, 11, 0] [1, 2, 3, 4, 5, 6, 7, 8, 9, 12] rfl rfl (by decide) (by decide) (by decide) rfl rfl rfl rfl (Nat.le_of_ble_eq_true rfl) dX12_qWordHere_44 (fun r_27 u H locs hw hP hD hS => ?_)
        obtain ⟨b_25, pa2_26, hpa2_28, hpa3_29, hst_30, hb1_31, rfl, rfl⟩ := hw
        have hP : va_P D vwCl [(g 74, .inl (cC, 4, .inl ch74)), (g 75, .inl (cC, 4, .inl ch75)), (g 76, .inl (cC, 5, .inl ch76)), (g 77, .inl (cC, 6, .inl ch77)), (g 78, .inl (cC, 4, .inl ch78)), (g 58, .inl (cC, 5, .inl ch58)), (g 79, .inl (cC, 5, .inl ch79)), (g 70, .inl (cC, 4, .inl ch70)), (g 71, .inl (cC, 5, .inl ch71)), (g 72, .inl (cC, 3, .inl ch72)), (mm, .inr (12, mo g (nI ta) (nI pa2_26) (nI pe) pd (nI pb) pp pf pg pn rt rn (nI cd) sn (nI il) tk am at_ aa 0 0 (-1) wt wy 0 (nI rm) (nI ud) (nI nu) sd (nI qn) (nI qw) qo (nI qb) (nI qp) qa (nI qi) (nI oc))), (g 0, .inl (cI, 1600, .inl (fun j => nI (tb j)))), (g 73, .inl (cC, 3, .inl ch73))] H := hP
        have hD : va_D A [(g 74, .inl (cC, 4, .inl ch74)), (g 75, .inl (cC, 4, .inl ch75)), (g 76, .inl (cC, 5, .inl ch76)), (g 77, .inl (cC, 6, .inl ch77)), (g 78, .inl (cC, 4, .inl ch78)), (g 58, .inl (cC, 5, .inl ch58)), (g 79, .inl (cC, 5, .inl ch79)), (g 70, .inl (cC, 4, .inl ch70)), (g 71, .inl (cC, 5, .inl ch71)), (g 72, .inl (cC, 3, .inl ch72)), (mm, .inr (12, mo g (nI ta) (nI pa2_26) (nI pe) pd (nI pb) pp pf pg pn rt rn (nI cd) sn (nI il) tk am at_ aa 0 0 (-1) wt wy 0 (nI rm) (nI ud) (nI nu) sd (nI qn) (nI qw) qo (nI qb) (nI qp) qa (nI qi) (nI oc))), (g 0, .inl (cI, 1600, .inl (fun j => nI (tb j)))), (g 73, .inl (cC, 3, .inl ch73))] := hD
        refine lv_if_eq (tgt := 52) hx hb dX12_qWordHere_47 (by decide) (fun c_32 => ?_) (fun c_32 => ?_)
        · have c_32 : b_25 = 0 := (neq b_25 0 (by omega) (by omega)).mp c_32
          refine lv_aload_n hx hb dX12_qWordHere_52 rfl (lv_at hl 0 rfl) ?_
          refine lv_aload_n hx hb dX12_qWordHere_53 rfl (lv_at hl 0 rfl) ?_
          refine sk_get (v := .ref (g 74)) (C := RX12) (T := TX12) (N := 92) hx hb hts inlX12 hown hK hP 10 rfl rfl 74 (by decide) w_5_229 rfl dX12_qWordHere_54 ?_
          refine sk_Vi (q0 := 0) (n := 1) (rest := []) (wr := [(g 75, .inl (cC, 4, .inl ch75)), (g 76, .inl (cC, 5, .inl ch76)), (g 77, .inl (cC, 6, .inl ch77)), (g 78, .inl (cC, 4, .inl ch78)), (g 58, .inl (cC, 5, .inl ch58)), (g 79, .inl (cC, 5, .inl ch79)), (g 70, .inl (cC, 4, .inl ch70)), (g 71, .inl (cC, 5, .inl ch71)), (g 72, .inl (cC, 3, .inl ch72)), (g 73, .inl (cC, 3, .inl ch73))]) ⟨hx, hb, hml, hown, hts⟩ hl.1 (c_m_isHere l D cI cJ cC cZ cS mm g ta pa2_26 pe pd pb pp pf pg pn rt rn cd sn il tk am at_ aa wt wy rm ud nu sd qn qw qo qb qp qa qi oc tb (g 74) 4 ch74 (by omega) (by omega) (by omega) (by omega) (by omega) htb) w_6_218 w_6_220 w_0_44 w_1_14 w_6_221 (by decide +kernel) ⟨⟨(Nat.le_of_ble_eq_true rfl), (Nat.le_of_ble_eq_true rfl)⟩, (Nat.le_of_ble_eq_true rfl), (Nat.le_of_ble_eq_true rfl)⟩ hK hP hD hS hA [10, 11, 0] [1, 2, 3, 4, 5, 6, 7, 8, 9, 12] rfl rfl (by decide) (by decide) (by decide) rfl rfl rfl rfl (Nat.le_of_ble_eq_true rfl) dX12_qWordHere_57 (fun r_35 u H locs hw hP hD hS => ?_)
          obtain ⟨b_33, pa2_34, hpa2_36, hpa3_37, hst_38, hb1_39, rfl, rfl⟩ := hw
          have hP : va_P D vwCl [(g 75, .inl (cC, 4, .inl ch75)), (g 76, .inl (cC, 5, .inl ch76)), (g 77, .inl (cC, 6, .inl ch77)), (g 78, .inl (cC, 4, .inl ch78)), (g 58, .inl (cC, 5, .inl ch58)), (g 79, .inl (cC, 5, .inl ch79)), (g 70, .inl (cC, 4, .inl ch70)), (g 71, .inl (cC, 5, .inl ch71)), (g 72, .inl (cC, 3, .inl ch72)), (g 73, .inl (cC, 3, .inl ch73)), (mm, .inr (12, mo g (nI ta) (nI pa2_34) (nI pe) pd (nI pb) pp pf pg pn rt rn (nI cd) sn (nI il) tk am at_ aa 0 0 (-1) wt wy 0 (nI rm) (nI ud) (nI nu) sd (nI qn) (nI qw) qo (nI qb) (nI qp) qa (nI qi) (nI oc))), (g 0, .inl (cI, 1600, .inl (fun j => nI (tb j)))), (g 74, .inl (cC, 4, .inl ch74))] H := hP
          have hD : va_D A [(g 75, .inl (cC, 4, .inl ch75)), (g 76, .inl (cC, 5, .inl ch76)), (g 77, .inl (cC, 6, .inl ch77)), (g 78, .inl (cC, 4, .inl ch78)), (g 58, .inl (cC, 5, .inl ch58)), (g 79, .inl (cC, 5, .inl ch79)), (g 70, .inl (cC, 4, .inl ch70)), (g 71, .inl (cC, 5, .inl ch71)), (g 72, .inl (cC, 3, .inl ch72)), (g 73, .inl (cC, 3, .inl ch73)), (mm, .inr (12, mo g (nI ta) (nI pa2_34) (nI pe) pd (nI pb) pp pf pg pn rt rn (nI cd) sn (nI il) tk am at_ aa 0 0 (-1) wt wy 0 (nI rm) (nI ud) (nI nu) sd (nI qn) (nI qw) qo (nI qb) (nI qp) qa (nI qi) (nI oc))), (g 0, .inl (cI, 1600, .inl (fun j => nI (tb j)))), (g 74, .inl (cC, 4, .inl ch74))] := hD
          refine lv_if_eq (tgt := 65) hx hb dX12_qWordHere_60 (by decide) (fun c_40 => ?_) (fun c_40 => ?_)
          · have c_40 : b_33 = 0 := (neq b_33 0 (by omega) (by omega)).mp c_40
            refine lv_aload_n hx hb dX12_qWordHere_65 rfl (lv_at hl 0 rfl) ?_
            refine lv_aload_n hx hb dX12_qWordHere_66 rfl (lv_at hl 0 rfl) ?_
            refine sk_get (v := .ref (g 75)) (C := RX12) (T := TX12) (N := 92) hx hb hts inlX12 hown hK hP 10 rfl rfl 75 (by decide) w_5_230 rfl dX12_qWordHere_67 ?_
            refine sk_Vi (q0 := 0) (n := 1) (rest := []) (wr := [(g 76, .inl (cC, 5, .inl ch76)), (g 77, .inl (cC, 6, .inl ch77)), (g 78, .inl (cC, 4, .inl ch78)), (g 58, .inl (cC, 5, .inl ch58)), (g 79, .inl (cC, 5, .inl ch79)), (g 70, .inl (cC, 4, .inl ch70)), (g 71, .inl (cC, 5, .inl ch71)), (g 72, .inl (cC, 3, .inl ch72)), (g 73, .inl (cC, 3, .inl ch73)), (g 74, .inl (cC, 4, .inl ch74))]) ⟨hx, hb, hml, hown, hts⟩ hl.1 (c_m_isHere l D cI cJ cC cZ cS mm g ta pa2_34 pe pd pb pp pf pg pn rt rn cd sn il tk am at_ aa wt wy rm ud nu sd qn qw qo qb qp qa qi oc tb (g 75) 4 ch75 (by omega) (by omega) (by omega) (by omega) (by omega) htb) w_6_218 w_6_220 w_0_44 w_1_14 w_6_221 (by decide +kernel) ⟨⟨(Nat.le_of_ble_eq_true rfl), (Nat.le_of_ble_eq_true rfl)⟩, (Nat.le_of_ble_eq_true rfl), (Nat.le_of_ble_eq_true rfl)⟩ hK hP hD hS hA [10, 11, 0] [1, 2, 3, 4, 5, 6, 7, 8, 9, 12] rfl rfl (by decide) (by decide) (by decide) rfl rfl rfl rfl (Nat.le_of_ble_eq_true rfl) dX12_qWordHere_70 (fun r_43 u H locs hw hP hD hS => ?_)
            obtain ⟨b_41, pa2_42, hpa2_44, hpa3_45, hst_46, hb1_47, rfl, rfl⟩ := hw
            have hP : va_P D vwCl [(g 76, .inl (cC, 5, .inl ch76)), (g 77, .inl (cC, 6, .inl ch77)), (g 78, .inl (cC, 4, .inl ch78)), (g 58, .inl (cC, 5, .inl ch58)), (g 79, .inl (cC, 5, .inl ch79)), (g 70, .inl (cC, 4, .inl ch70)), (g 71, .inl (cC, 5, .inl ch71)), (g 72, .inl (cC, 3, .inl ch72)), (g 73, .inl (cC, 3, .inl ch73)), (g 74, .inl (cC, 4, .inl ch74)), (mm, .inr (12, mo g (nI ta) (nI pa2_42) (nI pe) pd (nI pb) pp pf pg pn rt rn (nI cd) sn (nI il) tk am at_ aa 0 0 (-1) wt wy 0 (nI rm) (nI ud) (nI nu) sd (nI qn) (nI qw) qo (nI qb) (nI qp) qa (nI qi) (nI oc))), (g 0, .inl (cI, 1600, .inl (fun j => nI (tb j)))), (g 75, .inl (cC, 4, .inl ch75))] H := hP
            have hD : va_D A [(g 76, .inl (cC, 5, .inl ch76)), (g 77, .inl (cC, 6, .inl ch77)), (g 78, .inl (cC, 4, .inl ch78)), (g 58, .inl (cC, 5, .inl ch58)), (g 79, .inl (cC, 5, .inl ch79)), (g 70, .inl (cC, 4, .inl ch70)), (g 71, .inl (cC, 5, .inl ch71)), (g 72, .inl (cC, 3, .inl ch72)), (g 73, .inl (cC, 3, .inl ch73)), (g 74, .inl (cC, 4, .inl ch74)), (mm, .inr (12, mo g (nI ta) (nI pa2_42) (nI pe) pd (nI pb) pp pf pg pn rt rn (nI cd) sn (nI il) tk am at_ aa 0 0 (-1) wt wy 0 (nI rm) (nI ud) (nI nu) sd (nI qn) (nI qw) qo (nI qb) (nI qp) qa (nI qi) (nI oc))), (g 0, .inl (cI, 1600, .inl (fun j => nI (tb j)))), (g 75, .inl (cC, 4, .inl ch75))] := hD
            refine lv_if_eq (tgt := 78) hx hb dX12_qWordHere_73 (by decide) (fun c_48 => ?_) (fun c_48 => ?_)
            · have c_48 : b_41 = 0 := (neq b_41 0 (by omega) (by omega)).mp c_48
              refine lv_aload_n hx hb dX12_qWordHere_78 rfl (lv_at hl 0 rfl) ?_
              refine lv_aload_n hx hb dX12_qWordHere_79 rfl (lv_at hl 0 rfl) ?_
              refine sk_get (v := .ref (g 76)) (C := RX12) (T := TX12) (N := 92) hx hb hts inlX12 hown hK hP 10 rfl rfl 76 (by decide) w_5_231 rfl dX12_qWordHere_80 ?_
              refine sk_Vi (q0 := 0) (n := 1) (rest := []) (wr := [(g 77, .inl (cC, 6, .inl ch77)), (g 78, .inl (cC, 4, .inl ch78)), (g 58, .inl (cC, 5, .inl ch58)), (g 79, .inl (cC, 5, .inl ch79)), (g 70, .inl (cC, 4, .inl ch70)), (g 71, .inl (cC, 5, .inl ch71)), (g 72, .inl (cC, 3, .inl ch72)), (g 73, .inl (cC, 3, .inl ch73)), (g 74, .inl (cC, 4, .inl ch74)), (g 75, .inl (cC, 4, .inl ch75))]) ⟨hx, hb, hml, hown, hts⟩ hl.1 (c_m_isHere l D cI cJ cC cZ cS mm g ta pa2_42 pe pd pb pp pf pg pn rt rn cd sn il tk am at_ aa wt wy rm ud nu sd qn qw qo qb qp qa qi oc tb (g 76) 5 ch76 (by omega) (by omega) (by omega) (by omega) (by omega) htb) w_6_218 w_6_220 w_0_44 w_1_14 w_6_221 (by decide +kernel) ⟨⟨(Nat.le_of_ble_eq_true rfl), (Nat.le_of_ble_eq_true rfl)⟩, (Nat.le_of_ble_eq_true rfl), (Nat.le_of_ble_eq_true rfl)⟩ hK hP hD hS hA [10, 11, 0] [1, 2, 3, 4, 5, 6, 7, 8, 9, 12] rfl rfl (by decide) (by decide) (by decide) rfl rfl rfl rfl (Nat.le_of_ble_eq_true rfl) dX12_qWordHere_83 (fun r_51 u H locs hw hP hD hS => ?_)
              obtain ⟨b_49, pa2_50, hpa2_52, hpa3_53, hst_54, hb1_55, rfl, rfl⟩ := hw
              have hP : va_P D vwCl [(g 77, .inl (cC, 6, .inl ch77)), (g 78, .inl (cC, 4, .inl ch78)), (g 58, .inl (cC, 5, .inl ch58)), (g 79, .inl (cC, 5, .inl ch79)), (g 70, .inl (cC, 4, .inl ch70)), (g 71, .inl (cC, 5, .inl ch71)), (g 72, .inl (cC, 3, .inl ch72)), (g 73, .inl (cC, 3, .inl ch73)), (g 74, .inl (cC, 4, .inl ch74)), (g 75, .inl (cC, 4, .inl ch75)), (mm, .inr (12, mo g (nI ta) (nI pa2_50) (nI pe) pd (nI pb) pp pf pg pn rt rn (nI cd) sn (nI il) tk am at_ aa 0 0 (-1) wt wy 0 (nI rm) (nI ud) (nI nu) sd (nI qn) (nI qw) qo (nI qb) (nI qp) qa (nI qi) (nI oc))), (g 0, .inl (cI, 1600, .inl (fun j => nI (tb j)))), (g 76, .inl (cC, 5, .inl ch76))] H := hP
              have hD : va_D A [(g 77, .inl (cC, 6, .inl ch77)), (g 78, .inl (cC, 4, .inl ch78)), (g 58, .inl (cC, 5, .inl ch58)), (g 79, .inl (cC, 5, .inl ch79)), (g 70, .inl (cC, 4, .inl ch70)), (g 71, .inl (cC, 5, .inl ch71)), (g 72, .inl (cC, 3, .inl ch72)), (g 73, .inl (cC, 3, .inl ch73)), (g 74, .inl (cC, 4, .inl ch74)), (g 75, .inl (cC, 4, .inl ch75)), (mm, .inr (12, mo g (nI ta) (nI pa2_50) (nI pe) pd (nI pb) pp pf pg pn rt rn (nI cd) sn (nI il) tk am at_ aa 0 0 (-1) wt wy 0 (nI rm) (nI ud) (nI nu) sd (nI qn) (nI qw) qo (nI qb) (nI qp) qa (nI qi) (nI oc))), (g 0, .inl (cI, 1600, .inl (fun j => nI (tb j)))), (g 76, .inl (cC, 5, .inl ch76))] := hD
              refine lv_if_eq (tgt := 92) hx hb dX12_qWordHere_86 (by decide) (fun c_56 => ?_) (fun c_56 => ?_)
              · have c_56 : b_49 = 0 := (neq b_49 0 (by omega) (by omega)).mp c_56
                refine lv_aload_n hx hb dX12_qWordHere_92 rfl (lv_at hl 0 rfl) ?_
                refine lv_aload_n hx hb dX12_qWordHere_93 rfl (lv_at hl 0 rfl) ?_
                refine sk_get (v := .ref (g 77)) (C := RX12) (T := TX12) (N := 92) hx hb hts inlX12 hown hK hP 10 rfl rfl 77 (by decide) w_5_232 rfl dX12_qWordHere_94 ?_
                refine sk_Vi (q0 := 0) (n := 1) (rest := []) (wr := [(g 78, .inl (cC, 4, .inl ch78)), (g 58, .inl (cC, 5, .inl ch58)), (g 79, .inl (cC, 5, .inl ch79)), (g 70, .inl (cC, 4, .inl ch70)), (g 71, .inl (cC, 5, .inl ch71)), (g 72, .inl (cC, 3, .inl ch72)), (g 73, .inl (cC, 3, .inl ch73)), (g 74, .inl (cC, 4, .inl ch74)), (g 75, .inl (cC, 4, .inl ch75)), (g 76, .inl (cC, 5, .inl ch76))]) ⟨hx, hb, hml, hown, hts⟩ hl.1 (c_m_isHere l D cI cJ cC cZ cS mm g ta pa2_50 pe pd pb pp pf pg pn rt rn cd sn il tk am at_ aa wt wy rm ud nu sd qn qw qo qb qp qa qi oc tb (g 77) 6 ch77 (by omega) (by omega) (by omega) (by omega) (by omega) htb) w_6_218 w_6_220 w_0_44 w_1_14 w_6_221 (by decide +kernel) ⟨⟨(Nat.le_of_ble_eq_true rfl), (Nat.le_of_ble_eq_true rfl)⟩, (Nat.le_of_ble_eq_true rfl), (Nat.le_of_ble_eq_true rfl)⟩ hK hP hD hS hA [10, 11, 0] [1, 2, 3, 4, 5, 6, 7, 8, 9, 12] rfl rfl (by decide) (by decide) (by decide) rfl rfl rfl rfl (Nat.le_of_ble_eq_true rfl) dX12_qWordHere_97 (fun r_59 u H locs hw hP hD hS => ?_)
                obtain ⟨b_57, pa2_58, hpa2_60, hpa3_61, hst_62, hb1_63, rfl, rfl⟩ := hw
                have hP : va_P D vwCl [(g 78, .inl (cC, 4, .inl ch78)), (g 58, .inl (cC, 5, .inl ch58)), (g 79, .inl (cC, 5, .inl ch79)), (g 70, .inl (cC, 4, .inl ch70)), (g 71, .inl (cC, 5, .inl ch71)), (g 72, .inl (cC, 3, .inl ch72)), (g 73, .inl (cC, 3, .inl ch73)), (g 74, .inl (cC, 4, .inl ch74)), (g 75, .inl (cC, 4, .inl ch75)), (g 76, .inl (cC, 5, .inl ch76)), (mm, .inr (12, mo g (nI ta) (nI pa2_58) (nI pe) pd (nI pb) pp pf pg pn rt rn (nI cd) sn (nI il) tk am at_ aa 0 0 (-1) wt wy 0 (nI rm) (nI ud) (nI nu) sd (nI qn) (nI qw) qo (nI qb) (nI qp) qa (nI qi) (nI oc))), (g 0, .inl (cI, 1600, .inl (fun j => nI (tb j)))), (g 77, .inl (cC, 6, .inl ch77))] H := hP
                have hD : va_D A [(g 78, .inl (cC, 4, .inl ch78)), (g 58, .inl (cC, 5, .inl ch58)), (g 79, .inl (cC, 5, .inl ch79)), (g 70, .inl (cC, 4, .inl ch70)), (g 71, .inl (cC, 5, .inl ch71)), (g 72, .inl (cC, 3, .inl ch72)), (g 73, .inl (cC, 3, .inl ch73)), (g 74, .inl (cC, 4, .inl ch74)), (g 75, .inl (cC, 4, .inl ch75)), (g 76, .inl (cC, 5, .inl ch76)), (mm, .inr (12, mo g (nI ta) (nI pa2_58) (nI pe) pd (nI pb) pp pf pg pn rt rn (nI cd) sn (nI il) tk am at_ aa 0 0 (-1) wt wy 0 (nI rm) (nI ud) (nI nu) sd (nI qn) (nI qw) qo (nI qb) (nI qp) qa (nI qi) (nI oc))), (g 0, .inl (cI, 1600, .inl (fun j => nI (tb j)))), (g 77, .inl (cC, 6, .inl ch77))] := hD
                refine lv_if_eq (tgt := 106) hx hb dX12_qWordHere_100 (by decide) (fun c_64 => ?_) (fun c_64 => ?_)
                · have c_64 : b_57 = 0 := (neq b_57 0 (by omega) (by omega)).mp c_64
                  refine lv_aload_n hx hb dX12_qWordHere_106 rfl (lv_at hl 0 rfl) ?_
                  refine lv_aload_n hx hb dX12_qWordHere_107 rfl (lv_at hl 0 rfl) ?_
                  refine sk_get (v := .ref (g 78)) (C := RX12) (T := TX12) (N := 92) hx hb hts inlX12 hown hK hP 10 rfl rfl 78 (by decide) w_5_233 rfl dX12_qWordHere_108 ?_
                  refine sk_Vi (q0 := 0) (n := 1) (rest := []) (wr := [(g 58, .inl (cC, 5, .inl ch58)), (g 79, .inl (cC, 5, .inl ch79)), (g 70, .inl (cC, 4, .inl ch70)), (g 71, .inl (cC, 5, .inl ch71)), (g 72, .inl (cC, 3, .inl ch72)), (g 73, .inl (cC, 3, .inl ch73)), (g 74, .inl (cC, 4, .inl ch74)), (g 75, .inl (cC, 4, .inl ch75)), (g 76, .inl (cC, 5, .inl ch76)), (g 77, .inl (cC, 6, .inl ch77))]) ⟨hx, hb, hml, hown, hts⟩ hl.1 (c_m_isHere l D cI cJ cC cZ cS mm g ta pa2_58 pe pd pb pp pf pg pn rt rn cd sn il tk am at_ aa wt wy rm ud nu sd qn qw qo qb qp qa qi oc tb (g 78) 4 ch78 (by omega) (by omega) (by omega) (by omega) (by omega) htb) w_6_218 w_6_220 w_0_44 w_1_14 w_6_221 (by decide +kernel) ⟨⟨(Nat.le_of_ble_eq_true rfl), (Nat.le_of_ble_eq_true rfl)⟩, (Nat.le_of_ble_eq_true rfl), (Nat.le_of_ble_eq_true rfl)⟩ hK hP hD hS hA [10, 11, 0] [1, 2, 3, 4, 5, 6, 7, 8, 9, 12] rfl rfl (by decide) (by decide) (by decide) rfl rfl rfl rfl (Nat.le_of_ble_eq_true rfl) dX12_qWordHere_111 (fun r_67 u H locs hw hP hD hS => ?_)
                  obtain ⟨b_65, pa2_66, hpa2_68, hpa3_69, hst_70, hb1_71, rfl, rfl⟩ := hw
                  have hP : va_P D vwCl [(g 58, .inl (cC, 5, .inl ch58)), (g 79, .inl (cC, 5, .inl ch79)), (g 70, .inl (cC, 4, .inl ch70)), (g 71, .inl (cC, 5, .inl ch71)), (g 72, .inl (cC, 3, .inl ch72)), (g 73, .inl (cC, 3, .inl ch73)), (g 74, .inl (cC, 4, .inl ch74)), (g 75, .inl (cC, 4, .inl ch75)), (g 76, .inl (cC, 5, .inl ch76)), (g 77, .inl (cC, 6, .inl ch77)), (mm, .inr (12, mo g (nI ta) (nI pa2_66) (nI pe) pd (nI pb) pp pf pg pn rt rn (nI cd) sn (nI il) tk am at_ aa 0 0 (-1) wt wy 0 (nI rm) (nI ud) (nI nu) sd (nI qn) (nI qw) qo (nI qb) (nI qp) qa (nI qi) (nI oc))), (g 0, .inl (cI, 1600, .inl (fun j => nI (tb j)))), (g 78, .inl (cC, 4, .inl ch78))] H := hP
                  have hD : va_D A [(g 58, .inl (cC, 5, .inl ch58)), (g 79, .inl (cC, 5, .inl ch79)), (g 70, .inl (cC, 4, .inl ch70)), (g 71, .inl (cC, 5, .inl ch71)), (g 72, .inl (cC, 3, .inl ch72)), (g 73, .inl (cC, 3, .inl ch73)), (g 74, .inl (cC, 4, .inl ch74)), (g 75, .inl (cC, 4, .inl ch75)), (g 76, .inl (cC, 5, .inl ch76)), (g 77, .inl (cC, 6, .inl ch77)), (mm, .inr (12, mo g (nI ta) (nI pa2_66) (nI pe) pd (nI pb) pp pf pg pn rt rn (nI cd) sn (nI il) tk am at_ aa 0 0 (-1) wt wy 0 (nI rm) (nI ud) (nI nu) sd (nI qn) (nI qw) qo (nI qb) (nI qp) qa (nI qi) (nI oc))), (g 0, .inl (cI, 1600, .inl (fun j => nI (tb j)))), (g 78, .inl (cC, 4, .inl ch78))] := hD
                  refine lv_if_eq (tgt := 120) hx hb dX12_qWordHere_114 (by decide) (fun c_72 => ?_) (fun c_72 => ?_)
                  · have c_72 : b_65 = 0 := (neq b_65 0 (by omega) (by omega)).mp c_72
                    refine lv_aload_n hx hb dX12_qWordHere_120 rfl (lv_at hl 0 rfl) ?_
                    refine lv_aload_n hx hb dX12_qWordHere_121 rfl (lv_at hl 0 rfl) ?_
                    refine sk_get (v := .ref (g 58)) (C := RX12) (T := TX12) (N := 92) hx hb hts inlX12 hown hK hP 10 rfl rfl 58 (by decide) w_5_213 rfl dX12_qWordHere_122 ?_
                    refine sk_Vi (q0 := 0) (n := 1) (rest := []) (wr := [(g 79, .inl (cC, 5, .inl ch79)), (g 70, .inl (cC, 4, .inl ch70)), (g 71, .inl (cC, 5, .inl ch71)), (g 72, .inl (cC, 3, .inl ch72)), (g 73, .inl (cC, 3, .inl ch73)), (g 74, .inl (cC, 4, .inl ch74)), (g 75, .inl (cC, 4, .inl ch75)), (g 76, .inl (cC, 5, .inl ch76)), (g 77, .inl (cC, 6, .inl ch77)), (g 78, .inl (cC, 4, .inl ch78))]) ⟨hx, hb, hml, hown, hts⟩ hl.1 (c_m_isHere l D cI cJ cC cZ cS mm g ta pa2_66 pe pd pb pp pf pg pn rt rn cd sn il tk am at_ aa wt wy rm ud nu sd qn qw qo qb qp qa qi oc tb (g 58) 5 ch58 (by omega) (by omega) (by omega) (by omega) (by omega) htb) w_6_218 w_6_220 w_0_44 w_1_14 w_6_221 (by decide +kernel) ⟨⟨(Nat.le_of_ble_eq_true rfl), (Nat.le_of_ble_eq_true rfl)⟩, (Nat.le_of_ble_eq_true rfl), (Nat.le_of_ble_eq_true rfl)⟩ hK hP hD hS hA [10, 11, 0] [1, 2, 3, 4, 5, 6, 7, 8, 9, 12] rfl rfl (by decide) (by decide) (by decide) rfl rfl rfl rfl (Nat.le_of_ble_eq_true rfl) dX12_qWordHere_125 (fun r_75 u H locs hw hP hD hS => ?_)
                    obtain ⟨b_73, pa2_74, hpa2_76, hpa3_77, hst_78, hb1_79, rfl, rfl⟩ := hw
                    have hP : va_P D vwCl [(g 79, .inl (cC, 5, .inl ch79)), (g 70, .inl (cC, 4, .inl ch70)), (g 71, .inl (cC, 5, .inl ch71)), (g 72, .inl (cC, 3, .inl ch72)), (g 73, .inl (cC, 3, .inl ch73)), (g 74, .inl (cC, 4, .inl ch74)), (g 75, .inl (cC, 4, .inl ch75)), (g 76, .inl (cC, 5, .inl ch76)), (g 77, .inl (cC, 6, .inl ch77)), (g 78, .inl (cC, 4, .inl ch78)), (mm, .inr (12, mo g (nI ta) (nI pa2_74) (nI pe) pd (nI pb) pp pf pg pn rt rn (nI cd) sn (nI il) tk am at_ aa 0 0 (-1) wt wy 0 (nI rm) (nI ud) (nI nu) sd (nI qn) (nI qw) qo (nI qb) (nI qp) qa (nI qi) (nI oc))), (g 0, .inl (cI, 1600, .inl (fun j => nI (tb j)))), (g 58, .inl (cC, 5, .inl ch58))] H := hP
                    have hD : va_D A [(g 79, .inl (cC, 5, .inl ch79)), (g 70, .inl (cC, 4, .inl ch70)), (g 71, .inl (cC, 5, .inl ch71)), (g 72, .inl (cC, 3, .inl ch72)), (g 73, .inl (cC, 3, .inl ch73)), (g 74, .inl (cC, 4, .inl ch74)), (g 75, .inl (cC, 4, .inl ch75)), (g 76, .inl (cC, 5, .inl ch76)), (g 77, .inl (cC, 6, .inl ch77)), (g 78, .inl (cC, 4, .inl ch78)), (mm, .inr (12, mo g (nI ta) (nI pa2_74) (nI pe) pd (nI pb) pp pf pg pn rt rn (nI cd) sn (nI il) tk am at_ aa 0 0 (-1) wt wy 0 (nI rm) (nI ud) (nI nu) sd (nI qn) (nI qw) qo (nI qb) (nI qp) qa (nI qi) (nI oc))), (g 0, .inl (cI, 1600, .inl (fun j => nI (tb j)))), (g 58, .inl (cC, 5, .inl ch58))] := hD
                    refine lv_if_eq (tgt := 134) hx hb dX12_qWordHere_128 (by decide) (fun c_80 => ?_) (fun c_80 => ?_)
                    · have c_80 : b_73 = 0 := (neq b_73 0 (by omega) (by omega)).mp c_80
                      refine lv_aload_n hx hb dX12_qWordHere_134 rfl (lv_at hl 0 rfl) ?_
                      refine lv_aload_n hx hb dX12_qWordHere_135 rfl (lv_at hl 0 rfl) ?_
                      refine sk_get (v := .ref (g 79)) (C := RX12) (T := TX12) (N := 92) hx hb hts inlX12 hown hK hP 10 rfl rfl 79 (by decide) w_5_234 rfl dX12_qWordHere_136 ?_
                      refine sk_Vi (q0 := 0) (n := 1) (rest := []) (wr := [(g 70, .inl (cC, 4, .inl ch70)), (g 71, .inl (cC, 5, .inl ch71)), (g 72, .inl (cC, 3, .inl ch72)), (g 73, .inl (cC, 3, .inl ch73)), (g 74, .inl (cC, 4, .inl ch74)), (g 75, .inl (cC, 4, .inl ch75)), (g 76, .inl (cC, 5, .inl ch76)), (g 77, .inl (cC, 6, .inl ch77)), (g 78, .inl (cC, 4, .inl ch78)), (g 58, .inl (cC, 5, .inl ch58))]) ⟨hx, hb, hml, hown, hts⟩ hl.1 (c_m_isHere l D cI cJ cC cZ cS mm g ta pa2_74 pe pd pb pp pf pg pn rt rn cd sn il tk am at_ aa wt wy rm ud nu sd qn qw qo qb qp qa qi oc tb (g 79) 5 ch79 (by omega) (by omega) (by omega) (by omega) (by omega) htb) w_6_218 w_6_220 w_0_44 w_1_14 w_6_221 (by decide +kernel) ⟨⟨(Nat.le_of_ble_eq_true rfl), (Nat.le_of_ble_eq_true rfl)⟩, (Nat.le_of_ble_eq_true rfl), (Nat.le_of_ble_eq_true rfl)⟩ hK hP hD hS hA [10, 11, 0] [1, 2, 3, 4, 5, 6, 7, 8, 9, 12] rfl rfl (by decide) (by decide) (by decide) rfl rfl rfl rfl (Nat.le_of_ble_eq_true rfl) dX12_qWordHere_139 (fun r_83 u H locs hw hP hD hS => ?_)
                      obtain ⟨b_81, pa2_82, hpa2_84, hpa3_85, hst_86, hb1_87, rfl, rfl⟩ := hw
                      have hP : va_P D vwCl [(g 70, .inl (cC, 4, .inl ch70)), (g 71, .inl (cC, 5, .inl ch71)), (g 72, .inl (cC, 3, .inl ch72)), (g 73, .inl (cC, 3, .inl ch73)), (g 74, .inl (cC, 4, .inl ch74)), (g 75, .inl (cC, 4, .inl ch75)), (g 76, .inl (cC, 5, .inl ch76)), (g 77, .inl (cC, 6, .inl ch77)), (g 78, .inl (cC, 4, .inl ch78)), (g 58, .inl (cC, 5, .inl ch58)), (mm, .inr (12, mo g (nI ta) (nI pa2_82) (nI pe) pd (nI pb) pp pf pg pn rt rn (nI cd) sn (nI il) tk am at_ aa 0 0 (-1) wt wy 0 (nI rm) (nI ud) (nI nu) sd (nI qn) (nI qw) qo (nI qb) (nI qp) qa (nI qi) (nI oc))), (g 0, .inl (cI, 1600, .inl (fun j => nI (tb j)))), (g 79, .inl (cC, 5, .inl ch79))] H := hP
                      have hD : va_D A [(g 70, .inl (cC, 4, .inl ch70)), (g 71, .inl (cC, 5, .inl ch71)), (g 72, .inl (cC, 3, .inl ch72)), (g 73, .inl (cC, 3, .inl ch73)), (g 74, .inl (cC, 4, .inl ch74)), (g 75, .inl (cC, 4, .inl ch75)), (g 76, .inl (cC, 5, .inl ch76)), (g 77, .inl (cC, 6, .inl ch77)), (g 78, .inl (cC, 4, .inl ch78)), (g 58, .inl (cC, 5, .inl ch58)), (mm, .inr (12, mo g (nI ta) (nI pa2_82) (nI pe) pd (nI pb) pp pf pg pn rt rn (nI cd) sn (nI il) tk am at_ aa 0 0 (-1) wt wy 0 (nI rm) (nI ud) (nI nu) sd (nI qn) (nI qw) qo (nI qb) (nI qp) qa (nI qi) (nI oc))), (g 0, .inl (cI, 1600, .inl (fun j => nI (tb j)))), (g 79, .inl (cC, 5, .inl ch79))] := hD
                      refine lv_if_eq (tgt := 148) hx hb dX12_qWordHere_142 (by decide) (fun c_88 => ?_) (fun c_88 => ?_)
                      · have c_88 : b_81 = 0 := (neq b_81 0 (by omega) (by omega)).mp c_88
                        refine lv_iconst (v := (-1)) hx hb dX12_qWordHere_148 (by decide) ?_
                        have hP := hP.sub (ws' := [(mm, .inr (12, mo g (nI ta) (nI pa2_82) (nI pe) pd (nI pb) pp pf pg pn rt rn (nI cd) sn (nI il) tk am at_ aa 0 0 (-1) wt wy 0 (nI rm) (nI ud) (nI nu) sd (nI qn) (nI qw) qo (nI qb) (nI qp) qa (nI qi) (nI oc))), (g 0, .inl (cI, 1600, .inl (fun j => nI (tb j)))), (g 70, .inl (cC, 4, .inl ch70)), (g 71, .inl (cC, 5, .inl ch71)), (g 72, .inl (cC, 3, .inl ch72)), (g 73, .inl (cC, 3, .inl ch73)), (g 74, .inl (cC, 4, .inl ch74)), (g 75, .inl (cC, 4, .inl ch75)), (g 76, .inl (cC, 5, .inl ch76)), (g 77, .inl (cC, 6, .inl ch77)), (g 78, .inl (cC, 4, .inl ch78)), (g 58, .inl (cC, 5, .inl ch58)), (g 79, .inl (cC, 5, .inl ch79))]) [10, 11, 0, 1, 2, 3, 4, 5, 6, 7, 8, 9, 12] rfl
                        have hD := hD.sub (ws' := [(mm, .inr (12, mo g (nI ta) (nI pa2_82) (nI pe) pd (nI pb) pp pf pg pn rt rn (nI cd) sn (nI il) tk am at_ aa 0 0 (-1) wt wy 0 (nI rm) (nI ud) (nI nu) sd (nI qn) (nI qw) qo (nI qb) (nI qp) qa (nI qi) (nI oc))), (g 0, .inl (cI, 1600, .inl (fun j => nI (tb j)))), (g 70, .inl (cC, 4, .inl ch70)), (g 71, .inl (cC, 5, .inl ch71)), (g 72, .inl (cC, 3, .inl ch72)), (g 73, .inl (cC, 3, .inl ch73)), (g 74, .inl (cC, 4, .inl ch74)), (g 75, .inl (cC, 4, .inl ch75)), (g 76, .inl (cC, 5, .inl ch76)), (g 77, .inl (cC, 6, .inl ch77)), (g 78, .inl (cC, 4, .inl ch78)), (g 58, .inl (cC, 5, .inl ch58)), (g 79, .inl (cC, 5, .inl ch79))]) [10, 11, 0, 1, 2, 3, 4, 5, 6, 7, 8, 9, 12] (by decide) rfl
                        exact sk_iret hx hb hr rfl hlocks hK hP hD hS (⟨pa2_82, by omega, by omega, (stay_tr (stay_tr (stay_tr (stay_tr (stay_tr (stay_tr (stay_tr (stay_tr (stay_tr (stay_tr hst_6 hst_14) hst_22) hst_30) hst_38) hst_46) hst_54) hst_62) hst_70) hst_78) hst_86), (Or.inl rfl), rfl⟩) (Nat.le_of_ble_eq_true rfl) (Nat.le_of_ble_eq_true rfl) dX12_qWordHere_149
                      · have c_88 : ¬ (b_81 = 0) := fun h => c_88 ((neq b_81 0 (by omega) (by omega)).mpr h)
                        refine lv_bipush (v := 10) hx hb dX12_qWordHere_145 (by decide) ?_
                        have hP := hP.sub (ws' := [(mm, .inr (12, mo g (nI ta) (nI pa2_82) (nI pe) pd (nI pb) pp pf pg pn rt rn (nI cd) sn (nI il) tk am at_ aa 0 0 (-1) wt wy 0 (nI rm) (nI ud) (nI nu) sd (nI qn) (nI qw) qo (nI qb) (nI qp) qa (nI qi) (nI oc))), (g 0, .inl (cI, 1600, .inl (fun j => nI (tb j)))), (g 70, .inl (cC, 4, .inl ch70)), (g 71, .inl (cC, 5, .inl ch71)), (g 72, .inl (cC, 3, .inl ch72)), (g 73, .inl (cC, 3, .inl ch73)), (g 74, .inl (cC, 4, .inl ch74)), (g 75, .inl (cC, 4, .inl ch75)), (g 76, .inl (cC, 5, .inl ch76)), (g 77, .inl (cC, 6, .inl ch77)), (g 78, .inl (cC, 4, .inl ch78)), (g 58, .inl (cC, 5, .inl ch58)), (g 79, .inl (cC, 5, .inl ch79))]) [10, 11, 0, 1, 2, 3, 4, 5, 6, 7, 8, 9, 12] rfl
                        have hD := hD.sub (ws' := [(mm, .inr (12, mo g (nI ta) (nI pa2_82) (nI pe) pd (nI pb) pp pf pg pn rt rn (nI cd) sn (nI il) tk am at_ aa 0 0 (-1) wt wy 0 (nI rm) (nI ud) (nI nu) sd (nI qn) (nI qw) qo (nI qb) (nI qp) qa (nI qi) (nI oc))), (g 0, .inl (cI, 1600, .inl (fun j => nI (tb j)))), (g 70, .inl (cC, 4, .inl ch70)), (g 71, .inl (cC, 5, .inl ch71)), (g 72, .inl (cC, 3, .inl ch72)), (g 73, .inl (cC, 3, .inl ch73)), (g 74, .inl (cC, 4, .inl ch74)), (g 75, .inl (cC, 4, .inl ch75)), (g 76, .inl (cC, 5, .inl ch76)), (g 77, .inl (cC, 6, .inl ch77)), (g 78, .inl (cC, 4, .inl ch78)), (g 58, .inl (cC, 5, .inl ch58)), (g 79, .inl (cC, 5, .inl ch79))]) [10, 11, 0, 1, 2, 3, 4, 5, 6, 7, 8, 9, 12] (by decide) rfl
                        exact sk_iret hx hb hr rfl hlocks hK hP hD hS (⟨pa2_82, by omega, by omega, (stay_tr (stay_tr (stay_tr (stay_tr (stay_tr (stay_tr (stay_tr (stay_tr (stay_tr (stay_tr hst_6 hst_14) hst_22) hst_30) hst_38) hst_46) hst_54) hst_62) hst_70) hst_78) hst_86), (Or.inr ⟨10, by omega, rfl⟩), rfl⟩) (Nat.le_of_ble_eq_true rfl) (Nat.le_of_ble_eq_true rfl) dX12_qWordHere_147
                    · have c_80 : ¬ (b_73 = 0) := fun h => c_80 ((neq b_73 0 (by omega) (by omega)).mpr h)
                      refine lv_bipush (v := 9) hx hb dX12_qWordHere_131 (by decide) ?_
                      have hP := hP.sub (ws' := [(mm, .inr (12, mo g (nI ta) (nI pa2_74) (nI pe) pd (nI pb) pp pf pg pn rt rn (nI cd) sn (nI il) tk am at_ aa 0 0 (-1) wt wy 0 (nI rm) (nI ud) (nI nu) sd (nI qn) (nI qw) qo (nI qb) (nI qp) qa (nI qi) (nI oc))), (g 0, .inl (cI, 1600, .inl (fun j => nI (tb j)))), (g 70, .inl (cC, 4, .inl ch70)), (g 71, .inl (cC, 5, .inl ch71)), (g 72, .inl (cC, 3, .inl ch72)), (g 73, .inl (cC, 3, .inl ch73)), (g 74, .inl (cC, 4, .inl ch74)), (g 75, .inl (cC, 4, .inl ch75)), (g 76, .inl (cC, 5, .inl ch76)), (g 77, .inl (cC, 6, .inl ch77)), (g 78, .inl (cC, 4, .inl ch78)), (g 58, .inl (cC, 5, .inl ch58)), (g 79, .inl (cC, 5, .inl ch79))]) [10, 11, 1, 2, 3, 4, 5, 6, 7, 8, 9, 12, 0] rfl
                      have hD := hD.sub (ws' := [(mm, .inr (12, mo g (nI ta) (nI pa2_74) (nI pe) pd (nI pb) pp pf pg pn rt rn (nI cd) sn (nI il) tk am at_ aa 0 0 (-1) wt wy 0 (nI rm) (nI ud) (nI nu) sd (nI qn) (nI qw) qo (nI qb) (nI qp) qa (nI qi) (nI oc))), (g 0, .inl (cI, 1600, .inl (fun j => nI (tb j)))), (g 70, .inl (cC, 4, .inl ch70)), (g 71, .inl (cC, 5, .inl ch71)), (g 72, .inl (cC, 3, .inl ch72)), (g 73, .inl (cC, 3, .inl ch73)), (g 74, .inl (cC, 4, .inl ch74)), (g 75, .inl (cC, 4, .inl ch75)), (g 76, .inl (cC, 5, .inl ch76)), (g 77, .inl (cC, 6, .inl ch77)), (g 78, .inl (cC, 4, .inl ch78)), (g 58, .inl (cC, 5, .inl ch58)), (g 79, .inl (cC, 5, .inl ch79))]) [10, 11, 1, 2, 3, 4, 5, 6, 7, 8, 9, 12, 0] (by decide) rfl
                      exact sk_iret hx hb hr rfl hlocks hK hP hD hS (⟨pa2_74, by omega, by omega, (stay_tr (stay_tr (stay_tr (stay_tr (stay_tr (stay_tr (stay_tr (stay_tr (stay_tr hst_6 hst_14) hst_22) hst_30) hst_38) hst_46) hst_54) hst_62) hst_70) hst_78), (Or.inr ⟨9, by omega, rfl⟩), rfl⟩) (Nat.le_of_ble_eq_true rfl) (Nat.le_of_ble_eq_true rfl) dX12_qWordHere_133
                  · have c_72 : ¬ (b_65 = 0) := fun h => c_72 ((neq b_65 0 (by omega) (by omega)).mpr h)
                    refine lv_bipush (v := 8) hx hb dX12_qWordHere_117 (by decide) ?_
                    have hP := hP.sub (ws' := [(mm, .inr (12, mo g (nI ta) (nI pa2_66) (nI pe) pd (nI pb) pp pf pg pn rt rn (nI cd) sn (nI il) tk am at_ aa 0 0 (-1) wt wy 0 (nI rm) (nI ud) (nI nu) sd (nI qn) (nI qw) qo (nI qb) (nI qp) qa (nI qi) (nI oc))), (g 0, .inl (cI, 1600, .inl (fun j => nI (tb j)))), (g 70, .inl (cC, 4, .inl ch70)), (g 71, .inl (cC, 5, .inl ch71)), (g 72, .inl (cC, 3, .inl ch72)), (g 73, .inl (cC, 3, .inl ch73)), (g 74, .inl (cC, 4, .inl ch74)), (g 75, .inl (cC, 4, .inl ch75)), (g 76, .inl (cC, 5, .inl ch76)), (g 77, .inl (cC, 6, .inl ch77)), (g 78, .inl (cC, 4, .inl ch78)), (g 58, .inl (cC, 5, .inl ch58)), (g 79, .inl (cC, 5, .inl ch79))]) [10, 11, 2, 3, 4, 5, 6, 7, 8, 9, 12, 0, 1] rfl
                    have hD := hD.sub (ws' := [(mm, .inr (12, mo g (nI ta) (nI pa2_66) (nI pe) pd (nI pb) pp pf pg pn rt rn (nI cd) sn (nI il) tk am at_ aa 0 0 (-1) wt wy 0 (nI rm) (nI ud) (nI nu) sd (nI qn) (nI qw) qo (nI qb) (nI qp) qa (nI qi) (nI oc))), (g 0, .inl (cI, 1600, .inl (fun j => nI (tb j)))), (g 70, .inl (cC, 4, .inl ch70)), (g 71, .inl (cC, 5, .inl ch71)), (g 72, .inl (cC, 3, .inl ch72)), (g 73, .inl (cC, 3, .inl ch73)), (g 74, .inl (cC, 4, .inl ch74)), (g 75, .inl (cC, 4, .inl ch75)), (g 76, .inl (cC, 5, .inl ch76)), (g 77, .inl (cC, 6, .inl ch77)), (g 78, .inl (cC, 4, .inl ch78)), (g 58, .inl (cC, 5, .inl ch58)), (g 79, .inl (cC, 5, .inl ch79))]) [10, 11, 2, 3, 4, 5, 6, 7, 8, 9, 12, 0, 1] (by decide) rfl
                    exact sk_iret hx hb hr rfl hlocks hK hP hD hS (⟨pa2_66, by omega, by omega, (stay_tr (stay_tr (stay_tr (stay_tr (stay_tr (stay_tr (stay_tr (stay_tr hst_6 hst_14) hst_22) hst_30) hst_38) hst_46) hst_54) hst_62) hst_70), (Or.inr ⟨8, by omega, rfl⟩), rfl⟩) (Nat.le_of_ble_eq_true rfl) (Nat.le_of_ble_eq_true rfl) dX12_qWordHere_119
                · have c_64 : ¬ (b_57 = 0) := fun h => c_64 ((neq b_57 0 (by omega) (by omega)).mpr h)
                  refine lv_bipush (v := 7) hx hb dX12_qWordHere_103 (by decide) ?_
                  have hP := hP.sub (ws' := [(mm, .inr (12, mo g (nI ta) (nI pa2_58) (nI pe) pd (nI pb) pp pf pg pn rt rn (nI cd) sn (nI il) tk am at_ aa 0 0 (-1) wt wy 0 (nI rm) (nI ud) (nI nu) sd (nI qn) (nI qw) qo (nI qb) (nI qp) qa (nI qi) (nI oc))), (g 0, .inl (cI, 1600, .inl (fun j => nI (tb j)))), (g 70, .inl (cC, 4, .inl ch70)), (g 71, .inl (cC, 5, .inl ch71)), (g 72, .inl (cC, 3, .inl ch72)), (g 73, .inl (cC, 3, .inl ch73)), (g 74, .inl (cC, 4, .inl ch74)), (g 75, .inl (cC, 4, .inl ch75)), (g 76, .inl (cC, 5, .inl ch76)), (g 77, .inl (cC, 6, .inl ch77)), (g 78, .inl (cC, 4, .inl ch78)), (g 58, .inl (cC, 5, .inl ch58)), (g 79, .inl (cC, 5, .inl ch79))]) [10, 11, 3, 4, 5, 6, 7, 8, 9, 12, 0, 1, 2] rfl
                  have hD := hD.sub (ws' := [(mm, .inr (12, mo g (nI ta) (nI pa2_58) (nI pe) pd (nI pb) pp pf pg pn rt rn (nI cd) sn (nI il) tk am at_ aa 0 0 (-1) wt wy 0 (nI rm) (nI ud) (nI nu) sd (nI qn) (nI qw) qo (nI qb) (nI qp) qa (nI qi) (nI oc))), (g 0, .inl (cI, 1600, .inl (fun j => nI (tb j)))), (g 70, .inl (cC, 4, .inl ch70)), (g 71, .inl (cC, 5, .inl ch71)), (g 72, .inl (cC, 3, .inl ch72)), (g 73, .inl (cC, 3, .inl ch73)), (g 74, .inl (cC, 4, .inl ch74)), (g 75, .inl (cC, 4, .inl ch75)), (g 76, .inl (cC, 5, .inl ch76)), (g 77, .inl (cC, 6, .inl ch77)), (g 78, .inl (cC, 4, .inl ch78)), (g 58, .inl (cC, 5, .inl ch58)), (g 79, .inl (cC, 5, .inl ch79))]) [10, 11, 3, 4, 5, 6, 7, 8, 9, 12, 0, 1, 2] (by decide) rfl
                  exact sk_iret hx hb hr rfl hlocks hK hP hD hS (⟨pa2_58, by omega, by omega, (stay_tr (stay_tr (stay_tr (stay_tr (stay_tr (stay_tr (stay_tr hst_6 hst_14) hst_22) hst_30) hst_38) hst_46) hst_54) hst_62), (Or.inr ⟨7, by omega, rfl⟩), rfl⟩) (Nat.le_of_ble_eq_true rfl) (Nat.le_of_ble_eq_true rfl) dX12_qWordHere_105
              · have c_56 : ¬ (b_49 = 0) := fun h => c_56 ((neq b_49 0 (by omega) (by omega)).mpr h)
                refine lv_bipush (v := 6) hx hb dX12_qWordHere_89 (by decide) ?_
                have hP := hP.sub (ws' := [(mm, .inr (12, mo g (nI ta) (nI pa2_50) (nI pe) pd (nI pb) pp pf pg pn rt rn (nI cd) sn (nI il) tk am at_ aa 0 0 (-1) wt wy 0 (nI rm) (nI ud) (nI nu) sd (nI qn) (nI qw) qo (nI qb) (nI qp) qa (nI qi) (nI oc))), (g 0, .inl (cI, 1600, .inl (fun j => nI (tb j)))), (g 70, .inl (cC, 4, .inl ch70)), (g 71, .inl (cC, 5, .inl ch71)), (g 72, .inl (cC, 3, .inl ch72)), (g 73, .inl (cC, 3, .inl ch73)), (g 74, .inl (cC, 4, .inl ch74)), (g 75, .inl (cC, 4, .inl ch75)), (g 76, .inl (cC, 5, .inl ch76)), (g 77, .inl (cC, 6, .inl ch77)), (g 78, .inl (cC, 4, .inl ch78)), (g 58, .inl (cC, 5, .inl ch58)), (g 79, .inl (cC, 5, .inl ch79))]) [10, 11, 4, 5, 6, 7, 8, 9, 12, 0, 1, 2, 3] rfl
                have hD := hD.sub (ws' := [(mm, .inr (12, mo g (nI ta) (nI pa2_50) (nI pe) pd (nI pb) pp pf pg pn rt rn (nI cd) sn (nI il) tk am at_ aa 0 0 (-1) wt wy 0 (nI rm) (nI ud) (nI nu) sd (nI qn) (nI qw) qo (nI qb) (nI qp) qa (nI qi) (nI oc))), (g 0, .inl (cI, 1600, .inl (fun j => nI (tb j)))), (g 70, .inl (cC, 4, .inl ch70)), (g 71, .inl (cC, 5, .inl ch71)), (g 72, .inl (cC, 3, .inl ch72)), (g 73, .inl (cC, 3, .inl ch73)), (g 74, .inl (cC, 4, .inl ch74)), (g 75, .inl (cC, 4, .inl ch75)), (g 76, .inl (cC, 5, .inl ch76)), (g 77, .inl (cC, 6, .inl ch77)), (g 78, .inl (cC, 4, .inl ch78)), (g 58, .inl (cC, 5, .inl ch58)), (g 79, .inl (cC, 5, .inl ch79))]) [10, 11, 4, 5, 6, 7, 8, 9, 12, 0, 1, 2, 3] (by decide) rfl
                exact sk_iret hx hb hr rfl hlocks hK hP hD hS (⟨pa2_50, by omega, by omega, (stay_tr (stay_tr (stay_tr (stay_tr (stay_tr (stay_tr hst_6 hst_14) hst_22) hst_30) hst_38) hst_46) hst_54), (Or.inr ⟨6, by omega, rfl⟩), rfl⟩) (Nat.le_of_ble_eq_true rfl) (Nat.le_of_ble_eq_true rfl) dX12_qWordHere_91
            · have c_48 : ¬ (b_41 = 0) := fun h => c_48 ((neq b_41 0 (by omega) (by omega)).mpr h)
              refine lv_iconst (v := 5) hx hb dX12_qWordHere_76 (by decide) ?_
              have hP := hP.sub (ws' := [(mm, .inr (12, mo g (nI ta) (nI pa2_42) (nI pe) pd (nI pb) pp pf pg pn rt rn (nI cd) sn (nI il) tk am at_ aa 0 0 (-1) wt wy 0 (nI rm) (nI ud) (nI nu) sd (nI qn) (nI qw) qo (nI qb) (nI qp) qa (nI qi) (nI oc))), (g 0, .inl (cI, 1600, .inl (fun j => nI (tb j)))), (g 70, .inl (cC, 4, .inl ch70)), (g 71, .inl (cC, 5, .inl ch71)), (g 72, .inl (cC, 3, .inl ch72)), (g 73, .inl (cC, 3, .inl ch73)), (g 74, .inl (cC, 4, .inl ch74)), (g 75, .inl (cC, 4, .inl ch75)), (g 76, .inl (cC, 5, .inl ch76)), (g 77, .inl (cC, 6, .inl ch77)), (g 78, .inl (cC, 4, .inl ch78)), (g 58, .inl (cC, 5, .inl ch58)), (g 79, .inl (cC, 5, .inl ch79))]) [10, 11, 5, 6, 7, 8, 9, 12, 0, 1, 2, 3, 4] rfl
              have hD := hD.sub (ws' := [(mm, .inr (12, mo g (nI ta) (nI pa2_42) (nI pe) pd (nI pb) pp pf pg pn rt rn (nI cd) sn (nI il) tk am at_ aa 0 0 (-1) wt wy 0 (nI rm) (nI ud) (nI nu) sd (nI qn) (nI qw) qo (nI qb) (nI qp) qa (nI qi) (nI oc))), (g 0, .inl (cI, 1600, .inl (fun j => nI (tb j)))), (g 70, .inl (cC, 4, .inl ch70)), (g 71, .inl (cC, 5, .inl ch71)), (g 72, .inl (cC, 3, .inl ch72)), (g 73, .inl (cC, 3, .inl ch73)), (g 74, .inl (cC, 4, .inl ch74)), (g 75, .inl (cC, 4, .inl ch75)), (g 76, .inl (cC, 5, .inl ch76)), (g 77, .inl (cC, 6, .inl ch77)), (g 78, .inl (cC, 4, .inl ch78)), (g 58, .inl (cC, 5, .inl ch58)), (g 79, .inl (cC, 5, .inl ch79))]) [10, 11, 5, 6, 7, 8, 9, 12, 0, 1, 2, 3, 4] (by decide) rfl
              exact sk_iret hx hb hr rfl hlocks hK hP hD hS (⟨pa2_42, by omega, by omega, (stay_tr (stay_tr (stay_tr (stay_tr (stay_tr hst_6 hst_14) hst_22) hst_30) hst_38) hst_46), (Or.inr ⟨5, by omega, rfl⟩), rfl⟩) (Nat.le_of_ble_eq_true rfl) (Nat.le_of_ble_eq_true rfl) dX12_qWordHere_77
          · have c_40 : ¬ (b_33 = 0) := fun h => c_40 ((neq b_33 0 (by omega) (by omega)).mpr h)
            refine lv_iconst (v := 4) hx hb dX12_qWordHere_63 (by decide) ?_
            have hP := hP.sub (ws' := [(mm, .inr (12, mo g (nI ta) (nI pa2_34) (nI pe) pd (nI pb) pp pf pg pn rt rn (nI cd) sn (nI il) tk am at_ aa 0 0 (-1) wt wy 0 (nI rm) (nI ud) (nI nu) sd (nI qn) (nI qw) qo (nI qb) (nI qp) qa (nI qi) (nI oc))), (g 0, .inl (cI, 1600, .inl (fun j => nI (tb j)))), (g 70, .inl (cC, 4, .inl ch70)), (g 71, .inl (cC, 5, .inl ch71)), (g 72, .inl (cC, 3, .inl ch72)), (g 73, .inl (cC, 3, .inl ch73)), (g 74, .inl (cC, 4, .inl ch74)), (g 75, .inl (cC, 4, .inl ch75)), (g 76, .inl (cC, 5, .inl ch76)), (g 77, .inl (cC, 6, .inl ch77)), (g 78, .inl (cC, 4, .inl ch78)), (g 58, .inl (cC, 5, .inl ch58)), (g 79, .inl (cC, 5, .inl ch79))]) [10, 11, 6, 7, 8, 9, 12, 0, 1, 2, 3, 4, 5] rfl
            have hD := hD.sub (ws' := [(mm, .inr (12, mo g (nI ta) (nI pa2_34) (nI pe) pd (nI pb) pp pf pg pn rt rn (nI cd) sn (nI il) tk am at_ aa 0 0 (-1) wt wy 0 (nI rm) (nI ud) (nI nu) sd (nI qn) (nI qw) qo (nI qb) (nI qp) qa (nI qi) (nI oc))), (g 0, .inl (cI, 1600, .inl (fun j => nI (tb j)))), (g 70, .inl (cC, 4, .inl ch70)), (g 71, .inl (cC, 5, .inl ch71)), (g 72, .inl (cC, 3, .inl ch72)), (g 73, .inl (cC, 3, .inl ch73)), (g 74, .inl (cC, 4, .inl ch74)), (g 75, .inl (cC, 4, .inl ch75)), (g 76, .inl (cC, 5, .inl ch76)), (g 77, .inl (cC, 6, .inl ch77)), (g 78, .inl (cC, 4, .inl ch78)), (g 58, .inl (cC, 5, .inl ch58)), (g 79, .inl (cC, 5, .inl ch79))]) [10, 11, 6, 7, 8, 9, 12, 0, 1, 2, 3, 4, 5] (by decide) rfl
            exact sk_iret hx hb hr rfl hlocks hK hP hD hS (⟨pa2_34, by omega, by omega, (stay_tr (stay_tr (stay_tr (stay_tr hst_6 hst_14) hst_22) hst_30) hst_38), (Or.inr ⟨4, by omega, rfl⟩), rfl⟩) (Nat.le_of_ble_eq_true rfl) (Nat.le_of_ble_eq_true rfl) dX12_qWordHere_64
        · have c_32 : ¬ (b_25 = 0) := fun h => c_32 ((neq b_25 0 (by omega) (by omega)).mpr h)
          refine lv_iconst (v := 3) hx hb dX12_qWordHere_50 (by decide) ?_
          have hP := hP.sub (ws' := [(mm, .inr (12, mo g (nI ta) (nI pa2_26) (nI pe) pd (nI pb) pp pf pg pn rt rn (nI cd) sn (nI il) tk am at_ aa 0 0 (-1) wt wy 0 (nI rm) (nI ud) (nI nu) sd (nI qn) (nI qw) qo (nI qb) (nI qp) qa (nI qi) (nI oc))), (g 0, .inl (cI, 1600, .inl (fun j => nI (tb j)))), (g 70, .inl (cC, 4, .inl ch70)), (g 71, .inl (cC, 5, .inl ch71)), (g 72, .inl (cC, 3, .inl ch72)), (g 73, .inl (cC, 3, .inl ch73)), (g 74, .inl (cC, 4, .inl ch74)), (g 75, .inl (cC, 4, .inl ch75)), (g 76, .inl (cC, 5, .inl ch76)), (g 77, .inl (cC, 6, .inl ch77)), (g 78, .inl (cC, 4, .inl ch78)), (g 58, .inl (cC, 5, .inl ch58)), (g 79, .inl (cC, 5, .inl ch79))]) [10, 11, 7, 8, 9, 12, 0, 1, 2, 3, 4, 5, 6] rfl
          have hD := hD.sub (ws' := [(mm, .inr (12, mo g (nI ta) (nI pa2_26) (nI pe) pd (nI pb) pp pf pg pn rt rn (nI cd) sn (nI il) tk am at_ aa 0 0 (-1) wt wy 0 (nI rm) (nI ud) (nI nu) sd (nI qn) (nI qw) qo (nI qb) (nI qp) qa (nI qi) (nI oc))), (g 0, .inl (cI, 1600, .inl (fun j => nI (tb j)))), (g 70, .inl (cC, 4, .inl ch70)), (g 71, .inl (cC, 5, .inl ch71)), (g 72, .inl (cC, 3, .inl ch72)), (g 73, .inl (cC, 3, .inl ch73)), (g 74, .inl (cC, 4, .inl ch74)), (g 75, .inl (cC, 4, .inl ch75)), (g 76, .inl (cC, 5, .inl ch76)), (g 77, .inl (cC, 6, .inl ch77)), (g 78, .inl (cC, 4, .inl ch78)), (g 58, .inl (cC, 5, .inl ch58)), (g 79, .inl (cC, 5, .inl ch79))]) [10, 11, 7, 8, 9, 12, 0, 1, 2, 3, 4, 5, 6] (by decide) rfl
          exact sk_iret hx hb hr rfl hlocks hK hP hD hS (⟨pa2_26, by omega, by omega, (stay_tr (stay_tr (stay_tr hst_6 hst_14) hst_22) hst_30), (Or.inr ⟨3, by omega, rfl⟩), rfl⟩) (Nat.le_of_ble_eq_true rfl) (Nat.le_of_ble_eq_true rfl) dX12_qWordHere_51
      · have c_24 : ¬ (b_17 = 0) := fun h => c_24 ((neq b_17 0 (by omega) (by omega)).mpr h)
        refine lv_iconst (v := 2) hx hb dX12_qWordHere_37 (by decide) ?_
        have hP := hP.sub (ws' := [(mm, .inr (12, mo g (nI ta) (nI pa2_18) (nI pe) pd (nI pb) pp pf pg pn rt rn (nI cd) sn (nI il) tk am at_ aa 0 0 (-1) wt wy 0 (nI rm) (nI ud) (nI nu) sd (nI qn) (nI qw) qo (nI qb) (nI qp) qa (nI qi) (nI oc))), (g 0, .inl (cI, 1600, .inl (fun j => nI (tb j)))), (g 70, .inl (cC, 4, .inl ch70)), (g 71, .inl (cC, 5, .inl ch71)), (g 72, .inl (cC, 3, .inl ch72)), (g 73, .inl (cC, 3, .inl ch73)), (g 74, .inl (cC, 4, .inl ch74)), (g 75, .inl (cC, 4, .inl ch75)), (g 76, .inl (cC, 5, .inl ch76)), (g 77, .inl (cC, 6, .inl ch77)), (g 78, .inl (cC, 4, .inl ch78)), (g 58, .inl (cC, 5, .inl ch58)), (g 79, .inl (cC, 5, .inl ch79))]) [10, 11, 8, 9, 12, 0, 1, 2, 3, 4, 5, 6, 7] rfl
        have hD := hD.sub (ws' := [(mm, .inr (12, mo g (nI ta) (nI pa2_18) (nI pe) pd (nI pb) pp pf pg pn rt rn (nI cd) sn (nI il) tk am at_ aa 0 0 (-1) wt wy 0 (nI rm) (nI ud) (nI nu) sd (nI qn) (nI qw) qo (nI qb) (nI qp) qa (nI qi) (nI oc))), (g 0, .inl (cI, 1600, .inl (fun j => nI (tb j)))), (g 70, .inl (cC, 4, .inl ch70)), (g 71, .inl (cC, 5, .inl ch71)), (g 72, .inl (cC, 3, .inl ch72)), (g 73, .inl (cC, 3, .inl ch73)), (g 74, .inl (cC, 4, .inl ch74)), (g 75, .inl (cC, 4, .inl ch75)), (g 76, .inl (cC, 5, .inl ch76)), (g 77, .inl (cC, 6, .inl ch77)), (g 78, .inl (cC, 4, .inl ch78)), (g 58, .inl (cC, 5, .inl ch58)), (g 79, .inl (cC, 5, .inl ch79))]) [10, 11, 8, 9, 12, 0, 1, 2, 3, 4, 5, 6, 7] (by decide) rfl
        exact sk_iret hx hb hr rfl hlocks hK hP hD hS (⟨pa2_18, by omega, by omega, (stay_tr (stay_tr hst_6 hst_14) hst_22), (Or.inr ⟨2, by omega, rfl⟩), rfl⟩) (Nat.le_of_ble_eq_true rfl) (Nat.le_of_ble_eq_true rfl) dX12_qWordHere_38
    · have c_16 : ¬ (b_9 = 0) := fun h => c_16 ((neq b_9 0 (by omega) (by omega)).mpr h)
      refine lv_iconst (v := 1) hx hb dX12_qWordHere_24 (by decide) ?_
      have hP := hP.sub (ws' := [(mm, .inr (12, mo g (nI ta) (nI pa2_10) (nI pe) pd (nI pb) pp pf pg pn rt rn (nI cd) sn (nI il) tk am at_ aa 0 0 (-1) wt wy 0 (nI rm) (nI ud) (nI nu) sd (nI qn) (nI qw) qo (nI qb) (nI qp) qa (nI qi) (nI oc))), (g 0, .inl (cI, 1600, .inl (fun j => nI (tb j)))), (g 70, .inl (cC, 4, .inl ch70)), (g 71, .inl (cC, 5, .inl ch71)), (g 72, .inl (cC, 3, .inl ch72)), (g 73, .inl (cC, 3, .inl ch73)), (g 74, .inl (cC, 4, .inl ch74)), (g 75, .inl (cC, 4, .inl ch75)), (g 76, .inl (cC, 5, .inl ch76)), (g 77, .inl (cC, 6, .inl ch77)), (g 78, .inl (cC, 4, .inl ch78)), (g 58, .inl (cC, 5, .inl ch58)), (g 79, .inl (cC, 5, .inl ch79))]) [10, 11, 9, 12, 0, 1, 2, 3, 4, 5, 6, 7, 8] rfl
      have hD := hD.sub (ws' := [(mm, .inr (12, mo g (nI ta) (nI pa2_10) (nI pe) pd (nI pb) pp pf pg pn rt rn (nI cd) sn (nI il) tk am at_ aa 0 0 (-1) wt wy 0 (nI rm) (nI ud) (nI nu) sd (nI qn) (nI qw) qo (nI qb) (nI qp) qa (nI qi) (nI oc))), (g 0, .inl (cI, 1600, .inl (fun j => nI (tb j)))), (g 70, .inl (cC, 4, .inl ch70)), (g 71, .inl (cC, 5, .inl ch71)), (g 72, .inl (cC, 3, .inl ch72)), (g 73, .inl (cC, 3, .inl ch73)), (g 74, .inl (cC, 4, .inl ch74)), (g 75, .inl (cC, 4, .inl ch75)), (g 76, .inl (cC, 5, .inl ch76)), (g 77, .inl (cC, 6, .inl ch77)), (g 78, .inl (cC, 4, .inl ch78)), (g 58, .inl (cC, 5, .inl ch58)), (g 79, .inl (cC, 5, .inl ch79))]) [10, 11, 9, 12, 0, 1, 2, 3, 4, 5, 6, 7, 8] (by decide) rfl
      exact sk_iret hx hb hr rfl hlocks hK hP hD hS (⟨pa2_10, by omega, by omega, (stay_tr hst_6 hst_14), (Or.inr ⟨1, by omega, rfl⟩), rfl⟩) (Nat.le_of_ble_eq_true rfl) (Nat.le_of_ble_eq_true rfl) dX12_qWordHere_25
  · have c_8 : ¬ (b_1 = 0) := fun h => c_8 ((neq b_1 0 (by omega) (by omega)).mpr h)
    refine lv_iconst (v := 0) hx hb dX12_qWordHere_11 (by decide) ?_
    have hP := hP.sub (ws' := [(mm, .inr (12, mo g (nI ta) (nI pa2_2) (nI pe) pd (nI pb) pp pf pg pn rt rn (nI cd) sn (nI il) tk am at_ aa 0 0 (-1) wt wy 0 (nI rm) (nI ud) (nI nu) sd (nI qn) (nI qw) qo (nI qb) (nI qp) qa (nI qi) (nI oc))), (g 0, .inl (cI, 1600, .inl (fun j => nI (tb j)))), (g 70, .inl (cC, 4, .inl ch70)), (g 71, .inl (cC, 5, .inl ch71)), (g 72, .inl (cC, 3, .inl ch72)), (g 73, .inl (cC, 3, .inl ch73)), (g 74, .inl (cC, 4, .inl ch74)), (g 75, .inl (cC, 4, .inl ch75)), (g 76, .inl (cC, 5, .inl ch76)), (g 77, .inl (cC, 6, .inl ch77)), (g 78, .inl (cC, 4, .inl ch78)), (g 58, .inl (cC, 5, .inl ch58)), (g 79, .inl (cC, 5, .inl ch79))]) [10, 11, 12, 0, 1, 2, 3, 4, 5, 6, 7, 8, 9] rfl
    have hD := hD.sub (ws' := [(mm, .inr (12, mo g (nI ta) (nI pa2_2) (nI pe) pd (nI pb) pp pf pg pn rt rn (nI cd) sn (nI il) tk am at_ aa 0 0 (-1) wt wy 0 (nI rm) (nI ud) (nI nu) sd (nI qn) (nI qw) qo (nI qb) (nI qp) qa (nI qi) (nI oc))), (g 0, .inl (cI, 1600, .inl (fun j => nI (tb j)))), (g 70, .inl (cC, 4, .inl ch70)), (g 71, .inl (cC, 5, .inl ch71)), (g 72, .inl (cC, 3, .inl ch72)), (g 73, .inl (cC, 3, .inl ch73)), (g 74, .inl (cC, 4, .inl ch74)), (g 75, .inl (cC, 4, .inl ch75)), (g 76, .inl (cC, 5, .inl ch76)), (g 77, .inl (cC, 6, .inl ch77)), (g 78, .inl (cC, 4, .inl ch78)), (g 58, .inl (cC, 5, .inl ch58)), (g 79, .inl (cC, 5, .inl ch79))]) [10, 11, 12, 0, 1, 2, 3, 4, 5, 6, 7, 8, 9] (by decide) rfl
    exact sk_iret hx hb hr rfl hlocks hK hP hD hS (⟨pa2_2, by omega, by omega, hst_6, (Or.inr ⟨0, by omega, rfl⟩), rfl⟩) (Nat.le_of_ble_eq_true rfl) (Nat.le_of_ble_eq_true rfl) dX12_qWordHere_12
theorem dX12_qWordOf_0 : decode cX12_qWordOf 0 = .ok (.aload_n 0, 1) := by decide +kernel
theorem dX12_qWordOf_1 : decode cX12_qWordOf 1 = .ok (.invokevirtual 507, 3) := by decide +kernel
theorem dX12_qWordOf_4 : decode cX12_qWordOf 4 = .ok (.istore_n 3, 1) := by decide +kernel
theorem dX12_qWordOf_5 : decode cX12_qWordOf 5 = .ok (.iload_n 3, 1) := by decide +kernel
theorem dX12_qWordOf_6 : decode cX12_qWordOf 6 = .ok (.iload_n 1, 1) := by decide +kernel
theorem dX12_qWordOf_7 : decode cX12_qWordOf 7 = .ok (.if_icmp .lt 20, 3) := by decide +kernel
theorem dX12_qWordOf_27 : decode cX12_qWordOf 27 = .ok (.iconst (-1), 1) := by decide +kernel
theorem dX12_qWordOf_28 : decode cX12_qWordOf 28 = .ok (.ireturn, 1) := by decide +kernel
theorem dX12_qWordOf_10 : decode cX12_qWordOf 10 = .ok (.iload_n 3, 1) := by decide +kernel
theorem dX12_qWordOf_11 : decode cX12_qWordOf 11 = .ok (.iload_n 2, 1) := by decide +kernel
theorem dX12_qWordOf_12 : decode cX12_qWordOf 12 = .ok (.if_icmp .ge 15, 3) := by decide +kernel
theorem dX12_qWordOf_15 : decode cX12_qWordOf 15 = .ok (.aload_n 0, 1) := by decide +kernel
theorem dX12_qWordOf_16 : decode cX12_qWordOf 16 = .ok (.iload_n 3, 1) := by decide +kernel
theorem dX12_qWordOf_17 : decode cX12_qWordOf 17 = .ok (.invokevirtual 510, 3) := by decide +kernel
theorem dX12_qWordOf_20 : decode cX12_qWordOf 20 = .ok (.ifCond .eq 7, 3) := by decide +kernel
theorem dX12_qWordOf_23 : decode cX12_qWordOf 23 = .ok (.iload_n 3, 1) := by decide +kernel
theorem dX12_qWordOf_24 : decode cX12_qWordOf 24 = .ok (.goto 4, 3) := by decide +kernel
theorem w_7_39 : (Cond.methodLink RX12 507 yX12_qWordHere) ∈ wsL_law := sk_mem (ck_7 _ (List.mem_of_getElem? (i := 39) rfl)) rfl
theorem w_7_41 : (Cond.instanceMethod yX12_qWordHere) ∈ wsL_law := sk_mem (ck_7 _ (List.mem_of_getElem? (i := 41) rfl)) rfl
theorem w_0_57 : (Cond.selects RX12 yX12_qWordHere yX12_qWordHere) ∈ wsL_law := sk_mem (ck_0 _ (List.mem_of_getElem? (i := 57) rfl)) rfl
theorem w_7_43 : (Cond.methodLink RX12 510 yX12_isAllowed) ∈ wsL_law := sk_mem (ck_7 _ (List.mem_of_getElem? (i := 43) rfl)) rfl
theorem w_7_45 : (Cond.instanceMethod yX12_isAllowed) ∈ wsL_law := sk_mem (ck_7 _ (List.mem_of_getElem? (i := 45) rfl)) rfl
theorem w_0_58 : (Cond.selects RX12 yX12_isAllowed yX12_isAllowed) ∈ wsL_law := sk_mem (ck_0 _ (List.mem_of_getElem? (i := 58) rfl)) rfl
theorem w_7_38 : (Cond.code yX12_qWordOf cX12_qWordOf 4 (some .int)) ∈ wsL_law := sk_mem (ck_7 _ (List.mem_of_getElem? (i := 38) rfl)) rfl
set_option maxHeartbeats 4000000 in
set_option maxRecDepth 100000 in
theorem c_m_qWordOf (l : Launch) (D : va_G) (cI cJ cC cZ cS : ClassId) (mm : Nat) (g : Nat → Nat) (ta : Nat) (pa : Nat) (pe : Nat) (pd : Int32) (pb : Nat) (pp : Int32) (pf : Int32) (pg : Int32) (pn : Int32) (rt : Int32) (rn : Int32) (cd : Nat) (sn : Int32) (il : Nat) (tk : Int32) (am : Int32) (at_ : Int32) (aa : Int32) (wt : Int32) (wy : Int64) (rm : Nat) (ud : Nat) (nu : Nat) (sd : Int64) (qn : Nat) (qw : Nat) (qo : Int32) (qb : Nat) (qp : Nat) (qa : Int64) (qi : Nat) (oc : Nat) (lo : Nat) (hi : Nat) (tb : Nat → Nat) (ch70 : Nat → Int32) (ch71 : Nat → Int32) (ch72 : Nat → Int32) (ch73 : Nat → Int32) (ch74 : Nat → Int32) (ch75 : Nat → Int32) (ch76 : Nat → Int32) (ch77 : Nat → Int32) (ch78 : Nat → Int32) (ch58 : Nat → Int32) (ch79 : Nat → Int32) (hpa : pa ≤ pe) (hpe : pe ≤ 1600) (hpb : pb ≤ 5) (hlo : lo ≤ 20) (hhi : hi ≤ 20) (htb : ∀ j, tb j ≤ 255) : skM l yX12_qWordOf cX12_qWordOf 4 (some .int) 3 63 0 0 D (skT cI cJ cC cZ cS) [.ref mm, .int (nI lo), .int (nI hi)] [(mm, .inr (12, mo g (nI ta) (nI pa) (nI pe) pd (nI pb) pp pf pg pn rt rn (nI cd) sn (nI il) tk am at_ aa 0 0 (-1) wt wy 0 (nI rm) (nI ud) (nI nu) sd (nI qn) (nI qw) qo (nI qb) (nI qp) qa (nI qi) (nI oc))), (g 0, .inl (cI, 1600, .inl (fun j => nI (tb j)))), (g 70, .inl (cC, 4, .inl ch70)), (g 71, .inl (cC, 5, .inl ch71)), (g 72, .inl (cC, 3, .inl ch72)), (g 73, .inl (cC, 3, .inl ch73)), (g 74, .inl (cC, 4, .inl ch74)), (g 75, .inl (cC, 4, .inl ch75)), (g 76, .inl (cC, 5, .inl ch76)), (g 77, .inl (cC, 6, .inl ch77)), (g 78, .inl (cC, 4, .inl ch78)), (g 58, .inl (cC, 5, .inl ch58)), (g 79, .inl (cC, 5, .inl ch79))] (skI D (skT cI cJ cC cZ cS) (fun (r : Int32) (u : va_W) => ∃ (pa2 : Nat), pa ≤ pa2 ∧ pa2 ≤ pe ∧ stay tb pe pa pa2 ∧ (r = -1 ∨ ∃ kq : Nat, lo ≤ kq ∧ kq < hi ∧ r = nI kq) ∧ u = [(mm, .inr (12, mo g (nI ta) (nI pa2) (nI pe) pd (nI pb) pp pf pg pn rt rn (nI cd) sn (nI il) tk am at_ aa 0 0 (-1) wt wy 0 (nI rm) (nI ud) (nI nu) sd (nI qn) (nI qw) qo (nI qb) (nI qp) qa (nI qi) (nI oc))), (g 0, .inl (cI, 1600, .inl (fun j => nI (tb j)))), (g 70, .inl (cC, 4, .inl ch70)), (g 71, .inl (cC, 5, .inl ch71)), (g 72, .inl (cC, 3, .inl ch72)), (g 73, .inl (cC, 3, .inl ch73)), (g 74, .inl (cC, 4, .inl ch74)), (g 75, .inl (cC, 4, .inl ch75)), (g 76, .inl (cC, 5, .inl ch76)), (g 77, .inl (cC, 6, .inl ch77)), (g 78, .inl (cC, 4, .inl ch78)), (g 58, .inl (cC, 5, .inl ch58)), (g 79, .inl (cC, 5, .inl ch79))])) := by
  refine skM_of (by decide +kernel) (Nat.le_of_ble_eq_true rfl) ?_
  intro p e s m below meth c A ls E hP hD hl
  obtain ⟨hx, hb, hr, hml, hlocks, hin, hown, hts, hK, hA⟩ := E
  have hown : s.vm.findClass RX12 = some m.cls := hown
  have hS : va_S A s.heap s.heap [] := va_S.rf
  have hl : lv_has ls 4 [(0, .ref mm), (1, .int (nI lo)), (2, .int (nI hi))] := hl
  refine lv_aload_n hx hb dX12_qWordOf_0 rfl (lv_at hl 0 rfl) ?_
  refine sk_Vi (q0 := 0) (n := 0) (rest := []) (wr := []) ⟨hx, hb, hml, hown, hts⟩ hl.1 (c_m_qWordHere l D cI cJ cC cZ cS mm g ta pa pe pd pb pp pf pg pn rt rn cd sn il tk am at_ aa wt wy rm ud nu sd qn qw qo qb qp qa qi oc tb ch70 ch71 ch72 ch73 ch74 ch75 ch76 ch77 ch78 ch58 ch79 (by omega) (by omega) (by omega) htb) w_7_39 w_7_41 w_0_57 w_1_14 w_7_42 (by decide +kernel) ⟨⟨(Nat.le_of_ble_eq_true rfl), (Nat.le_of_ble_eq_true rfl)⟩, (Nat.le_of_ble_eq_true rfl), (Nat.le_of_ble_eq_true rfl)⟩ hK hP hD hS hA [0, 1, 2, 3, 4, 5, 6, 7, 8, 9, 10, 11, 12] [] rfl rfl (by decide) (by decide) (by decide) rfl rfl rfl rfl (Nat.le_of_ble_eq_true rfl) dX12_qWordOf_1 (fun r_2 u H locs hw hP hD hS => ?_)
  obtain ⟨pa2_1, hpa2_3, hpa3_4, hst_5, hr1_6, rfl⟩ := hw
  have hP : va_P D vwCl [(mm, .inr (12, mo g (nI ta) (nI pa2_1) (nI pe) pd (nI pb) pp pf pg pn rt rn (nI cd) sn (nI il) tk am at_ aa 0 0 (-1) wt wy 0 (nI rm) (nI ud) (nI nu) sd (nI qn) (nI qw) qo (nI qb) (nI qp) qa (nI qi) (nI oc))), (g 0, .inl (cI, 1600, .inl (fun j => nI (tb j)))), (g 70, .inl (cC, 4, .inl ch70)), (g 71, .inl (cC, 5, .inl ch71)), (g 72, .inl (cC, 3, .inl ch72)), (g 73, .inl (cC, 3, .inl ch73)), (g 74, .inl (cC, 4, .inl ch74)), (g 75, .inl (cC, 4, .inl ch75)), (g 76, .inl (cC, 5, .inl ch76)), (g 77, .inl (cC, 6, .inl ch77)), (g 78, .inl (cC, 4, .inl ch78)), (g 58, .inl (cC, 5, .inl ch58)), (g 79, .inl (cC, 5, .inl ch79))] H := hP
  have hD : va_D A [(mm, .inr (12, mo g (nI ta) (nI pa2_1) (nI pe) pd (nI pb) pp pf pg pn rt rn (nI cd) sn (nI il) tk am at_ aa 0 0 (-1) wt wy 0 (nI rm) (nI ud) (nI nu) sd (nI qn) (nI qw) qo (nI qb) (nI qp) qa (nI qi) (nI oc))), (g 0, .inl (cI, 1600, .inl (fun j => nI (tb j)))), (g 70, .inl (cC, 4, .inl ch70)), (g 71, .inl (cC, 5, .inl ch71)), (g 72, .inl (cC, 3, .inl ch72)), (g 73, .inl (cC, 3, .inl ch73)), (g 74, .inl (cC, 4, .inl ch74)), (g 75, .inl (cC, 4, .inl ch75)), (g 76, .inl (cC, 5, .inl ch76)), (g 77, .inl (cC, 6, .inl ch77)), (g 78, .inl (cC, 4, .inl ch78)), (g 58, .inl (cC, 5, .inl ch58)), (g 79, .inl (cC, 5, .inl ch79))] := hD
  refine lv_istore_n (lv' := [(3, .int r_2), (0, .ref mm), (1, .int (nI lo)), (2, .int (nI hi))]) hx hb dX12_qWordOf_4 rfl hl (by decide) rfl (fun ls hl => ?_)
  refine lv_iload_n hx hb dX12_qWordOf_5 rfl (lv_at hl 0 rfl) ?_
  refine lv_iload_n hx hb dX12_qWordOf_6 rfl (lv_at hl 2 rfl) ?_
  refine lv_icmp_lt (tgt := 27) hx hb dX12_qWordOf_7 (by decide) (fun c_7 => ?_) (fun c_7 => ?_)
  · skip
    refine lv_iconst (v := (-1)) hx hb dX12_qWordOf_27 (by decide) ?_
    exact sk_iret hx hb hr rfl hlocks hK hP hD hS (⟨pa2_1, by omega, by omega, hst_5, (Or.inl rfl), rfl⟩) (Nat.le_of_ble_eq_true rfl) (Nat.le_of_ble_eq_true rfl) dX12_qWordOf_28
  · obtain ⟨k_8, hk_8, h1k_8, rfl⟩ := nofge r_2 lo (by omega) c_7
    refine lv_iload_n hx hb dX12_qWordOf_10 rfl (lv_at hl 0 rfl) ?_
    refine lv_iload_n hx hb dX12_qWordOf_11 rfl (lv_at hl 3 rfl) ?_
    refine lv_icmp_ge (tgt := 27) hx hb dX12_qWordOf_12 (by decide) (fun c_9 => ?_) (fun c_9 => ?_)
    · have c_9 : hi ≤ k_8 := (nle hi k_8 (by omega) (by omega)).mp c_9
      refine lv_iconst (v := (-1)) hx hb dX12_qWordOf_27 (by decide) ?_
      exact sk_iret hx hb hr rfl hlocks hK hP hD hS (⟨pa2_1, by omega, by omega, hst_5, (Or.inl rfl), rfl⟩) (Nat.le_of_ble_eq_true rfl) (Nat.le_of_ble_eq_true rfl) dX12_qWordOf_28
    · have c_9 : ¬ (hi ≤ k_8) := fun h => c_9 ((nle hi k_8 (by omega) (by omega)).mpr h)
      refine lv_aload_n hx hb dX12_qWordOf_15 rfl (lv_at hl 1 rfl) ?_
      refine lv_iload_n hx hb dX12_qWordOf_16 rfl (lv_at hl 0 rfl) ?_
      refine sk_Vi (q0 := 0) (n := 1) (rest := []) (wr := [(g 0, .inl (cI, 1600, .inl (fun j => nI (tb j)))), (g 70, .inl (cC, 4, .inl ch70)), (g 71, .inl (cC, 5, .inl ch71)), (g 72, .inl (cC, 3, .inl ch72)), (g 73, .inl (cC, 3, .inl ch73)), (g 74, .inl (cC, 4, .inl ch74)), (g 75, .inl (cC, 4, .inl ch75)), (g 76, .inl (cC, 5, .inl ch76)), (g 77, .inl (cC, 6, .inl ch77)), (g 78, .inl (cC, 4, .inl ch78)), (g 58, .inl (cC, 5, .inl ch58)), (g 79, .inl (cC, 5, .inl ch79))]) ⟨hx, hb, hml, hown, hts⟩ hl.1 (c_m_isAllowed l D cI cJ cC cZ cS mm g ta pa2_1 pe pd pb pp pf pg pn rt rn cd sn il tk am at_ aa wt wy rm ud nu sd qn qw qo qb qp qa qi oc (nI k_8)) w_7_43 w_7_45 w_0_58 w_1_14 w_7_46 (by decide +kernel) ⟨⟨(Nat.le_of_ble_eq_true rfl), (Nat.le_of_ble_eq_true rfl)⟩, (Nat.le_of_ble_eq_true rfl), (Nat.le_of_ble_eq_true rfl)⟩ hK hP hD hS hA [0] [1, 2, 3, 4, 5, 6, 7, 8, 9, 10, 11, 12] rfl rfl (by decide) (by decide) (by decide) rfl rfl rfl rfl (Nat.le_of_ble_eq_true rfl) dX12_qWordOf_17 (fun r_11 u H locs hw hP hD hS => ?_)
      obtain ⟨b_10, hb1_12, rfl, rfl⟩ := hw
      have hP : va_P D vwCl [(g 0, .inl (cI, 1600, .inl (fun j => nI (tb j)))), (g 70, .inl (cC, 4, .inl ch70)), (g 71, .inl (cC, 5, .inl ch71)), (g 72, .inl (cC, 3, .inl ch72)), (g 73, .inl (cC, 3, .inl ch73)), (g 74, .inl (cC, 4, .inl ch74)), (g 75, .inl (cC, 4, .inl ch75)), (g 76, .inl (cC, 5, .inl ch76)), (g 77, .inl (cC, 6, .inl ch77)), (g 78, .inl (cC, 4, .inl ch78)), (g 58, .inl (cC, 5, .inl ch58)), (g 79, .inl (cC, 5, .inl ch79)), (mm, .inr (12, mo g (nI ta) (nI pa2_1) (nI pe) pd (nI pb) pp pf pg pn rt rn (nI cd) sn (nI il) tk am at_ aa 0 0 (-1) wt wy 0 (nI rm) (nI ud) (nI nu) sd (nI qn) (nI qw) qo (nI qb) (nI qp) qa (nI qi) (nI oc)))] H := hP
      have hD : va_D A [(g 0, .inl (cI, 1600, .inl (fun j => nI (tb j)))), (g 70, .inl (cC, 4, .inl ch70)), (g 71, .inl (cC, 5, .inl ch71)), (g 72, .inl (cC, 3, .inl ch72)), (g 73, .inl (cC, 3, .inl ch73)), (g 74, .inl (cC, 4, .inl ch74)), (g 75, .inl (cC, 4, .inl ch75)), (g 76, .inl (cC, 5, .inl ch76)), (g 77, .inl (cC, 6, .inl ch77)), (g 78, .inl (cC, 4, .inl ch78)), (g 58, .inl (cC, 5, .inl ch58)), (g 79, .inl (cC, 5, .inl ch79)), (mm, .inr (12, mo g (nI ta) (nI pa2_1) (nI pe) pd (nI pb) pp pf pg pn rt rn (nI cd) sn (nI il) tk am at_ aa 0 0 (-1) wt wy 0 (nI rm) (nI ud) (nI nu) sd (nI qn) (nI qw) qo (nI qb) (nI qp) qa (nI qi) (nI oc)))] := hD
      refine lv_if_eq (tgt := 27) hx hb dX12_qWordOf_20 (by decide) (fun c_13 => ?_) (fun c_13 => ?_)
      · have c_13 : b_10 = 0 := (neq b_10 0 (by omega) (by omega)).mp c_13
        refine lv_iconst (v := (-1)) hx hb dX12_qWordOf_27 (by decide) ?_
        have hP := hP.sub (ws' := [(mm, .inr (12, mo g (nI ta) (nI pa2_1) (nI pe) pd (nI pb) pp pf pg pn rt rn (nI cd) sn (nI il) tk am at_ aa 0 0 (-1) wt wy 0 (nI rm) (nI ud) (nI nu) sd (nI qn) (nI qw) qo (nI qb) (nI qp) qa (nI qi) (nI oc))), (g 0, .inl (cI, 1600, .inl (fun j => nI (tb j)))), (g 70, .inl (cC, 4, .inl ch70)), (g 71, .inl (cC, 5, .inl ch71)), (g 72, .inl (cC, 3, .inl ch72)), (g 73, .inl (cC, 3, .inl ch73)), (g 74, .inl (cC, 4, .inl ch74)), (g 75, .inl (cC, 4, .inl ch75)), (g 76, .inl (cC, 5, .inl ch76)), (g 77, .inl (cC, 6, .inl ch77)), (g 78, .inl (cC, 4, .inl ch78)), (g 58, .inl (cC, 5, .inl ch58)), (g 79, .inl (cC, 5, .inl ch79))]) [12, 0, 1, 2, 3, 4, 5, 6, 7, 8, 9, 10, 11] rfl
        have hD := hD.sub (ws' := [(mm, .inr (12, mo g (nI ta) (nI pa2_1) (nI pe) pd (nI pb) pp pf pg pn rt rn (nI cd) sn (nI il) tk am at_ aa 0 0 (-1) wt wy 0 (nI rm) (nI ud) (nI nu) sd (nI qn) (nI qw) qo (nI qb) (nI qp) qa (nI qi) (nI oc))), (g 0, .inl (cI, 1600, .inl (fun j => nI (tb j)))), (g 70, .inl (cC, 4, .inl ch70)), (g 71, .inl (cC, 5, .inl ch71)), (g 72, .inl (cC, 3, .inl ch72)), (g 73, .inl (cC, 3, .inl ch73)), (g 74, .inl (cC, 4, .inl ch74)), (g 75, .inl (cC, 4, .inl ch75)), (g 76, .inl (cC, 5, .inl ch76)), (g 77, .inl (cC, 6, .inl ch77)), (g 78, .inl (cC, 4, .inl ch78)), (g 58, .inl (cC, 5, .inl ch58)), (g 79, .inl (cC, 5, .inl ch79))]) [12, 0, 1, 2, 3, 4, 5, 6, 7, 8, 9, 10, 11] (by decide) rfl
        exact sk_iret hx hb hr rfl hlocks hK hP hD hS (⟨pa2_1, by omega, by omega, hst_5, (Or.inl rfl), rfl⟩) (Nat.le_of_ble_eq_true rfl) (Nat.le_of_ble_eq_true rfl) dX12_qWordOf_28
      · have c_13 : ¬ (b_10 = 0) := fun h => c_13 ((neq b_10 0 (by omega) (by omega)).mpr h)
        refine lv_iload_n hx hb dX12_qWordOf_23 rfl (lv_at hl 0 rfl) ?_
        refine lv_goto (tgt := 28) hx hb dX12_qWordOf_24 (by decide) ?_
        have hP := hP.sub (ws' := [(mm, .inr (12, mo g (nI ta) (nI pa2_1) (nI pe) pd (nI pb) pp pf pg pn rt rn (nI cd) sn (nI il) tk am at_ aa 0 0 (-1) wt wy 0 (nI rm) (nI ud) (nI nu) sd (nI qn) (nI qw) qo (nI qb) (nI qp) qa (nI qi) (nI oc))), (g 0, .inl (cI, 1600, .inl (fun j => nI (tb j)))), (g 70, .inl (cC, 4, .inl ch70)), (g 71, .inl (cC, 5, .inl ch71)), (g 72, .inl (cC, 3, .inl ch72)), (g 73, .inl (cC, 3, .inl ch73)), (g 74, .inl (cC, 4, .inl ch74)), (g 75, .inl (cC, 4, .inl ch75)), (g 76, .inl (cC, 5, .inl ch76)), (g 77, .inl (cC, 6, .inl ch77)), (g 78, .inl (cC, 4, .inl ch78)), (g 58, .inl (cC, 5, .inl ch58)), (g 79, .inl (cC, 5, .inl ch79))]) [12, 0, 1, 2, 3, 4, 5, 6, 7, 8, 9, 10, 11] rfl
        have hD := hD.sub (ws' := [(mm, .inr (12, mo g (nI ta) (nI pa2_1) (nI pe) pd (nI pb) pp pf pg pn rt rn (nI cd) sn (nI il) tk am at_ aa 0 0 (-1) wt wy 0 (nI rm) (nI ud) (nI nu) sd (nI qn) (nI qw) qo (nI qb) (nI qp) qa (nI qi) (nI oc))), (g 0, .inl (cI, 1600, .inl (fun j => nI (tb j)))), (g 70, .inl (cC, 4, .inl ch70)), (g 71, .inl (cC, 5, .inl ch71)), (g 72, .inl (cC, 3, .inl ch72)), (g 73, .inl (cC, 3, .inl ch73)), (g 74, .inl (cC, 4, .inl ch74)), (g 75, .inl (cC, 4, .inl ch75)), (g 76, .inl (cC, 5, .inl ch76)), (g 77, .inl (cC, 6, .inl ch77)), (g 78, .inl (cC, 4, .inl ch78)), (g 58, .inl (cC, 5, .inl ch58)), (g 79, .inl (cC, 5, .inl ch79))]) [12, 0, 1, 2, 3, 4, 5, 6, 7, 8, 9, 10, 11] (by decide) rfl
        exact sk_iret hx hb hr rfl hlocks hK hP hD hS (⟨pa2_1, by omega, by omega, hst_5, (Or.inr ⟨k_8, by omega, by omega, rfl⟩), rfl⟩) (Nat.le_of_ble_eq_true rfl) (Nat.le_of_ble_eq_true rfl) dX12_qWordOf_28
theorem dX12_qAsksWord_0 : decode cX12_qAsksWord 0 = .ok (.iload_n 1, 1) := by decide +kernel
theorem dX12_qAsksWord_1 : decode cX12_qAsksWord 1 = .ok (.tableswitch 165 0 9 #[55, 66, 77, 88, 99, 110, 121, 132, 143, 154], 55) := by decide +kernel
theorem dX12_qAsksWord_56 : decode cX12_qAsksWord 56 = .ok (.aload_n 0, 1) := by decide +kernel
theorem dX12_qAsksWord_57 : decode cX12_qAsksWord 57 = .ok (.aload_n 0, 1) := by decide +kernel
theorem dX12_qAsksWord_58 : decode cX12_qAsksWord 58 = .ok (.getfield 150, 3) := by decide +kernel
theorem dX12_qAsksWord_61 : decode cX12_qAsksWord 61 = .ok (.invokevirtual 245, 3) := by decide +kernel
theorem dX12_qAsksWord_64 : decode cX12_qAsksWord 64 = .ok (.goto 110, 3) := by decide +kernel
theorem dX12_qAsksWord_174 : decode cX12_qAsksWord 174 = .ok (.return_, 1) := by decide +kernel
theorem dX12_qAsksWord_67 : decode cX12_qAsksWord 67 = .ok (.aload_n 0, 1) := by decide +kernel
theorem dX12_qAsksWord_68 : decode cX12_qAsksWord 68 = .ok (.aload_n 0, 1) := by decide +kernel
theorem dX12_qAsksWord_69 : decode cX12_qAsksWord 69 = .ok (.getfield 153, 3) := by decide +kernel
theorem dX12_qAsksWord_72 : decode cX12_qAsksWord 72 = .ok (.invokevirtual 245, 3) := by decide +kernel
theorem dX12_qAsksWord_75 : decode cX12_qAsksWord 75 = .ok (.goto 99, 3) := by decide +kernel
theorem dX12_qAsksWord_78 : decode cX12_qAsksWord 78 = .ok (.aload_n 0, 1) := by decide +kernel
theorem dX12_qAsksWord_79 : decode cX12_qAsksWord 79 = .ok (.aload_n 0, 1) := by decide +kernel
theorem dX12_qAsksWord_80 : decode cX12_qAsksWord 80 = .ok (.getfield 156, 3) := by decide +kernel
theorem dX12_qAsksWord_83 : decode cX12_qAsksWord 83 = .ok (.invokevirtual 245, 3) := by decide +kernel
theorem dX12_qAsksWord_86 : decode cX12_qAsksWord 86 = .ok (.goto 88, 3) := by decide +kernel
theorem dX12_qAsksWord_89 : decode cX12_qAsksWord 89 = .ok (.aload_n 0, 1) := by decide +kernel
theorem dX12_qAsksWord_90 : decode cX12_qAsksWord 90 = .ok (.aload_n 0, 1) := by decide +kernel
theorem dX12_qAsksWord_91 : decode cX12_qAsksWord 91 = .ok (.getfield 159, 3) := by decide +kernel
theorem dX12_qAsksWord_94 : decode cX12_qAsksWord 94 = .ok (.invokevirtual 245, 3) := by decide +kernel
theorem dX12_qAsksWord_97 : decode cX12_qAsksWord 97 = .ok (.goto 77, 3) := by decide +kernel
theorem dX12_qAsksWord_100 : decode cX12_qAsksWord 100 = .ok (.aload_n 0, 1) := by decide +kernel
theorem dX12_qAsksWord_101 : decode cX12_qAsksWord 101 = .ok (.aload_n 0, 1) := by decide +kernel
theorem dX12_qAsksWord_102 : decode cX12_qAsksWord 102 = .ok (.getfield 162, 3) := by decide +kernel
theorem dX12_qAsksWord_105 : decode cX12_qAsksWord 105 = .ok (.invokevirtual 245, 3) := by decide +kernel
theorem dX12_qAsksWord_108 : decode cX12_qAsksWord 108 = .ok (.goto 66, 3) := by decide +kernel
theorem dX12_qAsksWord_111 : decode cX12_qAsksWord 111 = .ok (.aload_n 0, 1) := by decide +kernel
theorem dX12_qAsksWord_112 : decode cX12_qAsksWord 112 = .ok (.aload_n 0, 1) := by decide +kernel
theorem dX12_qAsksWord_113 : decode cX12_qAsksWord 113 = .ok (.getfield 165, 3) := by decide +kernel
theorem dX12_qAsksWord_116 : decode cX12_qAsksWord 116 = .ok (.invokevirtual 245, 3) := by decide +kernel
theorem dX12_qAsksWord_119 : decode cX12_qAsksWord 119 = .ok (.goto 55, 3) := by decide +kernel
theorem dX12_qAsksWord_122 : decode cX12_qAsksWord 122 = .ok (.aload_n 0, 1) := by decide +kernel
theorem dX12_qAsksWord_123 : decode cX12_qAsksWord 123 = .ok (.aload_n 0, 1) := by decide +kernel
theorem dX12_qAsksWord_124 : decode cX12_qAsksWord 124 = .ok (.getfield 168, 3) := by decide +kernel
theorem dX12_qAsksWord_127 : decode cX12_qAsksWord 127 = .ok (.invokevirtual 245, 3) := by decide +kernel
theorem dX12_qAsksWord_130 : decode cX12_qAsksWord 130 = .ok (.goto 44, 3) := by decide +kernel
theorem dX12_qAsksWord_133 : decode cX12_qAsksWord 133 = .ok (.aload_n 0, 1) := by decide +kernel
theorem dX12_qAsksWord_134 : decode cX12_qAsksWord 134 = .ok (.aload_n 0, 1) := by decide +kernel
theorem dX12_qAsksWord_135 : decode cX12_qAsksWord 135 = .ok (.getfield 171, 3) := by decide +kernel
theorem dX12_qAsksWord_138 : decode cX12_qAsksWord 138 = .ok (.invokevirtual 245, 3) := by decide +kernel
theorem dX12_qAsksWord_141 : decode cX12_qAsksWord 141 = .ok (.goto 33, 3) := by decide +kernel
theorem dX12_qAsksWord_144 : decode cX12_qAsksWord 144 = .ok (.aload_n 0, 1) := by decide +kernel
theorem dX12_qAsksWord_145 : decode cX12_qAsksWord 145 = .ok (.aload_n 0, 1) := by decide +kernel
theorem dX12_qAsksWord_146 : decode cX12_qAsksWord 146 = .ok (.getfield 174, 3) := by decide +kernel
theorem dX12_qAsksWord_149 : decode cX12_qAsksWord 149 = .ok (.invokevirtual 245, 3) := by decide +kernel
theorem dX12_qAsksWord_152 : decode cX12_qAsksWord 152 = .ok (.goto 22, 3) := by decide +kernel
theorem dX12_qAsksWord_155 : decode cX12_qAsksWord 155 = .ok (.aload_n 0, 1) := by decide +kernel
theorem dX12_qAsksWord_156 : decode cX12_qAsksWord 156 = .ok (.aload_n 0, 1) := by decide +kernel
theorem dX12_qAsksWord_157 : decode cX12_qAsksWord 157 = .ok (.getfield 114, 3) := by decide +kernel
theorem dX12_qAsksWord_160 : decode cX12_qAsksWord 160 = .ok (.invokevirtual 245, 3) := by decide +kernel
theorem dX12_qAsksWord_163 : decode cX12_qAsksWord 163 = .ok (.goto 11, 3) := by decide +kernel
theorem dX12_qAsksWord_166 : decode cX12_qAsksWord 166 = .ok (.aload_n 0, 1) := by decide +kernel
theorem dX12_qAsksWord_167 : decode cX12_qAsksWord 167 = .ok (.aload_n 0, 1) := by decide +kernel
theorem dX12_qAsksWord_168 : decode cX12_qAsksWord 168 = .ok (.getfield 177, 3) := by decide +kernel
theorem dX12_qAsksWord_171 : decode cX12_qAsksWord 171 = .ok (.invokevirtual 245, 3) := by decide +kernel
theorem w_6_210 : (Cond.methodLink RX12 245 yX12_asks) ∈ wsL_law := sk_mem (ck_6 _ (List.mem_of_getElem? (i := 210) rfl)) rfl
theorem w_6_212 : (Cond.instanceMethod yX12_asks) ∈ wsL_law := sk_mem (ck_6 _ (List.mem_of_getElem? (i := 212) rfl)) rfl
theorem w_0_42 : (Cond.selects RX12 yX12_asks yX12_asks) ∈ wsL_law := sk_mem (ck_0 _ (List.mem_of_getElem? (i := 42) rfl)) rfl
theorem w_7_54 : (Cond.code yX12_qAsksWord cX12_qAsksWord 2 none) ∈ wsL_law := sk_mem (ck_7 _ (List.mem_of_getElem? (i := 54) rfl)) rfl
set_option maxHeartbeats 4000000 in
set_option maxRecDepth 100000 in
theorem c_m_qAsksWord (l : Launch) (D : va_G) (cI cJ cC cZ cS : ClassId) (mm : Nat) (g : Nat → Nat) (ta : Nat) (pa : Nat) (pe : Nat) (pd : Int32) (pb : Nat) (pp : Int32) (pf : Int32) (pg : Int32) (pn : Int32) (rt : Int32) (rn : Int32) (cd : Nat) (sn : Int32) (il : Nat) (tk : Int32) (am : Int32) (at_ : Int32) (aa : Int32) (wt : Int32) (wy : Int64) (rm : Nat) (ud : Nat) (nu : Nat) (sd : Int64) (qn : Nat) (qw : Nat) (qo : Int32) (qb : Nat) (qp : Nat) (qa : Int64) (qi : Nat) (oc : Nat) (o : Int32) (tb : Nat → Nat) (ch70 : Nat → Int32) (ch71 : Nat → Int32) (ch72 : Nat → Int32) (ch73 : Nat → Int32) (ch74 : Nat → Int32) (ch75 : Nat → Int32) (ch76 : Nat → Int32) (ch77 : Nat → Int32) (ch78 : Nat → Int32) (ch58 : Nat → Int32) (ch79 : Nat → Int32) (hpa : pa ≤ pe) (hpe : pe ≤ 1600) (hpb : pb ≤ 5) (htb : ∀ j, tb j ≤ 255) : skM l yX12_qAsksWord cX12_qAsksWord 2 none 4 85 0 0 D (skT cI cJ cC cZ cS) [.ref mm, .int o] [(mm, .inr (12, mo g (nI ta) (nI pa) (nI pe) pd (nI pb) pp pf pg pn rt rn (nI cd) sn (nI il) tk am at_ aa 0 0 (-1) wt wy 0 (nI rm) (nI ud) (nI nu) sd (nI qn) (nI qw) qo (nI qb) (nI qp) qa (nI qi) (nI oc))), (g 0, .inl (cI, 1600, .inl (fun j => nI (tb j)))), (g 70, .inl (cC, 4, .inl ch70)), (g 71, .inl (cC, 5, .inl ch71)), (g 72, .inl (cC, 3, .inl ch72)), (g 73, .inl (cC, 3, .inl ch73)), (g 74, .inl (cC, 4, .inl ch74)), (g 75, .inl (cC, 4, .inl ch75)), (g 76, .inl (cC, 5, .inl ch76)), (g 77, .inl (cC, 6, .inl ch77)), (g 78, .inl (cC, 4, .inl ch78)), (g 58, .inl (cC, 5, .inl ch58)), (g 79, .inl (cC, 5, .inl ch79))] (skV D (skT cI cJ cC cZ cS) (fun (u : va_W) => ∃ (pa2 : Nat), ∃ (pd2 : Int32), ∃ (pb2 : Nat), ∃ (pp2 : Int32), pa ≤ pa2 ∧ pa2 ≤ pe ∧ pb2 ≤ 5 ∧ (¬ pb2 = 0 ∨ (pb = 0 ∧ pa + 1 ≤ pa2)) ∧ u = [(mm, .inr (12, mo g (nI ta) (nI pa2) (nI pe) pd2 (nI pb2) pp2 pf pg pn rt rn (nI cd) sn (nI il) tk am at_ aa 0 0 (-1) wt wy 0 (nI rm) (nI ud) (nI nu) sd (nI qn) (nI qw) qo (nI qb) (nI qp) qa (nI qi) (nI oc))), (g 0, .inl (cI, 1600, .inl (fun j => nI (tb j)))), (g 70, .inl (cC, 4, .inl ch70)), (g 71, .inl (cC, 5, .inl ch71)), (g 72, .inl (cC, 3, .inl ch72)), (g 73, .inl (cC, 3, .inl ch73)), (g 74, .inl (cC, 4, .inl ch74)), (g 75, .inl (cC, 4, .inl ch75)), (g 76, .inl (cC, 5, .inl ch76)), (g 77, .inl (cC, 6, .inl ch77)), (g 78, .inl (cC, 4, .inl ch78)), (g 58, .inl (cC, 5, .inl ch58)), (g 79, .inl (cC, 5, .inl ch79))])) := by
  refine skM_of (by decide +kernel) (Nat.le_of_ble_eq_true rfl) ?_
  intro p e s m below meth c A ls E hP hD hl
  obtain ⟨hx, hb, hr, hml, hlocks, hin, hown, hts, hK, hA⟩ := E
  have hown : s.vm.findClass RX12 = some m.cls := hown
  have hS : va_S A s.heap s.heap [] := va_S.rf
  have hl : lv_has ls 2 [(0, .ref mm), (1, .int o)] := hl
  refine lv_iload_n hx hb dX12_qAsksWord_0 rfl (lv_at hl 1 rfl) ?_
  by_cases g_1 : o = 0
  · refine lv_tableIn (off := 55) (tgt := 56) hx hb dX12_qAsksWord_1 (by rw [g_1]; decide) (by rw [g_1]; decide) (by rw [g_1]; rfl) (by decide) ?_
    refine lv_aload_n hx hb dX12_qAsksWord_56 rfl (lv_at hl 0 rfl) ?_
    refine lv_aload_n hx hb dX12_qAsksWord_57 rfl (lv_at hl 0 rfl) ?_
    refine sk_get (v := .ref (g 70)) (C := RX12) (T := TX12) (N := 92) hx hb hts inlX12 hown hK hP 0 rfl rfl 70 (by decide) w_5_225 rfl dX12_qAsksWord_58 ?_
    refine sk_Vv (q0 := 0) (n := 1) (rest := []) (wr := [(g 71, .inl (cC, 5, .inl ch71)), (g 72, .inl (cC, 3, .inl ch72)), (g 73, .inl (cC, 3, .inl ch73)), (g 74, .inl (cC, 4, .inl ch74)), (g 75, .inl (cC, 4, .inl ch75)), (g 76, .inl (cC, 5, .inl ch76)), (g 77, .inl (cC, 6, .inl ch77)), (g 78, .inl (cC, 4, .inl ch78)), (g 58, .inl (cC, 5, .inl ch58)), (g 79, .inl (cC, 5, .inl ch79))]) ⟨hx, hb, hml, hown, hts⟩ hl.1 (c_m_asks l D cI cJ cC cZ cS mm g ta pa pe pd pb pp pf pg pn rt rn cd sn il tk am at_ aa wt wy rm ud nu sd qn qw qo qb qp qa qi oc tb (g 70) 4 ch70 (by omega) (by omega) (by omega) (by omega) (by omega) htb) w_6_210 w_6_212 w_0_42 w_1_14 w_6_213 (by decide +kernel) ⟨⟨(Nat.le_of_ble_eq_true rfl), (Nat.le_of_ble_eq_true rfl)⟩, (Nat.le_of_ble_eq_true rfl), (Nat.le_of_ble_eq_true rfl)⟩ hK hP hD hS hA [0, 1, 2] [3, 4, 5, 6, 7, 8, 9, 10, 11, 12] rfl rfl (by decide) (by decide) (by decide) rfl rfl rfl rfl (Nat.le_of_ble_eq_true rfl) dX12_qAsksWord_61 (fun u H locs hw hP hD hS => ?_)
    obtain ⟨pa2_2, pd2_3, pb2_4, pp2_5, hpa2_6, hpa3_7, hpb2_8, hpb3_9, rfl⟩ := hw
    have hP : va_P D vwCl [(g 71, .inl (cC, 5, .inl ch71)), (g 72, .inl (cC, 3, .inl ch72)), (g 73, .inl (cC, 3, .inl ch73)), (g 74, .inl (cC, 4, .inl ch74)), (g 75, .inl (cC, 4, .inl ch75)), (g 76, .inl (cC, 5, .inl ch76)), (g 77, .inl (cC, 6, .inl ch77)), (g 78, .inl (cC, 4, .inl ch78)), (g 58, .inl (cC, 5, .inl ch58)), (g 79, .inl (cC, 5, .inl ch79)), (mm, .inr (12, mo g (nI ta) (nI pa2_2) (nI pe) pd2_3 (nI pb2_4) pp2_5 pf pg pn rt rn (nI cd) sn (nI il) tk am at_ aa 0 0 (-1) wt wy 0 (nI rm) (nI ud) (nI nu) sd (nI qn) (nI qw) qo (nI qb) (nI qp) qa (nI qi) (nI oc))), (g 0, .inl (cI, 1600, .inl (fun j => nI (tb j)))), (g 70, .inl (cC, 4, .inl ch70))] H := hP
    have hD : va_D A [(g 71, .inl (cC, 5, .inl ch71)), (g 72, .inl (cC, 3, .inl ch72)), (g 73, .inl (cC, 3, .inl ch73)), (g 74, .inl (cC, 4, .inl ch74)), (g 75, .inl (cC, 4, .inl ch75)), (g 76, .inl (cC, 5, .inl ch76)), (g 77, .inl (cC, 6, .inl ch77)), (g 78, .inl (cC, 4, .inl ch78)), (g 58, .inl (cC, 5, .inl ch58)), (g 79, .inl (cC, 5, .inl ch79)), (mm, .inr (12, mo g (nI ta) (nI pa2_2) (nI pe) pd2_3 (nI pb2_4) pp2_5 pf pg pn rt rn (nI cd) sn (nI il) tk am at_ aa 0 0 (-1) wt wy 0 (nI rm) (nI ud) (nI nu) sd (nI qn) (nI qw) qo (nI qb) (nI qp) qa (nI qi) (nI oc))), (g 0, .inl (cI, 1600, .inl (fun j => nI (tb j)))), (g 70, .inl (cC, 4, .inl ch70))] := hD
    refine lv_goto (tgt := 174) hx hb dX12_qAsksWord_64 (by decide) ?_
    have hP := hP.sub (ws' := [(mm, .inr (12, mo g (nI ta) (nI pa2_2) (nI pe) pd2_3 (nI pb2_4) pp2_5 pf pg pn rt rn (nI cd) sn (nI il) tk am at_ aa 0 0 (-1) wt wy 0 (nI rm) (nI ud) (nI nu) sd (nI qn) (nI qw) qo (nI qb) (nI qp) qa (nI qi) (nI oc))), (g 0, .inl (cI, 1600, .inl (fun j => nI (tb j)))), (g 70, .inl (cC, 4, .inl ch70)), (g 71, .inl (cC, 5, .inl ch71)), (g 72, .inl (cC, 3, .inl ch72)), (g 73, .inl (cC, 3, .inl ch73)), (g 74, .inl (cC, 4, .inl ch74)), (g 75, .inl (cC, 4, .inl ch75)), (g 76, .inl (cC, 5, .inl ch76)), (g 77, .inl (cC, 6, .inl ch77)), (g 78, .inl (cC, 4, .inl ch78)), (g 58, .inl (cC, 5, .inl ch58)), (g 79, .inl (cC, 5, .inl ch79))]) [10, 11, 12, 0, 1, 2, 3, 4, 5, 6, 7, 8, 9] rfl
    have hD := hD.sub (ws' := [(mm, .inr (12, mo g (nI ta) (nI pa2_2) (nI pe) pd2_3 (nI pb2_4) pp2_5 pf pg pn rt rn (nI cd) sn (nI il) tk am at_ aa 0 0 (-1) wt wy 0 (nI rm) (nI ud) (nI nu) sd (nI qn) (nI qw) qo (nI qb) (nI qp) qa (nI qi) (nI oc))), (g 0, .inl (cI, 1600, .inl (fun j => nI (tb j)))), (g 70, .inl (cC, 4, .inl ch70)), (g 71, .inl (cC, 5, .inl ch71)), (g 72, .inl (cC, 3, .inl ch72)), (g 73, .inl (cC, 3, .inl ch73)), (g 74, .inl (cC, 4, .inl ch74)), (g 75, .inl (cC, 4, .inl ch75)), (g 76, .inl (cC, 5, .inl ch76)), (g 77, .inl (cC, 6, .inl ch77)), (g 78, .inl (cC, 4, .inl ch78)), (g 58, .inl (cC, 5, .inl ch58)), (g 79, .inl (cC, 5, .inl ch79))]) [10, 11, 12, 0, 1, 2, 3, 4, 5, 6, 7, 8, 9] (by decide) rfl
    exact sk_vret hx hb hr hlocks hK hP hD hS (⟨pa2_2, pd2_3, pb2_4, pp2_5, by omega, by omega, by omega, by omega, rfl⟩) (Nat.le_of_ble_eq_true rfl) (Nat.le_of_ble_eq_true rfl) dX12_qAsksWord_174
  by_cases g_10 : o = 1
  · refine lv_tableIn (off := 66) (tgt := 67) hx hb dX12_qAsksWord_1 (by rw [g_10]; decide) (by rw [g_10]; decide) (by rw [g_10]; rfl) (by decide) ?_
    refine lv_aload_n hx hb dX12_qAsksWord_67 rfl (lv_at hl 0 rfl) ?_
    refine lv_aload_n hx hb dX12_qAsksWord_68 rfl (lv_at hl 0 rfl) ?_
    refine sk_get (v := .ref (g 71)) (C := RX12) (T := TX12) (N := 92) hx hb hts inlX12 hown hK hP 0 rfl rfl 71 (by decide) w_5_226 rfl dX12_qAsksWord_69 ?_
    refine sk_Vv (q0 := 0) (n := 1) (rest := []) (wr := [(g 70, .inl (cC, 4, .inl ch70)), (g 72, .inl (cC, 3, .inl ch72)), (g 73, .inl (cC, 3, .inl ch73)), (g 74, .inl (cC, 4, .inl ch74)), (g 75, .inl (cC, 4, .inl ch75)), (g 76, .inl (cC, 5, .inl ch76)), (g 77, .inl (cC, 6, .inl ch77)), (g 78, .inl (cC, 4, .inl ch78)), (g 58, .inl (cC, 5, .inl ch58)), (g 79, .inl (cC, 5, .inl ch79))]) ⟨hx, hb, hml, hown, hts⟩ hl.1 (c_m_asks l D cI cJ cC cZ cS mm g ta pa pe pd pb pp pf pg pn rt rn cd sn il tk am at_ aa wt wy rm ud nu sd qn qw qo qb qp qa qi oc tb (g 71) 5 ch71 (by omega) (by omega) (by omega) (by omega) (by omega) htb) w_6_210 w_6_212 w_0_42 w_1_14 w_6_213 (by decide +kernel) ⟨⟨(Nat.le_of_ble_eq_true rfl), (Nat.le_of_ble_eq_true rfl)⟩, (Nat.le_of_ble_eq_true rfl), (Nat.le_of_ble_eq_true rfl)⟩ hK hP hD hS hA [0, 1, 3] [2, 4, 5, 6, 7, 8, 9, 10, 11, 12] rfl rfl (by decide) (by decide) (by decide) rfl rfl rfl rfl (Nat.le_of_ble_eq_true rfl) dX12_qAsksWord_72 (fun u H locs hw hP hD hS => ?_)
    obtain ⟨pa2_11, pd2_12, pb2_13, pp2_14, hpa2_15, hpa3_16, hpb2_17, hpb3_18, rfl⟩ := hw
    have hP : va_P D vwCl [(g 70, .inl (cC, 4, .inl ch70)), (g 72, .inl (cC, 3, .inl ch72)), (g 73, .inl (cC, 3, .inl ch73)), (g 74, .inl (cC, 4, .inl ch74)), (g 75, .inl (cC, 4, .inl ch75)), (g 76, .inl (cC, 5, .inl ch76)), (g 77, .inl (cC, 6, .inl ch77)), (g 78, .inl (cC, 4, .inl ch78)), (g 58, .inl (cC, 5, .inl ch58)), (g 79, .inl (cC, 5, .inl ch79)), (mm, .inr (12, mo g (nI ta) (nI pa2_11) (nI pe) pd2_12 (nI pb2_13) pp2_14 pf pg pn rt rn (nI cd) sn (nI il) tk am at_ aa 0 0 (-1) wt wy 0 (nI rm) (nI ud) (nI nu) sd (nI qn) (nI qw) qo (nI qb) (nI qp) qa (nI qi) (nI oc))), (g 0, .inl (cI, 1600, .inl (fun j => nI (tb j)))), (g 71, .inl (cC, 5, .inl ch71))] H := hP
    have hD : va_D A [(g 70, .inl (cC, 4, .inl ch70)), (g 72, .inl (cC, 3, .inl ch72)), (g 73, .inl (cC, 3, .inl ch73)), (g 74, .inl (cC, 4, .inl ch74)), (g 75, .inl (cC, 4, .inl ch75)), (g 76, .inl (cC, 5, .inl ch76)), (g 77, .inl (cC, 6, .inl ch77)), (g 78, .inl (cC, 4, .inl ch78)), (g 58, .inl (cC, 5, .inl ch58)), (g 79, .inl (cC, 5, .inl ch79)), (mm, .inr (12, mo g (nI ta) (nI pa2_11) (nI pe) pd2_12 (nI pb2_13) pp2_14 pf pg pn rt rn (nI cd) sn (nI il) tk am at_ aa 0 0 (-1) wt wy 0 (nI rm) (nI ud) (nI nu) sd (nI qn) (nI qw) qo (nI qb) (nI qp) qa (nI qi) (nI oc))), (g 0, .inl (cI, 1600, .inl (fun j => nI (tb j)))), (g 71, .inl (cC, 5, .inl ch71))] := hD
    refine lv_goto (tgt := 174) hx hb dX12_qAsksWord_75 (by decide) ?_
    have hP := hP.sub (ws' := [(mm, .inr (12, mo g (nI ta) (nI pa2_11) (nI pe) pd2_12 (nI pb2_13) pp2_14 pf pg pn rt rn (nI cd) sn (nI il) tk am at_ aa 0 0 (-1) wt wy 0 (nI rm) (nI ud) (nI nu) sd (nI qn) (nI qw) qo (nI qb) (nI qp) qa (nI qi) (nI oc))), (g 0, .inl (cI, 1600, .inl (fun j => nI (tb j)))), (g 70, .inl (cC, 4, .inl ch70)), (g 71, .inl (cC, 5, .inl ch71)), (g 72, .inl (cC, 3, .inl ch72)), (g 73, .inl (cC, 3, .inl ch73)), (g 74, .inl (cC, 4, .inl ch74)), (g 75, .inl (cC, 4, .inl ch75)), (g 76, .inl (cC, 5, .inl ch76)), (g 77, .inl (cC, 6, .inl ch77)), (g 78, .inl (cC, 4, .inl ch78)), (g 58, .inl (cC, 5, .inl ch58)), (g 79, .inl (cC, 5, .inl ch79))]) [10, 11, 0, 12, 1, 2, 3, 4, 5, 6, 7, 8, 9] rfl
    have hD := hD.sub (ws' := [(mm, .inr (12, mo g (nI ta) (nI pa2_11) (nI pe) pd2_12 (nI pb2_13) pp2_14 pf pg pn rt rn (nI cd) sn (nI il) tk am at_ aa 0 0 (-1) wt wy 0 (nI rm) (nI ud) (nI nu) sd (nI qn) (nI qw) qo (nI qb) (nI qp) qa (nI qi) (nI oc))), (g 0, .inl (cI, 1600, .inl (fun j => nI (tb j)))), (g 70, .inl (cC, 4, .inl ch70)), (g 71, .inl (cC, 5, .inl ch71)), (g 72, .inl (cC, 3, .inl ch72)), (g 73, .inl (cC, 3, .inl ch73)), (g 74, .inl (cC, 4, .inl ch74)), (g 75, .inl (cC, 4, .inl ch75)), (g 76, .inl (cC, 5, .inl ch76)), (g 77, .inl (cC, 6, .inl ch77)), (g 78, .inl (cC, 4, .inl ch78)), (g 58, .inl (cC, 5, .inl ch58)), (g 79, .inl (cC, 5, .inl ch79))]) [10, 11, 0, 12, 1, 2, 3, 4, 5, 6, 7, 8, 9] (by decide) rfl
    exact sk_vret hx hb hr hlocks hK hP hD hS (⟨pa2_11, pd2_12, pb2_13, pp2_14, by omega, by omega, by omega, by omega, rfl⟩) (Nat.le_of_ble_eq_true rfl) (Nat.le_of_ble_eq_true rfl) dX12_qAsksWord_174
  by_cases g_19 : o = 2
  · refine lv_tableIn (off := 77) (tgt := 78) hx hb dX12_qAsksWord_1 (by rw [g_19]; decide) (by rw [g_19]; decide) (by rw [g_19]; rfl) (by decide) ?_
    refine lv_aload_n hx hb dX12_qAsksWord_78 rfl (lv_at hl 0 rfl) ?_
    refine lv_aload_n hx hb dX12_qAsksWord_79 rfl (lv_at hl 0 rfl) ?_
    refine sk_get (v := .ref (g 72)) (C := RX12) (T := TX12) (N := 92) hx hb hts inlX12 hown hK hP 0 rfl rfl 72 (by decide) w_5_227 rfl dX12_qAsksWord_80 ?_
    refine sk_Vv (q0 := 0) (n := 1) (rest := []) (wr := [(g 70, .inl (cC, 4, .inl ch70)), (g 71, .inl (cC, 5, .inl ch71)), (g 73, .inl (cC, 3, .inl ch73)), (g 74, .inl (cC, 4, .inl ch74)), (g 75, .inl (cC, 4, .inl ch75)), (g 76, .inl (cC, 5, .inl ch76)), (g 77, .inl (cC, 6, .inl ch77)), (g 78, .inl (cC, 4, .inl ch78)), (g 58, .inl (cC, 5, .inl ch58)), (g 79, .inl (cC, 5, .inl ch79))]) ⟨hx, hb, hml, hown, hts⟩ hl.1 (c_m_asks l D cI cJ cC cZ cS mm g ta pa pe pd pb pp pf pg pn rt rn cd sn il tk am at_ aa wt wy rm ud nu sd qn qw qo qb qp qa qi oc tb (g 72) 3 ch72 (by omega) (by omega) (by omega) (by omega) (by omega) htb) w_6_210 w_6_212 w_0_42 w_1_14 w_6_213 (by decide +kernel) ⟨⟨(Nat.le_of_ble_eq_true rfl), (Nat.le_of_ble_eq_true rfl)⟩, (Nat.le_of_ble_eq_true rfl), (Nat.le_of_ble_eq_true rfl)⟩ hK hP hD hS hA [0, 1, 4] [2, 3, 5, 6, 7, 8, 9, 10, 11, 12] rfl rfl (by decide) (by decide) (by decide) rfl rfl rfl rfl (Nat.le_of_ble_eq_true rfl) dX12_qAsksWord_83 (fun u H locs hw hP hD hS => ?_)
    obtain ⟨pa2_20, pd2_21, pb2_22, pp2_23, hpa2_24, hpa3_25, hpb2_26, hpb3_27, rfl⟩ := hw
    have hP : va_P D vwCl [(g 70, .inl (cC, 4, .inl ch70)), (g 71, .inl (cC, 5, .inl ch71)), (g 73, .inl (cC, 3, .inl ch73)), (g 74, .inl (cC, 4, .inl ch74)), (g 75, .inl (cC, 4, .inl ch75)), (g 76, .inl (cC, 5, .inl ch76)), (g 77, .inl (cC, 6, .inl ch77)), (g 78, .inl (cC, 4, .inl ch78)), (g 58, .inl (cC, 5, .inl ch58)), (g 79, .inl (cC, 5, .inl ch79)), (mm, .inr (12, mo g (nI ta) (nI pa2_20) (nI pe) pd2_21 (nI pb2_22) pp2_23 pf pg pn rt rn (nI cd) sn (nI il) tk am at_ aa 0 0 (-1) wt wy 0 (nI rm) (nI ud) (nI nu) sd (nI qn) (nI qw) qo (nI qb) (nI qp) qa (nI qi) (nI oc))), (g 0, .inl (cI, 1600, .inl (fun j => nI (tb j)))), (g 72, .inl (cC, 3, .inl ch72))] H := hP
    have hD : va_D A [(g 70, .inl (cC, 4, .inl ch70)), (g 71, .inl (cC, 5, .inl ch71)), (g 73, .inl (cC, 3, .inl ch73)), (g 74, .inl (cC, 4, .inl ch74)), (g 75, .inl (cC, 4, .inl ch75)), (g 76, .inl (cC, 5, .inl ch76)), (g 77, .inl (cC, 6, .inl ch77)), (g 78, .inl (cC, 4, .inl ch78)), (g 58, .inl (cC, 5, .inl ch58)), (g 79, .inl (cC, 5, .inl ch79)), (mm, .inr (12, mo g (nI ta) (nI pa2_20) (nI pe) pd2_21 (nI pb2_22) pp2_23 pf pg pn rt rn (nI cd) sn (nI il) tk am at_ aa 0 0 (-1) wt wy 0 (nI rm) (nI ud) (nI nu) sd (nI qn) (nI qw) qo (nI qb) (nI qp) qa (nI qi) (nI oc))), (g 0, .inl (cI, 1600, .inl (fun j => nI (tb j)))), (g 72, .inl (cC, 3, .inl ch72))] := hD
    refine lv_goto (tgt := 174) hx hb dX12_qAsksWord_86 (by decide) ?_
    have hP := hP.sub (ws' := [(mm, .inr (12, mo g (nI ta) (nI pa2_20) (nI pe) pd2_21 (nI pb2_22) pp2_23 pf pg pn rt rn (nI cd) sn (nI il) tk am at_ aa 0 0 (-1) wt wy 0 (nI rm) (nI ud) (nI nu) sd (nI qn) (nI qw) qo (nI qb) (nI qp) qa (nI qi) (nI oc))), (g 0, .inl (cI, 1600, .inl (fun j => nI (tb j)))), (g 70, .inl (cC, 4, .inl ch70)), (g 71, .inl (cC, 5, .inl ch71)), (g 72, .inl (cC, 3, .inl ch72)), (g 73, .inl (cC, 3, .inl ch73)), (g 74, .inl (cC, 4, .inl ch74)), (g 75, .inl (cC, 4, .inl ch75)), (g 76, .inl (cC, 5, .inl ch76)), (g 77, .inl (cC, 6, .inl ch77)), (g 78, .inl (cC, 4, .inl ch78)), (g 58, .inl (cC, 5, .inl ch58)), (g 79, .inl (cC, 5, .inl ch79))]) [10, 11, 0, 1, 12, 2, 3, 4, 5, 6, 7, 8, 9] rfl
    have hD := hD.sub (ws' := [(mm, .inr (12, mo g (nI ta) (nI pa2_20) (nI pe) pd2_21 (nI pb2_22) pp2_23 pf pg pn rt rn (nI cd) sn (nI il) tk am at_ aa 0 0 (-1) wt wy 0 (nI rm) (nI ud) (nI nu) sd (nI qn) (nI qw) qo (nI qb) (nI qp) qa (nI qi) (nI oc))), (g 0, .inl (cI, 1600, .inl (fun j => nI (tb j)))), (g 70, .inl (cC, 4, .inl ch70)), (g 71, .inl (cC, 5, .inl ch71)), (g 72, .inl (cC, 3, .inl ch72)), (g 73, .inl (cC, 3, .inl ch73)), (g 74, .inl (cC, 4, .inl ch74)), (g 75, .inl (cC, 4, .inl ch75)), (g 76, .inl (cC, 5, .inl ch76)), (g 77, .inl (cC, 6, .inl ch77)), (g 78, .inl (cC, 4, .inl ch78)), (g 58, .inl (cC, 5, .inl ch58)), (g 79, .inl (cC, 5, .inl ch79))]) [10, 11, 0, 1, 12, 2, 3, 4, 5, 6, 7, 8, 9] (by decide) rfl
    exact sk_vret hx hb hr hlocks hK hP hD hS (⟨pa2_20, pd2_21, pb2_22, pp2_23, by omega, by omega, by omega, by omega, rfl⟩) (Nat.le_of_ble_eq_true rfl) (Nat.le_of_ble_eq_true rfl) dX12_qAsksWord_174
  by_cases g_28 : o = 3
  · refine lv_tableIn (off := 88) (tgt := 89) hx hb dX12_qAsksWord_1 (by rw [g_28]; decide) (by rw [g_28]; decide) (by rw [g_28]; rfl) (by decide) ?_
    refine lv_aload_n hx hb dX12_qAsksWord_89 rfl (lv_at hl 0 rfl) ?_
    refine lv_aload_n hx hb dX12_qAsksWord_90 rfl (lv_at hl 0 rfl) ?_
    refine sk_get (v := .ref (g 73)) (C := RX12) (T := TX12) (N := 92) hx hb hts inlX12 hown hK hP 0 rfl rfl 73 (by decide) w_5_228 rfl dX12_qAsksWord_91 ?_
    refine sk_Vv (q0 := 0) (n := 1) (rest := []) (wr := [(g 70, .inl (cC, 4, .inl ch70)), (g 71, .inl (cC, 5, .inl ch71)), (g 72, .inl (cC, 3, .inl ch72)), (g 74, .inl (cC, 4, .inl ch74)), (g 75, .inl (cC, 4, .inl ch75)), (g 76, .inl (cC, 5, .inl ch76)), (g 77, .inl (cC, 6, .inl ch77)), (g 78, .inl (cC, 4, .inl ch78)), (g 58, .inl (cC, 5, .inl ch58)), (g 79, .inl (cC, 5, .inl ch79))]) ⟨hx, hb, hml, hown, hts⟩ hl.1 (c_m_asks l D cI cJ cC cZ cS mm g ta pa pe pd pb pp pf pg pn rt rn cd sn il tk am at_ aa wt wy rm ud nu sd qn qw qo qb qp qa qi oc tb (g 73) 3 ch73 (by omega) (by omega) (by omega) (by omega) (by omega) htb) w_6_210 w_6_212 w_0_42 w_1_14 w_6_213 (by decide +kernel) ⟨⟨(Nat.le_of_ble_eq_true rfl), (Nat.le_of_ble_eq_true rfl)⟩, (Nat.le_of_ble_eq_true rfl), (Nat.le_of_ble_eq_true rfl)⟩ hK hP hD hS hA [0, 1, 5] [2, 3, 4, 6, 7, 8, 9, 10, 11, 12] rfl rfl (by decide) (by decide) (by decide) rfl rfl rfl rfl (Nat.le_of_ble_eq_true rfl) dX12_qAsksWord_94 (fun u H locs hw hP hD hS => ?_)
    obtain ⟨pa2_29, pd2_30, pb2_31, pp2_32, hpa2_33, hpa3_34, hpb2_35, hpb3_36, rfl⟩ := hw
    have hP : va_P D vwCl [(g 70, .inl (cC, 4, .inl ch70)), (g 71, .inl (cC, 5, .inl ch71)), (g 72, .inl (cC, 3, .inl ch72)), (g 74, .inl (cC, 4, .inl ch74)), (g 75, .inl (cC, 4, .inl ch75)), (g 76, .inl (cC, 5, .inl ch76)), (g 77, .inl (cC, 6, .inl ch77)), (g 78, .inl (cC, 4, .inl ch78)), (g 58, .inl (cC, 5, .inl ch58)), (g 79, .inl (cC, 5, .inl ch79)), (mm, .inr (12, mo g (nI ta) (nI pa2_29) (nI pe) pd2_30 (nI pb2_31) pp2_32 pf pg pn rt rn (nI cd) sn (nI il) tk am at_ aa 0 0 (-1) wt wy 0 (nI rm) (nI ud) (nI nu) sd (nI qn) (nI qw) qo (nI qb) (nI qp) qa (nI qi) (nI oc))), (g 0, .inl (cI, 1600, .inl (fun j => nI (tb j)))), (g 73, .inl (cC, 3, .inl ch73))] H := hP
    have hD : va_D A [(g 70, .inl (cC, 4, .inl ch70)), (g 71, .inl (cC, 5, .inl ch71)), (g 72, .inl (cC, 3, .inl ch72)), (g 74, .inl (cC, 4, .inl ch74)), (g 75, .inl (cC, 4, .inl ch75)), (g 76, .inl (cC, 5, .inl ch76)), (g 77, .inl (cC, 6, .inl ch77)), (g 78, .inl (cC, 4, .inl ch78)), (g 58, .inl (cC, 5, .inl ch58)), (g 79, .inl (cC, 5, .inl ch79)), (mm, .inr (12, mo g (nI ta) (nI pa2_29) (nI pe) pd2_30 (nI pb2_31) pp2_32 pf pg pn rt rn (nI cd) sn (nI il) tk am at_ aa 0 0 (-1) wt wy 0 (nI rm) (nI ud) (nI nu) sd (nI qn) (nI qw) qo (nI qb) (nI qp) qa (nI qi) (nI oc))), (g 0, .inl (cI, 1600, .inl (fun j => nI (tb j)))), (g 73, .inl (cC, 3, .inl ch73))] := hD
    refine lv_goto (tgt := 174) hx hb dX12_qAsksWord_97 (by decide) ?_
    have hP := hP.sub (ws' := [(mm, .inr (12, mo g (nI ta) (nI pa2_29) (nI pe) pd2_30 (nI pb2_31) pp2_32 pf pg pn rt rn (nI cd) sn (nI il) tk am at_ aa 0 0 (-1) wt wy 0 (nI rm) (nI ud) (nI nu) sd (nI qn) (nI qw) qo (nI qb) (nI qp) qa (nI qi) (nI oc))), (g 0, .inl (cI, 1600, .inl (fun j => nI (tb j)))), (g 70, .inl (cC, 4, .inl ch70)), (g 71, .inl (cC, 5, .inl ch71)), (g 72, .inl (cC, 3, .inl ch72)), (g 73, .inl (cC, 3, .inl ch73)), (g 74, .inl (cC, 4, .inl ch74)), (g 75, .inl (cC, 4, .inl ch75)), (g 76, .inl (cC, 5, .inl ch76)), (g 77, .inl (cC, 6, .inl ch77)), (g 78, .inl (cC, 4, .inl ch78)), (g 58, .inl (cC, 5, .inl ch58)), (g 79, .inl (cC, 5, .inl ch79))]) [10, 11, 0, 1, 2, 12, 3, 4, 5, 6, 7, 8, 9] rfl
    have hD := hD.sub (ws' := [(mm, .inr (12, mo g (nI ta) (nI pa2_29) (nI pe) pd2_30 (nI pb2_31) pp2_32 pf pg pn rt rn (nI cd) sn (nI il) tk am at_ aa 0 0 (-1) wt wy 0 (nI rm) (nI ud) (nI nu) sd (nI qn) (nI qw) qo (nI qb) (nI qp) qa (nI qi) (nI oc))), (g 0, .inl (cI, 1600, .inl (fun j => nI (tb j)))), (g 70, .inl (cC, 4, .inl ch70)), (g 71, .inl (cC, 5, .inl ch71)), (g 72, .inl (cC, 3, .inl ch72)), (g 73, .inl (cC, 3, .inl ch73)), (g 74, .inl (cC, 4, .inl ch74)), (g 75, .inl (cC, 4, .inl ch75)), (g 76, .inl (cC, 5, .inl ch76)), (g 77, .inl (cC, 6, .inl ch77)), (g 78, .inl (cC, 4, .inl ch78)), (g 58, .inl (cC, 5, .inl ch58)), (g 79, .inl (cC, 5, .inl ch79))]) [10, 11, 0, 1, 2, 12, 3, 4, 5, 6, 7, 8, 9] (by decide) rfl
    exact sk_vret hx hb hr hlocks hK hP hD hS (⟨pa2_29, pd2_30, pb2_31, pp2_32, by omega, by omega, by omega, by omega, rfl⟩) (Nat.le_of_ble_eq_true rfl) (Nat.le_of_ble_eq_true rfl) dX12_qAsksWord_174
  by_cases g_37 : o = 4
  · refine lv_tableIn (off := 99) (tgt := 100) hx hb dX12_qAsksWord_1 (by rw [g_37]; decide) (by rw [g_37]; decide) (by rw [g_37]; rfl) (by decide) ?_
    refine lv_aload_n hx hb dX12_qAsksWord_100 rfl (lv_at hl 0 rfl) ?_
    refine lv_aload_n hx hb dX12_qAsksWord_101 rfl (lv_at hl 0 rfl) ?_
    refine sk_get (v := .ref (g 74)) (C := RX12) (T := TX12) (N := 92) hx hb hts inlX12 hown hK hP 0 rfl rfl 74 (by decide) w_5_229 rfl dX12_qAsksWord_102 ?_
    refine sk_Vv (q0 := 0) (n := 1) (rest := []) (wr := [(g 70, .inl (cC, 4, .inl ch70)), (g 71, .inl (cC, 5, .inl ch71)), (g 72, .inl (cC, 3, .inl ch72)), (g 73, .inl (cC, 3, .inl ch73)), (g 75, .inl (cC, 4, .inl ch75)), (g 76, .inl (cC, 5, .inl ch76)), (g 77, .inl (cC, 6, .inl ch77)), (g 78, .inl (cC, 4, .inl ch78)), (g 58, .inl (cC, 5, .inl ch58)), (g 79, .inl (cC, 5, .inl ch79))]) ⟨hx, hb, hml, hown, hts⟩ hl.1 (c_m_asks l D cI cJ cC cZ cS mm g ta pa pe pd pb pp pf pg pn rt rn cd sn il tk am at_ aa wt wy rm ud nu sd qn qw qo qb qp qa qi oc tb (g 74) 4 ch74 (by omega) (by omega) (by omega) (by omega) (by omega) htb) w_6_210 w_6_212 w_0_42 w_1_14 w_6_213 (by decide +kernel) ⟨⟨(Nat.le_of_ble_eq_true rfl), (Nat.le_of_ble_eq_true rfl)⟩, (Nat.le_of_ble_eq_true rfl), (Nat.le_of_ble_eq_true rfl)⟩ hK hP hD hS hA [0, 1, 6] [2, 3, 4, 5, 7, 8, 9, 10, 11, 12] rfl rfl (by decide) (by decide) (by decide) rfl rfl rfl rfl (Nat.le_of_ble_eq_true rfl) dX12_qAsksWord_105 (fun u H locs hw hP hD hS => ?_)
    obtain ⟨pa2_38, pd2_39, pb2_40, pp2_41, hpa2_42, hpa3_43, hpb2_44, hpb3_45, rfl⟩ := hw
    have hP : va_P D vwCl [(g 70, .inl (cC, 4, .inl ch70)), (g 71, .inl (cC, 5, .inl ch71)), (g 72, .inl (cC, 3, .inl ch72)), (g 73, .inl (cC, 3, .inl ch73)), (g 75, .inl (cC, 4, .inl ch75)), (g 76, .inl (cC, 5, .inl ch76)), (g 77, .inl (cC, 6, .inl ch77)), (g 78, .inl (cC, 4, .inl ch78)), (g 58, .inl (cC, 5, .inl ch58)), (g 79, .inl (cC, 5, .inl ch79)), (mm, .inr (12, mo g (nI ta) (nI pa2_38) (nI pe) pd2_39 (nI pb2_40) pp2_41 pf pg pn rt rn (nI cd) sn (nI il) tk am at_ aa 0 0 (-1) wt wy 0 (nI rm) (nI ud) (nI nu) sd (nI qn) (nI qw) qo (nI qb) (nI qp) qa (nI qi) (nI oc))), (g 0, .inl (cI, 1600, .inl (fun j => nI (tb j)))), (g 74, .inl (cC, 4, .inl ch74))] H := hP
    have hD : va_D A [(g 70, .inl (cC, 4, .inl ch70)), (g 71, .inl (cC, 5, .inl ch71)), (g 72, .inl (cC, 3, .inl ch72)), (g 73, .inl (cC, 3, .inl ch73)), (g 75, .inl (cC, 4, .inl ch75)), (g 76, .inl (cC, 5, .inl ch76)), (g 77, .inl (cC, 6, .inl ch77)), (g 78, .inl (cC, 4, .inl ch78)), (g 58, .inl (cC, 5, .inl ch58)), (g 79, .inl (cC, 5, .inl ch79)), (mm, .inr (12, mo g (nI ta) (nI pa2_38) (nI pe) pd2_39 (nI pb2_40) pp2_41 pf pg pn rt rn (nI cd) sn (nI il) tk am at_ aa 0 0 (-1) wt wy 0 (nI rm) (nI ud) (nI nu) sd (nI qn) (nI qw) qo (nI qb) (nI qp) qa (nI qi) (nI oc))), (g 0, .inl (cI, 1600, .inl (fun j => nI (tb j)))), (g 74, .inl (cC, 4, .inl ch74))] := hD
    refine lv_goto (tgt := 174) hx hb dX12_qAsksWord_108 (by decide) ?_
    have hP := hP.sub (ws' := [(mm, .inr (12, mo g (nI ta) (nI pa2_38) (nI pe) pd2_39 (nI pb2_40) pp2_41 pf pg pn rt rn (nI cd) sn (nI il) tk am at_ aa 0 0 (-1) wt wy 0 (nI rm) (nI ud) (nI nu) sd (nI qn) (nI qw) qo (nI qb) (nI qp) qa (nI qi) (nI oc))), (g 0, .inl (cI, 1600, .inl (fun j => nI (tb j)))), (g 70, .inl (cC, 4, .inl ch70)), (g 71, .inl (cC, 5, .inl ch71)), (g 72, .inl (cC, 3, .inl ch72)), (g 73, .inl (cC, 3, .inl ch73)), (g 74, .inl (cC, 4, .inl ch74)), (g 75, .inl (cC, 4, .inl ch75)), (g 76, .inl (cC, 5, .inl ch76)), (g 77, .inl (cC, 6, .inl ch77)), (g 78, .inl (cC, 4, .inl ch78)), (g 58, .inl (cC, 5, .inl ch58)), (g 79, .inl (cC, 5, .inl ch79))]) [10, 11, 0, 1, 2, 3, 12, 4, 5, 6, 7, 8, 9] rfl
    have hD := hD.sub (ws' := [(mm, .inr (12, mo g (nI ta) (nI pa2_38) (nI pe) pd2_39 (nI pb2_40) pp2_41 pf pg pn rt rn (nI cd) sn (nI il) tk am at_ aa 0 0 (-1) wt wy 0 (nI rm) (nI ud) (nI nu) sd (nI qn) (nI qw) qo (nI qb) (nI qp) qa (nI qi) (nI oc))), (g 0, .inl (cI, 1600, .inl (fun j => nI (tb j)))), (g 70, .inl (cC, 4, .inl ch70)), (g 71, .inl (cC, 5, .inl ch71)), (g 72, .inl (cC, 3, .inl ch72)), (g 73, .inl (cC, 3, .inl ch73)), (g 74, .inl (cC, 4, .inl ch74)), (g 75, .inl (cC, 4, .inl ch75)), (g 76, .inl (cC, 5, .inl ch76)), (g 77, .inl (cC, 6, .inl ch77)), (g 78, .inl (cC, 4, .inl ch78)), (g 58, .inl (cC, 5, .inl ch58)), (g 79, .inl (cC, 5, .inl ch79))]) [10, 11, 0, 1, 2, 3, 12, 4, 5, 6, 7, 8, 9] (by decide) rfl
    exact sk_vret hx hb hr hlocks hK hP hD hS (⟨pa2_38, pd2_39, pb2_40, pp2_41, by omega, by omega, by omega, by omega, rfl⟩) (Nat.le_of_ble_eq_true rfl) (Nat.le_of_ble_eq_true rfl) dX12_qAsksWord_174
  by_cases g_46 : o = 5
  · refine lv_tableIn (off := 110) (tgt := 111) hx hb dX12_qAsksWord_1 (by rw [g_46]; decide) (by rw [g_46]; decide) (by rw [g_46]; rfl) (by decide) ?_
    refine lv_aload_n hx hb dX12_qAsksWord_111 rfl (lv_at hl 0 rfl) ?_
    refine lv_aload_n hx hb dX12_qAsksWord_112 rfl (lv_at hl 0 rfl) ?_
    refine sk_get (v := .ref (g 75)) (C := RX12) (T := TX12) (N := 92) hx hb hts inlX12 hown hK hP 0 rfl rfl 75 (by decide) w_5_230 rfl dX12_qAsksWord_113 ?_
    refine sk_Vv (q0 := 0) (n := 1) (rest := []) (wr := [(g 70, .inl (cC, 4, .inl ch70)), (g 71, .inl (cC, 5, .inl ch71)), (g 72, .inl (cC, 3, .inl ch72)), (g 73, .inl (cC, 3, .inl ch73)), (g 74, .inl (cC, 4, .inl ch74)), (g 76, .inl (cC, 5, .inl ch76)), (g 77, .inl (cC, 6, .inl ch77)), (g 78, .inl (cC, 4, .inl ch78)), (g 58, .inl (cC, 5, .inl ch58)), (g 79, .inl (cC, 5, .inl ch79))]) ⟨hx, hb, hml, hown, hts⟩ hl.1 (c_m_asks l D cI cJ cC cZ cS mm g ta pa pe pd pb pp pf pg pn rt rn cd sn il tk am at_ aa wt wy rm ud nu sd qn qw qo qb qp qa qi oc tb (g 75) 4 ch75 (by omega) (by omega) (by omega) (by omega) (by omega) htb) w_6_210 w_6_212 w_0_42 w_1_14 w_6_213 (by decide +kernel) ⟨⟨(Nat.le_of_ble_eq_true rfl), (Nat.le_of_ble_eq_true rfl)⟩, (Nat.le_of_ble_eq_true rfl), (Nat.le_of_ble_eq_true rfl)⟩ hK hP hD hS hA [0, 1, 7] [2, 3, 4, 5, 6, 8, 9, 10, 11, 12] rfl rfl (by decide) (by decide) (by decide) rfl rfl rfl rfl (Nat.le_of_ble_eq_true rfl) dX12_qAsksWord_116 (fun u H locs hw hP hD hS => ?_)
    obtain ⟨pa2_47, pd2_48, pb2_49, pp2_50, hpa2_51, hpa3_52, hpb2_53, hpb3_54, rfl⟩ := hw
    have hP : va_P D vwCl [(g 70, .inl (cC, 4, .inl ch70)), (g 71, .inl (cC, 5, .inl ch71)), (g 72, .inl (cC, 3, .inl ch72)), (g 73, .inl (cC, 3, .inl ch73)), (g 74, .inl (cC, 4, .inl ch74)), (g 76, .inl (cC, 5, .inl ch76)), (g 77, .inl (cC, 6, .inl ch77)), (g 78, .inl (cC, 4, .inl ch78)), (g 58, .inl (cC, 5, .inl ch58)), (g 79, .inl (cC, 5, .inl ch79)), (mm, .inr (12, mo g (nI ta) (nI pa2_47) (nI pe) pd2_48 (nI pb2_49) pp2_50 pf pg pn rt rn (nI cd) sn (nI il) tk am at_ aa 0 0 (-1) wt wy 0 (nI rm) (nI ud) (nI nu) sd (nI qn) (nI qw) qo (nI qb) (nI qp) qa (nI qi) (nI oc))), (g 0, .inl (cI, 1600, .inl (fun j => nI (tb j)))), (g 75, .inl (cC, 4, .inl ch75))] H := hP
    have hD : va_D A [(g 70, .inl (cC, 4, .inl ch70)), (g 71, .inl (cC, 5, .inl ch71)), (g 72, .inl (cC, 3, .inl ch72)), (g 73, .inl (cC, 3, .inl ch73)), (g 74, .inl (cC, 4, .inl ch74)), (g 76, .inl (cC, 5, .inl ch76)), (g 77, .inl (cC, 6, .inl ch77)), (g 78, .inl (cC, 4, .inl ch78)), (g 58, .inl (cC, 5, .inl ch58)), (g 79, .inl (cC, 5, .inl ch79)), (mm, .inr (12, mo g (nI ta) (nI pa2_47) (nI pe) pd2_48 (nI pb2_49) pp2_50 pf pg pn rt rn (nI cd) sn (nI il) tk am at_ aa 0 0 (-1) wt wy 0 (nI rm) (nI ud) (nI nu) sd (nI qn) (nI qw) qo (nI qb) (nI qp) qa (nI qi) (nI oc))), (g 0, .inl (cI, 1600, .inl (fun j => nI (tb j)))), (g 75, .inl (cC, 4, .inl ch75))] := hD
    refine lv_goto (tgt := 174) hx hb dX12_qAsksWord_119 (by decide) ?_
    have hP := hP.sub (ws' := [(mm, .inr (12, mo g (nI ta) (nI pa2_47) (nI pe) pd2_48 (nI pb2_49) pp2_50 pf pg pn rt rn (nI cd) sn (nI il) tk am at_ aa 0 0 (-1) wt wy 0 (nI rm) (nI ud) (nI nu) sd (nI qn) (nI qw) qo (nI qb) (nI qp) qa (nI qi) (nI oc))), (g 0, .inl (cI, 1600, .inl (fun j => nI (tb j)))), (g 70, .inl (cC, 4, .inl ch70)), (g 71, .inl (cC, 5, .inl ch71)), (g 72, .inl (cC, 3, .inl ch72)), (g 73, .inl (cC, 3, .inl ch73)), (g 74, .inl (cC, 4, .inl ch74)), (g 75, .inl (cC, 4, .inl ch75)), (g 76, .inl (cC, 5, .inl ch76)), (g 77, .inl (cC, 6, .inl ch77)), (g 78, .inl (cC, 4, .inl ch78)), (g 58, .inl (cC, 5, .inl ch58)), (g 79, .inl (cC, 5, .inl ch79))]) [10, 11, 0, 1, 2, 3, 4, 12, 5, 6, 7, 8, 9] rfl
    have hD := hD.sub (ws' := [(mm, .inr (12, mo g (nI ta) (nI pa2_47) (nI pe) pd2_48 (nI pb2_49) pp2_50 pf pg pn rt rn (nI cd) sn (nI il) tk am at_ aa 0 0 (-1) wt wy 0 (nI rm) (nI ud) (nI nu) sd (nI qn) (nI qw) qo (nI qb) (nI qp) qa (nI qi) (nI oc))), (g 0, .inl (cI, 1600, .inl (fun j => nI (tb j)))), (g 70, .inl (cC, 4, .inl ch70)), (g 71, .inl (cC, 5, .inl ch71)), (g 72, .inl (cC, 3, .inl ch72)), (g 73, .inl (cC, 3, .inl ch73)), (g 74, .inl (cC, 4, .inl ch74)), (g 75, .inl (cC, 4, .inl ch75)), (g 76, .inl (cC, 5, .inl ch76)), (g 77, .inl (cC, 6, .inl ch77)), (g 78, .inl (cC, 4, .inl ch78)), (g 58, .inl (cC, 5, .inl ch58)), (g 79, .inl (cC, 5, .inl ch79))]) [10, 11, 0, 1, 2, 3, 4, 12, 5, 6, 7, 8, 9] (by decide) rfl
    exact sk_vret hx hb hr hlocks hK hP hD hS (⟨pa2_47, pd2_48, pb2_49, pp2_50, by omega, by omega, by omega, by omega, rfl⟩) (Nat.le_of_ble_eq_true rfl) (Nat.le_of_ble_eq_true rfl) dX12_qAsksWord_174
  by_cases g_55 : o = 6
  · refine lv_tableIn (off := 121) (tgt := 122) hx hb dX12_qAsksWord_1 (by rw [g_55]; decide) (by rw [g_55]; decide) (by rw [g_55]; rfl) (by decide) ?_
    refine lv_aload_n hx hb dX12_qAsksWord_122 rfl (lv_at hl 0 rfl) ?_
    refine lv_aload_n hx hb dX12_qAsksWord_123 rfl (lv_at hl 0 rfl) ?_
    refine sk_get (v := .ref (g 76)) (C := RX12) (T := TX12) (N := 92) hx hb hts inlX12 hown hK hP 0 rfl rfl 76 (by decide) w_5_231 rfl dX12_qAsksWord_124 ?_
    refine sk_Vv (q0 := 0) (n := 1) (rest := []) (wr := [(g 70, .inl (cC, 4, .inl ch70)), (g 71, .inl (cC, 5, .inl ch71)), (g 72, .inl (cC, 3, .inl ch72)), (g 73, .inl (cC, 3, .inl ch73)), (g 74, .inl (cC, 4, .inl ch74)), (g 75, .inl (cC, 4, .inl ch75)), (g 77, .inl (cC, 6, .inl ch77)), (g 78, .inl (cC, 4, .inl ch78)), (g 58, .inl (cC, 5, .inl ch58)), (g 79, .inl (cC, 5, .inl ch79))]) ⟨hx, hb, hml, hown, hts⟩ hl.1 (c_m_asks l D cI cJ cC cZ cS mm g ta pa pe pd pb pp pf pg pn rt rn cd sn il tk am at_ aa wt wy rm ud nu sd qn qw qo qb qp qa qi oc tb (g 76) 5 ch76 (by omega) (by omega) (by omega) (by omega) (by omega) htb) w_6_210 w_6_212 w_0_42 w_1_14 w_6_213 (by decide +kernel) ⟨⟨(Nat.le_of_ble_eq_true rfl), (Nat.le_of_ble_eq_true rfl)⟩, (Nat.le_of_ble_eq_true rfl), (Nat.le_of_ble_eq_true rfl)⟩ hK hP hD hS hA [0, 1, 8] [2, 3, 4, 5, 6, 7, 9, 10, 11, 12] rfl rfl (by decide) (by decide) (by decide) rfl rfl rfl rfl (Nat.le_of_ble_eq_true rfl) dX12_qAsksWord_127 (fun u H locs hw hP hD hS => ?_)
    obtain ⟨pa2_56, pd2_57, pb2_58, pp2_59, hpa2_60, hpa3_61, hpb2_62, hpb3_63, rfl⟩ := hw
    have hP : va_P D vwCl [(g 70, .inl (cC, 4, .inl ch70)), (g 71, .inl (cC, 5, .inl ch71)), (g 72, .inl (cC, 3, .inl ch72)), (g 73, .inl (cC, 3, .inl ch73)), (g 74, .inl (cC, 4, .inl ch74)), (g 75, .inl (cC, 4, .inl ch75)), (g 77, .inl (cC, 6, .inl ch77)), (g 78, .inl (cC, 4, .inl ch78)), (g 58, .inl (cC, 5, .inl ch58)), (g 79, .inl (cC, 5, .inl ch79)), (mm, .inr (12, mo g (nI ta) (nI pa2_56) (nI pe) pd2_57 (nI pb2_58) pp2_59 pf pg pn rt rn (nI cd) sn (nI il) tk am at_ aa 0 0 (-1) wt wy 0 (nI rm) (nI ud) (nI nu) sd (nI qn) (nI qw) qo (nI qb) (nI qp) qa (nI qi) (nI oc))), (g 0, .inl (cI, 1600, .inl (fun j => nI (tb j)))), (g 76, .inl (cC, 5, .inl ch76))] H := hP
    have hD : va_D A [(g 70, .inl (cC, 4, .inl ch70)), (g 71, .inl (cC, 5, .inl ch71)), (g 72, .inl (cC, 3, .inl ch72)), (g 73, .inl (cC, 3, .inl ch73)), (g 74, .inl (cC, 4, .inl ch74)), (g 75, .inl (cC, 4, .inl ch75)), (g 77, .inl (cC, 6, .inl ch77)), (g 78, .inl (cC, 4, .inl ch78)), (g 58, .inl (cC, 5, .inl ch58)), (g 79, .inl (cC, 5, .inl ch79)), (mm, .inr (12, mo g (nI ta) (nI pa2_56) (nI pe) pd2_57 (nI pb2_58) pp2_59 pf pg pn rt rn (nI cd) sn (nI il) tk am at_ aa 0 0 (-1) wt wy 0 (nI rm) (nI ud) (nI nu) sd (nI qn) (nI qw) qo (nI qb) (nI qp) qa (nI qi) (nI oc))), (g 0, .inl (cI, 1600, .inl (fun j => nI (tb j)))), (g 76, .inl (cC, 5, .inl ch76))] := hD
    refine lv_goto (tgt := 174) hx hb dX12_qAsksWord_130 (by decide) ?_
    have hP := hP.sub (ws' := [(mm, .inr (12, mo g (nI ta) (nI pa2_56) (nI pe) pd2_57 (nI pb2_58) pp2_59 pf pg pn rt rn (nI cd) sn (nI il) tk am at_ aa 0 0 (-1) wt wy 0 (nI rm) (nI ud) (nI nu) sd (nI qn) (nI qw) qo (nI qb) (nI qp) qa (nI qi) (nI oc))), (g 0, .inl (cI, 1600, .inl (fun j => nI (tb j)))), (g 70, .inl (cC, 4, .inl ch70)), (g 71, .inl (cC, 5, .inl ch71)), (g 72, .inl (cC, 3, .inl ch72)), (g 73, .inl (cC, 3, .inl ch73)), (g 74, .inl (cC, 4, .inl ch74)), (g 75, .inl (cC, 4, .inl ch75)), (g 76, .inl (cC, 5, .inl ch76)), (g 77, .inl (cC, 6, .inl ch77)), (g 78, .inl (cC, 4, .inl ch78)), (g 58, .inl (cC, 5, .inl ch58)), (g 79, .inl (cC, 5, .inl ch79))]) [10, 11, 0, 1, 2, 3, 4, 5, 12, 6, 7, 8, 9] rfl
    have hD := hD.sub (ws' := [(mm, .inr (12, mo g (nI ta) (nI pa2_56) (nI pe) pd2_57 (nI pb2_58) pp2_59 pf pg pn rt rn (nI cd) sn (nI il) tk am at_ aa 0 0 (-1) wt wy 0 (nI rm) (nI ud) (nI nu) sd (nI qn) (nI qw) qo (nI qb) (nI qp) qa (nI qi) (nI oc))), (g 0, .inl (cI, 1600, .inl (fun j => nI (tb j)))), (g 70, .inl (cC, 4, .inl ch70)), (g 71, .inl (cC, 5, .inl ch71)), (g 72, .inl (cC, 3, .inl ch72)), (g 73, .inl (cC, 3, .inl ch73)), (g 74, .inl (cC, 4, .inl ch74)), (g 75, .inl (cC, 4, .inl ch75)), (g 76, .inl (cC, 5, .inl ch76)), (g 77, .inl (cC, 6, .inl ch77)), (g 78, .inl (cC, 4, .inl ch78)), (g 58, .inl (cC, 5, .inl ch58)), (g 79, .inl (cC, 5, .inl ch79))]) [10, 11, 0, 1, 2, 3, 4, 5, 12, 6, 7, 8, 9] (by decide) rfl
    exact sk_vret hx hb hr hlocks hK hP hD hS (⟨pa2_56, pd2_57, pb2_58, pp2_59, by omega, by omega, by omega, by omega, rfl⟩) (Nat.le_of_ble_eq_true rfl) (Nat.le_of_ble_eq_true rfl) dX12_qAsksWord_174
  by_cases g_64 : o = 7
  · refine lv_tableIn (off := 132) (tgt := 133) hx hb dX12_qAsksWord_1 (by rw [g_64]; decide) (by rw [g_64]; decide) (by rw [g_64]; rfl) (by decide) ?_
    refine lv_aload_n hx hb dX12_qAsksWord_133 rfl (lv_at hl 0 rfl) ?_
    refine lv_aload_n hx hb dX12_qAsksWord_134 rfl (lv_at hl 0 rfl) ?_
    refine sk_get (v := .ref (g 77)) (C := RX12) (T := TX12) (N := 92) hx hb hts inlX12 hown hK hP 0 rfl rfl 77 (by decide) w_5_232 rfl dX12_qAsksWord_135 ?_
    refine sk_Vv (q0 := 0) (n := 1) (rest := []) (wr := [(g 70, .inl (cC, 4, .inl ch70)), (g 71, .inl (cC, 5, .inl ch71)), (g 72, .inl (cC, 3, .inl ch72)), (g 73, .inl (cC, 3, .inl ch73)), (g 74, .inl (cC, 4, .inl ch74)), (g 75, .inl (cC, 4, .inl ch75)), (g 76, .inl (cC, 5, .inl ch76)), (g 78, .inl (cC, 4, .inl ch78)), (g 58, .inl (cC, 5, .inl ch58)), (g 79, .inl (cC, 5, .inl ch79))]) ⟨hx, hb, hml, hown, hts⟩ hl.1 (c_m_asks l D cI cJ cC cZ cS mm g ta pa pe pd pb pp pf pg pn rt rn cd sn il tk am at_ aa wt wy rm ud nu sd qn qw qo qb qp qa qi oc tb (g 77) 6 ch77 (by omega) (by omega) (by omega) (by omega) (by omega) htb) w_6_210 w_6_212 w_0_42 w_1_14 w_6_213 (by decide +kernel) ⟨⟨(Nat.le_of_ble_eq_true rfl), (Nat.le_of_ble_eq_true rfl)⟩, (Nat.le_of_ble_eq_true rfl), (Nat.le_of_ble_eq_true rfl)⟩ hK hP hD hS hA [0, 1, 9] [2, 3, 4, 5, 6, 7, 8, 10, 11, 12] rfl rfl (by decide) (by decide) (by decide) rfl rfl rfl rfl (Nat.le_of_ble_eq_true rfl) dX12_qAsksWord_138 (fun u H locs hw hP hD hS => ?_)
    obtain ⟨pa2_65, pd2_66, pb2_67, pp2_68, hpa2_69, hpa3_70, hpb2_71, hpb3_72, rfl⟩ := hw
    have hP : va_P D vwCl [(g 70, .inl (cC, 4, .inl ch70)), (g 71, .inl (cC, 5, .inl ch71)), (g 72, .inl (cC, 3, .inl ch72)), (g 73, .inl (cC, 3, .inl ch73)), (g 74, .inl (cC, 4, .inl ch74)), (g 75, .inl (cC, 4, .inl ch75)), (g 76, .inl (cC, 5, .inl ch76)), (g 78, .inl (cC, 4, .inl ch78)), (g 58, .inl (cC, 5, .inl ch58)), (g 79, .inl (cC, 5, .inl ch79)), (mm, .inr (12, mo g (nI ta) (nI pa2_65) (nI pe) pd2_66 (nI pb2_67) pp2_68 pf pg pn rt rn (nI cd) sn (nI il) tk am at_ aa 0 0 (-1) wt wy 0 (nI rm) (nI ud) (nI nu) sd (nI qn) (nI qw) qo (nI qb) (nI qp) qa (nI qi) (nI oc))), (g 0, .inl (cI, 1600, .inl (fun j => nI (tb j)))), (g 77, .inl (cC, 6, .inl ch77))] H := hP
    have hD : va_D A [(g 70, .inl (cC, 4, .inl ch70)), (g 71, .inl (cC, 5, .inl ch71)), (g 72, .inl (cC, 3, .inl ch72)), (g 73, .inl (cC, 3, .inl ch73)), (g 74, .inl (cC, 4, .inl ch74)), (g 75, .inl (cC, 4, .inl ch75)), (g 76, .inl (cC, 5, .inl ch76)), (g 78, .inl (cC, 4, .inl ch78)), (g 58, .inl (cC, 5, .inl ch58)), (g 79, .inl (cC, 5, .inl ch79)), (mm, .inr (12, mo g (nI ta) (nI pa2_65) (nI pe) pd2_66 (nI pb2_67) pp2_68 pf pg pn rt rn (nI cd) sn (nI il) tk am at_ aa 0 0 (-1) wt wy 0 (nI rm) (nI ud) (nI nu) sd (nI qn) (nI qw) qo (nI qb) (nI qp) qa (nI qi) (nI oc))), (g 0, .inl (cI, 1600, .inl (fun j => nI (tb j)))), (g 77, .inl (cC, 6, .inl ch77))] := hD
    refine lv_goto (tgt := 174) hx hb dX12_qAsksWord_141 (by decide) ?_
    have hP := hP.sub (ws' := [(mm, .inr (12, mo g (nI ta) (nI pa2_65) (nI pe) pd2_66 (nI pb2_67) pp2_68 pf pg pn rt rn (nI cd) sn (nI il) tk am at_ aa 0 0 (-1) wt wy 0 (nI rm) (nI ud) (nI nu) sd (nI qn) (nI qw) qo (nI qb) (nI qp) qa (nI qi) (nI oc))), (g 0, .inl (cI, 1600, .inl (fun j => nI (tb j)))), (g 70, .inl (cC, 4, .inl ch70)), (g 71, .inl (cC, 5, .inl ch71)), (g 72, .inl (cC, 3, .inl ch72)), (g 73, .inl (cC, 3, .inl ch73)), (g 74, .inl (cC, 4, .inl ch74)), (g 75, .inl (cC, 4, .inl ch75)), (g 76, .inl (cC, 5, .inl ch76)), (g 77, .inl (cC, 6, .inl ch77)), (g 78, .inl (cC, 4, .inl ch78)), (g 58, .inl (cC, 5, .inl ch58)), (g 79, .inl (cC, 5, .inl ch79))]) [10, 11, 0, 1, 2, 3, 4, 5, 6, 12, 7, 8, 9] rfl
    have hD := hD.sub (ws' := [(mm, .inr (12, mo g (nI ta) (nI pa2_65) (nI pe) pd2_66 (nI pb2_67) pp2_68 pf pg pn rt rn (nI cd) sn (nI il) tk am at_ aa 0 0 (-1) wt wy 0 (nI rm) (nI ud) (nI nu) sd (nI qn) (nI qw) qo (nI qb) (nI qp) qa (nI qi) (nI oc))), (g 0, .inl (cI, 1600, .inl (fun j => nI (tb j)))), (g 70, .inl (cC, 4, .inl ch70)), (g 71, .inl (cC, 5, .inl ch71)), (g 72, .inl (cC, 3, .inl ch72)), (g 73, .inl (cC, 3, .inl ch73)), (g 74, .inl (cC, 4, .inl ch74)), (g 75, .inl (cC, 4, .inl ch75)), (g 76, .inl (cC, 5, .inl ch76)), (g 77, .inl (cC, 6, .inl ch77)), (g 78, .inl (cC, 4, .inl ch78)), (g 58, .inl (cC, 5, .inl ch58)), (g 79, .inl (cC, 5, .inl ch79))]) [10, 11, 0, 1, 2, 3, 4, 5, 6, 12, 7, 8, 9] (by decide) rfl
    exact sk_vret hx hb hr hlocks hK hP hD hS (⟨pa2_65, pd2_66, pb2_67, pp2_68, by omega, by omega, by omega, by omega, rfl⟩) (Nat.le_of_ble_eq_true rfl) (Nat.le_of_ble_eq_true rfl) dX12_qAsksWord_174
  by_cases g_73 : o = 8
  · refine lv_tableIn (off := 143) (tgt := 144) hx hb dX12_qAsksWord_1 (by rw [g_73]; decide) (by rw [g_73]; decide) (by rw [g_73]; rfl) (by decide) ?_
    refine lv_aload_n hx hb dX12_qAsksWord_144 rfl (lv_at hl 0 rfl) ?_
    refine lv_aload_n hx hb dX12_qAsksWord_145 rfl (lv_at hl 0 rfl) ?_
    refine sk_get (v := .ref (g 78)) (C := RX12) (T := TX12) (N := 92) hx hb hts inlX12 hown hK hP 0 rfl rfl 78 (by decide) w_5_233 rfl dX12_qAsksWord_146 ?_
    refine sk_Vv (q0 := 0) (n := 1) (rest := []) (wr := [(g 70, .inl (cC, 4, .inl ch70)), (g 71, .inl (cC, 5, .inl ch71)), (g 72, .inl (cC, 3, .inl ch72)), (g 73, .inl (cC, 3, .inl ch73)), (g 74, .inl (cC, 4, .inl ch74)), (g 75, .inl (cC, 4, .inl ch75)), (g 76, .inl (cC, 5, .inl ch76)), (g 77, .inl (cC, 6, .inl ch77)), (g 58, .inl (cC, 5, .inl ch58)), (g 79, .inl (cC, 5, .inl ch79))]) ⟨hx, hb, hml, hown, hts⟩ hl.1 (c_m_asks l D cI cJ cC cZ cS mm g ta pa pe pd pb pp pf pg pn rt rn cd sn il tk am at_ aa wt wy rm ud nu sd qn qw qo qb qp qa qi oc tb (g 78) 4 ch78 (by omega) (by omega) (by omega) (by omega) (by omega) htb) w_6_210 w_6_212 w_0_42 w_1_14 w_6_213 (by decide +kernel) ⟨⟨(Nat.le_of_ble_eq_true rfl), (Nat.le_of_ble_eq_true rfl)⟩, (Nat.le_of_ble_eq_true rfl), (Nat.le_of_ble_eq_true rfl)⟩ hK hP hD hS hA [0, 1, 10] [2, 3, 4, 5, 6, 7, 8, 9, 11, 12] rfl rfl (by decide) (by decide) (by decide) rfl rfl rfl rfl (Nat.le_of_ble_eq_true rfl) dX12_qAsksWord_149 (fun u H locs hw hP hD hS => ?_)
    obtain ⟨pa2_74, pd2_75, pb2_76, pp2_77, hpa2_78, hpa3_79, hpb2_80, hpb3_81, rfl⟩ := hw
    have hP : va_P D vwCl [(g 70, .inl (cC, 4, .inl ch70)), (g 71, .inl (cC, 5, .inl ch71)), (g 72, .inl (cC, 3, .inl ch72)), (g 73, .inl (cC, 3, .inl ch73)), (g 74, .inl (cC, 4, .inl ch74)), (g 75, .inl (cC, 4, .inl ch75)), (g 76, .inl (cC, 5, .inl ch76)), (g 77, .inl (cC, 6, .inl ch77)), (g 58, .inl (cC, 5, .inl ch58)), (g 79, .inl (cC, 5, .inl ch79)), (mm, .inr (12, mo g (nI ta) (nI pa2_74) (nI pe) pd2_75 (nI pb2_76) pp2_77 pf pg pn rt rn (nI cd) sn (nI il) tk am at_ aa 0 0 (-1) wt wy 0 (nI rm) (nI ud) (nI nu) sd (nI qn) (nI qw) qo (nI qb) (nI qp) qa (nI qi) (nI oc))), (g 0, .inl (cI, 1600, .inl (fun j => nI (tb j)))), (g 78, .inl (cC, 4, .inl ch78))] H := hP
    have hD : va_D A [(g 70, .inl (cC, 4, .inl ch70)), (g 71, .inl (cC, 5, .inl ch71)), (g 72, .inl (cC, 3, .inl ch72)), (g 73, .inl (cC, 3, .inl ch73)), (g 74, .inl (cC, 4, .inl ch74)), (g 75, .inl (cC, 4, .inl ch75)), (g 76, .inl (cC, 5, .inl ch76)), (g 77, .inl (cC, 6, .inl ch77)), (g 58, .inl (cC, 5, .inl ch58)), (g 79, .inl (cC, 5, .inl ch79)), (mm, .inr (12, mo g (nI ta) (nI pa2_74) (nI pe) pd2_75 (nI pb2_76) pp2_77 pf pg pn rt rn (nI cd) sn (nI il) tk am at_ aa 0 0 (-1) wt wy 0 (nI rm) (nI ud) (nI nu) sd (nI qn) (nI qw) qo (nI qb) (nI qp) qa (nI qi) (nI oc))), (g 0, .inl (cI, 1600, .inl (fun j => nI (tb j)))), (g 78, .inl (cC, 4, .inl ch78))] := hD
    refine lv_goto (tgt := 174) hx hb dX12_qAsksWord_152 (by decide) ?_
    have hP := hP.sub (ws' := [(mm, .inr (12, mo g (nI ta) (nI pa2_74) (nI pe) pd2_75 (nI pb2_76) pp2_77 pf pg pn rt rn (nI cd) sn (nI il) tk am at_ aa 0 0 (-1) wt wy 0 (nI rm) (nI ud) (nI nu) sd (nI qn) (nI qw) qo (nI qb) (nI qp) qa (nI qi) (nI oc))), (g 0, .inl (cI, 1600, .inl (fun j => nI (tb j)))), (g 70, .inl (cC, 4, .inl ch70)), (g 71, .inl (cC, 5, .inl ch71)), (g 72, .inl (cC, 3, .inl ch72)), (g 73, .inl (cC, 3, .inl ch73)), (g 74, .inl (cC, 4, .inl ch74)), (g 75, .inl (cC, 4, .inl ch75)), (g 76, .inl (cC, 5, .inl ch76)), (g 77, .inl (cC, 6, .inl ch77)), (g 78, .inl (cC, 4, .inl ch78)), (g 58, .inl (cC, 5, .inl ch58)), (g 79, .inl (cC, 5, .inl ch79))]) [10, 11, 0, 1, 2, 3, 4, 5, 6, 7, 12, 8, 9] rfl
    have hD := hD.sub (ws' := [(mm, .inr (12, mo g (nI ta) (nI pa2_74) (nI pe) pd2_75 (nI pb2_76) pp2_77 pf pg pn rt rn (nI cd) sn (nI il) tk am at_ aa 0 0 (-1) wt wy 0 (nI rm) (nI ud) (nI nu) sd (nI qn) (nI qw) qo (nI qb) (nI qp) qa (nI qi) (nI oc))), (g 0, .inl (cI, 1600, .inl (fun j => nI (tb j)))), (g 70, .inl (cC, 4, .inl ch70)), (g 71, .inl (cC, 5, .inl ch71)), (g 72, .inl (cC, 3, .inl ch72)), (g 73, .inl (cC, 3, .inl ch73)), (g 74, .inl (cC, 4, .inl ch74)), (g 75, .inl (cC, 4, .inl ch75)), (g 76, .inl (cC, 5, .inl ch76)), (g 77, .inl (cC, 6, .inl ch77)), (g 78, .inl (cC, 4, .inl ch78)), (g 58, .inl (cC, 5, .inl ch58)), (g 79, .inl (cC, 5, .inl ch79))]) [10, 11, 0, 1, 2, 3, 4, 5, 6, 7, 12, 8, 9] (by decide) rfl
    exact sk_vret hx hb hr hlocks hK hP hD hS (⟨pa2_74, pd2_75, pb2_76, pp2_77, by omega, by omega, by omega, by omega, rfl⟩) (Nat.le_of_ble_eq_true rfl) (Nat.le_of_ble_eq_true rfl) dX12_qAsksWord_174
  by_cases g_82 : o = 9
  · refine lv_tableIn (off := 154) (tgt := 155) hx hb dX12_qAsksWord_1 (by rw [g_82]; decide) (by rw [g_82]; decide) (by rw [g_82]; rfl) (by decide) ?_
    refine lv_aload_n hx hb dX12_qAsksWord_155 rfl (lv_at hl 0 rfl) ?_
    refine lv_aload_n hx hb dX12_qAsksWord_156 rfl (lv_at hl 0 rfl) ?_
    refine sk_get (v := .ref (g 58)) (C := RX12) (T := TX12) (N := 92) hx hb hts inlX12 hown hK hP 0 rfl rfl 58 (by decide) w_5_213 rfl dX12_qAsksWord_157 ?_
    refine sk_Vv (q0 := 0) (n := 1) (rest := []) (wr := [(g 70, .inl (cC, 4, .inl ch70)), (g 71, .inl (cC, 5, .inl ch71)), (g 72, .inl (cC, 3, .inl ch72)), (g 73, .inl (cC, 3, .inl ch73)), (g 74, .inl (cC, 4, .inl ch74)), (g 75, .inl (cC, 4, .inl ch75)), (g 76, .inl (cC, 5, .inl ch76)), (g 77, .inl (cC, 6, .inl ch77)), (g 78, .inl (cC, 4, .inl ch78)), (g 79, .inl (cC, 5, .inl ch79))]) ⟨hx, hb, hml, hown, hts⟩ hl.1 (c_m_asks l D cI cJ cC cZ cS mm g ta pa pe pd pb pp pf pg pn rt rn cd sn il tk am at_ aa wt wy rm ud nu sd qn qw qo qb qp qa qi oc tb (g 58) 5 ch58 (by omega) (by omega) (by omega) (by omega) (by omega) htb) w_6_210 w_6_212 w_0_42 w_1_14 w_6_213 (by decide +kernel) ⟨⟨(Nat.le_of_ble_eq_true rfl), (Nat.le_of_ble_eq_true rfl)⟩, (Nat.le_of_ble_eq_true rfl), (Nat.le_of_ble_eq_true rfl)⟩ hK hP hD hS hA [0, 1, 11] [2, 3, 4, 5, 6, 7, 8, 9, 10, 12] rfl rfl (by decide) (by decide) (by decide) rfl rfl rfl rfl (Nat.le_of_ble_eq_true rfl) dX12_qAsksWord_160 (fun u H locs hw hP hD hS => ?_)
    obtain ⟨pa2_83, pd2_84, pb2_85, pp2_86, hpa2_87, hpa3_88, hpb2_89, hpb3_90, rfl⟩ := hw
    have hP : va_P D vwCl [(g 70, .inl (cC, 4, .inl ch70)), (g 71, .inl (cC, 5, .inl ch71)), (g 72, .inl (cC, 3, .inl ch72)), (g 73, .inl (cC, 3, .inl ch73)), (g 74, .inl (cC, 4, .inl ch74)), (g 75, .inl (cC, 4, .inl ch75)), (g 76, .inl (cC, 5, .inl ch76)), (g 77, .inl (cC, 6, .inl ch77)), (g 78, .inl (cC, 4, .inl ch78)), (g 79, .inl (cC, 5, .inl ch79)), (mm, .inr (12, mo g (nI ta) (nI pa2_83) (nI pe) pd2_84 (nI pb2_85) pp2_86 pf pg pn rt rn (nI cd) sn (nI il) tk am at_ aa 0 0 (-1) wt wy 0 (nI rm) (nI ud) (nI nu) sd (nI qn) (nI qw) qo (nI qb) (nI qp) qa (nI qi) (nI oc))), (g 0, .inl (cI, 1600, .inl (fun j => nI (tb j)))), (g 58, .inl (cC, 5, .inl ch58))] H := hP
    have hD : va_D A [(g 70, .inl (cC, 4, .inl ch70)), (g 71, .inl (cC, 5, .inl ch71)), (g 72, .inl (cC, 3, .inl ch72)), (g 73, .inl (cC, 3, .inl ch73)), (g 74, .inl (cC, 4, .inl ch74)), (g 75, .inl (cC, 4, .inl ch75)), (g 76, .inl (cC, 5, .inl ch76)), (g 77, .inl (cC, 6, .inl ch77)), (g 78, .inl (cC, 4, .inl ch78)), (g 79, .inl (cC, 5, .inl ch79)), (mm, .inr (12, mo g (nI ta) (nI pa2_83) (nI pe) pd2_84 (nI pb2_85) pp2_86 pf pg pn rt rn (nI cd) sn (nI il) tk am at_ aa 0 0 (-1) wt wy 0 (nI rm) (nI ud) (nI nu) sd (nI qn) (nI qw) qo (nI qb) (nI qp) qa (nI qi) (nI oc))), (g 0, .inl (cI, 1600, .inl (fun j => nI (tb j)))), (g 58, .inl (cC, 5, .inl ch58))] := hD
    refine lv_goto (tgt := 174) hx hb dX12_qAsksWord_163 (by decide) ?_
    have hP := hP.sub (ws' := [(mm, .inr (12, mo g (nI ta) (nI pa2_83) (nI pe) pd2_84 (nI pb2_85) pp2_86 pf pg pn rt rn (nI cd) sn (nI il) tk am at_ aa 0 0 (-1) wt wy 0 (nI rm) (nI ud) (nI nu) sd (nI qn) (nI qw) qo (nI qb) (nI qp) qa (nI qi) (nI oc))), (g 0, .inl (cI, 1600, .inl (fun j => nI (tb j)))), (g 70, .inl (cC, 4, .inl ch70)), (g 71, .inl (cC, 5, .inl ch71)), (g 72, .inl (cC, 3, .inl ch72)), (g 73, .inl (cC, 3, .inl ch73)), (g 74, .inl (cC, 4, .inl ch74)), (g 75, .inl (cC, 4, .inl ch75)), (g 76, .inl (cC, 5, .inl ch76)), (g 77, .inl (cC, 6, .inl ch77)), (g 78, .inl (cC, 4, .inl ch78)), (g 58, .inl (cC, 5, .inl ch58)), (g 79, .inl (cC, 5, .inl ch79))]) [10, 11, 0, 1, 2, 3, 4, 5, 6, 7, 8, 12, 9] rfl
    have hD := hD.sub (ws' := [(mm, .inr (12, mo g (nI ta) (nI pa2_83) (nI pe) pd2_84 (nI pb2_85) pp2_86 pf pg pn rt rn (nI cd) sn (nI il) tk am at_ aa 0 0 (-1) wt wy 0 (nI rm) (nI ud) (nI nu) sd (nI qn) (nI qw) qo (nI qb) (nI qp) qa (nI qi) (nI oc))), (g 0, .inl (cI, 1600, .inl (fun j => nI (tb j)))), (g 70, .inl (cC, 4, .inl ch70)), (g 71, .inl (cC, 5, .inl ch71)), (g 72, .inl (cC, 3, .inl ch72)), (g 73, .inl (cC, 3, .inl ch73)), (g 74, .inl (cC, 4, .inl ch74)), (g 75, .inl (cC, 4, .inl ch75)), (g 76, .inl (cC, 5, .inl ch76)), (g 77, .inl (cC, 6, .inl ch77)), (g 78, .inl (cC, 4, .inl ch78)), (g 58, .inl (cC, 5, .inl ch58)), (g 79, .inl (cC, 5, .inl ch79))]) [10, 11, 0, 1, 2, 3, 4, 5, 6, 7, 8, 12, 9] (by decide) rfl
    exact sk_vret hx hb hr hlocks hK hP hD hS (⟨pa2_83, pd2_84, pb2_85, pp2_86, by omega, by omega, by omega, by omega, rfl⟩) (Nat.le_of_ble_eq_true rfl) (Nat.le_of_ble_eq_true rfl) dX12_qAsksWord_174
  refine lv_tableOut (tgt := 166) hx hb dX12_qAsksWord_1 (sk_out (n := 9) (by intro k hk; rcases (show k = 0 ∨ k = 1 ∨ k = 2 ∨ k = 3 ∨ k = 4 ∨ k = 5 ∨ k = 6 ∨ k = 7 ∨ k = 8 ∨ k = 9 by omega) with rfl | rfl | rfl | rfl | rfl | rfl | rfl | rfl | rfl | rfl <;> assumption)) (by decide) ?_
  refine lv_aload_n hx hb dX12_qAsksWord_166 rfl (lv_at hl 0 rfl) ?_
  refine lv_aload_n hx hb dX12_qAsksWord_167 rfl (lv_at hl 0 rfl) ?_
  refine sk_get (v := .ref (g 79)) (C := RX12) (T := TX12) (N := 92) hx hb hts inlX12 hown hK hP 0 rfl rfl 79 (by decide) w_5_234 rfl dX12_qAsksWord_168 ?_
  refine sk_Vv (q0 := 0) (n := 1) (rest := []) (wr := [(g 70, .inl (cC, 4, .inl ch70)), (g 71, .inl (cC, 5, .inl ch71)), (g 72, .inl (cC, 3, .inl ch72)), (g 73, .inl (cC, 3, .inl ch73)), (g 74, .inl (cC, 4, .inl ch74)), (g 75, .inl (cC, 4, .inl ch75)), (g 76, .inl (cC, 5, .inl ch76)), (g 77, .inl (cC, 6, .inl ch77)), (g 78, .inl (cC, 4, .inl ch78)), (g 58, .inl (cC, 5, .inl ch58))]) ⟨hx, hb, hml, hown, hts⟩ hl.1 (c_m_asks l D cI cJ cC cZ cS mm g ta pa pe pd pb pp pf pg pn rt rn cd sn il tk am at_ aa wt wy rm ud nu sd qn qw qo qb qp qa qi oc tb (g 79) 5 ch79 (by omega) (by omega) (by omega) (by omega) (by omega) htb) w_6_210 w_6_212 w_0_42 w_1_14 w_6_213 (by decide +kernel) ⟨⟨(Nat.le_of_ble_eq_true rfl), (Nat.le_of_ble_eq_true rfl)⟩, (Nat.le_of_ble_eq_true rfl), (Nat.le_of_ble_eq_true rfl)⟩ hK hP hD hS hA [0, 1, 12] [2, 3, 4, 5, 6, 7, 8, 9, 10, 11] rfl rfl (by decide) (by decide) (by decide) rfl rfl rfl rfl (Nat.le_of_ble_eq_true rfl) dX12_qAsksWord_171 (fun u H locs hw hP hD hS => ?_)
  obtain ⟨pa2_91, pd2_92, pb2_93, pp2_94, hpa2_95, hpa3_96, hpb2_97, hpb3_98, rfl⟩ := hw
  have hP : va_P D vwCl [(g 70, .inl (cC, 4, .inl ch70)), (g 71, .inl (cC, 5, .inl ch71)), (g 72, .inl (cC, 3, .inl ch72)), (g 73, .inl (cC, 3, .inl ch73)), (g 74, .inl (cC, 4, .inl ch74)), (g 75, .inl (cC, 4, .inl ch75)), (g 76, .inl (cC, 5, .inl ch76)), (g 77, .inl (cC, 6, .inl ch77)), (g 78, .inl (cC, 4, .inl ch78)), (g 58, .inl (cC, 5, .inl ch58)), (mm, .inr (12, mo g (nI ta) (nI pa2_91) (nI pe) pd2_92 (nI pb2_93) pp2_94 pf pg pn rt rn (nI cd) sn (nI il) tk am at_ aa 0 0 (-1) wt wy 0 (nI rm) (nI ud) (nI nu) sd (nI qn) (nI qw) qo (nI qb) (nI qp) qa (nI qi) (nI oc))), (g 0, .inl (cI, 1600, .inl (fun j => nI (tb j)))), (g 79, .inl (cC, 5, .inl ch79))] H := hP
  have hD : va_D A [(g 70, .inl (cC, 4, .inl ch70)), (g 71, .inl (cC, 5, .inl ch71)), (g 72, .inl (cC, 3, .inl ch72)), (g 73, .inl (cC, 3, .inl ch73)), (g 74, .inl (cC, 4, .inl ch74)), (g 75, .inl (cC, 4, .inl ch75)), (g 76, .inl (cC, 5, .inl ch76)), (g 77, .inl (cC, 6, .inl ch77)), (g 78, .inl (cC, 4, .inl ch78)), (g 58, .inl (cC, 5, .inl ch58)), (mm, .inr (12, mo g (nI ta) (nI pa2_91) (nI pe) pd2_92 (nI pb2_93) pp2_94 pf pg pn rt rn (nI cd) sn (nI il) tk am at_ aa 0 0 (-1) wt wy 0 (nI rm) (nI ud) (nI nu) sd (nI qn) (nI qw) qo (nI qb) (nI qp) qa (nI qi) (nI oc))), (g 0, .inl (cI, 1600, .inl (fun j => nI (tb j)))), (g 79, .inl (cC, 5, .inl ch79))] := hD
  have hP := hP.sub (ws' := [(mm, .inr (12, mo g (nI ta) (nI pa2_91) (nI pe) pd2_92 (nI pb2_93) pp2_94 pf pg pn rt rn (nI cd) sn (nI il) tk am at_ aa 0 0 (-1) wt wy 0 (nI rm) (nI ud) (nI nu) sd (nI qn) (nI qw) qo (nI qb) (nI qp) qa (nI qi) (nI oc))), (g 0, .inl (cI, 1600, .inl (fun j => nI (tb j)))), (g 70, .inl (cC, 4, .inl ch70)), (g 71, .inl (cC, 5, .inl ch71)), (g 72, .inl (cC, 3, .inl ch72)), (g 73, .inl (cC, 3, .inl ch73)), (g 74, .inl (cC, 4, .inl ch74)), (g 75, .inl (cC, 4, .inl ch75)), (g 76, .inl (cC, 5, .inl ch76)), (g 77, .inl (cC, 6, .inl ch77)), (g 78, .inl (cC, 4, .inl ch78)), (g 58, .inl (cC, 5, .inl ch58)), (g 79, .inl (cC, 5, .inl ch79))]) [10, 11, 0, 1, 2, 3, 4, 5, 6, 7, 8, 9, 12] rfl
  have hD := hD.sub (ws' := [(mm, .inr (12, mo g (nI ta) (nI pa2_91) (nI pe) pd2_92 (nI pb2_93) pp2_94 pf pg pn rt rn (nI cd) sn (nI il) tk am at_ aa 0 0 (-1) wt wy 0 (nI rm) (nI ud) (nI nu) sd (nI qn) (nI qw) qo (nI qb) (nI qp) qa (nI qi) (nI oc))), (g 0, .inl (cI, 1600, .inl (fun j => nI (tb j)))), (g 70, .inl (cC, 4, .inl ch70)), (g 71, .inl (cC, 5, .inl ch71)), (g 72, .inl (cC, 3, .inl ch72)), (g 73, .inl (cC, 3, .inl ch73)), (g 74, .inl (cC, 4, .inl ch74)), (g 75, .inl (cC, 4, .inl ch75)), (g 76, .inl (cC, 5, .inl ch76)), (g 77, .inl (cC, 6, .inl ch77)), (g 78, .inl (cC, 4, .inl ch78)), (g 58, .inl (cC, 5, .inl ch58)), (g 79, .inl (cC, 5, .inl ch79))]) [10, 11, 0, 1, 2, 3, 4, 5, 6, 7, 8, 9, 12] (by decide) rfl
  exact sk_vret hx hb hr hlocks hK hP hD hS (⟨pa2_91, pd2_92, pb2_93, pp2_94, by omega, by omega, by omega, by omega, rfl⟩) (Nat.le_of_ble_eq_true rfl) (Nat.le_of_ble_eq_true rfl) dX12_qAsksWord_174
theorem dX12_qCode_0 : decode cX12_qCode 0 = .ok (.aload_n 0, 1) := by decide +kernel
theorem dX12_qCode_1 : decode cX12_qCode 1 = .ok (.getfield 180, 3) := by decide +kernel
theorem dX12_qCode_4 : decode cX12_qCode 4 = .ok (.aload_n 0, 1) := by decide +kernel
theorem dX12_qCode_5 : decode cX12_qCode 5 = .ok (.getfield 257, 3) := by decide +kernel
theorem dX12_qCode_8 : decode cX12_qCode 8 = .ok (.iload_n 1, 1) := by decide +kernel
theorem dX12_qCode_9 : decode cX12_qCode 9 = .ok (.iastore, 1) := by decide +kernel
theorem dX12_qCode_10 : decode cX12_qCode 10 = .ok (.aload_n 0, 1) := by decide +kernel
theorem dX12_qCode_11 : decode cX12_qCode 11 = .ok (.dup, 1) := by decide +kernel
theorem dX12_qCode_12 : decode cX12_qCode 12 = .ok (.getfield 257, 3) := by decide +kernel
theorem dX12_qCode_15 : decode cX12_qCode 15 = .ok (.iconst 1, 1) := by decide +kernel
theorem dX12_qCode_16 : decode cX12_qCode 16 = .ok (.iadd, 1) := by decide +kernel
theorem dX12_qCode_17 : decode cX12_qCode 17 = .ok (.putfield 257, 3) := by decide +kernel
theorem dX12_qCode_20 : decode cX12_qCode 20 = .ok (.return_, 1) := by decide +kernel
theorem w_5_235 : (Cond.fieldLink RX12 180 "SameKeeperModel" "qCodes" "[I") ∈ wsL_law := sk_mem (ck_5 _ (List.mem_of_getElem? (i := 235) rfl)) rfl
theorem w_5_236 : (Cond.fieldLink RX12 257 "SameKeeperModel" "qCoded" "I") ∈ wsL_law := sk_mem (ck_5 _ (List.mem_of_getElem? (i := 236) rfl)) rfl
theorem w_7_58 : (Cond.code yX12_qCode cX12_qCode 2 none) ∈ wsL_law := sk_mem (ck_7 _ (List.mem_of_getElem? (i := 58) rfl)) rfl
set_option maxHeartbeats 4000000 in
set_option maxRecDepth 100000 in
theorem c_m_qCode (l : Launch) (D : va_G) (cI cJ cC cZ cS : ClassId) (mm : Nat) (g : Nat → Nat) (ta : Nat) (pa : Nat) (pe : Nat) (pd : Int32) (pb : Nat) (pp : Int32) (pf : Int32) (pg : Int32) (pn : Int32) (rt : Int32) (rn : Int32) (cd : Nat) (sn : Int32) (il : Nat) (tk : Int32) (am : Int32) (at_ : Int32) (aa : Int32) (wt : Int32) (wy : Int64) (rm : Nat) (ud : Nat) (nu : Nat) (sd : Int64) (qn : Nat) (qw : Nat) (qo : Int32) (qb : Nat) (qp : Nat) (qa : Int64) (qi : Nat) (oc : Nat) (o : Nat) (qs : Nat → Nat) (hqn : qn < 1700) (ho : o ≤ 20000) (hqs : ∀ j, qs j ≤ 20000) : skM l yX12_qCode cX12_qCode 2 none 0 0 0 0 D (skT cI cJ cC cZ cS) [.ref mm, .int (nI o)] [(mm, .inr (12, mo g (nI ta) (nI pa) (nI pe) pd (nI pb) pp pf pg pn rt rn (nI cd) sn (nI il) tk am at_ aa 0 0 (-1) wt wy 0 (nI rm) (nI ud) (nI nu) sd (nI qn) (nI qw) qo (nI qb) (nI qp) qa (nI qi) (nI oc))), (g 80, .inl (cI, 1700, .inl (fun j => nI (qs j))))] (skV D (skT cI cJ cC cZ cS) (fun (u : va_W) => ∃ (qs2 : Nat → Nat), qs2 = updN qs qn o ∧ (∀ j, qs2 j ≤ 20000) ∧ u = [(mm, .inr (12, mo g (nI ta) (nI pa) (nI pe) pd (nI pb) pp pf pg pn rt rn (nI cd) sn (nI il) tk am at_ aa 0 0 (-1) wt wy 0 (nI rm) (nI ud) (nI nu) sd (nI (qn + 1)) (nI qw) qo (nI qb) (nI qp) qa (nI qi) (nI oc))), (g 80, .inl (cI, 1700, .inl (fun j => nI (qs2 j))))])) := by
  refine skM_of (by decide +kernel) (Nat.le_of_ble_eq_true rfl) ?_
  intro p e s m below meth c A ls E hP hD hl
  obtain ⟨hx, hb, hr, hml, hlocks, hin, hown, hts, hK, hA⟩ := E
  have hown : s.vm.findClass RX12 = some m.cls := hown
  have hS : va_S A s.heap s.heap [] := va_S.rf
  have hl : lv_has ls 2 [(0, .ref mm), (1, .int (nI o))] := hl
  refine lv_aload_n hx hb dX12_qCode_0 rfl (lv_at hl 0 rfl) ?_
  refine sk_get (v := .ref (g 80)) (C := RX12) (T := TX12) (N := 92) hx hb hts inlX12 hown hK hP 0 rfl rfl 80 (by decide) w_5_235 rfl dX12_qCode_1 ?_
  refine lv_aload_n hx hb dX12_qCode_4 rfl (lv_at hl 0 rfl) ?_
  refine sk_get (v := .int (nI qn)) (C := RX12) (T := TX12) (N := 92) hx hb hts inlX12 hown hK hP 0 rfl rfl 81 (by decide) w_5_236 rfl dX12_qCode_5 ?_
  refine lv_iload_n hx hb dX12_qCode_8 rfl (lv_at hl 1 rfl) ?_
  refine sk_iastE (k := qn) (v := o) (B := 20000) (ws' := fun f_1 => [(mm, .inr (12, mo g (nI ta) (nI pa) (nI pe) pd (nI pb) pp pf pg pn rt rn (nI cd) sn (nI il) tk am at_ aa 0 0 (-1) wt wy 0 (nI rm) (nI ud) (nI nu) sd (nI qn) (nI qw) qo (nI qb) (nI qp) qa (nI qi) (nI oc))), (g 80, .inl (cI, 1700, .inl (fun j => nI (f_1 j))))]) hx hb hK hP hD hS 1 0 rfl rfl (by omega) (by omega) hqs (by omega) (fun _ => rfl) dX12_qCode_9 (fun f_1 H locs hf_2 ef_3 hP hD hS => ?_)
  refine lv_aload_n hx hb dX12_qCode_10 rfl (lv_at hl 0 rfl) ?_
  refine lv_dup hx hb dX12_qCode_11 rfl ?_
  refine sk_get (v := .int (nI qn)) (C := RX12) (T := TX12) (N := 92) hx hb hts inlX12 hown hK hP 0 rfl rfl 81 (by decide) w_5_236 rfl dX12_qCode_12 ?_
  refine lv_iconst (v := 1) hx hb dX12_qCode_15 (by decide) ?_
  refine lv_iadd hx hb dX12_qCode_16 ?_
  refine sk_top (nI (qn + 1)) (nI_add qn 1) ?_
  refine sk_put (ws' := [(mm, .inr (12, mo g (nI ta) (nI pa) (nI pe) pd (nI pb) pp pf pg pn rt rn (nI cd) sn (nI il) tk am at_ aa 0 0 (-1) wt wy 0 (nI rm) (nI ud) (nI nu) sd (nI (qn + 1)) (nI qw) qo (nI qb) (nI qp) qa (nI qi) (nI oc))), (g 80, .inl (cI, 1700, .inl (fun j => nI (f_1 j))))]) (C := RX12) (T := TX12) (N := 92) (v := .int (nI (qn + 1))) hx hb hts inlX12 tyX12 tyX12_ok nmX12 hown hK hP hD hS 0 rfl rfl 81 (by decide) w_5_236 rfl rfl rfl (Nat.le_of_ble_eq_true rfl) rfl dX12_qCode_17 (fun H locs hP hD hS => ?_)
  exact sk_vret hx hb hr hlocks hK hP hD hS (⟨f_1, ef_3, hf_2, rfl⟩) (Nat.le_of_ble_eq_true rfl) (Nat.le_of_ble_eq_true rfl) dX12_qCode_20
theorem dX12_qOpens_0 : decode cX12_qOpens 0 = .ok (.aload_n 0, 1) := by decide +kernel
theorem dX12_qOpens_1 : decode cX12_qOpens 1 = .ok (.getfield 195, 3) := by decide +kernel
theorem dX12_qOpens_4 : decode cX12_qOpens 4 = .ok (.ifCond .eq 4, 3) := by decide +kernel
theorem dX12_qOpens_8 : decode cX12_qOpens 8 = .ok (.aload_n 0, 1) := by decide +kernel
theorem dX12_qOpens_9 : decode cX12_qOpens 9 = .ok (.getfield 263, 3) := by decide +kernel
theorem dX12_qOpens_12 : decode cX12_qOpens 12 = .ok (.bipush 6, 2) := by decide +kernel
theorem dX12_qOpens_14 : decode cX12_qOpens 14 = .ok (.if_icmp .ne 10, 3) := by decide +kernel
theorem dX12_qOpens_24 : decode cX12_qOpens 24 = .ok (.aload_n 0, 1) := by decide +kernel
theorem dX12_qOpens_25 : decode cX12_qOpens 25 = .ok (.dup, 1) := by decide +kernel
theorem dX12_qOpens_26 : decode cX12_qOpens 26 = .ok (.getfield 263, 3) := by decide +kernel
theorem dX12_qOpens_29 : decode cX12_qOpens 29 = .ok (.iconst 1, 1) := by decide +kernel
theorem dX12_qOpens_30 : decode cX12_qOpens 30 = .ok (.iadd, 1) := by decide +kernel
theorem dX12_qOpens_31 : decode cX12_qOpens 31 = .ok (.putfield 263, 3) := by decide +kernel
theorem dX12_qOpens_34 : decode cX12_qOpens 34 = .ok (.aload_n 0, 1) := by decide +kernel
theorem dX12_qOpens_35 : decode cX12_qOpens 35 = .ok (.getfield 183, 3) := by decide +kernel
theorem dX12_qOpens_38 : decode cX12_qOpens 38 = .ok (.aload_n 0, 1) := by decide +kernel
theorem dX12_qOpens_39 : decode cX12_qOpens 39 = .ok (.getfield 260, 3) := by decide +kernel
theorem dX12_qOpens_42 : decode cX12_qOpens 42 = .ok (.iload_n 1, 1) := by decide +kernel
theorem dX12_qOpens_43 : decode cX12_qOpens 43 = .ok (.iastore, 1) := by decide +kernel
theorem dX12_qOpens_44 : decode cX12_qOpens 44 = .ok (.aload_n 0, 1) := by decide +kernel
theorem dX12_qOpens_45 : decode cX12_qOpens 45 = .ok (.dup, 1) := by decide +kernel
theorem dX12_qOpens_46 : decode cX12_qOpens 46 = .ok (.getfield 260, 3) := by decide +kernel
theorem dX12_qOpens_49 : decode cX12_qOpens 49 = .ok (.iconst 1, 1) := by decide +kernel
theorem dX12_qOpens_50 : decode cX12_qOpens 50 = .ok (.iadd, 1) := by decide +kernel
theorem dX12_qOpens_51 : decode cX12_qOpens 51 = .ok (.putfield 260, 3) := by decide +kernel
theorem dX12_qOpens_54 : decode cX12_qOpens 54 = .ok (.return_, 1) := by decide +kernel
theorem dX12_qOpens_17 : decode cX12_qOpens 17 = .ok (.aload_n 0, 1) := by decide +kernel
theorem dX12_qOpens_18 : decode cX12_qOpens 18 = .ok (.iconst 4, 1) := by decide +kernel
theorem dX12_qOpens_19 : decode cX12_qOpens 19 = .ok (.iload_n 2, 1) := by decide +kernel
theorem dX12_qOpens_20 : decode cX12_qOpens 20 = .ok (.invokevirtual 225, 3) := by decide +kernel
theorem dX12_qOpens_23 : decode cX12_qOpens 23 = .ok (.return_, 1) := by decide +kernel
theorem dX12_qOpens_7 : decode cX12_qOpens 7 = .ok (.return_, 1) := by decide +kernel
theorem w_5_239 : (Cond.fieldLink RX12 263 "SameKeeperModel" "qOpened" "I") ∈ wsL_law := sk_mem (ck_5 _ (List.mem_of_getElem? (i := 239) rfl)) rfl
theorem w_5_237 : (Cond.fieldLink RX12 183 "SameKeeperModel" "qWait" "[I") ∈ wsL_law := sk_mem (ck_5 _ (List.mem_of_getElem? (i := 237) rfl)) rfl
theorem w_5_238 : (Cond.fieldLink RX12 260 "SameKeeperModel" "qWaits" "I") ∈ wsL_law := sk_mem (ck_5 _ (List.mem_of_getElem? (i := 238) rfl)) rfl
theorem w_7_50 : (Cond.code yX12_qOpens cX12_qOpens 3 none) ∈ wsL_law := sk_mem (ck_7 _ (List.mem_of_getElem? (i := 50) rfl)) rfl
set_option maxHeartbeats 4000000 in
set_option maxRecDepth 100000 in
theorem c_m_qOpens (l : Launch) (D : va_G) (cI cJ cC cZ cS : ClassId) (mm : Nat) (g : Nat → Nat) (ta : Nat) (pa : Nat) (pe : Nat) (pd : Int32) (pb : Nat) (pp : Int32) (pf : Int32) (pg : Int32) (pn : Int32) (rt : Int32) (rn : Int32) (cd : Nat) (sn : Int32) (il : Nat) (tk : Int32) (am : Int32) (at_ : Int32) (aa : Int32) (wt : Int32) (wy : Int64) (rm : Nat) (ud : Nat) (nu : Nat) (sd : Int64) (qn : Nat) (qw : Nat) (qo : Int32) (qb : Nat) (qp : Nat) (qa : Int64) (qi : Nat) (oc : Nat) (w : Nat) (o : Int32) (qt : Nat → Nat) (hpb : pb ≤ 5) (hw : w ≤ 100) (hqw : qw < 1700) (hqt : ∀ j, qt j ≤ 100) : skM l yX12_qOpens cX12_qOpens 3 none 1 22 0 0 D (skT cI cJ cC cZ cS) [.ref mm, .int (nI w), .int o] [(mm, .inr (12, mo g (nI ta) (nI pa) (nI pe) pd (nI pb) pp pf pg pn rt rn (nI cd) sn (nI il) tk am at_ aa 0 0 (-1) wt wy 0 (nI rm) (nI ud) (nI nu) sd (nI qn) (nI qw) qo (nI qb) (nI qp) qa (nI qi) (nI oc))), (g 82, .inl (cI, 1700, .inl (fun j => nI (qt j))))] (skV D (skT cI cJ cC cZ cS) (fun (u : va_W) => ∃ (pb2 : Nat), ∃ (pp2 : Int32), ∃ (qo2 : Int32), ∃ (qw2 : Nat), ∃ (qt2 : Nat → Nat), pb2 ≤ 5 ∧ ((pb2 = 0 ∧ pb = 0 ∧ qw2 = qw + 1) ∨ (¬ pb2 = 0 ∧ qw2 = qw)) ∧ (pb2 = 0 → qt2 = updN qt qw w) ∧ (∀ j, qt2 j ≤ 100) ∧ u = [(mm, .inr (12, mo g (nI ta) (nI pa) (nI pe) pd (nI pb2) pp2 pf pg pn rt rn (nI cd) sn (nI il) tk am at_ aa 0 0 (-1) wt wy 0 (nI rm) (nI ud) (nI nu) sd (nI qn) (nI qw2) qo2 (nI qb) (nI qp) qa (nI qi) (nI oc))), (g 82, .inl (cI, 1700, .inl (fun j => nI (qt2 j))))])) := by
  refine skM_of (by decide +kernel) (Nat.le_of_ble_eq_true rfl) ?_
  intro p e s m below meth c A ls E hP hD hl
  obtain ⟨hx, hb, hr, hml, hlocks, hin, hown, hts, hK, hA⟩ := E
  have hown : s.vm.findClass RX12 = some m.cls := hown
  have hS : va_S A s.heap s.heap [] := va_S.rf
  have hl : lv_has ls 3 [(0, .ref mm), (1, .int (nI w)), (2, .int o)] := hl
  refine lv_aload_n hx hb dX12_qOpens_0 rfl (lv_at hl 0 rfl) ?_
  refine sk_get (v := .int (nI pb)) (C := RX12) (T := TX12) (N := 92) hx hb hts inlX12 hown hK hP 0 rfl rfl 5 (by decide) w_5_160 rfl dX12_qOpens_1 ?_
  refine lv_if_eq (tgt := 8) hx hb dX12_qOpens_4 (by decide) (fun c_1 => ?_) (fun c_1 => ?_)
  · have c_1 : pb = 0 := (neq pb 0 (by omega) (by omega)).mp c_1
    refine lv_aload_n hx hb dX12_qOpens_8 rfl (lv_at hl 0 rfl) ?_
    refine sk_get (v := .int qo) (C := RX12) (T := TX12) (N := 92) hx hb hts inlX12 hown hK hP 0 rfl rfl 84 (by decide) w_5_239 rfl dX12_qOpens_9 ?_
    refine lv_bipush (v := 6) hx hb dX12_qOpens_12 (by decide) ?_
    refine lv_icmp_ne (tgt := 24) hx hb dX12_qOpens_14 (by decide) (fun c_2 => ?_) (fun c_2 => ?_)
    · skip
      refine lv_aload_n hx hb dX12_qOpens_24 rfl (lv_at hl 0 rfl) ?_
      refine lv_dup hx hb dX12_qOpens_25 rfl ?_
      refine sk_get (v := .int qo) (C := RX12) (T := TX12) (N := 92) hx hb hts inlX12 hown hK hP 0 rfl rfl 84 (by decide) w_5_239 rfl dX12_qOpens_26 ?_
      refine lv_iconst (v := 1) hx hb dX12_qOpens_29 (by decide) ?_
      refine lv_iadd hx hb dX12_qOpens_30 ?_
      refine lv_topi (fun v_3 ev_3 => ?_)
      refine sk_put (ws' := [(mm, .inr (12, mo g (nI ta) (nI pa) (nI pe) pd (nI pb) pp pf pg pn rt rn (nI cd) sn (nI il) tk am at_ aa 0 0 (-1) wt wy 0 (nI rm) (nI ud) (nI nu) sd (nI qn) (nI qw) v_3 (nI qb) (nI qp) qa (nI qi) (nI oc))), (g 82, .inl (cI, 1700, .inl (fun j => nI (qt j))))]) (C := RX12) (T := TX12) (N := 92) (v := .int v_3) hx hb hts inlX12 tyX12 tyX12_ok nmX12 hown hK hP hD hS 0 rfl rfl 84 (by decide) w_5_239 rfl rfl rfl (Nat.le_of_ble_eq_true rfl) rfl dX12_qOpens_31 (fun H locs hP hD hS => ?_)
      refine lv_aload_n hx hb dX12_qOpens_34 rfl (lv_at hl 0 rfl) ?_
      refine sk_get (v := .ref (g 82)) (C := RX12) (T := TX12) (N := 92) hx hb hts inlX12 hown hK hP 0 rfl rfl 82 (by decide) w_5_237 rfl dX12_qOpens_35 ?_
      refine lv_aload_n hx hb dX12_qOpens_38 rfl (lv_at hl 0 rfl) ?_
      refine sk_get (v := .int (nI qw)) (C := RX12) (T := TX12) (N := 92) hx hb hts inlX12 hown hK hP 0 rfl rfl 83 (by decide) w_5_238 rfl dX12_qOpens_39 ?_
      refine lv_iload_n hx hb dX12_qOpens_42 rfl (lv_at hl 1 rfl) ?_
      refine sk_iastE (k := qw) (v := w) (B := 100) (ws' := fun f_4 => [(mm, .inr (12, mo g (nI ta) (nI pa) (nI pe) pd (nI pb) pp pf pg pn rt rn (nI cd) sn (nI il) tk am at_ aa 0 0 (-1) wt wy 0 (nI rm) (nI ud) (nI nu) sd (nI qn) (nI qw) v_3 (nI qb) (nI qp) qa (nI qi) (nI oc))), (g 82, .inl (cI, 1700, .inl (fun j => nI (f_4 j))))]) hx hb hK hP hD hS 1 0 rfl rfl (by omega) (by omega) hqt (by omega) (fun _ => rfl) dX12_qOpens_43 (fun f_4 H locs hf_5 ef_6 hP hD hS => ?_)
      refine lv_aload_n hx hb dX12_qOpens_44 rfl (lv_at hl 0 rfl) ?_
      refine lv_dup hx hb dX12_qOpens_45 rfl ?_
      refine sk_get (v := .int (nI qw)) (C := RX12) (T := TX12) (N := 92) hx hb hts inlX12 hown hK hP 0 rfl rfl 83 (by decide) w_5_238 rfl dX12_qOpens_46 ?_
      refine lv_iconst (v := 1) hx hb dX12_qOpens_49 (by decide) ?_
      refine lv_iadd hx hb dX12_qOpens_50 ?_
      refine sk_top (nI (qw + 1)) (nI_add qw 1) ?_
      refine sk_put (ws' := [(mm, .inr (12, mo g (nI ta) (nI pa) (nI pe) pd (nI pb) pp pf pg pn rt rn (nI cd) sn (nI il) tk am at_ aa 0 0 (-1) wt wy 0 (nI rm) (nI ud) (nI nu) sd (nI qn) (nI (qw + 1)) v_3 (nI qb) (nI qp) qa (nI qi) (nI oc))), (g 82, .inl (cI, 1700, .inl (fun j => nI (f_4 j))))]) (C := RX12) (T := TX12) (N := 92) (v := .int (nI (qw + 1))) hx hb hts inlX12 tyX12 tyX12_ok nmX12 hown hK hP hD hS 0 rfl rfl 83 (by decide) w_5_238 rfl rfl rfl (Nat.le_of_ble_eq_true rfl) rfl dX12_qOpens_51 (fun H locs hP hD hS => ?_)
      exact sk_vret hx hb hr hlocks hK hP hD hS (⟨pb, pp, v_3, qw + 1, f_4, by omega, by omega, (fun _ => ef_6), hf_5, rfl⟩) (Nat.le_of_ble_eq_true rfl) (Nat.le_of_ble_eq_true rfl) dX12_qOpens_54
    · skip
      refine lv_aload_n hx hb dX12_qOpens_17 rfl (lv_at hl 0 rfl) ?_
      refine lv_iconst (v := 4) hx hb dX12_qOpens_18 (by decide) ?_
      refine lv_iload_n hx hb dX12_qOpens_19 rfl (lv_at hl 2 rfl) ?_
      refine sk_Vv (q0 := 0) (n := 2) (rest := []) (wr := [(g 82, .inl (cI, 1700, .inl (fun j => nI (qt j))))]) ⟨hx, hb, hml, hown, hts⟩ hl.1 (c_m_fail l D cI cJ cC cZ cS mm g ta pa pe pd pb pp pf pg pn rt rn cd sn il tk am at_ aa wt wy rm ud nu sd qn qw qo qb qp qa qi oc 4 o (by omega) (by omega) (by omega)) w_6_229 w_6_231 w_0_46 w_1_14 w_6_232 (by decide +kernel) ⟨⟨(Nat.le_of_ble_eq_true rfl), (Nat.le_of_ble_eq_true rfl)⟩, (Nat.le_of_ble_eq_true rfl), (Nat.le_of_ble_eq_true rfl)⟩ hK hP hD hS hA [0] [1] rfl rfl (by decide) (by decide) (by decide) rfl rfl rfl rfl (Nat.le_of_ble_eq_true rfl) dX12_qOpens_20 (fun u H locs hw hP hD hS => ?_)
      obtain ⟨pb2_7, pp2_8, hpb2_9, hpb3_10, rfl⟩ := hw
      have hP : va_P D vwCl [(g 82, .inl (cI, 1700, .inl (fun j => nI (qt j)))), (mm, .inr (12, mo g (nI ta) (nI pa) (nI pe) pd (nI pb2_7) pp2_8 pf pg pn rt rn (nI cd) sn (nI il) tk am at_ aa 0 0 (-1) wt wy 0 (nI rm) (nI ud) (nI nu) sd (nI qn) (nI qw) qo (nI qb) (nI qp) qa (nI qi) (nI oc)))] H := hP
      have hD : va_D A [(g 82, .inl (cI, 1700, .inl (fun j => nI (qt j)))), (mm, .inr (12, mo g (nI ta) (nI pa) (nI pe) pd (nI pb2_7) pp2_8 pf pg pn rt rn (nI cd) sn (nI il) tk am at_ aa 0 0 (-1) wt wy 0 (nI rm) (nI ud) (nI nu) sd (nI qn) (nI qw) qo (nI qb) (nI qp) qa (nI qi) (nI oc)))] := hD
      have hP := hP.sub (ws' := [(mm, .inr (12, mo g (nI ta) (nI pa) (nI pe) pd (nI pb2_7) pp2_8 pf pg pn rt rn (nI cd) sn (nI il) tk am at_ aa 0 0 (-1) wt wy 0 (nI rm) (nI ud) (nI nu) sd (nI qn) (nI qw) qo (nI qb) (nI qp) qa (nI qi) (nI oc))), (g 82, .inl (cI, 1700, .inl (fun j => nI (qt j))))]) [1, 0] rfl
      have hD := hD.sub (ws' := [(mm, .inr (12, mo g (nI ta) (nI pa) (nI pe) pd (nI pb2_7) pp2_8 pf pg pn rt rn (nI cd) sn (nI il) tk am at_ aa 0 0 (-1) wt wy 0 (nI rm) (nI ud) (nI nu) sd (nI qn) (nI qw) qo (nI qb) (nI qp) qa (nI qi) (nI oc))), (g 82, .inl (cI, 1700, .inl (fun j => nI (qt j))))]) [1, 0] (by decide) rfl
      exact sk_vret hx hb hr hlocks hK hP hD hS (⟨pb2_7, pp2_8, qo, qw, qt, by omega, by omega, (fun h => absurd h (by omega)), hqt, rfl⟩) (Nat.le_of_ble_eq_true rfl) (Nat.le_of_ble_eq_true rfl) dX12_qOpens_23
  · have c_1 : ¬ (pb = 0) := fun h => c_1 ((neq pb 0 (by omega) (by omega)).mpr h)
    exact sk_vret hx hb hr hlocks hK hP hD hS (⟨pb, pp, qo, qw, qt, by omega, by omega, (fun h => absurd h (by omega)), hqt, rfl⟩) (Nat.le_of_ble_eq_true rfl) (Nat.le_of_ble_eq_true rfl) dX12_qOpens_7
theorem dX12_qIsOn_0 : decode cX12_qIsOn 0 = .ok (.aload_n 0, 1) := by decide +kernel
theorem dX12_qIsOn_1 : decode cX12_qIsOn 1 = .ok (.getfield 260, 3) := by decide +kernel
theorem dX12_qIsOn_4 : decode cX12_qIsOn 4 = .ok (.ifCond .le 22, 3) := by decide +kernel
theorem dX12_qIsOn_26 : decode cX12_qIsOn 26 = .ok (.iconst 0, 1) := by decide +kernel
theorem dX12_qIsOn_27 : decode cX12_qIsOn 27 = .ok (.ireturn, 1) := by decide +kernel
theorem dX12_qIsOn_7 : decode cX12_qIsOn 7 = .ok (.aload_n 0, 1) := by decide +kernel
theorem dX12_qIsOn_8 : decode cX12_qIsOn 8 = .ok (.getfield 183, 3) := by decide +kernel
theorem dX12_qIsOn_11 : decode cX12_qIsOn 11 = .ok (.aload_n 0, 1) := by decide +kernel
theorem dX12_qIsOn_12 : decode cX12_qIsOn 12 = .ok (.getfield 260, 3) := by decide +kernel
theorem dX12_qIsOn_15 : decode cX12_qIsOn 15 = .ok (.iconst 1, 1) := by decide +kernel
theorem dX12_qIsOn_16 : decode cX12_qIsOn 16 = .ok (.isub, 1) := by decide +kernel
theorem dX12_qIsOn_17 : decode cX12_qIsOn 17 = .ok (.iaload, 1) := by decide +kernel
theorem dX12_qIsOn_18 : decode cX12_qIsOn 18 = .ok (.iload_n 1, 1) := by decide +kernel
theorem dX12_qIsOn_19 : decode cX12_qIsOn 19 = .ok (.if_icmp .ne 7, 3) := by decide +kernel
theorem dX12_qIsOn_22 : decode cX12_qIsOn 22 = .ok (.iconst 1, 1) := by decide +kernel
theorem dX12_qIsOn_23 : decode cX12_qIsOn 23 = .ok (.goto 4, 3) := by decide +kernel
theorem w_7_85 : (Cond.code yX12_qIsOn cX12_qIsOn 2 (some .boolean)) ∈ wsL_law := sk_mem (ck_7 _ (List.mem_of_getElem? (i := 85) rfl)) rfl
set_option maxHeartbeats 4000000 in
set_option maxRecDepth 100000 in
theorem c_m_qIsOn (l : Launch) (D : va_G) (cI cJ cC cZ cS : ClassId) (mm : Nat) (g : Nat → Nat) (ta : Nat) (pa : Nat) (pe : Nat) (pd : Int32) (pb : Nat) (pp : Int32) (pf : Int32) (pg : Int32) (pn : Int32) (rt : Int32) (rn : Int32) (cd : Nat) (sn : Int32) (il : Nat) (tk : Int32) (am : Int32) (at_ : Int32) (aa : Int32) (wt : Int32) (wy : Int64) (rm : Nat) (ud : Nat) (nu : Nat) (sd : Int64) (qn : Nat) (qw : Nat) (qo : Int32) (qb : Nat) (qp : Nat) (qa : Int64) (qi : Nat) (oc : Nat) (w : Nat) (qt : Nat → Nat) (hw : w ≤ 100) (hqw : qw ≤ 1700) (hqt : ∀ j, qt j ≤ 100) : skM l yX12_qIsOn cX12_qIsOn 2 (some .boolean) 0 0 0 0 D (skT cI cJ cC cZ cS) [.ref mm, .int (nI w)] [(mm, .inr (12, mo g (nI ta) (nI pa) (nI pe) pd (nI pb) pp pf pg pn rt rn (nI cd) sn (nI il) tk am at_ aa 0 0 (-1) wt wy 0 (nI rm) (nI ud) (nI nu) sd (nI qn) (nI qw) qo (nI qb) (nI qp) qa (nI qi) (nI oc))), (g 82, .inl (cI, 1700, .inl (fun j => nI (qt j))))] (skI D (skT cI cJ cC cZ cS) (fun (r : Int32) (u : va_W) => ∃ (b : Nat), ((b = 0 ∧ (qw = 0 ∨ ¬ qt (qw - 1) = w)) ∨ (b = 1 ∧ 1 ≤ qw ∧ qt (qw - 1) = w)) ∧ r = nI b ∧ u = [(mm, .inr (12, mo g (nI ta) (nI pa) (nI pe) pd (nI pb) pp pf pg pn rt rn (nI cd) sn (nI il) tk am at_ aa 0 0 (-1) wt wy 0 (nI rm) (nI ud) (nI nu) sd (nI qn) (nI qw) qo (nI qb) (nI qp) qa (nI qi) (nI oc))), (g 82, .inl (cI, 1700, .inl (fun j => nI (qt j))))])) := by
  refine skM_of (by decide +kernel) (Nat.le_of_ble_eq_true rfl) ?_
  intro p e s m below meth c A ls E hP hD hl
  obtain ⟨hx, hb, hr, hml, hlocks, hin, hown, hts, hK, hA⟩ := E
  have hown : s.vm.findClass RX12 = some m.cls := hown
  have hS : va_S A s.heap s.heap [] := va_S.rf
  have hl : lv_has ls 2 [(0, .ref mm), (1, .int (nI w))] := hl
  refine lv_aload_n hx hb dX12_qIsOn_0 rfl (lv_at hl 0 rfl) ?_
  refine sk_get (v := .int (nI qw)) (C := RX12) (T := TX12) (N := 92) hx hb hts inlX12 hown hK hP 0 rfl rfl 83 (by decide) w_5_238 rfl dX12_qIsOn_1 ?_
  refine lv_if_le (tgt := 26) hx hb dX12_qIsOn_4 (by decide) (fun c_1 => ?_) (fun c_1 => ?_)
  · have c_1 : qw ≤ 0 := (nle qw 0 (by omega) (by omega)).mp c_1
    refine lv_iconst (v := 0) hx hb dX12_qIsOn_26 (by decide) ?_
    exact sk_iret hx hb hr rfl hlocks hK hP hD hS (⟨0, by omega, rfl, rfl⟩) (Nat.le_of_ble_eq_true rfl) (Nat.le_of_ble_eq_true rfl) dX12_qIsOn_27
  · have c_1 : ¬ (qw ≤ 0) := fun h => c_1 ((nle qw 0 (by omega) (by omega)).mpr h)
    refine lv_aload_n hx hb dX12_qIsOn_7 rfl (lv_at hl 0 rfl) ?_
    refine sk_get (v := .ref (g 82)) (C := RX12) (T := TX12) (N := 92) hx hb hts inlX12 hown hK hP 0 rfl rfl 82 (by decide) w_5_237 rfl dX12_qIsOn_8 ?_
    refine lv_aload_n hx hb dX12_qIsOn_11 rfl (lv_at hl 0 rfl) ?_
    refine sk_get (v := .int (nI qw)) (C := RX12) (T := TX12) (N := 92) hx hb hts inlX12 hown hK hP 0 rfl rfl 83 (by decide) w_5_238 rfl dX12_qIsOn_12 ?_
    refine lv_iconst (v := 1) hx hb dX12_qIsOn_15 (by decide) ?_
    refine lv_isub hx hb dX12_qIsOn_16 ?_
    refine sk_top (nI (qw - 1)) (nsub qw 1 (by omega)) ?_
    refine va_iald hx hb hK.1 hP 1 0 rfl rfl (vin (qw - 1) 1700 (by omega) (by omega)) dX12_qIsOn_17 ?_
    refine sk_top (nI (qt (qw - 1))) (nrd qt (qw - 1) (by omega)) ?_
    have hb_2 := hqt (qw - 1)
    refine lv_iload_n hx hb dX12_qIsOn_18 rfl (lv_at hl 1 rfl) ?_
    refine lv_icmp_ne (tgt := 26) hx hb dX12_qIsOn_19 (by decide) (fun c_3 => ?_) (fun c_3 => ?_)
    · have c_3 : ¬ (qt (qw - 1) = w) := fun h => c_3 ((neq (qt (qw - 1)) w (by omega) (by omega)).mpr h)
      refine lv_iconst (v := 0) hx hb dX12_qIsOn_26 (by decide) ?_
      exact sk_iret hx hb hr rfl hlocks hK hP hD hS (⟨0, by omega, rfl, rfl⟩) (Nat.le_of_ble_eq_true rfl) (Nat.le_of_ble_eq_true rfl) dX12_qIsOn_27
    · have c_3 : qt (qw - 1) = w := (neq (qt (qw - 1)) w (by omega) (by omega)).mp c_3
      refine lv_iconst (v := 1) hx hb dX12_qIsOn_22 (by decide) ?_
      refine lv_goto (tgt := 27) hx hb dX12_qIsOn_23 (by decide) ?_
      exact sk_iret hx hb hr rfl hlocks hK hP hD hS (⟨1, by omega, rfl, rfl⟩) (Nat.le_of_ble_eq_true rfl) (Nat.le_of_ble_eq_true rfl) dX12_qIsOn_27
theorem dX12_qDrops_0 : decode cX12_qDrops 0 = .ok (.aload_n 0, 1) := by decide +kernel
theorem dX12_qDrops_1 : decode cX12_qDrops 1 = .ok (.dup, 1) := by decide +kernel
theorem dX12_qDrops_2 : decode cX12_qDrops 2 = .ok (.getfield 260, 3) := by decide +kernel
theorem dX12_qDrops_5 : decode cX12_qDrops 5 = .ok (.iconst 1, 1) := by decide +kernel
theorem dX12_qDrops_6 : decode cX12_qDrops 6 = .ok (.isub, 1) := by decide +kernel
theorem dX12_qDrops_7 : decode cX12_qDrops 7 = .ok (.putfield 260, 3) := by decide +kernel
theorem dX12_qDrops_10 : decode cX12_qDrops 10 = .ok (.aload_n 0, 1) := by decide +kernel
theorem dX12_qDrops_11 : decode cX12_qDrops 11 = .ok (.aload_n 0, 1) := by decide +kernel
theorem dX12_qDrops_12 : decode cX12_qDrops 12 = .ok (.getfield 183, 3) := by decide +kernel
theorem dX12_qDrops_15 : decode cX12_qDrops 15 = .ok (.aload_n 0, 1) := by decide +kernel
theorem dX12_qDrops_16 : decode cX12_qDrops 16 = .ok (.getfield 260, 3) := by decide +kernel
theorem dX12_qDrops_19 : decode cX12_qDrops 19 = .ok (.iaload, 1) := by decide +kernel
theorem dX12_qDrops_20 : decode cX12_qDrops 20 = .ok (.invokevirtual 498, 3) := by decide +kernel
theorem dX12_qDrops_23 : decode cX12_qDrops 23 = .ok (.return_, 1) := by decide +kernel
theorem w_7_55 : (Cond.methodLink RX12 498 yX12_qCode) ∈ wsL_law := sk_mem (ck_7 _ (List.mem_of_getElem? (i := 55) rfl)) rfl
theorem w_7_57 : (Cond.instanceMethod yX12_qCode) ∈ wsL_law := sk_mem (ck_7 _ (List.mem_of_getElem? (i := 57) rfl)) rfl
theorem w_0_61 : (Cond.selects RX12 yX12_qCode yX12_qCode) ∈ wsL_law := sk_mem (ck_0 _ (List.mem_of_getElem? (i := 61) rfl)) rfl
theorem w_7_66 : (Cond.code yX12_qDrops cX12_qDrops 1 none) ∈ wsL_law := sk_mem (ck_7 _ (List.mem_of_getElem? (i := 66) rfl)) rfl
set_option maxHeartbeats 4000000 in
set_option maxRecDepth 100000 in
theorem c_m_qDrops (l : Launch) (D : va_G) (cI cJ cC cZ cS : ClassId) (mm : Nat) (g : Nat → Nat) (ta : Nat) (pa : Nat) (pe : Nat) (pd : Int32) (pb : Nat) (pp : Int32) (pf : Int32) (pg : Int32) (pn : Int32) (rt : Int32) (rn : Int32) (cd : Nat) (sn : Int32) (il : Nat) (tk : Int32) (am : Int32) (at_ : Int32) (aa : Int32) (wt : Int32) (wy : Int64) (rm : Nat) (ud : Nat) (nu : Nat) (sd : Int64) (qn : Nat) (qw : Nat) (qo : Int32) (qb : Nat) (qp : Nat) (qa : Int64) (qi : Nat) (oc : Nat) (qs : Nat → Nat) (qt : Nat → Nat) (hqn : qn < 1700) (hqw1 : 1 ≤ qw) (hqw : qw ≤ 1700) (hqs : ∀ j, qs j ≤ 20000) (hqt : ∀ j, qt j ≤ 100) : skM l yX12_qDrops cX12_qDrops 1 none 1 21 0 0 D (skT cI cJ cC cZ cS) [.ref mm] [(mm, .inr (12, mo g (nI ta) (nI pa) (nI pe) pd (nI pb) pp pf pg pn rt rn (nI cd) sn (nI il) tk am at_ aa 0 0 (-1) wt wy 0 (nI rm) (nI ud) (nI nu) sd (nI qn) (nI qw) qo (nI qb) (nI qp) qa (nI qi) (nI oc))), (g 80, .inl (cI, 1700, .inl (fun j => nI (qs j)))), (g 82, .inl (cI, 1700, .inl (fun j => nI (qt j))))] (skV D (skT cI cJ cC cZ cS) (fun (u : va_W) => ∃ (qs2 : Nat → Nat), qs2 = updN qs qn (qt (qw - 1)) ∧ (∀ j, qs2 j ≤ 20000) ∧ u = [(mm, .inr (12, mo g (nI ta) (nI pa) (nI pe) pd (nI pb) pp pf pg pn rt rn (nI cd) sn (nI il) tk am at_ aa 0 0 (-1) wt wy 0 (nI rm) (nI ud) (nI nu) sd (nI (qn + 1)) (nI (qw - 1)) qo (nI qb) (nI qp) qa (nI qi) (nI oc))), (g 80, .inl (cI, 1700, .inl (fun j => nI (qs2 j)))), (g 82, .inl (cI, 1700, .inl (fun j => nI (qt j))))])) := by
  refine skM_of (by decide +kernel) (Nat.le_of_ble_eq_true rfl) ?_
  intro p e s m below meth c A ls E hP hD hl
  obtain ⟨hx, hb, hr, hml, hlocks, hin, hown, hts, hK, hA⟩ := E
  have hown : s.vm.findClass RX12 = some m.cls := hown
  have hS : va_S A s.heap s.heap [] := va_S.rf
  have hl : lv_has ls 1 [(0, .ref mm)] := hl
  refine lv_aload_n hx hb dX12_qDrops_0 rfl (lv_at hl 0 rfl) ?_
  refine lv_dup hx hb dX12_qDrops_1 rfl ?_
  refine sk_get (v := .int (nI qw)) (C := RX12) (T := TX12) (N := 92) hx hb hts inlX12 hown hK hP 0 rfl rfl 83 (by decide) w_5_238 rfl dX12_qDrops_2 ?_
  refine lv_iconst (v := 1) hx hb dX12_qDrops_5 (by decide) ?_
  refine lv_isub hx hb dX12_qDrops_6 ?_
  refine sk_top (nI (qw - 1)) (nsub qw 1 (by omega)) ?_
  refine sk_put (ws' := [(mm, .inr (12, mo g (nI ta) (nI pa) (nI pe) pd (nI pb) pp pf pg pn rt rn (nI cd) sn (nI il) tk am at_ aa 0 0 (-1) wt wy 0 (nI rm) (nI ud) (nI nu) sd (nI qn) (nI (qw - 1)) qo (nI qb) (nI qp) qa (nI qi) (nI oc))), (g 80, .inl (cI, 1700, .inl (fun j => nI (qs j)))), (g 82, .inl (cI, 1700, .inl (fun j => nI (qt j))))]) (C := RX12) (T := TX12) (N := 92) (v := .int (nI (qw - 1))) hx hb hts inlX12 tyX12 tyX12_ok nmX12 hown hK hP hD hS 0 rfl rfl 83 (by decide) w_5_238 rfl rfl rfl (Nat.le_of_ble_eq_true rfl) rfl dX12_qDrops_7 (fun H locs hP hD hS => ?_)
  refine lv_aload_n hx hb dX12_qDrops_10 rfl (lv_at hl 0 rfl) ?_
  refine lv_aload_n hx hb dX12_qDrops_11 rfl (lv_at hl 0 rfl) ?_
  refine sk_get (v := .ref (g 82)) (C := RX12) (T := TX12) (N := 92) hx hb hts inlX12 hown hK hP 0 rfl rfl 82 (by decide) w_5_237 rfl dX12_qDrops_12 ?_
  refine lv_aload_n hx hb dX12_qDrops_15 rfl (lv_at hl 0 rfl) ?_
  refine sk_get (v := .int (nI (qw - 1))) (C := RX12) (T := TX12) (N := 92) hx hb hts inlX12 hown hK hP 0 rfl rfl 83 (by decide) w_5_238 rfl dX12_qDrops_16 ?_
  refine va_iald hx hb hK.1 hP 2 0 rfl rfl (vin (qw - 1) 1700 (by omega) (by omega)) dX12_qDrops_19 ?_
  refine sk_top (nI (qt (qw - 1))) (nrd qt (qw - 1) (by omega)) ?_
  have hb_1 := hqt (qw - 1)
  refine sk_Vv (q0 := 0) (n := 1) (rest := []) (wr := [(g 82, .inl (cI, 1700, .inl (fun j => nI (qt j))))]) ⟨hx, hb, hml, hown, hts⟩ hl.1 (c_m_qCode l D cI cJ cC cZ cS mm g ta pa pe pd pb pp pf pg pn rt rn cd sn il tk am at_ aa wt wy rm ud nu sd qn (qw - 1) qo qb qp qa qi oc (qt (qw - 1)) qs (by omega) (by omega) hqs) w_7_55 w_7_57 w_0_61 w_1_14 w_7_58 (by decide +kernel) ⟨⟨(Nat.le_of_ble_eq_true rfl), (Nat.le_of_ble_eq_true rfl)⟩, (Nat.le_of_ble_eq_true rfl), (Nat.le_of_ble_eq_true rfl)⟩ hK hP hD hS hA [0, 1] [2] rfl rfl (by decide) (by decide) (by decide) rfl rfl rfl rfl (Nat.le_of_ble_eq_true rfl) dX12_qDrops_20 (fun u H locs hw hP hD hS => ?_)
  obtain ⟨qs2_2, hqe_3, hqs2_4, rfl⟩ := hw
  have hP : va_P D vwCl [(g 82, .inl (cI, 1700, .inl (fun j => nI (qt j)))), (mm, .inr (12, mo g (nI ta) (nI pa) (nI pe) pd (nI pb) pp pf pg pn rt rn (nI cd) sn (nI il) tk am at_ aa 0 0 (-1) wt wy 0 (nI rm) (nI ud) (nI nu) sd (nI (qn + 1)) (nI (qw - 1)) qo (nI qb) (nI qp) qa (nI qi) (nI oc))), (g 80, .inl (cI, 1700, .inl (fun j => nI (qs2_2 j))))] H := hP
  have hD : va_D A [(g 82, .inl (cI, 1700, .inl (fun j => nI (qt j)))), (mm, .inr (12, mo g (nI ta) (nI pa) (nI pe) pd (nI pb) pp pf pg pn rt rn (nI cd) sn (nI il) tk am at_ aa 0 0 (-1) wt wy 0 (nI rm) (nI ud) (nI nu) sd (nI (qn + 1)) (nI (qw - 1)) qo (nI qb) (nI qp) qa (nI qi) (nI oc))), (g 80, .inl (cI, 1700, .inl (fun j => nI (qs2_2 j))))] := hD
  have hP := hP.sub (ws' := [(mm, .inr (12, mo g (nI ta) (nI pa) (nI pe) pd (nI pb) pp pf pg pn rt rn (nI cd) sn (nI il) tk am at_ aa 0 0 (-1) wt wy 0 (nI rm) (nI ud) (nI nu) sd (nI (qn + 1)) (nI (qw - 1)) qo (nI qb) (nI qp) qa (nI qi) (nI oc))), (g 80, .inl (cI, 1700, .inl (fun j => nI (qs2_2 j)))), (g 82, .inl (cI, 1700, .inl (fun j => nI (qt j))))]) [1, 2, 0] rfl
  have hD := hD.sub (ws' := [(mm, .inr (12, mo g (nI ta) (nI pa) (nI pe) pd (nI pb) pp pf pg pn rt rn (nI cd) sn (nI il) tk am at_ aa 0 0 (-1) wt wy 0 (nI rm) (nI ud) (nI nu) sd (nI (qn + 1)) (nI (qw - 1)) qo (nI qb) (nI qp) qa (nI qi) (nI oc))), (g 80, .inl (cI, 1700, .inl (fun j => nI (qs2_2 j)))), (g 82, .inl (cI, 1700, .inl (fun j => nI (qt j))))]) [1, 2, 0] (by decide) rfl
  exact sk_vret hx hb hr hlocks hK hP hD hS (⟨qs2_2, hqe_3, hqs2_4, rfl⟩) (Nat.le_of_ble_eq_true rfl) (Nat.le_of_ble_eq_true rfl) dX12_qDrops_23
theorem dX12_qIsBracket_0 : decode cX12_qIsBracket 0 = .ok (.iload_n 0, 1) := by decide +kernel
theorem dX12_qIsBracket_1 : decode cX12_qIsBracket 1 = .ok (.bipush 20, 2) := by decide +kernel
theorem dX12_qIsBracket_3 : decode cX12_qIsBracket 3 = .ok (.if_icmp .lt 13, 3) := by decide +kernel
theorem dX12_qIsBracket_16 : decode cX12_qIsBracket 16 = .ok (.iconst 0, 1) := by decide +kernel
theorem dX12_qIsBracket_17 : decode cX12_qIsBracket 17 = .ok (.ireturn, 1) := by decide +kernel
theorem dX12_qIsBracket_6 : decode cX12_qIsBracket 6 = .ok (.iload_n 0, 1) := by decide +kernel
theorem dX12_qIsBracket_7 : decode cX12_qIsBracket 7 = .ok (.bipush 24, 2) := by decide +kernel
theorem dX12_qIsBracket_9 : decode cX12_qIsBracket 9 = .ok (.if_icmp .gt 7, 3) := by decide +kernel
theorem dX12_qIsBracket_12 : decode cX12_qIsBracket 12 = .ok (.iconst 1, 1) := by decide +kernel
theorem dX12_qIsBracket_13 : decode cX12_qIsBracket 13 = .ok (.goto 4, 3) := by decide +kernel
theorem w_7_77 : (Cond.code yX12_qIsBracket cX12_qIsBracket 1 (some .boolean)) ∈ wsL_law := sk_mem (ck_7 _ (List.mem_of_getElem? (i := 77) rfl)) rfl
set_option maxHeartbeats 4000000 in
set_option maxRecDepth 100000 in
theorem c_m_qIsBracket (l : Launch) (D : va_G) (cI cJ cC cZ cS : ClassId) (o : Nat) (ho : o ≤ 100) : skM l yX12_qIsBracket cX12_qIsBracket 1 (some .boolean) 0 0 0 0 D (skT cI cJ cC cZ cS) [.int (nI o)] [] (skI D (skT cI cJ cC cZ cS) (fun (r : Int32) (u : va_W) => ∃ (b : Nat), ((b = 0 ∧ ¬ (20 ≤ o ∧ o ≤ 24)) ∨ (b = 1 ∧ 20 ≤ o ∧ o ≤ 24)) ∧ r = nI b ∧ u = [])) := by
  refine skM_of (by decide +kernel) (Nat.le_of_ble_eq_true rfl) ?_
  intro p e s m below meth c A ls E hP hD hl
  obtain ⟨hx, hb, hr, hml, hlocks, hin, hown, hts, hK, hA⟩ := E
  have hown : s.vm.findClass RX12 = some m.cls := hown
  have hS : va_S A s.heap s.heap [] := va_S.rf
  have hl : lv_has ls 1 [(0, .int (nI o))] := hl
  refine lv_iload_n hx hb dX12_qIsBracket_0 rfl (lv_at hl 0 rfl) ?_
  refine lv_bipush (v := 20) hx hb dX12_qIsBracket_1 (by decide) ?_
  refine lv_icmp_lt (tgt := 16) hx hb dX12_qIsBracket_3 (by decide) (fun c_1 => ?_) (fun c_1 => ?_)
  · have c_1 : o < 20 := (nlt o 20 (by omega) (by omega)).mp c_1
    refine lv_iconst (v := 0) hx hb dX12_qIsBracket_16 (by decide) ?_
    exact sk_iret hx hb hr rfl hlocks hK hP hD hS (⟨0, by omega, rfl, rfl⟩) (Nat.le_of_ble_eq_true rfl) (Nat.le_of_ble_eq_true rfl) dX12_qIsBracket_17
  · have c_1 : ¬ (o < 20) := fun h => c_1 ((nlt o 20 (by omega) (by omega)).mpr h)
    refine lv_iload_n hx hb dX12_qIsBracket_6 rfl (lv_at hl 0 rfl) ?_
    refine lv_bipush (v := 24) hx hb dX12_qIsBracket_7 (by decide) ?_
    refine lv_icmp_gt (tgt := 16) hx hb dX12_qIsBracket_9 (by decide) (fun c_2 => ?_) (fun c_2 => ?_)
    · have c_2 : 24 < o := (nlt 24 o (by omega) (by omega)).mp c_2
      refine lv_iconst (v := 0) hx hb dX12_qIsBracket_16 (by decide) ?_
      exact sk_iret hx hb hr rfl hlocks hK hP hD hS (⟨0, by omega, rfl, rfl⟩) (Nat.le_of_ble_eq_true rfl) (Nat.le_of_ble_eq_true rfl) dX12_qIsBracket_17
    · have c_2 : ¬ (24 < o) := fun h => c_2 ((nlt 24 o (by omega) (by omega)).mpr h)
      refine lv_iconst (v := 1) hx hb dX12_qIsBracket_12 (by decide) ?_
      refine lv_goto (tgt := 17) hx hb dX12_qIsBracket_13 (by decide) ?_
      exact sk_iret hx hb hr rfl hlocks hK hP hD hS (⟨1, by omega, rfl, rfl⟩) (Nat.le_of_ble_eq_true rfl) (Nat.le_of_ble_eq_true rfl) dX12_qIsBracket_17
theorem dX12_qBracket_0 : decode cX12_qBracket 0 = .ok (.aload_n 0, 1) := by decide +kernel
theorem dX12_qBracket_1 : decode cX12_qBracket 1 = .ok (.getfield 260, 3) := by decide +kernel
theorem dX12_qBracket_4 : decode cX12_qBracket 4 = .ok (.iconst 1, 1) := by decide +kernel
theorem dX12_qBracket_5 : decode cX12_qBracket 5 = .ok (.isub, 1) := by decide +kernel
theorem dX12_qBracket_6 : decode cX12_qBracket 6 = .ok (.istore_n 1, 1) := by decide +kernel
theorem dX12_qBracket_7 : decode cX12_qBracket 7 = .ok (.iload_n 1, 1) := by decide +kernel
theorem dX12_qBracket_8 : decode cX12_qBracket 8 = .ok (.aload_n 0, 1) := by decide +kernel
theorem dX12_qBracket_9 : decode cX12_qBracket 9 = .ok (.getfield 266, 3) := by decide +kernel
theorem dX12_qBracket_12 : decode cX12_qBracket 12 = .ok (.if_icmp .lt 21, 3) := by decide +kernel
theorem dX12_qBracket_33 : decode cX12_qBracket 33 = .ok (.iload_n 1, 1) := by decide +kernel
theorem dX12_qBracket_34 : decode cX12_qBracket 34 = .ok (.aload_n 0, 1) := by decide +kernel
theorem dX12_qBracket_35 : decode cX12_qBracket 35 = .ok (.getfield 266, 3) := by decide +kernel
theorem dX12_qBracket_38 : decode cX12_qBracket 38 = .ok (.if_icmp .lt 12, 3) := by decide +kernel
theorem dX12_qBracket_50 : decode cX12_qBracket 50 = .ok (.iconst (-1), 1) := by decide +kernel
theorem dX12_qBracket_51 : decode cX12_qBracket 51 = .ok (.ireturn, 1) := by decide +kernel
theorem dX12_qBracket_15 : decode cX12_qBracket 15 = .ok (.aload_n 0, 1) := by decide +kernel
theorem dX12_qBracket_16 : decode cX12_qBracket 16 = .ok (.getfield 183, 3) := by decide +kernel
theorem dX12_qBracket_19 : decode cX12_qBracket 19 = .ok (.iload_n 1, 1) := by decide +kernel
theorem dX12_qBracket_20 : decode cX12_qBracket 20 = .ok (.iaload, 1) := by decide +kernel
theorem dX12_qBracket_21 : decode cX12_qBracket 21 = .ok (.invokestatic 501, 3) := by decide +kernel
theorem dX12_qBracket_24 : decode cX12_qBracket 24 = .ok (.ifCond .ne 9, 3) := by decide +kernel
theorem dX12_qBracket_41 : decode cX12_qBracket 41 = .ok (.aload_n 0, 1) := by decide +kernel
theorem dX12_qBracket_42 : decode cX12_qBracket 42 = .ok (.getfield 183, 3) := by decide +kernel
theorem dX12_qBracket_45 : decode cX12_qBracket 45 = .ok (.iload_n 1, 1) := by decide +kernel
theorem dX12_qBracket_46 : decode cX12_qBracket 46 = .ok (.iaload, 1) := by decide +kernel
theorem dX12_qBracket_47 : decode cX12_qBracket 47 = .ok (.goto 4, 3) := by decide +kernel
theorem dX12_qBracket_27 : decode cX12_qBracket 27 = .ok (.iinc 1 (-1), 3) := by decide +kernel
theorem dX12_qBracket_30 : decode cX12_qBracket 30 = .ok (.goto (-23), 3) := by decide +kernel
theorem w_6_0 : (Cond.fieldLink RX12 266 "SameKeeperModel" "qBase" "I") ∈ wsL_law := sk_mem (ck_6 _ (List.mem_of_getElem? (i := 0) rfl)) rfl
theorem w_7_75 : (Cond.methodLink RX12 501 yX12_qIsBracket) ∈ wsL_law := sk_mem (ck_7 _ (List.mem_of_getElem? (i := 75) rfl)) rfl
theorem w_7_76 : (Cond.static yX12_qIsBracket) ∈ wsL_law := sk_mem (ck_7 _ (List.mem_of_getElem? (i := 76) rfl)) rfl
theorem w_7_74 : (Cond.code yX12_qBracket cX12_qBracket 2 (some .int)) ∈ wsL_law := sk_mem (ck_7 _ (List.mem_of_getElem? (i := 74) rfl)) rfl
set_option maxHeartbeats 4000000 in
set_option maxRecDepth 100000 in
theorem c_m_qBracket (l : Launch) (D : va_G) (cI cJ cC cZ cS : ClassId) (mm : Nat) (g : Nat → Nat) (ta : Nat) (pa : Nat) (pe : Nat) (pd : Int32) (pb : Nat) (pp : Int32) (pf : Int32) (pg : Int32) (pn : Int32) (rt : Int32) (rn : Int32) (cd : Nat) (sn : Int32) (il : Nat) (tk : Int32) (am : Int32) (at_ : Int32) (aa : Int32) (wt : Int32) (wy : Int64) (rm : Nat) (ud : Nat) (nu : Nat) (sd : Int64) (qn : Nat) (qw : Nat) (qo : Int32) (qb : Nat) (qp : Nat) (qa : Int64) (qi : Nat) (oc : Nat) (qt : Nat → Nat) (hqw : qw ≤ 1700) (hqb : qb ≤ 1700) (hqt : ∀ j, qt j ≤ 100) : skM l yX12_qBracket cX12_qBracket 2 (some .int) 1 20 0 0 D (skT cI cJ cC cZ cS) [.ref mm] [(mm, .inr (12, mo g (nI ta) (nI pa) (nI pe) pd (nI pb) pp pf pg pn rt rn (nI cd) sn (nI il) tk am at_ aa 0 0 (-1) wt wy 0 (nI rm) (nI ud) (nI nu) sd (nI qn) (nI qw) qo (nI qb) (nI qp) qa (nI qi) (nI oc))), (g 82, .inl (cI, 1700, .inl (fun j => nI (qt j))))] (skI D (skT cI cJ cC cZ cS) (fun (r : Int32) (u : va_W) => lbO qt qb qw r ∧ u = [(mm, .inr (12, mo g (nI ta) (nI pa) (nI pe) pd (nI pb) pp pf pg pn rt rn (nI cd) sn (nI il) tk am at_ aa 0 0 (-1) wt wy 0 (nI rm) (nI ud) (nI nu) sd (nI qn) (nI qw) qo (nI qb) (nI qp) qa (nI qi) (nI oc))), (g 82, .inl (cI, 1700, .inl (fun j => nI (qt j))))])) := by
  refine skM_of (by decide +kernel) (Nat.le_of_ble_eq_true rfl) ?_
  intro p e s m below meth c A ls E hP hD hl
  obtain ⟨hx, hb, hr, hml, hlocks, hin, hown, hts, hK, hA⟩ := E
  have hown : s.vm.findClass RX12 = some m.cls := hown
  have hS : va_S A s.heap s.heap [] := va_S.rf
  have hl : lv_has ls 2 [(0, .ref mm)] := hl
  refine lv_aload_n hx hb dX12_qBracket_0 rfl (lv_at hl 0 rfl) ?_
  refine sk_get (v := .int (nI qw)) (C := RX12) (T := TX12) (N := 92) hx hb hts inlX12 hown hK hP 0 rfl rfl 83 (by decide) w_5_238 rfl dX12_qBracket_1 ?_
  refine lv_iconst (v := 1) hx hb dX12_qBracket_4 (by decide) ?_
  refine lv_isub hx hb dX12_qBracket_5 ?_
  refine lv_istore_n (lv' := [(1, .int (nI qw - 1)), (0, .ref mm)]) hx hb dX12_qBracket_6 rfl hl (by decide) rfl (fun ls hl => ?_)
  have lp_1 : ∀ (n_2 : Nat) (zk : Nat) (H : Heap) (locs : List Loc) (ls : Array Slot), zk < n_2 → (zk ≤ qw) → (nbr qt zk qw) → va_P D vwCl [(mm, .inr (12, mo g (nI ta) (nI pa) (nI pe) pd (nI pb) pp pf pg pn rt rn (nI cd) sn (nI il) tk am at_ aa 0 0 (-1) wt wy 0 (nI rm) (nI ud) (nI nu) sd (nI qn) (nI qw) qo (nI qb) (nI qp) qa (nI qi) (nI oc))), (g 82, .inl (cI, 1700, .inl (fun j => nI (qt j))))] H → va_D A [(mm, .inr (12, mo g (nI ta) (nI pa) (nI pe) pd (nI pb) pp pf pg pn rt rn (nI cd) sn (nI il) tk am at_ aa 0 0 (-1) wt wy 0 (nI rm) (nI ud) (nI nu) sd (nI qn) (nI qw) qo (nI qb) (nI qp) qa (nI qi) (nI oc))), (g 82, .inl (cI, 1700, .inl (fun j => nI (qt j))))] → va_S A s.heap H locs → lv_has ls 2 [(1, .int (nI zk - 1)), (0, .ref mm)] → W p l e { frames := 1, cells := 0, slots := 0, locals := 20 } s m ([.ref mm] : List Value).toArray below meth c H locs 0 0 (MQ below (skI D (skT cI cJ cC cZ cS) (fun (r : Int32) (u : va_W) => lbO qt qb qw r ∧ u = [(mm, .inr (12, mo g (nI ta) (nI pa) (nI pe) pd (nI pb) pp pf pg pn rt rn (nI cd) sn (nI il) tk am at_ aa 0 0 (-1) wt wy 0 (nI rm) (nI ud) (nI nu) sd (nI qn) (nI qw) qo (nI qb) (nI qp) qa (nI qi) (nI oc))), (g 82, .inl (cI, 1700, .inl (fun j => nI (qt j))))]) A) ([.ref mm] : List Value).toArray s 0 0 A) (F0 m 7 ls []) := by
    intro n_2
    induction n_2 with
    | zero => intro zk H locs ls hm; exact absurd hm (Nat.not_lt_zero _)
    | succ n_2 ih_lp_1 =>
      intro zk H locs ls hm hzk hnb hP hD hS hl
      refine lv_iload_n hx hb dX12_qBracket_7 rfl (lv_at hl 0 rfl) ?_
      refine lv_aload_n hx hb dX12_qBracket_8 rfl (lv_at hl 1 rfl) ?_
      refine sk_get (v := .int (nI qb)) (C := RX12) (T := TX12) (N := 92) hx hb hts inlX12 hown hK hP 0 rfl rfl 85 (by decide) w_6_0 rfl dX12_qBracket_9 ?_
      refine lv_icmp_lt (tgt := 33) hx hb dX12_qBracket_12 (by decide) (fun c_3 => ?_) (fun c_3 => ?_)
      · have c_3 : ((zk : Nat) : Int) - 1 < ((qb : Nat) : Int) := (ilt (ivp zk (by omega)) (ivn qb (by omega))).mp c_3
        refine lv_iload_n hx hb dX12_qBracket_33 rfl (lv_at hl 0 rfl) ?_
        refine lv_aload_n hx hb dX12_qBracket_34 rfl (lv_at hl 1 rfl) ?_
        refine sk_get (v := .int (nI qb)) (C := RX12) (T := TX12) (N := 92) hx hb hts inlX12 hown hK hP 0 rfl rfl 85 (by decide) w_6_0 rfl dX12_qBracket_35 ?_
        refine lv_icmp_lt (tgt := 50) hx hb dX12_qBracket_38 (by decide) (fun c_4 => ?_) (fun c => absurd ((ilt (ivp zk (by omega)) (ivn qb (by omega))).mpr (by omega)) c)
        refine lv_iconst (v := (-1)) hx hb dX12_qBracket_50 (by decide) ?_
        exact sk_iret hx hb hr rfl hlocks hK hP hD hS (⟨(lb_none hnb (by omega)), rfl⟩) (Nat.le_of_ble_eq_true rfl) (Nat.le_of_ble_eq_true rfl) dX12_qBracket_51
      · have c_3 : ¬ (((zk : Nat) : Int) - 1 < ((qb : Nat) : Int)) := fun h => c_3 ((ilt (ivp zk (by omega)) (ivn qb (by omega))).mpr h)
        rw [npred zk (by omega)] at hl
        refine lv_aload_n hx hb dX12_qBracket_15 rfl (lv_at hl 1 rfl) ?_
        refine sk_get (v := .ref (g 82)) (C := RX12) (T := TX12) (N := 92) hx hb hts inlX12 hown hK hP 0 rfl rfl 82 (by decide) w_5_237 rfl dX12_qBracket_16 ?_
        refine lv_iload_n hx hb dX12_qBracket_19 rfl (lv_at hl 0 rfl) ?_
        refine va_iald hx hb hK.1 hP 1 0 rfl rfl (vin (zk - 1) 1700 (by omega) (by omega)) dX12_qBracket_20 ?_
        refine sk_top (nI (qt (zk - 1))) (nrd qt (zk - 1) (by omega)) ?_
        have hb_5 := hqt (zk - 1)
        refine sk_Si (n := 1) (rest := []) (wr := [(mm, .inr (12, mo g (nI ta) (nI pa) (nI pe) pd (nI pb) pp pf pg pn rt rn (nI cd) sn (nI il) tk am at_ aa 0 0 (-1) wt wy 0 (nI rm) (nI ud) (nI nu) sd (nI qn) (nI qw) qo (nI qb) (nI qp) qa (nI qi) (nI oc))), (g 82, .inl (cI, 1700, .inl (fun j => nI (qt j))))]) ⟨hx, hb, hml, hown, hts⟩ hl.1 (c_m_qIsBracket l D cI cJ cC cZ cS (qt (zk - 1)) (by omega)) w_7_75 w_7_76 w_1_14 w_7_77 (by decide +kernel) ⟨⟨(Nat.le_of_ble_eq_true rfl), (Nat.le_of_ble_eq_true rfl)⟩, (Nat.le_of_ble_eq_true rfl), (Nat.le_of_ble_eq_true rfl)⟩ hK hP hD hS hA [] [0, 1] rfl rfl (by decide) (by decide) (by decide) rfl rfl (Nat.le_of_ble_eq_true rfl) dX12_qBracket_21 (fun r_7 u H locs hw hP hD hS => ?_)
        obtain ⟨b_6, hb1_8, rfl, rfl⟩ := hw
        have hP : va_P D vwCl [(mm, .inr (12, mo g (nI ta) (nI pa) (nI pe) pd (nI pb) pp pf pg pn rt rn (nI cd) sn (nI il) tk am at_ aa 0 0 (-1) wt wy 0 (nI rm) (nI ud) (nI nu) sd (nI qn) (nI qw) qo (nI qb) (nI qp) qa (nI qi) (nI oc))), (g 82, .inl (cI, 1700, .inl (fun j => nI (qt j))))] H := hP
        have hD : va_D A [(mm, .inr (12, mo g (nI ta) (nI pa) (nI pe) pd (nI pb) pp pf pg pn rt rn (nI cd) sn (nI il) tk am at_ aa 0 0 (-1) wt wy 0 (nI rm) (nI ud) (nI nu) sd (nI qn) (nI qw) qo (nI qb) (nI qp) qa (nI qi) (nI oc))), (g 82, .inl (cI, 1700, .inl (fun j => nI (qt j))))] := hD
        refine lv_if_ne (tgt := 33) hx hb dX12_qBracket_24 (by decide) (fun c_9 => ?_) (fun c_9 => ?_)
        · have c_9 : ¬ (b_6 = 0) := fun h => c_9 ((neq b_6 0 (by omega) (by omega)).mpr h)
          refine lv_iload_n hx hb dX12_qBracket_33 rfl (lv_at hl 0 rfl) ?_
          refine lv_aload_n hx hb dX12_qBracket_34 rfl (lv_at hl 1 rfl) ?_
          refine sk_get (v := .int (nI qb)) (C := RX12) (T := TX12) (N := 92) hx hb hts inlX12 hown hK hP 0 rfl rfl 85 (by decide) w_6_0 rfl dX12_qBracket_35 ?_
          refine lv_icmp_lt (tgt := 50) hx hb dX12_qBracket_38 (by decide) (fun c => absurd ((nlt (zk - 1) qb (by omega) (by omega)).mp c) (by omega)) (fun c_10 => ?_)
          refine lv_aload_n hx hb dX12_qBracket_41 rfl (lv_at hl 1 rfl) ?_
          refine sk_get (v := .ref (g 82)) (C := RX12) (T := TX12) (N := 92) hx hb hts inlX12 hown hK hP 0 rfl rfl 82 (by decide) w_5_237 rfl dX12_qBracket_42 ?_
          refine lv_iload_n hx hb dX12_qBracket_45 rfl (lv_at hl 0 rfl) ?_
          refine va_iald hx hb hK.1 hP 1 0 rfl rfl (vin (zk - 1) 1700 (by omega) (by omega)) dX12_qBracket_46 ?_
          refine sk_top (nI (qt (zk - 1))) (nrd qt (zk - 1) (by omega)) ?_
          have hb_11 := hqt (zk - 1)
          refine lv_goto (tgt := 51) hx hb dX12_qBracket_47 (by decide) ?_
          exact sk_iret hx hb hr rfl hlocks hK hP hD hS (⟨(lb_some hnb (by omega) (by omega) (by omega) (by omega) (by omega)), rfl⟩) (Nat.le_of_ble_eq_true rfl) (Nat.le_of_ble_eq_true rfl) dX12_qBracket_51
        · have c_9 : b_6 = 0 := (neq b_6 0 (by omega) (by omega)).mp c_9
          refine lv_iinc (v := nI (zk - 1) - 1) (lv' := [(1, .int (nI (zk - 1) - 1)), (0, .ref mm)]) hx hb dX12_qBracket_27 hl (k := 0) rfl (ndn _) (by decide) rfl (fun ls hl => ?_)
          refine lv_goto (tgt := 7) hx hb dX12_qBracket_30 (by decide) ?_
          exact ih_lp_1 (zk - 1) _ _ _ (by omega) (by omega) (nbr_s hnb (by omega)) hP hD hS (lv_sub hl [0, 1] rfl)
  exact lp_1 (qw + 1) qw _ _ _ (Nat.lt_succ_self _) (by omega) nbr_0 hP hD hS (lv_sub hl [0, 1] rfl)
theorem dX12_qDropsToBracket_0 : decode cX12_qDropsToBracket 0 = .ok (.aload_n 0, 1) := by decide +kernel
theorem dX12_qDropsToBracket_1 : decode cX12_qDropsToBracket 1 = .ok (.getfield 260, 3) := by decide +kernel
theorem dX12_qDropsToBracket_4 : decode cX12_qDropsToBracket 4 = .ok (.aload_n 0, 1) := by decide +kernel
theorem dX12_qDropsToBracket_5 : decode cX12_qDropsToBracket 5 = .ok (.getfield 266, 3) := by decide +kernel
theorem dX12_qDropsToBracket_8 : decode cX12_qDropsToBracket 8 = .ok (.if_icmp .le 27, 3) := by decide +kernel
theorem dX12_qDropsToBracket_35 : decode cX12_qDropsToBracket 35 = .ok (.return_, 1) := by decide +kernel
theorem dX12_qDropsToBracket_11 : decode cX12_qDropsToBracket 11 = .ok (.aload_n 0, 1) := by decide +kernel
theorem dX12_qDropsToBracket_12 : decode cX12_qDropsToBracket 12 = .ok (.getfield 183, 3) := by decide +kernel
theorem dX12_qDropsToBracket_15 : decode cX12_qDropsToBracket 15 = .ok (.aload_n 0, 1) := by decide +kernel
theorem dX12_qDropsToBracket_16 : decode cX12_qDropsToBracket 16 = .ok (.getfield 260, 3) := by decide +kernel
theorem dX12_qDropsToBracket_19 : decode cX12_qDropsToBracket 19 = .ok (.iconst 1, 1) := by decide +kernel
theorem dX12_qDropsToBracket_20 : decode cX12_qDropsToBracket 20 = .ok (.isub, 1) := by decide +kernel
theorem dX12_qDropsToBracket_21 : decode cX12_qDropsToBracket 21 = .ok (.iaload, 1) := by decide +kernel
theorem dX12_qDropsToBracket_22 : decode cX12_qDropsToBracket 22 = .ok (.invokestatic 501, 3) := by decide +kernel
theorem dX12_qDropsToBracket_25 : decode cX12_qDropsToBracket 25 = .ok (.ifCond .ne 10, 3) := by decide +kernel
theorem dX12_qDropsToBracket_28 : decode cX12_qDropsToBracket 28 = .ok (.aload_n 0, 1) := by decide +kernel
theorem dX12_qDropsToBracket_29 : decode cX12_qDropsToBracket 29 = .ok (.invokevirtual 504, 3) := by decide +kernel
theorem dX12_qDropsToBracket_32 : decode cX12_qDropsToBracket 32 = .ok (.goto (-32), 3) := by decide +kernel
theorem w_7_63 : (Cond.methodLink RX12 504 yX12_qDrops) ∈ wsL_law := sk_mem (ck_7 _ (List.mem_of_getElem? (i := 63) rfl)) rfl
theorem w_7_65 : (Cond.instanceMethod yX12_qDrops) ∈ wsL_law := sk_mem (ck_7 _ (List.mem_of_getElem? (i := 65) rfl)) rfl
theorem w_0_63 : (Cond.selects RX12 yX12_qDrops yX12_qDrops) ∈ wsL_law := sk_mem (ck_0 _ (List.mem_of_getElem? (i := 63) rfl)) rfl
theorem w_7_81 : (Cond.code yX12_qDropsToBracket cX12_qDropsToBracket 1 none) ∈ wsL_law := sk_mem (ck_7 _ (List.mem_of_getElem? (i := 81) rfl)) rfl
set_option maxHeartbeats 4000000 in
set_option maxRecDepth 100000 in
theorem c_m_qDropsToBracket (l : Launch) (D : va_G) (cI cJ cC cZ cS : ClassId) (mm : Nat) (g : Nat → Nat) (ta : Nat) (pa : Nat) (pe : Nat) (pd : Int32) (pb : Nat) (pp : Int32) (pf : Int32) (pg : Int32) (pn : Int32) (rt : Int32) (rn : Int32) (cd : Nat) (sn : Int32) (il : Nat) (tk : Int32) (am : Int32) (at_ : Int32) (aa : Int32) (wt : Int32) (wy : Int64) (rm : Nat) (ud : Nat) (nu : Nat) (sd : Int64) (qn : Nat) (qw : Nat) (qo : Int32) (qb : Nat) (qp : Nat) (qa : Int64) (qi : Nat) (oc : Nat) (qs : Nat → Nat) (qt : Nat → Nat) (K : Nat) (n0 : Nat) (hqs_ : qn + qw ≤ 1690) (hqb : qb ≤ 1700) (hsj : SJ (K + 1) n0 qs qn qt qb qw) (hqs : ∀ j, qs j ≤ 20000) (hqt : ∀ j, qt j ≤ 100) : skM l yX12_qDropsToBracket cX12_qDropsToBracket 1 none 2 41 0 0 D (skT cI cJ cC cZ cS) [.ref mm] [(mm, .inr (12, mo g (nI ta) (nI pa) (nI pe) pd (nI pb) pp pf pg pn rt rn (nI cd) sn (nI il) tk am at_ aa 0 0 (-1) wt wy 0 (nI rm) (nI ud) (nI nu) sd (nI qn) (nI qw) qo (nI qb) (nI qp) qa (nI qi) (nI oc))), (g 80, .inl (cI, 1700, .inl (fun j => nI (qs j)))), (g 82, .inl (cI, 1700, .inl (fun j => nI (qt j))))] (skV D (skT cI cJ cC cZ cS) (fun (u : va_W) => ∃ (qw2 : Nat), ∃ (qn2 : Nat), ∃ (qs2 : Nat → Nat), SJ (K + 1) n0 qs2 qn2 qt qb qw2 ∧ qn2 + qw2 = qn + qw ∧ qw2 ≤ qw ∧ (qw2 ≤ qb ∨ (20 ≤ qt (qw2 - 1) ∧ qt (qw2 - 1) ≤ 24)) ∧ nbr qt qw2 qw ∧ (∀ j, qs2 j ≤ 20000) ∧ u = [(mm, .inr (12, mo g (nI ta) (nI pa) (nI pe) pd (nI pb) pp pf pg pn rt rn (nI cd) sn (nI il) tk am at_ aa 0 0 (-1) wt wy 0 (nI rm) (nI ud) (nI nu) sd (nI qn2) (nI qw2) qo (nI qb) (nI qp) qa (nI qi) (nI oc))), (g 80, .inl (cI, 1700, .inl (fun j => nI (qs2 j)))), (g 82, .inl (cI, 1700, .inl (fun j => nI (qt j))))])) := by
  refine skM_of (by decide +kernel) (Nat.le_of_ble_eq_true rfl) ?_
  intro p e s m below meth c A ls E hP hD hl
  obtain ⟨hx, hb, hr, hml, hlocks, hin, hown, hts, hK, hA⟩ := E
  have hown : s.vm.findClass RX12 = some m.cls := hown
  have hS : va_S A s.heap s.heap [] := va_S.rf
  have hl : lv_has ls 1 [(0, .ref mm)] := hl
  have lp_1 : ∀ (n_2 : Nat) (zn : Nat) (zw : Nat) (zs : Nat → Nat) (H : Heap) (locs : List Loc) (ls : Array Slot), zw < n_2 → (∀ j, zs j ≤ 20000) → (zn + zw = qn + qw) → (zw ≤ qw) → (SJ (K + 1) n0 zs zn qt qb zw) → (nbr qt zw qw) → va_P D vwCl [(mm, .inr (12, mo g (nI ta) (nI pa) (nI pe) pd (nI pb) pp pf pg pn rt rn (nI cd) sn (nI il) tk am at_ aa 0 0 (-1) wt wy 0 (nI rm) (nI ud) (nI nu) sd (nI zn) (nI zw) qo (nI qb) (nI qp) qa (nI qi) (nI oc))), (g 80, .inl (cI, 1700, .inl (fun j => nI (zs j)))), (g 82, .inl (cI, 1700, .inl (fun j => nI (qt j))))] H → va_D A [(mm, .inr (12, mo g (nI ta) (nI pa) (nI pe) pd (nI pb) pp pf pg pn rt rn (nI cd) sn (nI il) tk am at_ aa 0 0 (-1) wt wy 0 (nI rm) (nI ud) (nI nu) sd (nI zn) (nI zw) qo (nI qb) (nI qp) qa (nI qi) (nI oc))), (g 80, .inl (cI, 1700, .inl (fun j => nI (zs j)))), (g 82, .inl (cI, 1700, .inl (fun j => nI (qt j))))] → va_S A s.heap H locs → lv_has ls 1 [(0, .ref mm)] → W p l e { frames := 2, cells := 0, slots := 0, locals := 41 } s m ([.ref mm] : List Value).toArray below meth c H locs 0 0 (MQ below (skV D (skT cI cJ cC cZ cS) (fun (u : va_W) => ∃ (qw2 : Nat), ∃ (qn2 : Nat), ∃ (qs2 : Nat → Nat), SJ (K + 1) n0 qs2 qn2 qt qb qw2 ∧ qn2 + qw2 = qn + qw ∧ qw2 ≤ qw ∧ (qw2 ≤ qb ∨ (20 ≤ qt (qw2 - 1) ∧ qt (qw2 - 1) ≤ 24)) ∧ nbr qt qw2 qw ∧ (∀ j, qs2 j ≤ 20000) ∧ u = [(mm, .inr (12, mo g (nI ta) (nI pa) (nI pe) pd (nI pb) pp pf pg pn rt rn (nI cd) sn (nI il) tk am at_ aa 0 0 (-1) wt wy 0 (nI rm) (nI ud) (nI nu) sd (nI qn2) (nI qw2) qo (nI qb) (nI qp) qa (nI qi) (nI oc))), (g 80, .inl (cI, 1700, .inl (fun j => nI (qs2 j)))), (g 82, .inl (cI, 1700, .inl (fun j => nI (qt j))))]) A) ([.ref mm] : List Value).toArray s 0 0 A) (F0 m 0 ls []) := by
    intro n_2
    induction n_2 with
    | zero => intro zn zw zs H locs ls hm; exact absurd hm (Nat.not_lt_zero _)
    | succ n_2 ih_lp_1 =>
      intro zn zw zs H locs ls hm hzs hzs_ hzw hzj hzn hP hD hS hl
      refine lv_aload_n hx hb dX12_qDropsToBracket_0 rfl (lv_at hl 0 rfl) ?_
      refine sk_get (v := .int (nI zw)) (C := RX12) (T := TX12) (N := 92) hx hb hts inlX12 hown hK hP 0 rfl rfl 83 (by decide) w_5_238 rfl dX12_qDropsToBracket_1 ?_
      refine lv_aload_n hx hb dX12_qDropsToBracket_4 rfl (lv_at hl 0 rfl) ?_
      refine sk_get (v := .int (nI qb)) (C := RX12) (T := TX12) (N := 92) hx hb hts inlX12 hown hK hP 0 rfl rfl 85 (by decide) w_6_0 rfl dX12_qDropsToBracket_5 ?_
      refine lv_icmp_le (tgt := 35) hx hb dX12_qDropsToBracket_8 (by decide) (fun c_3 => ?_) (fun c_3 => ?_)
      · have c_3 : zw ≤ qb := (nle zw qb (by omega) (by omega)).mp c_3
        exact sk_vret hx hb hr hlocks hK hP hD hS (⟨zw, zn, zs, hzj, by omega, by omega, by omega, hzn, hzs, rfl⟩) (Nat.le_of_ble_eq_true rfl) (Nat.le_of_ble_eq_true rfl) dX12_qDropsToBracket_35
      · have c_3 : ¬ (zw ≤ qb) := fun h => c_3 ((nle zw qb (by omega) (by omega)).mpr h)
        refine lv_aload_n hx hb dX12_qDropsToBracket_11 rfl (lv_at hl 0 rfl) ?_
        refine sk_get (v := .ref (g 82)) (C := RX12) (T := TX12) (N := 92) hx hb hts inlX12 hown hK hP 0 rfl rfl 82 (by decide) w_5_237 rfl dX12_qDropsToBracket_12 ?_
        refine lv_aload_n hx hb dX12_qDropsToBracket_15 rfl (lv_at hl 0 rfl) ?_
        refine sk_get (v := .int (nI zw)) (C := RX12) (T := TX12) (N := 92) hx hb hts inlX12 hown hK hP 0 rfl rfl 83 (by decide) w_5_238 rfl dX12_qDropsToBracket_16 ?_
        refine lv_iconst (v := 1) hx hb dX12_qDropsToBracket_19 (by decide) ?_
        refine lv_isub hx hb dX12_qDropsToBracket_20 ?_
        refine sk_top (nI (zw - 1)) (nsub zw 1 (by omega)) ?_
        refine va_iald hx hb hK.1 hP 2 0 rfl rfl (vin (zw - 1) 1700 (by omega) (by omega)) dX12_qDropsToBracket_21 ?_
        refine sk_top (nI (qt (zw - 1))) (nrd qt (zw - 1) (by omega)) ?_
        have hb_4 := hqt (zw - 1)
        refine sk_Si (n := 1) (rest := []) (wr := [(mm, .inr (12, mo g (nI ta) (nI pa) (nI pe) pd (nI pb) pp pf pg pn rt rn (nI cd) sn (nI il) tk am at_ aa 0 0 (-1) wt wy 0 (nI rm) (nI ud) (nI nu) sd (nI zn) (nI zw) qo (nI qb) (nI qp) qa (nI qi) (nI oc))), (g 80, .inl (cI, 1700, .inl (fun j => nI (zs j)))), (g 82, .inl (cI, 1700, .inl (fun j => nI (qt j))))]) ⟨hx, hb, hml, hown, hts⟩ hl.1 (c_m_qIsBracket l D cI cJ cC cZ cS (qt (zw - 1)) (by omega)) w_7_75 w_7_76 w_1_14 w_7_77 (by decide +kernel) ⟨⟨(Nat.le_of_ble_eq_true rfl), (Nat.le_of_ble_eq_true rfl)⟩, (Nat.le_of_ble_eq_true rfl), (Nat.le_of_ble_eq_true rfl)⟩ hK hP hD hS hA [] [0, 1, 2] rfl rfl (by decide) (by decide) (by decide) rfl rfl (Nat.le_of_ble_eq_true rfl) dX12_qDropsToBracket_22 (fun r_6 u H locs hw hP hD hS => ?_)
        obtain ⟨b_5, hb1_7, rfl, rfl⟩ := hw
        have hP : va_P D vwCl [(mm, .inr (12, mo g (nI ta) (nI pa) (nI pe) pd (nI pb) pp pf pg pn rt rn (nI cd) sn (nI il) tk am at_ aa 0 0 (-1) wt wy 0 (nI rm) (nI ud) (nI nu) sd (nI zn) (nI zw) qo (nI qb) (nI qp) qa (nI qi) (nI oc))), (g 80, .inl (cI, 1700, .inl (fun j => nI (zs j)))), (g 82, .inl (cI, 1700, .inl (fun j => nI (qt j))))] H := hP
        have hD : va_D A [(mm, .inr (12, mo g (nI ta) (nI pa) (nI pe) pd (nI pb) pp pf pg pn rt rn (nI cd) sn (nI il) tk am at_ aa 0 0 (-1) wt wy 0 (nI rm) (nI ud) (nI nu) sd (nI zn) (nI zw) qo (nI qb) (nI qp) qa (nI qi) (nI oc))), (g 80, .inl (cI, 1700, .inl (fun j => nI (zs j)))), (g 82, .inl (cI, 1700, .inl (fun j => nI (qt j))))] := hD
        refine lv_if_ne (tgt := 35) hx hb dX12_qDropsToBracket_25 (by decide) (fun c_8 => ?_) (fun c_8 => ?_)
        · have c_8 : ¬ (b_5 = 0) := fun h => c_8 ((neq b_5 0 (by omega) (by omega)).mpr h)
          exact sk_vret hx hb hr hlocks hK hP hD hS (⟨zw, zn, zs, hzj, by omega, by omega, by omega, hzn, hzs, rfl⟩) (Nat.le_of_ble_eq_true rfl) (Nat.le_of_ble_eq_true rfl) dX12_qDropsToBracket_35
        · have c_8 : b_5 = 0 := (neq b_5 0 (by omega) (by omega)).mp c_8
          refine lv_aload_n hx hb dX12_qDropsToBracket_28 rfl (lv_at hl 0 rfl) ?_
          refine sk_Vv (q0 := 0) (n := 0) (rest := []) (wr := []) ⟨hx, hb, hml, hown, hts⟩ hl.1 (c_m_qDrops l D cI cJ cC cZ cS mm g ta pa pe pd pb pp pf pg pn rt rn cd sn il tk am at_ aa wt wy rm ud nu sd zn zw qo qb qp qa qi oc zs qt (by omega) (by omega) (by omega) hzs hqt) w_7_63 w_7_65 w_0_63 w_1_14 w_7_66 (by decide +kernel) ⟨⟨(Nat.le_of_ble_eq_true rfl), (Nat.le_of_ble_eq_true rfl)⟩, (Nat.le_of_ble_eq_true rfl), (Nat.le_of_ble_eq_true rfl)⟩ hK hP hD hS hA [0, 1, 2] [] rfl rfl (by decide) (by decide) (by decide) rfl rfl rfl rfl (Nat.le_of_ble_eq_true rfl) dX12_qDropsToBracket_29 (fun u H locs hw hP hD hS => ?_)
          obtain ⟨qs2_9, hqe_10, hqs2_11, rfl⟩ := hw
          have hP : va_P D vwCl [(mm, .inr (12, mo g (nI ta) (nI pa) (nI pe) pd (nI pb) pp pf pg pn rt rn (nI cd) sn (nI il) tk am at_ aa 0 0 (-1) wt wy 0 (nI rm) (nI ud) (nI nu) sd (nI (zn + 1)) (nI (zw - 1)) qo (nI qb) (nI qp) qa (nI qi) (nI oc))), (g 80, .inl (cI, 1700, .inl (fun j => nI (qs2_9 j)))), (g 82, .inl (cI, 1700, .inl (fun j => nI (qt j))))] H := hP
          have hD : va_D A [(mm, .inr (12, mo g (nI ta) (nI pa) (nI pe) pd (nI pb) pp pf pg pn rt rn (nI cd) sn (nI il) tk am at_ aa 0 0 (-1) wt wy 0 (nI rm) (nI ud) (nI nu) sd (nI (zn + 1)) (nI (zw - 1)) qo (nI qb) (nI qp) qa (nI qi) (nI oc))), (g 80, .inl (cI, 1700, .inl (fun j => nI (qs2_9 j)))), (g 82, .inl (cI, 1700, .inl (fun j => nI (qt j))))] := hD
          refine lv_goto (tgt := 0) hx hb dX12_qDropsToBracket_32 (by decide) ?_
          exact ih_lp_1 (zn + 1) (zw - 1) qs2_9 _ _ _ (by omega) hqs2_11 (by omega) (by omega) (SJ_drop hzj (by omega) (by omega) hqe_10) (nbr_s hzn (by omega)) hP hD hS (lv_sub hl [0] rfl)
  exact lp_1 (qw + 1) qn qw qs _ _ _ (Nat.lt_succ_self _) hqs (by omega) (by omega) hsj nbr_0 hP hD hS (lv_sub hl [0] rfl)
theorem dX12_qEndsPart_0 : decode cX12_qEndsPart 0 = .ok (.aload_n 0, 1) := by decide +kernel
theorem dX12_qEndsPart_1 : decode cX12_qEndsPart 1 = .ok (.getfield 195, 3) := by decide +kernel
theorem dX12_qEndsPart_4 : decode cX12_qEndsPart 4 = .ok (.ifCond .ne 47, 3) := by decide +kernel
theorem dX12_qEndsPart_51 : decode cX12_qEndsPart 51 = .ok (.return_, 1) := by decide +kernel
theorem dX12_qEndsPart_7 : decode cX12_qEndsPart 7 = .ok (.aload_n 0, 1) := by decide +kernel
theorem dX12_qEndsPart_8 : decode cX12_qEndsPart 8 = .ok (.getfield 260, 3) := by decide +kernel
theorem dX12_qEndsPart_11 : decode cX12_qEndsPart 11 = .ok (.aload_n 0, 1) := by decide +kernel
theorem dX12_qEndsPart_12 : decode cX12_qEndsPart 12 = .ok (.getfield 266, 3) := by decide +kernel
theorem dX12_qEndsPart_15 : decode cX12_qEndsPart 15 = .ok (.if_icmp .le 36, 3) := by decide +kernel
theorem dX12_qEndsPart_18 : decode cX12_qEndsPart 18 = .ok (.aload_n 0, 1) := by decide +kernel
theorem dX12_qEndsPart_19 : decode cX12_qEndsPart 19 = .ok (.getfield 183, 3) := by decide +kernel
theorem dX12_qEndsPart_22 : decode cX12_qEndsPart 22 = .ok (.aload_n 0, 1) := by decide +kernel
theorem dX12_qEndsPart_23 : decode cX12_qEndsPart 23 = .ok (.getfield 260, 3) := by decide +kernel
theorem dX12_qEndsPart_26 : decode cX12_qEndsPart 26 = .ok (.iconst 1, 1) := by decide +kernel
theorem dX12_qEndsPart_27 : decode cX12_qEndsPart 27 = .ok (.isub, 1) := by decide +kernel
theorem dX12_qEndsPart_28 : decode cX12_qEndsPart 28 = .ok (.iaload, 1) := by decide +kernel
theorem dX12_qEndsPart_29 : decode cX12_qEndsPart 29 = .ok (.bipush 60, 2) := by decide +kernel
theorem dX12_qEndsPart_31 : decode cX12_qEndsPart 31 = .ok (.if_icmp .lt 20, 3) := by decide +kernel
theorem dX12_qEndsPart_34 : decode cX12_qEndsPart 34 = .ok (.aload_n 0, 1) := by decide +kernel
theorem dX12_qEndsPart_35 : decode cX12_qEndsPart 35 = .ok (.dup, 1) := by decide +kernel
theorem dX12_qEndsPart_36 : decode cX12_qEndsPart 36 = .ok (.getfield 263, 3) := by decide +kernel
theorem dX12_qEndsPart_39 : decode cX12_qEndsPart 39 = .ok (.iconst 1, 1) := by decide +kernel
theorem dX12_qEndsPart_40 : decode cX12_qEndsPart 40 = .ok (.isub, 1) := by decide +kernel
theorem dX12_qEndsPart_41 : decode cX12_qEndsPart 41 = .ok (.putfield 263, 3) := by decide +kernel
theorem dX12_qEndsPart_44 : decode cX12_qEndsPart 44 = .ok (.aload_n 0, 1) := by decide +kernel
theorem dX12_qEndsPart_45 : decode cX12_qEndsPart 45 = .ok (.invokevirtual 504, 3) := by decide +kernel
theorem dX12_qEndsPart_48 : decode cX12_qEndsPart 48 = .ok (.goto (-48), 3) := by decide +kernel
theorem w_7_62 : (Cond.code yX12_qEndsPart cX12_qEndsPart 1 none) ∈ wsL_law := sk_mem (ck_7 _ (List.mem_of_getElem? (i := 62) rfl)) rfl
set_option maxHeartbeats 4000000 in
set_option maxRecDepth 100000 in
theorem c_m_qEndsPart (l : Launch) (D : va_G) (cI cJ cC cZ cS : ClassId) (mm : Nat) (g : Nat → Nat) (ta : Nat) (pa : Nat) (pe : Nat) (pd : Int32) (pb : Nat) (pp : Int32) (pf : Int32) (pg : Int32) (pn : Int32) (rt : Int32) (rn : Int32) (cd : Nat) (sn : Int32) (il : Nat) (tk : Int32) (am : Int32) (at_ : Int32) (aa : Int32) (wt : Int32) (wy : Int64) (rm : Nat) (ud : Nat) (nu : Nat) (sd : Int64) (qn : Nat) (qw : Nat) (qo : Int32) (qb : Nat) (qp : Nat) (qa : Int64) (qi : Nat) (oc : Nat) (qs : Nat → Nat) (qt : Nat → Nat) (K : Nat) (n0 : Nat) (hpb : pb ≤ 5) (hqs_ : qn + qw ≤ 1690) (hqb : qb ≤ 1700) (hsj : pb = 0 → SJ (K + 1) n0 qs qn qt qb qw) (hqs : ∀ j, qs j ≤ 20000) (hqt : ∀ j, qt j ≤ 100) : skM l yX12_qEndsPart cX12_qEndsPart 1 none 2 41 0 0 D (skT cI cJ cC cZ cS) [.ref mm] [(mm, .inr (12, mo g (nI ta) (nI pa) (nI pe) pd (nI pb) pp pf pg pn rt rn (nI cd) sn (nI il) tk am at_ aa 0 0 (-1) wt wy 0 (nI rm) (nI ud) (nI nu) sd (nI qn) (nI qw) qo (nI qb) (nI qp) qa (nI qi) (nI oc))), (g 80, .inl (cI, 1700, .inl (fun j => nI (qs j)))), (g 82, .inl (cI, 1700, .inl (fun j => nI (qt j))))] (skV D (skT cI cJ cC cZ cS) (fun (u : va_W) => ∃ (qw2 : Nat), ∃ (qn2 : Nat), ∃ (qo2 : Int32), ∃ (qs2 : Nat → Nat), (pb = 0 → SJ (K + 1) n0 qs2 qn2 qt qb qw2) ∧ qn2 + qw2 = qn + qw ∧ (∀ j, qs2 j ≤ 20000) ∧ u = [(mm, .inr (12, mo g (nI ta) (nI pa) (nI pe) pd (nI pb) pp pf pg pn rt rn (nI cd) sn (nI il) tk am at_ aa 0 0 (-1) wt wy 0 (nI rm) (nI ud) (nI nu) sd (nI qn2) (nI qw2) qo2 (nI qb) (nI qp) qa (nI qi) (nI oc))), (g 80, .inl (cI, 1700, .inl (fun j => nI (qs2 j)))), (g 82, .inl (cI, 1700, .inl (fun j => nI (qt j))))])) := by
  refine skM_of (by decide +kernel) (Nat.le_of_ble_eq_true rfl) ?_
  intro p e s m below meth c A ls E hP hD hl
  obtain ⟨hx, hb, hr, hml, hlocks, hin, hown, hts, hK, hA⟩ := E
  have hown : s.vm.findClass RX12 = some m.cls := hown
  have hS : va_S A s.heap s.heap [] := va_S.rf
  have hl : lv_has ls 1 [(0, .ref mm)] := hl
  have lp_1 : ∀ (n_2 : Nat) (zn : Nat) (zw : Nat) (zo : Int32) (zs : Nat → Nat) (H : Heap) (locs : List Loc) (ls : Array Slot), zw < n_2 → (∀ j, zs j ≤ 20000) → (zn + zw = qn + qw) → (pb = 0 → SJ (K + 1) n0 zs zn qt qb zw) → va_P D vwCl [(mm, .inr (12, mo g (nI ta) (nI pa) (nI pe) pd (nI pb) pp pf pg pn rt rn (nI cd) sn (nI il) tk am at_ aa 0 0 (-1) wt wy 0 (nI rm) (nI ud) (nI nu) sd (nI zn) (nI zw) zo (nI qb) (nI qp) qa (nI qi) (nI oc))), (g 80, .inl (cI, 1700, .inl (fun j => nI (zs j)))), (g 82, .inl (cI, 1700, .inl (fun j => nI (qt j))))] H → va_D A [(mm, .inr (12, mo g (nI ta) (nI pa) (nI pe) pd (nI pb) pp pf pg pn rt rn (nI cd) sn (nI il) tk am at_ aa 0 0 (-1) wt wy 0 (nI rm) (nI ud) (nI nu) sd (nI zn) (nI zw) zo (nI qb) (nI qp) qa (nI qi) (nI oc))), (g 80, .inl (cI, 1700, .inl (fun j => nI (zs j)))), (g 82, .inl (cI, 1700, .inl (fun j => nI (qt j))))] → va_S A s.heap H locs → lv_has ls 1 [(0, .ref mm)] → W p l e { frames := 2, cells := 0, slots := 0, locals := 41 } s m ([.ref mm] : List Value).toArray below meth c H locs 0 0 (MQ below (skV D (skT cI cJ cC cZ cS) (fun (u : va_W) => ∃ (qw2 : Nat), ∃ (qn2 : Nat), ∃ (qo2 : Int32), ∃ (qs2 : Nat → Nat), (pb = 0 → SJ (K + 1) n0 qs2 qn2 qt qb qw2) ∧ qn2 + qw2 = qn + qw ∧ (∀ j, qs2 j ≤ 20000) ∧ u = [(mm, .inr (12, mo g (nI ta) (nI pa) (nI pe) pd (nI pb) pp pf pg pn rt rn (nI cd) sn (nI il) tk am at_ aa 0 0 (-1) wt wy 0 (nI rm) (nI ud) (nI nu) sd (nI qn2) (nI qw2) qo2 (nI qb) (nI qp) qa (nI qi) (nI oc))), (g 80, .inl (cI, 1700, .inl (fun j => nI (qs2 j)))), (g 82, .inl (cI, 1700, .inl (fun j => nI (qt j))))]) A) ([.ref mm] : List Value).toArray s 0 0 A) (F0 m 0 ls []) := by
    intro n_2
    induction n_2 with
    | zero => intro zn zw zo zs H locs ls hm; exact absurd hm (Nat.not_lt_zero _)
    | succ n_2 ih_lp_1 =>
      intro zn zw zo zs H locs ls hm hzs hzs_ hzj hP hD hS hl
      refine lv_aload_n hx hb dX12_qEndsPart_0 rfl (lv_at hl 0 rfl) ?_
      refine sk_get (v := .int (nI pb)) (C := RX12) (T := TX12) (N := 92) hx hb hts inlX12 hown hK hP 0 rfl rfl 5 (by decide) w_5_160 rfl dX12_qEndsPart_1 ?_
      refine lv_if_ne (tgt := 51) hx hb dX12_qEndsPart_4 (by decide) (fun c_3 => ?_) (fun c_3 => ?_)
      · have c_3 : ¬ (pb = 0) := fun h => c_3 ((neq pb 0 (by omega) (by omega)).mpr h)
        exact sk_vret hx hb hr hlocks hK hP hD hS (⟨zw, zn, zo, zs, hzj, by omega, hzs, rfl⟩) (Nat.le_of_ble_eq_true rfl) (Nat.le_of_ble_eq_true rfl) dX12_qEndsPart_51
      · have c_3 : pb = 0 := (neq pb 0 (by omega) (by omega)).mp c_3
        refine lv_aload_n hx hb dX12_qEndsPart_7 rfl (lv_at hl 0 rfl) ?_
        refine sk_get (v := .int (nI zw)) (C := RX12) (T := TX12) (N := 92) hx hb hts inlX12 hown hK hP 0 rfl rfl 83 (by decide) w_5_238 rfl dX12_qEndsPart_8 ?_
        refine lv_aload_n hx hb dX12_qEndsPart_11 rfl (lv_at hl 0 rfl) ?_
        refine sk_get (v := .int (nI qb)) (C := RX12) (T := TX12) (N := 92) hx hb hts inlX12 hown hK hP 0 rfl rfl 85 (by decide) w_6_0 rfl dX12_qEndsPart_12 ?_
        refine lv_icmp_le (tgt := 51) hx hb dX12_qEndsPart_15 (by decide) (fun c_4 => ?_) (fun c_4 => ?_)
        · have c_4 : zw ≤ qb := (nle zw qb (by omega) (by omega)).mp c_4
          exact sk_vret hx hb hr hlocks hK hP hD hS (⟨zw, zn, zo, zs, hzj, by omega, hzs, rfl⟩) (Nat.le_of_ble_eq_true rfl) (Nat.le_of_ble_eq_true rfl) dX12_qEndsPart_51
        · have c_4 : ¬ (zw ≤ qb) := fun h => c_4 ((nle zw qb (by omega) (by omega)).mpr h)
          refine lv_aload_n hx hb dX12_qEndsPart_18 rfl (lv_at hl 0 rfl) ?_
          refine sk_get (v := .ref (g 82)) (C := RX12) (T := TX12) (N := 92) hx hb hts inlX12 hown hK hP 0 rfl rfl 82 (by decide) w_5_237 rfl dX12_qEndsPart_19 ?_
          refine lv_aload_n hx hb dX12_qEndsPart_22 rfl (lv_at hl 0 rfl) ?_
          refine sk_get (v := .int (nI zw)) (C := RX12) (T := TX12) (N := 92) hx hb hts inlX12 hown hK hP 0 rfl rfl 83 (by decide) w_5_238 rfl dX12_qEndsPart_23 ?_
          refine lv_iconst (v := 1) hx hb dX12_qEndsPart_26 (by decide) ?_
          refine lv_isub hx hb dX12_qEndsPart_27 ?_
          refine sk_top (nI (zw - 1)) (nsub zw 1 (by omega)) ?_
          refine va_iald hx hb hK.1 hP 2 0 rfl rfl (vin (zw - 1) 1700 (by omega) (by omega)) dX12_qEndsPart_28 ?_
          refine sk_top (nI (qt (zw - 1))) (nrd qt (zw - 1) (by omega)) ?_
          have hb_5 := hqt (zw - 1)
          refine lv_bipush (v := 60) hx hb dX12_qEndsPart_29 (by decide) ?_
          refine lv_icmp_lt (tgt := 51) hx hb dX12_qEndsPart_31 (by decide) (fun c_6 => ?_) (fun c_6 => ?_)
          · have c_6 : qt (zw - 1) < 60 := (nlt (qt (zw - 1)) 60 (by omega) (by omega)).mp c_6
            exact sk_vret hx hb hr hlocks hK hP hD hS (⟨zw, zn, zo, zs, hzj, by omega, hzs, rfl⟩) (Nat.le_of_ble_eq_true rfl) (Nat.le_of_ble_eq_true rfl) dX12_qEndsPart_51
          · have c_6 : ¬ (qt (zw - 1) < 60) := fun h => c_6 ((nlt (qt (zw - 1)) 60 (by omega) (by omega)).mpr h)
            refine lv_aload_n hx hb dX12_qEndsPart_34 rfl (lv_at hl 0 rfl) ?_
            refine lv_dup hx hb dX12_qEndsPart_35 rfl ?_
            refine sk_get (v := .int zo) (C := RX12) (T := TX12) (N := 92) hx hb hts inlX12 hown hK hP 0 rfl rfl 84 (by decide) w_5_239 rfl dX12_qEndsPart_36 ?_
            refine lv_iconst (v := 1) hx hb dX12_qEndsPart_39 (by decide) ?_
            refine lv_isub hx hb dX12_qEndsPart_40 ?_
            refine lv_topi (fun v_7 ev_7 => ?_)
            refine sk_put (ws' := [(mm, .inr (12, mo g (nI ta) (nI pa) (nI pe) pd (nI pb) pp pf pg pn rt rn (nI cd) sn (nI il) tk am at_ aa 0 0 (-1) wt wy 0 (nI rm) (nI ud) (nI nu) sd (nI zn) (nI zw) v_7 (nI qb) (nI qp) qa (nI qi) (nI oc))), (g 80, .inl (cI, 1700, .inl (fun j => nI (zs j)))), (g 82, .inl (cI, 1700, .inl (fun j => nI (qt j))))]) (C := RX12) (T := TX12) (N := 92) (v := .int v_7) hx hb hts inlX12 tyX12 tyX12_ok nmX12 hown hK hP hD hS 0 rfl rfl 84 (by decide) w_5_239 rfl rfl rfl (Nat.le_of_ble_eq_true rfl) rfl dX12_qEndsPart_41 (fun H locs hP hD hS => ?_)
            refine lv_aload_n hx hb dX12_qEndsPart_44 rfl (lv_at hl 0 rfl) ?_
            refine sk_Vv (q0 := 0) (n := 0) (rest := []) (wr := []) ⟨hx, hb, hml, hown, hts⟩ hl.1 (c_m_qDrops l D cI cJ cC cZ cS mm g ta pa pe pd pb pp pf pg pn rt rn cd sn il tk am at_ aa wt wy rm ud nu sd zn zw v_7 qb qp qa qi oc zs qt (by omega) (by omega) (by omega) hzs hqt) w_7_63 w_7_65 w_0_63 w_1_14 w_7_66 (by decide +kernel) ⟨⟨(Nat.le_of_ble_eq_true rfl), (Nat.le_of_ble_eq_true rfl)⟩, (Nat.le_of_ble_eq_true rfl), (Nat.le_of_ble_eq_true rfl)⟩ hK hP hD hS hA [0, 1, 2] [] rfl rfl (by decide) (by decide) (by decide) rfl rfl rfl rfl (Nat.le_of_ble_eq_true rfl) dX12_qEndsPart_45 (fun u H locs hw hP hD hS => ?_)
            obtain ⟨qs2_8, hqe_9, hqs2_10, rfl⟩ := hw
            have hP : va_P D vwCl [(mm, .inr (12, mo g (nI ta) (nI pa) (nI pe) pd (nI pb) pp pf pg pn rt rn (nI cd) sn (nI il) tk am at_ aa 0 0 (-1) wt wy 0 (nI rm) (nI ud) (nI nu) sd (nI (zn + 1)) (nI (zw - 1)) v_7 (nI qb) (nI qp) qa (nI qi) (nI oc))), (g 80, .inl (cI, 1700, .inl (fun j => nI (qs2_8 j)))), (g 82, .inl (cI, 1700, .inl (fun j => nI (qt j))))] H := hP
            have hD : va_D A [(mm, .inr (12, mo g (nI ta) (nI pa) (nI pe) pd (nI pb) pp pf pg pn rt rn (nI cd) sn (nI il) tk am at_ aa 0 0 (-1) wt wy 0 (nI rm) (nI ud) (nI nu) sd (nI (zn + 1)) (nI (zw - 1)) v_7 (nI qb) (nI qp) qa (nI qi) (nI oc))), (g 80, .inl (cI, 1700, .inl (fun j => nI (qs2_8 j)))), (g 82, .inl (cI, 1700, .inl (fun j => nI (qt j))))] := hD
            refine lv_goto (tgt := 0) hx hb dX12_qEndsPart_48 (by decide) ?_
            exact ih_lp_1 (zn + 1) (zw - 1) v_7 qs2_8 _ _ _ (by omega) hqs2_10 (by omega) (fun h0 => SJ_drop (hzj h0) (by omega) (by omega) hqe_9) hP hD hS (lv_sub hl [0] rfl)
  exact lp_1 (qw + 1) qn qw qo qs _ _ _ (Nat.lt_succ_self _) hqs (by omega) hsj hP hD hS (lv_sub hl [0] rfl)
