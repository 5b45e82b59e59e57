def lkRes (P : Except Err (LkS × Nat)) (r : Int32) (il il2 dm dm2 : Nat) (pf pg : Int32) : Prop := match P with
  | .ok x => r = nI x.2 ∧ il2 = 1 ∧ dm2 = lD x.1 ∧ pf = 0 ∧ pg = -1
  | .error e => r = -1 ∧ il2 = il ∧ dm2 = dm ∧ pf = nI e.1 ∧ pg = nI e.2
theorem lr_ok {P : Except Err (LkS × Nat)} {pb : Nat} {pp sn : Int32} {il dm : Nat} {l0 l1 : Nat} {rt : Int32} {cd : Nat} {cs : Nat → Nat} {dz : Nat → Int32} {u0 u1 u2 v0 v1 v2 : Int32} (h : fnM P pb pp sn l0 l1 rt cd cs dz u0 u1 u2 v0 v1 v2) (hb : pb = 0) : lkRes P sn il 1 dm l0 (nI pb) pp := by
  cases P with
  | error e =>
    have h1 : pb = e.1 := h.1
    have h2 : 1 ≤ e.1 := h.2.2.1
    omega
  | ok x => exact ⟨h.2.2.1, rfl, h.2.2.2.2.1, by rw [hb]; rfl, h.2.1⟩
theorem lr_er {P : Except Err (LkS × Nat)} {pb : Nat} {pp sn : Int32} {il dm : Nat} {l0 l1 : Nat} {rt : Int32} {cd : Nat} {cs : Nat → Nat} {dz : Nat → Int32} {u0 u1 u2 v0 v1 v2 : Int32} (h : fnM P pb pp sn l0 l1 rt cd cs dz u0 u1 u2 v0 v1 v2) (hb : ¬ pb = 0) : lkRes P (-1) il il dm dm (nI pb) pp := by
  cases P with
  | ok x => exact absurd h.1 hb
  | error e => exact ⟨rfl, rfl, rfl, by rw [h.1], h.2.1⟩
theorem dg_X12_lock_0_0 : bqL cX12_lock 0 [(0, [42]), (1, [42]), (2, [180, 0, 192]), (5, [181, 0, 204]), (8, [42]), (9, [3]), (10, [181, 0, 192]), (13, [42]), (14, [3]), (15, [181, 0, 201]), (18, [42]), (19, [2]), (20, [181, 0, 215]), (23, [42]), (24, [3]), (25, [181, 0, 195]), (28, [42]), (29, [2]), (30, [181, 0, 198]), (33, [42]), (34, [3]), (35, [181, 1, 16]), (38, [3]), (39, [60]), (40, [27]), (41, [16, 27]), (43, [162, 0, 16]), (59, [3]), (60, [60]), (61, [27]), (62, [6]), (63, [162, 0, 16]), (66, [42]), (67, [180, 0, 54]), (70, [27]), (71, [2]), (72, [79]), (73, [132, 1, 1]), (76, [167, 255, 241]), (79, [42])] = true := by decide +kernel
theorem dX12_lock_0 : decode cX12_lock 0 = .ok (.aload_n 0, 1) := q_aload_n0 (bat_get dg_X12_lock_0_0 0 rfl rfl)
theorem dX12_lock_1 : decode cX12_lock 1 = .ok (.aload_n 0, 1) := q_aload_n0 (bat_get dg_X12_lock_0_0 1 rfl rfl)
theorem dX12_lock_2 : decode cX12_lock 2 = .ok (.getfield 192, 3) := q_getfield (bat_get dg_X12_lock_0_0 2 rfl rfl) rfl
theorem dX12_lock_5 : decode cX12_lock 5 = .ok (.putfield 204, 3) := q_putfield (bat_get dg_X12_lock_0_0 3 rfl rfl) rfl
theorem dX12_lock_8 : decode cX12_lock 8 = .ok (.aload_n 0, 1) := q_aload_n0 (bat_get dg_X12_lock_0_0 4 rfl rfl)
theorem dX12_lock_9 : decode cX12_lock 9 = .ok (.iconst 0, 1) := q_iconst0 (bat_get dg_X12_lock_0_0 5 rfl rfl)
theorem dX12_lock_10 : decode cX12_lock 10 = .ok (.putfield 192, 3) := q_putfield (bat_get dg_X12_lock_0_0 6 rfl rfl) rfl
theorem dX12_lock_13 : decode cX12_lock 13 = .ok (.aload_n 0, 1) := q_aload_n0 (bat_get dg_X12_lock_0_0 7 rfl rfl)
theorem dX12_lock_14 : decode cX12_lock 14 = .ok (.iconst 0, 1) := q_iconst0 (bat_get dg_X12_lock_0_0 8 rfl rfl)
theorem dX12_lock_15 : decode cX12_lock 15 = .ok (.putfield 201, 3) := q_putfield (bat_get dg_X12_lock_0_0 9 rfl rfl) rfl
theorem dX12_lock_18 : decode cX12_lock 18 = .ok (.aload_n 0, 1) := q_aload_n0 (bat_get dg_X12_lock_0_0 10 rfl rfl)
theorem dX12_lock_19 : decode cX12_lock 19 = .ok (.iconst (-1), 1) := q_iconstm1 (bat_get dg_X12_lock_0_0 11 rfl rfl)
theorem dX12_lock_20 : decode cX12_lock 20 = .ok (.putfield 215, 3) := q_putfield (bat_get dg_X12_lock_0_0 12 rfl rfl) rfl
theorem dX12_lock_23 : decode cX12_lock 23 = .ok (.aload_n 0, 1) := q_aload_n0 (bat_get dg_X12_lock_0_0 13 rfl rfl)
theorem dX12_lock_24 : decode cX12_lock 24 = .ok (.iconst 0, 1) := q_iconst0 (bat_get dg_X12_lock_0_0 14 rfl rfl)
theorem dX12_lock_25 : decode cX12_lock 25 = .ok (.putfield 195, 3) := q_putfield (bat_get dg_X12_lock_0_0 15 rfl rfl) rfl
theorem dX12_lock_28 : decode cX12_lock 28 = .ok (.aload_n 0, 1) := q_aload_n0 (bat_get dg_X12_lock_0_0 16 rfl rfl)
theorem dX12_lock_29 : decode cX12_lock 29 = .ok (.iconst (-1), 1) := q_iconstm1 (bat_get dg_X12_lock_0_0 17 rfl rfl)
theorem dX12_lock_30 : decode cX12_lock 30 = .ok (.putfield 198, 3) := q_putfield (bat_get dg_X12_lock_0_0 18 rfl rfl) rfl
theorem dX12_lock_33 : decode cX12_lock 33 = .ok (.aload_n 0, 1) := q_aload_n0 (bat_get dg_X12_lock_0_0 19 rfl rfl)
theorem dX12_lock_34 : decode cX12_lock 34 = .ok (.iconst 0, 1) := q_iconst0 (bat_get dg_X12_lock_0_0 20 rfl rfl)
theorem dX12_lock_35 : decode cX12_lock 35 = .ok (.putfield 272, 3) := q_putfield (bat_get dg_X12_lock_0_0 21 rfl rfl) rfl
theorem dX12_lock_38 : decode cX12_lock 38 = .ok (.iconst 0, 1) := q_iconst0 (bat_get dg_X12_lock_0_0 22 rfl rfl)
theorem dX12_lock_39 : decode cX12_lock 39 = .ok (.istore_n 1, 1) := q_istore_n1 (bat_get dg_X12_lock_0_0 23 rfl rfl)
theorem dX12_lock_40 : decode cX12_lock 40 = .ok (.iload_n 1, 1) := q_iload_n1 (bat_get dg_X12_lock_0_0 24 rfl rfl)
theorem dX12_lock_41 : decode cX12_lock 41 = .ok (.bipush 27, 2) := q_bipush (bat_get dg_X12_lock_0_0 25 rfl rfl) rfl
theorem dX12_lock_43 : decode cX12_lock 43 = .ok (.if_icmp .ge 16, 3) := q_if_icmp_ge (bat_get dg_X12_lock_0_0 26 rfl rfl) rfl
theorem dX12_lock_59 : decode cX12_lock 59 = .ok (.iconst 0, 1) := q_iconst0 (bat_get dg_X12_lock_0_0 27 rfl rfl)
theorem dX12_lock_60 : decode cX12_lock 60 = .ok (.istore_n 1, 1) := q_istore_n1 (bat_get dg_X12_lock_0_0 28 rfl rfl)
theorem dX12_lock_61 : decode cX12_lock 61 = .ok (.iload_n 1, 1) := q_iload_n1 (bat_get dg_X12_lock_0_0 29 rfl rfl)
theorem dX12_lock_62 : decode cX12_lock 62 = .ok (.iconst 3, 1) := q_iconst3 (bat_get dg_X12_lock_0_0 30 rfl rfl)
theorem dX12_lock_63 : decode cX12_lock 63 = .ok (.if_icmp .ge 16, 3) := q_if_icmp_ge (bat_get dg_X12_lock_0_0 31 rfl rfl) rfl
theorem dX12_lock_66 : decode cX12_lock 66 = .ok (.aload_n 0, 1) := q_aload_n0 (bat_get dg_X12_lock_0_0 32 rfl rfl)
theorem dX12_lock_67 : decode cX12_lock 67 = .ok (.getfield 54, 3) := q_getfield (bat_get dg_X12_lock_0_0 33 rfl rfl) rfl
theorem dX12_lock_70 : decode cX12_lock 70 = .ok (.iload_n 1, 1) := q_iload_n1 (bat_get dg_X12_lock_0_0 34 rfl rfl)
theorem dX12_lock_71 : decode cX12_lock 71 = .ok (.iconst (-1), 1) := q_iconstm1 (bat_get dg_X12_lock_0_0 35 rfl rfl)
theorem dX12_lock_72 : decode cX12_lock 72 = .ok (.iastore, 1) := q_iastore (bat_get dg_X12_lock_0_0 36 rfl rfl)
theorem dX12_lock_73 : decode cX12_lock 73 = .ok (.iinc 1 1, 3) := q_iinc (bat_get dg_X12_lock_0_0 37 rfl rfl) rfl
theorem dX12_lock_76 : decode cX12_lock 76 = .ok (.goto (-15), 3) := q_goto (bat_get dg_X12_lock_0_0 38 rfl rfl) rfl
theorem dX12_lock_79 : decode cX12_lock 79 = .ok (.aload_n 0, 1) := q_aload_n0 (bat_get dg_X12_lock_0_0 39 rfl rfl)
theorem dg_X12_lock_80_80 : bqL cX12_lock 80 [(0, [3]), (1, [181, 1, 31]), (4, [42]), (5, [182, 1, 34]), (8, [42]), (9, [4]), (10, [181, 1, 19]), (13, [42]), (14, [180, 0, 195]), (17, [154, 0, 18]), (35, [42]), (36, [42]), (37, [180, 0, 195]), (40, [181, 1, 40]), (43, [42]), (44, [42]), (45, [180, 0, 198]), (48, [181, 0, 13]), (51, [42]), (52, [180, 0, 195]), (55, [153, 0, 15]), (58, [42]), (59, [180, 0, 17]), (62, [4]), (63, [92]), (64, [46]), (65, [4]), (66, [96]), (67, [79]), (68, [2]), (69, [172]), (20, [42]), (21, [182, 0, 207]), (24, [2]), (25, [159, 0, 10]), (70, [42]), (71, [182, 1, 43]), (74, [42]), (75, [180, 1, 19]), (78, [172])] = true := by decide +kernel
theorem dX12_lock_80 : decode cX12_lock 80 = .ok (.iconst 0, 1) := q_iconst0 (bat_get dg_X12_lock_80_80 0 rfl rfl)
theorem dX12_lock_81 : decode cX12_lock 81 = .ok (.putfield 287, 3) := q_putfield (bat_get dg_X12_lock_80_80 1 rfl rfl) rfl
theorem dX12_lock_84 : decode cX12_lock 84 = .ok (.aload_n 0, 1) := q_aload_n0 (bat_get dg_X12_lock_80_80 2 rfl rfl)
theorem dX12_lock_85 : decode cX12_lock 85 = .ok (.invokevirtual 290, 3) := q_invokevirtual (bat_get dg_X12_lock_80_80 3 rfl rfl) rfl
theorem dX12_lock_88 : decode cX12_lock 88 = .ok (.aload_n 0, 1) := q_aload_n0 (bat_get dg_X12_lock_80_80 4 rfl rfl)
theorem dX12_lock_89 : decode cX12_lock 89 = .ok (.iconst 1, 1) := q_iconst1 (bat_get dg_X12_lock_80_80 5 rfl rfl)
theorem dX12_lock_90 : decode cX12_lock 90 = .ok (.putfield 275, 3) := q_putfield (bat_get dg_X12_lock_80_80 6 rfl rfl) rfl
theorem dX12_lock_93 : decode cX12_lock 93 = .ok (.aload_n 0, 1) := q_aload_n0 (bat_get dg_X12_lock_80_80 7 rfl rfl)
theorem dX12_lock_94 : decode cX12_lock 94 = .ok (.getfield 195, 3) := q_getfield (bat_get dg_X12_lock_80_80 8 rfl rfl) rfl
theorem dX12_lock_97 : decode cX12_lock 97 = .ok (.ifCond .ne 18, 3) := q_ifCond_ne (bat_get dg_X12_lock_80_80 9 rfl rfl) rfl
theorem dX12_lock_115 : decode cX12_lock 115 = .ok (.aload_n 0, 1) := q_aload_n0 (bat_get dg_X12_lock_80_80 10 rfl rfl)
theorem dX12_lock_116 : decode cX12_lock 116 = .ok (.aload_n 0, 1) := q_aload_n0 (bat_get dg_X12_lock_80_80 11 rfl rfl)
theorem dX12_lock_117 : decode cX12_lock 117 = .ok (.getfield 195, 3) := q_getfield (bat_get dg_X12_lock_80_80 12 rfl rfl) rfl
theorem dX12_lock_120 : decode cX12_lock 120 = .ok (.putfield 296, 3) := q_putfield (bat_get dg_X12_lock_80_80 13 rfl rfl) rfl
theorem dX12_lock_123 : decode cX12_lock 123 = .ok (.aload_n 0, 1) := q_aload_n0 (bat_get dg_X12_lock_80_80 14 rfl rfl)
theorem dX12_lock_124 : decode cX12_lock 124 = .ok (.aload_n 0, 1) := q_aload_n0 (bat_get dg_X12_lock_80_80 15 rfl rfl)
theorem dX12_lock_125 : decode cX12_lock 125 = .ok (.getfield 198, 3) := q_getfield (bat_get dg_X12_lock_80_80 16 rfl rfl) rfl
theorem dX12_lock_128 : decode cX12_lock 128 = .ok (.putfield 13, 3) := q_putfield (bat_get dg_X12_lock_80_80 17 rfl rfl) rfl
theorem dX12_lock_131 : decode cX12_lock 131 = .ok (.aload_n 0, 1) := q_aload_n0 (bat_get dg_X12_lock_80_80 18 rfl rfl)
theorem dX12_lock_132 : decode cX12_lock 132 = .ok (.getfield 195, 3) := q_getfield (bat_get dg_X12_lock_80_80 19 rfl rfl) rfl
theorem dX12_lock_135 : decode cX12_lock 135 = .ok (.ifCond .eq 15, 3) := q_ifCond_eq (bat_get dg_X12_lock_80_80 20 rfl rfl) rfl
theorem dX12_lock_138 : decode cX12_lock 138 = .ok (.aload_n 0, 1) := q_aload_n0 (bat_get dg_X12_lock_80_80 21 rfl rfl)
theorem dX12_lock_139 : decode cX12_lock 139 = .ok (.getfield 17, 3) := q_getfield (bat_get dg_X12_lock_80_80 22 rfl rfl) rfl
theorem dX12_lock_142 : decode cX12_lock 142 = .ok (.iconst 1, 1) := q_iconst1 (bat_get dg_X12_lock_80_80 23 rfl rfl)
theorem dX12_lock_143 : decode cX12_lock 143 = .ok (.dup2, 1) := q_dup2 (bat_get dg_X12_lock_80_80 24 rfl rfl)
theorem dX12_lock_144 : decode cX12_lock 144 = .ok (.iaload, 1) := q_iaload (bat_get dg_X12_lock_80_80 25 rfl rfl)
theorem dX12_lock_145 : decode cX12_lock 145 = .ok (.iconst 1, 1) := q_iconst1 (bat_get dg_X12_lock_80_80 26 rfl rfl)
theorem dX12_lock_146 : decode cX12_lock 146 = .ok (.iadd, 1) := q_iadd (bat_get dg_X12_lock_80_80 27 rfl rfl)
theorem dX12_lock_147 : decode cX12_lock 147 = .ok (.iastore, 1) := q_iastore (bat_get dg_X12_lock_80_80 28 rfl rfl)
theorem dX12_lock_148 : decode cX12_lock 148 = .ok (.iconst (-1), 1) := q_iconstm1 (bat_get dg_X12_lock_80_80 29 rfl rfl)
theorem dX12_lock_149 : decode cX12_lock 149 = .ok (.ireturn, 1) := q_ireturn (bat_get dg_X12_lock_80_80 30 rfl rfl)
theorem dX12_lock_100 : decode cX12_lock 100 = .ok (.aload_n 0, 1) := q_aload_n0 (bat_get dg_X12_lock_80_80 31 rfl rfl)
theorem dX12_lock_101 : decode cX12_lock 101 = .ok (.invokevirtual 207, 3) := q_invokevirtual (bat_get dg_X12_lock_80_80 32 rfl rfl) rfl
theorem dX12_lock_104 : decode cX12_lock 104 = .ok (.iconst (-1), 1) := q_iconstm1 (bat_get dg_X12_lock_80_80 33 rfl rfl)
theorem dX12_lock_105 : decode cX12_lock 105 = .ok (.if_icmp .eq 10, 3) := q_if_icmp_eq (bat_get dg_X12_lock_80_80 34 rfl rfl) rfl
theorem dX12_lock_150 : decode cX12_lock 150 = .ok (.aload_n 0, 1) := q_aload_n0 (bat_get dg_X12_lock_80_80 35 rfl rfl)
theorem dX12_lock_151 : decode cX12_lock 151 = .ok (.invokevirtual 299, 3) := q_invokevirtual (bat_get dg_X12_lock_80_80 36 rfl rfl) rfl
theorem dX12_lock_154 : decode cX12_lock 154 = .ok (.aload_n 0, 1) := q_aload_n0 (bat_get dg_X12_lock_80_80 37 rfl rfl)
theorem dX12_lock_155 : decode cX12_lock 155 = .ok (.getfield 275, 3) := q_getfield (bat_get dg_X12_lock_80_80 38 rfl rfl) rfl
theorem dX12_lock_158 : decode cX12_lock 158 = .ok (.ireturn, 1) := q_ireturn (bat_get dg_X12_lock_80_80 39 rfl rfl)
theorem dg_X12_lock_46_108 : bqL cX12_lock 46 [(62, [42]), (63, [182, 1, 37]), (66, [167, 255, 237]), (0, [42]), (1, [180, 0, 51]), (4, [27]), (5, [3]), (6, [79]), (7, [132, 1, 1]), (10, [167, 255, 240])] = true := by decide +kernel
theorem dX12_lock_108 : decode cX12_lock 108 = .ok (.aload_n 0, 1) := q_aload_n0 (bat_get dg_X12_lock_46_108 0 rfl rfl)
theorem dX12_lock_109 : decode cX12_lock 109 = .ok (.invokevirtual 293, 3) := q_invokevirtual (bat_get dg_X12_lock_46_108 1 rfl rfl) rfl
theorem dX12_lock_112 : decode cX12_lock 112 = .ok (.goto (-19), 3) := q_goto (bat_get dg_X12_lock_46_108 2 rfl rfl) rfl
theorem dX12_lock_46 : decode cX12_lock 46 = .ok (.aload_n 0, 1) := q_aload_n0 (bat_get dg_X12_lock_46_108 3 rfl rfl)
theorem dX12_lock_47 : decode cX12_lock 47 = .ok (.getfield 51, 3) := q_getfield (bat_get dg_X12_lock_46_108 4 rfl rfl) rfl
theorem dX12_lock_50 : decode cX12_lock 50 = .ok (.iload_n 1, 1) := q_iload_n1 (bat_get dg_X12_lock_46_108 5 rfl rfl)
theorem dX12_lock_51 : decode cX12_lock 51 = .ok (.iconst 0, 1) := q_iconst0 (bat_get dg_X12_lock_46_108 6 rfl rfl)
theorem dX12_lock_52 : decode cX12_lock 52 = .ok (.iastore, 1) := q_iastore (bat_get dg_X12_lock_46_108 7 rfl rfl)
theorem dX12_lock_53 : decode cX12_lock 53 = .ok (.iinc 1 1, 3) := q_iinc (bat_get dg_X12_lock_46_108 8 rfl rfl) rfl
theorem dX12_lock_56 : decode cX12_lock 56 = .ok (.goto (-16), 3) := q_goto (bat_get dg_X12_lock_46_108 9 rfl rfl) rfl
theorem w_6_206 : (Cond.methodLink RX12 290 yX12_lockTold) ∈ wsL_law := sk_mem (ck_6 _ (List.mem_of_getElem? (i := 206) rfl)) rfl
theorem w_6_208 : (Cond.instanceMethod yX12_lockTold) ∈ wsL_law := sk_mem (ck_6 _ (List.mem_of_getElem? (i := 208) rfl)) rfl
theorem w_0_41 : (Cond.selects RX12 yX12_lockTold yX12_lockTold) ∈ wsL_law := sk_mem (ck_0 _ (List.mem_of_getElem? (i := 41) rfl)) rfl
theorem w_7_86 : (Cond.methodLink RX12 299 yX12_stands) ∈ wsL_law := sk_mem (ck_7 _ (List.mem_of_getElem? (i := 86) rfl)) rfl
theorem w_7_88 : (Cond.instanceMethod yX12_stands) ∈ wsL_law := sk_mem (ck_7 _ (List.mem_of_getElem? (i := 88) rfl)) rfl
theorem w_0_68 : (Cond.selects RX12 yX12_stands yX12_stands) ∈ wsL_law := sk_mem (ck_0 _ (List.mem_of_getElem? (i := 68) rfl)) rfl
theorem w_7_11 : (Cond.methodLink RX12 293 yX12_statementTold) ∈ wsL_law := sk_mem (ck_7 _ (List.mem_of_getElem? (i := 11) rfl)) rfl
theorem w_7_13 : (Cond.instanceMethod yX12_statementTold) ∈ wsL_law := sk_mem (ck_7 _ (List.mem_of_getElem? (i := 13) rfl)) rfl
theorem w_0_50 : (Cond.selects RX12 yX12_statementTold yX12_statementTold) ∈ wsL_law := sk_mem (ck_0 _ (List.mem_of_getElem? (i := 50) rfl)) rfl
theorem w_6_205 : (Cond.code yX12_lock cX12_lock 2 (some .int)) ∈ wsL_law := sk_mem (ck_6 _ (List.mem_of_getElem? (i := 205) rfl)) rfl
def om_33_180001600 : List Bool := true :: true :: false :: false :: false :: false :: false :: false :: false :: false :: false :: false :: false :: false :: false :: false :: false :: false :: false :: false :: true :: false :: true :: true :: false :: false :: false :: false :: false :: false :: false :: false :: false :: []
def om_33_180000000 : List Bool := true :: true :: false :: false :: false :: false :: false :: false :: false :: false :: false :: false :: false :: false :: false :: false :: false :: false :: false :: false :: false :: false :: false :: false :: false :: false :: false :: false :: false :: false :: false :: false :: false :: []
def om_33_10000f880 : List Bool := true :: false :: false :: false :: false :: false :: false :: false :: false :: false :: false :: false :: false :: false :: false :: false :: false :: true :: true :: true :: true :: true :: false :: false :: false :: true :: false :: false :: false :: false :: false :: false :: false :: []
def om_33_1fffff87f : List Bool := true :: true :: true :: true :: true :: true :: true :: true :: true :: true :: true :: true :: true :: true :: true :: true :: true :: true :: true :: true :: true :: true :: false :: false :: false :: false :: true :: true :: true :: true :: true :: true :: true :: []
theorem hd_X12_lockTold_0 : skD yX12_lockTold 0 := by decide +kernel
