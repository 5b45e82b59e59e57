theorem lz2_X {L : LkS} {dz f : Nat → Int32} {lg : KLg} (h : lz2 dz (lM L) 27 f) (hd : dzO L dz) (h9 : lM L ≤ 9) : nwN (lkN L) lg f := by
  obtain ⟨h1, h2, h3, h4⟩ := h
  refine ⟨h9, h1, h2, fun d hd2 => ?_, by rw [h4 29 (by omega) (by omega)]; rfl, fun i hi => absurd hi (by show ¬ i < min 0 30; omega)⟩
  obtain ⟨q1, q2, q3⟩ := hd d hd2
  rw [h3 _ (by omega), show 2 + 3 * d + 1 = 2 + (3 * d + 1) by omega, h3 _ (by omega), show 2 + 3 * d + 2 = 2 + (3 * d + 2) by omega, h3 _ (by omega)]
  exact ⟨q1, q2, q3⟩
theorem cl_un {cs zs : Nat → Nat} {w : Nat} {L : LkS} {u v : Int32} (h : mwO L w u v cs) (hu : upE cs zs) : mwO L w u v zs := by
  unfold mwO at h ⊢
  cases hg : lG L w with
  | none => rw [hg] at h; exact h
  | some p =>
    rw [hg] at h
    obtain ⟨h1, h2, h3⟩ := h
    exact ⟨h1, h2, fun j hj => (hu (1600 + j) (by omega)).trans (h3 j hj)⟩
theorem cl_st {cs zs : Nat → Nat} {w cd : Nat} {L : LkS} {u v : Int32} (h : ugO (lG L w) u v) (hc : ccO cs 0 cd (lK L)) (hp : cpy cs cs 1600 cd zs) : mwO L w u v zs := by
  unfold mwO
  unfold ugO at h
  cases hg : lG L w with
  | none => rw [hg] at h; exact h
  | some p =>
    rw [hg] at h
    obtain ⟨h1, h2, h3, h4⟩ := h
    obtain ⟨c1, c2⟩ := hc
    refine ⟨h1, h2, fun j hj => ?_⟩
    rw [cpy_in hp (by omega)]
    have h9 := c2 j hj
    rw [Nat.zero_add] at h9
    exact h9
theorem fn_ok {P : Except Err (LkS × Nat)} {pb : Nat} {pp sn : Int32} {l0 l1 : Nat} {rt : Int32} {cd : Nat} {cs : Nat → Nat} {dz : Nat → Int32} {u0 u1 u2 v0 v1 v2 : Int32} (h : fnM P pb pp sn l0 l1 rt cd cs dz u0 u1 u2 v0 v1 v2) (hb : pb = 0) : ∃ x, P = .ok x ∧ sn = nI x.2 ∧ lmC x.1 l0 l1 rt cd cs dz u0 u1 u2 v0 v1 v2 := by
  cases P with
  | error e =>
    have h1 : pb = e.1 := h.1
    have h2 : 1 ≤ e.1 := h.2.2.1
    omega
  | ok x => exact ⟨x, rfl, h.2.2.1, h.2.2.2.2⟩
theorem fn_er {P : Except Err (LkS × Nat)} {pb : Nat} {pp sn : Int32} {l0 l1 : Nat} {rt : Int32} {cd : Nat} {cs : Nat → Nat} {dz : Nat → Int32} {u0 u1 u2 v0 v1 v2 : Int32} (h : fnM P pb pp sn l0 l1 rt cd cs dz u0 u1 u2 v0 v1 v2) (hb : ¬ pb = 0) : lkEr P := by
  cases P with
  | ok x => exact absurd h.1 hb
  | error e => exact True.intro
theorem dg_X12_stands_0_0 : bqL cX12_stands 0 [(0, [42]), (1, [4]), (2, [181, 1, 46]), (5, [3]), (6, [60]), (7, [27]), (8, [5]), (9, [162, 0, 23]), (12, [42]), (13, [180, 0, 48]), (16, [5]), (17, [27]), (18, [96]), (19, [42]), (20, [180, 0, 48]), (23, [27]), (24, [46]), (25, [79]), (26, [132, 1, 1]), (29, [167, 255, 234]), (32, [42]), (33, [42]), (34, [180, 1, 31]), (37, [181, 1, 50]), (40, [3]), (41, [60]), (42, [27]), (43, [6]), (44, [162, 0, 37]), (47, [42]), (48, [180, 0, 54]), (51, [6]), (52, [27]), (53, [96]), (54, [42]), (55, [180, 0, 54]), (58, [27]), (59, [46]), (60, [79]), (61, [42])] = true := by decide +kernel
theorem dX12_stands_0 : decode cX12_stands 0 = .ok (.aload_n 0, 1) := q_aload_n0 (bat_get dg_X12_stands_0_0 0 rfl rfl)
theorem dX12_stands_1 : decode cX12_stands 1 = .ok (.iconst 1, 1) := q_iconst1 (bat_get dg_X12_stands_0_0 1 rfl rfl)
theorem dX12_stands_2 : decode cX12_stands 2 = .ok (.putfield 302, 3) := q_putfield (bat_get dg_X12_stands_0_0 2 rfl rfl) rfl
theorem dX12_stands_5 : decode cX12_stands 5 = .ok (.iconst 0, 1) := q_iconst0 (bat_get dg_X12_stands_0_0 3 rfl rfl)
theorem dX12_stands_6 : decode cX12_stands 6 = .ok (.istore_n 1, 1) := q_istore_n1 (bat_get dg_X12_stands_0_0 4 rfl rfl)
theorem dX12_stands_7 : decode cX12_stands 7 = .ok (.iload_n 1, 1) := q_iload_n1 (bat_get dg_X12_stands_0_0 5 rfl rfl)
theorem dX12_stands_8 : decode cX12_stands 8 = .ok (.iconst 2, 1) := q_iconst2 (bat_get dg_X12_stands_0_0 6 rfl rfl)
theorem dX12_stands_9 : decode cX12_stands 9 = .ok (.if_icmp .ge 23, 3) := q_if_icmp_ge (bat_get dg_X12_stands_0_0 7 rfl rfl) rfl
theorem dX12_stands_12 : decode cX12_stands 12 = .ok (.aload_n 0, 1) := q_aload_n0 (bat_get dg_X12_stands_0_0 8 rfl rfl)
theorem dX12_stands_13 : decode cX12_stands 13 = .ok (.getfield 48, 3) := q_getfield (bat_get dg_X12_stands_0_0 9 rfl rfl) rfl
theorem dX12_stands_16 : decode cX12_stands 16 = .ok (.iconst 2, 1) := q_iconst2 (bat_get dg_X12_stands_0_0 10 rfl rfl)
theorem dX12_stands_17 : decode cX12_stands 17 = .ok (.iload_n 1, 1) := q_iload_n1 (bat_get dg_X12_stands_0_0 11 rfl rfl)
theorem dX12_stands_18 : decode cX12_stands 18 = .ok (.iadd, 1) := q_iadd (bat_get dg_X12_stands_0_0 12 rfl rfl)
theorem dX12_stands_19 : decode cX12_stands 19 = .ok (.aload_n 0, 1) := q_aload_n0 (bat_get dg_X12_stands_0_0 13 rfl rfl)
theorem dX12_stands_20 : decode cX12_stands 20 = .ok (.getfield 48, 3) := q_getfield (bat_get dg_X12_stands_0_0 14 rfl rfl) rfl
theorem dX12_stands_23 : decode cX12_stands 23 = .ok (.iload_n 1, 1) := q_iload_n1 (bat_get dg_X12_stands_0_0 15 rfl rfl)
theorem dX12_stands_24 : decode cX12_stands 24 = .ok (.iaload, 1) := q_iaload (bat_get dg_X12_stands_0_0 16 rfl rfl)
theorem dX12_stands_25 : decode cX12_stands 25 = .ok (.iastore, 1) := q_iastore (bat_get dg_X12_stands_0_0 17 rfl rfl)
theorem dX12_stands_26 : decode cX12_stands 26 = .ok (.iinc 1 1, 3) := q_iinc (bat_get dg_X12_stands_0_0 18 rfl rfl) rfl
theorem dX12_stands_29 : decode cX12_stands 29 = .ok (.goto (-22), 3) := q_goto (bat_get dg_X12_stands_0_0 19 rfl rfl) rfl
theorem dX12_stands_32 : decode cX12_stands 32 = .ok (.aload_n 0, 1) := q_aload_n0 (bat_get dg_X12_stands_0_0 20 rfl rfl)
theorem dX12_stands_33 : decode cX12_stands 33 = .ok (.aload_n 0, 1) := q_aload_n0 (bat_get dg_X12_stands_0_0 21 rfl rfl)
theorem dX12_stands_34 : decode cX12_stands 34 = .ok (.getfield 287, 3) := q_getfield (bat_get dg_X12_stands_0_0 22 rfl rfl) rfl
theorem dX12_stands_37 : decode cX12_stands 37 = .ok (.putfield 306, 3) := q_putfield (bat_get dg_X12_stands_0_0 23 rfl rfl) rfl
theorem dX12_stands_40 : decode cX12_stands 40 = .ok (.iconst 0, 1) := q_iconst0 (bat_get dg_X12_stands_0_0 24 rfl rfl)
theorem dX12_stands_41 : decode cX12_stands 41 = .ok (.istore_n 1, 1) := q_istore_n1 (bat_get dg_X12_stands_0_0 25 rfl rfl)
theorem dX12_stands_42 : decode cX12_stands 42 = .ok (.iload_n 1, 1) := q_iload_n1 (bat_get dg_X12_stands_0_0 26 rfl rfl)
theorem dX12_stands_43 : decode cX12_stands 43 = .ok (.iconst 3, 1) := q_iconst3 (bat_get dg_X12_stands_0_0 27 rfl rfl)
theorem dX12_stands_44 : decode cX12_stands 44 = .ok (.if_icmp .ge 37, 3) := q_if_icmp_ge (bat_get dg_X12_stands_0_0 28 rfl rfl) rfl
theorem dX12_stands_47 : decode cX12_stands 47 = .ok (.aload_n 0, 1) := q_aload_n0 (bat_get dg_X12_stands_0_0 29 rfl rfl)
theorem dX12_stands_48 : decode cX12_stands 48 = .ok (.getfield 54, 3) := q_getfield (bat_get dg_X12_stands_0_0 30 rfl rfl) rfl
theorem dX12_stands_51 : decode cX12_stands 51 = .ok (.iconst 3, 1) := q_iconst3 (bat_get dg_X12_stands_0_0 31 rfl rfl)
theorem dX12_stands_52 : decode cX12_stands 52 = .ok (.iload_n 1, 1) := q_iload_n1 (bat_get dg_X12_stands_0_0 32 rfl rfl)
theorem dX12_stands_53 : decode cX12_stands 53 = .ok (.iadd, 1) := q_iadd (bat_get dg_X12_stands_0_0 33 rfl rfl)
theorem dX12_stands_54 : decode cX12_stands 54 = .ok (.aload_n 0, 1) := q_aload_n0 (bat_get dg_X12_stands_0_0 34 rfl rfl)
theorem dX12_stands_55 : decode cX12_stands 55 = .ok (.getfield 54, 3) := q_getfield (bat_get dg_X12_stands_0_0 35 rfl rfl) rfl
theorem dX12_stands_58 : decode cX12_stands 58 = .ok (.iload_n 1, 1) := q_iload_n1 (bat_get dg_X12_stands_0_0 36 rfl rfl)
theorem dX12_stands_59 : decode cX12_stands 59 = .ok (.iaload, 1) := q_iaload (bat_get dg_X12_stands_0_0 37 rfl rfl)
theorem dX12_stands_60 : decode cX12_stands 60 = .ok (.iastore, 1) := q_iastore (bat_get dg_X12_stands_0_0 38 rfl rfl)
theorem dX12_stands_61 : decode cX12_stands 61 = .ok (.aload_n 0, 1) := q_aload_n0 (bat_get dg_X12_stands_0_0 39 rfl rfl)
theorem dg_X12_stands_62_62 : bqL cX12_stands 62 [(0, [180, 0, 57]), (3, [6]), (4, [27]), (5, [96]), (6, [42]), (7, [180, 0, 57]), (10, [27]), (11, [46]), (12, [79]), (13, [132, 1, 1]), (16, [167, 255, 220]), (19, [3]), (20, [60]), (21, [27]), (22, [42]), (23, [180, 1, 16]), (26, [162, 0, 25]), (51, [3]), (52, [60]), (53, [27]), (54, [16, 120]), (56, [162, 0, 16]), (72, [42]), (73, [180, 0, 63]), (76, [4]), (77, [42]), (78, [180, 0, 48]), (81, [4]), (82, [46]), (83, [79]), (84, [3]), (85, [60]), (86, [27]), (87, [16, 27]), (89, [162, 0, 23]), (112, [42]), (113, [3]), (114, [181, 1, 53]), (117, [42]), (118, [3])] = true := by decide +kernel
theorem dX12_stands_62 : decode cX12_stands 62 = .ok (.getfield 57, 3) := q_getfield (bat_get dg_X12_stands_62_62 0 rfl rfl) rfl
theorem dX12_stands_65 : decode cX12_stands 65 = .ok (.iconst 3, 1) := q_iconst3 (bat_get dg_X12_stands_62_62 1 rfl rfl)
theorem dX12_stands_66 : decode cX12_stands 66 = .ok (.iload_n 1, 1) := q_iload_n1 (bat_get dg_X12_stands_62_62 2 rfl rfl)
theorem dX12_stands_67 : decode cX12_stands 67 = .ok (.iadd, 1) := q_iadd (bat_get dg_X12_stands_62_62 3 rfl rfl)
theorem dX12_stands_68 : decode cX12_stands 68 = .ok (.aload_n 0, 1) := q_aload_n0 (bat_get dg_X12_stands_62_62 4 rfl rfl)
theorem dX12_stands_69 : decode cX12_stands 69 = .ok (.getfield 57, 3) := q_getfield (bat_get dg_X12_stands_62_62 5 rfl rfl) rfl
theorem dX12_stands_72 : decode cX12_stands 72 = .ok (.iload_n 1, 1) := q_iload_n1 (bat_get dg_X12_stands_62_62 6 rfl rfl)
theorem dX12_stands_73 : decode cX12_stands 73 = .ok (.iaload, 1) := q_iaload (bat_get dg_X12_stands_62_62 7 rfl rfl)
theorem dX12_stands_74 : decode cX12_stands 74 = .ok (.iastore, 1) := q_iastore (bat_get dg_X12_stands_62_62 8 rfl rfl)
theorem dX12_stands_75 : decode cX12_stands 75 = .ok (.iinc 1 1, 3) := q_iinc (bat_get dg_X12_stands_62_62 9 rfl rfl) rfl
theorem dX12_stands_78 : decode cX12_stands 78 = .ok (.goto (-36), 3) := q_goto (bat_get dg_X12_stands_62_62 10 rfl rfl) rfl
theorem dX12_stands_81 : decode cX12_stands 81 = .ok (.iconst 0, 1) := q_iconst0 (bat_get dg_X12_stands_62_62 11 rfl rfl)
theorem dX12_stands_82 : decode cX12_stands 82 = .ok (.istore_n 1, 1) := q_istore_n1 (bat_get dg_X12_stands_62_62 12 rfl rfl)
theorem dX12_stands_83 : decode cX12_stands 83 = .ok (.iload_n 1, 1) := q_iload_n1 (bat_get dg_X12_stands_62_62 13 rfl rfl)
theorem dX12_stands_84 : decode cX12_stands 84 = .ok (.aload_n 0, 1) := q_aload_n0 (bat_get dg_X12_stands_62_62 14 rfl rfl)
theorem dX12_stands_85 : decode cX12_stands 85 = .ok (.getfield 272, 3) := q_getfield (bat_get dg_X12_stands_62_62 15 rfl rfl) rfl
theorem dX12_stands_88 : decode cX12_stands 88 = .ok (.if_icmp .ge 25, 3) := q_if_icmp_ge (bat_get dg_X12_stands_62_62 16 rfl rfl) rfl
theorem dX12_stands_113 : decode cX12_stands 113 = .ok (.iconst 0, 1) := q_iconst0 (bat_get dg_X12_stands_62_62 17 rfl rfl)
theorem dX12_stands_114 : decode cX12_stands 114 = .ok (.istore_n 1, 1) := q_istore_n1 (bat_get dg_X12_stands_62_62 18 rfl rfl)
theorem dX12_stands_115 : decode cX12_stands 115 = .ok (.iload_n 1, 1) := q_iload_n1 (bat_get dg_X12_stands_62_62 19 rfl rfl)
theorem dX12_stands_116 : decode cX12_stands 116 = .ok (.bipush 120, 2) := q_bipush (bat_get dg_X12_stands_62_62 20 rfl rfl) rfl
theorem dX12_stands_118 : decode cX12_stands 118 = .ok (.if_icmp .ge 16, 3) := q_if_icmp_ge (bat_get dg_X12_stands_62_62 21 rfl rfl) rfl
theorem dX12_stands_134 : decode cX12_stands 134 = .ok (.aload_n 0, 1) := q_aload_n0 (bat_get dg_X12_stands_62_62 22 rfl rfl)
theorem dX12_stands_135 : decode cX12_stands 135 = .ok (.getfield 63, 3) := q_getfield (bat_get dg_X12_stands_62_62 23 rfl rfl) rfl
theorem dX12_stands_138 : decode cX12_stands 138 = .ok (.iconst 1, 1) := q_iconst1 (bat_get dg_X12_stands_62_62 24 rfl rfl)
theorem dX12_stands_139 : decode cX12_stands 139 = .ok (.aload_n 0, 1) := q_aload_n0 (bat_get dg_X12_stands_62_62 25 rfl rfl)
theorem dX12_stands_140 : decode cX12_stands 140 = .ok (.getfield 48, 3) := q_getfield (bat_get dg_X12_stands_62_62 26 rfl rfl) rfl
theorem dX12_stands_143 : decode cX12_stands 143 = .ok (.iconst 1, 1) := q_iconst1 (bat_get dg_X12_stands_62_62 27 rfl rfl)
theorem dX12_stands_144 : decode cX12_stands 144 = .ok (.iaload, 1) := q_iaload (bat_get dg_X12_stands_62_62 28 rfl rfl)
theorem dX12_stands_145 : decode cX12_stands 145 = .ok (.iastore, 1) := q_iastore (bat_get dg_X12_stands_62_62 29 rfl rfl)
theorem dX12_stands_146 : decode cX12_stands 146 = .ok (.iconst 0, 1) := q_iconst0 (bat_get dg_X12_stands_62_62 30 rfl rfl)
theorem dX12_stands_147 : decode cX12_stands 147 = .ok (.istore_n 1, 1) := q_istore_n1 (bat_get dg_X12_stands_62_62 31 rfl rfl)
theorem dX12_stands_148 : decode cX12_stands 148 = .ok (.iload_n 1, 1) := q_iload_n1 (bat_get dg_X12_stands_62_62 32 rfl rfl)
theorem dX12_stands_149 : decode cX12_stands 149 = .ok (.bipush 27, 2) := q_bipush (bat_get dg_X12_stands_62_62 33 rfl rfl) rfl
theorem dX12_stands_151 : decode cX12_stands 151 = .ok (.if_icmp .ge 23, 3) := q_if_icmp_ge (bat_get dg_X12_stands_62_62 34 rfl rfl) rfl
theorem dX12_stands_174 : decode cX12_stands 174 = .ok (.aload_n 0, 1) := q_aload_n0 (bat_get dg_X12_stands_62_62 35 rfl rfl)
theorem dX12_stands_175 : decode cX12_stands 175 = .ok (.iconst 0, 1) := q_iconst0 (bat_get dg_X12_stands_62_62 36 rfl rfl)
theorem dX12_stands_176 : decode cX12_stands 176 = .ok (.putfield 309, 3) := q_putfield (bat_get dg_X12_stands_62_62 37 rfl rfl) rfl
theorem dX12_stands_179 : decode cX12_stands 179 = .ok (.aload_n 0, 1) := q_aload_n0 (bat_get dg_X12_stands_62_62 38 rfl rfl)
theorem dX12_stands_180 : decode cX12_stands 180 = .ok (.iconst 0, 1) := q_iconst0 (bat_get dg_X12_stands_62_62 39 rfl rfl)
theorem dg_X12_stands_91_181 : bqL cX12_stands 91 [(90, [181, 1, 56]), (93, [177]), (63, [42]), (64, [180, 0, 63]), (67, [5]), (68, [27]), (69, [96]), (70, [42]), (71, [180, 0, 51]), (74, [27]), (75, [46]), (76, [79]), (77, [132, 1, 1]), (80, [167, 255, 233]), (30, [42]), (31, [180, 0, 63]), (34, [27]), (35, [3]), (36, [79]), (37, [132, 1, 1]), (40, [167, 255, 240]), (0, [42]), (1, [180, 0, 60]), (4, [17, 6, 64]), (7, [27]), (8, [96]), (9, [42]), (10, [180, 0, 60]), (13, [27]), (14, [46]), (15, [79]), (16, [132, 1, 1]), (19, [167, 255, 229])] = true := by decide +kernel
theorem dX12_stands_181 : decode cX12_stands 181 = .ok (.putfield 312, 3) := q_putfield (bat_get dg_X12_stands_91_181 0 rfl rfl) rfl
theorem dX12_stands_184 : decode cX12_stands 184 = .ok (.return_, 1) := q_return_ (bat_get dg_X12_stands_91_181 1 rfl rfl)
theorem dX12_stands_154 : decode cX12_stands 154 = .ok (.aload_n 0, 1) := q_aload_n0 (bat_get dg_X12_stands_91_181 2 rfl rfl)
theorem dX12_stands_155 : decode cX12_stands 155 = .ok (.getfield 63, 3) := q_getfield (bat_get dg_X12_stands_91_181 3 rfl rfl) rfl
theorem dX12_stands_158 : decode cX12_stands 158 = .ok (.iconst 2, 1) := q_iconst2 (bat_get dg_X12_stands_91_181 4 rfl rfl)
theorem dX12_stands_159 : decode cX12_stands 159 = .ok (.iload_n 1, 1) := q_iload_n1 (bat_get dg_X12_stands_91_181 5 rfl rfl)
theorem dX12_stands_160 : decode cX12_stands 160 = .ok (.iadd, 1) := q_iadd (bat_get dg_X12_stands_91_181 6 rfl rfl)
theorem dX12_stands_161 : decode cX12_stands 161 = .ok (.aload_n 0, 1) := q_aload_n0 (bat_get dg_X12_stands_91_181 7 rfl rfl)
theorem dX12_stands_162 : decode cX12_stands 162 = .ok (.getfield 51, 3) := q_getfield (bat_get dg_X12_stands_91_181 8 rfl rfl) rfl
theorem dX12_stands_165 : decode cX12_stands 165 = .ok (.iload_n 1, 1) := q_iload_n1 (bat_get dg_X12_stands_91_181 9 rfl rfl)
theorem dX12_stands_166 : decode cX12_stands 166 = .ok (.iaload, 1) := q_iaload (bat_get dg_X12_stands_91_181 10 rfl rfl)
theorem dX12_stands_167 : decode cX12_stands 167 = .ok (.iastore, 1) := q_iastore (bat_get dg_X12_stands_91_181 11 rfl rfl)
theorem dX12_stands_168 : decode cX12_stands 168 = .ok (.iinc 1 1, 3) := q_iinc (bat_get dg_X12_stands_91_181 12 rfl rfl) rfl
theorem dX12_stands_171 : decode cX12_stands 171 = .ok (.goto (-23), 3) := q_goto (bat_get dg_X12_stands_91_181 13 rfl rfl) rfl
theorem dX12_stands_121 : decode cX12_stands 121 = .ok (.aload_n 0, 1) := q_aload_n0 (bat_get dg_X12_stands_91_181 14 rfl rfl)
theorem dX12_stands_122 : decode cX12_stands 122 = .ok (.getfield 63, 3) := q_getfield (bat_get dg_X12_stands_91_181 15 rfl rfl) rfl
theorem dX12_stands_125 : decode cX12_stands 125 = .ok (.iload_n 1, 1) := q_iload_n1 (bat_get dg_X12_stands_91_181 16 rfl rfl)
theorem dX12_stands_126 : decode cX12_stands 126 = .ok (.iconst 0, 1) := q_iconst0 (bat_get dg_X12_stands_91_181 17 rfl rfl)
