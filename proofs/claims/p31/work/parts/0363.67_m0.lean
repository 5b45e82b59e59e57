theorem l6_z (x : Int32) : upd (fun _ => 0) (0 : Int32).toNatClampNeg x = l6 x 0 0 0 0 0 := by
  funext j
  match j with
  | 0 => rfl
  | 1 => rfl
  | 2 => rfl
  | 3 => rfl
  | 4 => rfl
  | 5 => rfl
  | j + 6 => rfl
theorem z6_0 : (fun _ => (0 : Int32)) = l6 0 0 0 0 0 0 := by
  funext j
  match j with
  | 0 => rfl
  | 1 => rfl
  | 2 => rfl
  | 3 => rfl
  | 4 => rfl
  | 5 => rfl
  | j + 6 => rfl
theorem z4_0 : (fun _ => (0 : Int32)) = l4 (nI 0) (nI 0) (nI 0) (nI 0) := by
  funext j
  match j with
  | 0 => rfl
  | 1 => rfl
  | 2 => rfl
  | 3 => rfl
  | j + 4 => rfl
theorem cw_up {w : List Nat} {c : Nat} {i x : Int32} (hk : i.toNatClampNeg = w.length) (hx : vp_nar .char x = nI c) : upd (cw w) i.toNatClampNeg (vp_nar .char x) = cw (w ++ [c]) := by
  rw [hk, hx]
  funext j
  unfold upd cw
  by_cases e : j = w.length
  · subst e
    rw [if_pos rfl, List.getD_eq_getElem?_getD, List.getElem?_append_right (Nat.le_refl _), Nat.sub_self]
    rfl
  · rw [if_neg e]
    congr 1
    rw [List.getD_eq_getElem?_getD, List.getD_eq_getElem?_getD]
    by_cases h : j < w.length
    · rw [List.getElem?_append_left h]
    · rw [List.getElem?_eq_none (by omega), List.getElem?_eq_none (by rw [List.length_append, List.length_singleton]; omega)]
theorem cw_z : (fun _ => (0 : Int32)) = cw [] := by
  funext j
  rfl
theorem cw_up0 {c : Nat} {i x : Int32} (hk : i.toNatClampNeg = 0) (hx : vp_nar .char x = nI c) : upd (fun _ => (0 : Int32)) i.toNatClampNeg (vp_nar .char x) = cw [c] := by
  rw [cw_z]
  exact cw_up (w := []) hk hx
section SkRowsC
variable {p : Program} {l : Launch} {e : Env} {R : Room} {s : State} {m : MethodId} {args : Array Value} {below : List Frame} {meth : Method} {c : Code} {H : Heap} {locs : List Loc} {cells slots : Nat} {Q : State → Prop}
variable {cc : ByteArray} {pc : Nat} {ls : Array Slot} {rest : List Value} {D : va_G} {tys : List (ClassId × FieldType)} {ws : va_W} {A : Nat → Prop} {H0 : Heap} {a : Nat}
theorem sk_castC {ws' : va_W} {f f' : Nat → Int32} (hexec : p.tables.exec = Jvm.exec) (hb : c.code = cc) (hK : skK D tys s) (hP : va_P D vwCl ws H) (hD : va_D A ws) (hS : va_S A H0 H locs) (q0 t0 : Nat) {cA : ClassId} {n : Nat} (ha : ws[q0]? = some (a, .inl (cA, n, .inl f))) (ht : tys[t0]? = some (cA, .char)) {i x : Int32} (hin : vp_in i n) (hf : upd f i.toNatClampNeg (vp_nar .char x) = f') (hw' : ws.set q0 (a, .inl (cA, n, .inl f')) = ws') (hdg : decode cc pc = .ok (.castore, 1))
    (kk : ∀ (H1 : Heap) (locs1 : List Loc), va_P D vwCl ws' H1 → va_D A ws' → va_S A H0 H1 locs1 → W p l e R s m args below meth c H1 locs1 cells slots Q (F0 m (pc + 1) ls rest)) : W p l e R s m args below meth c H locs cells slots Q (F0 m pc ls (.int x :: .int i :: .ref a :: rest)) := by
  subst hf
  exact va_cast hexec hb hK.1 hP hD hS q0 t0 ha ht hin hdg (fun H1 locs1 h1 h2 h3 => kk H1 locs1 (hw' ▸ h1) (hw' ▸ h2) h3)
end SkRowsC
theorem dg_X12_init_0_0 : bqL cX12_init 0 [(0, [42]), (1, [183, 0, 1]), (4, [42]), (5, [17, 6, 64]), (8, [188, 10]), (10, [181, 0, 7]), (13, [42]), (14, [2]), (15, [181, 0, 13]), (18, [42]), (19, [16, 6]), (21, [188, 10]), (23, [181, 0, 17]), (26, [42]), (27, [7]), (28, [188, 5]), (30, [89]), (31, [3]), (32, [16, 108]), (34, [85]), (35, [89]), (36, [4]), (37, [16, 111]), (39, [85]), (40, [89]), (41, [5]), (42, [16, 99]), (44, [85]), (45, [89]), (46, [6]), (47, [16, 107]), (49, [85]), (50, [181, 0, 20]), (53, [42]), (54, [7]), (55, [188, 5]), (57, [89]), (58, [3]), (59, [16, 102]), (61, [85])] = true := by decide +kernel
theorem dX12_init_0 : decode cX12_init 0 = .ok (.aload_n 0, 1) := q_aload_n0 (bat_get dg_X12_init_0_0 0 rfl rfl)
theorem dX12_init_1 : decode cX12_init 1 = .ok (.invokespecial 1, 3) := q_invokespecial (bat_get dg_X12_init_0_0 1 rfl rfl) rfl
theorem dX12_init_4 : decode cX12_init 4 = .ok (.aload_n 0, 1) := q_aload_n0 (bat_get dg_X12_init_0_0 2 rfl rfl)
theorem dX12_init_5 : decode cX12_init 5 = .ok (.sipush 1600, 3) := q_sipush (bat_get dg_X12_init_0_0 3 rfl rfl) rfl
theorem dX12_init_8 : decode cX12_init 8 = .ok (.newarray .int, 2) := q_newarray_int (bat_get dg_X12_init_0_0 4 rfl rfl)
theorem dX12_init_10 : decode cX12_init 10 = .ok (.putfield 7, 3) := q_putfield (bat_get dg_X12_init_0_0 5 rfl rfl) rfl
theorem dX12_init_13 : decode cX12_init 13 = .ok (.aload_n 0, 1) := q_aload_n0 (bat_get dg_X12_init_0_0 6 rfl rfl)
theorem dX12_init_14 : decode cX12_init 14 = .ok (.iconst (-1), 1) := q_iconstm1 (bat_get dg_X12_init_0_0 7 rfl rfl)
theorem dX12_init_15 : decode cX12_init 15 = .ok (.putfield 13, 3) := q_putfield (bat_get dg_X12_init_0_0 8 rfl rfl) rfl
theorem dX12_init_18 : decode cX12_init 18 = .ok (.aload_n 0, 1) := q_aload_n0 (bat_get dg_X12_init_0_0 9 rfl rfl)
theorem dX12_init_19 : decode cX12_init 19 = .ok (.bipush 6, 2) := q_bipush (bat_get dg_X12_init_0_0 10 rfl rfl) rfl
theorem dX12_init_21 : decode cX12_init 21 = .ok (.newarray .int, 2) := q_newarray_int (bat_get dg_X12_init_0_0 11 rfl rfl)
theorem dX12_init_23 : decode cX12_init 23 = .ok (.putfield 17, 3) := q_putfield (bat_get dg_X12_init_0_0 12 rfl rfl) rfl
theorem dX12_init_26 : decode cX12_init 26 = .ok (.aload_n 0, 1) := q_aload_n0 (bat_get dg_X12_init_0_0 13 rfl rfl)
theorem dX12_init_27 : decode cX12_init 27 = .ok (.iconst 4, 1) := q_iconst4 (bat_get dg_X12_init_0_0 14 rfl rfl)
theorem dX12_init_28 : decode cX12_init 28 = .ok (.newarray .char, 2) := q_newarray_char (bat_get dg_X12_init_0_0 15 rfl rfl)
theorem dX12_init_30 : decode cX12_init 30 = .ok (.dup, 1) := q_dup (bat_get dg_X12_init_0_0 16 rfl rfl)
theorem dX12_init_31 : decode cX12_init 31 = .ok (.iconst 0, 1) := q_iconst0 (bat_get dg_X12_init_0_0 17 rfl rfl)
theorem dX12_init_32 : decode cX12_init 32 = .ok (.bipush 108, 2) := q_bipush (bat_get dg_X12_init_0_0 18 rfl rfl) rfl
theorem dX12_init_34 : decode cX12_init 34 = .ok (.castore, 1) := q_castore (bat_get dg_X12_init_0_0 19 rfl rfl)
theorem dX12_init_35 : decode cX12_init 35 = .ok (.dup, 1) := q_dup (bat_get dg_X12_init_0_0 20 rfl rfl)
theorem dX12_init_36 : decode cX12_init 36 = .ok (.iconst 1, 1) := q_iconst1 (bat_get dg_X12_init_0_0 21 rfl rfl)
theorem dX12_init_37 : decode cX12_init 37 = .ok (.bipush 111, 2) := q_bipush (bat_get dg_X12_init_0_0 22 rfl rfl) rfl
theorem dX12_init_39 : decode cX12_init 39 = .ok (.castore, 1) := q_castore (bat_get dg_X12_init_0_0 23 rfl rfl)
theorem dX12_init_40 : decode cX12_init 40 = .ok (.dup, 1) := q_dup (bat_get dg_X12_init_0_0 24 rfl rfl)
theorem dX12_init_41 : decode cX12_init 41 = .ok (.iconst 2, 1) := q_iconst2 (bat_get dg_X12_init_0_0 25 rfl rfl)
theorem dX12_init_42 : decode cX12_init 42 = .ok (.bipush 99, 2) := q_bipush (bat_get dg_X12_init_0_0 26 rfl rfl) rfl
theorem dX12_init_44 : decode cX12_init 44 = .ok (.castore, 1) := q_castore (bat_get dg_X12_init_0_0 27 rfl rfl)
theorem dX12_init_45 : decode cX12_init 45 = .ok (.dup, 1) := q_dup (bat_get dg_X12_init_0_0 28 rfl rfl)
theorem dX12_init_46 : decode cX12_init 46 = .ok (.iconst 3, 1) := q_iconst3 (bat_get dg_X12_init_0_0 29 rfl rfl)
theorem dX12_init_47 : decode cX12_init 47 = .ok (.bipush 107, 2) := q_bipush (bat_get dg_X12_init_0_0 30 rfl rfl) rfl
theorem dX12_init_49 : decode cX12_init 49 = .ok (.castore, 1) := q_castore (bat_get dg_X12_init_0_0 31 rfl rfl)
theorem dX12_init_50 : decode cX12_init 50 = .ok (.putfield 20, 3) := q_putfield (bat_get dg_X12_init_0_0 32 rfl rfl) rfl
theorem dX12_init_53 : decode cX12_init 53 = .ok (.aload_n 0, 1) := q_aload_n0 (bat_get dg_X12_init_0_0 33 rfl rfl)
theorem dX12_init_54 : decode cX12_init 54 = .ok (.iconst 4, 1) := q_iconst4 (bat_get dg_X12_init_0_0 34 rfl rfl)
theorem dX12_init_55 : decode cX12_init 55 = .ok (.newarray .char, 2) := q_newarray_char (bat_get dg_X12_init_0_0 35 rfl rfl)
theorem dX12_init_57 : decode cX12_init 57 = .ok (.dup, 1) := q_dup (bat_get dg_X12_init_0_0 36 rfl rfl)
theorem dX12_init_58 : decode cX12_init 58 = .ok (.iconst 0, 1) := q_iconst0 (bat_get dg_X12_init_0_0 37 rfl rfl)
theorem dX12_init_59 : decode cX12_init 59 = .ok (.bipush 102, 2) := q_bipush (bat_get dg_X12_init_0_0 38 rfl rfl) rfl
theorem dX12_init_61 : decode cX12_init 61 = .ok (.castore, 1) := q_castore (bat_get dg_X12_init_0_0 39 rfl rfl)
theorem dg_X12_init_62_62 : bqL cX12_init 62 [(0, [89]), (1, [4]), (2, [16, 114]), (4, [85]), (5, [89]), (6, [5]), (7, [16, 111]), (9, [85]), (10, [89]), (11, [6]), (12, [16, 109]), (14, [85]), (15, [181, 0, 24]), (18, [42]), (19, [8]), (20, [188, 5]), (22, [89]), (23, [3]), (24, [16, 98]), (26, [85]), (27, [89]), (28, [4]), (29, [16, 97]), (31, [85]), (32, [89]), (33, [5]), (34, [16, 114]), (36, [85]), (37, [89]), (38, [6]), (39, [16, 103]), (41, [85]), (42, [89]), (43, [7]), (44, [16, 101]), (46, [85]), (47, [181, 0, 27]), (50, [42]), (51, [6]), (52, [188, 5])] = true := by decide +kernel
theorem dX12_init_62 : decode cX12_init 62 = .ok (.dup, 1) := q_dup (bat_get dg_X12_init_62_62 0 rfl rfl)
theorem dX12_init_63 : decode cX12_init 63 = .ok (.iconst 1, 1) := q_iconst1 (bat_get dg_X12_init_62_62 1 rfl rfl)
theorem dX12_init_64 : decode cX12_init 64 = .ok (.bipush 114, 2) := q_bipush (bat_get dg_X12_init_62_62 2 rfl rfl) rfl
theorem dX12_init_66 : decode cX12_init 66 = .ok (.castore, 1) := q_castore (bat_get dg_X12_init_62_62 3 rfl rfl)
theorem dX12_init_67 : decode cX12_init 67 = .ok (.dup, 1) := q_dup (bat_get dg_X12_init_62_62 4 rfl rfl)
theorem dX12_init_68 : decode cX12_init 68 = .ok (.iconst 2, 1) := q_iconst2 (bat_get dg_X12_init_62_62 5 rfl rfl)
theorem dX12_init_69 : decode cX12_init 69 = .ok (.bipush 111, 2) := q_bipush (bat_get dg_X12_init_62_62 6 rfl rfl) rfl
theorem dX12_init_71 : decode cX12_init 71 = .ok (.castore, 1) := q_castore (bat_get dg_X12_init_62_62 7 rfl rfl)
theorem dX12_init_72 : decode cX12_init 72 = .ok (.dup, 1) := q_dup (bat_get dg_X12_init_62_62 8 rfl rfl)
theorem dX12_init_73 : decode cX12_init 73 = .ok (.iconst 3, 1) := q_iconst3 (bat_get dg_X12_init_62_62 9 rfl rfl)
theorem dX12_init_74 : decode cX12_init 74 = .ok (.bipush 109, 2) := q_bipush (bat_get dg_X12_init_62_62 10 rfl rfl) rfl
theorem dX12_init_76 : decode cX12_init 76 = .ok (.castore, 1) := q_castore (bat_get dg_X12_init_62_62 11 rfl rfl)
theorem dX12_init_77 : decode cX12_init 77 = .ok (.putfield 24, 3) := q_putfield (bat_get dg_X12_init_62_62 12 rfl rfl) rfl
theorem dX12_init_80 : decode cX12_init 80 = .ok (.aload_n 0, 1) := q_aload_n0 (bat_get dg_X12_init_62_62 13 rfl rfl)
theorem dX12_init_81 : decode cX12_init 81 = .ok (.iconst 5, 1) := q_iconst5 (bat_get dg_X12_init_62_62 14 rfl rfl)
theorem dX12_init_82 : decode cX12_init 82 = .ok (.newarray .char, 2) := q_newarray_char (bat_get dg_X12_init_62_62 15 rfl rfl)
theorem dX12_init_84 : decode cX12_init 84 = .ok (.dup, 1) := q_dup (bat_get dg_X12_init_62_62 16 rfl rfl)
theorem dX12_init_85 : decode cX12_init 85 = .ok (.iconst 0, 1) := q_iconst0 (bat_get dg_X12_init_62_62 17 rfl rfl)
theorem dX12_init_86 : decode cX12_init 86 = .ok (.bipush 98, 2) := q_bipush (bat_get dg_X12_init_62_62 18 rfl rfl) rfl
theorem dX12_init_88 : decode cX12_init 88 = .ok (.castore, 1) := q_castore (bat_get dg_X12_init_62_62 19 rfl rfl)
theorem dX12_init_89 : decode cX12_init 89 = .ok (.dup, 1) := q_dup (bat_get dg_X12_init_62_62 20 rfl rfl)
theorem dX12_init_90 : decode cX12_init 90 = .ok (.iconst 1, 1) := q_iconst1 (bat_get dg_X12_init_62_62 21 rfl rfl)
theorem dX12_init_91 : decode cX12_init 91 = .ok (.bipush 97, 2) := q_bipush (bat_get dg_X12_init_62_62 22 rfl rfl) rfl
theorem dX12_init_93 : decode cX12_init 93 = .ok (.castore, 1) := q_castore (bat_get dg_X12_init_62_62 23 rfl rfl)
theorem dX12_init_94 : decode cX12_init 94 = .ok (.dup, 1) := q_dup (bat_get dg_X12_init_62_62 24 rfl rfl)
theorem dX12_init_95 : decode cX12_init 95 = .ok (.iconst 2, 1) := q_iconst2 (bat_get dg_X12_init_62_62 25 rfl rfl)
theorem dX12_init_96 : decode cX12_init 96 = .ok (.bipush 114, 2) := q_bipush (bat_get dg_X12_init_62_62 26 rfl rfl) rfl
theorem dX12_init_98 : decode cX12_init 98 = .ok (.castore, 1) := q_castore (bat_get dg_X12_init_62_62 27 rfl rfl)
theorem dX12_init_99 : decode cX12_init 99 = .ok (.dup, 1) := q_dup (bat_get dg_X12_init_62_62 28 rfl rfl)
theorem dX12_init_100 : decode cX12_init 100 = .ok (.iconst 3, 1) := q_iconst3 (bat_get dg_X12_init_62_62 29 rfl rfl)
theorem dX12_init_101 : decode cX12_init 101 = .ok (.bipush 103, 2) := q_bipush (bat_get dg_X12_init_62_62 30 rfl rfl) rfl
theorem dX12_init_103 : decode cX12_init 103 = .ok (.castore, 1) := q_castore (bat_get dg_X12_init_62_62 31 rfl rfl)
theorem dX12_init_104 : decode cX12_init 104 = .ok (.dup, 1) := q_dup (bat_get dg_X12_init_62_62 32 rfl rfl)
theorem dX12_init_105 : decode cX12_init 105 = .ok (.iconst 4, 1) := q_iconst4 (bat_get dg_X12_init_62_62 33 rfl rfl)
theorem dX12_init_106 : decode cX12_init 106 = .ok (.bipush 101, 2) := q_bipush (bat_get dg_X12_init_62_62 34 rfl rfl) rfl
theorem dX12_init_108 : decode cX12_init 108 = .ok (.castore, 1) := q_castore (bat_get dg_X12_init_62_62 35 rfl rfl)
theorem dX12_init_109 : decode cX12_init 109 = .ok (.putfield 27, 3) := q_putfield (bat_get dg_X12_init_62_62 36 rfl rfl) rfl
theorem dX12_init_112 : decode cX12_init 112 = .ok (.aload_n 0, 1) := q_aload_n0 (bat_get dg_X12_init_62_62 37 rfl rfl)
theorem dX12_init_113 : decode cX12_init 113 = .ok (.iconst 3, 1) := q_iconst3 (bat_get dg_X12_init_62_62 38 rfl rfl)
theorem dX12_init_114 : decode cX12_init 114 = .ok (.newarray .char, 2) := q_newarray_char (bat_get dg_X12_init_62_62 39 rfl rfl)
theorem dg_X12_init_116_116 : bqL cX12_init 116 [(0, [89]), (1, [3]), (2, [16, 119]), (4, [85]), (5, [89]), (6, [4]), (7, [16, 101]), (9, [85]), (10, [89]), (11, [5]), (12, [16, 116]), (14, [85]), (15, [181, 0, 30]), (18, [42]), (19, [7]), (20, [188, 5]), (22, [89]), (23, [3]), (24, [16, 109]), (26, [85]), (27, [89]), (28, [4]), (29, [16, 117]), (31, [85]), (32, [89]), (33, [5]), (34, [16, 116]), (36, [85]), (37, [89]), (38, [6]), (39, [16, 101]), (41, [85]), (42, [181, 0, 33]), (45, [42]), (46, [7]), (47, [188, 5]), (49, [89]), (50, [3]), (51, [16, 115]), (53, [85])] = true := by decide +kernel
theorem dX12_init_116 : decode cX12_init 116 = .ok (.dup, 1) := q_dup (bat_get dg_X12_init_116_116 0 rfl rfl)
theorem dX12_init_117 : decode cX12_init 117 = .ok (.iconst 0, 1) := q_iconst0 (bat_get dg_X12_init_116_116 1 rfl rfl)
theorem dX12_init_118 : decode cX12_init 118 = .ok (.bipush 119, 2) := q_bipush (bat_get dg_X12_init_116_116 2 rfl rfl) rfl
theorem dX12_init_120 : decode cX12_init 120 = .ok (.castore, 1) := q_castore (bat_get dg_X12_init_116_116 3 rfl rfl)
theorem dX12_init_121 : decode cX12_init 121 = .ok (.dup, 1) := q_dup (bat_get dg_X12_init_116_116 4 rfl rfl)
theorem dX12_init_122 : decode cX12_init 122 = .ok (.iconst 1, 1) := q_iconst1 (bat_get dg_X12_init_116_116 5 rfl rfl)
theorem dX12_init_123 : decode cX12_init 123 = .ok (.bipush 101, 2) := q_bipush (bat_get dg_X12_init_116_116 6 rfl rfl) rfl
theorem dX12_init_125 : decode cX12_init 125 = .ok (.castore, 1) := q_castore (bat_get dg_X12_init_116_116 7 rfl rfl)
theorem dX12_init_126 : decode cX12_init 126 = .ok (.dup, 1) := q_dup (bat_get dg_X12_init_116_116 8 rfl rfl)
theorem dX12_init_127 : decode cX12_init 127 = .ok (.iconst 2, 1) := q_iconst2 (bat_get dg_X12_init_116_116 9 rfl rfl)
theorem dX12_init_128 : decode cX12_init 128 = .ok (.bipush 116, 2) := q_bipush (bat_get dg_X12_init_116_116 10 rfl rfl) rfl
theorem dX12_init_130 : decode cX12_init 130 = .ok (.castore, 1) := q_castore (bat_get dg_X12_init_116_116 11 rfl rfl)
theorem dX12_init_131 : decode cX12_init 131 = .ok (.putfield 30, 3) := q_putfield (bat_get dg_X12_init_116_116 12 rfl rfl) rfl
theorem dX12_init_134 : decode cX12_init 134 = .ok (.aload_n 0, 1) := q_aload_n0 (bat_get dg_X12_init_116_116 13 rfl rfl)
theorem dX12_init_135 : decode cX12_init 135 = .ok (.iconst 4, 1) := q_iconst4 (bat_get dg_X12_init_116_116 14 rfl rfl)
theorem dX12_init_136 : decode cX12_init 136 = .ok (.newarray .char, 2) := q_newarray_char (bat_get dg_X12_init_116_116 15 rfl rfl)
theorem dX12_init_138 : decode cX12_init 138 = .ok (.dup, 1) := q_dup (bat_get dg_X12_init_116_116 16 rfl rfl)
theorem dX12_init_139 : decode cX12_init 139 = .ok (.iconst 0, 1) := q_iconst0 (bat_get dg_X12_init_116_116 17 rfl rfl)
theorem dX12_init_140 : decode cX12_init 140 = .ok (.bipush 109, 2) := q_bipush (bat_get dg_X12_init_116_116 18 rfl rfl) rfl
