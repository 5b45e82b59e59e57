theorem st_over : (Cond.arrayOver (.object skSt)) ∈ lw_tbl := ck_2 _ (List.mem_of_getElem? (i := 38) rfl)
theorem st_nest0 : (Cond.methodLinkNest RX11 48 yX2_init skHost) ∈ lw_tbl := ck_1 _ (List.mem_of_getElem? (i := 169) rfl)
theorem st_nest1 : (Cond.methodLinkNest RX11 58 yX7_init skHost) ∈ lw_tbl := ck_1 _ (List.mem_of_getElem? (i := 226) rfl)
theorem st_nest2 : (Cond.methodLinkNest RX11 75 yX9_init skHost) ∈ lw_tbl := ck_2 _ (List.mem_of_getElem? (i := 59) rfl)
theorem st_nest3 : (Cond.methodLinkNest RX2 11 yX0_init skHost) ∈ lw_tbl := ck_1 _ (List.mem_of_getElem? (i := 174) rfl)
theorem st_nest4 : (Cond.methodLinkNest RX4 32 yX7_init skHost) ∈ lw_tbl := ck_2 _ (List.mem_of_getElem? (i := 39) rfl)
theorem st_nest5 : (Cond.methodLinkNest RX5 11 yX0_init skHost) ∈ lw_tbl := ck_1 _ (List.mem_of_getElem? (i := 125) rfl)
theorem st_ref : (Cond.stringRef "SameKeeper$Reader" 59 skTx) ∈ lw_tbl := ck_2 _ (List.mem_of_getElem? (i := 233) rfl)
theorem st_lay1 : (Cond.laysStatic "java/lang/String" "COMPACT_STRINGS" "Z") ∈ lw_tbl := ck_3 _ (List.mem_of_getElem? (i := 3) rfl)
theorem st_lay2 : (Cond.laysStatic "jdk/internal/util/Preconditions" "SIOOBE_FORMATTER" "Ljava/util/function/BiFunction;") ∈ lw_tbl := ck_3 _ (List.mem_of_getElem? (i := 19) rfl)
theorem st_ini1 : (Cond.initialized "java/lang/String") ∈ lw_tbl := ck_1 _ (List.mem_of_getElem? (i := 16) rfl)
theorem st_ini2 : (Cond.initialized "jdk/internal/util/Preconditions") ∈ lw_tbl := ck_1 _ (List.mem_of_getElem? (i := 18) rfl)
abbrev st_tm : Term := Term.string "SameKeeper$Reader" 59
theorem st_e0 : ∀ j ∈ List.range 12, (flatC (Jvm.Cond.and given_1 narrow_1))[13 + (12 * 0 + j)]? = some (Cond.eq (.elem (.field st_tm "java/lang/String" "value" "[B") (.int (Int32.ofNat (12 * 0 + j)))) (.int (skBy.getD (12 * 0 + j) 0))) := by decide +kernel
theorem st_e1 : ∀ j ∈ List.range 12, (flatC (Jvm.Cond.and given_1 narrow_1))[13 + (12 * 1 + j)]? = some (Cond.eq (.elem (.field st_tm "java/lang/String" "value" "[B") (.int (Int32.ofNat (12 * 1 + j)))) (.int (skBy.getD (12 * 1 + j) 0))) := by decide +kernel
theorem st_e2 : ∀ j ∈ List.range 12, (flatC (Jvm.Cond.and given_1 narrow_1))[13 + (12 * 2 + j)]? = some (Cond.eq (.elem (.field st_tm "java/lang/String" "value" "[B") (.int (Int32.ofNat (12 * 2 + j)))) (.int (skBy.getD (12 * 2 + j) 0))) := by decide +kernel
theorem st_e3 : ∀ j ∈ List.range 12, (flatC (Jvm.Cond.and given_1 narrow_1))[13 + (12 * 3 + j)]? = some (Cond.eq (.elem (.field st_tm "java/lang/String" "value" "[B") (.int (Int32.ofNat (12 * 3 + j)))) (.int (skBy.getD (12 * 3 + j) 0))) := by decide +kernel
theorem st_e4 : ∀ j ∈ List.range 12, (flatC (Jvm.Cond.and given_1 narrow_1))[13 + (12 * 4 + j)]? = some (Cond.eq (.elem (.field st_tm "java/lang/String" "value" "[B") (.int (Int32.ofNat (12 * 4 + j)))) (.int (skBy.getD (12 * 4 + j) 0))) := by decide +kernel
theorem st_e5 : ∀ j ∈ List.range 12, (flatC (Jvm.Cond.and given_1 narrow_1))[13 + (12 * 5 + j)]? = some (Cond.eq (.elem (.field st_tm "java/lang/String" "value" "[B") (.int (Int32.ofNat (12 * 5 + j)))) (.int (skBy.getD (12 * 5 + j) 0))) := by decide +kernel
theorem st_e6 : ∀ j ∈ List.range 12, (flatC (Jvm.Cond.and given_1 narrow_1))[13 + (12 * 6 + j)]? = some (Cond.eq (.elem (.field st_tm "java/lang/String" "value" "[B") (.int (Int32.ofNat (12 * 6 + j)))) (.int (skBy.getD (12 * 6 + j) 0))) := by decide +kernel
theorem st_e7 : ∀ j ∈ List.range 12, (flatC (Jvm.Cond.and given_1 narrow_1))[13 + (12 * 7 + j)]? = some (Cond.eq (.elem (.field st_tm "java/lang/String" "value" "[B") (.int (Int32.ofNat (12 * 7 + j)))) (.int (skBy.getD (12 * 7 + j) 0))) := by decide +kernel
theorem st_e8 : ∀ j ∈ List.range 12, (flatC (Jvm.Cond.and given_1 narrow_1))[13 + (12 * 8 + j)]? = some (Cond.eq (.elem (.field st_tm "java/lang/String" "value" "[B") (.int (Int32.ofNat (12 * 8 + j)))) (.int (skBy.getD (12 * 8 + j) 0))) := by decide +kernel
theorem st_e9 : ∀ j ∈ List.range 12, (flatC (Jvm.Cond.and given_1 narrow_1))[13 + (12 * 9 + j)]? = some (Cond.eq (.elem (.field st_tm "java/lang/String" "value" "[B") (.int (Int32.ofNat (12 * 9 + j)))) (.int (skBy.getD (12 * 9 + j) 0))) := by decide +kernel
theorem st_e10 : ∀ j ∈ List.range 12, (flatC (Jvm.Cond.and given_1 narrow_1))[13 + (12 * 10 + j)]? = some (Cond.eq (.elem (.field st_tm "java/lang/String" "value" "[B") (.int (Int32.ofNat (12 * 10 + j)))) (.int (skBy.getD (12 * 10 + j) 0))) := by decide +kernel
theorem st_e11 : ∀ j ∈ List.range 12, (flatC (Jvm.Cond.and given_1 narrow_1))[13 + (12 * 11 + j)]? = some (Cond.eq (.elem (.field st_tm "java/lang/String" "value" "[B") (.int (Int32.ofNat (12 * 11 + j)))) (.int (skBy.getD (12 * 11 + j) 0))) := by decide +kernel
theorem st_e12 : ∀ j ∈ List.range 12, (flatC (Jvm.Cond.and given_1 narrow_1))[13 + (12 * 12 + j)]? = some (Cond.eq (.elem (.field st_tm "java/lang/String" "value" "[B") (.int (Int32.ofNat (12 * 12 + j)))) (.int (skBy.getD (12 * 12 + j) 0))) := by decide +kernel
theorem st_e13 : ∀ j ∈ List.range 12, (flatC (Jvm.Cond.and given_1 narrow_1))[13 + (12 * 13 + j)]? = some (Cond.eq (.elem (.field st_tm "java/lang/String" "value" "[B") (.int (Int32.ofNat (12 * 13 + j)))) (.int (skBy.getD (12 * 13 + j) 0))) := by decide +kernel
theorem st_el (j : Nat) (hj : j < 168) : (Cond.eq (.elem (.field st_tm "java/lang/String" "value" "[B") (.int (Int32.ofNat (j)))) (.int (skBy.getD (j) 0))) ∈ (flatC (Jvm.Cond.and given_1 narrow_1)) := by
  have h1 : j / 12 < 14 := by omega
  have h2 : j % 12 < 12 := by omega
  have e : j = 12 * (j / 12) + j % 12 := by omega
  rw [e]
  generalize j % 12 = i at h2 ⊢
  generalize j / 12 = r at h1 ⊢
  match r, h1 with
  | 0, _ => exact List.mem_of_getElem? (st_e0 i (List.mem_range.mpr h2))
  | 1, _ => exact List.mem_of_getElem? (st_e1 i (List.mem_range.mpr h2))
  | 2, _ => exact List.mem_of_getElem? (st_e2 i (List.mem_range.mpr h2))
  | 3, _ => exact List.mem_of_getElem? (st_e3 i (List.mem_range.mpr h2))
  | 4, _ => exact List.mem_of_getElem? (st_e4 i (List.mem_range.mpr h2))
  | 5, _ => exact List.mem_of_getElem? (st_e5 i (List.mem_range.mpr h2))
  | 6, _ => exact List.mem_of_getElem? (st_e6 i (List.mem_range.mpr h2))
  | 7, _ => exact List.mem_of_getElem? (st_e7 i (List.mem_range.mpr h2))
  | 8, _ => exact List.mem_of_getElem? (st_e8 i (List.mem_range.mpr h2))
  | 9, _ => exact List.mem_of_getElem? (st_e9 i (List.mem_range.mpr h2))
  | 10, _ => exact List.mem_of_getElem? (st_e10 i (List.mem_range.mpr h2))
  | 11, _ => exact List.mem_of_getElem? (st_e11 i (List.mem_range.mpr h2))
  | 12, _ => exact List.mem_of_getElem? (st_e12 i (List.mem_range.mpr h2))
  | 13, _ => exact List.mem_of_getElem? (st_e13 i (List.mem_range.mpr h2))
  | r + 14, h => exact absurd h (by omega)
theorem skStr_start {s : State} {b : Nat} {A : Nat → Prop} (hts0 : ∀ w ∈ lw_tbl, w.before #[Value.ref b] s = true) (hgv : (Jvm.Cond.and given_1 narrow_1).before #[Value.ref b] s = true) (hA : ∀ a : Nat, a < s.heap.size → ¬ A a) : ∃ (zk zv : Nat) (zf : Value), skStr zk zv zf A s s.heap := by
  have hs := flat_of_before _ hgv
  obtain ⟨adK, adV, hS, hE⟩ := vk_Sof (args := #[Value.ref b]) (s := s) (N := 1) (tm := fun _ => st_tm) (len := [168]) (byt := [skBy]) (A := A)
    (fun i hi => by obtain rfl : i = 0 := by omega
                    show 168 < 2 ^ 31
                    decide)
    (fun i _ => hs _ (by decide +kernel)) (fun i _ => hs _ (by decide +kernel)) (fun i _ => hs _ (by decide +kernel))
    (fun i hi => by obtain rfl : i = 0 := by omega
                    exact hs _ (by decide +kernel))
    (fun i hi j hj => by obtain rfl : i = 0 := by omega
                         exact hs _ (st_el j hj))
    (fun i j hi hj h => absurd (show i = j by omega) h) hA
  have q := hS.1 0 (by omega)
  have hr : vk_R RX6 59 skTx (adK 0) s := vk_R.of (A := #[Value.ref b]) (hts0 _ st_ref) (hE 0 (by omega))
  have hc : va_Z "java/lang/String" "COMPACT_STRINGS" "Z" (.int 1) A s s.heap := va_Zof (hts0 _ st_lay1) (hts0 _ st_ini1) (va_eqt (hs _ (by decide +kernel))) hA
  rcases va_Zqof (hts0 _ st_lay2) (hts0 _ st_ini2) (hs _ (by decide +kernel)) hA with h | ⟨t, h⟩
  · exact ⟨adK 0, adV 0, .null, hr, q.1, q.2.1, q.2.2.1, q.2.2.2, hc, h, Or.inl rfl⟩
  · exact ⟨adK 0, adV 0, .ref t, hr, q.1, q.2.1, q.2.2.1, q.2.2.2, hc, h, Or.inr ⟨t, rfl⟩⟩
theorem st_arr {args : Array Value} {s : State} {ty : FieldType} (h : (Cond.arrayClass ty).before args s = true) (hRA : ∀ cA, s.vm.findClass ("[" ++ ty.toString) = some cA → va_RA s cA ty) : ∃ cA : ClassId, ArrOfT s cA ty ∧ va_RA s cA ty := by
  obtain ⟨cA, kA, comp, h1, h2, h3⟩ := Cond.arrayClass_spec h
  exact ⟨cA, fun n z => ⟨fun k h => (by cases h), kA, h2, comp, h3⟩, hRA cA h1⟩
theorem st_arrS {args : Array Value} {s : State} (h : (Cond.arrayOver (.object skSt)).before args s = true) : ∃ cA : ClassId, ArrOfT s cA (.object skSt) ∧ va_RA s cA (.object skSt) := by
  obtain ⟨comp, cA, kA, h1, -, h2, h3, h4⟩ := Cond.arrayOver_spec h
  exact ⟨cA, fun n z => ⟨fun k h => (by cases h), kA, h2, comp, h3⟩, kA, comp, h2, h3, h1, h4⟩
theorem idx_dis2 (wa wb : va_W) : ∀ i ∈ idx 0 wa, i ∉ idx wa.length wb := fun i h1 h2 => idx_dis wa wb i h2 h1
