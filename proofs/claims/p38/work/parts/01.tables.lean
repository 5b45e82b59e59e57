theorem ic_m1 : Int32.ofInt (-1) = -1 := by decide
theorem ic_0 : Int32.ofInt (0) = 0 := by decide
theorem ic_1 : Int32.ofInt (1) = 1 := by decide
theorem ic_2 : Int32.ofInt (2) = 2 := by decide
theorem ic_3 : Int32.ofInt (3) = 3 := by decide
theorem ic_4 : Int32.ofInt (4) = 4 := by decide
theorem ic_5 : Int32.ofInt (5) = 5 := by decide
-- ===== PART A: goes FIRST, ahead of the names: the tables' words, and 'selects' of the private methods out of them =====
/-- a private method of a class that the tables say can be made, by its rows of tables_1 -/
def lw_okq (q : MethodName × Nat) : Prop := (q.1.cls ≠ "java/lang/invoke/MethodHandle" ∧ q.1.cls ≠ "java/lang/invoke/VarHandle") ∧ Cond.instantiable q.1.cls q.2 ∈ tables_1 ∧ Cond.privateMethod q.1 ∈ tables_1 ∧ Cond.instanceMethod q.1 ∈ tables_1
theorem tk_1 : ∀ w ∈ tables_1_1, w ∈ tables_1 := fun _ h => List.mem_append_left _ h
theorem tk_2 : ∀ w ∈ tables_1_2, w ∈ tables_1 := fun _ h => List.mem_append_right _ (List.mem_append_left _ h)
theorem tk_3 : ∀ w ∈ tables_1_3, w ∈ tables_1 := fun _ h => List.mem_append_right _ (List.mem_append_right _ (List.mem_append_left _ h))
theorem tk_4 : ∀ w ∈ tables_1_4, w ∈ tables_1 := fun _ h => List.mem_append_right _ (List.mem_append_right _ (List.mem_append_right _ (List.mem_append_left _ h)))
theorem tk_5 : ∀ w ∈ tables_1_5, w ∈ tables_1 := fun _ h => List.mem_append_right _ (List.mem_append_right _ (List.mem_append_right _ (List.mem_append_right _ (List.mem_append_left _ h))))
theorem tk_6 : ∀ w ∈ tables_1_6, w ∈ tables_1 := fun _ h => List.mem_append_right _ (List.mem_append_right _ (List.mem_append_right _ (List.mem_append_right _ (List.mem_append_right _ (List.mem_append_left _ h)))))
theorem tk_7 : ∀ w ∈ tables_1_7, w ∈ tables_1 := fun _ h => List.mem_append_right _ (List.mem_append_right _ (List.mem_append_right _ (List.mem_append_right _ (List.mem_append_right _ (List.mem_append_right _ (List.mem_append_left _ h))))))
theorem tk_8 : ∀ w ∈ tables_1_8, w ∈ tables_1 := fun _ h => List.mem_append_right _ (List.mem_append_right _ (List.mem_append_right _ (List.mem_append_right _ (List.mem_append_right _ (List.mem_append_right _ (List.mem_append_right _ (h)))))))
theorem lw_i0 : Cond.instantiable "SameKeeper" 18 ∈ tables_1 := tk_1 _ (List.mem_of_getElem? (i := 23) rfl)
theorem lw_i1 : Cond.instantiable "SameKeeper$Reader" 8 ∈ tables_1 := tk_1 _ (List.mem_of_getElem? (i := 51) rfl)
theorem lw_i2 : Cond.instantiable "SameKeeper$LockText" 3 ∈ tables_1 := tk_1 _ (List.mem_of_getElem? (i := 89) rfl)
theorem lw_i3 : Cond.instantiable "SameKeeper$Sums" 2 ∈ tables_1 := tk_1 _ (List.mem_of_getElem? (i := 95) rfl)
theorem lw_i4 : Cond.instantiable "SameKeeper$Table" 6 ∈ tables_1 := tk_2 _ (List.mem_of_getElem? (i := 58) rfl)
theorem lw_i5 : Cond.instantiable "SameKeeper$Code" 6 ∈ tables_1 := tk_1 _ (List.mem_of_getElem? (i := 124) rfl)
theorem lw_i6 : Cond.instantiable "SameKeeper$Graph" 9 ∈ tables_1 := tk_2 _ (List.mem_of_getElem? (i := 90) rfl)
theorem lw_i7 : Cond.instantiable "SameKeeper$Question" 4 ∈ tables_1 := tk_1 _ (List.mem_of_getElem? (i := 118) rfl)
theorem lw_i8 : Cond.instantiable "SameKeeperModel" 92 ∈ tables_1 := tk_5 _ (List.mem_of_getElem? (i := 150) rfl)
theorem lw_ne0 : ("SameKeeper" : String) ≠ "java/lang/invoke/MethodHandle" ∧ ("SameKeeper" : String) ≠ "java/lang/invoke/VarHandle" := by decide +kernel
theorem lw_ne1 : ("SameKeeper$Reader" : String) ≠ "java/lang/invoke/MethodHandle" ∧ ("SameKeeper$Reader" : String) ≠ "java/lang/invoke/VarHandle" := by decide +kernel
theorem lw_ne2 : ("SameKeeper$LockText" : String) ≠ "java/lang/invoke/MethodHandle" ∧ ("SameKeeper$LockText" : String) ≠ "java/lang/invoke/VarHandle" := by decide +kernel
theorem lw_ne3 : ("SameKeeper$Sums" : String) ≠ "java/lang/invoke/MethodHandle" ∧ ("SameKeeper$Sums" : String) ≠ "java/lang/invoke/VarHandle" := by decide +kernel
theorem lw_ne4 : ("SameKeeper$Table" : String) ≠ "java/lang/invoke/MethodHandle" ∧ ("SameKeeper$Table" : String) ≠ "java/lang/invoke/VarHandle" := by decide +kernel
theorem lw_ne5 : ("SameKeeper$Code" : String) ≠ "java/lang/invoke/MethodHandle" ∧ ("SameKeeper$Code" : String) ≠ "java/lang/invoke/VarHandle" := by decide +kernel
theorem lw_ne6 : ("SameKeeper$Graph" : String) ≠ "java/lang/invoke/MethodHandle" ∧ ("SameKeeper$Graph" : String) ≠ "java/lang/invoke/VarHandle" := by decide +kernel
theorem lw_ne7 : ("SameKeeper$Question" : String) ≠ "java/lang/invoke/MethodHandle" ∧ ("SameKeeper$Question" : String) ≠ "java/lang/invoke/VarHandle" := by decide +kernel
theorem lw_ne8 : ("SameKeeperModel" : String) ≠ "java/lang/invoke/MethodHandle" ∧ ("SameKeeperModel" : String) ≠ "java/lang/invoke/VarHandle" := by decide +kernel
theorem lw_p0 : lw_okq (⟨"SameKeeper", "refuse", "(I)I"⟩, 18) := ⟨lw_ne0, lw_i0, tk_2 _ (List.mem_of_getElem? (i := 183) rfl), tk_2 _ (List.mem_of_getElem? (i := 184) rfl)⟩
theorem lw_p1 : lw_okq (⟨"SameKeeper", "refuseIt", "(I)Z"⟩, 18) := ⟨lw_ne0, lw_i0, tk_2 _ (List.mem_of_getElem? (i := 199) rfl), tk_2 _ (List.mem_of_getElem? (i := 200) rfl)⟩
theorem lw_p2 : lw_okq (⟨"SameKeeper$Reader", "readWord", "()V"⟩, 8) := ⟨lw_ne1, lw_i1, tk_2 _ (List.mem_of_getElem? (i := 230) rfl), tk_2 _ (List.mem_of_getElem? (i := 231) rfl)⟩
theorem lw_p3 : lw_okq (⟨"SameKeeper$Reader", "readNumber", "()V"⟩, 8) := ⟨lw_ne1, lw_i1, tk_3 _ (List.mem_of_getElem? (i := 43) rfl), tk_3 _ (List.mem_of_getElem? (i := 44) rfl)⟩
theorem lw_p4 : lw_okq (⟨"SameKeeper$LockText", "readOpening", "(LSameKeeper$Lock;)V"⟩, 3) := ⟨lw_ne2, lw_i2, tk_3 _ (List.mem_of_getElem? (i := 47) rfl), tk_3 _ (List.mem_of_getElem? (i := 48) rfl)⟩
theorem lw_p5 : lw_okq (⟨"SameKeeper$LockText", "readSumOf", "(LSameKeeper$Lock;ILSameKeeper$Sums;)V"⟩, 3) := ⟨lw_ne2, lw_i2, tk_3 _ (List.mem_of_getElem? (i := 67) rfl), tk_3 _ (List.mem_of_getElem? (i := 68) rfl)⟩
theorem lw_p6 : lw_okq (⟨"SameKeeper$Sums", "readSum", "(LSameKeeper$Code;)V"⟩, 2) := ⟨lw_ne3, lw_i3, tk_3 _ (List.mem_of_getElem? (i := 85) rfl), tk_3 _ (List.mem_of_getElem? (i := 86) rfl)⟩
theorem lw_p7 : lw_okq (⟨"SameKeeper$Sums", "readProduct", "(LSameKeeper$Code;)V"⟩, 2) := ⟨lw_ne3, lw_i3, tk_3 _ (List.mem_of_getElem? (i := 89) rfl), tk_3 _ (List.mem_of_getElem? (i := 90) rfl)⟩
theorem lw_p8 : lw_okq (⟨"SameKeeper$Sums", "readPart", "(LSameKeeper$Code;)V"⟩, 2) := ⟨lw_ne3, lw_i3, tk_3 _ (List.mem_of_getElem? (i := 93) rfl), tk_3 _ (List.mem_of_getElem? (i := 94) rfl)⟩
theorem lw_p9 : lw_okq (⟨"SameKeeper$Sums", "readPair", "(LSameKeeper$Code;I)V"⟩, 2) := ⟨lw_ne3, lw_i3, tk_3 _ (List.mem_of_getElem? (i := 112) rfl), tk_3 _ (List.mem_of_getElem? (i := 113) rfl)⟩
theorem lw_p10 : lw_okq (⟨"SameKeeper$Sums", "nameInLock", "(I)I"⟩, 2) := ⟨lw_ne3, lw_i3, tk_3 _ (List.mem_of_getElem? (i := 119) rfl), tk_3 _ (List.mem_of_getElem? (i := 120) rfl)⟩
theorem lw_p11 : lw_okq (⟨"SameKeeper$LockText", "readNumbers", "(LSameKeeper$Lock;)V"⟩, 3) := ⟨lw_ne2, lw_i2, tk_3 _ (List.mem_of_getElem? (i := 128) rfl), tk_3 _ (List.mem_of_getElem? (i := 129) rfl)⟩
theorem lw_p12 : lw_okq (⟨"SameKeeper$LockText", "readAmount", "(LSameKeeper$Lock;[I)V"⟩, 3) := ⟨lw_ne2, lw_i2, tk_3 _ (List.mem_of_getElem? (i := 132) rfl), tk_3 _ (List.mem_of_getElem? (i := 133) rfl)⟩
theorem lw_p13 : lw_okq (⟨"SameKeeper$LockText", "readMute", "(LSameKeeper$Lock;)V"⟩, 3) := ⟨lw_ne2, lw_i2, tk_3 _ (List.mem_of_getElem? (i := 136) rfl), tk_3 _ (List.mem_of_getElem? (i := 137) rfl)⟩
theorem lw_p14 : lw_okq (⟨"SameKeeper", "isDay", "(I)Z"⟩, 18) := ⟨lw_ne0, lw_i0, tk_3 _ (List.mem_of_getElem? (i := 191) rfl), tk_3 _ (List.mem_of_getElem? (i := 192) rfl)⟩
theorem lw_p15 : lw_okq (⟨"SameKeeper$Table", "fillWords", "(LSameKeeper$Lock;I)V"⟩, 6) := ⟨lw_ne4, lw_i4, tk_3 _ (List.mem_of_getElem? (i := 217) rfl), tk_3 _ (List.mem_of_getElem? (i := 218) rfl)⟩
def lw_privs_1 : List (MethodName × Nat) := [(⟨"SameKeeper", "refuse", "(I)I"⟩, 18), (⟨"SameKeeper", "refuseIt", "(I)Z"⟩, 18), (⟨"SameKeeper$Reader", "readWord", "()V"⟩, 8), (⟨"SameKeeper$Reader", "readNumber", "()V"⟩, 8), (⟨"SameKeeper$LockText", "readOpening", "(LSameKeeper$Lock;)V"⟩, 3), (⟨"SameKeeper$LockText", "readSumOf", "(LSameKeeper$Lock;ILSameKeeper$Sums;)V"⟩, 3), (⟨"SameKeeper$Sums", "readSum", "(LSameKeeper$Code;)V"⟩, 2), (⟨"SameKeeper$Sums", "readProduct", "(LSameKeeper$Code;)V"⟩, 2), (⟨"SameKeeper$Sums", "readPart", "(LSameKeeper$Code;)V"⟩, 2), (⟨"SameKeeper$Sums", "readPair", "(LSameKeeper$Code;I)V"⟩, 2), (⟨"SameKeeper$Sums", "nameInLock", "(I)I"⟩, 2), (⟨"SameKeeper$LockText", "readNumbers", "(LSameKeeper$Lock;)V"⟩, 3), (⟨"SameKeeper$LockText", "readAmount", "(LSameKeeper$Lock;[I)V"⟩, 3), (⟨"SameKeeper$LockText", "readMute", "(LSameKeeper$Lock;)V"⟩, 3), (⟨"SameKeeper", "isDay", "(I)Z"⟩, 18), (⟨"SameKeeper$Table", "fillWords", "(LSameKeeper$Lock;I)V"⟩, 6)]
theorem lw_r1 : ∀ q ∈ lw_privs_1, lw_okq q := List.forall_mem_cons.mpr ⟨lw_p0, List.forall_mem_cons.mpr ⟨lw_p1, List.forall_mem_cons.mpr ⟨lw_p2, List.forall_mem_cons.mpr ⟨lw_p3, List.forall_mem_cons.mpr ⟨lw_p4, List.forall_mem_cons.mpr ⟨lw_p5, List.forall_mem_cons.mpr ⟨lw_p6, List.forall_mem_cons.mpr ⟨lw_p7, List.forall_mem_cons.mpr ⟨lw_p8, List.forall_mem_cons.mpr ⟨lw_p9, List.forall_mem_cons.mpr ⟨lw_p10, List.forall_mem_cons.mpr ⟨lw_p11, List.forall_mem_cons.mpr ⟨lw_p12, List.forall_mem_cons.mpr ⟨lw_p13, List.forall_mem_cons.mpr ⟨lw_p14, List.forall_mem_cons.mpr ⟨lw_p15, fun _ h => absurd h List.not_mem_nil⟩⟩⟩⟩⟩⟩⟩⟩⟩⟩⟩⟩⟩⟩⟩⟩
theorem lw_p16 : lw_okq (⟨"SameKeeper$Code", "ofOne", "(IJ)J"⟩, 6) := ⟨lw_ne5, lw_i5, tk_4 _ (List.mem_of_getElem? (i := 3) rfl), tk_4 _ (List.mem_of_getElem? (i := 4) rfl)⟩
theorem lw_p17 : lw_okq (⟨"SameKeeper$Table", "fillDeeds", "(LSameKeeper$Lock;I)V"⟩, 6) := ⟨lw_ne4, lw_i4, tk_4 _ (List.mem_of_getElem? (i := 14) rfl), tk_4 _ (List.mem_of_getElem? (i := 15) rfl)⟩
theorem lw_p18 : lw_okq (⟨"SameKeeper", "isLocked", "()Z"⟩, 18) := ⟨lw_ne0, lw_i0, tk_4 _ (List.mem_of_getElem? (i := 40) rfl), tk_4 _ (List.mem_of_getElem? (i := 41) rfl)⟩
theorem lw_p19 : lw_okq (⟨"SameKeeper", "lookAt", "(LSameKeeper$State;)Z"⟩, 18) := ⟨lw_ne0, lw_i0, tk_4 _ (List.mem_of_getElem? (i := 44) rfl), tk_4 _ (List.mem_of_getElem? (i := 45) rfl)⟩
theorem lw_p20 : lw_okq (⟨"SameKeeper$Graph", "next", "(II)I"⟩, 9) := ⟨lw_ne6, lw_i6, tk_4 _ (List.mem_of_getElem? (i := 58) rfl), tk_4 _ (List.mem_of_getElem? (i := 59) rfl)⟩
theorem lw_p21 : lw_okq (⟨"SameKeeper", "takeWeek", "(I[I)Z"⟩, 18) := ⟨lw_ne0, lw_i0, tk_4 _ (List.mem_of_getElem? (i := 70) rfl), tk_4 _ (List.mem_of_getElem? (i := 71) rfl)⟩
theorem lw_p22 : lw_okq (⟨"SameKeeper", "fewest", "(III)I"⟩, 18) := ⟨lw_ne0, lw_i0, tk_4 _ (List.mem_of_getElem? (i := 97) rfl), tk_4 _ (List.mem_of_getElem? (i := 98) rfl)⟩
theorem lw_p23 : lw_okq (⟨"SameKeeper", "serves", "(IIII)Z"⟩, 18) := ⟨lw_ne0, lw_i0, tk_4 _ (List.mem_of_getElem? (i := 101) rfl), tk_4 _ (List.mem_of_getElem? (i := 102) rfl)⟩
theorem lw_p24 : lw_okq (⟨"SameKeeper", "isAtRest", "(I)Z"⟩, 18) := ⟨lw_ne0, lw_i0, tk_4 _ (List.mem_of_getElem? (i := 109) rfl), tk_4 _ (List.mem_of_getElem? (i := 110) rfl)⟩
theorem lw_p25 : lw_okq (⟨"SameKeeper", "stepAhead", "()Z"⟩, 18) := ⟨lw_ne0, lw_i0, tk_4 _ (List.mem_of_getElem? (i := 137) rfl), tk_4 _ (List.mem_of_getElem? (i := 138) rfl)⟩
theorem lw_p26 : lw_okq (⟨"SameKeeper$Graph", "gainBy", "(II)J"⟩, 9) := ⟨lw_ne6, lw_i6, tk_4 _ (List.mem_of_getElem? (i := 162) rfl), tk_4 _ (List.mem_of_getElem? (i := 163) rfl)⟩
theorem lw_p27 : lw_okq (⟨"SameKeeper", "isWordOf", "(II)Z"⟩, 18) := ⟨lw_ne0, lw_i0, tk_4 _ (List.mem_of_getElem? (i := 187) rfl), tk_4 _ (List.mem_of_getElem? (i := 188) rfl)⟩
theorem lw_p28 : lw_okq (⟨"SameKeeper", "lookByWord", "(II)Z"⟩, 18) := ⟨lw_ne0, lw_i0, tk_4 _ (List.mem_of_getElem? (i := 191) rfl), tk_4 _ (List.mem_of_getElem? (i := 192) rfl)⟩
theorem lw_p29 : lw_okq (⟨"SameKeeper", "tellsRows", "()Z"⟩, 18) := ⟨lw_ne0, lw_i0, tk_4 _ (List.mem_of_getElem? (i := 211) rfl), tk_4 _ (List.mem_of_getElem? (i := 212) rfl)⟩
theorem lw_p30 : lw_okq (⟨"SameKeeper", "lookByHeard", "()Z"⟩, 18) := ⟨lw_ne0, lw_i0, tk_4 _ (List.mem_of_getElem? (i := 223) rfl), tk_4 _ (List.mem_of_getElem? (i := 224) rfl)⟩
theorem lw_p31 : lw_okq (⟨"SameKeeper", "pass", "(J)V"⟩, 18) := ⟨lw_ne0, lw_i0, tk_5 _ (List.mem_of_getElem? (i := 21) rfl), tk_5 _ (List.mem_of_getElem? (i := 22) rfl)⟩
def lw_privs_2 : List (MethodName × Nat) := [(⟨"SameKeeper$Code", "ofOne", "(IJ)J"⟩, 6), (⟨"SameKeeper$Table", "fillDeeds", "(LSameKeeper$Lock;I)V"⟩, 6), (⟨"SameKeeper", "isLocked", "()Z"⟩, 18), (⟨"SameKeeper", "lookAt", "(LSameKeeper$State;)Z"⟩, 18), (⟨"SameKeeper$Graph", "next", "(II)I"⟩, 9), (⟨"SameKeeper", "takeWeek", "(I[I)Z"⟩, 18), (⟨"SameKeeper", "fewest", "(III)I"⟩, 18), (⟨"SameKeeper", "serves", "(IIII)Z"⟩, 18), (⟨"SameKeeper", "isAtRest", "(I)Z"⟩, 18), (⟨"SameKeeper", "stepAhead", "()Z"⟩, 18), (⟨"SameKeeper$Graph", "gainBy", "(II)J"⟩, 9), (⟨"SameKeeper", "isWordOf", "(II)Z"⟩, 18), (⟨"SameKeeper", "lookByWord", "(II)Z"⟩, 18), (⟨"SameKeeper", "tellsRows", "()Z"⟩, 18), (⟨"SameKeeper", "lookByHeard", "()Z"⟩, 18), (⟨"SameKeeper", "pass", "(J)V"⟩, 18)]
theorem lw_r2 : ∀ q ∈ lw_privs_2, lw_okq q := List.forall_mem_cons.mpr ⟨lw_p16, List.forall_mem_cons.mpr ⟨lw_p17, List.forall_mem_cons.mpr ⟨lw_p18, List.forall_mem_cons.mpr ⟨lw_p19, List.forall_mem_cons.mpr ⟨lw_p20, List.forall_mem_cons.mpr ⟨lw_p21, List.forall_mem_cons.mpr ⟨lw_p22, List.forall_mem_cons.mpr ⟨lw_p23, List.forall_mem_cons.mpr ⟨lw_p24, List.forall_mem_cons.mpr ⟨lw_p25, List.forall_mem_cons.mpr ⟨lw_p26, List.forall_mem_cons.mpr ⟨lw_p27, List.forall_mem_cons.mpr ⟨lw_p28, List.forall_mem_cons.mpr ⟨lw_p29, List.forall_mem_cons.mpr ⟨lw_p30, List.forall_mem_cons.mpr ⟨lw_p31, fun _ h => absurd h List.not_mem_nil⟩⟩⟩⟩⟩⟩⟩⟩⟩⟩⟩⟩⟩⟩⟩⟩
theorem lw_p32 : lw_okq (⟨"SameKeeper", "passByChance", "()Z"⟩, 18) := ⟨lw_ne0, lw_i0, tk_5 _ (List.mem_of_getElem? (i := 33) rfl), tk_5 _ (List.mem_of_getElem? (i := 34) rfl)⟩
theorem lw_p33 : lw_okq (⟨"SameKeeper", "draw", "(J)J"⟩, 18) := ⟨lw_ne0, lw_i0, tk_5 _ (List.mem_of_getElem? (i := 38) rfl), tk_5 _ (List.mem_of_getElem? (i := 39) rfl)⟩
theorem lw_p34 : lw_okq (⟨"SameKeeper$Question", "readTest", "()V"⟩, 4) := ⟨lw_ne7, lw_i7, tk_5 _ (List.mem_of_getElem? (i := 71) rfl), tk_5 _ (List.mem_of_getElem? (i := 72) rfl)⟩
theorem lw_p35 : lw_okq (⟨"SameKeeper$Question", "readBoth", "()V"⟩, 4) := ⟨lw_ne7, lw_i7, tk_5 _ (List.mem_of_getElem? (i := 75) rfl), tk_5 _ (List.mem_of_getElem? (i := 76) rfl)⟩
theorem lw_p36 : lw_okq (⟨"SameKeeper$Question", "readFact", "()V"⟩, 4) := ⟨lw_ne7, lw_i7, tk_5 _ (List.mem_of_getElem? (i := 79) rfl), tk_5 _ (List.mem_of_getElem? (i := 80) rfl)⟩
theorem lw_p37 : lw_okq (⟨"SameKeeper$Question", "isOfDays", "()Z"⟩, 4) := ⟨lw_ne7, lw_i7, tk_5 _ (List.mem_of_getElem? (i := 101) rfl), tk_5 _ (List.mem_of_getElem? (i := 102) rfl)⟩
theorem lw_p38 : lw_okq (⟨"SameKeeper$Question", "nameDay", "(LSameKeeper$State;LSameKeeper$Graph;II)V"⟩, 4) := ⟨lw_ne7, lw_i7, tk_5 _ (List.mem_of_getElem? (i := 106) rfl), tk_5 _ (List.mem_of_getElem? (i := 107) rfl)⟩
theorem lw_p39 : lw_okq (⟨"SameKeeper$Question", "joined", "(JJI)J"⟩, 4) := ⟨lw_ne7, lw_i7, tk_5 _ (List.mem_of_getElem? (i := 118) rfl), tk_5 _ (List.mem_of_getElem? (i := 119) rfl)⟩
theorem lw_p40 : lw_okq (⟨"SameKeeper", "tellsImage", "()Z"⟩, 18) := ⟨lw_ne0, lw_i0, tk_5 _ (List.mem_of_getElem? (i := 142) rfl), tk_5 _ (List.mem_of_getElem? (i := 143) rfl)⟩
theorem lw_p41 : lw_okq (⟨"SameKeeperModel", "lockTold", "()V"⟩, 92) := ⟨lw_ne8, lw_i8, tk_6 _ (List.mem_of_getElem? (i := 207) rfl), tk_6 _ (List.mem_of_getElem? (i := 208) rfl)⟩
theorem lw_p42 : lw_okq (⟨"SameKeeperModel", "asks", "([C)V"⟩, 92) := ⟨lw_ne8, lw_i8, tk_6 _ (List.mem_of_getElem? (i := 211) rfl), tk_6 _ (List.mem_of_getElem? (i := 212) rfl)⟩
theorem lw_p43 : lw_okq (⟨"SameKeeperModel", "takes", "([C)Z"⟩, 92) := ⟨lw_ne8, lw_i8, tk_6 _ (List.mem_of_getElem? (i := 215) rfl), tk_6 _ (List.mem_of_getElem? (i := 216) rfl)⟩
theorem lw_p44 : lw_okq (⟨"SameKeeperModel", "isHere", "([C)Z"⟩, 92) := ⟨lw_ne8, lw_i8, tk_6 _ (List.mem_of_getElem? (i := 219) rfl), tk_6 _ (List.mem_of_getElem? (i := 220) rfl)⟩
theorem lw_p45 : lw_okq (⟨"SameKeeperModel", "look", "()I"⟩, 92) := ⟨lw_ne8, lw_i8, tk_6 _ (List.mem_of_getElem? (i := 223) rfl), tk_6 _ (List.mem_of_getElem? (i := 224) rfl)⟩
theorem lw_p46 : lw_okq (⟨"SameKeeperModel", "fail", "(II)V"⟩, 92) := ⟨lw_ne8, lw_i8, tk_6 _ (List.mem_of_getElem? (i := 230) rfl), tk_6 _ (List.mem_of_getElem? (i := 231) rfl)⟩
theorem lw_p47 : lw_okq (⟨"SameKeeperModel", "number", "(II)I"⟩, 92) := ⟨lw_ne8, lw_i8, tk_6 _ (List.mem_of_getElem? (i := 234) rfl), tk_6 _ (List.mem_of_getElem? (i := 235) rfl)⟩
def lw_privs_3 : List (MethodName × Nat) := [(⟨"SameKeeper", "passByChance", "()Z"⟩, 18), (⟨"SameKeeper", "draw", "(J)J"⟩, 18), (⟨"SameKeeper$Question", "readTest", "()V"⟩, 4), (⟨"SameKeeper$Question", "readBoth", "()V"⟩, 4), (⟨"SameKeeper$Question", "readFact", "()V"⟩, 4), (⟨"SameKeeper$Question", "isOfDays", "()Z"⟩, 4), (⟨"SameKeeper$Question", "nameDay", "(LSameKeeper$State;LSameKeeper$Graph;II)V"⟩, 4), (⟨"SameKeeper$Question", "joined", "(JJI)J"⟩, 4), (⟨"SameKeeper", "tellsImage", "()Z"⟩, 18), (⟨"SameKeeperModel", "lockTold", "()V"⟩, 92), (⟨"SameKeeperModel", "asks", "([C)V"⟩, 92), (⟨"SameKeeperModel", "takes", "([C)Z"⟩, 92), (⟨"SameKeeperModel", "isHere", "([C)Z"⟩, 92), (⟨"SameKeeperModel", "look", "()I"⟩, 92), (⟨"SameKeeperModel", "fail", "(II)V"⟩, 92), (⟨"SameKeeperModel", "number", "(II)I"⟩, 92)]
theorem lw_r3 : ∀ q ∈ lw_privs_3, lw_okq q := List.forall_mem_cons.mpr ⟨lw_p32, List.forall_mem_cons.mpr ⟨lw_p33, List.forall_mem_cons.mpr ⟨lw_p34, List.forall_mem_cons.mpr ⟨lw_p35, List.forall_mem_cons.mpr ⟨lw_p36, List.forall_mem_cons.mpr ⟨lw_p37, List.forall_mem_cons.mpr ⟨lw_p38, List.forall_mem_cons.mpr ⟨lw_p39, List.forall_mem_cons.mpr ⟨lw_p40, List.forall_mem_cons.mpr ⟨lw_p41, List.forall_mem_cons.mpr ⟨lw_p42, List.forall_mem_cons.mpr ⟨lw_p43, List.forall_mem_cons.mpr ⟨lw_p44, List.forall_mem_cons.mpr ⟨lw_p45, List.forall_mem_cons.mpr ⟨lw_p46, List.forall_mem_cons.mpr ⟨lw_p47, fun _ h => absurd h List.not_mem_nil⟩⟩⟩⟩⟩⟩⟩⟩⟩⟩⟩⟩⟩⟩⟩⟩
theorem lw_p48 : lw_okq (⟨"SameKeeperModel", "asksSign", "(I)V"⟩, 92) := ⟨lw_ne8, lw_i8, tk_7 _ (List.mem_of_getElem? (i := 4) rfl), tk_7 _ (List.mem_of_getElem? (i := 5) rfl)⟩
theorem lw_p49 : lw_okq (⟨"SameKeeperModel", "takesSign", "(I)Z"⟩, 92) := ⟨lw_ne8, lw_i8, tk_7 _ (List.mem_of_getElem? (i := 8) rfl), tk_7 _ (List.mem_of_getElem? (i := 9) rfl)⟩
theorem lw_p50 : lw_okq (⟨"SameKeeperModel", "statementTold", "()V"⟩, 92) := ⟨lw_ne8, lw_i8, tk_7 _ (List.mem_of_getElem? (i := 12) rfl), tk_7 _ (List.mem_of_getElem? (i := 13) rfl)⟩
theorem lw_p51 : lw_okq (⟨"SameKeeperModel", "dayTold", "(I)V"⟩, 92) := ⟨lw_ne8, lw_i8, tk_7 _ (List.mem_of_getElem? (i := 16) rfl), tk_7 _ (List.mem_of_getElem? (i := 17) rfl)⟩
theorem lw_p52 : lw_okq (⟨"SameKeeperModel", "muteTold", "()V"⟩, 92) := ⟨lw_ne8, lw_i8, tk_7 _ (List.mem_of_getElem? (i := 20) rfl), tk_7 _ (List.mem_of_getElem? (i := 21) rfl)⟩
theorem lw_p53 : lw_okq (⟨"SameKeeperModel", "codesTold", "(II)V"⟩, 92) := ⟨lw_ne8, lw_i8, tk_7 _ (List.mem_of_getElem? (i := 24) rfl), tk_7 _ (List.mem_of_getElem? (i := 25) rfl)⟩
theorem lw_p54 : lw_okq (⟨"SameKeeperModel", "qSums", "()V"⟩, 92) := ⟨lw_ne8, lw_i8, tk_7 _ (List.mem_of_getElem? (i := 28) rfl), tk_7 _ (List.mem_of_getElem? (i := 29) rfl)⟩
theorem lw_p55 : lw_okq (⟨"SameKeeperModel", "qPartTold", "()V"⟩, 92) := ⟨lw_ne8, lw_i8, tk_7 _ (List.mem_of_getElem? (i := 32) rfl), tk_7 _ (List.mem_of_getElem? (i := 33) rfl)⟩
theorem lw_p56 : lw_okq (⟨"SameKeeperModel", "qWordOf", "(II)I"⟩, 92) := ⟨lw_ne8, lw_i8, tk_7 _ (List.mem_of_getElem? (i := 36) rfl), tk_7 _ (List.mem_of_getElem? (i := 37) rfl)⟩
theorem lw_p57 : lw_okq (⟨"SameKeeperModel", "qWordHere", "()I"⟩, 92) := ⟨lw_ne8, lw_i8, tk_7 _ (List.mem_of_getElem? (i := 40) rfl), tk_7 _ (List.mem_of_getElem? (i := 41) rfl)⟩
theorem lw_p58 : lw_okq (⟨"SameKeeperModel", "isAllowed", "(I)Z"⟩, 92) := ⟨lw_ne8, lw_i8, tk_7 _ (List.mem_of_getElem? (i := 44) rfl), tk_7 _ (List.mem_of_getElem? (i := 45) rfl)⟩
theorem lw_p59 : lw_okq (⟨"SameKeeperModel", "qOpens", "(II)V"⟩, 92) := ⟨lw_ne8, lw_i8, tk_7 _ (List.mem_of_getElem? (i := 48) rfl), tk_7 _ (List.mem_of_getElem? (i := 49) rfl)⟩
theorem lw_p60 : lw_okq (⟨"SameKeeperModel", "qAsksWord", "(I)V"⟩, 92) := ⟨lw_ne8, lw_i8, tk_7 _ (List.mem_of_getElem? (i := 52) rfl), tk_7 _ (List.mem_of_getElem? (i := 53) rfl)⟩
theorem lw_p61 : lw_okq (⟨"SameKeeperModel", "qCode", "(I)V"⟩, 92) := ⟨lw_ne8, lw_i8, tk_7 _ (List.mem_of_getElem? (i := 56) rfl), tk_7 _ (List.mem_of_getElem? (i := 57) rfl)⟩
theorem lw_p62 : lw_okq (⟨"SameKeeperModel", "qEndsPart", "()V"⟩, 92) := ⟨lw_ne8, lw_i8, tk_7 _ (List.mem_of_getElem? (i := 60) rfl), tk_7 _ (List.mem_of_getElem? (i := 61) rfl)⟩
theorem lw_p63 : lw_okq (⟨"SameKeeperModel", "qDrops", "()V"⟩, 92) := ⟨lw_ne8, lw_i8, tk_7 _ (List.mem_of_getElem? (i := 64) rfl), tk_7 _ (List.mem_of_getElem? (i := 65) rfl)⟩
def lw_privs_4 : List (MethodName × Nat) := [(⟨"SameKeeperModel", "asksSign", "(I)V"⟩, 92), (⟨"SameKeeperModel", "takesSign", "(I)Z"⟩, 92), (⟨"SameKeeperModel", "statementTold", "()V"⟩, 92), (⟨"SameKeeperModel", "dayTold", "(I)V"⟩, 92), (⟨"SameKeeperModel", "muteTold", "()V"⟩, 92), (⟨"SameKeeperModel", "codesTold", "(II)V"⟩, 92), (⟨"SameKeeperModel", "qSums", "()V"⟩, 92), (⟨"SameKeeperModel", "qPartTold", "()V"⟩, 92), (⟨"SameKeeperModel", "qWordOf", "(II)I"⟩, 92), (⟨"SameKeeperModel", "qWordHere", "()I"⟩, 92), (⟨"SameKeeperModel", "isAllowed", "(I)Z"⟩, 92), (⟨"SameKeeperModel", "qOpens", "(II)V"⟩, 92), (⟨"SameKeeperModel", "qAsksWord", "(I)V"⟩, 92), (⟨"SameKeeperModel", "qCode", "(I)V"⟩, 92), (⟨"SameKeeperModel", "qEndsPart", "()V"⟩, 92), (⟨"SameKeeperModel", "qDrops", "()V"⟩, 92)]
theorem lw_r4 : ∀ q ∈ lw_privs_4, lw_okq q := List.forall_mem_cons.mpr ⟨lw_p48, List.forall_mem_cons.mpr ⟨lw_p49, List.forall_mem_cons.mpr ⟨lw_p50, List.forall_mem_cons.mpr ⟨lw_p51, List.forall_mem_cons.mpr ⟨lw_p52, List.forall_mem_cons.mpr ⟨lw_p53, List.forall_mem_cons.mpr ⟨lw_p54, List.forall_mem_cons.mpr ⟨lw_p55, List.forall_mem_cons.mpr ⟨lw_p56, List.forall_mem_cons.mpr ⟨lw_p57, List.forall_mem_cons.mpr ⟨lw_p58, List.forall_mem_cons.mpr ⟨lw_p59, List.forall_mem_cons.mpr ⟨lw_p60, List.forall_mem_cons.mpr ⟨lw_p61, List.forall_mem_cons.mpr ⟨lw_p62, List.forall_mem_cons.mpr ⟨lw_p63, fun _ h => absurd h List.not_mem_nil⟩⟩⟩⟩⟩⟩⟩⟩⟩⟩⟩⟩⟩⟩⟩⟩
theorem lw_p64 : lw_okq (⟨"SameKeeperModel", "qGoesOn", "()Z"⟩, 92) := ⟨lw_ne8, lw_i8, tk_7 _ (List.mem_of_getElem? (i := 68) rfl), tk_7 _ (List.mem_of_getElem? (i := 69) rfl)⟩
theorem lw_p65 : lw_okq (⟨"SameKeeperModel", "qBracket", "()I"⟩, 92) := ⟨lw_ne8, lw_i8, tk_7 _ (List.mem_of_getElem? (i := 72) rfl), tk_7 _ (List.mem_of_getElem? (i := 73) rfl)⟩
theorem lw_p66 : lw_okq (⟨"SameKeeperModel", "qDropsToBracket", "()V"⟩, 92) := ⟨lw_ne8, lw_i8, tk_7 _ (List.mem_of_getElem? (i := 79) rfl), tk_7 _ (List.mem_of_getElem? (i := 80) rfl)⟩
theorem lw_p67 : lw_okq (⟨"SameKeeperModel", "qIsOn", "(I)Z"⟩, 92) := ⟨lw_ne8, lw_i8, tk_7 _ (List.mem_of_getElem? (i := 83) rfl), tk_7 _ (List.mem_of_getElem? (i := 84) rfl)⟩
theorem lw_p68 : lw_okq (⟨"SameKeeperModel", "stands", "()V"⟩, 92) := ⟨lw_ne8, lw_i8, tk_7 _ (List.mem_of_getElem? (i := 87) rfl), tk_7 _ (List.mem_of_getElem? (i := 88) rfl)⟩
theorem lw_p69 : lw_okq (⟨"SameKeeperModel", "dayMany", "()I"⟩, 92) := ⟨lw_ne8, lw_i8, tk_7 _ (List.mem_of_getElem? (i := 99) rfl), tk_7 _ (List.mem_of_getElem? (i := 100) rfl)⟩
theorem lw_p70 : lw_okq (⟨"SameKeeperModel", "muteSet", "()I"⟩, 92) := ⟨lw_ne8, lw_i8, tk_7 _ (List.mem_of_getElem? (i := 103) rfl), tk_7 _ (List.mem_of_getElem? (i := 104) rfl)⟩
theorem lw_p71 : lw_okq (⟨"SameKeeperModel", "isMute", "(I)Z"⟩, 92) := ⟨lw_ne8, lw_i8, tk_7 _ (List.mem_of_getElem? (i := 107) rfl), tk_7 _ (List.mem_of_getElem? (i := 108) rfl)⟩
theorem lw_p72 : lw_okq (⟨"SameKeeperModel", "isDay", "(I)Z"⟩, 92) := ⟨lw_ne8, lw_i8, tk_7 _ (List.mem_of_getElem? (i := 118) rfl), tk_7 _ (List.mem_of_getElem? (i := 119) rfl)⟩
theorem lw_p73 : lw_okq (⟨"SameKeeperModel", "isMood", "(I)Z"⟩, 92) := ⟨lw_ne8, lw_i8, tk_7 _ (List.mem_of_getElem? (i := 127) rfl), tk_7 _ (List.mem_of_getElem? (i := 128) rfl)⟩
theorem lw_p74 : lw_okq (⟨"SameKeeperModel", "wordOf", "(II)I"⟩, 92) := ⟨lw_ne8, lw_i8, tk_7 _ (List.mem_of_getElem? (i := 132) rfl), tk_7 _ (List.mem_of_getElem? (i := 133) rfl)⟩
theorem lw_p75 : lw_okq (⟨"SameKeeperModel", "codesTell", "(II)J"⟩, 92) := ⟨lw_ne8, lw_i8, tk_7 _ (List.mem_of_getElem? (i := 136) rfl), tk_7 _ (List.mem_of_getElem? (i := 137) rfl)⟩
theorem lw_p76 : lw_okq (⟨"SameKeeperModel", "qPuts", "(J)V"⟩, 92) := ⟨lw_ne8, lw_i8, tk_7 _ (List.mem_of_getElem? (i := 140) rfl), tk_7 _ (List.mem_of_getElem? (i := 141) rfl)⟩
theorem lw_p77 : lw_okq (⟨"SameKeeperModel", "qPartOf", "(II)J"⟩, 92) := ⟨lw_ne8, lw_i8, tk_7 _ (List.mem_of_getElem? (i := 144) rfl), tk_7 _ (List.mem_of_getElem? (i := 145) rfl)⟩
theorem lw_p78 : lw_okq (⟨"SameKeeperModel", "bargeOf", "(I)I"⟩, 92) := ⟨lw_ne8, lw_i8, tk_7 _ (List.mem_of_getElem? (i := 148) rfl), tk_7 _ (List.mem_of_getElem? (i := 149) rfl)⟩
theorem lw_p79 : lw_okq (⟨"SameKeeperModel", "wetOf", "(I)I"⟩, 92) := ⟨lw_ne8, lw_i8, tk_7 _ (List.mem_of_getElem? (i := 152) rfl), tk_7 _ (List.mem_of_getElem? (i := 153) rfl)⟩
def lw_privs_5 : List (MethodName × Nat) := [(⟨"SameKeeperModel", "qGoesOn", "()Z"⟩, 92), (⟨"SameKeeperModel", "qBracket", "()I"⟩, 92), (⟨"SameKeeperModel", "qDropsToBracket", "()V"⟩, 92), (⟨"SameKeeperModel", "qIsOn", "(I)Z"⟩, 92), (⟨"SameKeeperModel", "stands", "()V"⟩, 92), (⟨"SameKeeperModel", "dayMany", "()I"⟩, 92), (⟨"SameKeeperModel", "muteSet", "()I"⟩, 92), (⟨"SameKeeperModel", "isMute", "(I)Z"⟩, 92), (⟨"SameKeeperModel", "isDay", "(I)Z"⟩, 92), (⟨"SameKeeperModel", "isMood", "(I)Z"⟩, 92), (⟨"SameKeeperModel", "wordOf", "(II)I"⟩, 92), (⟨"SameKeeperModel", "codesTell", "(II)J"⟩, 92), (⟨"SameKeeperModel", "qPuts", "(J)V"⟩, 92), (⟨"SameKeeperModel", "qPartOf", "(II)J"⟩, 92), (⟨"SameKeeperModel", "bargeOf", "(I)I"⟩, 92), (⟨"SameKeeperModel", "wetOf", "(I)I"⟩, 92)]
theorem lw_r5 : ∀ q ∈ lw_privs_5, lw_okq q := List.forall_mem_cons.mpr ⟨lw_p64, List.forall_mem_cons.mpr ⟨lw_p65, List.forall_mem_cons.mpr ⟨lw_p66, List.forall_mem_cons.mpr ⟨lw_p67, List.forall_mem_cons.mpr ⟨lw_p68, List.forall_mem_cons.mpr ⟨lw_p69, List.forall_mem_cons.mpr ⟨lw_p70, List.forall_mem_cons.mpr ⟨lw_p71, List.forall_mem_cons.mpr ⟨lw_p72, List.forall_mem_cons.mpr ⟨lw_p73, List.forall_mem_cons.mpr ⟨lw_p74, List.forall_mem_cons.mpr ⟨lw_p75, List.forall_mem_cons.mpr ⟨lw_p76, List.forall_mem_cons.mpr ⟨lw_p77, List.forall_mem_cons.mpr ⟨lw_p78, List.forall_mem_cons.mpr ⟨lw_p79, fun _ h => absurd h List.not_mem_nil⟩⟩⟩⟩⟩⟩⟩⟩⟩⟩⟩⟩⟩⟩⟩⟩
theorem lw_p80 : lw_okq (⟨"SameKeeperModel", "qJoins", "(I)V"⟩, 92) := ⟨lw_ne8, lw_i8, tk_7 _ (List.mem_of_getElem? (i := 157) rfl), tk_7 _ (List.mem_of_getElem? (i := 158) rfl)⟩
theorem lw_p81 : lw_okq (⟨"SameKeeperModel", "becomesBy", "(IIIZ)I"⟩, 92) := ⟨lw_ne8, lw_i8, tk_7 _ (List.mem_of_getElem? (i := 177) rfl), tk_7 _ (List.mem_of_getElem? (i := 178) rfl)⟩
theorem lw_p82 : lw_okq (⟨"SameKeeperModel", "laysAll", "()V"⟩, 92) := ⟨lw_ne8, lw_i8, tk_7 _ (List.mem_of_getElem? (i := 190) rfl), tk_7 _ (List.mem_of_getElem? (i := 191) rfl)⟩
theorem lw_p83 : lw_okq (⟨"SameKeeperModel", "laysDays", "(I)V"⟩, 92) := ⟨lw_ne8, lw_i8, tk_7 _ (List.mem_of_getElem? (i := 194) rfl), tk_7 _ (List.mem_of_getElem? (i := 195) rfl)⟩
theorem lw_p84 : lw_okq (⟨"SameKeeperModel", "laysWays", "()V"⟩, 92) := ⟨lw_ne8, lw_i8, tk_7 _ (List.mem_of_getElem? (i := 198) rfl), tk_7 _ (List.mem_of_getElem? (i := 199) rfl)⟩
theorem lw_p85 : lw_okq (⟨"SameKeeperModel", "canFollow", "(III)Z"⟩, 92) := ⟨lw_ne8, lw_i8, tk_7 _ (List.mem_of_getElem? (i := 202) rfl), tk_7 _ (List.mem_of_getElem? (i := 203) rfl)⟩
theorem lw_p86 : lw_okq (⟨"SameKeeperModel", "isMuteNow", "(I)Z"⟩, 92) := ⟨lw_ne8, lw_i8, tk_7 _ (List.mem_of_getElem? (i := 206) rfl), tk_7 _ (List.mem_of_getElem? (i := 207) rfl)⟩
theorem lw_p87 : lw_okq (⟨"SameKeeperModel", "isLeft", "(II)Z"⟩, 92) := ⟨lw_ne8, lw_i8, tk_7 _ (List.mem_of_getElem? (i := 210) rfl), tk_7 _ (List.mem_of_getElem? (i := 211) rfl)⟩
theorem lw_p88 : lw_okq (⟨"SameKeeperModel", "walksTo", "(J)V"⟩, 92) := ⟨lw_ne8, lw_i8, tk_7 _ (List.mem_of_getElem? (i := 218) rfl), tk_7 _ (List.mem_of_getElem? (i := 219) rfl)⟩
theorem lw_p89 : lw_okq (⟨"SameKeeperModel", "doesAgree", "(I)Z"⟩, 92) := ⟨lw_ne8, lw_i8, tk_7 _ (List.mem_of_getElem? (i := 230) rfl), tk_7 _ (List.mem_of_getElem? (i := 231) rfl)⟩
theorem lw_p90 : lw_okq (⟨"SameKeeperModel", "isAhead", "(III)Z"⟩, 92) := ⟨lw_ne8, lw_i8, tk_8 _ (List.mem_of_getElem? (i := 6) rfl), tk_8 _ (List.mem_of_getElem? (i := 7) rfl)⟩
theorem lw_p91 : lw_okq (⟨"SameKeeperModel", "putsAside", "()V"⟩, 92) := ⟨lw_ne8, lw_i8, tk_8 _ (List.mem_of_getElem? (i := 10) rfl), tk_8 _ (List.mem_of_getElem? (i := 11) rfl)⟩
theorem lw_p92 : lw_okq (⟨"SameKeeperModel", "doGo", "()Z"⟩, 92) := ⟨lw_ne8, lw_i8, tk_8 _ (List.mem_of_getElem? (i := 14) rfl), tk_8 _ (List.mem_of_getElem? (i := 15) rfl)⟩
theorem lw_p93 : lw_okq (⟨"SameKeeperModel", "goesBy", "(J)V"⟩, 92) := ⟨lw_ne8, lw_i8, tk_8 _ (List.mem_of_getElem? (i := 18) rfl), tk_8 _ (List.mem_of_getElem? (i := 19) rfl)⟩
theorem lw_p94 : lw_okq (⟨"SameKeeperModel", "isKept", "()V"⟩, 92) := ⟨lw_ne8, lw_i8, tk_8 _ (List.mem_of_getElem? (i := 22) rfl), tk_8 _ (List.mem_of_getElem? (i := 23) rfl)⟩
theorem lw_p95 : lw_okq (⟨"SameKeeperModel", "takesBack", "()V"⟩, 92) := ⟨lw_ne8, lw_i8, tk_8 _ (List.mem_of_getElem? (i := 26) rfl), tk_8 _ (List.mem_of_getElem? (i := 27) rfl)⟩
def lw_privs_6 : List (MethodName × Nat) := [(⟨"SameKeeperModel", "qJoins", "(I)V"⟩, 92), (⟨"SameKeeperModel", "becomesBy", "(IIIZ)I"⟩, 92), (⟨"SameKeeperModel", "laysAll", "()V"⟩, 92), (⟨"SameKeeperModel", "laysDays", "(I)V"⟩, 92), (⟨"SameKeeperModel", "laysWays", "()V"⟩, 92), (⟨"SameKeeperModel", "canFollow", "(III)Z"⟩, 92), (⟨"SameKeeperModel", "isMuteNow", "(I)Z"⟩, 92), (⟨"SameKeeperModel", "isLeft", "(II)Z"⟩, 92), (⟨"SameKeeperModel", "walksTo", "(J)V"⟩, 92), (⟨"SameKeeperModel", "doesAgree", "(I)Z"⟩, 92), (⟨"SameKeeperModel", "isAhead", "(III)Z"⟩, 92), (⟨"SameKeeperModel", "putsAside", "()V"⟩, 92), (⟨"SameKeeperModel", "doGo", "()Z"⟩, 92), (⟨"SameKeeperModel", "goesBy", "(J)V"⟩, 92), (⟨"SameKeeperModel", "isKept", "()V"⟩, 92), (⟨"SameKeeperModel", "takesBack", "()V"⟩, 92)]
theorem lw_r6 : ∀ q ∈ lw_privs_6, lw_okq q := List.forall_mem_cons.mpr ⟨lw_p80, List.forall_mem_cons.mpr ⟨lw_p81, List.forall_mem_cons.mpr ⟨lw_p82, List.forall_mem_cons.mpr ⟨lw_p83, List.forall_mem_cons.mpr ⟨lw_p84, List.forall_mem_cons.mpr ⟨lw_p85, List.forall_mem_cons.mpr ⟨lw_p86, List.forall_mem_cons.mpr ⟨lw_p87, List.forall_mem_cons.mpr ⟨lw_p88, List.forall_mem_cons.mpr ⟨lw_p89, List.forall_mem_cons.mpr ⟨lw_p90, List.forall_mem_cons.mpr ⟨lw_p91, List.forall_mem_cons.mpr ⟨lw_p92, List.forall_mem_cons.mpr ⟨lw_p93, List.forall_mem_cons.mpr ⟨lw_p94, List.forall_mem_cons.mpr ⟨lw_p95, fun _ h => absurd h List.not_mem_nil⟩⟩⟩⟩⟩⟩⟩⟩⟩⟩⟩⟩⟩⟩⟩⟩
theorem lw_p96 : lw_okq (⟨"SameKeeperModel", "laysPay", "()V"⟩, 92) := ⟨lw_ne8, lw_i8, tk_8 _ (List.mem_of_getElem? (i := 42) rfl), tk_8 _ (List.mem_of_getElem? (i := 43) rfl)⟩
theorem lw_p97 : lw_okq (⟨"SameKeeperModel", "wageOf", "(II)J"⟩, 92) := ⟨lw_ne8, lw_i8, tk_8 _ (List.mem_of_getElem? (i := 46) rfl), tk_8 _ (List.mem_of_getElem? (i := 47) rfl)⟩
theorem lw_p98 : lw_okq (⟨"SameKeeperModel", "bestBehind", "(II)I"⟩, 92) := ⟨lw_ne8, lw_i8, tk_8 _ (List.mem_of_getElem? (i := 50) rfl), tk_8 _ (List.mem_of_getElem? (i := 51) rfl)⟩
theorem lw_p99 : lw_okq (⟨"SameKeeperModel", "laysRest", "()V"⟩, 92) := ⟨lw_ne8, lw_i8, tk_8 _ (List.mem_of_getElem? (i := 62) rfl), tk_8 _ (List.mem_of_getElem? (i := 63) rfl)⟩
theorem lw_p100 : lw_okq (⟨"SameKeeperModel", "isRest", "(I)Z"⟩, 92) := ⟨lw_ne8, lw_i8, tk_8 _ (List.mem_of_getElem? (i := 66) rfl), tk_8 _ (List.mem_of_getElem? (i := 67) rfl)⟩
theorem lw_p101 : lw_okq (⟨"SameKeeperModel", "canBeTold", "(II)Z"⟩, 92) := ⟨lw_ne8, lw_i8, tk_8 _ (List.mem_of_getElem? (i := 78) rfl), tk_8 _ (List.mem_of_getElem? (i := 79) rfl)⟩
theorem lw_p102 : lw_okq (⟨"SameKeeperModel", "laysByWord", "(II)V"⟩, 92) := ⟨lw_ne8, lw_i8, tk_8 _ (List.mem_of_getElem? (i := 82) rfl), tk_8 _ (List.mem_of_getElem? (i := 83) rfl)⟩
theorem lw_p103 : lw_okq (⟨"SameKeeperModel", "moodsOf", "(I)I"⟩, 92) := ⟨lw_ne8, lw_i8, tk_8 _ (List.mem_of_getElem? (i := 86) rfl), tk_8 _ (List.mem_of_getElem? (i := 87) rfl)⟩
theorem lw_p104 : lw_okq (⟨"SameKeeperModel", "refuses", "(I)I"⟩, 92) := ⟨lw_ne8, lw_i8, tk_8 _ (List.mem_of_getElem? (i := 98) rfl), tk_8 _ (List.mem_of_getElem? (i := 99) rfl)⟩
theorem lw_p105 : lw_okq (⟨"SameKeeperModel", "laysHeard", "()V"⟩, 92) := ⟨lw_ne8, lw_i8, tk_8 _ (List.mem_of_getElem? (i := 106) rfl), tk_8 _ (List.mem_of_getElem? (i := 107) rfl)⟩
theorem lw_p106 : lw_okq (⟨"SameKeeperModel", "becomes", "(IIIZ)Z"⟩, 92) := ⟨lw_ne8, lw_i8, tk_8 _ (List.mem_of_getElem? (i := 127) rfl), tk_8 _ (List.mem_of_getElem? (i := 128) rfl)⟩
theorem lw_p107 : lw_okq (⟨"SameKeeperModel", "keeps", "()V"⟩, 92) := ⟨lw_ne8, lw_i8, tk_8 _ (List.mem_of_getElem? (i := 131) rfl), tk_8 _ (List.mem_of_getElem? (i := 132) rfl)⟩
theorem lw_p108 : lw_okq (⟨"SameKeeperModel", "drawsDays", "()V"⟩, 92) := ⟨lw_ne8, lw_i8, tk_8 _ (List.mem_of_getElem? (i := 151) rfl), tk_8 _ (List.mem_of_getElem? (i := 152) rfl)⟩
theorem lw_p109 : lw_okq (⟨"SameKeeperModel", "drawOf", "(J)J"⟩, 92) := ⟨lw_ne8, lw_i8, tk_8 _ (List.mem_of_getElem? (i := 156) rfl), tk_8 _ (List.mem_of_getElem? (i := 157) rfl)⟩
theorem lw_p110 : lw_okq (⟨"SameKeeperModel", "qKind", "()I"⟩, 92) := ⟨lw_ne8, lw_i8, tk_8 _ (List.mem_of_getElem? (i := 168) rfl), tk_8 _ (List.mem_of_getElem? (i := 169) rfl)⟩
theorem lw_p111 : lw_okq (⟨"SameKeeperModel", "qTest", "()V"⟩, 92) := ⟨lw_ne8, lw_i8, tk_8 _ (List.mem_of_getElem? (i := 172) rfl), tk_8 _ (List.mem_of_getElem? (i := 173) rfl)⟩
def lw_privs_7 : List (MethodName × Nat) := [(⟨"SameKeeperModel", "laysPay", "()V"⟩, 92), (⟨"SameKeeperModel", "wageOf", "(II)J"⟩, 92), (⟨"SameKeeperModel", "bestBehind", "(II)I"⟩, 92), (⟨"SameKeeperModel", "laysRest", "()V"⟩, 92), (⟨"SameKeeperModel", "isRest", "(I)Z"⟩, 92), (⟨"SameKeeperModel", "canBeTold", "(II)Z"⟩, 92), (⟨"SameKeeperModel", "laysByWord", "(II)V"⟩, 92), (⟨"SameKeeperModel", "moodsOf", "(I)I"⟩, 92), (⟨"SameKeeperModel", "refuses", "(I)I"⟩, 92), (⟨"SameKeeperModel", "laysHeard", "()V"⟩, 92), (⟨"SameKeeperModel", "becomes", "(IIIZ)Z"⟩, 92), (⟨"SameKeeperModel", "keeps", "()V"⟩, 92), (⟨"SameKeeperModel", "drawsDays", "()V"⟩, 92), (⟨"SameKeeperModel", "drawOf", "(J)J"⟩, 92), (⟨"SameKeeperModel", "qKind", "()I"⟩, 92), (⟨"SameKeeperModel", "qTest", "()V"⟩, 92)]
theorem lw_r7 : ∀ q ∈ lw_privs_7, lw_okq q := List.forall_mem_cons.mpr ⟨lw_p96, List.forall_mem_cons.mpr ⟨lw_p97, List.forall_mem_cons.mpr ⟨lw_p98, List.forall_mem_cons.mpr ⟨lw_p99, List.forall_mem_cons.mpr ⟨lw_p100, List.forall_mem_cons.mpr ⟨lw_p101, List.forall_mem_cons.mpr ⟨lw_p102, List.forall_mem_cons.mpr ⟨lw_p103, List.forall_mem_cons.mpr ⟨lw_p104, List.forall_mem_cons.mpr ⟨lw_p105, List.forall_mem_cons.mpr ⟨lw_p106, List.forall_mem_cons.mpr ⟨lw_p107, List.forall_mem_cons.mpr ⟨lw_p108, List.forall_mem_cons.mpr ⟨lw_p109, List.forall_mem_cons.mpr ⟨lw_p110, List.forall_mem_cons.mpr ⟨lw_p111, fun _ h => absurd h List.not_mem_nil⟩⟩⟩⟩⟩⟩⟩⟩⟩⟩⟩⟩⟩⟩⟩⟩
theorem lw_p112 : lw_okq (⟨"SameKeeperModel", "qFact", "()V"⟩, 92) := ⟨lw_ne8, lw_i8, tk_8 _ (List.mem_of_getElem? (i := 176) rfl), tk_8 _ (List.mem_of_getElem? (i := 177) rfl)⟩
theorem lw_p113 : lw_okq (⟨"SameKeeperModel", "qDropsNots", "()V"⟩, 92) := ⟨lw_ne8, lw_i8, tk_8 _ (List.mem_of_getElem? (i := 180) rfl), tk_8 _ (List.mem_of_getElem? (i := 181) rfl)⟩
theorem lw_p114 : lw_okq (⟨"SameKeeperModel", "qGoesOnTest", "()Z"⟩, 92) := ⟨lw_ne8, lw_i8, tk_8 _ (List.mem_of_getElem? (i := 184) rfl), tk_8 _ (List.mem_of_getElem? (i := 185) rfl)⟩
theorem lw_p115 : lw_okq (⟨"SameKeeperModel", "qHasSquare", "()Z"⟩, 92) := ⟨lw_ne8, lw_i8, tk_8 _ (List.mem_of_getElem? (i := 188) rfl), tk_8 _ (List.mem_of_getElem? (i := 189) rfl)⟩
theorem lw_p116 : lw_okq (⟨"SameKeeperModel", "qTold", "(I)J"⟩, 92) := ⟨lw_ne8, lw_i8, tk_8 _ (List.mem_of_getElem? (i := 192) rfl), tk_8 _ (List.mem_of_getElem? (i := 193) rfl)⟩
theorem lw_p117 : lw_okq (⟨"SameKeeperModel", "qOf", "(IJI)J"⟩, 92) := ⟨lw_ne8, lw_i8, tk_8 _ (List.mem_of_getElem? (i := 196) rfl), tk_8 _ (List.mem_of_getElem? (i := 197) rfl)⟩
theorem lw_p118 : lw_okq (⟨"SameKeeperModel", "qTakes", "(IJI)V"⟩, 92) := ⟨lw_ne8, lw_i8, tk_8 _ (List.mem_of_getElem? (i := 200) rfl), tk_8 _ (List.mem_of_getElem? (i := 201) rfl)⟩
theorem lw_p119 : lw_okq (⟨"SameKeeperModel", "writes", "(I)V"⟩, 92) := ⟨lw_ne8, lw_i8, tk_8 _ (List.mem_of_getElem? (i := 208) rfl), tk_8 _ (List.mem_of_getElem? (i := 209) rfl)⟩
theorem lw_p120 : lw_okq (⟨"SameKeeperModel", "isImage", "(I)Z"⟩, 92) := ⟨lw_ne8, lw_i8, tk_8 _ (List.mem_of_getElem? (i := 223) rfl), tk_8 _ (List.mem_of_getElem? (i := 224) rfl)⟩
def lw_privs_8 : List (MethodName × Nat) := [(⟨"SameKeeperModel", "qFact", "()V"⟩, 92), (⟨"SameKeeperModel", "qDropsNots", "()V"⟩, 92), (⟨"SameKeeperModel", "qGoesOnTest", "()Z"⟩, 92), (⟨"SameKeeperModel", "qHasSquare", "()Z"⟩, 92), (⟨"SameKeeperModel", "qTold", "(I)J"⟩, 92), (⟨"SameKeeperModel", "qOf", "(IJI)J"⟩, 92), (⟨"SameKeeperModel", "qTakes", "(IJI)V"⟩, 92), (⟨"SameKeeperModel", "writes", "(I)V"⟩, 92), (⟨"SameKeeperModel", "isImage", "(I)Z"⟩, 92)]
theorem lw_r8 : ∀ q ∈ lw_privs_8, lw_okq q := List.forall_mem_cons.mpr ⟨lw_p112, List.forall_mem_cons.mpr ⟨lw_p113, List.forall_mem_cons.mpr ⟨lw_p114, List.forall_mem_cons.mpr ⟨lw_p115, List.forall_mem_cons.mpr ⟨lw_p116, List.forall_mem_cons.mpr ⟨lw_p117, List.forall_mem_cons.mpr ⟨lw_p118, List.forall_mem_cons.mpr ⟨lw_p119, List.forall_mem_cons.mpr ⟨lw_p120, fun _ h => absurd h List.not_mem_nil⟩⟩⟩⟩⟩⟩⟩⟩⟩
def lw_privs : List (MethodName × Nat) := lw_privs_1 ++ (lw_privs_2 ++ (lw_privs_3 ++ (lw_privs_4 ++ (lw_privs_5 ++ (lw_privs_6 ++ (lw_privs_7 ++ (lw_privs_8)))))))
def lw_tbl : List Cond := k2_sels lw_privs ++ tables_1
theorem lw_privs_ok : ∀ q ∈ lw_privs, lw_okq q := by
  show ∀ q ∈ lw_privs_1 ++ (lw_privs_2 ++ (lw_privs_3 ++ (lw_privs_4 ++ (lw_privs_5 ++ (lw_privs_6 ++ (lw_privs_7 ++ (lw_privs_8))))))), lw_okq q
  exact List.forall_mem_append.mpr ⟨lw_r1, List.forall_mem_append.mpr ⟨lw_r2, List.forall_mem_append.mpr ⟨lw_r3, List.forall_mem_append.mpr ⟨lw_r4, List.forall_mem_append.mpr ⟨lw_r5, List.forall_mem_append.mpr ⟨lw_r6, List.forall_mem_append.mpr ⟨lw_r7, lw_r8⟩⟩⟩⟩⟩⟩⟩
-- ===== end of PART A; then your names; then what follows =====
def RX0 : String := "SameKeeper$Code"
def TX0 : u_T := fun k => match k with
  | 0 => ("SameKeeper$Code", "steps", "[I", true)
  | 1 => ("SameKeeper$Code", "stack", "[J", true)
  | 2 => ("SameKeeper$Code", "names", "[J", true)
  | 3 => ("SameKeeper$Code", "counts", "[J", true)
  | 4 => ("SameKeeper$Code", "length", "I", false)
  | _ => ("SameKeeper$Code", "mindsWeek", "Z", false)
def tyX0 : Nat → FieldType := fun k => match k with
  | 0 => .array .int
  | 1 => .array .long
  | 2 => .array .long
  | 3 => .array .long
  | 4 => .int
  | _ => .boolean
theorem nmX0 : ∀ a, a < 6 → ∀ b, b < 6 → a ≠ b → (TX0 a).2.1 ≠ (TX0 b).2.1 := by decide +kernel
theorem tyX0_ok : ∀ k, k < 6 → parseFieldDescriptor (TX0 k).2.2.1 = some (tyX0 k) := by decide +kernel
abbrev cX0_init : ByteArray := prog_2_method_1_code
def yX0_init : MethodName := ⟨RX0, "<init>", "()V"⟩
abbrev cX0_clear : ByteArray := prog_2_method_2_code
def yX0_clear : MethodName := ⟨RX0, "clear", "()V"⟩
abbrev cX0_add : ByteArray := prog_2_method_3_code
def yX0_add : MethodName := ⟨RX0, "add", "(I)V"⟩
abbrev cX0_name : ByteArray := prog_2_method_4_code
def yX0_name : MethodName := ⟨RX0, "name", "(IJ)V"⟩
abbrev cX0_nameCount : ByteArray := prog_2_method_5_code
def yX0_nameCount : MethodName := ⟨RX0, "nameCount", "(IJ)V"⟩
abbrev cX0_run : ByteArray := prog_2_method_6_code
def yX0_run : MethodName := ⟨RX0, "run", "(II)J"⟩
abbrev cX0_ofOne : ByteArray := prog_2_method_7_code
def yX0_ofOne : MethodName := ⟨RX0, "ofOne", "(IJ)J"⟩
abbrev cX0_ofTwo : ByteArray := prog_2_method_8_code
def yX0_ofTwo : MethodName := ⟨RX0, "ofTwo", "(IJJ)J"⟩
abbrev cX0_bounded : ByteArray := prog_2_method_9_code
def yX0_bounded : MethodName := ⟨RX0, "bounded", "(J)J"⟩
def RX1 : String := "SameKeeper$Graph"
def TX1 : u_T := fun k => match k with
  | 0 => ("SameKeeper$Graph", "table", "LSameKeeper$Table;", true)
  | 1 => ("SameKeeper$Graph", "leads", "[I", true)
  | 2 => ("SameKeeper$Graph", "allowed", "[I", true)
  | 3 => ("SameKeeper$Graph", "live", "[I", true)
  | 4 => ("SameKeeper$Graph", "ways", "[J", true)
  | 5 => ("SameKeeper$Graph", "comings", "[J", true)
  | 6 => ("SameKeeper$Graph", "gains", "[J", true)
  | 7 => ("SameKeeper$Graph", "days", "I", false)
  | _ => ("SameKeeper$Graph", "start", "I", false)
def tyX1 : Nat → FieldType := fun k => match k with
  | 0 => .object "SameKeeper$Table"
  | 1 => .array .int
  | 2 => .array .int
  | 3 => .array .int
  | 4 => .array .long
  | 5 => .array .long
  | 6 => .array .long
  | 7 => .int
  | _ => .int
theorem nmX1 : ∀ a, a < 9 → ∀ b, b < 9 → a ≠ b → (TX1 a).2.1 ≠ (TX1 b).2.1 := by decide +kernel
theorem tyX1_ok : ∀ k, k < 9 → parseFieldDescriptor (TX1 k).2.2.1 = some (tyX1 k) := by decide +kernel
abbrev cX1_init : ByteArray := prog_3_method_1_code
def yX1_init : MethodName := ⟨RX1, "<init>", "(LSameKeeper$Table;)V"⟩
abbrev cX1_lay : ByteArray := prog_3_method_2_code
def yX1_lay : MethodName := ⟨RX1, "lay", "(LSameKeeper$State;II)V"⟩
abbrev cX1_allowOnly : ByteArray := prog_3_method_3_code
def yX1_allowOnly : MethodName := ⟨RX1, "allowOnly", "(II)V"⟩
abbrev cX1_settle : ByteArray := prog_3_method_4_code
def yX1_settle : MethodName := ⟨RX1, "settle", "()Z"⟩
abbrev cX1_next : ByteArray := prog_3_method_5_code
def yX1_next : MethodName := ⟨RX1, "next", "(II)I"⟩
abbrev cX1_moodsOf : ByteArray := prog_3_method_6_code
def yX1_moodsOf : MethodName := ⟨RX1, "moodsOf", "(I)I"⟩
abbrev cX1_takeFirst : ByteArray := prog_3_method_7_code
def yX1_takeFirst : MethodName := ⟨RX1, "takeFirst", "([I)V"⟩
abbrev cX1_countWays : ByteArray := prog_3_method_8_code
def yX1_countWays : MethodName := ⟨RX1, "countWays", "()J"⟩
abbrev cX1_countComings : ByteArray := prog_3_method_9_code
def yX1_countComings : MethodName := ⟨RX1, "countComings", "()V"⟩
abbrev cX1_timesOf : ByteArray := prog_3_method_10_code
def yX1_timesOf : MethodName := ⟨RX1, "timesOf", "(II)J"⟩
abbrev cX1_mostLeft : ByteArray := prog_3_method_11_code
def yX1_mostLeft : MethodName := ⟨RX1, "mostLeft", "(I)J"⟩
abbrev cX1_takeNumbered : ByteArray := prog_3_method_12_code
def yX1_takeNumbered : MethodName := ⟨RX1, "takeNumbered", "(J[I)V"⟩
abbrev cX1_bestPay : ByteArray := prog_3_method_13_code
def yX1_bestPay : MethodName := ⟨RX1, "bestPay", "()J"⟩
abbrev cX1_gainBy : ByteArray := prog_3_method_14_code
def yX1_gainBy : MethodName := ⟨RX1, "gainBy", "(II)J"⟩
abbrev cX1_takeBestPaid : ByteArray := prog_3_method_15_code
def yX1_takeBestPaid : MethodName := ⟨RX1, "takeBestPaid", "([I)V"⟩
def RX2 : String := "SameKeeper$Lock"
def TX2 : u_T := fun k => match k with
  | 0 => ("SameKeeper$Lock", "code", "LSameKeeper$Code;", true)
  | 1 => ("SameKeeper$Lock", "barge", "[I", true)
  | 2 => ("SameKeeper$Lock", "wet", "[I", true)
  | 3 => ("SameKeeper$Lock", "from", "[I", true)
  | 4 => ("SameKeeper$Lock", "to", "[I", true)
  | 5 => ("SameKeeper$Lock", "days", "I", false)
  | 6 => ("SameKeeper$Lock", "mood", "I", false)
  | 7 => ("SameKeeper$Lock", "mute", "I", false)
  | 8 => ("SameKeeper$Lock", "rain", "I", false)
  | _ => ("SameKeeper$Lock", "statements", "I", false)
def tyX2 : Nat → FieldType := fun k => match k with
  | 0 => .object "SameKeeper$Code"
  | 1 => .array .int
  | 2 => .array .int
  | 3 => .array .int
  | 4 => .array .int
  | 5 => .int
  | 6 => .int
  | 7 => .int
  | 8 => .int
  | _ => .int
theorem nmX2 : ∀ a, a < 10 → ∀ b, b < 10 → a ≠ b → (TX2 a).2.1 ≠ (TX2 b).2.1 := by decide +kernel
theorem tyX2_ok : ∀ k, k < 10 → parseFieldDescriptor (TX2 k).2.2.1 = some (tyX2 k) := by decide +kernel
abbrev cX2_init : ByteArray := prog_4_method_1_code
def yX2_init : MethodName := ⟨RX2, "<init>", "()V"⟩
abbrev cX2_clear : ByteArray := prog_4_method_2_code
def yX2_clear : MethodName := ⟨RX2, "clear", "()V"⟩
abbrev cX2_hasSum : ByteArray := prog_4_method_3_code
def yX2_hasSum : MethodName := ⟨RX2, "hasSum", "(I)Z"⟩
abbrev cX2_beginSum : ByteArray := prog_4_method_4_code
def yX2_beginSum : MethodName := ⟨RX2, "beginSum", "(I)V"⟩
abbrev cX2_endSum : ByteArray := prog_4_method_5_code
def yX2_endSum : MethodName := ⟨RX2, "endSum", "(I)V"⟩
abbrev cX2_addUntold : ByteArray := prog_4_method_6_code
def yX2_addUntold : MethodName := ⟨RX2, "addUntold", "()V"⟩
def RX3 : String := "SameKeeper$LockText"
def TX3 : u_T := fun k => match k with
  | 0 => ("SameKeeper$LockText", "reader", "LSameKeeper$Reader;", true)
  | 1 => ("SameKeeper$LockText", "ofMood", "LSameKeeper$Sums;", true)
  | _ => ("SameKeeper$LockText", "ofDeed", "LSameKeeper$Sums;", true)
def tyX3 : Nat → FieldType := fun k => match k with
  | 0 => .object "SameKeeper$Reader"
  | 1 => .object "SameKeeper$Sums"
  | _ => .object "SameKeeper$Sums"
theorem nmX3 : ∀ a, a < 3 → ∀ b, b < 3 → a ≠ b → (TX3 a).2.1 ≠ (TX3 b).2.1 := by decide +kernel
theorem tyX3_ok : ∀ k, k < 3 → parseFieldDescriptor (TX3 k).2.2.1 = some (tyX3 k) := by decide +kernel
abbrev cX3_init : ByteArray := prog_5_method_1_code
def yX3_init : MethodName := ⟨RX3, "<init>", "(LSameKeeper$Reader;)V"⟩
abbrev cX3_read : ByteArray := prog_5_method_2_code
def yX3_read : MethodName := ⟨RX3, "read", "(LSameKeeper$Lock;)V"⟩
abbrev cX3_readOpening : ByteArray := prog_5_method_3_code
def yX3_readOpening : MethodName := ⟨RX3, "readOpening", "(LSameKeeper$Lock;)V"⟩
abbrev cX3_readNumbers : ByteArray := prog_5_method_4_code
def yX3_readNumbers : MethodName := ⟨RX3, "readNumbers", "(LSameKeeper$Lock;)V"⟩
abbrev cX3_readSumOf : ByteArray := prog_5_method_5_code
def yX3_readSumOf : MethodName := ⟨RX3, "readSumOf", "(LSameKeeper$Lock;ILSameKeeper$Sums;)V"⟩
abbrev cX3_readAmount : ByteArray := prog_5_method_6_code
def yX3_readAmount : MethodName := ⟨RX3, "readAmount", "(LSameKeeper$Lock;[I)V"⟩
abbrev cX3_readMute : ByteArray := prog_5_method_7_code
def yX3_readMute : MethodName := ⟨RX3, "readMute", "(LSameKeeper$Lock;)V"⟩
def RX4 : String := "SameKeeper$Past"
def TX4 : u_T := fun k => match k with
  | 0 => ("SameKeeper$Past", "states", "[LSameKeeper$State;", true)
  | 1 => ("SameKeeper$Past", "acts", "I", false)
  | 2 => ("SameKeeper$Past", "weekOf", "[I", true)
  | 3 => ("SameKeeper$Past", "agreedOf", "[J", true)
  | _ => ("SameKeeper$Past", "moodOf", "[I", true)
def tyX4 : Nat → FieldType := fun k => match k with
  | 0 => .array (.object "SameKeeper$State")
  | 1 => .int
  | 2 => .array .int
  | 3 => .array .long
  | _ => .array .int
theorem nmX4 : ∀ a, a < 5 → ∀ b, b < 5 → a ≠ b → (TX4 a).2.1 ≠ (TX4 b).2.1 := by decide +kernel
theorem tyX4_ok : ∀ k, k < 5 → parseFieldDescriptor (TX4 k).2.2.1 = some (tyX4 k) := by decide +kernel
abbrev cX4_init : ByteArray := prog_6_method_1_code
def yX4_init : MethodName := ⟨RX4, "<init>", "()V"⟩
abbrev cX4_forget : ByteArray := prog_6_method_2_code
def yX4_forget : MethodName := ⟨RX4, "forget", "()V"⟩
abbrev cX4_save : ByteArray := prog_6_method_3_code
def yX4_save : MethodName := ⟨RX4, "save", "(LSameKeeper$State;)V"⟩
abbrev cX4_restore : ByteArray := prog_6_method_4_code
def yX4_restore : MethodName := ⟨RX4, "restore", "(LSameKeeper$State;)Z"⟩
abbrev cX4_keep : ByteArray := prog_6_method_5_code
def yX4_keep : MethodName := ⟨RX4, "keep", "(LSameKeeper$State;JI)V"⟩
abbrev cX4_toldOf : ByteArray := prog_6_method_6_code
def yX4_toldOf : MethodName := ⟨RX4, "toldOf", "(I)I"⟩
abbrev cX4_ofKept : ByteArray := prog_6_method_7_code
def yX4_ofKept : MethodName := ⟨RX4, "ofKept", "(II)J"⟩
def RX5 : String := "SameKeeper$Question"
def TX5 : u_T := fun k => match k with
  | 0 => ("SameKeeper$Question", "reader", "LSameKeeper$Reader;", true)
  | 1 => ("SameKeeper$Question", "sums", "LSameKeeper$Sums;", true)
  | 2 => ("SameKeeper$Question", "code", "LSameKeeper$Code;", true)
  | _ => ("SameKeeper$Question", "verb", "I", false)
def tyX5 : Nat → FieldType := fun k => match k with
  | 0 => .object "SameKeeper$Reader"
  | 1 => .object "SameKeeper$Sums"
  | 2 => .object "SameKeeper$Code"
  | _ => .int
theorem nmX5 : ∀ a, a < 4 → ∀ b, b < 4 → a ≠ b → (TX5 a).2.1 ≠ (TX5 b).2.1 := by decide +kernel
theorem tyX5_ok : ∀ k, k < 4 → parseFieldDescriptor (TX5 k).2.2.1 = some (tyX5 k) := by decide +kernel
abbrev cX5_init : ByteArray := prog_7_method_1_code
def yX5_init : MethodName := ⟨RX5, "<init>", "(LSameKeeper$Reader;)V"⟩
abbrev cX5_read : ByteArray := prog_7_method_2_code
def yX5_read : MethodName := ⟨RX5, "read", "()V"⟩
abbrev cX5_readTest : ByteArray := prog_7_method_3_code
def yX5_readTest : MethodName := ⟨RX5, "readTest", "()V"⟩
abbrev cX5_readBoth : ByteArray := prog_7_method_4_code
def yX5_readBoth : MethodName := ⟨RX5, "readBoth", "()V"⟩
abbrev cX5_readFact : ByteArray := prog_7_method_5_code
def yX5_readFact : MethodName := ⟨RX5, "readFact", "()V"⟩
abbrev cX5_stepOf : ByteArray := prog_7_method_6_code
def yX5_stepOf : MethodName := ⟨RX5, "stepOf", "(I)I"⟩
abbrev cX5_answer : ByteArray := prog_7_method_7_code
def yX5_answer : MethodName := ⟨RX5, "answer", "(LSameKeeper$State;LSameKeeper$Graph;[I)J"⟩
abbrev cX5_isOfDays : ByteArray := prog_7_method_8_code
def yX5_isOfDays : MethodName := ⟨RX5, "isOfDays", "()Z"⟩
abbrev cX5_nameDay : ByteArray := prog_7_method_9_code
def yX5_nameDay : MethodName := ⟨RX5, "nameDay", "(LSameKeeper$State;LSameKeeper$Graph;II)V"⟩
abbrev cX5_joined : ByteArray := prog_7_method_10_code
def yX5_joined : MethodName := ⟨RX5, "joined", "(JJI)J"⟩
def RX6 : String := "SameKeeper$Reader"
def TX6 : u_T := fun k => match k with
  | 0 => ("SameKeeper$Reader", "tape", "LSameKeeper$Tape;", true)
  | 1 => ("SameKeeper$Reader", "at", "I", false)
  | 2 => ("SameKeeper$Reader", "value", "I", false)
  | 3 => ("SameKeeper$Reader", "open", "I", false)
  | 4 => ("SameKeeper$Reader", "token", "I", false)
  | 5 => ("SameKeeper$Reader", "start", "I", false)
  | 6 => ("SameKeeper$Reader", "fault", "I", false)
  | _ => ("SameKeeper$Reader", "place", "I", false)
def tyX6 : Nat → FieldType := fun k => match k with
  | 0 => .object "SameKeeper$Tape"
  | 1 => .int
  | 2 => .int
  | 3 => .int
  | 4 => .int
  | 5 => .int
  | 6 => .int
  | _ => .int
theorem nmX6 : ∀ a, a < 8 → ∀ b, b < 8 → a ≠ b → (TX6 a).2.1 ≠ (TX6 b).2.1 := by decide +kernel
theorem tyX6_ok : ∀ k, k < 8 → parseFieldDescriptor (TX6 k).2.2.1 = some (tyX6 k) := by decide +kernel
abbrev cX6_init : ByteArray := prog_8_method_1_code
def yX6_init : MethodName := ⟨RX6, "<init>", "(LSameKeeper$Tape;)V"⟩
abbrev cX6_begin : ByteArray := prog_8_method_2_code
def yX6_begin : MethodName := ⟨RX6, "begin", "()V"⟩
abbrev cX6_fail : ByteArray := prog_8_method_3_code
def yX6_fail : MethodName := ⟨RX6, "fail", "(II)V"⟩
abbrev cX6_failHere : ByteArray := prog_8_method_4_code
def yX6_failHere : MethodName := ⟨RX6, "failHere", "()V"⟩
abbrev cX6_step : ByteArray := prog_8_method_5_code
def yX6_step : MethodName := ⟨RX6, "step", "()V"⟩
abbrev cX6_readWord : ByteArray := prog_8_method_6_code
def yX6_readWord : MethodName := ⟨RX6, "readWord", "()V"⟩
abbrev cX6_readNumber : ByteArray := prog_8_method_7_code
def yX6_readNumber : MethodName := ⟨RX6, "readNumber", "()V"⟩
abbrev cX6_takes : ByteArray := prog_8_method_8_code
def yX6_takes : MethodName := ⟨RX6, "takes", "(I)Z"⟩
abbrev cX6_needs : ByteArray := prog_8_method_9_code
def yX6_needs : MethodName := ⟨RX6, "needs", "(I)V"⟩
abbrev cX6_takeNumber : ByteArray := prog_8_method_10_code
def yX6_takeNumber : MethodName := ⟨RX6, "takeNumber", "(II)I"⟩
abbrev cX6_opens : ByteArray := prog_8_method_11_code
def yX6_opens : MethodName := ⟨RX6, "opens", "(I)Z"⟩
abbrev cX6_shuts : ByteArray := prog_8_method_12_code
def yX6_shuts : MethodName := ⟨RX6, "shuts", "()V"⟩
def RX7 : String := "SameKeeper$State"
def TX7 : u_T := fun k => match k with
  | 0 => ("SameKeeper$State", "barge", "[I", true)
  | 1 => ("SameKeeper$State", "wet", "[I", true)
  | 2 => ("SameKeeper$State", "days", "I", false)
  | 3 => ("SameKeeper$State", "week", "I", false)
  | 4 => ("SameKeeper$State", "mood", "I", false)
  | 5 => ("SameKeeper$State", "mute", "I", false)
  | _ => ("SameKeeper$State", "kept", "I", false)
def tyX7 : Nat → FieldType := fun k => match k with
  | 0 => .array .int
  | 1 => .array .int
  | 2 => .int
  | 3 => .int
  | 4 => .int
  | 5 => .int
  | _ => .int
theorem nmX7 : ∀ a, a < 7 → ∀ b, b < 7 → a ≠ b → (TX7 a).2.1 ≠ (TX7 b).2.1 := by decide +kernel
theorem tyX7_ok : ∀ k, k < 7 → parseFieldDescriptor (TX7 k).2.2.1 = some (tyX7 k) := by decide +kernel
abbrev cX7_init : ByteArray := prog_9_method_1_code
def yX7_init : MethodName := ⟨RX7, "<init>", "()V"⟩
abbrev cX7_begin : ByteArray := prog_9_method_2_code
def yX7_begin : MethodName := ⟨RX7, "begin", "(LSameKeeper$Lock;)V"⟩
abbrev cX7_copy : ByteArray := prog_9_method_3_code
def yX7_copy : MethodName := ⟨RX7, "copy", "(LSameKeeper$State;)V"⟩
abbrev cX7_isMute : ByteArray := prog_9_method_4_code
def yX7_isMute : MethodName := ⟨RX7, "isMute", "(I)Z"⟩
abbrev cX7_amount : ByteArray := prog_9_method_5_code
def yX7_amount : MethodName := ⟨RX7, "amount", "(II)I"⟩
abbrev cX7_put : ByteArray := prog_9_method_6_code
def yX7_put : MethodName := ⟨RX7, "put", "(III)V"⟩
def RX8 : String := "SameKeeper$Sums"
def TX8 : u_T := fun k => match k with
  | 0 => ("SameKeeper$Sums", "reader", "LSameKeeper$Reader;", true)
  | _ => ("SameKeeper$Sums", "kind", "I", true)
def tyX8 : Nat → FieldType := fun k => match k with
  | 0 => .object "SameKeeper$Reader"
  | _ => .int
theorem nmX8 : ∀ a, a < 2 → ∀ b, b < 2 → a ≠ b → (TX8 a).2.1 ≠ (TX8 b).2.1 := by decide +kernel
theorem tyX8_ok : ∀ k, k < 2 → parseFieldDescriptor (TX8 k).2.2.1 = some (tyX8 k) := by decide +kernel
abbrev cX8_init : ByteArray := prog_10_method_1_code
def yX8_init : MethodName := ⟨RX8, "<init>", "(LSameKeeper$Reader;I)V"⟩
abbrev cX8_read : ByteArray := prog_10_method_2_code
def yX8_read : MethodName := ⟨RX8, "read", "(LSameKeeper$Code;)V"⟩
abbrev cX8_readSum : ByteArray := prog_10_method_3_code
def yX8_readSum : MethodName := ⟨RX8, "readSum", "(LSameKeeper$Code;)V"⟩
abbrev cX8_readProduct : ByteArray := prog_10_method_4_code
def yX8_readProduct : MethodName := ⟨RX8, "readProduct", "(LSameKeeper$Code;)V"⟩
abbrev cX8_readPart : ByteArray := prog_10_method_5_code
def yX8_readPart : MethodName := ⟨RX8, "readPart", "(LSameKeeper$Code;)V"⟩
abbrev cX8_readPair : ByteArray := prog_10_method_6_code
def yX8_readPair : MethodName := ⟨RX8, "readPair", "(LSameKeeper$Code;I)V"⟩
abbrev cX8_nameInLock : ByteArray := prog_10_method_7_code
def yX8_nameInLock : MethodName := ⟨RX8, "nameInLock", "(I)I"⟩
abbrev cX8_nameInQuestion : ByteArray := prog_10_method_8_code
def yX8_nameInQuestion : MethodName := ⟨RX8, "nameInQuestion", "(I)I"⟩
def RX9 : String := "SameKeeper$Table"
def TX9 : u_T := fun k => match k with
  | 0 => ("SameKeeper$Table", "said", "[I", true)
  | 1 => ("SameKeeper$Table", "turned", "[I", true)
  | 2 => ("SameKeeper$Table", "alone", "[I", true)
  | 3 => ("SameKeeper$Table", "open", "[I", true)
  | 4 => ("SameKeeper$Table", "wages", "[J", true)
  | _ => ("SameKeeper$Table", "keys", "[I", true)
def tyX9 : Nat → FieldType := fun k => match k with
  | 0 => .array .int
  | 1 => .array .int
  | 2 => .array .int
  | 3 => .array .int
  | 4 => .array .long
  | _ => .array .int
theorem nmX9 : ∀ a, a < 6 → ∀ b, b < 6 → a ≠ b → (TX9 a).2.1 ≠ (TX9 b).2.1 := by decide +kernel
theorem tyX9_ok : ∀ k, k < 6 → parseFieldDescriptor (TX9 k).2.2.1 = some (tyX9 k) := by decide +kernel
abbrev cX9_init : ByteArray := prog_11_method_1_code
def yX9_init : MethodName := ⟨RX9, "<init>", "()V"⟩
abbrev cX9_forget : ByteArray := prog_11_method_2_code
def yX9_forget : MethodName := ⟨RX9, "forget", "()V"⟩
abbrev cX9_fit : ByteArray := prog_11_method_3_code
def yX9_fit : MethodName := ⟨RX9, "fit", "(LSameKeeper$Lock;LSameKeeper$State;)V"⟩
abbrev cX9_nameDay : ByteArray := prog_11_method_4_code
def yX9_nameDay : MethodName := ⟨RX9, "nameDay", "(LSameKeeper$Code;LSameKeeper$State;I)V"⟩
abbrev cX9_fillWords : ByteArray := prog_11_method_5_code
def yX9_fillWords : MethodName := ⟨RX9, "fillWords", "(LSameKeeper$Lock;I)V"⟩
abbrev cX9_fillDeeds : ByteArray := prog_11_method_6_code
def yX9_fillDeeds : MethodName := ⟨RX9, "fillDeeds", "(LSameKeeper$Lock;I)V"⟩
abbrev cX9_moodsBehind : ByteArray := prog_11_method_7_code
def yX9_moodsBehind : MethodName := ⟨RX9, "moodsBehind", "(III)I"⟩
abbrev cX9_moodsThatSay : ByteArray := prog_11_method_8_code
def yX9_moodsThatSay : MethodName := ⟨RX9, "moodsThatSay", "(II)I"⟩
def RX10 : String := "SameKeeper$Tape"
def TX10 : u_T := fun k => match k with
  | 0 => ("SameKeeper$Tape", "bytes", "[I", true)
  | _ => ("SameKeeper$Tape", "length", "I", false)
def tyX10 : Nat → FieldType := fun k => match k with
  | 0 => .array .int
  | _ => .int
theorem nmX10 : ∀ a, a < 2 → ∀ b, b < 2 → a ≠ b → (TX10 a).2.1 ≠ (TX10 b).2.1 := by decide +kernel
theorem tyX10_ok : ∀ k, k < 2 → parseFieldDescriptor (TX10 k).2.2.1 = some (tyX10 k) := by decide +kernel
abbrev cX10_init : ByteArray := prog_12_method_1_code
def yX10_init : MethodName := ⟨RX10, "<init>", "(I)V"⟩
abbrev cX10_add : ByteArray := prog_12_method_2_code
def yX10_add : MethodName := ⟨RX10, "add", "(I)V"⟩
abbrev cX10_addNumber : ByteArray := prog_12_method_3_code
def yX10_addNumber : MethodName := ⟨RX10, "addNumber", "(I)V"⟩
abbrev cX10_left : ByteArray := prog_12_method_4_code
def yX10_left : MethodName := ⟨RX10, "left", "(I)I"⟩
abbrev cX10_checkOf : ByteArray := prog_12_method_5_code
def yX10_checkOf : MethodName := ⟨RX10, "checkOf", "(I)I"⟩
def RX11 : String := "SameKeeper"
def TX11 : u_T := fun k => match k with
  | 0 => ("SameKeeper", "tape", "LSameKeeper$Tape;", true)
  | 1 => ("SameKeeper", "picture", "LSameKeeper$Tape;", true)
  | 2 => ("SameKeeper", "reader", "LSameKeeper$Reader;", true)
  | 3 => ("SameKeeper", "lockText", "LSameKeeper$LockText;", true)
  | 4 => ("SameKeeper", "question", "LSameKeeper$Question;", true)
  | 5 => ("SameKeeper", "held", "LSameKeeper$Lock;", false)
  | 6 => ("SameKeeper", "draft", "LSameKeeper$Lock;", false)
  | 7 => ("SameKeeper", "now", "LSameKeeper$State;", true)
  | 8 => ("SameKeeper", "trial", "LSameKeeper$State;", true)
  | 9 => ("SameKeeper", "past", "LSameKeeper$Past;", true)
  | 10 => ("SameKeeper", "table", "LSameKeeper$Table;", true)
  | 11 => ("SameKeeper", "graph", "LSameKeeper$Graph;", true)
  | 12 => ("SameKeeper", "row", "[I", true)
  | 13 => ("SameKeeper", "otherRow", "[I", true)
  | 14 => ("SameKeeper", "heardRows", "[I", true)
  | 15 => ("SameKeeper", "heardCount", "I", false)
  | 16 => ("SameKeeper", "refused", "[I", true)
  | _ => ("SameKeeper", "drawn", "J", false)
def tyX11 : Nat → FieldType := fun k => match k with
  | 0 => .object "SameKeeper$Tape"
  | 1 => .object "SameKeeper$Tape"
  | 2 => .object "SameKeeper$Reader"
  | 3 => .object "SameKeeper$LockText"
  | 4 => .object "SameKeeper$Question"
  | 5 => .object "SameKeeper$Lock"
  | 6 => .object "SameKeeper$Lock"
  | 7 => .object "SameKeeper$State"
  | 8 => .object "SameKeeper$State"
  | 9 => .object "SameKeeper$Past"
  | 10 => .object "SameKeeper$Table"
  | 11 => .object "SameKeeper$Graph"
  | 12 => .array .int
  | 13 => .array .int
  | 14 => .array .int
  | 15 => .int
  | 16 => .array .int
  | _ => .long
theorem nmX11 : ∀ a, a < 18 → ∀ b, b < 18 → a ≠ b → (TX11 a).2.1 ≠ (TX11 b).2.1 := by decide +kernel
theorem tyX11_ok : ∀ k, k < 18 → parseFieldDescriptor (TX11 k).2.2.1 = some (tyX11 k) := by decide +kernel
abbrev cX11_init : ByteArray := prog_1_method_1_code
def yX11_init : MethodName := ⟨RX11, "<init>", "()V"⟩
abbrev cX11_feed : ByteArray := prog_1_method_2_code
def yX11_feed : MethodName := ⟨RX11, "feed", "(IIIII)I"⟩
abbrev cX11_end : ByteArray := prog_1_method_3_code
def yX11_end : MethodName := ⟨RX11, "end", "(I)Z"⟩
abbrev cX11_lock : ByteArray := prog_1_method_4_code
def yX11_lock : MethodName := ⟨RX11, "lock", "()I"⟩
abbrev cX11_fault : ByteArray := prog_1_method_5_code
def yX11_fault : MethodName := ⟨RX11, "fault", "(I)I"⟩
abbrev cX11_has : ByteArray := prog_1_method_6_code
def yX11_has : MethodName := ⟨RX11, "has", "(I)I"⟩
abbrev cX11_day : ByteArray := prog_1_method_7_code
def yX11_day : MethodName := ⟨RX11, "day", "(II)I"⟩
abbrev cX11_told : ByteArray := prog_1_method_8_code
def yX11_told : MethodName := ⟨RX11, "told", "(II)I"⟩
abbrev cX11_does : ByteArray := prog_1_method_9_code
def yX11_does : MethodName := ⟨RX11, "does", "(III)I"⟩
abbrev cX11_kept : ByteArray := prog_1_method_10_code
def yX11_kept : MethodName := ⟨RX11, "kept", "(II)J"⟩
abbrev cX11_weeks : ByteArray := prog_1_method_11_code
def yX11_weeks : MethodName := ⟨RX11, "weeks", "()J"⟩
abbrev cX11_mood : ByteArray := prog_1_method_12_code
def yX11_mood : MethodName := ⟨RX11, "mood", "(II)I"⟩
abbrev cX11_many : ByteArray := prog_1_method_13_code
def yX11_many : MethodName := ⟨RX11, "many", "(II)J"⟩
abbrev cX11_hushed : ByteArray := prog_1_method_14_code
def yX11_hushed : MethodName := ⟨RX11, "hushed", "()I"⟩
abbrev cX11_wished : ByteArray := prog_1_method_15_code
def yX11_wished : MethodName := ⟨RX11, "wished", "(II)I"⟩
abbrev cX11_lies : ByteArray := prog_1_method_16_code
def yX11_lies : MethodName := ⟨RX11, "lies", "()I"⟩
abbrev cX11_later : ByteArray := prog_1_method_17_code
def yX11_later : MethodName := ⟨RX11, "later", "(I)I"⟩
abbrev cX11_ring : ByteArray := prog_1_method_18_code
def yX11_ring : MethodName := ⟨RX11, "ring", "()I"⟩
abbrev cX11_frees : ByteArray := prog_1_method_19_code
def yX11_frees : MethodName := ⟨RX11, "frees", "(II)I"⟩
abbrev cX11_pay : ByteArray := prog_1_method_20_code
def yX11_pay : MethodName := ⟨RX11, "pay", "()J"⟩
abbrev cX11_paid : ByteArray := prog_1_method_21_code
def yX11_paid : MethodName := ⟨RX11, "paid", "(I)I"⟩
abbrev cX11_rest : ByteArray := prog_1_method_22_code
def yX11_rest : MethodName := ⟨RX11, "rest", "()I"⟩
abbrev cX11_unlike : ByteArray := prog_1_method_23_code
def yX11_unlike : MethodName := ⟨RX11, "unlike", "(II)I"⟩
abbrev cX11_known : ByteArray := prog_1_method_24_code
def yX11_known : MethodName := ⟨RX11, "known", "(III)I"⟩
abbrev cX11_sure : ByteArray := prog_1_method_25_code
def yX11_sure : MethodName := ⟨RX11, "sure", "(II)I"⟩
abbrev cX11_hear : ByteArray := prog_1_method_26_code
def yX11_hear : MethodName := ⟨RX11, "hear", "()I"⟩
abbrev cX11_heard : ByteArray := prog_1_method_27_code
def yX11_heard : MethodName := ⟨RX11, "heard", "()J"⟩
abbrev cX11_tells : ByteArray := prog_1_method_28_code
def yX11_tells : MethodName := ⟨RX11, "tells", "(I)J"⟩
abbrev cX11_same : ByteArray := prog_1_method_29_code
def yX11_same : MethodName := ⟨RX11, "same", "(II)I"⟩
abbrev cX11_set : ByteArray := prog_1_method_30_code
def yX11_set : MethodName := ⟨RX11, "set", "(III)Z"⟩
abbrev cX11_mute : ByteArray := prog_1_method_31_code
def yX11_mute : MethodName := ⟨RX11, "mute", "(II)Z"⟩
abbrev cX11_go : ByteArray := prog_1_method_32_code
def yX11_go : MethodName := ⟨RX11, "go", "()I"⟩
abbrev cX11_chance : ByteArray := prog_1_method_33_code
def yX11_chance : MethodName := ⟨RX11, "chance", "(I)I"⟩
abbrev cX11_undo : ByteArray := prog_1_method_34_code
def yX11_undo : MethodName := ⟨RX11, "undo", "()Z"⟩
abbrev cX11_seed : ByteArray := prog_1_method_35_code
def yX11_seed : MethodName := ⟨RX11, "seed", "(I)Z"⟩
abbrev cX11_ask : ByteArray := prog_1_method_36_code
def yX11_ask : MethodName := ⟨RX11, "ask", "()J"⟩
abbrev cX11_image : ByteArray := prog_1_method_37_code
def yX11_image : MethodName := ⟨RX11, "image", "()I"⟩
abbrev cX11_octet : ByteArray := prog_1_method_38_code
def yX11_octet : MethodName := ⟨RX11, "octet", "(I)I"⟩
abbrev cX11_on : ByteArray := prog_1_method_39_code
def yX11_on : MethodName := ⟨RX11, "on", "()Z"⟩
abbrev cX11_status : ByteArray := prog_1_method_40_code
def yX11_status : MethodName := ⟨RX11, "status", "(I)I"⟩
abbrev cX11_refuse : ByteArray := prog_1_method_41_code
def yX11_refuse : MethodName := ⟨RX11, "refuse", "(I)I"⟩
abbrev cX11_refuseIt : ByteArray := prog_1_method_42_code
def yX11_refuseIt : MethodName := ⟨RX11, "refuseIt", "(I)Z"⟩
abbrev cX11_isLocked : ByteArray := prog_1_method_43_code
def yX11_isLocked : MethodName := ⟨RX11, "isLocked", "()Z"⟩
abbrev cX11_isDay : ByteArray := prog_1_method_44_code
def yX11_isDay : MethodName := ⟨RX11, "isDay", "(I)Z"⟩
abbrev cX11_isDigit : ByteArray := prog_1_method_45_code
def yX11_isDigit : MethodName := ⟨RX11, "isDigit", "(I)Z"⟩
abbrev cX11_isWordOf : ByteArray := prog_1_method_46_code
def yX11_isWordOf : MethodName := ⟨RX11, "isWordOf", "(II)Z"⟩
abbrev cX11_lookAt : ByteArray := prog_1_method_47_code
def yX11_lookAt : MethodName := ⟨RX11, "lookAt", "(LSameKeeper$State;)Z"⟩
abbrev cX11_lookByWord : ByteArray := prog_1_method_48_code
def yX11_lookByWord : MethodName := ⟨RX11, "lookByWord", "(II)Z"⟩
abbrev cX11_lookByHeard : ByteArray := prog_1_method_49_code
def yX11_lookByHeard : MethodName := ⟨RX11, "lookByHeard", "()Z"⟩
abbrev cX11_takeWeek : ByteArray := prog_1_method_50_code
def yX11_takeWeek : MethodName := ⟨RX11, "takeWeek", "(I[I)Z"⟩
abbrev cX11_stepAhead : ByteArray := prog_1_method_51_code
def yX11_stepAhead : MethodName := ⟨RX11, "stepAhead", "()Z"⟩
abbrev cX11_fewest : ByteArray := prog_1_method_52_code
def yX11_fewest : MethodName := ⟨RX11, "fewest", "(III)I"⟩
abbrev cX11_serves : ByteArray := prog_1_method_53_code
def yX11_serves : MethodName := ⟨RX11, "serves", "(IIII)Z"⟩
abbrev cX11_isAtRest : ByteArray := prog_1_method_54_code
def yX11_isAtRest : MethodName := ⟨RX11, "isAtRest", "(I)Z"⟩
abbrev cX11_pass : ByteArray := prog_1_method_55_code
def yX11_pass : MethodName := ⟨RX11, "pass", "(J)V"⟩
abbrev cX11_passByChance : ByteArray := prog_1_method_56_code
def yX11_passByChance : MethodName := ⟨RX11, "passByChance", "()Z"⟩
abbrev cX11_draw : ByteArray := prog_1_method_57_code
def yX11_draw : MethodName := ⟨RX11, "draw", "(J)J"⟩
abbrev cX11_tellsRows : ByteArray := prog_1_method_58_code
def yX11_tellsRows : MethodName := ⟨RX11, "tellsRows", "()Z"⟩
abbrev cX11_tellsImage : ByteArray := prog_1_method_59_code
def yX11_tellsImage : MethodName := ⟨RX11, "tellsImage", "()Z"⟩
def RX12 : String := "SameKeeperModel"
def TX12 : u_T := fun k => match k with
  | 0 => ("SameKeeperModel", "tape", "[I", true)
  | 1 => ("SameKeeperModel", "taped", "I", false)
  | 2 => ("SameKeeperModel", "at", "I", false)
  | 3 => ("SameKeeperModel", "end", "I", false)
  | 4 => ("SameKeeperModel", "ended", "I", false)
  | 5 => ("SameKeeperModel", "bad", "I", false)
  | 6 => ("SameKeeperModel", "badPlace", "I", false)
  | 7 => ("SameKeeperModel", "fault", "I", false)
  | 8 => ("SameKeeperModel", "faultPlace", "I", false)
  | 9 => ("SameKeeperModel", "refused", "[I", true)
  | 10 => ("SameKeeperModel", "numberPlace", "I", false)
  | 11 => ("SameKeeperModel", "lockWord", "[C", true)
  | 12 => ("SameKeeperModel", "fromWord", "[C", true)
  | 13 => ("SameKeeperModel", "bargeWord", "[C", true)
  | 14 => ("SameKeeperModel", "wetWord", "[C", true)
  | 15 => ("SameKeeperModel", "muteWord", "[C", true)
  | 16 => ("SameKeeperModel", "saysWord", "[C", true)
  | 17 => ("SameKeeperModel", "doesWord", "[C", true)
  | 18 => ("SameKeeperModel", "wageWord", "[C", true)
  | 19 => ("SameKeeperModel", "rainWord", "[C", true)
  | 20 => ("SameKeeperModel", "lock0", "[I", true)
  | 21 => ("SameKeeperModel", "days0", "[I", true)
  | 22 => ("SameKeeperModel", "rainTold", "I", false)
  | 23 => ("SameKeeperModel", "rain", "I", false)
  | 24 => ("SameKeeperModel", "codeFrom", "[I", true)
  | 25 => ("SameKeeperModel", "codeEnd", "[I", true)
  | 26 => ("SameKeeperModel", "codes", "[I", true)
  | 27 => ("SameKeeperModel", "coded", "I", false)
  | 28 => ("SameKeeperModel", "statements", "I", false)
  | 29 => ("SameKeeperModel", "isLock", "Z", false)
  | 30 => ("SameKeeperModel", "textKind", "I", false)
  | 31 => ("SameKeeperModel", "now", "[I", true)
  | 32 => ("SameKeeperModel", "aside", "[I", true)
  | 33 => ("SameKeeperModel", "askMood", "I", false)
  | 34 => ("SameKeeperModel", "askTold", "I", false)
  | 35 => ("SameKeeperModel", "askAlone", "I", false)
  | 36 => ("SameKeeperModel", "withWord", "[Z", true)
  | 37 => ("SameKeeperModel", "without", "[Z", true)
  | 38 => ("SameKeeperModel", "words", "[I", true)
  | 39 => ("SameKeeperModel", "muteToo", "I", false)
  | 40 => ("SameKeeperModel", "byHeard", "Z", false)
  | 41 => ("SameKeeperModel", "wordDay", "I", false)
  | 42 => ("SameKeeperModel", "wordTold", "I", false)
  | 43 => ("SameKeeperModel", "behind", "[J", true)
  | 44 => ("SameKeeperModel", "before", "[J", true)
  | 45 => ("SameKeeperModel", "ways", "J", false)
  | 46 => ("SameKeeperModel", "path", "[I", true)
  | 47 => ("SameKeeperModel", "isThought", "Z", false)
  | 48 => ("SameKeeperModel", "pays", "[J", true)
  | 49 => ("SameKeeperModel", "wages", "[J", true)
  | 50 => ("SameKeeperModel", "agrees0", "[Z", true)
  | 51 => ("SameKeeperModel", "other0", "[I", true)
  | 52 => ("SameKeeperModel", "rowMany", "I", false)
  | 53 => ("SameKeeperModel", "rows", "[I", true)
  | 54 => ("SameKeeperModel", "kept0", "[I", true)
  | 55 => ("SameKeeperModel", "undoable", "I", false)
  | 56 => ("SameKeeperModel", "newest", "I", false)
  | 57 => ("SameKeeperModel", "seeded", "J", false)
  | 58 => ("SameKeeperModel", "firstAsked", "[C", true)
  | 59 => ("SameKeeperModel", "lastAsked", "[C", true)
  | 60 => ("SameKeeperModel", "oftenAsked", "[C", true)
  | 61 => ("SameKeeperModel", "totalAsked", "[C", true)
  | 62 => ("SameKeeperModel", "mostAsked", "[C", true)
  | 63 => ("SameKeeperModel", "leastAsked", "[C", true)
  | 64 => ("SameKeeperModel", "notAsked", "[C", true)
  | 65 => ("SameKeeperModel", "andAsked", "[C", true)
  | 66 => ("SameKeeperModel", "orAsked", "[C", true)
  | 67 => ("SameKeeperModel", "allAsked", "[C", true)
  | 68 => ("SameKeeperModel", "minAsked", "[C", true)
  | 69 => ("SameKeeperModel", "maxAsked", "[C", true)
  | 70 => ("SameKeeperModel", "moodAsked", "[C", true)
  | 71 => ("SameKeeperModel", "bargeAsked", "[C", true)
  | 72 => ("SameKeeperModel", "wetAsked", "[C", true)
  | 73 => ("SameKeeperModel", "dayAsked", "[C", true)
  | 74 => ("SameKeeperModel", "weekAsked", "[C", true)
  | 75 => ("SameKeeperModel", "toldAsked", "[C", true)
  | 76 => ("SameKeeperModel", "aloneAsked", "[C", true)
  | 77 => ("SameKeeperModel", "numberAsked", "[C", true)
  | 78 => ("SameKeeperModel", "muteAsked", "[C", true)
  | 79 => ("SameKeeperModel", "weeksAsked", "[C", true)
  | 80 => ("SameKeeperModel", "qCodes", "[I", true)
  | 81 => ("SameKeeperModel", "qCoded", "I", false)
  | 82 => ("SameKeeperModel", "qWait", "[I", true)
  | 83 => ("SameKeeperModel", "qWaits", "I", false)
  | 84 => ("SameKeeperModel", "qOpened", "I", false)
  | 85 => ("SameKeeperModel", "qBase", "I", false)
  | 86 => ("SameKeeperModel", "qPile", "[J", true)
  | 87 => ("SameKeeperModel", "qPiled", "I", false)
  | 88 => ("SameKeeperModel", "qAnswer", "J", false)
  | 89 => ("SameKeeperModel", "qIsNew", "Z", false)
  | 90 => ("SameKeeperModel", "octet", "[I", true)
  | _ => ("SameKeeperModel", "octets", "I", false)
def tyX12 : Nat → FieldType := fun k => match k with
  | 0 => .array .int
  | 1 => .int
  | 2 => .int
  | 3 => .int
  | 4 => .int
  | 5 => .int
  | 6 => .int
  | 7 => .int
  | 8 => .int
  | 9 => .array .int
  | 10 => .int
  | 11 => .array .char
  | 12 => .array .char
  | 13 => .array .char
  | 14 => .array .char
  | 15 => .array .char
  | 16 => .array .char
  | 17 => .array .char
  | 18 => .array .char
  | 19 => .array .char
  | 20 => .array .int
  | 21 => .array .int
  | 22 => .int
  | 23 => .int
  | 24 => .array .int
  | 25 => .array .int
  | 26 => .array .int
  | 27 => .int
  | 28 => .int
  | 29 => .boolean
  | 30 => .int
  | 31 => .array .int
  | 32 => .array .int
  | 33 => .int
  | 34 => .int
  | 35 => .int
  | 36 => .array .boolean
  | 37 => .array .boolean
  | 38 => .array .int
  | 39 => .int
  | 40 => .boolean
  | 41 => .int
  | 42 => .int
  | 43 => .array .long
  | 44 => .array .long
  | 45 => .long
  | 46 => .array .int
  | 47 => .boolean
  | 48 => .array .long
  | 49 => .array .long
  | 50 => .array .boolean
  | 51 => .array .int
  | 52 => .int
  | 53 => .array .int
  | 54 => .array .int
  | 55 => .int
  | 56 => .int
  | 57 => .long
  | 58 => .array .char
  | 59 => .array .char
  | 60 => .array .char
  | 61 => .array .char
  | 62 => .array .char
  | 63 => .array .char
  | 64 => .array .char
  | 65 => .array .char
  | 66 => .array .char
  | 67 => .array .char
  | 68 => .array .char
  | 69 => .array .char
  | 70 => .array .char
  | 71 => .array .char
  | 72 => .array .char
  | 73 => .array .char
  | 74 => .array .char
  | 75 => .array .char
  | 76 => .array .char
  | 77 => .array .char
  | 78 => .array .char
  | 79 => .array .char
  | 80 => .array .int
  | 81 => .int
  | 82 => .array .int
  | 83 => .int
  | 84 => .int
  | 85 => .int
  | 86 => .array .long
  | 87 => .int
  | 88 => .long
  | 89 => .boolean
  | 90 => .array .int
  | _ => .int
theorem nmX12 : ∀ a, a < 92 → ∀ b, b < 92 → a ≠ b → (TX12 a).2.1 ≠ (TX12 b).2.1 := by decide +kernel
theorem tyX12_ok : ∀ k, k < 92 → parseFieldDescriptor (TX12 k).2.2.1 = some (tyX12 k) := by decide +kernel
abbrev cX12_init : ByteArray := prog_14_method_1_code
def yX12_init : MethodName := ⟨RX12, "<init>", "()V"⟩
abbrev cX12_isIn : ByteArray := prog_14_method_2_code
def yX12_isIn : MethodName := ⟨RX12, "isIn", "(JJJ)Z"⟩
abbrev cX12_feed : ByteArray := prog_14_method_3_code
def yX12_feed : MethodName := ⟨RX12, "feed", "(IIIII)I"⟩
abbrev cX12_end : ByteArray := prog_14_method_4_code
def yX12_end : MethodName := ⟨RX12, "end", "(I)Z"⟩
abbrev cX12_fail : ByteArray := prog_14_method_5_code
def yX12_fail : MethodName := ⟨RX12, "fail", "(II)V"⟩
abbrev cX12_isLetter : ByteArray := prog_14_method_6_code
def yX12_isLetter : MethodName := ⟨RX12, "isLetter", "(I)Z"⟩
abbrev cX12_isDigit : ByteArray := prog_14_method_7_code
def yX12_isDigit : MethodName := ⟨RX12, "isDigit", "(I)Z"⟩
abbrev cX12_look : ByteArray := prog_14_method_8_code
def yX12_look : MethodName := ⟨RX12, "look", "()I"⟩
abbrev cX12_isHere : ByteArray := prog_14_method_9_code
def yX12_isHere : MethodName := ⟨RX12, "isHere", "([C)Z"⟩
abbrev cX12_takes : ByteArray := prog_14_method_10_code
def yX12_takes : MethodName := ⟨RX12, "takes", "([C)Z"⟩
abbrev cX12_asks : ByteArray := prog_14_method_11_code
def yX12_asks : MethodName := ⟨RX12, "asks", "([C)V"⟩
abbrev cX12_takesSign : ByteArray := prog_14_method_12_code
def yX12_takesSign : MethodName := ⟨RX12, "takesSign", "(I)Z"⟩
abbrev cX12_asksSign : ByteArray := prog_14_method_13_code
def yX12_asksSign : MethodName := ⟨RX12, "asksSign", "(I)V"⟩
abbrev cX12_number : ByteArray := prog_14_method_14_code
def yX12_number : MethodName := ⟨RX12, "number", "(II)I"⟩
abbrev cX12_isAllowed : ByteArray := prog_14_method_15_code
def yX12_isAllowed : MethodName := ⟨RX12, "isAllowed", "(I)Z"⟩
abbrev cX12_lockTold : ByteArray := prog_14_method_16_code
def yX12_lockTold : MethodName := ⟨RX12, "lockTold", "()V"⟩
abbrev cX12_dayTold : ByteArray := prog_14_method_17_code
def yX12_dayTold : MethodName := ⟨RX12, "dayTold", "(I)V"⟩
abbrev cX12_muteTold : ByteArray := prog_14_method_18_code
def yX12_muteTold : MethodName := ⟨RX12, "muteTold", "()V"⟩
abbrev cX12_codesTold : ByteArray := prog_14_method_19_code
def yX12_codesTold : MethodName := ⟨RX12, "codesTold", "(II)V"⟩
abbrev cX12_statementTold : ByteArray := prog_14_method_20_code
def yX12_statementTold : MethodName := ⟨RX12, "statementTold", "()V"⟩
abbrev cX12_lock : ByteArray := prog_14_method_21_code
def yX12_lock : MethodName := ⟨RX12, "lock", "()I"⟩
abbrev cX12_stands : ByteArray := prog_14_method_22_code
def yX12_stands : MethodName := ⟨RX12, "stands", "()V"⟩
abbrev cX12_fault : ByteArray := prog_14_method_23_code
def yX12_fault : MethodName := ⟨RX12, "fault", "(I)I"⟩
abbrev cX12_dayMany : ByteArray := prog_14_method_24_code
def yX12_dayMany : MethodName := ⟨RX12, "dayMany", "()I"⟩
abbrev cX12_isDay : ByteArray := prog_14_method_25_code
def yX12_isDay : MethodName := ⟨RX12, "isDay", "(I)Z"⟩
abbrev cX12_isMood : ByteArray := prog_14_method_26_code
def yX12_isMood : MethodName := ⟨RX12, "isMood", "(I)Z"⟩
abbrev cX12_bargeOf : ByteArray := prog_14_method_27_code
def yX12_bargeOf : MethodName := ⟨RX12, "bargeOf", "(I)I"⟩
abbrev cX12_wetOf : ByteArray := prog_14_method_28_code
def yX12_wetOf : MethodName := ⟨RX12, "wetOf", "(I)I"⟩
abbrev cX12_isMute : ByteArray := prog_14_method_29_code
def yX12_isMute : MethodName := ⟨RX12, "isMute", "(I)Z"⟩
abbrev cX12_codesTell : ByteArray := prog_14_method_30_code
def yX12_codesTell : MethodName := ⟨RX12, "codesTell", "(II)J"⟩
abbrev cX12_byTen : ByteArray := prog_14_method_31_code
def yX12_byTen : MethodName := ⟨RX12, "byTen", "(J)I"⟩
abbrev cX12_wordOf : ByteArray := prog_14_method_32_code
def yX12_wordOf : MethodName := ⟨RX12, "wordOf", "(II)I"⟩
abbrev cX12_becomesBy : ByteArray := prog_14_method_33_code
def yX12_becomesBy : MethodName := ⟨RX12, "becomesBy", "(IIIZ)I"⟩
abbrev cX12_wageOf : ByteArray := prog_14_method_34_code
def yX12_wageOf : MethodName := ⟨RX12, "wageOf", "(II)J"⟩
abbrev cX12_laysDays : ByteArray := prog_14_method_35_code
def yX12_laysDays : MethodName := ⟨RX12, "laysDays", "(I)V"⟩
abbrev cX12_isMuteNow : ByteArray := prog_14_method_36_code
def yX12_isMuteNow : MethodName := ⟨RX12, "isMuteNow", "(I)Z"⟩
abbrev cX12_isLeft : ByteArray := prog_14_method_37_code
def yX12_isLeft : MethodName := ⟨RX12, "isLeft", "(II)Z"⟩
abbrev cX12_canFollow : ByteArray := prog_14_method_38_code
def yX12_canFollow : MethodName := ⟨RX12, "canFollow", "(III)Z"⟩
abbrev cX12_laysWays : ByteArray := prog_14_method_39_code
def yX12_laysWays : MethodName := ⟨RX12, "laysWays", "()V"⟩
abbrev cX12_laysAll : ByteArray := prog_14_method_40_code
def yX12_laysAll : MethodName := ⟨RX12, "laysAll", "()V"⟩
abbrev cX12_walksTo : ByteArray := prog_14_method_41_code
def yX12_walksTo : MethodName := ⟨RX12, "walksTo", "(J)V"⟩
abbrev cX12_doesAgree : ByteArray := prog_14_method_42_code
def yX12_doesAgree : MethodName := ⟨RX12, "doesAgree", "(I)Z"⟩
abbrev cX12_isKept : ByteArray := prog_14_method_43_code
def yX12_isKept : MethodName := ⟨RX12, "isKept", "()V"⟩
abbrev cX12_goesBy : ByteArray := prog_14_method_44_code
def yX12_goesBy : MethodName := ⟨RX12, "goesBy", "(J)V"⟩
abbrev cX12_doGo : ByteArray := prog_14_method_45_code
def yX12_doGo : MethodName := ⟨RX12, "doGo", "()Z"⟩
abbrev cX12_putsAside : ByteArray := prog_14_method_46_code
def yX12_putsAside : MethodName := ⟨RX12, "putsAside", "()V"⟩
abbrev cX12_takesBack : ByteArray := prog_14_method_47_code
def yX12_takesBack : MethodName := ⟨RX12, "takesBack", "()V"⟩
abbrev cX12_isAhead : ByteArray := prog_14_method_48_code
def yX12_isAhead : MethodName := ⟨RX12, "isAhead", "(III)Z"⟩
abbrev cX12_bits : ByteArray := prog_14_method_49_code
def yX12_bits : MethodName := ⟨RX12, "bits", "(I)I"⟩
abbrev cX12_muteSet : ByteArray := prog_14_method_50_code
def yX12_muteSet : MethodName := ⟨RX12, "muteSet", "()I"⟩
abbrev cX12_has : ByteArray := prog_14_method_51_code
def yX12_has : MethodName := ⟨RX12, "has", "(I)I"⟩
abbrev cX12_day : ByteArray := prog_14_method_52_code
def yX12_day : MethodName := ⟨RX12, "day", "(II)I"⟩
abbrev cX12_told : ByteArray := prog_14_method_53_code
def yX12_told : MethodName := ⟨RX12, "told", "(II)I"⟩
abbrev cX12_does : ByteArray := prog_14_method_54_code
def yX12_does : MethodName := ⟨RX12, "does", "(III)I"⟩
abbrev cX12_kept : ByteArray := prog_14_method_55_code
def yX12_kept : MethodName := ⟨RX12, "kept", "(II)J"⟩
abbrev cX12_weeks : ByteArray := prog_14_method_56_code
def yX12_weeks : MethodName := ⟨RX12, "weeks", "()J"⟩
abbrev cX12_mood : ByteArray := prog_14_method_57_code
def yX12_mood : MethodName := ⟨RX12, "mood", "(II)I"⟩
abbrev cX12_many : ByteArray := prog_14_method_58_code
def yX12_many : MethodName := ⟨RX12, "many", "(II)J"⟩
abbrev cX12_hushed : ByteArray := prog_14_method_59_code
def yX12_hushed : MethodName := ⟨RX12, "hushed", "()I"⟩
abbrev cX12_wished : ByteArray := prog_14_method_60_code
def yX12_wished : MethodName := ⟨RX12, "wished", "(II)I"⟩
abbrev cX12_lies : ByteArray := prog_14_method_61_code
def yX12_lies : MethodName := ⟨RX12, "lies", "()I"⟩
abbrev cX12_later : ByteArray := prog_14_method_62_code
def yX12_later : MethodName := ⟨RX12, "later", "(I)I"⟩
abbrev cX12_ring : ByteArray := prog_14_method_63_code
def yX12_ring : MethodName := ⟨RX12, "ring", "()I"⟩
abbrev cX12_frees : ByteArray := prog_14_method_64_code
def yX12_frees : MethodName := ⟨RX12, "frees", "(II)I"⟩
abbrev cX12_laysPay : ByteArray := prog_14_method_65_code
def yX12_laysPay : MethodName := ⟨RX12, "laysPay", "()V"⟩
abbrev cX12_bestBehind : ByteArray := prog_14_method_66_code
def yX12_bestBehind : MethodName := ⟨RX12, "bestBehind", "(II)I"⟩
abbrev cX12_pay : ByteArray := prog_14_method_67_code
def yX12_pay : MethodName := ⟨RX12, "pay", "()J"⟩
abbrev cX12_paid : ByteArray := prog_14_method_68_code
def yX12_paid : MethodName := ⟨RX12, "paid", "(I)I"⟩
abbrev cX12_laysRest : ByteArray := prog_14_method_69_code
def yX12_laysRest : MethodName := ⟨RX12, "laysRest", "()V"⟩
abbrev cX12_isRest : ByteArray := prog_14_method_70_code
def yX12_isRest : MethodName := ⟨RX12, "isRest", "(I)Z"⟩
abbrev cX12_rest : ByteArray := prog_14_method_71_code
def yX12_rest : MethodName := ⟨RX12, "rest", "()I"⟩
abbrev cX12_unlike : ByteArray := prog_14_method_72_code
def yX12_unlike : MethodName := ⟨RX12, "unlike", "(II)I"⟩
abbrev cX12_laysByWord : ByteArray := prog_14_method_73_code
def yX12_laysByWord : MethodName := ⟨RX12, "laysByWord", "(II)V"⟩
abbrev cX12_moodsOf : ByteArray := prog_14_method_74_code
def yX12_moodsOf : MethodName := ⟨RX12, "moodsOf", "(I)I"⟩
abbrev cX12_canBeTold : ByteArray := prog_14_method_75_code
def yX12_canBeTold : MethodName := ⟨RX12, "canBeTold", "(II)Z"⟩
abbrev cX12_known : ByteArray := prog_14_method_76_code
def yX12_known : MethodName := ⟨RX12, "known", "(III)I"⟩
abbrev cX12_sure : ByteArray := prog_14_method_77_code
def yX12_sure : MethodName := ⟨RX12, "sure", "(II)I"⟩
abbrev cX12_refuses : ByteArray := prog_14_method_78_code
def yX12_refuses : MethodName := ⟨RX12, "refuses", "(I)I"⟩
abbrev cX12_hear : ByteArray := prog_14_method_79_code
def yX12_hear : MethodName := ⟨RX12, "hear", "()I"⟩
abbrev cX12_laysHeard : ByteArray := prog_14_method_80_code
def yX12_laysHeard : MethodName := ⟨RX12, "laysHeard", "()V"⟩
abbrev cX12_heard : ByteArray := prog_14_method_81_code
def yX12_heard : MethodName := ⟨RX12, "heard", "()J"⟩
abbrev cX12_tells : ByteArray := prog_14_method_82_code
def yX12_tells : MethodName := ⟨RX12, "tells", "(I)J"⟩
abbrev cX12_same : ByteArray := prog_14_method_83_code
def yX12_same : MethodName := ⟨RX12, "same", "(II)I"⟩
abbrev cX12_keeps : ByteArray := prog_14_method_84_code
def yX12_keeps : MethodName := ⟨RX12, "keeps", "()V"⟩
abbrev cX12_undo : ByteArray := prog_14_method_85_code
def yX12_undo : MethodName := ⟨RX12, "undo", "()Z"⟩
abbrev cX12_becomes : ByteArray := prog_14_method_86_code
def yX12_becomes : MethodName := ⟨RX12, "becomes", "(IIIZ)Z"⟩
abbrev cX12_set : ByteArray := prog_14_method_87_code
def yX12_set : MethodName := ⟨RX12, "set", "(III)Z"⟩
abbrev cX12_mute : ByteArray := prog_14_method_88_code
def yX12_mute : MethodName := ⟨RX12, "mute", "(II)Z"⟩
abbrev cX12_go : ByteArray := prog_14_method_89_code
def yX12_go : MethodName := ⟨RX12, "go", "()I"⟩
abbrev cX12_seed : ByteArray := prog_14_method_90_code
def yX12_seed : MethodName := ⟨RX12, "seed", "(I)Z"⟩
abbrev cX12_drawOf : ByteArray := prog_14_method_91_code
def yX12_drawOf : MethodName := ⟨RX12, "drawOf", "(J)J"⟩
abbrev cX12_drawsDays : ByteArray := prog_14_method_92_code
def yX12_drawsDays : MethodName := ⟨RX12, "drawsDays", "()V"⟩
abbrev cX12_chance : ByteArray := prog_14_method_93_code
def yX12_chance : MethodName := ⟨RX12, "chance", "(I)I"⟩
abbrev cX12_qCode : ByteArray := prog_14_method_94_code
def yX12_qCode : MethodName := ⟨RX12, "qCode", "(I)V"⟩
abbrev cX12_qOpens : ByteArray := prog_14_method_95_code
def yX12_qOpens : MethodName := ⟨RX12, "qOpens", "(II)V"⟩
abbrev cX12_qIsOn : ByteArray := prog_14_method_96_code
def yX12_qIsOn : MethodName := ⟨RX12, "qIsOn", "(I)Z"⟩
abbrev cX12_qDrops : ByteArray := prog_14_method_97_code
def yX12_qDrops : MethodName := ⟨RX12, "qDrops", "()V"⟩
abbrev cX12_qIsBracket : ByteArray := prog_14_method_98_code
def yX12_qIsBracket : MethodName := ⟨RX12, "qIsBracket", "(I)Z"⟩
abbrev cX12_qBracket : ByteArray := prog_14_method_99_code
def yX12_qBracket : MethodName := ⟨RX12, "qBracket", "()I"⟩
abbrev cX12_qDropsToBracket : ByteArray := prog_14_method_100_code
def yX12_qDropsToBracket : MethodName := ⟨RX12, "qDropsToBracket", "()V"⟩
abbrev cX12_qWordHere : ByteArray := prog_14_method_101_code
def yX12_qWordHere : MethodName := ⟨RX12, "qWordHere", "()I"⟩
abbrev cX12_qWordOf : ByteArray := prog_14_method_102_code
def yX12_qWordOf : MethodName := ⟨RX12, "qWordOf", "(II)I"⟩
abbrev cX12_qAsksWord : ByteArray := prog_14_method_103_code
def yX12_qAsksWord : MethodName := ⟨RX12, "qAsksWord", "(I)V"⟩
abbrev cX12_qEndsPart : ByteArray := prog_14_method_104_code
def yX12_qEndsPart : MethodName := ⟨RX12, "qEndsPart", "()V"⟩
abbrev cX12_qPartTold : ByteArray := prog_14_method_105_code
def yX12_qPartTold : MethodName := ⟨RX12, "qPartTold", "()V"⟩
abbrev cX12_qGoesOn : ByteArray := prog_14_method_106_code
def yX12_qGoesOn : MethodName := ⟨RX12, "qGoesOn", "()Z"⟩
abbrev cX12_qSums : ByteArray := prog_14_method_107_code
def yX12_qSums : MethodName := ⟨RX12, "qSums", "()V"⟩
abbrev cX12_qFact : ByteArray := prog_14_method_108_code
def yX12_qFact : MethodName := ⟨RX12, "qFact", "()V"⟩
abbrev cX12_qHasSquare : ByteArray := prog_14_method_109_code
def yX12_qHasSquare : MethodName := ⟨RX12, "qHasSquare", "()Z"⟩
abbrev cX12_qDropsNots : ByteArray := prog_14_method_110_code
def yX12_qDropsNots : MethodName := ⟨RX12, "qDropsNots", "()V"⟩
abbrev cX12_qTest : ByteArray := prog_14_method_111_code
def yX12_qTest : MethodName := ⟨RX12, "qTest", "()V"⟩
abbrev cX12_qGoesOnTest : ByteArray := prog_14_method_112_code
def yX12_qGoesOnTest : MethodName := ⟨RX12, "qGoesOnTest", "()Z"⟩
abbrev cX12_qClip : ByteArray := prog_14_method_113_code
def yX12_qClip : MethodName := ⟨RX12, "qClip", "(J)J"⟩
abbrev cX12_qFloor : ByteArray := prog_14_method_114_code
def yX12_qFloor : MethodName := ⟨RX12, "qFloor", "(JJ)J"⟩
abbrev cX12_qPuts : ByteArray := prog_14_method_115_code
def yX12_qPuts : MethodName := ⟨RX12, "qPuts", "(J)V"⟩
abbrev cX12_qJoins : ByteArray := prog_14_method_116_code
def yX12_qJoins : MethodName := ⟨RX12, "qJoins", "(I)V"⟩
abbrev cX12_qPartOf : ByteArray := prog_14_method_117_code
def yX12_qPartOf : MethodName := ⟨RX12, "qPartOf", "(II)J"⟩
abbrev cX12_qOf : ByteArray := prog_14_method_118_code
def yX12_qOf : MethodName := ⟨RX12, "qOf", "(IJI)J"⟩
abbrev cX12_qTold : ByteArray := prog_14_method_119_code
def yX12_qTold : MethodName := ⟨RX12, "qTold", "(I)J"⟩
abbrev cX12_qKind : ByteArray := prog_14_method_120_code
def yX12_qKind : MethodName := ⟨RX12, "qKind", "()I"⟩
abbrev cX12_qTakes : ByteArray := prog_14_method_121_code
def yX12_qTakes : MethodName := ⟨RX12, "qTakes", "(IJI)V"⟩
abbrev cX12_ask : ByteArray := prog_14_method_122_code
def yX12_ask : MethodName := ⟨RX12, "ask", "()J"⟩
abbrev cX12_checked : ByteArray := prog_14_method_123_code
def yX12_checked : MethodName := ⟨RX12, "checked", "([II)I"⟩
abbrev cX12_writes : ByteArray := prog_14_method_124_code
def yX12_writes : MethodName := ⟨RX12, "writes", "(I)V"⟩
abbrev cX12_image : ByteArray := prog_14_method_125_code
def yX12_image : MethodName := ⟨RX12, "image", "()I"⟩
abbrev cX12_octet : ByteArray := prog_14_method_126_code
def yX12_octet : MethodName := ⟨RX12, "octet", "(I)I"⟩
abbrev cX12_isImage : ByteArray := prog_14_method_127_code
def yX12_isImage : MethodName := ⟨RX12, "isImage", "(I)Z"⟩
abbrev cX12_on : ByteArray := prog_14_method_128_code
def yX12_on : MethodName := ⟨RX12, "on", "()Z"⟩
abbrev cX12_status : ByteArray := prog_14_method_129_code
def yX12_status : MethodName := ⟨RX12, "status", "(I)I"⟩
def RJ6 : String := "java/lang/Integer"
abbrev cJ6_numberOfTrailingZeros_0f7a4 : ByteArray := prog_15_method_48_code
def yJ6_numberOfTrailingZeros_0f7a4 : MethodName := ⟨RJ6, "numberOfTrailingZeros", "(I)I"⟩
abbrev cJ6_bitCount_0f7a4 : ByteArray := prog_15_method_49_code
def yJ6_bitCount_0f7a4 : MethodName := ⟨RJ6, "bitCount", "(I)I"⟩
def RJ9 : String := "java/lang/Math"
abbrev cJ9_floorDiv_f86c9 : ByteArray := prog_16_method_49_code
def yJ9_floorDiv_f86c9 : MethodName := ⟨RJ9, "floorDiv", "(JJ)J"⟩
abbrev cJ9_floorMod_1978a : ByteArray := prog_16_method_51_code
def yJ9_floorMod_1978a : MethodName := ⟨RJ9, "floorMod", "(JI)I"⟩
abbrev cJ9_floorMod_f86c9 : ByteArray := prog_16_method_52_code
def yJ9_floorMod_f86c9 : MethodName := ⟨RJ9, "floorMod", "(JJ)J"⟩
def RJ0 : String := "java/lang/String"
abbrev cJ0_length_8abf5 : ByteArray := prog_17_method_54_code
def yJ0_length_8abf5 : MethodName := ⟨RJ0, "length", "()I"⟩
abbrev cJ0_charAt_5068e : ByteArray := prog_17_method_56_code
def yJ0_charAt_5068e : MethodName := ⟨RJ0, "charAt", "(I)C"⟩
abbrev cJ0_coder_7d493 : ByteArray := prog_17_method_152_code
def yJ0_coder_7d493 : MethodName := ⟨RJ0, "coder", "()B"⟩
abbrev cJ0_isLatin1_aae02 : ByteArray := prog_17_method_154_code
def yJ0_isLatin1_aae02 : MethodName := ⟨RJ0, "isLatin1", "()Z"⟩
abbrev cJ0_checkIndex_df160 : ByteArray := prog_17_method_155_code
def yJ0_checkIndex_df160 : MethodName := ⟨RJ0, "checkIndex", "(II)V"⟩
def RJ1 : String := "java/lang/StringLatin1"
abbrev cJ1_charAt_3b067 : ByteArray := prog_18_method_2_code
def yJ1_charAt_3b067 : MethodName := ⟨RJ1, "charAt", "([BI)C"⟩
def RJ7 : String := "java/util/Arrays"
abbrev cJ7_fill_d0a16 : ByteArray := prog_21_method_101_code
def yJ7_fill_d0a16 : MethodName := ⟨RJ7, "fill", "([JJ)V"⟩
abbrev cJ7_fill_53178 : ByteArray := prog_21_method_103_code
def yJ7_fill_53178 : MethodName := ⟨RJ7, "fill", "([II)V"⟩
def RJ3 : String := "jdk/internal/util/Preconditions"
abbrev cJ3_checkIndex_8e157 : ByteArray := prog_22_method_11_code
def yJ3_checkIndex_8e157 : MethodName := ⟨RJ3, "checkIndex", "(IILjava/util/function/BiFunction;)I"⟩
def RL : String := "SameKeeperLaw"
abbrev cL_law : ByteArray := code
abbrev vwCl : List vw_C := [(RX0, TX0, 6), (RX1, TX1, 9), (RX2, TX2, 10), (RX3, TX3, 3), (RX4, TX4, 5), (RX5, TX5, 4), (RX6, TX6, 8), (RX7, TX7, 7), (RX8, TX8, 2), (RX9, TX9, 6), (RX10, TX10, 2), (RX11, TX11, 18), (RX12, TX12, 92)]
/-- the words that all contracts stand on: those of the tables that outlast a call -/
def wsL_law : List Cond := lw_tbl.filter goodWord
theorem wsL_law_in : ∀ w ∈ wsL_law, w ∈ lw_tbl := fun _ h => (List.mem_filter.mp h).1
theorem sk_mem {w : Cond} (h : w ∈ lw_tbl) (g : goodWord w = true) : w ∈ wsL_law := List.mem_filter.mpr ⟨h, g⟩
theorem ck_0 : ∀ w ∈ k2_sels lw_privs, w ∈ lw_tbl := fun _ h => List.mem_append_left _ h
theorem ck_1 : ∀ w ∈ tables_1_1, w ∈ lw_tbl := fun _ h => List.mem_append_right _ (List.mem_append_left _ h)
theorem ck_2 : ∀ w ∈ tables_1_2, w ∈ lw_tbl := fun _ h => List.mem_append_right _ (List.mem_append_right _ (List.mem_append_left _ h))
theorem ck_3 : ∀ w ∈ tables_1_3, w ∈ lw_tbl := fun _ h => List.mem_append_right _ (List.mem_append_right _ (List.mem_append_right _ (List.mem_append_left _ h)))
theorem ck_4 : ∀ w ∈ tables_1_4, w ∈ lw_tbl := fun _ h => List.mem_append_right _ (List.mem_append_right _ (List.mem_append_right _ (List.mem_append_right _ (List.mem_append_left _ h))))
theorem ck_5 : ∀ w ∈ tables_1_5, w ∈ lw_tbl := fun _ h => List.mem_append_right _ (List.mem_append_right _ (List.mem_append_right _ (List.mem_append_right _ (List.mem_append_right _ (List.mem_append_left _ h)))))
theorem ck_6 : ∀ w ∈ tables_1_6, w ∈ lw_tbl := fun _ h => List.mem_append_right _ (List.mem_append_right _ (List.mem_append_right _ (List.mem_append_right _ (List.mem_append_right _ (List.mem_append_right _ (List.mem_append_left _ h))))))
theorem ck_7 : ∀ w ∈ tables_1_7, w ∈ lw_tbl := fun _ h => List.mem_append_right _ (List.mem_append_right _ (List.mem_append_right _ (List.mem_append_right _ (List.mem_append_right _ (List.mem_append_right _ (List.mem_append_right _ (List.mem_append_left _ h)))))))
theorem ck_8 : ∀ w ∈ tables_1_8, w ∈ lw_tbl := fun _ h => List.mem_append_right _ (List.mem_append_right _ (List.mem_append_right _ (List.mem_append_right _ (List.mem_append_right _ (List.mem_append_right _ (List.mem_append_right _ (List.mem_append_right _ (h))))))))
theorem inlX0 : ∀ w ∈ u_ws RX0 TX0 6, w ∈ wsL_law := fun w hw => by
  obtain ⟨k, hk, rfl⟩ := List.mem_map.mp hw
  have hk := List.mem_range.mp hk
  match k, hk with
  | 0, _ => exact sk_mem (ck_1 _ (List.mem_of_getElem? (i := 138) rfl)) rfl
  | 1, _ => exact sk_mem (ck_1 _ (List.mem_of_getElem? (i := 140) rfl)) rfl
  | 2, _ => exact sk_mem (ck_1 _ (List.mem_of_getElem? (i := 142) rfl)) rfl
  | 3, _ => exact sk_mem (ck_1 _ (List.mem_of_getElem? (i := 144) rfl)) rfl
  | 4, _ => exact sk_mem (ck_1 _ (List.mem_of_getElem? (i := 146) rfl)) rfl
  | 5, _ => exact sk_mem (ck_1 _ (List.mem_of_getElem? (i := 148) rfl)) rfl
  | n + 6, h => exact absurd h (by omega)
theorem inlX1 : ∀ w ∈ u_ws RX1 TX1 9, w ∈ wsL_law := fun w hw => by
  obtain ⟨k, hk, rfl⟩ := List.mem_map.mp hw
  have hk := List.mem_range.mp hk
  match k, hk with
  | 0, _ => exact sk_mem (ck_2 _ (List.mem_of_getElem? (i := 104) rfl)) rfl
  | 1, _ => exact sk_mem (ck_2 _ (List.mem_of_getElem? (i := 106) rfl)) rfl
  | 2, _ => exact sk_mem (ck_2 _ (List.mem_of_getElem? (i := 108) rfl)) rfl
  | 3, _ => exact sk_mem (ck_2 _ (List.mem_of_getElem? (i := 110) rfl)) rfl
  | 4, _ => exact sk_mem (ck_2 _ (List.mem_of_getElem? (i := 112) rfl)) rfl
  | 5, _ => exact sk_mem (ck_2 _ (List.mem_of_getElem? (i := 114) rfl)) rfl
  | 6, _ => exact sk_mem (ck_2 _ (List.mem_of_getElem? (i := 116) rfl)) rfl
  | 7, _ => exact sk_mem (ck_2 _ (List.mem_of_getElem? (i := 118) rfl)) rfl
  | 8, _ => exact sk_mem (ck_2 _ (List.mem_of_getElem? (i := 120) rfl)) rfl
  | n + 9, h => exact absurd h (by omega)
theorem inlX2 : ∀ w ∈ u_ws RX2 TX2 10, w ∈ wsL_law := fun w hw => by
  obtain ⟨k, hk, rfl⟩ := List.mem_map.mp hw
  have hk := List.mem_range.mp hk
  match k, hk with
  | 0, _ => exact sk_mem (ck_1 _ (List.mem_of_getElem? (i := 203) rfl)) rfl
  | 1, _ => exact sk_mem (ck_1 _ (List.mem_of_getElem? (i := 205) rfl)) rfl
  | 2, _ => exact sk_mem (ck_1 _ (List.mem_of_getElem? (i := 207) rfl)) rfl
  | 3, _ => exact sk_mem (ck_1 _ (List.mem_of_getElem? (i := 209) rfl)) rfl
  | 4, _ => exact sk_mem (ck_1 _ (List.mem_of_getElem? (i := 211) rfl)) rfl
  | 5, _ => exact sk_mem (ck_1 _ (List.mem_of_getElem? (i := 213) rfl)) rfl
  | 6, _ => exact sk_mem (ck_1 _ (List.mem_of_getElem? (i := 215) rfl)) rfl
  | 7, _ => exact sk_mem (ck_1 _ (List.mem_of_getElem? (i := 217) rfl)) rfl
  | 8, _ => exact sk_mem (ck_1 _ (List.mem_of_getElem? (i := 219) rfl)) rfl
  | 9, _ => exact sk_mem (ck_1 _ (List.mem_of_getElem? (i := 221) rfl)) rfl
  | n + 10, h => exact absurd h (by omega)
theorem inlX3 : ∀ w ∈ u_ws RX3 TX3 3, w ∈ wsL_law := fun w hw => by
  obtain ⟨k, hk, rfl⟩ := List.mem_map.mp hw
  have hk := List.mem_range.mp hk
  match k, hk with
  | 0, _ => exact sk_mem (ck_1 _ (List.mem_of_getElem? (i := 110) rfl)) rfl
  | 1, _ => exact sk_mem (ck_1 _ (List.mem_of_getElem? (i := 112) rfl)) rfl
  | 2, _ => exact sk_mem (ck_1 _ (List.mem_of_getElem? (i := 114) rfl)) rfl
  | n + 3, h => exact absurd h (by omega)
theorem inlX4 : ∀ w ∈ u_ws RX4 TX4 5, w ∈ wsL_law := fun w hw => by
  obtain ⟨k, hk, rfl⟩ := List.mem_map.mp hw
  have hk := List.mem_range.mp hk
  match k, hk with
  | 0, _ => exact sk_mem (ck_2 _ (List.mem_of_getElem? (i := 46) rfl)) rfl
  | 1, _ => exact sk_mem (ck_2 _ (List.mem_of_getElem? (i := 48) rfl)) rfl
  | 2, _ => exact sk_mem (ck_2 _ (List.mem_of_getElem? (i := 50) rfl)) rfl
  | 3, _ => exact sk_mem (ck_2 _ (List.mem_of_getElem? (i := 52) rfl)) rfl
  | 4, _ => exact sk_mem (ck_2 _ (List.mem_of_getElem? (i := 54) rfl)) rfl
  | n + 5, h => exact absurd h (by omega)
theorem inlX5 : ∀ w ∈ u_ws RX5 TX5 4, w ∈ wsL_law := fun w hw => by
  obtain ⟨k, hk, rfl⟩ := List.mem_map.mp hw
  have hk := List.mem_range.mp hk
  match k, hk with
  | 0, _ => exact sk_mem (ck_1 _ (List.mem_of_getElem? (i := 158) rfl)) rfl
  | 1, _ => exact sk_mem (ck_1 _ (List.mem_of_getElem? (i := 160) rfl)) rfl
  | 2, _ => exact sk_mem (ck_1 _ (List.mem_of_getElem? (i := 162) rfl)) rfl
  | 3, _ => exact sk_mem (ck_1 _ (List.mem_of_getElem? (i := 164) rfl)) rfl
  | n + 4, h => exact absurd h (by omega)
theorem inlX6 : ∀ w ∈ u_ws RX6 TX6 8, w ∈ wsL_law := fun w hw => by
  obtain ⟨k, hk, rfl⟩ := List.mem_map.mp hw
  have hk := List.mem_range.mp hk
  match k, hk with
  | 0, _ => exact sk_mem (ck_1 _ (List.mem_of_getElem? (i := 71) rfl)) rfl
  | 1, _ => exact sk_mem (ck_1 _ (List.mem_of_getElem? (i := 73) rfl)) rfl
  | 2, _ => exact sk_mem (ck_1 _ (List.mem_of_getElem? (i := 75) rfl)) rfl
  | 3, _ => exact sk_mem (ck_1 _ (List.mem_of_getElem? (i := 77) rfl)) rfl
  | 4, _ => exact sk_mem (ck_1 _ (List.mem_of_getElem? (i := 79) rfl)) rfl
  | 5, _ => exact sk_mem (ck_1 _ (List.mem_of_getElem? (i := 81) rfl)) rfl
  | 6, _ => exact sk_mem (ck_1 _ (List.mem_of_getElem? (i := 83) rfl)) rfl
  | 7, _ => exact sk_mem (ck_1 _ (List.mem_of_getElem? (i := 85) rfl)) rfl
  | n + 8, h => exact absurd h (by omega)
theorem inlX7 : ∀ w ∈ u_ws RX7 TX7 7, w ∈ wsL_law := fun w hw => by
  obtain ⟨k, hk, rfl⟩ := List.mem_map.mp hw
  have hk := List.mem_range.mp hk
  match k, hk with
  | 0, _ => exact sk_mem (ck_2 _ (List.mem_of_getElem? (i := 16) rfl)) rfl
  | 1, _ => exact sk_mem (ck_2 _ (List.mem_of_getElem? (i := 18) rfl)) rfl
  | 2, _ => exact sk_mem (ck_2 _ (List.mem_of_getElem? (i := 20) rfl)) rfl
  | 3, _ => exact sk_mem (ck_2 _ (List.mem_of_getElem? (i := 22) rfl)) rfl
  | 4, _ => exact sk_mem (ck_2 _ (List.mem_of_getElem? (i := 24) rfl)) rfl
  | 5, _ => exact sk_mem (ck_2 _ (List.mem_of_getElem? (i := 26) rfl)) rfl
  | 6, _ => exact sk_mem (ck_2 _ (List.mem_of_getElem? (i := 28) rfl)) rfl
  | n + 7, h => exact absurd h (by omega)
theorem inlX8 : ∀ w ∈ u_ws RX8 TX8 2, w ∈ wsL_law := fun w hw => by
  obtain ⟨k, hk, rfl⟩ := List.mem_map.mp hw
  have hk := List.mem_range.mp hk
  match k, hk with
  | 0, _ => exact sk_mem (ck_1 _ (List.mem_of_getElem? (i := 102) rfl)) rfl
  | 1, _ => exact sk_mem (ck_1 _ (List.mem_of_getElem? (i := 104) rfl)) rfl
  | n + 2, h => exact absurd h (by omega)
theorem inlX9 : ∀ w ∈ u_ws RX9 TX9 6, w ∈ wsL_law := fun w hw => by
  obtain ⟨k, hk, rfl⟩ := List.mem_map.mp hw
  have hk := List.mem_range.mp hk
  match k, hk with
  | 0, _ => exact sk_mem (ck_2 _ (List.mem_of_getElem? (i := 76) rfl)) rfl
  | 1, _ => exact sk_mem (ck_2 _ (List.mem_of_getElem? (i := 78) rfl)) rfl
  | 2, _ => exact sk_mem (ck_2 _ (List.mem_of_getElem? (i := 80) rfl)) rfl
  | 3, _ => exact sk_mem (ck_2 _ (List.mem_of_getElem? (i := 82) rfl)) rfl
  | 4, _ => exact sk_mem (ck_2 _ (List.mem_of_getElem? (i := 84) rfl)) rfl
  | 5, _ => exact sk_mem (ck_2 _ (List.mem_of_getElem? (i := 86) rfl)) rfl
  | n + 6, h => exact absurd h (by omega)
theorem inlX10 : ∀ w ∈ u_ws RX10 TX10 2, w ∈ wsL_law := fun w hw => by
  obtain ⟨k, hk, rfl⟩ := List.mem_map.mp hw
  have hk := List.mem_range.mp hk
  match k, hk with
  | 0, _ => exact sk_mem (ck_1 _ (List.mem_of_getElem? (i := 44) rfl)) rfl
  | 1, _ => exact sk_mem (ck_1 _ (List.mem_of_getElem? (i := 46) rfl)) rfl
  | n + 2, h => exact absurd h (by omega)
theorem inlX11 : ∀ w ∈ u_ws RX11 TX11 18, w ∈ wsL_law := fun w hw => by
  obtain ⟨k, hk, rfl⟩ := List.mem_map.mp hw
  have hk := List.mem_range.mp hk
  match k, hk with
  | 0, _ => exact sk_mem (ck_2 _ (List.mem_of_getElem? (i := 141) rfl)) rfl
  | 1, _ => exact sk_mem (ck_2 _ (List.mem_of_getElem? (i := 143) rfl)) rfl
  | 2, _ => exact sk_mem (ck_2 _ (List.mem_of_getElem? (i := 145) rfl)) rfl
  | 3, _ => exact sk_mem (ck_2 _ (List.mem_of_getElem? (i := 147) rfl)) rfl
  | 4, _ => exact sk_mem (ck_2 _ (List.mem_of_getElem? (i := 149) rfl)) rfl
  | 5, _ => exact sk_mem (ck_2 _ (List.mem_of_getElem? (i := 151) rfl)) rfl
  | 6, _ => exact sk_mem (ck_2 _ (List.mem_of_getElem? (i := 153) rfl)) rfl
  | 7, _ => exact sk_mem (ck_2 _ (List.mem_of_getElem? (i := 155) rfl)) rfl
  | 8, _ => exact sk_mem (ck_2 _ (List.mem_of_getElem? (i := 157) rfl)) rfl
  | 9, _ => exact sk_mem (ck_2 _ (List.mem_of_getElem? (i := 159) rfl)) rfl
  | 10, _ => exact sk_mem (ck_2 _ (List.mem_of_getElem? (i := 161) rfl)) rfl
  | 11, _ => exact sk_mem (ck_2 _ (List.mem_of_getElem? (i := 163) rfl)) rfl
  | 12, _ => exact sk_mem (ck_2 _ (List.mem_of_getElem? (i := 165) rfl)) rfl
  | 13, _ => exact sk_mem (ck_2 _ (List.mem_of_getElem? (i := 167) rfl)) rfl
  | 14, _ => exact sk_mem (ck_2 _ (List.mem_of_getElem? (i := 169) rfl)) rfl
  | 15, _ => exact sk_mem (ck_2 _ (List.mem_of_getElem? (i := 171) rfl)) rfl
  | 16, _ => exact sk_mem (ck_2 _ (List.mem_of_getElem? (i := 173) rfl)) rfl
  | 17, _ => exact sk_mem (ck_2 _ (List.mem_of_getElem? (i := 175) rfl)) rfl
  | n + 18, h => exact absurd h (by omega)
theorem inlX12 : ∀ w ∈ u_ws RX12 TX12 92, w ∈ wsL_law := fun w hw => by
  obtain ⟨k, hk, rfl⟩ := List.mem_map.mp hw
  have hk := List.mem_range.mp hk
  match k, hk with
  | 0, _ => exact sk_mem (ck_6 _ (List.mem_of_getElem? (i := 7) rfl)) rfl
  | 1, _ => exact sk_mem (ck_6 _ (List.mem_of_getElem? (i := 9) rfl)) rfl
  | 2, _ => exact sk_mem (ck_6 _ (List.mem_of_getElem? (i := 11) rfl)) rfl
  | 3, _ => exact sk_mem (ck_6 _ (List.mem_of_getElem? (i := 13) rfl)) rfl
  | 4, _ => exact sk_mem (ck_6 _ (List.mem_of_getElem? (i := 15) rfl)) rfl
  | 5, _ => exact sk_mem (ck_6 _ (List.mem_of_getElem? (i := 17) rfl)) rfl
  | 6, _ => exact sk_mem (ck_6 _ (List.mem_of_getElem? (i := 19) rfl)) rfl
  | 7, _ => exact sk_mem (ck_6 _ (List.mem_of_getElem? (i := 21) rfl)) rfl
  | 8, _ => exact sk_mem (ck_6 _ (List.mem_of_getElem? (i := 23) rfl)) rfl
  | 9, _ => exact sk_mem (ck_6 _ (List.mem_of_getElem? (i := 25) rfl)) rfl
  | 10, _ => exact sk_mem (ck_6 _ (List.mem_of_getElem? (i := 27) rfl)) rfl
  | 11, _ => exact sk_mem (ck_6 _ (List.mem_of_getElem? (i := 29) rfl)) rfl
  | 12, _ => exact sk_mem (ck_6 _ (List.mem_of_getElem? (i := 31) rfl)) rfl
  | 13, _ => exact sk_mem (ck_6 _ (List.mem_of_getElem? (i := 33) rfl)) rfl
  | 14, _ => exact sk_mem (ck_6 _ (List.mem_of_getElem? (i := 35) rfl)) rfl
  | 15, _ => exact sk_mem (ck_6 _ (List.mem_of_getElem? (i := 37) rfl)) rfl
  | 16, _ => exact sk_mem (ck_6 _ (List.mem_of_getElem? (i := 39) rfl)) rfl
  | 17, _ => exact sk_mem (ck_6 _ (List.mem_of_getElem? (i := 41) rfl)) rfl
  | 18, _ => exact sk_mem (ck_6 _ (List.mem_of_getElem? (i := 43) rfl)) rfl
  | 19, _ => exact sk_mem (ck_6 _ (List.mem_of_getElem? (i := 45) rfl)) rfl
  | 20, _ => exact sk_mem (ck_6 _ (List.mem_of_getElem? (i := 47) rfl)) rfl
  | 21, _ => exact sk_mem (ck_6 _ (List.mem_of_getElem? (i := 49) rfl)) rfl
  | 22, _ => exact sk_mem (ck_6 _ (List.mem_of_getElem? (i := 51) rfl)) rfl
  | 23, _ => exact sk_mem (ck_6 _ (List.mem_of_getElem? (i := 53) rfl)) rfl
  | 24, _ => exact sk_mem (ck_6 _ (List.mem_of_getElem? (i := 55) rfl)) rfl
  | 25, _ => exact sk_mem (ck_6 _ (List.mem_of_getElem? (i := 57) rfl)) rfl
  | 26, _ => exact sk_mem (ck_6 _ (List.mem_of_getElem? (i := 59) rfl)) rfl
  | 27, _ => exact sk_mem (ck_6 _ (List.mem_of_getElem? (i := 61) rfl)) rfl
  | 28, _ => exact sk_mem (ck_6 _ (List.mem_of_getElem? (i := 63) rfl)) rfl
  | 29, _ => exact sk_mem (ck_6 _ (List.mem_of_getElem? (i := 65) rfl)) rfl
  | 30, _ => exact sk_mem (ck_6 _ (List.mem_of_getElem? (i := 67) rfl)) rfl
  | 31, _ => exact sk_mem (ck_6 _ (List.mem_of_getElem? (i := 69) rfl)) rfl
  | 32, _ => exact sk_mem (ck_6 _ (List.mem_of_getElem? (i := 71) rfl)) rfl
  | 33, _ => exact sk_mem (ck_6 _ (List.mem_of_getElem? (i := 73) rfl)) rfl
  | 34, _ => exact sk_mem (ck_6 _ (List.mem_of_getElem? (i := 75) rfl)) rfl
  | 35, _ => exact sk_mem (ck_6 _ (List.mem_of_getElem? (i := 77) rfl)) rfl
  | 36, _ => exact sk_mem (ck_6 _ (List.mem_of_getElem? (i := 79) rfl)) rfl
  | 37, _ => exact sk_mem (ck_6 _ (List.mem_of_getElem? (i := 81) rfl)) rfl
  | 38, _ => exact sk_mem (ck_6 _ (List.mem_of_getElem? (i := 83) rfl)) rfl
  | 39, _ => exact sk_mem (ck_6 _ (List.mem_of_getElem? (i := 85) rfl)) rfl
  | 40, _ => exact sk_mem (ck_6 _ (List.mem_of_getElem? (i := 87) rfl)) rfl
  | 41, _ => exact sk_mem (ck_6 _ (List.mem_of_getElem? (i := 89) rfl)) rfl
  | 42, _ => exact sk_mem (ck_6 _ (List.mem_of_getElem? (i := 91) rfl)) rfl
  | 43, _ => exact sk_mem (ck_6 _ (List.mem_of_getElem? (i := 93) rfl)) rfl
  | 44, _ => exact sk_mem (ck_6 _ (List.mem_of_getElem? (i := 95) rfl)) rfl
  | 45, _ => exact sk_mem (ck_6 _ (List.mem_of_getElem? (i := 97) rfl)) rfl
  | 46, _ => exact sk_mem (ck_6 _ (List.mem_of_getElem? (i := 99) rfl)) rfl
  | 47, _ => exact sk_mem (ck_6 _ (List.mem_of_getElem? (i := 101) rfl)) rfl
  | 48, _ => exact sk_mem (ck_6 _ (List.mem_of_getElem? (i := 103) rfl)) rfl
  | 49, _ => exact sk_mem (ck_6 _ (List.mem_of_getElem? (i := 105) rfl)) rfl
  | 50, _ => exact sk_mem (ck_6 _ (List.mem_of_getElem? (i := 107) rfl)) rfl
  | 51, _ => exact sk_mem (ck_6 _ (List.mem_of_getElem? (i := 109) rfl)) rfl
  | 52, _ => exact sk_mem (ck_6 _ (List.mem_of_getElem? (i := 111) rfl)) rfl
  | 53, _ => exact sk_mem (ck_6 _ (List.mem_of_getElem? (i := 113) rfl)) rfl
  | 54, _ => exact sk_mem (ck_6 _ (List.mem_of_getElem? (i := 115) rfl)) rfl
  | 55, _ => exact sk_mem (ck_6 _ (List.mem_of_getElem? (i := 117) rfl)) rfl
  | 56, _ => exact sk_mem (ck_6 _ (List.mem_of_getElem? (i := 119) rfl)) rfl
  | 57, _ => exact sk_mem (ck_6 _ (List.mem_of_getElem? (i := 121) rfl)) rfl
  | 58, _ => exact sk_mem (ck_6 _ (List.mem_of_getElem? (i := 123) rfl)) rfl
  | 59, _ => exact sk_mem (ck_6 _ (List.mem_of_getElem? (i := 125) rfl)) rfl
  | 60, _ => exact sk_mem (ck_6 _ (List.mem_of_getElem? (i := 127) rfl)) rfl
  | 61, _ => exact sk_mem (ck_6 _ (List.mem_of_getElem? (i := 129) rfl)) rfl
  | 62, _ => exact sk_mem (ck_6 _ (List.mem_of_getElem? (i := 131) rfl)) rfl
  | 63, _ => exact sk_mem (ck_6 _ (List.mem_of_getElem? (i := 133) rfl)) rfl
  | 64, _ => exact sk_mem (ck_6 _ (List.mem_of_getElem? (i := 135) rfl)) rfl
  | 65, _ => exact sk_mem (ck_6 _ (List.mem_of_getElem? (i := 137) rfl)) rfl
  | 66, _ => exact sk_mem (ck_6 _ (List.mem_of_getElem? (i := 139) rfl)) rfl
  | 67, _ => exact sk_mem (ck_6 _ (List.mem_of_getElem? (i := 141) rfl)) rfl
  | 68, _ => exact sk_mem (ck_6 _ (List.mem_of_getElem? (i := 143) rfl)) rfl
  | 69, _ => exact sk_mem (ck_6 _ (List.mem_of_getElem? (i := 145) rfl)) rfl
  | 70, _ => exact sk_mem (ck_6 _ (List.mem_of_getElem? (i := 147) rfl)) rfl
  | 71, _ => exact sk_mem (ck_6 _ (List.mem_of_getElem? (i := 149) rfl)) rfl
  | 72, _ => exact sk_mem (ck_6 _ (List.mem_of_getElem? (i := 151) rfl)) rfl
  | 73, _ => exact sk_mem (ck_6 _ (List.mem_of_getElem? (i := 153) rfl)) rfl
  | 74, _ => exact sk_mem (ck_6 _ (List.mem_of_getElem? (i := 155) rfl)) rfl
  | 75, _ => exact sk_mem (ck_6 _ (List.mem_of_getElem? (i := 157) rfl)) rfl
  | 76, _ => exact sk_mem (ck_6 _ (List.mem_of_getElem? (i := 159) rfl)) rfl
  | 77, _ => exact sk_mem (ck_6 _ (List.mem_of_getElem? (i := 161) rfl)) rfl
  | 78, _ => exact sk_mem (ck_6 _ (List.mem_of_getElem? (i := 163) rfl)) rfl
  | 79, _ => exact sk_mem (ck_6 _ (List.mem_of_getElem? (i := 165) rfl)) rfl
  | 80, _ => exact sk_mem (ck_6 _ (List.mem_of_getElem? (i := 167) rfl)) rfl
  | 81, _ => exact sk_mem (ck_6 _ (List.mem_of_getElem? (i := 169) rfl)) rfl
  | 82, _ => exact sk_mem (ck_6 _ (List.mem_of_getElem? (i := 171) rfl)) rfl
  | 83, _ => exact sk_mem (ck_6 _ (List.mem_of_getElem? (i := 173) rfl)) rfl
  | 84, _ => exact sk_mem (ck_6 _ (List.mem_of_getElem? (i := 175) rfl)) rfl
  | 85, _ => exact sk_mem (ck_6 _ (List.mem_of_getElem? (i := 177) rfl)) rfl
  | 86, _ => exact sk_mem (ck_6 _ (List.mem_of_getElem? (i := 179) rfl)) rfl
  | 87, _ => exact sk_mem (ck_6 _ (List.mem_of_getElem? (i := 181) rfl)) rfl
  | 88, _ => exact sk_mem (ck_6 _ (List.mem_of_getElem? (i := 183) rfl)) rfl
  | 89, _ => exact sk_mem (ck_6 _ (List.mem_of_getElem? (i := 185) rfl)) rfl
  | 90, _ => exact sk_mem (ck_6 _ (List.mem_of_getElem? (i := 187) rfl)) rfl
  | 91, _ => exact sk_mem (ck_6 _ (List.mem_of_getElem? (i := 189) rfl)) rfl
  | n + 92, h => exact absurd h (by omega)
/-! The frame of all contracts here: one list of words for all methods (wsL_law), one list of array classes, a world in and a world out. -/
theorem wsL_good : ∀ w ∈ wsL_law, ((w.onTables && w.keeps) = true ∨ ∃ ty, w = .arrayClass ty) := fun w h => good_of_word (List.mem_filter.mp h).2
abbrev skC (y : MethodName) (cc : ByteArray) (n : Nat) (r : Option FieldType) : List Cond := Cond.code y cc n r :: wsL_law
abbrev skSt : String := "SameKeeper$State"
abbrev skT (cI cJ cC cZ cS : ClassId) : List (ClassId × FieldType) := [(cI, .int), (cJ, .long), (cC, .char), (cZ, .boolean), (cS, .object skSt)]
abbrev skHost : String := "SameKeeper"
def skN (U : State) : Prop := va_Nw (.methodLinkNest RX11 48 yX2_init skHost) U ∧ va_Nw (.methodLinkNest RX11 58 yX7_init skHost) U ∧ va_Nw (.methodLinkNest RX11 75 yX9_init skHost) U ∧ va_Nw (.methodLinkNest RX2 11 yX0_init skHost) U ∧ va_Nw (.methodLinkNest RX4 32 yX7_init skHost) U ∧ va_Nw (.methodLinkNest RX5 11 yX0_init skHost) U
def skK (D : va_G) (tys : List (ClassId × FieldType)) (U : State) : Prop := va_K D vwCl tys U ∧ va_AO skSt U ∧ skN U
theorem skK.warm {D : va_G} {tys : List (ClassId × FieldType)} {s U : State} (h : skK D tys s) (hW : s.WarmedH U.vm) : skK D tys U := ⟨va_K.moved hW.alike h.1, va_AO.moved hW.alike h.2.1, va_Nw.warmM hW h.2.2.1, va_Nw.warmM hW h.2.2.2.1, va_Nw.warmM hW h.2.2.2.2.1, va_Nw.warmM hW h.2.2.2.2.2.1, va_Nw.warmM hW h.2.2.2.2.2.2.1, va_Nw.warmM hW h.2.2.2.2.2.2.2⟩
theorem skK.same {D : va_G} {tys : List (ClassId × FieldType)} {u U : State} (h : skK D tys u) (e : u.vm = U.vm) (ha : u.vm.Alike U.vm) : skK D tys U := ⟨va_K.moved ha h.1, va_AO.moved ha h.2.1, va_Nw.same rfl e h.2.2.1, va_Nw.same rfl e h.2.2.2.1, va_Nw.same rfl e h.2.2.2.2.1, va_Nw.same rfl e h.2.2.2.2.2.1, va_Nw.same rfl e h.2.2.2.2.2.2.1, va_Nw.same rfl e h.2.2.2.2.2.2.2⟩
abbrev skPre (D : va_G) (tys : List (ClassId × FieldType)) (av : List Value) (sz : Nat) (w : va_W) : Array Value → State → Prop := va_Pc av (fun U => U.heap.size = sz ∧ va_P D vwCl w U.heap ∧ skK D tys U ∧ va_D (fun _ => True) w)
abbrev skB (D : va_G) (tys : List (ClassId × FieldType)) (A : Nat → Prop) (u : va_W) (t : State) : Prop := va_P D vwCl u t.heap ∧ skK D tys t ∧ va_D A u
abbrev skI (D : va_G) (tys : List (ClassId × FieldType)) (post : Int32 → va_W → Prop) (A : Nat → Prop) : Array Value → State → Outcome → State → Prop := va_Qi post (skB D tys A) A
abbrev skL (D : va_G) (tys : List (ClassId × FieldType)) (post : Int64 → va_W → Prop) (A : Nat → Prop) : Array Value → State → Outcome → State → Prop := va_Ql post (skB D tys A) A
abbrev skV (D : va_G) (tys : List (ClassId × FieldType)) (post : va_W → Prop) (A : Nat → Prop) : Array Value → State → Outcome → State → Prop := va_Qv post (skB D tys A) A
/-- a contract: any heap that holds the world w -/
def skM (l : Launch) (y : MethodName) (cc : ByteArray) (maxL : Nat) (ret : Option FieldType) (fr lo mc ms : Nat) (D : va_G) (tys : List (ClassId × FieldType)) (av : List Value) (w : va_W) (Qc : (Nat → Prop) → Array Value → State → Outcome → State → Prop) : Prop :=
  ∀ sz : Nat, Met l y (skC y cc maxL ret) { frames := fr, cells := mc, slots := ms, locals := lo } (skPre D tys av sz w) (Qc (va_A w sz)) mc ms (va_A w sz)
def skEnv (p : Program) (s : State) (m : MethodId) (meth : Method) (c : Code) (cc : ByteArray) (ret : Option FieldType) (maxL : Nat) (y : MethodName) (av : List Value) (D : va_G) (tys : List (ClassId × FieldType)) (A : Nat → Prop) : Prop :=
  p.tables.exec = Jvm.exec ∧ c.code = cc ∧ meth.sig.returnType = ret ∧ c.maxLocals = maxL ∧ meth.locks = false ∧ meth.name = y.name ∧ s.vm.findClass y.cls = some m.cls ∧ (∀ w ∈ wsL_law, w.before av.toArray s = true) ∧ skK D tys s ∧ (∀ q, s.heap.size ≤ q → A q)
theorem skM_of {l : Launch} {y : MethodName} {cc : ByteArray} {maxL : Nat} {ret : Option FieldType} {fr lo mc ms : Nat} {D : va_G} {tys : List (ClassId × FieldType)} {av : List Value} {w : va_W} {Qc : (Nat → Prop) → Array Value → State → Outcome → State → Prop}
    (hy : plainFor y = true) (hlen : (lg_sl av).length ≤ maxL)
    (body : ∀ (p : Program) (e : Env) (s : State) (m : MethodId) (below : List Frame) (meth : Method) (c : Code) (A : Nat → Prop) (ls : Array Slot), skEnv p s m meth c cc ret maxL y av D tys A → va_P D vwCl w s.heap → va_D A w → lv_has ls maxL (lv_args 0 av) →
      W p l e { frames := fr, cells := mc, slots := ms, locals := lo } s m av.toArray below meth c s.heap [] 0 0 (MQ below (Qc A) av.toArray s mc ms A) (F0 m 0 ls [])) : skM l y cc maxL ret fr lo mc ms D tys av w Qc := by
  intro sz
  refine MetFree.of_bodySF (code := cc) (maxLocals := maxL) (ret := ret) hy ?_ ?_
  · intro args s m h hn
    obtain ⟨meth, c, h1, h2, h3, h4, h5, h6, -, -⟩ := Cond.code_spec hn (atoms_spec (ws := skC y cc maxL ret) h _ List.mem_cons_self)
    exact ⟨meth, c, h1, h2, h3, h4, h5, h6⟩
  · intro p e s m args below meth c s₁ B hml hv _
    have hh0 : s₁.heap = s.heap := by rw [B.state]; rfl
    obtain ⟨rfl, hsz, hP, hK, hD0⟩ := hv
    have hts := atoms_spec (ws := skC y cc maxL ret) B.pre
    subst hsz
    have hD := hD0.self (sz := s.heap.size)
    have hl := lv_entry av (n := maxL) hlen
    have hw : W p l e { frames := fr, cells := mc, slots := ms, locals := lo } s m av.toArray below meth c s.heap [] 0 0 (MQ below (Qc (va_A w s.heap.size)) av.toArray s mc ms (va_A w s.heap.size)) (entryFrame m av.toArray maxL) := by
      rw [lg_entry_eq]
      exact body p e s m below meth c _ _ ⟨B.exec, B.bytes, B.returns, hml, B.notSynchronized, (name_of_methodNamed B.named B.method).1, findClass_of_methodNamed B.named, fun w hw => hts w (List.mem_cons_of_mem _ hw), hK, fun q h => Or.inr h⟩ hP hD hl
    obtain ⟨t, a1, o, b1, b2, b3⟩ := hw s₁ hh0 (Stand.of_body B)
    exact ⟨t, o, a1, b1, b2, ⟨b3.1, b3.2⟩⟩
section SkRows
variable {p : Program} {l : Launch} {e : Env} {R : Room} {s : State} {m : MethodId} {args : Array Value} {below : List Frame} {meth : Method} {c : Code} {H : Heap} {locs : List Loc} {cells slots : Nat} {Q : State → Prop}
variable {cc : ByteArray} {pc : Nat} {ls : Array Slot} {rest : List Value} {D : va_G} {tys : List (ClassId × FieldType)} {ws ws' : va_W} {A : Nat → Prop} {H0 : Heap} {a : Nat}
theorem sk_top {x : Int32} (y : Int32) (h : x = y) (k : W p l e R s m args below meth c H locs cells slots Q (F0 m pc ls (.int y :: rest))) : W p l e R s m args below meth c H locs cells slots Q (F0 m pc ls (.int x :: rest)) := by
  subst h; exact k
theorem sk_topl {x : Int64} (y : Int64) (h : x = y) (k : W p l e R s m args below meth c H locs cells slots Q (F0 m pc ls (.long y :: rest))) : W p l e R s m args below meth c H locs cells slots Q (F0 m pc ls (.long x :: rest)) := by
  subst h; exact k
theorem sk_get (hexec : p.tables.exec = Jvm.exec) (hb : c.code = cc) {own C : String} {T : u_T} {N ci index : Nat} (hts : ∀ w ∈ wsL_law, w.before args s = true) (hin : ∀ w ∈ u_ws C T N, w ∈ wsL_law) (hown : s.vm.findClass own = some m.cls) (hK : skK D tys s) (hP : va_P D vwCl ws H) (q0 : Nat) {fs : List Value} (he : ws[q0]? = some (a, .inr (ci, fs))) (hc : vwCl[ci]? = some (C, T, N)) (k : Nat) (hk : k < N) (hlink : Cond.fieldLink own index (T k).1 (T k).2.1 (T k).2.2.1 ∈ wsL_law) {v : Value} (hv : fs[k]? = some v) (hdg : decode cc pc = .ok (.getfield index, 3))
    (kk : W p l e R s m args below meth c H locs cells slots Q (F0 m (pc + 3) ls (v :: rest))) : W p l e R s m args below meth c H locs cells slots Q (F0 m pc ls (.ref a :: rest)) :=
  va_get hexec hb hts hin hown hK.1 hP q0 he hc k hk (hts _ hlink) (fun _ h9 => h9) hv hdg kk
theorem sk_put (hexec : p.tables.exec = Jvm.exec) (hb : c.code = cc) {own C : String} {T : u_T} {N ci index : Nat} (hts : ∀ w ∈ wsL_law, w.before args s = true) (hin : ∀ w ∈ u_ws C T N, w ∈ wsL_law) (ty0 : Nat → FieldType) (hty : ∀ k, k < N → parseFieldDescriptor (T k).2.2.1 = some (ty0 k)) (hnm : ∀ a, a < N → ∀ b, b < N → a ≠ b → (T a).2.1 ≠ (T b).2.1) (hown : s.vm.findClass own = some m.cls) (hK : skK D tys s) (hP : va_P D vwCl ws H) (hD : va_D A ws) (hS0 : va_S A H0 H locs) (q0 : Nat) {fs : List Value} (he : ws[q0]? = some (a, .inr (ci, fs))) (hc : vwCl[ci]? = some (C, T, N)) (k : Nat) (hk : k < N) (hlink : Cond.fieldLink own index (T k).1 (T k).2.1 (T k).2.2.1 ∈ wsL_law) (hfin : (T k).2.2.2 = false) {v : Value} (hn : narrow (ty0 k) v = v) (hfit : fits (ty0 k) v = true) (hl : k < fs.length)
    (hw' : ws.set q0 (a, .inr (ci, fs.set k v)) = ws') (hdg : decode cc pc = .ok (.putfield index, 3)) (kk : ∀ (H1 : Heap) (locs1 : List Loc), va_P D vwCl ws' H1 → va_D A ws' → va_S A H0 H1 locs1 → W p l e R s m args below meth c H1 locs1 cells slots Q (F0 m (pc + 3) ls rest)) : W p l e R s m args below meth c H locs cells slots Q (F0 m pc ls (v :: .ref a :: rest)) := by
  subst hw'
  exact va_put hexec hb hts hin ty0 hty hnm hown hK.1 hP hD hS0 q0 he hc k hk (hts _ hlink) (fun _ h9 => h9) hfin (hty k hk) hn hfit hl hdg kk
theorem sk_putF (hexec : p.tables.exec = Jvm.exec) (hb : c.code = cc) {own C : String} {T : u_T} {N ci index : Nat} (hts : ∀ w ∈ wsL_law, w.before args s = true) (hin : ∀ w ∈ u_ws C T N, w ∈ wsL_law) (ty0 : Nat → FieldType) (hty : ∀ k, k < N → parseFieldDescriptor (T k).2.2.1 = some (ty0 k)) (hnm : ∀ a, a < N → ∀ b, b < N → a ≠ b → (T a).2.1 ≠ (T b).2.1) (hown : s.vm.findClass own = some m.cls) (hK : skK D tys s) (hP : va_P D vwCl ws H) (hD : va_D A ws) (hS0 : va_S A H0 H locs) (q0 : Nat) {fs : List Value} (he : ws[q0]? = some (a, .inr (ci, fs))) (hc : vwCl[ci]? = some (C, T, N)) (k : Nat) (hk : k < N) (hlink : Cond.fieldLink own index (T k).1 (T k).2.1 (T k).2.2.1 ∈ wsL_law) (hfin : (T k).2.2.2 = true) (hin2 : meth.name = "<init>") (hdecl : (T k).1 = own) {v : Value} (hn : narrow (ty0 k) v = v) (hfit : fits (ty0 k) v = true) (hl : k < fs.length)
    (hw' : ws.set q0 (a, .inr (ci, fs.set k v)) = ws') (hdg : decode cc pc = .ok (.putfield index, 3)) (kk : ∀ (H1 : Heap) (locs1 : List Loc), va_P D vwCl ws' H1 → va_D A ws' → va_S A H0 H1 locs1 → W p l e R s m args below meth c H1 locs1 cells slots Q (F0 m (pc + 3) ls rest)) : W p l e R s m args below meth c H locs cells slots Q (F0 m pc ls (v :: .ref a :: rest)) := by
  subst hw'
  exact va_putF hexec hb hts hin ty0 hty hnm hown hK.1 hP hD hS0 q0 he hc k hk (hts _ hlink) (fun _ h9 => h9) hfin hin2 hdecl (hty k hk) hn hfit hl hdg kk
theorem sk_new (hexec : p.tables.exec = Jvm.exec) (hb : c.code = cc) {own C : String} {T : u_T} {N ci index k1 n1 : Nat} (hts : ∀ w ∈ wsL_law, w.before args s = true) (hin : ∀ w ∈ u_ws C T N, w ∈ wsL_law) (ty : Nat → FieldType) (hty : ∀ k, k < N → parseFieldDescriptor (T k).2.2.1 = some (ty k)) (hown : s.vm.findClass own = some m.cls) (hcl : Cond.classLink own index C ∈ wsL_law) (hinst : Cond.instantiable C N ∈ wsL_law) (hini : Cond.initialized C ∈ wsL_law)
    (hK : skK D tys s) (hP : va_P D vwCl ws H) (hD : va_D A ws) (hS : va_S A H0 H locs) (hA : ∀ q, H0.size ≤ q → A q) (hc : vwCl[ci]? = some (C, T, N)) {fs : List Value} (hfs : ∀ j, j < N → defaultValue (ty j) = vp_V fs j) (hk1 : cells + 1 ≤ k1) (hn1 : slots + N ≤ n1) (hcells : k1 ≤ R.cells) (hslots : n1 ≤ R.slots) (hdg : decode cc pc = .ok (.new index, 3))
    (kk : ∀ (q : Nat) (H1 : Heap), va_P D vwCl (ws ++ [(q, .inr (ci, fs))]) H1 → va_D A (ws ++ [(q, .inr (ci, fs))]) → va_S A H0 H1 locs → W p l e R s m args below meth c H1 locs k1 n1 Q (F0 m (pc + 3) ls (.ref q :: rest))) : W p l e R s m args below meth c H locs cells slots Q (F0 m pc ls rest) :=
  va_new hexec hb hts hin ty hty hown (hts _ hcl) (hts _ hinst) (hts _ hini) hK.1 hP hD hS hA hc hfs (Nat.le_trans hk1 hcells) (Nat.le_trans hn1 hslots) hdg (fun q H1 h1 h2 h3 => W.widen hk1 hn1 (kk q H1 h1 h2 h3))
theorem sk_newa (hexec : p.tables.exec = Jvm.exec) (hb : c.code = cc) {atype : ArrayType} {ty : FieldType} {cA : ClassId} {k1 n1 : Nat} (hts : ∀ w ∈ wsL_law, w.before args s = true) (harr : Cond.arrayClass ty ∈ wsL_law) (hty : newarray.typeOf atype = ty) (hRA : ∀ (U : State) (cB : ClassId), va_RA U cB ty → U.vm.findClass ("[" ++ ty.toString) = some cB) (t0 : Nat) (ht : tys[t0]? = some (cA, ty))
    (hK : skK D tys s) (hP : va_P D vwCl ws H) (hD : va_D A ws) (hS : va_S A H0 H locs) (hA : ∀ q, H0.size ≤ q → A q) {n : Int32} {N' : Nat} {a0 : vp_A} (ha : ∀ cA : ClassId, vp_cell cA a0 = arrV cA N' (fun _ => defaultValue ty)) (hn : ¬ n < 0) (hN : n.toNatClampNeg = N') (hbytes : N' * componentBytes ty ≤ 536870912) (hk1 : cells + 1 ≤ k1) (hn1 : slots + N' ≤ n1) (hcells : k1 ≤ R.cells) (hslots : n1 ≤ R.slots) (hdg : decode cc pc = .ok (.newarray atype, 2))
    (kk : ∀ (q : Nat) (H1 : Heap), va_P D vwCl (ws ++ [(q, .inl (cA, a0))]) H1 → va_D A (ws ++ [(q, .inl (cA, a0))]) → va_S A H0 H1 locs → W p l e R s m args below meth c H1 locs k1 n1 Q (F0 m (pc + 2) ls (.ref q :: rest))) : W p l e R s m args below meth c H locs cells slots Q (F0 m pc ls (.int n :: rest)) := by
  refine va_newa hexec hb (by rw [hty]; exact hts _ harr) hty hK.1 hP hD hS hA ha hn hN hbytes (Nat.le_trans hk1 hcells) (Nat.le_trans hn1 hslots) hdg (fun q cB H1 hK' hP' hD' hS' => ?_)
  have e1 : cB = cA := Option.some.inj ((hRA s cB ((hK'.2 tys.length (cB, ty) (by simp)).2)).symm.trans (hRA s cA (hK.1.2 t0 _ ht).2))
  subst e1
  exact W.widen hk1 hn1 (kk q H1 hP' hD' hS')
theorem sk_newq (hexec : p.tables.exec = Jvm.exec) (hb : c.code = cc) {own : String} {index k1 n1 : Nat} {cA : ClassId} (hts : ∀ w ∈ wsL_law, w.before args s = true) (hown : s.vm.findClass own = some m.cls) (hcl : Cond.classLink own index skSt ∈ wsL_law) (t0 : Nat) (ht : tys[t0]? = some (cA, .object skSt))
    (hK : skK D tys s) (hP : va_P D vwCl ws H) (hD : va_D A ws) (hS : va_S A H0 H locs) (hA : ∀ q, H0.size ≤ q → A q) {n : Int32} {N' : Nat} (hn : ¬ n < 0) (hN : n.toNatClampNeg = N') (hbytes : N' * 4 ≤ 536870912) (hk1 : cells + 1 ≤ k1) (hn1 : slots + N' ≤ n1) (hcells : k1 ≤ R.cells) (hslots : n1 ≤ R.slots) (hdg : decode cc pc = .ok (.anewarray index, 3))
    (kk : ∀ (q : Nat) (H1 : Heap), va_P D vwCl (ws ++ [(q, .inl (cA, N', .inr (.inr (.inr (.inr (fun _ => none))))))]) H1 → va_D A (ws ++ [(q, .inl (cA, N', .inr (.inr (.inr (.inr (fun _ => none))))))]) → va_S A H0 H1 locs → W p l e R s m args below meth c H1 locs k1 n1 Q (F0 m (pc + 3) ls (.ref q :: rest))) : W p l e R s m args below meth c H locs cells slots Q (F0 m pc ls (.int n :: rest)) := by
  refine va_newq hexec hb hown (hts _ hcl) hK.2.1 hK.1 hP hD hS hA hn hN hbytes (Nat.le_trans hk1 hcells) (Nat.le_trans hn1 hslots) hdg (fun q cB H1 hK' hP' hD' hS' => ?_)
  obtain ⟨_, _, _, _, _, f1⟩ := (hK'.2 tys.length (cB, .object skSt) (by simp)).2
  obtain ⟨_, _, _, _, _, f2⟩ := (hK.1.2 t0 _ ht).2
  have e1 : cB = cA := Option.some.inj (f1.symm.trans f2)
  subst e1
  exact W.widen hk1 hn1 (kk q H1 hP' hD' hS')
theorem sk_iast (hexec : p.tables.exec = Jvm.exec) (hb : c.code = cc) (hK : skK D tys s) (hP : va_P D vwCl ws H) (hD : va_D A ws) (hS : va_S A H0 H locs) (q0 t0 : Nat) {cA : ClassId} {n : Nat} {f : Nat → Int32} (ha : ws[q0]? = some (a, .inl (cA, n, .inl f))) (ht : tys[t0]? = some (cA, .int)) {i x : Int32} (hin : vp_in i n) (hw' : ws.set q0 (a, .inl (cA, n, .inl (upd f i.toNatClampNeg x))) = ws') (hdg : decode cc pc = .ok (.iastore, 1))
    (kk : ∀ (H1 : Heap) (locs1 : List Loc), va_P D vwCl ws' H1 → va_D A ws' → va_S A H0 H1 locs1 → W p l e R s m args below meth c H1 locs1 cells slots Q (F0 m (pc + 1) ls rest)) : W p l e R s m args below meth c H locs cells slots Q (F0 m pc ls (.int x :: .int i :: .ref a :: rest)) := by
  subst hw'
  exact va_iast hexec hb hK.1 hP hD hS q0 t0 ha ht hin hdg kk
theorem sk_iastO (hexec : p.tables.exec = Jvm.exec) (hb : c.code = cc) (hK : skK D tys s) (hP : va_P D vwCl ws H) (hD : va_D A ws) (hS : va_S A H0 H locs) (q0 t0 : Nat) {cA : ClassId} {n : Nat} {f : Nat → Int32} {ws' : (Nat → Int32) → va_W} (ha : ws[q0]? = some (a, .inl (cA, n, .inl f))) (ht : tys[t0]? = some (cA, .int)) {i x : Int32} (hin : vp_in i n) (hw' : ∀ f', ws.set q0 (a, .inl (cA, n, .inl f')) = ws' f') (hdg : decode cc pc = .ok (.iastore, 1))
    (kk : ∀ (f' : Nat → Int32) (H1 : Heap) (locs1 : List Loc), va_P D vwCl (ws' f') H1 → va_D A (ws' f') → va_S A H0 H1 locs1 → W p l e R s m args below meth c H1 locs1 cells slots Q (F0 m (pc + 1) ls rest)) : W p l e R s m args below meth c H locs cells slots Q (F0 m pc ls (.int x :: .int i :: .ref a :: rest)) :=
  va_iast hexec hb hK.1 hP hD hS q0 t0 ha ht hin hdg (fun H1 locs1 h1 h2 h3 => kk _ H1 locs1 ((hw' _) ▸ h1) ((hw' _) ▸ h2) h3)
theorem sk_vret {post : va_W → Prop} {mc ms : Nat} (hexec : p.tables.exec = Jvm.exec) (hb : c.code = cc) (hr : meth.sig.returnType = none) (hlocks : meth.locks = false) (hK : skK D tys s) (hP : va_P D vwCl ws H) (hD : va_D A ws) (hS : va_S A s.heap H locs) (hpost : post ws) (h1 : cells ≤ mc) (h2 : slots ≤ ms) (hdg : decode cc pc = .ok (.return_, 1)) :
    W p l e R s m args below meth c H locs cells slots (MQ below (skV D tys post A) args s mc ms A) (F0 m pc ls []) :=
  W.widen h1 h2 (W.vret hexec hb hr (fun t ht hW => ⟨⟨ws, rfl, hpost, by rw [ht]; exact hP, hK.warm hW, hD⟩, hS.F ht⟩) hS.2.2 hdg hlocks)
theorem sk_iret {post : Int32 → va_W → Prop} {mc ms : Nat} {v : Int32} {ty : FieldType} (hexec : p.tables.exec = Jvm.exec) (hb : c.code = cc) (hr : meth.sig.returnType = some ty) (hn : narrow ty (.int v) = .int v) (hlocks : meth.locks = false) (hK : skK D tys s) (hP : va_P D vwCl ws H) (hD : va_D A ws) (hS : va_S A s.heap H locs) (hpost : post v ws) (h1 : cells ≤ mc) (h2 : slots ≤ ms) (hdg : decode cc pc = .ok (.ireturn, 1)) :
    W p l e R s m args below meth c H locs cells slots (MQ below (skI D tys post A) args s mc ms A) (F0 m pc ls [.int v]) :=
  W.widen h1 h2 (W.zret hexec hb hr hn (fun t ht hW => ⟨⟨v, ws, rfl, hpost, by rw [ht]; exact hP, hK.warm hW, hD⟩, hS.F ht⟩) hS.2.2 hdg hlocks)
theorem sk_lret {post : Int64 → va_W → Prop} {mc ms : Nat} {v : Int64} (hexec : p.tables.exec = Jvm.exec) (hb : c.code = cc) (hr : meth.sig.returnType = some .long) (hlocks : meth.locks = false) (hK : skK D tys s) (hP : va_P D vwCl ws H) (hD : va_D A ws) (hS : va_S A s.heap H locs) (hpost : post v ws) (h1 : cells ≤ mc) (h2 : slots ≤ ms) (hdg : decode cc pc = .ok (.lreturn, 1)) :
    W p l e R s m args below meth c H locs cells slots (MQ below (skL D tys post A) args s mc ms A) (F0 m pc ls [.long v]) :=
  W.widen h1 h2 (W.lret hexec hb hr (fun t ht hW => ⟨⟨v, ws, rfl, hpost, by rw [ht]; exact hP, hK.warm hW, hD⟩, hS.F ht⟩) hS.2.2 hdg hlocks)
theorem sk_blind (D : va_G) (tys : List (ClassId × FieldType)) (av : List Value) (sz : Nat) (w : va_W) : FrameBlind (skPre D tys av sz w) := fun a U g mk q => by
  obtain ⟨q0, q1, qP, qK, qD⟩ := q
  exact ⟨q0, q1, qP, skK.same (u := U) (U := U.calling g mk a) qK rfl (Vm.Alike.refl U.vm), qD⟩
theorem sk_good {y : MethodName} {bytes : ByteArray} {maxL : Nat} {ret : Option FieldType} (h5 : Cond.code y bytes maxL ret ∈ wsL_law) : GoodIn wsL_law (skC y bytes maxL ret) := fun w hw => by
  rcases List.mem_cons.mp hw with rfl | h
  · exact ⟨h5, wsL_good _ h5⟩
  · exact ⟨h, wsL_good _ h⟩
abbrev skD (y : MethodName) (n : Nat) : Prop := y.cls ≠ "java/lang/invoke/MethodHandle" ∧ y.cls ≠ "java/lang/invoke/VarHandle" ∧ (parseMethodDescriptor y.desc).map (fun d => d.parameters.length) = some n
abbrev skR (R : Room) (fr lo mc ms maxL cells slots : Nat) : Prop := (fr + 1 ≤ R.frames ∧ 8 + (maxL + 11) + lo ≤ R.locals) ∧ cells + mc ≤ R.cells ∧ slots + ms ≤ R.slots
section SkCalls
variable {y : MethodName} {bytes : ByteArray} {maxL nL fr lo mc ms n index ci q0 N : Nat} {ret : Option FieldType} {own C : String} {b : Nat} {As st0 : List Value} {wc wr : va_W} {fs : List Value} {T : u_T}
theorem sk_preV (hK : skK D tys s) (hP : va_P D vwCl ws H) (hD : va_D A ws) (isC : List Nat) (hC : isC.map (fun i => ws[i]?) = wc.map some) (hnC : va_nd isC = true) (av : List Value) : PreS s H (skPre D tys av H.size wc) av := by
  have hPc : va_P D vwCl wc H := hP.sub isC (by
    have h9 : isC.filterMap (fun i => ws[i]?) = (isC.map (fun i => ws[i]?)).filterMap id := by rw [List.filterMap_map]; rfl
    rw [h9, hC]
    simp [List.filterMap_map])
  have hDc : va_D A wc := hD.sub isC hnC hC
  exact ⟨sk_blind D tys av H.size wc, fun U hU hW => ⟨rfl, by rw [hU], by rw [hU]; exact hPc, hK.warm hW, hDc.weaken (fun _ _ _ _ => trivial)⟩⟩
theorem sk_recv (hK : skK D tys s) (hP : va_P D vwCl ws H) (isC : List Nat) (hC : isC.map (fun i => ws[i]?) = wc.map some) (he : wc[q0]? = some (b, .inr (ci, fs))) (hc : vwCl[ci]? = some (C, T, N)) : ∃ cell : Cell, H[b]? = some cell ∧ cell.vm.isStatics = false ∧ s.vm.findClass C = some cell.cls := by
  have hPc : va_P D vwCl wc H := hP.sub isC (by
    have h9 : isC.filterMap (fun i => ws[i]?) = (isC.map (fun i => ws[i]?)).filterMap id := by rw [List.filterMap_map]; rfl
    rw [h9, hC]
    simp [List.filterMap_map])
  exact va_recv hK.1 hPc hc he
theorem sk_Vi {post : Int32 → va_W → Prop} (S : CallFix p m c cc nL s args wsL_law own) (hls : ls.size = nL) (hM : skM l y bytes maxL ret fr lo mc ms D tys (.ref b :: As) wc (skI D tys post))
    (h1 : Cond.methodLink own index y ∈ wsL_law) (h2 : Cond.instanceMethod y ∈ wsL_law) (h3 : Cond.selects C y y ∈ wsL_law) (h4 : Cond.initialized y.cls ∈ wsL_law) (h5 : Cond.code y bytes maxL ret ∈ wsL_law) (hd : skD y n) (hrm : skR R fr lo mc ms maxL cells slots)
    (hK : skK D tys s) (hP : va_P D vwCl ws H) (hD : va_D A ws) (hS : va_S A H0 H locs) (hA : ∀ q, H0.size ≤ q → A q) (isC isR : List Nat) (hC : isC.map (fun i => ws[i]?) = wc.map some) (hR : isR.map (fun i => ws[i]?) = wr.map some) (hnC : va_nd isC = true) (hn : va_nd isR = true) (hdis : ∀ i ∈ isR, i ∉ isC) (he : wc[q0]? = some (b, .inr (ci, fs))) (hc : vwCl[ci]? = some (C, T, N))
    (hlen : As.length = n) (hst : st0 = As.reverse ++ .ref b :: rest) (hcat : (rest.map fun v => v.category).sum ≤ 8) (hdg : decode cc pc = .ok (.invokevirtual index, 3))
    (kk : ∀ (r : Int32) (u : va_W) (H1 : Heap) (locs1 : List Loc), post r u → va_P D vwCl (wr ++ u) H1 → va_D A (wr ++ u) → va_S A H0 H1 locs1 → W p l e R s m args below meth c H1 locs1 (cells + mc) (slots + ms) Q (F0 m (pc + 3) ls (.int r :: rest))) : W p l e R s m args below meth c H locs cells slots Q (F0 m pc ls st0) := by
  have hts := S.2.2.2.2
  have hFc := va_free (wc := wc) hD hS hA isC hC
  have hpre := sk_preV hK hP hD isC hC hnC (.ref b :: As)
  refine va_calli (va_runV (As := As) (rest := rest) S (hM H.size) ⟨callB_of n hts (sk_good h5) rfl rfl rfl (hts _ h4) (hts _ h1) hd hrm.1, hts _ h2, hts _ h3⟩ ⟨hpre.1, sk_recv hK hP isC hC he hc, hpre.2⟩ rfl hlen hls hst (lv_room hcat) hdg hrm.2) hS (fun q _ h => hFc q h) hFc (fun r u t H1 locs1 ht hvm hw hB hz1 hk1 hS1 => ?_)
  obtain ⟨hP1, -, hD1⟩ := hB
  rw [ht] at hP1
  obtain ⟨hP', hD'⟩ := va_join (wr := wr) (w1 := u) hP hD isC isR hC hR hn hdis hk1 hFc hP1 hD1
  exact kk r u H1 locs1 hw hP' hD' hS1
theorem sk_Vl {post : Int64 → va_W → Prop} (S : CallFix p m c cc nL s args wsL_law own) (hls : ls.size = nL) (hM : skM l y bytes maxL ret fr lo mc ms D tys (.ref b :: As) wc (skL D tys post))
    (h1 : Cond.methodLink own index y ∈ wsL_law) (h2 : Cond.instanceMethod y ∈ wsL_law) (h3 : Cond.selects C y y ∈ wsL_law) (h4 : Cond.initialized y.cls ∈ wsL_law) (h5 : Cond.code y bytes maxL ret ∈ wsL_law) (hd : skD y n) (hrm : skR R fr lo mc ms maxL cells slots)
    (hK : skK D tys s) (hP : va_P D vwCl ws H) (hD : va_D A ws) (hS : va_S A H0 H locs) (hA : ∀ q, H0.size ≤ q → A q) (isC isR : List Nat) (hC : isC.map (fun i => ws[i]?) = wc.map some) (hR : isR.map (fun i => ws[i]?) = wr.map some) (hnC : va_nd isC = true) (hn : va_nd isR = true) (hdis : ∀ i ∈ isR, i ∉ isC) (he : wc[q0]? = some (b, .inr (ci, fs))) (hc : vwCl[ci]? = some (C, T, N))
    (hlen : As.length = n) (hst : st0 = As.reverse ++ .ref b :: rest) (hcat : (rest.map fun v => v.category).sum ≤ 8) (hdg : decode cc pc = .ok (.invokevirtual index, 3))
    (kk : ∀ (r : Int64) (u : va_W) (H1 : Heap) (locs1 : List Loc), post r u → va_P D vwCl (wr ++ u) H1 → va_D A (wr ++ u) → va_S A H0 H1 locs1 → W p l e R s m args below meth c H1 locs1 (cells + mc) (slots + ms) Q (F0 m (pc + 3) ls (.long r :: rest))) : W p l e R s m args below meth c H locs cells slots Q (F0 m pc ls st0) := by
  have hts := S.2.2.2.2
  have hFc := va_free (wc := wc) hD hS hA isC hC
  have hpre := sk_preV hK hP hD isC hC hnC (.ref b :: As)
  refine va_calll (va_runV (As := As) (rest := rest) S (hM H.size) ⟨callB_of n hts (sk_good h5) rfl rfl rfl (hts _ h4) (hts _ h1) hd hrm.1, hts _ h2, hts _ h3⟩ ⟨hpre.1, sk_recv hK hP isC hC he hc, hpre.2⟩ rfl hlen hls hst (lv_room hcat) hdg hrm.2) hS (fun q _ h => hFc q h) hFc (fun r u t H1 locs1 ht hvm hw hB hz1 hk1 hS1 => ?_)
  obtain ⟨hP1, -, hD1⟩ := hB
  rw [ht] at hP1
  obtain ⟨hP', hD'⟩ := va_join (wr := wr) (w1 := u) hP hD isC isR hC hR hn hdis hk1 hFc hP1 hD1
  exact kk r u H1 locs1 hw hP' hD' hS1
theorem sk_Vv {post : va_W → Prop} (S : CallFix p m c cc nL s args wsL_law own) (hls : ls.size = nL) (hM : skM l y bytes maxL ret fr lo mc ms D tys (.ref b :: As) wc (skV D tys post))
    (h1 : Cond.methodLink own index y ∈ wsL_law) (h2 : Cond.instanceMethod y ∈ wsL_law) (h3 : Cond.selects C y y ∈ wsL_law) (h4 : Cond.initialized y.cls ∈ wsL_law) (h5 : Cond.code y bytes maxL ret ∈ wsL_law) (hd : skD y n) (hrm : skR R fr lo mc ms maxL cells slots)
    (hK : skK D tys s) (hP : va_P D vwCl ws H) (hD : va_D A ws) (hS : va_S A H0 H locs) (hA : ∀ q, H0.size ≤ q → A q) (isC isR : List Nat) (hC : isC.map (fun i => ws[i]?) = wc.map some) (hR : isR.map (fun i => ws[i]?) = wr.map some) (hnC : va_nd isC = true) (hn : va_nd isR = true) (hdis : ∀ i ∈ isR, i ∉ isC) (he : wc[q0]? = some (b, .inr (ci, fs))) (hc : vwCl[ci]? = some (C, T, N))
    (hlen : As.length = n) (hst : st0 = As.reverse ++ .ref b :: rest) (hcat : (rest.map fun v => v.category).sum ≤ 8) (hdg : decode cc pc = .ok (.invokevirtual index, 3))
    (kk : ∀ (u : va_W) (H1 : Heap) (locs1 : List Loc), post u → va_P D vwCl (wr ++ u) H1 → va_D A (wr ++ u) → va_S A H0 H1 locs1 → W p l e R s m args below meth c H1 locs1 (cells + mc) (slots + ms) Q (F0 m (pc + 3) ls rest)) : W p l e R s m args below meth c H locs cells slots Q (F0 m pc ls st0) := by
  have hts := S.2.2.2.2
  have hFc := va_free (wc := wc) hD hS hA isC hC
  have hpre := sk_preV hK hP hD isC hC hnC (.ref b :: As)
  refine va_callv (va_runV (As := As) (rest := rest) S (hM H.size) ⟨callB_of n hts (sk_good h5) rfl rfl rfl (hts _ h4) (hts _ h1) hd hrm.1, hts _ h2, hts _ h3⟩ ⟨hpre.1, sk_recv hK hP isC hC he hc, hpre.2⟩ rfl hlen hls hst (lv_room hcat) hdg hrm.2) hS (fun q _ h => hFc q h) hFc (fun u t H1 locs1 ht hvm hw hB hz1 hk1 hS1 => ?_)
  obtain ⟨hP1, -, hD1⟩ := hB
  rw [ht] at hP1
  obtain ⟨hP', hD'⟩ := va_join (wr := wr) (w1 := u) hP hD isC isR hC hR hn hdis hk1 hFc hP1 hD1
  exact kk u H1 locs1 hw hP' hD' hS1
theorem sk_Iv {post : va_W → Prop} (S : CallFix p m c cc nL s args wsL_law own) (hls : ls.size = nL) (hM : skM l y bytes maxL none fr lo mc ms D tys (.ref b :: As) wc (skV D tys post))
    (h1 : Cond.methodLink own index y ∈ wsL_law) (h2 : Cond.instanceMethod y ∈ wsL_law) (h4 : Cond.initialized y.cls ∈ wsL_law) (h5 : Cond.code y bytes maxL none ∈ wsL_law) (hy : y.name = "<init>") (hd : skD y n) (hrm : skR R fr lo mc ms maxL cells slots)
    (hK : skK D tys s) (hP : va_P D vwCl ws H) (hD : va_D A ws) (hS : va_S A H0 H locs) (hA : ∀ q, H0.size ≤ q → A q) (isC isR : List Nat) (hC : isC.map (fun i => ws[i]?) = wc.map some) (hR : isR.map (fun i => ws[i]?) = wr.map some) (hnC : va_nd isC = true) (hn : va_nd isR = true) (hdis : ∀ i ∈ isR, i ∉ isC)
    (hlen : As.length = n) (hst : st0 = As.reverse ++ .ref b :: rest) (hcat : (rest.map fun v => v.category).sum ≤ 8) (hdg : decode cc pc = .ok (.invokespecial index, 3))
    (kk : ∀ (u : va_W) (H1 : Heap) (locs1 : List Loc), post u → va_P D vwCl (wr ++ u) H1 → va_D A (wr ++ u) → va_S A H0 H1 locs1 → W p l e R s m args below meth c H1 locs1 (cells + mc) (slots + ms) Q (F0 m (pc + 3) ls rest)) : W p l e R s m args below meth c H locs cells slots Q (F0 m pc ls st0) := by
  have hts := S.2.2.2.2
  have hFc := va_free (wc := wc) hD hS hA isC hC
  have hpre := sk_preV hK hP hD isC hC hnC (.ref b :: As)
  refine va_callv (va_runI (As := As) (rest := rest) S (hM H.size) ⟨callB_of n hts (sk_good h5) rfl rfl rfl (hts _ h4) (hts _ h1) hd hrm.1, hy, hts _ h2⟩ hpre rfl hlen hls hst (lv_room hcat) hdg hrm.2) hS (fun q _ h => hFc q h) hFc (fun u t H1 locs1 ht hvm hw hB hz1 hk1 hS1 => ?_)
  obtain ⟨hP1, -, hD1⟩ := hB
  rw [ht] at hP1
  obtain ⟨hP', hD'⟩ := va_join (wr := wr) (w1 := u) hP hD isC isR hC hR hn hdis hk1 hFc hP1 hD1
  exact kk u H1 locs1 hw hP' hD' hS1
theorem sk_INv {post : va_W → Prop} (S : CallFix p m c cc nL s args wsL_law own) (hls : ls.size = nL) (hM : skM l y bytes maxL none fr lo mc ms D tys (.ref b :: As) wc (skV D tys post))
    (h1 : va_Nw (.methodLinkNest own index y skHost) s) (h2 : Cond.instanceMethod y ∈ wsL_law) (h4 : Cond.initialized y.cls ∈ wsL_law) (h5 : Cond.code y bytes maxL none ∈ wsL_law) (hy : y.name = "<init>") (hd : skD y n) (hrm : skR R fr lo mc ms maxL cells slots)
    (hK : skK D tys s) (hP : va_P D vwCl ws H) (hD : va_D A ws) (hS : va_S A H0 H locs) (hA : ∀ q, H0.size ≤ q → A q) (isC isR : List Nat) (hC : isC.map (fun i => ws[i]?) = wc.map some) (hR : isR.map (fun i => ws[i]?) = wr.map some) (hnC : va_nd isC = true) (hn : va_nd isR = true) (hdis : ∀ i ∈ isR, i ∉ isC)
    (hlen : As.length = n) (hst : st0 = As.reverse ++ .ref b :: rest) (hcat : (rest.map fun v => v.category).sum ≤ 8) (hdg : decode cc pc = .ok (.invokespecial index, 3))
    (kk : ∀ (u : va_W) (H1 : Heap) (locs1 : List Loc), post u → va_P D vwCl (wr ++ u) H1 → va_D A (wr ++ u) → va_S A H0 H1 locs1 → W p l e R s m args below meth c H1 locs1 (cells + mc) (slots + ms) Q (F0 m (pc + 3) ls rest)) : W p l e R s m args below meth c H locs cells slots Q (F0 m pc ls st0) := by
  have hts := S.2.2.2.2
  have hFc := va_free (wc := wc) hD hS hA isC hC
  have hpre := sk_preV hK hP hD isC hC hnC (.ref b :: As)
  refine va_callv (va_runIN (As := As) (rest := rest) S (hM H.size) ⟨va_cnB n hts (sk_good h5) rfl rfl rfl h1 (hts _ h4) hd hrm.1, hy, hts _ h2⟩ hpre rfl hlen hls hst (lv_room hcat) hdg hrm.2) hS (fun q _ h => hFc q h) hFc (fun u t H1 locs1 ht hvm hw hB hz1 hk1 hS1 => ?_)
  obtain ⟨hP1, -, hD1⟩ := hB
  rw [ht] at hP1
  obtain ⟨hP', hD'⟩ := va_join (wr := wr) (w1 := u) hP hD isC isR hC hR hn hdis hk1 hFc hP1 hD1
  exact kk u H1 locs1 hw hP' hD' hS1
theorem sk_Si {post : Int32 → va_W → Prop} (S : CallFix p m c cc nL s args wsL_law own) (hls : ls.size = nL) (hM : skM l y bytes maxL ret fr lo mc ms D tys As wc (skI D tys post))
    (h1 : Cond.methodLink own index y ∈ wsL_law) (h2 : Cond.static y ∈ wsL_law) (h4 : Cond.initialized y.cls ∈ wsL_law) (h5 : Cond.code y bytes maxL ret ∈ wsL_law) (hd : skD y n) (hrm : skR R fr lo mc ms maxL cells slots)
    (hK : skK D tys s) (hP : va_P D vwCl ws H) (hD : va_D A ws) (hS : va_S A H0 H locs) (hA : ∀ q, H0.size ≤ q → A q) (isC isR : List Nat) (hC : isC.map (fun i => ws[i]?) = wc.map some) (hR : isR.map (fun i => ws[i]?) = wr.map some) (hnC : va_nd isC = true) (hn : va_nd isR = true) (hdis : ∀ i ∈ isR, i ∉ isC)
    (hlen : As.length = n) (hst : st0 = As.reverse ++ rest) (hcat : (rest.map fun v => v.category).sum ≤ 8) (hdg : decode cc pc = .ok (.invokestatic index, 3))
    (kk : ∀ (r : Int32) (u : va_W) (H1 : Heap) (locs1 : List Loc), post r u → va_P D vwCl (wr ++ u) H1 → va_D A (wr ++ u) → va_S A H0 H1 locs1 → W p l e R s m args below meth c H1 locs1 (cells + mc) (slots + ms) Q (F0 m (pc + 3) ls (.int r :: rest))) : W p l e R s m args below meth c H locs cells slots Q (F0 m pc ls st0) := by
  have hts := S.2.2.2.2
  have hFc := va_free (wc := wc) hD hS hA isC hC
  have hpre := sk_preV hK hP hD isC hC hnC As
  refine va_calli (va_runS (As := As) (rest := rest) S (hM H.size) ⟨callB_of n hts (sk_good h5) rfl rfl rfl (hts _ h4) (hts _ h1) hd hrm.1, hts _ h2⟩ hpre rfl hlen hls hst (lv_room hcat) hdg hrm.2) hS (fun q _ h => hFc q h) hFc (fun r u t H1 locs1 ht hvm hw hB hz1 hk1 hS1 => ?_)
  obtain ⟨hP1, -, hD1⟩ := hB
  rw [ht] at hP1
  obtain ⟨hP', hD'⟩ := va_join (wr := wr) (w1 := u) hP hD isC isR hC hR hn hdis hk1 hFc hP1 hD1
  exact kk r u H1 locs1 hw hP' hD' hS1
theorem sk_Sl {post : Int64 → va_W → Prop} (S : CallFix p m c cc nL s args wsL_law own) (hls : ls.size = nL) (hM : skM l y bytes maxL ret fr lo mc ms D tys As wc (skL D tys post))
    (h1 : Cond.methodLink own index y ∈ wsL_law) (h2 : Cond.static y ∈ wsL_law) (h4 : Cond.initialized y.cls ∈ wsL_law) (h5 : Cond.code y bytes maxL ret ∈ wsL_law) (hd : skD y n) (hrm : skR R fr lo mc ms maxL cells slots)
    (hK : skK D tys s) (hP : va_P D vwCl ws H) (hD : va_D A ws) (hS : va_S A H0 H locs) (hA : ∀ q, H0.size ≤ q → A q) (isC isR : List Nat) (hC : isC.map (fun i => ws[i]?) = wc.map some) (hR : isR.map (fun i => ws[i]?) = wr.map some) (hnC : va_nd isC = true) (hn : va_nd isR = true) (hdis : ∀ i ∈ isR, i ∉ isC)
    (hlen : As.length = n) (hst : st0 = As.reverse ++ rest) (hcat : (rest.map fun v => v.category).sum ≤ 8) (hdg : decode cc pc = .ok (.invokestatic index, 3))
    (kk : ∀ (r : Int64) (u : va_W) (H1 : Heap) (locs1 : List Loc), post r u → va_P D vwCl (wr ++ u) H1 → va_D A (wr ++ u) → va_S A H0 H1 locs1 → W p l e R s m args below meth c H1 locs1 (cells + mc) (slots + ms) Q (F0 m (pc + 3) ls (.long r :: rest))) : W p l e R s m args below meth c H locs cells slots Q (F0 m pc ls st0) := by
  have hts := S.2.2.2.2
  have hFc := va_free (wc := wc) hD hS hA isC hC
  have hpre := sk_preV hK hP hD isC hC hnC As
  refine va_calll (va_runS (As := As) (rest := rest) S (hM H.size) ⟨callB_of n hts (sk_good h5) rfl rfl rfl (hts _ h4) (hts _ h1) hd hrm.1, hts _ h2⟩ hpre rfl hlen hls hst (lv_room hcat) hdg hrm.2) hS (fun q _ h => hFc q h) hFc (fun r u t H1 locs1 ht hvm hw hB hz1 hk1 hS1 => ?_)
  obtain ⟨hP1, -, hD1⟩ := hB
  rw [ht] at hP1
  obtain ⟨hP', hD'⟩ := va_join (wr := wr) (w1 := u) hP hD isC isR hC hR hn hdis hk1 hFc hP1 hD1
  exact kk r u H1 locs1 hw hP' hD' hS1
theorem sk_Sv {post : va_W → Prop} (S : CallFix p m c cc nL s args wsL_law own) (hls : ls.size = nL) (hM : skM l y bytes maxL ret fr lo mc ms D tys As wc (skV D tys post))
    (h1 : Cond.methodLink own index y ∈ wsL_law) (h2 : Cond.static y ∈ wsL_law) (h4 : Cond.initialized y.cls ∈ wsL_law) (h5 : Cond.code y bytes maxL ret ∈ wsL_law) (hd : skD y n) (hrm : skR R fr lo mc ms maxL cells slots)
    (hK : skK D tys s) (hP : va_P D vwCl ws H) (hD : va_D A ws) (hS : va_S A H0 H locs) (hA : ∀ q, H0.size ≤ q → A q) (isC isR : List Nat) (hC : isC.map (fun i => ws[i]?) = wc.map some) (hR : isR.map (fun i => ws[i]?) = wr.map some) (hnC : va_nd isC = true) (hn : va_nd isR = true) (hdis : ∀ i ∈ isR, i ∉ isC)
    (hlen : As.length = n) (hst : st0 = As.reverse ++ rest) (hcat : (rest.map fun v => v.category).sum ≤ 8) (hdg : decode cc pc = .ok (.invokestatic index, 3))
    (kk : ∀ (u : va_W) (H1 : Heap) (locs1 : List Loc), post u → va_P D vwCl (wr ++ u) H1 → va_D A (wr ++ u) → va_S A H0 H1 locs1 → W p l e R s m args below meth c H1 locs1 (cells + mc) (slots + ms) Q (F0 m (pc + 3) ls rest)) : W p l e R s m args below meth c H locs cells slots Q (F0 m pc ls st0) := by
  have hts := S.2.2.2.2
  have hFc := va_free (wc := wc) hD hS hA isC hC
  have hpre := sk_preV hK hP hD isC hC hnC As
  refine va_callv (va_runS (As := As) (rest := rest) S (hM H.size) ⟨callB_of n hts (sk_good h5) rfl rfl rfl (hts _ h4) (hts _ h1) hd hrm.1, hts _ h2⟩ hpre rfl hlen hls hst (lv_room hcat) hdg hrm.2) hS (fun q _ h => hFc q h) hFc (fun u t H1 locs1 ht hvm hw hB hz1 hk1 hS1 => ?_)
  obtain ⟨hP1, -, hD1⟩ := hB
  rw [ht] at hP1
  obtain ⟨hP', hD'⟩ := va_join (wr := wr) (w1 := u) hP hD isC isR hC hR hn hdis hk1 hFc hP1 hD1
  exact kk u H1 locs1 hw hP' hD' hS1
end SkCalls
end SkRows
theorem sk_out {x : Int32} {n : Nat} (h : ∀ k : Nat, k ≤ n → ¬ x = Int32.ofNat k) : x.toInt < 0 ∨ (n : Int) < x.toInt := by
  by_cases h0 : x.toInt < 0
  · exact Or.inl h0
  · refine Or.inr (Int.not_le.mp (fun h1 => h x.toInt.toNat (by omega) ?_))
    refine Int32.toInt_inj.mp ?_
    have h2 : x.toInt < 2 ^ 31 := Int32.toInt_lt x
    have h3 : (Int32.ofNat x.toInt.toNat).toInt = (x.toInt.toNat : Int) := nI_toInt (by omega)
    rw [h3]
    omega
/-! numbers that are small: Int32 by Nat -/
theorem nmul (a b : Nat) : nI a * nI b = nI (a * b) := by
  unfold nI
  exact (Int32.ofNat_mul a b).symm
theorem nsub (a b : Nat) (h : b ≤ a) : nI a - nI b = nI (a - b) := by
  have h1 : nI (a - b) + nI b = nI a := by rw [nI_add, Nat.sub_add_cancel h]
  rw [← h1, Int32.add_sub_cancel]
theorem ndiv (a b : Nat) (ha : a < 2147483648) (hb : b < 2147483648) (hb0 : 0 < b) : nI a / nI b = nI (a / b) := by
  have h1 : a / b < 2 ^ 31 := Nat.lt_of_le_of_lt (Nat.div_le_self a b) ha
  refine Int32.toInt_inj.mp ?_
  rw [Jvm.Kit.i32_div (by rw [nI_toInt ha, nI_toInt hb]; omega), nI_toInt ha, nI_toInt hb, nI_toInt h1]
  rw [Int.tdiv_eq_ediv_of_nonneg (by omega)]
  exact (Int.natCast_ediv a b).symm
theorem nrem (a b : Nat) (ha : a < 2147483648) (hb : b < 2147483648) (hb0 : 0 < b) : nI a - nI a / nI b * nI b = nI (a % b) := by
  rw [ndiv a b ha hb hb0, nmul, nsub a (a / b * b) (Nat.div_mul_le_self a b)]
  congr 1
  have h1 := Nat.div_add_mod a b
  have h2 := Nat.mul_comm b (a / b)
  omega
theorem ninc (a k : Nat) (h : Int32.ofInt (k : Int) = nI k) : nI a + Int32.ofInt (k : Int) = nI (a + k) := by
  rw [h, nI_add]
theorem nrd (a : Nat → Nat) (k : Nat) (h : k < 2147483648) : (fun j => nI (a j)) (nI k).toNatClampNeg = nI (a k) := by
  show nI (a (nI k).toNatClampNeg) = nI (a k)
  rw [nI_clamp h]
theorem vin (k n : Nat) (h : k < n) (hn : n < 2147483648) : vp_in (nI k) n := nI_in h hn
theorem nlt (a b : Nat) (ha : a < 2147483648) (hb : b < 2147483648) : nI a < nI b ↔ a < b := nI_ltI ha hb
theorem nle (a b : Nat) (ha : a < 2147483648) (hb : b < 2147483648) : nI a ≤ nI b ↔ a ≤ b := nI_leI ha hb
theorem neq (a b : Nat) (ha : a < 2147483648) (hb : b < 2147483648) : nI a = nI b ↔ a = b := nI_eq ha hb
theorem nof (x : Int32) (h : ¬ x < 0) : ∃ j : Nat, j < 2147483648 ∧ x = nI j := nI_of h
theorem nof' (x : Int32) (h : 0 ≤ x) : ∃ j : Nat, j < 2147483648 ∧ x = nI j := nI_of (Int32.not_lt.mpr h)
def updN (a : Nat → Nat) (k v : Nat) : Nat → Nat := fun j => if j = k then v else a j
theorem updN_le {a : Nat → Nat} {k v B : Nat} (h : ∀ j, a j ≤ B) (hv : v ≤ B) : ∀ j, updN a k v j ≤ B := fun j => by
  unfold updN
  by_cases hj : j = k
  · rw [if_pos hj]; exact hv
  · rw [if_neg hj]; exact h j
theorem updN_fun (a : Nat → Nat) (k v : Nat) (h : k < 2147483648) : upd (fun j => nI (a j)) (nI k).toNatClampNeg (nI v) = fun j => nI (updN a k v j) := by
  funext j
  rw [nI_clamp h]
  unfold upd updN
  by_cases hj : j = k
  · rw [if_pos hj, if_pos hj]
  · rw [if_neg hj, if_neg hj]
section SkNums
variable {p : Program} {l : Launch} {e : Env} {R : Room} {s : State} {m : MethodId} {args : Array Value} {below : List Frame} {meth : Method} {c : Code} {H : Heap} {locs : List Loc} {cells slots : Nat} {Q : State → Prop}
variable {cc : ByteArray} {pc : Nat} {ls : Array Slot} {rest : List Value} {D : va_G} {tys : List (ClassId × FieldType)} {ws : va_W} {A : Nat → Prop} {H0 : Heap} {a : Nat}
/-- a row of small numbers: what is put keeps its bound -/
theorem sk_iastN (hexec : p.tables.exec = Jvm.exec) (hb : c.code = cc) (hK : skK D tys s) (hP : va_P D vwCl ws H) (hD : va_D A ws) (hS : va_S A H0 H locs) (q0 t0 : Nat) {cA : ClassId} {n B : Nat} {f : Nat → Nat} {ws' : (Nat → Nat) → va_W} (ha : ws[q0]? = some (a, .inl (cA, n, .inl (fun j => nI (f j))))) (ht : tys[t0]? = some (cA, .int)) {k v : Nat} (hk : k < n) (hn : n < 2147483648) (hf : ∀ j, f j ≤ B) (hv : v ≤ B) (hw' : ∀ f', ws.set q0 (a, .inl (cA, n, .inl (fun j => nI (f' j)))) = ws' f') (hdg : decode cc pc = .ok (.iastore, 1))
    (kk : ∀ (f' : Nat → Nat) (H1 : Heap) (locs1 : List Loc), (∀ j, f' j ≤ B) → va_P D vwCl (ws' f') H1 → va_D A (ws' f') → va_S A H0 H1 locs1 → W p l e R s m args below meth c H1 locs1 cells slots Q (F0 m (pc + 1) ls rest)) : W p l e R s m args below meth c H locs cells slots Q (F0 m pc ls (.int (nI v) :: .int (nI k) :: .ref a :: rest)) := by
  refine va_iast hexec hb hK.1 hP hD hS q0 t0 ha ht (vin k n hk hn) hdg (fun H1 locs1 h1 h2 h3 => ?_)
  rw [updN_fun f k v (by omega)] at h1 h2
  exact kk _ H1 locs1 (updN_le hf hv) ((hw' _) ▸ h1) ((hw' _) ▸ h2) h3
theorem sk_lastO (hexec : p.tables.exec = Jvm.exec) (hb : c.code = cc) (hK : skK D tys s) (hP : va_P D vwCl ws H) (hD : va_D A ws) (hS : va_S A H0 H locs) (q0 t0 : Nat) {cA : ClassId} {n : Nat} {f : Nat → Int64} {ws' : (Nat → Int64) → va_W} (ha : ws[q0]? = some (a, .inl (cA, n, .inr (.inl f)))) (ht : tys[t0]? = some (cA, .long)) {i : Int32} {x : Int64} (hin : vp_in i n) (hw' : ∀ f', ws.set q0 (a, .inl (cA, n, .inr (.inl f'))) = ws' f') (hdg : decode cc pc = .ok (.lastore, 1))
    (kk : ∀ (f' : Nat → Int64) (H1 : Heap) (locs1 : List Loc), va_P D vwCl (ws' f') H1 → va_D A (ws' f') → va_S A H0 H1 locs1 → W p l e R s m args below meth c H1 locs1 cells slots Q (F0 m (pc + 1) ls rest)) : W p l e R s m args below meth c H locs cells slots Q (F0 m pc ls (.long x :: .int i :: .ref a :: rest)) :=
  va_last hexec hb hK.1 hP hD hS q0 t0 ha ht hin hdg (fun H1 locs1 h1 h2 h3 => kk _ H1 locs1 ((hw' _) ▸ h1) ((hw' _) ▸ h2) h3)
theorem sk_topv {x : Value} (y : Value) (h : x = y) (k : W p l e R s m args below meth c H locs cells slots Q (F0 m pc ls (y :: rest))) : W p l e R s m args below meth c H locs cells slots Q (F0 m pc ls (x :: rest)) := by
  subst h; exact k
theorem sk_ast {ws' : va_W} (hexec : p.tables.exec = Jvm.exec) (hb : c.code = cc) (hK : skK D tys s) (hP : va_P D vwCl ws H) (hD : va_D A ws) (hS : va_S A H0 H locs) (q0 t0 qk ci : Nat) {cA : ClassId} {r : vw_C} {n v : Nat} {vs : List Value} {f : Nat → Option Nat} (ha : ws[q0]? = some (a, .inl (cA, n, .inr (.inr (.inr (.inr f)))))) (ht : tys[t0]? = some (cA, .object r.1)) (hv : ws[qk]? = some (v, .inr (ci, vs))) (hc : vwCl[ci]? = some r) {i : Int32} (hin : vp_in i n) (hw' : ws.set q0 (a, .inl (cA, n, .inr (.inr (.inr (.inr (va_up f i.toNatClampNeg (some v))))))) = ws') (hdg : decode cc pc = .ok (.aastore, 1))
    (kk : ∀ (H1 : Heap) (locs1 : List Loc), va_P D vwCl ws' H1 → va_D A ws' → va_S A H0 H1 locs1 → W p l e R s m args below meth c H1 locs1 cells slots Q (F0 m (pc + 1) ls rest)) : W p l e R s m args below meth c H locs cells slots Q (F0 m pc ls (.ref v :: .int i :: .ref a :: rest)) := by
  subst hw'
  exact va_astq hexec hb hK.1 hP hD hS q0 t0 qk ci ha ht hv hc hin hdg kk
end SkNums
theorem nbool (b : Nat) (h : b ≤ 1) : narrow .boolean (.int (nI b)) = .int (nI b) := by
  match b, h with
  | 0, _ => rfl
  | 1, _ => rfl
  | n + 2, h => exact absurd h (by omega)
theorem sk_out2 {x : Int32} (a b : Nat) (h : ∀ k : Nat, a ≤ k → k ≤ b → ¬ x = Int32.ofNat k) : x.toInt < (a : Int) ∨ (b : Int) < x.toInt := by
  by_cases h0 : x.toInt < (a : Int)
  · exact Or.inl h0
  · refine Or.inr (Int.not_le.mp (fun h1 => h x.toInt.toNat (by omega) (by omega) ?_))
    refine Int32.toInt_inj.mp ?_
    have h2 : x.toInt < 2 ^ 31 := Int32.toInt_lt x
    have h3 : (Int32.ofNat x.toInt.toNat).toInt = (x.toInt.toNat : Int) := nI_toInt (by omega)
    rw [h3]
    omega
theorem ndec1 (a : Nat) (h : 1 ≤ a) : nI a + Int32.ofInt (-1) = nI (a - 1) := by
  obtain ⟨b, rfl⟩ : ∃ b, a = b + 1 := ⟨a - 1, by omega⟩
  rw [Nat.add_sub_cancel, ← nI_pred b]
  show nI (b + 1) + (-1) = nI (b + 1) - 1
  exact (Int32.sub_eq_add_neg _ _).symm
theorem nmax0 (x : Int32) : ∃ k : Nat, k < 2147483648 ∧ (if x < 0 then 0 else x) = nI k := by
  by_cases h : x < 0
  · exact ⟨0, by omega, by rw [if_pos h]; rfl⟩
  · obtain ⟨k, hk, e⟩ := nof x h
    exact ⟨k, hk, by rw [if_neg h]; exact e⟩
theorem nl2i {a : Int64} {n : Nat} (h1 : 0 ≤ a.toInt) (h2 : a.toInt < n) (hn : n < 2147483648) : ∃ k : Nat, k < n ∧ a.toInt32 = nI k := by
  refine ⟨a.toInt.toNat, by omega, ?_⟩
  refine Int32.toInt_inj.mp ?_
  rw [nI_toInt (by omega), Int64.toInt_toInt32]
  rw [Int.bmod_eq_of_le (by omega) (by omega)]
  omega
theorem lrem10 (x : Int64) : (x - x / 10 * 10).toInt = x.toInt.tmod 10 := by
  have e : (10 : Int64).toInt = 10 := rfl
  have hx1 := Int64.le_toInt x
  have hx2 := Int64.toInt_lt x
  have hd : (x / 10).toInt = x.toInt.tdiv 10 := by
    rw [Jvm.Kit.i64_div (by rw [e]; omega), e]
  have hr := Int.mul_tdiv_add_tmod x.toInt 10
  have hb1 : x.toInt.tmod 10 < 10 := Int.tmod_lt_of_pos _ (by decide)
  have hb2 : -10 < x.toInt.tmod 10 := by
    have h3 := Int.tmod_lt_of_pos (-x.toInt) (by decide : (0 : Int) < 10)
    rw [Int.neg_tmod] at h3
    omega
  have hsg : (0 ≤ x.toInt → 0 ≤ x.toInt.tmod 10) ∧ (x.toInt < 0 → x.toInt.tmod 10 ≤ 0) := by
    refine ⟨fun h => Int.tmod_nonneg 10 h, fun h => ?_⟩
    have h3 := Int.tmod_nonneg (a := -x.toInt) 10 (by omega)
    rw [Int.neg_tmod] at h3
    omega
  have hm : (x / 10 * 10).toInt = x.toInt.tdiv 10 * 10 := by
    rw [Jvm.Kit.i64_mul (by rw [hd, e]; omega) (by rw [hd, e]; omega), hd, e]
  rw [Jvm.Kit.i64_sub (by rw [hm]; omega) (by rw [hm]; omega), hm]
  omega
theorem lxor10 (x : Int64) : (0 ≤ lg_cmp (x ^^^ 10) 0) ↔ 0 ≤ x.toInt := by
  rw [lg_cmp_ge, Int64.le_iff_toInt_le]
  show (0 : Int) ≤ (x ^^^ 10).toBitVec.toInt ↔ 0 ≤ x.toBitVec.toInt
  rw [Int64.toBitVec_xor]
  have h : (10 : Int64).toBitVec.msb = false := by decide
  have a := BitVec.msb_eq_toInt (x := x.toBitVec ^^^ (10 : Int64).toBitVec)
  have b := BitVec.msb_eq_toInt (x := x.toBitVec)
  rw [BitVec.msb_xor, h, Bool.xor_false, b] at a
  have h2 := decide_eq_decide.mp a
  omega
theorem fmt10b {x v : Int64} (hv : v = x - x / 10 * 10) (h : ¬ 0 ≤ lg_cmp (x ^^^ 10) 0) : -10 < v.toInt ∧ v.toInt ≤ 0 := by
  have h1 : ¬ 0 ≤ x.toInt := fun q => h ((lxor10 x).mpr q)
  rw [hv, lrem10]
  have h3 := Int.tmod_nonneg (a := -x.toInt) 10 (by omega)
  have h4 := Int.tmod_lt_of_pos (-x.toInt) (by decide : (0 : Int) < 10)
  rw [Int.neg_tmod] at h3 h4
  omega
theorem nfitb (b : Nat) (h : b ≤ 1) : fits .boolean (.int (nI b)) = true := by
  match b, h with
  | 0, _ => rfl
  | 1, _ => rfl
  | n + 2, h => exact absurd h (by omega)
theorem npred (a : Nat) (h : 1 ≤ a) : nI a - 1 = nI (a - 1) := nsub a 1 h
theorem npm1 (a : Nat) (h : ¬ nI a - 1 < 0) : 1 ≤ a := by
  rcases Nat.eq_zero_or_pos a with h0 | h0
  · subst h0; exact absurd (by decide) h
  · exact h0
theorem npm0 (a : Nat) (ha : a < 2147483648) (h : nI a - 1 < 0) : a = 0 := by
  rcases Nat.eq_zero_or_pos a with h0 | h0
  · exact h0
  · rw [npred a h0] at h
    exact absurd h (nI_pos (by omega))
theorem nofp (x : Int32) (h : 0 < x) : ∃ j : Nat, j < 2147483648 ∧ 1 ≤ j ∧ x = nI j := by
  obtain ⟨j, hj, e⟩ := nof x (fun q => Int32.lt_irrefl (Int32.lt_trans h q))
  refine ⟨j, hj, ?_, e⟩
  rcases Nat.eq_zero_or_pos j with h0 | h0
  · subst h0; rw [e] at h; exact absurd h (by decide)
  · exact h0
theorem nushr (k j : Nat) (hk : k < 2147483648) (hj : j < 32) (P : Nat) (hP : 2 ^ j = P) : ((nI k).toUInt32 >>> ((nI j).toUInt32 &&& Int32.toUInt32 31)).toInt32 = nI (k / P) := by
  subst hP
  have h1 : ∀ j, j < 32 → ((((nI j).toUInt32 &&& Int32.toUInt32 31).toBitVec % 32).toNat = j) := by decide
  exact pk_ushrN (by omega) (nI j) j (h1 j hj)
theorem nand32 (x : Int32) : ∃ k : Nat, k ≤ 32 ∧ x &&& 32 = nI k := by
  refine ⟨(x &&& 32).toBitVec.toNat, ?_, ?_⟩
  · rw [Int32.toBitVec_and, BitVec.toNat_and]
    exact Nat.and_le_right
  · refine Int32.toBitVec_inj.mp ?_
    show _ = BitVec.ofNat 32 _
    rw [BitVec.ofNat_toNat, BitVec.setWidth_eq]
theorem ndn (x : Int32) : x + Int32.ofInt (-1) = x - 1 := by
  show x + (-1) = x - 1
  exact (Int32.sub_eq_add_neg _ _).symm
theorem nofge' (x : Int32) (b : Nat) (hb : b < 2147483648) (h : nI b ≤ x) : ∃ k : Nat, k < 2147483648 ∧ b ≤ k ∧ x = nI k := by
  have h0 : ¬ x < 0 := fun q => absurd (Int32.lt_of_le_of_lt h q) (nI_pos hb)
  obtain ⟨k, hk, e⟩ := nof x h0
  subst e
  exact ⟨k, hk, (nle b k hb hk).mp h, rfl⟩
theorem nofge (x : Int32) (b : Nat) (hb : b < 2147483648) (h : ¬ x < nI b) : ∃ k : Nat, k < 2147483648 ∧ b ≤ k ∧ x = nI k := nofge' x b hb (Int32.not_lt.mp h)
/-- a row whose first n places hold numbers up to 9 -/
def rowOk (f : Nat → Int32) (n : Nat) : Prop := ∀ j, j < n → ∃ k : Nat, k ≤ 9 ∧ f j = nI k
theorem rowOk_0 (f : Nat → Int32) : rowOk f 0 := fun j h => absurd h (Nat.not_lt_zero j)
theorem rowOk_up {f : Nat → Int32} {i v : Nat} (h : rowOk f i) (hi : i < 2147483648) (hv : v ≤ 9) : rowOk (upd f (nI i).toNatClampNeg (nI v)) (i + 1) := by
  rw [nI_clamp hi]
  intro j hj
  by_cases e : j = i
  · exact ⟨v, hv, by unfold upd; rw [if_pos e]⟩
  · obtain ⟨k, hk, e2⟩ := h j (by omega)
    exact ⟨k, hk, by unfold upd; rw [if_neg e]; exact e2⟩
theorem rowOk_at {f : Nat → Int32} {n i : Nat} (h : rowOk f n) (hi : i < n) (hb : i < 2147483648) : ∃ k : Nat, k ≤ 9 ∧ f (nI i).toNatClampNeg = nI k := by
  rw [nI_clamp hb]
  exact h i hi
theorem nshl1 (d : Nat) (h : d ≤ 9) : ∃ P : Nat, P ≤ 512 ∧ (1 : Int32) <<< (nI d &&& 31) = nI P := by
  match d, h with
  | 0, _ => exact ⟨1, by omega, by decide⟩
  | 1, _ => exact ⟨2, by omega, by decide⟩
  | 2, _ => exact ⟨4, by omega, by decide⟩
  | 3, _ => exact ⟨8, by omega, by decide⟩
  | 4, _ => exact ⟨16, by omega, by decide⟩
  | 5, _ => exact ⟨32, by omega, by decide⟩
  | 6, _ => exact ⟨64, by omega, by decide⟩
  | 7, _ => exact ⟨128, by omega, by decide⟩
  | 8, _ => exact ⟨256, by omega, by decide⟩
  | 9, _ => exact ⟨512, by omega, by decide⟩
  | n + 10, h => exact absurd h (by omega)
def updG {α : Type} (f : Nat → α) (k : Nat) (v : α) : Nat → α := fun j => if j = k then v else f j
def rotG {α : Type} (f : Nat → α) : Nat → α := fun j => if j < 19 then f (j + 1) else if j = 19 then f 0 else f j
theorem updG_le {f : Nat → Nat} {k v B : Nat} (h : ∀ j, f j ≤ B) (hv : v ≤ B) : ∀ j, updG f k v j ≤ B := fun j => by
  unfold updG
  by_cases e : j = k
  · rw [if_pos e]; exact hv
  · rw [if_neg e]; exact h j
theorem rotG_le {f : Nat → Nat} {B : Nat} (h : ∀ j, f j ≤ B) : ∀ j, rotG f j ≤ B := fun j => by
  unfold rotG
  by_cases e : j < 19
  · rw [if_pos e]; exact h _
  · rw [if_neg e]
    by_cases e2 : j = 19
    · rw [if_pos e2]; exact h _
    · rw [if_neg e2]; exact h _
/-! a world split by a mask, and put together again: one pass -/
def fmS : List Bool → va_W → va_W
  | true :: m, x :: X => x :: fmS m X
  | false :: m, _ :: X => fmS m X
  | _, _ => []
def fmR : List Bool → va_W → va_W
  | true :: m, _ :: X => fmR m X
  | false :: m, x :: X => x :: fmR m X
  | _, _ => []
def fmT : List Bool → Nat → List Nat
  | [], _ => []
  | true :: m, k => k :: fmT m (k + 1)
  | false :: m, k => fmT m (k + 1)
def fmF : List Bool → Nat → List Nat
  | [], _ => []
  | true :: m, k => fmF m (k + 1)
  | false :: m, k => k :: fmF m (k + 1)
def fmP (p T : List Nat) : List Nat := p.map (fun j => T.getD j 0)
def fmM : List Bool → va_W → va_W → va_W
  | true :: m, y :: ux, r => y :: fmM m ux r
  | false :: m, ux, x :: r => x :: fmM m ux r
  | _, _, _ => []
def fmZ : List Bool → Nat → List Nat → Nat → List Nat
  | true :: m, a, j :: q, n => (n + j) :: fmZ m a q n
  | false :: m, a, q, n => a :: fmZ m (a + 1) q n
  | _, _, _, _ => []
def fmOk : List Bool → Nat → Nat → Bool
  | [], 0, 0 => true
  | true :: m, t + 1, f => fmOk m t f
  | false :: m, t, f + 1 => fmOk m t f
  | _, _, _ => false
theorem fm_sh {X Y : va_W} {x : Nat × va_E} {k : Nat} (hY : ∀ j, j < (x :: X).length → Y[k + j]? = (x :: X)[j]?) : ∀ j, j < X.length → Y[k + 1 + j]? = X[j]? := fun j hj => by
  have h2 := hY (j + 1) (by rw [List.length_cons]; omega)
  rw [show k + 1 + j = k + (j + 1) by omega]
  exact h2
theorem fmT_S : ∀ (m : List Bool) (X Y : va_W) (k : Nat), m.length = X.length → (∀ j, j < X.length → Y[k + j]? = X[j]?) → (fmT m k).map (fun i => Y[i]?) = (fmS m X).map some
  | [], [], Y, k, _, _ => rfl
  | [], _ :: _, Y, k, h, _ => absurd h (by rw [List.length_nil, List.length_cons]; omega)
  | _ :: _, [], Y, k, h, _ => absurd h (by rw [List.length_nil, List.length_cons]; omega)
  | true :: m, x :: X, Y, k, h, hY => by
    have h0 : Y[k]? = some x := hY 0 (by rw [List.length_cons]; omega)
    have h1 := fmT_S m X Y (k + 1) (by rw [List.length_cons, List.length_cons] at h; omega) (fm_sh hY)
    show Y[k]? :: (fmT m (k + 1)).map (fun i => Y[i]?) = some x :: (fmS m X).map some
    rw [h0, h1]
  | false :: m, x :: X, Y, k, h, hY => by
    have h1 := fmT_S m X Y (k + 1) (by rw [List.length_cons, List.length_cons] at h; omega) (fm_sh hY)
    show (fmT m (k + 1)).map (fun i => Y[i]?) = (fmS m X).map some
    exact h1
theorem fmF_R : ∀ (m : List Bool) (X Y : va_W) (k : Nat), m.length = X.length → (∀ j, j < X.length → Y[k + j]? = X[j]?) → (fmF m k).map (fun i => Y[i]?) = (fmR m X).map some
  | [], [], Y, k, _, _ => rfl
  | [], _ :: _, Y, k, h, _ => absurd h (by rw [List.length_nil, List.length_cons]; omega)
  | _ :: _, [], Y, k, h, _ => absurd h (by rw [List.length_nil, List.length_cons]; omega)
  | false :: m, x :: X, Y, k, h, hY => by
    have h0 : Y[k]? = some x := hY 0 (by rw [List.length_cons]; omega)
    have h1 := fmF_R m X Y (k + 1) (by rw [List.length_cons, List.length_cons] at h; omega) (fm_sh hY)
    show Y[k]? :: (fmF m (k + 1)).map (fun i => Y[i]?) = some x :: (fmR m X).map some
    rw [h0, h1]
  | true :: m, x :: X, Y, k, h, hY => by
    have h1 := fmF_R m X Y (k + 1) (by rw [List.length_cons, List.length_cons] at h; omega) (fm_sh hY)
    show (fmF m (k + 1)).map (fun i => Y[i]?) = (fmR m X).map some
    exact h1
theorem fm_R {m : List Bool} {X wr : va_W} (hl : m.length = X.length) (hR : fmR m X = wr) : (fmF m 0).map (fun i => X[i]?) = wr.map some := by
  rw [← hR]
  exact fmF_R m X X 0 hl (fun j _ => by rw [Nat.zero_add])
theorem fm_C {m : List Bool} {X wcx wc : va_W} {p : List Nat} (hl : m.length = X.length) (hS : fmS m X = wcx) (hp : p.map (fun i => wcx[i]?) = wc.map some) : (fmP p (fmT m 0)).map (fun i => X[i]?) = wc.map some := by
  have h1 : (fmT m 0).map (fun i => X[i]?) = wcx.map some := by
    rw [← hS]
    exact fmT_S m X X 0 hl (fun j _ => by rw [Nat.zero_add])
  rw [← hp]
  unfold fmP
  rw [List.map_map]
  apply List.map_congr_left
  intro j hj
  have h2 : wcx[j]? ∈ wc.map some := by rw [← hp]; exact List.mem_map.mpr ⟨j, hj, rfl⟩
  obtain ⟨q, -, hq⟩ := List.mem_map.mp h2
  have h3 : ((fmT m 0).map (fun i => X[i]?))[j]? = some (some q) := by rw [h1, List.getElem?_map, ← hq]; rfl
  rw [List.getElem?_map] at h3
  cases h4 : (fmT m 0)[j]? with
  | none => rw [h4] at h3; cases h3
  | some i =>
    rw [h4] at h3
    have h5 : X[i]? = some q := Option.some.inj h3
    show X[(fmT m 0).getD j 0]? = wcx[j]?
    rw [List.getD_eq_getElem?_getD, h4, ← hq]
    exact h5
theorem fm_out {wr u : va_W} : ∀ (m : List Bool) (a : Nat) (q : List Nat) (ux r : va_W), q.map (fun i => u[i]?) = ux.map some → (∀ j, j < r.length → wr[a + j]? = r[j]?) → fmOk m ux.length r.length = true → (fmZ m a q wr.length).map (fun i => (wr ++ u)[i]?) = (fmM m ux r).map some
  | [], a, q, ux, r, _, _, _ => by
    cases q <;> cases ux <;> cases r <;> rfl
  | true :: m, a, q, [], r, _, _, h => absurd h (by cases r <;> exact Bool.noConfusion)
  | true :: m, a, [], y :: ux, r, hq, _, _ => absurd (congrArg List.length hq) (by simp)
  | true :: m, a, j :: q, y :: ux, r, hq, hr, h => by
    have hq2 : u[j]? :: q.map (fun i => u[i]?) = some y :: ux.map some := hq
    have h1 : u[j]? = some y := (List.cons.inj hq2).1
    have h2 := fm_out m a q ux r (List.cons.inj hq2).2 hr h
    show (wr ++ u)[wr.length + j]? :: (fmZ m a q wr.length).map (fun i => (wr ++ u)[i]?) = some y :: (fmM m ux r).map some
    rw [h2, List.getElem?_append_right (by omega), show wr.length + j - wr.length = j by omega, h1]
  | false :: m, a, q, ux, [], _, _, h => absurd h (by cases ux <;> exact Bool.noConfusion)
  | false :: m, a, q, ux, x :: r, hq, hr, h => by
    have h0 : wr[a]? = some x := hr 0 (by rw [List.length_cons]; omega)
    have hlt : a < wr.length := (List.getElem?_eq_some_iff.mp h0).1
    have h2 := fm_out m (a + 1) q ux r hq (fun j hj => by
      have h3 := hr (j + 1) (by rw [List.length_cons]; omega)
      rw [show a + 1 + j = a + (j + 1) by omega]
      exact h3) (by cases ux <;> exact h)
    have e1 : fmZ (false :: m) a q wr.length = a :: fmZ m (a + 1) q wr.length := by cases q <;> rfl
    have e2 : fmM (false :: m) ux (x :: r) = x :: fmM m ux r := by cases ux <;> rfl
    rw [e1, e2]
    show (wr ++ u)[a]? :: (fmZ m (a + 1) q wr.length).map (fun i => (wr ++ u)[i]?) = some x :: (fmM m ux r).map some
    rw [h2, List.getElem?_append_left hlt, h0]
def fmU (q : List Nat) (u : va_W) : va_W := q.filterMap (fun i => u[i]?)
theorem fmU_map {u : va_W} {k : Nat} (hu : u.length = k) : ∀ q : List Nat, q.all (fun i => Nat.blt i k) = true → q.map (fun i => u[i]?) = (fmU q u).map some
  | [], _ => rfl
  | i :: q, h => by
    rw [List.all_cons, Bool.and_eq_true] at h
    have h1 : i < u.length := by rw [hu]; exact Nat.le_of_ble_eq_true h.1
    have h2 : u[i]? = some u[i] := List.getElem?_eq_getElem h1
    have h3 : fmU (i :: q) u = u[i] :: fmU q u := by unfold fmU; rw [List.filterMap_cons, h2]
    rw [h3, List.map_cons, List.map_cons, h2, fmU_map hu q h.2]
theorem fm_out2 {wr u : va_W} (m : List Bool) (q : List Nat) (n k : Nat) (hn : wr.length = n) (hu : u.length = k) (hq : q.all (fun i => Nat.blt i k) = true) (hk : fmOk m q.length n = true) : (fmZ m 0 q n).map (fun i => (wr ++ u)[i]?) = (fmM m (fmU q u) wr).map some := by
  subst hn
  have h1 := fmU_map hu q hq
  have hl : (fmU q u).length = q.length := by
    have h2 := congrArg List.length h1
    rw [List.length_map, List.length_map] at h2
    exact h2.symm
  exact fm_out m 0 q _ wr h1 (fun j _ => by rw [Nat.zero_add]) (by rw [hl]; exact hk)
theorem fm_C1 {m : List Bool} {X wc : va_W} (hl : m.length = X.length) (hS : fmS m X = wc) : (fmT m 0).map (fun i => X[i]?) = wc.map some := by
  rw [← hS]
  exact fmT_S m X X 0 hl (fun j _ => by rw [Nat.zero_add])
theorem fmT_lo : ∀ (m : List Bool) (k i : Nat), i ∈ fmT m k → k ≤ i
  | [], k, i, h => absurd h (by simp [fmT])
  | true :: m, k, i, h => by
    have h1 : i = k ∨ i ∈ fmT m (k + 1) := List.mem_cons.mp h
    rcases h1 with h1 | h1
    · omega
    · have := fmT_lo m (k + 1) i h1
      omega
  | false :: m, k, i, h => by
    have := fmT_lo m (k + 1) i h
    omega
theorem fmF_lo : ∀ (m : List Bool) (k i : Nat), i ∈ fmF m k → k ≤ i
  | [], k, i, h => absurd h (by simp [fmF])
  | false :: m, k, i, h => by
    have h1 : i = k ∨ i ∈ fmF m (k + 1) := List.mem_cons.mp h
    rcases h1 with h1 | h1
    · omega
    · have := fmF_lo m (k + 1) i h1
      omega
  | true :: m, k, i, h => by
    have := fmF_lo m (k + 1) i h
    omega
theorem fm_nT : ∀ (m : List Bool) (k : Nat), va_nd (fmT m k) = true
  | [], _ => rfl
  | true :: m, k => by
    show (decide (k ∉ fmT m (k + 1)) && va_nd (fmT m (k + 1))) = true
    rw [fm_nT m (k + 1), Bool.and_true]
    exact decide_eq_true (fun h => absurd (fmT_lo m (k + 1) k h) (by omega))
  | false :: m, k => fm_nT m (k + 1)
theorem fm_nF : ∀ (m : List Bool) (k : Nat), va_nd (fmF m k) = true
  | [], _ => rfl
  | false :: m, k => by
    show (decide (k ∉ fmF m (k + 1)) && va_nd (fmF m (k + 1))) = true
    rw [fm_nF m (k + 1), Bool.and_true]
    exact decide_eq_true (fun h => absurd (fmF_lo m (k + 1) k h) (by omega))
  | true :: m, k => fm_nF m (k + 1)
theorem fm_di : ∀ (m : List Bool) (k : Nat), ∀ i ∈ fmF m k, i ∉ fmT m k
  | [], _, i, h => absurd h (by simp [fmF])
  | true :: m, k, i, h => fun h2 => by
    have h3 : i = k ∨ i ∈ fmT m (k + 1) := List.mem_cons.mp h2
    rcases h3 with h3 | h3
    · have := fmF_lo m (k + 1) i h
      omega
    · exact fm_di m (k + 1) i h h3
  | false :: m, k, i, h => fun h2 => by
    have h3 : i = k ∨ i ∈ fmF m (k + 1) := List.mem_cons.mp h
    rcases h3 with h3 | h3
    · have := fmT_lo m (k + 1) i h2
      omega
    · exact fm_di m (k + 1) i h3 h2
/-- the callee's rows put back into their places; what is new behind the others -/
def oM : List Bool → va_W → va_W → va_W
  | [], u, _ => u
  | _ :: _, u, [] => u
  | true :: m, y :: u, _ :: X => y :: oM m u X
  | true :: m, [], _ :: X => fmR m X
  | false :: m, u, x :: X => x :: oM m u X
theorem oM_perm : ∀ (m : List Bool) (u X : va_W), (oM m u X).Perm (fmR m X ++ u)
  | [], u, X => by
    have e : fmR [] X = [] := by cases X <;> rfl
    rw [e, List.nil_append]
    have e2 : oM [] u X = u := by cases X <;> rfl
    rw [e2]
  | b :: m, u, [] => by
    have e : fmR (b :: m) [] = [] := by cases b <;> rfl
    rw [e, List.nil_append]
    have e2 : oM (b :: m) u [] = u := by cases b <;> rfl
    rw [e2]
  | true :: m, y :: u, x :: X => by
    show (y :: oM m u X).Perm (fmR m X ++ y :: u)
    exact ((oM_perm m u X).cons y).trans List.perm_middle.symm
  | true :: m, [], x :: X => by
    show (fmR m X).Perm (fmR m X ++ [])
    rw [List.append_nil]
  | false :: m, u, x :: X => by
    have e : oM (false :: m) u (x :: X) = x :: oM m u X := by cases u <;> rfl
    rw [e]
    show (x :: oM m u X).Perm (x :: (fmR m X ++ u))
    exact (oM_perm m u X).cons x
theorem o_pw {ws : va_W} : (∀ (i j : Nat) (p q : Nat × va_E), ws[i]? = some p → ws[j]? = some q → p.1 = q.1 → i = j) ↔ ws.Pairwise (fun p q => p.1 ≠ q.1) := by
  constructor
  · intro h
    refine List.pairwise_iff_getElem.mpr (fun i j hi hj hij he => ?_)
    have := h i j ws[i] ws[j] (List.getElem?_eq_getElem hi) (List.getElem?_eq_getElem hj) he
    omega
  · intro h i j p q hi hj he
    obtain ⟨hi2, rfl⟩ := List.getElem?_eq_some_iff.mp hi
    obtain ⟨hj2, rfl⟩ := List.getElem?_eq_some_iff.mp hj
    rcases Nat.lt_trichotomy i j with h1 | h1 | h1
    · exact absurd he (List.pairwise_iff_getElem.mp h i j hi2 hj2 h1)
    · exact h1
    · exact absurd he.symm (List.pairwise_iff_getElem.mp h j i hj2 hi2 h1)
theorem o_Pm {D : va_G} {cl : List vw_C} {ws ws' : va_W} {H : Heap} (hP : va_P D cl ws H) (h : ∀ q, q ∈ ws' → q ∈ ws) : va_P D cl ws' H := by
  intro k q hk
  obtain ⟨i, hi⟩ := List.getElem?_of_mem (h q (List.mem_of_getElem? hk))
  exact hP i q hi
theorem o_Dp {A : Nat → Prop} {ws ws' : va_W} (hD : va_D A ws) (hw : ws'.Pairwise (fun p q => p.1 ≠ q.1)) (h : ∀ q, q ∈ ws' → q ∈ ws) : va_D A ws' := by
  refine ⟨o_pw.mpr hw, fun k q hk => ?_⟩
  obtain ⟨i, hi⟩ := List.getElem?_of_mem (h q (List.mem_of_getElem? hk))
  exact hD.2 i q hi
section OMG
variable {A : Nat → Prop} {D : va_G} {cl : List vw_C} {H : Heap} {G : Prop} {ws u ws' : va_W} {mk : List Bool}
/-- the world written anew -/
theorem o_re (hP : va_P D cl ws H) (hD : va_D A ws) (he : ws = ws') (k : va_P D cl ws' H → va_D A ws' → G) : G := by
  subst he
  exact k hP hD
/-- rows in another order -/
theorem o_or (is : List Nat) (hP : va_P D cl ws H) (hD : va_D A ws) (hn : va_nd is = true) (he : is.map (fun i => ws[i]?) = ws'.map some) (k : va_P D cl ws' H → va_D A ws' → G) : G := by
  refine k (o_Pm hP (fun q h => ?_)) (hD.sub is hn he)
  have h1 : some q ∈ ws'.map some := List.mem_map.mpr ⟨q, h, rfl⟩
  rw [← he] at h1
  obtain ⟨i, -, hi⟩ := List.mem_map.mp h1
  exact List.mem_of_getElem? hi
/-- behind a call: the callee's rows in their places -/
theorem o_mg (hP : va_P D cl (fmR mk ws ++ u) H) (hD : va_D A (fmR mk ws ++ u)) (he : oM mk u ws = ws') (k : va_P D cl ws' H → va_D A ws' → G) : G := by
  subst he
  refine k (o_Pm hP (fun q h => (oM_perm mk u ws).mem_iff.mp h)) (o_Dp hD (((oM_perm mk u ws).pairwise_iff (fun {x y} h => fun e => h e.symm)).mpr (o_pw.mp hD.1)) (fun q h => (oM_perm mk u ws).mem_iff.mp h))
theorem o_mgq {ux : va_W} (qs : List Nat) (hn : va_nd qs = true) (hq : qs.map (fun i => u[i]?) = ux.map some) (hP : va_P D cl (fmR mk ws ++ u) H) (hD : va_D A (fmR mk ws ++ u)) (he : oM mk ux ws = ws') (k : va_P D cl ws' H → va_D A ws' → G) : G := by
  have hsub : ∀ q, q ∈ ux → q ∈ u := fun q h => by
    have h1 : some q ∈ ux.map some := List.mem_map.mpr ⟨q, h, rfl⟩
    rw [← hq] at h1
    obtain ⟨i, -, hi⟩ := List.mem_map.mp h1
    exact List.mem_of_getElem? hi
  have hpw := o_pw.mp hD.1
  rw [List.pairwise_append] at hpw
  have hDu : va_D A u := o_Dp hD hpw.2.1 (fun q h => List.mem_append_right _ h)
  have hDx : va_D A ux := hDu.sub qs hn hq
  have hs2 : ∀ q, q ∈ fmR mk ws ++ ux → q ∈ fmR mk ws ++ u := fun q h => by
    rcases List.mem_append.mp h with h1 | h1
    · exact List.mem_append_left _ h1
    · exact List.mem_append_right _ (hsub q h1)
  refine o_mg (mk := mk) (ws := ws) (u := ux) (o_Pm hP hs2) (o_Dp hD ?_ hs2) he k
  rw [List.pairwise_append]
  exact ⟨hpw.1, o_pw.mp hDx.1, fun a ha b hb => hpw.2.2 a ha b (hsub b hb)⟩
theorem o_mgE {u0 : va_W} (hu : u0 = u) (hP : va_P D cl (fmR mk ws ++ u0) H) (hD : va_D A (fmR mk ws ++ u0)) (he : oM mk u ws = ws') (k : va_P D cl ws' H → va_D A ws' → G) : G := by
  subst hu
  exact o_mg hP hD he k
theorem o_mgqE {u0 ux : va_W} (hu : u0 = u) (qs : List Nat) (hn : va_nd qs = true) (hq : qs.map (fun i => u[i]?) = ux.map some) (hP : va_P D cl (fmR mk ws ++ u0) H) (hD : va_D A (fmR mk ws ++ u0)) (he : oM mk ux ws = ws') (k : va_P D cl ws' H → va_D A ws' → G) : G := by
  subst hu
  exact o_mgq qs hn hq hP hD he k
end OMG
theorem exF {α : Type} {p : α → Prop} {C : Prop} (f : ∀ a, p a → C) (h : ∃ a, p a) : C := h.elim f
theorem anF {a b C : Prop} (f : a → b → C) (h : a ∧ b) : C := f h.1 h.2
/-! bits of small numbers -/
theorem bt_eq {x y : Int32} (h : x.toBitVec.toNat = y.toBitVec.toNat) : x = y := Int32.toBitVec_inj.mp (BitVec.eq_of_toNat_eq h)
theorem bt_lt {a n : Nat} (hn : n ≤ 32) (h : a < 2 ^ n) : a < 2 ^ 32 := Nat.lt_of_lt_of_le h (Nat.pow_le_pow_right (by decide) hn)
theorem bt_or {a b n : Nat} (hn : n ≤ 32) (ha : a < 2 ^ n) (hb : b < 2 ^ n) : nI a ||| nI b = nI (a ||| b) ∧ a ||| b < 2 ^ n := by
  have h := Nat.or_lt_two_pow ha hb
  refine ⟨bt_eq ?_, h⟩
  rw [Int32.toBitVec_or, BitVec.toNat_or, pk_tn (bt_lt hn ha), pk_tn (bt_lt hn hb), pk_tn (bt_lt hn h)]
theorem bt_xor {a b n : Nat} (hn : n ≤ 32) (ha : a < 2 ^ n) (hb : b < 2 ^ n) : nI a ^^^ nI b = nI (a ^^^ b) ∧ a ^^^ b < 2 ^ n := by
  have h := Nat.xor_lt_two_pow ha hb
  refine ⟨bt_eq ?_, h⟩
  rw [Int32.toBitVec_xor, BitVec.toNat_xor, pk_tn (bt_lt hn ha), pk_tn (bt_lt hn hb), pk_tn (bt_lt hn h)]
theorem bt_sh : ∀ k, k < 31 → ((nI k &&& 31).toBitVec.smod 32).toNat = k := by decide +kernel
theorem bt_1s {d : Nat} (hd : d < 31) : (1 : Int32) <<< (nI d &&& 31) = nI (2 ^ d) := by
  have h1 : (2 : Nat) ^ d < 2 ^ 32 := Nat.pow_lt_pow_right (by decide) (by omega)
  have h := pk_shlN (n := 1) (nI d &&& 31) d (bt_sh d hd) (by rw [Nat.one_mul]; exact h1)
  rw [Nat.one_mul] at h
  exact h
theorem bt_o1 {m d n : Nat} (hn : n ≤ 31) (hm : m < 2 ^ n) (hd : d < n) : nI m ||| ((1 : Int32) <<< (nI d &&& 31)) = nI (m ||| 2 ^ d) ∧ m ||| 2 ^ d < 2 ^ n := by
  rw [bt_1s (by omega)]
  exact bt_or (by omega) hm (Nat.pow_lt_pow_right (by decide) hd)
theorem bt_x1 {m d n : Nat} (hn : n ≤ 31) (hm : m < 2 ^ n) (hd : d < n) : nI m ^^^ ((1 : Int32) <<< (nI d &&& 31)) = nI (m ^^^ 2 ^ d) ∧ m ^^^ 2 ^ d < 2 ^ n := by
  rw [bt_1s (by omega)]
  exact bt_xor (by omega) hm (Nat.pow_lt_pow_right (by decide) hd)
theorem bt_01 {v : Nat} (h : v < 2) : nI v = 1 ↔ v = 1 := by
  rcases (show v = 0 ∨ v = 1 by omega) with rfl | rfl
  · exact ⟨fun h => absurd h (by decide), fun h => absurd h (by decide)⟩
  · exact ⟨fun _ => rfl, fun _ => rfl⟩
theorem bt_bit {m d : Nat} (hm : m < 2 ^ 31) (hd : d < 31) : ((nI m >>> (nI d &&& 31)) &&& 1 = 1) ↔ m.testBit d = true := by
  have h1 : m / 2 ^ d < 2 ^ 32 := Nat.lt_of_le_of_lt (Nat.div_le_self _ _) (Nat.lt_of_lt_of_le hm (by decide))
  rw [pk_shrN hm _ d (bt_sh d hd), pk_andN h1 (m := 1) 1 (by decide), Nat.testBit_eq_decide_div_mod_eq, decide_eq_true_iff]
  exact bt_01 (Nat.mod_lt _ (by decide))
theorem skE_el {p : Program} {s : State} {m : MethodId} {meth : Method} {c : Code} {cc : ByteArray} {ret : Option FieldType} {maxL : Nat} {y : MethodName} {av : List Value} {D : va_G} {tys : List (ClassId × FieldType)} {A : Nat → Prop} {C : Prop} (h : skEnv p s m meth c cc ret maxL y av D tys A) (f : p.tables.exec = Jvm.exec → c.code = cc → meth.sig.returnType = ret → c.maxLocals = maxL → meth.locks = false → meth.name = y.name → s.vm.findClass y.cls = some m.cls → (∀ w ∈ wsL_law, w.before av.toArray s = true) → skK D tys s → (∀ q, s.heap.size ≤ q → A q) → C) : C := f h.1 h.2.1 h.2.2.1 h.2.2.2.1 h.2.2.2.2.1 h.2.2.2.2.2.1 h.2.2.2.2.2.2.1 h.2.2.2.2.2.2.2.1 h.2.2.2.2.2.2.2.2.1 h.2.2.2.2.2.2.2.2.2
theorem exE {α : Type} {p : α → Prop} {C : Prop} (h : ∃ a, p a) (f : ∀ a, p a → C) : C := h.elim f
theorem anE {a b C : Prop} (h : a ∧ b) (f : a → b → C) : C := f h.1 h.2
def hide (p : Prop) : Prop := p
abbrev ro_ (a k : Nat) (fs : List Value) : Nat × va_E := (a, .inr (k, fs))
abbrev ra_I (a : Nat) (c : ClassId) (n : Nat) (f : Nat → Int32) : Nat × va_E := (a, .inl (c, n, .inl f))
abbrev ra_N (a : Nat) (c : ClassId) (n : Nat) (f : Nat → Nat) : Nat × va_E := (a, .inl (c, n, .inl (fun j => nI (f j))))
abbrev ra_J (a : Nat) (c : ClassId) (n : Nat) (f : Nat → Int64) : Nat × va_E := (a, .inl (c, n, .inr (.inl f)))
abbrev ra_S (a : Nat) (c : ClassId) (n : Nat) (f : Nat → Option Nat) : Nat × va_E := (a, .inl (c, n, .inr (.inr (.inr (.inr f)))))
/-! decode, by the bytes -/
theorem dq_u1 {c : ByteArray} {k b : Nat} {x : UInt8} (h : c.data.toList[k]? = some x) (hb : x.toNat = b) : (Reader.u1 : Decoder Nat) c k = .ok (b, k + 1) := by
  have hk : k < c.data.toList.length := (List.getElem?_eq_some_iff.mp h).1
  have hk2 : k < c.size := hk
  have hg : c[k] = x := by
    have h2 := (List.getElem?_eq_some_iff.mp h).2
    rw [← h2]
    rfl
  have e : (Reader.u1 : Decoder Nat) c k = (dite (k < c.size) (fun h => (do set (k + 1); pure (c[k]).toNat : Decoder Nat)) (fun _ => throw (HasTruncated.truncated k)) : Decoder Nat) c k := rfl
  rw [e, dif_pos hk2, hg, hb]
  rfl
theorem dq_b {c : ByteArray} {k op n : Nat} {i : Instr} (f : Nat → Decoder Instr) (hf : Decoder.instr k = (Reader.u1 >>= f)) (h : (Reader.u1 : Decoder Nat) c k = .ok (op, k + 1)) (hr : f op c (k + 1) = .ok (i, k + n)) : decode c k = .ok (i, n) := by
  have e : (Decoder.instr k) c k = .ok (i, k + n) := by
    rw [hf]
    show (Except.bind ((Reader.u1 : Decoder Nat) c k) (fun p => f p.1 c p.2)) = _
    rw [h]
    exact hr
  have e2 : decode c k = Except.bind ((Decoder.instr k) c k) (fun p => Except.ok (p.1, p.2 - k)) := rfl
  rw [e2, e]
  show Except.ok (i, k + n - k) = _
  rw [Nat.add_sub_cancel_left]
theorem dq_u2 {c : ByteArray} {k a b : Nat} (h1 : (Reader.u1 : Decoder Nat) c k = .ok (a, k + 1)) (h2 : (Reader.u1 : Decoder Nat) c (k + 1) = .ok (b, k + 2)) : (Reader.u2 : Decoder Nat) c k = .ok (a * 256 + b, k + 2) := by
  show Except.bind ((Reader.u1 : Decoder Nat) c k) (fun p => Except.bind ((Reader.u1 : Decoder Nat) c p.2) (fun q => Except.ok (p.1 * 256 + q.1, q.2))) = _
  rw [h1]
  show Except.bind ((Reader.u1 : Decoder Nat) c (k + 1)) (fun q => Except.ok (a * 256 + q.1, q.2)) = _
  rw [h2]
  rfl
theorem dq_s2 {c : ByteArray} {k a b : Nat} (h1 : (Reader.u1 : Decoder Nat) c k = .ok (a, k + 1)) (h2 : (Reader.u1 : Decoder Nat) c (k + 1) = .ok (b, k + 2)) : (Reader.s2 : Decoder Int) c k = .ok (Reader.signed 16 (a * 256 + b), k + 2) := by
  have e : (Reader.s2 : Decoder Int) c k = Except.bind ((Reader.u2 : Decoder Nat) c k) (fun p => Except.ok (Reader.signed 16 p.1, p.2)) := rfl
  rw [e, dq_u2 h1 h2]
  rfl
theorem dq_s1 {c : ByteArray} {k a : Nat} (h1 : (Reader.u1 : Decoder Nat) c k = .ok (a, k + 1)) : (Reader.s1 : Decoder Int) c k = .ok (Reader.signed 8 a, k + 1) := by
  have e : (Reader.s1 : Decoder Int) c k = Except.bind ((Reader.u1 : Decoder Nat) c k) (fun p => Except.ok (Reader.signed 8 p.1, p.2)) := rfl
  rw [e, h1]
  rfl
def bat (c : ByteArray) : Nat → List Nat → Prop
  | _, [] => True
  | k, b :: l => (Reader.u1 : Decoder Nat) c k = .ok (b, k + 1) ∧ bat c (k + 1) l
def bqL (c : ByteArray) (k0 : Nat) (G : List (Nat × List Nat)) : Bool := G.all (fun p => (((c.data.toList.drop k0).drop p.1).take p.2.length).map UInt8.toNat == p.2)
theorem bat_of {c : ByteArray} : ∀ (l : List Nat) (k : Nat), ((c.data.toList.drop k).take l.length).map UInt8.toNat = l → bat c k l
  | [], _, _ => True.intro
  | b :: l, k, h => by
    cases hd : c.data.toList.drop k with
    | nil => rw [hd] at h; cases h
    | cons x r =>
      rw [hd] at h
      have h2 : x.toNat :: (r.take l.length).map UInt8.toNat = b :: l := h
      have h3 : r = c.data.toList.drop (k + 1) := by rw [← List.tail_drop, hd]; rfl
      have h4 : (c.data.toList.drop k)[0]? = c.data.toList[k + 0]? := List.getElem?_drop
      rw [hd] at h4
      refine ⟨dq_u1 (x := x) h4.symm (List.cons.inj h2).1, bat_of l (k + 1) ?_⟩
      rw [← h3]
      exact (List.cons.inj h2).2
theorem bat_get {c : ByteArray} {k0 : Nat} {G : List (Nat × List Nat)} (h : bqL c k0 G = true) (j : Nat) {k K : Nat} {l : List Nat} (hj : G[j]? = some (k, l)) (hk : k0 + k = K) : bat c K l := by
  subst hk
  have h0 : G.all (fun p => (((c.data.toList.drop k0).drop p.1).take p.2.length).map UInt8.toNat == p.2) = true := h
  have h1 := List.all_eq_true.mp h0 (k, l) (List.mem_of_getElem? hj)
  have h2 : (((c.data.toList.drop k0).drop k).take l.length).map UInt8.toNat = l := eq_of_beq h1
  rw [List.drop_drop] at h2
  exact bat_of l (k0 + k) h2
section DQ
variable {c : ByteArray} {k a b n d : Nat} {v : Int}
theorem q_iaload (h : bat c k [46]) : decode c k = .ok (.iaload, 1) := dq_b _ rfl h.1 rfl
theorem q_laload (h : bat c k [47]) : decode c k = .ok (.laload, 1) := dq_b _ rfl h.1 rfl
theorem q_aaload (h : bat c k [50]) : decode c k = .ok (.aaload, 1) := dq_b _ rfl h.1 rfl
theorem q_baload (h : bat c k [51]) : decode c k = .ok (.baload, 1) := dq_b _ rfl h.1 rfl
theorem q_caload (h : bat c k [52]) : decode c k = .ok (.caload, 1) := dq_b _ rfl h.1 rfl
theorem q_iastore (h : bat c k [79]) : decode c k = .ok (.iastore, 1) := dq_b _ rfl h.1 rfl
theorem q_lastore (h : bat c k [80]) : decode c k = .ok (.lastore, 1) := dq_b _ rfl h.1 rfl
theorem q_aastore (h : bat c k [83]) : decode c k = .ok (.aastore, 1) := dq_b _ rfl h.1 rfl
theorem q_bastore (h : bat c k [84]) : decode c k = .ok (.bastore, 1) := dq_b _ rfl h.1 rfl
theorem q_castore (h : bat c k [85]) : decode c k = .ok (.castore, 1) := dq_b _ rfl h.1 rfl
theorem q_pop (h : bat c k [87]) : decode c k = .ok (.pop, 1) := dq_b _ rfl h.1 rfl
theorem q_pop2 (h : bat c k [88]) : decode c k = .ok (.pop2, 1) := dq_b _ rfl h.1 rfl
theorem q_dup (h : bat c k [89]) : decode c k = .ok (.dup, 1) := dq_b _ rfl h.1 rfl
theorem q_dup2 (h : bat c k [92]) : decode c k = .ok (.dup2, 1) := dq_b _ rfl h.1 rfl
theorem q_iadd (h : bat c k [96]) : decode c k = .ok (.iadd, 1) := dq_b _ rfl h.1 rfl
theorem q_ladd (h : bat c k [97]) : decode c k = .ok (.ladd, 1) := dq_b _ rfl h.1 rfl
theorem q_isub (h : bat c k [100]) : decode c k = .ok (.isub, 1) := dq_b _ rfl h.1 rfl
theorem q_lsub (h : bat c k [101]) : decode c k = .ok (.lsub, 1) := dq_b _ rfl h.1 rfl
theorem q_imul (h : bat c k [104]) : decode c k = .ok (.imul, 1) := dq_b _ rfl h.1 rfl
theorem q_lmul (h : bat c k [105]) : decode c k = .ok (.lmul, 1) := dq_b _ rfl h.1 rfl
theorem q_idiv (h : bat c k [108]) : decode c k = .ok (.idiv, 1) := dq_b _ rfl h.1 rfl
theorem q_ldiv (h : bat c k [109]) : decode c k = .ok (.ldiv, 1) := dq_b _ rfl h.1 rfl
theorem q_irem (h : bat c k [112]) : decode c k = .ok (.irem, 1) := dq_b _ rfl h.1 rfl
theorem q_lrem (h : bat c k [113]) : decode c k = .ok (.lrem, 1) := dq_b _ rfl h.1 rfl
theorem q_ishl (h : bat c k [120]) : decode c k = .ok (.ishl, 1) := dq_b _ rfl h.1 rfl
theorem q_ishr (h : bat c k [122]) : decode c k = .ok (.ishr, 1) := dq_b _ rfl h.1 rfl
theorem q_iushr (h : bat c k [124]) : decode c k = .ok (.iushr, 1) := dq_b _ rfl h.1 rfl
theorem q_iand (h : bat c k [126]) : decode c k = .ok (.iand, 1) := dq_b _ rfl h.1 rfl
theorem q_land (h : bat c k [127]) : decode c k = .ok (.land, 1) := dq_b _ rfl h.1 rfl
theorem q_ior (h : bat c k [128]) : decode c k = .ok (.ior, 1) := dq_b _ rfl h.1 rfl
theorem q_ixor (h : bat c k [130]) : decode c k = .ok (.ixor, 1) := dq_b _ rfl h.1 rfl
theorem q_lxor (h : bat c k [131]) : decode c k = .ok (.lxor, 1) := dq_b _ rfl h.1 rfl
theorem q_i2l (h : bat c k [133]) : decode c k = .ok (.i2l, 1) := dq_b _ rfl h.1 rfl
theorem q_l2i (h : bat c k [136]) : decode c k = .ok (.l2i, 1) := dq_b _ rfl h.1 rfl
theorem q_i2c (h : bat c k [146]) : decode c k = .ok (.i2c, 1) := dq_b _ rfl h.1 rfl
theorem q_lcmp (h : bat c k [148]) : decode c k = .ok (.lcmp, 1) := dq_b _ rfl h.1 rfl
theorem q_ireturn (h : bat c k [172]) : decode c k = .ok (.ireturn, 1) := dq_b _ rfl h.1 rfl
theorem q_lreturn (h : bat c k [173]) : decode c k = .ok (.lreturn, 1) := dq_b _ rfl h.1 rfl
theorem q_return_ (h : bat c k [177]) : decode c k = .ok (.return_, 1) := dq_b _ rfl h.1 rfl
theorem q_arraylength (h : bat c k [190]) : decode c k = .ok (.arraylength, 1) := dq_b _ rfl h.1 rfl
theorem q_iload_n0 (h : bat c k [26]) : decode c k = .ok (.iload_n 0, 1) := dq_b _ rfl h.1 rfl
theorem q_iload_n1 (h : bat c k [27]) : decode c k = .ok (.iload_n 1, 1) := dq_b _ rfl h.1 rfl
theorem q_iload_n2 (h : bat c k [28]) : decode c k = .ok (.iload_n 2, 1) := dq_b _ rfl h.1 rfl
theorem q_iload_n3 (h : bat c k [29]) : decode c k = .ok (.iload_n 3, 1) := dq_b _ rfl h.1 rfl
theorem q_lload_n0 (h : bat c k [30]) : decode c k = .ok (.lload_n 0, 1) := dq_b _ rfl h.1 rfl
theorem q_lload_n1 (h : bat c k [31]) : decode c k = .ok (.lload_n 1, 1) := dq_b _ rfl h.1 rfl
theorem q_lload_n2 (h : bat c k [32]) : decode c k = .ok (.lload_n 2, 1) := dq_b _ rfl h.1 rfl
theorem q_lload_n3 (h : bat c k [33]) : decode c k = .ok (.lload_n 3, 1) := dq_b _ rfl h.1 rfl
theorem q_aload_n0 (h : bat c k [42]) : decode c k = .ok (.aload_n 0, 1) := dq_b _ rfl h.1 rfl
theorem q_aload_n1 (h : bat c k [43]) : decode c k = .ok (.aload_n 1, 1) := dq_b _ rfl h.1 rfl
theorem q_aload_n2 (h : bat c k [44]) : decode c k = .ok (.aload_n 2, 1) := dq_b _ rfl h.1 rfl
theorem q_aload_n3 (h : bat c k [45]) : decode c k = .ok (.aload_n 3, 1) := dq_b _ rfl h.1 rfl
theorem q_istore_n0 (h : bat c k [59]) : decode c k = .ok (.istore_n 0, 1) := dq_b _ rfl h.1 rfl
theorem q_istore_n1 (h : bat c k [60]) : decode c k = .ok (.istore_n 1, 1) := dq_b _ rfl h.1 rfl
theorem q_istore_n2 (h : bat c k [61]) : decode c k = .ok (.istore_n 2, 1) := dq_b _ rfl h.1 rfl
theorem q_istore_n3 (h : bat c k [62]) : decode c k = .ok (.istore_n 3, 1) := dq_b _ rfl h.1 rfl
theorem q_lstore_n1 (h : bat c k [64]) : decode c k = .ok (.lstore_n 1, 1) := dq_b _ rfl h.1 rfl
theorem q_lstore_n2 (h : bat c k [65]) : decode c k = .ok (.lstore_n 2, 1) := dq_b _ rfl h.1 rfl
theorem q_lstore_n3 (h : bat c k [66]) : decode c k = .ok (.lstore_n 3, 1) := dq_b _ rfl h.1 rfl
theorem q_astore_n1 (h : bat c k [76]) : decode c k = .ok (.astore_n 1, 1) := dq_b _ rfl h.1 rfl
theorem q_astore_n2 (h : bat c k [77]) : decode c k = .ok (.astore_n 2, 1) := dq_b _ rfl h.1 rfl
theorem q_astore_n3 (h : bat c k [78]) : decode c k = .ok (.astore_n 3, 1) := dq_b _ rfl h.1 rfl
theorem q_iconstm1 (h : bat c k [2]) : decode c k = .ok (.iconst (-1), 1) := dq_b _ rfl h.1 rfl
theorem q_iconst0 (h : bat c k [3]) : decode c k = .ok (.iconst (0), 1) := dq_b _ rfl h.1 rfl
theorem q_iconst1 (h : bat c k [4]) : decode c k = .ok (.iconst (1), 1) := dq_b _ rfl h.1 rfl
theorem q_iconst2 (h : bat c k [5]) : decode c k = .ok (.iconst (2), 1) := dq_b _ rfl h.1 rfl
theorem q_iconst3 (h : bat c k [6]) : decode c k = .ok (.iconst (3), 1) := dq_b _ rfl h.1 rfl
theorem q_iconst4 (h : bat c k [7]) : decode c k = .ok (.iconst (4), 1) := dq_b _ rfl h.1 rfl
theorem q_iconst5 (h : bat c k [8]) : decode c k = .ok (.iconst (5), 1) := dq_b _ rfl h.1 rfl
theorem q_lconst0 (h : bat c k [9]) : decode c k = .ok (.lconst 0, 1) := dq_b _ rfl h.1 rfl
theorem q_lconst1 (h : bat c k [10]) : decode c k = .ok (.lconst 1, 1) := dq_b _ rfl h.1 rfl
theorem q_ldc (h : bat c k [18, a]) : decode c k = .ok (Instr.ldc a, 2) := dq_b _ rfl h.1 (by
  show Except.bind ((Reader.u1 : Decoder Nat) c (k + 1)) (fun p => Except.ok (Instr.ldc p.1, p.2)) = _
  rw [h.2.1]
  rfl)
theorem q_iload (h : bat c k [21, a]) : decode c k = .ok (Instr.iload a, 2) := dq_b _ rfl h.1 (by
  show Except.bind ((Reader.u1 : Decoder Nat) c (k + 1)) (fun p => Except.ok (Instr.iload p.1, p.2)) = _
  rw [h.2.1]
  rfl)
theorem q_lload (h : bat c k [22, a]) : decode c k = .ok (Instr.lload a, 2) := dq_b _ rfl h.1 (by
  show Except.bind ((Reader.u1 : Decoder Nat) c (k + 1)) (fun p => Except.ok (Instr.lload p.1, p.2)) = _
  rw [h.2.1]
  rfl)
theorem q_istore (h : bat c k [54, a]) : decode c k = .ok (Instr.istore a, 2) := dq_b _ rfl h.1 (by
  show Except.bind ((Reader.u1 : Decoder Nat) c (k + 1)) (fun p => Except.ok (Instr.istore p.1, p.2)) = _
  rw [h.2.1]
  rfl)
theorem q_lstore (h : bat c k [55, a]) : decode c k = .ok (Instr.lstore a, 2) := dq_b _ rfl h.1 (by
  show Except.bind ((Reader.u1 : Decoder Nat) c (k + 1)) (fun p => Except.ok (Instr.lstore p.1, p.2)) = _
  rw [h.2.1]
  rfl)
theorem q_ldc_w (h : bat c k [19, a, b]) (hn : a * 256 + b = n) : decode c k = .ok (Instr.ldc_w n, 3) := dq_b _ rfl h.1 (by
  show Except.bind ((Reader.u2 : Decoder Nat) c (k + 1)) (fun p => Except.ok (Instr.ldc_w p.1, p.2)) = _
  rw [dq_u2 h.2.1 h.2.2.1, hn]
  rfl)
theorem q_ldc2_w (h : bat c k [20, a, b]) (hn : a * 256 + b = n) : decode c k = .ok (Instr.ldc2_w n, 3) := dq_b _ rfl h.1 (by
  show Except.bind ((Reader.u2 : Decoder Nat) c (k + 1)) (fun p => Except.ok (Instr.ldc2_w p.1, p.2)) = _
  rw [dq_u2 h.2.1 h.2.2.1, hn]
  rfl)
theorem q_getstatic (h : bat c k [178, a, b]) (hn : a * 256 + b = n) : decode c k = .ok (Instr.getstatic n, 3) := dq_b _ rfl h.1 (by
  show Except.bind ((Reader.u2 : Decoder Nat) c (k + 1)) (fun p => Except.ok (Instr.getstatic p.1, p.2)) = _
  rw [dq_u2 h.2.1 h.2.2.1, hn]
  rfl)
theorem q_getfield (h : bat c k [180, a, b]) (hn : a * 256 + b = n) : decode c k = .ok (Instr.getfield n, 3) := dq_b _ rfl h.1 (by
  show Except.bind ((Reader.u2 : Decoder Nat) c (k + 1)) (fun p => Except.ok (Instr.getfield p.1, p.2)) = _
  rw [dq_u2 h.2.1 h.2.2.1, hn]
  rfl)
theorem q_putfield (h : bat c k [181, a, b]) (hn : a * 256 + b = n) : decode c k = .ok (Instr.putfield n, 3) := dq_b _ rfl h.1 (by
  show Except.bind ((Reader.u2 : Decoder Nat) c (k + 1)) (fun p => Except.ok (Instr.putfield p.1, p.2)) = _
  rw [dq_u2 h.2.1 h.2.2.1, hn]
  rfl)
theorem q_invokevirtual (h : bat c k [182, a, b]) (hn : a * 256 + b = n) : decode c k = .ok (Instr.invokevirtual n, 3) := dq_b _ rfl h.1 (by
  show Except.bind ((Reader.u2 : Decoder Nat) c (k + 1)) (fun p => Except.ok (Instr.invokevirtual p.1, p.2)) = _
  rw [dq_u2 h.2.1 h.2.2.1, hn]
  rfl)
theorem q_invokespecial (h : bat c k [183, a, b]) (hn : a * 256 + b = n) : decode c k = .ok (Instr.invokespecial n, 3) := dq_b _ rfl h.1 (by
  show Except.bind ((Reader.u2 : Decoder Nat) c (k + 1)) (fun p => Except.ok (Instr.invokespecial p.1, p.2)) = _
  rw [dq_u2 h.2.1 h.2.2.1, hn]
  rfl)
theorem q_invokestatic (h : bat c k [184, a, b]) (hn : a * 256 + b = n) : decode c k = .ok (Instr.invokestatic n, 3) := dq_b _ rfl h.1 (by
  show Except.bind ((Reader.u2 : Decoder Nat) c (k + 1)) (fun p => Except.ok (Instr.invokestatic p.1, p.2)) = _
  rw [dq_u2 h.2.1 h.2.2.1, hn]
  rfl)
theorem q_new (h : bat c k [187, a, b]) (hn : a * 256 + b = n) : decode c k = .ok (Instr.new n, 3) := dq_b _ rfl h.1 (by
  show Except.bind ((Reader.u2 : Decoder Nat) c (k + 1)) (fun p => Except.ok (Instr.new p.1, p.2)) = _
  rw [dq_u2 h.2.1 h.2.2.1, hn]
  rfl)
theorem q_anewarray (h : bat c k [189, a, b]) (hn : a * 256 + b = n) : decode c k = .ok (Instr.anewarray n, 3) := dq_b _ rfl h.1 (by
  show Except.bind ((Reader.u2 : Decoder Nat) c (k + 1)) (fun p => Except.ok (Instr.anewarray p.1, p.2)) = _
  rw [dq_u2 h.2.1 h.2.2.1, hn]
  rfl)
theorem q_bipush (h : bat c k [16, a]) (hv : Reader.signed 8 a = v) : decode c k = .ok (Instr.bipush v, 2) := dq_b _ rfl h.1 (by
  show Except.bind ((Reader.s1 : Decoder Int) c (k + 1)) (fun p => Except.ok (Instr.bipush p.1, p.2)) = _
  rw [dq_s1 h.2.1, hv]
  rfl)
theorem q_sipush (h : bat c k [17, a, b]) (hv : Reader.signed 16 (a * 256 + b) = v) : decode c k = .ok (Instr.sipush v, 3) := dq_b _ rfl h.1 (by
  show Except.bind ((Reader.s2 : Decoder Int) c (k + 1)) (fun p => Except.ok (Instr.sipush p.1, p.2)) = _
  rw [dq_s2 h.2.1 h.2.2.1, hv]
  rfl)
theorem q_goto (h : bat c k [167, a, b]) (hv : Reader.signed 16 (a * 256 + b) = v) : decode c k = .ok (Instr.goto v, 3) := dq_b _ rfl h.1 (by
  show Except.bind ((Reader.s2 : Decoder Int) c (k + 1)) (fun p => Except.ok (Instr.goto p.1, p.2)) = _
  rw [dq_s2 h.2.1 h.2.2.1, hv]
  rfl)
theorem q_ifCond_eq (h : bat c k [153, a, b]) (hv : Reader.signed 16 (a * 256 + b) = v) : decode c k = .ok (Instr.ifCond .eq v, 3) := dq_b _ rfl h.1 (by
  show Except.bind ((Reader.s2 : Decoder Int) c (k + 1)) (fun p => Except.ok (Instr.ifCond .eq p.1, p.2)) = _
  rw [dq_s2 h.2.1 h.2.2.1, hv]
  rfl)
theorem q_if_icmp_eq (h : bat c k [159, a, b]) (hv : Reader.signed 16 (a * 256 + b) = v) : decode c k = .ok (Instr.if_icmp .eq v, 3) := dq_b _ rfl h.1 (by
  show Except.bind ((Reader.s2 : Decoder Int) c (k + 1)) (fun p => Except.ok (Instr.if_icmp .eq p.1, p.2)) = _
  rw [dq_s2 h.2.1 h.2.2.1, hv]
  rfl)
theorem q_ifCond_ne (h : bat c k [154, a, b]) (hv : Reader.signed 16 (a * 256 + b) = v) : decode c k = .ok (Instr.ifCond .ne v, 3) := dq_b _ rfl h.1 (by
  show Except.bind ((Reader.s2 : Decoder Int) c (k + 1)) (fun p => Except.ok (Instr.ifCond .ne p.1, p.2)) = _
  rw [dq_s2 h.2.1 h.2.2.1, hv]
  rfl)
theorem q_if_icmp_ne (h : bat c k [160, a, b]) (hv : Reader.signed 16 (a * 256 + b) = v) : decode c k = .ok (Instr.if_icmp .ne v, 3) := dq_b _ rfl h.1 (by
  show Except.bind ((Reader.s2 : Decoder Int) c (k + 1)) (fun p => Except.ok (Instr.if_icmp .ne p.1, p.2)) = _
  rw [dq_s2 h.2.1 h.2.2.1, hv]
  rfl)
theorem q_ifCond_lt (h : bat c k [155, a, b]) (hv : Reader.signed 16 (a * 256 + b) = v) : decode c k = .ok (Instr.ifCond .lt v, 3) := dq_b _ rfl h.1 (by
  show Except.bind ((Reader.s2 : Decoder Int) c (k + 1)) (fun p => Except.ok (Instr.ifCond .lt p.1, p.2)) = _
  rw [dq_s2 h.2.1 h.2.2.1, hv]
  rfl)
theorem q_if_icmp_lt (h : bat c k [161, a, b]) (hv : Reader.signed 16 (a * 256 + b) = v) : decode c k = .ok (Instr.if_icmp .lt v, 3) := dq_b _ rfl h.1 (by
  show Except.bind ((Reader.s2 : Decoder Int) c (k + 1)) (fun p => Except.ok (Instr.if_icmp .lt p.1, p.2)) = _
  rw [dq_s2 h.2.1 h.2.2.1, hv]
  rfl)
theorem q_ifCond_ge (h : bat c k [156, a, b]) (hv : Reader.signed 16 (a * 256 + b) = v) : decode c k = .ok (Instr.ifCond .ge v, 3) := dq_b _ rfl h.1 (by
  show Except.bind ((Reader.s2 : Decoder Int) c (k + 1)) (fun p => Except.ok (Instr.ifCond .ge p.1, p.2)) = _
  rw [dq_s2 h.2.1 h.2.2.1, hv]
  rfl)
theorem q_if_icmp_ge (h : bat c k [162, a, b]) (hv : Reader.signed 16 (a * 256 + b) = v) : decode c k = .ok (Instr.if_icmp .ge v, 3) := dq_b _ rfl h.1 (by
  show Except.bind ((Reader.s2 : Decoder Int) c (k + 1)) (fun p => Except.ok (Instr.if_icmp .ge p.1, p.2)) = _
  rw [dq_s2 h.2.1 h.2.2.1, hv]
  rfl)
theorem q_ifCond_gt (h : bat c k [157, a, b]) (hv : Reader.signed 16 (a * 256 + b) = v) : decode c k = .ok (Instr.ifCond .gt v, 3) := dq_b _ rfl h.1 (by
  show Except.bind ((Reader.s2 : Decoder Int) c (k + 1)) (fun p => Except.ok (Instr.ifCond .gt p.1, p.2)) = _
  rw [dq_s2 h.2.1 h.2.2.1, hv]
  rfl)
theorem q_if_icmp_gt (h : bat c k [163, a, b]) (hv : Reader.signed 16 (a * 256 + b) = v) : decode c k = .ok (Instr.if_icmp .gt v, 3) := dq_b _ rfl h.1 (by
  show Except.bind ((Reader.s2 : Decoder Int) c (k + 1)) (fun p => Except.ok (Instr.if_icmp .gt p.1, p.2)) = _
  rw [dq_s2 h.2.1 h.2.2.1, hv]
  rfl)
theorem q_ifCond_le (h : bat c k [158, a, b]) (hv : Reader.signed 16 (a * 256 + b) = v) : decode c k = .ok (Instr.ifCond .le v, 3) := dq_b _ rfl h.1 (by
  show Except.bind ((Reader.s2 : Decoder Int) c (k + 1)) (fun p => Except.ok (Instr.ifCond .le p.1, p.2)) = _
  rw [dq_s2 h.2.1 h.2.2.1, hv]
  rfl)
theorem q_if_icmp_le (h : bat c k [164, a, b]) (hv : Reader.signed 16 (a * 256 + b) = v) : decode c k = .ok (Instr.if_icmp .le v, 3) := dq_b _ rfl h.1 (by
  show Except.bind ((Reader.s2 : Decoder Int) c (k + 1)) (fun p => Except.ok (Instr.if_icmp .le p.1, p.2)) = _
  rw [dq_s2 h.2.1 h.2.2.1, hv]
  rfl)
theorem q_newarray_boolean (h : bat c k [188, 4]) : decode c k = .ok (.newarray .boolean, 2) := dq_b _ rfl h.1 (by
  show Except.bind ((Reader.u1 : Decoder Nat) c (k + 1)) _ = _
  rw [h.2.1]
  rfl)
theorem q_newarray_char (h : bat c k [188, 5]) : decode c k = .ok (.newarray .char, 2) := dq_b _ rfl h.1 (by
  show Except.bind ((Reader.u1 : Decoder Nat) c (k + 1)) _ = _
  rw [h.2.1]
  rfl)
theorem q_newarray_int (h : bat c k [188, 10]) : decode c k = .ok (.newarray .int, 2) := dq_b _ rfl h.1 (by
  show Except.bind ((Reader.u1 : Decoder Nat) c (k + 1)) _ = _
  rw [h.2.1]
  rfl)
theorem q_newarray_long (h : bat c k [188, 11]) : decode c k = .ok (.newarray .long, 2) := dq_b _ rfl h.1 (by
  show Except.bind ((Reader.u1 : Decoder Nat) c (k + 1)) _ = _
  rw [h.2.1]
  rfl)
theorem q_iinc (h : bat c k [132, a, b]) (hv : Reader.signed 8 b = v) : decode c k = .ok (.iinc a v, 3) := dq_b _ rfl h.1 (by
  show Except.bind ((Reader.u1 : Decoder Nat) c (k + 1)) (fun p => Except.bind ((Reader.s1 : Decoder Int) c p.2) (fun q => Except.ok (Instr.iinc p.1 q.1, q.2))) = _
  rw [h.2.1]
  show Except.bind ((Reader.s1 : Decoder Int) c (k + 2)) (fun q => Except.ok (Instr.iinc a q.1, q.2)) = _
  rw [dq_s1 h.2.2.1, hv]
  rfl)
end DQ
/-! rows by name -/
abbrev ro_rn (a k : Nat) (x0 : Nat) (x1 : Nat) : Nat × va_E := (a, .inr (k, [.ref x0, .int (nI x1)]))
abbrev ro_rrrrnn (a k : Nat) (x0 : Nat) (x1 : Nat) (x2 : Nat) (x3 : Nat) (x4 : Nat) (x5 : Nat) : Nat × va_E := (a, .inr (k, [.ref x0, .ref x1, .ref x2, .ref x3, .int (nI x4), .int (nI x5)]))
abbrev ro_rrrrin (a k : Nat) (x0 : Nat) (x1 : Nat) (x2 : Nat) (x3 : Nat) (x4 : Int32) (x5 : Nat) : Nat × va_E := (a, .inr (k, [.ref x0, .ref x1, .ref x2, .ref x3, .int x4, .int (nI x5)]))
abbrev ro_rrrrii (a k : Nat) (x0 : Nat) (x1 : Nat) (x2 : Nat) (x3 : Nat) (x4 : Int32) (x5 : Int32) : Nat × va_E := (a, .inr (k, [.ref x0, .ref x1, .ref x2, .ref x3, .int x4, .int x5]))
abbrev ro_rrninii (a k : Nat) (x0 : Nat) (x1 : Nat) (x2 : Nat) (x3 : Int32) (x4 : Nat) (x5 : Int32) (x6 : Int32) : Nat × va_E := (a, .inr (k, [.ref x0, .ref x1, .int (nI x2), .int x3, .int (nI x4), .int x5, .int x6]))
abbrev ro_rrrrrnniin (a k : Nat) (x0 : Nat) (x1 : Nat) (x2 : Nat) (x3 : Nat) (x4 : Nat) (x5 : Nat) (x6 : Nat) (x7 : Int32) (x8 : Int32) (x9 : Nat) : Nat × va_E := (a, .inr (k, [.ref x0, .ref x1, .ref x2, .ref x3, .ref x4, .int (nI x5), .int (nI x6), .int x7, .int x8, .int (nI x9)]))
abbrev ro_rrrrrr (a k : Nat) (x0 : Nat) (x1 : Nat) (x2 : Nat) (x3 : Nat) (x4 : Nat) (x5 : Nat) : Nat × va_E := (a, .inr (k, [.ref x0, .ref x1, .ref x2, .ref x3, .ref x4, .ref x5]))
abbrev ro_rrrrrrrnn (a k : Nat) (x0 : Nat) (x1 : Nat) (x2 : Nat) (x3 : Nat) (x4 : Nat) (x5 : Nat) (x6 : Nat) (x7 : Nat) (x8 : Nat) : Nat × va_E := (a, .inr (k, [.ref x0, .ref x1, .ref x2, .ref x3, .ref x4, .ref x5, .ref x6, .int (nI x7), .int (nI x8)]))
abbrev ro_rnininii (a k : Nat) (x0 : Nat) (x1 : Nat) (x2 : Int32) (x3 : Nat) (x4 : Int32) (x5 : Nat) (x6 : Int32) (x7 : Int32) : Nat × va_E := (a, .inr (k, [.ref x0, .int (nI x1), .int x2, .int (nI x3), .int x4, .int (nI x5), .int x6, .int x7]))
abbrev ro_rninnnii (a k : Nat) (x0 : Nat) (x1 : Nat) (x2 : Int32) (x3 : Nat) (x4 : Nat) (x5 : Nat) (x6 : Int32) (x7 : Int32) : Nat × va_E := (a, .inr (k, [.ref x0, .int (nI x1), .int x2, .int (nI x3), .int (nI x4), .int (nI x5), .int x6, .int x7]))
abbrev ro_riininii (a k : Nat) (x0 : Nat) (x1 : Int32) (x2 : Int32) (x3 : Nat) (x4 : Int32) (x5 : Nat) (x6 : Int32) (x7 : Int32) : Nat × va_E := (a, .inr (k, [.ref x0, .int x1, .int x2, .int (nI x3), .int x4, .int (nI x5), .int x6, .int x7]))
abbrev ro_riiiinii (a k : Nat) (x0 : Nat) (x1 : Int32) (x2 : Int32) (x3 : Int32) (x4 : Int32) (x5 : Nat) (x6 : Int32) (x7 : Int32) : Nat × va_E := (a, .inr (k, [.ref x0, .int x1, .int x2, .int x3, .int x4, .int (nI x5), .int x6, .int x7]))
abbrev ro_rniiinii (a k : Nat) (x0 : Nat) (x1 : Nat) (x2 : Int32) (x3 : Int32) (x4 : Int32) (x5 : Nat) (x6 : Int32) (x7 : Int32) : Nat × va_E := (a, .inr (k, [.ref x0, .int (nI x1), .int x2, .int x3, .int x4, .int (nI x5), .int x6, .int x7]))
abbrev ro_rnnninii (a k : Nat) (x0 : Nat) (x1 : Nat) (x2 : Nat) (x3 : Nat) (x4 : Int32) (x5 : Nat) (x6 : Int32) (x7 : Int32) : Nat × va_E := (a, .inr (k, [.ref x0, .int (nI x1), .int (nI x2), .int (nI x3), .int x4, .int (nI x5), .int x6, .int x7]))
abbrev ro_ri (a k : Nat) (x0 : Nat) (x1 : Int32) : Nat × va_E := (a, .inr (k, [.ref x0, .int x1]))
abbrev ro_rrrrrnniii (a k : Nat) (x0 : Nat) (x1 : Nat) (x2 : Nat) (x3 : Nat) (x4 : Nat) (x5 : Nat) (x6 : Nat) (x7 : Int32) (x8 : Int32) (x9 : Int32) : Nat × va_E := (a, .inr (k, [.ref x0, .ref x1, .ref x2, .ref x3, .ref x4, .int (nI x5), .int (nI x6), .int x7, .int x8, .int x9]))
abbrev ro_rrr (a k : Nat) (x0 : Nat) (x1 : Nat) (x2 : Nat) : Nat × va_E := (a, .inr (k, [.ref x0, .ref x1, .ref x2]))
abbrev ro_rrrrrnninn (a k : Nat) (x0 : Nat) (x1 : Nat) (x2 : Nat) (x3 : Nat) (x4 : Nat) (x5 : Nat) (x6 : Nat) (x7 : Int32) (x8 : Nat) (x9 : Nat) : Nat × va_E := (a, .inr (k, [.ref x0, .ref x1, .ref x2, .ref x3, .ref x4, .int (nI x5), .int (nI x6), .int x7, .int (nI x8), .int (nI x9)]))
abbrev ro_rrri (a k : Nat) (x0 : Nat) (x1 : Nat) (x2 : Nat) (x3 : Int32) : Nat × va_E := (a, .inr (k, [.ref x0, .ref x1, .ref x2, .int x3]))
abbrev ro_rnininni (a k : Nat) (x0 : Nat) (x1 : Nat) (x2 : Int32) (x3 : Nat) (x4 : Int32) (x5 : Nat) (x6 : Nat) (x7 : Int32) : Nat × va_E := (a, .inr (k, [.ref x0, .int (nI x1), .int x2, .int (nI x3), .int x4, .int (nI x5), .int (nI x6), .int x7]))
abbrev ro_rnininnn (a k : Nat) (x0 : Nat) (x1 : Nat) (x2 : Int32) (x3 : Nat) (x4 : Int32) (x5 : Nat) (x6 : Nat) (x7 : Nat) : Nat × va_E := (a, .inr (k, [.ref x0, .int (nI x1), .int x2, .int (nI x3), .int x4, .int (nI x5), .int (nI x6), .int (nI x7)]))
abbrev ro_rrnnnin (a k : Nat) (x0 : Nat) (x1 : Nat) (x2 : Nat) (x3 : Nat) (x4 : Nat) (x5 : Int32) (x6 : Nat) : Nat × va_E := (a, .inr (k, [.ref x0, .ref x1, .int (nI x2), .int (nI x3), .int (nI x4), .int x5, .int (nI x6)]))
abbrev ro_rrrrrrrrrrrrrrrirl (a k : Nat) (x0 : Nat) (x1 : Nat) (x2 : Nat) (x3 : Nat) (x4 : Nat) (x5 : Nat) (x6 : Nat) (x7 : Nat) (x8 : Nat) (x9 : Nat) (x10 : Nat) (x11 : Nat) (x12 : Nat) (x13 : Nat) (x14 : Nat) (x15 : Int32) (x16 : Nat) (x17 : Int64) : Nat × va_E := (a, .inr (k, [.ref x0, .ref x1, .ref x2, .ref x3, .ref x4, .ref x5, .ref x6, .ref x7, .ref x8, .ref x9, .ref x10, .ref x11, .ref x12, .ref x13, .ref x14, .int x15, .ref x16, .long x17]))
abbrev ro_rirrr (a k : Nat) (x0 : Nat) (x1 : Int32) (x2 : Nat) (x3 : Nat) (x4 : Nat) : Nat × va_E := (a, .inr (k, [.ref x0, .int x1, .ref x2, .ref x3, .ref x4]))
abbrev ro_rnrrr (a k : Nat) (x0 : Nat) (x1 : Nat) (x2 : Nat) (x3 : Nat) (x4 : Nat) : Nat × va_E := (a, .inr (k, [.ref x0, .int (nI x1), .ref x2, .ref x3, .ref x4]))
abbrev ro_rrrrrrrrrrrrrrrnrl (a k : Nat) (x0 : Nat) (x1 : Nat) (x2 : Nat) (x3 : Nat) (x4 : Nat) (x5 : Nat) (x6 : Nat) (x7 : Nat) (x8 : Nat) (x9 : Nat) (x10 : Nat) (x11 : Nat) (x12 : Nat) (x13 : Nat) (x14 : Nat) (x15 : Nat) (x16 : Nat) (x17 : Int64) : Nat × va_E := (a, .inr (k, [.ref x0, .ref x1, .ref x2, .ref x3, .ref x4, .ref x5, .ref x6, .ref x7, .ref x8, .ref x9, .ref x10, .ref x11, .ref x12, .ref x13, .ref x14, .int (nI x15), .ref x16, .long x17]))
abbrev ro_rrnnnii (a k : Nat) (x0 : Nat) (x1 : Nat) (x2 : Nat) (x3 : Nat) (x4 : Nat) (x5 : Int32) (x6 : Int32) : Nat × va_E := (a, .inr (k, [.ref x0, .ref x1, .int (nI x2), .int (nI x3), .int (nI x4), .int x5, .int x6]))
abbrev ro_rrnnnnn (a k : Nat) (x0 : Nat) (x1 : Nat) (x2 : Nat) (x3 : Nat) (x4 : Nat) (x5 : Nat) (x6 : Nat) : Nat × va_E := (a, .inr (k, [.ref x0, .ref x1, .int (nI x2), .int (nI x3), .int (nI x4), .int (nI x5), .int (nI x6)]))
abbrev ro_zi (a k : Nat) (x1 : Int32) : Nat × va_E := (a, .inr (k, [.null, .int x1]))
abbrev ro_zziiiii (a k : Nat) (x2 : Int32) (x3 : Int32) (x4 : Int32) (x5 : Int32) (x6 : Int32) : Nat × va_E := (a, .inr (k, [.null, .null, .int x2, .int x3, .int x4, .int x5, .int x6]))
abbrev ro_rziiiii (a k : Nat) (x0 : Nat) (x2 : Int32) (x3 : Int32) (x4 : Int32) (x5 : Int32) (x6 : Int32) : Nat × va_E := (a, .inr (k, [.ref x0, .null, .int x2, .int x3, .int x4, .int x5, .int x6]))
abbrev ro_rriiiii (a k : Nat) (x0 : Nat) (x1 : Nat) (x2 : Int32) (x3 : Int32) (x4 : Int32) (x5 : Int32) (x6 : Int32) : Nat × va_E := (a, .inr (k, [.ref x0, .ref x1, .int x2, .int x3, .int x4, .int x5, .int x6]))
abbrev ro_zzzzii (a k : Nat) (x4 : Int32) (x5 : Int32) : Nat × va_E := (a, .inr (k, [.null, .null, .null, .null, .int x4, .int x5]))
abbrev ro_rzzzii (a k : Nat) (x0 : Nat) (x4 : Int32) (x5 : Int32) : Nat × va_E := (a, .inr (k, [.ref x0, .null, .null, .null, .int x4, .int x5]))
abbrev ro_rrzzii (a k : Nat) (x0 : Nat) (x1 : Nat) (x4 : Int32) (x5 : Int32) : Nat × va_E := (a, .inr (k, [.ref x0, .ref x1, .null, .null, .int x4, .int x5]))
abbrev ro_rrrzii (a k : Nat) (x0 : Nat) (x1 : Nat) (x2 : Nat) (x4 : Int32) (x5 : Int32) : Nat × va_E := (a, .inr (k, [.ref x0, .ref x1, .ref x2, .null, .int x4, .int x5]))
abbrev ro_ziiiiiii (a k : Nat) (x1 : Int32) (x2 : Int32) (x3 : Int32) (x4 : Int32) (x5 : Int32) (x6 : Int32) (x7 : Int32) : Nat × va_E := (a, .inr (k, [.null, .int x1, .int x2, .int x3, .int x4, .int x5, .int x6, .int x7]))
abbrev ro_riiiiiii (a k : Nat) (x0 : Nat) (x1 : Int32) (x2 : Int32) (x3 : Int32) (x4 : Int32) (x5 : Int32) (x6 : Int32) (x7 : Int32) : Nat × va_E := (a, .inr (k, [.ref x0, .int x1, .int x2, .int x3, .int x4, .int x5, .int x6, .int x7]))
abbrev ro_rzz (a k : Nat) (x0 : Nat) : Nat × va_E := (a, .inr (k, [.ref x0, .null, .null]))
abbrev ro_rrz (a k : Nat) (x0 : Nat) (x1 : Nat) : Nat × va_E := (a, .inr (k, [.ref x0, .ref x1, .null]))
abbrev ro_zzz (a k : Nat) : Nat × va_E := (a, .inr (k, [.null, .null, .null]))
abbrev ro_zzzi (a k : Nat) (x3 : Int32) : Nat × va_E := (a, .inr (k, [.null, .null, .null, .int x3]))
abbrev ro_zzri (a k : Nat) (x2 : Nat) (x3 : Int32) : Nat × va_E := (a, .inr (k, [.null, .null, .ref x2, .int x3]))
abbrev ro_rzri (a k : Nat) (x0 : Nat) (x2 : Nat) (x3 : Int32) : Nat × va_E := (a, .inr (k, [.ref x0, .null, .ref x2, .int x3]))
abbrev ro_zzzzziiiii (a k : Nat) (x5 : Int32) (x6 : Int32) (x7 : Int32) (x8 : Int32) (x9 : Int32) : Nat × va_E := (a, .inr (k, [.null, .null, .null, .null, .null, .int x5, .int x6, .int x7, .int x8, .int x9]))
abbrev ro_rzzzziiiii (a k : Nat) (x0 : Nat) (x5 : Int32) (x6 : Int32) (x7 : Int32) (x8 : Int32) (x9 : Int32) : Nat × va_E := (a, .inr (k, [.ref x0, .null, .null, .null, .null, .int x5, .int x6, .int x7, .int x8, .int x9]))
abbrev ro_rrzzziiiii (a k : Nat) (x0 : Nat) (x1 : Nat) (x5 : Int32) (x6 : Int32) (x7 : Int32) (x8 : Int32) (x9 : Int32) : Nat × va_E := (a, .inr (k, [.ref x0, .ref x1, .null, .null, .null, .int x5, .int x6, .int x7, .int x8, .int x9]))
abbrev ro_rrrzziiiii (a k : Nat) (x0 : Nat) (x1 : Nat) (x2 : Nat) (x5 : Int32) (x6 : Int32) (x7 : Int32) (x8 : Int32) (x9 : Int32) : Nat × va_E := (a, .inr (k, [.ref x0, .ref x1, .ref x2, .null, .null, .int x5, .int x6, .int x7, .int x8, .int x9]))
abbrev ro_rrrrziiiii (a k : Nat) (x0 : Nat) (x1 : Nat) (x2 : Nat) (x3 : Nat) (x5 : Int32) (x6 : Int32) (x7 : Int32) (x8 : Int32) (x9 : Int32) : Nat × va_E := (a, .inr (k, [.ref x0, .ref x1, .ref x2, .ref x3, .null, .int x5, .int x6, .int x7, .int x8, .int x9]))
abbrev ro_rrrrriiiii (a k : Nat) (x0 : Nat) (x1 : Nat) (x2 : Nat) (x3 : Nat) (x4 : Nat) (x5 : Int32) (x6 : Int32) (x7 : Int32) (x8 : Int32) (x9 : Int32) : Nat × va_E := (a, .inr (k, [.ref x0, .ref x1, .ref x2, .ref x3, .ref x4, .int x5, .int x6, .int x7, .int x8, .int x9]))
abbrev ro_zzzzzz (a k : Nat) : Nat × va_E := (a, .inr (k, [.null, .null, .null, .null, .null, .null]))
abbrev ro_rzzzzz (a k : Nat) (x0 : Nat) : Nat × va_E := (a, .inr (k, [.ref x0, .null, .null, .null, .null, .null]))
abbrev ro_rrzzzz (a k : Nat) (x0 : Nat) (x1 : Nat) : Nat × va_E := (a, .inr (k, [.ref x0, .ref x1, .null, .null, .null, .null]))
abbrev ro_rrrzzz (a k : Nat) (x0 : Nat) (x1 : Nat) (x2 : Nat) : Nat × va_E := (a, .inr (k, [.ref x0, .ref x1, .ref x2, .null, .null, .null]))
abbrev ro_rrrrzz (a k : Nat) (x0 : Nat) (x1 : Nat) (x2 : Nat) (x3 : Nat) : Nat × va_E := (a, .inr (k, [.ref x0, .ref x1, .ref x2, .ref x3, .null, .null]))
abbrev ro_rrrrrz (a k : Nat) (x0 : Nat) (x1 : Nat) (x2 : Nat) (x3 : Nat) (x4 : Nat) : Nat × va_E := (a, .inr (k, [.ref x0, .ref x1, .ref x2, .ref x3, .ref x4, .null]))
abbrev ro_zzzzzzzii (a k : Nat) (x7 : Int32) (x8 : Int32) : Nat × va_E := (a, .inr (k, [.null, .null, .null, .null, .null, .null, .null, .int x7, .int x8]))
abbrev ro_zrzzzzzii (a k : Nat) (x1 : Nat) (x7 : Int32) (x8 : Int32) : Nat × va_E := (a, .inr (k, [.null, .ref x1, .null, .null, .null, .null, .null, .int x7, .int x8]))
abbrev ro_zrrzzzzii (a k : Nat) (x1 : Nat) (x2 : Nat) (x7 : Int32) (x8 : Int32) : Nat × va_E := (a, .inr (k, [.null, .ref x1, .ref x2, .null, .null, .null, .null, .int x7, .int x8]))
abbrev ro_zrrrzzzii (a k : Nat) (x1 : Nat) (x2 : Nat) (x3 : Nat) (x7 : Int32) (x8 : Int32) : Nat × va_E := (a, .inr (k, [.null, .ref x1, .ref x2, .ref x3, .null, .null, .null, .int x7, .int x8]))
abbrev ro_zrrrrzzii (a k : Nat) (x1 : Nat) (x2 : Nat) (x3 : Nat) (x4 : Nat) (x7 : Int32) (x8 : Int32) : Nat × va_E := (a, .inr (k, [.null, .ref x1, .ref x2, .ref x3, .ref x4, .null, .null, .int x7, .int x8]))
abbrev ro_zrrrrrzii (a k : Nat) (x1 : Nat) (x2 : Nat) (x3 : Nat) (x4 : Nat) (x5 : Nat) (x7 : Int32) (x8 : Int32) : Nat × va_E := (a, .inr (k, [.null, .ref x1, .ref x2, .ref x3, .ref x4, .ref x5, .null, .int x7, .int x8]))
abbrev ro_zrrrrrrii (a k : Nat) (x1 : Nat) (x2 : Nat) (x3 : Nat) (x4 : Nat) (x5 : Nat) (x6 : Nat) (x7 : Int32) (x8 : Int32) : Nat × va_E := (a, .inr (k, [.null, .ref x1, .ref x2, .ref x3, .ref x4, .ref x5, .ref x6, .int x7, .int x8]))
abbrev ro_rrrrrrrii (a k : Nat) (x0 : Nat) (x1 : Nat) (x2 : Nat) (x3 : Nat) (x4 : Nat) (x5 : Nat) (x6 : Nat) (x7 : Int32) (x8 : Int32) : Nat × va_E := (a, .inr (k, [.ref x0, .ref x1, .ref x2, .ref x3, .ref x4, .ref x5, .ref x6, .int x7, .int x8]))
abbrev ro_zizzz (a k : Nat) (x1 : Int32) : Nat × va_E := (a, .inr (k, [.null, .int x1, .null, .null, .null]))
abbrev ro_rizzz (a k : Nat) (x0 : Nat) (x1 : Int32) : Nat × va_E := (a, .inr (k, [.ref x0, .int x1, .null, .null, .null]))
abbrev ro_rirzz (a k : Nat) (x0 : Nat) (x1 : Int32) (x2 : Nat) : Nat × va_E := (a, .inr (k, [.ref x0, .int x1, .ref x2, .null, .null]))
abbrev ro_rirrz (a k : Nat) (x0 : Nat) (x1 : Int32) (x2 : Nat) (x3 : Nat) : Nat × va_E := (a, .inr (k, [.ref x0, .int x1, .ref x2, .ref x3, .null]))
abbrev ro_zzzzzzzzzzzzzzzizl (a k : Nat) (x15 : Int32) (x17 : Int64) : Nat × va_E := (a, .inr (k, [.null, .null, .null, .null, .null, .null, .null, .null, .null, .null, .null, .null, .null, .null, .null, .int x15, .null, .long x17]))
abbrev ro_rzzzzzzzzzzzzzzizl (a k : Nat) (x0 : Nat) (x15 : Int32) (x17 : Int64) : Nat × va_E := (a, .inr (k, [.ref x0, .null, .null, .null, .null, .null, .null, .null, .null, .null, .null, .null, .null, .null, .null, .int x15, .null, .long x17]))
abbrev ro_rrzzzzzzzzzzzzzizl (a k : Nat) (x0 : Nat) (x1 : Nat) (x15 : Int32) (x17 : Int64) : Nat × va_E := (a, .inr (k, [.ref x0, .ref x1, .null, .null, .null, .null, .null, .null, .null, .null, .null, .null, .null, .null, .null, .int x15, .null, .long x17]))
abbrev ro_rrrzzzzzzzzzzzzizl (a k : Nat) (x0 : Nat) (x1 : Nat) (x2 : Nat) (x15 : Int32) (x17 : Int64) : Nat × va_E := (a, .inr (k, [.ref x0, .ref x1, .ref x2, .null, .null, .null, .null, .null, .null, .null, .null, .null, .null, .null, .null, .int x15, .null, .long x17]))
abbrev ro_rrrrzzzzzzzzzzzizl (a k : Nat) (x0 : Nat) (x1 : Nat) (x2 : Nat) (x3 : Nat) (x15 : Int32) (x17 : Int64) : Nat × va_E := (a, .inr (k, [.ref x0, .ref x1, .ref x2, .ref x3, .null, .null, .null, .null, .null, .null, .null, .null, .null, .null, .null, .int x15, .null, .long x17]))
abbrev ro_rrrrrzzzzzzzzzzizl (a k : Nat) (x0 : Nat) (x1 : Nat) (x2 : Nat) (x3 : Nat) (x4 : Nat) (x15 : Int32) (x17 : Int64) : Nat × va_E := (a, .inr (k, [.ref x0, .ref x1, .ref x2, .ref x3, .ref x4, .null, .null, .null, .null, .null, .null, .null, .null, .null, .null, .int x15, .null, .long x17]))
abbrev ro_rrrrrrzzzzzzzzzizl (a k : Nat) (x0 : Nat) (x1 : Nat) (x2 : Nat) (x3 : Nat) (x4 : Nat) (x5 : Nat) (x15 : Int32) (x17 : Int64) : Nat × va_E := (a, .inr (k, [.ref x0, .ref x1, .ref x2, .ref x3, .ref x4, .ref x5, .null, .null, .null, .null, .null, .null, .null, .null, .null, .int x15, .null, .long x17]))
abbrev ro_rrrrrrrzzzzzzzzizl (a k : Nat) (x0 : Nat) (x1 : Nat) (x2 : Nat) (x3 : Nat) (x4 : Nat) (x5 : Nat) (x6 : Nat) (x15 : Int32) (x17 : Int64) : Nat × va_E := (a, .inr (k, [.ref x0, .ref x1, .ref x2, .ref x3, .ref x4, .ref x5, .ref x6, .null, .null, .null, .null, .null, .null, .null, .null, .int x15, .null, .long x17]))
abbrev ro_rrrrrrrrzzzzzzzizl (a k : Nat) (x0 : Nat) (x1 : Nat) (x2 : Nat) (x3 : Nat) (x4 : Nat) (x5 : Nat) (x6 : Nat) (x7 : Nat) (x15 : Int32) (x17 : Int64) : Nat × va_E := (a, .inr (k, [.ref x0, .ref x1, .ref x2, .ref x3, .ref x4, .ref x5, .ref x6, .ref x7, .null, .null, .null, .null, .null, .null, .null, .int x15, .null, .long x17]))
abbrev ro_rrrrrrrrrzzzzzzizl (a k : Nat) (x0 : Nat) (x1 : Nat) (x2 : Nat) (x3 : Nat) (x4 : Nat) (x5 : Nat) (x6 : Nat) (x7 : Nat) (x8 : Nat) (x15 : Int32) (x17 : Int64) : Nat × va_E := (a, .inr (k, [.ref x0, .ref x1, .ref x2, .ref x3, .ref x4, .ref x5, .ref x6, .ref x7, .ref x8, .null, .null, .null, .null, .null, .null, .int x15, .null, .long x17]))
abbrev ro_rrrrrrrrrrzzzzzizl (a k : Nat) (x0 : Nat) (x1 : Nat) (x2 : Nat) (x3 : Nat) (x4 : Nat) (x5 : Nat) (x6 : Nat) (x7 : Nat) (x8 : Nat) (x9 : Nat) (x15 : Int32) (x17 : Int64) : Nat × va_E := (a, .inr (k, [.ref x0, .ref x1, .ref x2, .ref x3, .ref x4, .ref x5, .ref x6, .ref x7, .ref x8, .ref x9, .null, .null, .null, .null, .null, .int x15, .null, .long x17]))
abbrev ro_rrrrrrrrrrrzzzzizl (a k : Nat) (x0 : Nat) (x1 : Nat) (x2 : Nat) (x3 : Nat) (x4 : Nat) (x5 : Nat) (x6 : Nat) (x7 : Nat) (x8 : Nat) (x9 : Nat) (x10 : Nat) (x15 : Int32) (x17 : Int64) : Nat × va_E := (a, .inr (k, [.ref x0, .ref x1, .ref x2, .ref x3, .ref x4, .ref x5, .ref x6, .ref x7, .ref x8, .ref x9, .ref x10, .null, .null, .null, .null, .int x15, .null, .long x17]))
abbrev ro_rrrrrrrrrrrrzzzizl (a k : Nat) (x0 : Nat) (x1 : Nat) (x2 : Nat) (x3 : Nat) (x4 : Nat) (x5 : Nat) (x6 : Nat) (x7 : Nat) (x8 : Nat) (x9 : Nat) (x10 : Nat) (x11 : Nat) (x15 : Int32) (x17 : Int64) : Nat × va_E := (a, .inr (k, [.ref x0, .ref x1, .ref x2, .ref x3, .ref x4, .ref x5, .ref x6, .ref x7, .ref x8, .ref x9, .ref x10, .ref x11, .null, .null, .null, .int x15, .null, .long x17]))
abbrev ro_rrrrrrrrrrrrrzzizl (a k : Nat) (x0 : Nat) (x1 : Nat) (x2 : Nat) (x3 : Nat) (x4 : Nat) (x5 : Nat) (x6 : Nat) (x7 : Nat) (x8 : Nat) (x9 : Nat) (x10 : Nat) (x11 : Nat) (x12 : Nat) (x15 : Int32) (x17 : Int64) : Nat × va_E := (a, .inr (k, [.ref x0, .ref x1, .ref x2, .ref x3, .ref x4, .ref x5, .ref x6, .ref x7, .ref x8, .ref x9, .ref x10, .ref x11, .ref x12, .null, .null, .int x15, .null, .long x17]))
abbrev ro_rrrrrrrrrrrrrrzizl (a k : Nat) (x0 : Nat) (x1 : Nat) (x2 : Nat) (x3 : Nat) (x4 : Nat) (x5 : Nat) (x6 : Nat) (x7 : Nat) (x8 : Nat) (x9 : Nat) (x10 : Nat) (x11 : Nat) (x12 : Nat) (x13 : Nat) (x15 : Int32) (x17 : Int64) : Nat × va_E := (a, .inr (k, [.ref x0, .ref x1, .ref x2, .ref x3, .ref x4, .ref x5, .ref x6, .ref x7, .ref x8, .ref x9, .ref x10, .ref x11, .ref x12, .ref x13, .null, .int x15, .null, .long x17]))
abbrev ro_rrrrrrrrrrrrrrrizl (a k : Nat) (x0 : Nat) (x1 : Nat) (x2 : Nat) (x3 : Nat) (x4 : Nat) (x5 : Nat) (x6 : Nat) (x7 : Nat) (x8 : Nat) (x9 : Nat) (x10 : Nat) (x11 : Nat) (x12 : Nat) (x13 : Nat) (x14 : Nat) (x15 : Int32) (x17 : Int64) : Nat × va_E := (a, .inr (k, [.ref x0, .ref x1, .ref x2, .ref x3, .ref x4, .ref x5, .ref x6, .ref x7, .ref x8, .ref x9, .ref x10, .ref x11, .ref x12, .ref x13, .ref x14, .int x15, .null, .long x17]))
/-! none of the methods walked is a row of the natives -/
def pfL0 : List MethodName := [yX10_add, yX10_left, yX10_checkOf, yX10_addNumber, yX0_clear, yX0_add, yX0_name, yX0_nameCount, yX0_ofOne, yX0_bounded, yJ9_floorDiv_f86c9, yX0_ofTwo, yJ9_floorMod_f86c9, yJ9_floorMod_1978a, yX0_run, yX7_copy, yX7_begin, yX7_isMute, yX7_amount, yX7_put, yJ7_fill_53178, yJ7_fill_d0a16, yX9_moodsBehind, yX9_moodsThatSay, yX9_forget, yX9_nameDay, yX9_fillWords, yX9_fillDeeds, yX9_fit, yJ6_numberOfTrailingZeros_0f7a4, yX1_next, yX1_allowOnly, yX1_lay, yX1_settle, yX1_moodsOf, yX1_takeFirst, yX1_countWays, yX1_countComings, yX1_timesOf, yX1_mostLeft]
def pfL1 : List MethodName := [yX1_takeNumbered, yX1_gainBy, yX1_bestPay, yX1_takeBestPaid, yJ3_checkIndex_8e157, yJ0_checkIndex_df160, yJ1_charAt_3b067, yJ0_coder_7d493, yJ0_isLatin1_aae02, yJ0_length_8abf5, yJ0_charAt_5068e, yX6_fail, yX6_failHere, yX6_readNumber, yX6_readWord, yX6_step, yX6_begin, yX6_needs, yX6_takes, yX6_takeNumber, yX6_opens, yX6_shuts, yX8_nameInLock, yX8_nameInQuestion, yX8_readPair, yX8_readPart, yX8_readProduct, yX8_readSum, yX8_read, yX2_clear, yX2_hasSum, yX2_beginSum, yX2_endSum, yX2_addUntold, yX3_readOpening, yX3_readAmount, yX3_readMute, yX3_readNumbers, yX3_readSumOf, yX3_read]
def pfL2 : List MethodName := [yX5_stepOf, yX5_readFact, yX5_readBoth, yX5_readTest, yX5_read, yX5_isOfDays, yX5_joined, yX5_nameDay, yX5_answer, yX11_isDay, yX11_isDigit, yX11_isWordOf, yX11_fault, yJ6_bitCount_0f7a4, yX4_forget, yX11_isAtRest, yX11_serves, yX11_same, yX11_tellsImage, yX11_lookAt, yX11_draw, yX4_keep, yX11_pass, yX4_save, yX4_restore, yX11_passByChance, yX11_isLocked, yX11_refuse, yX11_refuseIt, yX11_status, yX11_day, yX4_toldOf, yX11_has, yX4_ofKept, yX11_kept, yX11_told, yX11_does, yX11_weeks, yX11_takeWeek, yX11_mood]
def pfL3 : List MethodName := [yX11_many, yX11_fewest, yX11_hushed, yX11_wished, yX11_rest, yX11_lies, yX11_stepAhead, yX11_later, yX11_ring, yX11_frees, yX11_pay, yX11_paid, yX11_unlike, yX11_lookByWord, yX11_lookByHeard, yX11_known, yX11_sure, yX11_heard, yX11_tells, yX11_ask, yX11_feed, yX11_end, yX11_seed, yX11_octet, yX11_image, yX11_tellsRows, yX11_hear, yX11_set, yX11_mute, yX11_undo, yX11_go, yX11_chance, yX11_on, yX11_lock, yX10_init, yX7_init, yX0_init, yX8_init, yX6_init, yX3_init]
def pfL4 : List MethodName := [yX5_init, yX2_init, yX9_init, yX1_init, yX4_init, yX11_init, yX12_isIn, yX12_isLetter, yX12_isDigit, yX12_dayMany, yX12_isDay, yX12_isMood, yX12_bargeOf, yX12_wetOf, yX12_isMute, yX12_byTen, yX12_qClip, yX12_qFloor, yX12_bits, yX12_qPuts, yX12_qJoins, yX12_qPartOf, yX12_codesTell, yX12_wordOf, yX12_becomesBy, yX12_wageOf, yX12_laysDays, yX12_isMuteNow, yX12_isLeft, yX12_canFollow, yX12_laysWays, yX12_walksTo, yX12_laysAll, yX12_doesAgree, yX12_does, yX12_many, yX12_hushed, yX12_wished, yX12_lies, yX12_laysPay]
def pfL5 : List MethodName := [yX12_bestBehind, yX12_pay, yX12_paid, yX12_laysRest, yX12_isRest, yX12_rest, yX12_unlike, yX12_laysByWord, yX12_laysHeard, yX12_moodsOf, yX12_canBeTold, yX12_known, yX12_sure, yX12_refuses, yX12_heard, yX12_tells, yX12_same, yX12_checked, yX12_isImage, yX12_fault, yX12_isKept, yX12_goesBy, yX12_muteSet, yX12_has, yX12_day, yX12_told, yX12_kept, yX12_weeks, yX12_mood, yX12_feed, yX12_end, yX12_seed, yX12_status, yX12_keeps, yX12_undo, yX12_becomes, yX12_set, yX12_mute, yX12_isAhead, yX12_go]
def pfL6 : List MethodName := [yX12_drawOf, yX12_drawsDays, yX12_chance, yX12_octet, yX12_writes, yX12_image, yX12_on, yX12_hear, yX12_putsAside, yX12_takesBack, yX12_doGo, yX12_later, yX12_ring, yX12_frees, yX12_fail, yX12_look, yX12_isHere, yX12_takes, yX12_asks, yX12_takesSign, yX12_asksSign, yX12_number, yX12_isAllowed, yX12_qWordHere, yX12_qWordOf, yX12_qAsksWord, yX12_qCode, yX12_qOpens, yX12_qIsOn, yX12_qDrops, yX12_qIsBracket, yX12_qBracket, yX12_qDropsToBracket, yX12_qEndsPart, yX12_qPartTold, yX12_qGoesOn, yX12_qSums, yX12_qFact, yX12_qHasSquare, yX12_qDropsNots]
def pfL7 : List MethodName := [yX12_qGoesOnTest, yX12_qTest, yX12_lockTold, yX12_dayTold, yX12_muteTold, yX12_codesTold, yX12_statementTold, yX12_qOf, yX12_qTold, yX12_qTakes, yX12_qKind, yX12_ask, yX12_stands, yX12_lock]
def pfL : List MethodName := pfL0 ++ (pfL1 ++ (pfL2 ++ (pfL3 ++ (pfL4 ++ (pfL5 ++ (pfL6 ++ (pfL7)))))))
set_option maxRecDepth 100000 in
theorem pf_all : pfL.all plainFor = true := by decide +kernel
theorem pf_c0 : ∀ y ∈ pfL0, plainFor y = true := fun y h => List.all_eq_true.mp pf_all y (List.mem_append_left _ h)
theorem pf_c1 : ∀ y ∈ pfL1, plainFor y = true := fun y h => List.all_eq_true.mp pf_all y (List.mem_append_right _ (List.mem_append_left _ h))
theorem pf_c2 : ∀ y ∈ pfL2, plainFor y = true := fun y h => List.all_eq_true.mp pf_all y (List.mem_append_right _ (List.mem_append_right _ (List.mem_append_left _ h)))
theorem pf_c3 : ∀ y ∈ pfL3, plainFor y = true := fun y h => List.all_eq_true.mp pf_all y (List.mem_append_right _ (List.mem_append_right _ (List.mem_append_right _ (List.mem_append_left _ h))))
theorem pf_c4 : ∀ y ∈ pfL4, plainFor y = true := fun y h => List.all_eq_true.mp pf_all y (List.mem_append_right _ (List.mem_append_right _ (List.mem_append_right _ (List.mem_append_right _ (List.mem_append_left _ h)))))
theorem pf_c5 : ∀ y ∈ pfL5, plainFor y = true := fun y h => List.all_eq_true.mp pf_all y (List.mem_append_right _ (List.mem_append_right _ (List.mem_append_right _ (List.mem_append_right _ (List.mem_append_right _ (List.mem_append_left _ h))))))
theorem pf_c6 : ∀ y ∈ pfL6, plainFor y = true := fun y h => List.all_eq_true.mp pf_all y (List.mem_append_right _ (List.mem_append_right _ (List.mem_append_right _ (List.mem_append_right _ (List.mem_append_right _ (List.mem_append_right _ (List.mem_append_left _ h)))))))
theorem pf_c7 : ∀ y ∈ pfL7, plainFor y = true := fun y h => List.all_eq_true.mp pf_all y (List.mem_append_right _ (List.mem_append_right _ (List.mem_append_right _ (List.mem_append_right _ (List.mem_append_right _ (List.mem_append_right _ (List.mem_append_right _ (h))))))))
theorem pf_X10_add : plainFor yX10_add = true := pf_c0 _ (List.mem_of_getElem? (i := 0) rfl)
theorem pf_X10_left : plainFor yX10_left = true := pf_c0 _ (List.mem_of_getElem? (i := 1) rfl)
theorem pf_X10_checkOf : plainFor yX10_checkOf = true := pf_c0 _ (List.mem_of_getElem? (i := 2) rfl)
theorem pf_X10_addNumber : plainFor yX10_addNumber = true := pf_c0 _ (List.mem_of_getElem? (i := 3) rfl)
theorem pf_X0_clear : plainFor yX0_clear = true := pf_c0 _ (List.mem_of_getElem? (i := 4) rfl)
theorem pf_X0_add : plainFor yX0_add = true := pf_c0 _ (List.mem_of_getElem? (i := 5) rfl)
theorem pf_X0_name : plainFor yX0_name = true := pf_c0 _ (List.mem_of_getElem? (i := 6) rfl)
theorem pf_X0_nameCount : plainFor yX0_nameCount = true := pf_c0 _ (List.mem_of_getElem? (i := 7) rfl)
theorem pf_X0_ofOne : plainFor yX0_ofOne = true := pf_c0 _ (List.mem_of_getElem? (i := 8) rfl)
theorem pf_X0_bounded : plainFor yX0_bounded = true := pf_c0 _ (List.mem_of_getElem? (i := 9) rfl)
theorem pf_J9_floorDiv_f86c9 : plainFor yJ9_floorDiv_f86c9 = true := pf_c0 _ (List.mem_of_getElem? (i := 10) rfl)
theorem pf_X0_ofTwo : plainFor yX0_ofTwo = true := pf_c0 _ (List.mem_of_getElem? (i := 11) rfl)
theorem pf_J9_floorMod_f86c9 : plainFor yJ9_floorMod_f86c9 = true := pf_c0 _ (List.mem_of_getElem? (i := 12) rfl)
theorem pf_J9_floorMod_1978a : plainFor yJ9_floorMod_1978a = true := pf_c0 _ (List.mem_of_getElem? (i := 13) rfl)
theorem pf_X0_run : plainFor yX0_run = true := pf_c0 _ (List.mem_of_getElem? (i := 14) rfl)
theorem pf_X7_copy : plainFor yX7_copy = true := pf_c0 _ (List.mem_of_getElem? (i := 15) rfl)
theorem pf_X7_begin : plainFor yX7_begin = true := pf_c0 _ (List.mem_of_getElem? (i := 16) rfl)
theorem pf_X7_isMute : plainFor yX7_isMute = true := pf_c0 _ (List.mem_of_getElem? (i := 17) rfl)
theorem pf_X7_amount : plainFor yX7_amount = true := pf_c0 _ (List.mem_of_getElem? (i := 18) rfl)
theorem pf_X7_put : plainFor yX7_put = true := pf_c0 _ (List.mem_of_getElem? (i := 19) rfl)
theorem pf_J7_fill_53178 : plainFor yJ7_fill_53178 = true := pf_c0 _ (List.mem_of_getElem? (i := 20) rfl)
theorem pf_J7_fill_d0a16 : plainFor yJ7_fill_d0a16 = true := pf_c0 _ (List.mem_of_getElem? (i := 21) rfl)
theorem pf_X9_moodsBehind : plainFor yX9_moodsBehind = true := pf_c0 _ (List.mem_of_getElem? (i := 22) rfl)
theorem pf_X9_moodsThatSay : plainFor yX9_moodsThatSay = true := pf_c0 _ (List.mem_of_getElem? (i := 23) rfl)
theorem pf_X9_forget : plainFor yX9_forget = true := pf_c0 _ (List.mem_of_getElem? (i := 24) rfl)
theorem pf_X9_nameDay : plainFor yX9_nameDay = true := pf_c0 _ (List.mem_of_getElem? (i := 25) rfl)
theorem pf_X9_fillWords : plainFor yX9_fillWords = true := pf_c0 _ (List.mem_of_getElem? (i := 26) rfl)
theorem pf_X9_fillDeeds : plainFor yX9_fillDeeds = true := pf_c0 _ (List.mem_of_getElem? (i := 27) rfl)
theorem pf_X9_fit : plainFor yX9_fit = true := pf_c0 _ (List.mem_of_getElem? (i := 28) rfl)
theorem pf_J6_numberOfTrailingZeros_0f7a4 : plainFor yJ6_numberOfTrailingZeros_0f7a4 = true := pf_c0 _ (List.mem_of_getElem? (i := 29) rfl)
theorem pf_X1_next : plainFor yX1_next = true := pf_c0 _ (List.mem_of_getElem? (i := 30) rfl)
theorem pf_X1_allowOnly : plainFor yX1_allowOnly = true := pf_c0 _ (List.mem_of_getElem? (i := 31) rfl)
theorem pf_X1_lay : plainFor yX1_lay = true := pf_c0 _ (List.mem_of_getElem? (i := 32) rfl)
theorem pf_X1_settle : plainFor yX1_settle = true := pf_c0 _ (List.mem_of_getElem? (i := 33) rfl)
theorem pf_X1_moodsOf : plainFor yX1_moodsOf = true := pf_c0 _ (List.mem_of_getElem? (i := 34) rfl)
theorem pf_X1_takeFirst : plainFor yX1_takeFirst = true := pf_c0 _ (List.mem_of_getElem? (i := 35) rfl)
theorem pf_X1_countWays : plainFor yX1_countWays = true := pf_c0 _ (List.mem_of_getElem? (i := 36) rfl)
theorem pf_X1_countComings : plainFor yX1_countComings = true := pf_c0 _ (List.mem_of_getElem? (i := 37) rfl)
theorem pf_X1_timesOf : plainFor yX1_timesOf = true := pf_c0 _ (List.mem_of_getElem? (i := 38) rfl)
theorem pf_X1_mostLeft : plainFor yX1_mostLeft = true := pf_c0 _ (List.mem_of_getElem? (i := 39) rfl)
theorem pf_X1_takeNumbered : plainFor yX1_takeNumbered = true := pf_c1 _ (List.mem_of_getElem? (i := 0) rfl)
theorem pf_X1_gainBy : plainFor yX1_gainBy = true := pf_c1 _ (List.mem_of_getElem? (i := 1) rfl)
theorem pf_X1_bestPay : plainFor yX1_bestPay = true := pf_c1 _ (List.mem_of_getElem? (i := 2) rfl)
theorem pf_X1_takeBestPaid : plainFor yX1_takeBestPaid = true := pf_c1 _ (List.mem_of_getElem? (i := 3) rfl)
theorem pf_J3_checkIndex_8e157 : plainFor yJ3_checkIndex_8e157 = true := pf_c1 _ (List.mem_of_getElem? (i := 4) rfl)
theorem pf_J0_checkIndex_df160 : plainFor yJ0_checkIndex_df160 = true := pf_c1 _ (List.mem_of_getElem? (i := 5) rfl)
theorem pf_J1_charAt_3b067 : plainFor yJ1_charAt_3b067 = true := pf_c1 _ (List.mem_of_getElem? (i := 6) rfl)
theorem pf_J0_coder_7d493 : plainFor yJ0_coder_7d493 = true := pf_c1 _ (List.mem_of_getElem? (i := 7) rfl)
theorem pf_J0_isLatin1_aae02 : plainFor yJ0_isLatin1_aae02 = true := pf_c1 _ (List.mem_of_getElem? (i := 8) rfl)
theorem pf_J0_length_8abf5 : plainFor yJ0_length_8abf5 = true := pf_c1 _ (List.mem_of_getElem? (i := 9) rfl)
theorem pf_J0_charAt_5068e : plainFor yJ0_charAt_5068e = true := pf_c1 _ (List.mem_of_getElem? (i := 10) rfl)
theorem pf_X6_fail : plainFor yX6_fail = true := pf_c1 _ (List.mem_of_getElem? (i := 11) rfl)
theorem pf_X6_failHere : plainFor yX6_failHere = true := pf_c1 _ (List.mem_of_getElem? (i := 12) rfl)
theorem pf_X6_readNumber : plainFor yX6_readNumber = true := pf_c1 _ (List.mem_of_getElem? (i := 13) rfl)
theorem pf_X6_readWord : plainFor yX6_readWord = true := pf_c1 _ (List.mem_of_getElem? (i := 14) rfl)
theorem pf_X6_step : plainFor yX6_step = true := pf_c1 _ (List.mem_of_getElem? (i := 15) rfl)
theorem pf_X6_begin : plainFor yX6_begin = true := pf_c1 _ (List.mem_of_getElem? (i := 16) rfl)
theorem pf_X6_needs : plainFor yX6_needs = true := pf_c1 _ (List.mem_of_getElem? (i := 17) rfl)
theorem pf_X6_takes : plainFor yX6_takes = true := pf_c1 _ (List.mem_of_getElem? (i := 18) rfl)
theorem pf_X6_takeNumber : plainFor yX6_takeNumber = true := pf_c1 _ (List.mem_of_getElem? (i := 19) rfl)
theorem pf_X6_opens : plainFor yX6_opens = true := pf_c1 _ (List.mem_of_getElem? (i := 20) rfl)
theorem pf_X6_shuts : plainFor yX6_shuts = true := pf_c1 _ (List.mem_of_getElem? (i := 21) rfl)
theorem pf_X8_nameInLock : plainFor yX8_nameInLock = true := pf_c1 _ (List.mem_of_getElem? (i := 22) rfl)
theorem pf_X8_nameInQuestion : plainFor yX8_nameInQuestion = true := pf_c1 _ (List.mem_of_getElem? (i := 23) rfl)
theorem pf_X8_readPair : plainFor yX8_readPair = true := pf_c1 _ (List.mem_of_getElem? (i := 24) rfl)
theorem pf_X8_readPart : plainFor yX8_readPart = true := pf_c1 _ (List.mem_of_getElem? (i := 25) rfl)
theorem pf_X8_readProduct : plainFor yX8_readProduct = true := pf_c1 _ (List.mem_of_getElem? (i := 26) rfl)
theorem pf_X8_readSum : plainFor yX8_readSum = true := pf_c1 _ (List.mem_of_getElem? (i := 27) rfl)
theorem pf_X8_read : plainFor yX8_read = true := pf_c1 _ (List.mem_of_getElem? (i := 28) rfl)
theorem pf_X2_clear : plainFor yX2_clear = true := pf_c1 _ (List.mem_of_getElem? (i := 29) rfl)
theorem pf_X2_hasSum : plainFor yX2_hasSum = true := pf_c1 _ (List.mem_of_getElem? (i := 30) rfl)
theorem pf_X2_beginSum : plainFor yX2_beginSum = true := pf_c1 _ (List.mem_of_getElem? (i := 31) rfl)
theorem pf_X2_endSum : plainFor yX2_endSum = true := pf_c1 _ (List.mem_of_getElem? (i := 32) rfl)
theorem pf_X2_addUntold : plainFor yX2_addUntold = true := pf_c1 _ (List.mem_of_getElem? (i := 33) rfl)
theorem pf_X3_readOpening : plainFor yX3_readOpening = true := pf_c1 _ (List.mem_of_getElem? (i := 34) rfl)
theorem pf_X3_readAmount : plainFor yX3_readAmount = true := pf_c1 _ (List.mem_of_getElem? (i := 35) rfl)
theorem pf_X3_readMute : plainFor yX3_readMute = true := pf_c1 _ (List.mem_of_getElem? (i := 36) rfl)
theorem pf_X3_readNumbers : plainFor yX3_readNumbers = true := pf_c1 _ (List.mem_of_getElem? (i := 37) rfl)
theorem pf_X3_readSumOf : plainFor yX3_readSumOf = true := pf_c1 _ (List.mem_of_getElem? (i := 38) rfl)
theorem pf_X3_read : plainFor yX3_read = true := pf_c1 _ (List.mem_of_getElem? (i := 39) rfl)
theorem pf_X5_stepOf : plainFor yX5_stepOf = true := pf_c2 _ (List.mem_of_getElem? (i := 0) rfl)
theorem pf_X5_readFact : plainFor yX5_readFact = true := pf_c2 _ (List.mem_of_getElem? (i := 1) rfl)
theorem pf_X5_readBoth : plainFor yX5_readBoth = true := pf_c2 _ (List.mem_of_getElem? (i := 2) rfl)
theorem pf_X5_readTest : plainFor yX5_readTest = true := pf_c2 _ (List.mem_of_getElem? (i := 3) rfl)
theorem pf_X5_read : plainFor yX5_read = true := pf_c2 _ (List.mem_of_getElem? (i := 4) rfl)
theorem pf_X5_isOfDays : plainFor yX5_isOfDays = true := pf_c2 _ (List.mem_of_getElem? (i := 5) rfl)
theorem pf_X5_joined : plainFor yX5_joined = true := pf_c2 _ (List.mem_of_getElem? (i := 6) rfl)
theorem pf_X5_nameDay : plainFor yX5_nameDay = true := pf_c2 _ (List.mem_of_getElem? (i := 7) rfl)
theorem pf_X5_answer : plainFor yX5_answer = true := pf_c2 _ (List.mem_of_getElem? (i := 8) rfl)
theorem pf_X11_isDay : plainFor yX11_isDay = true := pf_c2 _ (List.mem_of_getElem? (i := 9) rfl)
theorem pf_X11_isDigit : plainFor yX11_isDigit = true := pf_c2 _ (List.mem_of_getElem? (i := 10) rfl)
theorem pf_X11_isWordOf : plainFor yX11_isWordOf = true := pf_c2 _ (List.mem_of_getElem? (i := 11) rfl)
theorem pf_X11_fault : plainFor yX11_fault = true := pf_c2 _ (List.mem_of_getElem? (i := 12) rfl)
theorem pf_J6_bitCount_0f7a4 : plainFor yJ6_bitCount_0f7a4 = true := pf_c2 _ (List.mem_of_getElem? (i := 13) rfl)
theorem pf_X4_forget : plainFor yX4_forget = true := pf_c2 _ (List.mem_of_getElem? (i := 14) rfl)
theorem pf_X11_isAtRest : plainFor yX11_isAtRest = true := pf_c2 _ (List.mem_of_getElem? (i := 15) rfl)
theorem pf_X11_serves : plainFor yX11_serves = true := pf_c2 _ (List.mem_of_getElem? (i := 16) rfl)
theorem pf_X11_same : plainFor yX11_same = true := pf_c2 _ (List.mem_of_getElem? (i := 17) rfl)
theorem pf_X11_tellsImage : plainFor yX11_tellsImage = true := pf_c2 _ (List.mem_of_getElem? (i := 18) rfl)
theorem pf_X11_lookAt : plainFor yX11_lookAt = true := pf_c2 _ (List.mem_of_getElem? (i := 19) rfl)
theorem pf_X11_draw : plainFor yX11_draw = true := pf_c2 _ (List.mem_of_getElem? (i := 20) rfl)
theorem pf_X4_keep : plainFor yX4_keep = true := pf_c2 _ (List.mem_of_getElem? (i := 21) rfl)
theorem pf_X11_pass : plainFor yX11_pass = true := pf_c2 _ (List.mem_of_getElem? (i := 22) rfl)
theorem pf_X4_save : plainFor yX4_save = true := pf_c2 _ (List.mem_of_getElem? (i := 23) rfl)
theorem pf_X4_restore : plainFor yX4_restore = true := pf_c2 _ (List.mem_of_getElem? (i := 24) rfl)
theorem pf_X11_passByChance : plainFor yX11_passByChance = true := pf_c2 _ (List.mem_of_getElem? (i := 25) rfl)
theorem pf_X11_isLocked : plainFor yX11_isLocked = true := pf_c2 _ (List.mem_of_getElem? (i := 26) rfl)
theorem pf_X11_refuse : plainFor yX11_refuse = true := pf_c2 _ (List.mem_of_getElem? (i := 27) rfl)
theorem pf_X11_refuseIt : plainFor yX11_refuseIt = true := pf_c2 _ (List.mem_of_getElem? (i := 28) rfl)
theorem pf_X11_status : plainFor yX11_status = true := pf_c2 _ (List.mem_of_getElem? (i := 29) rfl)
theorem pf_X11_day : plainFor yX11_day = true := pf_c2 _ (List.mem_of_getElem? (i := 30) rfl)
theorem pf_X4_toldOf : plainFor yX4_toldOf = true := pf_c2 _ (List.mem_of_getElem? (i := 31) rfl)
theorem pf_X11_has : plainFor yX11_has = true := pf_c2 _ (List.mem_of_getElem? (i := 32) rfl)
theorem pf_X4_ofKept : plainFor yX4_ofKept = true := pf_c2 _ (List.mem_of_getElem? (i := 33) rfl)
theorem pf_X11_kept : plainFor yX11_kept = true := pf_c2 _ (List.mem_of_getElem? (i := 34) rfl)
theorem pf_X11_told : plainFor yX11_told = true := pf_c2 _ (List.mem_of_getElem? (i := 35) rfl)
theorem pf_X11_does : plainFor yX11_does = true := pf_c2 _ (List.mem_of_getElem? (i := 36) rfl)
theorem pf_X11_weeks : plainFor yX11_weeks = true := pf_c2 _ (List.mem_of_getElem? (i := 37) rfl)
theorem pf_X11_takeWeek : plainFor yX11_takeWeek = true := pf_c2 _ (List.mem_of_getElem? (i := 38) rfl)
theorem pf_X11_mood : plainFor yX11_mood = true := pf_c2 _ (List.mem_of_getElem? (i := 39) rfl)
theorem pf_X11_many : plainFor yX11_many = true := pf_c3 _ (List.mem_of_getElem? (i := 0) rfl)
theorem pf_X11_fewest : plainFor yX11_fewest = true := pf_c3 _ (List.mem_of_getElem? (i := 1) rfl)
theorem pf_X11_hushed : plainFor yX11_hushed = true := pf_c3 _ (List.mem_of_getElem? (i := 2) rfl)
theorem pf_X11_wished : plainFor yX11_wished = true := pf_c3 _ (List.mem_of_getElem? (i := 3) rfl)
theorem pf_X11_rest : plainFor yX11_rest = true := pf_c3 _ (List.mem_of_getElem? (i := 4) rfl)
theorem pf_X11_lies : plainFor yX11_lies = true := pf_c3 _ (List.mem_of_getElem? (i := 5) rfl)
theorem pf_X11_stepAhead : plainFor yX11_stepAhead = true := pf_c3 _ (List.mem_of_getElem? (i := 6) rfl)
theorem pf_X11_later : plainFor yX11_later = true := pf_c3 _ (List.mem_of_getElem? (i := 7) rfl)
theorem pf_X11_ring : plainFor yX11_ring = true := pf_c3 _ (List.mem_of_getElem? (i := 8) rfl)
theorem pf_X11_frees : plainFor yX11_frees = true := pf_c3 _ (List.mem_of_getElem? (i := 9) rfl)
theorem pf_X11_pay : plainFor yX11_pay = true := pf_c3 _ (List.mem_of_getElem? (i := 10) rfl)
theorem pf_X11_paid : plainFor yX11_paid = true := pf_c3 _ (List.mem_of_getElem? (i := 11) rfl)
theorem pf_X11_unlike : plainFor yX11_unlike = true := pf_c3 _ (List.mem_of_getElem? (i := 12) rfl)
theorem pf_X11_lookByWord : plainFor yX11_lookByWord = true := pf_c3 _ (List.mem_of_getElem? (i := 13) rfl)
theorem pf_X11_lookByHeard : plainFor yX11_lookByHeard = true := pf_c3 _ (List.mem_of_getElem? (i := 14) rfl)
theorem pf_X11_known : plainFor yX11_known = true := pf_c3 _ (List.mem_of_getElem? (i := 15) rfl)
theorem pf_X11_sure : plainFor yX11_sure = true := pf_c3 _ (List.mem_of_getElem? (i := 16) rfl)
theorem pf_X11_heard : plainFor yX11_heard = true := pf_c3 _ (List.mem_of_getElem? (i := 17) rfl)
theorem pf_X11_tells : plainFor yX11_tells = true := pf_c3 _ (List.mem_of_getElem? (i := 18) rfl)
theorem pf_X11_ask : plainFor yX11_ask = true := pf_c3 _ (List.mem_of_getElem? (i := 19) rfl)
theorem pf_X11_feed : plainFor yX11_feed = true := pf_c3 _ (List.mem_of_getElem? (i := 20) rfl)
theorem pf_X11_end : plainFor yX11_end = true := pf_c3 _ (List.mem_of_getElem? (i := 21) rfl)
theorem pf_X11_seed : plainFor yX11_seed = true := pf_c3 _ (List.mem_of_getElem? (i := 22) rfl)
theorem pf_X11_octet : plainFor yX11_octet = true := pf_c3 _ (List.mem_of_getElem? (i := 23) rfl)
theorem pf_X11_image : plainFor yX11_image = true := pf_c3 _ (List.mem_of_getElem? (i := 24) rfl)
theorem pf_X11_tellsRows : plainFor yX11_tellsRows = true := pf_c3 _ (List.mem_of_getElem? (i := 25) rfl)
theorem pf_X11_hear : plainFor yX11_hear = true := pf_c3 _ (List.mem_of_getElem? (i := 26) rfl)
theorem pf_X11_set : plainFor yX11_set = true := pf_c3 _ (List.mem_of_getElem? (i := 27) rfl)
theorem pf_X11_mute : plainFor yX11_mute = true := pf_c3 _ (List.mem_of_getElem? (i := 28) rfl)
theorem pf_X11_undo : plainFor yX11_undo = true := pf_c3 _ (List.mem_of_getElem? (i := 29) rfl)
theorem pf_X11_go : plainFor yX11_go = true := pf_c3 _ (List.mem_of_getElem? (i := 30) rfl)
theorem pf_X11_chance : plainFor yX11_chance = true := pf_c3 _ (List.mem_of_getElem? (i := 31) rfl)
theorem pf_X11_on : plainFor yX11_on = true := pf_c3 _ (List.mem_of_getElem? (i := 32) rfl)
theorem pf_X11_lock : plainFor yX11_lock = true := pf_c3 _ (List.mem_of_getElem? (i := 33) rfl)
theorem pf_X10_init : plainFor yX10_init = true := pf_c3 _ (List.mem_of_getElem? (i := 34) rfl)
theorem pf_X7_init : plainFor yX7_init = true := pf_c3 _ (List.mem_of_getElem? (i := 35) rfl)
theorem pf_X0_init : plainFor yX0_init = true := pf_c3 _ (List.mem_of_getElem? (i := 36) rfl)
theorem pf_X8_init : plainFor yX8_init = true := pf_c3 _ (List.mem_of_getElem? (i := 37) rfl)
theorem pf_X6_init : plainFor yX6_init = true := pf_c3 _ (List.mem_of_getElem? (i := 38) rfl)
theorem pf_X3_init : plainFor yX3_init = true := pf_c3 _ (List.mem_of_getElem? (i := 39) rfl)
theorem pf_X5_init : plainFor yX5_init = true := pf_c4 _ (List.mem_of_getElem? (i := 0) rfl)
theorem pf_X2_init : plainFor yX2_init = true := pf_c4 _ (List.mem_of_getElem? (i := 1) rfl)
theorem pf_X9_init : plainFor yX9_init = true := pf_c4 _ (List.mem_of_getElem? (i := 2) rfl)
theorem pf_X1_init : plainFor yX1_init = true := pf_c4 _ (List.mem_of_getElem? (i := 3) rfl)
theorem pf_X4_init : plainFor yX4_init = true := pf_c4 _ (List.mem_of_getElem? (i := 4) rfl)
theorem pf_X11_init : plainFor yX11_init = true := pf_c4 _ (List.mem_of_getElem? (i := 5) rfl)
theorem pf_X12_isIn : plainFor yX12_isIn = true := pf_c4 _ (List.mem_of_getElem? (i := 6) rfl)
theorem pf_X12_isLetter : plainFor yX12_isLetter = true := pf_c4 _ (List.mem_of_getElem? (i := 7) rfl)
theorem pf_X12_isDigit : plainFor yX12_isDigit = true := pf_c4 _ (List.mem_of_getElem? (i := 8) rfl)
theorem pf_X12_dayMany : plainFor yX12_dayMany = true := pf_c4 _ (List.mem_of_getElem? (i := 9) rfl)
theorem pf_X12_isDay : plainFor yX12_isDay = true := pf_c4 _ (List.mem_of_getElem? (i := 10) rfl)
theorem pf_X12_isMood : plainFor yX12_isMood = true := pf_c4 _ (List.mem_of_getElem? (i := 11) rfl)
theorem pf_X12_bargeOf : plainFor yX12_bargeOf = true := pf_c4 _ (List.mem_of_getElem? (i := 12) rfl)
theorem pf_X12_wetOf : plainFor yX12_wetOf = true := pf_c4 _ (List.mem_of_getElem? (i := 13) rfl)
theorem pf_X12_isMute : plainFor yX12_isMute = true := pf_c4 _ (List.mem_of_getElem? (i := 14) rfl)
theorem pf_X12_byTen : plainFor yX12_byTen = true := pf_c4 _ (List.mem_of_getElem? (i := 15) rfl)
theorem pf_X12_qClip : plainFor yX12_qClip = true := pf_c4 _ (List.mem_of_getElem? (i := 16) rfl)
theorem pf_X12_qFloor : plainFor yX12_qFloor = true := pf_c4 _ (List.mem_of_getElem? (i := 17) rfl)
theorem pf_X12_bits : plainFor yX12_bits = true := pf_c4 _ (List.mem_of_getElem? (i := 18) rfl)
theorem pf_X12_qPuts : plainFor yX12_qPuts = true := pf_c4 _ (List.mem_of_getElem? (i := 19) rfl)
theorem pf_X12_qJoins : plainFor yX12_qJoins = true := pf_c4 _ (List.mem_of_getElem? (i := 20) rfl)
theorem pf_X12_qPartOf : plainFor yX12_qPartOf = true := pf_c4 _ (List.mem_of_getElem? (i := 21) rfl)
theorem pf_X12_codesTell : plainFor yX12_codesTell = true := pf_c4 _ (List.mem_of_getElem? (i := 22) rfl)
theorem pf_X12_wordOf : plainFor yX12_wordOf = true := pf_c4 _ (List.mem_of_getElem? (i := 23) rfl)
theorem pf_X12_becomesBy : plainFor yX12_becomesBy = true := pf_c4 _ (List.mem_of_getElem? (i := 24) rfl)
theorem pf_X12_wageOf : plainFor yX12_wageOf = true := pf_c4 _ (List.mem_of_getElem? (i := 25) rfl)
theorem pf_X12_laysDays : plainFor yX12_laysDays = true := pf_c4 _ (List.mem_of_getElem? (i := 26) rfl)
theorem pf_X12_isMuteNow : plainFor yX12_isMuteNow = true := pf_c4 _ (List.mem_of_getElem? (i := 27) rfl)
theorem pf_X12_isLeft : plainFor yX12_isLeft = true := pf_c4 _ (List.mem_of_getElem? (i := 28) rfl)
theorem pf_X12_canFollow : plainFor yX12_canFollow = true := pf_c4 _ (List.mem_of_getElem? (i := 29) rfl)
theorem pf_X12_laysWays : plainFor yX12_laysWays = true := pf_c4 _ (List.mem_of_getElem? (i := 30) rfl)
theorem pf_X12_walksTo : plainFor yX12_walksTo = true := pf_c4 _ (List.mem_of_getElem? (i := 31) rfl)
theorem pf_X12_laysAll : plainFor yX12_laysAll = true := pf_c4 _ (List.mem_of_getElem? (i := 32) rfl)
theorem pf_X12_doesAgree : plainFor yX12_doesAgree = true := pf_c4 _ (List.mem_of_getElem? (i := 33) rfl)
theorem pf_X12_does : plainFor yX12_does = true := pf_c4 _ (List.mem_of_getElem? (i := 34) rfl)
theorem pf_X12_many : plainFor yX12_many = true := pf_c4 _ (List.mem_of_getElem? (i := 35) rfl)
theorem pf_X12_hushed : plainFor yX12_hushed = true := pf_c4 _ (List.mem_of_getElem? (i := 36) rfl)
theorem pf_X12_wished : plainFor yX12_wished = true := pf_c4 _ (List.mem_of_getElem? (i := 37) rfl)
theorem pf_X12_lies : plainFor yX12_lies = true := pf_c4 _ (List.mem_of_getElem? (i := 38) rfl)
theorem pf_X12_laysPay : plainFor yX12_laysPay = true := pf_c4 _ (List.mem_of_getElem? (i := 39) rfl)
theorem pf_X12_bestBehind : plainFor yX12_bestBehind = true := pf_c5 _ (List.mem_of_getElem? (i := 0) rfl)
theorem pf_X12_pay : plainFor yX12_pay = true := pf_c5 _ (List.mem_of_getElem? (i := 1) rfl)
theorem pf_X12_paid : plainFor yX12_paid = true := pf_c5 _ (List.mem_of_getElem? (i := 2) rfl)
theorem pf_X12_laysRest : plainFor yX12_laysRest = true := pf_c5 _ (List.mem_of_getElem? (i := 3) rfl)
theorem pf_X12_isRest : plainFor yX12_isRest = true := pf_c5 _ (List.mem_of_getElem? (i := 4) rfl)
theorem pf_X12_rest : plainFor yX12_rest = true := pf_c5 _ (List.mem_of_getElem? (i := 5) rfl)
theorem pf_X12_unlike : plainFor yX12_unlike = true := pf_c5 _ (List.mem_of_getElem? (i := 6) rfl)
theorem pf_X12_laysByWord : plainFor yX12_laysByWord = true := pf_c5 _ (List.mem_of_getElem? (i := 7) rfl)
theorem pf_X12_laysHeard : plainFor yX12_laysHeard = true := pf_c5 _ (List.mem_of_getElem? (i := 8) rfl)
theorem pf_X12_moodsOf : plainFor yX12_moodsOf = true := pf_c5 _ (List.mem_of_getElem? (i := 9) rfl)
theorem pf_X12_canBeTold : plainFor yX12_canBeTold = true := pf_c5 _ (List.mem_of_getElem? (i := 10) rfl)
theorem pf_X12_known : plainFor yX12_known = true := pf_c5 _ (List.mem_of_getElem? (i := 11) rfl)
theorem pf_X12_sure : plainFor yX12_sure = true := pf_c5 _ (List.mem_of_getElem? (i := 12) rfl)
theorem pf_X12_refuses : plainFor yX12_refuses = true := pf_c5 _ (List.mem_of_getElem? (i := 13) rfl)
theorem pf_X12_heard : plainFor yX12_heard = true := pf_c5 _ (List.mem_of_getElem? (i := 14) rfl)
theorem pf_X12_tells : plainFor yX12_tells = true := pf_c5 _ (List.mem_of_getElem? (i := 15) rfl)
theorem pf_X12_same : plainFor yX12_same = true := pf_c5 _ (List.mem_of_getElem? (i := 16) rfl)
theorem pf_X12_checked : plainFor yX12_checked = true := pf_c5 _ (List.mem_of_getElem? (i := 17) rfl)
theorem pf_X12_isImage : plainFor yX12_isImage = true := pf_c5 _ (List.mem_of_getElem? (i := 18) rfl)
theorem pf_X12_fault : plainFor yX12_fault = true := pf_c5 _ (List.mem_of_getElem? (i := 19) rfl)
theorem pf_X12_isKept : plainFor yX12_isKept = true := pf_c5 _ (List.mem_of_getElem? (i := 20) rfl)
theorem pf_X12_goesBy : plainFor yX12_goesBy = true := pf_c5 _ (List.mem_of_getElem? (i := 21) rfl)
theorem pf_X12_muteSet : plainFor yX12_muteSet = true := pf_c5 _ (List.mem_of_getElem? (i := 22) rfl)
theorem pf_X12_has : plainFor yX12_has = true := pf_c5 _ (List.mem_of_getElem? (i := 23) rfl)
theorem pf_X12_day : plainFor yX12_day = true := pf_c5 _ (List.mem_of_getElem? (i := 24) rfl)
theorem pf_X12_told : plainFor yX12_told = true := pf_c5 _ (List.mem_of_getElem? (i := 25) rfl)
theorem pf_X12_kept : plainFor yX12_kept = true := pf_c5 _ (List.mem_of_getElem? (i := 26) rfl)
theorem pf_X12_weeks : plainFor yX12_weeks = true := pf_c5 _ (List.mem_of_getElem? (i := 27) rfl)
theorem pf_X12_mood : plainFor yX12_mood = true := pf_c5 _ (List.mem_of_getElem? (i := 28) rfl)
theorem pf_X12_feed : plainFor yX12_feed = true := pf_c5 _ (List.mem_of_getElem? (i := 29) rfl)
theorem pf_X12_end : plainFor yX12_end = true := pf_c5 _ (List.mem_of_getElem? (i := 30) rfl)
theorem pf_X12_seed : plainFor yX12_seed = true := pf_c5 _ (List.mem_of_getElem? (i := 31) rfl)
theorem pf_X12_status : plainFor yX12_status = true := pf_c5 _ (List.mem_of_getElem? (i := 32) rfl)
theorem pf_X12_keeps : plainFor yX12_keeps = true := pf_c5 _ (List.mem_of_getElem? (i := 33) rfl)
theorem pf_X12_undo : plainFor yX12_undo = true := pf_c5 _ (List.mem_of_getElem? (i := 34) rfl)
theorem pf_X12_becomes : plainFor yX12_becomes = true := pf_c5 _ (List.mem_of_getElem? (i := 35) rfl)
theorem pf_X12_set : plainFor yX12_set = true := pf_c5 _ (List.mem_of_getElem? (i := 36) rfl)
theorem pf_X12_mute : plainFor yX12_mute = true := pf_c5 _ (List.mem_of_getElem? (i := 37) rfl)
theorem pf_X12_isAhead : plainFor yX12_isAhead = true := pf_c5 _ (List.mem_of_getElem? (i := 38) rfl)
theorem pf_X12_go : plainFor yX12_go = true := pf_c5 _ (List.mem_of_getElem? (i := 39) rfl)
theorem pf_X12_drawOf : plainFor yX12_drawOf = true := pf_c6 _ (List.mem_of_getElem? (i := 0) rfl)
theorem pf_X12_drawsDays : plainFor yX12_drawsDays = true := pf_c6 _ (List.mem_of_getElem? (i := 1) rfl)
theorem pf_X12_chance : plainFor yX12_chance = true := pf_c6 _ (List.mem_of_getElem? (i := 2) rfl)
theorem pf_X12_octet : plainFor yX12_octet = true := pf_c6 _ (List.mem_of_getElem? (i := 3) rfl)
theorem pf_X12_writes : plainFor yX12_writes = true := pf_c6 _ (List.mem_of_getElem? (i := 4) rfl)
theorem pf_X12_image : plainFor yX12_image = true := pf_c6 _ (List.mem_of_getElem? (i := 5) rfl)
theorem pf_X12_on : plainFor yX12_on = true := pf_c6 _ (List.mem_of_getElem? (i := 6) rfl)
theorem pf_X12_hear : plainFor yX12_hear = true := pf_c6 _ (List.mem_of_getElem? (i := 7) rfl)
theorem pf_X12_putsAside : plainFor yX12_putsAside = true := pf_c6 _ (List.mem_of_getElem? (i := 8) rfl)
theorem pf_X12_takesBack : plainFor yX12_takesBack = true := pf_c6 _ (List.mem_of_getElem? (i := 9) rfl)
theorem pf_X12_doGo : plainFor yX12_doGo = true := pf_c6 _ (List.mem_of_getElem? (i := 10) rfl)
theorem pf_X12_later : plainFor yX12_later = true := pf_c6 _ (List.mem_of_getElem? (i := 11) rfl)
theorem pf_X12_ring : plainFor yX12_ring = true := pf_c6 _ (List.mem_of_getElem? (i := 12) rfl)
theorem pf_X12_frees : plainFor yX12_frees = true := pf_c6 _ (List.mem_of_getElem? (i := 13) rfl)
theorem pf_X12_fail : plainFor yX12_fail = true := pf_c6 _ (List.mem_of_getElem? (i := 14) rfl)
theorem pf_X12_look : plainFor yX12_look = true := pf_c6 _ (List.mem_of_getElem? (i := 15) rfl)
theorem pf_X12_isHere : plainFor yX12_isHere = true := pf_c6 _ (List.mem_of_getElem? (i := 16) rfl)
theorem pf_X12_takes : plainFor yX12_takes = true := pf_c6 _ (List.mem_of_getElem? (i := 17) rfl)
theorem pf_X12_asks : plainFor yX12_asks = true := pf_c6 _ (List.mem_of_getElem? (i := 18) rfl)
theorem pf_X12_takesSign : plainFor yX12_takesSign = true := pf_c6 _ (List.mem_of_getElem? (i := 19) rfl)
theorem pf_X12_asksSign : plainFor yX12_asksSign = true := pf_c6 _ (List.mem_of_getElem? (i := 20) rfl)
theorem pf_X12_number : plainFor yX12_number = true := pf_c6 _ (List.mem_of_getElem? (i := 21) rfl)
theorem pf_X12_isAllowed : plainFor yX12_isAllowed = true := pf_c6 _ (List.mem_of_getElem? (i := 22) rfl)
theorem pf_X12_qWordHere : plainFor yX12_qWordHere = true := pf_c6 _ (List.mem_of_getElem? (i := 23) rfl)
theorem pf_X12_qWordOf : plainFor yX12_qWordOf = true := pf_c6 _ (List.mem_of_getElem? (i := 24) rfl)
theorem pf_X12_qAsksWord : plainFor yX12_qAsksWord = true := pf_c6 _ (List.mem_of_getElem? (i := 25) rfl)
theorem pf_X12_qCode : plainFor yX12_qCode = true := pf_c6 _ (List.mem_of_getElem? (i := 26) rfl)
theorem pf_X12_qOpens : plainFor yX12_qOpens = true := pf_c6 _ (List.mem_of_getElem? (i := 27) rfl)
theorem pf_X12_qIsOn : plainFor yX12_qIsOn = true := pf_c6 _ (List.mem_of_getElem? (i := 28) rfl)
theorem pf_X12_qDrops : plainFor yX12_qDrops = true := pf_c6 _ (List.mem_of_getElem? (i := 29) rfl)
theorem pf_X12_qIsBracket : plainFor yX12_qIsBracket = true := pf_c6 _ (List.mem_of_getElem? (i := 30) rfl)
theorem pf_X12_qBracket : plainFor yX12_qBracket = true := pf_c6 _ (List.mem_of_getElem? (i := 31) rfl)
theorem pf_X12_qDropsToBracket : plainFor yX12_qDropsToBracket = true := pf_c6 _ (List.mem_of_getElem? (i := 32) rfl)
theorem pf_X12_qEndsPart : plainFor yX12_qEndsPart = true := pf_c6 _ (List.mem_of_getElem? (i := 33) rfl)
theorem pf_X12_qPartTold : plainFor yX12_qPartTold = true := pf_c6 _ (List.mem_of_getElem? (i := 34) rfl)
theorem pf_X12_qGoesOn : plainFor yX12_qGoesOn = true := pf_c6 _ (List.mem_of_getElem? (i := 35) rfl)
theorem pf_X12_qSums : plainFor yX12_qSums = true := pf_c6 _ (List.mem_of_getElem? (i := 36) rfl)
theorem pf_X12_qFact : plainFor yX12_qFact = true := pf_c6 _ (List.mem_of_getElem? (i := 37) rfl)
theorem pf_X12_qHasSquare : plainFor yX12_qHasSquare = true := pf_c6 _ (List.mem_of_getElem? (i := 38) rfl)
theorem pf_X12_qDropsNots : plainFor yX12_qDropsNots = true := pf_c6 _ (List.mem_of_getElem? (i := 39) rfl)
theorem pf_X12_qGoesOnTest : plainFor yX12_qGoesOnTest = true := pf_c7 _ (List.mem_of_getElem? (i := 0) rfl)
theorem pf_X12_qTest : plainFor yX12_qTest = true := pf_c7 _ (List.mem_of_getElem? (i := 1) rfl)
theorem pf_X12_lockTold : plainFor yX12_lockTold = true := pf_c7 _ (List.mem_of_getElem? (i := 2) rfl)
theorem pf_X12_dayTold : plainFor yX12_dayTold = true := pf_c7 _ (List.mem_of_getElem? (i := 3) rfl)
theorem pf_X12_muteTold : plainFor yX12_muteTold = true := pf_c7 _ (List.mem_of_getElem? (i := 4) rfl)
theorem pf_X12_codesTold : plainFor yX12_codesTold = true := pf_c7 _ (List.mem_of_getElem? (i := 5) rfl)
theorem pf_X12_statementTold : plainFor yX12_statementTold = true := pf_c7 _ (List.mem_of_getElem? (i := 6) rfl)
theorem pf_X12_qOf : plainFor yX12_qOf = true := pf_c7 _ (List.mem_of_getElem? (i := 7) rfl)
theorem pf_X12_qTold : plainFor yX12_qTold = true := pf_c7 _ (List.mem_of_getElem? (i := 8) rfl)
theorem pf_X12_qTakes : plainFor yX12_qTakes = true := pf_c7 _ (List.mem_of_getElem? (i := 9) rfl)
theorem pf_X12_qKind : plainFor yX12_qKind = true := pf_c7 _ (List.mem_of_getElem? (i := 10) rfl)
theorem pf_X12_ask : plainFor yX12_ask = true := pf_c7 _ (List.mem_of_getElem? (i := 11) rfl)
theorem pf_X12_stands : plainFor yX12_stands = true := pf_c7 _ (List.mem_of_getElem? (i := 12) rfl)
theorem pf_X12_lock : plainFor yX12_lock = true := pf_c7 _ (List.mem_of_getElem? (i := 13) rfl)
theorem dg_X10_add_0_0 : bqL cX10_add 0 [(0, [42]), (1, [180, 0, 7]), (4, [42]), (5, [180, 0, 19]), (8, [190]), (9, [162, 0, 27]), (36, [177]), (12, [42]), (13, [180, 0, 19]), (16, [42]), (17, [180, 0, 7]), (20, [27]), (21, [17, 0, 255]), (24, [126]), (25, [79]), (26, [42]), (27, [89]), (28, [180, 0, 7]), (31, [4]), (32, [96]), (33, [181, 0, 7])] = true := by decide +kernel
theorem dX10_add_0 : decode cX10_add 0 = .ok (.aload_n 0, 1) := q_aload_n0 (bat_get dg_X10_add_0_0 0 rfl rfl)
theorem dX10_add_1 : decode cX10_add 1 = .ok (.getfield 7, 3) := q_getfield (bat_get dg_X10_add_0_0 1 rfl rfl) rfl
theorem dX10_add_4 : decode cX10_add 4 = .ok (.aload_n 0, 1) := q_aload_n0 (bat_get dg_X10_add_0_0 2 rfl rfl)
theorem dX10_add_5 : decode cX10_add 5 = .ok (.getfield 19, 3) := q_getfield (bat_get dg_X10_add_0_0 3 rfl rfl) rfl
theorem dX10_add_8 : decode cX10_add 8 = .ok (.arraylength, 1) := q_arraylength (bat_get dg_X10_add_0_0 4 rfl rfl)
theorem dX10_add_9 : decode cX10_add 9 = .ok (.if_icmp .ge 27, 3) := q_if_icmp_ge (bat_get dg_X10_add_0_0 5 rfl rfl) rfl
theorem dX10_add_36 : decode cX10_add 36 = .ok (.return_, 1) := q_return_ (bat_get dg_X10_add_0_0 6 rfl rfl)
theorem dX10_add_12 : decode cX10_add 12 = .ok (.aload_n 0, 1) := q_aload_n0 (bat_get dg_X10_add_0_0 7 rfl rfl)
theorem dX10_add_13 : decode cX10_add 13 = .ok (.getfield 19, 3) := q_getfield (bat_get dg_X10_add_0_0 8 rfl rfl) rfl
theorem dX10_add_16 : decode cX10_add 16 = .ok (.aload_n 0, 1) := q_aload_n0 (bat_get dg_X10_add_0_0 9 rfl rfl)
theorem dX10_add_17 : decode cX10_add 17 = .ok (.getfield 7, 3) := q_getfield (bat_get dg_X10_add_0_0 10 rfl rfl) rfl
theorem dX10_add_20 : decode cX10_add 20 = .ok (.iload_n 1, 1) := q_iload_n1 (bat_get dg_X10_add_0_0 11 rfl rfl)
theorem dX10_add_21 : decode cX10_add 21 = .ok (.sipush 255, 3) := q_sipush (bat_get dg_X10_add_0_0 12 rfl rfl) rfl
theorem dX10_add_24 : decode cX10_add 24 = .ok (.iand, 1) := q_iand (bat_get dg_X10_add_0_0 13 rfl rfl)
theorem dX10_add_25 : decode cX10_add 25 = .ok (.iastore, 1) := q_iastore (bat_get dg_X10_add_0_0 14 rfl rfl)
theorem dX10_add_26 : decode cX10_add 26 = .ok (.aload_n 0, 1) := q_aload_n0 (bat_get dg_X10_add_0_0 15 rfl rfl)
theorem dX10_add_27 : decode cX10_add 27 = .ok (.dup, 1) := q_dup (bat_get dg_X10_add_0_0 16 rfl rfl)
theorem dX10_add_28 : decode cX10_add 28 = .ok (.getfield 7, 3) := q_getfield (bat_get dg_X10_add_0_0 17 rfl rfl) rfl
theorem dX10_add_31 : decode cX10_add 31 = .ok (.iconst 1, 1) := q_iconst1 (bat_get dg_X10_add_0_0 18 rfl rfl)
theorem dX10_add_32 : decode cX10_add 32 = .ok (.iadd, 1) := q_iadd (bat_get dg_X10_add_0_0 19 rfl rfl)
theorem dX10_add_33 : decode cX10_add 33 = .ok (.putfield 7, 3) := q_putfield (bat_get dg_X10_add_0_0 20 rfl rfl) rfl
theorem w_1_41 : (Cond.fieldLink RX10 7 "SameKeeper$Tape" "length" "I") ∈ wsL_law := sk_mem (ck_1 _ (List.mem_of_getElem? (i := 41) rfl)) rfl
theorem w_1_39 : (Cond.fieldLink RX10 19 "SameKeeper$Tape" "bytes" "[I") ∈ wsL_law := sk_mem (ck_1 _ (List.mem_of_getElem? (i := 39) rfl)) rfl
theorem w_2_193 : (Cond.code yX10_add cX10_add 2 none) ∈ wsL_law := sk_mem (ck_2 _ (List.mem_of_getElem? (i := 193) rfl)) rfl
theorem dg_X10_left_0_0 : bqL cX10_left 0 [(0, [27]), (1, [155, 0, 21]), (22, [3]), (23, [172]), (4, [27]), (5, [42]), (6, [180, 0, 19]), (9, [190]), (10, [162, 0, 12]), (13, [42]), (14, [180, 0, 19]), (17, [27]), (18, [46]), (19, [167, 0, 4])] = true := by decide +kernel
theorem dX10_left_0 : decode cX10_left 0 = .ok (.iload_n 1, 1) := q_iload_n1 (bat_get dg_X10_left_0_0 0 rfl rfl)
theorem dX10_left_1 : decode cX10_left 1 = .ok (.ifCond .lt 21, 3) := q_ifCond_lt (bat_get dg_X10_left_0_0 1 rfl rfl) rfl
theorem dX10_left_23 : decode cX10_left 23 = .ok (.ireturn, 1) := q_ireturn (bat_get dg_X10_left_0_0 3 rfl rfl)
theorem dX10_left_4 : decode cX10_left 4 = .ok (.iload_n 1, 1) := q_iload_n1 (bat_get dg_X10_left_0_0 4 rfl rfl)
theorem dX10_left_5 : decode cX10_left 5 = .ok (.aload_n 0, 1) := q_aload_n0 (bat_get dg_X10_left_0_0 5 rfl rfl)
theorem dX10_left_6 : decode cX10_left 6 = .ok (.getfield 19, 3) := q_getfield (bat_get dg_X10_left_0_0 6 rfl rfl) rfl
theorem dX10_left_9 : decode cX10_left 9 = .ok (.arraylength, 1) := q_arraylength (bat_get dg_X10_left_0_0 7 rfl rfl)
theorem dX10_left_10 : decode cX10_left 10 = .ok (.if_icmp .ge 12, 3) := q_if_icmp_ge (bat_get dg_X10_left_0_0 8 rfl rfl) rfl
theorem dX10_left_13 : decode cX10_left 13 = .ok (.aload_n 0, 1) := q_aload_n0 (bat_get dg_X10_left_0_0 9 rfl rfl)
theorem dX10_left_14 : decode cX10_left 14 = .ok (.getfield 19, 3) := q_getfield (bat_get dg_X10_left_0_0 10 rfl rfl) rfl
theorem dX10_left_17 : decode cX10_left 17 = .ok (.iload_n 1, 1) := q_iload_n1 (bat_get dg_X10_left_0_0 11 rfl rfl)
theorem dX10_left_18 : decode cX10_left 18 = .ok (.iaload, 1) := q_iaload (bat_get dg_X10_left_0_0 12 rfl rfl)
theorem dX10_left_19 : decode cX10_left 19 = .ok (.goto 4, 3) := q_goto (bat_get dg_X10_left_0_0 13 rfl rfl) rfl
theorem w_4_217 : (Cond.code yX10_left cX10_left 2 (some .int)) ∈ wsL_law := sk_mem (ck_4 _ (List.mem_of_getElem? (i := 217) rfl)) rfl
theorem dg_X10_checkOf_0_0 : bqL cX10_checkOf 0 [(0, [17, 0, 139]), (3, [61]), (4, [3]), (5, [62]), (6, [29]), (7, [27]), (8, [162, 0, 23]), (31, [28]), (32, [172]), (11, [6]), (12, [28]), (13, [104]), (14, [42]), (15, [29]), (16, [182, 0, 27]), (19, [96]), (20, [17, 0, 251]), (23, [112]), (24, [61]), (25, [132, 3, 1]), (28, [167, 255, 234])] = true := by decide +kernel
theorem dX10_checkOf_0 : decode cX10_checkOf 0 = .ok (.sipush 139, 3) := q_sipush (bat_get dg_X10_checkOf_0_0 0 rfl rfl) rfl
theorem dX10_checkOf_3 : decode cX10_checkOf 3 = .ok (.istore_n 2, 1) := q_istore_n2 (bat_get dg_X10_checkOf_0_0 1 rfl rfl)
theorem dX10_checkOf_4 : decode cX10_checkOf 4 = .ok (.iconst 0, 1) := q_iconst0 (bat_get dg_X10_checkOf_0_0 2 rfl rfl)
theorem dX10_checkOf_5 : decode cX10_checkOf 5 = .ok (.istore_n 3, 1) := q_istore_n3 (bat_get dg_X10_checkOf_0_0 3 rfl rfl)
theorem dX10_checkOf_6 : decode cX10_checkOf 6 = .ok (.iload_n 3, 1) := q_iload_n3 (bat_get dg_X10_checkOf_0_0 4 rfl rfl)
theorem dX10_checkOf_7 : decode cX10_checkOf 7 = .ok (.iload_n 1, 1) := q_iload_n1 (bat_get dg_X10_checkOf_0_0 5 rfl rfl)
theorem dX10_checkOf_8 : decode cX10_checkOf 8 = .ok (.if_icmp .ge 23, 3) := q_if_icmp_ge (bat_get dg_X10_checkOf_0_0 6 rfl rfl) rfl
theorem dX10_checkOf_31 : decode cX10_checkOf 31 = .ok (.iload_n 2, 1) := q_iload_n2 (bat_get dg_X10_checkOf_0_0 7 rfl rfl)
theorem dX10_checkOf_32 : decode cX10_checkOf 32 = .ok (.ireturn, 1) := q_ireturn (bat_get dg_X10_checkOf_0_0 8 rfl rfl)
theorem dX10_checkOf_11 : decode cX10_checkOf 11 = .ok (.iconst 3, 1) := q_iconst3 (bat_get dg_X10_checkOf_0_0 9 rfl rfl)
theorem dX10_checkOf_12 : decode cX10_checkOf 12 = .ok (.iload_n 2, 1) := q_iload_n2 (bat_get dg_X10_checkOf_0_0 10 rfl rfl)
theorem dX10_checkOf_13 : decode cX10_checkOf 13 = .ok (.imul, 1) := q_imul (bat_get dg_X10_checkOf_0_0 11 rfl rfl)
theorem dX10_checkOf_14 : decode cX10_checkOf 14 = .ok (.aload_n 0, 1) := q_aload_n0 (bat_get dg_X10_checkOf_0_0 12 rfl rfl)
theorem dX10_checkOf_15 : decode cX10_checkOf 15 = .ok (.iload_n 3, 1) := q_iload_n3 (bat_get dg_X10_checkOf_0_0 13 rfl rfl)
theorem dX10_checkOf_16 : decode cX10_checkOf 16 = .ok (.invokevirtual 27, 3) := q_invokevirtual (bat_get dg_X10_checkOf_0_0 14 rfl rfl) rfl
theorem dX10_checkOf_19 : decode cX10_checkOf 19 = .ok (.iadd, 1) := q_iadd (bat_get dg_X10_checkOf_0_0 15 rfl rfl)
theorem dX10_checkOf_20 : decode cX10_checkOf 20 = .ok (.sipush 251, 3) := q_sipush (bat_get dg_X10_checkOf_0_0 16 rfl rfl) rfl
theorem dX10_checkOf_23 : decode cX10_checkOf 23 = .ok (.irem, 1) := q_irem (bat_get dg_X10_checkOf_0_0 17 rfl rfl)
theorem dX10_checkOf_24 : decode cX10_checkOf 24 = .ok (.istore_n 2, 1) := q_istore_n2 (bat_get dg_X10_checkOf_0_0 18 rfl rfl)
theorem dX10_checkOf_25 : decode cX10_checkOf 25 = .ok (.iinc 3 1, 3) := q_iinc (bat_get dg_X10_checkOf_0_0 19 rfl rfl) rfl
theorem dX10_checkOf_28 : decode cX10_checkOf 28 = .ok (.goto (-22), 3) := q_goto (bat_get dg_X10_checkOf_0_0 20 rfl rfl) rfl
theorem w_5_132 : (Cond.methodLink RX10 27 yX10_left) ∈ wsL_law := sk_mem (ck_5 _ (List.mem_of_getElem? (i := 132) rfl)) rfl
theorem w_4_215 : (Cond.instanceMethod yX10_left) ∈ wsL_law := sk_mem (ck_4 _ (List.mem_of_getElem? (i := 215) rfl)) rfl
theorem w_4_216 : (Cond.selects RX10 yX10_left yX10_left) ∈ wsL_law := sk_mem (ck_4 _ (List.mem_of_getElem? (i := 216) rfl)) rfl
theorem w_1_2 : (Cond.initialized RX10) ∈ wsL_law := sk_mem (ck_1 _ (List.mem_of_getElem? (i := 2) rfl)) rfl
theorem w_5_131 : (Cond.code yX10_checkOf cX10_checkOf 4 (some .int)) ∈ wsL_law := sk_mem (ck_5 _ (List.mem_of_getElem? (i := 131) rfl)) rfl
def om_2_3 : List Bool := true :: true :: []
theorem hd_X10_left_1 : skD yX10_left 1 := by decide +kernel
theorem dg_X10_addNumber_0_0 : bqL cX10_addNumber 0 [(0, [42]), (1, [27]), (2, [16, 24]), (4, [124]), (5, [182, 0, 23]), (8, [42]), (9, [27]), (10, [16, 16]), (12, [124]), (13, [182, 0, 23]), (16, [42]), (17, [27]), (18, [16, 8]), (20, [124]), (21, [182, 0, 23]), (24, [42]), (25, [27]), (26, [182, 0, 23]), (29, [177])] = true := by decide +kernel
theorem dX10_addNumber_0 : decode cX10_addNumber 0 = .ok (.aload_n 0, 1) := q_aload_n0 (bat_get dg_X10_addNumber_0_0 0 rfl rfl)
theorem dX10_addNumber_1 : decode cX10_addNumber 1 = .ok (.iload_n 1, 1) := q_iload_n1 (bat_get dg_X10_addNumber_0_0 1 rfl rfl)
theorem dX10_addNumber_2 : decode cX10_addNumber 2 = .ok (.bipush 24, 2) := q_bipush (bat_get dg_X10_addNumber_0_0 2 rfl rfl) rfl
theorem dX10_addNumber_4 : decode cX10_addNumber 4 = .ok (.iushr, 1) := q_iushr (bat_get dg_X10_addNumber_0_0 3 rfl rfl)
theorem dX10_addNumber_5 : decode cX10_addNumber 5 = .ok (.invokevirtual 23, 3) := q_invokevirtual (bat_get dg_X10_addNumber_0_0 4 rfl rfl) rfl
theorem dX10_addNumber_8 : decode cX10_addNumber 8 = .ok (.aload_n 0, 1) := q_aload_n0 (bat_get dg_X10_addNumber_0_0 5 rfl rfl)
theorem dX10_addNumber_9 : decode cX10_addNumber 9 = .ok (.iload_n 1, 1) := q_iload_n1 (bat_get dg_X10_addNumber_0_0 6 rfl rfl)
theorem dX10_addNumber_10 : decode cX10_addNumber 10 = .ok (.bipush 16, 2) := q_bipush (bat_get dg_X10_addNumber_0_0 7 rfl rfl) rfl
theorem dX10_addNumber_12 : decode cX10_addNumber 12 = .ok (.iushr, 1) := q_iushr (bat_get dg_X10_addNumber_0_0 8 rfl rfl)
theorem dX10_addNumber_13 : decode cX10_addNumber 13 = .ok (.invokevirtual 23, 3) := q_invokevirtual (bat_get dg_X10_addNumber_0_0 9 rfl rfl) rfl
theorem dX10_addNumber_16 : decode cX10_addNumber 16 = .ok (.aload_n 0, 1) := q_aload_n0 (bat_get dg_X10_addNumber_0_0 10 rfl rfl)
theorem dX10_addNumber_17 : decode cX10_addNumber 17 = .ok (.iload_n 1, 1) := q_iload_n1 (bat_get dg_X10_addNumber_0_0 11 rfl rfl)
theorem dX10_addNumber_18 : decode cX10_addNumber 18 = .ok (.bipush 8, 2) := q_bipush (bat_get dg_X10_addNumber_0_0 12 rfl rfl) rfl
theorem dX10_addNumber_20 : decode cX10_addNumber 20 = .ok (.iushr, 1) := q_iushr (bat_get dg_X10_addNumber_0_0 13 rfl rfl)
theorem dX10_addNumber_21 : decode cX10_addNumber 21 = .ok (.invokevirtual 23, 3) := q_invokevirtual (bat_get dg_X10_addNumber_0_0 14 rfl rfl) rfl
theorem dX10_addNumber_24 : decode cX10_addNumber 24 = .ok (.aload_n 0, 1) := q_aload_n0 (bat_get dg_X10_addNumber_0_0 15 rfl rfl)
theorem dX10_addNumber_25 : decode cX10_addNumber 25 = .ok (.iload_n 1, 1) := q_iload_n1 (bat_get dg_X10_addNumber_0_0 16 rfl rfl)
theorem dX10_addNumber_26 : decode cX10_addNumber 26 = .ok (.invokevirtual 23, 3) := q_invokevirtual (bat_get dg_X10_addNumber_0_0 17 rfl rfl) rfl
theorem dX10_addNumber_29 : decode cX10_addNumber 29 = .ok (.return_, 1) := q_return_ (bat_get dg_X10_addNumber_0_0 18 rfl rfl)
theorem w_2_190 : (Cond.methodLink RX10 23 yX10_add) ∈ wsL_law := sk_mem (ck_2 _ (List.mem_of_getElem? (i := 190) rfl)) rfl
theorem w_2_191 : (Cond.instanceMethod yX10_add) ∈ wsL_law := sk_mem (ck_2 _ (List.mem_of_getElem? (i := 191) rfl)) rfl
theorem w_2_192 : (Cond.selects RX10 yX10_add yX10_add) ∈ wsL_law := sk_mem (ck_2 _ (List.mem_of_getElem? (i := 192) rfl)) rfl
theorem w_2_189 : (Cond.code yX10_addNumber cX10_addNumber 2 none) ∈ wsL_law := sk_mem (ck_2 _ (List.mem_of_getElem? (i := 189) rfl)) rfl
theorem hd_X10_add_1 : skD yX10_add 1 := by decide +kernel
theorem dg_X0_clear_0_0 : bqL cX0_clear 0 [(0, [42]), (1, [3]), (2, [181, 0, 27]), (5, [42]), (6, [3]), (7, [181, 0, 31]), (10, [177])] = true := by decide +kernel
theorem dX0_clear_0 : decode cX0_clear 0 = .ok (.aload_n 0, 1) := q_aload_n0 (bat_get dg_X0_clear_0_0 0 rfl rfl)
theorem dX0_clear_1 : decode cX0_clear 1 = .ok (.iconst 0, 1) := q_iconst0 (bat_get dg_X0_clear_0_0 1 rfl rfl)
theorem dX0_clear_2 : decode cX0_clear 2 = .ok (.putfield 27, 3) := q_putfield (bat_get dg_X0_clear_0_0 2 rfl rfl) rfl
theorem dX0_clear_5 : decode cX0_clear 5 = .ok (.aload_n 0, 1) := q_aload_n0 (bat_get dg_X0_clear_0_0 3 rfl rfl)
theorem dX0_clear_6 : decode cX0_clear 6 = .ok (.iconst 0, 1) := q_iconst0 (bat_get dg_X0_clear_0_0 4 rfl rfl)
theorem dX0_clear_7 : decode cX0_clear 7 = .ok (.putfield 31, 3) := q_putfield (bat_get dg_X0_clear_0_0 5 rfl rfl) rfl
theorem dX0_clear_10 : decode cX0_clear 10 = .ok (.return_, 1) := q_return_ (bat_get dg_X0_clear_0_0 6 rfl rfl)
theorem w_1_133 : (Cond.fieldLink RX0 27 "SameKeeper$Code" "length" "I") ∈ wsL_law := sk_mem (ck_1 _ (List.mem_of_getElem? (i := 133) rfl)) rfl
theorem w_1_136 : (Cond.fieldLink RX0 31 "SameKeeper$Code" "mindsWeek" "Z") ∈ wsL_law := sk_mem (ck_1 _ (List.mem_of_getElem? (i := 136) rfl)) rfl
theorem w_2_217 : (Cond.code yX0_clear cX0_clear 1 none) ∈ wsL_law := sk_mem (ck_2 _ (List.mem_of_getElem? (i := 217) rfl)) rfl
set_option maxHeartbeats 4000000 in
set_option maxRecDepth 100000 in
theorem c_Code_clear (l : Launch) (D : va_G) (cI cJ cC cZ cS : ClassId) (h0 : Nat) (k1 : Nat) (k2 : Nat) (k3 : Nat) (k4 : Nat) (cl : Nat) (mw : Nat)  : skM l yX0_clear cX0_clear 1 none 0 0 0 0 D (skT cI cJ cC cZ cS) [.ref h0] [ro_rrrrnn h0 0 k1 k2 k3 k4 cl mw] (skV D (skT cI cJ cC cZ cS) (fun (u : va_W) => u = [ro_rrrrii h0 0 k1 k2 k3 k4 0 0])) := by
  refine skM_of pf_X0_clear (Nat.le_of_ble_eq_true rfl) ?_
  intro p e s m below meth c A ls E hP hD hl
  refine skE_el E (fun hx hb hr hml hlocks hin hown hts hK hA => ?_)
  have hown : s.vm.findClass RX0 = some m.cls := hown
  have hS : va_S A s.heap s.heap [] := va_S.rf
  have hl : lv_has ls 1 [(0, .ref h0)] := hl
  refine lv_aload_n hx hb dX0_clear_0 rfl (lv_at hl 0 rfl) ?_
  refine lv_iconst (v := 0) hx hb dX0_clear_1 ic_0 ?_
  refine sk_put (ws' := [ro_rrrrin h0 0 k1 k2 k3 k4 0 mw]) (C := RX0) (T := TX0) (N := 6) (v := .int 0) hx hb hts inlX0 tyX0 tyX0_ok nmX0 hown hK hP hD hS 0 rfl rfl 4 (Nat.le_of_ble_eq_true rfl) w_1_133 rfl rfl rfl (Nat.le_of_ble_eq_true rfl) rfl dX0_clear_2 (fun H locs hP hD hS => ?_)
  refine lv_aload_n hx hb dX0_clear_5 rfl (lv_at hl 0 rfl) ?_
  refine lv_iconst (v := 0) hx hb dX0_clear_6 ic_0 ?_
  refine sk_put (ws' := [ro_rrrrii h0 0 k1 k2 k3 k4 0 0]) (C := RX0) (T := TX0) (N := 6) (v := .int 0) hx hb hts inlX0 tyX0 tyX0_ok nmX0 hown hK hP hD hS 0 rfl rfl 5 (Nat.le_of_ble_eq_true rfl) w_1_136 rfl rfl rfl (Nat.le_of_ble_eq_true rfl) rfl dX0_clear_7 (fun H locs hP hD hS => ?_)
  exact sk_vret hx hb hr hlocks hK hP hD hS rfl (Nat.le_of_ble_eq_true rfl) (Nat.le_of_ble_eq_true rfl) dX0_clear_10
theorem dg_X0_add_0_0 : bqL cX0_add 0 [(0, [42]), (1, [180, 0, 27]), (4, [42]), (5, [180, 0, 11]), (8, [190]), (9, [162, 0, 23]), (32, [42]), (33, [89]), (34, [180, 0, 31]), (37, [27]), (38, [17, 39, 20]), (41, [160, 0, 7]), (48, [3]), (49, [128]), (50, [181, 0, 31]), (53, [177]), (44, [4]), (45, [167, 0, 4]), (12, [42]), (13, [180, 0, 11]), (16, [42]), (17, [180, 0, 27]), (20, [27]), (21, [79]), (22, [42]), (23, [89]), (24, [180, 0, 27]), (27, [4]), (28, [96]), (29, [181, 0, 27])] = true := by decide +kernel
theorem dX0_add_0 : decode cX0_add 0 = .ok (.aload_n 0, 1) := q_aload_n0 (bat_get dg_X0_add_0_0 0 rfl rfl)
theorem dX0_add_1 : decode cX0_add 1 = .ok (.getfield 27, 3) := q_getfield (bat_get dg_X0_add_0_0 1 rfl rfl) rfl
theorem dX0_add_4 : decode cX0_add 4 = .ok (.aload_n 0, 1) := q_aload_n0 (bat_get dg_X0_add_0_0 2 rfl rfl)
theorem dX0_add_5 : decode cX0_add 5 = .ok (.getfield 11, 3) := q_getfield (bat_get dg_X0_add_0_0 3 rfl rfl) rfl
theorem dX0_add_8 : decode cX0_add 8 = .ok (.arraylength, 1) := q_arraylength (bat_get dg_X0_add_0_0 4 rfl rfl)
theorem dX0_add_9 : decode cX0_add 9 = .ok (.if_icmp .ge 23, 3) := q_if_icmp_ge (bat_get dg_X0_add_0_0 5 rfl rfl) rfl
theorem dX0_add_32 : decode cX0_add 32 = .ok (.aload_n 0, 1) := q_aload_n0 (bat_get dg_X0_add_0_0 6 rfl rfl)
theorem dX0_add_33 : decode cX0_add 33 = .ok (.dup, 1) := q_dup (bat_get dg_X0_add_0_0 7 rfl rfl)
theorem dX0_add_34 : decode cX0_add 34 = .ok (.getfield 31, 3) := q_getfield (bat_get dg_X0_add_0_0 8 rfl rfl) rfl
theorem dX0_add_37 : decode cX0_add 37 = .ok (.iload_n 1, 1) := q_iload_n1 (bat_get dg_X0_add_0_0 9 rfl rfl)
theorem dX0_add_38 : decode cX0_add 38 = .ok (.sipush 10004, 3) := q_sipush (bat_get dg_X0_add_0_0 10 rfl rfl) rfl
theorem dX0_add_41 : decode cX0_add 41 = .ok (.if_icmp .ne 7, 3) := q_if_icmp_ne (bat_get dg_X0_add_0_0 11 rfl rfl) rfl
theorem dX0_add_48 : decode cX0_add 48 = .ok (.iconst 0, 1) := q_iconst0 (bat_get dg_X0_add_0_0 12 rfl rfl)
theorem dX0_add_49 : decode cX0_add 49 = .ok (.ior, 1) := q_ior (bat_get dg_X0_add_0_0 13 rfl rfl)
theorem dX0_add_50 : decode cX0_add 50 = .ok (.putfield 31, 3) := q_putfield (bat_get dg_X0_add_0_0 14 rfl rfl) rfl
theorem dX0_add_53 : decode cX0_add 53 = .ok (.return_, 1) := q_return_ (bat_get dg_X0_add_0_0 15 rfl rfl)
theorem dX0_add_44 : decode cX0_add 44 = .ok (.iconst 1, 1) := q_iconst1 (bat_get dg_X0_add_0_0 16 rfl rfl)
theorem dX0_add_45 : decode cX0_add 45 = .ok (.goto 4, 3) := q_goto (bat_get dg_X0_add_0_0 17 rfl rfl) rfl
theorem dX0_add_12 : decode cX0_add 12 = .ok (.aload_n 0, 1) := q_aload_n0 (bat_get dg_X0_add_0_0 18 rfl rfl)
theorem dX0_add_13 : decode cX0_add 13 = .ok (.getfield 11, 3) := q_getfield (bat_get dg_X0_add_0_0 19 rfl rfl) rfl
theorem dX0_add_16 : decode cX0_add 16 = .ok (.aload_n 0, 1) := q_aload_n0 (bat_get dg_X0_add_0_0 20 rfl rfl)
theorem dX0_add_17 : decode cX0_add 17 = .ok (.getfield 27, 3) := q_getfield (bat_get dg_X0_add_0_0 21 rfl rfl) rfl
theorem dX0_add_20 : decode cX0_add 20 = .ok (.iload_n 1, 1) := q_iload_n1 (bat_get dg_X0_add_0_0 22 rfl rfl)
theorem dX0_add_21 : decode cX0_add 21 = .ok (.iastore, 1) := q_iastore (bat_get dg_X0_add_0_0 23 rfl rfl)
theorem dX0_add_22 : decode cX0_add 22 = .ok (.aload_n 0, 1) := q_aload_n0 (bat_get dg_X0_add_0_0 24 rfl rfl)
theorem dX0_add_23 : decode cX0_add 23 = .ok (.dup, 1) := q_dup (bat_get dg_X0_add_0_0 25 rfl rfl)
theorem dX0_add_24 : decode cX0_add 24 = .ok (.getfield 27, 3) := q_getfield (bat_get dg_X0_add_0_0 26 rfl rfl) rfl
theorem dX0_add_27 : decode cX0_add 27 = .ok (.iconst 1, 1) := q_iconst1 (bat_get dg_X0_add_0_0 27 rfl rfl)
theorem dX0_add_28 : decode cX0_add 28 = .ok (.iadd, 1) := q_iadd (bat_get dg_X0_add_0_0 28 rfl rfl)
theorem dX0_add_29 : decode cX0_add 29 = .ok (.putfield 27, 3) := q_putfield (bat_get dg_X0_add_0_0 29 rfl rfl) rfl
theorem w_1_129 : (Cond.fieldLink RX0 11 "SameKeeper$Code" "steps" "[I") ∈ wsL_law := sk_mem (ck_1 _ (List.mem_of_getElem? (i := 129) rfl)) rfl
theorem w_3_100 : (Cond.code yX0_add cX0_add 2 none) ∈ wsL_law := sk_mem (ck_3 _ (List.mem_of_getElem? (i := 100) rfl)) rfl
theorem dg_X0_name_0_0 : bqL cX0_name 0 [(0, [27]), (1, [17, 39, 16]), (4, [100]), (5, [54, 4]), (7, [21, 4]), (9, [155, 0, 18]), (27, [177]), (12, [21, 4]), (14, [16, 9]), (16, [162, 0, 11]), (19, [42]), (20, [180, 0, 21]), (23, [21, 4]), (25, [32]), (26, [80])] = true := by decide +kernel
theorem dX0_name_0 : decode cX0_name 0 = .ok (.iload_n 1, 1) := q_iload_n1 (bat_get dg_X0_name_0_0 0 rfl rfl)
theorem dX0_name_1 : decode cX0_name 1 = .ok (.sipush 10000, 3) := q_sipush (bat_get dg_X0_name_0_0 1 rfl rfl) rfl
theorem dX0_name_4 : decode cX0_name 4 = .ok (.isub, 1) := q_isub (bat_get dg_X0_name_0_0 2 rfl rfl)
theorem dX0_name_5 : decode cX0_name 5 = .ok (.istore 4, 2) := q_istore (bat_get dg_X0_name_0_0 3 rfl rfl)
theorem dX0_name_7 : decode cX0_name 7 = .ok (.iload 4, 2) := q_iload (bat_get dg_X0_name_0_0 4 rfl rfl)
theorem dX0_name_9 : decode cX0_name 9 = .ok (.ifCond .lt 18, 3) := q_ifCond_lt (bat_get dg_X0_name_0_0 5 rfl rfl) rfl
theorem dX0_name_27 : decode cX0_name 27 = .ok (.return_, 1) := q_return_ (bat_get dg_X0_name_0_0 6 rfl rfl)
theorem dX0_name_12 : decode cX0_name 12 = .ok (.iload 4, 2) := q_iload (bat_get dg_X0_name_0_0 7 rfl rfl)
theorem dX0_name_14 : decode cX0_name 14 = .ok (.bipush 9, 2) := q_bipush (bat_get dg_X0_name_0_0 8 rfl rfl) rfl
theorem dX0_name_16 : decode cX0_name 16 = .ok (.if_icmp .ge 11, 3) := q_if_icmp_ge (bat_get dg_X0_name_0_0 9 rfl rfl) rfl
theorem dX0_name_19 : decode cX0_name 19 = .ok (.aload_n 0, 1) := q_aload_n0 (bat_get dg_X0_name_0_0 10 rfl rfl)
theorem dX0_name_20 : decode cX0_name 20 = .ok (.getfield 21, 3) := q_getfield (bat_get dg_X0_name_0_0 11 rfl rfl) rfl
theorem dX0_name_23 : decode cX0_name 23 = .ok (.iload 4, 2) := q_iload (bat_get dg_X0_name_0_0 12 rfl rfl)
theorem dX0_name_25 : decode cX0_name 25 = .ok (.lload_n 2, 1) := q_lload_n2 (bat_get dg_X0_name_0_0 13 rfl rfl)
theorem dX0_name_26 : decode cX0_name 26 = .ok (.lastore, 1) := q_lastore (bat_get dg_X0_name_0_0 14 rfl rfl)
theorem w_1_131 : (Cond.fieldLink RX0 21 "SameKeeper$Code" "names" "[J") ∈ wsL_law := sk_mem (ck_1 _ (List.mem_of_getElem? (i := 131) rfl)) rfl
theorem w_3_215 : (Cond.code yX0_name cX0_name 5 none) ∈ wsL_law := sk_mem (ck_3 _ (List.mem_of_getElem? (i := 215) rfl)) rfl
set_option maxHeartbeats 4000000 in
set_option maxRecDepth 100000 in
theorem c_Code_name (l : Launch) (D : va_G) (cI cJ cC cZ cS : ClassId) (h0 : Nat) (k1 : Nat) (k2 : Nat) (k3 : Nat) (k4 : Nat) (cl : Nat) (mw : Nat) (f3 : Nat → Int64) (o : Int32) (x : Int64)  : skM l yX0_name cX0_name 5 none 0 0 0 0 D (skT cI cJ cC cZ cS) [.ref h0, .int o, .long x] [ro_rrrrnn h0 0 k1 k2 k3 k4 cl mw, ra_J k3 cJ 9 f3] (skV D (skT cI cJ cC cZ cS) (fun (u : va_W) => ∃ (g3 : Nat → Int64), u = [ro_rrrrnn h0 0 k1 k2 k3 k4 cl mw, ra_J k3 cJ 9 g3])) := by
  refine skM_of pf_X0_name (Nat.le_of_ble_eq_true rfl) ?_
  intro p e s m below meth c A ls E hP hD hl
  refine skE_el E (fun hx hb hr hml hlocks hin hown hts hK hA => ?_)
  have hown : s.vm.findClass RX0 = some m.cls := hown
  have hS : va_S A s.heap s.heap [] := va_S.rf
  have hl : lv_has ls 5 [(0, .ref h0), (1, .int o), (2, .long x)] := hl
  refine lv_iload_n hx hb dX0_name_0 rfl (lv_at hl 1 rfl) ?_
  refine lv_sipush (v := 10000) hx hb dX0_name_1 (by decide) ?_
  refine lv_isub hx hb dX0_name_4 ?_
  refine lv_topi (fun v_1 ev_1 => ?_)
  refine lv_istore (lv' := [(4, .int v_1), (0, .ref h0), (1, .int o), (2, .long x)]) hx hb dX0_name_5 hl (by decide) rfl (fun ls hl => ?_)
  refine lv_iload hx hb dX0_name_7 (lv_at hl 0 rfl) ?_
  refine lv_if_lt (tgt := 27) hx hb dX0_name_9 (by decide) (fun c_2 => ?_) (fun c_2 => ?_)
  · skip
    exact sk_vret hx hb hr hlocks hK hP hD hS (⟨f3, rfl⟩) (Nat.le_of_ble_eq_true rfl) (Nat.le_of_ble_eq_true rfl) dX0_name_27
  · obtain ⟨k_3, hk_3, rfl⟩ := nof v_1 c_2
    refine lv_iload hx hb dX0_name_12 (lv_at hl 0 rfl) ?_
    refine lv_bipush (v := 9) hx hb dX0_name_14 (by decide) ?_
    refine lv_icmp_ge (tgt := 27) hx hb dX0_name_16 (by decide) (fun c_4 => ?_) (fun c_4 => ?_)
    · have c_4 : 9 ≤ k_3 := (nle 9 k_3 (Nat.le_of_ble_eq_true rfl) (by omega)).mp c_4
      exact sk_vret hx hb hr hlocks hK hP hD hS (⟨f3, rfl⟩) (Nat.le_of_ble_eq_true rfl) (Nat.le_of_ble_eq_true rfl) dX0_name_27
    · have c_4 : ¬ (9 ≤ k_3) := fun h => c_4 ((nle 9 k_3 (Nat.le_of_ble_eq_true rfl) (by omega)).mpr h)
      refine lv_aload_n hx hb dX0_name_19 rfl (lv_at hl 1 rfl) ?_
      refine sk_get (v := .ref k3) (C := RX0) (T := TX0) (N := 6) hx hb hts inlX0 hown hK hP 0 rfl rfl 2 (Nat.le_of_ble_eq_true rfl) w_1_131 rfl dX0_name_20 ?_
      refine lv_iload hx hb dX0_name_23 (lv_at hl 0 rfl) ?_
      refine lv_lload_n hx hb dX0_name_25 rfl (lv_at hl 3 rfl) ?_
      refine sk_lastO (ws' := fun f_5 => [ro_rrrrnn h0 0 k1 k2 k3 k4 cl mw, ra_J k3 cJ 9 f_5]) hx hb hK hP hD hS 1 1 rfl rfl (vin k_3 9 (by omega) (Nat.le_of_ble_eq_true rfl)) (fun _ => rfl) dX0_name_26 (fun f_5 H locs hP hD hS => ?_)
      exact sk_vret hx hb hr hlocks hK hP hD hS (⟨f_5, rfl⟩) (Nat.le_of_ble_eq_true rfl) (Nat.le_of_ble_eq_true rfl) dX0_name_27
theorem dg_X0_nameCount_0_0 : bqL cX0_nameCount 0 [(0, [27]), (1, [155, 0, 16]), (17, [177]), (4, [27]), (5, [16, 10]), (7, [162, 0, 10]), (10, [42]), (11, [180, 0, 24]), (14, [27]), (15, [32]), (16, [80])] = true := by decide +kernel
theorem dX0_nameCount_0 : decode cX0_nameCount 0 = .ok (.iload_n 1, 1) := q_iload_n1 (bat_get dg_X0_nameCount_0_0 0 rfl rfl)
theorem dX0_nameCount_1 : decode cX0_nameCount 1 = .ok (.ifCond .lt 16, 3) := q_ifCond_lt (bat_get dg_X0_nameCount_0_0 1 rfl rfl) rfl
theorem dX0_nameCount_17 : decode cX0_nameCount 17 = .ok (.return_, 1) := q_return_ (bat_get dg_X0_nameCount_0_0 2 rfl rfl)
theorem dX0_nameCount_4 : decode cX0_nameCount 4 = .ok (.iload_n 1, 1) := q_iload_n1 (bat_get dg_X0_nameCount_0_0 3 rfl rfl)
theorem dX0_nameCount_5 : decode cX0_nameCount 5 = .ok (.bipush 10, 2) := q_bipush (bat_get dg_X0_nameCount_0_0 4 rfl rfl) rfl
theorem dX0_nameCount_7 : decode cX0_nameCount 7 = .ok (.if_icmp .ge 10, 3) := q_if_icmp_ge (bat_get dg_X0_nameCount_0_0 5 rfl rfl) rfl
theorem dX0_nameCount_10 : decode cX0_nameCount 10 = .ok (.aload_n 0, 1) := q_aload_n0 (bat_get dg_X0_nameCount_0_0 6 rfl rfl)
theorem dX0_nameCount_11 : decode cX0_nameCount 11 = .ok (.getfield 24, 3) := q_getfield (bat_get dg_X0_nameCount_0_0 7 rfl rfl) rfl
theorem dX0_nameCount_14 : decode cX0_nameCount 14 = .ok (.iload_n 1, 1) := q_iload_n1 (bat_get dg_X0_nameCount_0_0 8 rfl rfl)
theorem dX0_nameCount_15 : decode cX0_nameCount 15 = .ok (.lload_n 2, 1) := q_lload_n2 (bat_get dg_X0_nameCount_0_0 9 rfl rfl)
theorem dX0_nameCount_16 : decode cX0_nameCount 16 = .ok (.lastore, 1) := q_lastore (bat_get dg_X0_nameCount_0_0 10 rfl rfl)
theorem w_1_132 : (Cond.fieldLink RX0 24 "SameKeeper$Code" "counts" "[J") ∈ wsL_law := sk_mem (ck_1 _ (List.mem_of_getElem? (i := 132) rfl)) rfl
theorem w_5_115 : (Cond.code yX0_nameCount cX0_nameCount 4 none) ∈ wsL_law := sk_mem (ck_5 _ (List.mem_of_getElem? (i := 115) rfl)) rfl
set_option maxHeartbeats 4000000 in
set_option maxRecDepth 100000 in
theorem c_Code_nameCount (l : Launch) (D : va_G) (cI cJ cC cZ cS : ClassId) (h0 : Nat) (k1 : Nat) (k2 : Nat) (k3 : Nat) (k4 : Nat) (cl : Nat) (mw : Nat) (f4 : Nat → Int64) (o : Int32) (x : Int64)  : skM l yX0_nameCount cX0_nameCount 4 none 0 0 0 0 D (skT cI cJ cC cZ cS) [.ref h0, .int o, .long x] [ro_rrrrnn h0 0 k1 k2 k3 k4 cl mw, ra_J k4 cJ 10 f4] (skV D (skT cI cJ cC cZ cS) (fun (u : va_W) => ∃ (g4 : Nat → Int64), u = [ro_rrrrnn h0 0 k1 k2 k3 k4 cl mw, ra_J k4 cJ 10 g4])) := by
  refine skM_of pf_X0_nameCount (Nat.le_of_ble_eq_true rfl) ?_
  intro p e s m below meth c A ls E hP hD hl
  refine skE_el E (fun hx hb hr hml hlocks hin hown hts hK hA => ?_)
  have hown : s.vm.findClass RX0 = some m.cls := hown
  have hS : va_S A s.heap s.heap [] := va_S.rf
  have hl : lv_has ls 4 [(0, .ref h0), (1, .int o), (2, .long x)] := hl
  refine lv_iload_n hx hb dX0_nameCount_0 rfl (lv_at hl 1 rfl) ?_
  refine lv_if_lt (tgt := 17) hx hb dX0_nameCount_1 (by decide) (fun c_1 => ?_) (fun c_1 => ?_)
  · skip
    exact sk_vret hx hb hr hlocks hK hP hD hS (⟨f4, rfl⟩) (Nat.le_of_ble_eq_true rfl) (Nat.le_of_ble_eq_true rfl) dX0_nameCount_17
  · obtain ⟨k_2, hk_2, rfl⟩ := nof o c_1
    refine lv_iload_n hx hb dX0_nameCount_4 rfl (lv_at hl 1 rfl) ?_
    refine lv_bipush (v := 10) hx hb dX0_nameCount_5 (by decide) ?_
    refine lv_icmp_ge (tgt := 17) hx hb dX0_nameCount_7 (by decide) (fun c_3 => ?_) (fun c_3 => ?_)
    · have c_3 : 10 ≤ k_2 := (nle 10 k_2 (Nat.le_of_ble_eq_true rfl) (by omega)).mp c_3
      exact sk_vret hx hb hr hlocks hK hP hD hS (⟨f4, rfl⟩) (Nat.le_of_ble_eq_true rfl) (Nat.le_of_ble_eq_true rfl) dX0_nameCount_17
    · have c_3 : ¬ (10 ≤ k_2) := fun h => c_3 ((nle 10 k_2 (Nat.le_of_ble_eq_true rfl) (by omega)).mpr h)
      refine lv_aload_n hx hb dX0_nameCount_10 rfl (lv_at hl 0 rfl) ?_
      refine sk_get (v := .ref k4) (C := RX0) (T := TX0) (N := 6) hx hb hts inlX0 hown hK hP 0 rfl rfl 3 (Nat.le_of_ble_eq_true rfl) w_1_132 rfl dX0_nameCount_11 ?_
      refine lv_iload_n hx hb dX0_nameCount_14 rfl (lv_at hl 1 rfl) ?_
      refine lv_lload_n hx hb dX0_nameCount_15 rfl (lv_at hl 2 rfl) ?_
      refine sk_lastO (ws' := fun f_4 => [ro_rrrrnn h0 0 k1 k2 k3 k4 cl mw, ra_J k4 cJ 10 f_4]) hx hb hK hP hD hS 1 1 rfl rfl (vin k_2 10 (by omega) (Nat.le_of_ble_eq_true rfl)) (fun _ => rfl) dX0_nameCount_16 (fun f_4 H locs hP hD hS => ?_)
      exact sk_vret hx hb hr hlocks hK hP hD hS (⟨f_4, rfl⟩) (Nat.le_of_ble_eq_true rfl) (Nat.le_of_ble_eq_true rfl) dX0_nameCount_17
theorem lg_nonneg {a : Int64} (h : ¬ lg_cmp a 0 < 0) : 0 ≤ a.toInt := by
  rw [lg_cmp_lt, Int64.lt_iff_toInt_lt] at h
  have e0 : (0 : Int64).toInt = 0 := rfl
  rw [e0] at h
  omega
theorem lg_below10 {a : Int64} (h : ¬ 0 ≤ lg_cmp a 10) : a.toInt < (10 : Nat) := by
  rw [lg_cmp_ge, Int64.le_iff_toInt_le] at h
  have e0 : (10 : Int64).toInt = 10 := rfl
  rw [e0] at h
  omega
theorem lg_ne0 {a : Int64} (h : ¬ lg_cmp a 0 = 0) : ¬ a = 0 := fun q => h ((lg_cmp_eq a 0).mpr q)
theorem dg_X0_ofOne_0_0 : bqL cX0_ofOne 0 [(0, [27]), (1, [17, 78, 33]), (4, [160, 0, 15]), (19, [32]), (20, [9]), (21, [148]), (22, [155, 0, 21]), (43, [9]), (44, [173]), (25, [32]), (26, [20, 0, 49]), (29, [148]), (30, [156, 0, 13]), (33, [42]), (34, [180, 0, 24]), (37, [32]), (38, [136]), (39, [47]), (40, [167, 0, 4]), (7, [32]), (8, [9]), (9, [148]), (10, [154, 0, 7]), (17, [9]), (18, [173]), (13, [10]), (14, [167, 0, 4])] = true := by decide +kernel
theorem dX0_ofOne_0 : decode cX0_ofOne 0 = .ok (.iload_n 1, 1) := q_iload_n1 (bat_get dg_X0_ofOne_0_0 0 rfl rfl)
theorem dX0_ofOne_1 : decode cX0_ofOne 1 = .ok (.sipush 20001, 3) := q_sipush (bat_get dg_X0_ofOne_0_0 1 rfl rfl) rfl
theorem dX0_ofOne_4 : decode cX0_ofOne 4 = .ok (.if_icmp .ne 15, 3) := q_if_icmp_ne (bat_get dg_X0_ofOne_0_0 2 rfl rfl) rfl
theorem dX0_ofOne_19 : decode cX0_ofOne 19 = .ok (.lload_n 2, 1) := q_lload_n2 (bat_get dg_X0_ofOne_0_0 3 rfl rfl)
theorem dX0_ofOne_20 : decode cX0_ofOne 20 = .ok (.lconst 0, 1) := q_lconst0 (bat_get dg_X0_ofOne_0_0 4 rfl rfl)
theorem dX0_ofOne_21 : decode cX0_ofOne 21 = .ok (.lcmp, 1) := q_lcmp (bat_get dg_X0_ofOne_0_0 5 rfl rfl)
theorem dX0_ofOne_22 : decode cX0_ofOne 22 = .ok (.ifCond .lt 21, 3) := q_ifCond_lt (bat_get dg_X0_ofOne_0_0 6 rfl rfl) rfl
theorem dX0_ofOne_43 : decode cX0_ofOne 43 = .ok (.lconst 0, 1) := q_lconst0 (bat_get dg_X0_ofOne_0_0 7 rfl rfl)
theorem dX0_ofOne_44 : decode cX0_ofOne 44 = .ok (.lreturn, 1) := q_lreturn (bat_get dg_X0_ofOne_0_0 8 rfl rfl)
theorem dX0_ofOne_25 : decode cX0_ofOne 25 = .ok (.lload_n 2, 1) := q_lload_n2 (bat_get dg_X0_ofOne_0_0 9 rfl rfl)
theorem dX0_ofOne_26 : decode cX0_ofOne 26 = .ok (.ldc2_w 49, 3) := q_ldc2_w (bat_get dg_X0_ofOne_0_0 10 rfl rfl) rfl
theorem dX0_ofOne_29 : decode cX0_ofOne 29 = .ok (.lcmp, 1) := q_lcmp (bat_get dg_X0_ofOne_0_0 11 rfl rfl)
theorem dX0_ofOne_30 : decode cX0_ofOne 30 = .ok (.ifCond .ge 13, 3) := q_ifCond_ge (bat_get dg_X0_ofOne_0_0 12 rfl rfl) rfl
theorem dX0_ofOne_33 : decode cX0_ofOne 33 = .ok (.aload_n 0, 1) := q_aload_n0 (bat_get dg_X0_ofOne_0_0 13 rfl rfl)
theorem dX0_ofOne_34 : decode cX0_ofOne 34 = .ok (.getfield 24, 3) := q_getfield (bat_get dg_X0_ofOne_0_0 14 rfl rfl) rfl
theorem dX0_ofOne_37 : decode cX0_ofOne 37 = .ok (.lload_n 2, 1) := q_lload_n2 (bat_get dg_X0_ofOne_0_0 15 rfl rfl)
theorem dX0_ofOne_38 : decode cX0_ofOne 38 = .ok (.l2i, 1) := q_l2i (bat_get dg_X0_ofOne_0_0 16 rfl rfl)
theorem dX0_ofOne_39 : decode cX0_ofOne 39 = .ok (.laload, 1) := q_laload (bat_get dg_X0_ofOne_0_0 17 rfl rfl)
theorem dX0_ofOne_40 : decode cX0_ofOne 40 = .ok (.goto 4, 3) := q_goto (bat_get dg_X0_ofOne_0_0 18 rfl rfl) rfl
theorem dX0_ofOne_7 : decode cX0_ofOne 7 = .ok (.lload_n 2, 1) := q_lload_n2 (bat_get dg_X0_ofOne_0_0 19 rfl rfl)
theorem dX0_ofOne_8 : decode cX0_ofOne 8 = .ok (.lconst 0, 1) := q_lconst0 (bat_get dg_X0_ofOne_0_0 20 rfl rfl)
theorem dX0_ofOne_9 : decode cX0_ofOne 9 = .ok (.lcmp, 1) := q_lcmp (bat_get dg_X0_ofOne_0_0 21 rfl rfl)
theorem dX0_ofOne_10 : decode cX0_ofOne 10 = .ok (.ifCond .ne 7, 3) := q_ifCond_ne (bat_get dg_X0_ofOne_0_0 22 rfl rfl) rfl
theorem dX0_ofOne_17 : decode cX0_ofOne 17 = .ok (.lconst 0, 1) := q_lconst0 (bat_get dg_X0_ofOne_0_0 23 rfl rfl)
theorem dX0_ofOne_18 : decode cX0_ofOne 18 = .ok (.lreturn, 1) := q_lreturn (bat_get dg_X0_ofOne_0_0 24 rfl rfl)
theorem dX0_ofOne_13 : decode cX0_ofOne 13 = .ok (.lconst 1, 1) := q_lconst1 (bat_get dg_X0_ofOne_0_0 25 rfl rfl)
theorem dX0_ofOne_14 : decode cX0_ofOne 14 = .ok (.goto 4, 3) := q_goto (bat_get dg_X0_ofOne_0_0 26 rfl rfl) rfl
theorem w_4_6 : (Cond.constantLong RX0 49 (10)) ∈ wsL_law := sk_mem (ck_4 _ (List.mem_of_getElem? (i := 6) rfl)) rfl
theorem w_4_5 : (Cond.code yX0_ofOne cX0_ofOne 4 (some .long)) ∈ wsL_law := sk_mem (ck_4 _ (List.mem_of_getElem? (i := 5) rfl)) rfl
set_option maxHeartbeats 4000000 in
set_option maxRecDepth 100000 in
theorem c_Code_ofOne (l : Launch) (D : va_G) (cI cJ cC cZ cS : ClassId) (h0 : Nat) (k1 : Nat) (k2 : Nat) (k3 : Nat) (k4 : Nat) (cl : Nat) (mw : Nat) (f4 : Nat → Int64) (o : Int32) (x : Int64)  : skM l yX0_ofOne cX0_ofOne 4 (some .long) 0 0 0 0 D (skT cI cJ cC cZ cS) [.ref h0, .int o, .long x] [ro_rrrrnn h0 0 k1 k2 k3 k4 cl mw, ra_J k4 cJ 10 f4] (skL D (skT cI cJ cC cZ cS) (fun (r : Int64) (u : va_W) => u = [ro_rrrrnn h0 0 k1 k2 k3 k4 cl mw, ra_J k4 cJ 10 f4])) := by
  refine skM_of pf_X0_ofOne (Nat.le_of_ble_eq_true rfl) ?_
  intro p e s m below meth c A ls E hP hD hl
  refine skE_el E (fun hx hb hr hml hlocks hin hown hts hK hA => ?_)
  have hown : s.vm.findClass RX0 = some m.cls := hown
  have hS : va_S A s.heap s.heap [] := va_S.rf
  have hl : lv_has ls 4 [(0, .ref h0), (1, .int o), (2, .long x)] := hl
  refine lv_iload_n hx hb dX0_ofOne_0 rfl (lv_at hl 1 rfl) ?_
  refine lv_sipush (v := 20001) hx hb dX0_ofOne_1 (by decide) ?_
  refine lv_icmp_ne (tgt := 19) hx hb dX0_ofOne_4 (by decide) (fun c_1 => ?_) (fun c_1 => ?_)
  · skip
    refine lv_lload_n hx hb dX0_ofOne_19 rfl (lv_at hl 2 rfl) ?_
    refine lv_lconst (v := 0) hx hb dX0_ofOne_20 (by decide) ?_
    refine W.lcmp hx hb dX0_ofOne_21 ?_
    refine lv_if_lt (tgt := 43) hx hb dX0_ofOne_22 (by decide) (fun c_2 => ?_) (fun c_2 => ?_)
    · skip
      refine lv_lconst (v := 0) hx hb dX0_ofOne_43 (by decide) ?_
      exact sk_lret hx hb hr hlocks hK hP hD hS rfl (Nat.le_of_ble_eq_true rfl) (Nat.le_of_ble_eq_true rfl) dX0_ofOne_44
    · skip
      refine lv_lload_n hx hb dX0_ofOne_25 rfl (lv_at hl 2 rfl) ?_
      refine lv_ldc2 (v := 10) hx hb hown (hts _ w_4_6) dX0_ofOne_26 ?_
      refine W.lcmp hx hb dX0_ofOne_29 ?_
      refine lv_if_ge (tgt := 43) hx hb dX0_ofOne_30 (by decide) (fun c_3 => ?_) (fun c_3 => ?_)
      · skip
        refine lv_lconst (v := 0) hx hb dX0_ofOne_43 (by decide) ?_
        exact sk_lret hx hb hr hlocks hK hP hD hS rfl (Nat.le_of_ble_eq_true rfl) (Nat.le_of_ble_eq_true rfl) dX0_ofOne_44
      · skip
        refine lv_aload_n hx hb dX0_ofOne_33 rfl (lv_at hl 0 rfl) ?_
        refine sk_get (v := .ref k4) (C := RX0) (T := TX0) (N := 6) hx hb hts inlX0 hown hK hP 0 rfl rfl 3 (Nat.le_of_ble_eq_true rfl) w_1_132 rfl dX0_ofOne_34 ?_
        refine lv_lload_n hx hb dX0_ofOne_37 rfl (lv_at hl 2 rfl) ?_
        refine lv_l2i hx hb dX0_ofOne_38 rfl ?_
        obtain ⟨k_4, hk_4, ek_4⟩ := nl2i (a := x) (n := 10) (lg_nonneg c_2) (lg_below10 c_3) (by omega)
        refine sk_top (nI k_4) ek_4 ?_
        refine va_lald hx hb hK.1 hP 1 1 rfl rfl (vin k_4 10 (by omega) (Nat.le_of_ble_eq_true rfl)) dX0_ofOne_39 ?_
        refine lv_topl (fun v_5 ev_5 => ?_)
        refine lv_goto (tgt := 44) hx hb dX0_ofOne_40 (by decide) ?_
        exact sk_lret hx hb hr hlocks hK hP hD hS rfl (Nat.le_of_ble_eq_true rfl) (Nat.le_of_ble_eq_true rfl) dX0_ofOne_44
  · skip
    refine lv_lload_n hx hb dX0_ofOne_7 rfl (lv_at hl 2 rfl) ?_
    refine lv_lconst (v := 0) hx hb dX0_ofOne_8 (by decide) ?_
    refine W.lcmp hx hb dX0_ofOne_9 ?_
    refine lv_if_ne (tgt := 17) hx hb dX0_ofOne_10 (by decide) (fun c_6 => ?_) (fun c_6 => ?_)
    · skip
      refine lv_lconst (v := 0) hx hb dX0_ofOne_17 (by decide) ?_
      exact sk_lret hx hb hr hlocks hK hP hD hS rfl (Nat.le_of_ble_eq_true rfl) (Nat.le_of_ble_eq_true rfl) dX0_ofOne_18
    · skip
      refine lv_lconst (v := 1) hx hb dX0_ofOne_13 (by decide) ?_
      refine lv_goto (tgt := 18) hx hb dX0_ofOne_14 (by decide) ?_
      exact sk_lret hx hb hr hlocks hK hP hD hS rfl (Nat.le_of_ble_eq_true rfl) (Nat.le_of_ble_eq_true rfl) dX0_ofOne_18
theorem dg_X0_bounded_0_0 : bqL cX0_bounded 0 [(0, [30]), (1, [20, 0, 64]), (4, [148]), (5, [158, 0, 7]), (12, [30]), (13, [20, 0, 66]), (16, [148]), (17, [156, 0, 9]), (26, [30]), (27, [173]), (20, [20, 0, 66]), (23, [167, 0, 4]), (8, [20, 0, 64]), (11, [173])] = true := by decide +kernel
theorem dX0_bounded_0 : decode cX0_bounded 0 = .ok (.lload_n 0, 1) := q_lload_n0 (bat_get dg_X0_bounded_0_0 0 rfl rfl)
theorem dX0_bounded_1 : decode cX0_bounded 1 = .ok (.ldc2_w 64, 3) := q_ldc2_w (bat_get dg_X0_bounded_0_0 1 rfl rfl) rfl
theorem dX0_bounded_4 : decode cX0_bounded 4 = .ok (.lcmp, 1) := q_lcmp (bat_get dg_X0_bounded_0_0 2 rfl rfl)
theorem dX0_bounded_5 : decode cX0_bounded 5 = .ok (.ifCond .le 7, 3) := q_ifCond_le (bat_get dg_X0_bounded_0_0 3 rfl rfl) rfl
theorem dX0_bounded_12 : decode cX0_bounded 12 = .ok (.lload_n 0, 1) := q_lload_n0 (bat_get dg_X0_bounded_0_0 4 rfl rfl)
theorem dX0_bounded_13 : decode cX0_bounded 13 = .ok (.ldc2_w 66, 3) := q_ldc2_w (bat_get dg_X0_bounded_0_0 5 rfl rfl) rfl
theorem dX0_bounded_16 : decode cX0_bounded 16 = .ok (.lcmp, 1) := q_lcmp (bat_get dg_X0_bounded_0_0 6 rfl rfl)
theorem dX0_bounded_17 : decode cX0_bounded 17 = .ok (.ifCond .ge 9, 3) := q_ifCond_ge (bat_get dg_X0_bounded_0_0 7 rfl rfl) rfl
theorem dX0_bounded_26 : decode cX0_bounded 26 = .ok (.lload_n 0, 1) := q_lload_n0 (bat_get dg_X0_bounded_0_0 8 rfl rfl)
theorem dX0_bounded_27 : decode cX0_bounded 27 = .ok (.lreturn, 1) := q_lreturn (bat_get dg_X0_bounded_0_0 9 rfl rfl)
theorem dX0_bounded_20 : decode cX0_bounded 20 = .ok (.ldc2_w 66, 3) := q_ldc2_w (bat_get dg_X0_bounded_0_0 10 rfl rfl) rfl
theorem dX0_bounded_23 : decode cX0_bounded 23 = .ok (.goto 4, 3) := q_goto (bat_get dg_X0_bounded_0_0 11 rfl rfl) rfl
theorem dX0_bounded_8 : decode cX0_bounded 8 = .ok (.ldc2_w 64, 3) := q_ldc2_w (bat_get dg_X0_bounded_0_0 12 rfl rfl) rfl
theorem dX0_bounded_11 : decode cX0_bounded 11 = .ok (.lreturn, 1) := q_lreturn (bat_get dg_X0_bounded_0_0 13 rfl rfl)
theorem w_3_231 : (Cond.constantLong RX0 64 (1000000)) ∈ wsL_law := sk_mem (ck_3 _ (List.mem_of_getElem? (i := 231) rfl)) rfl
theorem w_3_232 : (Cond.constantLong RX0 66 (-1000000)) ∈ wsL_law := sk_mem (ck_3 _ (List.mem_of_getElem? (i := 232) rfl)) rfl
theorem w_3_230 : (Cond.code yX0_bounded cX0_bounded 2 (some .long)) ∈ wsL_law := sk_mem (ck_3 _ (List.mem_of_getElem? (i := 230) rfl)) rfl
set_option maxHeartbeats 4000000 in
set_option maxRecDepth 100000 in
theorem c_bounded (l : Launch) (D : va_G) (cI cJ cC cZ cS : ClassId) (x : Int64)  : skM l yX0_bounded cX0_bounded 2 (some .long) 0 0 0 0 D (skT cI cJ cC cZ cS) [.long x] [] (skL D (skT cI cJ cC cZ cS) (fun (r : Int64) (u : va_W) => u = [])) := by
  refine skM_of pf_X0_bounded (Nat.le_of_ble_eq_true rfl) ?_
  intro p e s m below meth c A ls E hP hD hl
  refine skE_el E (fun hx hb hr hml hlocks hin hown hts hK hA => ?_)
  have hown : s.vm.findClass RX0 = some m.cls := hown
  have hS : va_S A s.heap s.heap [] := va_S.rf
  have hl : lv_has ls 2 [(0, .long x)] := hl
  refine lv_lload_n hx hb dX0_bounded_0 rfl (lv_at hl 0 rfl) ?_
  refine lv_ldc2 (v := 1000000) hx hb hown (hts _ w_3_231) dX0_bounded_1 ?_
  refine W.lcmp hx hb dX0_bounded_4 ?_
  refine lv_if_le (tgt := 12) hx hb dX0_bounded_5 (by decide) (fun c_1 => ?_) (fun c_1 => ?_)
  · skip
    refine lv_lload_n hx hb dX0_bounded_12 rfl (lv_at hl 0 rfl) ?_
    refine lv_ldc2 (v := (-1000000)) hx hb hown (hts _ w_3_232) dX0_bounded_13 ?_
    refine W.lcmp hx hb dX0_bounded_16 ?_
    refine lv_if_ge (tgt := 26) hx hb dX0_bounded_17 (by decide) (fun c_2 => ?_) (fun c_2 => ?_)
    · skip
      refine lv_lload_n hx hb dX0_bounded_26 rfl (lv_at hl 0 rfl) ?_
      exact sk_lret hx hb hr hlocks hK hP hD hS rfl (Nat.le_of_ble_eq_true rfl) (Nat.le_of_ble_eq_true rfl) dX0_bounded_27
    · skip
      refine lv_ldc2 (v := (-1000000)) hx hb hown (hts _ w_3_232) dX0_bounded_20 ?_
      refine lv_goto (tgt := 27) hx hb dX0_bounded_23 (by decide) ?_
      exact sk_lret hx hb hr hlocks hK hP hD hS rfl (Nat.le_of_ble_eq_true rfl) (Nat.le_of_ble_eq_true rfl) dX0_bounded_27
  · skip
    refine lv_ldc2 (v := 1000000) hx hb hown (hts _ w_3_231) dX0_bounded_8 ?_
    exact sk_lret hx hb hr hlocks hK hP hD hS rfl (Nat.le_of_ble_eq_true rfl) (Nat.le_of_ble_eq_true rfl) dX0_bounded_11
theorem dg_J9_floorDiv_f86c9_0_0 : bqL cJ9_floorDiv_f86c9 0 [(0, [30]), (1, [32]), (2, [109]), (3, [55, 4]), (5, [30]), (6, [32]), (7, [131]), (8, [9]), (9, [148]), (10, [156, 0, 17]), (27, [22, 4]), (29, [173]), (13, [22, 4]), (15, [32]), (16, [105]), (17, [30]), (18, [148]), (19, [153, 0, 8]), (22, [22, 4]), (24, [10]), (25, [101]), (26, [173])] = true := by decide +kernel
theorem dJ9_floorDiv_f86c9_0 : decode cJ9_floorDiv_f86c9 0 = .ok (.lload_n 0, 1) := q_lload_n0 (bat_get dg_J9_floorDiv_f86c9_0_0 0 rfl rfl)
theorem dJ9_floorDiv_f86c9_1 : decode cJ9_floorDiv_f86c9 1 = .ok (.lload_n 2, 1) := q_lload_n2 (bat_get dg_J9_floorDiv_f86c9_0_0 1 rfl rfl)
theorem dJ9_floorDiv_f86c9_2 : decode cJ9_floorDiv_f86c9 2 = .ok (.ldiv, 1) := q_ldiv (bat_get dg_J9_floorDiv_f86c9_0_0 2 rfl rfl)
theorem dJ9_floorDiv_f86c9_3 : decode cJ9_floorDiv_f86c9 3 = .ok (.lstore 4, 2) := q_lstore (bat_get dg_J9_floorDiv_f86c9_0_0 3 rfl rfl)
theorem dJ9_floorDiv_f86c9_5 : decode cJ9_floorDiv_f86c9 5 = .ok (.lload_n 0, 1) := q_lload_n0 (bat_get dg_J9_floorDiv_f86c9_0_0 4 rfl rfl)
theorem dJ9_floorDiv_f86c9_6 : decode cJ9_floorDiv_f86c9 6 = .ok (.lload_n 2, 1) := q_lload_n2 (bat_get dg_J9_floorDiv_f86c9_0_0 5 rfl rfl)
theorem dJ9_floorDiv_f86c9_7 : decode cJ9_floorDiv_f86c9 7 = .ok (.lxor, 1) := q_lxor (bat_get dg_J9_floorDiv_f86c9_0_0 6 rfl rfl)
theorem dJ9_floorDiv_f86c9_8 : decode cJ9_floorDiv_f86c9 8 = .ok (.lconst 0, 1) := q_lconst0 (bat_get dg_J9_floorDiv_f86c9_0_0 7 rfl rfl)
theorem dJ9_floorDiv_f86c9_9 : decode cJ9_floorDiv_f86c9 9 = .ok (.lcmp, 1) := q_lcmp (bat_get dg_J9_floorDiv_f86c9_0_0 8 rfl rfl)
theorem dJ9_floorDiv_f86c9_10 : decode cJ9_floorDiv_f86c9 10 = .ok (.ifCond .ge 17, 3) := q_ifCond_ge (bat_get dg_J9_floorDiv_f86c9_0_0 9 rfl rfl) rfl
theorem dJ9_floorDiv_f86c9_27 : decode cJ9_floorDiv_f86c9 27 = .ok (.lload 4, 2) := q_lload (bat_get dg_J9_floorDiv_f86c9_0_0 10 rfl rfl)
theorem dJ9_floorDiv_f86c9_29 : decode cJ9_floorDiv_f86c9 29 = .ok (.lreturn, 1) := q_lreturn (bat_get dg_J9_floorDiv_f86c9_0_0 11 rfl rfl)
theorem dJ9_floorDiv_f86c9_13 : decode cJ9_floorDiv_f86c9 13 = .ok (.lload 4, 2) := q_lload (bat_get dg_J9_floorDiv_f86c9_0_0 12 rfl rfl)
theorem dJ9_floorDiv_f86c9_15 : decode cJ9_floorDiv_f86c9 15 = .ok (.lload_n 2, 1) := q_lload_n2 (bat_get dg_J9_floorDiv_f86c9_0_0 13 rfl rfl)
theorem dJ9_floorDiv_f86c9_16 : decode cJ9_floorDiv_f86c9 16 = .ok (.lmul, 1) := q_lmul (bat_get dg_J9_floorDiv_f86c9_0_0 14 rfl rfl)
theorem dJ9_floorDiv_f86c9_17 : decode cJ9_floorDiv_f86c9 17 = .ok (.lload_n 0, 1) := q_lload_n0 (bat_get dg_J9_floorDiv_f86c9_0_0 15 rfl rfl)
theorem dJ9_floorDiv_f86c9_18 : decode cJ9_floorDiv_f86c9 18 = .ok (.lcmp, 1) := q_lcmp (bat_get dg_J9_floorDiv_f86c9_0_0 16 rfl rfl)
theorem dJ9_floorDiv_f86c9_19 : decode cJ9_floorDiv_f86c9 19 = .ok (.ifCond .eq 8, 3) := q_ifCond_eq (bat_get dg_J9_floorDiv_f86c9_0_0 17 rfl rfl) rfl
theorem dJ9_floorDiv_f86c9_22 : decode cJ9_floorDiv_f86c9 22 = .ok (.lload 4, 2) := q_lload (bat_get dg_J9_floorDiv_f86c9_0_0 18 rfl rfl)
theorem dJ9_floorDiv_f86c9_24 : decode cJ9_floorDiv_f86c9 24 = .ok (.lconst 1, 1) := q_lconst1 (bat_get dg_J9_floorDiv_f86c9_0_0 19 rfl rfl)
theorem dJ9_floorDiv_f86c9_25 : decode cJ9_floorDiv_f86c9 25 = .ok (.lsub, 1) := q_lsub (bat_get dg_J9_floorDiv_f86c9_0_0 20 rfl rfl)
theorem dJ9_floorDiv_f86c9_26 : decode cJ9_floorDiv_f86c9 26 = .ok (.lreturn, 1) := q_lreturn (bat_get dg_J9_floorDiv_f86c9_0_0 21 rfl rfl)
theorem w_3_235 : (Cond.code yJ9_floorDiv_f86c9 cJ9_floorDiv_f86c9 6 (some .long)) ∈ wsL_law := sk_mem (ck_3 _ (List.mem_of_getElem? (i := 235) rfl)) rfl
set_option maxHeartbeats 4000000 in
set_option maxRecDepth 100000 in
theorem c_floorDiv (l : Launch) (D : va_G) (cI cJ cC cZ cS : ClassId) (x : Int64) (y : Int64) (hy : ¬ y = 0) : skM l yJ9_floorDiv_f86c9 cJ9_floorDiv_f86c9 6 (some .long) 0 0 0 0 D (skT cI cJ cC cZ cS) [.long x, .long y] [] (skL D (skT cI cJ cC cZ cS) (fun (r : Int64) (u : va_W) => u = [])) := by
  refine skM_of pf_J9_floorDiv_f86c9 (Nat.le_of_ble_eq_true rfl) ?_
  intro p e s m below meth c A ls E hP hD hl
  refine skE_el E (fun hx hb hr hml hlocks hin hown hts hK hA => ?_)
  have hown : s.vm.findClass RJ9 = some m.cls := hown
  have hS : va_S A s.heap s.heap [] := va_S.rf
  have hl : lv_has ls 6 [(0, .long x), (2, .long y)] := hl
  refine lv_lload_n hx hb dJ9_floorDiv_f86c9_0 rfl (lv_at hl 0 rfl) ?_
  refine lv_lload_n hx hb dJ9_floorDiv_f86c9_1 rfl (lv_at hl 1 rfl) ?_
  refine lv_ldiv hx hb dJ9_floorDiv_f86c9_2 hy ?_
  refine lv_topl (fun v_1 ev_1 => ?_)
  refine lv_lstore (lv' := [(4, .long v_1), (0, .long x), (2, .long y)]) hx hb dJ9_floorDiv_f86c9_3 hl (by decide) rfl (fun ls hl => ?_)
  refine lv_lload_n hx hb dJ9_floorDiv_f86c9_5 rfl (lv_at hl 1 rfl) ?_
  refine lv_lload_n hx hb dJ9_floorDiv_f86c9_6 rfl (lv_at hl 2 rfl) ?_
  refine lv_lxor hx hb dJ9_floorDiv_f86c9_7 ?_
  refine lv_topl (fun v_2 ev_2 => ?_)
  refine lv_lconst (v := 0) hx hb dJ9_floorDiv_f86c9_8 (by decide) ?_
  refine W.lcmp hx hb dJ9_floorDiv_f86c9_9 ?_
  refine lv_if_ge (tgt := 27) hx hb dJ9_floorDiv_f86c9_10 (by decide) (fun c_3 => ?_) (fun c_3 => ?_)
  · skip
    refine lv_lload hx hb dJ9_floorDiv_f86c9_27 (lv_at hl 0 rfl) ?_
    exact sk_lret hx hb hr hlocks hK hP hD hS rfl (Nat.le_of_ble_eq_true rfl) (Nat.le_of_ble_eq_true rfl) dJ9_floorDiv_f86c9_29
  · skip
    refine lv_lload hx hb dJ9_floorDiv_f86c9_13 (lv_at hl 0 rfl) ?_
    refine lv_lload_n hx hb dJ9_floorDiv_f86c9_15 rfl (lv_at hl 2 rfl) ?_
    refine lv_lmul hx hb dJ9_floorDiv_f86c9_16 ?_
    refine lv_topl (fun v_4 ev_4 => ?_)
    refine lv_lload_n hx hb dJ9_floorDiv_f86c9_17 rfl (lv_at hl 1 rfl) ?_
    refine W.lcmp hx hb dJ9_floorDiv_f86c9_18 ?_
    refine lv_if_eq (tgt := 27) hx hb dJ9_floorDiv_f86c9_19 (by decide) (fun c_5 => ?_) (fun c_5 => ?_)
    · skip
      refine lv_lload hx hb dJ9_floorDiv_f86c9_27 (lv_at hl 0 rfl) ?_
      exact sk_lret hx hb hr hlocks hK hP hD hS rfl (Nat.le_of_ble_eq_true rfl) (Nat.le_of_ble_eq_true rfl) dJ9_floorDiv_f86c9_29
    · skip
      refine lv_lload hx hb dJ9_floorDiv_f86c9_22 (lv_at hl 0 rfl) ?_
      refine lv_lconst (v := 1) hx hb dJ9_floorDiv_f86c9_24 (by decide) ?_
      refine lv_lsub hx hb dJ9_floorDiv_f86c9_25 ?_
      refine lv_topl (fun v_6 ev_6 => ?_)
      exact sk_lret hx hb hr hlocks hK hP hD hS rfl (Nat.le_of_ble_eq_true rfl) (Nat.le_of_ble_eq_true rfl) dJ9_floorDiv_f86c9_26
theorem dX0_ofTwo_1 : decode cX0_ofTwo 1 = .ok (.tableswitch 158 30000 30009 #[55, 62, 69, 76, 92, 98, 104, 116, 128, 140], 55) := by decide +kernel
theorem dg_X0_ofTwo_0_0 : bqL cX0_ofTwo 0 [(0, [26]), (56, [31]), (57, [33]), (58, [97]), (59, [184, 0, 51]), (62, [173]), (63, [31]), (64, [33]), (65, [101]), (66, [184, 0, 51]), (69, [173]), (70, [31]), (71, [33]), (72, [105]), (73, [184, 0, 51]), (76, [173]), (77, [33]), (78, [9]), (79, [148]), (80, [154, 0, 7]), (87, [31]), (88, [33]), (89, [184, 0, 55]), (92, [173]), (83, [9]), (84, [167, 0, 8]), (93, [31]), (94, [33]), (95, [184, 0, 59]), (98, [173]), (99, [31]), (100, [33]), (101, [184, 0, 62]), (104, [173]), (105, [31]), (106, [33]), (107, [148]), (108, [156, 0, 7]), (115, [9]), (116, [173])] = true := by decide +kernel
theorem dX0_ofTwo_0 : decode cX0_ofTwo 0 = .ok (.iload_n 0, 1) := q_iload_n0 (bat_get dg_X0_ofTwo_0_0 0 rfl rfl)
theorem dX0_ofTwo_56 : decode cX0_ofTwo 56 = .ok (.lload_n 1, 1) := q_lload_n1 (bat_get dg_X0_ofTwo_0_0 1 rfl rfl)
theorem dX0_ofTwo_57 : decode cX0_ofTwo 57 = .ok (.lload_n 3, 1) := q_lload_n3 (bat_get dg_X0_ofTwo_0_0 2 rfl rfl)
theorem dX0_ofTwo_58 : decode cX0_ofTwo 58 = .ok (.ladd, 1) := q_ladd (bat_get dg_X0_ofTwo_0_0 3 rfl rfl)
theorem dX0_ofTwo_59 : decode cX0_ofTwo 59 = .ok (.invokestatic 51, 3) := q_invokestatic (bat_get dg_X0_ofTwo_0_0 4 rfl rfl) rfl
theorem dX0_ofTwo_62 : decode cX0_ofTwo 62 = .ok (.lreturn, 1) := q_lreturn (bat_get dg_X0_ofTwo_0_0 5 rfl rfl)
theorem dX0_ofTwo_63 : decode cX0_ofTwo 63 = .ok (.lload_n 1, 1) := q_lload_n1 (bat_get dg_X0_ofTwo_0_0 6 rfl rfl)
theorem dX0_ofTwo_64 : decode cX0_ofTwo 64 = .ok (.lload_n 3, 1) := q_lload_n3 (bat_get dg_X0_ofTwo_0_0 7 rfl rfl)
theorem dX0_ofTwo_65 : decode cX0_ofTwo 65 = .ok (.lsub, 1) := q_lsub (bat_get dg_X0_ofTwo_0_0 8 rfl rfl)
theorem dX0_ofTwo_66 : decode cX0_ofTwo 66 = .ok (.invokestatic 51, 3) := q_invokestatic (bat_get dg_X0_ofTwo_0_0 9 rfl rfl) rfl
theorem dX0_ofTwo_69 : decode cX0_ofTwo 69 = .ok (.lreturn, 1) := q_lreturn (bat_get dg_X0_ofTwo_0_0 10 rfl rfl)
theorem dX0_ofTwo_70 : decode cX0_ofTwo 70 = .ok (.lload_n 1, 1) := q_lload_n1 (bat_get dg_X0_ofTwo_0_0 11 rfl rfl)
theorem dX0_ofTwo_71 : decode cX0_ofTwo 71 = .ok (.lload_n 3, 1) := q_lload_n3 (bat_get dg_X0_ofTwo_0_0 12 rfl rfl)
theorem dX0_ofTwo_72 : decode cX0_ofTwo 72 = .ok (.lmul, 1) := q_lmul (bat_get dg_X0_ofTwo_0_0 13 rfl rfl)
theorem dX0_ofTwo_73 : decode cX0_ofTwo 73 = .ok (.invokestatic 51, 3) := q_invokestatic (bat_get dg_X0_ofTwo_0_0 14 rfl rfl) rfl
theorem dX0_ofTwo_76 : decode cX0_ofTwo 76 = .ok (.lreturn, 1) := q_lreturn (bat_get dg_X0_ofTwo_0_0 15 rfl rfl)
theorem dX0_ofTwo_77 : decode cX0_ofTwo 77 = .ok (.lload_n 3, 1) := q_lload_n3 (bat_get dg_X0_ofTwo_0_0 16 rfl rfl)
theorem dX0_ofTwo_78 : decode cX0_ofTwo 78 = .ok (.lconst 0, 1) := q_lconst0 (bat_get dg_X0_ofTwo_0_0 17 rfl rfl)
theorem dX0_ofTwo_79 : decode cX0_ofTwo 79 = .ok (.lcmp, 1) := q_lcmp (bat_get dg_X0_ofTwo_0_0 18 rfl rfl)
theorem dX0_ofTwo_80 : decode cX0_ofTwo 80 = .ok (.ifCond .ne 7, 3) := q_ifCond_ne (bat_get dg_X0_ofTwo_0_0 19 rfl rfl) rfl
theorem dX0_ofTwo_87 : decode cX0_ofTwo 87 = .ok (.lload_n 1, 1) := q_lload_n1 (bat_get dg_X0_ofTwo_0_0 20 rfl rfl)
theorem dX0_ofTwo_88 : decode cX0_ofTwo 88 = .ok (.lload_n 3, 1) := q_lload_n3 (bat_get dg_X0_ofTwo_0_0 21 rfl rfl)
theorem dX0_ofTwo_89 : decode cX0_ofTwo 89 = .ok (.invokestatic 55, 3) := q_invokestatic (bat_get dg_X0_ofTwo_0_0 22 rfl rfl) rfl
theorem dX0_ofTwo_92 : decode cX0_ofTwo 92 = .ok (.lreturn, 1) := q_lreturn (bat_get dg_X0_ofTwo_0_0 23 rfl rfl)
theorem dX0_ofTwo_83 : decode cX0_ofTwo 83 = .ok (.lconst 0, 1) := q_lconst0 (bat_get dg_X0_ofTwo_0_0 24 rfl rfl)
theorem dX0_ofTwo_84 : decode cX0_ofTwo 84 = .ok (.goto 8, 3) := q_goto (bat_get dg_X0_ofTwo_0_0 25 rfl rfl) rfl
theorem dX0_ofTwo_93 : decode cX0_ofTwo 93 = .ok (.lload_n 1, 1) := q_lload_n1 (bat_get dg_X0_ofTwo_0_0 26 rfl rfl)
theorem dX0_ofTwo_94 : decode cX0_ofTwo 94 = .ok (.lload_n 3, 1) := q_lload_n3 (bat_get dg_X0_ofTwo_0_0 27 rfl rfl)
theorem dX0_ofTwo_95 : decode cX0_ofTwo 95 = .ok (.invokestatic 59, 3) := q_invokestatic (bat_get dg_X0_ofTwo_0_0 28 rfl rfl) rfl
theorem dX0_ofTwo_98 : decode cX0_ofTwo 98 = .ok (.lreturn, 1) := q_lreturn (bat_get dg_X0_ofTwo_0_0 29 rfl rfl)
theorem dX0_ofTwo_99 : decode cX0_ofTwo 99 = .ok (.lload_n 1, 1) := q_lload_n1 (bat_get dg_X0_ofTwo_0_0 30 rfl rfl)
theorem dX0_ofTwo_100 : decode cX0_ofTwo 100 = .ok (.lload_n 3, 1) := q_lload_n3 (bat_get dg_X0_ofTwo_0_0 31 rfl rfl)
theorem dX0_ofTwo_101 : decode cX0_ofTwo 101 = .ok (.invokestatic 62, 3) := q_invokestatic (bat_get dg_X0_ofTwo_0_0 32 rfl rfl) rfl
theorem dX0_ofTwo_104 : decode cX0_ofTwo 104 = .ok (.lreturn, 1) := q_lreturn (bat_get dg_X0_ofTwo_0_0 33 rfl rfl)
theorem dX0_ofTwo_105 : decode cX0_ofTwo 105 = .ok (.lload_n 1, 1) := q_lload_n1 (bat_get dg_X0_ofTwo_0_0 34 rfl rfl)
theorem dX0_ofTwo_106 : decode cX0_ofTwo 106 = .ok (.lload_n 3, 1) := q_lload_n3 (bat_get dg_X0_ofTwo_0_0 35 rfl rfl)
theorem dX0_ofTwo_107 : decode cX0_ofTwo 107 = .ok (.lcmp, 1) := q_lcmp (bat_get dg_X0_ofTwo_0_0 36 rfl rfl)
theorem dX0_ofTwo_108 : decode cX0_ofTwo 108 = .ok (.ifCond .ge 7, 3) := q_ifCond_ge (bat_get dg_X0_ofTwo_0_0 37 rfl rfl) rfl
theorem dX0_ofTwo_115 : decode cX0_ofTwo 115 = .ok (.lconst 0, 1) := q_lconst0 (bat_get dg_X0_ofTwo_0_0 38 rfl rfl)
theorem dX0_ofTwo_116 : decode cX0_ofTwo 116 = .ok (.lreturn, 1) := q_lreturn (bat_get dg_X0_ofTwo_0_0 39 rfl rfl)
theorem dg_X0_ofTwo_111_111 : bqL cX0_ofTwo 111 [(0, [10]), (1, [167, 0, 4]), (6, [31]), (7, [33]), (8, [148]), (9, [158, 0, 7]), (16, [9]), (17, [173]), (12, [10]), (13, [167, 0, 4]), (18, [31]), (19, [33]), (20, [148]), (21, [154, 0, 7]), (28, [9]), (29, [173]), (24, [10]), (25, [167, 0, 4]), (30, [31]), (31, [9]), (32, [148]), (33, [153, 0, 13]), (46, [9]), (47, [173]), (36, [33]), (37, [9]), (38, [148]), (39, [153, 0, 7]), (42, [10]), (43, [167, 0, 4]), (48, [31]), (49, [9]), (50, [148]), (51, [154, 0, 9]), (60, [10]), (61, [167, 0, 4]), (65, [173]), (54, [33]), (55, [9]), (56, [148])] = true := by decide +kernel
theorem dX0_ofTwo_111 : decode cX0_ofTwo 111 = .ok (.lconst 1, 1) := q_lconst1 (bat_get dg_X0_ofTwo_111_111 0 rfl rfl)
theorem dX0_ofTwo_112 : decode cX0_ofTwo 112 = .ok (.goto 4, 3) := q_goto (bat_get dg_X0_ofTwo_111_111 1 rfl rfl) rfl
theorem dX0_ofTwo_117 : decode cX0_ofTwo 117 = .ok (.lload_n 1, 1) := q_lload_n1 (bat_get dg_X0_ofTwo_111_111 2 rfl rfl)
theorem dX0_ofTwo_118 : decode cX0_ofTwo 118 = .ok (.lload_n 3, 1) := q_lload_n3 (bat_get dg_X0_ofTwo_111_111 3 rfl rfl)
theorem dX0_ofTwo_119 : decode cX0_ofTwo 119 = .ok (.lcmp, 1) := q_lcmp (bat_get dg_X0_ofTwo_111_111 4 rfl rfl)
theorem dX0_ofTwo_120 : decode cX0_ofTwo 120 = .ok (.ifCond .le 7, 3) := q_ifCond_le (bat_get dg_X0_ofTwo_111_111 5 rfl rfl) rfl
theorem dX0_ofTwo_127 : decode cX0_ofTwo 127 = .ok (.lconst 0, 1) := q_lconst0 (bat_get dg_X0_ofTwo_111_111 6 rfl rfl)
theorem dX0_ofTwo_128 : decode cX0_ofTwo 128 = .ok (.lreturn, 1) := q_lreturn (bat_get dg_X0_ofTwo_111_111 7 rfl rfl)
theorem dX0_ofTwo_123 : decode cX0_ofTwo 123 = .ok (.lconst 1, 1) := q_lconst1 (bat_get dg_X0_ofTwo_111_111 8 rfl rfl)
theorem dX0_ofTwo_124 : decode cX0_ofTwo 124 = .ok (.goto 4, 3) := q_goto (bat_get dg_X0_ofTwo_111_111 9 rfl rfl) rfl
theorem dX0_ofTwo_129 : decode cX0_ofTwo 129 = .ok (.lload_n 1, 1) := q_lload_n1 (bat_get dg_X0_ofTwo_111_111 10 rfl rfl)
theorem dX0_ofTwo_130 : decode cX0_ofTwo 130 = .ok (.lload_n 3, 1) := q_lload_n3 (bat_get dg_X0_ofTwo_111_111 11 rfl rfl)
theorem dX0_ofTwo_131 : decode cX0_ofTwo 131 = .ok (.lcmp, 1) := q_lcmp (bat_get dg_X0_ofTwo_111_111 12 rfl rfl)
theorem dX0_ofTwo_132 : decode cX0_ofTwo 132 = .ok (.ifCond .ne 7, 3) := q_ifCond_ne (bat_get dg_X0_ofTwo_111_111 13 rfl rfl) rfl
theorem dX0_ofTwo_139 : decode cX0_ofTwo 139 = .ok (.lconst 0, 1) := q_lconst0 (bat_get dg_X0_ofTwo_111_111 14 rfl rfl)
theorem dX0_ofTwo_140 : decode cX0_ofTwo 140 = .ok (.lreturn, 1) := q_lreturn (bat_get dg_X0_ofTwo_111_111 15 rfl rfl)
theorem dX0_ofTwo_135 : decode cX0_ofTwo 135 = .ok (.lconst 1, 1) := q_lconst1 (bat_get dg_X0_ofTwo_111_111 16 rfl rfl)
theorem dX0_ofTwo_136 : decode cX0_ofTwo 136 = .ok (.goto 4, 3) := q_goto (bat_get dg_X0_ofTwo_111_111 17 rfl rfl) rfl
theorem dX0_ofTwo_141 : decode cX0_ofTwo 141 = .ok (.lload_n 1, 1) := q_lload_n1 (bat_get dg_X0_ofTwo_111_111 18 rfl rfl)
theorem dX0_ofTwo_142 : decode cX0_ofTwo 142 = .ok (.lconst 0, 1) := q_lconst0 (bat_get dg_X0_ofTwo_111_111 19 rfl rfl)
theorem dX0_ofTwo_143 : decode cX0_ofTwo 143 = .ok (.lcmp, 1) := q_lcmp (bat_get dg_X0_ofTwo_111_111 20 rfl rfl)
theorem dX0_ofTwo_144 : decode cX0_ofTwo 144 = .ok (.ifCond .eq 13, 3) := q_ifCond_eq (bat_get dg_X0_ofTwo_111_111 21 rfl rfl) rfl
theorem dX0_ofTwo_157 : decode cX0_ofTwo 157 = .ok (.lconst 0, 1) := q_lconst0 (bat_get dg_X0_ofTwo_111_111 22 rfl rfl)
theorem dX0_ofTwo_158 : decode cX0_ofTwo 158 = .ok (.lreturn, 1) := q_lreturn (bat_get dg_X0_ofTwo_111_111 23 rfl rfl)
theorem dX0_ofTwo_147 : decode cX0_ofTwo 147 = .ok (.lload_n 3, 1) := q_lload_n3 (bat_get dg_X0_ofTwo_111_111 24 rfl rfl)
theorem dX0_ofTwo_148 : decode cX0_ofTwo 148 = .ok (.lconst 0, 1) := q_lconst0 (bat_get dg_X0_ofTwo_111_111 25 rfl rfl)
theorem dX0_ofTwo_149 : decode cX0_ofTwo 149 = .ok (.lcmp, 1) := q_lcmp (bat_get dg_X0_ofTwo_111_111 26 rfl rfl)
theorem dX0_ofTwo_150 : decode cX0_ofTwo 150 = .ok (.ifCond .eq 7, 3) := q_ifCond_eq (bat_get dg_X0_ofTwo_111_111 27 rfl rfl) rfl
theorem dX0_ofTwo_153 : decode cX0_ofTwo 153 = .ok (.lconst 1, 1) := q_lconst1 (bat_get dg_X0_ofTwo_111_111 28 rfl rfl)
theorem dX0_ofTwo_154 : decode cX0_ofTwo 154 = .ok (.goto 4, 3) := q_goto (bat_get dg_X0_ofTwo_111_111 29 rfl rfl) rfl
theorem dX0_ofTwo_159 : decode cX0_ofTwo 159 = .ok (.lload_n 1, 1) := q_lload_n1 (bat_get dg_X0_ofTwo_111_111 30 rfl rfl)
theorem dX0_ofTwo_160 : decode cX0_ofTwo 160 = .ok (.lconst 0, 1) := q_lconst0 (bat_get dg_X0_ofTwo_111_111 31 rfl rfl)
theorem dX0_ofTwo_161 : decode cX0_ofTwo 161 = .ok (.lcmp, 1) := q_lcmp (bat_get dg_X0_ofTwo_111_111 32 rfl rfl)
theorem dX0_ofTwo_162 : decode cX0_ofTwo 162 = .ok (.ifCond .ne 9, 3) := q_ifCond_ne (bat_get dg_X0_ofTwo_111_111 33 rfl rfl) rfl
theorem dX0_ofTwo_171 : decode cX0_ofTwo 171 = .ok (.lconst 1, 1) := q_lconst1 (bat_get dg_X0_ofTwo_111_111 34 rfl rfl)
theorem dX0_ofTwo_172 : decode cX0_ofTwo 172 = .ok (.goto 4, 3) := q_goto (bat_get dg_X0_ofTwo_111_111 35 rfl rfl) rfl
theorem dX0_ofTwo_176 : decode cX0_ofTwo 176 = .ok (.lreturn, 1) := q_lreturn (bat_get dg_X0_ofTwo_111_111 36 rfl rfl)
theorem dX0_ofTwo_165 : decode cX0_ofTwo 165 = .ok (.lload_n 3, 1) := q_lload_n3 (bat_get dg_X0_ofTwo_111_111 37 rfl rfl)
theorem dX0_ofTwo_166 : decode cX0_ofTwo 166 = .ok (.lconst 0, 1) := q_lconst0 (bat_get dg_X0_ofTwo_111_111 38 rfl rfl)
theorem dX0_ofTwo_167 : decode cX0_ofTwo 167 = .ok (.lcmp, 1) := q_lcmp (bat_get dg_X0_ofTwo_111_111 39 rfl rfl)
theorem dg_X0_ofTwo_168_168 : bqL cX0_ofTwo 168 [(0, [153, 0, 7]), (7, [9])] = true := by decide +kernel
theorem dX0_ofTwo_168 : decode cX0_ofTwo 168 = .ok (.ifCond .eq 7, 3) := q_ifCond_eq (bat_get dg_X0_ofTwo_168_168 0 rfl rfl) rfl
theorem dX0_ofTwo_175 : decode cX0_ofTwo 175 = .ok (.lconst 0, 1) := q_lconst0 (bat_get dg_X0_ofTwo_168_168 1 rfl rfl)
theorem w_3_228 : (Cond.methodLink RX0 51 yX0_bounded) ∈ wsL_law := sk_mem (ck_3 _ (List.mem_of_getElem? (i := 228) rfl)) rfl
theorem w_3_229 : (Cond.static yX0_bounded) ∈ wsL_law := sk_mem (ck_3 _ (List.mem_of_getElem? (i := 229) rfl)) rfl
theorem w_1_8 : (Cond.initialized RX0) ∈ wsL_law := sk_mem (ck_1 _ (List.mem_of_getElem? (i := 8) rfl)) rfl
theorem w_3_233 : (Cond.methodLink RX0 55 yJ9_floorDiv_f86c9) ∈ wsL_law := sk_mem (ck_3 _ (List.mem_of_getElem? (i := 233) rfl)) rfl
theorem w_3_234 : (Cond.static yJ9_floorDiv_f86c9) ∈ wsL_law := sk_mem (ck_3 _ (List.mem_of_getElem? (i := 234) rfl)) rfl
theorem w_1_3 : (Cond.initialized RJ9) ∈ wsL_law := sk_mem (ck_1 _ (List.mem_of_getElem? (i := 3) rfl)) rfl
theorem w_3_236 : (Cond.methodLink RX0 59 Lib.MathLoose.min_long.x) ∈ wsL_law := sk_mem (ck_3 _ (List.mem_of_getElem? (i := 236) rfl)) rfl
theorem w_3_237 : (Cond.static Lib.MathLoose.min_long.x) ∈ wsL_law := sk_mem (ck_3 _ (List.mem_of_getElem? (i := 237) rfl)) rfl
theorem w_3_238 : (Cond.code Lib.MathLoose.min_long.x Lib.MathLoose.min_long.code 4 (some .long)) ∈ wsL_law := sk_mem (ck_3 _ (List.mem_of_getElem? (i := 238) rfl)) rfl
theorem w_3_239 : (Cond.methodLink RX0 62 Lib.MathLoose.max_long.x) ∈ wsL_law := sk_mem (ck_3 _ (List.mem_of_getElem? (i := 239) rfl)) rfl
theorem w_4_0 : (Cond.static Lib.MathLoose.max_long.x) ∈ wsL_law := sk_mem (ck_4 _ (List.mem_of_getElem? (i := 0) rfl)) rfl
theorem w_4_1 : (Cond.code Lib.MathLoose.max_long.x Lib.MathLoose.max_long.code 4 (some .long)) ∈ wsL_law := sk_mem (ck_4 _ (List.mem_of_getElem? (i := 1) rfl)) rfl
theorem w_3_227 : (Cond.code yX0_ofTwo cX0_ofTwo 5 (some .long)) ∈ wsL_law := sk_mem (ck_3 _ (List.mem_of_getElem? (i := 227) rfl)) rfl
theorem hd_X0_bounded_1 : skD yX0_bounded 1 := by decide +kernel
theorem hd_J9_floorDiv_f86c9_2 : skD yJ9_floorDiv_f86c9 2 := by decide +kernel
set_option maxHeartbeats 4000000 in
set_option maxRecDepth 100000 in
theorem c_ofTwo (l : Launch) (D : va_G) (cI cJ cC cZ cS : ClassId) (o : Int32) (x : Int64) (y : Int64)  : skM l yX0_ofTwo cX0_ofTwo 5 (some .long) 1 25 0 0 D (skT cI cJ cC cZ cS) [.int o, .long x, .long y] [] (skL D (skT cI cJ cC cZ cS) (fun (r : Int64) (u : va_W) => u = [])) := by
  refine skM_of pf_X0_ofTwo (Nat.le_of_ble_eq_true rfl) ?_
  intro p e s m below meth c A ls E hP hD hl
  refine skE_el E (fun hx hb hr hml hlocks hin hown hts hK hA => ?_)
  have hown : s.vm.findClass RX0 = some m.cls := hown
  have hS : va_S A s.heap s.heap [] := va_S.rf
  have hl : lv_has ls 5 [(0, .int o), (1, .long x), (3, .long y)] := hl
  refine lv_iload_n hx hb dX0_ofTwo_0 rfl (lv_at hl 0 rfl) ?_
  by_cases g_1 : o = 30000
  · refine lv_tableIn (off := 55) (tgt := 56) hx hb dX0_ofTwo_1 (by rw [g_1]; decide) (by rw [g_1]; decide) (by rw [g_1]; rfl) (by decide) ?_
    refine lv_lload_n hx hb dX0_ofTwo_56 rfl (lv_at hl 1 rfl) ?_
    refine lv_lload_n hx hb dX0_ofTwo_57 rfl (lv_at hl 2 rfl) ?_
    refine lv_ladd hx hb dX0_ofTwo_58 ?_
    refine lv_topl (fun v_2 ev_2 => ?_)
    refine sk_Sl (n := 1) (rest := []) (wr := []) ⟨hx, hb, hml, hown, hts⟩ hl.1 (c_bounded l D cI cJ cC cZ cS v_2) w_3_228 w_3_229 w_1_8 w_3_230 hd_X0_bounded_1 ⟨⟨(Nat.le_of_ble_eq_true rfl), (Nat.le_of_ble_eq_true rfl)⟩, (Nat.le_of_ble_eq_true rfl), (Nat.le_of_ble_eq_true rfl)⟩ hK hP hD hS hA [] [] rfl rfl (by decide +kernel) (by decide +kernel) (by decide +kernel) rfl rfl (Nat.le_of_ble_eq_true rfl) dX0_ofTwo_59 (fun r_3 u H locs hw hP hD hS => ?_)
    obtain rfl := hw
    refine o_re (ws' := []) hP hD rfl (fun hP hD => ?_)
    exact sk_lret hx hb hr hlocks hK hP hD hS rfl (Nat.le_of_ble_eq_true rfl) (Nat.le_of_ble_eq_true rfl) dX0_ofTwo_62
  by_cases g_4 : o = 30001
  · refine lv_tableIn (off := 62) (tgt := 63) hx hb dX0_ofTwo_1 (by rw [g_4]; decide) (by rw [g_4]; decide) (by rw [g_4]; rfl) (by decide) ?_
    refine lv_lload_n hx hb dX0_ofTwo_63 rfl (lv_at hl 1 rfl) ?_
    refine lv_lload_n hx hb dX0_ofTwo_64 rfl (lv_at hl 2 rfl) ?_
    refine lv_lsub hx hb dX0_ofTwo_65 ?_
    refine lv_topl (fun v_5 ev_5 => ?_)
    refine sk_Sl (n := 1) (rest := []) (wr := []) ⟨hx, hb, hml, hown, hts⟩ hl.1 (c_bounded l D cI cJ cC cZ cS v_5) w_3_228 w_3_229 w_1_8 w_3_230 hd_X0_bounded_1 ⟨⟨(Nat.le_of_ble_eq_true rfl), (Nat.le_of_ble_eq_true rfl)⟩, (Nat.le_of_ble_eq_true rfl), (Nat.le_of_ble_eq_true rfl)⟩ hK hP hD hS hA [] [] rfl rfl (by decide +kernel) (by decide +kernel) (by decide +kernel) rfl rfl (Nat.le_of_ble_eq_true rfl) dX0_ofTwo_66 (fun r_6 u H locs hw hP hD hS => ?_)
    obtain rfl := hw
    refine o_re (ws' := []) hP hD rfl (fun hP hD => ?_)
    exact sk_lret hx hb hr hlocks hK hP hD hS rfl (Nat.le_of_ble_eq_true rfl) (Nat.le_of_ble_eq_true rfl) dX0_ofTwo_69
  by_cases g_7 : o = 30002
  · refine lv_tableIn (off := 69) (tgt := 70) hx hb dX0_ofTwo_1 (by rw [g_7]; decide) (by rw [g_7]; decide) (by rw [g_7]; rfl) (by decide) ?_
    refine lv_lload_n hx hb dX0_ofTwo_70 rfl (lv_at hl 1 rfl) ?_
    refine lv_lload_n hx hb dX0_ofTwo_71 rfl (lv_at hl 2 rfl) ?_
    refine lv_lmul hx hb dX0_ofTwo_72 ?_
    refine lv_topl (fun v_8 ev_8 => ?_)
    refine sk_Sl (n := 1) (rest := []) (wr := []) ⟨hx, hb, hml, hown, hts⟩ hl.1 (c_bounded l D cI cJ cC cZ cS v_8) w_3_228 w_3_229 w_1_8 w_3_230 hd_X0_bounded_1 ⟨⟨(Nat.le_of_ble_eq_true rfl), (Nat.le_of_ble_eq_true rfl)⟩, (Nat.le_of_ble_eq_true rfl), (Nat.le_of_ble_eq_true rfl)⟩ hK hP hD hS hA [] [] rfl rfl (by decide +kernel) (by decide +kernel) (by decide +kernel) rfl rfl (Nat.le_of_ble_eq_true rfl) dX0_ofTwo_73 (fun r_9 u H locs hw hP hD hS => ?_)
    obtain rfl := hw
    refine o_re (ws' := []) hP hD rfl (fun hP hD => ?_)
    exact sk_lret hx hb hr hlocks hK hP hD hS rfl (Nat.le_of_ble_eq_true rfl) (Nat.le_of_ble_eq_true rfl) dX0_ofTwo_76
  by_cases g_10 : o = 30003
  · refine lv_tableIn (off := 76) (tgt := 77) hx hb dX0_ofTwo_1 (by rw [g_10]; decide) (by rw [g_10]; decide) (by rw [g_10]; rfl) (by decide) ?_
    refine lv_lload_n hx hb dX0_ofTwo_77 rfl (lv_at hl 2 rfl) ?_
    refine lv_lconst (v := 0) hx hb dX0_ofTwo_78 (by decide) ?_
    refine W.lcmp hx hb dX0_ofTwo_79 ?_
    refine lv_if_ne (tgt := 87) hx hb dX0_ofTwo_80 (by decide) (fun c_11 => ?_) (fun c_11 => ?_)
    · skip
      refine lv_lload_n hx hb dX0_ofTwo_87 rfl (lv_at hl 1 rfl) ?_
      refine lv_lload_n hx hb dX0_ofTwo_88 rfl (lv_at hl 2 rfl) ?_
      refine sk_Sl (n := 2) (rest := []) (wr := []) ⟨hx, hb, hml, hown, hts⟩ hl.1 (c_floorDiv l D cI cJ cC cZ cS x y (lg_ne0 c_11)) w_3_233 w_3_234 w_1_3 w_3_235 hd_J9_floorDiv_f86c9_2 ⟨⟨(Nat.le_of_ble_eq_true rfl), (Nat.le_of_ble_eq_true rfl)⟩, (Nat.le_of_ble_eq_true rfl), (Nat.le_of_ble_eq_true rfl)⟩ hK hP hD hS hA [] [] rfl rfl (by decide +kernel) (by decide +kernel) (by decide +kernel) rfl rfl (Nat.le_of_ble_eq_true rfl) dX0_ofTwo_89 (fun r_12 u H locs hw hP hD hS => ?_)
      obtain rfl := hw
      refine o_re (ws' := []) hP hD rfl (fun hP hD => ?_)
      exact sk_lret hx hb hr hlocks hK hP hD hS rfl (Nat.le_of_ble_eq_true rfl) (Nat.le_of_ble_eq_true rfl) dX0_ofTwo_92
    · skip
      refine lv_lconst (v := 0) hx hb dX0_ofTwo_83 (by decide) ?_
      refine lv_goto (tgt := 92) hx hb dX0_ofTwo_84 (by decide) ?_
      exact sk_lret hx hb hr hlocks hK hP hD hS rfl (Nat.le_of_ble_eq_true rfl) (Nat.le_of_ble_eq_true rfl) dX0_ofTwo_92
  by_cases g_13 : o = 30004
  · refine lv_tableIn (off := 92) (tgt := 93) hx hb dX0_ofTwo_1 (by rw [g_13]; decide) (by rw [g_13]; decide) (by rw [g_13]; rfl) (by decide) ?_
    refine lv_lload_n hx hb dX0_ofTwo_93 rfl (lv_at hl 1 rfl) ?_
    refine lv_lload_n hx hb dX0_ofTwo_94 rfl (lv_at hl 2 rfl) ?_
    refine va_mmin_long hx hb (by rw [hml]; exact hl.1.symm) hown (hts _ w_3_236) (hts _ w_3_237) (hts _ w_1_3) (hts _ w_3_238) (Nat.le_of_ble_eq_true rfl) (Nat.le_of_ble_eq_true rfl) (Nat.le_of_ble_eq_true rfl) (Nat.le_of_ble_eq_true rfl) dX0_ofTwo_95 ?_
    refine lv_topl (fun v_14 ev_14 => ?_)
    exact sk_lret hx hb hr hlocks hK hP hD hS rfl (Nat.le_of_ble_eq_true rfl) (Nat.le_of_ble_eq_true rfl) dX0_ofTwo_98
  by_cases g_15 : o = 30005
  · refine lv_tableIn (off := 98) (tgt := 99) hx hb dX0_ofTwo_1 (by rw [g_15]; decide) (by rw [g_15]; decide) (by rw [g_15]; rfl) (by decide) ?_
    refine lv_lload_n hx hb dX0_ofTwo_99 rfl (lv_at hl 1 rfl) ?_
    refine lv_lload_n hx hb dX0_ofTwo_100 rfl (lv_at hl 2 rfl) ?_
    refine va_mmax_long hx hb (by rw [hml]; exact hl.1.symm) hown (hts _ w_3_239) (hts _ w_4_0) (hts _ w_1_3) (hts _ w_4_1) (Nat.le_of_ble_eq_true rfl) (Nat.le_of_ble_eq_true rfl) (Nat.le_of_ble_eq_true rfl) (Nat.le_of_ble_eq_true rfl) dX0_ofTwo_101 ?_
    refine lv_topl (fun v_16 ev_16 => ?_)
    exact sk_lret hx hb hr hlocks hK hP hD hS rfl (Nat.le_of_ble_eq_true rfl) (Nat.le_of_ble_eq_true rfl) dX0_ofTwo_104
  by_cases g_17 : o = 30006
  · refine lv_tableIn (off := 104) (tgt := 105) hx hb dX0_ofTwo_1 (by rw [g_17]; decide) (by rw [g_17]; decide) (by rw [g_17]; rfl) (by decide) ?_
    refine lv_lload_n hx hb dX0_ofTwo_105 rfl (lv_at hl 1 rfl) ?_
    refine lv_lload_n hx hb dX0_ofTwo_106 rfl (lv_at hl 2 rfl) ?_
    refine W.lcmp hx hb dX0_ofTwo_107 ?_
    refine lv_if_ge (tgt := 115) hx hb dX0_ofTwo_108 (by decide) (fun c_18 => ?_) (fun c_18 => ?_)
    · skip
      refine lv_lconst (v := 0) hx hb dX0_ofTwo_115 (by decide) ?_
      exact sk_lret hx hb hr hlocks hK hP hD hS rfl (Nat.le_of_ble_eq_true rfl) (Nat.le_of_ble_eq_true rfl) dX0_ofTwo_116
    · skip
      refine lv_lconst (v := 1) hx hb dX0_ofTwo_111 (by decide) ?_
      refine lv_goto (tgt := 116) hx hb dX0_ofTwo_112 (by decide) ?_
      exact sk_lret hx hb hr hlocks hK hP hD hS rfl (Nat.le_of_ble_eq_true rfl) (Nat.le_of_ble_eq_true rfl) dX0_ofTwo_116
  by_cases g_19 : o = 30007
  · refine lv_tableIn (off := 116) (tgt := 117) hx hb dX0_ofTwo_1 (by rw [g_19]; decide) (by rw [g_19]; decide) (by rw [g_19]; rfl) (by decide) ?_
    refine lv_lload_n hx hb dX0_ofTwo_117 rfl (lv_at hl 1 rfl) ?_
    refine lv_lload_n hx hb dX0_ofTwo_118 rfl (lv_at hl 2 rfl) ?_
    refine W.lcmp hx hb dX0_ofTwo_119 ?_
    refine lv_if_le (tgt := 127) hx hb dX0_ofTwo_120 (by decide) (fun c_20 => ?_) (fun c_20 => ?_)
    · skip
      refine lv_lconst (v := 0) hx hb dX0_ofTwo_127 (by decide) ?_
      exact sk_lret hx hb hr hlocks hK hP hD hS rfl (Nat.le_of_ble_eq_true rfl) (Nat.le_of_ble_eq_true rfl) dX0_ofTwo_128
    · skip
      refine lv_lconst (v := 1) hx hb dX0_ofTwo_123 (by decide) ?_
      refine lv_goto (tgt := 128) hx hb dX0_ofTwo_124 (by decide) ?_
      exact sk_lret hx hb hr hlocks hK hP hD hS rfl (Nat.le_of_ble_eq_true rfl) (Nat.le_of_ble_eq_true rfl) dX0_ofTwo_128
  by_cases g_21 : o = 30008
  · refine lv_tableIn (off := 128) (tgt := 129) hx hb dX0_ofTwo_1 (by rw [g_21]; decide) (by rw [g_21]; decide) (by rw [g_21]; rfl) (by decide) ?_
    refine lv_lload_n hx hb dX0_ofTwo_129 rfl (lv_at hl 1 rfl) ?_
    refine lv_lload_n hx hb dX0_ofTwo_130 rfl (lv_at hl 2 rfl) ?_
    refine W.lcmp hx hb dX0_ofTwo_131 ?_
    refine lv_if_ne (tgt := 139) hx hb dX0_ofTwo_132 (by decide) (fun c_22 => ?_) (fun c_22 => ?_)
    · skip
      refine lv_lconst (v := 0) hx hb dX0_ofTwo_139 (by decide) ?_
      exact sk_lret hx hb hr hlocks hK hP hD hS rfl (Nat.le_of_ble_eq_true rfl) (Nat.le_of_ble_eq_true rfl) dX0_ofTwo_140
    · skip
      refine lv_lconst (v := 1) hx hb dX0_ofTwo_135 (by decide) ?_
      refine lv_goto (tgt := 140) hx hb dX0_ofTwo_136 (by decide) ?_
      exact sk_lret hx hb hr hlocks hK hP hD hS rfl (Nat.le_of_ble_eq_true rfl) (Nat.le_of_ble_eq_true rfl) dX0_ofTwo_140
  by_cases g_23 : o = 30009
  · refine lv_tableIn (off := 140) (tgt := 141) hx hb dX0_ofTwo_1 (by rw [g_23]; decide) (by rw [g_23]; decide) (by rw [g_23]; rfl) (by decide) ?_
    refine lv_lload_n hx hb dX0_ofTwo_141 rfl (lv_at hl 1 rfl) ?_
    refine lv_lconst (v := 0) hx hb dX0_ofTwo_142 (by decide) ?_
    refine W.lcmp hx hb dX0_ofTwo_143 ?_
    refine lv_if_eq (tgt := 157) hx hb dX0_ofTwo_144 (by decide) (fun c_24 => ?_) (fun c_24 => ?_)
    · skip
      refine lv_lconst (v := 0) hx hb dX0_ofTwo_157 (by decide) ?_
      exact sk_lret hx hb hr hlocks hK hP hD hS rfl (Nat.le_of_ble_eq_true rfl) (Nat.le_of_ble_eq_true rfl) dX0_ofTwo_158
    · skip
      refine lv_lload_n hx hb dX0_ofTwo_147 rfl (lv_at hl 2 rfl) ?_
      refine lv_lconst (v := 0) hx hb dX0_ofTwo_148 (by decide) ?_
      refine W.lcmp hx hb dX0_ofTwo_149 ?_
      refine lv_if_eq (tgt := 157) hx hb dX0_ofTwo_150 (by decide) (fun c_25 => ?_) (fun c_25 => ?_)
      · skip
        refine lv_lconst (v := 0) hx hb dX0_ofTwo_157 (by decide) ?_
        exact sk_lret hx hb hr hlocks hK hP hD hS rfl (Nat.le_of_ble_eq_true rfl) (Nat.le_of_ble_eq_true rfl) dX0_ofTwo_158
      · skip
        refine lv_lconst (v := 1) hx hb dX0_ofTwo_153 (by decide) ?_
        refine lv_goto (tgt := 158) hx hb dX0_ofTwo_154 (by decide) ?_
        exact sk_lret hx hb hr hlocks hK hP hD hS rfl (Nat.le_of_ble_eq_true rfl) (Nat.le_of_ble_eq_true rfl) dX0_ofTwo_158
  refine lv_tableOut (tgt := 159) hx hb dX0_ofTwo_1 (sk_out2 30000 30009 (by intro k hk1 hk2; rcases (show k = 30000 ∨ k = 30001 ∨ k = 30002 ∨ k = 30003 ∨ k = 30004 ∨ k = 30005 ∨ k = 30006 ∨ k = 30007 ∨ k = 30008 ∨ k = 30009 by omega) with rfl | rfl | rfl | rfl | rfl | rfl | rfl | rfl | rfl | rfl <;> assumption)) (by decide) ?_
  refine lv_lload_n hx hb dX0_ofTwo_159 rfl (lv_at hl 1 rfl) ?_
  refine lv_lconst (v := 0) hx hb dX0_ofTwo_160 (by decide) ?_
  refine W.lcmp hx hb dX0_ofTwo_161 ?_
  refine lv_if_ne (tgt := 171) hx hb dX0_ofTwo_162 (by decide) (fun c_26 => ?_) (fun c_26 => ?_)
  · skip
    refine lv_lconst (v := 1) hx hb dX0_ofTwo_171 (by decide) ?_
    refine lv_goto (tgt := 176) hx hb dX0_ofTwo_172 (by decide) ?_
    exact sk_lret hx hb hr hlocks hK hP hD hS rfl (Nat.le_of_ble_eq_true rfl) (Nat.le_of_ble_eq_true rfl) dX0_ofTwo_176
  · skip
    refine lv_lload_n hx hb dX0_ofTwo_165 rfl (lv_at hl 2 rfl) ?_
    refine lv_lconst (v := 0) hx hb dX0_ofTwo_166 (by decide) ?_
    refine W.lcmp hx hb dX0_ofTwo_167 ?_
    refine lv_if_eq (tgt := 175) hx hb dX0_ofTwo_168 (by decide) (fun c_27 => ?_) (fun c_27 => ?_)
    · skip
      refine lv_lconst (v := 0) hx hb dX0_ofTwo_175 (by decide) ?_
      exact sk_lret hx hb hr hlocks hK hP hD hS rfl (Nat.le_of_ble_eq_true rfl) (Nat.le_of_ble_eq_true rfl) dX0_ofTwo_176
    · skip
      refine lv_lconst (v := 1) hx hb dX0_ofTwo_171 (by decide) ?_
      refine lv_goto (tgt := 176) hx hb dX0_ofTwo_172 (by decide) ?_
      exact sk_lret hx hb hr hlocks hK hP hD hS rfl (Nat.le_of_ble_eq_true rfl) (Nat.le_of_ble_eq_true rfl) dX0_ofTwo_176
theorem dg_J9_floorMod_f86c9_0_0 : bqL cJ9_floorMod_f86c9 0 [(0, [30]), (1, [32]), (2, [113]), (3, [55, 4]), (5, [30]), (6, [32]), (7, [131]), (8, [9]), (9, [148]), (10, [156, 0, 15]), (25, [22, 4]), (27, [173]), (13, [22, 4]), (15, [9]), (16, [148]), (17, [153, 0, 8]), (20, [22, 4]), (22, [32]), (23, [97]), (24, [173])] = true := by decide +kernel
theorem dJ9_floorMod_f86c9_0 : decode cJ9_floorMod_f86c9 0 = .ok (.lload_n 0, 1) := q_lload_n0 (bat_get dg_J9_floorMod_f86c9_0_0 0 rfl rfl)
theorem dJ9_floorMod_f86c9_1 : decode cJ9_floorMod_f86c9 1 = .ok (.lload_n 2, 1) := q_lload_n2 (bat_get dg_J9_floorMod_f86c9_0_0 1 rfl rfl)
theorem dJ9_floorMod_f86c9_2 : decode cJ9_floorMod_f86c9 2 = .ok (.lrem, 1) := q_lrem (bat_get dg_J9_floorMod_f86c9_0_0 2 rfl rfl)
theorem dJ9_floorMod_f86c9_3 : decode cJ9_floorMod_f86c9 3 = .ok (.lstore 4, 2) := q_lstore (bat_get dg_J9_floorMod_f86c9_0_0 3 rfl rfl)
theorem dJ9_floorMod_f86c9_5 : decode cJ9_floorMod_f86c9 5 = .ok (.lload_n 0, 1) := q_lload_n0 (bat_get dg_J9_floorMod_f86c9_0_0 4 rfl rfl)
theorem dJ9_floorMod_f86c9_6 : decode cJ9_floorMod_f86c9 6 = .ok (.lload_n 2, 1) := q_lload_n2 (bat_get dg_J9_floorMod_f86c9_0_0 5 rfl rfl)
theorem dJ9_floorMod_f86c9_7 : decode cJ9_floorMod_f86c9 7 = .ok (.lxor, 1) := q_lxor (bat_get dg_J9_floorMod_f86c9_0_0 6 rfl rfl)
theorem dJ9_floorMod_f86c9_8 : decode cJ9_floorMod_f86c9 8 = .ok (.lconst 0, 1) := q_lconst0 (bat_get dg_J9_floorMod_f86c9_0_0 7 rfl rfl)
theorem dJ9_floorMod_f86c9_9 : decode cJ9_floorMod_f86c9 9 = .ok (.lcmp, 1) := q_lcmp (bat_get dg_J9_floorMod_f86c9_0_0 8 rfl rfl)
theorem dJ9_floorMod_f86c9_10 : decode cJ9_floorMod_f86c9 10 = .ok (.ifCond .ge 15, 3) := q_ifCond_ge (bat_get dg_J9_floorMod_f86c9_0_0 9 rfl rfl) rfl
theorem dJ9_floorMod_f86c9_25 : decode cJ9_floorMod_f86c9 25 = .ok (.lload 4, 2) := q_lload (bat_get dg_J9_floorMod_f86c9_0_0 10 rfl rfl)
theorem dJ9_floorMod_f86c9_27 : decode cJ9_floorMod_f86c9 27 = .ok (.lreturn, 1) := q_lreturn (bat_get dg_J9_floorMod_f86c9_0_0 11 rfl rfl)
theorem dJ9_floorMod_f86c9_13 : decode cJ9_floorMod_f86c9 13 = .ok (.lload 4, 2) := q_lload (bat_get dg_J9_floorMod_f86c9_0_0 12 rfl rfl)
theorem dJ9_floorMod_f86c9_15 : decode cJ9_floorMod_f86c9 15 = .ok (.lconst 0, 1) := q_lconst0 (bat_get dg_J9_floorMod_f86c9_0_0 13 rfl rfl)
theorem dJ9_floorMod_f86c9_16 : decode cJ9_floorMod_f86c9 16 = .ok (.lcmp, 1) := q_lcmp (bat_get dg_J9_floorMod_f86c9_0_0 14 rfl rfl)
theorem dJ9_floorMod_f86c9_17 : decode cJ9_floorMod_f86c9 17 = .ok (.ifCond .eq 8, 3) := q_ifCond_eq (bat_get dg_J9_floorMod_f86c9_0_0 15 rfl rfl) rfl
theorem dJ9_floorMod_f86c9_20 : decode cJ9_floorMod_f86c9 20 = .ok (.lload 4, 2) := q_lload (bat_get dg_J9_floorMod_f86c9_0_0 16 rfl rfl)
theorem dJ9_floorMod_f86c9_22 : decode cJ9_floorMod_f86c9 22 = .ok (.lload_n 2, 1) := q_lload_n2 (bat_get dg_J9_floorMod_f86c9_0_0 17 rfl rfl)
theorem dJ9_floorMod_f86c9_23 : decode cJ9_floorMod_f86c9 23 = .ok (.ladd, 1) := q_ladd (bat_get dg_J9_floorMod_f86c9_0_0 18 rfl rfl)
theorem dJ9_floorMod_f86c9_24 : decode cJ9_floorMod_f86c9 24 = .ok (.lreturn, 1) := q_lreturn (bat_get dg_J9_floorMod_f86c9_0_0 19 rfl rfl)
theorem w_4_12 : (Cond.code yJ9_floorMod_f86c9 cJ9_floorMod_f86c9 6 (some .long)) ∈ wsL_law := sk_mem (ck_4 _ (List.mem_of_getElem? (i := 12) rfl)) rfl
theorem dg_J9_floorMod_1978a_0_0 : bqL cJ9_floorMod_1978a 0 [(0, [30]), (1, [28]), (2, [133]), (3, [184, 0, 146]), (6, [136]), (7, [172])] = true := by decide +kernel
theorem dJ9_floorMod_1978a_0 : decode cJ9_floorMod_1978a 0 = .ok (.lload_n 0, 1) := q_lload_n0 (bat_get dg_J9_floorMod_1978a_0_0 0 rfl rfl)
theorem dJ9_floorMod_1978a_1 : decode cJ9_floorMod_1978a 1 = .ok (.iload_n 2, 1) := q_iload_n2 (bat_get dg_J9_floorMod_1978a_0_0 1 rfl rfl)
theorem dJ9_floorMod_1978a_2 : decode cJ9_floorMod_1978a 2 = .ok (.i2l, 1) := q_i2l (bat_get dg_J9_floorMod_1978a_0_0 2 rfl rfl)
theorem dJ9_floorMod_1978a_3 : decode cJ9_floorMod_1978a 3 = .ok (.invokestatic 146, 3) := q_invokestatic (bat_get dg_J9_floorMod_1978a_0_0 3 rfl rfl) rfl
theorem dJ9_floorMod_1978a_6 : decode cJ9_floorMod_1978a 6 = .ok (.l2i, 1) := q_l2i (bat_get dg_J9_floorMod_1978a_0_0 4 rfl rfl)
theorem dJ9_floorMod_1978a_7 : decode cJ9_floorMod_1978a 7 = .ok (.ireturn, 1) := q_ireturn (bat_get dg_J9_floorMod_1978a_0_0 5 rfl rfl)
theorem w_4_10 : (Cond.methodLink RJ9 146 yJ9_floorMod_f86c9) ∈ wsL_law := sk_mem (ck_4 _ (List.mem_of_getElem? (i := 10) rfl)) rfl
theorem w_4_11 : (Cond.static yJ9_floorMod_f86c9) ∈ wsL_law := sk_mem (ck_4 _ (List.mem_of_getElem? (i := 11) rfl)) rfl
theorem w_4_9 : (Cond.code yJ9_floorMod_1978a cJ9_floorMod_1978a 3 (some .int)) ∈ wsL_law := sk_mem (ck_4 _ (List.mem_of_getElem? (i := 9) rfl)) rfl
theorem hd_J9_floorMod_f86c9_2 : skD yJ9_floorMod_f86c9 2 := by decide +kernel
theorem dg_X0_run_0_0 : bqL cX0_run 0 [(0, [3]), (1, [62]), (2, [27]), (3, [3]), (4, [184, 0, 35]), (7, [54, 4]), (9, [21, 4]), (11, [28]), (12, [162, 0, 161]), (173, [29]), (174, [158, 0, 12]), (186, [9]), (187, [173]), (177, [42]), (178, [180, 0, 17]), (181, [3]), (182, [47]), (183, [167, 0, 4]), (15, [21, 4]), (17, [42]), (18, [180, 0, 27]), (21, [162, 0, 152]), (24, [42]), (25, [180, 0, 11]), (28, [21, 4]), (30, [46]), (31, [54, 5]), (33, [21, 5]), (35, [17, 117, 48]), (38, [161, 0, 41]), (79, [21, 5]), (81, [17, 78, 32]), (84, [161, 0, 32]), (116, [29]), (117, [42]), (118, [180, 0, 17]), (121, [190]), (122, [162, 0, 45]), (167, [132, 4, 1]), (170, [167, 255, 95])] = true := by decide +kernel
theorem dX0_run_0 : decode cX0_run 0 = .ok (.iconst 0, 1) := q_iconst0 (bat_get dg_X0_run_0_0 0 rfl rfl)
theorem dX0_run_1 : decode cX0_run 1 = .ok (.istore_n 3, 1) := q_istore_n3 (bat_get dg_X0_run_0_0 1 rfl rfl)
theorem dX0_run_2 : decode cX0_run 2 = .ok (.iload_n 1, 1) := q_iload_n1 (bat_get dg_X0_run_0_0 2 rfl rfl)
theorem dX0_run_3 : decode cX0_run 3 = .ok (.iconst 0, 1) := q_iconst0 (bat_get dg_X0_run_0_0 3 rfl rfl)
theorem dX0_run_4 : decode cX0_run 4 = .ok (.invokestatic 35, 3) := q_invokestatic (bat_get dg_X0_run_0_0 4 rfl rfl) rfl
theorem dX0_run_7 : decode cX0_run 7 = .ok (.istore 4, 2) := q_istore (bat_get dg_X0_run_0_0 5 rfl rfl)
theorem dX0_run_9 : decode cX0_run 9 = .ok (.iload 4, 2) := q_iload (bat_get dg_X0_run_0_0 6 rfl rfl)
theorem dX0_run_11 : decode cX0_run 11 = .ok (.iload_n 2, 1) := q_iload_n2 (bat_get dg_X0_run_0_0 7 rfl rfl)
theorem dX0_run_12 : decode cX0_run 12 = .ok (.if_icmp .ge 161, 3) := q_if_icmp_ge (bat_get dg_X0_run_0_0 8 rfl rfl) rfl
theorem dX0_run_173 : decode cX0_run 173 = .ok (.iload_n 3, 1) := q_iload_n3 (bat_get dg_X0_run_0_0 9 rfl rfl)
theorem dX0_run_174 : decode cX0_run 174 = .ok (.ifCond .le 12, 3) := q_ifCond_le (bat_get dg_X0_run_0_0 10 rfl rfl) rfl
theorem dX0_run_186 : decode cX0_run 186 = .ok (.lconst 0, 1) := q_lconst0 (bat_get dg_X0_run_0_0 11 rfl rfl)
theorem dX0_run_187 : decode cX0_run 187 = .ok (.lreturn, 1) := q_lreturn (bat_get dg_X0_run_0_0 12 rfl rfl)
theorem dX0_run_177 : decode cX0_run 177 = .ok (.aload_n 0, 1) := q_aload_n0 (bat_get dg_X0_run_0_0 13 rfl rfl)
theorem dX0_run_178 : decode cX0_run 178 = .ok (.getfield 17, 3) := q_getfield (bat_get dg_X0_run_0_0 14 rfl rfl) rfl
theorem dX0_run_181 : decode cX0_run 181 = .ok (.iconst 0, 1) := q_iconst0 (bat_get dg_X0_run_0_0 15 rfl rfl)
theorem dX0_run_182 : decode cX0_run 182 = .ok (.laload, 1) := q_laload (bat_get dg_X0_run_0_0 16 rfl rfl)
theorem dX0_run_183 : decode cX0_run 183 = .ok (.goto 4, 3) := q_goto (bat_get dg_X0_run_0_0 17 rfl rfl) rfl
theorem dX0_run_15 : decode cX0_run 15 = .ok (.iload 4, 2) := q_iload (bat_get dg_X0_run_0_0 18 rfl rfl)
theorem dX0_run_17 : decode cX0_run 17 = .ok (.aload_n 0, 1) := q_aload_n0 (bat_get dg_X0_run_0_0 19 rfl rfl)
theorem dX0_run_18 : decode cX0_run 18 = .ok (.getfield 27, 3) := q_getfield (bat_get dg_X0_run_0_0 20 rfl rfl) rfl
theorem dX0_run_21 : decode cX0_run 21 = .ok (.if_icmp .ge 152, 3) := q_if_icmp_ge (bat_get dg_X0_run_0_0 21 rfl rfl) rfl
theorem dX0_run_24 : decode cX0_run 24 = .ok (.aload_n 0, 1) := q_aload_n0 (bat_get dg_X0_run_0_0 22 rfl rfl)
theorem dX0_run_25 : decode cX0_run 25 = .ok (.getfield 11, 3) := q_getfield (bat_get dg_X0_run_0_0 23 rfl rfl) rfl
theorem dX0_run_28 : decode cX0_run 28 = .ok (.iload 4, 2) := q_iload (bat_get dg_X0_run_0_0 24 rfl rfl)
theorem dX0_run_30 : decode cX0_run 30 = .ok (.iaload, 1) := q_iaload (bat_get dg_X0_run_0_0 25 rfl rfl)
theorem dX0_run_31 : decode cX0_run 31 = .ok (.istore 5, 2) := q_istore (bat_get dg_X0_run_0_0 26 rfl rfl)
theorem dX0_run_33 : decode cX0_run 33 = .ok (.iload 5, 2) := q_iload (bat_get dg_X0_run_0_0 27 rfl rfl)
theorem dX0_run_35 : decode cX0_run 35 = .ok (.sipush 30000, 3) := q_sipush (bat_get dg_X0_run_0_0 28 rfl rfl) rfl
theorem dX0_run_38 : decode cX0_run 38 = .ok (.if_icmp .lt 41, 3) := q_if_icmp_lt (bat_get dg_X0_run_0_0 29 rfl rfl) rfl
theorem dX0_run_79 : decode cX0_run 79 = .ok (.iload 5, 2) := q_iload (bat_get dg_X0_run_0_0 30 rfl rfl)
theorem dX0_run_81 : decode cX0_run 81 = .ok (.sipush 20000, 3) := q_sipush (bat_get dg_X0_run_0_0 31 rfl rfl) rfl
theorem dX0_run_84 : decode cX0_run 84 = .ok (.if_icmp .lt 32, 3) := q_if_icmp_lt (bat_get dg_X0_run_0_0 32 rfl rfl) rfl
theorem dX0_run_116 : decode cX0_run 116 = .ok (.iload_n 3, 1) := q_iload_n3 (bat_get dg_X0_run_0_0 33 rfl rfl)
theorem dX0_run_117 : decode cX0_run 117 = .ok (.aload_n 0, 1) := q_aload_n0 (bat_get dg_X0_run_0_0 34 rfl rfl)
theorem dX0_run_118 : decode cX0_run 118 = .ok (.getfield 17, 3) := q_getfield (bat_get dg_X0_run_0_0 35 rfl rfl) rfl
theorem dX0_run_121 : decode cX0_run 121 = .ok (.arraylength, 1) := q_arraylength (bat_get dg_X0_run_0_0 36 rfl rfl)
theorem dX0_run_122 : decode cX0_run 122 = .ok (.if_icmp .ge 45, 3) := q_if_icmp_ge (bat_get dg_X0_run_0_0 37 rfl rfl) rfl
theorem dX0_run_167 : decode cX0_run 167 = .ok (.iinc 4 1, 3) := q_iinc (bat_get dg_X0_run_0_0 38 rfl rfl) rfl
theorem dX0_run_170 : decode cX0_run 170 = .ok (.goto (-161), 3) := q_goto (bat_get dg_X0_run_0_0 39 rfl rfl) rfl
theorem dg_X0_run_41_125 : bqL cX0_run 41 [(84, [21, 5]), (86, [17, 39, 16]), (89, [100]), (90, [54, 6]), (92, [42]), (93, [180, 0, 17]), (96, [29]), (97, [21, 6]), (99, [155, 0, 20]), (119, [21, 5]), (121, [133]), (122, [80]), (123, [132, 3, 1]), (102, [21, 6]), (104, [16, 9]), (106, [162, 0, 13]), (109, [42]), (110, [180, 0, 21]), (113, [21, 6]), (115, [47]), (116, [167, 0, 6]), (46, [29]), (47, [158, 0, 79]), (50, [42]), (51, [180, 0, 17]), (54, [29]), (55, [4]), (56, [100]), (57, [42]), (58, [21, 5]), (60, [42]), (61, [180, 0, 17]), (64, [29]), (65, [4]), (66, [100]), (67, [47]), (68, [182, 0, 45]), (71, [80]), (72, [167, 0, 54]), (0, [29])] = true := by decide +kernel
theorem dX0_run_125 : decode cX0_run 125 = .ok (.iload 5, 2) := q_iload (bat_get dg_X0_run_41_125 0 rfl rfl)
theorem dX0_run_127 : decode cX0_run 127 = .ok (.sipush 10000, 3) := q_sipush (bat_get dg_X0_run_41_125 1 rfl rfl) rfl
theorem dX0_run_130 : decode cX0_run 130 = .ok (.isub, 1) := q_isub (bat_get dg_X0_run_41_125 2 rfl rfl)
theorem dX0_run_131 : decode cX0_run 131 = .ok (.istore 6, 2) := q_istore (bat_get dg_X0_run_41_125 3 rfl rfl)
theorem dX0_run_133 : decode cX0_run 133 = .ok (.aload_n 0, 1) := q_aload_n0 (bat_get dg_X0_run_41_125 4 rfl rfl)
theorem dX0_run_134 : decode cX0_run 134 = .ok (.getfield 17, 3) := q_getfield (bat_get dg_X0_run_41_125 5 rfl rfl) rfl
theorem dX0_run_137 : decode cX0_run 137 = .ok (.iload_n 3, 1) := q_iload_n3 (bat_get dg_X0_run_41_125 6 rfl rfl)
theorem dX0_run_138 : decode cX0_run 138 = .ok (.iload 6, 2) := q_iload (bat_get dg_X0_run_41_125 7 rfl rfl)
theorem dX0_run_140 : decode cX0_run 140 = .ok (.ifCond .lt 20, 3) := q_ifCond_lt (bat_get dg_X0_run_41_125 8 rfl rfl) rfl
theorem dX0_run_160 : decode cX0_run 160 = .ok (.iload 5, 2) := q_iload (bat_get dg_X0_run_41_125 9 rfl rfl)
theorem dX0_run_162 : decode cX0_run 162 = .ok (.i2l, 1) := q_i2l (bat_get dg_X0_run_41_125 10 rfl rfl)
theorem dX0_run_163 : decode cX0_run 163 = .ok (.lastore, 1) := q_lastore (bat_get dg_X0_run_41_125 11 rfl rfl)
theorem dX0_run_164 : decode cX0_run 164 = .ok (.iinc 3 1, 3) := q_iinc (bat_get dg_X0_run_41_125 12 rfl rfl) rfl
theorem dX0_run_143 : decode cX0_run 143 = .ok (.iload 6, 2) := q_iload (bat_get dg_X0_run_41_125 13 rfl rfl)
theorem dX0_run_145 : decode cX0_run 145 = .ok (.bipush 9, 2) := q_bipush (bat_get dg_X0_run_41_125 14 rfl rfl) rfl
theorem dX0_run_147 : decode cX0_run 147 = .ok (.if_icmp .ge 13, 3) := q_if_icmp_ge (bat_get dg_X0_run_41_125 15 rfl rfl) rfl
theorem dX0_run_150 : decode cX0_run 150 = .ok (.aload_n 0, 1) := q_aload_n0 (bat_get dg_X0_run_41_125 16 rfl rfl)
theorem dX0_run_151 : decode cX0_run 151 = .ok (.getfield 21, 3) := q_getfield (bat_get dg_X0_run_41_125 17 rfl rfl) rfl
theorem dX0_run_154 : decode cX0_run 154 = .ok (.iload 6, 2) := q_iload (bat_get dg_X0_run_41_125 18 rfl rfl)
theorem dX0_run_156 : decode cX0_run 156 = .ok (.laload, 1) := q_laload (bat_get dg_X0_run_41_125 19 rfl rfl)
theorem dX0_run_157 : decode cX0_run 157 = .ok (.goto 6, 3) := q_goto (bat_get dg_X0_run_41_125 20 rfl rfl) rfl
theorem dX0_run_87 : decode cX0_run 87 = .ok (.iload_n 3, 1) := q_iload_n3 (bat_get dg_X0_run_41_125 21 rfl rfl)
theorem dX0_run_88 : decode cX0_run 88 = .ok (.ifCond .le 79, 3) := q_ifCond_le (bat_get dg_X0_run_41_125 22 rfl rfl) rfl
theorem dX0_run_91 : decode cX0_run 91 = .ok (.aload_n 0, 1) := q_aload_n0 (bat_get dg_X0_run_41_125 23 rfl rfl)
theorem dX0_run_92 : decode cX0_run 92 = .ok (.getfield 17, 3) := q_getfield (bat_get dg_X0_run_41_125 24 rfl rfl) rfl
theorem dX0_run_95 : decode cX0_run 95 = .ok (.iload_n 3, 1) := q_iload_n3 (bat_get dg_X0_run_41_125 25 rfl rfl)
theorem dX0_run_96 : decode cX0_run 96 = .ok (.iconst 1, 1) := q_iconst1 (bat_get dg_X0_run_41_125 26 rfl rfl)
theorem dX0_run_97 : decode cX0_run 97 = .ok (.isub, 1) := q_isub (bat_get dg_X0_run_41_125 27 rfl rfl)
theorem dX0_run_98 : decode cX0_run 98 = .ok (.aload_n 0, 1) := q_aload_n0 (bat_get dg_X0_run_41_125 28 rfl rfl)
theorem dX0_run_99 : decode cX0_run 99 = .ok (.iload 5, 2) := q_iload (bat_get dg_X0_run_41_125 29 rfl rfl)
theorem dX0_run_101 : decode cX0_run 101 = .ok (.aload_n 0, 1) := q_aload_n0 (bat_get dg_X0_run_41_125 30 rfl rfl)
theorem dX0_run_102 : decode cX0_run 102 = .ok (.getfield 17, 3) := q_getfield (bat_get dg_X0_run_41_125 31 rfl rfl) rfl
theorem dX0_run_105 : decode cX0_run 105 = .ok (.iload_n 3, 1) := q_iload_n3 (bat_get dg_X0_run_41_125 32 rfl rfl)
theorem dX0_run_106 : decode cX0_run 106 = .ok (.iconst 1, 1) := q_iconst1 (bat_get dg_X0_run_41_125 33 rfl rfl)
theorem dX0_run_107 : decode cX0_run 107 = .ok (.isub, 1) := q_isub (bat_get dg_X0_run_41_125 34 rfl rfl)
theorem dX0_run_108 : decode cX0_run 108 = .ok (.laload, 1) := q_laload (bat_get dg_X0_run_41_125 35 rfl rfl)
theorem dX0_run_109 : decode cX0_run 109 = .ok (.invokevirtual 45, 3) := q_invokevirtual (bat_get dg_X0_run_41_125 36 rfl rfl) rfl
theorem dX0_run_112 : decode cX0_run 112 = .ok (.lastore, 1) := q_lastore (bat_get dg_X0_run_41_125 37 rfl rfl)
theorem dX0_run_113 : decode cX0_run 113 = .ok (.goto 54, 3) := q_goto (bat_get dg_X0_run_41_125 38 rfl rfl) rfl
theorem dX0_run_41 : decode cX0_run 41 = .ok (.iload_n 3, 1) := q_iload_n3 (bat_get dg_X0_run_41_125 39 rfl rfl)
theorem dg_X0_run_42_42 : bqL cX0_run 42 [(0, [4]), (1, [164, 0, 124]), (4, [132, 3, 255]), (7, [42]), (8, [180, 0, 17]), (11, [29]), (12, [4]), (13, [100]), (14, [21, 5]), (16, [42]), (17, [180, 0, 17]), (20, [29]), (21, [4]), (22, [100]), (23, [47]), (24, [42]), (25, [180, 0, 17]), (28, [29]), (29, [47]), (30, [184, 0, 41]), (33, [80]), (34, [167, 0, 91])] = true := by decide +kernel
theorem dX0_run_42 : decode cX0_run 42 = .ok (.iconst 1, 1) := q_iconst1 (bat_get dg_X0_run_42_42 0 rfl rfl)
theorem dX0_run_43 : decode cX0_run 43 = .ok (.if_icmp .le 124, 3) := q_if_icmp_le (bat_get dg_X0_run_42_42 1 rfl rfl) rfl
theorem dX0_run_46 : decode cX0_run 46 = .ok (.iinc 3 (-1), 3) := q_iinc (bat_get dg_X0_run_42_42 2 rfl rfl) rfl
theorem dX0_run_49 : decode cX0_run 49 = .ok (.aload_n 0, 1) := q_aload_n0 (bat_get dg_X0_run_42_42 3 rfl rfl)
theorem dX0_run_50 : decode cX0_run 50 = .ok (.getfield 17, 3) := q_getfield (bat_get dg_X0_run_42_42 4 rfl rfl) rfl
theorem dX0_run_53 : decode cX0_run 53 = .ok (.iload_n 3, 1) := q_iload_n3 (bat_get dg_X0_run_42_42 5 rfl rfl)
theorem dX0_run_54 : decode cX0_run 54 = .ok (.iconst 1, 1) := q_iconst1 (bat_get dg_X0_run_42_42 6 rfl rfl)
theorem dX0_run_55 : decode cX0_run 55 = .ok (.isub, 1) := q_isub (bat_get dg_X0_run_42_42 7 rfl rfl)
theorem dX0_run_56 : decode cX0_run 56 = .ok (.iload 5, 2) := q_iload (bat_get dg_X0_run_42_42 8 rfl rfl)
theorem dX0_run_58 : decode cX0_run 58 = .ok (.aload_n 0, 1) := q_aload_n0 (bat_get dg_X0_run_42_42 9 rfl rfl)
theorem dX0_run_59 : decode cX0_run 59 = .ok (.getfield 17, 3) := q_getfield (bat_get dg_X0_run_42_42 10 rfl rfl) rfl
theorem dX0_run_62 : decode cX0_run 62 = .ok (.iload_n 3, 1) := q_iload_n3 (bat_get dg_X0_run_42_42 11 rfl rfl)
theorem dX0_run_63 : decode cX0_run 63 = .ok (.iconst 1, 1) := q_iconst1 (bat_get dg_X0_run_42_42 12 rfl rfl)
theorem dX0_run_64 : decode cX0_run 64 = .ok (.isub, 1) := q_isub (bat_get dg_X0_run_42_42 13 rfl rfl)
theorem dX0_run_65 : decode cX0_run 65 = .ok (.laload, 1) := q_laload (bat_get dg_X0_run_42_42 14 rfl rfl)
theorem dX0_run_66 : decode cX0_run 66 = .ok (.aload_n 0, 1) := q_aload_n0 (bat_get dg_X0_run_42_42 15 rfl rfl)
theorem dX0_run_67 : decode cX0_run 67 = .ok (.getfield 17, 3) := q_getfield (bat_get dg_X0_run_42_42 16 rfl rfl) rfl
theorem dX0_run_70 : decode cX0_run 70 = .ok (.iload_n 3, 1) := q_iload_n3 (bat_get dg_X0_run_42_42 17 rfl rfl)
theorem dX0_run_71 : decode cX0_run 71 = .ok (.laload, 1) := q_laload (bat_get dg_X0_run_42_42 18 rfl rfl)
theorem dX0_run_72 : decode cX0_run 72 = .ok (.invokestatic 41, 3) := q_invokestatic (bat_get dg_X0_run_42_42 19 rfl rfl) rfl
theorem dX0_run_75 : decode cX0_run 75 = .ok (.lastore, 1) := q_lastore (bat_get dg_X0_run_42_42 20 rfl rfl)
theorem dX0_run_76 : decode cX0_run 76 = .ok (.goto 91, 3) := q_goto (bat_get dg_X0_run_42_42 21 rfl rfl) rfl
theorem w_3_224 : (Cond.methodLink RX0 35 Lib.Math.max.name) ∈ wsL_law := sk_mem (ck_3 _ (List.mem_of_getElem? (i := 224) rfl)) rfl
theorem w_1_37 : (Cond.static Lib.Math.max.name) ∈ wsL_law := sk_mem (ck_1 _ (List.mem_of_getElem? (i := 37) rfl)) rfl
theorem w_1_38 : (Cond.code Lib.Math.max.name Lib.Math.max.code 2 (some .int)) ∈ wsL_law := sk_mem (ck_1 _ (List.mem_of_getElem? (i := 38) rfl)) rfl
theorem w_1_130 : (Cond.fieldLink RX0 17 "SameKeeper$Code" "stack" "[J") ∈ wsL_law := sk_mem (ck_1 _ (List.mem_of_getElem? (i := 130) rfl)) rfl
theorem w_4_2 : (Cond.methodLink RX0 45 yX0_ofOne) ∈ wsL_law := sk_mem (ck_4 _ (List.mem_of_getElem? (i := 2) rfl)) rfl
theorem w_4_4 : (Cond.instanceMethod yX0_ofOne) ∈ wsL_law := sk_mem (ck_4 _ (List.mem_of_getElem? (i := 4) rfl)) rfl
theorem w_0_16 : (Cond.selects RX0 yX0_ofOne yX0_ofOne) ∈ wsL_law := sk_mem (ck_0 _ (List.mem_of_getElem? (i := 16) rfl)) rfl
theorem w_3_225 : (Cond.methodLink RX0 41 yX0_ofTwo) ∈ wsL_law := sk_mem (ck_3 _ (List.mem_of_getElem? (i := 225) rfl)) rfl
theorem w_3_226 : (Cond.static yX0_ofTwo) ∈ wsL_law := sk_mem (ck_3 _ (List.mem_of_getElem? (i := 226) rfl)) rfl
theorem w_3_223 : (Cond.code yX0_run cX0_run 7 (some .long)) ∈ wsL_law := sk_mem (ck_3 _ (List.mem_of_getElem? (i := 223) rfl)) rfl
def om_5_11 : List Bool := true :: false :: false :: false :: true :: []
theorem hd_X0_ofOne_2 : skD yX0_ofOne 2 := by decide +kernel
theorem hd_X0_ofTwo_3 : skD yX0_ofTwo 3 := by decide +kernel
set_option maxHeartbeats 4000000 in
set_option maxRecDepth 100000 in
theorem c_Code_run (l : Launch) (D : va_G) (cI cJ cC cZ cS : ClassId) (h0 : Nat) (k1 : Nat) (k2 : Nat) (k3 : Nat) (k4 : Nat) (cl : Nat) (mw : Nat) (f1 : Nat → Int32) (f2 : Nat → Int64) (f3 : Nat → Int64) (f4 : Nat → Int64) (a1 : Int32) (b1 : Int32) (hcl : cl ≤ 1600) (hmw : mw ≤ 1) : skM l yX0_run cX0_run 7 (some .long) 2 49 0 0 D (skT cI cJ cC cZ cS) [.ref h0, .int a1, .int b1] [ro_rrrrnn h0 0 k1 k2 k3 k4 cl mw, ra_I k1 cI 1600 f1, ra_J k2 cJ 64 f2, ra_J k3 cJ 9 f3, ra_J k4 cJ 10 f4] (skL D (skT cI cJ cC cZ cS) (fun (r : Int64) (u : va_W) => ∃ (g2 : Nat → Int64), u = [ro_rrrrnn h0 0 k1 k2 k3 k4 cl mw, ra_I k1 cI 1600 f1, ra_J k2 cJ 64 g2, ra_J k3 cJ 9 f3, ra_J k4 cJ 10 f4])) := by
  refine skM_of pf_X0_run (Nat.le_of_ble_eq_true rfl) ?_
  intro p e s m below meth c A ls E hP hD hl
  refine skE_el E (fun hx hb hr hml hlocks hin hown hts hK hA => ?_)
  have hown : s.vm.findClass RX0 = some m.cls := hown
  have hS : va_S A s.heap s.heap [] := va_S.rf
  have hl : lv_has ls 7 [(0, .ref h0), (1, .int a1), (2, .int b1)] := hl
  refine lv_iconst (v := 0) hx hb dX0_run_0 ic_0 ?_
  refine lv_istore_n (lv' := [(3, .int 0), (0, .ref h0), (1, .int a1), (2, .int b1)]) hx hb dX0_run_1 rfl hl (by decide) rfl (fun ls hl => ?_)
  refine lv_iload_n hx hb dX0_run_2 rfl (lv_at hl 2 rfl) ?_
  refine lv_iconst (v := 0) hx hb dX0_run_3 ic_0 ?_
  refine va_mmax hx hb (by rw [hml]; exact hl.1.symm) hown (hts _ w_3_224) (hts _ w_1_37) (hts _ w_1_3) (hts _ w_1_38) (Nat.le_of_ble_eq_true rfl) (Nat.le_of_ble_eq_true rfl) (Nat.le_of_ble_eq_true rfl) (Nat.le_of_ble_eq_true rfl) dX0_run_4 ?_
  obtain ⟨k_1, hk_1, ek_1⟩ := nmax0 a1
  refine sk_top (nI k_1) ek_1 ?_
  refine lv_istore (lv' := [(4, .int (nI k_1)), (3, .int 0), (0, .ref h0), (1, .int a1), (2, .int b1)]) hx hb dX0_run_7 hl (by decide) rfl (fun ls hl => ?_)
  have lp_2 : ∀ (n_3 : Nat) (i : Nat) (tp : Nat) (fs : Nat → Int64) (H : Heap) (locs : List Loc) (ls : Array Slot), cl - i < n_3 → (tp ≤ 64) → (i < 2147483648) → va_P D vwCl [ro_rrrrnn h0 0 k1 k2 k3 k4 cl mw, ra_I k1 cI 1600 f1, ra_J k2 cJ 64 fs, ra_J k3 cJ 9 f3, ra_J k4 cJ 10 f4] H → va_D A [ro_rrrrnn h0 0 k1 k2 k3 k4 cl mw, ra_I k1 cI 1600 f1, ra_J k2 cJ 64 fs, ra_J k3 cJ 9 f3, ra_J k4 cJ 10 f4] → va_S A s.heap H locs → lv_has ls 7 [(4, .int (nI i)), (3, .int (nI tp)), (0, .ref h0), (1, .int a1), (2, .int b1)] → W p l e { frames := 2, cells := 0, slots := 0, locals := 49 } s m ([.ref h0, .int a1, .int b1] : List Value).toArray below meth c H locs 0 0 (MQ below (skL D (skT cI cJ cC cZ cS) (fun (r : Int64) (u : va_W) => ∃ (g2 : Nat → Int64), u = [ro_rrrrnn h0 0 k1 k2 k3 k4 cl mw, ra_I k1 cI 1600 f1, ra_J k2 cJ 64 g2, ra_J k3 cJ 9 f3, ra_J k4 cJ 10 f4]) A) ([.ref h0, .int a1, .int b1] : List Value).toArray s 0 0 A) (F0 m 9 ls []) := by
    intro n_3
    induction n_3 with
    | zero => intro i tp fs H locs ls hm; exact absurd hm (Nat.not_lt_zero _)
    | succ n_3 ih_lp_2 =>
      intro i tp fs H locs ls hm htp hi hP hD hS hl
      refine lv_iload hx hb dX0_run_9 (lv_at hl 0 rfl) ?_
      refine lv_iload_n hx hb dX0_run_11 rfl (lv_at hl 4 rfl) ?_
      refine lv_icmp_ge (tgt := 173) hx hb dX0_run_12 (by decide) (fun c_4 => ?_) (fun c_4 => ?_)
      · skip
        refine lv_iload_n hx hb dX0_run_173 rfl (lv_at hl 1 rfl) ?_
        refine lv_if_le (tgt := 186) hx hb dX0_run_174 (by decide) (fun c_5 => ?_) (fun c_5 => ?_)
        · have c_5 : tp ≤ 0 := (nle tp 0 (by omega) (Nat.le_of_ble_eq_true rfl)).mp c_5
          refine lv_lconst (v := 0) hx hb dX0_run_186 (by decide) ?_
          exact sk_lret hx hb hr hlocks hK hP hD hS (⟨fs, rfl⟩) (Nat.le_of_ble_eq_true rfl) (Nat.le_of_ble_eq_true rfl) dX0_run_187
        · have c_5 : ¬ (tp ≤ 0) := fun h => c_5 ((nle tp 0 (by omega) (Nat.le_of_ble_eq_true rfl)).mpr h)
          refine lv_aload_n hx hb dX0_run_177 rfl (lv_at hl 2 rfl) ?_
          refine sk_get (v := .ref k2) (C := RX0) (T := TX0) (N := 6) hx hb hts inlX0 hown hK hP 0 rfl rfl 1 (Nat.le_of_ble_eq_true rfl) w_1_130 rfl dX0_run_178 ?_
          refine lv_iconst (v := 0) hx hb dX0_run_181 ic_0 ?_
          refine va_lald hx hb hK.1 hP 2 1 rfl rfl (by unfold vp_in; decide) dX0_run_182 ?_
          refine lv_topl (fun v_6 ev_6 => ?_)
          refine lv_goto (tgt := 187) hx hb dX0_run_183 (by decide) ?_
          exact sk_lret hx hb hr hlocks hK hP hD hS (⟨fs, rfl⟩) (Nat.le_of_ble_eq_true rfl) (Nat.le_of_ble_eq_true rfl) dX0_run_187
      · skip
        refine lv_iload hx hb dX0_run_15 (lv_at hl 0 rfl) ?_
        refine lv_aload_n hx hb dX0_run_17 rfl (lv_at hl 2 rfl) ?_
        refine sk_get (v := .int (nI cl)) (C := RX0) (T := TX0) (N := 6) hx hb hts inlX0 hown hK hP 0 rfl rfl 4 (Nat.le_of_ble_eq_true rfl) w_1_133 rfl dX0_run_18 ?_
        refine lv_icmp_ge (tgt := 173) hx hb dX0_run_21 (by decide) (fun c_7 => ?_) (fun c_7 => ?_)
        · have c_7 : cl ≤ i := (nle cl i (by omega) (by omega)).mp c_7
          refine lv_iload_n hx hb dX0_run_173 rfl (lv_at hl 1 rfl) ?_
          refine lv_if_le (tgt := 186) hx hb dX0_run_174 (by decide) (fun c_8 => ?_) (fun c_8 => ?_)
          · have c_8 : tp ≤ 0 := (nle tp 0 (by omega) (Nat.le_of_ble_eq_true rfl)).mp c_8
            refine lv_lconst (v := 0) hx hb dX0_run_186 (by decide) ?_
            exact sk_lret hx hb hr hlocks hK hP hD hS (⟨fs, rfl⟩) (Nat.le_of_ble_eq_true rfl) (Nat.le_of_ble_eq_true rfl) dX0_run_187
          · have c_8 : ¬ (tp ≤ 0) := fun h => c_8 ((nle tp 0 (by omega) (Nat.le_of_ble_eq_true rfl)).mpr h)
            refine lv_aload_n hx hb dX0_run_177 rfl (lv_at hl 2 rfl) ?_
            refine sk_get (v := .ref k2) (C := RX0) (T := TX0) (N := 6) hx hb hts inlX0 hown hK hP 0 rfl rfl 1 (Nat.le_of_ble_eq_true rfl) w_1_130 rfl dX0_run_178 ?_
            refine lv_iconst (v := 0) hx hb dX0_run_181 ic_0 ?_
            refine va_lald hx hb hK.1 hP 2 1 rfl rfl (by unfold vp_in; decide) dX0_run_182 ?_
            refine lv_topl (fun v_9 ev_9 => ?_)
            refine lv_goto (tgt := 187) hx hb dX0_run_183 (by decide) ?_
            exact sk_lret hx hb hr hlocks hK hP hD hS (⟨fs, rfl⟩) (Nat.le_of_ble_eq_true rfl) (Nat.le_of_ble_eq_true rfl) dX0_run_187
        · have c_7 : ¬ (cl ≤ i) := fun h => c_7 ((nle cl i (by omega) (by omega)).mpr h)
          refine lv_aload_n hx hb dX0_run_24 rfl (lv_at hl 2 rfl) ?_
          refine sk_get (v := .ref k1) (C := RX0) (T := TX0) (N := 6) hx hb hts inlX0 hown hK hP 0 rfl rfl 0 (Nat.le_of_ble_eq_true rfl) w_1_129 rfl dX0_run_25 ?_
          refine lv_iload hx hb dX0_run_28 (lv_at hl 0 rfl) ?_
          refine va_iald hx hb hK.1 hP 1 0 rfl rfl (vin i 1600 (by omega) (Nat.le_of_ble_eq_true rfl)) dX0_run_30 ?_
          refine lv_topi (fun v_10 ev_10 => ?_)
          refine lv_istore (lv' := [(5, .int v_10), (4, .int (nI i)), (3, .int (nI tp)), (0, .ref h0), (1, .int a1), (2, .int b1)]) hx hb dX0_run_31 hl (by decide) rfl (fun ls hl => ?_)
          refine lv_iload hx hb dX0_run_33 (lv_at hl 0 rfl) ?_
          refine lv_sipush (v := 30000) hx hb dX0_run_35 (by decide) ?_
          refine lv_icmp_lt (tgt := 79) hx hb dX0_run_38 (by decide) (fun c_11 => ?_) (fun c_11 => ?_)
          · skip
            refine lv_iload hx hb dX0_run_79 (lv_at hl 0 rfl) ?_
            refine lv_sipush (v := 20000) hx hb dX0_run_81 (by decide) ?_
            refine lv_icmp_lt (tgt := 116) hx hb dX0_run_84 (by decide) (fun c_12 => ?_) (fun c_12 => ?_)
            · skip
              refine lv_iload_n hx hb dX0_run_116 rfl (lv_at hl 2 rfl) ?_
              refine lv_aload_n hx hb dX0_run_117 rfl (lv_at hl 3 rfl) ?_
              refine sk_get (v := .ref k2) (C := RX0) (T := TX0) (N := 6) hx hb hts inlX0 hown hK hP 0 rfl rfl 1 (Nat.le_of_ble_eq_true rfl) w_1_130 rfl dX0_run_118 ?_
              refine va_alen (v := 64) hx hb hK.1 hP 2 1 rfl rfl rfl dX0_run_121 ?_
              refine lv_icmp_ge (tgt := 167) hx hb dX0_run_122 (by decide) (fun c_13 => ?_) (fun c_13 => ?_)
              · have c_13 : 64 ≤ tp := (nle 64 tp (Nat.le_of_ble_eq_true rfl) (by omega)).mp c_13
                refine lv_iinc (v := nI (i + 1)) (lv' := [(4, .int (nI (i + 1))), (5, .int v_10), (3, .int (nI tp)), (0, .ref h0), (1, .int a1), (2, .int b1)]) hx hb dX0_run_167 hl (k := 1) rfl (ninc i 1 (by decide)) (by decide) rfl (fun ls hl => ?_)
                refine lv_goto (tgt := 9) hx hb dX0_run_170 (by decide) ?_
                exact ih_lp_2 (i + 1) tp fs _ _ _ (by omega) htp (by omega) hP hD hS (lv_sub hl [0, 2, 3, 4, 5] rfl)
              · have c_13 : ¬ (64 ≤ tp) := fun h => c_13 ((nle 64 tp (Nat.le_of_ble_eq_true rfl) (by omega)).mpr h)
                refine lv_iload hx hb dX0_run_125 (lv_at hl 0 rfl) ?_
                refine lv_sipush (v := 10000) hx hb dX0_run_127 (by decide) ?_
                refine lv_isub hx hb dX0_run_130 ?_
                refine lv_topi (fun v_14 ev_14 => ?_)
                refine lv_istore (lv' := [(6, .int v_14), (5, .int v_10), (4, .int (nI i)), (3, .int (nI tp)), (0, .ref h0), (1, .int a1), (2, .int b1)]) hx hb dX0_run_131 hl (by decide) rfl (fun ls hl => ?_)
                refine lv_aload_n hx hb dX0_run_133 rfl (lv_at hl 4 rfl) ?_
                refine sk_get (v := .ref k2) (C := RX0) (T := TX0) (N := 6) hx hb hts inlX0 hown hK hP 0 rfl rfl 1 (Nat.le_of_ble_eq_true rfl) w_1_130 rfl dX0_run_134 ?_
                refine lv_iload_n hx hb dX0_run_137 rfl (lv_at hl 3 rfl) ?_
                refine lv_iload hx hb dX0_run_138 (lv_at hl 0 rfl) ?_
                refine lv_if_lt (tgt := 160) hx hb dX0_run_140 (by decide) (fun c_15 => ?_) (fun c_15 => ?_)
                · skip
                  refine lv_iload hx hb dX0_run_160 (lv_at hl 1 rfl) ?_
                  refine lv_i2l hx hb dX0_run_162 rfl ?_
                  refine sk_lastO (ws' := fun f_16 => [ro_rrrrnn h0 0 k1 k2 k3 k4 cl mw, ra_I k1 cI 1600 f1, ra_J k2 cJ 64 f_16, ra_J k3 cJ 9 f3, ra_J k4 cJ 10 f4]) hx hb hK hP hD hS 2 1 rfl rfl (vin tp 64 (by omega) (Nat.le_of_ble_eq_true rfl)) (fun _ => rfl) dX0_run_163 (fun f_16 H locs hP hD hS => ?_)
                  refine lv_iinc (v := nI (tp + 1)) (lv' := [(3, .int (nI (tp + 1))), (6, .int v_14), (5, .int v_10), (4, .int (nI i)), (0, .ref h0), (1, .int a1), (2, .int b1)]) hx hb dX0_run_164 hl (k := 3) rfl (ninc tp 1 (by decide)) (by decide) rfl (fun ls hl => ?_)
                  refine lv_iinc (v := nI (i + 1)) (lv' := [(4, .int (nI (i + 1))), (3, .int (nI (tp + 1))), (6, .int v_14), (5, .int v_10), (0, .ref h0), (1, .int a1), (2, .int b1)]) hx hb dX0_run_167 hl (k := 3) rfl (ninc i 1 (by decide)) (by decide) rfl (fun ls hl => ?_)
                  refine lv_goto (tgt := 9) hx hb dX0_run_170 (by decide) ?_
                  exact ih_lp_2 (i + 1) (tp + 1) f_16 _ _ _ (by omega) (by omega) (by omega) hP hD hS (lv_sub hl [0, 1, 4, 5, 6] rfl)
                · obtain ⟨k_17, hk_17, rfl⟩ := nof v_14 c_15
                  refine lv_iload hx hb dX0_run_143 (lv_at hl 0 rfl) ?_
                  refine lv_bipush (v := 9) hx hb dX0_run_145 (by decide) ?_
                  refine lv_icmp_ge (tgt := 160) hx hb dX0_run_147 (by decide) (fun c_18 => ?_) (fun c_18 => ?_)
                  · have c_18 : 9 ≤ k_17 := (nle 9 k_17 (Nat.le_of_ble_eq_true rfl) (by omega)).mp c_18
                    refine lv_iload hx hb dX0_run_160 (lv_at hl 1 rfl) ?_
                    refine lv_i2l hx hb dX0_run_162 rfl ?_
                    refine sk_lastO (ws' := fun f_19 => [ro_rrrrnn h0 0 k1 k2 k3 k4 cl mw, ra_I k1 cI 1600 f1, ra_J k2 cJ 64 f_19, ra_J k3 cJ 9 f3, ra_J k4 cJ 10 f4]) hx hb hK hP hD hS 2 1 rfl rfl (vin tp 64 (by omega) (Nat.le_of_ble_eq_true rfl)) (fun _ => rfl) dX0_run_163 (fun f_19 H locs hP hD hS => ?_)
                    refine lv_iinc (v := nI (tp + 1)) (lv' := [(3, .int (nI (tp + 1))), (6, .int (nI k_17)), (5, .int v_10), (4, .int (nI i)), (0, .ref h0), (1, .int a1), (2, .int b1)]) hx hb dX0_run_164 hl (k := 3) rfl (ninc tp 1 (by decide)) (by decide) rfl (fun ls hl => ?_)
                    refine lv_iinc (v := nI (i + 1)) (lv' := [(4, .int (nI (i + 1))), (3, .int (nI (tp + 1))), (6, .int (nI k_17)), (5, .int v_10), (0, .ref h0), (1, .int a1), (2, .int b1)]) hx hb dX0_run_167 hl (k := 3) rfl (ninc i 1 (by decide)) (by decide) rfl (fun ls hl => ?_)
                    refine lv_goto (tgt := 9) hx hb dX0_run_170 (by decide) ?_
                    exact ih_lp_2 (i + 1) (tp + 1) f_19 _ _ _ (by omega) (by omega) (by omega) hP hD hS (lv_sub hl [0, 1, 4, 5, 6] rfl)
                  · have c_18 : ¬ (9 ≤ k_17) := fun h => c_18 ((nle 9 k_17 (Nat.le_of_ble_eq_true rfl) (by omega)).mpr h)
                    refine lv_aload_n hx hb dX0_run_150 rfl (lv_at hl 4 rfl) ?_
                    refine sk_get (v := .ref k3) (C := RX0) (T := TX0) (N := 6) hx hb hts inlX0 hown hK hP 0 rfl rfl 2 (Nat.le_of_ble_eq_true rfl) w_1_131 rfl dX0_run_151 ?_
                    refine lv_iload hx hb dX0_run_154 (lv_at hl 0 rfl) ?_
                    refine va_lald hx hb hK.1 hP 3 1 rfl rfl (vin k_17 9 (by omega) (Nat.le_of_ble_eq_true rfl)) dX0_run_156 ?_
                    refine lv_topl (fun v_20 ev_20 => ?_)
                    refine lv_goto (tgt := 163) hx hb dX0_run_157 (by decide) ?_
                    refine sk_lastO (ws' := fun f_21 => [ro_rrrrnn h0 0 k1 k2 k3 k4 cl mw, ra_I k1 cI 1600 f1, ra_J k2 cJ 64 f_21, ra_J k3 cJ 9 f3, ra_J k4 cJ 10 f4]) hx hb hK hP hD hS 2 1 rfl rfl (vin tp 64 (by omega) (Nat.le_of_ble_eq_true rfl)) (fun _ => rfl) dX0_run_163 (fun f_21 H locs hP hD hS => ?_)
                    refine lv_iinc (v := nI (tp + 1)) (lv' := [(3, .int (nI (tp + 1))), (6, .int (nI k_17)), (5, .int v_10), (4, .int (nI i)), (0, .ref h0), (1, .int a1), (2, .int b1)]) hx hb dX0_run_164 hl (k := 3) rfl (ninc tp 1 (by decide)) (by decide) rfl (fun ls hl => ?_)
                    refine lv_iinc (v := nI (i + 1)) (lv' := [(4, .int (nI (i + 1))), (3, .int (nI (tp + 1))), (6, .int (nI k_17)), (5, .int v_10), (0, .ref h0), (1, .int a1), (2, .int b1)]) hx hb dX0_run_167 hl (k := 3) rfl (ninc i 1 (by decide)) (by decide) rfl (fun ls hl => ?_)
                    refine lv_goto (tgt := 9) hx hb dX0_run_170 (by decide) ?_
                    exact ih_lp_2 (i + 1) (tp + 1) f_21 _ _ _ (by omega) (by omega) (by omega) hP hD hS (lv_sub hl [0, 1, 4, 5, 6] rfl)
            · obtain ⟨k_22, hk_22, h1k_22, rfl⟩ := nofge v_10 20000 (by omega) c_12
              refine lv_iload_n hx hb dX0_run_87 rfl (lv_at hl 2 rfl) ?_
              refine lv_if_le (tgt := 167) hx hb dX0_run_88 (by decide) (fun c_23 => ?_) (fun c_23 => ?_)
              · have c_23 : tp ≤ 0 := (nle tp 0 (by omega) (Nat.le_of_ble_eq_true rfl)).mp c_23
                refine lv_iinc (v := nI (i + 1)) (lv' := [(4, .int (nI (i + 1))), (5, .int (nI k_22)), (3, .int (nI tp)), (0, .ref h0), (1, .int a1), (2, .int b1)]) hx hb dX0_run_167 hl (k := 1) rfl (ninc i 1 (by decide)) (by decide) rfl (fun ls hl => ?_)
                refine lv_goto (tgt := 9) hx hb dX0_run_170 (by decide) ?_
                exact ih_lp_2 (i + 1) tp fs _ _ _ (by omega) htp (by omega) hP hD hS (lv_sub hl [0, 2, 3, 4, 5] rfl)
              · have c_23 : ¬ (tp ≤ 0) := fun h => c_23 ((nle tp 0 (by omega) (Nat.le_of_ble_eq_true rfl)).mpr h)
                refine lv_aload_n hx hb dX0_run_91 rfl (lv_at hl 3 rfl) ?_
                refine sk_get (v := .ref k2) (C := RX0) (T := TX0) (N := 6) hx hb hts inlX0 hown hK hP 0 rfl rfl 1 (Nat.le_of_ble_eq_true rfl) w_1_130 rfl dX0_run_92 ?_
                refine lv_iload_n hx hb dX0_run_95 rfl (lv_at hl 2 rfl) ?_
                refine lv_iconst (v := 1) hx hb dX0_run_96 ic_1 ?_
                refine lv_isub hx hb dX0_run_97 ?_
                refine sk_top (nI (tp - 1)) (nsub tp 1 (by omega)) ?_
                refine lv_aload_n hx hb dX0_run_98 rfl (lv_at hl 3 rfl) ?_
                refine lv_iload hx hb dX0_run_99 (lv_at hl 0 rfl) ?_
                refine lv_aload_n hx hb dX0_run_101 rfl (lv_at hl 3 rfl) ?_
                refine sk_get (v := .ref k2) (C := RX0) (T := TX0) (N := 6) hx hb hts inlX0 hown hK hP 0 rfl rfl 1 (Nat.le_of_ble_eq_true rfl) w_1_130 rfl dX0_run_102 ?_
                refine lv_iload_n hx hb dX0_run_105 rfl (lv_at hl 2 rfl) ?_
                refine lv_iconst (v := 1) hx hb dX0_run_106 ic_1 ?_
                refine lv_isub hx hb dX0_run_107 ?_
                refine sk_top (nI (tp - 1)) (nsub tp 1 (by omega)) ?_
                refine va_lald hx hb hK.1 hP 2 1 rfl rfl (vin (tp - 1) 64 (by omega) (Nat.le_of_ble_eq_true rfl)) dX0_run_108 ?_
                refine lv_topl (fun v_24 ev_24 => ?_)
                refine sk_Vl (q0 := 0) (n := 2) (rest := [.int (nI (tp - 1)), .ref k2]) (wr := fmR om_5_11 _) ⟨hx, hb, hml, hown, hts⟩ hl.1 (c_Code_ofOne l D cI cJ cC cZ cS h0 k1 k2 k3 k4 cl mw f4 (nI k_22) v_24) w_4_2 w_4_4 w_0_16 w_1_8 w_4_5 hd_X0_ofOne_2 ⟨⟨(Nat.le_of_ble_eq_true rfl), (Nat.le_of_ble_eq_true rfl)⟩, (Nat.le_of_ble_eq_true rfl), (Nat.le_of_ble_eq_true rfl)⟩ hK hP hD hS hA (fmT om_5_11 0) (fmF om_5_11 0) (fm_C1 rfl rfl) (fm_R rfl rfl) (fm_nT om_5_11 0) (fm_nF om_5_11 0) (fm_di om_5_11 0) rfl rfl rfl rfl (Nat.le_of_ble_eq_true rfl) dX0_run_109 (fun r_25 u H locs hw hP hD hS => ?_)
                refine o_mgE (ws' := [ro_rrrrnn h0 0 k1 k2 k3 k4 cl mw, ra_I k1 cI 1600 f1, ra_J k2 cJ 64 fs, ra_J k3 cJ 9 f3, ra_J k4 cJ 10 f4]) hw hP hD rfl (fun hP hD => ?_)
                refine sk_lastO (ws' := fun f_26 => [ro_rrrrnn h0 0 k1 k2 k3 k4 cl mw, ra_I k1 cI 1600 f1, ra_J k2 cJ 64 f_26, ra_J k3 cJ 9 f3, ra_J k4 cJ 10 f4]) hx hb hK hP hD hS 2 1 rfl rfl (vin (tp - 1) 64 (by omega) (Nat.le_of_ble_eq_true rfl)) (fun _ => rfl) dX0_run_112 (fun f_26 H locs hP hD hS => ?_)
                refine lv_goto (tgt := 167) hx hb dX0_run_113 (by decide) ?_
                refine lv_iinc (v := nI (i + 1)) (lv' := [(4, .int (nI (i + 1))), (5, .int (nI k_22)), (3, .int (nI tp)), (0, .ref h0), (1, .int a1), (2, .int b1)]) hx hb dX0_run_167 hl (k := 1) rfl (ninc i 1 (by decide)) (by decide) rfl (fun ls hl => ?_)
                refine lv_goto (tgt := 9) hx hb dX0_run_170 (by decide) ?_
                exact ih_lp_2 (i + 1) tp f_26 _ _ _ (by omega) htp (by omega) hP hD hS (lv_sub hl [0, 2, 3, 4, 5] rfl)
          · obtain ⟨k_27, hk_27, h1k_27, rfl⟩ := nofge v_10 30000 (by omega) c_11
            refine lv_iload_n hx hb dX0_run_41 rfl (lv_at hl 2 rfl) ?_
            refine lv_iconst (v := 1) hx hb dX0_run_42 ic_1 ?_
            refine lv_icmp_le (tgt := 167) hx hb dX0_run_43 (by decide) (fun c_28 => ?_) (fun c_28 => ?_)
            · have c_28 : tp ≤ 1 := (nle tp 1 (by omega) (Nat.le_of_ble_eq_true rfl)).mp c_28
              refine lv_iinc (v := nI (i + 1)) (lv' := [(4, .int (nI (i + 1))), (5, .int (nI k_27)), (3, .int (nI tp)), (0, .ref h0), (1, .int a1), (2, .int b1)]) hx hb dX0_run_167 hl (k := 1) rfl (ninc i 1 (by decide)) (by decide) rfl (fun ls hl => ?_)
              refine lv_goto (tgt := 9) hx hb dX0_run_170 (by decide) ?_
              exact ih_lp_2 (i + 1) tp fs _ _ _ (by omega) htp (by omega) hP hD hS (lv_sub hl [0, 2, 3, 4, 5] rfl)
            · have c_28 : ¬ (tp ≤ 1) := fun h => c_28 ((nle tp 1 (by omega) (Nat.le_of_ble_eq_true rfl)).mpr h)
              refine lv_iinc (v := nI (tp - 1)) (lv' := [(3, .int (nI (tp - 1))), (5, .int (nI k_27)), (4, .int (nI i)), (0, .ref h0), (1, .int a1), (2, .int b1)]) hx hb dX0_run_46 hl (k := 2) rfl (ndec1 tp (by omega)) (by decide) rfl (fun ls hl => ?_)
              refine lv_aload_n hx hb dX0_run_49 rfl (lv_at hl 3 rfl) ?_
              refine sk_get (v := .ref k2) (C := RX0) (T := TX0) (N := 6) hx hb hts inlX0 hown hK hP 0 rfl rfl 1 (Nat.le_of_ble_eq_true rfl) w_1_130 rfl dX0_run_50 ?_
              refine lv_iload_n hx hb dX0_run_53 rfl (lv_at hl 0 rfl) ?_
              refine lv_iconst (v := 1) hx hb dX0_run_54 ic_1 ?_
              refine lv_isub hx hb dX0_run_55 ?_
              refine sk_top (nI (tp - 1 - 1)) (nsub (tp - 1) 1 (by omega)) ?_
              refine lv_iload hx hb dX0_run_56 (lv_at hl 1 rfl) ?_
              refine lv_aload_n hx hb dX0_run_58 rfl (lv_at hl 3 rfl) ?_
              refine sk_get (v := .ref k2) (C := RX0) (T := TX0) (N := 6) hx hb hts inlX0 hown hK hP 0 rfl rfl 1 (Nat.le_of_ble_eq_true rfl) w_1_130 rfl dX0_run_59 ?_
              refine lv_iload_n hx hb dX0_run_62 rfl (lv_at hl 0 rfl) ?_
              refine lv_iconst (v := 1) hx hb dX0_run_63 ic_1 ?_
              refine lv_isub hx hb dX0_run_64 ?_
              refine sk_top (nI (tp - 1 - 1)) (nsub (tp - 1) 1 (by omega)) ?_
              refine va_lald hx hb hK.1 hP 2 1 rfl rfl (vin (tp - 1 - 1) 64 (by omega) (Nat.le_of_ble_eq_true rfl)) dX0_run_65 ?_
              refine lv_topl (fun v_29 ev_29 => ?_)
              refine lv_aload_n hx hb dX0_run_66 rfl (lv_at hl 3 rfl) ?_
              refine sk_get (v := .ref k2) (C := RX0) (T := TX0) (N := 6) hx hb hts inlX0 hown hK hP 0 rfl rfl 1 (Nat.le_of_ble_eq_true rfl) w_1_130 rfl dX0_run_67 ?_
              refine lv_iload_n hx hb dX0_run_70 rfl (lv_at hl 0 rfl) ?_
              refine va_lald hx hb hK.1 hP 2 1 rfl rfl (vin (tp - 1) 64 (by omega) (Nat.le_of_ble_eq_true rfl)) dX0_run_71 ?_
              refine lv_topl (fun v_30 ev_30 => ?_)
              refine sk_Sl (n := 3) (rest := [.int (nI (tp - 1 - 1)), .ref k2]) (wr := [ro_rrrrnn h0 0 k1 k2 k3 k4 cl mw, ra_I k1 cI 1600 f1, ra_J k2 cJ 64 fs, ra_J k3 cJ 9 f3, ra_J k4 cJ 10 f4]) ⟨hx, hb, hml, hown, hts⟩ hl.1 (c_ofTwo l D cI cJ cC cZ cS (nI k_27) v_29 v_30) w_3_225 w_3_226 w_1_8 w_3_227 hd_X0_ofTwo_3 ⟨⟨(Nat.le_of_ble_eq_true rfl), (Nat.le_of_ble_eq_true rfl)⟩, (Nat.le_of_ble_eq_true rfl), (Nat.le_of_ble_eq_true rfl)⟩ hK hP hD hS hA [] [0, 1, 2, 3, 4] rfl rfl (by decide +kernel) (by decide +kernel) (by decide +kernel) rfl rfl (Nat.le_of_ble_eq_true rfl) dX0_run_72 (fun r_31 u H locs hw hP hD hS => ?_)
              obtain rfl := hw
              refine o_re (ws' := [ro_rrrrnn h0 0 k1 k2 k3 k4 cl mw, ra_I k1 cI 1600 f1, ra_J k2 cJ 64 fs, ra_J k3 cJ 9 f3, ra_J k4 cJ 10 f4]) hP hD rfl (fun hP hD => ?_)
              refine sk_lastO (ws' := fun f_32 => [ro_rrrrnn h0 0 k1 k2 k3 k4 cl mw, ra_I k1 cI 1600 f1, ra_J k2 cJ 64 f_32, ra_J k3 cJ 9 f3, ra_J k4 cJ 10 f4]) hx hb hK hP hD hS 2 1 rfl rfl (vin (tp - 1 - 1) 64 (by omega) (Nat.le_of_ble_eq_true rfl)) (fun _ => rfl) dX0_run_75 (fun f_32 H locs hP hD hS => ?_)
              refine lv_goto (tgt := 167) hx hb dX0_run_76 (by decide) ?_
              refine lv_iinc (v := nI (i + 1)) (lv' := [(4, .int (nI (i + 1))), (3, .int (nI (tp - 1))), (5, .int (nI k_27)), (0, .ref h0), (1, .int a1), (2, .int b1)]) hx hb dX0_run_167 hl (k := 2) rfl (ninc i 1 (by decide)) (by decide) rfl (fun ls hl => ?_)
              refine lv_goto (tgt := 9) hx hb dX0_run_170 (by decide) ?_
              exact ih_lp_2 (i + 1) (tp - 1) f_32 _ _ _ (by omega) (by omega) (by omega) hP hD hS (lv_sub hl [0, 1, 3, 4, 5] rfl)
  exact lp_2 (cl - k_1 + 1) k_1 0 f2 _ _ _ (Nat.lt_succ_self _) (by omega) (by omega) hP hD hS (lv_sub hl [0, 1, 2, 3, 4] rfl)
theorem dg_X7_copy_0_0 : bqL cX7_copy 0 [(0, [42]), (1, [43]), (2, [180, 0, 18]), (5, [181, 0, 18]), (8, [42]), (9, [43]), (10, [180, 0, 22]), (13, [181, 0, 22]), (16, [42]), (17, [43]), (18, [180, 0, 25]), (21, [181, 0, 25]), (24, [42]), (25, [43]), (26, [180, 0, 28]), (29, [181, 0, 28]), (32, [42]), (33, [43]), (34, [180, 0, 31]), (37, [181, 0, 31]), (40, [43]), (41, [180, 0, 9]), (44, [3]), (45, [42]), (46, [180, 0, 9]), (49, [3]), (50, [16, 9]), (52, [184, 0, 40]), (55, [43]), (56, [180, 0, 15]), (59, [3]), (60, [42]), (61, [180, 0, 15]), (64, [3]), (65, [16, 9]), (67, [184, 0, 40]), (70, [177])] = true := by decide +kernel
theorem dX7_copy_0 : decode cX7_copy 0 = .ok (.aload_n 0, 1) := q_aload_n0 (bat_get dg_X7_copy_0_0 0 rfl rfl)
theorem dX7_copy_1 : decode cX7_copy 1 = .ok (.aload_n 1, 1) := q_aload_n1 (bat_get dg_X7_copy_0_0 1 rfl rfl)
theorem dX7_copy_2 : decode cX7_copy 2 = .ok (.getfield 18, 3) := q_getfield (bat_get dg_X7_copy_0_0 2 rfl rfl) rfl
theorem dX7_copy_5 : decode cX7_copy 5 = .ok (.putfield 18, 3) := q_putfield (bat_get dg_X7_copy_0_0 3 rfl rfl) rfl
theorem dX7_copy_8 : decode cX7_copy 8 = .ok (.aload_n 0, 1) := q_aload_n0 (bat_get dg_X7_copy_0_0 4 rfl rfl)
theorem dX7_copy_9 : decode cX7_copy 9 = .ok (.aload_n 1, 1) := q_aload_n1 (bat_get dg_X7_copy_0_0 5 rfl rfl)
theorem dX7_copy_10 : decode cX7_copy 10 = .ok (.getfield 22, 3) := q_getfield (bat_get dg_X7_copy_0_0 6 rfl rfl) rfl
theorem dX7_copy_13 : decode cX7_copy 13 = .ok (.putfield 22, 3) := q_putfield (bat_get dg_X7_copy_0_0 7 rfl rfl) rfl
theorem dX7_copy_16 : decode cX7_copy 16 = .ok (.aload_n 0, 1) := q_aload_n0 (bat_get dg_X7_copy_0_0 8 rfl rfl)
theorem dX7_copy_17 : decode cX7_copy 17 = .ok (.aload_n 1, 1) := q_aload_n1 (bat_get dg_X7_copy_0_0 9 rfl rfl)
theorem dX7_copy_18 : decode cX7_copy 18 = .ok (.getfield 25, 3) := q_getfield (bat_get dg_X7_copy_0_0 10 rfl rfl) rfl
theorem dX7_copy_21 : decode cX7_copy 21 = .ok (.putfield 25, 3) := q_putfield (bat_get dg_X7_copy_0_0 11 rfl rfl) rfl
theorem dX7_copy_24 : decode cX7_copy 24 = .ok (.aload_n 0, 1) := q_aload_n0 (bat_get dg_X7_copy_0_0 12 rfl rfl)
theorem dX7_copy_25 : decode cX7_copy 25 = .ok (.aload_n 1, 1) := q_aload_n1 (bat_get dg_X7_copy_0_0 13 rfl rfl)
theorem dX7_copy_26 : decode cX7_copy 26 = .ok (.getfield 28, 3) := q_getfield (bat_get dg_X7_copy_0_0 14 rfl rfl) rfl
theorem dX7_copy_29 : decode cX7_copy 29 = .ok (.putfield 28, 3) := q_putfield (bat_get dg_X7_copy_0_0 15 rfl rfl) rfl
theorem dX7_copy_32 : decode cX7_copy 32 = .ok (.aload_n 0, 1) := q_aload_n0 (bat_get dg_X7_copy_0_0 16 rfl rfl)
theorem dX7_copy_33 : decode cX7_copy 33 = .ok (.aload_n 1, 1) := q_aload_n1 (bat_get dg_X7_copy_0_0 17 rfl rfl)
theorem dX7_copy_34 : decode cX7_copy 34 = .ok (.getfield 31, 3) := q_getfield (bat_get dg_X7_copy_0_0 18 rfl rfl) rfl
theorem dX7_copy_37 : decode cX7_copy 37 = .ok (.putfield 31, 3) := q_putfield (bat_get dg_X7_copy_0_0 19 rfl rfl) rfl
theorem dX7_copy_40 : decode cX7_copy 40 = .ok (.aload_n 1, 1) := q_aload_n1 (bat_get dg_X7_copy_0_0 20 rfl rfl)
theorem dX7_copy_41 : decode cX7_copy 41 = .ok (.getfield 9, 3) := q_getfield (bat_get dg_X7_copy_0_0 21 rfl rfl) rfl
theorem dX7_copy_44 : decode cX7_copy 44 = .ok (.iconst 0, 1) := q_iconst0 (bat_get dg_X7_copy_0_0 22 rfl rfl)
theorem dX7_copy_45 : decode cX7_copy 45 = .ok (.aload_n 0, 1) := q_aload_n0 (bat_get dg_X7_copy_0_0 23 rfl rfl)
theorem dX7_copy_46 : decode cX7_copy 46 = .ok (.getfield 9, 3) := q_getfield (bat_get dg_X7_copy_0_0 24 rfl rfl) rfl
theorem dX7_copy_49 : decode cX7_copy 49 = .ok (.iconst 0, 1) := q_iconst0 (bat_get dg_X7_copy_0_0 25 rfl rfl)
theorem dX7_copy_50 : decode cX7_copy 50 = .ok (.bipush 9, 2) := q_bipush (bat_get dg_X7_copy_0_0 26 rfl rfl) rfl
theorem dX7_copy_52 : decode cX7_copy 52 = .ok (.invokestatic 40, 3) := q_invokestatic (bat_get dg_X7_copy_0_0 27 rfl rfl) rfl
theorem dX7_copy_55 : decode cX7_copy 55 = .ok (.aload_n 1, 1) := q_aload_n1 (bat_get dg_X7_copy_0_0 28 rfl rfl)
theorem dX7_copy_56 : decode cX7_copy 56 = .ok (.getfield 15, 3) := q_getfield (bat_get dg_X7_copy_0_0 29 rfl rfl) rfl
theorem dX7_copy_59 : decode cX7_copy 59 = .ok (.iconst 0, 1) := q_iconst0 (bat_get dg_X7_copy_0_0 30 rfl rfl)
theorem dX7_copy_60 : decode cX7_copy 60 = .ok (.aload_n 0, 1) := q_aload_n0 (bat_get dg_X7_copy_0_0 31 rfl rfl)
theorem dX7_copy_61 : decode cX7_copy 61 = .ok (.getfield 15, 3) := q_getfield (bat_get dg_X7_copy_0_0 32 rfl rfl) rfl
theorem dX7_copy_64 : decode cX7_copy 64 = .ok (.iconst 0, 1) := q_iconst0 (bat_get dg_X7_copy_0_0 33 rfl rfl)
theorem dX7_copy_65 : decode cX7_copy 65 = .ok (.bipush 9, 2) := q_bipush (bat_get dg_X7_copy_0_0 34 rfl rfl) rfl
theorem dX7_copy_67 : decode cX7_copy 67 = .ok (.invokestatic 40, 3) := q_invokestatic (bat_get dg_X7_copy_0_0 35 rfl rfl) rfl
theorem dX7_copy_70 : decode cX7_copy 70 = .ok (.return_, 1) := q_return_ (bat_get dg_X7_copy_0_0 36 rfl rfl)
theorem w_1_238 : (Cond.fieldLink RX7 18 "SameKeeper$State" "days" "I") ∈ wsL_law := sk_mem (ck_1 _ (List.mem_of_getElem? (i := 238) rfl)) rfl
theorem w_2_3 : (Cond.fieldLink RX7 22 "SameKeeper$State" "week" "I") ∈ wsL_law := sk_mem (ck_2 _ (List.mem_of_getElem? (i := 3) rfl)) rfl
theorem w_2_8 : (Cond.fieldLink RX7 25 "SameKeeper$State" "mood" "I") ∈ wsL_law := sk_mem (ck_2 _ (List.mem_of_getElem? (i := 8) rfl)) rfl
theorem w_2_11 : (Cond.fieldLink RX7 28 "SameKeeper$State" "mute" "I") ∈ wsL_law := sk_mem (ck_2 _ (List.mem_of_getElem? (i := 11) rfl)) rfl
theorem w_2_13 : (Cond.fieldLink RX7 31 "SameKeeper$State" "kept" "I") ∈ wsL_law := sk_mem (ck_2 _ (List.mem_of_getElem? (i := 13) rfl)) rfl
theorem w_1_230 : (Cond.fieldLink RX7 9 "SameKeeper$State" "barge" "[I") ∈ wsL_law := sk_mem (ck_1 _ (List.mem_of_getElem? (i := 230) rfl)) rfl
theorem w_3_152 : (Cond.methodLink RX7 40 arraycopyName) ∈ wsL_law := sk_mem (ck_3 _ (List.mem_of_getElem? (i := 152) rfl)) rfl
theorem w_3_154 : (Cond.native arraycopyName) ∈ wsL_law := sk_mem (ck_3 _ (List.mem_of_getElem? (i := 154) rfl)) rfl
theorem w_3_153 : (Cond.static arraycopyName) ∈ wsL_law := sk_mem (ck_3 _ (List.mem_of_getElem? (i := 153) rfl)) rfl
theorem w_1_20 : (Cond.initialized "java/lang/System") ∈ wsL_law := sk_mem (ck_1 _ (List.mem_of_getElem? (i := 20) rfl)) rfl
theorem w_1_234 : (Cond.fieldLink RX7 15 "SameKeeper$State" "wet" "[I") ∈ wsL_law := sk_mem (ck_1 _ (List.mem_of_getElem? (i := 234) rfl)) rfl
theorem w_4_135 : (Cond.code yX7_copy cX7_copy 2 none) ∈ wsL_law := sk_mem (ck_4 _ (List.mem_of_getElem? (i := 135) rfl)) rfl
theorem dg_X7_begin_0_0 : bqL cX7_begin 0 [(0, [42]), (1, [43]), (2, [180, 0, 34]), (5, [181, 0, 18]), (8, [42]), (9, [3]), (10, [181, 0, 22]), (13, [42]), (14, [43]), (15, [180, 0, 37]), (18, [181, 0, 25]), (21, [42]), (22, [43]), (23, [180, 0, 38]), (26, [181, 0, 28]), (29, [42]), (30, [3]), (31, [181, 0, 31]), (34, [43]), (35, [180, 0, 39]), (38, [3]), (39, [42]), (40, [180, 0, 9]), (43, [3]), (44, [16, 9]), (46, [184, 0, 40]), (49, [43]), (50, [180, 0, 46]), (53, [3]), (54, [42]), (55, [180, 0, 15]), (58, [3]), (59, [16, 9]), (61, [184, 0, 40]), (64, [177])] = true := by decide +kernel
theorem dX7_begin_0 : decode cX7_begin 0 = .ok (.aload_n 0, 1) := q_aload_n0 (bat_get dg_X7_begin_0_0 0 rfl rfl)
theorem dX7_begin_1 : decode cX7_begin 1 = .ok (.aload_n 1, 1) := q_aload_n1 (bat_get dg_X7_begin_0_0 1 rfl rfl)
theorem dX7_begin_2 : decode cX7_begin 2 = .ok (.getfield 34, 3) := q_getfield (bat_get dg_X7_begin_0_0 2 rfl rfl) rfl
theorem dX7_begin_5 : decode cX7_begin 5 = .ok (.putfield 18, 3) := q_putfield (bat_get dg_X7_begin_0_0 3 rfl rfl) rfl
theorem dX7_begin_8 : decode cX7_begin 8 = .ok (.aload_n 0, 1) := q_aload_n0 (bat_get dg_X7_begin_0_0 4 rfl rfl)
theorem dX7_begin_9 : decode cX7_begin 9 = .ok (.iconst 0, 1) := q_iconst0 (bat_get dg_X7_begin_0_0 5 rfl rfl)
theorem dX7_begin_10 : decode cX7_begin 10 = .ok (.putfield 22, 3) := q_putfield (bat_get dg_X7_begin_0_0 6 rfl rfl) rfl
theorem dX7_begin_13 : decode cX7_begin 13 = .ok (.aload_n 0, 1) := q_aload_n0 (bat_get dg_X7_begin_0_0 7 rfl rfl)
theorem dX7_begin_14 : decode cX7_begin 14 = .ok (.aload_n 1, 1) := q_aload_n1 (bat_get dg_X7_begin_0_0 8 rfl rfl)
theorem dX7_begin_15 : decode cX7_begin 15 = .ok (.getfield 37, 3) := q_getfield (bat_get dg_X7_begin_0_0 9 rfl rfl) rfl
theorem dX7_begin_18 : decode cX7_begin 18 = .ok (.putfield 25, 3) := q_putfield (bat_get dg_X7_begin_0_0 10 rfl rfl) rfl
theorem dX7_begin_21 : decode cX7_begin 21 = .ok (.aload_n 0, 1) := q_aload_n0 (bat_get dg_X7_begin_0_0 11 rfl rfl)
theorem dX7_begin_22 : decode cX7_begin 22 = .ok (.aload_n 1, 1) := q_aload_n1 (bat_get dg_X7_begin_0_0 12 rfl rfl)
theorem dX7_begin_23 : decode cX7_begin 23 = .ok (.getfield 38, 3) := q_getfield (bat_get dg_X7_begin_0_0 13 rfl rfl) rfl
theorem dX7_begin_26 : decode cX7_begin 26 = .ok (.putfield 28, 3) := q_putfield (bat_get dg_X7_begin_0_0 14 rfl rfl) rfl
theorem dX7_begin_29 : decode cX7_begin 29 = .ok (.aload_n 0, 1) := q_aload_n0 (bat_get dg_X7_begin_0_0 15 rfl rfl)
theorem dX7_begin_30 : decode cX7_begin 30 = .ok (.iconst 0, 1) := q_iconst0 (bat_get dg_X7_begin_0_0 16 rfl rfl)
theorem dX7_begin_31 : decode cX7_begin 31 = .ok (.putfield 31, 3) := q_putfield (bat_get dg_X7_begin_0_0 17 rfl rfl) rfl
theorem dX7_begin_34 : decode cX7_begin 34 = .ok (.aload_n 1, 1) := q_aload_n1 (bat_get dg_X7_begin_0_0 18 rfl rfl)
theorem dX7_begin_35 : decode cX7_begin 35 = .ok (.getfield 39, 3) := q_getfield (bat_get dg_X7_begin_0_0 19 rfl rfl) rfl
theorem dX7_begin_38 : decode cX7_begin 38 = .ok (.iconst 0, 1) := q_iconst0 (bat_get dg_X7_begin_0_0 20 rfl rfl)
theorem dX7_begin_39 : decode cX7_begin 39 = .ok (.aload_n 0, 1) := q_aload_n0 (bat_get dg_X7_begin_0_0 21 rfl rfl)
theorem dX7_begin_40 : decode cX7_begin 40 = .ok (.getfield 9, 3) := q_getfield (bat_get dg_X7_begin_0_0 22 rfl rfl) rfl
theorem dX7_begin_43 : decode cX7_begin 43 = .ok (.iconst 0, 1) := q_iconst0 (bat_get dg_X7_begin_0_0 23 rfl rfl)
theorem dX7_begin_44 : decode cX7_begin 44 = .ok (.bipush 9, 2) := q_bipush (bat_get dg_X7_begin_0_0 24 rfl rfl) rfl
theorem dX7_begin_46 : decode cX7_begin 46 = .ok (.invokestatic 40, 3) := q_invokestatic (bat_get dg_X7_begin_0_0 25 rfl rfl) rfl
theorem dX7_begin_49 : decode cX7_begin 49 = .ok (.aload_n 1, 1) := q_aload_n1 (bat_get dg_X7_begin_0_0 26 rfl rfl)
theorem dX7_begin_50 : decode cX7_begin 50 = .ok (.getfield 46, 3) := q_getfield (bat_get dg_X7_begin_0_0 27 rfl rfl) rfl
theorem dX7_begin_53 : decode cX7_begin 53 = .ok (.iconst 0, 1) := q_iconst0 (bat_get dg_X7_begin_0_0 28 rfl rfl)
theorem dX7_begin_54 : decode cX7_begin 54 = .ok (.aload_n 0, 1) := q_aload_n0 (bat_get dg_X7_begin_0_0 29 rfl rfl)
theorem dX7_begin_55 : decode cX7_begin 55 = .ok (.getfield 15, 3) := q_getfield (bat_get dg_X7_begin_0_0 30 rfl rfl) rfl
theorem dX7_begin_58 : decode cX7_begin 58 = .ok (.iconst 0, 1) := q_iconst0 (bat_get dg_X7_begin_0_0 31 rfl rfl)
theorem dX7_begin_59 : decode cX7_begin 59 = .ok (.bipush 9, 2) := q_bipush (bat_get dg_X7_begin_0_0 32 rfl rfl) rfl
theorem dX7_begin_61 : decode cX7_begin 61 = .ok (.invokestatic 40, 3) := q_invokestatic (bat_get dg_X7_begin_0_0 33 rfl rfl) rfl
theorem dX7_begin_64 : decode cX7_begin 64 = .ok (.return_, 1) := q_return_ (bat_get dg_X7_begin_0_0 34 rfl rfl)
theorem w_1_189 : (Cond.fieldLink RX7 34 "SameKeeper$Lock" "days" "I") ∈ wsL_law := sk_mem (ck_1 _ (List.mem_of_getElem? (i := 189) rfl)) rfl
theorem w_1_192 : (Cond.fieldLink RX7 37 "SameKeeper$Lock" "mood" "I") ∈ wsL_law := sk_mem (ck_1 _ (List.mem_of_getElem? (i := 192) rfl)) rfl
theorem w_1_195 : (Cond.fieldLink RX7 38 "SameKeeper$Lock" "mute" "I") ∈ wsL_law := sk_mem (ck_1 _ (List.mem_of_getElem? (i := 195) rfl)) rfl
theorem w_1_179 : (Cond.fieldLink RX7 39 "SameKeeper$Lock" "barge" "[I") ∈ wsL_law := sk_mem (ck_1 _ (List.mem_of_getElem? (i := 179) rfl)) rfl
theorem w_1_182 : (Cond.fieldLink RX7 46 "SameKeeper$Lock" "wet" "[I") ∈ wsL_law := sk_mem (ck_1 _ (List.mem_of_getElem? (i := 182) rfl)) rfl
theorem w_3_151 : (Cond.code yX7_begin cX7_begin 2 none) ∈ wsL_law := sk_mem (ck_3 _ (List.mem_of_getElem? (i := 151) rfl)) rfl
theorem dg_X7_isMute_0_0 : bqL cX7_isMute 0 [(0, [42]), (1, [180, 0, 28]), (4, [27]), (5, [122]), (6, [4]), (7, [126]), (8, [4]), (9, [160, 0, 7]), (16, [3]), (17, [172]), (12, [4]), (13, [167, 0, 4])] = true := by decide +kernel
theorem dX7_isMute_0 : decode cX7_isMute 0 = .ok (.aload_n 0, 1) := q_aload_n0 (bat_get dg_X7_isMute_0_0 0 rfl rfl)
theorem dX7_isMute_1 : decode cX7_isMute 1 = .ok (.getfield 28, 3) := q_getfield (bat_get dg_X7_isMute_0_0 1 rfl rfl) rfl
theorem dX7_isMute_4 : decode cX7_isMute 4 = .ok (.iload_n 1, 1) := q_iload_n1 (bat_get dg_X7_isMute_0_0 2 rfl rfl)
theorem dX7_isMute_5 : decode cX7_isMute 5 = .ok (.ishr, 1) := q_ishr (bat_get dg_X7_isMute_0_0 3 rfl rfl)
theorem dX7_isMute_6 : decode cX7_isMute 6 = .ok (.iconst 1, 1) := q_iconst1 (bat_get dg_X7_isMute_0_0 4 rfl rfl)
theorem dX7_isMute_7 : decode cX7_isMute 7 = .ok (.iand, 1) := q_iand (bat_get dg_X7_isMute_0_0 5 rfl rfl)
theorem dX7_isMute_8 : decode cX7_isMute 8 = .ok (.iconst 1, 1) := q_iconst1 (bat_get dg_X7_isMute_0_0 6 rfl rfl)
theorem dX7_isMute_9 : decode cX7_isMute 9 = .ok (.if_icmp .ne 7, 3) := q_if_icmp_ne (bat_get dg_X7_isMute_0_0 7 rfl rfl) rfl
theorem dX7_isMute_16 : decode cX7_isMute 16 = .ok (.iconst 0, 1) := q_iconst0 (bat_get dg_X7_isMute_0_0 8 rfl rfl)
theorem dX7_isMute_17 : decode cX7_isMute 17 = .ok (.ireturn, 1) := q_ireturn (bat_get dg_X7_isMute_0_0 9 rfl rfl)
theorem dX7_isMute_12 : decode cX7_isMute 12 = .ok (.iconst 1, 1) := q_iconst1 (bat_get dg_X7_isMute_0_0 10 rfl rfl)
theorem dX7_isMute_13 : decode cX7_isMute 13 = .ok (.goto 4, 3) := q_goto (bat_get dg_X7_isMute_0_0 11 rfl rfl) rfl
theorem w_3_197 : (Cond.code yX7_isMute cX7_isMute 2 (some .boolean)) ∈ wsL_law := sk_mem (ck_3 _ (List.mem_of_getElem? (i := 197) rfl)) rfl
set_option maxHeartbeats 4000000 in
set_option maxRecDepth 100000 in
theorem c_State_isMute (l : Launch) (D : va_G) (cI cJ cC cZ cS : ClassId) (h0 : Nat) (k1 : Nat) (k2 : Nat) (dy : Nat) (mo : Nat) (wk : Int32) (mu : Int32) (ke : Int32) (d : Int32)  : skM l yX7_isMute cX7_isMute 2 (some .boolean) 0 0 0 0 D (skT cI cJ cC cZ cS) [.ref h0, .int d] [ro_rrninii h0 7 k1 k2 dy wk mo mu ke] (skI D (skT cI cJ cC cZ cS) (fun (r : Int32) (u : va_W) => ∃ (b : Nat), b ≤ 1 ∧ r = nI b ∧ u = [ro_rrninii h0 7 k1 k2 dy wk mo mu ke])) := by
  refine skM_of pf_X7_isMute (Nat.le_of_ble_eq_true rfl) ?_
  intro p e s m below meth c A ls E hP hD hl
  refine skE_el E (fun hx hb hr hml hlocks hin hown hts hK hA => ?_)
  have hown : s.vm.findClass RX7 = some m.cls := hown
  have hS : va_S A s.heap s.heap [] := va_S.rf
  have hl : lv_has ls 2 [(0, .ref h0), (1, .int d)] := hl
  refine lv_aload_n hx hb dX7_isMute_0 rfl (lv_at hl 0 rfl) ?_
  refine sk_get (v := .int mu) (C := RX7) (T := TX7) (N := 7) hx hb hts inlX7 hown hK hP 0 rfl rfl 5 (Nat.le_of_ble_eq_true rfl) w_2_11 rfl dX7_isMute_1 ?_
  refine lv_iload_n hx hb dX7_isMute_4 rfl (lv_at hl 1 rfl) ?_
  refine lv_ishr hx hb dX7_isMute_5 ?_
  refine lv_topi (fun v_1 ev_1 => ?_)
  refine lv_iconst (v := 1) hx hb dX7_isMute_6 ic_1 ?_
  refine lv_iand hx hb dX7_isMute_7 ?_
  refine lv_topi (fun v_2 ev_2 => ?_)
  refine lv_iconst (v := 1) hx hb dX7_isMute_8 ic_1 ?_
  refine lv_icmp_ne (tgt := 16) hx hb dX7_isMute_9 (by decide) (fun c_3 => ?_) (fun c_3 => ?_)
  · skip
    refine lv_iconst (v := 0) hx hb dX7_isMute_16 ic_0 ?_
    exact sk_iret hx hb hr rfl hlocks hK hP hD hS (⟨0, by omega, rfl, rfl⟩) (Nat.le_of_ble_eq_true rfl) (Nat.le_of_ble_eq_true rfl) dX7_isMute_17
  · skip
    refine lv_iconst (v := 1) hx hb dX7_isMute_12 ic_1 ?_
    refine lv_goto (tgt := 17) hx hb dX7_isMute_13 (by decide) ?_
    exact sk_iret hx hb hr rfl hlocks hK hP hD hS (⟨1, by omega, rfl, rfl⟩) (Nat.le_of_ble_eq_true rfl) (Nat.le_of_ble_eq_true rfl) dX7_isMute_17
theorem dg_X7_amount_0_0 : bqL cX7_amount 0 [(0, [28]), (1, [154, 0, 12]), (13, [42]), (14, [180, 0, 15]), (17, [27]), (18, [46]), (19, [172]), (4, [42]), (5, [180, 0, 9]), (8, [27]), (9, [46]), (10, [167, 0, 9])] = true := by decide +kernel
theorem dX7_amount_0 : decode cX7_amount 0 = .ok (.iload_n 2, 1) := q_iload_n2 (bat_get dg_X7_amount_0_0 0 rfl rfl)
theorem dX7_amount_1 : decode cX7_amount 1 = .ok (.ifCond .ne 12, 3) := q_ifCond_ne (bat_get dg_X7_amount_0_0 1 rfl rfl) rfl
theorem dX7_amount_13 : decode cX7_amount 13 = .ok (.aload_n 0, 1) := q_aload_n0 (bat_get dg_X7_amount_0_0 2 rfl rfl)
theorem dX7_amount_14 : decode cX7_amount 14 = .ok (.getfield 15, 3) := q_getfield (bat_get dg_X7_amount_0_0 3 rfl rfl) rfl
theorem dX7_amount_17 : decode cX7_amount 17 = .ok (.iload_n 1, 1) := q_iload_n1 (bat_get dg_X7_amount_0_0 4 rfl rfl)
theorem dX7_amount_18 : decode cX7_amount 18 = .ok (.iaload, 1) := q_iaload (bat_get dg_X7_amount_0_0 5 rfl rfl)
theorem dX7_amount_19 : decode cX7_amount 19 = .ok (.ireturn, 1) := q_ireturn (bat_get dg_X7_amount_0_0 6 rfl rfl)
theorem dX7_amount_4 : decode cX7_amount 4 = .ok (.aload_n 0, 1) := q_aload_n0 (bat_get dg_X7_amount_0_0 7 rfl rfl)
theorem dX7_amount_5 : decode cX7_amount 5 = .ok (.getfield 9, 3) := q_getfield (bat_get dg_X7_amount_0_0 8 rfl rfl) rfl
theorem dX7_amount_8 : decode cX7_amount 8 = .ok (.iload_n 1, 1) := q_iload_n1 (bat_get dg_X7_amount_0_0 9 rfl rfl)
theorem dX7_amount_9 : decode cX7_amount 9 = .ok (.iaload, 1) := q_iaload (bat_get dg_X7_amount_0_0 10 rfl rfl)
theorem dX7_amount_10 : decode cX7_amount 10 = .ok (.goto 9, 3) := q_goto (bat_get dg_X7_amount_0_0 11 rfl rfl) rfl
theorem w_5_6 : (Cond.code yX7_amount cX7_amount 3 (some .int)) ∈ wsL_law := sk_mem (ck_5 _ (List.mem_of_getElem? (i := 6) rfl)) rfl
theorem dg_X7_put_0_0 : bqL cX7_put 0 [(0, [28]), (1, [154, 0, 13]), (14, [42]), (15, [180, 0, 15]), (18, [27]), (19, [29]), (20, [79]), (21, [177]), (4, [42]), (5, [180, 0, 9]), (8, [27]), (9, [29]), (10, [79]), (11, [167, 0, 10])] = true := by decide +kernel
theorem dX7_put_0 : decode cX7_put 0 = .ok (.iload_n 2, 1) := q_iload_n2 (bat_get dg_X7_put_0_0 0 rfl rfl)
theorem dX7_put_1 : decode cX7_put 1 = .ok (.ifCond .ne 13, 3) := q_ifCond_ne (bat_get dg_X7_put_0_0 1 rfl rfl) rfl
theorem dX7_put_14 : decode cX7_put 14 = .ok (.aload_n 0, 1) := q_aload_n0 (bat_get dg_X7_put_0_0 2 rfl rfl)
theorem dX7_put_15 : decode cX7_put 15 = .ok (.getfield 15, 3) := q_getfield (bat_get dg_X7_put_0_0 3 rfl rfl) rfl
theorem dX7_put_18 : decode cX7_put 18 = .ok (.iload_n 1, 1) := q_iload_n1 (bat_get dg_X7_put_0_0 4 rfl rfl)
theorem dX7_put_19 : decode cX7_put 19 = .ok (.iload_n 3, 1) := q_iload_n3 (bat_get dg_X7_put_0_0 5 rfl rfl)
theorem dX7_put_20 : decode cX7_put 20 = .ok (.iastore, 1) := q_iastore (bat_get dg_X7_put_0_0 6 rfl rfl)
theorem dX7_put_21 : decode cX7_put 21 = .ok (.return_, 1) := q_return_ (bat_get dg_X7_put_0_0 7 rfl rfl)
theorem dX7_put_4 : decode cX7_put 4 = .ok (.aload_n 0, 1) := q_aload_n0 (bat_get dg_X7_put_0_0 8 rfl rfl)
theorem dX7_put_5 : decode cX7_put 5 = .ok (.getfield 9, 3) := q_getfield (bat_get dg_X7_put_0_0 9 rfl rfl) rfl
theorem dX7_put_8 : decode cX7_put 8 = .ok (.iload_n 1, 1) := q_iload_n1 (bat_get dg_X7_put_0_0 10 rfl rfl)
theorem dX7_put_9 : decode cX7_put 9 = .ok (.iload_n 3, 1) := q_iload_n3 (bat_get dg_X7_put_0_0 11 rfl rfl)
theorem dX7_put_10 : decode cX7_put 10 = .ok (.iastore, 1) := q_iastore (bat_get dg_X7_put_0_0 12 rfl rfl)
theorem dX7_put_11 : decode cX7_put 11 = .ok (.goto 10, 3) := q_goto (bat_get dg_X7_put_0_0 13 rfl rfl) rfl
theorem w_4_151 : (Cond.code yX7_put cX7_put 4 none) ∈ wsL_law := sk_mem (ck_4 _ (List.mem_of_getElem? (i := 151) rfl)) rfl
theorem dg_J7_fill_53178_0_0 : bqL cJ7_fill_53178 0 [(0, [3]), (1, [61]), (2, [42]), (3, [190]), (4, [62]), (5, [28]), (6, [29]), (7, [162, 0, 13]), (20, [177]), (10, [42]), (11, [28]), (12, [27]), (13, [79]), (14, [132, 2, 1]), (17, [167, 255, 244])] = true := by decide +kernel
theorem dJ7_fill_53178_0 : decode cJ7_fill_53178 0 = .ok (.iconst 0, 1) := q_iconst0 (bat_get dg_J7_fill_53178_0_0 0 rfl rfl)
theorem dJ7_fill_53178_1 : decode cJ7_fill_53178 1 = .ok (.istore_n 2, 1) := q_istore_n2 (bat_get dg_J7_fill_53178_0_0 1 rfl rfl)
theorem dJ7_fill_53178_2 : decode cJ7_fill_53178 2 = .ok (.aload_n 0, 1) := q_aload_n0 (bat_get dg_J7_fill_53178_0_0 2 rfl rfl)
theorem dJ7_fill_53178_3 : decode cJ7_fill_53178 3 = .ok (.arraylength, 1) := q_arraylength (bat_get dg_J7_fill_53178_0_0 3 rfl rfl)
theorem dJ7_fill_53178_4 : decode cJ7_fill_53178 4 = .ok (.istore_n 3, 1) := q_istore_n3 (bat_get dg_J7_fill_53178_0_0 4 rfl rfl)
theorem dJ7_fill_53178_5 : decode cJ7_fill_53178 5 = .ok (.iload_n 2, 1) := q_iload_n2 (bat_get dg_J7_fill_53178_0_0 5 rfl rfl)
theorem dJ7_fill_53178_6 : decode cJ7_fill_53178 6 = .ok (.iload_n 3, 1) := q_iload_n3 (bat_get dg_J7_fill_53178_0_0 6 rfl rfl)
theorem dJ7_fill_53178_7 : decode cJ7_fill_53178 7 = .ok (.if_icmp .ge 13, 3) := q_if_icmp_ge (bat_get dg_J7_fill_53178_0_0 7 rfl rfl) rfl
theorem dJ7_fill_53178_20 : decode cJ7_fill_53178 20 = .ok (.return_, 1) := q_return_ (bat_get dg_J7_fill_53178_0_0 8 rfl rfl)
theorem dJ7_fill_53178_10 : decode cJ7_fill_53178 10 = .ok (.aload_n 0, 1) := q_aload_n0 (bat_get dg_J7_fill_53178_0_0 9 rfl rfl)
theorem dJ7_fill_53178_11 : decode cJ7_fill_53178 11 = .ok (.iload_n 2, 1) := q_iload_n2 (bat_get dg_J7_fill_53178_0_0 10 rfl rfl)
theorem dJ7_fill_53178_12 : decode cJ7_fill_53178 12 = .ok (.iload_n 1, 1) := q_iload_n1 (bat_get dg_J7_fill_53178_0_0 11 rfl rfl)
theorem dJ7_fill_53178_13 : decode cJ7_fill_53178 13 = .ok (.iastore, 1) := q_iastore (bat_get dg_J7_fill_53178_0_0 12 rfl rfl)
theorem dJ7_fill_53178_14 : decode cJ7_fill_53178 14 = .ok (.iinc 2 1, 3) := q_iinc (bat_get dg_J7_fill_53178_0_0 13 rfl rfl) rfl
theorem dJ7_fill_53178_17 : decode cJ7_fill_53178 17 = .ok (.goto (-12), 3) := q_goto (bat_get dg_J7_fill_53178_0_0 14 rfl rfl) rfl
theorem w_2_220 : (Cond.code yJ7_fill_53178 cJ7_fill_53178 4 none) ∈ wsL_law := sk_mem (ck_2 _ (List.mem_of_getElem? (i := 220) rfl)) rfl
set_option maxHeartbeats 4000000 in
set_option maxRecDepth 100000 in
theorem c_fill (l : Launch) (D : va_G) (cI cJ cC cZ cS : ClassId) (ar : Nat) (n : Nat) (f : Nat → Int32) (v : Int32) (hn : n < 2147483648) : skM l yJ7_fill_53178 cJ7_fill_53178 4 none 0 0 0 0 D (skT cI cJ cC cZ cS) [.ref ar, .int v] [ra_I ar cI n f] (skV D (skT cI cJ cC cZ cS) (fun (u : va_W) => ∃ (g : Nat → Int32), u = [ra_I ar cI n g])) := by
  refine skM_of pf_J7_fill_53178 (Nat.le_of_ble_eq_true rfl) ?_
  intro p e s m below meth c A ls E hP hD hl
  refine skE_el E (fun hx hb hr hml hlocks hin hown hts hK hA => ?_)
  have hown : s.vm.findClass RJ7 = some m.cls := hown
  have hS : va_S A s.heap s.heap [] := va_S.rf
  have hl : lv_has ls 4 [(0, .ref ar), (1, .int v)] := hl
  refine lv_iconst (v := 0) hx hb dJ7_fill_53178_0 ic_0 ?_
  refine lv_istore_n (lv' := [(2, .int 0), (0, .ref ar), (1, .int v)]) hx hb dJ7_fill_53178_1 rfl hl (by decide) rfl (fun ls hl => ?_)
  refine lv_aload_n hx hb dJ7_fill_53178_2 rfl (lv_at hl 1 rfl) ?_
  refine va_alen (v := nI n) hx hb hK.1 hP 0 0 rfl rfl rfl dJ7_fill_53178_3 ?_
  refine lv_istore_n (lv' := [(3, .int (nI n)), (2, .int 0), (0, .ref ar), (1, .int v)]) hx hb dJ7_fill_53178_4 rfl hl (by decide) rfl (fun ls hl => ?_)
  have lp_1 : ∀ (n_2 : Nat) (i : Nat) (fi : Nat → Int32) (H : Heap) (locs : List Loc) (ls : Array Slot), n - i < n_2 → (i ≤ n) → va_P D vwCl [ra_I ar cI n fi] H → va_D A [ra_I ar cI n fi] → va_S A s.heap H locs → lv_has ls 4 [(3, .int (nI n)), (2, .int (nI i)), (0, .ref ar), (1, .int v)] → W p l e { frames := 0, cells := 0, slots := 0, locals := 0 } s m ([.ref ar, .int v] : List Value).toArray below meth c H locs 0 0 (MQ below (skV D (skT cI cJ cC cZ cS) (fun (u : va_W) => ∃ (g : Nat → Int32), u = [ra_I ar cI n g]) A) ([.ref ar, .int v] : List Value).toArray s 0 0 A) (F0 m 5 ls []) := by
    intro n_2
    induction n_2 with
    | zero => intro i fi H locs ls hm; exact absurd hm (Nat.not_lt_zero _)
    | succ n_2 ih_lp_1 =>
      intro i fi H locs ls hm hi hP hD hS hl
      refine lv_iload_n hx hb dJ7_fill_53178_5 rfl (lv_at hl 1 rfl) ?_
      refine lv_iload_n hx hb dJ7_fill_53178_6 rfl (lv_at hl 0 rfl) ?_
      refine lv_icmp_ge (tgt := 20) hx hb dJ7_fill_53178_7 (by decide) (fun c_3 => ?_) (fun c_3 => ?_)
      · have c_3 : n ≤ i := (nle n i (by omega) (by omega)).mp c_3
        exact sk_vret hx hb hr hlocks hK hP hD hS (⟨fi, rfl⟩) (Nat.le_of_ble_eq_true rfl) (Nat.le_of_ble_eq_true rfl) dJ7_fill_53178_20
      · have c_3 : ¬ (n ≤ i) := fun h => c_3 ((nle n i (by omega) (by omega)).mpr h)
        refine lv_aload_n hx hb dJ7_fill_53178_10 rfl (lv_at hl 2 rfl) ?_
        refine lv_iload_n hx hb dJ7_fill_53178_11 rfl (lv_at hl 1 rfl) ?_
        refine lv_iload_n hx hb dJ7_fill_53178_12 rfl (lv_at hl 3 rfl) ?_
        refine sk_iastO (ws' := fun f_4 => [ra_I ar cI n f_4]) hx hb hK hP hD hS 0 0 rfl rfl (vin i n (by omega) (by omega)) (fun _ => rfl) dJ7_fill_53178_13 (fun f_4 H locs hP hD hS => ?_)
        refine lv_iinc (v := nI (i + 1)) (lv' := [(2, .int (nI (i + 1))), (3, .int (nI n)), (0, .ref ar), (1, .int v)]) hx hb dJ7_fill_53178_14 hl (k := 1) rfl (ninc i 1 (by decide)) (by decide) rfl (fun ls hl => ?_)
        refine lv_goto (tgt := 5) hx hb dJ7_fill_53178_17 (by decide) ?_
        exact ih_lp_1 (i + 1) f_4 _ _ _ (by omega) (by omega) hP hD hS (lv_sub hl [1, 0, 2, 3] rfl)
  exact lp_1 (n - 0 + 1) 0 f _ _ _ (Nat.lt_succ_self _) (by omega) hP hD hS (lv_sub hl [0, 1, 2, 3] rfl)
theorem dg_J7_fill_d0a16_0_0 : bqL cJ7_fill_d0a16 0 [(0, [3]), (1, [62]), (2, [42]), (3, [190]), (4, [54, 4]), (6, [29]), (7, [21, 4]), (9, [162, 0, 13]), (22, [177]), (12, [42]), (13, [29]), (14, [31]), (15, [80]), (16, [132, 3, 1]), (19, [167, 255, 243])] = true := by decide +kernel
theorem dJ7_fill_d0a16_0 : decode cJ7_fill_d0a16 0 = .ok (.iconst 0, 1) := q_iconst0 (bat_get dg_J7_fill_d0a16_0_0 0 rfl rfl)
theorem dJ7_fill_d0a16_1 : decode cJ7_fill_d0a16 1 = .ok (.istore_n 3, 1) := q_istore_n3 (bat_get dg_J7_fill_d0a16_0_0 1 rfl rfl)
theorem dJ7_fill_d0a16_2 : decode cJ7_fill_d0a16 2 = .ok (.aload_n 0, 1) := q_aload_n0 (bat_get dg_J7_fill_d0a16_0_0 2 rfl rfl)
theorem dJ7_fill_d0a16_3 : decode cJ7_fill_d0a16 3 = .ok (.arraylength, 1) := q_arraylength (bat_get dg_J7_fill_d0a16_0_0 3 rfl rfl)
theorem dJ7_fill_d0a16_4 : decode cJ7_fill_d0a16 4 = .ok (.istore 4, 2) := q_istore (bat_get dg_J7_fill_d0a16_0_0 4 rfl rfl)
theorem dJ7_fill_d0a16_6 : decode cJ7_fill_d0a16 6 = .ok (.iload_n 3, 1) := q_iload_n3 (bat_get dg_J7_fill_d0a16_0_0 5 rfl rfl)
theorem dJ7_fill_d0a16_7 : decode cJ7_fill_d0a16 7 = .ok (.iload 4, 2) := q_iload (bat_get dg_J7_fill_d0a16_0_0 6 rfl rfl)
theorem dJ7_fill_d0a16_9 : decode cJ7_fill_d0a16 9 = .ok (.if_icmp .ge 13, 3) := q_if_icmp_ge (bat_get dg_J7_fill_d0a16_0_0 7 rfl rfl) rfl
theorem dJ7_fill_d0a16_22 : decode cJ7_fill_d0a16 22 = .ok (.return_, 1) := q_return_ (bat_get dg_J7_fill_d0a16_0_0 8 rfl rfl)
theorem dJ7_fill_d0a16_12 : decode cJ7_fill_d0a16 12 = .ok (.aload_n 0, 1) := q_aload_n0 (bat_get dg_J7_fill_d0a16_0_0 9 rfl rfl)
theorem dJ7_fill_d0a16_13 : decode cJ7_fill_d0a16 13 = .ok (.iload_n 3, 1) := q_iload_n3 (bat_get dg_J7_fill_d0a16_0_0 10 rfl rfl)
theorem dJ7_fill_d0a16_14 : decode cJ7_fill_d0a16 14 = .ok (.lload_n 1, 1) := q_lload_n1 (bat_get dg_J7_fill_d0a16_0_0 11 rfl rfl)
theorem dJ7_fill_d0a16_15 : decode cJ7_fill_d0a16 15 = .ok (.lastore, 1) := q_lastore (bat_get dg_J7_fill_d0a16_0_0 12 rfl rfl)
theorem dJ7_fill_d0a16_16 : decode cJ7_fill_d0a16 16 = .ok (.iinc 3 1, 3) := q_iinc (bat_get dg_J7_fill_d0a16_0_0 13 rfl rfl) rfl
theorem dJ7_fill_d0a16_19 : decode cJ7_fill_d0a16 19 = .ok (.goto (-13), 3) := q_goto (bat_get dg_J7_fill_d0a16_0_0 14 rfl rfl) rfl
theorem w_4_87 : (Cond.code yJ7_fill_d0a16 cJ7_fill_d0a16 5 none) ∈ wsL_law := sk_mem (ck_4 _ (List.mem_of_getElem? (i := 87) rfl)) rfl
set_option maxHeartbeats 4000000 in
set_option maxRecDepth 100000 in
theorem c_fillL (l : Launch) (D : va_G) (cI cJ cC cZ cS : ClassId) (ar : Nat) (n : Nat) (f : Nat → Int64) (v : Int64) (hn : n < 2147483648) : skM l yJ7_fill_d0a16 cJ7_fill_d0a16 5 none 0 0 0 0 D (skT cI cJ cC cZ cS) [.ref ar, .long v] [ra_J ar cJ n f] (skV D (skT cI cJ cC cZ cS) (fun (u : va_W) => ∃ (g : Nat → Int64), u = [ra_J ar cJ n g])) := by
  refine skM_of pf_J7_fill_d0a16 (Nat.le_of_ble_eq_true rfl) ?_
  intro p e s m below meth c A ls E hP hD hl
  refine skE_el E (fun hx hb hr hml hlocks hin hown hts hK hA => ?_)
  have hown : s.vm.findClass RJ7 = some m.cls := hown
  have hS : va_S A s.heap s.heap [] := va_S.rf
  have hl : lv_has ls 5 [(0, .ref ar), (1, .long v)] := hl
  refine lv_iconst (v := 0) hx hb dJ7_fill_d0a16_0 ic_0 ?_
  refine lv_istore_n (lv' := [(3, .int 0), (0, .ref ar), (1, .long v)]) hx hb dJ7_fill_d0a16_1 rfl hl (by decide) rfl (fun ls hl => ?_)
  refine lv_aload_n hx hb dJ7_fill_d0a16_2 rfl (lv_at hl 1 rfl) ?_
  refine va_alen (v := nI n) hx hb hK.1 hP 0 1 rfl rfl rfl dJ7_fill_d0a16_3 ?_
  refine lv_istore (lv' := [(4, .int (nI n)), (3, .int 0), (0, .ref ar), (1, .long v)]) hx hb dJ7_fill_d0a16_4 hl (by decide) rfl (fun ls hl => ?_)
  have lp_1 : ∀ (n_2 : Nat) (i : Nat) (fi : Nat → Int64) (H : Heap) (locs : List Loc) (ls : Array Slot), n - i < n_2 → (i ≤ n) → va_P D vwCl [ra_J ar cJ n fi] H → va_D A [ra_J ar cJ n fi] → va_S A s.heap H locs → lv_has ls 5 [(4, .int (nI n)), (3, .int (nI i)), (0, .ref ar), (1, .long v)] → W p l e { frames := 0, cells := 0, slots := 0, locals := 0 } s m ([.ref ar, .long v] : List Value).toArray below meth c H locs 0 0 (MQ below (skV D (skT cI cJ cC cZ cS) (fun (u : va_W) => ∃ (g : Nat → Int64), u = [ra_J ar cJ n g]) A) ([.ref ar, .long v] : List Value).toArray s 0 0 A) (F0 m 6 ls []) := by
    intro n_2
    induction n_2 with
    | zero => intro i fi H locs ls hm; exact absurd hm (Nat.not_lt_zero _)
    | succ n_2 ih_lp_1 =>
      intro i fi H locs ls hm hi hP hD hS hl
      refine lv_iload_n hx hb dJ7_fill_d0a16_6 rfl (lv_at hl 1 rfl) ?_
      refine lv_iload hx hb dJ7_fill_d0a16_7 (lv_at hl 0 rfl) ?_
      refine lv_icmp_ge (tgt := 22) hx hb dJ7_fill_d0a16_9 (by decide) (fun c_3 => ?_) (fun c_3 => ?_)
      · have c_3 : n ≤ i := (nle n i (by omega) (by omega)).mp c_3
        exact sk_vret hx hb hr hlocks hK hP hD hS (⟨fi, rfl⟩) (Nat.le_of_ble_eq_true rfl) (Nat.le_of_ble_eq_true rfl) dJ7_fill_d0a16_22
      · have c_3 : ¬ (n ≤ i) := fun h => c_3 ((nle n i (by omega) (by omega)).mpr h)
        refine lv_aload_n hx hb dJ7_fill_d0a16_12 rfl (lv_at hl 2 rfl) ?_
        refine lv_iload_n hx hb dJ7_fill_d0a16_13 rfl (lv_at hl 1 rfl) ?_
        refine lv_lload_n hx hb dJ7_fill_d0a16_14 rfl (lv_at hl 3 rfl) ?_
        refine sk_lastO (ws' := fun f_4 => [ra_J ar cJ n f_4]) hx hb hK hP hD hS 0 1 rfl rfl (vin i n (by omega) (by omega)) (fun _ => rfl) dJ7_fill_d0a16_15 (fun f_4 H locs hP hD hS => ?_)
        refine lv_iinc (v := nI (i + 1)) (lv' := [(3, .int (nI (i + 1))), (4, .int (nI n)), (0, .ref ar), (1, .long v)]) hx hb dJ7_fill_d0a16_16 hl (k := 1) rfl (ninc i 1 (by decide)) (by decide) rfl (fun ls hl => ?_)
        refine lv_goto (tgt := 6) hx hb dJ7_fill_d0a16_19 (by decide) ?_
        exact ih_lp_1 (i + 1) f_4 _ _ _ (by omega) (by omega) hP hD hS (lv_sub hl [1, 0, 2, 3] rfl)
  exact lp_1 (n - 0 + 1) 0 f _ _ _ (Nat.lt_succ_self _) (by omega) hP hD hS (lv_sub hl [0, 1, 2, 3] rfl)
